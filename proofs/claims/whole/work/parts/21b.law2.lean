set_option maxRecDepth 100000 in
theorem vx9_8 : ve_xk vs_M 0 45 880 vy_8 vz_8 vz_9 = true := by decide +kernel
set_option maxRecDepth 100000 in
theorem vx9_9 : ve_xk vs_M 0 45 880 vy_9 vz_9 vz_10 = true := by decide +kernel
set_option maxRecDepth 100000 in
theorem vx9_10 : ve_xk vs_M 0 45 880 vy_10 vz_10 vz_11 = true := by decide +kernel
