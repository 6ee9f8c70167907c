set_option maxRecDepth 100000 in
theorem vx9_11 : ve_xk vs_M 0 45 880 vy_11 vz_11 vz_12 = true := by decide +kernel
set_option maxRecDepth 100000 in
theorem vx9_12 : ve_xk vs_M 0 45 880 vy_12 vz_12 vz_13 = true := by decide +kernel
set_option maxRecDepth 100000 in
theorem vx9_13 : ve_xk vs_M 0 45 880 vy_13 vz_13 vz_14 = true := by decide +kernel
