set_option maxRecDepth 100000 in
theorem vx9_5 : ve_xk vs_M 0 45 880 vy_5 vz_5 vz_6 = true := by decide +kernel
set_option maxRecDepth 100000 in
theorem vx9_6 : ve_xk vs_M 0 45 880 vy_6 vz_6 vz_7 = true := by decide +kernel
set_option maxRecDepth 100000 in
theorem vx9_7 : ve_xk vs_M 0 45 880 vy_7 vz_7 vz_8 = true := by decide +kernel
