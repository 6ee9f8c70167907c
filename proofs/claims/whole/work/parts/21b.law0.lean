set_option maxRecDepth 100000 in
theorem vx9_0 : ve_xk vs_M 0 45 554 vy_0 vz_0 vz_1 = true := by decide +kernel
set_option maxRecDepth 100000 in
theorem vx9_1 : ve_xk vs_M 0 45 540 vy_1 vz_1 vz_2 = true := by decide +kernel
set_option maxRecDepth 100000 in
theorem vx9_2 : ve_xk vs_M 0 45 540 vy_2 vz_2 vz_3 = true := by decide +kernel
set_option maxRecDepth 100000 in
theorem vx9_3 : ve_xk vs_M 0 45 432 vy_3 vz_3 vz_4 = true := by decide +kernel
set_option maxRecDepth 100000 in
theorem vx9_4 : ve_xk vs_M 0 45 20 vy_4 vz_4 vz_5 = true := by decide +kernel
