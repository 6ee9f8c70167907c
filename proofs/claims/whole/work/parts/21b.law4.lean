set_option maxRecDepth 100000 in
theorem vx9_14 : ve_xk vs_M 0 45 880 vy_14 vz_14 vz_15 = true := by decide +kernel
set_option maxRecDepth 100000 in
theorem vx9_15 : ve_xk vs_M 0 45 660 vy_15 vz_15 vz_16 = true := by decide +kernel
set_option maxRecDepth 100000 in
theorem vx9_e : (ve_lp (vs_M 0).2.2.2.2.1 45 (ve_run vs_M 20000 45) 20 vz_16.1 ([], vz_16.2)).any (fun r => decide (r.1 = some (.int 1)) && (r.2.2.2.2.2.2.1.beq vz_16.2.2.2.2.2.1 && r.2.2.2.2.2.2.2.beq vz_16.2.2.2.2.2.2)) = true := by decide +kernel
