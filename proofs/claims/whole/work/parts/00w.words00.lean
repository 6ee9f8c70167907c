set_option maxRecDepth 100000 in
theorem vw9_0 : List.all (List.take 40 (tables_1)) (fun c => c.before start1.args0 vs_A) = true := by decide +kernel
set_option maxRecDepth 100000 in
theorem vw9_1 : List.all (List.take 40 (List.drop 40 (tables_1))) (fun c => c.before start1.args0 vs_A) = true := by decide +kernel
set_option maxRecDepth 100000 in
theorem vw9_2 : List.all (List.take 40 (List.drop 40 (List.drop 40 (tables_1)))) (fun c => c.before start1.args0 vs_A) = true := by decide +kernel
set_option maxRecDepth 100000 in
theorem vw9_3 : List.all (List.take 40 (List.drop 40 (List.drop 40 (List.drop 40 (tables_1))))) (fun c => c.before start1.args0 vs_A) = true := by decide +kernel
set_option maxRecDepth 100000 in
theorem vw9_4 : List.all (List.take 40 (List.drop 40 (List.drop 40 (List.drop 40 (List.drop 40 (tables_1)))))) (fun c => c.before start1.args0 vs_A) = true := by decide +kernel
set_option maxRecDepth 100000 in
theorem vw9_5 : List.all (List.take 40 (List.drop 40 (List.drop 40 (List.drop 40 (List.drop 40 (List.drop 40 (tables_1))))))) (fun c => c.before start1.args0 vs_A) = true := by decide +kernel
