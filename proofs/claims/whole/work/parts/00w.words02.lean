set_option maxRecDepth 100000 in
theorem vw9_12 : List.all (List.take 40 (List.drop 40 (List.drop 40 (List.drop 40 (List.drop 40 (List.drop 40 (List.drop 40 (List.drop 40 (List.drop 40 (List.drop 40 (List.drop 40 (List.drop 40 (List.drop 40 (tables_1)))))))))))))) (fun c => c.before start1.args0 vs_A) = true := by decide +kernel
set_option maxRecDepth 100000 in
theorem vw9_13 : List.all (List.take 40 (List.drop 40 (List.drop 40 (List.drop 40 (List.drop 40 (List.drop 40 (List.drop 40 (List.drop 40 (List.drop 40 (List.drop 40 (List.drop 40 (List.drop 40 (List.drop 40 (List.drop 40 (tables_1))))))))))))))) (fun c => c.before start1.args0 vs_A) = true := by decide +kernel
set_option maxRecDepth 100000 in
theorem vw9_14 : List.all (List.take 40 (List.drop 40 (List.drop 40 (List.drop 40 (List.drop 40 (List.drop 40 (List.drop 40 (List.drop 40 (List.drop 40 (List.drop 40 (List.drop 40 (List.drop 40 (List.drop 40 (List.drop 40 (List.drop 40 (tables_1)))))))))))))))) (fun c => c.before start1.args0 vs_A) = true := by decide +kernel
set_option maxRecDepth 100000 in
theorem vw9_15 : List.all (List.take 40 (List.drop 40 (List.drop 40 (List.drop 40 (List.drop 40 (List.drop 40 (List.drop 40 (List.drop 40 (List.drop 40 (List.drop 40 (List.drop 40 (List.drop 40 (List.drop 40 (List.drop 40 (List.drop 40 (List.drop 40 (tables_1))))))))))))))))) (fun c => c.before start1.args0 vs_A) = true := by decide +kernel
set_option maxRecDepth 100000 in
theorem vw9_16 : List.all (List.take 40 (List.drop 40 (List.drop 40 (List.drop 40 (List.drop 40 (List.drop 40 (List.drop 40 (List.drop 40 (List.drop 40 (List.drop 40 (List.drop 40 (List.drop 40 (List.drop 40 (List.drop 40 (List.drop 40 (List.drop 40 (List.drop 40 (tables_1)))))))))))))))))) (fun c => c.before start1.args0 vs_A) = true := by decide +kernel
set_option maxRecDepth 100000 in
theorem vw9_17 : List.all (List.take 40 (List.drop 40 (List.drop 40 (List.drop 40 (List.drop 40 (List.drop 40 (List.drop 40 (List.drop 40 (List.drop 40 (List.drop 40 (List.drop 40 (List.drop 40 (List.drop 40 (List.drop 40 (List.drop 40 (List.drop 40 (List.drop 40 (List.drop 40 (tables_1))))))))))))))))))) (fun c => c.before start1.args0 vs_A) = true := by decide +kernel
