set_option maxRecDepth 100000 in
theorem vw9_6 : List.all (List.take 40 (List.drop 40 (List.drop 40 (List.drop 40 (List.drop 40 (List.drop 40 (List.drop 40 (tables_1)))))))) (fun c => c.before start1.args0 vs_A) = true := by decide +kernel
set_option maxRecDepth 100000 in
theorem vw9_7 : List.all (List.take 40 (List.drop 40 (List.drop 40 (List.drop 40 (List.drop 40 (List.drop 40 (List.drop 40 (List.drop 40 (tables_1))))))))) (fun c => c.before start1.args0 vs_A) = true := by decide +kernel
set_option maxRecDepth 100000 in
theorem vw9_8 : List.all (List.take 40 (List.drop 40 (List.drop 40 (List.drop 40 (List.drop 40 (List.drop 40 (List.drop 40 (List.drop 40 (List.drop 40 (tables_1)))))))))) (fun c => c.before start1.args0 vs_A) = true := by decide +kernel
set_option maxRecDepth 100000 in
theorem vw9_9 : List.all (List.take 40 (List.drop 40 (List.drop 40 (List.drop 40 (List.drop 40 (List.drop 40 (List.drop 40 (List.drop 40 (List.drop 40 (List.drop 40 (tables_1))))))))))) (fun c => c.before start1.args0 vs_A) = true := by decide +kernel
set_option maxRecDepth 100000 in
theorem vw9_10 : List.all (List.take 40 (List.drop 40 (List.drop 40 (List.drop 40 (List.drop 40 (List.drop 40 (List.drop 40 (List.drop 40 (List.drop 40 (List.drop 40 (List.drop 40 (tables_1)))))))))))) (fun c => c.before start1.args0 vs_A) = true := by decide +kernel
set_option maxRecDepth 100000 in
theorem vw9_11 : List.all (List.take 40 (List.drop 40 (List.drop 40 (List.drop 40 (List.drop 40 (List.drop 40 (List.drop 40 (List.drop 40 (List.drop 40 (List.drop 40 (List.drop 40 (List.drop 40 (tables_1))))))))))))) (fun c => c.before start1.args0 vs_A) = true := by decide +kernel
