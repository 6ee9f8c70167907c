theorem vs_tables : List.all tables_1 (fun c => c.before start1.args0 vs_A) = true := (cut_step _ 40 _ vw9_0 (cut_step _ 40 _ vw9_1 (cut_step _ 40 _ vw9_2 (cut_step _ 40 _ vw9_3 (cut_step _ 40 _ vw9_4 (cut_step _ 40 _ vw9_5 (cut_step _ 40 _ vw9_6 (cut_step _ 40 _ vw9_7 (cut_step _ 40 _ vw9_8 (cut_step _ 40 _ vw9_9 (cut_step _ 40 _ vw9_10 (cut_step _ 40 _ vw9_11 (cut_step _ 40 _ vw9_12 (cut_step _ 40 _ vw9_13 (cut_step _ 40 _ vw9_14 (cut_step _ 40 _ vw9_15 (cut_step _ 40 _ vw9_16 (cut_step _ 40 _ vw9_17 (cut_step _ 40 _ vw9_18 (cut_step _ 40 _ vw9_19 (cut_step _ 40 _ vw9_20 (cut_step _ 40 _ vw9_21 (cut_step _ 40 _ vw9_22 (cut_step _ 40 _ vw9_23 (cut_step _ 40 _ vw9_24 (cut_step _ 40 _ vw9_25 (cut_step _ 40 _ vw9_26 (cut_step _ 40 _ vw9_27 (cut_step _ 40 _ vw9_28 (cut_step _ 40 _ vw9_29 (cut_step _ 40 _ vw9_30 (cut_step _ 40 _ vw9_31 (cut_step _ 40 _ vw9_32 (cut_step _ 40 _ vw9_33 (cut_step _ 40 _ vw9_34 (cut_step _ 40 _ vw9_35 (cut_step _ 40 _ vw9_36 (cut_step _ 40 _ vw9_37 (cut_step _ 40 _ vw9_38 (cut_step _ 40 _ vw9_39 (cut_step _ 40 _ vw9_40 (cut_step _ 40 _ vw9_41 (cut_step _ 40 _ vw9_42 vw9_43)))))))))))))))))))))))))))))))))))))))))))
set_option maxRecDepth 100000 in
theorem vs_lawcode : (Cond.code x code maxLocals ret).before start1.args0 vs_A = true := by decide +kernel
theorem vs_words : ∀ c ∈ (Cond.code x code maxLocals ret :: tables_1), c.before start1.args0 vs_A = true := by
  intro c hc
  rcases List.mem_cons.mp hc with rfl | h
  · exact vs_lawcode
  · exact List.all_eq_true.mp vs_tables c h
