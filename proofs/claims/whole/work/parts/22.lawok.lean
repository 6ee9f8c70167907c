set_option maxRecDepth 100000 in
theorem vg_0 (l : Launch) : ve_Go vs_A l 59 (vs_M 0) 45 vz_0 vz_1 := ve_xk_ok (vs_ok l) (fun pc => vp_0 l pc) (ve_hi_some (vo_0 l) (ve_hi_some (vo_1 l) (ve_hi_some (vo_2 l) (ve_hi_some (vo_3 l) (ve_hi_some (vo_9 l) (ve_hi_some (vo_10 l) (ve_hi_some (vo_11 l) (ve_hi_some (vo_15 l) (ve_hi_some (vo_10 l) (ve_hi_some (vo_16 l) (ve_hi_some (vo_21 l) (ve_hi_some (vo_10 l) (ve_hi_some (vo_22 l) (ve_hi_some (vo_27 l) (ve_hi_some (vo_10 l) (ve_hi_some (vo_28 l) (ve_hi_some (vo_33 l) (ve_hi_some (vo_10 l) (ve_hi_some (vo_34 l) (ve_hi_some (vo_39 l) (ve_hi_some (vo_10 l) (ve_hi_some (vo_40 l) (ve_hi_some (vo_46 l) (ve_hi_some (vo_10 l) (ve_hi_some (vo_47 l) (ve_hi_some (vo_53 l) (ve_hi_some (vo_10 l) (ve_hi_some (vo_54 l) (ve_hi_some (vo_60 l) (ve_hi_some (vo_10 l) (ve_hi_some (vo_61 l) (ve_hi_some (vo_67 l) (ve_hi_some (vo_10 l) (ve_hi_nil)))))))))))))))))))))))))))))))))) vx9_0
set_option maxRecDepth 100000 in
theorem vg_1 (l : Launch) : ve_Go vs_A l 59 (vs_M 0) 45 vz_1 vz_2 := ve_xk_ok (vs_ok l) (fun pc => vp_0 l pc) (ve_hi_some (vo_68 l) (ve_hi_some (vo_74 l) (ve_hi_some (vo_10 l) (ve_hi_some (vo_75 l) (ve_hi_some (vo_81 l) (ve_hi_some (vo_10 l) (ve_hi_some (vo_82 l) (ve_hi_some (vo_88 l) (ve_hi_some (vo_10 l) (ve_hi_some (vo_89 l) (ve_hi_some (vo_95 l) (ve_hi_some (vo_10 l) (ve_hi_some (vo_96 l) (ve_hi_some (vo_102 l) (ve_hi_some (vo_10 l) (ve_hi_some (vo_103 l) (ve_hi_some (vo_110 l) (ve_hi_some (vo_10 l) (ve_hi_some (vo_111 l) (ve_hi_some (vo_118 l) (ve_hi_some (vo_10 l) (ve_hi_some (vo_119 l) (ve_hi_some (vo_126 l) (ve_hi_some (vo_10 l) (ve_hi_some (vo_127 l) (ve_hi_some (vo_134 l) (ve_hi_some (vo_10 l) (ve_hi_some (vo_135 l) (ve_hi_some (vo_142 l) (ve_hi_some (vo_10 l) (ve_hi_nil))))))))))))))))))))))))))))))) vx9_1
set_option maxRecDepth 100000 in
theorem vg_2 (l : Launch) : ve_Go vs_A l 59 (vs_M 0) 45 vz_2 vz_3 := ve_xk_ok (vs_ok l) (fun pc => vp_0 l pc) (ve_hi_some (vo_143 l) (ve_hi_some (vo_150 l) (ve_hi_some (vo_10 l) (ve_hi_some (vo_151 l) (ve_hi_some (vo_158 l) (ve_hi_some (vo_10 l) (ve_hi_some (vo_159 l) (ve_hi_some (vo_166 l) (ve_hi_some (vo_10 l) (ve_hi_some (vo_167 l) (ve_hi_some (vo_174 l) (ve_hi_some (vo_10 l) (ve_hi_some (vo_175 l) (ve_hi_some (vo_182 l) (ve_hi_some (vo_10 l) (ve_hi_some (vo_183 l) (ve_hi_some (vo_190 l) (ve_hi_some (vo_10 l) (ve_hi_some (vo_191 l) (ve_hi_some (vo_198 l) (ve_hi_some (vo_10 l) (ve_hi_some (vo_199 l) (ve_hi_some (vo_206 l) (ve_hi_some (vo_10 l) (ve_hi_some (vo_207 l) (ve_hi_some (vo_214 l) (ve_hi_some (vo_10 l) (ve_hi_some (vo_215 l) (ve_hi_some (vo_218 l) (ve_hi_some (vo_10 l) (ve_hi_nil))))))))))))))))))))))))))))))) vx9_2
set_option maxRecDepth 100000 in
theorem vg_3 (l : Launch) : ve_Go vs_A l 59 (vs_M 0) 45 vz_3 vz_4 := ve_xk_ok (vs_ok l) (fun pc => vp_0 l pc) (ve_hi_some (vo_219 l) (ve_hi_some (vo_222 l) (ve_hi_some (vo_10 l) (ve_hi_some (vo_223 l) (ve_hi_some (vo_226 l) (ve_hi_some (vo_10 l) (ve_hi_some (vo_227 l) (ve_hi_some (vo_230 l) (ve_hi_some (vo_10 l) (ve_hi_some (vo_231 l) (ve_hi_some (vo_234 l) (ve_hi_some (vo_10 l) (ve_hi_some (vo_235 l) (ve_hi_some (vo_238 l) (ve_hi_some (vo_10 l) (ve_hi_some (vo_239 l) (ve_hi_some (vo_242 l) (ve_hi_some (vo_10 l) (ve_hi_some (vo_243 l) (ve_hi_some (vo_246 l) (ve_hi_some (vo_10 l) (ve_hi_some (vo_247 l) (ve_hi_some (vo_250 l) (ve_hi_some (vo_10 l) (ve_hi_nil))))))))))))))))))))))))) vx9_3
set_option maxRecDepth 100000 in
theorem vg_4 (l : Launch) : ve_Go vs_A l 59 (vs_M 0) 45 vz_4 vz_5 := ve_xk_ok (vs_ok l) (fun pc => vp_0 l pc) (ve_hi_some (vo_316 l) (ve_hi_some (vo_439 l) (ve_hi_nil))) vx9_4
set_option maxRecDepth 100000 in
theorem vg_5 (l : Launch) : ve_Go vs_A l 59 (vs_M 0) 45 vz_5 vz_6 := ve_xk_ok (vs_ok l) (fun pc => vp_0 l pc) (ve_hi_rep (ve_hi_some (vo_445 l) (ve_hi_some (vo_439 l) (ve_hi_nil))) 44) vx9_5
set_option maxRecDepth 100000 in
theorem vg_6 (l : Launch) : ve_Go vs_A l 59 (vs_M 0) 45 vz_6 vz_7 := ve_xk_ok (vs_ok l) (fun pc => vp_0 l pc) (ve_hi_rep (ve_hi_some (vo_445 l) (ve_hi_some (vo_439 l) (ve_hi_nil))) 44) vx9_6
set_option maxRecDepth 100000 in
theorem vg_7 (l : Launch) : ve_Go vs_A l 59 (vs_M 0) 45 vz_7 vz_8 := ve_xk_ok (vs_ok l) (fun pc => vp_0 l pc) (ve_hi_rep (ve_hi_some (vo_445 l) (ve_hi_some (vo_439 l) (ve_hi_nil))) 44) vx9_7
set_option maxRecDepth 100000 in
theorem vg_8 (l : Launch) : ve_Go vs_A l 59 (vs_M 0) 45 vz_8 vz_9 := ve_xk_ok (vs_ok l) (fun pc => vp_0 l pc) (ve_hi_rep (ve_hi_some (vo_445 l) (ve_hi_some (vo_439 l) (ve_hi_nil))) 44) vx9_8
set_option maxRecDepth 100000 in
theorem vg_9 (l : Launch) : ve_Go vs_A l 59 (vs_M 0) 45 vz_9 vz_10 := ve_xk_ok (vs_ok l) (fun pc => vp_0 l pc) (ve_hi_rep (ve_hi_some (vo_445 l) (ve_hi_some (vo_439 l) (ve_hi_nil))) 44) vx9_9
set_option maxRecDepth 100000 in
theorem vg_10 (l : Launch) : ve_Go vs_A l 59 (vs_M 0) 45 vz_10 vz_11 := ve_xk_ok (vs_ok l) (fun pc => vp_0 l pc) (ve_hi_rep (ve_hi_some (vo_445 l) (ve_hi_some (vo_439 l) (ve_hi_nil))) 44) vx9_10
set_option maxRecDepth 100000 in
theorem vg_11 (l : Launch) : ve_Go vs_A l 59 (vs_M 0) 45 vz_11 vz_12 := ve_xk_ok (vs_ok l) (fun pc => vp_0 l pc) (ve_hi_rep (ve_hi_some (vo_445 l) (ve_hi_some (vo_439 l) (ve_hi_nil))) 44) vx9_11
set_option maxRecDepth 100000 in
theorem vg_12 (l : Launch) : ve_Go vs_A l 59 (vs_M 0) 45 vz_12 vz_13 := ve_xk_ok (vs_ok l) (fun pc => vp_0 l pc) (ve_hi_rep (ve_hi_some (vo_445 l) (ve_hi_some (vo_439 l) (ve_hi_nil))) 44) vx9_12
set_option maxRecDepth 100000 in
theorem vg_13 (l : Launch) : ve_Go vs_A l 59 (vs_M 0) 45 vz_13 vz_14 := ve_xk_ok (vs_ok l) (fun pc => vp_0 l pc) (ve_hi_rep (ve_hi_some (vo_445 l) (ve_hi_some (vo_439 l) (ve_hi_nil))) 44) vx9_13
set_option maxRecDepth 100000 in
theorem vg_14 (l : Launch) : ve_Go vs_A l 59 (vs_M 0) 45 vz_14 vz_15 := ve_xk_ok (vs_ok l) (fun pc => vp_0 l pc) (ve_hi_rep (ve_hi_some (vo_445 l) (ve_hi_some (vo_439 l) (ve_hi_nil))) 44) vx9_14
set_option maxRecDepth 100000 in
theorem vg_15 (l : Launch) : ve_Go vs_A l 59 (vs_M 0) 45 vz_15 vz_16 := ve_xk_ok (vs_ok l) (fun pc => vp_0 l pc) (ve_hi_rep (ve_hi_some (vo_445 l) (ve_hi_some (vo_439 l) (ve_hi_nil))) 33) vx9_15
theorem vg_all (l : Launch) : ve_Go vs_A l 59 (vs_M 0) 45 vz_0 vz_16 := ve_Go.tr (ve_Go.tr (ve_Go.tr (ve_Go.tr (ve_Go.tr (ve_Go.tr (ve_Go.tr (ve_Go.tr (ve_Go.tr (ve_Go.tr (ve_Go.tr (ve_Go.tr (ve_Go.tr (ve_Go.tr (ve_Go.tr (vg_0 l) (vg_1 l)) (vg_2 l)) (vg_3 l)) (vg_4 l)) (vg_5 l)) (vg_6 l)) (vg_7 l)) (vg_8 l)) (vg_9 l)) (vg_10 l)) (vg_11 l)) (vg_12 l)) (vg_13 l)) (vg_14 l)) (vg_15 l)
set_option maxRecDepth 100000 in
theorem vg_met (l : Launch) : ∀ η : Nat → Nat, ve_In η → ve_Gl 59 η → Met l x [Cond.code x code maxLocals ret] { frames := 46, cells := 672887, slots := 8054693, locals := 2944 }
      (fun a U => a = (([.ref 0] : List Value).map (ve_v η)).toArray ∧ vs_A.WarmedH U.vm ∧ ve_Fr η 59 U.heap ∧ ve_Rl η ((0, (51, vs_X)) :: vs_G) U.heap)
      (fun _ st o t => o = .returned ((some (Value.int 1)).map (ve_v η)) ∧ t.heap.size = st.heap.size + 672887 ∧ ve_sum t.heap = ve_sum st.heap + 8054693) 672887 8054693 (fun _ => True) :=
  ve_met (vs_ok l) vs_pl (mi := 0) (d := 45) (n := 20) (args := [.ref 0]) (h := (0, (51, vs_X)) :: vs_G) (N := 59) (b := vz_16) (v := some (.int 1)) (fun pc => vp_0 l pc) (by decide) (vg_all l) vx9_e
