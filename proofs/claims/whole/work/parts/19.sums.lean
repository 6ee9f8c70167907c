set_option maxRecDepth 100000 in
theorem vo_0 (l : Launch) : ve_SO vs_A l 59 vs_M vm_0 := ve_ck_ok (vs_ok l) (ve_hi_nil) vk_0
set_option maxRecDepth 100000 in
theorem vo_1 (l : Launch) : ve_SO vs_A l 59 vs_M vm_1 := ve_ck_ok (vs_ok l) (ve_hi_nil) vk_1
set_option maxRecDepth 100000 in
theorem vo_2 (l : Launch) : ve_SO vs_A l 59 vs_M vm_2 := ve_ck_ok (vs_ok l) (ve_hi_nil) vk_2
set_option maxRecDepth 100000 in
theorem vo_3 (l : Launch) : ve_SO vs_A l 59 vs_M vm_3 := ve_ck_ok (vs_ok l) (ve_hi_nil) vk_3
set_option maxRecDepth 100000 in
theorem vo_4 (l : Launch) : ve_SO vs_A l 59 vs_M vm_4 := ve_ck_ok (vs_ok l) (ve_hi_nil) vk_4
set_option maxRecDepth 100000 in
theorem vo_5 (l : Launch) : ve_SO vs_A l 59 vs_M vm_5 := ve_ck_ok (vs_ok l) (ve_hi_none (ve_hi_none (ve_hi_none (ve_hi_none (ve_hi_none (ve_hi_none (ve_hi_none (ve_hi_some (vo_4 l) (ve_hi_nil))))))))) vk_5
set_option maxRecDepth 100000 in
theorem vo_6 (l : Launch) : ve_SO vs_A l 59 vs_M vm_6 := ve_ck_ok (vs_ok l) (ve_hi_nil) vk_6
set_option maxRecDepth 100000 in
theorem vo_7 (l : Launch) : ve_SO vs_A l 59 vs_M vm_7 := ve_ck_ok (vs_ok l) (ve_hi_nil) vk_7
set_option maxRecDepth 100000 in
theorem vo_8 (l : Launch) : ve_SO vs_A l 59 vs_M vm_8 := ve_ck_ok (vs_ok l) (ve_hi_none (ve_hi_none (ve_hi_some (vo_5 l) (ve_hi_some (vo_6 l) (ve_hi_some (vo_7 l) (ve_hi_nil)))))) vk_8
set_option maxRecDepth 100000 in
theorem vo_9 (l : Launch) : ve_SO vs_A l 59 vs_M vm_9 := ve_ck_ok (vs_ok l) (ve_hi_none (ve_hi_none (ve_hi_none (ve_hi_none (ve_hi_none (ve_hi_none (ve_hi_none (ve_hi_none (ve_hi_some (vo_8 l) (ve_hi_none (ve_hi_none (ve_hi_none (ve_hi_none (ve_hi_none (ve_hi_some (vo_8 l) (ve_hi_nil)))))))))))))))) vk_9
set_option maxRecDepth 100000 in
theorem vo_10 (l : Launch) : ve_SO vs_A l 59 vs_M vm_10 := ve_ck_ok (vs_ok l) (ve_hi_nil) vk_10
set_option maxRecDepth 100000 in
theorem vo_11 (l : Launch) : ve_SO vs_A l 59 vs_M vm_11 := ve_ck_ok (vs_ok l) (ve_hi_nil) vk_11
set_option maxRecDepth 100000 in
theorem vo_12 (l : Launch) : ve_SO vs_A l 59 vs_M vm_12 := ve_ck_ok (vs_ok l) (ve_hi_nil) vk_12
set_option maxRecDepth 100000 in
theorem vo_13 (l : Launch) : ve_SO vs_A l 59 vs_M vm_13 := ve_ck_ok (vs_ok l) (ve_hi_nil) vk_13
set_option maxRecDepth 100000 in
theorem vo_14 (l : Launch) : ve_SO vs_A l 59 vs_M vm_14 := ve_ck_ok (vs_ok l) (ve_hi_none (ve_hi_none (ve_hi_some (vo_8 l) (ve_hi_some (vo_12 l) (ve_hi_some (vo_13 l) (ve_hi_nil)))))) vk_14
set_option maxRecDepth 100000 in
theorem vo_15 (l : Launch) : ve_SO vs_A l 59 vs_M vm_15 := ve_ck_ok (vs_ok l) (ve_hi_none (ve_hi_none (ve_hi_none (ve_hi_none (ve_hi_none (ve_hi_none (ve_hi_none (ve_hi_none (ve_hi_some (vo_14 l) (ve_hi_none (ve_hi_none (ve_hi_none (ve_hi_none (ve_hi_none (ve_hi_some (vo_14 l) (ve_hi_nil)))))))))))))))) vk_15
set_option maxRecDepth 100000 in
theorem vo_16 (l : Launch) : ve_SO vs_A l 59 vs_M vm_16 := ve_ck_ok (vs_ok l) (ve_hi_nil) vk_16
set_option maxRecDepth 100000 in
theorem vo_17 (l : Launch) : ve_SO vs_A l 59 vs_M vm_17 := ve_ck_ok (vs_ok l) (ve_hi_nil) vk_17
set_option maxRecDepth 100000 in
theorem vo_18 (l : Launch) : ve_SO vs_A l 59 vs_M vm_18 := ve_ck_ok (vs_ok l) (ve_hi_nil) vk_18
set_option maxRecDepth 100000 in
theorem vo_19 (l : Launch) : ve_SO vs_A l 59 vs_M vm_19 := ve_ck_ok (vs_ok l) (ve_hi_none (ve_hi_none (ve_hi_some (vo_14 l) (ve_hi_some (vo_17 l) (ve_hi_some (vo_18 l) (ve_hi_nil)))))) vk_19
set_option maxRecDepth 100000 in
theorem vo_20 (l : Launch) : ve_SO vs_A l 59 vs_M vm_20 := ve_ck_ok (vs_ok l) (ve_hi_some (vo_19 l) (ve_hi_none (ve_hi_none (ve_hi_none (ve_hi_none (ve_hi_none (ve_hi_some (vo_19 l) (ve_hi_nil)))))))) vk_20
set_option maxRecDepth 100000 in
theorem vo_21 (l : Launch) : ve_SO vs_A l 59 vs_M vm_21 := ve_ck_ok (vs_ok l) (ve_hi_none (ve_hi_none (ve_hi_none (ve_hi_none (ve_hi_none (ve_hi_none (ve_hi_none (ve_hi_some (vo_20 l) (ve_hi_nil))))))))) vk_21
set_option maxRecDepth 100000 in
theorem vo_22 (l : Launch) : ve_SO vs_A l 59 vs_M vm_22 := ve_ck_ok (vs_ok l) (ve_hi_nil) vk_22
set_option maxRecDepth 100000 in
theorem vo_23 (l : Launch) : ve_SO vs_A l 59 vs_M vm_23 := ve_ck_ok (vs_ok l) (ve_hi_nil) vk_23
set_option maxRecDepth 100000 in
theorem vo_24 (l : Launch) : ve_SO vs_A l 59 vs_M vm_24 := ve_ck_ok (vs_ok l) (ve_hi_nil) vk_24
set_option maxRecDepth 100000 in
theorem vo_25 (l : Launch) : ve_SO vs_A l 59 vs_M vm_25 := ve_ck_ok (vs_ok l) (ve_hi_none (ve_hi_none (ve_hi_some (vo_19 l) (ve_hi_some (vo_23 l) (ve_hi_some (vo_24 l) (ve_hi_nil)))))) vk_25
set_option maxRecDepth 100000 in
theorem vo_26 (l : Launch) : ve_SO vs_A l 59 vs_M vm_26 := ve_ck_ok (vs_ok l) (ve_hi_some (vo_25 l) (ve_hi_none (ve_hi_none (ve_hi_none (ve_hi_none (ve_hi_none (ve_hi_some (vo_25 l) (ve_hi_nil)))))))) vk_26
set_option maxRecDepth 100000 in
theorem vo_27 (l : Launch) : ve_SO vs_A l 59 vs_M vm_27 := ve_ck_ok (vs_ok l) (ve_hi_none (ve_hi_none (ve_hi_none (ve_hi_none (ve_hi_none (ve_hi_none (ve_hi_none (ve_hi_some (vo_26 l) (ve_hi_nil))))))))) vk_27
set_option maxRecDepth 100000 in
theorem vo_28 (l : Launch) : ve_SO vs_A l 59 vs_M vm_28 := ve_ck_ok (vs_ok l) (ve_hi_nil) vk_28
set_option maxRecDepth 100000 in
theorem vo_29 (l : Launch) : ve_SO vs_A l 59 vs_M vm_29 := ve_ck_ok (vs_ok l) (ve_hi_nil) vk_29
set_option maxRecDepth 100000 in
theorem vo_30 (l : Launch) : ve_SO vs_A l 59 vs_M vm_30 := ve_ck_ok (vs_ok l) (ve_hi_nil) vk_30
set_option maxRecDepth 100000 in
theorem vo_31 (l : Launch) : ve_SO vs_A l 59 vs_M vm_31 := ve_ck_ok (vs_ok l) (ve_hi_none (ve_hi_none (ve_hi_some (vo_25 l) (ve_hi_some (vo_29 l) (ve_hi_some (vo_30 l) (ve_hi_nil)))))) vk_31
set_option maxRecDepth 100000 in
theorem vo_32 (l : Launch) : ve_SO vs_A l 59 vs_M vm_32 := ve_ck_ok (vs_ok l) (ve_hi_some (vo_31 l) (ve_hi_none (ve_hi_none (ve_hi_none (ve_hi_none (ve_hi_none (ve_hi_some (vo_31 l) (ve_hi_nil)))))))) vk_32
set_option maxRecDepth 100000 in
theorem vo_33 (l : Launch) : ve_SO vs_A l 59 vs_M vm_33 := ve_ck_ok (vs_ok l) (ve_hi_none (ve_hi_none (ve_hi_none (ve_hi_none (ve_hi_none (ve_hi_none (ve_hi_none (ve_hi_some (vo_32 l) (ve_hi_nil))))))))) vk_33
set_option maxRecDepth 100000 in
theorem vo_34 (l : Launch) : ve_SO vs_A l 59 vs_M vm_34 := ve_ck_ok (vs_ok l) (ve_hi_nil) vk_34
set_option maxRecDepth 100000 in
theorem vo_35 (l : Launch) : ve_SO vs_A l 59 vs_M vm_35 := ve_ck_ok (vs_ok l) (ve_hi_nil) vk_35
set_option maxRecDepth 100000 in
theorem vo_36 (l : Launch) : ve_SO vs_A l 59 vs_M vm_36 := ve_ck_ok (vs_ok l) (ve_hi_nil) vk_36
set_option maxRecDepth 100000 in
theorem vo_37 (l : Launch) : ve_SO vs_A l 59 vs_M vm_37 := ve_ck_ok (vs_ok l) (ve_hi_none (ve_hi_none (ve_hi_some (vo_31 l) (ve_hi_some (vo_35 l) (ve_hi_some (vo_36 l) (ve_hi_nil)))))) vk_37
set_option maxRecDepth 100000 in
theorem vo_38 (l : Launch) : ve_SO vs_A l 59 vs_M vm_38 := ve_ck_ok (vs_ok l) (ve_hi_some (vo_37 l) (ve_hi_none (ve_hi_none (ve_hi_none (ve_hi_none (ve_hi_none (ve_hi_some (vo_37 l) (ve_hi_nil)))))))) vk_38
set_option maxRecDepth 100000 in
theorem vo_39 (l : Launch) : ve_SO vs_A l 59 vs_M vm_39 := ve_ck_ok (vs_ok l) (ve_hi_none (ve_hi_none (ve_hi_none (ve_hi_none (ve_hi_none (ve_hi_none (ve_hi_none (ve_hi_some (vo_38 l) (ve_hi_nil))))))))) vk_39
set_option maxRecDepth 100000 in
theorem vo_40 (l : Launch) : ve_SO vs_A l 59 vs_M vm_40 := ve_ck_ok (vs_ok l) (ve_hi_nil) vk_40
set_option maxRecDepth 100000 in
theorem vo_41 (l : Launch) : ve_SO vs_A l 59 vs_M vm_41 := ve_ck_ok (vs_ok l) (ve_hi_nil) vk_41
set_option maxRecDepth 100000 in
theorem vo_42 (l : Launch) : ve_SO vs_A l 59 vs_M vm_42 := ve_ck_ok (vs_ok l) (ve_hi_nil) vk_42
set_option maxRecDepth 100000 in
theorem vo_43 (l : Launch) : ve_SO vs_A l 59 vs_M vm_43 := ve_ck_ok (vs_ok l) (ve_hi_none (ve_hi_none (ve_hi_some (vo_37 l) (ve_hi_some (vo_41 l) (ve_hi_some (vo_42 l) (ve_hi_nil)))))) vk_43
set_option maxRecDepth 100000 in
theorem vo_44 (l : Launch) : ve_SO vs_A l 59 vs_M vm_44 := ve_ck_ok (vs_ok l) (ve_hi_some (vo_43 l) (ve_hi_nil)) vk_44
set_option maxRecDepth 100000 in
theorem vo_45 (l : Launch) : ve_SO vs_A l 59 vs_M vm_45 := ve_ck_ok (vs_ok l) (ve_hi_some (vo_43 l) (ve_hi_none (ve_hi_none (ve_hi_none (ve_hi_none (ve_hi_some (vo_44 l) (ve_hi_nil))))))) vk_45
set_option maxRecDepth 100000 in
theorem vo_46 (l : Launch) : ve_SO vs_A l 59 vs_M vm_46 := ve_ck_ok (vs_ok l) (ve_hi_none (ve_hi_none (ve_hi_none (ve_hi_none (ve_hi_none (ve_hi_none (ve_hi_none (ve_hi_some (vo_45 l) (ve_hi_nil))))))))) vk_46
set_option maxRecDepth 100000 in
theorem vo_47 (l : Launch) : ve_SO vs_A l 59 vs_M vm_47 := ve_ck_ok (vs_ok l) (ve_hi_nil) vk_47
set_option maxRecDepth 100000 in
theorem vo_48 (l : Launch) : ve_SO vs_A l 59 vs_M vm_48 := ve_ck_ok (vs_ok l) (ve_hi_nil) vk_48
set_option maxRecDepth 100000 in
theorem vo_49 (l : Launch) : ve_SO vs_A l 59 vs_M vm_49 := ve_ck_ok (vs_ok l) (ve_hi_nil) vk_49
set_option maxRecDepth 100000 in
theorem vo_50 (l : Launch) : ve_SO vs_A l 59 vs_M vm_50 := ve_ck_ok (vs_ok l) (ve_hi_none (ve_hi_none (ve_hi_some (vo_43 l) (ve_hi_some (vo_48 l) (ve_hi_some (vo_49 l) (ve_hi_nil)))))) vk_50
set_option maxRecDepth 100000 in
theorem vo_51 (l : Launch) : ve_SO vs_A l 59 vs_M vm_51 := ve_ck_ok (vs_ok l) (ve_hi_some (vo_50 l) (ve_hi_nil)) vk_51
set_option maxRecDepth 100000 in
theorem vo_52 (l : Launch) : ve_SO vs_A l 59 vs_M vm_52 := ve_ck_ok (vs_ok l) (ve_hi_some (vo_50 l) (ve_hi_none (ve_hi_none (ve_hi_none (ve_hi_none (ve_hi_some (vo_51 l) (ve_hi_nil))))))) vk_52
set_option maxRecDepth 100000 in
theorem vo_53 (l : Launch) : ve_SO vs_A l 59 vs_M vm_53 := ve_ck_ok (vs_ok l) (ve_hi_none (ve_hi_none (ve_hi_none (ve_hi_none (ve_hi_none (ve_hi_none (ve_hi_none (ve_hi_some (vo_52 l) (ve_hi_nil))))))))) vk_53
set_option maxRecDepth 100000 in
theorem vo_54 (l : Launch) : ve_SO vs_A l 59 vs_M vm_54 := ve_ck_ok (vs_ok l) (ve_hi_nil) vk_54
set_option maxRecDepth 100000 in
theorem vo_55 (l : Launch) : ve_SO vs_A l 59 vs_M vm_55 := ve_ck_ok (vs_ok l) (ve_hi_nil) vk_55
set_option maxRecDepth 100000 in
theorem vo_56 (l : Launch) : ve_SO vs_A l 59 vs_M vm_56 := ve_ck_ok (vs_ok l) (ve_hi_nil) vk_56
set_option maxRecDepth 100000 in
theorem vo_57 (l : Launch) : ve_SO vs_A l 59 vs_M vm_57 := ve_ck_ok (vs_ok l) (ve_hi_none (ve_hi_none (ve_hi_some (vo_50 l) (ve_hi_some (vo_55 l) (ve_hi_some (vo_56 l) (ve_hi_nil)))))) vk_57
set_option maxRecDepth 100000 in
theorem vo_58 (l : Launch) : ve_SO vs_A l 59 vs_M vm_58 := ve_ck_ok (vs_ok l) (ve_hi_some (vo_57 l) (ve_hi_nil)) vk_58
set_option maxRecDepth 100000 in
theorem vo_59 (l : Launch) : ve_SO vs_A l 59 vs_M vm_59 := ve_ck_ok (vs_ok l) (ve_hi_some (vo_57 l) (ve_hi_none (ve_hi_none (ve_hi_none (ve_hi_none (ve_hi_some (vo_58 l) (ve_hi_nil))))))) vk_59
set_option maxRecDepth 100000 in
theorem vo_60 (l : Launch) : ve_SO vs_A l 59 vs_M vm_60 := ve_ck_ok (vs_ok l) (ve_hi_none (ve_hi_none (ve_hi_none (ve_hi_none (ve_hi_none (ve_hi_none (ve_hi_none (ve_hi_some (vo_59 l) (ve_hi_nil))))))))) vk_60
set_option maxRecDepth 100000 in
theorem vo_61 (l : Launch) : ve_SO vs_A l 59 vs_M vm_61 := ve_ck_ok (vs_ok l) (ve_hi_nil) vk_61
set_option maxRecDepth 100000 in
theorem vo_62 (l : Launch) : ve_SO vs_A l 59 vs_M vm_62 := ve_ck_ok (vs_ok l) (ve_hi_nil) vk_62
set_option maxRecDepth 100000 in
theorem vo_63 (l : Launch) : ve_SO vs_A l 59 vs_M vm_63 := ve_ck_ok (vs_ok l) (ve_hi_nil) vk_63
set_option maxRecDepth 100000 in
theorem vo_64 (l : Launch) : ve_SO vs_A l 59 vs_M vm_64 := ve_ck_ok (vs_ok l) (ve_hi_none (ve_hi_none (ve_hi_some (vo_57 l) (ve_hi_some (vo_62 l) (ve_hi_some (vo_63 l) (ve_hi_nil)))))) vk_64
set_option maxRecDepth 100000 in
theorem vo_65 (l : Launch) : ve_SO vs_A l 59 vs_M vm_65 := ve_ck_ok (vs_ok l) (ve_hi_some (vo_64 l) (ve_hi_nil)) vk_65
set_option maxRecDepth 100000 in
theorem vo_66 (l : Launch) : ve_SO vs_A l 59 vs_M vm_66 := ve_ck_ok (vs_ok l) (ve_hi_some (vo_64 l) (ve_hi_none (ve_hi_none (ve_hi_none (ve_hi_none (ve_hi_some (vo_65 l) (ve_hi_nil))))))) vk_66
set_option maxRecDepth 100000 in
theorem vo_67 (l : Launch) : ve_SO vs_A l 59 vs_M vm_67 := ve_ck_ok (vs_ok l) (ve_hi_none (ve_hi_none (ve_hi_none (ve_hi_none (ve_hi_none (ve_hi_none (ve_hi_none (ve_hi_some (vo_66 l) (ve_hi_nil))))))))) vk_67
set_option maxRecDepth 100000 in
theorem vo_68 (l : Launch) : ve_SO vs_A l 59 vs_M vm_68 := ve_ck_ok (vs_ok l) (ve_hi_nil) vk_68
set_option maxRecDepth 100000 in
theorem vo_69 (l : Launch) : ve_SO vs_A l 59 vs_M vm_69 := ve_ck_ok (vs_ok l) (ve_hi_nil) vk_69
set_option maxRecDepth 100000 in
theorem vo_70 (l : Launch) : ve_SO vs_A l 59 vs_M vm_70 := ve_ck_ok (vs_ok l) (ve_hi_nil) vk_70
set_option maxRecDepth 100000 in
theorem vo_71 (l : Launch) : ve_SO vs_A l 59 vs_M vm_71 := ve_ck_ok (vs_ok l) (ve_hi_none (ve_hi_none (ve_hi_some (vo_64 l) (ve_hi_some (vo_69 l) (ve_hi_some (vo_70 l) (ve_hi_nil)))))) vk_71
set_option maxRecDepth 100000 in
theorem vo_72 (l : Launch) : ve_SO vs_A l 59 vs_M vm_72 := ve_ck_ok (vs_ok l) (ve_hi_some (vo_71 l) (ve_hi_nil)) vk_72
set_option maxRecDepth 100000 in
theorem vo_73 (l : Launch) : ve_SO vs_A l 59 vs_M vm_73 := ve_ck_ok (vs_ok l) (ve_hi_some (vo_71 l) (ve_hi_none (ve_hi_none (ve_hi_none (ve_hi_none (ve_hi_some (vo_72 l) (ve_hi_nil))))))) vk_73
set_option maxRecDepth 100000 in
theorem vo_74 (l : Launch) : ve_SO vs_A l 59 vs_M vm_74 := ve_ck_ok (vs_ok l) (ve_hi_none (ve_hi_none (ve_hi_none (ve_hi_none (ve_hi_none (ve_hi_none (ve_hi_none (ve_hi_some (vo_73 l) (ve_hi_nil))))))))) vk_74
set_option maxRecDepth 100000 in
theorem vo_75 (l : Launch) : ve_SO vs_A l 59 vs_M vm_75 := ve_ck_ok (vs_ok l) (ve_hi_nil) vk_75
set_option maxRecDepth 100000 in
theorem vo_76 (l : Launch) : ve_SO vs_A l 59 vs_M vm_76 := ve_ck_ok (vs_ok l) (ve_hi_nil) vk_76
set_option maxRecDepth 100000 in
theorem vo_77 (l : Launch) : ve_SO vs_A l 59 vs_M vm_77 := ve_ck_ok (vs_ok l) (ve_hi_nil) vk_77
set_option maxRecDepth 100000 in
theorem vo_78 (l : Launch) : ve_SO vs_A l 59 vs_M vm_78 := ve_ck_ok (vs_ok l) (ve_hi_none (ve_hi_none (ve_hi_some (vo_71 l) (ve_hi_some (vo_76 l) (ve_hi_some (vo_77 l) (ve_hi_nil)))))) vk_78
set_option maxRecDepth 100000 in
theorem vo_79 (l : Launch) : ve_SO vs_A l 59 vs_M vm_79 := ve_ck_ok (vs_ok l) (ve_hi_some (vo_78 l) (ve_hi_nil)) vk_79
set_option maxRecDepth 100000 in
theorem vo_80 (l : Launch) : ve_SO vs_A l 59 vs_M vm_80 := ve_ck_ok (vs_ok l) (ve_hi_some (vo_78 l) (ve_hi_none (ve_hi_none (ve_hi_none (ve_hi_none (ve_hi_some (vo_79 l) (ve_hi_nil))))))) vk_80
set_option maxRecDepth 100000 in
theorem vo_81 (l : Launch) : ve_SO vs_A l 59 vs_M vm_81 := ve_ck_ok (vs_ok l) (ve_hi_none (ve_hi_none (ve_hi_none (ve_hi_none (ve_hi_none (ve_hi_none (ve_hi_none (ve_hi_some (vo_80 l) (ve_hi_nil))))))))) vk_81
set_option maxRecDepth 100000 in
theorem vo_82 (l : Launch) : ve_SO vs_A l 59 vs_M vm_82 := ve_ck_ok (vs_ok l) (ve_hi_nil) vk_82
set_option maxRecDepth 100000 in
theorem vo_83 (l : Launch) : ve_SO vs_A l 59 vs_M vm_83 := ve_ck_ok (vs_ok l) (ve_hi_nil) vk_83
set_option maxRecDepth 100000 in
theorem vo_84 (l : Launch) : ve_SO vs_A l 59 vs_M vm_84 := ve_ck_ok (vs_ok l) (ve_hi_nil) vk_84
set_option maxRecDepth 100000 in
theorem vo_85 (l : Launch) : ve_SO vs_A l 59 vs_M vm_85 := ve_ck_ok (vs_ok l) (ve_hi_none (ve_hi_none (ve_hi_some (vo_78 l) (ve_hi_some (vo_83 l) (ve_hi_some (vo_84 l) (ve_hi_nil)))))) vk_85
set_option maxRecDepth 100000 in
theorem vo_86 (l : Launch) : ve_SO vs_A l 59 vs_M vm_86 := ve_ck_ok (vs_ok l) (ve_hi_some (vo_85 l) (ve_hi_nil)) vk_86
set_option maxRecDepth 100000 in
theorem vo_87 (l : Launch) : ve_SO vs_A l 59 vs_M vm_87 := ve_ck_ok (vs_ok l) (ve_hi_some (vo_85 l) (ve_hi_none (ve_hi_none (ve_hi_none (ve_hi_none (ve_hi_some (vo_86 l) (ve_hi_nil))))))) vk_87
set_option maxRecDepth 100000 in
theorem vo_88 (l : Launch) : ve_SO vs_A l 59 vs_M vm_88 := ve_ck_ok (vs_ok l) (ve_hi_none (ve_hi_none (ve_hi_none (ve_hi_none (ve_hi_none (ve_hi_none (ve_hi_none (ve_hi_some (vo_87 l) (ve_hi_nil))))))))) vk_88
set_option maxRecDepth 100000 in
theorem vo_89 (l : Launch) : ve_SO vs_A l 59 vs_M vm_89 := ve_ck_ok (vs_ok l) (ve_hi_nil) vk_89
set_option maxRecDepth 100000 in
theorem vo_90 (l : Launch) : ve_SO vs_A l 59 vs_M vm_90 := ve_ck_ok (vs_ok l) (ve_hi_nil) vk_90
set_option maxRecDepth 100000 in
theorem vo_91 (l : Launch) : ve_SO vs_A l 59 vs_M vm_91 := ve_ck_ok (vs_ok l) (ve_hi_nil) vk_91
set_option maxRecDepth 100000 in
theorem vo_92 (l : Launch) : ve_SO vs_A l 59 vs_M vm_92 := ve_ck_ok (vs_ok l) (ve_hi_none (ve_hi_none (ve_hi_some (vo_85 l) (ve_hi_some (vo_90 l) (ve_hi_some (vo_91 l) (ve_hi_nil)))))) vk_92
set_option maxRecDepth 100000 in
theorem vo_93 (l : Launch) : ve_SO vs_A l 59 vs_M vm_93 := ve_ck_ok (vs_ok l) (ve_hi_some (vo_92 l) (ve_hi_nil)) vk_93
set_option maxRecDepth 100000 in
theorem vo_94 (l : Launch) : ve_SO vs_A l 59 vs_M vm_94 := ve_ck_ok (vs_ok l) (ve_hi_some (vo_92 l) (ve_hi_none (ve_hi_none (ve_hi_none (ve_hi_none (ve_hi_some (vo_93 l) (ve_hi_nil))))))) vk_94
set_option maxRecDepth 100000 in
theorem vo_95 (l : Launch) : ve_SO vs_A l 59 vs_M vm_95 := ve_ck_ok (vs_ok l) (ve_hi_none (ve_hi_none (ve_hi_none (ve_hi_none (ve_hi_none (ve_hi_none (ve_hi_none (ve_hi_some (vo_94 l) (ve_hi_nil))))))))) vk_95
set_option maxRecDepth 100000 in
theorem vo_96 (l : Launch) : ve_SO vs_A l 59 vs_M vm_96 := ve_ck_ok (vs_ok l) (ve_hi_nil) vk_96
set_option maxRecDepth 100000 in
theorem vo_97 (l : Launch) : ve_SO vs_A l 59 vs_M vm_97 := ve_ck_ok (vs_ok l) (ve_hi_nil) vk_97
set_option maxRecDepth 100000 in
theorem vo_98 (l : Launch) : ve_SO vs_A l 59 vs_M vm_98 := ve_ck_ok (vs_ok l) (ve_hi_nil) vk_98
set_option maxRecDepth 100000 in
theorem vo_99 (l : Launch) : ve_SO vs_A l 59 vs_M vm_99 := ve_ck_ok (vs_ok l) (ve_hi_none (ve_hi_none (ve_hi_some (vo_92 l) (ve_hi_some (vo_97 l) (ve_hi_some (vo_98 l) (ve_hi_nil)))))) vk_99
set_option maxRecDepth 100000 in
theorem vo_100 (l : Launch) : ve_SO vs_A l 59 vs_M vm_100 := ve_ck_ok (vs_ok l) (ve_hi_some (vo_99 l) (ve_hi_nil)) vk_100
set_option maxRecDepth 100000 in
theorem vo_101 (l : Launch) : ve_SO vs_A l 59 vs_M vm_101 := ve_ck_ok (vs_ok l) (ve_hi_some (vo_99 l) (ve_hi_none (ve_hi_none (ve_hi_none (ve_hi_none (ve_hi_some (vo_100 l) (ve_hi_nil))))))) vk_101
set_option maxRecDepth 100000 in
theorem vo_102 (l : Launch) : ve_SO vs_A l 59 vs_M vm_102 := ve_ck_ok (vs_ok l) (ve_hi_none (ve_hi_none (ve_hi_none (ve_hi_none (ve_hi_none (ve_hi_none (ve_hi_none (ve_hi_some (vo_101 l) (ve_hi_nil))))))))) vk_102
set_option maxRecDepth 100000 in
theorem vo_103 (l : Launch) : ve_SO vs_A l 59 vs_M vm_103 := ve_ck_ok (vs_ok l) (ve_hi_nil) vk_103
set_option maxRecDepth 100000 in
theorem vo_104 (l : Launch) : ve_SO vs_A l 59 vs_M vm_104 := ve_ck_ok (vs_ok l) (ve_hi_nil) vk_104
set_option maxRecDepth 100000 in
theorem vo_105 (l : Launch) : ve_SO vs_A l 59 vs_M vm_105 := ve_ck_ok (vs_ok l) (ve_hi_nil) vk_105
set_option maxRecDepth 100000 in
theorem vo_106 (l : Launch) : ve_SO vs_A l 59 vs_M vm_106 := ve_ck_ok (vs_ok l) (ve_hi_some (vo_105 l) (ve_hi_nil)) vk_106
set_option maxRecDepth 100000 in
theorem vo_107 (l : Launch) : ve_SO vs_A l 59 vs_M vm_107 := ve_ck_ok (vs_ok l) (ve_hi_none (ve_hi_none (ve_hi_some (vo_99 l) (ve_hi_some (vo_104 l) (ve_hi_some (vo_106 l) (ve_hi_nil)))))) vk_107
set_option maxRecDepth 100000 in
theorem vo_108 (l : Launch) : ve_SO vs_A l 59 vs_M vm_108 := ve_ck_ok (vs_ok l) (ve_hi_some (vo_107 l) (ve_hi_nil)) vk_108
set_option maxRecDepth 100000 in
theorem vo_109 (l : Launch) : ve_SO vs_A l 59 vs_M vm_109 := ve_ck_ok (vs_ok l) (ve_hi_some (vo_107 l) (ve_hi_none (ve_hi_none (ve_hi_none (ve_hi_none (ve_hi_some (vo_108 l) (ve_hi_nil))))))) vk_109
set_option maxRecDepth 100000 in
theorem vo_110 (l : Launch) : ve_SO vs_A l 59 vs_M vm_110 := ve_ck_ok (vs_ok l) (ve_hi_none (ve_hi_none (ve_hi_none (ve_hi_none (ve_hi_none (ve_hi_none (ve_hi_none (ve_hi_some (vo_109 l) (ve_hi_nil))))))))) vk_110
set_option maxRecDepth 100000 in
theorem vo_111 (l : Launch) : ve_SO vs_A l 59 vs_M vm_111 := ve_ck_ok (vs_ok l) (ve_hi_nil) vk_111
set_option maxRecDepth 100000 in
theorem vo_112 (l : Launch) : ve_SO vs_A l 59 vs_M vm_112 := ve_ck_ok (vs_ok l) (ve_hi_nil) vk_112
set_option maxRecDepth 100000 in
theorem vo_113 (l : Launch) : ve_SO vs_A l 59 vs_M vm_113 := ve_ck_ok (vs_ok l) (ve_hi_some (vo_112 l) (ve_hi_nil)) vk_113
set_option maxRecDepth 100000 in
theorem vo_114 (l : Launch) : ve_SO vs_A l 59 vs_M vm_114 := ve_ck_ok (vs_ok l) (ve_hi_nil) vk_114
set_option maxRecDepth 100000 in
theorem vo_115 (l : Launch) : ve_SO vs_A l 59 vs_M vm_115 := ve_ck_ok (vs_ok l) (ve_hi_none (ve_hi_none (ve_hi_some (vo_107 l) (ve_hi_some (vo_113 l) (ve_hi_some (vo_114 l) (ve_hi_nil)))))) vk_115
set_option maxRecDepth 100000 in
theorem vo_116 (l : Launch) : ve_SO vs_A l 59 vs_M vm_116 := ve_ck_ok (vs_ok l) (ve_hi_some (vo_115 l) (ve_hi_nil)) vk_116
set_option maxRecDepth 100000 in
theorem vo_117 (l : Launch) : ve_SO vs_A l 59 vs_M vm_117 := ve_ck_ok (vs_ok l) (ve_hi_some (vo_115 l) (ve_hi_none (ve_hi_none (ve_hi_none (ve_hi_none (ve_hi_some (vo_116 l) (ve_hi_nil))))))) vk_117
set_option maxRecDepth 100000 in
theorem vo_118 (l : Launch) : ve_SO vs_A l 59 vs_M vm_118 := ve_ck_ok (vs_ok l) (ve_hi_none (ve_hi_none (ve_hi_none (ve_hi_none (ve_hi_none (ve_hi_none (ve_hi_none (ve_hi_some (vo_117 l) (ve_hi_nil))))))))) vk_118
set_option maxRecDepth 100000 in
theorem vo_119 (l : Launch) : ve_SO vs_A l 59 vs_M vm_119 := ve_ck_ok (vs_ok l) (ve_hi_nil) vk_119
set_option maxRecDepth 100000 in
theorem vo_120 (l : Launch) : ve_SO vs_A l 59 vs_M vm_120 := ve_ck_ok (vs_ok l) (ve_hi_nil) vk_120
set_option maxRecDepth 100000 in
theorem vo_121 (l : Launch) : ve_SO vs_A l 59 vs_M vm_121 := ve_ck_ok (vs_ok l) (ve_hi_some (vo_120 l) (ve_hi_nil)) vk_121
set_option maxRecDepth 100000 in
theorem vo_122 (l : Launch) : ve_SO vs_A l 59 vs_M vm_122 := ve_ck_ok (vs_ok l) (ve_hi_nil) vk_122
set_option maxRecDepth 100000 in
theorem vo_123 (l : Launch) : ve_SO vs_A l 59 vs_M vm_123 := ve_ck_ok (vs_ok l) (ve_hi_none (ve_hi_none (ve_hi_some (vo_115 l) (ve_hi_some (vo_121 l) (ve_hi_some (vo_122 l) (ve_hi_nil)))))) vk_123
set_option maxRecDepth 100000 in
theorem vo_124 (l : Launch) : ve_SO vs_A l 59 vs_M vm_124 := ve_ck_ok (vs_ok l) (ve_hi_some (vo_123 l) (ve_hi_nil)) vk_124
set_option maxRecDepth 100000 in
theorem vo_125 (l : Launch) : ve_SO vs_A l 59 vs_M vm_125 := ve_ck_ok (vs_ok l) (ve_hi_some (vo_123 l) (ve_hi_none (ve_hi_none (ve_hi_none (ve_hi_none (ve_hi_some (vo_124 l) (ve_hi_nil))))))) vk_125
set_option maxRecDepth 100000 in
theorem vo_126 (l : Launch) : ve_SO vs_A l 59 vs_M vm_126 := ve_ck_ok (vs_ok l) (ve_hi_none (ve_hi_none (ve_hi_none (ve_hi_none (ve_hi_none (ve_hi_none (ve_hi_none (ve_hi_some (vo_125 l) (ve_hi_nil))))))))) vk_126
set_option maxRecDepth 100000 in
theorem vo_127 (l : Launch) : ve_SO vs_A l 59 vs_M vm_127 := ve_ck_ok (vs_ok l) (ve_hi_nil) vk_127
set_option maxRecDepth 100000 in
theorem vo_128 (l : Launch) : ve_SO vs_A l 59 vs_M vm_128 := ve_ck_ok (vs_ok l) (ve_hi_nil) vk_128
set_option maxRecDepth 100000 in
theorem vo_129 (l : Launch) : ve_SO vs_A l 59 vs_M vm_129 := ve_ck_ok (vs_ok l) (ve_hi_some (vo_128 l) (ve_hi_nil)) vk_129
set_option maxRecDepth 100000 in
theorem vo_130 (l : Launch) : ve_SO vs_A l 59 vs_M vm_130 := ve_ck_ok (vs_ok l) (ve_hi_nil) vk_130
set_option maxRecDepth 100000 in
theorem vo_131 (l : Launch) : ve_SO vs_A l 59 vs_M vm_131 := ve_ck_ok (vs_ok l) (ve_hi_none (ve_hi_none (ve_hi_some (vo_123 l) (ve_hi_some (vo_129 l) (ve_hi_some (vo_130 l) (ve_hi_nil)))))) vk_131
set_option maxRecDepth 100000 in
theorem vo_132 (l : Launch) : ve_SO vs_A l 59 vs_M vm_132 := ve_ck_ok (vs_ok l) (ve_hi_some (vo_131 l) (ve_hi_nil)) vk_132
set_option maxRecDepth 100000 in
theorem vo_133 (l : Launch) : ve_SO vs_A l 59 vs_M vm_133 := ve_ck_ok (vs_ok l) (ve_hi_some (vo_131 l) (ve_hi_none (ve_hi_none (ve_hi_none (ve_hi_none (ve_hi_some (vo_132 l) (ve_hi_nil))))))) vk_133
set_option maxRecDepth 100000 in
theorem vo_134 (l : Launch) : ve_SO vs_A l 59 vs_M vm_134 := ve_ck_ok (vs_ok l) (ve_hi_none (ve_hi_none (ve_hi_none (ve_hi_none (ve_hi_none (ve_hi_none (ve_hi_none (ve_hi_some (vo_133 l) (ve_hi_nil))))))))) vk_134
set_option maxRecDepth 100000 in
theorem vo_135 (l : Launch) : ve_SO vs_A l 59 vs_M vm_135 := ve_ck_ok (vs_ok l) (ve_hi_nil) vk_135
set_option maxRecDepth 100000 in
theorem vo_136 (l : Launch) : ve_SO vs_A l 59 vs_M vm_136 := ve_ck_ok (vs_ok l) (ve_hi_nil) vk_136
set_option maxRecDepth 100000 in
theorem vo_137 (l : Launch) : ve_SO vs_A l 59 vs_M vm_137 := ve_ck_ok (vs_ok l) (ve_hi_some (vo_136 l) (ve_hi_nil)) vk_137
set_option maxRecDepth 100000 in
theorem vo_138 (l : Launch) : ve_SO vs_A l 59 vs_M vm_138 := ve_ck_ok (vs_ok l) (ve_hi_nil) vk_138
set_option maxRecDepth 100000 in
theorem vo_139 (l : Launch) : ve_SO vs_A l 59 vs_M vm_139 := ve_ck_ok (vs_ok l) (ve_hi_none (ve_hi_none (ve_hi_some (vo_131 l) (ve_hi_some (vo_137 l) (ve_hi_some (vo_138 l) (ve_hi_nil)))))) vk_139
set_option maxRecDepth 100000 in
theorem vo_140 (l : Launch) : ve_SO vs_A l 59 vs_M vm_140 := ve_ck_ok (vs_ok l) (ve_hi_some (vo_139 l) (ve_hi_nil)) vk_140
set_option maxRecDepth 100000 in
theorem vo_141 (l : Launch) : ve_SO vs_A l 59 vs_M vm_141 := ve_ck_ok (vs_ok l) (ve_hi_some (vo_139 l) (ve_hi_none (ve_hi_none (ve_hi_none (ve_hi_none (ve_hi_some (vo_140 l) (ve_hi_nil))))))) vk_141
set_option maxRecDepth 100000 in
theorem vo_142 (l : Launch) : ve_SO vs_A l 59 vs_M vm_142 := ve_ck_ok (vs_ok l) (ve_hi_none (ve_hi_none (ve_hi_none (ve_hi_none (ve_hi_none (ve_hi_none (ve_hi_none (ve_hi_some (vo_141 l) (ve_hi_nil))))))))) vk_142
set_option maxRecDepth 100000 in
theorem vo_143 (l : Launch) : ve_SO vs_A l 59 vs_M vm_143 := ve_ck_ok (vs_ok l) (ve_hi_nil) vk_143
set_option maxRecDepth 100000 in
theorem vo_144 (l : Launch) : ve_SO vs_A l 59 vs_M vm_144 := ve_ck_ok (vs_ok l) (ve_hi_nil) vk_144
set_option maxRecDepth 100000 in
theorem vo_145 (l : Launch) : ve_SO vs_A l 59 vs_M vm_145 := ve_ck_ok (vs_ok l) (ve_hi_some (vo_144 l) (ve_hi_nil)) vk_145
set_option maxRecDepth 100000 in
theorem vo_146 (l : Launch) : ve_SO vs_A l 59 vs_M vm_146 := ve_ck_ok (vs_ok l) (ve_hi_nil) vk_146
set_option maxRecDepth 100000 in
theorem vo_147 (l : Launch) : ve_SO vs_A l 59 vs_M vm_147 := ve_ck_ok (vs_ok l) (ve_hi_none (ve_hi_none (ve_hi_some (vo_139 l) (ve_hi_some (vo_145 l) (ve_hi_some (vo_146 l) (ve_hi_nil)))))) vk_147
set_option maxRecDepth 100000 in
theorem vo_148 (l : Launch) : ve_SO vs_A l 59 vs_M vm_148 := ve_ck_ok (vs_ok l) (ve_hi_some (vo_147 l) (ve_hi_nil)) vk_148
set_option maxRecDepth 100000 in
theorem vo_149 (l : Launch) : ve_SO vs_A l 59 vs_M vm_149 := ve_ck_ok (vs_ok l) (ve_hi_some (vo_147 l) (ve_hi_none (ve_hi_none (ve_hi_none (ve_hi_none (ve_hi_some (vo_148 l) (ve_hi_nil))))))) vk_149
set_option maxRecDepth 100000 in
theorem vo_150 (l : Launch) : ve_SO vs_A l 59 vs_M vm_150 := ve_ck_ok (vs_ok l) (ve_hi_none (ve_hi_none (ve_hi_none (ve_hi_none (ve_hi_none (ve_hi_none (ve_hi_none (ve_hi_some (vo_149 l) (ve_hi_nil))))))))) vk_150
set_option maxRecDepth 100000 in
theorem vo_151 (l : Launch) : ve_SO vs_A l 59 vs_M vm_151 := ve_ck_ok (vs_ok l) (ve_hi_nil) vk_151
set_option maxRecDepth 100000 in
theorem vo_152 (l : Launch) : ve_SO vs_A l 59 vs_M vm_152 := ve_ck_ok (vs_ok l) (ve_hi_nil) vk_152
set_option maxRecDepth 100000 in
theorem vo_153 (l : Launch) : ve_SO vs_A l 59 vs_M vm_153 := ve_ck_ok (vs_ok l) (ve_hi_some (vo_152 l) (ve_hi_nil)) vk_153
set_option maxRecDepth 100000 in
theorem vo_154 (l : Launch) : ve_SO vs_A l 59 vs_M vm_154 := ve_ck_ok (vs_ok l) (ve_hi_nil) vk_154
set_option maxRecDepth 100000 in
theorem vo_155 (l : Launch) : ve_SO vs_A l 59 vs_M vm_155 := ve_ck_ok (vs_ok l) (ve_hi_none (ve_hi_none (ve_hi_some (vo_147 l) (ve_hi_some (vo_153 l) (ve_hi_some (vo_154 l) (ve_hi_nil)))))) vk_155
set_option maxRecDepth 100000 in
theorem vo_156 (l : Launch) : ve_SO vs_A l 59 vs_M vm_156 := ve_ck_ok (vs_ok l) (ve_hi_some (vo_155 l) (ve_hi_nil)) vk_156
set_option maxRecDepth 100000 in
theorem vo_157 (l : Launch) : ve_SO vs_A l 59 vs_M vm_157 := ve_ck_ok (vs_ok l) (ve_hi_some (vo_155 l) (ve_hi_none (ve_hi_none (ve_hi_none (ve_hi_none (ve_hi_some (vo_156 l) (ve_hi_nil))))))) vk_157
set_option maxRecDepth 100000 in
theorem vo_158 (l : Launch) : ve_SO vs_A l 59 vs_M vm_158 := ve_ck_ok (vs_ok l) (ve_hi_none (ve_hi_none (ve_hi_none (ve_hi_none (ve_hi_none (ve_hi_none (ve_hi_none (ve_hi_some (vo_157 l) (ve_hi_nil))))))))) vk_158
set_option maxRecDepth 100000 in
theorem vo_159 (l : Launch) : ve_SO vs_A l 59 vs_M vm_159 := ve_ck_ok (vs_ok l) (ve_hi_nil) vk_159
set_option maxRecDepth 100000 in
theorem vo_160 (l : Launch) : ve_SO vs_A l 59 vs_M vm_160 := ve_ck_ok (vs_ok l) (ve_hi_nil) vk_160
set_option maxRecDepth 100000 in
theorem vo_161 (l : Launch) : ve_SO vs_A l 59 vs_M vm_161 := ve_ck_ok (vs_ok l) (ve_hi_some (vo_160 l) (ve_hi_nil)) vk_161
set_option maxRecDepth 100000 in
theorem vo_162 (l : Launch) : ve_SO vs_A l 59 vs_M vm_162 := ve_ck_ok (vs_ok l) (ve_hi_nil) vk_162
set_option maxRecDepth 100000 in
theorem vo_163 (l : Launch) : ve_SO vs_A l 59 vs_M vm_163 := ve_ck_ok (vs_ok l) (ve_hi_none (ve_hi_none (ve_hi_some (vo_155 l) (ve_hi_some (vo_161 l) (ve_hi_some (vo_162 l) (ve_hi_nil)))))) vk_163
set_option maxRecDepth 100000 in
theorem vo_164 (l : Launch) : ve_SO vs_A l 59 vs_M vm_164 := ve_ck_ok (vs_ok l) (ve_hi_some (vo_163 l) (ve_hi_nil)) vk_164
set_option maxRecDepth 100000 in
theorem vo_165 (l : Launch) : ve_SO vs_A l 59 vs_M vm_165 := ve_ck_ok (vs_ok l) (ve_hi_some (vo_163 l) (ve_hi_none (ve_hi_none (ve_hi_none (ve_hi_none (ve_hi_some (vo_164 l) (ve_hi_nil))))))) vk_165
set_option maxRecDepth 100000 in
theorem vo_166 (l : Launch) : ve_SO vs_A l 59 vs_M vm_166 := ve_ck_ok (vs_ok l) (ve_hi_none (ve_hi_none (ve_hi_none (ve_hi_none (ve_hi_none (ve_hi_none (ve_hi_none (ve_hi_some (vo_165 l) (ve_hi_nil))))))))) vk_166
set_option maxRecDepth 100000 in
theorem vo_167 (l : Launch) : ve_SO vs_A l 59 vs_M vm_167 := ve_ck_ok (vs_ok l) (ve_hi_nil) vk_167
set_option maxRecDepth 100000 in
theorem vo_168 (l : Launch) : ve_SO vs_A l 59 vs_M vm_168 := ve_ck_ok (vs_ok l) (ve_hi_nil) vk_168
set_option maxRecDepth 100000 in
theorem vo_169 (l : Launch) : ve_SO vs_A l 59 vs_M vm_169 := ve_ck_ok (vs_ok l) (ve_hi_some (vo_168 l) (ve_hi_nil)) vk_169
set_option maxRecDepth 100000 in
theorem vo_170 (l : Launch) : ve_SO vs_A l 59 vs_M vm_170 := ve_ck_ok (vs_ok l) (ve_hi_nil) vk_170
set_option maxRecDepth 100000 in
theorem vo_171 (l : Launch) : ve_SO vs_A l 59 vs_M vm_171 := ve_ck_ok (vs_ok l) (ve_hi_none (ve_hi_none (ve_hi_some (vo_163 l) (ve_hi_some (vo_169 l) (ve_hi_some (vo_170 l) (ve_hi_nil)))))) vk_171
set_option maxRecDepth 100000 in
theorem vo_172 (l : Launch) : ve_SO vs_A l 59 vs_M vm_172 := ve_ck_ok (vs_ok l) (ve_hi_some (vo_171 l) (ve_hi_nil)) vk_172
set_option maxRecDepth 100000 in
theorem vo_173 (l : Launch) : ve_SO vs_A l 59 vs_M vm_173 := ve_ck_ok (vs_ok l) (ve_hi_some (vo_171 l) (ve_hi_none (ve_hi_none (ve_hi_none (ve_hi_none (ve_hi_some (vo_172 l) (ve_hi_nil))))))) vk_173
set_option maxRecDepth 100000 in
theorem vo_174 (l : Launch) : ve_SO vs_A l 59 vs_M vm_174 := ve_ck_ok (vs_ok l) (ve_hi_none (ve_hi_none (ve_hi_none (ve_hi_none (ve_hi_none (ve_hi_none (ve_hi_none (ve_hi_some (vo_173 l) (ve_hi_nil))))))))) vk_174
set_option maxRecDepth 100000 in
theorem vo_175 (l : Launch) : ve_SO vs_A l 59 vs_M vm_175 := ve_ck_ok (vs_ok l) (ve_hi_nil) vk_175
set_option maxRecDepth 100000 in
theorem vo_176 (l : Launch) : ve_SO vs_A l 59 vs_M vm_176 := ve_ck_ok (vs_ok l) (ve_hi_nil) vk_176
set_option maxRecDepth 100000 in
theorem vo_177 (l : Launch) : ve_SO vs_A l 59 vs_M vm_177 := ve_ck_ok (vs_ok l) (ve_hi_some (vo_176 l) (ve_hi_nil)) vk_177
set_option maxRecDepth 100000 in
theorem vo_178 (l : Launch) : ve_SO vs_A l 59 vs_M vm_178 := ve_ck_ok (vs_ok l) (ve_hi_nil) vk_178
set_option maxRecDepth 100000 in
theorem vo_179 (l : Launch) : ve_SO vs_A l 59 vs_M vm_179 := ve_ck_ok (vs_ok l) (ve_hi_none (ve_hi_none (ve_hi_some (vo_171 l) (ve_hi_some (vo_177 l) (ve_hi_some (vo_178 l) (ve_hi_nil)))))) vk_179
set_option maxRecDepth 100000 in
theorem vo_180 (l : Launch) : ve_SO vs_A l 59 vs_M vm_180 := ve_ck_ok (vs_ok l) (ve_hi_some (vo_179 l) (ve_hi_nil)) vk_180
set_option maxRecDepth 100000 in
theorem vo_181 (l : Launch) : ve_SO vs_A l 59 vs_M vm_181 := ve_ck_ok (vs_ok l) (ve_hi_some (vo_179 l) (ve_hi_none (ve_hi_none (ve_hi_none (ve_hi_none (ve_hi_some (vo_180 l) (ve_hi_nil))))))) vk_181
set_option maxRecDepth 100000 in
theorem vo_182 (l : Launch) : ve_SO vs_A l 59 vs_M vm_182 := ve_ck_ok (vs_ok l) (ve_hi_none (ve_hi_none (ve_hi_none (ve_hi_none (ve_hi_none (ve_hi_none (ve_hi_none (ve_hi_some (vo_181 l) (ve_hi_nil))))))))) vk_182
set_option maxRecDepth 100000 in
theorem vo_183 (l : Launch) : ve_SO vs_A l 59 vs_M vm_183 := ve_ck_ok (vs_ok l) (ve_hi_nil) vk_183
set_option maxRecDepth 100000 in
theorem vo_184 (l : Launch) : ve_SO vs_A l 59 vs_M vm_184 := ve_ck_ok (vs_ok l) (ve_hi_nil) vk_184
set_option maxRecDepth 100000 in
theorem vo_185 (l : Launch) : ve_SO vs_A l 59 vs_M vm_185 := ve_ck_ok (vs_ok l) (ve_hi_some (vo_184 l) (ve_hi_nil)) vk_185
set_option maxRecDepth 100000 in
theorem vo_186 (l : Launch) : ve_SO vs_A l 59 vs_M vm_186 := ve_ck_ok (vs_ok l) (ve_hi_nil) vk_186
set_option maxRecDepth 100000 in
theorem vo_187 (l : Launch) : ve_SO vs_A l 59 vs_M vm_187 := ve_ck_ok (vs_ok l) (ve_hi_none (ve_hi_none (ve_hi_some (vo_179 l) (ve_hi_some (vo_185 l) (ve_hi_some (vo_186 l) (ve_hi_nil)))))) vk_187
set_option maxRecDepth 100000 in
theorem vo_188 (l : Launch) : ve_SO vs_A l 59 vs_M vm_188 := ve_ck_ok (vs_ok l) (ve_hi_some (vo_187 l) (ve_hi_nil)) vk_188
set_option maxRecDepth 100000 in
theorem vo_189 (l : Launch) : ve_SO vs_A l 59 vs_M vm_189 := ve_ck_ok (vs_ok l) (ve_hi_some (vo_187 l) (ve_hi_none (ve_hi_none (ve_hi_none (ve_hi_none (ve_hi_some (vo_188 l) (ve_hi_nil))))))) vk_189
set_option maxRecDepth 100000 in
theorem vo_190 (l : Launch) : ve_SO vs_A l 59 vs_M vm_190 := ve_ck_ok (vs_ok l) (ve_hi_none (ve_hi_none (ve_hi_none (ve_hi_none (ve_hi_none (ve_hi_none (ve_hi_none (ve_hi_some (vo_189 l) (ve_hi_nil))))))))) vk_190
set_option maxRecDepth 100000 in
theorem vo_191 (l : Launch) : ve_SO vs_A l 59 vs_M vm_191 := ve_ck_ok (vs_ok l) (ve_hi_nil) vk_191
set_option maxRecDepth 100000 in
theorem vo_192 (l : Launch) : ve_SO vs_A l 59 vs_M vm_192 := ve_ck_ok (vs_ok l) (ve_hi_nil) vk_192
set_option maxRecDepth 100000 in
theorem vo_193 (l : Launch) : ve_SO vs_A l 59 vs_M vm_193 := ve_ck_ok (vs_ok l) (ve_hi_some (vo_192 l) (ve_hi_nil)) vk_193
set_option maxRecDepth 100000 in
theorem vo_194 (l : Launch) : ve_SO vs_A l 59 vs_M vm_194 := ve_ck_ok (vs_ok l) (ve_hi_nil) vk_194
set_option maxRecDepth 100000 in
theorem vo_195 (l : Launch) : ve_SO vs_A l 59 vs_M vm_195 := ve_ck_ok (vs_ok l) (ve_hi_none (ve_hi_none (ve_hi_some (vo_187 l) (ve_hi_some (vo_193 l) (ve_hi_some (vo_194 l) (ve_hi_nil)))))) vk_195
set_option maxRecDepth 100000 in
theorem vo_196 (l : Launch) : ve_SO vs_A l 59 vs_M vm_196 := ve_ck_ok (vs_ok l) (ve_hi_some (vo_195 l) (ve_hi_nil)) vk_196
set_option maxRecDepth 100000 in
theorem vo_197 (l : Launch) : ve_SO vs_A l 59 vs_M vm_197 := ve_ck_ok (vs_ok l) (ve_hi_some (vo_195 l) (ve_hi_none (ve_hi_none (ve_hi_none (ve_hi_none (ve_hi_some (vo_196 l) (ve_hi_nil))))))) vk_197
set_option maxRecDepth 100000 in
theorem vo_198 (l : Launch) : ve_SO vs_A l 59 vs_M vm_198 := ve_ck_ok (vs_ok l) (ve_hi_none (ve_hi_none (ve_hi_none (ve_hi_none (ve_hi_none (ve_hi_none (ve_hi_none (ve_hi_some (vo_197 l) (ve_hi_nil))))))))) vk_198
set_option maxRecDepth 100000 in
theorem vo_199 (l : Launch) : ve_SO vs_A l 59 vs_M vm_199 := ve_ck_ok (vs_ok l) (ve_hi_nil) vk_199
set_option maxRecDepth 100000 in
theorem vo_200 (l : Launch) : ve_SO vs_A l 59 vs_M vm_200 := ve_ck_ok (vs_ok l) (ve_hi_nil) vk_200
set_option maxRecDepth 100000 in
theorem vo_201 (l : Launch) : ve_SO vs_A l 59 vs_M vm_201 := ve_ck_ok (vs_ok l) (ve_hi_some (vo_200 l) (ve_hi_nil)) vk_201
set_option maxRecDepth 100000 in
theorem vo_202 (l : Launch) : ve_SO vs_A l 59 vs_M vm_202 := ve_ck_ok (vs_ok l) (ve_hi_nil) vk_202
set_option maxRecDepth 100000 in
theorem vo_203 (l : Launch) : ve_SO vs_A l 59 vs_M vm_203 := ve_ck_ok (vs_ok l) (ve_hi_none (ve_hi_none (ve_hi_some (vo_195 l) (ve_hi_some (vo_201 l) (ve_hi_some (vo_202 l) (ve_hi_nil)))))) vk_203
set_option maxRecDepth 100000 in
theorem vo_204 (l : Launch) : ve_SO vs_A l 59 vs_M vm_204 := ve_ck_ok (vs_ok l) (ve_hi_some (vo_203 l) (ve_hi_nil)) vk_204
set_option maxRecDepth 100000 in
theorem vo_205 (l : Launch) : ve_SO vs_A l 59 vs_M vm_205 := ve_ck_ok (vs_ok l) (ve_hi_some (vo_203 l) (ve_hi_none (ve_hi_none (ve_hi_none (ve_hi_none (ve_hi_some (vo_204 l) (ve_hi_nil))))))) vk_205
set_option maxRecDepth 100000 in
theorem vo_206 (l : Launch) : ve_SO vs_A l 59 vs_M vm_206 := ve_ck_ok (vs_ok l) (ve_hi_none (ve_hi_none (ve_hi_none (ve_hi_none (ve_hi_none (ve_hi_none (ve_hi_none (ve_hi_some (vo_205 l) (ve_hi_nil))))))))) vk_206
set_option maxRecDepth 100000 in
theorem vo_207 (l : Launch) : ve_SO vs_A l 59 vs_M vm_207 := ve_ck_ok (vs_ok l) (ve_hi_nil) vk_207
set_option maxRecDepth 100000 in
theorem vo_208 (l : Launch) : ve_SO vs_A l 59 vs_M vm_208 := ve_ck_ok (vs_ok l) (ve_hi_nil) vk_208
set_option maxRecDepth 100000 in
theorem vo_209 (l : Launch) : ve_SO vs_A l 59 vs_M vm_209 := ve_ck_ok (vs_ok l) (ve_hi_some (vo_208 l) (ve_hi_nil)) vk_209
set_option maxRecDepth 100000 in
theorem vo_210 (l : Launch) : ve_SO vs_A l 59 vs_M vm_210 := ve_ck_ok (vs_ok l) (ve_hi_nil) vk_210
set_option maxRecDepth 100000 in
theorem vo_211 (l : Launch) : ve_SO vs_A l 59 vs_M vm_211 := ve_ck_ok (vs_ok l) (ve_hi_none (ve_hi_none (ve_hi_some (vo_203 l) (ve_hi_some (vo_209 l) (ve_hi_some (vo_210 l) (ve_hi_nil)))))) vk_211
set_option maxRecDepth 100000 in
theorem vo_212 (l : Launch) : ve_SO vs_A l 59 vs_M vm_212 := ve_ck_ok (vs_ok l) (ve_hi_some (vo_211 l) (ve_hi_nil)) vk_212
set_option maxRecDepth 100000 in
theorem vo_213 (l : Launch) : ve_SO vs_A l 59 vs_M vm_213 := ve_ck_ok (vs_ok l) (ve_hi_some (vo_211 l) (ve_hi_none (ve_hi_none (ve_hi_none (ve_hi_none (ve_hi_some (vo_212 l) (ve_hi_nil))))))) vk_213
set_option maxRecDepth 100000 in
theorem vo_214 (l : Launch) : ve_SO vs_A l 59 vs_M vm_214 := ve_ck_ok (vs_ok l) (ve_hi_none (ve_hi_none (ve_hi_none (ve_hi_none (ve_hi_none (ve_hi_none (ve_hi_none (ve_hi_some (vo_213 l) (ve_hi_nil))))))))) vk_214
set_option maxRecDepth 100000 in
theorem vo_215 (l : Launch) : ve_SO vs_A l 59 vs_M vm_215 := ve_ck_ok (vs_ok l) (ve_hi_nil) vk_215
set_option maxRecDepth 100000 in
theorem vo_216 (l : Launch) : ve_SO vs_A l 59 vs_M vm_216 := ve_ck_ok (vs_ok l) (ve_hi_some (vo_211 l) (ve_hi_nil)) vk_216
set_option maxRecDepth 100000 in
theorem vo_217 (l : Launch) : ve_SO vs_A l 59 vs_M vm_217 := ve_ck_ok (vs_ok l) (ve_hi_some (vo_211 l) (ve_hi_none (ve_hi_none (ve_hi_none (ve_hi_none (ve_hi_some (vo_216 l) (ve_hi_nil))))))) vk_217
set_option maxRecDepth 100000 in
theorem vo_218 (l : Launch) : ve_SO vs_A l 59 vs_M vm_218 := ve_ck_ok (vs_ok l) (ve_hi_none (ve_hi_none (ve_hi_none (ve_hi_none (ve_hi_none (ve_hi_none (ve_hi_none (ve_hi_some (vo_217 l) (ve_hi_nil))))))))) vk_218
set_option maxRecDepth 100000 in
theorem vo_219 (l : Launch) : ve_SO vs_A l 59 vs_M vm_219 := ve_ck_ok (vs_ok l) (ve_hi_nil) vk_219
set_option maxRecDepth 100000 in
theorem vo_220 (l : Launch) : ve_SO vs_A l 59 vs_M vm_220 := ve_ck_ok (vs_ok l) (ve_hi_some (vo_211 l) (ve_hi_nil)) vk_220
set_option maxRecDepth 100000 in
theorem vo_221 (l : Launch) : ve_SO vs_A l 59 vs_M vm_221 := ve_ck_ok (vs_ok l) (ve_hi_some (vo_211 l) (ve_hi_none (ve_hi_none (ve_hi_none (ve_hi_none (ve_hi_some (vo_220 l) (ve_hi_nil))))))) vk_221
set_option maxRecDepth 100000 in
theorem vo_222 (l : Launch) : ve_SO vs_A l 59 vs_M vm_222 := ve_ck_ok (vs_ok l) (ve_hi_none (ve_hi_none (ve_hi_none (ve_hi_none (ve_hi_none (ve_hi_none (ve_hi_none (ve_hi_some (vo_221 l) (ve_hi_nil))))))))) vk_222
set_option maxRecDepth 100000 in
theorem vo_223 (l : Launch) : ve_SO vs_A l 59 vs_M vm_223 := ve_ck_ok (vs_ok l) (ve_hi_nil) vk_223
set_option maxRecDepth 100000 in
theorem vo_224 (l : Launch) : ve_SO vs_A l 59 vs_M vm_224 := ve_ck_ok (vs_ok l) (ve_hi_some (vo_211 l) (ve_hi_nil)) vk_224
set_option maxRecDepth 100000 in
theorem vo_225 (l : Launch) : ve_SO vs_A l 59 vs_M vm_225 := ve_ck_ok (vs_ok l) (ve_hi_some (vo_211 l) (ve_hi_none (ve_hi_none (ve_hi_none (ve_hi_none (ve_hi_some (vo_224 l) (ve_hi_nil))))))) vk_225
set_option maxRecDepth 100000 in
theorem vo_226 (l : Launch) : ve_SO vs_A l 59 vs_M vm_226 := ve_ck_ok (vs_ok l) (ve_hi_none (ve_hi_none (ve_hi_none (ve_hi_none (ve_hi_none (ve_hi_none (ve_hi_none (ve_hi_some (vo_225 l) (ve_hi_nil))))))))) vk_226
set_option maxRecDepth 100000 in
theorem vo_227 (l : Launch) : ve_SO vs_A l 59 vs_M vm_227 := ve_ck_ok (vs_ok l) (ve_hi_nil) vk_227
set_option maxRecDepth 100000 in
theorem vo_228 (l : Launch) : ve_SO vs_A l 59 vs_M vm_228 := ve_ck_ok (vs_ok l) (ve_hi_some (vo_211 l) (ve_hi_nil)) vk_228
set_option maxRecDepth 100000 in
theorem vo_229 (l : Launch) : ve_SO vs_A l 59 vs_M vm_229 := ve_ck_ok (vs_ok l) (ve_hi_some (vo_211 l) (ve_hi_none (ve_hi_none (ve_hi_none (ve_hi_none (ve_hi_some (vo_228 l) (ve_hi_nil))))))) vk_229
set_option maxRecDepth 100000 in
theorem vo_230 (l : Launch) : ve_SO vs_A l 59 vs_M vm_230 := ve_ck_ok (vs_ok l) (ve_hi_none (ve_hi_none (ve_hi_none (ve_hi_none (ve_hi_none (ve_hi_none (ve_hi_none (ve_hi_some (vo_229 l) (ve_hi_nil))))))))) vk_230
set_option maxRecDepth 100000 in
theorem vo_231 (l : Launch) : ve_SO vs_A l 59 vs_M vm_231 := ve_ck_ok (vs_ok l) (ve_hi_nil) vk_231
set_option maxRecDepth 100000 in
theorem vo_232 (l : Launch) : ve_SO vs_A l 59 vs_M vm_232 := ve_ck_ok (vs_ok l) (ve_hi_some (vo_211 l) (ve_hi_nil)) vk_232
set_option maxRecDepth 100000 in
theorem vo_233 (l : Launch) : ve_SO vs_A l 59 vs_M vm_233 := ve_ck_ok (vs_ok l) (ve_hi_some (vo_211 l) (ve_hi_none (ve_hi_none (ve_hi_none (ve_hi_none (ve_hi_some (vo_232 l) (ve_hi_nil))))))) vk_233
set_option maxRecDepth 100000 in
theorem vo_234 (l : Launch) : ve_SO vs_A l 59 vs_M vm_234 := ve_ck_ok (vs_ok l) (ve_hi_none (ve_hi_none (ve_hi_none (ve_hi_none (ve_hi_none (ve_hi_none (ve_hi_none (ve_hi_some (vo_233 l) (ve_hi_nil))))))))) vk_234
set_option maxRecDepth 100000 in
theorem vo_235 (l : Launch) : ve_SO vs_A l 59 vs_M vm_235 := ve_ck_ok (vs_ok l) (ve_hi_nil) vk_235
set_option maxRecDepth 100000 in
theorem vo_236 (l : Launch) : ve_SO vs_A l 59 vs_M vm_236 := ve_ck_ok (vs_ok l) (ve_hi_some (vo_211 l) (ve_hi_nil)) vk_236
set_option maxRecDepth 100000 in
theorem vo_237 (l : Launch) : ve_SO vs_A l 59 vs_M vm_237 := ve_ck_ok (vs_ok l) (ve_hi_some (vo_211 l) (ve_hi_none (ve_hi_none (ve_hi_none (ve_hi_none (ve_hi_some (vo_236 l) (ve_hi_nil))))))) vk_237
set_option maxRecDepth 100000 in
theorem vo_238 (l : Launch) : ve_SO vs_A l 59 vs_M vm_238 := ve_ck_ok (vs_ok l) (ve_hi_none (ve_hi_none (ve_hi_none (ve_hi_none (ve_hi_none (ve_hi_none (ve_hi_none (ve_hi_some (vo_237 l) (ve_hi_nil))))))))) vk_238
set_option maxRecDepth 100000 in
theorem vo_239 (l : Launch) : ve_SO vs_A l 59 vs_M vm_239 := ve_ck_ok (vs_ok l) (ve_hi_nil) vk_239
set_option maxRecDepth 100000 in
theorem vo_240 (l : Launch) : ve_SO vs_A l 59 vs_M vm_240 := ve_ck_ok (vs_ok l) (ve_hi_some (vo_211 l) (ve_hi_nil)) vk_240
set_option maxRecDepth 100000 in
theorem vo_241 (l : Launch) : ve_SO vs_A l 59 vs_M vm_241 := ve_ck_ok (vs_ok l) (ve_hi_some (vo_211 l) (ve_hi_none (ve_hi_none (ve_hi_none (ve_hi_none (ve_hi_some (vo_240 l) (ve_hi_nil))))))) vk_241
set_option maxRecDepth 100000 in
theorem vo_242 (l : Launch) : ve_SO vs_A l 59 vs_M vm_242 := ve_ck_ok (vs_ok l) (ve_hi_none (ve_hi_none (ve_hi_none (ve_hi_none (ve_hi_none (ve_hi_none (ve_hi_none (ve_hi_some (vo_241 l) (ve_hi_nil))))))))) vk_242
set_option maxRecDepth 100000 in
theorem vo_243 (l : Launch) : ve_SO vs_A l 59 vs_M vm_243 := ve_ck_ok (vs_ok l) (ve_hi_nil) vk_243
set_option maxRecDepth 100000 in
theorem vo_244 (l : Launch) : ve_SO vs_A l 59 vs_M vm_244 := ve_ck_ok (vs_ok l) (ve_hi_some (vo_211 l) (ve_hi_nil)) vk_244
set_option maxRecDepth 100000 in
theorem vo_245 (l : Launch) : ve_SO vs_A l 59 vs_M vm_245 := ve_ck_ok (vs_ok l) (ve_hi_some (vo_211 l) (ve_hi_none (ve_hi_none (ve_hi_none (ve_hi_none (ve_hi_some (vo_244 l) (ve_hi_nil))))))) vk_245
set_option maxRecDepth 100000 in
theorem vo_246 (l : Launch) : ve_SO vs_A l 59 vs_M vm_246 := ve_ck_ok (vs_ok l) (ve_hi_none (ve_hi_none (ve_hi_none (ve_hi_none (ve_hi_none (ve_hi_none (ve_hi_none (ve_hi_some (vo_245 l) (ve_hi_nil))))))))) vk_246
set_option maxRecDepth 100000 in
theorem vo_247 (l : Launch) : ve_SO vs_A l 59 vs_M vm_247 := ve_ck_ok (vs_ok l) (ve_hi_nil) vk_247
set_option maxRecDepth 100000 in
theorem vo_248 (l : Launch) : ve_SO vs_A l 59 vs_M vm_248 := ve_ck_ok (vs_ok l) (ve_hi_some (vo_211 l) (ve_hi_nil)) vk_248
set_option maxRecDepth 100000 in
theorem vo_249 (l : Launch) : ve_SO vs_A l 59 vs_M vm_249 := ve_ck_ok (vs_ok l) (ve_hi_some (vo_211 l) (ve_hi_none (ve_hi_none (ve_hi_none (ve_hi_none (ve_hi_some (vo_248 l) (ve_hi_nil))))))) vk_249
set_option maxRecDepth 100000 in
theorem vo_250 (l : Launch) : ve_SO vs_A l 59 vs_M vm_250 := ve_ck_ok (vs_ok l) (ve_hi_none (ve_hi_none (ve_hi_none (ve_hi_none (ve_hi_none (ve_hi_none (ve_hi_none (ve_hi_some (vo_249 l) (ve_hi_nil))))))))) vk_250
set_option maxRecDepth 100000 in
theorem vo_251 (l : Launch) : ve_SO vs_A l 59 vs_M vm_251 := ve_ck_ok (vs_ok l) (ve_hi_nil) vk_251
set_option maxRecDepth 100000 in
theorem vo_252 (l : Launch) : ve_SO vs_A l 59 vs_M vm_252 := ve_ck_ok (vs_ok l) (ve_hi_some (vo_251 l) (ve_hi_nil)) vk_252
set_option maxRecDepth 100000 in
theorem vo_253 (l : Launch) : ve_SO vs_A l 59 vs_M vm_253 := ve_ck_ok (vs_ok l) (ve_hi_nil) vk_253
set_option maxRecDepth 100000 in
theorem vo_254 (l : Launch) : ve_SO vs_A l 59 vs_M vm_254 := ve_ck_ok (vs_ok l) (ve_hi_nil) vk_254
set_option maxRecDepth 100000 in
theorem vo_255 (l : Launch) : ve_SO vs_A l 59 vs_M vm_255 := ve_ck_ok (vs_ok l) (ve_hi_some (vo_254 l) (ve_hi_nil)) vk_255
set_option maxRecDepth 100000 in
theorem vo_256 (l : Launch) : ve_SO vs_A l 59 vs_M vm_256 := ve_ck_ok (vs_ok l) (ve_hi_some (vo_255 l) (ve_hi_nil)) vk_256
set_option maxRecDepth 100000 in
theorem vo_257 (l : Launch) : ve_SO vs_A l 59 vs_M vm_257 := ve_ck_ok (vs_ok l) (ve_hi_some (vo_256 l) (ve_hi_nil)) vk_257
set_option maxRecDepth 100000 in
theorem vo_258 (l : Launch) : ve_SO vs_A l 59 vs_M vm_258 := ve_ck_ok (vs_ok l) (ve_hi_some (vo_257 l) (ve_hi_nil)) vk_258
set_option maxRecDepth 100000 in
theorem vo_259 (l : Launch) : ve_SO vs_A l 59 vs_M vm_259 := ve_ck_ok (vs_ok l) (ve_hi_some (vo_258 l) (ve_hi_nil)) vk_259
set_option maxRecDepth 100000 in
theorem vo_260 (l : Launch) : ve_SO vs_A l 59 vs_M vm_260 := ve_ck_ok (vs_ok l) (ve_hi_some (vo_259 l) (ve_hi_nil)) vk_260
set_option maxRecDepth 100000 in
theorem vo_261 (l : Launch) : ve_SO vs_A l 59 vs_M vm_261 := ve_ck_ok (vs_ok l) (ve_hi_some (vo_260 l) (ve_hi_nil)) vk_261
set_option maxRecDepth 100000 in
theorem vo_262 (l : Launch) : ve_SO vs_A l 59 vs_M vm_262 := ve_ck_ok (vs_ok l) (ve_hi_some (vo_261 l) (ve_hi_nil)) vk_262
set_option maxRecDepth 100000 in
theorem vo_263 (l : Launch) : ve_SO vs_A l 59 vs_M vm_263 := ve_ck_ok (vs_ok l) (ve_hi_some (vo_262 l) (ve_hi_nil)) vk_263
set_option maxRecDepth 100000 in
theorem vo_264 (l : Launch) : ve_SO vs_A l 59 vs_M vm_264 := ve_ck_ok (vs_ok l) (ve_hi_some (vo_263 l) (ve_hi_nil)) vk_264
set_option maxRecDepth 100000 in
theorem vo_265 (l : Launch) : ve_SO vs_A l 59 vs_M vm_265 := ve_ck_ok (vs_ok l) (ve_hi_some (vo_264 l) (ve_hi_nil)) vk_265
set_option maxRecDepth 100000 in
theorem vo_266 (l : Launch) : ve_SO vs_A l 59 vs_M vm_266 := ve_ck_ok (vs_ok l) (ve_hi_some (vo_265 l) (ve_hi_nil)) vk_266
set_option maxRecDepth 100000 in
theorem vo_267 (l : Launch) : ve_SO vs_A l 59 vs_M vm_267 := ve_ck_ok (vs_ok l) (ve_hi_some (vo_266 l) (ve_hi_nil)) vk_267
set_option maxRecDepth 100000 in
theorem vo_268 (l : Launch) : ve_SO vs_A l 59 vs_M vm_268 := ve_ck_ok (vs_ok l) (ve_hi_some (vo_267 l) (ve_hi_nil)) vk_268
set_option maxRecDepth 100000 in
theorem vo_269 (l : Launch) : ve_SO vs_A l 59 vs_M vm_269 := ve_ck_ok (vs_ok l) (ve_hi_some (vo_268 l) (ve_hi_nil)) vk_269
set_option maxRecDepth 100000 in
theorem vo_270 (l : Launch) : ve_SO vs_A l 59 vs_M vm_270 := ve_ck_ok (vs_ok l) (ve_hi_some (vo_269 l) (ve_hi_nil)) vk_270
set_option maxRecDepth 100000 in
theorem vo_271 (l : Launch) : ve_SO vs_A l 59 vs_M vm_271 := ve_ck_ok (vs_ok l) (ve_hi_some (vo_270 l) (ve_hi_nil)) vk_271
set_option maxRecDepth 100000 in
theorem vo_272 (l : Launch) : ve_SO vs_A l 59 vs_M vm_272 := ve_ck_ok (vs_ok l) (ve_hi_some (vo_271 l) (ve_hi_nil)) vk_272
set_option maxRecDepth 100000 in
theorem vo_273 (l : Launch) : ve_SO vs_A l 59 vs_M vm_273 := ve_ck_ok (vs_ok l) (ve_hi_some (vo_272 l) (ve_hi_nil)) vk_273
set_option maxRecDepth 100000 in
theorem vo_274 (l : Launch) : ve_SO vs_A l 59 vs_M vm_274 := ve_ck_ok (vs_ok l) (ve_hi_some (vo_273 l) (ve_hi_nil)) vk_274
set_option maxRecDepth 100000 in
theorem vo_275 (l : Launch) : ve_SO vs_A l 59 vs_M vm_275 := ve_ck_ok (vs_ok l) (ve_hi_some (vo_274 l) (ve_hi_nil)) vk_275
set_option maxRecDepth 100000 in
theorem vo_276 (l : Launch) : ve_SO vs_A l 59 vs_M vm_276 := ve_ck_ok (vs_ok l) (ve_hi_some (vo_275 l) (ve_hi_nil)) vk_276
set_option maxRecDepth 100000 in
theorem vo_277 (l : Launch) : ve_SO vs_A l 59 vs_M vm_277 := ve_ck_ok (vs_ok l) (ve_hi_some (vo_276 l) (ve_hi_nil)) vk_277
set_option maxRecDepth 100000 in
theorem vo_278 (l : Launch) : ve_SO vs_A l 59 vs_M vm_278 := ve_ck_ok (vs_ok l) (ve_hi_some (vo_277 l) (ve_hi_nil)) vk_278
set_option maxRecDepth 100000 in
theorem vo_279 (l : Launch) : ve_SO vs_A l 59 vs_M vm_279 := ve_ck_ok (vs_ok l) (ve_hi_some (vo_278 l) (ve_hi_nil)) vk_279
set_option maxRecDepth 100000 in
theorem vo_280 (l : Launch) : ve_SO vs_A l 59 vs_M vm_280 := ve_ck_ok (vs_ok l) (ve_hi_some (vo_279 l) (ve_hi_nil)) vk_280
set_option maxRecDepth 100000 in
theorem vo_281 (l : Launch) : ve_SO vs_A l 59 vs_M vm_281 := ve_ck_ok (vs_ok l) (ve_hi_some (vo_280 l) (ve_hi_nil)) vk_281
set_option maxRecDepth 100000 in
theorem vo_282 (l : Launch) : ve_SO vs_A l 59 vs_M vm_282 := ve_ck_ok (vs_ok l) (ve_hi_some (vo_281 l) (ve_hi_nil)) vk_282
set_option maxRecDepth 100000 in
theorem vo_283 (l : Launch) : ve_SO vs_A l 59 vs_M vm_283 := ve_ck_ok (vs_ok l) (ve_hi_some (vo_282 l) (ve_hi_nil)) vk_283
set_option maxRecDepth 100000 in
theorem vo_284 (l : Launch) : ve_SO vs_A l 59 vs_M vm_284 := ve_ck_ok (vs_ok l) (ve_hi_nil) vk_284
set_option maxRecDepth 100000 in
theorem vo_285 (l : Launch) : ve_SO vs_A l 59 vs_M vm_285 := ve_ck_ok (vs_ok l) (ve_hi_none (ve_hi_none (ve_hi_none (ve_hi_some (vo_283 l) (ve_hi_some (vo_284 l) (ve_hi_nil)))))) vk_285
set_option maxRecDepth 100000 in
theorem vo_286 (l : Launch) : ve_SO vs_A l 59 vs_M vm_286 := ve_ck_ok (vs_ok l) (ve_hi_nil) vk_286
set_option maxRecDepth 100000 in
theorem vo_287 (l : Launch) : ve_SO vs_A l 59 vs_M vm_287 := ve_ck_ok (vs_ok l) (ve_hi_none (ve_hi_none (ve_hi_none (ve_hi_some (vo_283 l) (ve_hi_some (vo_286 l) (ve_hi_nil)))))) vk_287
set_option maxRecDepth 100000 in
theorem vo_288 (l : Launch) : ve_SO vs_A l 59 vs_M vm_288 := ve_ck_ok (vs_ok l) (ve_hi_nil) vk_288
set_option maxRecDepth 100000 in
theorem vo_289 (l : Launch) : ve_SO vs_A l 59 vs_M vm_289 := ve_ck_ok (vs_ok l) (ve_hi_none (ve_hi_none (ve_hi_none (ve_hi_some (vo_283 l) (ve_hi_some (vo_288 l) (ve_hi_nil)))))) vk_289
set_option maxRecDepth 100000 in
theorem vo_290 (l : Launch) : ve_SO vs_A l 59 vs_M vm_290 := ve_ck_ok (vs_ok l) (ve_hi_nil) vk_290
set_option maxRecDepth 100000 in
theorem vo_291 (l : Launch) : ve_SO vs_A l 59 vs_M vm_291 := ve_ck_ok (vs_ok l) (ve_hi_none (ve_hi_none (ve_hi_none (ve_hi_some (vo_283 l) (ve_hi_some (vo_290 l) (ve_hi_nil)))))) vk_291
set_option maxRecDepth 100000 in
theorem vo_292 (l : Launch) : ve_SO vs_A l 59 vs_M vm_292 := ve_ck_ok (vs_ok l) (ve_hi_nil) vk_292
set_option maxRecDepth 100000 in
theorem vo_293 (l : Launch) : ve_SO vs_A l 59 vs_M vm_293 := ve_ck_ok (vs_ok l) (ve_hi_none (ve_hi_none (ve_hi_none (ve_hi_some (vo_283 l) (ve_hi_some (vo_292 l) (ve_hi_nil)))))) vk_293
set_option maxRecDepth 100000 in
theorem vo_294 (l : Launch) : ve_SO vs_A l 59 vs_M vm_294 := ve_ck_ok (vs_ok l) (ve_hi_nil) vk_294
set_option maxRecDepth 100000 in
theorem vo_295 (l : Launch) : ve_SO vs_A l 59 vs_M vm_295 := ve_ck_ok (vs_ok l) (ve_hi_none (ve_hi_none (ve_hi_none (ve_hi_some (vo_283 l) (ve_hi_some (vo_294 l) (ve_hi_nil)))))) vk_295
set_option maxRecDepth 100000 in
theorem vo_296 (l : Launch) : ve_SO vs_A l 59 vs_M vm_296 := ve_ck_ok (vs_ok l) (ve_hi_nil) vk_296
set_option maxRecDepth 100000 in
theorem vo_297 (l : Launch) : ve_SO vs_A l 59 vs_M vm_297 := ve_ck_ok (vs_ok l) (ve_hi_none (ve_hi_none (ve_hi_none (ve_hi_some (vo_283 l) (ve_hi_some (vo_296 l) (ve_hi_nil)))))) vk_297
set_option maxRecDepth 100000 in
theorem vo_298 (l : Launch) : ve_SO vs_A l 59 vs_M vm_298 := ve_ck_ok (vs_ok l) (ve_hi_nil) vk_298
set_option maxRecDepth 100000 in
theorem vo_299 (l : Launch) : ve_SO vs_A l 59 vs_M vm_299 := ve_ck_ok (vs_ok l) (ve_hi_none (ve_hi_none (ve_hi_none (ve_hi_some (vo_283 l) (ve_hi_some (vo_298 l) (ve_hi_nil)))))) vk_299
set_option maxRecDepth 100000 in
theorem vo_300 (l : Launch) : ve_SO vs_A l 59 vs_M vm_300 := ve_ck_ok (vs_ok l) (ve_hi_nil) vk_300
set_option maxRecDepth 100000 in
theorem vo_301 (l : Launch) : ve_SO vs_A l 59 vs_M vm_301 := ve_ck_ok (vs_ok l) (ve_hi_none (ve_hi_none (ve_hi_none (ve_hi_some (vo_283 l) (ve_hi_some (vo_300 l) (ve_hi_nil)))))) vk_301
set_option maxRecDepth 100000 in
theorem vo_302 (l : Launch) : ve_SO vs_A l 59 vs_M vm_302 := ve_ck_ok (vs_ok l) (ve_hi_nil) vk_302
set_option maxRecDepth 100000 in
theorem vo_303 (l : Launch) : ve_SO vs_A l 59 vs_M vm_303 := ve_ck_ok (vs_ok l) (ve_hi_nil) vk_303
set_option maxRecDepth 100000 in
theorem vo_304 (l : Launch) : ve_SO vs_A l 59 vs_M vm_304 := ve_ck_ok (vs_ok l) (ve_hi_none (ve_hi_none (ve_hi_none (ve_hi_none (ve_hi_none (ve_hi_none (ve_hi_none (ve_hi_none (ve_hi_some (vo_302 l) (ve_hi_some (vo_303 l) (ve_hi_nil))))))))))) vk_304
set_option maxRecDepth 100000 in
theorem vo_305 (l : Launch) : ve_SO vs_A l 59 vs_M vm_305 := ve_ck_ok (vs_ok l) (ve_hi_nil) vk_305
set_option maxRecDepth 100000 in
theorem vo_306 (l : Launch) : ve_SO vs_A l 59 vs_M vm_306 := ve_ck_ok (vs_ok l) (ve_hi_none (ve_hi_none (ve_hi_none (ve_hi_none (ve_hi_none (ve_hi_none (ve_hi_none (ve_hi_none (ve_hi_some (vo_302 l) (ve_hi_some (vo_305 l) (ve_hi_nil))))))))))) vk_306
set_option maxRecDepth 100000 in
theorem vo_307 (l : Launch) : ve_SO vs_A l 59 vs_M vm_307 := ve_ck_ok (vs_ok l) (ve_hi_none (ve_hi_none (ve_hi_none (ve_hi_none (ve_hi_none (ve_hi_none (ve_hi_none (ve_hi_none (ve_hi_some (vo_302 l) (ve_hi_some (vo_305 l) (ve_hi_nil))))))))))) vk_307
set_option maxRecDepth 100000 in
theorem vo_308 (l : Launch) : ve_SO vs_A l 59 vs_M vm_308 := ve_ck_ok (vs_ok l) (ve_hi_none (ve_hi_none (ve_hi_none (ve_hi_none (ve_hi_none (ve_hi_none (ve_hi_none (ve_hi_none (ve_hi_some (vo_302 l) (ve_hi_some (vo_305 l) (ve_hi_nil))))))))))) vk_308
set_option maxRecDepth 100000 in
theorem vo_309 (l : Launch) : ve_SO vs_A l 59 vs_M vm_309 := ve_ck_ok (vs_ok l) (ve_hi_none (ve_hi_none (ve_hi_none (ve_hi_none (ve_hi_none (ve_hi_none (ve_hi_none (ve_hi_none (ve_hi_some (vo_302 l) (ve_hi_some (vo_305 l) (ve_hi_nil))))))))))) vk_309
set_option maxRecDepth 100000 in
theorem vo_310 (l : Launch) : ve_SO vs_A l 59 vs_M vm_310 := ve_ck_ok (vs_ok l) (ve_hi_none (ve_hi_none (ve_hi_none (ve_hi_none (ve_hi_none (ve_hi_none (ve_hi_none (ve_hi_none (ve_hi_some (vo_302 l) (ve_hi_some (vo_305 l) (ve_hi_nil))))))))))) vk_310
set_option maxRecDepth 100000 in
theorem vo_311 (l : Launch) : ve_SO vs_A l 59 vs_M vm_311 := ve_ck_ok (vs_ok l) (ve_hi_none (ve_hi_none (ve_hi_none (ve_hi_none (ve_hi_none (ve_hi_none (ve_hi_none (ve_hi_none (ve_hi_some (vo_302 l) (ve_hi_some (vo_305 l) (ve_hi_nil))))))))))) vk_311
set_option maxRecDepth 100000 in
theorem vo_312 (l : Launch) : ve_SO vs_A l 59 vs_M vm_312 := ve_ck_ok (vs_ok l) (ve_hi_none (ve_hi_none (ve_hi_none (ve_hi_none (ve_hi_none (ve_hi_none (ve_hi_none (ve_hi_none (ve_hi_some (vo_302 l) (ve_hi_some (vo_305 l) (ve_hi_nil))))))))))) vk_312
set_option maxRecDepth 100000 in
theorem vo_313 (l : Launch) : ve_SO vs_A l 59 vs_M vm_313 := ve_ck_ok (vs_ok l) (ve_hi_none (ve_hi_none (ve_hi_none (ve_hi_none (ve_hi_none (ve_hi_none (ve_hi_none (ve_hi_none (ve_hi_some (vo_302 l) (ve_hi_some (vo_305 l) (ve_hi_nil))))))))))) vk_313
set_option maxRecDepth 100000 in
theorem vo_314 (l : Launch) : ve_SO vs_A l 59 vs_M vm_314 := ve_ck_ok (vs_ok l) (ve_hi_none (ve_hi_none (ve_hi_none (ve_hi_none (ve_hi_none (ve_hi_none (ve_hi_none (ve_hi_none (ve_hi_some (vo_302 l) (ve_hi_some (vo_305 l) (ve_hi_nil))))))))))) vk_314
set_option maxRecDepth 100000 in
theorem vo_315 (l : Launch) : ve_SO vs_A l 59 vs_M vm_315 := ve_ck_ok (vs_ok l) (ve_hi_some (vo_304 l) (ve_hi_some (vo_304 l) (ve_hi_some (vo_306 l) (ve_hi_some (vo_306 l) (ve_hi_some (vo_307 l) (ve_hi_some (vo_307 l) (ve_hi_some (vo_308 l) (ve_hi_some (vo_308 l) (ve_hi_some (vo_309 l) (ve_hi_some (vo_309 l) (ve_hi_some (vo_310 l) (ve_hi_some (vo_310 l) (ve_hi_some (vo_311 l) (ve_hi_some (vo_311 l) (ve_hi_some (vo_312 l) (ve_hi_some (vo_312 l) (ve_hi_some (vo_313 l) (ve_hi_some (vo_313 l) (ve_hi_some (vo_314 l) (ve_hi_some (vo_314 l) (ve_hi_nil))))))))))))))))))))) vk_315
set_option maxRecDepth 100000 in
theorem vo_316 (l : Launch) : ve_SO vs_A l 59 vs_M vm_316 := ve_ck_ok (vs_ok l) (ve_hi_none (ve_hi_none (ve_hi_some (vo_252 l) (ve_hi_none (ve_hi_none (ve_hi_none (ve_hi_none (ve_hi_none (ve_hi_none (ve_hi_none (ve_hi_none (ve_hi_none (ve_hi_none (ve_hi_none (ve_hi_none (ve_hi_none (ve_hi_none (ve_hi_none (ve_hi_none (ve_hi_none (ve_hi_none (ve_hi_none (ve_hi_none (ve_hi_none (ve_hi_none (ve_hi_none (ve_hi_none (ve_hi_none (ve_hi_none (ve_hi_none (ve_hi_none (ve_hi_none (ve_hi_none (ve_hi_none (ve_hi_none (ve_hi_none (ve_hi_none (ve_hi_none (ve_hi_none (ve_hi_none (ve_hi_none (ve_hi_none (ve_hi_none (ve_hi_none (ve_hi_none (ve_hi_none (ve_hi_none (ve_hi_none (ve_hi_none (ve_hi_none (ve_hi_none (ve_hi_none (ve_hi_none (ve_hi_none (ve_hi_none (ve_hi_none (ve_hi_none (ve_hi_none (ve_hi_none (ve_hi_none (ve_hi_none (ve_hi_none (ve_hi_none (ve_hi_none (ve_hi_none (ve_hi_none (ve_hi_none (ve_hi_none (ve_hi_none (ve_hi_none (ve_hi_none (ve_hi_none (ve_hi_none (ve_hi_none (ve_hi_none (ve_hi_none (ve_hi_none (ve_hi_none (ve_hi_none (ve_hi_none (ve_hi_none (ve_hi_none (ve_hi_none (ve_hi_none (ve_hi_none (ve_hi_none (ve_hi_none (ve_hi_none (ve_hi_none (ve_hi_none (ve_hi_none (ve_hi_none (ve_hi_none (ve_hi_none (ve_hi_none (ve_hi_none (ve_hi_none (ve_hi_none (ve_hi_none (ve_hi_none (ve_hi_none (ve_hi_none (ve_hi_none (ve_hi_none (ve_hi_none (ve_hi_none (ve_hi_none (ve_hi_none (ve_hi_none (ve_hi_none (ve_hi_none (ve_hi_none (ve_hi_none (ve_hi_none (ve_hi_none (ve_hi_none (ve_hi_none (ve_hi_none (ve_hi_none (ve_hi_none (ve_hi_none (ve_hi_none (ve_hi_none (ve_hi_none (ve_hi_none (ve_hi_none (ve_hi_none (ve_hi_none (ve_hi_none (ve_hi_none (ve_hi_none (ve_hi_none (ve_hi_none (ve_hi_none (ve_hi_none (ve_hi_none (ve_hi_none (ve_hi_none (ve_hi_none (ve_hi_none (ve_hi_none (ve_hi_none (ve_hi_none (ve_hi_none (ve_hi_none (ve_hi_none (ve_hi_none (ve_hi_none (ve_hi_none (ve_hi_none (ve_hi_none (ve_hi_none (ve_hi_none (ve_hi_none (ve_hi_none (ve_hi_none (ve_hi_none (ve_hi_none (ve_hi_none (ve_hi_none (ve_hi_none (ve_hi_none (ve_hi_none (ve_hi_none (ve_hi_none (ve_hi_none (ve_hi_none (ve_hi_none (ve_hi_none (ve_hi_none (ve_hi_none (ve_hi_none (ve_hi_none (ve_hi_none (ve_hi_none (ve_hi_none (ve_hi_none (ve_hi_none (ve_hi_none (ve_hi_none (ve_hi_none (ve_hi_none (ve_hi_none (ve_hi_none (ve_hi_none (ve_hi_none (ve_hi_none (ve_hi_none (ve_hi_none (ve_hi_none (ve_hi_none (ve_hi_none (ve_hi_none (ve_hi_none (ve_hi_none (ve_hi_none (ve_hi_none (ve_hi_none (ve_hi_none (ve_hi_none (ve_hi_none (ve_hi_none (ve_hi_none (ve_hi_none (ve_hi_none (ve_hi_none (ve_hi_some (vo_253 l) (ve_hi_some (vo_285 l) (ve_hi_some (vo_287 l) (ve_hi_some (vo_289 l) (ve_hi_some (vo_291 l) (ve_hi_some (vo_293 l) (ve_hi_some (vo_295 l) (ve_hi_some (vo_297 l) (ve_hi_some (vo_299 l) (ve_hi_some (vo_301 l) (ve_hi_some (vo_315 l) (ve_hi_nil)))))))))))))))))))))))))))))))))))))))))))))))))))))))))))))))))))))))))))))))))))))))))))))))))))))))))))))))))))))))))))))))))))))))))))))))))))))))))))))))))))))))))))))))))))))))))))))))))))))))))))))))))))))))))) vk_316
set_option maxRecDepth 100000 in
theorem vo_317 (l : Launch) : ve_SO vs_A l 59 vs_M vm_317 := ve_ck_ok (vs_ok l) (ve_hi_nil) vk_317
set_option maxRecDepth 100000 in
theorem vo_318 (l : Launch) : ve_SO vs_A l 59 vs_M vm_318 := ve_ck_ok (vs_ok l) (ve_hi_none (ve_hi_some (vo_317 l) (ve_hi_nil))) vk_318
set_option maxRecDepth 100000 in
theorem vo_319 (l : Launch) : ve_SO vs_A l 59 vs_M vm_319 := ve_ck_ok (vs_ok l) (ve_hi_none (ve_hi_some (vo_318 l) (ve_hi_nil))) vk_319
set_option maxRecDepth 100000 in
theorem vo_320 (l : Launch) : ve_SO vs_A l 59 vs_M vm_320 := ve_ck_ok (vs_ok l) (ve_hi_none (ve_hi_some (vo_319 l) (ve_hi_nil))) vk_320
set_option maxRecDepth 100000 in
theorem vo_321 (l : Launch) : ve_SO vs_A l 59 vs_M vm_321 := ve_ck_ok (vs_ok l) (ve_hi_none (ve_hi_some (vo_320 l) (ve_hi_nil))) vk_321
set_option maxRecDepth 100000 in
theorem vo_322 (l : Launch) : ve_SO vs_A l 59 vs_M vm_322 := ve_ck_ok (vs_ok l) (ve_hi_none (ve_hi_some (vo_321 l) (ve_hi_nil))) vk_322
set_option maxRecDepth 100000 in
theorem vo_323 (l : Launch) : ve_SO vs_A l 59 vs_M vm_323 := ve_ck_ok (vs_ok l) (ve_hi_none (ve_hi_some (vo_322 l) (ve_hi_nil))) vk_323
set_option maxRecDepth 100000 in
theorem vo_324 (l : Launch) : ve_SO vs_A l 59 vs_M vm_324 := ve_ck_ok (vs_ok l) (ve_hi_none (ve_hi_some (vo_323 l) (ve_hi_nil))) vk_324
set_option maxRecDepth 100000 in
theorem vo_325 (l : Launch) : ve_SO vs_A l 59 vs_M vm_325 := ve_ck_ok (vs_ok l) (ve_hi_none (ve_hi_some (vo_324 l) (ve_hi_nil))) vk_325
set_option maxRecDepth 100000 in
theorem vo_326 (l : Launch) : ve_SO vs_A l 59 vs_M vm_326 := ve_ck_ok (vs_ok l) (ve_hi_none (ve_hi_some (vo_325 l) (ve_hi_nil))) vk_326
set_option maxRecDepth 100000 in
theorem vo_327 (l : Launch) : ve_SO vs_A l 59 vs_M vm_327 := ve_ck_ok (vs_ok l) (ve_hi_none (ve_hi_some (vo_326 l) (ve_hi_nil))) vk_327
set_option maxRecDepth 100000 in
theorem vo_328 (l : Launch) : ve_SO vs_A l 59 vs_M vm_328 := ve_ck_ok (vs_ok l) (ve_hi_none (ve_hi_some (vo_327 l) (ve_hi_nil))) vk_328
set_option maxRecDepth 100000 in
theorem vo_329 (l : Launch) : ve_SO vs_A l 59 vs_M vm_329 := ve_ck_ok (vs_ok l) (ve_hi_none (ve_hi_some (vo_328 l) (ve_hi_nil))) vk_329
set_option maxRecDepth 100000 in
theorem vo_330 (l : Launch) : ve_SO vs_A l 59 vs_M vm_330 := ve_ck_ok (vs_ok l) (ve_hi_none (ve_hi_some (vo_329 l) (ve_hi_nil))) vk_330
set_option maxRecDepth 100000 in
theorem vo_331 (l : Launch) : ve_SO vs_A l 59 vs_M vm_331 := ve_ck_ok (vs_ok l) (ve_hi_none (ve_hi_some (vo_330 l) (ve_hi_nil))) vk_331
set_option maxRecDepth 100000 in
theorem vo_332 (l : Launch) : ve_SO vs_A l 59 vs_M vm_332 := ve_ck_ok (vs_ok l) (ve_hi_none (ve_hi_some (vo_331 l) (ve_hi_nil))) vk_332
set_option maxRecDepth 100000 in
theorem vo_333 (l : Launch) : ve_SO vs_A l 59 vs_M vm_333 := ve_ck_ok (vs_ok l) (ve_hi_none (ve_hi_some (vo_332 l) (ve_hi_nil))) vk_333
set_option maxRecDepth 100000 in
theorem vo_334 (l : Launch) : ve_SO vs_A l 59 vs_M vm_334 := ve_ck_ok (vs_ok l) (ve_hi_none (ve_hi_some (vo_333 l) (ve_hi_nil))) vk_334
set_option maxRecDepth 100000 in
theorem vo_335 (l : Launch) : ve_SO vs_A l 59 vs_M vm_335 := ve_ck_ok (vs_ok l) (ve_hi_none (ve_hi_some (vo_334 l) (ve_hi_nil))) vk_335
set_option maxRecDepth 100000 in
theorem vo_336 (l : Launch) : ve_SO vs_A l 59 vs_M vm_336 := ve_ck_ok (vs_ok l) (ve_hi_none (ve_hi_some (vo_335 l) (ve_hi_nil))) vk_336
set_option maxRecDepth 100000 in
theorem vo_337 (l : Launch) : ve_SO vs_A l 59 vs_M vm_337 := ve_ck_ok (vs_ok l) (ve_hi_none (ve_hi_some (vo_336 l) (ve_hi_nil))) vk_337
set_option maxRecDepth 100000 in
theorem vo_338 (l : Launch) : ve_SO vs_A l 59 vs_M vm_338 := ve_ck_ok (vs_ok l) (ve_hi_none (ve_hi_some (vo_337 l) (ve_hi_nil))) vk_338
set_option maxRecDepth 100000 in
theorem vo_339 (l : Launch) : ve_SO vs_A l 59 vs_M vm_339 := ve_ck_ok (vs_ok l) (ve_hi_none (ve_hi_some (vo_338 l) (ve_hi_nil))) vk_339
set_option maxRecDepth 100000 in
theorem vo_340 (l : Launch) : ve_SO vs_A l 59 vs_M vm_340 := ve_ck_ok (vs_ok l) (ve_hi_none (ve_hi_some (vo_339 l) (ve_hi_nil))) vk_340
set_option maxRecDepth 100000 in
theorem vo_341 (l : Launch) : ve_SO vs_A l 59 vs_M vm_341 := ve_ck_ok (vs_ok l) (ve_hi_none (ve_hi_some (vo_340 l) (ve_hi_nil))) vk_341
set_option maxRecDepth 100000 in
theorem vo_342 (l : Launch) : ve_SO vs_A l 59 vs_M vm_342 := ve_ck_ok (vs_ok l) (ve_hi_none (ve_hi_some (vo_341 l) (ve_hi_nil))) vk_342
set_option maxRecDepth 100000 in
theorem vo_343 (l : Launch) : ve_SO vs_A l 59 vs_M vm_343 := ve_ck_ok (vs_ok l) (ve_hi_some (vo_342 l) (ve_hi_none (ve_hi_some (vo_342 l) (ve_hi_none (ve_hi_some (vo_342 l) (ve_hi_none (ve_hi_some (vo_342 l) (ve_hi_none (ve_hi_some (vo_342 l) (ve_hi_none (ve_hi_some (vo_342 l) (ve_hi_none (ve_hi_some (vo_342 l) (ve_hi_none (ve_hi_some (vo_342 l) (ve_hi_none (ve_hi_some (vo_342 l) (ve_hi_none (ve_hi_some (vo_342 l) (ve_hi_nil)))))))))))))))))))) vk_343
set_option maxRecDepth 100000 in
theorem vo_344 (l : Launch) : ve_SO vs_A l 59 vs_M vm_344 := ve_ck_ok (vs_ok l) (ve_hi_some (vo_342 l) (ve_hi_none (ve_hi_some (vo_342 l) (ve_hi_none (ve_hi_some (vo_342 l) (ve_hi_none (ve_hi_some (vo_342 l) (ve_hi_none (ve_hi_some (vo_342 l) (ve_hi_none (ve_hi_some (vo_342 l) (ve_hi_none (ve_hi_some (vo_342 l) (ve_hi_none (ve_hi_some (vo_342 l) (ve_hi_none (ve_hi_some (vo_342 l) (ve_hi_none (ve_hi_some (vo_342 l) (ve_hi_nil)))))))))))))))))))) vk_344
set_option maxRecDepth 100000 in
theorem vo_345 (l : Launch) : ve_SO vs_A l 59 vs_M vm_345 := ve_ck_ok (vs_ok l) (ve_hi_some (vo_342 l) (ve_hi_none (ve_hi_some (vo_342 l) (ve_hi_none (ve_hi_some (vo_342 l) (ve_hi_none (ve_hi_some (vo_342 l) (ve_hi_none (ve_hi_some (vo_342 l) (ve_hi_none (ve_hi_some (vo_342 l) (ve_hi_none (ve_hi_some (vo_342 l) (ve_hi_none (ve_hi_some (vo_342 l) (ve_hi_none (ve_hi_some (vo_342 l) (ve_hi_none (ve_hi_some (vo_342 l) (ve_hi_nil)))))))))))))))))))) vk_345
set_option maxRecDepth 100000 in
theorem vo_346 (l : Launch) : ve_SO vs_A l 59 vs_M vm_346 := ve_ck_ok (vs_ok l) (ve_hi_some (vo_342 l) (ve_hi_none (ve_hi_some (vo_342 l) (ve_hi_none (ve_hi_some (vo_342 l) (ve_hi_none (ve_hi_some (vo_342 l) (ve_hi_none (ve_hi_some (vo_342 l) (ve_hi_none (ve_hi_some (vo_342 l) (ve_hi_none (ve_hi_some (vo_342 l) (ve_hi_none (ve_hi_some (vo_342 l) (ve_hi_none (ve_hi_some (vo_342 l) (ve_hi_none (ve_hi_some (vo_342 l) (ve_hi_nil)))))))))))))))))))) vk_346
set_option maxRecDepth 100000 in
theorem vo_347 (l : Launch) : ve_SO vs_A l 59 vs_M vm_347 := ve_ck_ok (vs_ok l) (ve_hi_some (vo_342 l) (ve_hi_none (ve_hi_some (vo_342 l) (ve_hi_none (ve_hi_some (vo_342 l) (ve_hi_none (ve_hi_some (vo_342 l) (ve_hi_none (ve_hi_some (vo_342 l) (ve_hi_none (ve_hi_some (vo_342 l) (ve_hi_none (ve_hi_some (vo_342 l) (ve_hi_none (ve_hi_some (vo_342 l) (ve_hi_none (ve_hi_some (vo_342 l) (ve_hi_none (ve_hi_some (vo_342 l) (ve_hi_nil)))))))))))))))))))) vk_347
set_option maxRecDepth 100000 in
theorem vo_348 (l : Launch) : ve_SO vs_A l 59 vs_M vm_348 := ve_ck_ok (vs_ok l) (ve_hi_some (vo_342 l) (ve_hi_none (ve_hi_some (vo_342 l) (ve_hi_none (ve_hi_some (vo_342 l) (ve_hi_none (ve_hi_some (vo_342 l) (ve_hi_none (ve_hi_some (vo_342 l) (ve_hi_none (ve_hi_some (vo_342 l) (ve_hi_none (ve_hi_some (vo_342 l) (ve_hi_none (ve_hi_some (vo_342 l) (ve_hi_none (ve_hi_some (vo_342 l) (ve_hi_none (ve_hi_some (vo_342 l) (ve_hi_nil)))))))))))))))))))) vk_348
set_option maxRecDepth 100000 in
theorem vo_349 (l : Launch) : ve_SO vs_A l 59 vs_M vm_349 := ve_ck_ok (vs_ok l) (ve_hi_some (vo_342 l) (ve_hi_nil)) vk_349
set_option maxRecDepth 100000 in
theorem vo_350 (l : Launch) : ve_SO vs_A l 59 vs_M vm_350 := ve_ck_ok (vs_ok l) (ve_hi_some (vo_349 l) (ve_hi_nil)) vk_350
set_option maxRecDepth 100000 in
theorem vo_351 (l : Launch) : ve_SO vs_A l 59 vs_M vm_351 := ve_ck_ok (vs_ok l) (ve_hi_some (vo_342 l) (ve_hi_nil)) vk_351
set_option maxRecDepth 100000 in
theorem vo_352 (l : Launch) : ve_SO vs_A l 59 vs_M vm_352 := ve_ck_ok (vs_ok l) (ve_hi_some (vo_351 l) (ve_hi_nil)) vk_352
set_option maxRecDepth 100000 in
theorem vo_353 (l : Launch) : ve_SO vs_A l 59 vs_M vm_353 := ve_ck_ok (vs_ok l) (ve_hi_some (vo_342 l) (ve_hi_nil)) vk_353
set_option maxRecDepth 100000 in
theorem vo_354 (l : Launch) : ve_SO vs_A l 59 vs_M vm_354 := ve_ck_ok (vs_ok l) (ve_hi_some (vo_353 l) (ve_hi_nil)) vk_354
set_option maxRecDepth 100000 in
theorem vo_355 (l : Launch) : ve_SO vs_A l 59 vs_M vm_355 := ve_ck_ok (vs_ok l) (ve_hi_some (vo_342 l) (ve_hi_nil)) vk_355
set_option maxRecDepth 100000 in
theorem vo_356 (l : Launch) : ve_SO vs_A l 59 vs_M vm_356 := ve_ck_ok (vs_ok l) (ve_hi_some (vo_355 l) (ve_hi_nil)) vk_356
set_option maxRecDepth 100000 in
theorem vo_357 (l : Launch) : ve_SO vs_A l 59 vs_M vm_357 := ve_ck_ok (vs_ok l) (ve_hi_some (vo_342 l) (ve_hi_nil)) vk_357
set_option maxRecDepth 100000 in
theorem vo_358 (l : Launch) : ve_SO vs_A l 59 vs_M vm_358 := ve_ck_ok (vs_ok l) (ve_hi_some (vo_357 l) (ve_hi_nil)) vk_358
set_option maxRecDepth 100000 in
theorem vo_359 (l : Launch) : ve_SO vs_A l 59 vs_M vm_359 := ve_ck_ok (vs_ok l) (ve_hi_some (vo_342 l) (ve_hi_nil)) vk_359
set_option maxRecDepth 100000 in
theorem vo_360 (l : Launch) : ve_SO vs_A l 59 vs_M vm_360 := ve_ck_ok (vs_ok l) (ve_hi_some (vo_359 l) (ve_hi_nil)) vk_360
set_option maxRecDepth 100000 in
theorem vo_361 (l : Launch) : ve_SO vs_A l 59 vs_M vm_361 := ve_ck_ok (vs_ok l) (ve_hi_some (vo_342 l) (ve_hi_nil)) vk_361
set_option maxRecDepth 100000 in
theorem vo_362 (l : Launch) : ve_SO vs_A l 59 vs_M vm_362 := ve_ck_ok (vs_ok l) (ve_hi_some (vo_361 l) (ve_hi_nil)) vk_362
set_option maxRecDepth 100000 in
theorem vo_363 (l : Launch) : ve_SO vs_A l 59 vs_M vm_363 := ve_ck_ok (vs_ok l) (ve_hi_some (vo_342 l) (ve_hi_nil)) vk_363
set_option maxRecDepth 100000 in
theorem vo_364 (l : Launch) : ve_SO vs_A l 59 vs_M vm_364 := ve_ck_ok (vs_ok l) (ve_hi_some (vo_363 l) (ve_hi_nil)) vk_364
set_option maxRecDepth 100000 in
theorem vo_365 (l : Launch) : ve_SO vs_A l 59 vs_M vm_365 := ve_ck_ok (vs_ok l) (ve_hi_some (vo_342 l) (ve_hi_nil)) vk_365
set_option maxRecDepth 100000 in
theorem vo_366 (l : Launch) : ve_SO vs_A l 59 vs_M vm_366 := ve_ck_ok (vs_ok l) (ve_hi_some (vo_365 l) (ve_hi_nil)) vk_366
set_option maxRecDepth 100000 in
theorem vo_367 (l : Launch) : ve_SO vs_A l 59 vs_M vm_367 := ve_ck_ok (vs_ok l) (ve_hi_some (vo_342 l) (ve_hi_nil)) vk_367
set_option maxRecDepth 100000 in
theorem vo_368 (l : Launch) : ve_SO vs_A l 59 vs_M vm_368 := ve_ck_ok (vs_ok l) (ve_hi_some (vo_367 l) (ve_hi_nil)) vk_368
set_option maxRecDepth 100000 in
theorem vo_369 (l : Launch) : ve_SO vs_A l 59 vs_M vm_369 := ve_ck_ok (vs_ok l) (ve_hi_some (vo_342 l) (ve_hi_nil)) vk_369
set_option maxRecDepth 100000 in
theorem vo_370 (l : Launch) : ve_SO vs_A l 59 vs_M vm_370 := ve_ck_ok (vs_ok l) (ve_hi_some (vo_369 l) (ve_hi_nil)) vk_370
set_option maxRecDepth 100000 in
theorem vo_371 (l : Launch) : ve_SO vs_A l 59 vs_M vm_371 := ve_ck_ok (vs_ok l) (ve_hi_some (vo_342 l) (ve_hi_nil)) vk_371
set_option maxRecDepth 100000 in
theorem vo_372 (l : Launch) : ve_SO vs_A l 59 vs_M vm_372 := ve_ck_ok (vs_ok l) (ve_hi_some (vo_371 l) (ve_hi_nil)) vk_372
set_option maxRecDepth 100000 in
theorem vo_373 (l : Launch) : ve_SO vs_A l 59 vs_M vm_373 := ve_ck_ok (vs_ok l) (ve_hi_some (vo_342 l) (ve_hi_nil)) vk_373
set_option maxRecDepth 100000 in
theorem vo_374 (l : Launch) : ve_SO vs_A l 59 vs_M vm_374 := ve_ck_ok (vs_ok l) (ve_hi_some (vo_373 l) (ve_hi_nil)) vk_374
set_option maxRecDepth 100000 in
theorem vo_375 (l : Launch) : ve_SO vs_A l 59 vs_M vm_375 := ve_ck_ok (vs_ok l) (ve_hi_some (vo_342 l) (ve_hi_nil)) vk_375
set_option maxRecDepth 100000 in
theorem vo_376 (l : Launch) : ve_SO vs_A l 59 vs_M vm_376 := ve_ck_ok (vs_ok l) (ve_hi_some (vo_375 l) (ve_hi_nil)) vk_376
set_option maxRecDepth 100000 in
theorem vo_377 (l : Launch) : ve_SO vs_A l 59 vs_M vm_377 := ve_ck_ok (vs_ok l) (ve_hi_some (vo_342 l) (ve_hi_nil)) vk_377
set_option maxRecDepth 100000 in
theorem vo_378 (l : Launch) : ve_SO vs_A l 59 vs_M vm_378 := ve_ck_ok (vs_ok l) (ve_hi_some (vo_377 l) (ve_hi_nil)) vk_378
set_option maxRecDepth 100000 in
theorem vo_379 (l : Launch) : ve_SO vs_A l 59 vs_M vm_379 := ve_ck_ok (vs_ok l) (ve_hi_some (vo_342 l) (ve_hi_nil)) vk_379
set_option maxRecDepth 100000 in
theorem vo_380 (l : Launch) : ve_SO vs_A l 59 vs_M vm_380 := ve_ck_ok (vs_ok l) (ve_hi_some (vo_379 l) (ve_hi_nil)) vk_380
set_option maxRecDepth 100000 in
theorem vo_381 (l : Launch) : ve_SO vs_A l 59 vs_M vm_381 := ve_ck_ok (vs_ok l) (ve_hi_some (vo_342 l) (ve_hi_nil)) vk_381
set_option maxRecDepth 100000 in
theorem vo_382 (l : Launch) : ve_SO vs_A l 59 vs_M vm_382 := ve_ck_ok (vs_ok l) (ve_hi_some (vo_381 l) (ve_hi_nil)) vk_382
set_option maxRecDepth 100000 in
theorem vo_383 (l : Launch) : ve_SO vs_A l 59 vs_M vm_383 := ve_ck_ok (vs_ok l) (ve_hi_some (vo_342 l) (ve_hi_nil)) vk_383
set_option maxRecDepth 100000 in
theorem vo_384 (l : Launch) : ve_SO vs_A l 59 vs_M vm_384 := ve_ck_ok (vs_ok l) (ve_hi_some (vo_383 l) (ve_hi_nil)) vk_384
set_option maxRecDepth 100000 in
theorem vo_385 (l : Launch) : ve_SO vs_A l 59 vs_M vm_385 := ve_ck_ok (vs_ok l) (ve_hi_some (vo_342 l) (ve_hi_nil)) vk_385
set_option maxRecDepth 100000 in
theorem vo_386 (l : Launch) : ve_SO vs_A l 59 vs_M vm_386 := ve_ck_ok (vs_ok l) (ve_hi_some (vo_385 l) (ve_hi_nil)) vk_386
set_option maxRecDepth 100000 in
theorem vo_387 (l : Launch) : ve_SO vs_A l 59 vs_M vm_387 := ve_ck_ok (vs_ok l) (ve_hi_some (vo_342 l) (ve_hi_nil)) vk_387
set_option maxRecDepth 100000 in
theorem vo_388 (l : Launch) : ve_SO vs_A l 59 vs_M vm_388 := ve_ck_ok (vs_ok l) (ve_hi_some (vo_387 l) (ve_hi_nil)) vk_388
set_option maxRecDepth 100000 in
theorem vo_389 (l : Launch) : ve_SO vs_A l 59 vs_M vm_389 := ve_ck_ok (vs_ok l) (ve_hi_some (vo_342 l) (ve_hi_nil)) vk_389
set_option maxRecDepth 100000 in
theorem vo_390 (l : Launch) : ve_SO vs_A l 59 vs_M vm_390 := ve_ck_ok (vs_ok l) (ve_hi_some (vo_389 l) (ve_hi_nil)) vk_390
set_option maxRecDepth 100000 in
theorem vo_391 (l : Launch) : ve_SO vs_A l 59 vs_M vm_391 := ve_ck_ok (vs_ok l) (ve_hi_some (vo_342 l) (ve_hi_nil)) vk_391
set_option maxRecDepth 100000 in
theorem vo_392 (l : Launch) : ve_SO vs_A l 59 vs_M vm_392 := ve_ck_ok (vs_ok l) (ve_hi_some (vo_391 l) (ve_hi_nil)) vk_392
set_option maxRecDepth 100000 in
theorem vo_393 (l : Launch) : ve_SO vs_A l 59 vs_M vm_393 := ve_ck_ok (vs_ok l) (ve_hi_some (vo_342 l) (ve_hi_nil)) vk_393
set_option maxRecDepth 100000 in
theorem vo_394 (l : Launch) : ve_SO vs_A l 59 vs_M vm_394 := ve_ck_ok (vs_ok l) (ve_hi_some (vo_393 l) (ve_hi_nil)) vk_394
set_option maxRecDepth 100000 in
theorem vo_395 (l : Launch) : ve_SO vs_A l 59 vs_M vm_395 := ve_ck_ok (vs_ok l) (ve_hi_some (vo_342 l) (ve_hi_nil)) vk_395
set_option maxRecDepth 100000 in
theorem vo_396 (l : Launch) : ve_SO vs_A l 59 vs_M vm_396 := ve_ck_ok (vs_ok l) (ve_hi_some (vo_395 l) (ve_hi_nil)) vk_396
set_option maxRecDepth 100000 in
theorem vo_397 (l : Launch) : ve_SO vs_A l 59 vs_M vm_397 := ve_ck_ok (vs_ok l) (ve_hi_some (vo_342 l) (ve_hi_nil)) vk_397
set_option maxRecDepth 100000 in
theorem vo_398 (l : Launch) : ve_SO vs_A l 59 vs_M vm_398 := ve_ck_ok (vs_ok l) (ve_hi_some (vo_397 l) (ve_hi_nil)) vk_398
set_option maxRecDepth 100000 in
theorem vo_399 (l : Launch) : ve_SO vs_A l 59 vs_M vm_399 := ve_ck_ok (vs_ok l) (ve_hi_some (vo_342 l) (ve_hi_nil)) vk_399
set_option maxRecDepth 100000 in
theorem vo_400 (l : Launch) : ve_SO vs_A l 59 vs_M vm_400 := ve_ck_ok (vs_ok l) (ve_hi_some (vo_399 l) (ve_hi_nil)) vk_400
set_option maxRecDepth 100000 in
theorem vo_401 (l : Launch) : ve_SO vs_A l 59 vs_M vm_401 := ve_ck_ok (vs_ok l) (ve_hi_some (vo_342 l) (ve_hi_nil)) vk_401
set_option maxRecDepth 100000 in
theorem vo_402 (l : Launch) : ve_SO vs_A l 59 vs_M vm_402 := ve_ck_ok (vs_ok l) (ve_hi_some (vo_401 l) (ve_hi_nil)) vk_402
set_option maxRecDepth 100000 in
theorem vo_403 (l : Launch) : ve_SO vs_A l 59 vs_M vm_403 := ve_ck_ok (vs_ok l) (ve_hi_some (vo_342 l) (ve_hi_nil)) vk_403
set_option maxRecDepth 100000 in
theorem vo_404 (l : Launch) : ve_SO vs_A l 59 vs_M vm_404 := ve_ck_ok (vs_ok l) (ve_hi_some (vo_403 l) (ve_hi_nil)) vk_404
set_option maxRecDepth 100000 in
theorem vo_405 (l : Launch) : ve_SO vs_A l 59 vs_M vm_405 := ve_ck_ok (vs_ok l) (ve_hi_some (vo_342 l) (ve_hi_nil)) vk_405
set_option maxRecDepth 100000 in
theorem vo_406 (l : Launch) : ve_SO vs_A l 59 vs_M vm_406 := ve_ck_ok (vs_ok l) (ve_hi_some (vo_405 l) (ve_hi_nil)) vk_406
set_option maxRecDepth 100000 in
theorem vo_407 (l : Launch) : ve_SO vs_A l 59 vs_M vm_407 := ve_ck_ok (vs_ok l) (ve_hi_some (vo_342 l) (ve_hi_nil)) vk_407
set_option maxRecDepth 100000 in
theorem vo_408 (l : Launch) : ve_SO vs_A l 59 vs_M vm_408 := ve_ck_ok (vs_ok l) (ve_hi_some (vo_407 l) (ve_hi_nil)) vk_408
set_option maxRecDepth 100000 in
theorem vo_409 (l : Launch) : ve_SO vs_A l 59 vs_M vm_409 := ve_ck_ok (vs_ok l) (ve_hi_some (vo_342 l) (ve_hi_nil)) vk_409
set_option maxRecDepth 100000 in
theorem vo_410 (l : Launch) : ve_SO vs_A l 59 vs_M vm_410 := ve_ck_ok (vs_ok l) (ve_hi_some (vo_409 l) (ve_hi_nil)) vk_410
set_option maxRecDepth 100000 in
theorem vo_411 (l : Launch) : ve_SO vs_A l 59 vs_M vm_411 := ve_ck_ok (vs_ok l) (ve_hi_some (vo_342 l) (ve_hi_nil)) vk_411
set_option maxRecDepth 100000 in
theorem vo_412 (l : Launch) : ve_SO vs_A l 59 vs_M vm_412 := ve_ck_ok (vs_ok l) (ve_hi_some (vo_411 l) (ve_hi_nil)) vk_412
set_option maxRecDepth 100000 in
theorem vo_413 (l : Launch) : ve_SO vs_A l 59 vs_M vm_413 := ve_ck_ok (vs_ok l) (ve_hi_some (vo_342 l) (ve_hi_nil)) vk_413
set_option maxRecDepth 100000 in
theorem vo_414 (l : Launch) : ve_SO vs_A l 59 vs_M vm_414 := ve_ck_ok (vs_ok l) (ve_hi_some (vo_413 l) (ve_hi_nil)) vk_414
set_option maxRecDepth 100000 in
theorem vo_415 (l : Launch) : ve_SO vs_A l 59 vs_M vm_415 := ve_ck_ok (vs_ok l) (ve_hi_some (vo_342 l) (ve_hi_nil)) vk_415
set_option maxRecDepth 100000 in
theorem vo_416 (l : Launch) : ve_SO vs_A l 59 vs_M vm_416 := ve_ck_ok (vs_ok l) (ve_hi_some (vo_415 l) (ve_hi_nil)) vk_416
set_option maxRecDepth 100000 in
theorem vo_417 (l : Launch) : ve_SO vs_A l 59 vs_M vm_417 := ve_ck_ok (vs_ok l) (ve_hi_some (vo_342 l) (ve_hi_nil)) vk_417
set_option maxRecDepth 100000 in
theorem vo_418 (l : Launch) : ve_SO vs_A l 59 vs_M vm_418 := ve_ck_ok (vs_ok l) (ve_hi_some (vo_417 l) (ve_hi_nil)) vk_418
set_option maxRecDepth 100000 in
theorem vo_419 (l : Launch) : ve_SO vs_A l 59 vs_M vm_419 := ve_ck_ok (vs_ok l) (ve_hi_some (vo_342 l) (ve_hi_nil)) vk_419
set_option maxRecDepth 100000 in
theorem vo_420 (l : Launch) : ve_SO vs_A l 59 vs_M vm_420 := ve_ck_ok (vs_ok l) (ve_hi_some (vo_419 l) (ve_hi_nil)) vk_420
set_option maxRecDepth 100000 in
theorem vo_421 (l : Launch) : ve_SO vs_A l 59 vs_M vm_421 := ve_ck_ok (vs_ok l) (ve_hi_some (vo_342 l) (ve_hi_nil)) vk_421
set_option maxRecDepth 100000 in
theorem vo_422 (l : Launch) : ve_SO vs_A l 59 vs_M vm_422 := ve_ck_ok (vs_ok l) (ve_hi_some (vo_421 l) (ve_hi_nil)) vk_422
set_option maxRecDepth 100000 in
theorem vo_423 (l : Launch) : ve_SO vs_A l 59 vs_M vm_423 := ve_ck_ok (vs_ok l) (ve_hi_some (vo_342 l) (ve_hi_nil)) vk_423
set_option maxRecDepth 100000 in
theorem vo_424 (l : Launch) : ve_SO vs_A l 59 vs_M vm_424 := ve_ck_ok (vs_ok l) (ve_hi_some (vo_423 l) (ve_hi_nil)) vk_424
set_option maxRecDepth 100000 in
theorem vo_425 (l : Launch) : ve_SO vs_A l 59 vs_M vm_425 := ve_ck_ok (vs_ok l) (ve_hi_some (vo_342 l) (ve_hi_nil)) vk_425
set_option maxRecDepth 100000 in
theorem vo_426 (l : Launch) : ve_SO vs_A l 59 vs_M vm_426 := ve_ck_ok (vs_ok l) (ve_hi_some (vo_425 l) (ve_hi_nil)) vk_426
set_option maxRecDepth 100000 in
theorem vo_427 (l : Launch) : ve_SO vs_A l 59 vs_M vm_427 := ve_ck_ok (vs_ok l) (ve_hi_some (vo_342 l) (ve_hi_nil)) vk_427
set_option maxRecDepth 100000 in
theorem vo_428 (l : Launch) : ve_SO vs_A l 59 vs_M vm_428 := ve_ck_ok (vs_ok l) (ve_hi_some (vo_427 l) (ve_hi_nil)) vk_428
set_option maxRecDepth 100000 in
theorem vo_429 (l : Launch) : ve_SO vs_A l 59 vs_M vm_429 := ve_ck_ok (vs_ok l) (ve_hi_nil) vk_429
set_option maxRecDepth 100000 in
theorem vo_430 (l : Launch) : ve_SO vs_A l 59 vs_M vm_430 := ve_ck_ok (vs_ok l) (ve_hi_nil) vk_430
set_option maxRecDepth 100000 in
theorem vo_431 (l : Launch) : ve_SO vs_A l 59 vs_M vm_431 := ve_ck_ok (vs_ok l) (ve_hi_nil) vk_431
set_option maxRecDepth 100000 in
theorem vo_432 (l : Launch) : ve_SO vs_A l 59 vs_M vm_432 := ve_ck_ok (vs_ok l) (ve_hi_nil) vk_432
set_option maxRecDepth 100000 in
theorem vo_433 (l : Launch) : ve_SO vs_A l 59 vs_M vm_433 := ve_ck_ok (vs_ok l) (ve_hi_nil) vk_433
set_option maxRecDepth 100000 in
theorem vo_434 (l : Launch) : ve_SO vs_A l 59 vs_M vm_434 := ve_ck_ok (vs_ok l) (ve_hi_nil) vk_434
set_option maxRecDepth 100000 in
theorem vo_435 (l : Launch) : ve_SO vs_A l 59 vs_M vm_435 := ve_ck_ok (vs_ok l) (ve_hi_nil) vk_435
set_option maxRecDepth 100000 in
theorem vo_436 (l : Launch) : ve_SO vs_A l 59 vs_M vm_436 := ve_ck_ok (vs_ok l) (ve_hi_nil) vk_436
set_option maxRecDepth 100000 in
theorem vo_437 (l : Launch) : ve_SO vs_A l 59 vs_M vm_437 := ve_ck_ok (vs_ok l) (ve_hi_nil) vk_437
set_option maxRecDepth 100000 in
theorem vo_438 (l : Launch) : ve_SO vs_A l 59 vs_M vm_438 := ve_ck_ok (vs_ok l) (ve_hi_nil) vk_438
set_option maxRecDepth 100000 in
theorem vo_439 (l : Launch) : ve_SO vs_A l 59 vs_M vm_439 := ve_ck_ok (vs_ok l) (ve_hi_some (vo_343 l) (ve_hi_none (ve_hi_some (vo_344 l) (ve_hi_none (ve_hi_some (vo_345 l) (ve_hi_none (ve_hi_some (vo_346 l) (ve_hi_none (ve_hi_some (vo_347 l) (ve_hi_none (ve_hi_some (vo_348 l) (ve_hi_none (ve_hi_none (ve_hi_none (ve_hi_none (ve_hi_none (ve_hi_none (ve_hi_none (ve_hi_none (ve_hi_none (ve_hi_none (ve_hi_none (ve_hi_some (vo_350 l) (ve_hi_none (ve_hi_none (ve_hi_some (vo_352 l) (ve_hi_none (ve_hi_none (ve_hi_none (ve_hi_none (ve_hi_none (ve_hi_none (ve_hi_none (ve_hi_none (ve_hi_none (ve_hi_none (ve_hi_none (ve_hi_none (ve_hi_none (ve_hi_none (ve_hi_none (ve_hi_none (ve_hi_none (ve_hi_some (vo_354 l) (ve_hi_none (ve_hi_none (ve_hi_some (vo_356 l) (ve_hi_none (ve_hi_none (ve_hi_none (ve_hi_none (ve_hi_none (ve_hi_none (ve_hi_none (ve_hi_none (ve_hi_none (ve_hi_none (ve_hi_none (ve_hi_none (ve_hi_none (ve_hi_none (ve_hi_none (ve_hi_none (ve_hi_none (ve_hi_some (vo_358 l) (ve_hi_none (ve_hi_none (ve_hi_some (vo_360 l) (ve_hi_none (ve_hi_none (ve_hi_none (ve_hi_none (ve_hi_none (ve_hi_none (ve_hi_none (ve_hi_none (ve_hi_none (ve_hi_none (ve_hi_none (ve_hi_none (ve_hi_none (ve_hi_none (ve_hi_none (ve_hi_none (ve_hi_none (ve_hi_some (vo_362 l) (ve_hi_none (ve_hi_none (ve_hi_some (vo_364 l) (ve_hi_none (ve_hi_none (ve_hi_none (ve_hi_none (ve_hi_none (ve_hi_none (ve_hi_none (ve_hi_none (ve_hi_none (ve_hi_none (ve_hi_none (ve_hi_none (ve_hi_none (ve_hi_none (ve_hi_none (ve_hi_none (ve_hi_none (ve_hi_some (vo_366 l) (ve_hi_none (ve_hi_none (ve_hi_some (vo_368 l) (ve_hi_none (ve_hi_none (ve_hi_none (ve_hi_none (ve_hi_none (ve_hi_none (ve_hi_none (ve_hi_none (ve_hi_none (ve_hi_none (ve_hi_none (ve_hi_none (ve_hi_none (ve_hi_none (ve_hi_none (ve_hi_none (ve_hi_none (ve_hi_some (vo_370 l) (ve_hi_none (ve_hi_none (ve_hi_some (vo_372 l) (ve_hi_none (ve_hi_none (ve_hi_none (ve_hi_none (ve_hi_none (ve_hi_none (ve_hi_none (ve_hi_none (ve_hi_none (ve_hi_none (ve_hi_none (ve_hi_none (ve_hi_none (ve_hi_none (ve_hi_none (ve_hi_none (ve_hi_none (ve_hi_some (vo_374 l) (ve_hi_none (ve_hi_none (ve_hi_some (vo_376 l) (ve_hi_none (ve_hi_none (ve_hi_none (ve_hi_none (ve_hi_none (ve_hi_none (ve_hi_none (ve_hi_none (ve_hi_none (ve_hi_none (ve_hi_none (ve_hi_none (ve_hi_none (ve_hi_none (ve_hi_none (ve_hi_none (ve_hi_none (ve_hi_some (vo_378 l) (ve_hi_none (ve_hi_none (ve_hi_some (vo_380 l) (ve_hi_none (ve_hi_none (ve_hi_none (ve_hi_none (ve_hi_none (ve_hi_none (ve_hi_none (ve_hi_none (ve_hi_none (ve_hi_none (ve_hi_none (ve_hi_none (ve_hi_none (ve_hi_none (ve_hi_none (ve_hi_none (ve_hi_none (ve_hi_some (vo_382 l) (ve_hi_none (ve_hi_none (ve_hi_some (vo_384 l) (ve_hi_none (ve_hi_none (ve_hi_none (ve_hi_none (ve_hi_none (ve_hi_none (ve_hi_none (ve_hi_none (ve_hi_none (ve_hi_none (ve_hi_none (ve_hi_none (ve_hi_none (ve_hi_none (ve_hi_none (ve_hi_none (ve_hi_none (ve_hi_some (vo_386 l) (ve_hi_none (ve_hi_none (ve_hi_some (vo_388 l) (ve_hi_none (ve_hi_none (ve_hi_none (ve_hi_none (ve_hi_none (ve_hi_none (ve_hi_none (ve_hi_none (ve_hi_none (ve_hi_none (ve_hi_none (ve_hi_none (ve_hi_none (ve_hi_none (ve_hi_none (ve_hi_none (ve_hi_none (ve_hi_none (ve_hi_none (ve_hi_none (ve_hi_none (ve_hi_none (ve_hi_none (ve_hi_none (ve_hi_none (ve_hi_none (ve_hi_none (ve_hi_some (vo_390 l) (ve_hi_none (ve_hi_none (ve_hi_some (vo_392 l) (ve_hi_none (ve_hi_none (ve_hi_none (ve_hi_none (ve_hi_none (ve_hi_none (ve_hi_none (ve_hi_none (ve_hi_none (ve_hi_none (ve_hi_none (ve_hi_none (ve_hi_none (ve_hi_none (ve_hi_none (ve_hi_none (ve_hi_none (ve_hi_some (vo_394 l) (ve_hi_none (ve_hi_none (ve_hi_some (vo_396 l) (ve_hi_none (ve_hi_none (ve_hi_none (ve_hi_none (ve_hi_none (ve_hi_none (ve_hi_none (ve_hi_none (ve_hi_none (ve_hi_none (ve_hi_none (ve_hi_none (ve_hi_none (ve_hi_none (ve_hi_none (ve_hi_none (ve_hi_none (ve_hi_some (vo_398 l) (ve_hi_none (ve_hi_none (ve_hi_some (vo_400 l) (ve_hi_none (ve_hi_none (ve_hi_none (ve_hi_none (ve_hi_none (ve_hi_none (ve_hi_none (ve_hi_none (ve_hi_none (ve_hi_none (ve_hi_none (ve_hi_none (ve_hi_none (ve_hi_none (ve_hi_none (ve_hi_none (ve_hi_none (ve_hi_some (vo_402 l) (ve_hi_none (ve_hi_none (ve_hi_some (vo_404 l) (ve_hi_none (ve_hi_none (ve_hi_none (ve_hi_none (ve_hi_none (ve_hi_none (ve_hi_none (ve_hi_none (ve_hi_none (ve_hi_none (ve_hi_none (ve_hi_none (ve_hi_none (ve_hi_none (ve_hi_none (ve_hi_none (ve_hi_none (ve_hi_some (vo_406 l) (ve_hi_none (ve_hi_none (ve_hi_some (vo_408 l) (ve_hi_none (ve_hi_none (ve_hi_none (ve_hi_none (ve_hi_none (ve_hi_none (ve_hi_none (ve_hi_none (ve_hi_none (ve_hi_none (ve_hi_none (ve_hi_none (ve_hi_none (ve_hi_none (ve_hi_none (ve_hi_none (ve_hi_none (ve_hi_some (vo_410 l) (ve_hi_none (ve_hi_none (ve_hi_some (vo_412 l) (ve_hi_none (ve_hi_none (ve_hi_none (ve_hi_none (ve_hi_none (ve_hi_none (ve_hi_none (ve_hi_none (ve_hi_none (ve_hi_none (ve_hi_none (ve_hi_none (ve_hi_none (ve_hi_none (ve_hi_none (ve_hi_none (ve_hi_none (ve_hi_some (vo_414 l) (ve_hi_none (ve_hi_none (ve_hi_some (vo_416 l) (ve_hi_none (ve_hi_none (ve_hi_none (ve_hi_none (ve_hi_none (ve_hi_none (ve_hi_none (ve_hi_none (ve_hi_none (ve_hi_none (ve_hi_none (ve_hi_none (ve_hi_none (ve_hi_none (ve_hi_none (ve_hi_none (ve_hi_none (ve_hi_some (vo_418 l) (ve_hi_none (ve_hi_none (ve_hi_some (vo_420 l) (ve_hi_none (ve_hi_none (ve_hi_none (ve_hi_none (ve_hi_none (ve_hi_none (ve_hi_none (ve_hi_none (ve_hi_none (ve_hi_none (ve_hi_none (ve_hi_none (ve_hi_none (ve_hi_none (ve_hi_none (ve_hi_none (ve_hi_none (ve_hi_some (vo_422 l) (ve_hi_none (ve_hi_none (ve_hi_some (vo_424 l) (ve_hi_none (ve_hi_none (ve_hi_none (ve_hi_none (ve_hi_none (ve_hi_none (ve_hi_none (ve_hi_none (ve_hi_none (ve_hi_none (ve_hi_none (ve_hi_none (ve_hi_none (ve_hi_none (ve_hi_none (ve_hi_none (ve_hi_none (ve_hi_some (vo_426 l) (ve_hi_none (ve_hi_none (ve_hi_some (vo_428 l) (ve_hi_none (ve_hi_none (ve_hi_none (ve_hi_none (ve_hi_none (ve_hi_none (ve_hi_none (ve_hi_none (ve_hi_none (ve_hi_none (ve_hi_none (ve_hi_none (ve_hi_none (ve_hi_none (ve_hi_none (ve_hi_none (ve_hi_none (ve_hi_some (vo_211 l) (ve_hi_some (vo_429 l) (ve_hi_some (vo_342 l) (ve_hi_none (ve_hi_none (ve_hi_some (vo_211 l) (ve_hi_some (vo_430 l) (ve_hi_some (vo_342 l) (ve_hi_none (ve_hi_none (ve_hi_some (vo_211 l) (ve_hi_some (vo_431 l) (ve_hi_some (vo_342 l) (ve_hi_none (ve_hi_none (ve_hi_some (vo_211 l) (ve_hi_some (vo_432 l) (ve_hi_some (vo_342 l) (ve_hi_none (ve_hi_none (ve_hi_some (vo_211 l) (ve_hi_some (vo_433 l) (ve_hi_some (vo_342 l) (ve_hi_none (ve_hi_none (ve_hi_some (vo_211 l) (ve_hi_some (vo_434 l) (ve_hi_some (vo_342 l) (ve_hi_none (ve_hi_none (ve_hi_some (vo_211 l) (ve_hi_some (vo_435 l) (ve_hi_some (vo_342 l) (ve_hi_none (ve_hi_none (ve_hi_some (vo_211 l) (ve_hi_some (vo_436 l) (ve_hi_some (vo_342 l) (ve_hi_none (ve_hi_none (ve_hi_some (vo_211 l) (ve_hi_some (vo_437 l) (ve_hi_some (vo_342 l) (ve_hi_none (ve_hi_none (ve_hi_some (vo_211 l) (ve_hi_some (vo_438 l) (ve_hi_some (vo_342 l) (ve_hi_nil))))))))))))))))))))))))))))))))))))))))))))))))))))))))))))))))))))))))))))))))))))))))))))))))))))))))))))))))))))))))))))))))))))))))))))))))))))))))))))))))))))))))))))))))))))))))))))))))))))))))))))))))))))))))))))))))))))))))))))))))))))))))))))))))))))))))))))))))))))))))))))))))))))))))))))))))))))))))))))))))))))))))))))))))))))))))))))))))))))))))))))))))))))))))))))))))))))))))))))))))))))))))))))))))))))))))))))))))))))))))))))))))))))))))))))))))))))))))))))))))))))))))))))))))))))) vk_439
set_option maxRecDepth 100000 in
theorem vo_440 (l : Launch) : ve_SO vs_A l 59 vs_M vm_440 := ve_ck_ok (vs_ok l) (ve_hi_nil) vk_440
set_option maxRecDepth 100000 in
theorem vo_441 (l : Launch) : ve_SO vs_A l 59 vs_M vm_441 := ve_ck_ok (vs_ok l) (ve_hi_nil) vk_441
set_option maxRecDepth 100000 in
theorem vo_442 (l : Launch) : ve_SO vs_A l 59 vs_M vm_442 := ve_ck_ok (vs_ok l) (ve_hi_nil) vk_442
set_option maxRecDepth 100000 in
theorem vo_443 (l : Launch) : ve_SO vs_A l 59 vs_M vm_443 := ve_ck_ok (vs_ok l) (ve_hi_none (ve_hi_none (ve_hi_none (ve_hi_some (vo_283 l) (ve_hi_some (vo_442 l) (ve_hi_nil)))))) vk_443
set_option maxRecDepth 100000 in
theorem vo_444 (l : Launch) : ve_SO vs_A l 59 vs_M vm_444 := ve_ck_ok (vs_ok l) (ve_hi_none (ve_hi_none (ve_hi_none (ve_hi_some (vo_283 l) (ve_hi_some (vo_284 l) (ve_hi_nil)))))) vk_444
set_option maxRecDepth 100000 in
theorem vo_445 (l : Launch) : ve_SO vs_A l 59 vs_M vm_445 := ve_ck_ok (vs_ok l) (ve_hi_none (ve_hi_none (ve_hi_some (vo_252 l) (ve_hi_none (ve_hi_none (ve_hi_none (ve_hi_none (ve_hi_none (ve_hi_none (ve_hi_none (ve_hi_some (vo_440 l) (ve_hi_some (vo_441 l) (ve_hi_some (vo_443 l) (ve_hi_some (vo_444 l) (ve_hi_some (vo_287 l) (ve_hi_some (vo_289 l) (ve_hi_some (vo_291 l) (ve_hi_some (vo_293 l) (ve_hi_some (vo_295 l) (ve_hi_some (vo_297 l) (ve_hi_some (vo_299 l) (ve_hi_some (vo_301 l) (ve_hi_some (vo_315 l) (ve_hi_nil)))))))))))))))))))))))) vk_445
