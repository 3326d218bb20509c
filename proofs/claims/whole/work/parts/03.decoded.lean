/-! the instructions of every method, decoded -/
set_option maxRecDepth 100000 in
theorem pm_okC_0 : pm_okC pm_m_0 = true := by decide +kernel
set_option maxRecDepth 100000 in
theorem pm_okC_1 : pm_okC pm_m_1 = true := by decide +kernel
set_option maxRecDepth 100000 in
theorem pm_okC_2 : pm_okC pm_m_2 = true := by decide +kernel
set_option maxRecDepth 100000 in
theorem pm_okC_3 : pm_okC pm_m_3 = true := by decide +kernel
set_option maxRecDepth 100000 in
theorem pm_okC_4 : pm_okC pm_m_4 = true := by decide +kernel
set_option maxRecDepth 100000 in
theorem pm_okC_5 : pm_okC pm_m_5 = true := by decide +kernel
set_option maxRecDepth 100000 in
theorem pm_okC_6 : pm_okC pm_m_6 = true := by decide +kernel
set_option maxRecDepth 100000 in
theorem pm_okC_7 : pm_okC pm_m_7 = true := by decide +kernel
set_option maxRecDepth 100000 in
theorem pm_okC_8 : pm_okC pm_m_8 = true := by decide +kernel
set_option maxRecDepth 100000 in
theorem pm_okC_9 : pm_okC pm_m_9 = true := by decide +kernel
set_option maxRecDepth 100000 in
theorem pm_okC_10 : pm_okC pm_m_10 = true := by decide +kernel
set_option maxRecDepth 100000 in
theorem pm_okC_11 : pm_okC pm_m_11 = true := by decide +kernel
set_option maxRecDepth 100000 in
theorem pm_okC_12 : pm_okC pm_m_12 = true := by decide +kernel
set_option maxRecDepth 100000 in
theorem pm_okC_13 : pm_okC pm_m_13 = true := by decide +kernel
set_option maxRecDepth 100000 in
theorem pm_okC_14 : pm_okC pm_m_14 = true := by decide +kernel
set_option maxRecDepth 100000 in
theorem pm_okC_15 : pm_okC pm_m_15 = true := by decide +kernel
set_option maxRecDepth 100000 in
theorem pm_okC_16 : pm_okC pm_m_16 = true := by decide +kernel
set_option maxRecDepth 100000 in
theorem pm_okC_17 : pm_okC pm_m_17 = true := by decide +kernel
set_option maxRecDepth 100000 in
theorem pm_okC_18 : pm_okC pm_m_18 = true := by decide +kernel
set_option maxRecDepth 100000 in
theorem pm_okC_19 : pm_okC pm_m_19 = true := by decide +kernel
set_option maxRecDepth 100000 in
theorem pm_okC_20 : pm_okC pm_m_20 = true := by decide +kernel
set_option maxRecDepth 100000 in
theorem pm_okC_21 : pm_okC pm_m_21 = true := by decide +kernel
set_option maxRecDepth 100000 in
theorem pm_okC_22 : pm_okC pm_m_22 = true := by decide +kernel
set_option maxRecDepth 100000 in
theorem pm_okC_23 : pm_okC pm_m_23 = true := by decide +kernel
set_option maxRecDepth 100000 in
theorem pm_okC_24 : pm_okC pm_m_24 = true := by decide +kernel
set_option maxRecDepth 100000 in
theorem pm_okC_25 : pm_okC pm_m_25 = true := by decide +kernel
set_option maxRecDepth 100000 in
theorem pm_okC_26 : pm_okC pm_m_26 = true := by decide +kernel
set_option maxRecDepth 100000 in
theorem pm_okC_27 : pm_okC pm_m_27 = true := by decide +kernel
set_option maxRecDepth 100000 in
theorem pm_okC_28 : pm_okC pm_m_28 = true := by decide +kernel
set_option maxRecDepth 100000 in
theorem pm_okC_29 : pm_okC pm_m_29 = true := by decide +kernel
set_option maxRecDepth 100000 in
theorem pm_okC_30 : pm_okC pm_m_30 = true := by decide +kernel
set_option maxRecDepth 100000 in
theorem pm_okC_31 : pm_okC pm_m_31 = true := by decide +kernel
set_option maxRecDepth 100000 in
theorem pm_okC_32 : pm_okC pm_m_32 = true := by decide +kernel
set_option maxRecDepth 100000 in
theorem pm_okC_33 : pm_okC pm_m_33 = true := by decide +kernel
set_option maxRecDepth 100000 in
theorem pm_okC_34 : pm_okC pm_m_34 = true := by decide +kernel
set_option maxRecDepth 100000 in
theorem pm_okC_35 : pm_okC pm_m_35 = true := by decide +kernel
set_option maxRecDepth 100000 in
theorem pm_okC_36 : pm_okC pm_m_36 = true := by decide +kernel
set_option maxRecDepth 100000 in
theorem pm_okC_37 : pm_okC pm_m_37 = true := by decide +kernel
set_option maxRecDepth 100000 in
theorem pm_okC_38 : pm_okC pm_m_38 = true := by decide +kernel
set_option maxRecDepth 100000 in
theorem pm_okC_39 : pm_okC pm_m_39 = true := by decide +kernel
set_option maxRecDepth 100000 in
theorem pm_okC_40 : pm_okC pm_m_40 = true := by decide +kernel
set_option maxRecDepth 100000 in
theorem pm_okC_41 : pm_okC pm_m_41 = true := by decide +kernel
set_option maxRecDepth 100000 in
theorem pm_okC_42 : pm_okC pm_m_42 = true := by decide +kernel
set_option maxRecDepth 100000 in
theorem pm_okC_43 : pm_okC pm_m_43 = true := by decide +kernel
set_option maxRecDepth 100000 in
theorem pm_okC_44 : pm_okC pm_m_44 = true := by decide +kernel
set_option maxRecDepth 100000 in
theorem pm_okC_45 : pm_okC pm_m_45 = true := by decide +kernel
set_option maxRecDepth 100000 in
theorem pm_okC_46 : pm_okC pm_m_46 = true := by decide +kernel
set_option maxRecDepth 100000 in
theorem pm_okC_47 : pm_okC pm_m_47 = true := by decide +kernel
set_option maxRecDepth 100000 in
theorem pm_okC_48 : pm_okC pm_m_48 = true := by decide +kernel
set_option maxRecDepth 100000 in
theorem pm_okC_49 : pm_okC pm_m_49 = true := by decide +kernel
set_option maxRecDepth 100000 in
theorem pm_okC_50 : pm_okC pm_m_50 = true := by decide +kernel
set_option maxRecDepth 100000 in
theorem pm_okC_51 : pm_okC pm_m_51 = true := by decide +kernel
set_option maxRecDepth 100000 in
theorem pm_okC_52 : pm_okC pm_m_52 = true := by decide +kernel
set_option maxRecDepth 100000 in
theorem pm_okC_53 : pm_okC pm_m_53 = true := by decide +kernel
set_option maxRecDepth 100000 in
theorem pm_okC_54 : pm_okC pm_m_54 = true := by decide +kernel
set_option maxRecDepth 100000 in
theorem pm_okC_55 : pm_okC pm_m_55 = true := by decide +kernel
set_option maxRecDepth 100000 in
theorem pm_okC_56 : pm_okC pm_m_56 = true := by decide +kernel
set_option maxRecDepth 100000 in
theorem pm_okC_57 : pm_okC pm_m_57 = true := by decide +kernel
set_option maxRecDepth 100000 in
theorem pm_okC_58 : pm_okC pm_m_58 = true := by decide +kernel
set_option maxRecDepth 100000 in
theorem pm_okC_59 : pm_okC pm_m_59 = true := by decide +kernel
set_option maxRecDepth 100000 in
theorem pm_okC_60 : pm_okC pm_m_60 = true := by decide +kernel
set_option maxRecDepth 100000 in
theorem pm_okC_61 : pm_okC pm_m_61 = true := by decide +kernel
set_option maxRecDepth 100000 in
theorem pm_okC_62 : pm_okC pm_m_62 = true := by decide +kernel
set_option maxRecDepth 100000 in
theorem pm_okC_63 : pm_okC pm_m_63 = true := by decide +kernel
set_option maxRecDepth 100000 in
theorem pm_okC_64 : pm_okC pm_m_64 = true := by decide +kernel
set_option maxRecDepth 100000 in
theorem pm_okC_65 : pm_okC pm_m_65 = true := by decide +kernel
set_option maxRecDepth 100000 in
theorem pm_okC_66 : pm_okC pm_m_66 = true := by decide +kernel
set_option maxRecDepth 100000 in
theorem pm_okC_67 : pm_okC pm_m_67 = true := by decide +kernel
set_option maxRecDepth 100000 in
theorem pm_okC_68 : pm_okC pm_m_68 = true := by decide +kernel
set_option maxRecDepth 100000 in
theorem pm_okC_69 : pm_okC pm_m_69 = true := by decide +kernel
set_option maxRecDepth 100000 in
theorem pm_okC_70 : pm_okC pm_m_70 = true := by decide +kernel
set_option maxRecDepth 100000 in
theorem pm_okC_71 : pm_okC pm_m_71 = true := by decide +kernel
set_option maxRecDepth 100000 in
theorem pm_okC_72 : pm_okC pm_m_72 = true := by decide +kernel
set_option maxRecDepth 100000 in
theorem pm_okC_73 : pm_okC pm_m_73 = true := by decide +kernel
set_option maxRecDepth 100000 in
theorem pm_okC_74 : pm_okC pm_m_74 = true := by decide +kernel
set_option maxRecDepth 100000 in
theorem pm_okC_75 : pm_okC pm_m_75 = true := by decide +kernel
set_option maxRecDepth 100000 in
theorem pm_okC_76 : pm_okC pm_m_76 = true := by decide +kernel
set_option maxRecDepth 100000 in
theorem pm_okC_77 : pm_okC pm_m_77 = true := by decide +kernel
set_option maxRecDepth 100000 in
theorem pm_okC_78 : pm_okC pm_m_78 = true := by decide +kernel
set_option maxRecDepth 100000 in
theorem pm_okC_79 : pm_okC pm_m_79 = true := by decide +kernel
set_option maxRecDepth 100000 in
theorem pm_okC_80 : pm_okC pm_m_80 = true := by decide +kernel
set_option maxRecDepth 100000 in
theorem pm_okC_81 : pm_okC pm_m_81 = true := by decide +kernel
set_option maxRecDepth 100000 in
theorem pm_okC_82 : pm_okC pm_m_82 = true := by decide +kernel
set_option maxRecDepth 100000 in
theorem pm_okC_83 : pm_okC pm_m_83 = true := by decide +kernel
set_option maxRecDepth 100000 in
theorem pm_okC_84 : pm_okC pm_m_84 = true := by decide +kernel
set_option maxRecDepth 100000 in
theorem pm_okC_85 : pm_okC pm_m_85 = true := by decide +kernel
set_option maxRecDepth 100000 in
theorem pm_okC_86 : pm_okC pm_m_86 = true := by decide +kernel
set_option maxRecDepth 100000 in
theorem pm_okC_87 : pm_okC pm_m_87 = true := by decide +kernel
set_option maxRecDepth 100000 in
theorem pm_okC_88 : pm_okC pm_m_88 = true := by decide +kernel
set_option maxRecDepth 100000 in
theorem pm_okC_89 : pm_okC pm_m_89 = true := by decide +kernel
set_option maxRecDepth 100000 in
theorem pm_okC_90 : pm_okC pm_m_90 = true := by decide +kernel
set_option maxRecDepth 100000 in
theorem pm_okC_91 : pm_okC pm_m_91 = true := by decide +kernel
set_option maxRecDepth 100000 in
theorem pm_okC_92 : pm_okC pm_m_92 = true := by decide +kernel
set_option maxRecDepth 100000 in
theorem pm_okC_93 : pm_okC pm_m_93 = true := by decide +kernel
set_option maxRecDepth 100000 in
theorem pm_okC_94 : pm_okC pm_m_94 = true := by decide +kernel
set_option maxRecDepth 100000 in
theorem pm_okC_95 : pm_okC pm_m_95 = true := by decide +kernel
set_option maxRecDepth 100000 in
theorem pm_okC_96 : pm_okC pm_m_96 = true := by decide +kernel
set_option maxRecDepth 100000 in
theorem pm_okC_97 : pm_okC pm_m_97 = true := by decide +kernel
set_option maxRecDepth 100000 in
theorem pm_okC_98 : pm_okC pm_m_98 = true := by decide +kernel
set_option maxRecDepth 100000 in
theorem pm_okC_99 : pm_okC pm_m_99 = true := by decide +kernel
set_option maxRecDepth 100000 in
theorem pm_okC_100 : pm_okC pm_m_100 = true := by decide +kernel
set_option maxRecDepth 100000 in
theorem pm_okC_101 : pm_okC pm_m_101 = true := by decide +kernel
set_option maxRecDepth 100000 in
theorem pm_okC_102 : pm_okC pm_m_102 = true := by decide +kernel
set_option maxRecDepth 100000 in
theorem pm_okC_103 : pm_okC pm_m_103 = true := by decide +kernel
set_option maxRecDepth 100000 in
theorem pm_okC_104 : pm_okC pm_m_104 = true := by decide +kernel
set_option maxRecDepth 100000 in
theorem pm_okC_105 : pm_okC pm_m_105 = true := by decide +kernel
set_option maxRecDepth 100000 in
theorem pm_okC_106 : pm_okC pm_m_106 = true := by decide +kernel
set_option maxRecDepth 100000 in
theorem pm_okC_107 : pm_okC pm_m_107 = true := by decide +kernel
set_option maxRecDepth 100000 in
theorem pm_okC_108_0 : pm_cd_108_0.all (fun e => decide (decode cX6_init e.1 = .ok e.2) && pm_len e.2.1 e.2.2) = true := by decide +kernel
set_option maxRecDepth 100000 in
theorem pm_okC_108_1 : pm_cd_108_1.all (fun e => decide (decode cX6_init e.1 = .ok e.2) && pm_len e.2.1 e.2.2) = true := by decide +kernel
set_option maxRecDepth 100000 in
theorem pm_okC_108_2 : pm_cd_108_2.all (fun e => decide (decode cX6_init e.1 = .ok e.2) && pm_len e.2.1 e.2.2) = true := by decide +kernel
set_option maxRecDepth 100000 in
theorem pm_okC_108_3 : pm_cd_108_3.all (fun e => decide (decode cX6_init e.1 = .ok e.2) && pm_len e.2.1 e.2.2) = true := by decide +kernel
set_option maxRecDepth 100000 in
theorem pm_okC_108_4 : pm_cd_108_4.all (fun e => decide (decode cX6_init e.1 = .ok e.2) && pm_len e.2.1 e.2.2) = true := by decide +kernel
set_option maxRecDepth 100000 in
theorem pm_okC_108_5 : pm_cd_108_5.all (fun e => decide (decode cX6_init e.1 = .ok e.2) && pm_len e.2.1 e.2.2) = true := by decide +kernel
set_option maxRecDepth 100000 in
theorem pm_okC_108_6 : pm_cd_108_6.all (fun e => decide (decode cX6_init e.1 = .ok e.2) && pm_len e.2.1 e.2.2) = true := by decide +kernel
set_option maxRecDepth 100000 in
theorem pm_okC_108_7 : pm_cd_108_7.all (fun e => decide (decode cX6_init e.1 = .ok e.2) && pm_len e.2.1 e.2.2) = true := by decide +kernel
set_option maxRecDepth 100000 in
theorem pm_okC_108_8 : pm_cd_108_8.all (fun e => decide (decode cX6_init e.1 = .ok e.2) && pm_len e.2.1 e.2.2) = true := by decide +kernel
set_option maxRecDepth 100000 in
theorem pm_okC_108_9 : pm_cd_108_9.all (fun e => decide (decode cX6_init e.1 = .ok e.2) && pm_len e.2.1 e.2.2) = true := by decide +kernel
set_option maxRecDepth 100000 in
theorem pm_okC_108_10 : pm_cd_108_10.all (fun e => decide (decode cX6_init e.1 = .ok e.2) && pm_len e.2.1 e.2.2) = true := by decide +kernel
set_option maxRecDepth 100000 in
theorem pm_okC_108_11 : pm_cd_108_11.all (fun e => decide (decode cX6_init e.1 = .ok e.2) && pm_len e.2.1 e.2.2) = true := by decide +kernel
set_option maxRecDepth 100000 in
theorem pm_okC_108_12 : pm_cd_108_12.all (fun e => decide (decode cX6_init e.1 = .ok e.2) && pm_len e.2.1 e.2.2) = true := by decide +kernel
set_option maxRecDepth 100000 in
theorem pm_okC_108_13 : pm_cd_108_13.all (fun e => decide (decode cX6_init e.1 = .ok e.2) && pm_len e.2.1 e.2.2) = true := by decide +kernel
set_option maxRecDepth 100000 in
theorem pm_okC_108_14 : pm_cd_108_14.all (fun e => decide (decode cX6_init e.1 = .ok e.2) && pm_len e.2.1 e.2.2) = true := by decide +kernel
set_option maxRecDepth 100000 in
theorem pm_okC_108_15 : pm_cd_108_15.all (fun e => decide (decode cX6_init e.1 = .ok e.2) && pm_len e.2.1 e.2.2) = true := by decide +kernel
set_option maxRecDepth 100000 in
theorem pm_okC_108_16 : pm_cd_108_16.all (fun e => decide (decode cX6_init e.1 = .ok e.2) && pm_len e.2.1 e.2.2) = true := by decide +kernel
set_option maxRecDepth 100000 in
theorem pm_okC_108_17 : pm_cd_108_17.all (fun e => decide (decode cX6_init e.1 = .ok e.2) && pm_len e.2.1 e.2.2) = true := by decide +kernel
set_option maxRecDepth 100000 in
theorem pm_okC_108_18 : pm_cd_108_18.all (fun e => decide (decode cX6_init e.1 = .ok e.2) && pm_len e.2.1 e.2.2) = true := by decide +kernel
set_option maxRecDepth 100000 in
theorem pm_okC_108_19 : pm_cd_108_19.all (fun e => decide (decode cX6_init e.1 = .ok e.2) && pm_len e.2.1 e.2.2) = true := by decide +kernel
set_option maxRecDepth 100000 in
theorem pm_okC_108_20 : pm_cd_108_20.all (fun e => decide (decode cX6_init e.1 = .ok e.2) && pm_len e.2.1 e.2.2) = true := by decide +kernel
set_option maxRecDepth 100000 in
theorem pm_okC_108_21 : pm_cd_108_21.all (fun e => decide (decode cX6_init e.1 = .ok e.2) && pm_len e.2.1 e.2.2) = true := by decide +kernel
set_option maxRecDepth 100000 in
theorem pm_okC_108_22 : pm_cd_108_22.all (fun e => decide (decode cX6_init e.1 = .ok e.2) && pm_len e.2.1 e.2.2) = true := by decide +kernel
theorem pm_okC_108 : pm_okC pm_m_108 = true := by
  unfold pm_okC; show (pm_cd_108).all _ = true; unfold pm_cd_108
  simp only [List.all_append, Bool.and_eq_true]
  exact ⟨pm_okC_108_0, pm_okC_108_1, pm_okC_108_2, pm_okC_108_3, pm_okC_108_4, pm_okC_108_5, pm_okC_108_6, pm_okC_108_7, pm_okC_108_8, pm_okC_108_9, pm_okC_108_10, pm_okC_108_11, pm_okC_108_12, pm_okC_108_13, pm_okC_108_14, pm_okC_108_15, pm_okC_108_16, pm_okC_108_17, pm_okC_108_18, pm_okC_108_19, pm_okC_108_20, pm_okC_108_21, pm_okC_108_22⟩
set_option maxRecDepth 100000 in
theorem pm_okC_109 : pm_okC pm_m_109 = true := by decide +kernel
set_option maxRecDepth 100000 in
theorem pm_okC_110 : pm_okC pm_m_110 = true := by decide +kernel
set_option maxRecDepth 100000 in
theorem pm_okC_111 : pm_okC pm_m_111 = true := by decide +kernel
set_option maxRecDepth 100000 in
theorem pm_okC_112 : pm_okC pm_m_112 = true := by decide +kernel
set_option maxRecDepth 100000 in
theorem pm_okC_113 : pm_okC pm_m_113 = true := by decide +kernel
set_option maxRecDepth 100000 in
theorem pm_okC_114 : pm_okC pm_m_114 = true := by decide +kernel
set_option maxRecDepth 100000 in
theorem pm_okC_115 : pm_okC pm_m_115 = true := by decide +kernel
set_option maxRecDepth 100000 in
theorem pm_okC_116 : pm_okC pm_m_116 = true := by decide +kernel
set_option maxRecDepth 100000 in
theorem pm_okC_117 : pm_okC pm_m_117 = true := by decide +kernel
set_option maxRecDepth 100000 in
theorem pm_okC_118 : pm_okC pm_m_118 = true := by decide +kernel
set_option maxRecDepth 100000 in
theorem pm_okC_119 : pm_okC pm_m_119 = true := by decide +kernel
set_option maxRecDepth 100000 in
theorem pm_okC_120 : pm_okC pm_m_120 = true := by decide +kernel
set_option maxRecDepth 100000 in
theorem pm_okC_121 : pm_okC pm_m_121 = true := by decide +kernel
set_option maxRecDepth 100000 in
theorem pm_okC_122 : pm_okC pm_m_122 = true := by decide +kernel
set_option maxRecDepth 100000 in
theorem pm_okC_123 : pm_okC pm_m_123 = true := by decide +kernel
set_option maxRecDepth 100000 in
theorem pm_okC_124_0 : pm_cd_124_0.all (fun e => decide (decode cX6_next e.1 = .ok e.2) && pm_len e.2.1 e.2.2) = true := by decide +kernel
set_option maxRecDepth 100000 in
theorem pm_okC_124_1 : pm_cd_124_1.all (fun e => decide (decode cX6_next e.1 = .ok e.2) && pm_len e.2.1 e.2.2) = true := by decide +kernel
set_option maxRecDepth 100000 in
theorem pm_okC_124_2 : pm_cd_124_2.all (fun e => decide (decode cX6_next e.1 = .ok e.2) && pm_len e.2.1 e.2.2) = true := by decide +kernel
set_option maxRecDepth 100000 in
theorem pm_okC_124_3 : pm_cd_124_3.all (fun e => decide (decode cX6_next e.1 = .ok e.2) && pm_len e.2.1 e.2.2) = true := by decide +kernel
theorem pm_okC_124 : pm_okC pm_m_124 = true := by
  unfold pm_okC; show (pm_cd_124).all _ = true; unfold pm_cd_124
  simp only [List.all_append, Bool.and_eq_true]
  exact ⟨pm_okC_124_0, pm_okC_124_1, pm_okC_124_2, pm_okC_124_3⟩
set_option maxRecDepth 100000 in
theorem pm_okC_125 : pm_okC pm_m_125 = true := by decide +kernel
set_option maxRecDepth 100000 in
theorem pm_okC_126 : pm_okC pm_m_126 = true := by decide +kernel
set_option maxRecDepth 100000 in
theorem pm_okC_127 : pm_okC pm_m_127 = true := by decide +kernel
set_option maxRecDepth 100000 in
theorem pm_okC_128 : pm_okC pm_m_128 = true := by decide +kernel
set_option maxRecDepth 100000 in
theorem pm_okC_129 : pm_okC pm_m_129 = true := by decide +kernel
set_option maxRecDepth 100000 in
theorem pm_okC_130 : pm_okC pm_m_130 = true := by decide +kernel
set_option maxRecDepth 100000 in
theorem pm_okC_131 : pm_okC pm_m_131 = true := by decide +kernel
set_option maxRecDepth 100000 in
theorem pm_okC_132 : pm_okC pm_m_132 = true := by decide +kernel
set_option maxRecDepth 100000 in
theorem pm_okC_133 : pm_okC pm_m_133 = true := by decide +kernel
set_option maxRecDepth 100000 in
theorem pm_okC_134 : pm_okC pm_m_134 = true := by decide +kernel
set_option maxRecDepth 100000 in
theorem pm_okC_135 : pm_okC pm_m_135 = true := by decide +kernel
set_option maxRecDepth 100000 in
theorem pm_okC_136 : pm_okC pm_m_136 = true := by decide +kernel
set_option maxRecDepth 100000 in
theorem pm_okC_137 : pm_okC pm_m_137 = true := by decide +kernel
set_option maxRecDepth 100000 in
theorem pm_okC_138 : pm_okC pm_m_138 = true := by decide +kernel
set_option maxRecDepth 100000 in
theorem pm_okC_139 : pm_okC pm_m_139 = true := by decide +kernel
set_option maxRecDepth 100000 in
theorem pm_okC_140 : pm_okC pm_m_140 = true := by decide +kernel
set_option maxRecDepth 100000 in
theorem pm_okC_141 : pm_okC pm_m_141 = true := by decide +kernel
set_option maxRecDepth 100000 in
theorem pm_okC_142 : pm_okC pm_m_142 = true := by decide +kernel
set_option maxRecDepth 100000 in
theorem pm_okC_143 : pm_okC pm_m_143 = true := by decide +kernel
set_option maxRecDepth 100000 in
theorem pm_okC_144 : pm_okC pm_m_144 = true := by decide +kernel
set_option maxRecDepth 100000 in
theorem pm_okC_145 : pm_okC pm_m_145 = true := by decide +kernel
set_option maxRecDepth 100000 in
theorem pm_okC_146 : pm_okC pm_m_146 = true := by decide +kernel
set_option maxRecDepth 100000 in
theorem pm_okC_147 : pm_okC pm_m_147 = true := by decide +kernel
set_option maxRecDepth 100000 in
theorem pm_okC_148 : pm_okC pm_m_148 = true := by decide +kernel
set_option maxRecDepth 100000 in
theorem pm_okC_149 : pm_okC pm_m_149 = true := by decide +kernel
set_option maxRecDepth 100000 in
theorem pm_okC_150 : pm_okC pm_m_150 = true := by decide +kernel
set_option maxRecDepth 100000 in
theorem pm_okC_151 : pm_okC pm_m_151 = true := by decide +kernel
set_option maxRecDepth 100000 in
theorem pm_okC_152 : pm_okC pm_m_152 = true := by decide +kernel
set_option maxRecDepth 100000 in
theorem pm_okC_153 : pm_okC pm_m_153 = true := by decide +kernel
set_option maxRecDepth 100000 in
theorem pm_okC_154 : pm_okC pm_m_154 = true := by decide +kernel
set_option maxRecDepth 100000 in
theorem pm_okC_155 : pm_okC pm_m_155 = true := by decide +kernel
set_option maxRecDepth 100000 in
theorem pm_okC_156 : pm_okC pm_m_156 = true := by decide +kernel
set_option maxRecDepth 100000 in
theorem pm_okC_157 : pm_okC pm_m_157 = true := by decide +kernel
set_option maxRecDepth 100000 in
theorem pm_okC_158 : pm_okC pm_m_158 = true := by decide +kernel
set_option maxRecDepth 100000 in
theorem pm_okC_159 : pm_okC pm_m_159 = true := by decide +kernel
set_option maxRecDepth 100000 in
theorem pm_okC_160 : pm_okC pm_m_160 = true := by decide +kernel
set_option maxRecDepth 100000 in
theorem pm_okC_161 : pm_okC pm_m_161 = true := by decide +kernel
set_option maxRecDepth 100000 in
theorem pm_okC_162 : pm_okC pm_m_162 = true := by decide +kernel
set_option maxRecDepth 100000 in
theorem pm_okC_163 : pm_okC pm_m_163 = true := by decide +kernel
set_option maxRecDepth 100000 in
theorem pm_okC_164 : pm_okC pm_m_164 = true := by decide +kernel
set_option maxRecDepth 100000 in
theorem pm_okC_165 : pm_okC pm_m_165 = true := by decide +kernel
set_option maxRecDepth 100000 in
theorem pm_okC_166 : pm_okC pm_m_166 = true := by decide +kernel
set_option maxRecDepth 100000 in
theorem pm_okC_167 : pm_okC pm_m_167 = true := by decide +kernel
set_option maxRecDepth 100000 in
theorem pm_okC_168 : pm_okC pm_m_168 = true := by decide +kernel
set_option maxRecDepth 100000 in
theorem pm_okC_169 : pm_okC pm_m_169 = true := by decide +kernel
set_option maxRecDepth 100000 in
theorem pm_okC_170 : pm_okC pm_m_170 = true := by decide +kernel
set_option maxRecDepth 100000 in
theorem pm_okC_171 : pm_okC pm_m_171 = true := by decide +kernel
set_option maxRecDepth 100000 in
theorem pm_okC_172 : pm_okC pm_m_172 = true := by decide +kernel
set_option maxRecDepth 100000 in
theorem pm_okC_173 : pm_okC pm_m_173 = true := by decide +kernel
set_option maxRecDepth 100000 in
theorem pm_okC_174 : pm_okC pm_m_174 = true := by decide +kernel
set_option maxRecDepth 100000 in
theorem pm_okC_175 : pm_okC pm_m_175 = true := by decide +kernel
set_option maxRecDepth 100000 in
theorem pm_okC_176 : pm_okC pm_m_176 = true := by decide +kernel
set_option maxRecDepth 100000 in
theorem pm_okC_177 : pm_okC pm_m_177 = true := by decide +kernel
set_option maxRecDepth 100000 in
theorem pm_okC_178 : pm_okC pm_m_178 = true := by decide +kernel
set_option maxRecDepth 100000 in
theorem pm_okC_179 : pm_okC pm_m_179 = true := by decide +kernel
set_option maxRecDepth 100000 in
theorem pm_okC_180 : pm_okC pm_m_180 = true := by decide +kernel
set_option maxRecDepth 100000 in
theorem pm_okC_181 : pm_okC pm_m_181 = true := by decide +kernel
set_option maxRecDepth 100000 in
theorem pm_okC_182 : pm_okC pm_m_182 = true := by decide +kernel
set_option maxRecDepth 100000 in
theorem pm_okC_183 : pm_okC pm_m_183 = true := by decide +kernel
set_option maxRecDepth 100000 in
theorem pm_okC_184 : pm_okC pm_m_184 = true := by decide +kernel
set_option maxRecDepth 100000 in
theorem pm_okC_185 : pm_okC pm_m_185 = true := by decide +kernel
set_option maxRecDepth 100000 in
theorem pm_okC_186 : pm_okC pm_m_186 = true := by decide +kernel
set_option maxRecDepth 100000 in
theorem pm_okC_187 : pm_okC pm_m_187 = true := by decide +kernel
set_option maxRecDepth 100000 in
theorem pm_okC_188 : pm_okC pm_m_188 = true := by decide +kernel
set_option maxRecDepth 100000 in
theorem pm_okC_189 : pm_okC pm_m_189 = true := by decide +kernel
set_option maxRecDepth 100000 in
theorem pm_okC_190 : pm_okC pm_m_190 = true := by decide +kernel
set_option maxRecDepth 100000 in
theorem pm_okC_191 : pm_okC pm_m_191 = true := by decide +kernel
set_option maxRecDepth 100000 in
theorem pm_okC_192 : pm_okC pm_m_192 = true := by decide +kernel
set_option maxRecDepth 100000 in
theorem pm_okC_193 : pm_okC pm_m_193 = true := by decide +kernel
set_option maxRecDepth 100000 in
theorem pm_okC_194 : pm_okC pm_m_194 = true := by decide +kernel
set_option maxRecDepth 100000 in
theorem pm_okC_195 : pm_okC pm_m_195 = true := by decide +kernel
set_option maxRecDepth 100000 in
theorem pm_okC_196 : pm_okC pm_m_196 = true := by decide +kernel
set_option maxRecDepth 100000 in
theorem pm_MT_C : ∀ q ∈ pm_MT, pm_okC q = true := List.forall_mem_cons.mpr ⟨pm_okC_0, List.forall_mem_cons.mpr ⟨pm_okC_1, List.forall_mem_cons.mpr ⟨pm_okC_2, List.forall_mem_cons.mpr ⟨pm_okC_3, List.forall_mem_cons.mpr ⟨pm_okC_4, List.forall_mem_cons.mpr ⟨pm_okC_5, List.forall_mem_cons.mpr ⟨pm_okC_6, List.forall_mem_cons.mpr ⟨pm_okC_7, List.forall_mem_cons.mpr ⟨pm_okC_8, List.forall_mem_cons.mpr ⟨pm_okC_9, List.forall_mem_cons.mpr ⟨pm_okC_10, List.forall_mem_cons.mpr ⟨pm_okC_11, List.forall_mem_cons.mpr ⟨pm_okC_12, List.forall_mem_cons.mpr ⟨pm_okC_13, List.forall_mem_cons.mpr ⟨pm_okC_14, List.forall_mem_cons.mpr ⟨pm_okC_15, List.forall_mem_cons.mpr ⟨pm_okC_16, List.forall_mem_cons.mpr ⟨pm_okC_17, List.forall_mem_cons.mpr ⟨pm_okC_18, List.forall_mem_cons.mpr ⟨pm_okC_19, List.forall_mem_cons.mpr ⟨pm_okC_20, List.forall_mem_cons.mpr ⟨pm_okC_21, List.forall_mem_cons.mpr ⟨pm_okC_22, List.forall_mem_cons.mpr ⟨pm_okC_23, List.forall_mem_cons.mpr ⟨pm_okC_24, List.forall_mem_cons.mpr ⟨pm_okC_25, List.forall_mem_cons.mpr ⟨pm_okC_26, List.forall_mem_cons.mpr ⟨pm_okC_27, List.forall_mem_cons.mpr ⟨pm_okC_28, List.forall_mem_cons.mpr ⟨pm_okC_29, List.forall_mem_cons.mpr ⟨pm_okC_30, List.forall_mem_cons.mpr ⟨pm_okC_31, List.forall_mem_cons.mpr ⟨pm_okC_32, List.forall_mem_cons.mpr ⟨pm_okC_33, List.forall_mem_cons.mpr ⟨pm_okC_34, List.forall_mem_cons.mpr ⟨pm_okC_35, List.forall_mem_cons.mpr ⟨pm_okC_36, List.forall_mem_cons.mpr ⟨pm_okC_37, List.forall_mem_cons.mpr ⟨pm_okC_38, List.forall_mem_cons.mpr ⟨pm_okC_39, List.forall_mem_cons.mpr ⟨pm_okC_40, List.forall_mem_cons.mpr ⟨pm_okC_41, List.forall_mem_cons.mpr ⟨pm_okC_42, List.forall_mem_cons.mpr ⟨pm_okC_43, List.forall_mem_cons.mpr ⟨pm_okC_44, List.forall_mem_cons.mpr ⟨pm_okC_45, List.forall_mem_cons.mpr ⟨pm_okC_46, List.forall_mem_cons.mpr ⟨pm_okC_47, List.forall_mem_cons.mpr ⟨pm_okC_48, List.forall_mem_cons.mpr ⟨pm_okC_49, List.forall_mem_cons.mpr ⟨pm_okC_50, List.forall_mem_cons.mpr ⟨pm_okC_51, List.forall_mem_cons.mpr ⟨pm_okC_52, List.forall_mem_cons.mpr ⟨pm_okC_53, List.forall_mem_cons.mpr ⟨pm_okC_54, List.forall_mem_cons.mpr ⟨pm_okC_55, List.forall_mem_cons.mpr ⟨pm_okC_56, List.forall_mem_cons.mpr ⟨pm_okC_57, List.forall_mem_cons.mpr ⟨pm_okC_58, List.forall_mem_cons.mpr ⟨pm_okC_59, List.forall_mem_cons.mpr ⟨pm_okC_60, List.forall_mem_cons.mpr ⟨pm_okC_61, List.forall_mem_cons.mpr ⟨pm_okC_62, List.forall_mem_cons.mpr ⟨pm_okC_63, List.forall_mem_cons.mpr ⟨pm_okC_64, List.forall_mem_cons.mpr ⟨pm_okC_65, List.forall_mem_cons.mpr ⟨pm_okC_66, List.forall_mem_cons.mpr ⟨pm_okC_67, List.forall_mem_cons.mpr ⟨pm_okC_68, List.forall_mem_cons.mpr ⟨pm_okC_69, List.forall_mem_cons.mpr ⟨pm_okC_70, List.forall_mem_cons.mpr ⟨pm_okC_71, List.forall_mem_cons.mpr ⟨pm_okC_72, List.forall_mem_cons.mpr ⟨pm_okC_73, List.forall_mem_cons.mpr ⟨pm_okC_74, List.forall_mem_cons.mpr ⟨pm_okC_75, List.forall_mem_cons.mpr ⟨pm_okC_76, List.forall_mem_cons.mpr ⟨pm_okC_77, List.forall_mem_cons.mpr ⟨pm_okC_78, List.forall_mem_cons.mpr ⟨pm_okC_79, List.forall_mem_cons.mpr ⟨pm_okC_80, List.forall_mem_cons.mpr ⟨pm_okC_81, List.forall_mem_cons.mpr ⟨pm_okC_82, List.forall_mem_cons.mpr ⟨pm_okC_83, List.forall_mem_cons.mpr ⟨pm_okC_84, List.forall_mem_cons.mpr ⟨pm_okC_85, List.forall_mem_cons.mpr ⟨pm_okC_86, List.forall_mem_cons.mpr ⟨pm_okC_87, List.forall_mem_cons.mpr ⟨pm_okC_88, List.forall_mem_cons.mpr ⟨pm_okC_89, List.forall_mem_cons.mpr ⟨pm_okC_90, List.forall_mem_cons.mpr ⟨pm_okC_91, List.forall_mem_cons.mpr ⟨pm_okC_92, List.forall_mem_cons.mpr ⟨pm_okC_93, List.forall_mem_cons.mpr ⟨pm_okC_94, List.forall_mem_cons.mpr ⟨pm_okC_95, List.forall_mem_cons.mpr ⟨pm_okC_96, List.forall_mem_cons.mpr ⟨pm_okC_97, List.forall_mem_cons.mpr ⟨pm_okC_98, List.forall_mem_cons.mpr ⟨pm_okC_99, List.forall_mem_cons.mpr ⟨pm_okC_100, List.forall_mem_cons.mpr ⟨pm_okC_101, List.forall_mem_cons.mpr ⟨pm_okC_102, List.forall_mem_cons.mpr ⟨pm_okC_103, List.forall_mem_cons.mpr ⟨pm_okC_104, List.forall_mem_cons.mpr ⟨pm_okC_105, List.forall_mem_cons.mpr ⟨pm_okC_106, List.forall_mem_cons.mpr ⟨pm_okC_107, List.forall_mem_cons.mpr ⟨pm_okC_108, List.forall_mem_cons.mpr ⟨pm_okC_109, List.forall_mem_cons.mpr ⟨pm_okC_110, List.forall_mem_cons.mpr ⟨pm_okC_111, List.forall_mem_cons.mpr ⟨pm_okC_112, List.forall_mem_cons.mpr ⟨pm_okC_113, List.forall_mem_cons.mpr ⟨pm_okC_114, List.forall_mem_cons.mpr ⟨pm_okC_115, List.forall_mem_cons.mpr ⟨pm_okC_116, List.forall_mem_cons.mpr ⟨pm_okC_117, List.forall_mem_cons.mpr ⟨pm_okC_118, List.forall_mem_cons.mpr ⟨pm_okC_119, List.forall_mem_cons.mpr ⟨pm_okC_120, List.forall_mem_cons.mpr ⟨pm_okC_121, List.forall_mem_cons.mpr ⟨pm_okC_122, List.forall_mem_cons.mpr ⟨pm_okC_123, List.forall_mem_cons.mpr ⟨pm_okC_124, List.forall_mem_cons.mpr ⟨pm_okC_125, List.forall_mem_cons.mpr ⟨pm_okC_126, List.forall_mem_cons.mpr ⟨pm_okC_127, List.forall_mem_cons.mpr ⟨pm_okC_128, List.forall_mem_cons.mpr ⟨pm_okC_129, List.forall_mem_cons.mpr ⟨pm_okC_130, List.forall_mem_cons.mpr ⟨pm_okC_131, List.forall_mem_cons.mpr ⟨pm_okC_132, List.forall_mem_cons.mpr ⟨pm_okC_133, List.forall_mem_cons.mpr ⟨pm_okC_134, List.forall_mem_cons.mpr ⟨pm_okC_135, List.forall_mem_cons.mpr ⟨pm_okC_136, List.forall_mem_cons.mpr ⟨pm_okC_137, List.forall_mem_cons.mpr ⟨pm_okC_138, List.forall_mem_cons.mpr ⟨pm_okC_139, List.forall_mem_cons.mpr ⟨pm_okC_140, List.forall_mem_cons.mpr ⟨pm_okC_141, List.forall_mem_cons.mpr ⟨pm_okC_142, List.forall_mem_cons.mpr ⟨pm_okC_143, List.forall_mem_cons.mpr ⟨pm_okC_144, List.forall_mem_cons.mpr ⟨pm_okC_145, List.forall_mem_cons.mpr ⟨pm_okC_146, List.forall_mem_cons.mpr ⟨pm_okC_147, List.forall_mem_cons.mpr ⟨pm_okC_148, List.forall_mem_cons.mpr ⟨pm_okC_149, List.forall_mem_cons.mpr ⟨pm_okC_150, List.forall_mem_cons.mpr ⟨pm_okC_151, List.forall_mem_cons.mpr ⟨pm_okC_152, List.forall_mem_cons.mpr ⟨pm_okC_153, List.forall_mem_cons.mpr ⟨pm_okC_154, List.forall_mem_cons.mpr ⟨pm_okC_155, List.forall_mem_cons.mpr ⟨pm_okC_156, List.forall_mem_cons.mpr ⟨pm_okC_157, List.forall_mem_cons.mpr ⟨pm_okC_158, List.forall_mem_cons.mpr ⟨pm_okC_159, List.forall_mem_cons.mpr ⟨pm_okC_160, List.forall_mem_cons.mpr ⟨pm_okC_161, List.forall_mem_cons.mpr ⟨pm_okC_162, List.forall_mem_cons.mpr ⟨pm_okC_163, List.forall_mem_cons.mpr ⟨pm_okC_164, List.forall_mem_cons.mpr ⟨pm_okC_165, List.forall_mem_cons.mpr ⟨pm_okC_166, List.forall_mem_cons.mpr ⟨pm_okC_167, List.forall_mem_cons.mpr ⟨pm_okC_168, List.forall_mem_cons.mpr ⟨pm_okC_169, List.forall_mem_cons.mpr ⟨pm_okC_170, List.forall_mem_cons.mpr ⟨pm_okC_171, List.forall_mem_cons.mpr ⟨pm_okC_172, List.forall_mem_cons.mpr ⟨pm_okC_173, List.forall_mem_cons.mpr ⟨pm_okC_174, List.forall_mem_cons.mpr ⟨pm_okC_175, List.forall_mem_cons.mpr ⟨pm_okC_176, List.forall_mem_cons.mpr ⟨pm_okC_177, List.forall_mem_cons.mpr ⟨pm_okC_178, List.forall_mem_cons.mpr ⟨pm_okC_179, List.forall_mem_cons.mpr ⟨pm_okC_180, List.forall_mem_cons.mpr ⟨pm_okC_181, List.forall_mem_cons.mpr ⟨pm_okC_182, List.forall_mem_cons.mpr ⟨pm_okC_183, List.forall_mem_cons.mpr ⟨pm_okC_184, List.forall_mem_cons.mpr ⟨pm_okC_185, List.forall_mem_cons.mpr ⟨pm_okC_186, List.forall_mem_cons.mpr ⟨pm_okC_187, List.forall_mem_cons.mpr ⟨pm_okC_188, List.forall_mem_cons.mpr ⟨pm_okC_189, List.forall_mem_cons.mpr ⟨pm_okC_190, List.forall_mem_cons.mpr ⟨pm_okC_191, List.forall_mem_cons.mpr ⟨pm_okC_192, List.forall_mem_cons.mpr ⟨pm_okC_193, List.forall_mem_cons.mpr ⟨pm_okC_194, List.forall_mem_cons.mpr ⟨pm_okC_195, List.forall_mem_cons.mpr ⟨pm_okC_196, fun _ h => absurd h List.not_mem_nil⟩⟩⟩⟩⟩⟩⟩⟩⟩⟩⟩⟩⟩⟩⟩⟩⟩⟩⟩⟩⟩⟩⟩⟩⟩⟩⟩⟩⟩⟩⟩⟩⟩⟩⟩⟩⟩⟩⟩⟩⟩⟩⟩⟩⟩⟩⟩⟩⟩⟩⟩⟩⟩⟩⟩⟩⟩⟩⟩⟩⟩⟩⟩⟩⟩⟩⟩⟩⟩⟩⟩⟩⟩⟩⟩⟩⟩⟩⟩⟩⟩⟩⟩⟩⟩⟩⟩⟩⟩⟩⟩⟩⟩⟩⟩⟩⟩⟩⟩⟩⟩⟩⟩⟩⟩⟩⟩⟩⟩⟩⟩⟩⟩⟩⟩⟩⟩⟩⟩⟩⟩⟩⟩⟩⟩⟩⟩⟩⟩⟩⟩⟩⟩⟩⟩⟩⟩⟩⟩⟩⟩⟩⟩⟩⟩⟩⟩⟩⟩⟩⟩⟩⟩⟩⟩⟩⟩⟩⟩⟩⟩⟩⟩⟩⟩⟩⟩⟩⟩⟩⟩⟩⟩⟩⟩⟩⟩⟩⟩⟩⟩⟩⟩⟩⟩⟩⟩⟩⟩⟩⟩⟩⟩⟩⟩⟩⟩
