/-! THE CLASS: a law from the tape -/
section TT
variable {N T : dw_B} {Z : pm_H} {tk : Int32} {kp : Value} {tf : Nat → Option Nat} {ti B C U : Nat → Int32} {H : dw_H} {tb : Nat → Nat} {tp : Nat}
theorem dw_TtoLaw (htp : tp ≤ 160) (h1 : ti 1 = nI tp) (hB : ∀ j, j < tp → B j = (nI (tb j)).toInt8.toInt32) (hb : ∀ j, j < tp → tb j < 256) (n : Int32) : dw_Z (T_toLaw (dw_cl (dw_pre tk kp tf ti B C U H) N T Z) 2 n) (fun z => ∃ ti' C', ti' 1 = 0 ∧ ((∃ p, dw_pflt tb tp = some p ∧ p ≤ tp + 1 ∧ ti' 5 = nI p ∧ z = some (dw_cl (dw_pre tk kp tf ti' B C' U H) N T Z, none)) ∨ (dw_pflt tb tp = none ∧ (dw_pq3 tb tp).2.2.2.2.length < 160 ∧ (∀ j, j < (dw_pq3 tb tp).2.2.2.2.length → C' j = nI ((dw_pq3 tb tp).2.2.2.2.getD j 0)) ∧ z = some (dw_cl (dw_pre tk kp tf ti' B C' U H) N T (Z ++ dw_nl (37 + Z.length) n C' (dw_pq1 tb tp).2.2.2.2.length (dw_pq2 tb tp).2.2.2.2.length (dw_pq3 tb tp).2.2.2.2.length), some (37 + Z.length))))) := by
  rw [T_toLaw]
  repeat (first | with_reducible rw [bnd_s] | with_reducible rw [nmd_s] | with_reducible rw [bn2_s] | with_reducible rw [grd_t] | ((conv => arg 1; arg 1; simp (disch := omega) only [dw_x_is, dw_x_f0, dw_x_f1, dw_x_t1, dw_x_f2, dw_x_f3, dw_x_f4, dw_x_t5, dw_x_f6, dw_x_f7, dw_x_tis, dw_x_p0, dw_x_p6, dw_x_p1, dw_x_q1, dw_x_p2, dw_x_q2, dw_x_p3, dw_x_q3, dw_x_p4, dw_x_q4, dw_x_p5, dw_x_q5, dw_x_p7, dw_x_q7, dw_x_ln1, dw_x_ln3, dw_x_ln4, dw_x_ln5, dw_x_ln6, dw_x_a6, dw_x_w6, dw_x_a4, dw_x_w4, dw_ct_is dw_x_pl, dw_ct_A0 dw_x_pl, dw_ct_I1 dw_x_pl, dw_ct_J2 dw_x_pl, dw_ct_J3 dw_x_pl, dw_ct_I4 dw_x_pl, dw_ct_A5 dw_x_pl, dw_ct_S1 dw_x_pl, dw_ct_S2 dw_x_pl, dw_ct_S3 dw_x_pl, dw_ct_S5 dw_x_pl, dw_ct_ln dw_x_pl, dw_ct_aA dw_x_pl, dw_ct_dis dw_x_pl, dw_ct_dI0 dw_x_pl, dw_ct_dI1 dw_x_pl, dw_ct_dI2 dw_x_pl, dw_ct_dI3 dw_x_pl, dw_ct_dI4 dw_x_pl, dw_ct_dI5 dw_x_pl, dw_ct_dI6 dw_x_pl, dw_ct_dS1 dw_x_pl, dw_ct_dS2 dw_x_pl, dw_ct_dS3 dw_x_pl, dw_ct_dS4 dw_x_pl, dw_ct_dS5 dw_x_pl, dw_ct_dS6 dw_x_pl, dw_ct_Dyd dw_x_pl, dw_ct_Dwk dw_x_pl, dw_ct_Dfg dw_x_pl, dw_ct_Dq dw_x_pl, dw_ct_Dc dw_x_pl, dw_ct_onC dw_x_pl, dw_ct_li dw_x_pl, dw_ct_sa dw_x_pl, dw_cn_is dw_x_pl, dw_cn_A0 dw_x_pl, dw_cn_I1 dw_x_pl, dw_cn_J2 dw_x_pl, dw_cn_J3 dw_x_pl, dw_cn_I4 dw_x_pl, dw_cn_A5 dw_x_pl, dw_cn_S1 dw_x_pl, dw_cn_S2 dw_x_pl, dw_cn_S3 dw_x_pl, dw_cn_S5 dw_x_pl, dw_cn_ln dw_x_pl, dw_cn_aA dw_x_pl, dw_cn_dis dw_x_pl, dw_cn_dI0 dw_x_pl, dw_cn_dI1 dw_x_pl, dw_cn_dI2 dw_x_pl, dw_cn_dI3 dw_x_pl, dw_cn_dI4 dw_x_pl, dw_cn_dI5 dw_x_pl, dw_cn_dI6 dw_x_pl, dw_cn_dS1 dw_x_pl, dw_cn_dS2 dw_x_pl, dw_cn_dS3 dw_x_pl, dw_cn_dS4 dw_x_pl, dw_cn_dS5 dw_x_pl, dw_cn_dS6 dw_x_pl, dw_cn_Dyd dw_x_pl, dw_cn_Dwk dw_x_pl, dw_cn_Dfg dw_x_pl, dw_cn_Dq dw_x_pl, dw_cn_Dc dw_x_pl, dw_cn_onC dw_x_pl, dw_cn_li dw_x_pl, dw_cn_sa dw_x_pl]); first | with_reducible rw [bnd_s] | with_reducible rw [bn2_s] | with_reducible rw [grd_t]))
  have h1' : upd (upd (upd ti 5 (-1)) 7 0) 3 0 1 = nI tp := by rw [upd_app, if_neg (by decide), upd_app, if_neg (by decide), upd_app, if_neg (by decide), h1]
  have h3' : upd (upd (upd ti 5 (-1)) 7 0) 3 0 3 = nI 0 := by rw [upd_app, if_pos rfl]; rfl
  have h5' : upd (upd (upd ti 5 (-1)) 7 0) 3 0 5 = -1 := by rw [upd_app, if_neg (by decide), upd_app, if_neg (by decide), upd_app, if_pos rfl]
  have h7' : upd (upd (upd ti 5 (-1)) 7 0) 3 0 7 = 0 := by rw [upd_app, if_neg (by decide), upd_app, if_pos rfl]
  obtain ⟨t1, e, g1, g2, g3, g4, g5, g7⟩ := dw_Tstep (N := N) (T := T) (Z := Z) (tk := tk) (kp := kp) (tf := tf) (B := B) (C := C) (U := U) (H := H) h1' htp hB hb h3' (by decide)
  have hlex := dw_lexB (i := 0) hb (Nat.zero_le tp)
  have hG0 := dw_lexG tb tp 0
  have T0 : dw_TQ tp t1 C (dw_pq0 tb tp) := ⟨g1, g2, g3, g4, g5.trans h5', g7.trans h7', fun j hj => absurd hj (Nat.not_lt_zero j), Nat.zero_le _, hlex.1, (by
    rcases hlex.2.1 with b2 | b2
    · exact Or.inl b2
    · exact Or.inr (Or.inl b2)), hlex.2.2, Nat.le_succ_of_le (dw_lexP (Nat.zero_le tp)), fun p e => absurd e (by simp [dw_pq0])⟩
  obtain ⟨t2, C2, e2, T1_⟩ := dw_Gpart (N := N) (T := T) (Z := Z) (tk := tk) (kp := kp) (tf := tf) (U := U) (H := H) htp hB hb T0 (key := 10015) (by decide)
  have T1 : dw_TQ tp t2 C2 (dw_pq1 tb tp) := by
    rw [dw_pq1]
    exact T1_
  obtain ⟨t3, C3, e3, T2_⟩ := dw_Gpart (N := N) (T := T) (Z := Z) (tk := tk) (kp := kp) (tf := tf) (U := U) (H := H) htp hB hb T1 (key := 10016) (by decide)
  have T2 : dw_TQ tp t3 C3 (dw_pq2 tb tp) := by
    rw [dw_pq2]
    exact T2_
  obtain ⟨t4, C4, e4, T3_⟩ := dw_Gpart (N := N) (T := T) (Z := Z) (tk := tk) (kp := kp) (tf := tf) (U := U) (H := H) htp hB hb T2 (key := 10017) (by decide)
  have T3 : dw_TQ tp t4 C4 (dw_pq3 tb tp) := by
    rw [dw_pq3]
    exact T3_
  obtain ⟨t5, e5, f5, f7⟩ := dw_Gend (N := N) (T := T) (Z := Z) (tk := tk) (kp := kp) (tf := tf) (U := U) (H := H) htp hB hb T3
  have n1 : t2 7 = nI (dw_pq1 tb tp).2.2.2.2.length := T1.2.2.2.2.2.1
  have n2 : t3 7 = nI (dw_pq2 tb tp).2.2.2.2.length := T2.2.2.2.2.2.1
  have n3 : t4 7 = nI (dw_pq3 tb tp).2.2.2.2.length := T3.2.2.2.2.2.1
  obtain ⟨hpq1, _⟩ := dw_pq1_c (tb := tb) (tp := tp)
  have P2 : dw_GQ (dw_pq1 tb tp) (dw_pq2 tb tp) := by
    rw [dw_pq2]
    exact dw_PR_part 10016 _ hpq1
  have P3 : dw_GQ (dw_pq2 tb tp) (dw_pq3 tb tp) := by
    rw [dw_pq3]
    exact dw_PR_part 10017 _ P2.1
  have l12 : (dw_pq1 tb tp).2.2.2.2.length ≤ (dw_pq2 tb tp).2.2.2.2.length := P2.2.1
  have l23 : (dw_pq2 tb tp).2.2.2.2.length ≤ (dw_pq3 tb tp).2.2.2.2.length := P3.2.1
  have l3 : (dw_pq3 tb tp).2.2.2.2.length < 160 := dw_pq3_lt htp T3.2.2.2.2.2.2.2.2.1
  have r5 : t5 7 = nI (dw_pq3 tb tp).2.2.2.2.length := f7.trans n3
  have e5' : T_expect (dw_cl (dw_pre tk kp tf t4 B C4 U H) N T Z) 2 10021 = some (dw_cl (dw_pre tk kp tf t5 B C4 U H) N T Z, ()) := e5
  have e2' : T_part (dw_cl (dw_pre tk kp tf t1 B C U H) N T Z) 2 10015 = _ := e2
  have e3' : T_part (dw_cl (dw_pre tk kp tf t2 B C2 U H) N T Z) 2 10016 = _ := e3
  have e4' : T_part (dw_cl (dw_pre tk kp tf t3 B C3 U H) N T Z) 2 10017 = _ := e4
  have u5 : upd t5 1 0 5 = t5 5 := by rw [upd_app, if_neg (by decide)]
  have u7 : upd t5 1 0 7 = nI (dw_pq3 tb tp).2.2.2.2.length := by rw [upd_app, if_neg (by decide), r5]
  have f5' : t5 5 = dw_fl (dw_pflt tb tp) := by
    rw [dw_pflt]
    exact f5
  repeat (first | with_reducible rw [bnd_s] | with_reducible rw [nmd_s] | with_reducible rw [bn2_s] | with_reducible rw [grd_t] | ((conv => arg 1; arg 1; simp (disch := omega) only [dw_x_is, dw_x_f0, dw_x_f1, dw_x_t1, dw_x_f2, dw_x_f3, dw_x_f4, dw_x_t5, dw_x_f6, dw_x_f7, dw_x_tis, dw_x_p0, dw_x_p6, dw_x_p1, dw_x_q1, dw_x_p2, dw_x_q2, dw_x_p3, dw_x_q3, dw_x_p4, dw_x_q4, dw_x_p5, dw_x_q5, dw_x_p7, dw_x_q7, dw_x_ln1, dw_x_ln3, dw_x_ln4, dw_x_ln5, dw_x_ln6, dw_x_a6, dw_x_w6, dw_x_a4, dw_x_w4, dw_ct_is dw_x_pl, dw_ct_A0 dw_x_pl, dw_ct_I1 dw_x_pl, dw_ct_J2 dw_x_pl, dw_ct_J3 dw_x_pl, dw_ct_I4 dw_x_pl, dw_ct_A5 dw_x_pl, dw_ct_S1 dw_x_pl, dw_ct_S2 dw_x_pl, dw_ct_S3 dw_x_pl, dw_ct_S5 dw_x_pl, dw_ct_ln dw_x_pl, dw_ct_aA dw_x_pl, dw_ct_dis dw_x_pl, dw_ct_dI0 dw_x_pl, dw_ct_dI1 dw_x_pl, dw_ct_dI2 dw_x_pl, dw_ct_dI3 dw_x_pl, dw_ct_dI4 dw_x_pl, dw_ct_dI5 dw_x_pl, dw_ct_dI6 dw_x_pl, dw_ct_dS1 dw_x_pl, dw_ct_dS2 dw_x_pl, dw_ct_dS3 dw_x_pl, dw_ct_dS4 dw_x_pl, dw_ct_dS5 dw_x_pl, dw_ct_dS6 dw_x_pl, dw_ct_Dyd dw_x_pl, dw_ct_Dwk dw_x_pl, dw_ct_Dfg dw_x_pl, dw_ct_Dq dw_x_pl, dw_ct_Dc dw_x_pl, dw_ct_onC dw_x_pl, dw_ct_li dw_x_pl, dw_ct_sa dw_x_pl, dw_cn_is dw_x_pl, dw_cn_A0 dw_x_pl, dw_cn_I1 dw_x_pl, dw_cn_J2 dw_x_pl, dw_cn_J3 dw_x_pl, dw_cn_I4 dw_x_pl, dw_cn_A5 dw_x_pl, dw_cn_S1 dw_x_pl, dw_cn_S2 dw_x_pl, dw_cn_S3 dw_x_pl, dw_cn_S5 dw_x_pl, dw_cn_ln dw_x_pl, dw_cn_aA dw_x_pl, dw_cn_dis dw_x_pl, dw_cn_dI0 dw_x_pl, dw_cn_dI1 dw_x_pl, dw_cn_dI2 dw_x_pl, dw_cn_dI3 dw_x_pl, dw_cn_dI4 dw_x_pl, dw_cn_dI5 dw_x_pl, dw_cn_dI6 dw_x_pl, dw_cn_dS1 dw_x_pl, dw_cn_dS2 dw_x_pl, dw_cn_dS3 dw_x_pl, dw_cn_dS4 dw_x_pl, dw_cn_dS5 dw_x_pl, dw_cn_dS6 dw_x_pl, dw_cn_Dyd dw_x_pl, dw_cn_Dwk dw_x_pl, dw_cn_Dfg dw_x_pl, dw_cn_Dq dw_x_pl, dw_cn_Dc dw_x_pl, dw_cn_onC dw_x_pl, dw_cn_li dw_x_pl, dw_cn_sa dw_x_pl, e, e2', n1, e3', n2, e4', e5', u5]); first | with_reducible rw [bnd_s] | with_reducible rw [bn2_s] | with_reducible rw [grd_t]))
  rw [dw_pflt] at f5' ⊢
  clear T1_ T2_ T3_ e2 e3 e4 e5 f5
  generalize dw_pq3 tb tp = q3 at *
  generalize dw_pq2 tb tp = q2 at *
  generalize dw_pq1 tb tp = q1 at *
  cases hf : (if q3.2.1 = 10021 then q3.2.2.2.1 else some q3.1) with
  | some p =>
    rw [hf] at f5'
    have hp : p ≤ tp + 1 := by
      by_cases c : q3.2.1 = 10021
      · rw [if_pos c] at hf
        exact T3.2.2.2.2.2.2.2.2.2.2.2.2 p hf
      · rw [if_neg c] at hf
        have hf2 := Option.some.inj hf
        rw [← hf2]
        exact T3.2.2.2.2.2.2.2.2.2.2.2.1
    rw [dw_fl] at f5'
    rw [f5', if_neg (dw_nem1 (by omega))]
    refine ⟨_, C4, ?_, Or.inl ⟨p, rfl, hp, ?_, rfl⟩⟩
    · rw [upd_app, if_pos rfl]
    · rw [u5, f5']
  | none =>
    rw [hf] at f5'
    rw [dw_fl] at f5'
    rw [f5', if_pos rfl]
    have mk := dw_Tmake (N := N) (T := T) (Z := Z) (tk := tk) (kp := kp) (tf := tf) (ti := upd t5 1 0) (B := B) (C := C4) (U := U) (H := H) n l12 l23 l3 u7
    refine ⟨upd t5 1 0, C4, by rw [upd_app, if_pos rfl], Or.inr ⟨rfl, l3, T3.2.2.2.2.2.2.1, ?_⟩⟩
    rw [dw_cllen dw_x_pl, dw_clapp]
    exact mk
end TT
