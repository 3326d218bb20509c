/-! THE CLASS: film, dunesBy, copy, feed -/
theorem dw_dbyp {fr : Int32} {i z : Nat} (h0 : ¬ fr < 0) (hi : i ≤ 6) (hz : z ≤ 40) (h : dw_plb (fr + nI (2 * i)) 2 (nI z) = true) : fr + nI (2 * i) = nI (dw_N fr + 2 * i) ∧ dw_N fr + 2 * i + 2 ≤ z := by
  obtain ⟨a, ha, rfl⟩ := nI_of h0
  rw [nI_add] at h ⊢
  rw [dw_N_nI ha]
  obtain ⟨p, q, e1, e2, e3⟩ := (dw_plb_iff (by omega)).mp h
  have e5 : q = 2 := ((nI_eq (a := 2) (by decide) (by omega)).mp e2).symm
  refine ⟨rfl, ?_⟩
  rcases Nat.lt_or_ge (a + 2 * i) (2 ^ 31) with c | c
  · rw [nI_eq c (by omega)] at e1
    omega
  · exfalso
    have e7 := congrArg Int32.toInt e1
    rw [nI_toInt (show p < 2 ^ 31 by omega)] at e7
    have e6 : (nI (a + 2 * i)).toInt = ((a + 2 * i : Nat) : Int).bmod (2 ^ 32) := by
      rw [← nI_add, Int32.toInt_add, nI_toInt ha, nI_toInt (show 2 * i < 2 ^ 31 by omega)]
      rfl
    rw [e6, dw_wrap c (by omega)] at e7
    omega
section CO
variable {T : dw_B} {Z : pm_H} {kp : Value} {tf : Nat → Option Nat} {ti B C U : Nat → Int32} {H : dw_H} {l : Nat} {k : Nat → Int32} {r m yy tx tp : Nat} {s : dw_L} {ho cl : Int64} {wt : Nat → dw_W} {tb : Nat → Nat} {im : Option dw_Ln}
theorem dw_Cfilm (h : dw_CX kp tf ti B l Z ((m, s, yy, ho, cl, r), (tx, wt), (tp, tb), im, H)) (ok : dw_Ok ((m, s, yy, ho, cl, r), (tx, wt), (tp, tb), im, H)) (a d n : Int32) : dw_Cgo (X_film (dw_cl (dw_pre (nI tx) kp tf ti B C U H) (l, nI m, nI yy, ho, cl, s, k) T Z) 0 a d n) ((m, s, yy, ho, cl, r), (tx, wt), (tp, tb), im, (dw_qfilm (wt r) cl s yy H a d n).2) (dw_qfilm (wt r) cl s yy H a d n).1 := by
  obtain ⟨⟨o1, o2, o3, o4, o5, o6, o7⟩, _⟩ := id ok
  rw [X_film, dw_qfilm]
  repeat (first | with_reducible rw [bnd_s] | with_reducible rw [nmd_s] | with_reducible rw [bn2_s] | with_reducible rw [grd_t] | ((conv => arg 1; arg 1; simp (disch := omega) only [dw_x_is, dw_x_f0, dw_x_f1, dw_x_t1, dw_x_f2, dw_x_f3, dw_x_f4, dw_x_t5, dw_x_f6, dw_x_f7, dw_x_tis, dw_x_p0, dw_x_p6, dw_x_p1, dw_x_q1, dw_x_p2, dw_x_q2, dw_x_p3, dw_x_q3, dw_x_p4, dw_x_q4, dw_x_p5, dw_x_q5, dw_x_p7, dw_x_q7, dw_x_ln1, dw_x_ln3, dw_x_ln4, dw_x_ln5, dw_x_ln6, dw_x_a6, dw_x_w6, dw_x_a4, dw_x_w4, dw_ct_is dw_x_pl, dw_ct_A0 dw_x_pl, dw_ct_I1 dw_x_pl, dw_ct_J2 dw_x_pl, dw_ct_J3 dw_x_pl, dw_ct_I4 dw_x_pl, dw_ct_A5 dw_x_pl, dw_ct_S1 dw_x_pl, dw_ct_S2 dw_x_pl, dw_ct_S3 dw_x_pl, dw_ct_S5 dw_x_pl, dw_ct_ln dw_x_pl, dw_ct_aA dw_x_pl, dw_ct_dis dw_x_pl, dw_ct_dI0 dw_x_pl, dw_ct_dI1 dw_x_pl, dw_ct_dI2 dw_x_pl, dw_ct_dI3 dw_x_pl, dw_ct_dI4 dw_x_pl, dw_ct_dI5 dw_x_pl, dw_ct_dI6 dw_x_pl, dw_ct_dS1 dw_x_pl, dw_ct_dS2 dw_x_pl, dw_ct_dS3 dw_x_pl, dw_ct_dS4 dw_x_pl, dw_ct_dS5 dw_x_pl, dw_ct_dS6 dw_x_pl, dw_ct_Dyd dw_x_pl, dw_ct_Dwk dw_x_pl, dw_ct_Dfg dw_x_pl, dw_ct_Dq dw_x_pl, dw_ct_Dc dw_x_pl, dw_ct_onC dw_x_pl, dw_ct_li dw_x_pl, dw_ct_sa dw_x_pl, dw_cn_is dw_x_pl, dw_cn_A0 dw_x_pl, dw_cn_I1 dw_x_pl, dw_cn_J2 dw_x_pl, dw_cn_J3 dw_x_pl, dw_cn_I4 dw_x_pl, dw_cn_A5 dw_x_pl, dw_cn_S1 dw_x_pl, dw_cn_S2 dw_x_pl, dw_cn_S3 dw_x_pl, dw_cn_S5 dw_x_pl, dw_cn_ln dw_x_pl, dw_cn_aA dw_x_pl, dw_cn_dis dw_x_pl, dw_cn_dI0 dw_x_pl, dw_cn_dI1 dw_x_pl, dw_cn_dI2 dw_x_pl, dw_cn_dI3 dw_x_pl, dw_cn_dI4 dw_x_pl, dw_cn_dI5 dw_x_pl, dw_cn_dI6 dw_x_pl, dw_cn_dS1 dw_x_pl, dw_cn_dS2 dw_x_pl, dw_cn_dS3 dw_x_pl, dw_cn_dS4 dw_x_pl, dw_cn_dS5 dw_x_pl, dw_cn_dS6 dw_x_pl, dw_cn_Dyd dw_x_pl, dw_cn_Dwk dw_x_pl, dw_cn_Dfg dw_x_pl, dw_cn_Dq dw_x_pl, dw_cn_Dc dw_x_pl, dw_cn_onC dw_x_pl, dw_cn_li dw_x_pl, dw_cn_sa dw_x_pl, dw_XsA]); first | with_reducible rw [bnd_s] | with_reducible rw [bn2_s] | with_reducible rw [grd_t]))
  by_cases c0 : dw_in a 0 3 = 0
  · rw [if_pos c0, if_pos c0]
    exact dw_Cgo_id h
  rw [if_neg c0, if_neg c0]
  obtain ⟨q, hq, rfl⟩ := dw_in_of (n := 3) rfl c0
  rw [dw_N_nI (by omega)]
  cases e1 : dw_st s d 6 with
  | none =>
    dsimp only
    repeat (first | with_reducible rw [bnd_s] | with_reducible rw [nmd_s] | with_reducible rw [bn2_s] | with_reducible rw [grd_t] | ((conv => arg 1; arg 1; simp (disch := omega) only [dw_x_is, dw_x_f0, dw_x_f1, dw_x_t1, dw_x_f2, dw_x_f3, dw_x_f4, dw_x_t5, dw_x_f6, dw_x_f7, dw_x_tis, dw_x_p0, dw_x_p6, dw_x_p1, dw_x_q1, dw_x_p2, dw_x_q2, dw_x_p3, dw_x_q3, dw_x_p4, dw_x_q4, dw_x_p5, dw_x_q5, dw_x_p7, dw_x_q7, dw_x_ln1, dw_x_ln3, dw_x_ln4, dw_x_ln5, dw_x_ln6, dw_x_a6, dw_x_w6, dw_x_a4, dw_x_w4, dw_ct_is dw_x_pl, dw_ct_A0 dw_x_pl, dw_ct_I1 dw_x_pl, dw_ct_J2 dw_x_pl, dw_ct_J3 dw_x_pl, dw_ct_I4 dw_x_pl, dw_ct_A5 dw_x_pl, dw_ct_S1 dw_x_pl, dw_ct_S2 dw_x_pl, dw_ct_S3 dw_x_pl, dw_ct_S5 dw_x_pl, dw_ct_ln dw_x_pl, dw_ct_aA dw_x_pl, dw_ct_dis dw_x_pl, dw_ct_dI0 dw_x_pl, dw_ct_dI1 dw_x_pl, dw_ct_dI2 dw_x_pl, dw_ct_dI3 dw_x_pl, dw_ct_dI4 dw_x_pl, dw_ct_dI5 dw_x_pl, dw_ct_dI6 dw_x_pl, dw_ct_dS1 dw_x_pl, dw_ct_dS2 dw_x_pl, dw_ct_dS3 dw_x_pl, dw_ct_dS4 dw_x_pl, dw_ct_dS5 dw_x_pl, dw_ct_dS6 dw_x_pl, dw_ct_Dyd dw_x_pl, dw_ct_Dwk dw_x_pl, dw_ct_Dfg dw_x_pl, dw_ct_Dq dw_x_pl, dw_ct_Dc dw_x_pl, dw_ct_onC dw_x_pl, dw_ct_li dw_x_pl, dw_ct_sa dw_x_pl, dw_cn_is dw_x_pl, dw_cn_A0 dw_x_pl, dw_cn_I1 dw_x_pl, dw_cn_J2 dw_x_pl, dw_cn_J3 dw_x_pl, dw_cn_I4 dw_x_pl, dw_cn_A5 dw_x_pl, dw_cn_S1 dw_x_pl, dw_cn_S2 dw_x_pl, dw_cn_S3 dw_x_pl, dw_cn_S5 dw_x_pl, dw_cn_ln dw_x_pl, dw_cn_aA dw_x_pl, dw_cn_dis dw_x_pl, dw_cn_dI0 dw_x_pl, dw_cn_dI1 dw_x_pl, dw_cn_dI2 dw_x_pl, dw_cn_dI3 dw_x_pl, dw_cn_dI4 dw_x_pl, dw_cn_dI5 dw_x_pl, dw_cn_dI6 dw_x_pl, dw_cn_dS1 dw_x_pl, dw_cn_dS2 dw_x_pl, dw_cn_dS3 dw_x_pl, dw_cn_dS4 dw_x_pl, dw_cn_dS5 dw_x_pl, dw_cn_dS6 dw_x_pl, dw_cn_Dyd dw_x_pl, dw_cn_Dwk dw_x_pl, dw_cn_Dfg dw_x_pl, dw_cn_Dq dw_x_pl, dw_cn_Dc dw_x_pl, dw_cn_onC dw_x_pl, dw_cn_li dw_x_pl, dw_cn_sa dw_x_pl, dw_cn_stn dw_x_pl e1]); first | with_reducible rw [bnd_s] | with_reducible rw [bn2_s] | with_reducible rw [grd_t]))
    dsimp only
    exact dw_Cgo_id h
  | some j =>
    obtain ⟨j1, j2, j3⟩ := dw_st_of e1
    dsimp only
    repeat (first | with_reducible rw [bnd_s] | with_reducible rw [nmd_s] | with_reducible rw [bn2_s] | with_reducible rw [grd_t] | ((conv => arg 1; arg 1; simp (disch := omega) only [dw_x_is, dw_x_f0, dw_x_f1, dw_x_t1, dw_x_f2, dw_x_f3, dw_x_f4, dw_x_t5, dw_x_f6, dw_x_f7, dw_x_tis, dw_x_p0, dw_x_p6, dw_x_p1, dw_x_q1, dw_x_p2, dw_x_q2, dw_x_p3, dw_x_q3, dw_x_p4, dw_x_q4, dw_x_p5, dw_x_q5, dw_x_p7, dw_x_q7, dw_x_ln1, dw_x_ln3, dw_x_ln4, dw_x_ln5, dw_x_ln6, dw_x_a6, dw_x_w6, dw_x_a4, dw_x_w4, dw_ct_is dw_x_pl, dw_ct_A0 dw_x_pl, dw_ct_I1 dw_x_pl, dw_ct_J2 dw_x_pl, dw_ct_J3 dw_x_pl, dw_ct_I4 dw_x_pl, dw_ct_A5 dw_x_pl, dw_ct_S1 dw_x_pl, dw_ct_S2 dw_x_pl, dw_ct_S3 dw_x_pl, dw_ct_S5 dw_x_pl, dw_ct_ln dw_x_pl, dw_ct_aA dw_x_pl, dw_ct_dis dw_x_pl, dw_ct_dI0 dw_x_pl, dw_ct_dI1 dw_x_pl, dw_ct_dI2 dw_x_pl, dw_ct_dI3 dw_x_pl, dw_ct_dI4 dw_x_pl, dw_ct_dI5 dw_x_pl, dw_ct_dI6 dw_x_pl, dw_ct_dS1 dw_x_pl, dw_ct_dS2 dw_x_pl, dw_ct_dS3 dw_x_pl, dw_ct_dS4 dw_x_pl, dw_ct_dS5 dw_x_pl, dw_ct_dS6 dw_x_pl, dw_ct_Dyd dw_x_pl, dw_ct_Dwk dw_x_pl, dw_ct_Dfg dw_x_pl, dw_ct_Dq dw_x_pl, dw_ct_Dc dw_x_pl, dw_ct_onC dw_x_pl, dw_ct_li dw_x_pl, dw_ct_sa dw_x_pl, dw_cn_is dw_x_pl, dw_cn_A0 dw_x_pl, dw_cn_I1 dw_x_pl, dw_cn_J2 dw_x_pl, dw_cn_J3 dw_x_pl, dw_cn_I4 dw_x_pl, dw_cn_A5 dw_x_pl, dw_cn_S1 dw_x_pl, dw_cn_S2 dw_x_pl, dw_cn_S3 dw_x_pl, dw_cn_S5 dw_x_pl, dw_cn_ln dw_x_pl, dw_cn_aA dw_x_pl, dw_cn_dis dw_x_pl, dw_cn_dI0 dw_x_pl, dw_cn_dI1 dw_x_pl, dw_cn_dI2 dw_x_pl, dw_cn_dI3 dw_x_pl, dw_cn_dI4 dw_x_pl, dw_cn_dI5 dw_x_pl, dw_cn_dI6 dw_x_pl, dw_cn_dS1 dw_x_pl, dw_cn_dS2 dw_x_pl, dw_cn_dS3 dw_x_pl, dw_cn_dS4 dw_x_pl, dw_cn_dS5 dw_x_pl, dw_cn_dS6 dw_x_pl, dw_cn_Dyd dw_x_pl, dw_cn_Dwk dw_x_pl, dw_cn_Dfg dw_x_pl, dw_cn_Dq dw_x_pl, dw_cn_Dc dw_x_pl, dw_cn_onC dw_x_pl, dw_cn_li dw_x_pl, dw_cn_sa dw_x_pl, dw_cn_sts dw_x_pl e1]); first | with_reducible rw [bnd_s] | with_reducible rw [bn2_s] | with_reducible rw [grd_t]))
    dsimp only
    repeat (first | with_reducible rw [bnd_s] | with_reducible rw [nmd_s] | with_reducible rw [bn2_s] | with_reducible rw [grd_t] | ((conv => arg 1; arg 1; simp (disch := omega) only [dw_x_is, dw_x_f0, dw_x_f1, dw_x_t1, dw_x_f2, dw_x_f3, dw_x_f4, dw_x_t5, dw_x_f6, dw_x_f7, dw_x_tis, dw_x_p0, dw_x_p6, dw_x_p1, dw_x_q1, dw_x_p2, dw_x_q2, dw_x_p3, dw_x_q3, dw_x_p4, dw_x_q4, dw_x_p5, dw_x_q5, dw_x_p7, dw_x_q7, dw_x_ln1, dw_x_ln3, dw_x_ln4, dw_x_ln5, dw_x_ln6, dw_x_a6, dw_x_w6, dw_x_a4, dw_x_w4, dw_ct_is dw_x_pl, dw_ct_A0 dw_x_pl, dw_ct_I1 dw_x_pl, dw_ct_J2 dw_x_pl, dw_ct_J3 dw_x_pl, dw_ct_I4 dw_x_pl, dw_ct_A5 dw_x_pl, dw_ct_S1 dw_x_pl, dw_ct_S2 dw_x_pl, dw_ct_S3 dw_x_pl, dw_ct_S5 dw_x_pl, dw_ct_ln dw_x_pl, dw_ct_aA dw_x_pl, dw_ct_dis dw_x_pl, dw_ct_dI0 dw_x_pl, dw_ct_dI1 dw_x_pl, dw_ct_dI2 dw_x_pl, dw_ct_dI3 dw_x_pl, dw_ct_dI4 dw_x_pl, dw_ct_dI5 dw_x_pl, dw_ct_dI6 dw_x_pl, dw_ct_dS1 dw_x_pl, dw_ct_dS2 dw_x_pl, dw_ct_dS3 dw_x_pl, dw_ct_dS4 dw_x_pl, dw_ct_dS5 dw_x_pl, dw_ct_dS6 dw_x_pl, dw_ct_Dyd dw_x_pl, dw_ct_Dwk dw_x_pl, dw_ct_Dfg dw_x_pl, dw_ct_Dq dw_x_pl, dw_ct_Dc dw_x_pl, dw_ct_onC dw_x_pl, dw_ct_li dw_x_pl, dw_ct_sa dw_x_pl, dw_cn_is dw_x_pl, dw_cn_A0 dw_x_pl, dw_cn_I1 dw_x_pl, dw_cn_J2 dw_x_pl, dw_cn_J3 dw_x_pl, dw_cn_I4 dw_x_pl, dw_cn_A5 dw_x_pl, dw_cn_S1 dw_x_pl, dw_cn_S2 dw_x_pl, dw_cn_S3 dw_x_pl, dw_cn_S5 dw_x_pl, dw_cn_ln dw_x_pl, dw_cn_aA dw_x_pl, dw_cn_dis dw_x_pl, dw_cn_dI0 dw_x_pl, dw_cn_dI1 dw_x_pl, dw_cn_dI2 dw_x_pl, dw_cn_dI3 dw_x_pl, dw_cn_dI4 dw_x_pl, dw_cn_dI5 dw_x_pl, dw_cn_dI6 dw_x_pl, dw_cn_dS1 dw_x_pl, dw_cn_dS2 dw_x_pl, dw_cn_dS3 dw_x_pl, dw_cn_dS4 dw_x_pl, dw_cn_dS5 dw_x_pl, dw_cn_dS6 dw_x_pl, dw_cn_Dyd dw_x_pl, dw_cn_Dwk dw_x_pl, dw_cn_Dfg dw_x_pl, dw_cn_Dq dw_x_pl, dw_cn_Dc dw_x_pl, dw_cn_onC dw_x_pl, dw_cn_li dw_x_pl, dw_cn_sa dw_x_pl, dw_Xin]); first | with_reducible rw [bnd_s] | with_reducible rw [bn2_s] | with_reducible rw [grd_t]))
    by_cases c1 : dw_in n 0 20 = 0
    · rw [if_pos c1, if_pos c1]
      exact dw_Cgo_id h
    rw [if_neg c1, if_neg c1]
    obtain ⟨x, hx, rfl⟩ := dw_in_of (n := 20) rfl c1
    obtain ⟨H1, e, g, g1, g2⟩ := dw_Xbr (N := (l, nI m, nI yy, ho, cl, s, k)) (T := T) (Z := Z) (tk := nI tx) (kp := kp) (tf := tf) (ti := ti) (B := B) (C := C) (U := U) (H := H) (q := q) (by omega) 0 (nI x)
    obtain ⟨k1, e5⟩ := dw_Xbe0 (l := l) (m := nI m) (yy := yy) (ho := ho) (cl := cl) (k := k) (Z := Z) (tk := nI tx) (kp := kp) (tf := tf) (ti := ti) (B := B) (C := C) (U := U) (H := H1) o2 T
    repeat (first | with_reducible rw [bnd_s] | with_reducible rw [nmd_s] | with_reducible rw [bn2_s] | with_reducible rw [grd_t] | ((conv => arg 1; arg 1; simp (disch := omega) only [dw_x_is, dw_x_f0, dw_x_f1, dw_x_t1, dw_x_f2, dw_x_f3, dw_x_f4, dw_x_t5, dw_x_f6, dw_x_f7, dw_x_tis, dw_x_p0, dw_x_p6, dw_x_p1, dw_x_q1, dw_x_p2, dw_x_q2, dw_x_p3, dw_x_q3, dw_x_p4, dw_x_q4, dw_x_p5, dw_x_q5, dw_x_p7, dw_x_q7, dw_x_ln1, dw_x_ln3, dw_x_ln4, dw_x_ln5, dw_x_ln6, dw_x_a6, dw_x_w6, dw_x_a4, dw_x_w4, dw_ct_is dw_x_pl, dw_ct_A0 dw_x_pl, dw_ct_I1 dw_x_pl, dw_ct_J2 dw_x_pl, dw_ct_J3 dw_x_pl, dw_ct_I4 dw_x_pl, dw_ct_A5 dw_x_pl, dw_ct_S1 dw_x_pl, dw_ct_S2 dw_x_pl, dw_ct_S3 dw_x_pl, dw_ct_S5 dw_x_pl, dw_ct_ln dw_x_pl, dw_ct_aA dw_x_pl, dw_ct_dis dw_x_pl, dw_ct_dI0 dw_x_pl, dw_ct_dI1 dw_x_pl, dw_ct_dI2 dw_x_pl, dw_ct_dI3 dw_x_pl, dw_ct_dI4 dw_x_pl, dw_ct_dI5 dw_x_pl, dw_ct_dI6 dw_x_pl, dw_ct_dS1 dw_x_pl, dw_ct_dS2 dw_x_pl, dw_ct_dS3 dw_x_pl, dw_ct_dS4 dw_x_pl, dw_ct_dS5 dw_x_pl, dw_ct_dS6 dw_x_pl, dw_ct_Dyd dw_x_pl, dw_ct_Dwk dw_x_pl, dw_ct_Dfg dw_x_pl, dw_ct_Dq dw_x_pl, dw_ct_Dc dw_x_pl, dw_ct_onC dw_x_pl, dw_ct_li dw_x_pl, dw_ct_sa dw_x_pl, dw_cn_is dw_x_pl, dw_cn_A0 dw_x_pl, dw_cn_I1 dw_x_pl, dw_cn_J2 dw_x_pl, dw_cn_J3 dw_x_pl, dw_cn_I4 dw_x_pl, dw_cn_A5 dw_x_pl, dw_cn_S1 dw_x_pl, dw_cn_S2 dw_x_pl, dw_cn_S3 dw_x_pl, dw_cn_S5 dw_x_pl, dw_cn_ln dw_x_pl, dw_cn_aA dw_x_pl, dw_cn_dis dw_x_pl, dw_cn_dI0 dw_x_pl, dw_cn_dI1 dw_x_pl, dw_cn_dI2 dw_x_pl, dw_cn_dI3 dw_x_pl, dw_cn_dI4 dw_x_pl, dw_cn_dI5 dw_x_pl, dw_cn_dI6 dw_x_pl, dw_cn_dS1 dw_x_pl, dw_cn_dS2 dw_x_pl, dw_cn_dS3 dw_x_pl, dw_cn_dS4 dw_x_pl, dw_cn_dS5 dw_x_pl, dw_cn_dS6 dw_x_pl, dw_cn_Dyd dw_x_pl, dw_cn_Dwk dw_x_pl, dw_cn_Dfg dw_x_pl, dw_cn_Dq dw_x_pl, dw_cn_Dc dw_x_pl, dw_cn_onC dw_x_pl, dw_cn_li dw_x_pl, dw_cn_sa dw_x_pl, dw_x_sis (show q < 4 by omega), e]); first | with_reducible rw [bnd_s] | with_reducible rw [bn2_s] | with_reducible rw [grd_t]))
    repeat (first | with_reducible rw [bnd_s] | with_reducible rw [nmd_s] | with_reducible rw [bn2_s] | with_reducible rw [grd_t] | ((conv => arg 1; arg 1; simp (disch := omega) only [dw_x_is, dw_x_f0, dw_x_f1, dw_x_t1, dw_x_f2, dw_x_f3, dw_x_f4, dw_x_t5, dw_x_f6, dw_x_f7, dw_x_tis, dw_x_p0, dw_x_p6, dw_x_p1, dw_x_q1, dw_x_p2, dw_x_q2, dw_x_p3, dw_x_q3, dw_x_p4, dw_x_q4, dw_x_p5, dw_x_q5, dw_x_p7, dw_x_q7, dw_x_ln1, dw_x_ln3, dw_x_ln4, dw_x_ln5, dw_x_ln6, dw_x_a6, dw_x_w6, dw_x_a4, dw_x_w4, dw_ct_is dw_x_pl, dw_ct_A0 dw_x_pl, dw_ct_I1 dw_x_pl, dw_ct_J2 dw_x_pl, dw_ct_J3 dw_x_pl, dw_ct_I4 dw_x_pl, dw_ct_A5 dw_x_pl, dw_ct_S1 dw_x_pl, dw_ct_S2 dw_x_pl, dw_ct_S3 dw_x_pl, dw_ct_S5 dw_x_pl, dw_ct_ln dw_x_pl, dw_ct_aA dw_x_pl, dw_ct_dis dw_x_pl, dw_ct_dI0 dw_x_pl, dw_ct_dI1 dw_x_pl, dw_ct_dI2 dw_x_pl, dw_ct_dI3 dw_x_pl, dw_ct_dI4 dw_x_pl, dw_ct_dI5 dw_x_pl, dw_ct_dI6 dw_x_pl, dw_ct_dS1 dw_x_pl, dw_ct_dS2 dw_x_pl, dw_ct_dS3 dw_x_pl, dw_ct_dS4 dw_x_pl, dw_ct_dS5 dw_x_pl, dw_ct_dS6 dw_x_pl, dw_ct_Dyd dw_x_pl, dw_ct_Dwk dw_x_pl, dw_ct_Dfg dw_x_pl, dw_ct_Dq dw_x_pl, dw_ct_Dc dw_x_pl, dw_ct_onC dw_x_pl, dw_ct_li dw_x_pl, dw_ct_sa dw_x_pl, dw_cn_is dw_x_pl, dw_cn_A0 dw_x_pl, dw_cn_I1 dw_x_pl, dw_cn_J2 dw_x_pl, dw_cn_J3 dw_x_pl, dw_cn_I4 dw_x_pl, dw_cn_A5 dw_x_pl, dw_cn_S1 dw_x_pl, dw_cn_S2 dw_x_pl, dw_cn_S3 dw_x_pl, dw_cn_S5 dw_x_pl, dw_cn_ln dw_x_pl, dw_cn_aA dw_x_pl, dw_cn_dis dw_x_pl, dw_cn_dI0 dw_x_pl, dw_cn_dI1 dw_x_pl, dw_cn_dI2 dw_x_pl, dw_cn_dI3 dw_x_pl, dw_cn_dI4 dw_x_pl, dw_cn_dI5 dw_x_pl, dw_cn_dI6 dw_x_pl, dw_cn_dS1 dw_x_pl, dw_cn_dS2 dw_x_pl, dw_cn_dS3 dw_x_pl, dw_cn_dS4 dw_x_pl, dw_cn_dS5 dw_x_pl, dw_cn_dS6 dw_x_pl, dw_cn_Dyd dw_x_pl, dw_cn_Dwk dw_x_pl, dw_cn_Dfg dw_x_pl, dw_cn_Dq dw_x_pl, dw_cn_Dc dw_x_pl, dw_cn_onC dw_x_pl, dw_cn_li dw_x_pl, dw_cn_sa dw_x_pl, e5, dw_ct_sts dw_x_pl e1]); first | with_reducible rw [bnd_s] | with_reducible rw [bn2_s] | with_reducible rw [grd_t]))
    obtain ⟨H2, T', f1, f2, f3, f4, f5⟩ := dw_Cfilm73 (N := (l, nI m, nI yy, ho, cl, s, k)) (m := nI m) (yy := yy) (ho := ho) (cl := cl) (s := s) (H := H1) (tx := tx) (kp := kp) (tf := tf) (ti := ti) (B := B) (C := C) (U := U) (fun H => dw_LWP (dw_Claw h ok)) (q := q) (d := j) (n := x) (by omega) j1 hx o2 (999 - x) x 0 k1 H1 (by omega) g1 rfl rfl (fun _ _ => rfl) (fun i hi => by
      have := (g q (by omega)).2.2 i hi
      rw [this, if_neg (Nat.not_lt_zero i)]
      show (if q = q then (0 : Int32) else _) = 0
      rw [if_pos rfl])
    rw [show 999 - x + x + 1 = 1000 by omega, dw_T0] at f1
    have f1' : X_film_73 1000 (dw_cl (dw_pre (nI tx) kp tf ti B C U H1) (l, nI m, nI yy, ho, cl, s, k) (l, nI m, nI yy, ho, cl, s, k1) Z) 0 (nI x) (some (7 + 2 * q)) (some (31 + j)) 0 = _ := f1
    rw [f1']
    refine dw_Cgo_H h (fun p hp => ⟨?_, ?_, fun i hi => ?_⟩)
    · rw [f2]
      exact (g p hp).1
    · rw [f3]
      exact (g p hp).2.1
    · show _ = if p = q then (if i < dw_N (nI x) then dw_fg (dw_T (wt r) cl s yy (i + 1)) j 3 else 0) else H.2.2 p i
      by_cases c : p = q
      · rw [c, if_pos rfl, dw_N_nI (by omega), f5 i hi]
      · rw [if_neg c, f4 p c, (g p hp).2.2 i hi]
        show (if p = q then (0 : Int32) else H.2.2 p i) = _
        rw [if_neg c]
theorem dw_Cdby65 {q z n : Nat} (hq : q < 4) (hz : z ≤ 40) (hn : n ≤ 6) (fr : Int32) {H0 : dw_H} (f j : Nat) : ∀ (i : Nat) (σ : dw_S) (v : Int32) (o : pm_H), i + j = n → (0 < i → ¬ fr < 0) → dw_Ok σ → dw_Cgo (some (o, ())) σ () → σ.2.2.2.2 = H0 → H0.2.1 q = nI z → dw_Cgo (X_dunesBy_65 (f + j + 1) o 0 fr (nI n) (some (7 + 2 * q)) v (nI i)) (dw_dby (H0.2.2 q) (nI z) fr j i σ v).1 (dw_dby (H0.2.2 q) (nI z) fr j i σ v).2 := by
  induction j with
  | zero =>
    intro i σ v o hi hfr ok ho hH hHz
    obtain ⟨⟨m, s, yy, ho', cl, r⟩, ⟨tx, wt⟩, ⟨tp, tb⟩, im, H'⟩ := σ
    obtain ⟨kp, tf, ti, B, C, U, H1, l, k, T, Z, e, g, h⟩ := ho
    injection e with e
    have e := (Prod.mk.inj e).1
    subst e
    rw [X_dunesBy_65, if_pos (show nI n ≤ nI i from nI_le (by omega) (by omega)), dw_dby]
    exact ⟨kp, tf, ti, B, C, U, H1, l, k, T, Z, rfl, g, h⟩
  | succ j ih =>
    intro i σ v o hi hfr ok ho hH hHz
    obtain ⟨⟨m, s, yy, ho', cl, r⟩, ⟨tx, wt⟩, ⟨tp, tb⟩, im, H'⟩ := σ
    obtain rfl : H' = H0 := hH
    obtain ⟨kp, tf, ti, B, C, U, H1, l, k, T, Z, e, g, h⟩ := ho
    injection e with e
    have e := (Prod.mk.inj e).1
    subst e
    have ez : H1.2.1 q = nI z := (g q hq).2.1.trans hHz
    rw [show f + (j + 1) + 1 = f + j + 1 + 1 by omega, X_dunesBy_65, if_neg (show ¬ nI n ≤ nI i from nI_ge (by omega) (by omega)), dw_dby, nmd_s, dw_2]
    repeat (first | with_reducible rw [bnd_s] | with_reducible rw [nmd_s] | with_reducible rw [bn2_s] | with_reducible rw [grd_t] | ((conv => arg 1; arg 1; simp (disch := omega) only [dw_x_is, dw_x_f0, dw_x_f1, dw_x_t1, dw_x_f2, dw_x_f3, dw_x_f4, dw_x_t5, dw_x_f6, dw_x_f7, dw_x_tis, dw_x_p0, dw_x_p6, dw_x_p1, dw_x_q1, dw_x_p2, dw_x_q2, dw_x_p3, dw_x_q3, dw_x_p4, dw_x_q4, dw_x_p5, dw_x_q5, dw_x_p7, dw_x_q7, dw_x_ln1, dw_x_ln3, dw_x_ln4, dw_x_ln5, dw_x_ln6, dw_x_a6, dw_x_w6, dw_x_a4, dw_x_w4, dw_ct_is dw_x_pl, dw_ct_A0 dw_x_pl, dw_ct_I1 dw_x_pl, dw_ct_J2 dw_x_pl, dw_ct_J3 dw_x_pl, dw_ct_I4 dw_x_pl, dw_ct_A5 dw_x_pl, dw_ct_S1 dw_x_pl, dw_ct_S2 dw_x_pl, dw_ct_S3 dw_x_pl, dw_ct_S5 dw_x_pl, dw_ct_ln dw_x_pl, dw_ct_aA dw_x_pl, dw_ct_dis dw_x_pl, dw_ct_dI0 dw_x_pl, dw_ct_dI1 dw_x_pl, dw_ct_dI2 dw_x_pl, dw_ct_dI3 dw_x_pl, dw_ct_dI4 dw_x_pl, dw_ct_dI5 dw_x_pl, dw_ct_dI6 dw_x_pl, dw_ct_dS1 dw_x_pl, dw_ct_dS2 dw_x_pl, dw_ct_dS3 dw_x_pl, dw_ct_dS4 dw_x_pl, dw_ct_dS5 dw_x_pl, dw_ct_dS6 dw_x_pl, dw_ct_Dyd dw_x_pl, dw_ct_Dwk dw_x_pl, dw_ct_Dfg dw_x_pl, dw_ct_Dq dw_x_pl, dw_ct_Dc dw_x_pl, dw_ct_onC dw_x_pl, dw_ct_li dw_x_pl, dw_ct_sa dw_x_pl, dw_cn_is dw_x_pl, dw_cn_A0 dw_x_pl, dw_cn_I1 dw_x_pl, dw_cn_J2 dw_x_pl, dw_cn_J3 dw_x_pl, dw_cn_I4 dw_x_pl, dw_cn_A5 dw_x_pl, dw_cn_S1 dw_x_pl, dw_cn_S2 dw_x_pl, dw_cn_S3 dw_x_pl, dw_cn_S5 dw_x_pl, dw_cn_ln dw_x_pl, dw_cn_aA dw_x_pl, dw_cn_dis dw_x_pl, dw_cn_dI0 dw_x_pl, dw_cn_dI1 dw_x_pl, dw_cn_dI2 dw_x_pl, dw_cn_dI3 dw_x_pl, dw_cn_dI4 dw_x_pl, dw_cn_dI5 dw_x_pl, dw_cn_dI6 dw_x_pl, dw_cn_dS1 dw_x_pl, dw_cn_dS2 dw_x_pl, dw_cn_dS3 dw_x_pl, dw_cn_dS4 dw_x_pl, dw_cn_dS5 dw_x_pl, dw_cn_dS6 dw_x_pl, dw_cn_Dyd dw_x_pl, dw_cn_Dwk dw_x_pl, dw_cn_Dfg dw_x_pl, dw_cn_Dq dw_x_pl, dw_cn_Dc dw_x_pl, dw_cn_onC dw_x_pl, dw_cn_li dw_x_pl, dw_cn_sa dw_x_pl, dw_x_sis hq, dw_Xhp hq hz ez]); first | with_reducible rw [bnd_s] | with_reducible rw [bn2_s] | with_reducible rw [grd_t]))
    by_cases c : dw_plb (fr + nI (2 * i)) 2 (nI z) = true
    · have c0 : ¬ fr < 0 := by
        rcases Nat.eq_zero_or_pos i with i0 | i0
        · subst i0
          obtain ⟨p, p', e1, e2, e3⟩ := (dw_plb_iff (by omega)).mp c
          have e4 : fr = nI p := by
            rw [← e1]
            show fr = fr + 0
            exact (Int32.add_zero fr).symm
          rw [e4]
          exact nI_pos (by omega)
        · exact hfr i0
      obtain ⟨e1, e2⟩ := dw_dbyp c0 (show i ≤ 6 by omega) hz c
      rw [if_pos c, if_pos c, if_neg (by decide), e1]
      repeat (first | with_reducible rw [bnd_s] | with_reducible rw [nmd_s] | with_reducible rw [bn2_s] | with_reducible rw [grd_t] | ((conv => arg 1; arg 1; simp (disch := omega) only [dw_x_is, dw_x_f0, dw_x_f1, dw_x_t1, dw_x_f2, dw_x_f3, dw_x_f4, dw_x_t5, dw_x_f6, dw_x_f7, dw_x_tis, dw_x_p0, dw_x_p6, dw_x_p1, dw_x_q1, dw_x_p2, dw_x_q2, dw_x_p3, dw_x_q3, dw_x_p4, dw_x_q4, dw_x_p5, dw_x_q5, dw_x_p7, dw_x_q7, dw_x_ln1, dw_x_ln3, dw_x_ln4, dw_x_ln5, dw_x_ln6, dw_x_a6, dw_x_w6, dw_x_a4, dw_x_w4, dw_ct_is dw_x_pl, dw_ct_A0 dw_x_pl, dw_ct_I1 dw_x_pl, dw_ct_J2 dw_x_pl, dw_ct_J3 dw_x_pl, dw_ct_I4 dw_x_pl, dw_ct_A5 dw_x_pl, dw_ct_S1 dw_x_pl, dw_ct_S2 dw_x_pl, dw_ct_S3 dw_x_pl, dw_ct_S5 dw_x_pl, dw_ct_ln dw_x_pl, dw_ct_aA dw_x_pl, dw_ct_dis dw_x_pl, dw_ct_dI0 dw_x_pl, dw_ct_dI1 dw_x_pl, dw_ct_dI2 dw_x_pl, dw_ct_dI3 dw_x_pl, dw_ct_dI4 dw_x_pl, dw_ct_dI5 dw_x_pl, dw_ct_dI6 dw_x_pl, dw_ct_dS1 dw_x_pl, dw_ct_dS2 dw_x_pl, dw_ct_dS3 dw_x_pl, dw_ct_dS4 dw_x_pl, dw_ct_dS5 dw_x_pl, dw_ct_dS6 dw_x_pl, dw_ct_Dyd dw_x_pl, dw_ct_Dwk dw_x_pl, dw_ct_Dfg dw_x_pl, dw_ct_Dq dw_x_pl, dw_ct_Dc dw_x_pl, dw_ct_onC dw_x_pl, dw_ct_li dw_x_pl, dw_ct_sa dw_x_pl, dw_cn_is dw_x_pl, dw_cn_A0 dw_x_pl, dw_cn_I1 dw_x_pl, dw_cn_J2 dw_x_pl, dw_cn_J3 dw_x_pl, dw_cn_I4 dw_x_pl, dw_cn_A5 dw_x_pl, dw_cn_S1 dw_x_pl, dw_cn_S2 dw_x_pl, dw_cn_S3 dw_x_pl, dw_cn_S5 dw_x_pl, dw_cn_ln dw_x_pl, dw_cn_aA dw_x_pl, dw_cn_dis dw_x_pl, dw_cn_dI0 dw_x_pl, dw_cn_dI1 dw_x_pl, dw_cn_dI2 dw_x_pl, dw_cn_dI3 dw_x_pl, dw_cn_dI4 dw_x_pl, dw_cn_dI5 dw_x_pl, dw_cn_dI6 dw_x_pl, dw_cn_dS1 dw_x_pl, dw_cn_dS2 dw_x_pl, dw_cn_dS3 dw_x_pl, dw_cn_dS4 dw_x_pl, dw_cn_dS5 dw_x_pl, dw_cn_dS6 dw_x_pl, dw_cn_Dyd dw_x_pl, dw_cn_Dwk dw_x_pl, dw_cn_Dfg dw_x_pl, dw_cn_Dq dw_x_pl, dw_cn_Dc dw_x_pl, dw_cn_onC dw_x_pl, dw_cn_li dw_x_pl, dw_cn_sa dw_x_pl, dw_x_s2 hq, dw_x_sa hq (show dw_N fr + 2 * i < 40 by omega), nI_1, dw_x_sa hq (show dw_N fr + 2 * i + 1 < 40 by omega)]); first | with_reducible rw [bnd_s] | with_reducible rw [bn2_s] | with_reducible rw [grd_t]))
      rw [(g q hq).2.2 _ (show dw_N fr + 2 * i < 40 by omega), (g q hq).2.2 _ (show dw_N fr + 2 * i + 1 < 40 by omega)]
      generalize H'.2.2 q (dw_N fr + 2 * i) = x1
      generalize H'.2.2 q (dw_N fr + 2 * i + 1) = x2
      have ok1 : dw_Ok ((m, s, yy, ho', cl, r), (tx, wt), (tp, tb), im, H1) := by
        obtain ⟨k1, k2, k3, k4, k5, k6, k7, k8⟩ := ok
        exact ⟨k1, k2, k3, k4, k5, k6, k7, fun p hp => by
          rw [(g p hp).1, (g p hp).2.1]
          exact k8 p hp⟩
      have gd := dw_Cdune (T := T) (C := C) (U := U) (k := k) h ok1 x1 x2
      have ok' := dw_Odune ok x1 x2
      have hH' := dw_odune_H ((m, s, yy, ho', cl, r), (tx, wt), (tp, tb), im, H') x1 x2
      have eqs : (dw_odune ((m, s, yy, ho', cl, r), (tx, wt), (tp, tb), im, H1) x1 x2).2 = (dw_odune ((m, s, yy, ho', cl, r), (tx, wt), (tp, tb), im, H') x1 x2).2 ∧ ∀ o v, dw_Cgo (α := Unit) o (dw_odune ((m, s, yy, ho', cl, r), (tx, wt), (tp, tb), im, H1) x1 x2).1 v → dw_Cgo o (dw_odune ((m, s, yy, ho', cl, r), (tx, wt), (tp, tb), im, H') x1 x2).1 v := by
        have tr : ∀ (m' : Nat) (s' : dw_L) (o : Option (pm_H × Unit)) v, dw_Cgo o ((m', s', yy, ho', cl, r), (tx, wt), (tp, tb), im, H1) v → dw_Cgo o ((m', s', yy, ho', cl, r), (tx, wt), (tp, tb), im, H') v := by
          intro m' s' o v q
          obtain ⟨kp, tf, ti, B, C, U, H2, l, k, T, Z, e, g', h'⟩ := q
          exact ⟨kp, tf, ti, B, C, U, H2, l, k, T, Z, e, dw_HE_tr g' g, h'⟩
        rw [dw_odune, dw_odune]
        by_cases d0 : dw_in x1 0 59 = 0
        · rw [if_pos d0, if_pos d0]; exact ⟨rfl, tr _ _⟩
        rw [if_neg d0, if_neg d0]
        by_cases d1 : dw_in x2 0 399099 = 0
        · rw [if_pos d1, if_pos d1]; exact ⟨rfl, tr _ _⟩
        rw [if_neg d1, if_neg d1]
        by_cases d2 : 100 ≤ dw_N x2 % 1000
        · rw [if_pos d2, if_pos d2]; exact ⟨rfl, tr _ _⟩
        rw [if_neg d2, if_neg d2]
        by_cases d3 : dw_N x2 / 1000 % 10 = 0
        · rw [if_pos d3, if_pos d3]; exact ⟨rfl, tr _ _⟩
        rw [if_neg d3, if_neg d3]
        by_cases d4 : m = 6
        · rw [if_pos d4, if_pos d4]; exact ⟨rfl, tr _ _⟩
        rw [if_neg d4, if_neg d4]
        exact ⟨rfl, tr _ _⟩
      rw [eqs.1] at gd
      generalize hσ1 : dw_odune ((m, s, yy, ho', cl, r), (tx, wt), (tp, tb), im, H1) x1 x2 = σ1 at gd eqs
      have gd2 : ∃ o', X_dune (dw_cl (dw_pre (nI tx) kp tf ti B C U H1) (l, nI m, nI yy, ho', cl, s, k) T Z) 0 x1 x2 = some (o', (dw_odune ((m, s, yy, ho', cl, r), (tx, wt), (tp, tb), im, H') x1 x2).2) ∧ dw_Cgo (some (o', ())) σ1.1 () := by
        obtain ⟨⟨⟨m1, s1, yy1, ho1, cl1, r1⟩, ⟨tx1, wt1⟩, ⟨tp1, tb1⟩, im1, H2⟩, v1⟩ := σ1
        obtain ⟨kp, tf, ti, B, C, U, H3, l, k, T, Z, e, g', h'⟩ := gd
        exact ⟨_, e, kp, tf, ti, B, C, U, H3, l, k, T, Z, rfl, g', h'⟩
      obtain ⟨o', e9, gd3⟩ := gd2
      repeat (first | with_reducible rw [bnd_s] | with_reducible rw [nmd_s] | with_reducible rw [bn2_s] | with_reducible rw [grd_t] | ((conv => arg 1; arg 1; simp (disch := omega) only [dw_x_is, dw_x_f0, dw_x_f1, dw_x_t1, dw_x_f2, dw_x_f3, dw_x_f4, dw_x_t5, dw_x_f6, dw_x_f7, dw_x_tis, dw_x_p0, dw_x_p6, dw_x_p1, dw_x_q1, dw_x_p2, dw_x_q2, dw_x_p3, dw_x_q3, dw_x_p4, dw_x_q4, dw_x_p5, dw_x_q5, dw_x_p7, dw_x_q7, dw_x_ln1, dw_x_ln3, dw_x_ln4, dw_x_ln5, dw_x_ln6, dw_x_a6, dw_x_w6, dw_x_a4, dw_x_w4, dw_ct_is dw_x_pl, dw_ct_A0 dw_x_pl, dw_ct_I1 dw_x_pl, dw_ct_J2 dw_x_pl, dw_ct_J3 dw_x_pl, dw_ct_I4 dw_x_pl, dw_ct_A5 dw_x_pl, dw_ct_S1 dw_x_pl, dw_ct_S2 dw_x_pl, dw_ct_S3 dw_x_pl, dw_ct_S5 dw_x_pl, dw_ct_ln dw_x_pl, dw_ct_aA dw_x_pl, dw_ct_dis dw_x_pl, dw_ct_dI0 dw_x_pl, dw_ct_dI1 dw_x_pl, dw_ct_dI2 dw_x_pl, dw_ct_dI3 dw_x_pl, dw_ct_dI4 dw_x_pl, dw_ct_dI5 dw_x_pl, dw_ct_dI6 dw_x_pl, dw_ct_dS1 dw_x_pl, dw_ct_dS2 dw_x_pl, dw_ct_dS3 dw_x_pl, dw_ct_dS4 dw_x_pl, dw_ct_dS5 dw_x_pl, dw_ct_dS6 dw_x_pl, dw_ct_Dyd dw_x_pl, dw_ct_Dwk dw_x_pl, dw_ct_Dfg dw_x_pl, dw_ct_Dq dw_x_pl, dw_ct_Dc dw_x_pl, dw_ct_onC dw_x_pl, dw_ct_li dw_x_pl, dw_ct_sa dw_x_pl, dw_cn_is dw_x_pl, dw_cn_A0 dw_x_pl, dw_cn_I1 dw_x_pl, dw_cn_J2 dw_x_pl, dw_cn_J3 dw_x_pl, dw_cn_I4 dw_x_pl, dw_cn_A5 dw_x_pl, dw_cn_S1 dw_x_pl, dw_cn_S2 dw_x_pl, dw_cn_S3 dw_x_pl, dw_cn_S5 dw_x_pl, dw_cn_ln dw_x_pl, dw_cn_aA dw_x_pl, dw_cn_dis dw_x_pl, dw_cn_dI0 dw_x_pl, dw_cn_dI1 dw_x_pl, dw_cn_dI2 dw_x_pl, dw_cn_dI3 dw_x_pl, dw_cn_dI4 dw_x_pl, dw_cn_dI5 dw_x_pl, dw_cn_dI6 dw_x_pl, dw_cn_dS1 dw_x_pl, dw_cn_dS2 dw_x_pl, dw_cn_dS3 dw_x_pl, dw_cn_dS4 dw_x_pl, dw_cn_dS5 dw_x_pl, dw_cn_dS6 dw_x_pl, dw_cn_Dyd dw_x_pl, dw_cn_Dwk dw_x_pl, dw_cn_Dfg dw_x_pl, dw_cn_Dq dw_x_pl, dw_cn_Dc dw_x_pl, dw_cn_onC dw_x_pl, dw_cn_li dw_x_pl, dw_cn_sa dw_x_pl, e9]); first | with_reducible rw [bnd_s] | with_reducible rw [bn2_s] | with_reducible rw [grd_t]))
      by_cases c3 : (dw_odune ((m, s, yy, ho', cl, r), (tx, wt), (tp, tb), im, H') x1 x2).2 < 0
      · rw [if_pos c3, if_pos c3, X_dunesBy_122, nmd_s, nI_1]
        exact ih (i + 1) _ v o' (by omega) (fun _ => c0) ok' (eqs.2 _ _ gd3) hH' hHz
      · rw [if_neg c3, if_neg c3, X_dunesBy_122, nmd_s, nI_1]
        exact ih (i + 1) _ (v + 1) o' (by omega) (fun _ => c0) ok' (eqs.2 _ _ gd3) hH' hHz
    · rw [if_neg c, if_neg c, if_pos rfl]
      exact ⟨kp, tf, ti, B, C, U, H1, l, k, T, Z, rfl, g, h⟩
theorem dw_Cdby (h : dw_CX kp tf ti B l Z ((m, s, yy, ho, cl, r), (tx, wt), (tp, tb), im, H)) (ok : dw_Ok ((m, s, yy, ho, cl, r), (tx, wt), (tp, tb), im, H)) (a sort fr n : Int32) : dw_Cgo (X_dunesBy (dw_cl (dw_pre (nI tx) kp tf ti B C U H) (l, nI m, nI yy, ho, cl, s, k) T Z) 0 a sort fr n) (dw_odby ((m, s, yy, ho, cl, r), (tx, wt), (tp, tb), im, H) a sort fr n).1 (dw_odby ((m, s, yy, ho, cl, r), (tx, wt), (tp, tb), im, H) a sort fr n).2 := by
  rw [X_dunesBy, dw_odby]
  repeat (first | with_reducible rw [bnd_s] | with_reducible rw [nmd_s] | with_reducible rw [bn2_s] | with_reducible rw [grd_t] | ((conv => arg 1; arg 1; simp (disch := omega) only [dw_x_is, dw_x_f0, dw_x_f1, dw_x_t1, dw_x_f2, dw_x_f3, dw_x_f4, dw_x_t5, dw_x_f6, dw_x_f7, dw_x_tis, dw_x_p0, dw_x_p6, dw_x_p1, dw_x_q1, dw_x_p2, dw_x_q2, dw_x_p3, dw_x_q3, dw_x_p4, dw_x_q4, dw_x_p5, dw_x_q5, dw_x_p7, dw_x_q7, dw_x_ln1, dw_x_ln3, dw_x_ln4, dw_x_ln5, dw_x_ln6, dw_x_a6, dw_x_w6, dw_x_a4, dw_x_w4, dw_ct_is dw_x_pl, dw_ct_A0 dw_x_pl, dw_ct_I1 dw_x_pl, dw_ct_J2 dw_x_pl, dw_ct_J3 dw_x_pl, dw_ct_I4 dw_x_pl, dw_ct_A5 dw_x_pl, dw_ct_S1 dw_x_pl, dw_ct_S2 dw_x_pl, dw_ct_S3 dw_x_pl, dw_ct_S5 dw_x_pl, dw_ct_ln dw_x_pl, dw_ct_aA dw_x_pl, dw_ct_dis dw_x_pl, dw_ct_dI0 dw_x_pl, dw_ct_dI1 dw_x_pl, dw_ct_dI2 dw_x_pl, dw_ct_dI3 dw_x_pl, dw_ct_dI4 dw_x_pl, dw_ct_dI5 dw_x_pl, dw_ct_dI6 dw_x_pl, dw_ct_dS1 dw_x_pl, dw_ct_dS2 dw_x_pl, dw_ct_dS3 dw_x_pl, dw_ct_dS4 dw_x_pl, dw_ct_dS5 dw_x_pl, dw_ct_dS6 dw_x_pl, dw_ct_Dyd dw_x_pl, dw_ct_Dwk dw_x_pl, dw_ct_Dfg dw_x_pl, dw_ct_Dq dw_x_pl, dw_ct_Dc dw_x_pl, dw_ct_onC dw_x_pl, dw_ct_li dw_x_pl, dw_ct_sa dw_x_pl, dw_cn_is dw_x_pl, dw_cn_A0 dw_x_pl, dw_cn_I1 dw_x_pl, dw_cn_J2 dw_x_pl, dw_cn_J3 dw_x_pl, dw_cn_I4 dw_x_pl, dw_cn_A5 dw_x_pl, dw_cn_S1 dw_x_pl, dw_cn_S2 dw_x_pl, dw_cn_S3 dw_x_pl, dw_cn_S5 dw_x_pl, dw_cn_ln dw_x_pl, dw_cn_aA dw_x_pl, dw_cn_dis dw_x_pl, dw_cn_dI0 dw_x_pl, dw_cn_dI1 dw_x_pl, dw_cn_dI2 dw_x_pl, dw_cn_dI3 dw_x_pl, dw_cn_dI4 dw_x_pl, dw_cn_dI5 dw_x_pl, dw_cn_dI6 dw_x_pl, dw_cn_dS1 dw_x_pl, dw_cn_dS2 dw_x_pl, dw_cn_dS3 dw_x_pl, dw_cn_dS4 dw_x_pl, dw_cn_dS5 dw_x_pl, dw_cn_dS6 dw_x_pl, dw_cn_Dyd dw_x_pl, dw_cn_Dwk dw_x_pl, dw_cn_Dfg dw_x_pl, dw_cn_Dq dw_x_pl, dw_cn_Dc dw_x_pl, dw_cn_onC dw_x_pl, dw_cn_li dw_x_pl, dw_cn_sa dw_x_pl, dw_XsA]); first | with_reducible rw [bnd_s] | with_reducible rw [bn2_s] | with_reducible rw [grd_t]))
  by_cases c0 : dw_in a 0 3 = 0
  · rw [if_pos c0, if_pos c0]
    exact dw_Cgo_id h
  rw [if_neg c0, if_neg c0]
  obtain ⟨q, hq, rfl⟩ := dw_in_of (n := 3) rfl c0
  rw [dw_N_nI (by omega)]
  dsimp only
  repeat (first | with_reducible rw [bnd_s] | with_reducible rw [nmd_s] | with_reducible rw [bn2_s] | with_reducible rw [grd_t] | ((conv => arg 1; arg 1; simp (disch := omega) only [dw_x_is, dw_x_f0, dw_x_f1, dw_x_t1, dw_x_f2, dw_x_f3, dw_x_f4, dw_x_t5, dw_x_f6, dw_x_f7, dw_x_tis, dw_x_p0, dw_x_p6, dw_x_p1, dw_x_q1, dw_x_p2, dw_x_q2, dw_x_p3, dw_x_q3, dw_x_p4, dw_x_q4, dw_x_p5, dw_x_q5, dw_x_p7, dw_x_q7, dw_x_ln1, dw_x_ln3, dw_x_ln4, dw_x_ln5, dw_x_ln6, dw_x_a6, dw_x_w6, dw_x_a4, dw_x_w4, dw_ct_is dw_x_pl, dw_ct_A0 dw_x_pl, dw_ct_I1 dw_x_pl, dw_ct_J2 dw_x_pl, dw_ct_J3 dw_x_pl, dw_ct_I4 dw_x_pl, dw_ct_A5 dw_x_pl, dw_ct_S1 dw_x_pl, dw_ct_S2 dw_x_pl, dw_ct_S3 dw_x_pl, dw_ct_S5 dw_x_pl, dw_ct_ln dw_x_pl, dw_ct_aA dw_x_pl, dw_ct_dis dw_x_pl, dw_ct_dI0 dw_x_pl, dw_ct_dI1 dw_x_pl, dw_ct_dI2 dw_x_pl, dw_ct_dI3 dw_x_pl, dw_ct_dI4 dw_x_pl, dw_ct_dI5 dw_x_pl, dw_ct_dI6 dw_x_pl, dw_ct_dS1 dw_x_pl, dw_ct_dS2 dw_x_pl, dw_ct_dS3 dw_x_pl, dw_ct_dS4 dw_x_pl, dw_ct_dS5 dw_x_pl, dw_ct_dS6 dw_x_pl, dw_ct_Dyd dw_x_pl, dw_ct_Dwk dw_x_pl, dw_ct_Dfg dw_x_pl, dw_ct_Dq dw_x_pl, dw_ct_Dc dw_x_pl, dw_ct_onC dw_x_pl, dw_ct_li dw_x_pl, dw_ct_sa dw_x_pl, dw_cn_is dw_x_pl, dw_cn_A0 dw_x_pl, dw_cn_I1 dw_x_pl, dw_cn_J2 dw_x_pl, dw_cn_J3 dw_x_pl, dw_cn_I4 dw_x_pl, dw_cn_A5 dw_x_pl, dw_cn_S1 dw_x_pl, dw_cn_S2 dw_x_pl, dw_cn_S3 dw_x_pl, dw_cn_S5 dw_x_pl, dw_cn_ln dw_x_pl, dw_cn_aA dw_x_pl, dw_cn_dis dw_x_pl, dw_cn_dI0 dw_x_pl, dw_cn_dI1 dw_x_pl, dw_cn_dI2 dw_x_pl, dw_cn_dI3 dw_x_pl, dw_cn_dI4 dw_x_pl, dw_cn_dI5 dw_x_pl, dw_cn_dI6 dw_x_pl, dw_cn_dS1 dw_x_pl, dw_cn_dS2 dw_x_pl, dw_cn_dS3 dw_x_pl, dw_cn_dS4 dw_x_pl, dw_cn_dS5 dw_x_pl, dw_cn_dS6 dw_x_pl, dw_cn_Dyd dw_x_pl, dw_cn_Dwk dw_x_pl, dw_cn_Dfg dw_x_pl, dw_cn_Dq dw_x_pl, dw_cn_Dc dw_x_pl, dw_cn_onC dw_x_pl, dw_cn_li dw_x_pl, dw_cn_sa dw_x_pl, dw_Xin]); first | with_reducible rw [bnd_s] | with_reducible rw [bn2_s] | with_reducible rw [grd_t]))
  by_cases c1 : dw_in sort 0 2 = 0
  · rw [if_pos c1, if_pos c1]
    exact dw_Cgo_id h
  rw [if_neg c1, if_neg c1]
  repeat (first | with_reducible rw [bnd_s] | with_reducible rw [nmd_s] | with_reducible rw [bn2_s] | with_reducible rw [grd_t] | ((conv => arg 1; arg 1; simp (disch := omega) only [dw_x_is, dw_x_f0, dw_x_f1, dw_x_t1, dw_x_f2, dw_x_f3, dw_x_f4, dw_x_t5, dw_x_f6, dw_x_f7, dw_x_tis, dw_x_p0, dw_x_p6, dw_x_p1, dw_x_q1, dw_x_p2, dw_x_q2, dw_x_p3, dw_x_q3, dw_x_p4, dw_x_q4, dw_x_p5, dw_x_q5, dw_x_p7, dw_x_q7, dw_x_ln1, dw_x_ln3, dw_x_ln4, dw_x_ln5, dw_x_ln6, dw_x_a6, dw_x_w6, dw_x_a4, dw_x_w4, dw_ct_is dw_x_pl, dw_ct_A0 dw_x_pl, dw_ct_I1 dw_x_pl, dw_ct_J2 dw_x_pl, dw_ct_J3 dw_x_pl, dw_ct_I4 dw_x_pl, dw_ct_A5 dw_x_pl, dw_ct_S1 dw_x_pl, dw_ct_S2 dw_x_pl, dw_ct_S3 dw_x_pl, dw_ct_S5 dw_x_pl, dw_ct_ln dw_x_pl, dw_ct_aA dw_x_pl, dw_ct_dis dw_x_pl, dw_ct_dI0 dw_x_pl, dw_ct_dI1 dw_x_pl, dw_ct_dI2 dw_x_pl, dw_ct_dI3 dw_x_pl, dw_ct_dI4 dw_x_pl, dw_ct_dI5 dw_x_pl, dw_ct_dI6 dw_x_pl, dw_ct_dS1 dw_x_pl, dw_ct_dS2 dw_x_pl, dw_ct_dS3 dw_x_pl, dw_ct_dS4 dw_x_pl, dw_ct_dS5 dw_x_pl, dw_ct_dS6 dw_x_pl, dw_ct_Dyd dw_x_pl, dw_ct_Dwk dw_x_pl, dw_ct_Dfg dw_x_pl, dw_ct_Dq dw_x_pl, dw_ct_Dc dw_x_pl, dw_ct_onC dw_x_pl, dw_ct_li dw_x_pl, dw_ct_sa dw_x_pl, dw_cn_is dw_x_pl, dw_cn_A0 dw_x_pl, dw_cn_I1 dw_x_pl, dw_cn_J2 dw_x_pl, dw_cn_J3 dw_x_pl, dw_cn_I4 dw_x_pl, dw_cn_A5 dw_x_pl, dw_cn_S1 dw_x_pl, dw_cn_S2 dw_x_pl, dw_cn_S3 dw_x_pl, dw_cn_S5 dw_x_pl, dw_cn_ln dw_x_pl, dw_cn_aA dw_x_pl, dw_cn_dis dw_x_pl, dw_cn_dI0 dw_x_pl, dw_cn_dI1 dw_x_pl, dw_cn_dI2 dw_x_pl, dw_cn_dI3 dw_x_pl, dw_cn_dI4 dw_x_pl, dw_cn_dI5 dw_x_pl, dw_cn_dI6 dw_x_pl, dw_cn_dS1 dw_x_pl, dw_cn_dS2 dw_x_pl, dw_cn_dS3 dw_x_pl, dw_cn_dS4 dw_x_pl, dw_cn_dS5 dw_x_pl, dw_cn_dS6 dw_x_pl, dw_cn_Dyd dw_x_pl, dw_cn_Dwk dw_x_pl, dw_cn_Dfg dw_x_pl, dw_cn_Dq dw_x_pl, dw_cn_Dc dw_x_pl, dw_cn_onC dw_x_pl, dw_cn_li dw_x_pl, dw_cn_sa dw_x_pl, dw_Xin]); first | with_reducible rw [bnd_s] | with_reducible rw [bn2_s] | with_reducible rw [grd_t]))
  by_cases c2 : dw_in n 0 6 = 0
  · rw [if_pos c2, if_pos c2]
    exact dw_Cgo_id h
  rw [if_neg c2, if_neg c2]
  obtain ⟨x, hx, rfl⟩ := dw_in_of (n := 6) rfl c2
  rw [dw_N_nI (by omega)]
  obtain ⟨_, z, hz, ez⟩ := ok.2.2.2.2.2.2.2 q (by omega)
  repeat (first | with_reducible rw [bnd_s] | with_reducible rw [nmd_s] | with_reducible rw [bn2_s] | with_reducible rw [grd_t] | ((conv => arg 1; arg 1; simp (disch := omega) only [dw_x_is, dw_x_f0, dw_x_f1, dw_x_t1, dw_x_f2, dw_x_f3, dw_x_f4, dw_x_t5, dw_x_f6, dw_x_f7, dw_x_tis, dw_x_p0, dw_x_p6, dw_x_p1, dw_x_q1, dw_x_p2, dw_x_q2, dw_x_p3, dw_x_q3, dw_x_p4, dw_x_q4, dw_x_p5, dw_x_q5, dw_x_p7, dw_x_q7, dw_x_ln1, dw_x_ln3, dw_x_ln4, dw_x_ln5, dw_x_ln6, dw_x_a6, dw_x_w6, dw_x_a4, dw_x_w4, dw_ct_is dw_x_pl, dw_ct_A0 dw_x_pl, dw_ct_I1 dw_x_pl, dw_ct_J2 dw_x_pl, dw_ct_J3 dw_x_pl, dw_ct_I4 dw_x_pl, dw_ct_A5 dw_x_pl, dw_ct_S1 dw_x_pl, dw_ct_S2 dw_x_pl, dw_ct_S3 dw_x_pl, dw_ct_S5 dw_x_pl, dw_ct_ln dw_x_pl, dw_ct_aA dw_x_pl, dw_ct_dis dw_x_pl, dw_ct_dI0 dw_x_pl, dw_ct_dI1 dw_x_pl, dw_ct_dI2 dw_x_pl, dw_ct_dI3 dw_x_pl, dw_ct_dI4 dw_x_pl, dw_ct_dI5 dw_x_pl, dw_ct_dI6 dw_x_pl, dw_ct_dS1 dw_x_pl, dw_ct_dS2 dw_x_pl, dw_ct_dS3 dw_x_pl, dw_ct_dS4 dw_x_pl, dw_ct_dS5 dw_x_pl, dw_ct_dS6 dw_x_pl, dw_ct_Dyd dw_x_pl, dw_ct_Dwk dw_x_pl, dw_ct_Dfg dw_x_pl, dw_ct_Dq dw_x_pl, dw_ct_Dc dw_x_pl, dw_ct_onC dw_x_pl, dw_ct_li dw_x_pl, dw_ct_sa dw_x_pl, dw_cn_is dw_x_pl, dw_cn_A0 dw_x_pl, dw_cn_I1 dw_x_pl, dw_cn_J2 dw_x_pl, dw_cn_J3 dw_x_pl, dw_cn_I4 dw_x_pl, dw_cn_A5 dw_x_pl, dw_cn_S1 dw_x_pl, dw_cn_S2 dw_x_pl, dw_cn_S3 dw_x_pl, dw_cn_S5 dw_x_pl, dw_cn_ln dw_x_pl, dw_cn_aA dw_x_pl, dw_cn_dis dw_x_pl, dw_cn_dI0 dw_x_pl, dw_cn_dI1 dw_x_pl, dw_cn_dI2 dw_x_pl, dw_cn_dI3 dw_x_pl, dw_cn_dI4 dw_x_pl, dw_cn_dI5 dw_x_pl, dw_cn_dI6 dw_x_pl, dw_cn_dS1 dw_x_pl, dw_cn_dS2 dw_x_pl, dw_cn_dS3 dw_x_pl, dw_cn_dS4 dw_x_pl, dw_cn_dS5 dw_x_pl, dw_cn_dS6 dw_x_pl, dw_cn_Dyd dw_x_pl, dw_cn_Dwk dw_x_pl, dw_cn_Dfg dw_x_pl, dw_cn_Dq dw_x_pl, dw_cn_Dc dw_x_pl, dw_cn_onC dw_x_pl, dw_cn_li dw_x_pl, dw_cn_sa dw_x_pl, dw_x_s0 (show q < 4 by omega)]); first | with_reducible rw [bnd_s] | with_reducible rw [bn2_s] | with_reducible rw [grd_t]))
  by_cases c3 : H.1 q = -1
  · rw [if_pos c3, if_pos c3]
    exact dw_Cgo_id h
  rw [if_neg c3, if_neg c3]
  repeat (first | with_reducible rw [bnd_s] | with_reducible rw [nmd_s] | with_reducible rw [bn2_s] | with_reducible rw [grd_t] | ((conv => arg 1; arg 1; simp (disch := omega) only [dw_x_is, dw_x_f0, dw_x_f1, dw_x_t1, dw_x_f2, dw_x_f3, dw_x_f4, dw_x_t5, dw_x_f6, dw_x_f7, dw_x_tis, dw_x_p0, dw_x_p6, dw_x_p1, dw_x_q1, dw_x_p2, dw_x_q2, dw_x_p3, dw_x_q3, dw_x_p4, dw_x_q4, dw_x_p5, dw_x_q5, dw_x_p7, dw_x_q7, dw_x_ln1, dw_x_ln3, dw_x_ln4, dw_x_ln5, dw_x_ln6, dw_x_a6, dw_x_w6, dw_x_a4, dw_x_w4, dw_ct_is dw_x_pl, dw_ct_A0 dw_x_pl, dw_ct_I1 dw_x_pl, dw_ct_J2 dw_x_pl, dw_ct_J3 dw_x_pl, dw_ct_I4 dw_x_pl, dw_ct_A5 dw_x_pl, dw_ct_S1 dw_x_pl, dw_ct_S2 dw_x_pl, dw_ct_S3 dw_x_pl, dw_ct_S5 dw_x_pl, dw_ct_ln dw_x_pl, dw_ct_aA dw_x_pl, dw_ct_dis dw_x_pl, dw_ct_dI0 dw_x_pl, dw_ct_dI1 dw_x_pl, dw_ct_dI2 dw_x_pl, dw_ct_dI3 dw_x_pl, dw_ct_dI4 dw_x_pl, dw_ct_dI5 dw_x_pl, dw_ct_dI6 dw_x_pl, dw_ct_dS1 dw_x_pl, dw_ct_dS2 dw_x_pl, dw_ct_dS3 dw_x_pl, dw_ct_dS4 dw_x_pl, dw_ct_dS5 dw_x_pl, dw_ct_dS6 dw_x_pl, dw_ct_Dyd dw_x_pl, dw_ct_Dwk dw_x_pl, dw_ct_Dfg dw_x_pl, dw_ct_Dq dw_x_pl, dw_ct_Dc dw_x_pl, dw_ct_onC dw_x_pl, dw_ct_li dw_x_pl, dw_ct_sa dw_x_pl, dw_cn_is dw_x_pl, dw_cn_A0 dw_x_pl, dw_cn_I1 dw_x_pl, dw_cn_J2 dw_x_pl, dw_cn_J3 dw_x_pl, dw_cn_I4 dw_x_pl, dw_cn_A5 dw_x_pl, dw_cn_S1 dw_x_pl, dw_cn_S2 dw_x_pl, dw_cn_S3 dw_x_pl, dw_cn_S5 dw_x_pl, dw_cn_ln dw_x_pl, dw_cn_aA dw_x_pl, dw_cn_dis dw_x_pl, dw_cn_dI0 dw_x_pl, dw_cn_dI1 dw_x_pl, dw_cn_dI2 dw_x_pl, dw_cn_dI3 dw_x_pl, dw_cn_dI4 dw_x_pl, dw_cn_dI5 dw_x_pl, dw_cn_dI6 dw_x_pl, dw_cn_dS1 dw_x_pl, dw_cn_dS2 dw_x_pl, dw_cn_dS3 dw_x_pl, dw_cn_dS4 dw_x_pl, dw_cn_dS5 dw_x_pl, dw_cn_dS6 dw_x_pl, dw_cn_Dyd dw_x_pl, dw_cn_Dwk dw_x_pl, dw_cn_Dfg dw_x_pl, dw_cn_Dq dw_x_pl, dw_cn_Dc dw_x_pl, dw_cn_onC dw_x_pl, dw_cn_li dw_x_pl, dw_cn_sa dw_x_pl, dw_x_s0 (show q < 4 by omega)]); first | with_reducible rw [bnd_s] | with_reducible rw [bn2_s] | with_reducible rw [grd_t]))
  by_cases c4 : H.1 q = sort
  · rw [if_pos c4, if_pos c4, ez]
    have g := dw_Cdby65 (q := q) (by omega) hz hx fr (999 - x) x 0 _ 0 _ (by omega) (fun p => absurd p (Nat.lt_irrefl 0)) ok (dw_Cgo_id (T := T) (C := C) (U := U) (k := k) h) rfl ez
    rw [show 999 - x + x + 1 = 1000 by omega] at g
    exact g
  · rw [if_neg c4, if_neg c4]
    exact dw_Cgo_id h
end CO
