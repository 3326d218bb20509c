/-! THE CLASS: text(), the call -/
section CO
variable {T : dw_B} {Z : pm_H} {kp : Value} {tf : Nat → Option Nat} {ti B C U : Nat → Int32} {H : dw_H} {l : Nat} {k : Nat → Int32} {r m yy tx tp : Nat} {s : dw_L} {ho cl : Int64} {wt : Nat → dw_W} {tb : Nat → Nat} {im : Option dw_Ln}
theorem dw_Ctx3 (h : dw_CX kp tf ti B l Z ((m, s, yy, ho, cl, r), (tx, wt), (tp, tb), im, H)) (ok : dw_Ok ((m, s, yy, ho, cl, r), (tx, wt), (tp, tb), im, H)) (c : tx ≠ 6) {fl : Option Nat} {out : List Nat} {g k' : Nat} {w : dw_W} (hgk : g ≤ k') (hku : k' ≤ out.length) (hw : w = (out.take g, (out.drop g).take (k' - g), (out.drop k').take (out.length - k'))) (hrows : fl = none → ∀ q, q < 3 → dw_ok (dw_row w q) 0) (hz : dw_Z (T_toLaw (dw_cl (dw_pre (nI tx) kp tf ti B C U H) (l, nI m, nI yy, ho, cl, s, k) T Z) 2 (nI tx)) (fun z => ∃ ti' C', ti' 1 = 0 ∧ ((∃ p, fl = some p ∧ p ≤ tp + 1 ∧ ti' 5 = nI p ∧ z = some (dw_cl (dw_pre (nI tx) kp tf ti' B C' U H) (l, nI m, nI yy, ho, cl, s, k) T Z, none)) ∨ (fl = none ∧ out.length < 160 ∧ (∀ j, j < out.length → C' j = nI (out.getD j 0)) ∧ z = some (dw_cl (dw_pre (nI tx) kp tf ti' B C' U H) (l, nI m, nI yy, ho, cl, s, k) T (Z ++ dw_nl (37 + Z.length) (nI tx) C' g k' out.length), some (37 + Z.length)))))) : dw_Cgo (X_text (dw_cl (dw_pre (nI tx) kp tf ti B C U H) (l, nI m, nI yy, ho, cl, s, k) T Z) 0) (dw_otext0 (m, s, yy, ho, cl, r) tx wt tb im H w fl).1 (dw_otext0 (m, s, yy, ho, cl, r) tx wt tb im H w fl).2 := by
  obtain ⟨h1, h2, h3, h4, h5⟩ := id h
  obtain ⟨⟨o1, o2, o3, o4, o5, o6, o7⟩, k2, k3, k4, k5, k6, k7, k8⟩ := id ok
  rw [X_text]
  repeat (first | with_reducible rw [bnd_s] | with_reducible rw [nmd_s] | with_reducible rw [bn2_s] | with_reducible rw [grd_t] | ((conv => arg 1; arg 1; simp (disch := omega) only [dw_x_is, dw_x_f0, dw_x_f1, dw_x_t1, dw_x_f2, dw_x_f3, dw_x_f4, dw_x_t5, dw_x_f6, dw_x_f7, dw_x_tis, dw_x_p0, dw_x_p6, dw_x_p1, dw_x_q1, dw_x_p2, dw_x_q2, dw_x_p3, dw_x_q3, dw_x_p4, dw_x_q4, dw_x_p5, dw_x_q5, dw_x_p7, dw_x_q7, dw_x_ln1, dw_x_ln3, dw_x_ln4, dw_x_ln5, dw_x_ln6, dw_x_a6, dw_x_w6, dw_x_a4, dw_x_w4, dw_ct_is dw_x_pl, dw_ct_A0 dw_x_pl, dw_ct_I1 dw_x_pl, dw_ct_J2 dw_x_pl, dw_ct_J3 dw_x_pl, dw_ct_I4 dw_x_pl, dw_ct_A5 dw_x_pl, dw_ct_S1 dw_x_pl, dw_ct_S2 dw_x_pl, dw_ct_S3 dw_x_pl, dw_ct_S5 dw_x_pl, dw_ct_ln dw_x_pl, dw_ct_aA dw_x_pl, dw_ct_dis dw_x_pl, dw_ct_dI0 dw_x_pl, dw_ct_dI1 dw_x_pl, dw_ct_dI2 dw_x_pl, dw_ct_dI3 dw_x_pl, dw_ct_dI4 dw_x_pl, dw_ct_dI5 dw_x_pl, dw_ct_dI6 dw_x_pl, dw_ct_dS1 dw_x_pl, dw_ct_dS2 dw_x_pl, dw_ct_dS3 dw_x_pl, dw_ct_dS4 dw_x_pl, dw_ct_dS5 dw_x_pl, dw_ct_dS6 dw_x_pl, dw_ct_Dyd dw_x_pl, dw_ct_Dwk dw_x_pl, dw_ct_Dfg dw_x_pl, dw_ct_Dq dw_x_pl, dw_ct_Dc dw_x_pl, dw_ct_onC dw_x_pl, dw_ct_li dw_x_pl, dw_ct_sa dw_x_pl, dw_cn_is dw_x_pl, dw_cn_A0 dw_x_pl, dw_cn_I1 dw_x_pl, dw_cn_J2 dw_x_pl, dw_cn_J3 dw_x_pl, dw_cn_I4 dw_x_pl, dw_cn_A5 dw_x_pl, dw_cn_S1 dw_x_pl, dw_cn_S2 dw_x_pl, dw_cn_S3 dw_x_pl, dw_cn_S5 dw_x_pl, dw_cn_ln dw_x_pl, dw_cn_aA dw_x_pl, dw_cn_dis dw_x_pl, dw_cn_dI0 dw_x_pl, dw_cn_dI1 dw_x_pl, dw_cn_dI2 dw_x_pl, dw_cn_dI3 dw_x_pl, dw_cn_dI4 dw_x_pl, dw_cn_dI5 dw_x_pl, dw_cn_dI6 dw_x_pl, dw_cn_dS1 dw_x_pl, dw_cn_dS2 dw_x_pl, dw_cn_dS3 dw_x_pl, dw_cn_dS4 dw_x_pl, dw_cn_dS5 dw_x_pl, dw_cn_dS6 dw_x_pl, dw_cn_Dyd dw_x_pl, dw_cn_Dwk dw_x_pl, dw_cn_Dfg dw_x_pl, dw_cn_Dq dw_x_pl, dw_cn_Dc dw_x_pl, dw_cn_onC dw_x_pl, dw_cn_li dw_x_pl, dw_cn_sa dw_x_pl]); first | with_reducible rw [bnd_s] | with_reducible rw [bn2_s] | with_reducible rw [grd_t]))
  rw [if_pos (show nI tx < 6 from nI_lt (b := 6) (by omega) (by omega))]
  obtain ⟨ti', C', t1, hz⟩ := hz
  rcases hz with ⟨p, hp, hp2, hp5, hz⟩ | ⟨hp, hu, hC, hz⟩
  · subst hp
    rw [dw_otext0]
    repeat (first | with_reducible rw [bnd_s] | with_reducible rw [nmd_s] | with_reducible rw [bn2_s] | with_reducible rw [grd_t] | ((conv => arg 1; arg 1; simp (disch := omega) only [dw_x_is, dw_x_f0, dw_x_f1, dw_x_t1, dw_x_f2, dw_x_f3, dw_x_f4, dw_x_t5, dw_x_f6, dw_x_f7, dw_x_tis, dw_x_p0, dw_x_p6, dw_x_p1, dw_x_q1, dw_x_p2, dw_x_q2, dw_x_p3, dw_x_q3, dw_x_p4, dw_x_q4, dw_x_p5, dw_x_q5, dw_x_p7, dw_x_q7, dw_x_ln1, dw_x_ln3, dw_x_ln4, dw_x_ln5, dw_x_ln6, dw_x_a6, dw_x_w6, dw_x_a4, dw_x_w4, dw_ct_is dw_x_pl, dw_ct_A0 dw_x_pl, dw_ct_I1 dw_x_pl, dw_ct_J2 dw_x_pl, dw_ct_J3 dw_x_pl, dw_ct_I4 dw_x_pl, dw_ct_A5 dw_x_pl, dw_ct_S1 dw_x_pl, dw_ct_S2 dw_x_pl, dw_ct_S3 dw_x_pl, dw_ct_S5 dw_x_pl, dw_ct_ln dw_x_pl, dw_ct_aA dw_x_pl, dw_ct_dis dw_x_pl, dw_ct_dI0 dw_x_pl, dw_ct_dI1 dw_x_pl, dw_ct_dI2 dw_x_pl, dw_ct_dI3 dw_x_pl, dw_ct_dI4 dw_x_pl, dw_ct_dI5 dw_x_pl, dw_ct_dI6 dw_x_pl, dw_ct_dS1 dw_x_pl, dw_ct_dS2 dw_x_pl, dw_ct_dS3 dw_x_pl, dw_ct_dS4 dw_x_pl, dw_ct_dS5 dw_x_pl, dw_ct_dS6 dw_x_pl, dw_ct_Dyd dw_x_pl, dw_ct_Dwk dw_x_pl, dw_ct_Dfg dw_x_pl, dw_ct_Dq dw_x_pl, dw_ct_Dc dw_x_pl, dw_ct_onC dw_x_pl, dw_ct_li dw_x_pl, dw_ct_sa dw_x_pl, dw_cn_is dw_x_pl, dw_cn_A0 dw_x_pl, dw_cn_I1 dw_x_pl, dw_cn_J2 dw_x_pl, dw_cn_J3 dw_x_pl, dw_cn_I4 dw_x_pl, dw_cn_A5 dw_x_pl, dw_cn_S1 dw_x_pl, dw_cn_S2 dw_x_pl, dw_cn_S3 dw_x_pl, dw_cn_S5 dw_x_pl, dw_cn_ln dw_x_pl, dw_cn_aA dw_x_pl, dw_cn_dis dw_x_pl, dw_cn_dI0 dw_x_pl, dw_cn_dI1 dw_x_pl, dw_cn_dI2 dw_x_pl, dw_cn_dI3 dw_x_pl, dw_cn_dI4 dw_x_pl, dw_cn_dI5 dw_x_pl, dw_cn_dI6 dw_x_pl, dw_cn_dS1 dw_x_pl, dw_cn_dS2 dw_x_pl, dw_cn_dS3 dw_x_pl, dw_cn_dS4 dw_x_pl, dw_cn_dS5 dw_x_pl, dw_cn_dS6 dw_x_pl, dw_cn_Dyd dw_x_pl, dw_cn_Dwk dw_x_pl, dw_cn_Dfg dw_x_pl, dw_cn_Dq dw_x_pl, dw_cn_Dc dw_x_pl, dw_cn_onC dw_x_pl, dw_cn_li dw_x_pl, dw_cn_sa dw_x_pl, hz]); first | with_reducible rw [bnd_s] | with_reducible rw [bn2_s] | with_reducible rw [grd_t]))
    dsimp only
    repeat (first | with_reducible rw [bnd_s] | with_reducible rw [nmd_s] | with_reducible rw [bn2_s] | with_reducible rw [grd_t] | ((conv => arg 1; arg 1; simp (disch := omega) only [dw_x_is, dw_x_f0, dw_x_f1, dw_x_t1, dw_x_f2, dw_x_f3, dw_x_f4, dw_x_t5, dw_x_f6, dw_x_f7, dw_x_tis, dw_x_p0, dw_x_p6, dw_x_p1, dw_x_q1, dw_x_p2, dw_x_q2, dw_x_p3, dw_x_q3, dw_x_p4, dw_x_q4, dw_x_p5, dw_x_q5, dw_x_p7, dw_x_q7, dw_x_ln1, dw_x_ln3, dw_x_ln4, dw_x_ln5, dw_x_ln6, dw_x_a6, dw_x_w6, dw_x_a4, dw_x_w4, dw_ct_is dw_x_pl, dw_ct_A0 dw_x_pl, dw_ct_I1 dw_x_pl, dw_ct_J2 dw_x_pl, dw_ct_J3 dw_x_pl, dw_ct_I4 dw_x_pl, dw_ct_A5 dw_x_pl, dw_ct_S1 dw_x_pl, dw_ct_S2 dw_x_pl, dw_ct_S3 dw_x_pl, dw_ct_S5 dw_x_pl, dw_ct_ln dw_x_pl, dw_ct_aA dw_x_pl, dw_ct_dis dw_x_pl, dw_ct_dI0 dw_x_pl, dw_ct_dI1 dw_x_pl, dw_ct_dI2 dw_x_pl, dw_ct_dI3 dw_x_pl, dw_ct_dI4 dw_x_pl, dw_ct_dI5 dw_x_pl, dw_ct_dI6 dw_x_pl, dw_ct_dS1 dw_x_pl, dw_ct_dS2 dw_x_pl, dw_ct_dS3 dw_x_pl, dw_ct_dS4 dw_x_pl, dw_ct_dS5 dw_x_pl, dw_ct_dS6 dw_x_pl, dw_ct_Dyd dw_x_pl, dw_ct_Dwk dw_x_pl, dw_ct_Dfg dw_x_pl, dw_ct_Dq dw_x_pl, dw_ct_Dc dw_x_pl, dw_ct_onC dw_x_pl, dw_ct_li dw_x_pl, dw_ct_sa dw_x_pl, dw_cn_is dw_x_pl, dw_cn_A0 dw_x_pl, dw_cn_I1 dw_x_pl, dw_cn_J2 dw_x_pl, dw_cn_J3 dw_x_pl, dw_cn_I4 dw_x_pl, dw_cn_A5 dw_x_pl, dw_cn_S1 dw_x_pl, dw_cn_S2 dw_x_pl, dw_cn_S3 dw_x_pl, dw_cn_S5 dw_x_pl, dw_cn_ln dw_x_pl, dw_cn_aA dw_x_pl, dw_cn_dis dw_x_pl, dw_cn_dI0 dw_x_pl, dw_cn_dI1 dw_x_pl, dw_cn_dI2 dw_x_pl, dw_cn_dI3 dw_x_pl, dw_cn_dI4 dw_x_pl, dw_cn_dI5 dw_x_pl, dw_cn_dI6 dw_x_pl, dw_cn_dS1 dw_x_pl, dw_cn_dS2 dw_x_pl, dw_cn_dS3 dw_x_pl, dw_cn_dS4 dw_x_pl, dw_cn_dS5 dw_x_pl, dw_cn_dS6 dw_x_pl, dw_cn_Dyd dw_x_pl, dw_cn_Dwk dw_x_pl, dw_cn_Dfg dw_x_pl, dw_cn_Dq dw_x_pl, dw_cn_Dc dw_x_pl, dw_cn_onC dw_x_pl, dw_cn_li dw_x_pl, dw_cn_sa dw_x_pl, hp5]); first | with_reducible rw [bnd_s] | with_reducible rw [bn2_s] | with_reducible rw [grd_t]))
    exact ⟨kp, tf, ti', B, C', U, H, l, k, T, Z, rfl, dw_HE_rfl H, h1, h2, t1, fun j hj => absurd hj (Nat.not_lt_zero j), h5⟩
  · have lz := dw_LZ_new (Z := Z) (n := nI tx) hC hgk hku (by omega) hw (hrows hp)
    subst hp
    rw [dw_otext0]
    repeat (first | with_reducible rw [bnd_s] | with_reducible rw [nmd_s] | with_reducible rw [bn2_s] | with_reducible rw [grd_t] | ((conv => arg 1; arg 1; simp (disch := omega) only [dw_x_is, dw_x_f0, dw_x_f1, dw_x_t1, dw_x_f2, dw_x_f3, dw_x_f4, dw_x_t5, dw_x_f6, dw_x_f7, dw_x_tis, dw_x_p0, dw_x_p6, dw_x_p1, dw_x_q1, dw_x_p2, dw_x_q2, dw_x_p3, dw_x_q3, dw_x_p4, dw_x_q4, dw_x_p5, dw_x_q5, dw_x_p7, dw_x_q7, dw_x_ln1, dw_x_ln3, dw_x_ln4, dw_x_ln5, dw_x_ln6, dw_x_a6, dw_x_w6, dw_x_a4, dw_x_w4, dw_ct_is dw_x_pl, dw_ct_A0 dw_x_pl, dw_ct_I1 dw_x_pl, dw_ct_J2 dw_x_pl, dw_ct_J3 dw_x_pl, dw_ct_I4 dw_x_pl, dw_ct_A5 dw_x_pl, dw_ct_S1 dw_x_pl, dw_ct_S2 dw_x_pl, dw_ct_S3 dw_x_pl, dw_ct_S5 dw_x_pl, dw_ct_ln dw_x_pl, dw_ct_aA dw_x_pl, dw_ct_dis dw_x_pl, dw_ct_dI0 dw_x_pl, dw_ct_dI1 dw_x_pl, dw_ct_dI2 dw_x_pl, dw_ct_dI3 dw_x_pl, dw_ct_dI4 dw_x_pl, dw_ct_dI5 dw_x_pl, dw_ct_dI6 dw_x_pl, dw_ct_dS1 dw_x_pl, dw_ct_dS2 dw_x_pl, dw_ct_dS3 dw_x_pl, dw_ct_dS4 dw_x_pl, dw_ct_dS5 dw_x_pl, dw_ct_dS6 dw_x_pl, dw_ct_Dyd dw_x_pl, dw_ct_Dwk dw_x_pl, dw_ct_Dfg dw_x_pl, dw_ct_Dq dw_x_pl, dw_ct_Dc dw_x_pl, dw_ct_onC dw_x_pl, dw_ct_li dw_x_pl, dw_ct_sa dw_x_pl, dw_cn_is dw_x_pl, dw_cn_A0 dw_x_pl, dw_cn_I1 dw_x_pl, dw_cn_J2 dw_x_pl, dw_cn_J3 dw_x_pl, dw_cn_I4 dw_x_pl, dw_cn_A5 dw_x_pl, dw_cn_S1 dw_x_pl, dw_cn_S2 dw_x_pl, dw_cn_S3 dw_x_pl, dw_cn_S5 dw_x_pl, dw_cn_ln dw_x_pl, dw_cn_aA dw_x_pl, dw_cn_dis dw_x_pl, dw_cn_dI0 dw_x_pl, dw_cn_dI1 dw_x_pl, dw_cn_dI2 dw_x_pl, dw_cn_dI3 dw_x_pl, dw_cn_dI4 dw_x_pl, dw_cn_dI5 dw_x_pl, dw_cn_dI6 dw_x_pl, dw_cn_dS1 dw_x_pl, dw_cn_dS2 dw_x_pl, dw_cn_dS3 dw_x_pl, dw_cn_dS4 dw_x_pl, dw_cn_dS5 dw_x_pl, dw_cn_dS6 dw_x_pl, dw_cn_Dyd dw_x_pl, dw_cn_Dwk dw_x_pl, dw_cn_Dfg dw_x_pl, dw_cn_Dq dw_x_pl, dw_cn_Dc dw_x_pl, dw_cn_onC dw_x_pl, dw_cn_li dw_x_pl, dw_cn_sa dw_x_pl, hz]); first | with_reducible rw [bnd_s] | with_reducible rw [bn2_s] | with_reducible rw [grd_t]))
    dsimp only
    have e := dw_Ctx1 (N := (l, nI m, nI yy, ho, cl, s, k)) (T := T) (Z := Z) (kp := kp) (tf := tf) (ti := ti') (B := B) (C := C') (U := U) (H := H) (tx := tx) (by omega) (n := nI tx) (E := [.ref (37 + Z.length + 1), .ref (37 + Z.length + 2), .ref (37 + Z.length + 3)]) (D := [.inl (0, g, .inl (va_cpy C' (fun _ => 0) 0 0 g)), .inl (0, k' - g, .inl (va_cpy C' (fun _ => 0) g 0 (k' - g))), .inl (0, out.length - k', .inl (va_cpy C' (fun _ => 0) k' 0 (out.length - k')))])
    have cx := dw_Ctx2 (C' := C') (ti' := ti') h ok (by omega) lz t1
    exact ⟨kp, _, ti', B, C', U, H, l, k, T, _, e, dw_HE_rfl H, cx⟩
theorem dw_pl12 {tb : Nat → Nat} {tp : Nat} : (dw_pq1 tb tp).2.2.2.2.length ≤ (dw_pq2 tb tp).2.2.2.2.length ∧ (dw_pq2 tb tp).2.2.2.2.length ≤ (dw_pq3 tb tp).2.2.2.2.length := by
  obtain ⟨hpq1, _⟩ := dw_pq1_c (tb := tb) (tp := tp)
  have P2 : dw_GQ (dw_pq1 tb tp) (dw_pq2 tb tp) := by
    rw [dw_pq2]
    exact dw_PR_part 10016 _ hpq1
  have P3 : dw_GQ (dw_pq2 tb tp) (dw_pq3 tb tp) := by
    rw [dw_pq3]
    exact dw_PR_part 10017 _ P2.1
  exact ⟨P2.2.1, P3.2.1⟩
theorem dw_plaw_eq {tb : Nat → Nat} {tp : Nat} : dw_plaw tb tp = ((dw_pq3 tb tp).2.2.2.2.take (dw_pq1 tb tp).2.2.2.2.length, ((dw_pq3 tb tp).2.2.2.2.drop (dw_pq1 tb tp).2.2.2.2.length).take ((dw_pq2 tb tp).2.2.2.2.length - (dw_pq1 tb tp).2.2.2.2.length), ((dw_pq3 tb tp).2.2.2.2.drop (dw_pq2 tb tp).2.2.2.2.length).take ((dw_pq3 tb tp).2.2.2.2.length - (dw_pq2 tb tp).2.2.2.2.length)) := by
  rw [dw_plaw]
theorem dw_Ctext (h : dw_CX kp tf ti B l Z ((m, s, yy, ho, cl, r), (tx, wt), (tp, tb), im, H)) (ok : dw_Ok ((m, s, yy, ho, cl, r), (tx, wt), (tp, tb), im, H)) (hrows : dw_pflt tb tp = none → ∀ q, q < 3 → dw_ok (dw_row (dw_plaw tb tp) q) 0) : dw_Cgo (X_text (dw_cl (dw_pre (nI tx) kp tf ti B C U H) (l, nI m, nI yy, ho, cl, s, k) T Z) 0) (dw_otext ((m, s, yy, ho, cl, r), (tx, wt), (tp, tb), im, H)).1 (dw_otext ((m, s, yy, ho, cl, r), (tx, wt), (tp, tb), im, H)).2 := by
  rw [dw_otext]
  by_cases c : tx = 6
  · rw [if_pos c, X_text]
    repeat (first | with_reducible rw [bnd_s] | with_reducible rw [nmd_s] | with_reducible rw [bn2_s] | with_reducible rw [grd_t] | ((conv => arg 1; arg 1; simp (disch := omega) only [dw_x_is, dw_x_f0, dw_x_f1, dw_x_t1, dw_x_f2, dw_x_f3, dw_x_f4, dw_x_t5, dw_x_f6, dw_x_f7, dw_x_tis, dw_x_p0, dw_x_p6, dw_x_p1, dw_x_q1, dw_x_p2, dw_x_q2, dw_x_p3, dw_x_q3, dw_x_p4, dw_x_q4, dw_x_p5, dw_x_q5, dw_x_p7, dw_x_q7, dw_x_ln1, dw_x_ln3, dw_x_ln4, dw_x_ln5, dw_x_ln6, dw_x_a6, dw_x_w6, dw_x_a4, dw_x_w4, dw_ct_is dw_x_pl, dw_ct_A0 dw_x_pl, dw_ct_I1 dw_x_pl, dw_ct_J2 dw_x_pl, dw_ct_J3 dw_x_pl, dw_ct_I4 dw_x_pl, dw_ct_A5 dw_x_pl, dw_ct_S1 dw_x_pl, dw_ct_S2 dw_x_pl, dw_ct_S3 dw_x_pl, dw_ct_S5 dw_x_pl, dw_ct_ln dw_x_pl, dw_ct_aA dw_x_pl, dw_ct_dis dw_x_pl, dw_ct_dI0 dw_x_pl, dw_ct_dI1 dw_x_pl, dw_ct_dI2 dw_x_pl, dw_ct_dI3 dw_x_pl, dw_ct_dI4 dw_x_pl, dw_ct_dI5 dw_x_pl, dw_ct_dI6 dw_x_pl, dw_ct_dS1 dw_x_pl, dw_ct_dS2 dw_x_pl, dw_ct_dS3 dw_x_pl, dw_ct_dS4 dw_x_pl, dw_ct_dS5 dw_x_pl, dw_ct_dS6 dw_x_pl, dw_ct_Dyd dw_x_pl, dw_ct_Dwk dw_x_pl, dw_ct_Dfg dw_x_pl, dw_ct_Dq dw_x_pl, dw_ct_Dc dw_x_pl, dw_ct_onC dw_x_pl, dw_ct_li dw_x_pl, dw_ct_sa dw_x_pl, dw_cn_is dw_x_pl, dw_cn_A0 dw_x_pl, dw_cn_I1 dw_x_pl, dw_cn_J2 dw_x_pl, dw_cn_J3 dw_x_pl, dw_cn_I4 dw_x_pl, dw_cn_A5 dw_x_pl, dw_cn_S1 dw_x_pl, dw_cn_S2 dw_x_pl, dw_cn_S3 dw_x_pl, dw_cn_S5 dw_x_pl, dw_cn_ln dw_x_pl, dw_cn_aA dw_x_pl, dw_cn_dis dw_x_pl, dw_cn_dI0 dw_x_pl, dw_cn_dI1 dw_x_pl, dw_cn_dI2 dw_x_pl, dw_cn_dI3 dw_x_pl, dw_cn_dI4 dw_x_pl, dw_cn_dI5 dw_x_pl, dw_cn_dI6 dw_x_pl, dw_cn_dS1 dw_x_pl, dw_cn_dS2 dw_x_pl, dw_cn_dS3 dw_x_pl, dw_cn_dS4 dw_x_pl, dw_cn_dS5 dw_x_pl, dw_cn_dS6 dw_x_pl, dw_cn_Dyd dw_x_pl, dw_cn_Dwk dw_x_pl, dw_cn_Dfg dw_x_pl, dw_cn_Dq dw_x_pl, dw_cn_Dc dw_x_pl, dw_cn_onC dw_x_pl, dw_cn_li dw_x_pl, dw_cn_sa dw_x_pl]); first | with_reducible rw [bnd_s] | with_reducible rw [bn2_s] | with_reducible rw [grd_t]))
    rw [if_neg (show ¬ nI tx < 6 by rw [c]; decide)]
    exact dw_Cgo_id (tp := tp) h
  rw [if_neg c]
  have e1 := (dw_pl12 (tb := tb) (tp := tp)).1
  have e2 := (dw_pl12 (tb := tb) (tp := tp)).2
  have hw := dw_plaw_eq (tb := tb) (tp := tp)
  have hz := dw_TtoLaw (N := (l, nI m, nI yy, ho, cl, s, k)) (T := T) (Z := Z) (tk := nI tx) (kp := kp) (tf := tf) (B := B) (C := C) (U := U) (H := H) (tb := tb) (tp := tp) ok.2.2.2.2.1 h.2.2.1 h.2.2.2.1 ok.2.2.2.2.2.1 (nI tx)
  generalize dw_pflt tb tp = fl at *
  generalize dw_plaw tb tp = w at *
  generalize dw_pq1 tb tp = q1 at *
  generalize dw_pq2 tb tp = q2 at *
  generalize dw_pq3 tb tp = q3 at *
  exact dw_Ctx3 h ok c e1 e2 hw hrows hz
theorem dw_Otext (ok : dw_Ok ((m, s, yy, ho, cl, r), (tx, wt), (tp, tb), im, H)) (hrows : dw_pflt tb tp = none → ∀ q, q < 3 → dw_ok (dw_row (dw_plaw tb tp) q) 0 ∧ (dw_row (dw_plaw tb tp) q).length ≤ 160) : dw_Ok (dw_otext ((m, s, yy, ho, cl, r), (tx, wt), (tp, tb), im, H)).1 := by
  obtain ⟨⟨o1, o2, o3, o4, o5, o6, o7⟩, k2, k3, k4, k5, k6, k7, k8⟩ := id ok
  rw [dw_otext]
  by_cases c : tx = 6
  · rw [if_pos c]
    exact ok
  rw [if_neg c]
  generalize dw_pflt tb tp = fl at *
  generalize dw_plaw tb tp = w at *
  cases fl with
  | some p =>
    rw [dw_otext0]
    exact ⟨⟨o1, o2, o3, o4, o5, o6, o7⟩, k2, k3, k4, Nat.zero_le _, fun j hj => absurd hj (Nat.not_lt_zero j), k7, k8⟩
  | none =>
    rw [dw_otext0]
    refine ⟨⟨o1, o2, o3, o4, o5, o6, by omega⟩, by omega, by omega, fun t ht p hp => ?_, Nat.zero_le _, fun j hj => absurd hj (Nat.not_lt_zero j), ?_, k8⟩
    · by_cases e : t = tx
      · dsimp only
        rw [if_pos e]
        exact hrows rfl p hp
      · dsimp only
        rw [if_neg e]
        exact k4 t (by omega) p hp
    · cases im with
      | none => exact trivial
      | some l' =>
        obtain ⟨m', s', yy', ho', cl', r'⟩ := l'
        obtain ⟨⟨p1, p2, p3, p4, p5, p6, p7⟩, q2, q3⟩ := k7
        exact ⟨⟨p1, p2, p3, p4, p5, p6, by omega⟩, q2, q3⟩
end CO
