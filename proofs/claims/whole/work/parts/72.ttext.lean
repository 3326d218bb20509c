/-! THE CLASS: a law from the tape; text() -/
def dw_pq0 (tb : Nat → Nat) (tp : Nat) : dw_Q := ((dw_lex tb tp 0).1, (dw_lex tb tp 0).2.1, (dw_lex tb tp 0).2.2, none, [])
def dw_pq1 (tb : Nat → Nat) (tp : Nat) : dw_Q := dw_ppart tb tp 10015 (dw_pq0 tb tp)
def dw_pq2 (tb : Nat → Nat) (tp : Nat) : dw_Q := dw_ppart tb tp 10016 (dw_pq1 tb tp)
def dw_pq3 (tb : Nat → Nat) (tp : Nat) : dw_Q := dw_ppart tb tp 10017 (dw_pq2 tb tp)
def dw_pflt (tb : Nat → Nat) (tp : Nat) : Option Nat := if (dw_pq3 tb tp).2.1 = 10021 then (dw_pq3 tb tp).2.2.2.1 else some (dw_pq3 tb tp).1
section TT
variable {N T : dw_B} {Z : pm_H} {tk : Int32} {kp : Value} {tf : Nat → Option Nat} {ti B C U : Nat → Int32} {H : dw_H} {tb : Nat → Nat} {tp : Nat}
theorem dw_Gend (htp : tp ≤ 160) (hB : ∀ j, j < tp → B j = (nI (tb j)).toInt8.toInt32) (hb : ∀ j, j < tp → tb j < 256) {q : dw_Q} (h : dw_TQ tp ti C q) : dw_Z (T_expect (dw_cl (dw_pre tk kp tf ti B C U H) N T Z) 2 10021) (fun z => ∃ ti', z = some (dw_cl (dw_pre tk kp tf ti' B C U H) N T Z, ()) ∧ ti' 5 = dw_fl (if q.2.1 = 10021 then q.2.2.2.1 else some q.1) ∧ ti' 7 = ti 7) := by
  obtain ⟨h1, h2, h3, h4, h5, h7, h8, h9, h10, h11, h12⟩ := id h
  rw [T_expect]
  repeat (first | with_reducible rw [bnd_s] | with_reducible rw [nmd_s] | with_reducible rw [bn2_s] | with_reducible rw [grd_t] | ((conv => arg 1; arg 1; simp (disch := omega) only [dw_x_is, dw_x_f0, dw_x_f1, dw_x_t1, dw_x_f2, dw_x_f3, dw_x_f4, dw_x_t5, dw_x_f6, dw_x_f7, dw_x_tis, dw_x_p0, dw_x_p6, dw_x_p1, dw_x_q1, dw_x_p2, dw_x_q2, dw_x_p3, dw_x_q3, dw_x_p4, dw_x_q4, dw_x_p5, dw_x_q5, dw_x_p7, dw_x_q7, dw_x_ln1, dw_x_ln3, dw_x_ln4, dw_x_ln5, dw_x_ln6, dw_x_a6, dw_x_w6, dw_x_a4, dw_x_w4, dw_ct_is dw_x_pl, dw_ct_A0 dw_x_pl, dw_ct_I1 dw_x_pl, dw_ct_J2 dw_x_pl, dw_ct_J3 dw_x_pl, dw_ct_I4 dw_x_pl, dw_ct_A5 dw_x_pl, dw_ct_S1 dw_x_pl, dw_ct_S2 dw_x_pl, dw_ct_S3 dw_x_pl, dw_ct_S5 dw_x_pl, dw_ct_ln dw_x_pl, dw_ct_aA dw_x_pl, dw_ct_dis dw_x_pl, dw_ct_dI0 dw_x_pl, dw_ct_dI1 dw_x_pl, dw_ct_dI2 dw_x_pl, dw_ct_dI3 dw_x_pl, dw_ct_dI4 dw_x_pl, dw_ct_dI5 dw_x_pl, dw_ct_dI6 dw_x_pl, dw_ct_dS1 dw_x_pl, dw_ct_dS2 dw_x_pl, dw_ct_dS3 dw_x_pl, dw_ct_dS4 dw_x_pl, dw_ct_dS5 dw_x_pl, dw_ct_dS6 dw_x_pl, dw_ct_Dyd dw_x_pl, dw_ct_Dwk dw_x_pl, dw_ct_Dfg dw_x_pl, dw_ct_Dq dw_x_pl, dw_ct_Dc dw_x_pl, dw_ct_onC dw_x_pl, dw_ct_li dw_x_pl, dw_ct_sa dw_x_pl, dw_cn_is dw_x_pl, dw_cn_A0 dw_x_pl, dw_cn_I1 dw_x_pl, dw_cn_J2 dw_x_pl, dw_cn_J3 dw_x_pl, dw_cn_I4 dw_x_pl, dw_cn_A5 dw_x_pl, dw_cn_S1 dw_x_pl, dw_cn_S2 dw_x_pl, dw_cn_S3 dw_x_pl, dw_cn_S5 dw_x_pl, dw_cn_ln dw_x_pl, dw_cn_aA dw_x_pl, dw_cn_dis dw_x_pl, dw_cn_dI0 dw_x_pl, dw_cn_dI1 dw_x_pl, dw_cn_dI2 dw_x_pl, dw_cn_dI3 dw_x_pl, dw_cn_dI4 dw_x_pl, dw_cn_dI5 dw_x_pl, dw_cn_dI6 dw_x_pl, dw_cn_dS1 dw_x_pl, dw_cn_dS2 dw_x_pl, dw_cn_dS3 dw_x_pl, dw_cn_dS4 dw_x_pl, dw_cn_dS5 dw_x_pl, dw_cn_dS6 dw_x_pl, dw_cn_Dyd dw_x_pl, dw_cn_Dwk dw_x_pl, dw_cn_Dfg dw_x_pl, dw_cn_Dq dw_x_pl, dw_cn_Dc dw_x_pl, dw_cn_onC dw_x_pl, dw_cn_li dw_x_pl, dw_cn_sa dw_x_pl, h4]); first | with_reducible rw [bnd_s] | with_reducible rw [bn2_s] | with_reducible rw [grd_t]))
  by_cases c : q.2.1 = 10021
  · rw [if_pos (show nI q.2.1 = 10021 by rw [c]; rfl), if_pos c]
    obtain ⟨ti', e, g1, g2, g3, g4, g5, g7⟩ := dw_Tstep (N := N) (T := T) (Z := Z) (tk := tk) (kp := kp) (tf := tf) (C := C) (U := U) (H := H) h1 htp hB hb h3 (show q.2.2.1 < 2 ^ 20 by omega)
    repeat (first | with_reducible rw [bnd_s] | with_reducible rw [nmd_s] | with_reducible rw [bn2_s] | with_reducible rw [grd_t] | ((conv => arg 1; arg 1; simp (disch := omega) only [dw_x_is, dw_x_f0, dw_x_f1, dw_x_t1, dw_x_f2, dw_x_f3, dw_x_f4, dw_x_t5, dw_x_f6, dw_x_f7, dw_x_tis, dw_x_p0, dw_x_p6, dw_x_p1, dw_x_q1, dw_x_p2, dw_x_q2, dw_x_p3, dw_x_q3, dw_x_p4, dw_x_q4, dw_x_p5, dw_x_q5, dw_x_p7, dw_x_q7, dw_x_ln1, dw_x_ln3, dw_x_ln4, dw_x_ln5, dw_x_ln6, dw_x_a6, dw_x_w6, dw_x_a4, dw_x_w4, dw_ct_is dw_x_pl, dw_ct_A0 dw_x_pl, dw_ct_I1 dw_x_pl, dw_ct_J2 dw_x_pl, dw_ct_J3 dw_x_pl, dw_ct_I4 dw_x_pl, dw_ct_A5 dw_x_pl, dw_ct_S1 dw_x_pl, dw_ct_S2 dw_x_pl, dw_ct_S3 dw_x_pl, dw_ct_S5 dw_x_pl, dw_ct_ln dw_x_pl, dw_ct_aA dw_x_pl, dw_ct_dis dw_x_pl, dw_ct_dI0 dw_x_pl, dw_ct_dI1 dw_x_pl, dw_ct_dI2 dw_x_pl, dw_ct_dI3 dw_x_pl, dw_ct_dI4 dw_x_pl, dw_ct_dI5 dw_x_pl, dw_ct_dI6 dw_x_pl, dw_ct_dS1 dw_x_pl, dw_ct_dS2 dw_x_pl, dw_ct_dS3 dw_x_pl, dw_ct_dS4 dw_x_pl, dw_ct_dS5 dw_x_pl, dw_ct_dS6 dw_x_pl, dw_ct_Dyd dw_x_pl, dw_ct_Dwk dw_x_pl, dw_ct_Dfg dw_x_pl, dw_ct_Dq dw_x_pl, dw_ct_Dc dw_x_pl, dw_ct_onC dw_x_pl, dw_ct_li dw_x_pl, dw_ct_sa dw_x_pl, dw_cn_is dw_x_pl, dw_cn_A0 dw_x_pl, dw_cn_I1 dw_x_pl, dw_cn_J2 dw_x_pl, dw_cn_J3 dw_x_pl, dw_cn_I4 dw_x_pl, dw_cn_A5 dw_x_pl, dw_cn_S1 dw_x_pl, dw_cn_S2 dw_x_pl, dw_cn_S3 dw_x_pl, dw_cn_S5 dw_x_pl, dw_cn_ln dw_x_pl, dw_cn_aA dw_x_pl, dw_cn_dis dw_x_pl, dw_cn_dI0 dw_x_pl, dw_cn_dI1 dw_x_pl, dw_cn_dI2 dw_x_pl, dw_cn_dI3 dw_x_pl, dw_cn_dI4 dw_x_pl, dw_cn_dI5 dw_x_pl, dw_cn_dI6 dw_x_pl, dw_cn_dS1 dw_x_pl, dw_cn_dS2 dw_x_pl, dw_cn_dS3 dw_x_pl, dw_cn_dS4 dw_x_pl, dw_cn_dS5 dw_x_pl, dw_cn_dS6 dw_x_pl, dw_cn_Dyd dw_x_pl, dw_cn_Dwk dw_x_pl, dw_cn_Dfg dw_x_pl, dw_cn_Dq dw_x_pl, dw_cn_Dc dw_x_pl, dw_cn_onC dw_x_pl, dw_cn_li dw_x_pl, dw_cn_sa dw_x_pl, e]); first | with_reducible rw [bnd_s] | with_reducible rw [bn2_s] | with_reducible rw [grd_t]))
    exact ⟨ti', rfl, g5.trans h5, g7⟩
  · rw [if_neg (show ¬ nI q.2.1 = 10021 from dw_ne (b := 10021) (by omega) (by omega) c), if_neg c, T_fail]
    repeat (first | with_reducible rw [bnd_s] | with_reducible rw [nmd_s] | with_reducible rw [bn2_s] | with_reducible rw [grd_t] | ((conv => arg 1; arg 1; simp (disch := omega) only [dw_x_is, dw_x_f0, dw_x_f1, dw_x_t1, dw_x_f2, dw_x_f3, dw_x_f4, dw_x_t5, dw_x_f6, dw_x_f7, dw_x_tis, dw_x_p0, dw_x_p6, dw_x_p1, dw_x_q1, dw_x_p2, dw_x_q2, dw_x_p3, dw_x_q3, dw_x_p4, dw_x_q4, dw_x_p5, dw_x_q5, dw_x_p7, dw_x_q7, dw_x_ln1, dw_x_ln3, dw_x_ln4, dw_x_ln5, dw_x_ln6, dw_x_a6, dw_x_w6, dw_x_a4, dw_x_w4, dw_ct_is dw_x_pl, dw_ct_A0 dw_x_pl, dw_ct_I1 dw_x_pl, dw_ct_J2 dw_x_pl, dw_ct_J3 dw_x_pl, dw_ct_I4 dw_x_pl, dw_ct_A5 dw_x_pl, dw_ct_S1 dw_x_pl, dw_ct_S2 dw_x_pl, dw_ct_S3 dw_x_pl, dw_ct_S5 dw_x_pl, dw_ct_ln dw_x_pl, dw_ct_aA dw_x_pl, dw_ct_dis dw_x_pl, dw_ct_dI0 dw_x_pl, dw_ct_dI1 dw_x_pl, dw_ct_dI2 dw_x_pl, dw_ct_dI3 dw_x_pl, dw_ct_dI4 dw_x_pl, dw_ct_dI5 dw_x_pl, dw_ct_dI6 dw_x_pl, dw_ct_dS1 dw_x_pl, dw_ct_dS2 dw_x_pl, dw_ct_dS3 dw_x_pl, dw_ct_dS4 dw_x_pl, dw_ct_dS5 dw_x_pl, dw_ct_dS6 dw_x_pl, dw_ct_Dyd dw_x_pl, dw_ct_Dwk dw_x_pl, dw_ct_Dfg dw_x_pl, dw_ct_Dq dw_x_pl, dw_ct_Dc dw_x_pl, dw_ct_onC dw_x_pl, dw_ct_li dw_x_pl, dw_ct_sa dw_x_pl, dw_cn_is dw_x_pl, dw_cn_A0 dw_x_pl, dw_cn_I1 dw_x_pl, dw_cn_J2 dw_x_pl, dw_cn_J3 dw_x_pl, dw_cn_I4 dw_x_pl, dw_cn_A5 dw_x_pl, dw_cn_S1 dw_x_pl, dw_cn_S2 dw_x_pl, dw_cn_S3 dw_x_pl, dw_cn_S5 dw_x_pl, dw_cn_ln dw_x_pl, dw_cn_aA dw_x_pl, dw_cn_dis dw_x_pl, dw_cn_dI0 dw_x_pl, dw_cn_dI1 dw_x_pl, dw_cn_dI2 dw_x_pl, dw_cn_dI3 dw_x_pl, dw_cn_dI4 dw_x_pl, dw_cn_dI5 dw_x_pl, dw_cn_dI6 dw_x_pl, dw_cn_dS1 dw_x_pl, dw_cn_dS2 dw_x_pl, dw_cn_dS3 dw_x_pl, dw_cn_dS4 dw_x_pl, dw_cn_dS5 dw_x_pl, dw_cn_dS6 dw_x_pl, dw_cn_Dyd dw_x_pl, dw_cn_Dwk dw_x_pl, dw_cn_Dfg dw_x_pl, dw_cn_Dq dw_x_pl, dw_cn_Dc dw_x_pl, dw_cn_onC dw_x_pl, dw_cn_li dw_x_pl, dw_cn_sa dw_x_pl, h2]); first | with_reducible rw [bnd_s] | with_reducible rw [bn2_s] | with_reducible rw [grd_t]))
    refine ⟨_, rfl, ?_, ?_⟩
    · rw [upd_app, if_neg (by decide), upd_app, if_pos rfl, dw_fl]
    · rw [upd_app, if_neg (by decide), upd_app, if_neg (by decide)]
end TT
/-! behind a fault nothing moves -/
def dw_PU (p : dw_Q → dw_Q) : Prop := ∀ q : dw_Q, q.2.1 = 10022 → (p q).2.1 = 10022 ∧ (p q).1 = q.1 ∧ (p q).2.2.2.2 = q.2.2.2.2 ∧ ((p q).2.2.2.1 = q.2.2.2.1 ∨ (p q).2.2.2.1 = some q.1)
section TU
variable {tb : Nat → Nat} {tp : Nat}
theorem dw_PU_fail : dw_PU dw_pfail := fun q _ => ⟨rfl, rfl, rfl, Or.inr rfl⟩
theorem dw_PU_exp {w : Nat} (hw : w ≠ 10022) : dw_PU (dw_pexp tb tp w) := by
  intro q h
  unfold dw_pexp
  rw [if_neg (by omega)]
  exact dw_PU_fail q h
theorem dw_PU_one {rE rO : dw_PF} {o : Nat} : dw_PU (dw_pone tb tp rE rO o) := by
  intro q h
  unfold dw_pone
  rw [if_neg (by omega), if_neg (by omega), if_neg (by omega)]
  exact dw_PU_fail q h
theorem dw_PU_loop {c : Nat → Bool} (hc : c 10022 = false) (r : dw_Q → dw_Q) : ∀ k, dw_PU (dw_ploop tb tp c r k)
  | 0 => fun q h => by
    rw [dw_ploop]
    exact ⟨h, rfl, rfl, Or.inl rfl⟩
  | k + 1 => fun q h => by
    rw [dw_ploop, if_neg (by rw [h, hc]; decide)]
    exact ⟨h, rfl, rfl, Or.inl rfl⟩
theorem dw_PU_then {r : dw_Q → dw_Q} (hr : dw_PU r) {c : Nat → Bool} (hc : c 10022 = false) : dw_PU (fun q => dw_ploop tb tp c r 160 (r q)) := by
  intro q h
  obtain ⟨h1, h2, h3, h4⟩ := hr q h
  obtain ⟨g1, g2, g3, g4⟩ := dw_PU_loop (tb := tb) (tp := tp) hc r 160 (r q) h1
  refine ⟨g1, g2.trans h2, g3.trans h3, ?_⟩
  rcases g4 with g4 | g4
  · rcases h4 with h4 | h4
    · exact Or.inl (g4.trans h4)
    · exact Or.inr (g4.trans h4)
  · exact Or.inr (by rw [g4, h2])
theorem dw_PU_den {rD rS : dw_PF} {o : Nat} (hS : dw_PU (rS o)) : dw_PU (dw_pden tb tp rD rS o) := by
  intro q h
  unfold dw_pden
  obtain ⟨h1, h2, h3, h4⟩ := hS q h
  rw [if_neg (by omega), if_neg (by omega)]
  exact ⟨h1, h2, h3, h4⟩
theorem dw_PU_knot (n o : Nat) : dw_PU ((dw_pknot tb tp (n + 1)).1 o) := by
  have gO := dw_PU_one (tb := tb) (tp := tp) (rE := (dw_pknot tb tp n).1) (rO := (dw_pknot tb tp n).2.1) (o := o)
  have gT := dw_PU_then (tb := tb) (tp := tp) gO (c := fun t => decide (t = 10012)) (by decide)
  have gS := dw_PU_then (tb := tb) (tp := tp) gT (c := fun t => decide (t = 10010) || decide (t = 10011)) (by decide)
  have gD := dw_PU_den (tb := tb) (tp := tp) (rD := (dw_pknot tb tp n).2.2) (rS := dw_psum tb tp (dw_pterm tb tp (dw_pone tb tp (dw_pknot tb tp n).1 (dw_pknot tb tp n).2.1))) (o := o) gS
  have gB := dw_PU_then (tb := tb) (tp := tp) gD (c := fun t => decide (t = 10007)) (by decide)
  have gE := dw_PU_then (tb := tb) (tp := tp) gB (c := fun t => decide (t = 10006)) (by decide)
  rw [dw_pknot]
  exact gE
theorem dw_PU_part {key : Nat} (hk : key ≠ 10022) : dw_PU (dw_ppart tb tp key) := by
  intro q h
  unfold dw_ppart
  obtain ⟨a1, a2, a3, a4⟩ := dw_PU_exp (tb := tb) (tp := tp) hk q h
  obtain ⟨b1, b2, b3, b4⟩ := dw_PU_knot (tb := tb) (tp := tp) 6 0 _ a1
  obtain ⟨c1, c2, c3, c4⟩ := dw_PU_exp (tb := tb) (tp := tp) (w := 10020) (by decide) _ b1
  refine ⟨c1, (c2.trans b2).trans a2, (c3.trans b3).trans a3, ?_⟩
  rcases c4 with c4 | c4
  · rcases b4 with b4 | b4
    · rcases a4 with a4 | a4
      · exact Or.inl ((c4.trans b4).trans a4)
      · exact Or.inr ((c4.trans b4).trans a4)
    · exact Or.inr (by rw [c4, b4, a2])
  · exact Or.inr (by rw [c4, b2, a2])
end TU
