/-! THE PARSER, PURE: place, token, next, fault, code; shaped as the class's rules -/
abbrev dw_Q : Type := Nat × Nat × Nat × Option Nat × List Nat
def dw_pstep (tb : Nat → Nat) (tp : Nat) (q : dw_Q) : dw_Q := ((dw_lex tb tp q.2.2.1).1, (dw_lex tb tp q.2.2.1).2.1, (dw_lex tb tp q.2.2.1).2.2, q.2.2.2.1, q.2.2.2.2)
def dw_pfail (q : dw_Q) : dw_Q := (q.1, 10022, q.2.2.1, some q.1, q.2.2.2.2)
def dw_pemit (c : Nat) (q : dw_Q) : dw_Q := (q.1, q.2.1, q.2.2.1, q.2.2.2.1, if q.2.2.2.2.length < 160 then q.2.2.2.2 ++ [c] else q.2.2.2.2)
def dw_pexp (tb : Nat → Nat) (tp w : Nat) (q : dw_Q) : dw_Q := if q.2.1 = w then dw_pstep tb tp q else dw_pfail q
abbrev dw_PF : Type := Nat → dw_Q → dw_Q
def dw_pone (tb : Nat → Nat) (tp : Nat) (rE rO : dw_PF) (o : Nat) (q : dw_Q) : dw_Q := if q.2.1 ≤ 10005 then dw_pstep tb tp (dw_pemit q.2.1 q) else if q.2.1 = 10011 ∧ o < 5 then dw_pemit 10014 (rO (o + 1) (dw_pstep tb tp q)) else if q.2.1 = 10018 ∧ o < 5 then dw_pexp tb tp 10019 (rE (o + 1) (dw_pstep tb tp q)) else dw_pfail q
/-- one rule again and again, joined by signs -/
def dw_ploop (tb : Nat → Nat) (tp : Nat) (c : Nat → Bool) (r : dw_Q → dw_Q) : Nat → dw_Q → dw_Q
  | 0, q => q
  | k + 1, q => if c q.2.1 = true then dw_ploop tb tp c r k (dw_pemit q.2.1 (r (dw_pstep tb tp q))) else q
def dw_pterm (tb : Nat → Nat) (tp : Nat) (rO : dw_PF) (o : Nat) (q : dw_Q) : dw_Q := dw_ploop tb tp (fun t => decide (t = 10012)) (rO o) 160 (rO o q)
def dw_psum (tb : Nat → Nat) (tp : Nat) (rT : dw_PF) (o : Nat) (q : dw_Q) : dw_Q := dw_ploop tb tp (fun t => decide (t = 10010) || decide (t = 10011)) (rT o) 160 (rT o q)
def dw_pden (tb : Nat → Nat) (tp : Nat) (rD rS : dw_PF) (o : Nat) (q : dw_Q) : dw_Q := if q.2.1 = 10013 then (if o < 5 then dw_pemit 10013 (rD (o + 1) (dw_pstep tb tp q)) else dw_pfail q) else if (rS o q).2.1 = 10008 ∨ (rS o q).2.1 = 10009 then dw_pemit (rS o q).2.1 (rS o (dw_pstep tb tp (rS o q))) else rS o q
def dw_pboth (tb : Nat → Nat) (tp : Nat) (rD : dw_PF) (o : Nat) (q : dw_Q) : dw_Q := dw_ploop tb tp (fun t => decide (t = 10007)) (rD o) 160 (rD o q)
def dw_peith (tb : Nat → Nat) (tp : Nat) (rB : dw_PF) (o : Nat) (q : dw_Q) : dw_Q := dw_ploop tb tp (fun t => decide (t = 10006)) (rB o) 160 (rB o q)
/-- either, one, denial: so deep -/
def dw_pknot (tb : Nat → Nat) (tp : Nat) : Nat → dw_PF × dw_PF × dw_PF
  | 0 => (fun _ q => q, fun _ q => q, fun _ q => q)
  | n + 1 => (dw_peith tb tp (dw_pboth tb tp (dw_pden tb tp (dw_pknot tb tp n).2.2 (dw_psum tb tp (dw_pterm tb tp (dw_pone tb tp (dw_pknot tb tp n).1 (dw_pknot tb tp n).2.1))))), dw_pone tb tp (dw_pknot tb tp n).1 (dw_pknot tb tp n).2.1, dw_pden tb tp (dw_pknot tb tp n).2.2 (dw_psum tb tp (dw_pterm tb tp (dw_pone tb tp (dw_pknot tb tp n).1 (dw_pknot tb tp n).2.1))))
def dw_ppart (tb : Nat → Nat) (tp key : Nat) (q : dw_Q) : dw_Q := dw_pexp tb tp 10020 ((dw_pknot tb tp 7).1 0 (dw_pexp tb tp key q))
/-- the class's tape tells of it -/
def dw_fl : Option Nat → Int32
  | none => -1
  | some p => nI p
def dw_TQ (tp : Nat) (ti C : Nat → Int32) (q : dw_Q) : Prop := ti 1 = nI tp ∧ ti 2 = nI q.1 ∧ ti 3 = nI q.2.2.1 ∧ ti 4 = nI q.2.1 ∧ ti 5 = dw_fl q.2.2.2.1 ∧ ti 7 = nI q.2.2.2.2.length ∧ (∀ j, j < q.2.2.2.2.length → C j = nI (q.2.2.2.2.getD j 0)) ∧ q.2.2.2.2.length ≤ 160 ∧ q.2.2.1 ≤ tp + 1 ∧ (q.2.2.1 ≤ tp ∨ q.2.1 = 10021 ∨ q.2.1 = 10022) ∧ q.2.1 ≤ 10022 ∧ q.1 ≤ tp + 1 ∧ ∀ p, q.2.2.2.1 = some p → p ≤ tp + 1
theorem dw_sgB : ∀ n, n < 256 → dw_sg (nI n) ≤ 10022 := by decide +kernel
theorem dw_wtB (tb : Nat → Nat) (p n : Nat) : dw_wtok tb p n ≤ 10022 := by
  unfold dw_wtok
  repeat (split; · decide)
  decide
/-- where a token leaves off -/
theorem dw_lexB {tb : Nat → Nat} {tp i : Nat} (hb : ∀ j, j < tp → tb j < 256) (hi : i ≤ tp) : (dw_lex tb tp i).2.2 ≤ tp + 1 ∧ ((dw_lex tb tp i).2.2 ≤ tp ∨ (dw_lex tb tp i).2.1 = 10021) ∧ (dw_lex tb tp i).2.1 ≤ 10022 := by
  unfold dw_lex
  have hP : dw_sk dw_isB tb tp 160 i ≤ tp := by
    rcases dw_sk_le dw_isB tb tp 160 i with h | h <;> omega
  generalize dw_sk dw_isB tb tp 160 i = P at *
  by_cases cD : dw_isD (dw_by tb tp P) = true
  · simp only [if_pos cD]
    have hE : dw_sk dw_isD tb tp 160 P ≤ tp := by
      rcases dw_sk_le dw_isD tb tp 160 P with h | h <;> omega
    have hall := dw_sk_all dw_isD tb tp 160 P
    generalize dw_sk dw_isD tb tp 160 P = E at *
    refine ⟨by omega, Or.inl hE, ?_⟩
    by_cases c4 : E - P ≤ 4
    · rw [if_pos c4]
      have hv := dw_vD_lt tb (E - P) P 0 0 (by decide) (fun j j1 j2 => by
        obtain ⟨k1, k2⟩ := hall j j1 (by omega)
        exact (dw_isD48 _ (hb j k1) k2).2)
      have h4 : 10 ^ (0 + (E - P)) ≤ 10 ^ 4 := Nat.pow_le_pow_right (by decide) (by omega)
      omega
    · rw [if_neg c4]
      exact Nat.le_refl _
  · simp only [if_neg cD]
    by_cases cL : dw_isL (dw_by tb tp P) = true
    · simp only [if_pos cL]
      have hE : dw_sk dw_isL tb tp 160 P ≤ tp := by
        rcases dw_sk_le dw_isL tb tp 160 P with h | h <;> omega
      exact ⟨by omega, Or.inl hE, dw_wtB tb _ _⟩
    · simp only [if_neg cL]
      by_cases cP : P < tp
      · refine ⟨by omega, Or.inl (by omega), ?_⟩
        rw [if_pos cP, dw_by, if_pos cP]
        exact dw_sgB _ (hb P cP)
      · refine ⟨by omega, Or.inr (by rw [if_neg cP]), ?_⟩
        rw [if_neg cP]
        decide
theorem dw_lexP {tb : Nat → Nat} {tp i : Nat} (hi : i ≤ tp) : (dw_lex tb tp i).1 ≤ tp := by
  unfold dw_lex
  have hP : dw_sk dw_isB tb tp 160 i ≤ tp := by
    rcases dw_sk_le dw_isB tb tp 160 i with h | h <;> omega
  generalize dw_sk dw_isB tb tp 160 i = P at *
  by_cases cD : dw_isD (dw_by tb tp P) = true
  · simp only [if_pos cD]
    exact hP
  · simp only [if_neg cD]
    by_cases cL : dw_isL (dw_by tb tp P) = true
    · simp only [if_pos cL]
      exact hP
    · simp only [if_neg cL]
      exact hP
section TP
variable {N T : dw_B} {Z : pm_H} {tk : Int32} {kp : Value} {tf : Nat → Option Nat} {ti B C U : Nat → Int32} {H : dw_H} {tb : Nat → Nat} {tp : Nat}
def dw_Tg (o : Option (pm_H × Unit)) (N T : dw_B) (Z : pm_H) (tk : Int32) (kp : Value) (tf : Nat → Option Nat) (B U : Nat → Int32) (H : dw_H) (tp : Nat) (q : dw_Q) : Prop := ∃ ti' C', o = some (dw_cl (dw_pre tk kp tf ti' B C' U H) N T Z, ()) ∧ dw_TQ tp ti' C' q
theorem dw_Gstep (htp : tp ≤ 160) (hB : ∀ j, j < tp → B j = (nI (tb j)).toInt8.toInt32) (hb : ∀ j, j < tp → tb j < 256) {q : dw_Q} (h : dw_TQ tp ti C q) (hq : q.2.2.1 ≤ tp) : dw_Tg (T_step (dw_cl (dw_pre tk kp tf ti B C U H) N T Z) 2) N T Z tk kp tf B U H tp (dw_pstep tb tp q) := by
  obtain ⟨h1, h2, h3, h4, h5, h7, h8, h9, h10, h11, h12⟩ := h
  obtain ⟨ti', e, g1, g2, g3, g4, g5, g7⟩ := dw_Tstep (N := N) (T := T) (Z := Z) (tk := tk) (kp := kp) (tf := tf) (C := C) (U := U) (H := H) h1 htp hB hb h3 (show q.2.2.1 < 2 ^ 20 by omega)
  obtain ⟨b1, b2, b3⟩ := dw_lexB hb hq
  exact ⟨ti', C, e, g1, g2, g3, g4, g5.trans h5, g7.trans h7, h8, h9, b1, (by
    rcases b2 with b2 | b2
    · exact Or.inl b2
    · exact Or.inr (Or.inl b2)), b3, Nat.le_succ_of_le (dw_lexP hq), h12.2.2⟩
theorem dw_Gfail {q : dw_Q} (h : dw_TQ tp ti C q) : dw_Tg (T_fail (dw_cl (dw_pre tk kp tf ti B C U H) N T Z) 2) N T Z tk kp tf B U H tp (dw_pfail q) := by
  obtain ⟨h1, h2, h3, h4, h5, h7, h8, h9, h10, h11, h12⟩ := h
  rw [T_fail]
  repeat (first | with_reducible rw [bnd_s] | with_reducible rw [nmd_s] | with_reducible rw [bn2_s] | with_reducible rw [grd_t] | ((conv => arg 1; arg 1; simp (disch := omega) only [dw_x_is, dw_x_f0, dw_x_f1, dw_x_t1, dw_x_f2, dw_x_f3, dw_x_f4, dw_x_t5, dw_x_f6, dw_x_f7, dw_x_tis, dw_x_p0, dw_x_p6, dw_x_p1, dw_x_q1, dw_x_p2, dw_x_q2, dw_x_p3, dw_x_q3, dw_x_p4, dw_x_q4, dw_x_p5, dw_x_q5, dw_x_p7, dw_x_q7, dw_x_ln1, dw_x_ln3, dw_x_ln4, dw_x_ln5, dw_x_ln6, dw_x_a6, dw_x_w6, dw_x_a4, dw_x_w4, dw_ct_is dw_x_pl, dw_ct_A0 dw_x_pl, dw_ct_I1 dw_x_pl, dw_ct_J2 dw_x_pl, dw_ct_J3 dw_x_pl, dw_ct_I4 dw_x_pl, dw_ct_A5 dw_x_pl, dw_ct_S1 dw_x_pl, dw_ct_S2 dw_x_pl, dw_ct_S3 dw_x_pl, dw_ct_S5 dw_x_pl, dw_ct_ln dw_x_pl, dw_ct_aA dw_x_pl, dw_ct_dis dw_x_pl, dw_ct_dI0 dw_x_pl, dw_ct_dI1 dw_x_pl, dw_ct_dI2 dw_x_pl, dw_ct_dI3 dw_x_pl, dw_ct_dI4 dw_x_pl, dw_ct_dI5 dw_x_pl, dw_ct_dI6 dw_x_pl, dw_ct_dS1 dw_x_pl, dw_ct_dS2 dw_x_pl, dw_ct_dS3 dw_x_pl, dw_ct_dS4 dw_x_pl, dw_ct_dS5 dw_x_pl, dw_ct_dS6 dw_x_pl, dw_ct_Dyd dw_x_pl, dw_ct_Dwk dw_x_pl, dw_ct_Dfg dw_x_pl, dw_ct_Dq dw_x_pl, dw_ct_Dc dw_x_pl, dw_ct_onC dw_x_pl, dw_ct_li dw_x_pl, dw_ct_sa dw_x_pl, dw_cn_is dw_x_pl, dw_cn_A0 dw_x_pl, dw_cn_I1 dw_x_pl, dw_cn_J2 dw_x_pl, dw_cn_J3 dw_x_pl, dw_cn_I4 dw_x_pl, dw_cn_A5 dw_x_pl, dw_cn_S1 dw_x_pl, dw_cn_S2 dw_x_pl, dw_cn_S3 dw_x_pl, dw_cn_S5 dw_x_pl, dw_cn_ln dw_x_pl, dw_cn_aA dw_x_pl, dw_cn_dis dw_x_pl, dw_cn_dI0 dw_x_pl, dw_cn_dI1 dw_x_pl, dw_cn_dI2 dw_x_pl, dw_cn_dI3 dw_x_pl, dw_cn_dI4 dw_x_pl, dw_cn_dI5 dw_x_pl, dw_cn_dI6 dw_x_pl, dw_cn_dS1 dw_x_pl, dw_cn_dS2 dw_x_pl, dw_cn_dS3 dw_x_pl, dw_cn_dS4 dw_x_pl, dw_cn_dS5 dw_x_pl, dw_cn_dS6 dw_x_pl, dw_cn_Dyd dw_x_pl, dw_cn_Dwk dw_x_pl, dw_cn_Dfg dw_x_pl, dw_cn_Dq dw_x_pl, dw_cn_Dc dw_x_pl, dw_cn_onC dw_x_pl, dw_cn_li dw_x_pl, dw_cn_sa dw_x_pl, h2]); first | with_reducible rw [bnd_s] | with_reducible rw [bn2_s] | with_reducible rw [grd_t]))
  refine ⟨_, C, rfl, ?_, ?_, ?_, ?_, ?_, ?_, h8, h9, h10, Or.inr (Or.inr rfl), Nat.le_refl _, h12.2.1, fun p e => by
    injection e with e
    rw [← e]
    exact h12.2.1⟩
  · rw [upd_app, if_neg (by decide), upd_app, if_neg (by decide), h1]
  · rw [upd_app, if_neg (by decide), upd_app, if_neg (by decide), h2]
    rfl
  · rw [upd_app, if_neg (by decide), upd_app, if_neg (by decide), h3]
    rfl
  · rw [upd_app, if_pos rfl]
    rfl
  · rw [upd_app, if_neg (by decide), upd_app, if_pos rfl]
    rfl
  · rw [upd_app, if_neg (by decide), upd_app, if_neg (by decide), h7]
    rfl
theorem dw_Gemit {q : dw_Q} (h : dw_TQ tp ti C q) (c : Nat) : dw_Tg (T_emit (dw_cl (dw_pre tk kp tf ti B C U H) N T Z) 2 (nI c)) N T Z tk kp tf B U H tp (dw_pemit c q) := by
  obtain ⟨h1, h2, h3, h4, h5, h7, h8, h9, h10, h11, h12⟩ := h
  rw [T_emit]
  repeat (first | with_reducible rw [bnd_s] | with_reducible rw [nmd_s] | with_reducible rw [bn2_s] | with_reducible rw [grd_t] | ((conv => arg 1; arg 1; simp (disch := omega) only [dw_x_is, dw_x_f0, dw_x_f1, dw_x_t1, dw_x_f2, dw_x_f3, dw_x_f4, dw_x_t5, dw_x_f6, dw_x_f7, dw_x_tis, dw_x_p0, dw_x_p6, dw_x_p1, dw_x_q1, dw_x_p2, dw_x_q2, dw_x_p3, dw_x_q3, dw_x_p4, dw_x_q4, dw_x_p5, dw_x_q5, dw_x_p7, dw_x_q7, dw_x_ln1, dw_x_ln3, dw_x_ln4, dw_x_ln5, dw_x_ln6, dw_x_a6, dw_x_w6, dw_x_a4, dw_x_w4, dw_ct_is dw_x_pl, dw_ct_A0 dw_x_pl, dw_ct_I1 dw_x_pl, dw_ct_J2 dw_x_pl, dw_ct_J3 dw_x_pl, dw_ct_I4 dw_x_pl, dw_ct_A5 dw_x_pl, dw_ct_S1 dw_x_pl, dw_ct_S2 dw_x_pl, dw_ct_S3 dw_x_pl, dw_ct_S5 dw_x_pl, dw_ct_ln dw_x_pl, dw_ct_aA dw_x_pl, dw_ct_dis dw_x_pl, dw_ct_dI0 dw_x_pl, dw_ct_dI1 dw_x_pl, dw_ct_dI2 dw_x_pl, dw_ct_dI3 dw_x_pl, dw_ct_dI4 dw_x_pl, dw_ct_dI5 dw_x_pl, dw_ct_dI6 dw_x_pl, dw_ct_dS1 dw_x_pl, dw_ct_dS2 dw_x_pl, dw_ct_dS3 dw_x_pl, dw_ct_dS4 dw_x_pl, dw_ct_dS5 dw_x_pl, dw_ct_dS6 dw_x_pl, dw_ct_Dyd dw_x_pl, dw_ct_Dwk dw_x_pl, dw_ct_Dfg dw_x_pl, dw_ct_Dq dw_x_pl, dw_ct_Dc dw_x_pl, dw_ct_onC dw_x_pl, dw_ct_li dw_x_pl, dw_ct_sa dw_x_pl, dw_cn_is dw_x_pl, dw_cn_A0 dw_x_pl, dw_cn_I1 dw_x_pl, dw_cn_J2 dw_x_pl, dw_cn_J3 dw_x_pl, dw_cn_I4 dw_x_pl, dw_cn_A5 dw_x_pl, dw_cn_S1 dw_x_pl, dw_cn_S2 dw_x_pl, dw_cn_S3 dw_x_pl, dw_cn_S5 dw_x_pl, dw_cn_ln dw_x_pl, dw_cn_aA dw_x_pl, dw_cn_dis dw_x_pl, dw_cn_dI0 dw_x_pl, dw_cn_dI1 dw_x_pl, dw_cn_dI2 dw_x_pl, dw_cn_dI3 dw_x_pl, dw_cn_dI4 dw_x_pl, dw_cn_dI5 dw_x_pl, dw_cn_dI6 dw_x_pl, dw_cn_dS1 dw_x_pl, dw_cn_dS2 dw_x_pl, dw_cn_dS3 dw_x_pl, dw_cn_dS4 dw_x_pl, dw_cn_dS5 dw_x_pl, dw_cn_dS6 dw_x_pl, dw_cn_Dyd dw_x_pl, dw_cn_Dwk dw_x_pl, dw_cn_Dfg dw_x_pl, dw_cn_Dq dw_x_pl, dw_cn_Dc dw_x_pl, dw_cn_onC dw_x_pl, dw_cn_li dw_x_pl, dw_cn_sa dw_x_pl, h7]); first | with_reducible rw [bnd_s] | with_reducible rw [bn2_s] | with_reducible rw [grd_t]))
  unfold dw_pemit
  by_cases c1 : q.2.2.2.2.length < 160
  · rw [if_neg (show ¬ (160 : Int32) ≤ nI q.2.2.2.2.length from nI_ge (b := 160) c1 (by omega)), if_pos c1]
    repeat (first | with_reducible rw [bnd_s] | with_reducible rw [nmd_s] | with_reducible rw [bn2_s] | with_reducible rw [grd_t] | ((conv => arg 1; arg 1; simp (disch := omega) only [dw_x_is, dw_x_f0, dw_x_f1, dw_x_t1, dw_x_f2, dw_x_f3, dw_x_f4, dw_x_t5, dw_x_f6, dw_x_f7, dw_x_tis, dw_x_p0, dw_x_p6, dw_x_p1, dw_x_q1, dw_x_p2, dw_x_q2, dw_x_p3, dw_x_q3, dw_x_p4, dw_x_q4, dw_x_p5, dw_x_q5, dw_x_p7, dw_x_q7, dw_x_ln1, dw_x_ln3, dw_x_ln4, dw_x_ln5, dw_x_ln6, dw_x_a6, dw_x_w6, dw_x_a4, dw_x_w4, dw_ct_is dw_x_pl, dw_ct_A0 dw_x_pl, dw_ct_I1 dw_x_pl, dw_ct_J2 dw_x_pl, dw_ct_J3 dw_x_pl, dw_ct_I4 dw_x_pl, dw_ct_A5 dw_x_pl, dw_ct_S1 dw_x_pl, dw_ct_S2 dw_x_pl, dw_ct_S3 dw_x_pl, dw_ct_S5 dw_x_pl, dw_ct_ln dw_x_pl, dw_ct_aA dw_x_pl, dw_ct_dis dw_x_pl, dw_ct_dI0 dw_x_pl, dw_ct_dI1 dw_x_pl, dw_ct_dI2 dw_x_pl, dw_ct_dI3 dw_x_pl, dw_ct_dI4 dw_x_pl, dw_ct_dI5 dw_x_pl, dw_ct_dI6 dw_x_pl, dw_ct_dS1 dw_x_pl, dw_ct_dS2 dw_x_pl, dw_ct_dS3 dw_x_pl, dw_ct_dS4 dw_x_pl, dw_ct_dS5 dw_x_pl, dw_ct_dS6 dw_x_pl, dw_ct_Dyd dw_x_pl, dw_ct_Dwk dw_x_pl, dw_ct_Dfg dw_x_pl, dw_ct_Dq dw_x_pl, dw_ct_Dc dw_x_pl, dw_ct_onC dw_x_pl, dw_ct_li dw_x_pl, dw_ct_sa dw_x_pl, dw_cn_is dw_x_pl, dw_cn_A0 dw_x_pl, dw_cn_I1 dw_x_pl, dw_cn_J2 dw_x_pl, dw_cn_J3 dw_x_pl, dw_cn_I4 dw_x_pl, dw_cn_A5 dw_x_pl, dw_cn_S1 dw_x_pl, dw_cn_S2 dw_x_pl, dw_cn_S3 dw_x_pl, dw_cn_S5 dw_x_pl, dw_cn_ln dw_x_pl, dw_cn_aA dw_x_pl, dw_cn_dis dw_x_pl, dw_cn_dI0 dw_x_pl, dw_cn_dI1 dw_x_pl, dw_cn_dI2 dw_x_pl, dw_cn_dI3 dw_x_pl, dw_cn_dI4 dw_x_pl, dw_cn_dI5 dw_x_pl, dw_cn_dI6 dw_x_pl, dw_cn_dS1 dw_x_pl, dw_cn_dS2 dw_x_pl, dw_cn_dS3 dw_x_pl, dw_cn_dS4 dw_x_pl, dw_cn_dS5 dw_x_pl, dw_cn_dS6 dw_x_pl, dw_cn_Dyd dw_x_pl, dw_cn_Dwk dw_x_pl, dw_cn_Dfg dw_x_pl, dw_cn_Dq dw_x_pl, dw_cn_Dc dw_x_pl, dw_cn_onC dw_x_pl, dw_cn_li dw_x_pl, dw_cn_sa dw_x_pl, h7, nI_1]); first | with_reducible rw [bnd_s] | with_reducible rw [bn2_s] | with_reducible rw [grd_t]))
    refine ⟨_, _, rfl, ?_, ?_, ?_, ?_, ?_, ?_, ?_, ?_, h10, h11, h12⟩
    · rw [upd_app, if_neg (by decide), h1]
    · rw [upd_app, if_neg (by decide), h2]
    · rw [upd_app, if_neg (by decide), h3]
    · rw [upd_app, if_neg (by decide), h4]
    · rw [upd_app, if_neg (by decide), h5]
    · rw [upd_app, if_pos rfl]
      show _ = nI (q.2.2.2.2 ++ [c]).length
      rw [List.length_append]
      rfl
    · intro j hj
      have hj' : j < q.2.2.2.2.length + 1 := by
        have hj2 : j < (q.2.2.2.2 ++ [c]).length := hj
        rw [List.length_append] at hj2
        exact hj2
      show _ = nI ((q.2.2.2.2 ++ [c]).getD j 0)
      rw [upd_app, List.getD_eq_getElem?_getD]
      by_cases cj : j = q.2.2.2.2.length
      · rw [if_pos cj, List.getElem?_append_right (by omega), cj, Nat.sub_self]
        rfl
      · rw [if_neg cj, h8 j (by omega), List.getElem?_append_left (by omega), List.getD_eq_getElem?_getD]
    · show (q.2.2.2.2 ++ [c]).length ≤ 160
      rw [List.length_append]
      exact c1
  · rw [if_pos (show (160 : Int32) ≤ nI q.2.2.2.2.length from nI_le (a := 160) (by omega) (by omega)), if_neg c1]
    exact ⟨ti, C, rfl, h1, h2, h3, h4, h5, h7, h8, h9, h10, h11, h12⟩
theorem dw_Tg_bn2 {o : Option (pm_H × Unit)} {q : dw_Q} {F : pm_H → Unit → Option (pm_H × Unit)} {q' : dw_Q} (h : dw_Tg o N T Z tk kp tf B U H tp q) (k : ∀ ti C, dw_TQ tp ti C q → dw_Tg (F (dw_cl (dw_pre tk kp tf ti B C U H) N T Z) ()) N T Z tk kp tf B U H tp q') : dw_Tg (bn2 o F) N T Z tk kp tf B U H tp q' := by
  obtain ⟨ti', C', e, g⟩ := h
  rw [e]
  exact k ti' C' g
theorem dw_Tg_id {q : dw_Q} (h : dw_TQ tp ti C q) : dw_Tg (some (dw_cl (dw_pre tk kp tf ti B C U H) N T Z, ())) N T Z tk kp tf B U H tp q := ⟨ti, C, rfl, h⟩
theorem dw_Gexp (htp : tp ≤ 160) (hB : ∀ j, j < tp → B j = (nI (tb j)).toInt8.toInt32) (hb : ∀ j, j < tp → tb j < 256) {q : dw_Q} (h : dw_TQ tp ti C q) {w : Nat} (hw : w < 10021) : dw_Tg (T_expect (dw_cl (dw_pre tk kp tf ti B C U H) N T Z) 2 (nI w)) N T Z tk kp tf B U H tp (dw_pexp tb tp w q) := by
  obtain ⟨h1, h2, h3, h4, h5, h7, h8, h9, h10, h11, h12⟩ := id h
  rw [T_expect, dw_pexp]
  repeat (first | with_reducible rw [bnd_s] | with_reducible rw [nmd_s] | with_reducible rw [bn2_s] | with_reducible rw [grd_t] | ((conv => arg 1; arg 1; simp (disch := omega) only [dw_x_is, dw_x_f0, dw_x_f1, dw_x_t1, dw_x_f2, dw_x_f3, dw_x_f4, dw_x_t5, dw_x_f6, dw_x_f7, dw_x_tis, dw_x_p0, dw_x_p6, dw_x_p1, dw_x_q1, dw_x_p2, dw_x_q2, dw_x_p3, dw_x_q3, dw_x_p4, dw_x_q4, dw_x_p5, dw_x_q5, dw_x_p7, dw_x_q7, dw_x_ln1, dw_x_ln3, dw_x_ln4, dw_x_ln5, dw_x_ln6, dw_x_a6, dw_x_w6, dw_x_a4, dw_x_w4, dw_ct_is dw_x_pl, dw_ct_A0 dw_x_pl, dw_ct_I1 dw_x_pl, dw_ct_J2 dw_x_pl, dw_ct_J3 dw_x_pl, dw_ct_I4 dw_x_pl, dw_ct_A5 dw_x_pl, dw_ct_S1 dw_x_pl, dw_ct_S2 dw_x_pl, dw_ct_S3 dw_x_pl, dw_ct_S5 dw_x_pl, dw_ct_ln dw_x_pl, dw_ct_aA dw_x_pl, dw_ct_dis dw_x_pl, dw_ct_dI0 dw_x_pl, dw_ct_dI1 dw_x_pl, dw_ct_dI2 dw_x_pl, dw_ct_dI3 dw_x_pl, dw_ct_dI4 dw_x_pl, dw_ct_dI5 dw_x_pl, dw_ct_dI6 dw_x_pl, dw_ct_dS1 dw_x_pl, dw_ct_dS2 dw_x_pl, dw_ct_dS3 dw_x_pl, dw_ct_dS4 dw_x_pl, dw_ct_dS5 dw_x_pl, dw_ct_dS6 dw_x_pl, dw_ct_Dyd dw_x_pl, dw_ct_Dwk dw_x_pl, dw_ct_Dfg dw_x_pl, dw_ct_Dq dw_x_pl, dw_ct_Dc dw_x_pl, dw_ct_onC dw_x_pl, dw_ct_li dw_x_pl, dw_ct_sa dw_x_pl, dw_cn_is dw_x_pl, dw_cn_A0 dw_x_pl, dw_cn_I1 dw_x_pl, dw_cn_J2 dw_x_pl, dw_cn_J3 dw_x_pl, dw_cn_I4 dw_x_pl, dw_cn_A5 dw_x_pl, dw_cn_S1 dw_x_pl, dw_cn_S2 dw_x_pl, dw_cn_S3 dw_x_pl, dw_cn_S5 dw_x_pl, dw_cn_ln dw_x_pl, dw_cn_aA dw_x_pl, dw_cn_dis dw_x_pl, dw_cn_dI0 dw_x_pl, dw_cn_dI1 dw_x_pl, dw_cn_dI2 dw_x_pl, dw_cn_dI3 dw_x_pl, dw_cn_dI4 dw_x_pl, dw_cn_dI5 dw_x_pl, dw_cn_dI6 dw_x_pl, dw_cn_dS1 dw_x_pl, dw_cn_dS2 dw_x_pl, dw_cn_dS3 dw_x_pl, dw_cn_dS4 dw_x_pl, dw_cn_dS5 dw_x_pl, dw_cn_dS6 dw_x_pl, dw_cn_Dyd dw_x_pl, dw_cn_Dwk dw_x_pl, dw_cn_Dfg dw_x_pl, dw_cn_Dq dw_x_pl, dw_cn_Dc dw_x_pl, dw_cn_onC dw_x_pl, dw_cn_li dw_x_pl, dw_cn_sa dw_x_pl, h4]); first | with_reducible rw [bnd_s] | with_reducible rw [bn2_s] | with_reducible rw [grd_t]))
  by_cases c : q.2.1 = w
  · rw [if_pos (show nI q.2.1 = nI w by rw [c]), if_pos c]
    repeat (first | with_reducible rw [bnd_s] | with_reducible rw [nmd_s] | with_reducible rw [bn2_s] | with_reducible rw [grd_t] | ((conv => arg 1; arg 1; simp (disch := omega) only [dw_x_is, dw_x_f0, dw_x_f1, dw_x_t1, dw_x_f2, dw_x_f3, dw_x_f4, dw_x_t5, dw_x_f6, dw_x_f7, dw_x_tis, dw_x_p0, dw_x_p6, dw_x_p1, dw_x_q1, dw_x_p2, dw_x_q2, dw_x_p3, dw_x_q3, dw_x_p4, dw_x_q4, dw_x_p5, dw_x_q5, dw_x_p7, dw_x_q7, dw_x_ln1, dw_x_ln3, dw_x_ln4, dw_x_ln5, dw_x_ln6, dw_x_a6, dw_x_w6, dw_x_a4, dw_x_w4, dw_ct_is dw_x_pl, dw_ct_A0 dw_x_pl, dw_ct_I1 dw_x_pl, dw_ct_J2 dw_x_pl, dw_ct_J3 dw_x_pl, dw_ct_I4 dw_x_pl, dw_ct_A5 dw_x_pl, dw_ct_S1 dw_x_pl, dw_ct_S2 dw_x_pl, dw_ct_S3 dw_x_pl, dw_ct_S5 dw_x_pl, dw_ct_ln dw_x_pl, dw_ct_aA dw_x_pl, dw_ct_dis dw_x_pl, dw_ct_dI0 dw_x_pl, dw_ct_dI1 dw_x_pl, dw_ct_dI2 dw_x_pl, dw_ct_dI3 dw_x_pl, dw_ct_dI4 dw_x_pl, dw_ct_dI5 dw_x_pl, dw_ct_dI6 dw_x_pl, dw_ct_dS1 dw_x_pl, dw_ct_dS2 dw_x_pl, dw_ct_dS3 dw_x_pl, dw_ct_dS4 dw_x_pl, dw_ct_dS5 dw_x_pl, dw_ct_dS6 dw_x_pl, dw_ct_Dyd dw_x_pl, dw_ct_Dwk dw_x_pl, dw_ct_Dfg dw_x_pl, dw_ct_Dq dw_x_pl, dw_ct_Dc dw_x_pl, dw_ct_onC dw_x_pl, dw_ct_li dw_x_pl, dw_ct_sa dw_x_pl, dw_cn_is dw_x_pl, dw_cn_A0 dw_x_pl, dw_cn_I1 dw_x_pl, dw_cn_J2 dw_x_pl, dw_cn_J3 dw_x_pl, dw_cn_I4 dw_x_pl, dw_cn_A5 dw_x_pl, dw_cn_S1 dw_x_pl, dw_cn_S2 dw_x_pl, dw_cn_S3 dw_x_pl, dw_cn_S5 dw_x_pl, dw_cn_ln dw_x_pl, dw_cn_aA dw_x_pl, dw_cn_dis dw_x_pl, dw_cn_dI0 dw_x_pl, dw_cn_dI1 dw_x_pl, dw_cn_dI2 dw_x_pl, dw_cn_dI3 dw_x_pl, dw_cn_dI4 dw_x_pl, dw_cn_dI5 dw_x_pl, dw_cn_dI6 dw_x_pl, dw_cn_dS1 dw_x_pl, dw_cn_dS2 dw_x_pl, dw_cn_dS3 dw_x_pl, dw_cn_dS4 dw_x_pl, dw_cn_dS5 dw_x_pl, dw_cn_dS6 dw_x_pl, dw_cn_Dyd dw_x_pl, dw_cn_Dwk dw_x_pl, dw_cn_Dfg dw_x_pl, dw_cn_Dq dw_x_pl, dw_cn_Dc dw_x_pl, dw_cn_onC dw_x_pl, dw_cn_li dw_x_pl, dw_cn_sa dw_x_pl]); first | with_reducible rw [bnd_s] | with_reducible rw [bn2_s] | with_reducible rw [grd_t]))
    exact dw_Tg_bn2 (dw_Gstep htp hB hb h (by omega)) (fun ti C g => dw_Tg_id g)
  · rw [if_neg (show ¬ nI q.2.1 = nI w from dw_ne (by omega) (by omega) c), if_neg c]
    repeat (first | with_reducible rw [bnd_s] | with_reducible rw [nmd_s] | with_reducible rw [bn2_s] | with_reducible rw [grd_t] | ((conv => arg 1; arg 1; simp (disch := omega) only [dw_x_is, dw_x_f0, dw_x_f1, dw_x_t1, dw_x_f2, dw_x_f3, dw_x_f4, dw_x_t5, dw_x_f6, dw_x_f7, dw_x_tis, dw_x_p0, dw_x_p6, dw_x_p1, dw_x_q1, dw_x_p2, dw_x_q2, dw_x_p3, dw_x_q3, dw_x_p4, dw_x_q4, dw_x_p5, dw_x_q5, dw_x_p7, dw_x_q7, dw_x_ln1, dw_x_ln3, dw_x_ln4, dw_x_ln5, dw_x_ln6, dw_x_a6, dw_x_w6, dw_x_a4, dw_x_w4, dw_ct_is dw_x_pl, dw_ct_A0 dw_x_pl, dw_ct_I1 dw_x_pl, dw_ct_J2 dw_x_pl, dw_ct_J3 dw_x_pl, dw_ct_I4 dw_x_pl, dw_ct_A5 dw_x_pl, dw_ct_S1 dw_x_pl, dw_ct_S2 dw_x_pl, dw_ct_S3 dw_x_pl, dw_ct_S5 dw_x_pl, dw_ct_ln dw_x_pl, dw_ct_aA dw_x_pl, dw_ct_dis dw_x_pl, dw_ct_dI0 dw_x_pl, dw_ct_dI1 dw_x_pl, dw_ct_dI2 dw_x_pl, dw_ct_dI3 dw_x_pl, dw_ct_dI4 dw_x_pl, dw_ct_dI5 dw_x_pl, dw_ct_dI6 dw_x_pl, dw_ct_dS1 dw_x_pl, dw_ct_dS2 dw_x_pl, dw_ct_dS3 dw_x_pl, dw_ct_dS4 dw_x_pl, dw_ct_dS5 dw_x_pl, dw_ct_dS6 dw_x_pl, dw_ct_Dyd dw_x_pl, dw_ct_Dwk dw_x_pl, dw_ct_Dfg dw_x_pl, dw_ct_Dq dw_x_pl, dw_ct_Dc dw_x_pl, dw_ct_onC dw_x_pl, dw_ct_li dw_x_pl, dw_ct_sa dw_x_pl, dw_cn_is dw_x_pl, dw_cn_A0 dw_x_pl, dw_cn_I1 dw_x_pl, dw_cn_J2 dw_x_pl, dw_cn_J3 dw_x_pl, dw_cn_I4 dw_x_pl, dw_cn_A5 dw_x_pl, dw_cn_S1 dw_x_pl, dw_cn_S2 dw_x_pl, dw_cn_S3 dw_x_pl, dw_cn_S5 dw_x_pl, dw_cn_ln dw_x_pl, dw_cn_aA dw_x_pl, dw_cn_dis dw_x_pl, dw_cn_dI0 dw_x_pl, dw_cn_dI1 dw_x_pl, dw_cn_dI2 dw_x_pl, dw_cn_dI3 dw_x_pl, dw_cn_dI4 dw_x_pl, dw_cn_dI5 dw_x_pl, dw_cn_dI6 dw_x_pl, dw_cn_dS1 dw_x_pl, dw_cn_dS2 dw_x_pl, dw_cn_dS3 dw_x_pl, dw_cn_dS4 dw_x_pl, dw_cn_dS5 dw_x_pl, dw_cn_dS6 dw_x_pl, dw_cn_Dyd dw_x_pl, dw_cn_Dwk dw_x_pl, dw_cn_Dfg dw_x_pl, dw_cn_Dq dw_x_pl, dw_cn_Dc dw_x_pl, dw_cn_onC dw_x_pl, dw_cn_li dw_x_pl, dw_cn_sa dw_x_pl]); first | with_reducible rw [bnd_s] | with_reducible rw [bn2_s] | with_reducible rw [grd_t]))
    exact dw_Tg_bn2 (dw_Gfail h) (fun ti C g => dw_Tg_id g)
end TP
