/-! THE CLASS: the new law's cells -/
theorem dw_pq1_c {tb : Nat → Nat} {tp : Nat} : (dw_pq1 tb tp).1 < (dw_pq1 tb tp).2.2.1 ∧ ((dw_pq1 tb tp).2.2.2.2.length + 1 ≤ (dw_pq1 tb tp).1 ∨ ((dw_pq1 tb tp).2.1 = 10022 ∧ (dw_pq1 tb tp).2.2.2.2 = [])) := by
  have hG0 : (dw_pq0 tb tp).1 < (dw_pq0 tb tp).2.2.1 := (dw_lexG tb tp 0).2
  have h0 : (dw_pq0 tb tp).2.2.2.2 = [] := rfl
  have hP := dw_PR_part (tb := tb) (tp := tp) 10015 _ hG0
  rw [dw_pq1]
  refine ⟨hP.1, ?_⟩
  rw [dw_ppart]
  generalize dw_pq0 tb tp = q0 at *
  by_cases c : q0.2.1 = 10015
  · have e : dw_pexp tb tp 10015 q0 = dw_pstep tb tp q0 := by rw [dw_pexp, if_pos c]
    rw [e]
    obtain ⟨g1, g2, g3⟩ := dw_GQ_step (tb := tb) (tp := tp) hG0
    have g4 := (dw_PR_knot (tb := tb) (tp := tp) 7 0).1 _ g1.1
    have g5 := dw_GQ_tr g4 (dw_GQ_exp (tb := tb) (tp := tp) g4.1 10020)
    have g6 := g5.2.2
    rw [g3, h0] at g6
    have h00 : ([] : List Nat).length = 0 := rfl
    exact Or.inl (by omega)
  · have e : dw_pexp tb tp 10015 q0 = dw_pfail q0 := by rw [dw_pexp, if_neg c]
    rw [e]
    obtain ⟨b1, b2, b3, b4⟩ := dw_PU_knot (tb := tb) (tp := tp) 6 0 (dw_pfail q0) rfl
    obtain ⟨c1, c2, c3, c4⟩ := dw_PU_exp (tb := tb) (tp := tp) (w := 10020) (by decide) _ b1
    exact Or.inr ⟨c1, (c3.trans b3).trans h0⟩
/-- less code than the tape holds -/
theorem dw_pq3_lt {tb : Nat → Nat} {tp : Nat} (htp : tp ≤ 160) (hnx : (dw_pq3 tb tp).2.2.1 ≤ tp + 1) : (dw_pq3 tb tp).2.2.2.2.length < 160 := by
  obtain ⟨h1, h2⟩ := dw_pq1_c (tb := tb) (tp := tp)
  rw [dw_pq3, dw_pq2] at hnx ⊢
  generalize dw_pq1 tb tp = q1 at *
  have P2 := dw_PR_part (tb := tb) (tp := tp) 10016 q1 h1
  have P3 := dw_GQ_tr P2 (dw_PR_part (tb := tb) (tp := tp) 10017 _ P2.1)
  rcases h2 with h2 | ⟨h2, h3⟩
  · have g6 := P3.2.2
    have g7 := P3.1
    omega
  · obtain ⟨b1, b2, b3, b4⟩ := dw_PU_part (tb := tb) (tp := tp) (key := 10016) (by decide) q1 h2
    obtain ⟨c1, c2, c3, c4⟩ := dw_PU_part (tb := tb) (tp := tp) (key := 10017) (by decide) _ b1
    rw [c3, b3, h3]
    decide
section TW
variable {N T : dw_B} {Z : pm_H} {tk : Int32} {kp : Value} {tf : Nat → Option Nat} {ti B C U : Nat → Int32} {H : dw_H}
theorem dw_Tmake {g k u : Nat} (n : Int32) (hgk : g ≤ k) (hku : k ≤ u) (hu : u < 160) (h7 : ti 7 = nI u) : (bnd (op_A (dw_cl (dw_pre tk kp tf ti B C U H) N T (Z ++ [.inr (2, pm_new 2)])) 2 4 6) fun x26q => bn2 (Ja_copyOfRange (dw_cl (dw_pre tk kp tf ti B C U H) N T (Z ++ [.inr (2, pm_new 2)])) x26q 0 (nI g)) fun h27q x28q => bnd (op_A h27q 2 4 6) fun x29q => bn2 (Ja_copyOfRange h27q x29q (nI g) (nI k)) fun h30q x31q => bnd (op_A h30q 2 4 6) fun x32q => bnd (op_I h30q 2 4 7) fun x33q => bn2 (Ja_copyOfRange h30q x32q (nI k) x33q) fun h34q x35q => bn2 (W_init h34q (37 + Z.length) n x28q x31q x35q) fun h36q _ => some (h36q, (some (37 + Z.length)))) = some (dw_cl (dw_pre tk kp tf ti B C U H) N T (Z ++ dw_nl (37 + Z.length) n C g k u), some (37 + Z.length)) := by
  have c1 := dw_Tcor (N := N) (T := T) (Z := Z ++ [.inr (2, pm_new 2)]) (tk := tk) (kp := kp) (tf := tf) (ti := ti) (B := B) (C := C) (U := U) (H := H) (a := 0) (b := g) (Nat.zero_le g) (by omega) (fun z => by omega)
  have c1' : Ja_copyOfRange (dw_cl (dw_pre tk kp tf ti B C U H) N T (Z ++ [.inr (2, pm_new 2)])) (some 4) 0 (nI g) = _ := c1
  have c2 := dw_Tcor (N := N) (T := T) (Z := Z ++ [.inr (2, pm_new 2)] ++ [.inl (0, g - 0, .inl (va_cpy C (fun _ => 0) 0 0 (g - 0)))]) (tk := tk) (kp := kp) (tf := tf) (ti := ti) (B := B) (C := C) (U := U) (H := H) (a := g) (b := k) hgk (by omega) (fun z => by omega)
  have c3 := dw_Tcor (N := N) (T := T) (Z := Z ++ [.inr (2, pm_new 2)] ++ [.inl (0, g - 0, .inl (va_cpy C (fun _ => 0) 0 0 (g - 0)))] ++ [.inl (0, k - g, .inl (va_cpy C (fun _ => 0) g 0 (k - g)))]) (tk := tk) (kp := kp) (tf := tf) (ti := ti) (B := B) (C := C) (U := U) (H := H) (a := k) (b := u) hku (by omega) (fun z => by omega)
  rw [dw_x_p6, bnd_s, c1', bn2_s, dw_x_p6, bnd_s, c2, bn2_s, dw_x_p6, bnd_s, dw_x_p7, bnd_s, h7]
  rw [c3, bn2_s]
  have eZ : Z ++ [.inr (2, pm_new 2)] ++ [.inl (0, g - 0, .inl (va_cpy C (fun _ => 0) 0 0 (g - 0)))] ++ [.inl (0, k - g, .inl (va_cpy C (fun _ => 0) g 0 (k - g)))] ++ [.inl (0, u - k, .inl (va_cpy C (fun _ => 0) k 0 (u - k)))] = Z ++ (.inr (2, pm_new 2) :: [.inl (0, g - 0, .inl (va_cpy C (fun _ => 0) 0 0 (g - 0))), .inl (0, k - g, .inl (va_cpy C (fun _ => 0) g 0 (k - g))), .inl (0, u - k, .inl (va_cpy C (fun _ => 0) k 0 (u - k)))]) := by
    simp only [List.append_assoc, List.cons_append, List.nil_append]
  rw [eZ, dw_Wini, bn2_s]
  have l1 : 37 + (Z ++ ([.inr (2, pm_new 2)] : pm_H)).length = 37 + Z.length + 1 := by
    rw [List.length_append]
    rfl
  have l2 : 37 + (Z ++ ([.inr (2, pm_new 2)] : pm_H) ++ ([.inl (0, g - 0, .inl (va_cpy C (fun _ => 0) 0 0 (g - 0)))] : pm_H)).length = 37 + Z.length + 2 := by
    rw [List.length_append, List.length_append]
    rfl
  have l3 : 37 + (Z ++ ([.inr (2, pm_new 2)] : pm_H) ++ ([.inl (0, g - 0, .inl (va_cpy C (fun _ => 0) 0 0 (g - 0)))] : pm_H) ++ ([.inl (0, k - g, .inl (va_cpy C (fun _ => 0) g 0 (k - g)))] : pm_H)).length = 37 + Z.length + 3 := by
    rw [List.length_append, List.length_append, List.length_append]
    rfl
  rw [l1, l2, l3]
  rfl
end TW
