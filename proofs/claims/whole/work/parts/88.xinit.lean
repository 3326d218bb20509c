/-! THE CLASS: a new one -/
def dw_tf0 : Nat → Option Nat := va_up (fun _ => none) 0 (some 15)
def dw_ti0 : Nat → Int32 := fun _ => 0
def dw_H0 : dw_H := (fun _ => -1, fun _ => 0, fun _ _ => 0)
def dw_xh (tk : Int32) (n0 n1 : Value) (tf sf : Nat → Option Nat) : pm_H := [.inr (5, [.ref 1, .int tk, .ref 2, n0, n1, .null, .ref 5, .ref 6]), .inl (5, 6, .inr (.inr (.inr (.inr tf)))), .inr (4, [.ref 3, .int 0, .int 0, .int 0, .int 0, .int 0, .ref 4, .int 0]), .inl (2, 160, .inl (fun _ => 0)), .inl (0, 160, .inl (fun _ => 0)), .inl (6, 4, .inr (.inr (.inr (.inr sf)))), .inl (0, 40, .inl (fun _ => 0))]
def dw_xs (i : Nat) : pm_H := [.inr (3, [.int (-1), .int 0, .ref (8 + 2 * i)]), .inl (0, 40, .inl (fun _ => 0))]
def dw_xsf : Nat → Nat → Option Nat
  | 0 => fun _ => none
  | i + 1 => va_up (dw_xsf i) i (some (7 + 2 * i))
theorem dw_Xin0' (K : pm_H → Option (pm_H × Unit)) : (bnd (op_nA [.inr (5, pm_new 5)] 2 6) fun h1q => nmd (List.length ([.inr (5, pm_new 5)] : pm_H)) fun b2q => bnd (op_S h1q 0 5 0 (.ref b2q)) fun h3q => nmd (List.length h3q) fun b5q => nmd (h3q ++ [.inr (4, pm_new 4)]) fun h4q => bn2 (T_init h4q b5q) fun h6q _ => bnd (op_S h6q 0 5 2 (.ref b5q)) fun h8q => bnd (op_nA h8q 3 4) fun h9q => nmd (List.length h8q) fun b10q => bnd (op_S h9q 0 5 6 (.ref b10q)) fun h11q => bnd (op_nI h11q 40) fun h12q => nmd (List.length h11q) fun b13q => bnd (op_S h12q 0 5 7 (.ref b13q)) fun h14q => K h14q) = K (dw_xh 0 .null .null (fun _ => none) (dw_xsf 0)) := rfl
theorem dw_Xin0 : X_init [.inr (5, pm_new 5)] 0 = X_init_42 1000 (dw_xh 0 .null .null (fun _ => none) (dw_xsf 0)) 0 0 := by
  rw [X_init]
  exact dw_Xin0' (fun h => X_init_42 1000 h 0 0)
theorem dw_Xin1 (n : Nat) : X_init_42 (n + 1) (dw_xh 0 .null .null (fun _ => none) (dw_xsf 0)) 0 0 = X_init_42 n (dw_xh 0 .null .null (fun _ => none) (dw_xsf 1) ++ dw_xs 0) 0 1 := rfl
theorem dw_Xin2 (n : Nat) : X_init_42 (n + 1) (dw_xh 0 .null .null (fun _ => none) (dw_xsf 1) ++ dw_xs 0) 0 1 = X_init_42 n (dw_xh 0 .null .null (fun _ => none) (dw_xsf 2) ++ dw_xs 0 ++ dw_xs 1) 0 2 := rfl
theorem dw_Xin3 (n : Nat) : X_init_42 (n + 1) (dw_xh 0 .null .null (fun _ => none) (dw_xsf 2) ++ dw_xs 0 ++ dw_xs 1) 0 2 = X_init_42 n (dw_xh 0 .null .null (fun _ => none) (dw_xsf 3) ++ dw_xs 0 ++ dw_xs 1 ++ dw_xs 2) 0 3 := rfl
theorem dw_Xin4 (n : Nat) : X_init_42 (n + 1) (dw_xh 0 .null .null (fun _ => none) (dw_xsf 3) ++ dw_xs 0 ++ dw_xs 1 ++ dw_xs 2) 0 3 = X_init_42 n (dw_xh 0 .null .null (fun _ => none) (dw_xsf 4) ++ dw_xs 0 ++ dw_xs 1 ++ dw_xs 2 ++ dw_xs 3) 0 4 := rfl
def dw_xq : pm_H := dw_xh 0 .null .null (fun _ => none) (dw_xsf 4) ++ dw_xs 0 ++ dw_xs 1 ++ dw_xs 2 ++ dw_xs 3
def dw_xlaw : pm_H := [.inr (2, [.int 0, .ref 16, .ref 17, .ref 18]), .inl (0, 1, .inl dw_law0a), .inl (0, 5, .inl dw_law0b), .inl (0, 1, .inl dw_law0c)]
def dw_xp (n0 n1 : Value) : pm_H := dw_xh 1 n0 n1 dw_tf0 (dw_xsf 4) ++ dw_xs 0 ++ dw_xs 1 ++ dw_xs 2 ++ dw_xs 3 ++ dw_xlaw
theorem dw_Xin5' (K : pm_H → Nat → Nat → Option (pm_H × Unit)) : (nmd (List.length dw_xq) fun b6q => nmd (dw_xq ++ [.inr (2, pm_new 2)]) fun h5q => bnd (op_nI h5q 1) fun h7q => nmd (List.length h5q) fun b8q => bnd (op_sI h7q b8q 0 2) fun h9q => bnd (op_nI h9q 5) fun h10q => nmd (List.length h9q) fun b11q => bnd (op_sI h10q b11q 0 1) fun h12q => bnd (op_sI h12q b11q 1 9) fun h13q => bnd (op_sI h13q b11q 2 10003) fun h14q => bnd (op_sI h14q b11q 3 10012) fun h15q => bnd (op_sI h15q b11q 4 10011) fun h16q => bnd (op_nI h16q 1) fun h17q => nmd (List.length h16q) fun b18q => bnd (op_sI h17q b18q 0 1) fun h19q => bn2 (W_init h19q b6q 0 (some b8q) (some b11q) (some b18q)) fun h20q _ => bnd (op_A h20q 0 5 0) fun x22q => bnd x22q fun u23q => bnd (op_sA h20q u23q 2 0 b6q) fun h24q => bnd (op_S h24q 0 5 1 (.int 1)) fun h25q => nmd (List.length h25q) fun b27q => nmd (h25q ++ [.inr (1, pm_new 1)]) fun h26q => K h26q b27q b6q) = K (dw_xp .null .null ++ [.inr (1, pm_new 1)]) 19 15 := rfl
def dw_XK (h26q : pm_H) (b27q b6q : Nat) : Option (pm_H × Unit) := bn2 (L_init h26q b27q (some b6q)) fun h28q _ => bnd (op_S h28q 0 5 3 (.ref b27q)) fun h30q => nmd (List.length h30q) fun b32q => nmd (h30q ++ [.inr (1, pm_new 1)]) fun h31q => bn2 (L_init h31q b32q (some b6q)) fun h33q _ => bnd (op_S h33q 0 5 4 (.ref b32q)) fun h35q => some (h35q, ())
theorem dw_Xin5 (n : Nat) : X_init_42 (n + 1) dw_xq 0 4 = dw_XK (dw_xp .null .null ++ [.inr (1, pm_new 1)]) 19 15 := by
  rw [X_init_42, show op_A dw_xq 0 5 6 = some (some 5) from rfl, bnd_s, bnd_s, show op_ln dw_xq 5 = some 4 from rfl, bnd_s, if_pos (by decide)]
  exact dw_Xin5' dw_XK
theorem dw_xsf4 : dw_xsf 4 = dw_sf := by
  funext i
  unfold dw_xsf dw_xsf dw_xsf dw_xsf dw_xsf dw_sf va_up
  by_cases c3 : i = 3
  · subst c3
    rfl
  by_cases c2 : i = 2
  · subst c2
    rfl
  by_cases c1 : i = 1
  · subst c1
    rfl
  by_cases c0 : i = 0
  · subst c0
    rfl
  rw [if_neg c3, if_neg c2, if_neg c1, if_neg c0, if_neg (by omega)]
def dw_k0 : Nat → Int32 := fun _ => 0
theorem dw_Xinit : X_init [.inr (5, pm_new 5)] 0 = some (dw_cl (dw_pre 1 .null dw_tf0 dw_ti0 dw_k0 dw_k0 dw_k0 dw_H0) (15, 0, 0, 0, 0, dw_s0', dw_k0) (15, 0, 0, 0, 0, dw_s0', dw_k0) [], ()) := by
  refine dw_Xin0.trans ((dw_Xin1 999).trans ((dw_Xin2 998).trans ((dw_Xin3 997).trans ((dw_Xin4 996).trans ((dw_Xin5 995).trans ?_)))))
  have l1 := dw_Lini (G := dw_xp .null .null) (b := 19) (l := 15) rfl
  have l2 := dw_Lini (G := dw_xp (.ref 19) .null ++ dw_bk 19 15 0 0 0 0 dw_s0' (fun _ => 0)) (b := 28) (l := 15) rfl
  have s1 : op_S (dw_xp .null .null ++ dw_bk 19 15 0 0 0 0 dw_s0' (fun _ => 0)) 0 5 3 (.ref 19) = some (dw_xp (.ref 19) .null ++ dw_bk 19 15 0 0 0 0 dw_s0' (fun _ => 0)) := rfl
  have s2 : op_S (dw_xp (.ref 19) .null ++ dw_bk 19 15 0 0 0 0 dw_s0' (fun _ => 0) ++ dw_bk 28 15 0 0 0 0 dw_s0' (fun _ => 0)) 0 5 4 (.ref 28) = some (dw_xp (.ref 19) (.ref 28) ++ dw_bk 19 15 0 0 0 0 dw_s0' (fun _ => 0) ++ dw_bk 28 15 0 0 0 0 dw_s0' (fun _ => 0)) := rfl
  rw [dw_XK, l1, bn2_s, s1, bnd_s, nmd_s, nmd_s, show (dw_xp (.ref 19) .null ++ dw_bk 19 15 0 0 0 0 dw_s0' (fun _ => 0)).length = 28 from rfl, l2, bn2_s, s2, bnd_s]
  have e : dw_xp (.ref 19) (.ref 28) = dw_pre 1 .null dw_tf0 dw_ti0 dw_k0 dw_k0 dw_k0 dw_H0 := by
    unfold dw_xp
    rw [dw_xsf4]
    rfl
  rw [e, dw_cl, List.append_assoc, List.append_nil]
  rfl
/-- the first state -/
def dw_st0 : dw_S := ((0, dw_s0', 0, 0, 0, 0), (1, fun _ => dw_wt0), (0, fun _ => 0), none, dw_H0)
theorem dw_CX0 : dw_CX .null dw_tf0 dw_ti0 dw_k0 15 [] dw_st0 := by
  refine ⟨fun t ht => ⟨15, ?_, Or.inl ⟨rfl, ?_, rfl⟩⟩, rfl, rfl, fun j hj => absurd hj (Nat.not_lt_zero j), rfl, by decide, by decide⟩
  · rw [show t = 0 by omega]
    rfl
  · rw [show t = 0 by omega]
    rfl
theorem dw_Ok0 : dw_Ok dw_st0 := by
  refine ⟨⟨by decide, fun d hd => ⟨⟨0, by decide, rfl⟩, ⟨1, by decide, by decide, rfl⟩, Or.inr rfl⟩, fun _ _ _ => rfl, by decide, ⟨0, by decide, rfl⟩, ⟨0, by decide, rfl⟩, by decide⟩, by decide, by decide, fun t ht p hp => ?_, by decide, fun k hk => absurd hk (Nat.not_lt_zero k), trivial, fun k hk => ⟨Or.inl rfl, 0, by decide, rfl⟩⟩
  show dw_ok (dw_row dw_wt0 p) 0 ∧ (dw_row dw_wt0 p).length ≤ 160
  rcases (by omega : p = 0 ∨ p = 1 ∨ p = 2) with rfl | rfl | rfl
  · exact ⟨by simp [dw_wt0, dw_row, dw_ok], by decide⟩
  · exact ⟨by simp [dw_wt0, dw_row, dw_ok], by decide⟩
  · exact ⟨by simp [dw_wt0, dw_row, dw_ok], by decide⟩
theorem dw_Cinit : dw_Cgo (X_init [.inr (5, pm_new 5)] 0) dw_st0 () := ⟨.null, dw_tf0, dw_ti0, dw_k0, dw_k0, dw_k0, dw_H0, 15, dw_k0, _, [], dw_Xinit, dw_HE_rfl _, dw_CX0⟩
