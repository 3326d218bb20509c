/-! THE REFERENCE: text(), all of it -/
section MT
variable {X0 : dw_X} {R G S N : Nat → Int32} {y : Int32} {tx : Nat} {tb : Nat → Nat} {tp : Nat}
/-- behind a text: what isn't touched -/
def dw_F8 (tx : Nat) (X0 X : dw_X) : Prop := (∀ k, k ≠ 9 → k ≠ 12 → k < 22 ∨ 30 < k ∨ k = 26 ∨ k = 27 → dw_gI X k = dw_gI X0 k) ∧ (∀ k, dw_gJ X k = dw_gJ X0 k) ∧ (∀ c i, c ≠ 16 → (c = 6 → i < 200 * tx) → (c = 7 → i < 4 * tx) → dw_gA X c i = dw_gA X0 c i) ∧ ∀ i, dw_gY X i = dw_gY X0 i
/-- a text's rows in the reference's arrays -/
def dw_M1 (X : dw_X) (r : Nat) (w : dw_W) : Prop := ∀ p, p < 3 → ∃ k, dw_gA X 7 (4 * r + p) = nI k ∧ dw_gA X 7 (4 * r + p + 1) = nI (k + (dw_row w p).length) ∧ k + (dw_row w p).length ≤ 160 ∧ dw_MC X (200 * r + k) (dw_row w p) ∧ dw_ok (dw_row w p) 0
theorem dw_M122b (htx : tx < 6) (h12 : dw_gI X0 12 = nI tx) {X : dw_X} {x : Nat} (f7 : dw_F7 tx X0 X) (h23 : dw_gI X 23 = nI x) : dw_Z (M_text_122 (dw_mk X R G S N y) 0 0) (fun z => ∃ X', z = some (dw_mk X' R G S N y, -100 - nI x) ∧ dw_F8 tx X0 X' ∧ dw_gI X' 9 = 0 ∧ dw_gI X' 12 = nI tx) := by
  have g12 : dw_gI X 12 = nI tx := (f7.1 12 (by decide)).trans h12
  have g7' := dw_F7_A (k := 4 * tx + 3) (v := dw_gI X 30) f7 (by omega)
  rw [M_text_122, dw_f11, bnd_s, dw_f12, bnd_s, dw_f30, bnd_s, bnd_s, g12, dw_4, show nI (4 * tx) + 3 = nI (4 * tx + 3) from nI_add _ 3, dw_w7 (show 4 * tx + 3 < 24 by omega), bnd_s, dw_t9, bnd_s, if_pos rfl, dw_f23, bnd_s]
  have e : dw_gI (dw_I (dw_A X 7 (4 * tx + 3) (dw_gI X 30)) 9 0) 23 = nI x := by
    rw [dw_IIn (by decide)]
    exact h23
  rw [e]
  exact ⟨_, rfl, ⟨fun k k1 k2 k3 => by rw [dw_IIn k1, g7'.1 k k3], g7'.2.1, g7'.2.2.1, g7'.2.2.2⟩, by rw [dw_II, if_pos rfl], by rw [dw_IIn (by decide)]; exact g12⟩
theorem dw_M122g (htx : tx < 6) (h12 : dw_gI X0 12 = nI tx) {X : dw_X} {c : List Nat} (f7 : dw_F7 tx X0 X) (h30 : dw_gI X 30 = nI c.length) (hcd : ∀ k, k < c.length → dw_gA X 6 (200 * tx + k) = nI (dw_cm (c.getD k 0))) : dw_Z (M_text_122 (dw_mk X R G S N y) 0 1) (fun z => ∃ X', z = some (dw_mk X' R G S N y, nI tx) ∧ dw_F8 tx X0 X' ∧ dw_gI X' 9 = 0 ∧ dw_gI X' 12 = nI (tx + 1) ∧ (∀ k, k < c.length → dw_gA X' 6 (200 * tx + k) = nI (dw_cm (c.getD k 0))) ∧ dw_gA X' 7 (4 * tx + 3) = nI c.length ∧ ∀ j, j ≠ 4 * tx + 3 → dw_gA X' 7 j = dw_gA X 7 j) := by
  have g12 : dw_gI X 12 = nI tx := (f7.1 12 (by decide)).trans h12
  have g7' := dw_F7_A (k := 4 * tx + 3) (v := nI c.length) f7 (by omega)
  have e12 : dw_gI (dw_I (dw_A X 7 (4 * tx + 3) (nI c.length)) 9 0) 12 = nI tx := by
    rw [dw_IIn (by decide)]
    exact g12
  rw [M_text_122, dw_f11, bnd_s, dw_f12, bnd_s, dw_f30, bnd_s, bnd_s, g12, h30, dw_4, show nI (4 * tx) + 3 = nI (4 * tx + 3) from nI_add _ 3, dw_w7 (show 4 * tx + 3 < 24 by omega), bnd_s, dw_t9, bnd_s, if_neg (by decide), dw_f12, bnd_s, e12, nI_1, dw_t12, bnd_s, dw_f12, bnd_s, dw_II, if_pos rfl, dw_m1]
  refine ⟨_, rfl, ⟨fun k k1 k2 k3 => by rw [dw_IIn k2, dw_IIn k1, g7'.1 k k3], g7'.2.1, g7'.2.2.1, g7'.2.2.2⟩, by rw [dw_IIn (by decide), dw_II, if_pos rfl], by rw [dw_II, if_pos rfl], fun k hk => ?_, ?_, fun j hj => ?_⟩
  · show dw_gA (dw_A X 7 (4 * tx + 3) (nI c.length)) 6 _ = _
    rw [dw_AAn (by decide), hcd k hk]
  · show dw_gA (dw_A X 7 (4 * tx + 3) (nI c.length)) 7 _ = _
    rw [dw_AA, if_pos ⟨rfl, rfl⟩]
  · show dw_gA (dw_A X 7 (4 * tx + 3) (nI c.length)) 7 _ = _
    rw [dw_AA, if_neg (fun q => hj q.2)]
theorem dw_MC_of {X : dw_X} : ∀ (l : List Nat) (a : Nat), (∀ k, k < l.length → dw_gA X 6 (a + k) = nI (dw_cm (l.getD k 0))) → dw_MC X a l
  | [], _, _ => trivial
  | t :: l, a, h => ⟨h 0 (Nat.succ_pos _), dw_MC_of l (a + 1) (fun k hk => by
    have h2 := h (k + 1) (Nat.succ_lt_succ hk)
    rw [show a + 1 + k = a + (k + 1) by omega]
    exact h2)⟩
theorem dw_gdl {a b : List Nat} {k : Nat} (h : k < a.length) : (a ++ b).getD k 0 = a.getD k 0 := by
  rw [List.getD_eq_getElem?_getD, List.getD_eq_getElem?_getD, List.getElem?_append_left h]
theorem dw_gdr {a b : List Nat} {k : Nat} : (a ++ b).getD (a.length + k) 0 = b.getD k 0 := by
  rw [List.getD_eq_getElem?_getD, List.getD_eq_getElem?_getD, List.getElem?_append_right (Nat.le_add_right _ _), Nat.add_sub_cancel_left]
theorem dw_rw_ok {d : List Nat} (h : dw_rw 31 d) : dw_ok d 0 := by
  have h2 := h 0 [] (by decide) (by
    show (0 + 1 = 1)
    rfl)
  rwa [List.append_nil] at h2
/-- what the pure parser comes to -/
def dw_PP3 (tb : Nat → Nat) (tp : Nat) (d1 d2 d3 : List Nat) (i3 : Nat) : Prop := (dw_pq1 tb tp).2.2.2.2 = d1 ∧ (dw_pq2 tb tp).2.2.2.2 = d1 ++ d2 ∧ dw_pq3 tb tp = dw_LQ tb tp i3 (d1 ++ d2 ++ d3)
theorem dw_plaw_PP {d1 d2 d3 : List Nat} {i3 : Nat} (h : dw_PP3 tb tp d1 d2 d3 i3) : dw_plaw tb tp = (d1, d2, d3) := by
  obtain ⟨h1, h2, h3⟩ := h
  have h3' : (dw_pq3 tb tp).2.2.2.2 = d1 ++ d2 ++ d3 := by
    rw [h3]
    rfl
  rw [dw_plaw_eq, h1, h2, h3', List.append_assoc, List.take_left', List.drop_left', List.length_append, show d1.length + d2.length - d1.length = d2.length by omega, List.take_left', ← List.append_assoc, List.length_append, List.drop_left' (by rw [List.length_append]), List.length_append, show d1.length + d2.length + d3.length - (d1.length + d2.length) = d3.length by omega, List.take_length]
  · rfl
  · rfl
  · rfl
theorem dw_pflt_PP {d1 d2 d3 : List Nat} {i3 : Nat} (h : dw_PP3 tb tp d1 d2 d3 i3) : dw_pflt tb tp = if dw_tk tb tp i3 = 10021 then none else some (dw_pl1 tb tp i3) := by
  obtain ⟨h1, h2, h3⟩ := h
  rw [dw_pflt, h3]
  rfl
theorem dw_pflt_dd {x : Nat} (h : dw_dd x (dw_pq3 tb tp)) : dw_pflt tb tp = some x := by
  obtain ⟨h1, h2, h3⟩ := h
  rw [dw_pflt, h2, if_neg (by decide), h1]
/-- the parser and the reference: a fault here, a fault there -/
theorem dw_MT0 (htp : tp ≤ 160) (hb : ∀ j, j < tp → tb j < 256) (htx : tx < 6) (h12 : dw_gI X0 12 = nI tx) (hT : dw_TA X0 tb tp) {X : dw_X} (hX : dw_TS tx X0 X 0 []) : dw_Z (M_text_26 1000 (dw_mk X R G S N y) 0 1 0) (fun z => (∃ x X', dw_pflt tb tp = some x ∧ z = some (dw_mk X' R G S N y, -100 - nI x) ∧ dw_F8 tx X0 X' ∧ dw_gI X' 9 = 0 ∧ dw_gI X' 12 = nI tx) ∨ (∃ d1 d2 d3 i3 X', dw_PP3 tb tp d1 d2 d3 i3 ∧ dw_pflt tb tp = none ∧ dw_rw 31 d1 ∧ dw_rw 31 d2 ∧ dw_rw 31 d3 ∧ (d1 ++ d2 ++ d3).length ≤ 160 ∧ z = some (dw_mk X' R G S N y, nI tx) ∧ dw_F8 tx X0 X' ∧ dw_gI X' 9 = 0 ∧ dw_gI X' 12 = nI (tx + 1) ∧ dw_M1 X' tx (d1, d2, d3))) := by
  have bad : ∀ (n p x : Nat) (X' : dw_X), p < 4 → dw_F7 tx X0 X' → dw_gI X' 23 = nI x → dw_Z (M_text_26 (n + 1) (dw_mk X' R G S N y) 0 0 (nI p)) (fun z => ∃ X', z = some (dw_mk X' R G S N y, -100 - nI x) ∧ dw_F8 tx X0 X' ∧ dw_gI X' 9 = 0 ∧ dw_gI X' 12 = nI tx) := by
    intro n p x X' hp f7 h23
    have e : M_text_26 (n + 1) (dw_mk X' R G S N y) 0 0 (nI p) = M_text_122 (dw_mk X' R G S N y) 0 0 := by
      rw [M_text_26]
      by_cases c3 : (3 : Int32) ≤ nI p
      · rw [if_pos c3, M_text_101, if_pos rfl]
      · rw [if_neg c3, if_pos rfl, M_text_101, if_pos rfl]
    rw [e]
    exact dw_M122b htx h12 f7 h23
  have q0 : dw_pq0 tb tp = dw_LQ tb tp 0 [] := rfl
  have e1 : dw_pq1 tb tp = dw_ppart tb tp 10015 (dw_pq0 tb tp) := by rw [dw_pq1]
  have e2 : dw_pq2 tb tp = dw_ppart tb tp 10016 (dw_pq1 tb tp) := by rw [dw_pq2]
  have e3 : dw_pq3 tb tp = dw_ppart tb tp 10017 (dw_pq2 tb tp) := by rw [dw_pq3]
  have pf0 : ∀ x, dw_dd x (dw_pq3 tb tp) → dw_pflt tb tp = some x := fun x h => dw_pflt_dd h
  have pfP : ∀ d1 d2 d3 i3, dw_PP3 tb tp d1 d2 d3 i3 → dw_pflt tb tp = if dw_tk tb tp i3 = 10021 then none else some (dw_pl1 tb tp i3) := fun d1 d2 d3 i3 h => dw_pflt_PP h
  unfold dw_PP3 at pfP ⊢
  generalize dw_pflt tb tp = fl at *
  generalize dw_pq3 tb tp = q3 at *
  generalize dw_pq2 tb tp = q2 at *
  generalize dw_pq1 tb tp = q1 at *
  rw [q0] at e1
  rcases dw_Mpart (R := R) (G := G) (S := S) (N := N) (y := y) (n := 999) htp hb htx h12 hT hX (Nat.zero_le _) (Nat.zero_le _) (p := 0) (by decide) with ⟨x, X1, a1, a2, a3, a4⟩ | ⟨i1, d1, X1, a1, a2, a3, a4, a5, a6, a7, a8⟩
  · have a2' : M_text_26 1000 (dw_mk X R G S N y) 0 1 0 = _ := a2
    rw [a2']
    have d1 : dw_dd x q1 := by
      rw [e1]
      exact a1
    have d2 : dw_dd x q2 := by
      rw [e2]
      exact dw_dd_PU (dw_PU_part (by decide)) d1
    have d3 : dw_dd x q3 := by
      rw [e3]
      exact dw_dd_PU (dw_PU_part (by decide)) d2
    obtain ⟨X2, u1, u2⟩ := bad 998 1 x X1 (by decide) a3 a4
    exact Or.inl ⟨x, X2, pf0 x d3, u1, u2⟩
  have a5' : M_text_26 1000 (dw_mk X R G S N y) 0 1 0 = _ := a5
  rw [a5']
  have q1e : q1 = dw_LQ tb tp i1 ([] ++ d1) := by
    rw [e1]
    exact a1
  rw [List.nil_append] at a3 a6 q1e
  subst q1e
  rcases dw_Mpart (R := R) (G := G) (S := S) (N := N) (y := y) (n := 998) htp hb htx h12 hT a6 a2 a3 (p := 1) (by decide) with ⟨x, X2, b1, b2, b3, b4⟩ | ⟨i2, d2, X2, b1, b2, b3, b4, b5, b6, b7, b8⟩
  · rw [b2]
    have d2 : dw_dd x q2 := by
      rw [e2]
      exact b1
    have d3 : dw_dd x q3 := by
      rw [e3]
      exact dw_dd_PU (dw_PU_part (by decide)) d2
    obtain ⟨X3, u1, u2⟩ := bad 997 2 x X2 (by decide) b3 b4
    exact Or.inl ⟨x, X3, pf0 x d3, u1, u2⟩
  rw [b5]
  have q2e : q2 = dw_LQ tb tp i2 (d1 ++ d2) := by
    rw [e2]
    exact b1
  subst q2e
  rcases dw_Mpart (R := R) (G := G) (S := S) (N := N) (y := y) (n := 997) htp hb htx h12 hT b6 b2 b3 (p := 2) (by decide) with ⟨x, X3, c1, c2, c3, c4⟩ | ⟨i3, d3, X3, c1, c2, c3, c4, c5, c6, c7, c8⟩
  · rw [c2]
    have d3 : dw_dd x q3 := by
      rw [e3]
      exact c1
    obtain ⟨X4, u1, u2⟩ := bad 996 3 x X3 (by decide) c3 c4
    exact Or.inl ⟨x, X4, pf0 x d3, u1, u2⟩
  rw [c5]
  have q3e : q3 = dw_LQ tb tp i3 (d1 ++ d2 ++ d3) := by
    rw [e3]
    exact c1
  subst q3e
  have hfl := pfP d1 d2 d3 i3 ⟨rfl, rfl, rfl⟩
  obtain ⟨X4, n1, n2, n3, n4, n5, n6⟩ := dw_Mnext (R := R) (G := G) (S := S) (N := N) (y := y) htp hb (dw_TA_F7 hT c6.1) c2 c6.2.1
  have x4 := dw_lx4 hb c2
  have e101 : M_text_26 997 (dw_mk X3 R G S N y) 0 1 (nI (2 + 1)) = M_text_101 (dw_mk X3 R G S N y) 0 1 := by
    rw [M_text_26, if_pos (by decide)]
  rw [e101, M_text_101, if_neg (by decide), dw_is, grd_t, n1, bn2_s, dw_f24, bnd_s, n4]
  by_cases ce : dw_tk tb tp i3 = 10021
  · rw [if_pos (show dw_tc (dw_tk tb tp i3) = 0 by rw [ce]; rfl), M_text_121]
    have hl : (d1 ++ d2 ++ d3).length ≤ 160 := by omega
    obtain ⟨X5, u1, u2, u3, u4, u5, u6, u7⟩ := dw_M122g (R := R) (G := G) (S := S) (N := N) (y := y) htx h12 (dw_F7_Kx c6.1 n2) ((n2.2 30 (by decide)).trans c6.2.2.1) (fun k hk => (dw_Kx_A n2 6 _).trans (c6.2.2.2 k hk))
    rw [if_pos ce] at hfl
    have l12 : (d1 ++ d2).length = d1.length + d2.length := List.length_append
    have l123 : (d1 ++ d2 ++ d3).length = d1.length + d2.length + d3.length := by rw [List.length_append, l12]
    have s0 : dw_gA X5 7 (4 * tx + 0) = nI 0 := by
      rw [u7 _ (by omega), dw_Kx_A n2, c8 _ (by omega), b8 _ (by omega), a7]
      rfl
    have s1 : dw_gA X5 7 (4 * tx + 1) = nI d1.length := by rw [u7 _ (by omega), dw_Kx_A n2, c8 _ (by omega), b7]
    have s2 : dw_gA X5 7 (4 * tx + 2) = nI (d1.length + d2.length) := by rw [u7 _ (by omega), dw_Kx_A n2, c7, l12]
    have s3 : dw_gA X5 7 (4 * tx + 3) = nI (d1.length + d2.length + d3.length) := by rw [u6, l123]
    refine Or.inr ⟨d1, d2, d3, i3, X5, ⟨rfl, rfl, rfl⟩, hfl, a4, b4, c4, hl, u1, u2, u3, u4, fun p hp => ?_⟩
    rcases (by omega : p = 0 ∨ p = 1 ∨ p = 2) with rfl | rfl | rfl
    · refine ⟨0, s0, ?_, ?_, dw_MC_of d1 _ (fun k hk => ?_), dw_rw_ok a4⟩
      · show _ = nI (0 + d1.length)
        rw [Nat.zero_add]
        exact s1
      · show 0 + d1.length ≤ 160
        omega
      · rw [Nat.add_zero, u5 k (by omega), List.append_assoc, dw_gdl hk]
    · refine ⟨d1.length, s1, s2, ?_, dw_MC_of d2 _ (fun k hk => ?_), dw_rw_ok b4⟩
      · show d1.length + d2.length ≤ 160
        omega
      · rw [Nat.add_assoc, u5 _ (by omega), List.append_assoc, dw_gdr, dw_gdl hk]
    · refine ⟨d1.length + d2.length, s2, s3, ?_, dw_MC_of d3 _ (fun k hk => ?_), dw_rw_ok c4⟩
      · show d1.length + d2.length + d3.length ≤ 160
        omega
      · rw [Nat.add_assoc, u5 _ (by omega), ← l12, dw_gdr]
  · rw [if_neg (show ¬ dw_tc (dw_tk tb tp i3) = 0 from fun q => by rcases dw_tc_inv x4 q with ⟨e, f⟩ | ⟨e, f⟩ | ⟨e, f⟩ | ⟨e, f⟩ | ⟨e, f⟩ | ⟨e, f⟩ | ⟨e, f⟩ | ⟨e, f⟩ | ⟨e, f⟩ | ⟨e, f⟩ | ⟨e, f⟩ | ⟨e, f⟩ | ⟨e, f⟩ | ⟨e, f⟩ | ⟨e, f⟩ | ⟨e, f⟩ <;> first | exact absurd e (by decide) | omega), M_text_121]
    rw [if_neg ce] at hfl
    obtain ⟨X5, u1, u2⟩ := dw_M122b (R := R) (G := G) (S := S) (N := N) (y := y) htx h12 (dw_F7_Kx c6.1 n2) n3
    exact Or.inl ⟨_, X5, hfl, u1, u2⟩
end MT
