/-! THE REFERENCE: signs held, codes put -/
def dw_hm (s : Nat) : Nat := if s = 10018 then 0 else dw_cm s
def dw_V (s : Nat) : Prop := (10006 ≤ s ∧ s ≤ 10014) ∨ s = 10018
def dw_hld (X : dw_X) : List Nat → Prop
  | [] => True
  | s :: H => dw_gA X 16 H.length = nI (dw_hm s) ∧ dw_V s ∧ dw_hld X H
/-- while an E is read: what isn't touched -/
def dw_Fr (tx : Nat) (X0 X : dw_X) : Prop := (∀ k, k < 22 ∨ 30 < k ∨ k = 26 ∨ k = 27 → dw_gI X k = dw_gI X0 k) ∧ (∀ k, dw_gJ X k = dw_gJ X0 k) ∧ (∀ c i, c ≠ 16 → (c = 6 → i < 200 * tx) → dw_gA X c i = dw_gA X0 c i) ∧ ∀ i, dw_gY X i = dw_gY X0 i
def dw_PS (tx : Nat) (X0 X : dw_X) (o : Nat) (H c : List Nat) : Prop := dw_Fr tx X0 X ∧ dw_gI X 28 = nI H.length ∧ dw_gI X 29 = nI o ∧ dw_gI X 30 = nI c.length ∧ dw_hld X H ∧ ∀ k, k < c.length → dw_gA X 6 (200 * tx + k) = nI (dw_cm (c.getD k 0))
def dw_K (X X' : dw_X) : Prop := ∀ k, 22 ≤ k → k ≤ 25 → dw_gI X' k = dw_gI X k
theorem dw_K_tr {X X' X'' : dw_X} (h : dw_K X X') (g : dw_K X' X'') : dw_K X X'' := fun k h1 h2 => (g k h1 h2).trans (h k h1 h2)
theorem dw_hld_eq {X X' : dw_X} (e : ∀ i, dw_gA X' 16 i = dw_gA X 16 i) : ∀ {H : List Nat}, dw_hld X H → dw_hld X' H
  | [], _ => trivial
  | _ :: _, h => ⟨(e _).trans h.1, h.2.1, dw_hld_eq e h.2.2⟩
theorem dw_hld_I {X : dw_X} {k : Nat} {v : Int32} {H : List Nat} (h : dw_hld X H) : dw_hld (dw_I X k v) H := dw_hld_eq (X := X) (X' := dw_I X k v) (fun _ => rfl) h
theorem dw_hld_up {X : dw_X} {k : Nat} {v : Int32} : ∀ {H : List Nat}, H.length ≤ k → dw_hld X H → dw_hld (dw_A X 16 k v) H
  | [], _, _ => trivial
  | s :: H, hk, h => by
    have hk2 : H.length + 1 ≤ k := hk
    refine ⟨?_, h.2.1, dw_hld_up (by omega) h.2.2⟩
    rw [dw_AA, if_neg (fun q => by
      have := q.2
      omega)]
    exact h.1
theorem dw_Fr_I {tx : Nat} {X0 X : dw_X} {k : Nat} {v : Int32} (hk : 22 ≤ k ∧ k ≤ 25 ∨ 28 ≤ k ∧ k ≤ 30) (h : dw_Fr tx X0 X) : dw_Fr tx X0 (dw_I X k v) := ⟨fun j hj => by rw [dw_IIn (by omega), h.1 j hj], h.2.1, h.2.2.1, h.2.2.2⟩
theorem dw_Fr_A {tx : Nat} {X0 X : dw_X} {a k : Nat} {v : Int32} (hk : a = 16 ∨ a = 6 ∧ 200 * tx ≤ k) (h : dw_Fr tx X0 X) : dw_Fr tx X0 (dw_A X a k v) := ⟨h.1, h.2.1, fun c i h1 h2 => by
  rw [dw_AA, if_neg (fun q => by
    rcases hk with e | e
    · exact h1 (q.1.trans e)
    · have := h2 (q.1.trans e.1)
      have := q.2
      omega), h.2.2.1 c i h1 h2], h.2.2.2⟩
/-- an end with nothing to tell, with a picture -/
def dw_Pu (o : Option (pm_H × Unit)) (R G S N : Nat → Int32) (y : Int32) (P : dw_X → Prop) : Prop := ∃ X', o = some (dw_mk X' R G S N y, ()) ∧ P X'
section MH
variable {X0 : dw_X} {R G S N : Nat → Int32} {y : Int32} {tx : Nat}
theorem dw_rkr (s : Nat) (h : dw_V s) : dw_rk s ≤ 7 ∧ (dw_rk s = 0 ↔ s = 10018) := by
  unfold dw_V at h
  rcases (by omega : s = 10006 ∨ s = 10007 ∨ s = 10008 ∨ s = 10009 ∨ s = 10010 ∨ s = 10011 ∨ s = 10012 ∨ s = 10013 ∨ s = 10014 ∨ s = 10018) with rfl | rfl | rfl | rfl | rfl | rfl | rfl | rfl | rfl | rfl <;> decide
theorem dw_Mrank (h : pm_H) {s : Nat} (hs : dw_V s) : M_rank h (nI (dw_hm s)) = some (h, nI (dw_rk s)) := by
  unfold dw_V at hs
  rcases (by omega : s = 10006 ∨ s = 10007 ∨ s = 10008 ∨ s = 10009 ∨ s = 10010 ∨ s = 10011 ∨ s = 10012 ∨ s = 10013 ∨ s = 10014 ∨ s = 10018) with rfl | rfl | rfl | rfl | rfl | rfl | rfl | rfl | rfl | rfl <;> rfl
theorem dw_hm13 {s : Nat} (hs : dw_V s) : (nI (dw_hm s) = 13 ↔ s = 10013) ∧ (nI (dw_hm s) = 19 ↔ s = 10014) := by
  unfold dw_V at hs
  rcases (by omega : s = 10006 ∨ s = 10007 ∨ s = 10008 ∨ s = 10009 ∨ s = 10010 ∨ s = 10011 ∨ s = 10012 ∨ s = 10013 ∨ s = 10014 ∨ s = 10018) with rfl | rfl | rfl | rfl | rfl | rfl | rfl | rfl | rfl | rfl <;> decide
theorem dw_Mputs {X : dw_X} {o : Nat} {H c : List Nat} (htx : tx < 6) (h12 : dw_gI X0 12 = nI tx) (h : dw_PS tx X0 X o H c) (hl : c.length < 200) (t : Nat) : dw_Pu (M_puts (dw_mk X R G S N y) 0 (nI (dw_cm t))) R G S N y (fun X' => dw_PS tx X0 X' o H (c ++ [t]) ∧ dw_K X X') := by
  obtain ⟨h1, h2, h3, h4, h5, h6⟩ := h
  have e12 : dw_gI X 12 = nI tx := (h1.1 12 (by decide)).trans h12
  rw [M_puts]
  repeat (first | with_reducible rw [bnd_s] | with_reducible rw [nmd_s] | with_reducible rw [bn2_s] | with_reducible rw [grd_t] | ((conv => arg 1; arg 1; simp (disch := omega) only [dw_is, dw_f0, dw_t0, dw_f9, dw_t9, dw_f12, dw_t12, dw_f13, dw_t13, dw_f14, dw_t14, dw_f22, dw_t22, dw_f23, dw_t23, dw_f24, dw_t24, dw_f25, dw_t25, dw_f28, dw_t28, dw_f29, dw_t29, dw_f30, dw_t30, dw_f35, dw_t35, dw_f7, dw_t7, dw_f5, dw_t5, dw_f6, dw_t6, dw_f1, dw_f2, dw_f3, dw_f4, dw_f8, dw_f10, dw_f11, dw_f15, dw_f16, dw_f17, dw_f18, dw_f19, dw_f20, dw_f21, dw_f26, dw_f27, dw_f31, dw_f32, dw_f33, dw_f34, dw_a1, dw_w1, dw_a2, dw_w2, dw_a3, dw_w3, dw_a4, dw_w4, dw_a5, dw_w5, dw_a6, dw_w6, dw_a7, dw_w7, dw_a8, dw_w8, dw_a9_0, dw_s9_0, dw_a9_1, dw_s9_1, dw_a10, dw_w10, dw_a10_0, dw_w10_0, dw_a10_1, dw_w10_1, dw_a10_2, dw_w10_2, dw_a11, dw_w11, dw_a12, dw_w12, dw_a13, dw_w13, dw_a14, dw_w14, dw_a15, dw_w15, dw_a16, dw_w16, dw_a17, dw_w17, dw_a17_0, dw_w17_0, dw_a18, dw_w18, dw_a18_0, dw_w18_0, dw_a18_1, dw_w18_1, dw_a18_2, dw_w18_2, dw_a18_3, dw_w18_3, dw_a18_4, dw_w18_4, dw_a18_5, dw_w18_5, dw_a19, dw_w19, dw_a19_24, dw_w19_24, dw_a20, dw_w20, e12, h4, dw_200, nI_add]); first | with_reducible rw [bnd_s] | with_reducible rw [bn2_s] | with_reducible rw [grd_t]))
  have h30 : dw_gI (dw_A X 6 (200 * tx + c.length) (nI (dw_cm t))) 30 = nI c.length := h4
  repeat (first | with_reducible rw [bnd_s] | with_reducible rw [nmd_s] | with_reducible rw [bn2_s] | with_reducible rw [grd_t] | ((conv => arg 1; arg 1; simp (disch := omega) only [dw_is, dw_f0, dw_t0, dw_f9, dw_t9, dw_f12, dw_t12, dw_f13, dw_t13, dw_f14, dw_t14, dw_f22, dw_t22, dw_f23, dw_t23, dw_f24, dw_t24, dw_f25, dw_t25, dw_f28, dw_t28, dw_f29, dw_t29, dw_f30, dw_t30, dw_f35, dw_t35, dw_f7, dw_t7, dw_f5, dw_t5, dw_f6, dw_t6, dw_f1, dw_f2, dw_f3, dw_f4, dw_f8, dw_f10, dw_f11, dw_f15, dw_f16, dw_f17, dw_f18, dw_f19, dw_f20, dw_f21, dw_f26, dw_f27, dw_f31, dw_f32, dw_f33, dw_f34, dw_a1, dw_w1, dw_a2, dw_w2, dw_a3, dw_w3, dw_a4, dw_w4, dw_a5, dw_w5, dw_a6, dw_w6, dw_a7, dw_w7, dw_a8, dw_w8, dw_a9_0, dw_s9_0, dw_a9_1, dw_s9_1, dw_a10, dw_w10, dw_a10_0, dw_w10_0, dw_a10_1, dw_w10_1, dw_a10_2, dw_w10_2, dw_a11, dw_w11, dw_a12, dw_w12, dw_a13, dw_w13, dw_a14, dw_w14, dw_a15, dw_w15, dw_a16, dw_w16, dw_a17, dw_w17, dw_a17_0, dw_w17_0, dw_a18, dw_w18, dw_a18_0, dw_w18_0, dw_a18_1, dw_w18_1, dw_a18_2, dw_w18_2, dw_a18_3, dw_w18_3, dw_a18_4, dw_w18_4, dw_a18_5, dw_w18_5, dw_a19, dw_w19, dw_a19_24, dw_w19_24, dw_a20, dw_w20, h30, nI_1]); first | with_reducible rw [bnd_s] | with_reducible rw [bn2_s] | with_reducible rw [grd_t]))
  refine ⟨_, rfl, ⟨dw_Fr_I (k := 30) (by decide) (dw_Fr_A (a := 6) (k := 200 * tx + c.length) (Or.inr ⟨rfl, by omega⟩) h1), ?_, ?_, ?_, ?_, ?_⟩, fun k k1 k2 => dw_IIn (k := 30) (by omega)⟩
  · rw [dw_IIn (by decide)]
    exact h2
  · rw [dw_IIn (by decide)]
    exact h3
  · rw [dw_II, if_pos rfl, List.length_append, h30, nI_1]
    rfl
  · refine dw_hld_eq (fun i => ?_) h5
    show dw_gA (dw_A X 6 (200 * tx + c.length) (nI (dw_cm t))) 16 i = _
    rw [dw_AAn (by decide)]
  · intro k hk
    rw [List.length_append] at hk
    have hk' : k < c.length + 1 := hk
    show dw_gA (dw_A X 6 (200 * tx + c.length) (nI (dw_cm t))) 6 (200 * tx + k) = _
    rw [dw_AA, List.getD_eq_getElem?_getD]
    by_cases e : k = c.length
    · rw [if_pos ⟨rfl, by rw [e]⟩, List.getElem?_append_right (by omega), e, Nat.sub_self]
      rfl
    · rw [if_neg (fun q => e (by have := q.2; omega)), List.getElem?_append_left (by omega), h6 k (by omega), List.getD_eq_getElem?_getD]
theorem dw_Munw {r : Nat} (hr : 1 ≤ r ∧ r ≤ 7) (htx : tx < 6) (h12 : dw_gI X0 12 = nI tx) (f : Nat) : ∀ (H c : List Nat) (X : dw_X) (b : Nat), dw_PS tx X0 X (dw_opn H + b) H c → b ≤ 100 → H.length + c.length < 200 → dw_Pu (M_unwinds_0 (f + H.length + 1) (dw_mk X R G S N y) 0 (nI r)) R G S N y (fun X' => dw_PS tx X0 X' (dw_opn (dw_unw r H c).1 + b) (dw_unw r H c).1 (dw_unw r H c).2 ∧ dw_K X X')
  | [], c, X, b, h, hb, hl => by
    have h28 : dw_gI X 28 = nI 0 := h.2.1
    rw [M_unwinds_0]
    repeat (first | with_reducible rw [bnd_s] | with_reducible rw [nmd_s] | with_reducible rw [bn2_s] | with_reducible rw [grd_t] | ((conv => arg 1; arg 1; simp (disch := omega) only [dw_is, dw_f0, dw_t0, dw_f9, dw_t9, dw_f12, dw_t12, dw_f13, dw_t13, dw_f14, dw_t14, dw_f22, dw_t22, dw_f23, dw_t23, dw_f24, dw_t24, dw_f25, dw_t25, dw_f28, dw_t28, dw_f29, dw_t29, dw_f30, dw_t30, dw_f35, dw_t35, dw_f7, dw_t7, dw_f5, dw_t5, dw_f6, dw_t6, dw_f1, dw_f2, dw_f3, dw_f4, dw_f8, dw_f10, dw_f11, dw_f15, dw_f16, dw_f17, dw_f18, dw_f19, dw_f20, dw_f21, dw_f26, dw_f27, dw_f31, dw_f32, dw_f33, dw_f34, dw_a1, dw_w1, dw_a2, dw_w2, dw_a3, dw_w3, dw_a4, dw_w4, dw_a5, dw_w5, dw_a6, dw_w6, dw_a7, dw_w7, dw_a8, dw_w8, dw_a9_0, dw_s9_0, dw_a9_1, dw_s9_1, dw_a10, dw_w10, dw_a10_0, dw_w10_0, dw_a10_1, dw_w10_1, dw_a10_2, dw_w10_2, dw_a11, dw_w11, dw_a12, dw_w12, dw_a13, dw_w13, dw_a14, dw_w14, dw_a15, dw_w15, dw_a16, dw_w16, dw_a17, dw_w17, dw_a17_0, dw_w17_0, dw_a18, dw_w18, dw_a18_0, dw_w18_0, dw_a18_1, dw_w18_1, dw_a18_2, dw_w18_2, dw_a18_3, dw_w18_3, dw_a18_4, dw_w18_4, dw_a18_5, dw_w18_5, dw_a19, dw_w19, dw_a19_24, dw_w19_24, dw_a20, dw_w20, h28]); first | with_reducible rw [bnd_s] | with_reducible rw [bn2_s] | with_reducible rw [grd_t]))
    rw [if_pos (by decide)]
    exact ⟨X, rfl, h, fun _ _ _ => rfl⟩
  | s :: H, c, X, b, h, hb, hl => by
    have hl2 : H.length + 1 + c.length < 200 := hl
    obtain ⟨h1, h2, h3, h4, h5, h6⟩ := id h
    have h28 : dw_gI X 28 = nI (H.length + 1) := h2
    obtain ⟨g1, g2, g3⟩ := h5
    obtain ⟨k1, k2⟩ := dw_rkr s g2
    obtain ⟨m1, m2⟩ := dw_hm13 g2
    rw [show f + (s :: H).length + 1 = f + H.length + 1 + 1 from rfl, M_unwinds_0]
    repeat (first | with_reducible rw [bnd_s] | with_reducible rw [nmd_s] | with_reducible rw [bn2_s] | with_reducible rw [grd_t] | ((conv => arg 1; arg 1; simp (disch := omega) only [dw_is, dw_f0, dw_t0, dw_f9, dw_t9, dw_f12, dw_t12, dw_f13, dw_t13, dw_f14, dw_t14, dw_f22, dw_t22, dw_f23, dw_t23, dw_f24, dw_t24, dw_f25, dw_t25, dw_f28, dw_t28, dw_f29, dw_t29, dw_f30, dw_t30, dw_f35, dw_t35, dw_f7, dw_t7, dw_f5, dw_t5, dw_f6, dw_t6, dw_f1, dw_f2, dw_f3, dw_f4, dw_f8, dw_f10, dw_f11, dw_f15, dw_f16, dw_f17, dw_f18, dw_f19, dw_f20, dw_f21, dw_f26, dw_f27, dw_f31, dw_f32, dw_f33, dw_f34, dw_a1, dw_w1, dw_a2, dw_w2, dw_a3, dw_w3, dw_a4, dw_w4, dw_a5, dw_w5, dw_a6, dw_w6, dw_a7, dw_w7, dw_a8, dw_w8, dw_a9_0, dw_s9_0, dw_a9_1, dw_s9_1, dw_a10, dw_w10, dw_a10_0, dw_w10_0, dw_a10_1, dw_w10_1, dw_a10_2, dw_w10_2, dw_a11, dw_w11, dw_a12, dw_w12, dw_a13, dw_w13, dw_a14, dw_w14, dw_a15, dw_w15, dw_a16, dw_w16, dw_a17, dw_w17, dw_a17_0, dw_w17_0, dw_a18, dw_w18, dw_a18_0, dw_w18_0, dw_a18_1, dw_w18_1, dw_a18_2, dw_w18_2, dw_a18_3, dw_w18_3, dw_a18_4, dw_w18_4, dw_a18_5, dw_w18_5, dw_a19, dw_w19, dw_a19_24, dw_w19_24, dw_a20, dw_w20, h28]); first | with_reducible rw [bnd_s] | with_reducible rw [bn2_s] | with_reducible rw [grd_t]))
    rw [if_neg (show ¬ nI (H.length + 1) ≤ 0 from nI_ge (a := 0) (by omega) (by omega))]
    repeat (first | with_reducible rw [bnd_s] | with_reducible rw [nmd_s] | with_reducible rw [bn2_s] | with_reducible rw [grd_t] | ((conv => arg 1; arg 1; simp (disch := omega) only [dw_is, dw_f0, dw_t0, dw_f9, dw_t9, dw_f12, dw_t12, dw_f13, dw_t13, dw_f14, dw_t14, dw_f22, dw_t22, dw_f23, dw_t23, dw_f24, dw_t24, dw_f25, dw_t25, dw_f28, dw_t28, dw_f29, dw_t29, dw_f30, dw_t30, dw_f35, dw_t35, dw_f7, dw_t7, dw_f5, dw_t5, dw_f6, dw_t6, dw_f1, dw_f2, dw_f3, dw_f4, dw_f8, dw_f10, dw_f11, dw_f15, dw_f16, dw_f17, dw_f18, dw_f19, dw_f20, dw_f21, dw_f26, dw_f27, dw_f31, dw_f32, dw_f33, dw_f34, dw_a1, dw_w1, dw_a2, dw_w2, dw_a3, dw_w3, dw_a4, dw_w4, dw_a5, dw_w5, dw_a6, dw_w6, dw_a7, dw_w7, dw_a8, dw_w8, dw_a9_0, dw_s9_0, dw_a9_1, dw_s9_1, dw_a10, dw_w10, dw_a10_0, dw_w10_0, dw_a10_1, dw_w10_1, dw_a10_2, dw_w10_2, dw_a11, dw_w11, dw_a12, dw_w12, dw_a13, dw_w13, dw_a14, dw_w14, dw_a15, dw_w15, dw_a16, dw_w16, dw_a17, dw_w17, dw_a17_0, dw_w17_0, dw_a18, dw_w18, dw_a18_0, dw_w18_0, dw_a18_1, dw_w18_1, dw_a18_2, dw_w18_2, dw_a18_3, dw_w18_3, dw_a18_4, dw_w18_4, dw_a18_5, dw_w18_5, dw_a19, dw_w19, dw_a19_24, dw_w19_24, dw_a20, dw_w20, h28, dw_m1, g1, dw_Mrank _ g2]); first | with_reducible rw [bnd_s] | with_reducible rw [bn2_s] | with_reducible rw [grd_t]))
    rw [dw_unw]
    by_cases c1 : r ≤ dw_rk s
    · rw [if_neg (show ¬ nI (dw_rk s) < nI r from nI_nlt c1 (by omega)), if_pos c1]
      have hs : s ≠ 10018 := fun e => by
        have := k2.mpr e
        omega
      have ehc : dw_hm s = dw_cm s := by rw [dw_hm, if_neg hs]
      have a28 : dw_gI (dw_I X 28 (nI H.length)) 28 = nI H.length := by rw [dw_II, if_pos rfl]
      have a29 : dw_gI (dw_I X 28 (nI H.length)) 29 = nI (dw_opn (s :: H) + b) := by rw [dw_IIn (by decide), h3]
      have a16 : dw_gA (dw_I X 28 (nI H.length)) 16 H.length = nI (dw_hm s) := g1
      repeat (first | with_reducible rw [bnd_s] | with_reducible rw [nmd_s] | with_reducible rw [bn2_s] | with_reducible rw [grd_t] | ((conv => arg 1; arg 1; simp (disch := omega) only [dw_is, dw_f0, dw_t0, dw_f9, dw_t9, dw_f12, dw_t12, dw_f13, dw_t13, dw_f14, dw_t14, dw_f22, dw_t22, dw_f23, dw_t23, dw_f24, dw_t24, dw_f25, dw_t25, dw_f28, dw_t28, dw_f29, dw_t29, dw_f30, dw_t30, dw_f35, dw_t35, dw_f7, dw_t7, dw_f5, dw_t5, dw_f6, dw_t6, dw_f1, dw_f2, dw_f3, dw_f4, dw_f8, dw_f10, dw_f11, dw_f15, dw_f16, dw_f17, dw_f18, dw_f19, dw_f20, dw_f21, dw_f26, dw_f27, dw_f31, dw_f32, dw_f33, dw_f34, dw_a1, dw_w1, dw_a2, dw_w2, dw_a3, dw_w3, dw_a4, dw_w4, dw_a5, dw_w5, dw_a6, dw_w6, dw_a7, dw_w7, dw_a8, dw_w8, dw_a9_0, dw_s9_0, dw_a9_1, dw_s9_1, dw_a10, dw_w10, dw_a10_0, dw_w10_0, dw_a10_1, dw_w10_1, dw_a10_2, dw_w10_2, dw_a11, dw_w11, dw_a12, dw_w12, dw_a13, dw_w13, dw_a14, dw_w14, dw_a15, dw_w15, dw_a16, dw_w16, dw_a17, dw_w17, dw_a17_0, dw_w17_0, dw_a18, dw_w18, dw_a18_0, dw_w18_0, dw_a18_1, dw_w18_1, dw_a18_2, dw_w18_2, dw_a18_3, dw_w18_3, dw_a18_4, dw_w18_4, dw_a18_5, dw_w18_5, dw_a19, dw_w19, dw_a19_24, dw_w19_24, dw_a20, dw_w20, h28, dw_m1]); first | with_reducible rw [bnd_s] | with_reducible rw [bn2_s] | with_reducible rw [grd_t]))
      repeat (first | with_reducible rw [bnd_s] | with_reducible rw [nmd_s] | with_reducible rw [bn2_s] | with_reducible rw [grd_t] | ((conv => arg 1; arg 1; simp (disch := omega) only [dw_is, dw_f0, dw_t0, dw_f9, dw_t9, dw_f12, dw_t12, dw_f13, dw_t13, dw_f14, dw_t14, dw_f22, dw_t22, dw_f23, dw_t23, dw_f24, dw_t24, dw_f25, dw_t25, dw_f28, dw_t28, dw_f29, dw_t29, dw_f30, dw_t30, dw_f35, dw_t35, dw_f7, dw_t7, dw_f5, dw_t5, dw_f6, dw_t6, dw_f1, dw_f2, dw_f3, dw_f4, dw_f8, dw_f10, dw_f11, dw_f15, dw_f16, dw_f17, dw_f18, dw_f19, dw_f20, dw_f21, dw_f26, dw_f27, dw_f31, dw_f32, dw_f33, dw_f34, dw_a1, dw_w1, dw_a2, dw_w2, dw_a3, dw_w3, dw_a4, dw_w4, dw_a5, dw_w5, dw_a6, dw_w6, dw_a7, dw_w7, dw_a8, dw_w8, dw_a9_0, dw_s9_0, dw_a9_1, dw_s9_1, dw_a10, dw_w10, dw_a10_0, dw_w10_0, dw_a10_1, dw_w10_1, dw_a10_2, dw_w10_2, dw_a11, dw_w11, dw_a12, dw_w12, dw_a13, dw_w13, dw_a14, dw_w14, dw_a15, dw_w15, dw_a16, dw_w16, dw_a17, dw_w17, dw_a17_0, dw_w17_0, dw_a18, dw_w18, dw_a18_0, dw_w18_0, dw_a18_1, dw_w18_1, dw_a18_2, dw_w18_2, dw_a18_3, dw_w18_3, dw_a18_4, dw_w18_4, dw_a18_5, dw_w18_5, dw_a19, dw_w19, dw_a19_24, dw_w19_24, dw_a20, dw_w20, a28, a29, a16]); first | with_reducible rw [bnd_s] | with_reducible rw [bn2_s] | with_reducible rw [grd_t]))
      have key : ∀ w : Int32, nI (dw_opn (s :: H) + b) - w = nI (dw_opn H + b) → dw_Pu (M_unwinds_67 (M_unwinds_0 (f + H.length + 1)) (dw_mk (dw_I X 28 (nI H.length)) R G S N y) 0 (nI r) (nI (dw_hm s)) w (nI (dw_opn (s :: H) + b)) 0) R G S N y (fun X' => dw_PS tx X0 X' (dw_opn (dw_unw r H (c ++ [s])).1 + b) (dw_unw r H (c ++ [s])).1 (dw_unw r H (c ++ [s])).2 ∧ dw_K X X') := by
        intro w hw
        rw [M_unwinds_67, hw, ehc]
        have P1 : dw_PS tx X0 (dw_I (dw_I X 28 (nI H.length)) 29 (nI (dw_opn H + b))) (dw_opn H + b) H c := ⟨dw_Fr_I (by decide) (dw_Fr_I (by decide) h1), by rw [dw_IIn (by decide), dw_II, if_pos rfl], by rw [dw_II, if_pos rfl], by rw [dw_IIn (by decide), dw_IIn (by decide), h4], dw_hld_I (dw_hld_I g3), h6⟩
        obtain ⟨X1, e1, e2, e3⟩ := dw_Mputs (R := R) (G := G) (S := S) (N := N) (y := y) htx h12 P1 (by omega) s
        repeat (first | with_reducible rw [bnd_s] | with_reducible rw [nmd_s] | with_reducible rw [bn2_s] | with_reducible rw [grd_t] | ((conv => arg 1; arg 1; simp (disch := omega) only [dw_is, dw_f0, dw_t0, dw_f9, dw_t9, dw_f12, dw_t12, dw_f13, dw_t13, dw_f14, dw_t14, dw_f22, dw_t22, dw_f23, dw_t23, dw_f24, dw_t24, dw_f25, dw_t25, dw_f28, dw_t28, dw_f29, dw_t29, dw_f30, dw_t30, dw_f35, dw_t35, dw_f7, dw_t7, dw_f5, dw_t5, dw_f6, dw_t6, dw_f1, dw_f2, dw_f3, dw_f4, dw_f8, dw_f10, dw_f11, dw_f15, dw_f16, dw_f17, dw_f18, dw_f19, dw_f20, dw_f21, dw_f26, dw_f27, dw_f31, dw_f32, dw_f33, dw_f34, dw_a1, dw_w1, dw_a2, dw_w2, dw_a3, dw_w3, dw_a4, dw_w4, dw_a5, dw_w5, dw_a6, dw_w6, dw_a7, dw_w7, dw_a8, dw_w8, dw_a9_0, dw_s9_0, dw_a9_1, dw_s9_1, dw_a10, dw_w10, dw_a10_0, dw_w10_0, dw_a10_1, dw_w10_1, dw_a10_2, dw_w10_2, dw_a11, dw_w11, dw_a12, dw_w12, dw_a13, dw_w13, dw_a14, dw_w14, dw_a15, dw_w15, dw_a16, dw_w16, dw_a17, dw_w17, dw_a17_0, dw_w17_0, dw_a18, dw_w18, dw_a18_0, dw_w18_0, dw_a18_1, dw_w18_1, dw_a18_2, dw_w18_2, dw_a18_3, dw_w18_3, dw_a18_4, dw_w18_4, dw_a18_5, dw_w18_5, dw_a19, dw_w19, dw_a19_24, dw_w19_24, dw_a20, dw_w20, e1]); first | with_reducible rw [bnd_s] | with_reducible rw [bn2_s] | with_reducible rw [grd_t]))
        obtain ⟨X2, u1, u2, u3⟩ := dw_Munw hr htx h12 f H (c ++ [s]) X1 b e2 hb (by rw [List.length_append]; show H.length + (c.length + 1) < 200; omega)
        refine ⟨X2, u1, u2, fun k q1 q2 => ?_⟩
        rw [u3 k q1 q2, e3 k q1 q2, dw_IIn (by omega), dw_IIn (by omega)]
      have eop : dw_opn (s :: H) = dw_opn H + (if dw_opb s = true then 1 else 0) := rfl
      by_cases c13 : s = 10013
      · rw [if_pos (m1.mpr c13), M_unwinds_62]
        refine key 1 ?_
        rw [eop, c13, if_pos (by decide), show dw_opn H + 1 + b = dw_opn H + b + 1 by omega, dw_m1]
      rw [if_neg (fun q => c13 (m1.mp q))]
      by_cases c19 : s = 10014
      · rw [if_pos (m2.mpr c19), M_unwinds_62]
        refine key 1 ?_
        rw [eop, c19, if_pos (by decide), show dw_opn H + 1 + b = dw_opn H + b + 1 by omega, dw_m1]
      rw [if_neg (fun q => c19 (m2.mp q))]
      refine key 0 ?_
      have hb0 : dw_opb s = false := by
        unfold dw_opb
        rw [decide_eq_false c13, decide_eq_false c19, decide_eq_false hs]
        rfl
      rw [eop, hb0, if_neg (by decide), Nat.add_zero]
      exact Int32.sub_zero _
    · rw [if_pos (show nI (dw_rk s) < nI r from nI_lt (by omega) (by omega)), if_neg c1]
      exact ⟨X, rfl, h, fun _ _ _ => rfl⟩
theorem dw_Munwinds {X : dw_X} {r b : Nat} {H c : List Nat} (hr : 1 ≤ r ∧ r ≤ 7) (htx : tx < 6) (h12 : dw_gI X0 12 = nI tx) (h : dw_PS tx X0 X (dw_opn H + b) H c) (hb : b ≤ 100) (hl : H.length + c.length < 200) : dw_Pu (M_unwinds (dw_mk X R G S N y) 0 (nI r)) R G S N y (fun X' => dw_PS tx X0 X' (dw_opn (dw_unw r H c).1 + b) (dw_unw r H c).1 (dw_unw r H c).2 ∧ dw_K X X') := by
  have e := dw_Munw (R := R) (G := G) (S := S) (N := N) (y := y) hr htx h12 (999 - H.length) H c X b h hb hl
  rw [show 999 - H.length + H.length + 1 = 1000 by omega] at e
  exact e
theorem dw_Mholds {X : dw_X} {o s : Nat} {H c : List Nat} (hs : dw_V s) (h : dw_PS tx X0 X o H c) (hl : H.length < 200) : dw_Pu (M_holds (dw_mk X R G S N y) 0 (nI (dw_hm s))) R G S N y (fun X' => dw_PS tx X0 X' o (s :: H) c ∧ dw_K X X') := by
  obtain ⟨h1, h2, h3, h4, h5, h6⟩ := h
  rw [M_holds]
  repeat (first | with_reducible rw [bnd_s] | with_reducible rw [nmd_s] | with_reducible rw [bn2_s] | with_reducible rw [grd_t] | ((conv => arg 1; arg 1; simp (disch := omega) only [dw_is, dw_f0, dw_t0, dw_f9, dw_t9, dw_f12, dw_t12, dw_f13, dw_t13, dw_f14, dw_t14, dw_f22, dw_t22, dw_f23, dw_t23, dw_f24, dw_t24, dw_f25, dw_t25, dw_f28, dw_t28, dw_f29, dw_t29, dw_f30, dw_t30, dw_f35, dw_t35, dw_f7, dw_t7, dw_f5, dw_t5, dw_f6, dw_t6, dw_f1, dw_f2, dw_f3, dw_f4, dw_f8, dw_f10, dw_f11, dw_f15, dw_f16, dw_f17, dw_f18, dw_f19, dw_f20, dw_f21, dw_f26, dw_f27, dw_f31, dw_f32, dw_f33, dw_f34, dw_a1, dw_w1, dw_a2, dw_w2, dw_a3, dw_w3, dw_a4, dw_w4, dw_a5, dw_w5, dw_a6, dw_w6, dw_a7, dw_w7, dw_a8, dw_w8, dw_a9_0, dw_s9_0, dw_a9_1, dw_s9_1, dw_a10, dw_w10, dw_a10_0, dw_w10_0, dw_a10_1, dw_w10_1, dw_a10_2, dw_w10_2, dw_a11, dw_w11, dw_a12, dw_w12, dw_a13, dw_w13, dw_a14, dw_w14, dw_a15, dw_w15, dw_a16, dw_w16, dw_a17, dw_w17, dw_a17_0, dw_w17_0, dw_a18, dw_w18, dw_a18_0, dw_w18_0, dw_a18_1, dw_w18_1, dw_a18_2, dw_w18_2, dw_a18_3, dw_w18_3, dw_a18_4, dw_w18_4, dw_a18_5, dw_w18_5, dw_a19, dw_w19, dw_a19_24, dw_w19_24, dw_a20, dw_w20, h2]); first | with_reducible rw [bnd_s] | with_reducible rw [bn2_s] | with_reducible rw [grd_t]))
  have h28 : dw_gI (dw_A X 16 H.length (nI (dw_hm s))) 28 = nI H.length := h2
  repeat (first | with_reducible rw [bnd_s] | with_reducible rw [nmd_s] | with_reducible rw [bn2_s] | with_reducible rw [grd_t] | ((conv => arg 1; arg 1; simp (disch := omega) only [dw_is, dw_f0, dw_t0, dw_f9, dw_t9, dw_f12, dw_t12, dw_f13, dw_t13, dw_f14, dw_t14, dw_f22, dw_t22, dw_f23, dw_t23, dw_f24, dw_t24, dw_f25, dw_t25, dw_f28, dw_t28, dw_f29, dw_t29, dw_f30, dw_t30, dw_f35, dw_t35, dw_f7, dw_t7, dw_f5, dw_t5, dw_f6, dw_t6, dw_f1, dw_f2, dw_f3, dw_f4, dw_f8, dw_f10, dw_f11, dw_f15, dw_f16, dw_f17, dw_f18, dw_f19, dw_f20, dw_f21, dw_f26, dw_f27, dw_f31, dw_f32, dw_f33, dw_f34, dw_a1, dw_w1, dw_a2, dw_w2, dw_a3, dw_w3, dw_a4, dw_w4, dw_a5, dw_w5, dw_a6, dw_w6, dw_a7, dw_w7, dw_a8, dw_w8, dw_a9_0, dw_s9_0, dw_a9_1, dw_s9_1, dw_a10, dw_w10, dw_a10_0, dw_w10_0, dw_a10_1, dw_w10_1, dw_a10_2, dw_w10_2, dw_a11, dw_w11, dw_a12, dw_w12, dw_a13, dw_w13, dw_a14, dw_w14, dw_a15, dw_w15, dw_a16, dw_w16, dw_a17, dw_w17, dw_a17_0, dw_w17_0, dw_a18, dw_w18, dw_a18_0, dw_w18_0, dw_a18_1, dw_w18_1, dw_a18_2, dw_w18_2, dw_a18_3, dw_w18_3, dw_a18_4, dw_w18_4, dw_a18_5, dw_w18_5, dw_a19, dw_w19, dw_a19_24, dw_w19_24, dw_a20, dw_w20, h28, nI_1]); first | with_reducible rw [bnd_s] | with_reducible rw [bn2_s] | with_reducible rw [grd_t]))
  refine ⟨_, rfl, ⟨dw_Fr_I (k := 28) (by decide) (dw_Fr_A (a := 16) (Or.inl rfl) h1), ?_, ?_, ?_, ⟨?_, hs, ?_⟩, ?_⟩, fun k k1 k2 => dw_IIn (k := 28) (by omega)⟩
  · rw [dw_II, if_pos rfl, h28, nI_1]
    rfl
  · rw [dw_IIn (by decide)]
    exact h3
  · rw [dw_IIn (by decide)]
    exact h4
  · show dw_gA (dw_A X 16 H.length (nI (dw_hm s))) 16 H.length = _
    rw [dw_AA, if_pos ⟨rfl, rfl⟩]
  · exact dw_hld_I (dw_hld_up (Nat.le_refl _) h5)
  · intro k hk
    show dw_gA (dw_A X 16 H.length (nI (dw_hm s))) 6 _ = _
    rw [dw_AAn (by decide)]
    exact h6 k hk
/-- one that counts -/
theorem dw_Mopens {X : dw_X} {s : Nat} {H c : List Nat} (hs : s = 10013 ∨ s = 10014 ∨ s = 10018) (h : dw_PS tx X0 X (dw_opn H) H c) (ho : dw_opn H ≤ H.length) (hl : H.length < 200) : dw_Z (M_opensOne (dw_mk X R G S N y) 0 (nI (dw_hm s))) (fun z => (dw_opn H = 5 → z = some (dw_mk X R G S N y, 0)) ∧ (dw_opn H ≠ 5 → ∃ X', z = some (dw_mk X' R G S N y, 1) ∧ dw_PS tx X0 X' (dw_opn (s :: H)) (s :: H) c ∧ dw_K X X')) := by
  obtain ⟨h1, h2, h3, h4, h5, h6⟩ := id h
  have hV : dw_V s := by
    unfold dw_V
    omega
  rw [M_opensOne]
  repeat (first | with_reducible rw [bnd_s] | with_reducible rw [nmd_s] | with_reducible rw [bn2_s] | with_reducible rw [grd_t] | ((conv => arg 1; arg 1; simp (disch := omega) only [dw_is, dw_f0, dw_t0, dw_f9, dw_t9, dw_f12, dw_t12, dw_f13, dw_t13, dw_f14, dw_t14, dw_f22, dw_t22, dw_f23, dw_t23, dw_f24, dw_t24, dw_f25, dw_t25, dw_f28, dw_t28, dw_f29, dw_t29, dw_f30, dw_t30, dw_f35, dw_t35, dw_f7, dw_t7, dw_f5, dw_t5, dw_f6, dw_t6, dw_f1, dw_f2, dw_f3, dw_f4, dw_f8, dw_f10, dw_f11, dw_f15, dw_f16, dw_f17, dw_f18, dw_f19, dw_f20, dw_f21, dw_f26, dw_f27, dw_f31, dw_f32, dw_f33, dw_f34, dw_a1, dw_w1, dw_a2, dw_w2, dw_a3, dw_w3, dw_a4, dw_w4, dw_a5, dw_w5, dw_a6, dw_w6, dw_a7, dw_w7, dw_a8, dw_w8, dw_a9_0, dw_s9_0, dw_a9_1, dw_s9_1, dw_a10, dw_w10, dw_a10_0, dw_w10_0, dw_a10_1, dw_w10_1, dw_a10_2, dw_w10_2, dw_a11, dw_w11, dw_a12, dw_w12, dw_a13, dw_w13, dw_a14, dw_w14, dw_a15, dw_w15, dw_a16, dw_w16, dw_a17, dw_w17, dw_a17_0, dw_w17_0, dw_a18, dw_w18, dw_a18_0, dw_w18_0, dw_a18_1, dw_w18_1, dw_a18_2, dw_w18_2, dw_a18_3, dw_w18_3, dw_a18_4, dw_w18_4, dw_a18_5, dw_w18_5, dw_a19, dw_w19, dw_a19_24, dw_w19_24, dw_a20, dw_w20, h3]); first | with_reducible rw [bnd_s] | with_reducible rw [bn2_s] | with_reducible rw [grd_t]))
  by_cases e : dw_opn H = 5
  · rw [if_pos (show nI (dw_opn H) = 5 by rw [e]; rfl)]
    exact ⟨fun _ => rfl, fun q => absurd e q⟩
  · rw [if_neg (show ¬ nI (dw_opn H) = 5 from dw_ne (b := 5) (by omega) (by omega) e)]
    have P1 : dw_PS tx X0 (dw_I X 29 (nI (dw_opn H + 1))) (dw_opn H + 1) H c := ⟨dw_Fr_I (by decide) h1, by rw [dw_IIn (by decide), h2], by rw [dw_II, if_pos rfl], by rw [dw_IIn (by decide), h4], dw_hld_I h5, h6⟩
    obtain ⟨X1, e1, e2, e3⟩ := dw_Mholds (R := R) (G := G) (S := S) (N := N) (y := y) hV P1 hl
    repeat (first | with_reducible rw [bnd_s] | with_reducible rw [nmd_s] | with_reducible rw [bn2_s] | with_reducible rw [grd_t] | ((conv => arg 1; arg 1; simp (disch := omega) only [dw_is, dw_f0, dw_t0, dw_f9, dw_t9, dw_f12, dw_t12, dw_f13, dw_t13, dw_f14, dw_t14, dw_f22, dw_t22, dw_f23, dw_t23, dw_f24, dw_t24, dw_f25, dw_t25, dw_f28, dw_t28, dw_f29, dw_t29, dw_f30, dw_t30, dw_f35, dw_t35, dw_f7, dw_t7, dw_f5, dw_t5, dw_f6, dw_t6, dw_f1, dw_f2, dw_f3, dw_f4, dw_f8, dw_f10, dw_f11, dw_f15, dw_f16, dw_f17, dw_f18, dw_f19, dw_f20, dw_f21, dw_f26, dw_f27, dw_f31, dw_f32, dw_f33, dw_f34, dw_a1, dw_w1, dw_a2, dw_w2, dw_a3, dw_w3, dw_a4, dw_w4, dw_a5, dw_w5, dw_a6, dw_w6, dw_a7, dw_w7, dw_a8, dw_w8, dw_a9_0, dw_s9_0, dw_a9_1, dw_s9_1, dw_a10, dw_w10, dw_a10_0, dw_w10_0, dw_a10_1, dw_w10_1, dw_a10_2, dw_w10_2, dw_a11, dw_w11, dw_a12, dw_w12, dw_a13, dw_w13, dw_a14, dw_w14, dw_a15, dw_w15, dw_a16, dw_w16, dw_a17, dw_w17, dw_a17_0, dw_w17_0, dw_a18, dw_w18, dw_a18_0, dw_w18_0, dw_a18_1, dw_w18_1, dw_a18_2, dw_w18_2, dw_a18_3, dw_w18_3, dw_a18_4, dw_w18_4, dw_a18_5, dw_w18_5, dw_a19, dw_w19, dw_a19_24, dw_w19_24, dw_a20, dw_w20, h3, nI_1, e1]); first | with_reducible rw [bnd_s] | with_reducible rw [bn2_s] | with_reducible rw [grd_t]))
    have eop : dw_opn (s :: H) = dw_opn H + 1 := by
      rw [dw_opn, if_pos (by
        rcases hs with rfl | rfl | rfl <;> decide)]
    refine ⟨fun q => absurd q e, fun _ => ⟨X1, rfl, by rw [eop]; exact e2, fun k q1 q2 => ?_⟩⟩
    rw [e3 k q1 q2, dw_IIn (by omega)]
theorem dw_opn_le : ∀ H : List Nat, dw_opn H ≤ H.length
  | [] => Nat.le_refl _
  | s :: H => by
    have := dw_opn_le H
    rw [dw_opn, List.length_cons]
    split <;> omega
/-- a sign between two -/
theorem dw_Mbetween {X : dw_X} {t : Nat} {H c : List Nat} (ht : 10006 ≤ t ∧ t ≤ 10012) (htx : tx < 6) (h12 : dw_gI X0 12 = nI tx) (h : dw_PS tx X0 X (dw_opn H) H c) (hl : H.length + c.length < 199) : dw_Z (M_between (dw_mk X R G S N y) 0 (nI (dw_cm t))) (fun z => (dw_rk t = 4 ∧ dw_top4 (dw_unw (dw_ul t) H c).1 = true → ∃ X', z = some (dw_mk X' R G S N y, 0) ∧ dw_Fr tx X0 X' ∧ dw_K X X') ∧ (¬ (dw_rk t = 4 ∧ dw_top4 (dw_unw (dw_ul t) H c).1 = true) → ∃ X', z = some (dw_mk X' R G S N y, 1) ∧ dw_PS tx X0 X' (dw_opn (t :: (dw_unw (dw_ul t) H c).1)) (t :: (dw_unw (dw_ul t) H c).1) (dw_unw (dw_ul t) H c).2 ∧ dw_K X X')) := by
  have hV : dw_V t := by
    unfold dw_V
    omega
  have ecm : dw_cm t = dw_hm t := by rw [dw_hm, if_neg (by omega)]
  have e0 : M_between (dw_mk X R G S N y) 0 (nI (dw_cm t)) = M_between_17 (dw_mk X R G S N y) 0 (nI (dw_hm t)) (nI (dw_ul t)) 0 := by
    rw [ecm, M_between]
    repeat (first | with_reducible rw [bnd_s] | with_reducible rw [nmd_s] | with_reducible rw [bn2_s] | with_reducible rw [grd_t] | ((conv => arg 1; arg 1; simp (disch := omega) only [dw_is, dw_f0, dw_t0, dw_f9, dw_t9, dw_f12, dw_t12, dw_f13, dw_t13, dw_f14, dw_t14, dw_f22, dw_t22, dw_f23, dw_t23, dw_f24, dw_t24, dw_f25, dw_t25, dw_f28, dw_t28, dw_f29, dw_t29, dw_f30, dw_t30, dw_f35, dw_t35, dw_f7, dw_t7, dw_f5, dw_t5, dw_f6, dw_t6, dw_f1, dw_f2, dw_f3, dw_f4, dw_f8, dw_f10, dw_f11, dw_f15, dw_f16, dw_f17, dw_f18, dw_f19, dw_f20, dw_f21, dw_f26, dw_f27, dw_f31, dw_f32, dw_f33, dw_f34, dw_a1, dw_w1, dw_a2, dw_w2, dw_a3, dw_w3, dw_a4, dw_w4, dw_a5, dw_w5, dw_a6, dw_w6, dw_a7, dw_w7, dw_a8, dw_w8, dw_a9_0, dw_s9_0, dw_a9_1, dw_s9_1, dw_a10, dw_w10, dw_a10_0, dw_w10_0, dw_a10_1, dw_w10_1, dw_a10_2, dw_w10_2, dw_a11, dw_w11, dw_a12, dw_w12, dw_a13, dw_w13, dw_a14, dw_w14, dw_a15, dw_w15, dw_a16, dw_w16, dw_a17, dw_w17, dw_a17_0, dw_w17_0, dw_a18, dw_w18, dw_a18_0, dw_w18_0, dw_a18_1, dw_w18_1, dw_a18_2, dw_w18_2, dw_a18_3, dw_w18_3, dw_a18_4, dw_w18_4, dw_a18_5, dw_w18_5, dw_a19, dw_w19, dw_a19_24, dw_w19_24, dw_a20, dw_w20, dw_Mrank _ hV]); first | with_reducible rw [bnd_s] | with_reducible rw [bn2_s] | with_reducible rw [grd_t]))
    rw [dw_ul]
    by_cases c4 : dw_rk t = 4
    · rw [if_pos (show nI (dw_rk t) = 4 by rw [c4]; rfl), if_pos c4]
      rfl
    · have := (dw_rkr t hV).1
      rw [if_neg (show ¬ nI (dw_rk t) = 4 from dw_ne (b := 4) (by omega) (by omega) c4), if_neg c4]
      repeat (first | with_reducible rw [bnd_s] | with_reducible rw [nmd_s] | with_reducible rw [bn2_s] | with_reducible rw [grd_t] | ((conv => arg 1; arg 1; simp (disch := omega) only [dw_is, dw_f0, dw_t0, dw_f9, dw_t9, dw_f12, dw_t12, dw_f13, dw_t13, dw_f14, dw_t14, dw_f22, dw_t22, dw_f23, dw_t23, dw_f24, dw_t24, dw_f25, dw_t25, dw_f28, dw_t28, dw_f29, dw_t29, dw_f30, dw_t30, dw_f35, dw_t35, dw_f7, dw_t7, dw_f5, dw_t5, dw_f6, dw_t6, dw_f1, dw_f2, dw_f3, dw_f4, dw_f8, dw_f10, dw_f11, dw_f15, dw_f16, dw_f17, dw_f18, dw_f19, dw_f20, dw_f21, dw_f26, dw_f27, dw_f31, dw_f32, dw_f33, dw_f34, dw_a1, dw_w1, dw_a2, dw_w2, dw_a3, dw_w3, dw_a4, dw_w4, dw_a5, dw_w5, dw_a6, dw_w6, dw_a7, dw_w7, dw_a8, dw_w8, dw_a9_0, dw_s9_0, dw_a9_1, dw_s9_1, dw_a10, dw_w10, dw_a10_0, dw_w10_0, dw_a10_1, dw_w10_1, dw_a10_2, dw_w10_2, dw_a11, dw_w11, dw_a12, dw_w12, dw_a13, dw_w13, dw_a14, dw_w14, dw_a15, dw_w15, dw_a16, dw_w16, dw_a17, dw_w17, dw_a17_0, dw_w17_0, dw_a18, dw_w18, dw_a18_0, dw_w18_0, dw_a18_1, dw_w18_1, dw_a18_2, dw_w18_2, dw_a18_3, dw_w18_3, dw_a18_4, dw_w18_4, dw_a18_5, dw_w18_5, dw_a19, dw_w19, dw_a19_24, dw_w19_24, dw_a20, dw_w20, dw_Mrank _ hV]); first | with_reducible rw [bnd_s] | with_reducible rw [bn2_s] | with_reducible rw [grd_t]))
  have hul : 1 ≤ dw_ul t ∧ dw_ul t ≤ 7 := by
    rcases (by omega : t = 10006 ∨ t = 10007 ∨ t = 10008 ∨ t = 10009 ∨ t = 10010 ∨ t = 10011 ∨ t = 10012) with rfl | rfl | rfl | rfl | rfl | rfl | rfl <;> decide
  have hop : dw_opb t = false := by
    rcases (by omega : t = 10006 ∨ t = 10007 ∨ t = 10008 ∨ t = 10009 ∨ t = 10010 ∨ t = 10011 ∨ t = 10012) with rfl | rfl | rfl | rfl | rfl | rfl | rfl <;> decide
  obtain ⟨X1, e1, e2, e3⟩ := dw_Munwinds (R := R) (G := G) (S := S) (N := N) (y := y) (b := 0) hul htx h12 h (by decide) (by omega)
  have elen := dw_unw_len (dw_ul t) H c
  rw [e0, M_between_17]
  generalize dw_unw (dw_ul t) H c = u at *
  obtain ⟨H1, c1⟩ := u
  dsimp only at *
  have P55 : dw_Z (M_between_55 (dw_mk X1 R G S N y) 0 (nI (dw_hm t))) (fun z => ∃ X', z = some (dw_mk X' R G S N y, 1) ∧ dw_PS tx X0 X' (dw_opn (t :: H1)) (t :: H1) c1 ∧ dw_K X X') := by
    obtain ⟨X2, f1, f2, f3⟩ := dw_Mholds (R := R) (G := G) (S := S) (N := N) (y := y) hV e2 (by omega)
    rw [M_between_55]
    repeat (first | with_reducible rw [bnd_s] | with_reducible rw [nmd_s] | with_reducible rw [bn2_s] | with_reducible rw [grd_t] | ((conv => arg 1; arg 1; simp (disch := omega) only [dw_is, dw_f0, dw_t0, dw_f9, dw_t9, dw_f12, dw_t12, dw_f13, dw_t13, dw_f14, dw_t14, dw_f22, dw_t22, dw_f23, dw_t23, dw_f24, dw_t24, dw_f25, dw_t25, dw_f28, dw_t28, dw_f29, dw_t29, dw_f30, dw_t30, dw_f35, dw_t35, dw_f7, dw_t7, dw_f5, dw_t5, dw_f6, dw_t6, dw_f1, dw_f2, dw_f3, dw_f4, dw_f8, dw_f10, dw_f11, dw_f15, dw_f16, dw_f17, dw_f18, dw_f19, dw_f20, dw_f21, dw_f26, dw_f27, dw_f31, dw_f32, dw_f33, dw_f34, dw_a1, dw_w1, dw_a2, dw_w2, dw_a3, dw_w3, dw_a4, dw_w4, dw_a5, dw_w5, dw_a6, dw_w6, dw_a7, dw_w7, dw_a8, dw_w8, dw_a9_0, dw_s9_0, dw_a9_1, dw_s9_1, dw_a10, dw_w10, dw_a10_0, dw_w10_0, dw_a10_1, dw_w10_1, dw_a10_2, dw_w10_2, dw_a11, dw_w11, dw_a12, dw_w12, dw_a13, dw_w13, dw_a14, dw_w14, dw_a15, dw_w15, dw_a16, dw_w16, dw_a17, dw_w17, dw_a17_0, dw_w17_0, dw_a18, dw_w18, dw_a18_0, dw_w18_0, dw_a18_1, dw_w18_1, dw_a18_2, dw_w18_2, dw_a18_3, dw_w18_3, dw_a18_4, dw_w18_4, dw_a18_5, dw_w18_5, dw_a19, dw_w19, dw_a19_24, dw_w19_24, dw_a20, dw_w20, f1]); first | with_reducible rw [bnd_s] | with_reducible rw [bn2_s] | with_reducible rw [grd_t]))
    refine ⟨X2, rfl, ?_, dw_K_tr e3 f3⟩
    rw [dw_opn, hop, if_neg (by decide)]
    exact f2
  obtain ⟨g1, g2, g3, g4, g5, g6⟩ := id e2
  repeat (first | with_reducible rw [bnd_s] | with_reducible rw [nmd_s] | with_reducible rw [bn2_s] | with_reducible rw [grd_t] | ((conv => arg 1; arg 1; simp (disch := omega) only [dw_is, dw_f0, dw_t0, dw_f9, dw_t9, dw_f12, dw_t12, dw_f13, dw_t13, dw_f14, dw_t14, dw_f22, dw_t22, dw_f23, dw_t23, dw_f24, dw_t24, dw_f25, dw_t25, dw_f28, dw_t28, dw_f29, dw_t29, dw_f30, dw_t30, dw_f35, dw_t35, dw_f7, dw_t7, dw_f5, dw_t5, dw_f6, dw_t6, dw_f1, dw_f2, dw_f3, dw_f4, dw_f8, dw_f10, dw_f11, dw_f15, dw_f16, dw_f17, dw_f18, dw_f19, dw_f20, dw_f21, dw_f26, dw_f27, dw_f31, dw_f32, dw_f33, dw_f34, dw_a1, dw_w1, dw_a2, dw_w2, dw_a3, dw_w3, dw_a4, dw_w4, dw_a5, dw_w5, dw_a6, dw_w6, dw_a7, dw_w7, dw_a8, dw_w8, dw_a9_0, dw_s9_0, dw_a9_1, dw_s9_1, dw_a10, dw_w10, dw_a10_0, dw_w10_0, dw_a10_1, dw_w10_1, dw_a10_2, dw_w10_2, dw_a11, dw_w11, dw_a12, dw_w12, dw_a13, dw_w13, dw_a14, dw_w14, dw_a15, dw_w15, dw_a16, dw_w16, dw_a17, dw_w17, dw_a17_0, dw_w17_0, dw_a18, dw_w18, dw_a18_0, dw_w18_0, dw_a18_1, dw_w18_1, dw_a18_2, dw_w18_2, dw_a18_3, dw_w18_3, dw_a18_4, dw_w18_4, dw_a18_5, dw_w18_5, dw_a19, dw_w19, dw_a19_24, dw_w19_24, dw_a20, dw_w20, e1, dw_Mrank _ hV]); first | with_reducible rw [bnd_s] | with_reducible rw [bn2_s] | with_reducible rw [grd_t]))
  by_cases c4 : dw_rk t = 4
  · rw [if_pos (show nI (dw_rk t) = 4 by rw [c4]; rfl)]
    repeat (first | with_reducible rw [bnd_s] | with_reducible rw [nmd_s] | with_reducible rw [bn2_s] | with_reducible rw [grd_t] | ((conv => arg 1; arg 1; simp (disch := omega) only [dw_is, dw_f0, dw_t0, dw_f9, dw_t9, dw_f12, dw_t12, dw_f13, dw_t13, dw_f14, dw_t14, dw_f22, dw_t22, dw_f23, dw_t23, dw_f24, dw_t24, dw_f25, dw_t25, dw_f28, dw_t28, dw_f29, dw_t29, dw_f30, dw_t30, dw_f35, dw_t35, dw_f7, dw_t7, dw_f5, dw_t5, dw_f6, dw_t6, dw_f1, dw_f2, dw_f3, dw_f4, dw_f8, dw_f10, dw_f11, dw_f15, dw_f16, dw_f17, dw_f18, dw_f19, dw_f20, dw_f21, dw_f26, dw_f27, dw_f31, dw_f32, dw_f33, dw_f34, dw_a1, dw_w1, dw_a2, dw_w2, dw_a3, dw_w3, dw_a4, dw_w4, dw_a5, dw_w5, dw_a6, dw_w6, dw_a7, dw_w7, dw_a8, dw_w8, dw_a9_0, dw_s9_0, dw_a9_1, dw_s9_1, dw_a10, dw_w10, dw_a10_0, dw_w10_0, dw_a10_1, dw_w10_1, dw_a10_2, dw_w10_2, dw_a11, dw_w11, dw_a12, dw_w12, dw_a13, dw_w13, dw_a14, dw_w14, dw_a15, dw_w15, dw_a16, dw_w16, dw_a17, dw_w17, dw_a17_0, dw_w17_0, dw_a18, dw_w18, dw_a18_0, dw_w18_0, dw_a18_1, dw_w18_1, dw_a18_2, dw_w18_2, dw_a18_3, dw_w18_3, dw_a18_4, dw_w18_4, dw_a18_5, dw_w18_5, dw_a19, dw_w19, dw_a19_24, dw_w19_24, dw_a20, dw_w20, g2]); first | with_reducible rw [bnd_s] | with_reducible rw [bn2_s] | with_reducible rw [grd_t]))
    cases H1 with
    | nil =>
      rw [if_pos (show nI ([] : List Nat).length ≤ 0 by decide)]
      exact ⟨fun q => absurd q.2 (by decide), fun _ => P55⟩
    | cons s H2 =>
      have g2' : dw_gI X1 28 = nI (H2.length + 1) := g2
      have hl2 : (s :: H2).length = H2.length + 1 := rfl
      rw [if_neg (show ¬ nI (s :: H2).length ≤ 0 from nI_ge (a := 0) (by omega) (by omega))]
      obtain ⟨w1, w2, w3⟩ := g5
      repeat (first | with_reducible rw [bnd_s] | with_reducible rw [nmd_s] | with_reducible rw [bn2_s] | with_reducible rw [grd_t] | ((conv => arg 1; arg 1; simp (disch := omega) only [dw_is, dw_f0, dw_t0, dw_f9, dw_t9, dw_f12, dw_t12, dw_f13, dw_t13, dw_f14, dw_t14, dw_f22, dw_t22, dw_f23, dw_t23, dw_f24, dw_t24, dw_f25, dw_t25, dw_f28, dw_t28, dw_f29, dw_t29, dw_f30, dw_t30, dw_f35, dw_t35, dw_f7, dw_t7, dw_f5, dw_t5, dw_f6, dw_t6, dw_f1, dw_f2, dw_f3, dw_f4, dw_f8, dw_f10, dw_f11, dw_f15, dw_f16, dw_f17, dw_f18, dw_f19, dw_f20, dw_f21, dw_f26, dw_f27, dw_f31, dw_f32, dw_f33, dw_f34, dw_a1, dw_w1, dw_a2, dw_w2, dw_a3, dw_w3, dw_a4, dw_w4, dw_a5, dw_w5, dw_a6, dw_w6, dw_a7, dw_w7, dw_a8, dw_w8, dw_a9_0, dw_s9_0, dw_a9_1, dw_s9_1, dw_a10, dw_w10, dw_a10_0, dw_w10_0, dw_a10_1, dw_w10_1, dw_a10_2, dw_w10_2, dw_a11, dw_w11, dw_a12, dw_w12, dw_a13, dw_w13, dw_a14, dw_w14, dw_a15, dw_w15, dw_a16, dw_w16, dw_a17, dw_w17, dw_a17_0, dw_w17_0, dw_a18, dw_w18, dw_a18_0, dw_w18_0, dw_a18_1, dw_w18_1, dw_a18_2, dw_w18_2, dw_a18_3, dw_w18_3, dw_a18_4, dw_w18_4, dw_a18_5, dw_w18_5, dw_a19, dw_w19, dw_a19_24, dw_w19_24, dw_a20, dw_w20, g2', dw_m1, w1, dw_Mrank _ w2]); first | with_reducible rw [bnd_s] | with_reducible rw [bn2_s] | with_reducible rw [grd_t]))
      have k7 := (dw_rkr s w2).1
      by_cases cs : dw_rk s = 4
      · rw [if_pos (show nI (dw_rk s) = 4 by rw [cs]; rfl)]
        exact ⟨fun _ => ⟨X1, rfl, g1, e3⟩, fun q => absurd ⟨c4, by rw [dw_top4, cs]; rfl⟩ q⟩
      · rw [if_neg (show ¬ nI (dw_rk s) = 4 from dw_ne (b := 4) (by omega) (by omega) cs)]
        refine ⟨fun q => ?_, fun _ => P55⟩
        have q2 := q.2
        rw [dw_top4, decide_eq_false cs] at q2
        exact absurd q2 (by decide)
  · have := (dw_rkr t hV).1
    rw [if_neg (show ¬ nI (dw_rk t) = 4 from dw_ne (b := 4) (by omega) (by omega) c4)]
    exact ⟨fun q => absurd q.1 c4, fun _ => P55⟩
end MH
