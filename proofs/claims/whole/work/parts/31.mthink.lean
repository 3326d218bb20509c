/-! THE REFERENCE: what is thought and laid back -/
def dw_Eq (X X' : dw_X) : Prop := (∀ k, k = 0 ∨ k = 9 ∨ k = 12 ∨ k = 13 ∨ k = 14 → dw_gI X' k = dw_gI X k) ∧ (∀ k, dw_gJ X' k = dw_gJ X k) ∧ (∀ c i, c ≠ 16 → c ≠ 19 → c ≠ 20 → dw_gA X' c i = dw_gA X c i) ∧ (∀ i, dw_gY X' i = dw_gY X i)
theorem dw_Eq_rfl (X : dw_X) : dw_Eq X X := ⟨fun _ _ => rfl, fun _ => rfl, fun _ _ _ _ _ => rfl, fun _ => rfl⟩
theorem dw_Eq_tr {X Y Z : dw_X} (h : dw_Eq X Y) (h2 : dw_Eq Y Z) : dw_Eq X Z := ⟨fun k hk => (h2.1 k hk).trans (h.1 k hk), fun k => (h2.2.1 k).trans (h.2.1 k), fun c i a b d => (h2.2.2.1 c i a b d).trans (h.2.2.1 c i a b d), fun i => (h2.2.2.2 i).trans (h.2.2.2 i)⟩
theorem dw_Eq_sy {X Y : dw_X} (h : dw_Eq X Y) : dw_Eq Y X := ⟨fun k hk => (h.1 k hk).symm, fun k => (h.2.1 k).symm, fun c i a b d => (h.2.2.1 c i a b d).symm, fun i => (h.2.2.2 i).symm⟩
theorem dw_Eq_A {X : dw_X} {c i : Nat} {v : Int32} (hc : c = 16 ∨ c = 19 ∨ c = 20) : dw_Eq X (dw_A X c i v) := ⟨fun _ _ => rfl, fun _ => rfl, fun d j a b e => by rw [dw_AA, if_neg (fun q => by omega)], fun _ => rfl⟩
theorem dw_MC_Eq {X X' : dw_X} (h : dw_Eq X X') : ∀ (c : List Nat) (a : Nat), dw_MC X a c → dw_MC X' a c
  | [], _, _ => trivial
  | t :: c, a, hm => ⟨(h.2.2.1 6 a (by decide) (by decide) (by decide)).trans hm.1, dw_MC_Eq h c (a + 1) hm.2⟩
theorem dw_ML_Eq {X X' : dw_X} (h : dw_Eq X X') {r : Nat} {w : dw_W} (hL : dw_ML X r w) : dw_ML X' r w := by
  refine ⟨fun p hp => ?_, fun i hi => (h.2.2.1 15 i (by decide) (by decide) (by decide)).trans (hL.2 i hi)⟩
  obtain ⟨k, h1, h2, h3, h4, h5⟩ := hL.1 p hp
  exact ⟨k, (h.2.2.1 7 _ (by decide) (by decide) (by decide)).trans h1, (h.2.2.1 7 _ (by decide) (by decide) (by decide)).trans h2, h3, dw_MC_Eq h _ _ h4, h5⟩
theorem dw_Ctx_Eq {X X' : dw_X} (h : dw_Eq X X') {r m : Nat} {w : dw_W} (hC : dw_Ctx X r m w) : dw_Ctx X' r m w := ⟨(h.1 13 (by decide)).trans hC.1, hC.2.1, dw_ML_Eq h hC.2.2.1, (h.1 0 (by decide)).trans hC.2.2.2.1, hC.2.2.2.2⟩
theorem dw_Rel_Eq {X X' : dw_X} (h : dw_Eq X X') {s : dw_L} {m : Nat} {R G R' G' : Nat → Int32} (hm : m ≤ 6) (hR : ∀ k, k < 18 → R' k = R k) (hG : ∀ k, k < 6 → G' k = G k) (hr : dw_Rel s m X R G) : dw_Rel s m X' R' G' := by
  intro d hd
  obtain ⟨h3, h4, h5, h6, h1, h2⟩ := hr d hd
  exact ⟨(hR _ (by omega)).trans h3, (hR _ (by omega)).trans h4, (hR _ (by omega)).trans h5, (hG _ (by omega)).trans h6, (h.2.2.1 1 d (by decide) (by decide) (by decide)).trans h1, (h.2.2.1 2 d (by decide) (by decide) (by decide)).trans h2⟩
theorem dw_Rel_rfl {X X' : dw_X} (h : dw_Eq X X') {s : dw_L} {m : Nat} {R G : Nat → Int32} (hm : m ≤ 6) (hr : dw_Rel s m X R G) : dw_Rel s m X' R G := dw_Rel_Eq h hm (fun _ _ => rfl) (fun _ _ => rfl) hr
def dw_Kept (X : dw_X) (R G : Nat → Int32) (y : Int32) : Prop := (∀ k, k < 18 → dw_gA X 19 k = R k) ∧ (∀ d, d < 6 → dw_gA X 19 (18 + d) = G d) ∧ dw_gA X 19 24 = y
section MC
variable {X : dw_X} {R G S N : Nat → Int32} {y : Int32} {w : dw_W} {r m : Nat} {s : dw_L}
theorem dw_Mkeeps28 (f k : Nat) : ∀ i X, i + k = 6 → (∀ j, j < 18 → dw_gA X 19 j = R j) → (∀ d, d < i → dw_gA X 19 (18 + d) = G d) → dw_Z (M_keeps_28 (f + k + 1) (dw_mk X R G S N y) 0 (nI i)) (fun z => ∃ X', z = some (dw_mk X' R G S N y, ()) ∧ dw_Eq X X' ∧ dw_Kept X' R G y) := by
  induction k with
  | zero =>
    intro i X hi h1 h2
    rw [M_keeps_28, if_pos (show (6 : Int32) ≤ nI i from nI_le (a := 6) (by omega) (by omega))]
    repeat (first | with_reducible rw [bnd_s] | with_reducible rw [nmd_s] | with_reducible rw [bn2_s] | with_reducible rw [grd_t] | ((conv => arg 1; arg 1; simp (disch := omega) only [dw_is, dw_f0, dw_t0, dw_f9, dw_t9, dw_f12, dw_t12, dw_f13, dw_t13, dw_f14, dw_t14, dw_f22, dw_t22, dw_f23, dw_t23, dw_f24, dw_t24, dw_f25, dw_t25, dw_f28, dw_t28, dw_f29, dw_t29, dw_f30, dw_t30, dw_f35, dw_t35, dw_f7, dw_t7, dw_f5, dw_t5, dw_f6, dw_t6, dw_f1, dw_f2, dw_f3, dw_f4, dw_f8, dw_f10, dw_f11, dw_f15, dw_f16, dw_f17, dw_f18, dw_f19, dw_f20, dw_f21, dw_f26, dw_f27, dw_f31, dw_f32, dw_f33, dw_f34, dw_a1, dw_w1, dw_a2, dw_w2, dw_a3, dw_w3, dw_a4, dw_w4, dw_a5, dw_w5, dw_a6, dw_w6, dw_a7, dw_w7, dw_a8, dw_w8, dw_a9_0, dw_s9_0, dw_a9_1, dw_s9_1, dw_a10, dw_w10, dw_a10_0, dw_w10_0, dw_a10_1, dw_w10_1, dw_a10_2, dw_w10_2, dw_a11, dw_w11, dw_a12, dw_w12, dw_a13, dw_w13, dw_a14, dw_w14, dw_a15, dw_w15, dw_a16, dw_w16, dw_a17, dw_w17, dw_a17_0, dw_w17_0, dw_a18, dw_w18, dw_a18_0, dw_w18_0, dw_a18_1, dw_w18_1, dw_a18_2, dw_w18_2, dw_a18_3, dw_w18_3, dw_a18_4, dw_w18_4, dw_a18_5, dw_w18_5, dw_a19, dw_w19, dw_a19_24, dw_w19_24, dw_a20, dw_w20]); first | with_reducible rw [bnd_s] | with_reducible rw [bn2_s] | with_reducible rw [grd_t]))
    refine ⟨_, rfl, dw_Eq_A (by decide), ?_, ?_, ?_⟩
    · intro j hj
      rw [dw_AA, if_neg (fun q => by omega), h1 j hj]
    · intro d hd
      rw [dw_AA, if_neg (fun q => by omega), h2 d (by omega)]
    · rw [dw_AA, if_pos ⟨rfl, rfl⟩]
  | succ k ih =>
    intro i X hi h1 h2
    rw [show f + (k + 1) + 1 = f + k + 1 + 1 by omega, M_keeps_28, if_neg (show ¬ (6 : Int32) ≤ nI i from nI_ge (b := 6) (by omega) (by omega))]
    repeat (first | with_reducible rw [bnd_s] | with_reducible rw [nmd_s] | with_reducible rw [bn2_s] | with_reducible rw [grd_t] | ((conv => arg 1; arg 1; simp (disch := omega) only [dw_is, dw_f0, dw_t0, dw_f9, dw_t9, dw_f12, dw_t12, dw_f13, dw_t13, dw_f14, dw_t14, dw_f22, dw_t22, dw_f23, dw_t23, dw_f24, dw_t24, dw_f25, dw_t25, dw_f28, dw_t28, dw_f29, dw_t29, dw_f30, dw_t30, dw_f35, dw_t35, dw_f7, dw_t7, dw_f5, dw_t5, dw_f6, dw_t6, dw_f1, dw_f2, dw_f3, dw_f4, dw_f8, dw_f10, dw_f11, dw_f15, dw_f16, dw_f17, dw_f18, dw_f19, dw_f20, dw_f21, dw_f26, dw_f27, dw_f31, dw_f32, dw_f33, dw_f34, dw_a1, dw_w1, dw_a2, dw_w2, dw_a3, dw_w3, dw_a4, dw_w4, dw_a5, dw_w5, dw_a6, dw_w6, dw_a7, dw_w7, dw_a8, dw_w8, dw_a9_0, dw_s9_0, dw_a9_1, dw_s9_1, dw_a10, dw_w10, dw_a10_0, dw_w10_0, dw_a10_1, dw_w10_1, dw_a10_2, dw_w10_2, dw_a11, dw_w11, dw_a12, dw_w12, dw_a13, dw_w13, dw_a14, dw_w14, dw_a15, dw_w15, dw_a16, dw_w16, dw_a17, dw_w17, dw_a17_0, dw_w17_0, dw_a18, dw_w18, dw_a18_0, dw_w18_0, dw_a18_1, dw_w18_1, dw_a18_2, dw_w18_2, dw_a18_3, dw_w18_3, dw_a18_4, dw_w18_4, dw_a18_5, dw_w18_5, dw_a19, dw_w19, dw_a19_24, dw_w19_24, dw_a20, dw_w20, dw_18p]); first | with_reducible rw [bnd_s] | with_reducible rw [bn2_s] | with_reducible rw [grd_t]))
    rw [nI_1]
    obtain ⟨X', e1, e2, e3⟩ := ih (i + 1) (dw_A X 19 (18 + i) (G i)) (by omega) (by
      intro j hj
      rw [dw_AA, if_neg (fun q => by omega), h1 j hj]) (by
      intro d hd
      rw [dw_AA]
      by_cases c : d = i
      · subst c
        rw [if_pos ⟨rfl, rfl⟩]
      · rw [if_neg (fun q => c (by omega)), h2 d (by omega)])
    exact ⟨X', e1, dw_Eq_tr (dw_Eq_A (by decide)) e2, e3⟩
theorem dw_Mkeeps2 (f k : Nat) : ∀ i X, i + k = 18 → (∀ j, j < i → dw_gA X 19 j = R j) → dw_Z (M_keeps_2 (f + k + 1) (dw_mk X R G S N y) 0 (nI i)) (fun z => ∃ X', z = some (dw_mk X' R G S N y, ()) ∧ dw_Eq X X' ∧ dw_Kept X' R G y) := by
  induction k with
  | zero =>
    intro i X hi h1
    rw [M_keeps_2, if_pos (show (18 : Int32) ≤ nI i from nI_le (a := 18) (by omega) (by omega))]
    exact dw_Mkeeps28 993 6 0 X (by omega) (fun j hj => h1 j (by omega)) (fun d hd => absurd hd (Nat.not_lt_zero d))
  | succ k ih =>
    intro i X hi h1
    rw [show f + (k + 1) + 1 = f + k + 1 + 1 by omega, M_keeps_2, if_neg (show ¬ (18 : Int32) ≤ nI i from nI_ge (b := 18) (by omega) (by omega))]
    repeat (first | with_reducible rw [bnd_s] | with_reducible rw [nmd_s] | with_reducible rw [bn2_s] | with_reducible rw [grd_t] | ((conv => arg 1; arg 1; simp (disch := omega) only [dw_is, dw_f0, dw_t0, dw_f9, dw_t9, dw_f12, dw_t12, dw_f13, dw_t13, dw_f14, dw_t14, dw_f22, dw_t22, dw_f23, dw_t23, dw_f24, dw_t24, dw_f25, dw_t25, dw_f28, dw_t28, dw_f29, dw_t29, dw_f30, dw_t30, dw_f35, dw_t35, dw_f7, dw_t7, dw_f5, dw_t5, dw_f6, dw_t6, dw_f1, dw_f2, dw_f3, dw_f4, dw_f8, dw_f10, dw_f11, dw_f15, dw_f16, dw_f17, dw_f18, dw_f19, dw_f20, dw_f21, dw_f26, dw_f27, dw_f31, dw_f32, dw_f33, dw_f34, dw_a1, dw_w1, dw_a2, dw_w2, dw_a3, dw_w3, dw_a4, dw_w4, dw_a5, dw_w5, dw_a6, dw_w6, dw_a7, dw_w7, dw_a8, dw_w8, dw_a9_0, dw_s9_0, dw_a9_1, dw_s9_1, dw_a10, dw_w10, dw_a10_0, dw_w10_0, dw_a10_1, dw_w10_1, dw_a10_2, dw_w10_2, dw_a11, dw_w11, dw_a12, dw_w12, dw_a13, dw_w13, dw_a14, dw_w14, dw_a15, dw_w15, dw_a16, dw_w16, dw_a17, dw_w17, dw_a17_0, dw_w17_0, dw_a18, dw_w18, dw_a18_0, dw_w18_0, dw_a18_1, dw_w18_1, dw_a18_2, dw_w18_2, dw_a18_3, dw_w18_3, dw_a18_4, dw_w18_4, dw_a18_5, dw_w18_5, dw_a19, dw_w19, dw_a19_24, dw_w19_24, dw_a20, dw_w20]); first | with_reducible rw [bnd_s] | with_reducible rw [bn2_s] | with_reducible rw [grd_t]))
    rw [nI_1]
    obtain ⟨X', e1, e2, e3⟩ := ih (i + 1) (dw_A X 19 i (R i)) (by omega) (by
      intro j hj
      rw [dw_AA]
      by_cases c : j = i
      · subst c
        rw [if_pos ⟨rfl, rfl⟩]
      · rw [if_neg (fun q => c q.2), h1 j (by omega)])
    exact ⟨X', e1, dw_Eq_tr (dw_Eq_A (by decide)) e2, e3⟩
theorem dw_Mkeeps : ∃ X', M_keeps (dw_mk X R G S N y) 0 = some (dw_mk X' R G S N y, ()) ∧ dw_Eq X X' ∧ dw_Kept X' R G y := dw_Mkeeps2 981 18 0 X (by omega) (fun j hj => absurd hj (Nat.not_lt_zero j))
theorem dw_Mlays28 {R0 G0 : Nat → Int32} {y0 : Int32} (hk : dw_Kept X R0 G0 y0) (f k : Nat) : ∀ i G, i + k = 6 → (∀ d, d < i → G d = G0 d) → dw_Z (M_lays_28 (f + k + 1) (dw_mk X R G S N y) 0 (nI i)) (fun z => ∃ G', z = some (dw_mk X R G' S N y0, ()) ∧ ∀ d, d < 6 → G' d = G0 d) := by
  induction k with
  | zero =>
    intro i G hi h1
    rw [M_lays_28, if_pos (show (6 : Int32) ≤ nI i from nI_le (a := 6) (by omega) (by omega))]
    repeat (first | with_reducible rw [bnd_s] | with_reducible rw [nmd_s] | with_reducible rw [bn2_s] | with_reducible rw [grd_t] | ((conv => arg 1; arg 1; simp (disch := omega) only [dw_is, dw_f0, dw_t0, dw_f9, dw_t9, dw_f12, dw_t12, dw_f13, dw_t13, dw_f14, dw_t14, dw_f22, dw_t22, dw_f23, dw_t23, dw_f24, dw_t24, dw_f25, dw_t25, dw_f28, dw_t28, dw_f29, dw_t29, dw_f30, dw_t30, dw_f35, dw_t35, dw_f7, dw_t7, dw_f5, dw_t5, dw_f6, dw_t6, dw_f1, dw_f2, dw_f3, dw_f4, dw_f8, dw_f10, dw_f11, dw_f15, dw_f16, dw_f17, dw_f18, dw_f19, dw_f20, dw_f21, dw_f26, dw_f27, dw_f31, dw_f32, dw_f33, dw_f34, dw_a1, dw_w1, dw_a2, dw_w2, dw_a3, dw_w3, dw_a4, dw_w4, dw_a5, dw_w5, dw_a6, dw_w6, dw_a7, dw_w7, dw_a8, dw_w8, dw_a9_0, dw_s9_0, dw_a9_1, dw_s9_1, dw_a10, dw_w10, dw_a10_0, dw_w10_0, dw_a10_1, dw_w10_1, dw_a10_2, dw_w10_2, dw_a11, dw_w11, dw_a12, dw_w12, dw_a13, dw_w13, dw_a14, dw_w14, dw_a15, dw_w15, dw_a16, dw_w16, dw_a17, dw_w17, dw_a17_0, dw_w17_0, dw_a18, dw_w18, dw_a18_0, dw_w18_0, dw_a18_1, dw_w18_1, dw_a18_2, dw_w18_2, dw_a18_3, dw_w18_3, dw_a18_4, dw_w18_4, dw_a18_5, dw_w18_5, dw_a19, dw_w19, dw_a19_24, dw_w19_24, dw_a20, dw_w20, hk.2.2]); first | with_reducible rw [bnd_s] | with_reducible rw [bn2_s] | with_reducible rw [grd_t]))
    exact ⟨G, rfl, fun d hd => h1 d (by omega)⟩
  | succ k ih =>
    intro i G hi h1
    rw [show f + (k + 1) + 1 = f + k + 1 + 1 by omega, M_lays_28, if_neg (show ¬ (6 : Int32) ≤ nI i from nI_ge (b := 6) (by omega) (by omega))]
    repeat (first | with_reducible rw [bnd_s] | with_reducible rw [nmd_s] | with_reducible rw [bn2_s] | with_reducible rw [grd_t] | ((conv => arg 1; arg 1; simp (disch := omega) only [dw_is, dw_f0, dw_t0, dw_f9, dw_t9, dw_f12, dw_t12, dw_f13, dw_t13, dw_f14, dw_t14, dw_f22, dw_t22, dw_f23, dw_t23, dw_f24, dw_t24, dw_f25, dw_t25, dw_f28, dw_t28, dw_f29, dw_t29, dw_f30, dw_t30, dw_f35, dw_t35, dw_f7, dw_t7, dw_f5, dw_t5, dw_f6, dw_t6, dw_f1, dw_f2, dw_f3, dw_f4, dw_f8, dw_f10, dw_f11, dw_f15, dw_f16, dw_f17, dw_f18, dw_f19, dw_f20, dw_f21, dw_f26, dw_f27, dw_f31, dw_f32, dw_f33, dw_f34, dw_a1, dw_w1, dw_a2, dw_w2, dw_a3, dw_w3, dw_a4, dw_w4, dw_a5, dw_w5, dw_a6, dw_w6, dw_a7, dw_w7, dw_a8, dw_w8, dw_a9_0, dw_s9_0, dw_a9_1, dw_s9_1, dw_a10, dw_w10, dw_a10_0, dw_w10_0, dw_a10_1, dw_w10_1, dw_a10_2, dw_w10_2, dw_a11, dw_w11, dw_a12, dw_w12, dw_a13, dw_w13, dw_a14, dw_w14, dw_a15, dw_w15, dw_a16, dw_w16, dw_a17, dw_w17, dw_a17_0, dw_w17_0, dw_a18, dw_w18, dw_a18_0, dw_w18_0, dw_a18_1, dw_w18_1, dw_a18_2, dw_w18_2, dw_a18_3, dw_w18_3, dw_a18_4, dw_w18_4, dw_a18_5, dw_w18_5, dw_a19, dw_w19, dw_a19_24, dw_w19_24, dw_a20, dw_w20, dw_18p, hk.2.1 i (by omega)]); first | with_reducible rw [bnd_s] | with_reducible rw [bn2_s] | with_reducible rw [grd_t]))
    rw [nI_1]
    refine ih (i + 1) _ (by omega) ?_
    intro d hd
    rw [upd_app]
    by_cases c : d = i
    · rw [if_pos c, c]
    · rw [if_neg c, h1 d (by omega)]
theorem dw_Mlays2 {R0 G0 : Nat → Int32} {y0 : Int32} (hk : dw_Kept X R0 G0 y0) (f k : Nat) : ∀ i R, i + k = 18 → (∀ j, j < i → R j = R0 j) → dw_Z (M_lays_2 (f + k + 1) (dw_mk X R G S N y) 0 (nI i)) (fun z => ∃ R' G', z = some (dw_mk X R' G' S N y0, ()) ∧ (∀ k, k < 18 → R' k = R0 k) ∧ ∀ d, d < 6 → G' d = G0 d) := by
  induction k with
  | zero =>
    intro i R hi h1
    rw [M_lays_2, if_pos (show (18 : Int32) ≤ nI i from nI_le (a := 18) (by omega) (by omega))]
    obtain ⟨G', e1, e2⟩ := dw_Mlays28 (R := R) (S := S) (N := N) (y := y) hk 993 6 0 G (by omega) (fun d hd => absurd hd (Nat.not_lt_zero d))
    exact ⟨R, G', e1, fun j hj => h1 j (by omega), e2⟩
  | succ k ih =>
    intro i R hi h1
    rw [show f + (k + 1) + 1 = f + k + 1 + 1 by omega, M_lays_2, if_neg (show ¬ (18 : Int32) ≤ nI i from nI_ge (b := 18) (by omega) (by omega))]
    repeat (first | with_reducible rw [bnd_s] | with_reducible rw [nmd_s] | with_reducible rw [bn2_s] | with_reducible rw [grd_t] | ((conv => arg 1; arg 1; simp (disch := omega) only [dw_is, dw_f0, dw_t0, dw_f9, dw_t9, dw_f12, dw_t12, dw_f13, dw_t13, dw_f14, dw_t14, dw_f22, dw_t22, dw_f23, dw_t23, dw_f24, dw_t24, dw_f25, dw_t25, dw_f28, dw_t28, dw_f29, dw_t29, dw_f30, dw_t30, dw_f35, dw_t35, dw_f7, dw_t7, dw_f5, dw_t5, dw_f6, dw_t6, dw_f1, dw_f2, dw_f3, dw_f4, dw_f8, dw_f10, dw_f11, dw_f15, dw_f16, dw_f17, dw_f18, dw_f19, dw_f20, dw_f21, dw_f26, dw_f27, dw_f31, dw_f32, dw_f33, dw_f34, dw_a1, dw_w1, dw_a2, dw_w2, dw_a3, dw_w3, dw_a4, dw_w4, dw_a5, dw_w5, dw_a6, dw_w6, dw_a7, dw_w7, dw_a8, dw_w8, dw_a9_0, dw_s9_0, dw_a9_1, dw_s9_1, dw_a10, dw_w10, dw_a10_0, dw_w10_0, dw_a10_1, dw_w10_1, dw_a10_2, dw_w10_2, dw_a11, dw_w11, dw_a12, dw_w12, dw_a13, dw_w13, dw_a14, dw_w14, dw_a15, dw_w15, dw_a16, dw_w16, dw_a17, dw_w17, dw_a17_0, dw_w17_0, dw_a18, dw_w18, dw_a18_0, dw_w18_0, dw_a18_1, dw_w18_1, dw_a18_2, dw_w18_2, dw_a18_3, dw_w18_3, dw_a18_4, dw_w18_4, dw_a18_5, dw_w18_5, dw_a19, dw_w19, dw_a19_24, dw_w19_24, dw_a20, dw_w20, hk.1 i (by omega)]); first | with_reducible rw [bnd_s] | with_reducible rw [bn2_s] | with_reducible rw [grd_t]))
    rw [nI_1]
    refine ih (i + 1) _ (by omega) ?_
    intro j hj
    rw [upd_app]
    by_cases c : j = i
    · rw [if_pos c, c]
    · rw [if_neg c, h1 j (by omega)]
theorem dw_Mlays {R0 G0 : Nat → Int32} {y0 : Int32} (hk : dw_Kept X R0 G0 y0) : ∃ R' G', M_lays (dw_mk X R G S N y) 0 = some (dw_mk X R' G' S N y0, ()) ∧ (∀ k, k < 18 → R' k = R0 k) ∧ ∀ d, d < 6 → G' d = G0 d := dw_Mlays2 hk 981 18 0 R (by omega) (fun j hj => absurd hj (Nat.not_lt_zero j))
end MC
/-! years on end -/
theorem dw_years_S (w : dw_W) (cl : Int64) (st : dw_L × Int32) (k : Nat) : dw_years w cl st (k + 1) = dw_year w cl (dw_years w cl st k) := by
  rw [dw_years]
theorem dw_year_1 (w : dw_W) (cl : Int64) (st : dw_L × Int32) : (dw_year w cl st).1 = dw_turn w cl st.2 st.1 6 := by
  rw [dw_year]
theorem dw_year_2 (w : dw_W) (cl : Int64) (st : dw_L × Int32) : (dw_year w cl st).2 = st.2 + 1 := by
  rw [dw_year]
theorem dw_years_0 (w : dw_W) (cl : Int64) (st : dw_L × Int32) : dw_years w cl st 0 = st := by
  rw [dw_years]
theorem dw_years_y (w : dw_W) (cl : Int64) (s : dw_L) (yy : Nat) (n : Nat) : (dw_years w cl (s, nI yy) n).2 = nI (yy + n) := by
  induction n with
  | zero => rw [dw_years_0]; rfl
  | succ n ih => rw [dw_years_S, dw_year_2, ih, nI_1]; rfl
theorem dw_years_WF {w : dw_W} {cl : Int64} {s : dw_L} {y : Int32} (h : dw_WFA s) (n : Nat) : dw_WFA (dw_years w cl (s, y) n).1 := by
  induction n with
  | zero => rw [dw_years_0]; exact h
  | succ n ih => rw [dw_years_S, dw_year_1]; exact dw_WF_turn ih w cl _ 6
theorem dw_years_Dead {w : dw_W} {cl : Int64} {s : dw_L} {y : Int32} {m : Nat} (hm : m ≤ 6) (h : dw_Dead m s) (n : Nat) : dw_Dead m (dw_years w cl (s, y) n).1 := by
  induction n with
  | zero => rw [dw_years_0]; exact h
  | succ n ih =>
    rw [dw_years_S, dw_year_1, dw_turn6 ih w cl _ hm]
    exact dw_Dead_turn ih w cl _ m (Nat.le_refl m)
def dw_pcL (x : Int64) : Int32 := nI (dw_pc x.toBitVec.toNat)
def dw_small (x : Int64) : Prop := ∃ n : Nat, n < 2 ^ 40 ∧ x = lN n
theorem dw_small_and {x : Int64} (h : dw_small x) (z : Int64) : dw_small (x &&& z) := by
  obtain ⟨n, hn, rfl⟩ := h
  obtain ⟨k, hk, rfl⟩ := wb_of z
  exact ⟨n &&& k, Nat.lt_of_le_of_lt Nat.and_le_left hn, fb_andL n k⟩
theorem dw_pcL_of {n : Nat} (h : n < 2 ^ 40) : dw_pcL (lN n) = nI (dw_pc n) := by
  unfold dw_pcL
  rw [wb_tn (by omega)]
theorem dw_Jl' {h : pm_H} {x : Int64} (hx : dw_small x) : Jl_bitCount h x = some (h, dw_pcL x) := by
  obtain ⟨n, hn, rfl⟩ := hx
  rw [dw_Jl hn, dw_pcL_of hn]
theorem dw_Mb' {h : pm_H} {x : Int64} (hx : dw_small x) : M_bitsOf h x = some (h, dw_pcL x) := by
  obtain ⟨n, hn, rfl⟩ := hx
  rw [dw_Mb (by omega), dw_pcL_of hn]
/-- how many houses are under sand -/
def dw_bur (ho : Int64) (s : dw_L) : Int32 := dw_pcL (ho &&& dw_sand s 6)
/-- behind each of n years, together -/
def dw_sum (w : dw_W) (cl ho : Int64) (st : dw_L × Int32) : Nat → Int32
  | 0 => 0
  | k + 1 => dw_sum w cl ho st k + dw_bur ho (dw_years w cl st (k + 1)).1
section MC
variable {X : dw_X} {R G S N : Nat → Int32} {y : Int32} {w : dw_W} {r m : Nat} {s : dw_L}
/-- one year, as a state -/
theorem dw_Mstep {n : Nat} (hC : dw_Ctx X r m w) (hW : dw_WFA s) (hD : dw_Dead m s) {yy : Nat} (hyy : yy + n < 2 ^ 31) (hr : dw_Rel (dw_years w (dw_gJ X 6) (s, nI yy) n).1 m X R G) : dw_Et (M_yearOf (dw_mk X R G S N (nI (yy + n))) 0) X (dw_years w (dw_gJ X 6) (s, nI yy) (n + 1)).1 m (nI (yy + (n + 1))) (dw_live (dw_years w (dw_gJ X 6) (s, nI yy) n).1 6 &&& (dw_live (dw_years w (dw_gJ X 6) (s, nI yy) (n + 1)).1 6 ^^^ (-1))) := by
  have h := dw_Myear (S := S) (N := N) hC (dw_years_WF hW n) (dw_years_Dead hC.2.2.2.2 hD n) rfl hyy hr
  rw [nI_1] at h
  have e : (dw_years w (dw_gJ X 6) (s, nI yy) (n + 1)).1 = dw_turn w (dw_gJ X 6) (nI (yy + n)) (dw_years w (dw_gJ X 6) (s, nI yy) n).1 6 := by
    rw [dw_years_S, dw_year_1, dw_years_y]
  rw [e]
  exact h
theorem dw_MsandY {n : Nat} (hC : dw_Ctx X r m w) (hW : dw_WFA s) (hD : dw_Dead m s) (hr : dw_Rel (dw_years w (dw_gJ X 6) (s, y) n).1 m X R G) {y' : Int32} : M_sand (dw_mk X R G S N y') 0 = some (dw_mk X R G S N y', dw_sand (dw_years w (dw_gJ X 6) (s, y) n).1 6) := by
  have hm6 := hC.2.2.2.2
  have l1 := dw_sand6 (dw_years_Dead (w := w) (cl := dw_gJ X 6) (y := y) hm6 hD n) (6 - m) (by omega)
  rw [show m + (6 - m) = 6 by omega] at l1
  rw [l1]
  exact dw_Msand hC.2.2.2.1 hm6 (dw_RR_of hr) (fun d hd => dw_years_WF hW n d (by omega))
theorem dw_Mgoes4 (hC : dw_Ctx X r m w) (hW : dw_WFA s) (hD : dw_Dead m s) {yy n : Nat} (hn : n ≤ 40) (hyy : yy < 2 ^ 30) (hho : dw_small (dw_gJ X 5)) (f k : Nat) : ∀ i R G S N, i + k = n → dw_Rel (dw_years w (dw_gJ X 6) (s, nI yy) i).1 m X R G → dw_Et (M_goes_4 (f + k + 1) (dw_mk X R G S N (nI (yy + i))) 0 (nI n) (dw_sum w (dw_gJ X 6) (dw_gJ X 5) (s, nI yy) i) (nI i)) X (dw_years w (dw_gJ X 6) (s, nI yy) n).1 m (nI (yy + n)) (dw_sum w (dw_gJ X 6) (dw_gJ X 5) (s, nI yy) n) := by
  induction k with
  | zero =>
    intro i R G S N hi hr
    rw [show i = n by omega] at hr ⊢
    rw [M_goes_4, if_pos (show nI n ≤ nI n from nI_le (Nat.le_refl n) (by omega))]
    exact ⟨_, _, _, _, rfl, hr⟩
  | succ k ih =>
    intro i R G S N hi hr
    rw [show f + (k + 1) + 1 = f + k + 1 + 1 by omega, M_goes_4, if_neg (show ¬ nI n ≤ nI i from nI_ge (by omega) (by omega))]
    obtain ⟨R1, G1, S1, N1, e1, hr1⟩ := dw_Mstep (S := S) (N := N) hC hW hD (n := i) (yy := yy) (by omega) hr
    repeat (first | with_reducible rw [bnd_s] | with_reducible rw [nmd_s] | with_reducible rw [bn2_s] | with_reducible rw [grd_t] | ((conv => arg 1; arg 1; simp (disch := omega) only [dw_is, dw_f0, dw_t0, dw_f9, dw_t9, dw_f12, dw_t12, dw_f13, dw_t13, dw_f14, dw_t14, dw_f22, dw_t22, dw_f23, dw_t23, dw_f24, dw_t24, dw_f25, dw_t25, dw_f28, dw_t28, dw_f29, dw_t29, dw_f30, dw_t30, dw_f35, dw_t35, dw_f7, dw_t7, dw_f5, dw_t5, dw_f6, dw_t6, dw_f1, dw_f2, dw_f3, dw_f4, dw_f8, dw_f10, dw_f11, dw_f15, dw_f16, dw_f17, dw_f18, dw_f19, dw_f20, dw_f21, dw_f26, dw_f27, dw_f31, dw_f32, dw_f33, dw_f34, dw_a1, dw_w1, dw_a2, dw_w2, dw_a3, dw_w3, dw_a4, dw_w4, dw_a5, dw_w5, dw_a6, dw_w6, dw_a7, dw_w7, dw_a8, dw_w8, dw_a9_0, dw_s9_0, dw_a9_1, dw_s9_1, dw_a10, dw_w10, dw_a10_0, dw_w10_0, dw_a10_1, dw_w10_1, dw_a10_2, dw_w10_2, dw_a11, dw_w11, dw_a12, dw_w12, dw_a13, dw_w13, dw_a14, dw_w14, dw_a15, dw_w15, dw_a16, dw_w16, dw_a17, dw_w17, dw_a17_0, dw_w17_0, dw_a18, dw_w18, dw_a18_0, dw_w18_0, dw_a18_1, dw_w18_1, dw_a18_2, dw_w18_2, dw_a18_3, dw_w18_3, dw_a18_4, dw_w18_4, dw_a18_5, dw_w18_5, dw_a19, dw_w19, dw_a19_24, dw_w19_24, dw_a20, dw_w20, e1, dw_MsandY (n := i + 1) hC hW hD hr1]); first | with_reducible rw [bnd_s] | with_reducible rw [bn2_s] | with_reducible rw [grd_t]))
    rw [dw_and_comm, dw_Mb' (dw_small_and hho _)]
    repeat (first | with_reducible rw [bnd_s] | with_reducible rw [nmd_s] | with_reducible rw [bn2_s] | with_reducible rw [grd_t] | ((conv => arg 1; arg 1; simp (disch := omega) only [dw_is, dw_f0, dw_t0, dw_f9, dw_t9, dw_f12, dw_t12, dw_f13, dw_t13, dw_f14, dw_t14, dw_f22, dw_t22, dw_f23, dw_t23, dw_f24, dw_t24, dw_f25, dw_t25, dw_f28, dw_t28, dw_f29, dw_t29, dw_f30, dw_t30, dw_f35, dw_t35, dw_f7, dw_t7, dw_f5, dw_t5, dw_f6, dw_t6, dw_f1, dw_f2, dw_f3, dw_f4, dw_f8, dw_f10, dw_f11, dw_f15, dw_f16, dw_f17, dw_f18, dw_f19, dw_f20, dw_f21, dw_f26, dw_f27, dw_f31, dw_f32, dw_f33, dw_f34, dw_a1, dw_w1, dw_a2, dw_w2, dw_a3, dw_w3, dw_a4, dw_w4, dw_a5, dw_w5, dw_a6, dw_w6, dw_a7, dw_w7, dw_a8, dw_w8, dw_a9_0, dw_s9_0, dw_a9_1, dw_s9_1, dw_a10, dw_w10, dw_a10_0, dw_w10_0, dw_a10_1, dw_w10_1, dw_a10_2, dw_w10_2, dw_a11, dw_w11, dw_a12, dw_w12, dw_a13, dw_w13, dw_a14, dw_w14, dw_a15, dw_w15, dw_a16, dw_w16, dw_a17, dw_w17, dw_a17_0, dw_w17_0, dw_a18, dw_w18, dw_a18_0, dw_w18_0, dw_a18_1, dw_w18_1, dw_a18_2, dw_w18_2, dw_a18_3, dw_w18_3, dw_a18_4, dw_w18_4, dw_a18_5, dw_w18_5, dw_a19, dw_w19, dw_a19_24, dw_w19_24, dw_a20, dw_w20]); first | with_reducible rw [bnd_s] | with_reducible rw [bn2_s] | with_reducible rw [grd_t]))
    rw [nI_1]
    exact ih (i + 1) _ _ _ _ (by omega) hr1
theorem dw_Mgoes (hC : dw_Ctx X r m w) (hW : dw_WFA s) (hD : dw_Dead m s) {yy n : Nat} (hn : n ≤ 40) (hyy : yy < 2 ^ 30) (hho : dw_small (dw_gJ X 5)) (hr : dw_Rel s m X R G) : dw_Et (M_goes (dw_mk X R G S N (nI yy)) 0 (nI n)) X (dw_years w (dw_gJ X 6) (s, nI yy) n).1 m (nI (yy + n)) (dw_sum w (dw_gJ X 6) (dw_gJ X 5) (s, nI yy) n) := by
  have h := dw_Mgoes4 hC hW hD hn hyy hho (999 - n) n 0 R G S N (by omega) hr
  rw [show 999 - n + n + 1 = 1000 by omega] at h
  exact h
end MC
