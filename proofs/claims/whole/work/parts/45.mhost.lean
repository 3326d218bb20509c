/-! THE REFERENCE: image, back, sheets, taken -/
def dw_E8 (X X' : dw_X) : Prop := (∀ k, dw_gI X' k = dw_gI X k) ∧ (∀ k, dw_gJ X' k = dw_gJ X k) ∧ (∀ c i, c ≠ 8 → dw_gA X' c i = dw_gA X c i) ∧ (∀ i, dw_gY X' i = dw_gY X i)
theorem dw_E8_A {X X' : dw_X} (h : dw_E8 X X') (i : Nat) (v : Int32) : dw_E8 X (dw_A X' 8 i v) := ⟨h.1, h.2.1, fun c j hc => by rw [dw_AAn hc, h.2.2.1 c j hc], h.2.2.2⟩
section MC
variable {X : dw_X} {R G S N : Nat → Int32} {w : dw_W} {r m yy tx tp : Nat} {s : dw_L} {H : dw_H} {ho cl : Int64} {wt : Nat → dw_W} {tb : Nat → Nat} {im : Option dw_Ln} {y : Int32}
theorem dw_Mimage33 (f k : Nat) : ∀ i X', i + k = 6 → dw_E8 X X' → (∀ j, j < 18 → dw_gA X' 8 j = R j) → (∀ j, j < i → dw_gA X' 8 (18 + j) = G j) → dw_Z (M_image_33 (f + k + 1) (dw_mk X' R G S N y) 0 (nI i)) (fun z => ∃ X2, z = some (dw_mk (dw_A (dw_A (dw_A (dw_Y (dw_Y X2 0 (dw_gJ X 5)) 1 (dw_gJ X 6)) 10 0 (dw_gI X 0)) 10 1 y) 10 2 (dw_gI X 13)) R G S N y, dw_gI X 0) ∧ dw_E8 X X2 ∧ (∀ j, j < 18 → dw_gA X2 8 j = R j) ∧ ∀ j, j < 6 → dw_gA X2 8 (18 + j) = G j) := by
  induction k with
  | zero =>
    intro i X' hi e h1 h2
    rw [M_image_33, if_pos (show (6 : Int32) ≤ nI i from nI_le (a := 6) (by omega) (by omega))]
    repeat (first | with_reducible rw [bnd_s] | with_reducible rw [nmd_s] | with_reducible rw [bn2_s] | with_reducible rw [grd_t] | ((conv => arg 1; arg 1; simp (disch := omega) only [dw_is, dw_f0, dw_t0, dw_f9, dw_t9, dw_f12, dw_t12, dw_f13, dw_t13, dw_f14, dw_t14, dw_f22, dw_t22, dw_f23, dw_t23, dw_f24, dw_t24, dw_f25, dw_t25, dw_f28, dw_t28, dw_f29, dw_t29, dw_f30, dw_t30, dw_f35, dw_t35, dw_f7, dw_t7, dw_f5, dw_t5, dw_f6, dw_t6, dw_f1, dw_f2, dw_f3, dw_f4, dw_f8, dw_f10, dw_f11, dw_f15, dw_f16, dw_f17, dw_f18, dw_f19, dw_f20, dw_f21, dw_f26, dw_f27, dw_f31, dw_f32, dw_f33, dw_f34, dw_a1, dw_w1, dw_a2, dw_w2, dw_a3, dw_w3, dw_a4, dw_w4, dw_a5, dw_w5, dw_a6, dw_w6, dw_a7, dw_w7, dw_a8, dw_w8, dw_a9_0, dw_s9_0, dw_a9_1, dw_s9_1, dw_a10, dw_w10, dw_a10_0, dw_w10_0, dw_a10_1, dw_w10_1, dw_a10_2, dw_w10_2, dw_a11, dw_w11, dw_a12, dw_w12, dw_a13, dw_w13, dw_a14, dw_w14, dw_a15, dw_w15, dw_a16, dw_w16, dw_a17, dw_w17, dw_a17_0, dw_w17_0, dw_a18, dw_w18, dw_a18_0, dw_w18_0, dw_a18_1, dw_w18_1, dw_a18_2, dw_w18_2, dw_a18_3, dw_w18_3, dw_a18_4, dw_w18_4, dw_a18_5, dw_w18_5, dw_a19, dw_w19, dw_a19_24, dw_w19_24, dw_a20, dw_w20, dw_IA, dw_IY, dw_JY, e.2.1 5, e.2.1 6, e.1 0, e.1 13]); first | with_reducible rw [bnd_s] | with_reducible rw [bn2_s] | with_reducible rw [grd_t]))
    exact ⟨X', rfl, e, h1, fun j hj => h2 j (by omega)⟩
  | succ k ih =>
    intro i X' hi e h1 h2
    rw [show f + (k + 1) + 1 = f + k + 1 + 1 by omega, M_image_33, if_neg (show ¬ (6 : Int32) ≤ nI i from nI_ge (b := 6) (by omega) (by omega))]
    repeat (first | with_reducible rw [bnd_s] | with_reducible rw [nmd_s] | with_reducible rw [bn2_s] | with_reducible rw [grd_t] | ((conv => arg 1; arg 1; simp (disch := omega) only [dw_is, dw_f0, dw_t0, dw_f9, dw_t9, dw_f12, dw_t12, dw_f13, dw_t13, dw_f14, dw_t14, dw_f22, dw_t22, dw_f23, dw_t23, dw_f24, dw_t24, dw_f25, dw_t25, dw_f28, dw_t28, dw_f29, dw_t29, dw_f30, dw_t30, dw_f35, dw_t35, dw_f7, dw_t7, dw_f5, dw_t5, dw_f6, dw_t6, dw_f1, dw_f2, dw_f3, dw_f4, dw_f8, dw_f10, dw_f11, dw_f15, dw_f16, dw_f17, dw_f18, dw_f19, dw_f20, dw_f21, dw_f26, dw_f27, dw_f31, dw_f32, dw_f33, dw_f34, dw_a1, dw_w1, dw_a2, dw_w2, dw_a3, dw_w3, dw_a4, dw_w4, dw_a5, dw_w5, dw_a6, dw_w6, dw_a7, dw_w7, dw_a8, dw_w8, dw_a9_0, dw_s9_0, dw_a9_1, dw_s9_1, dw_a10, dw_w10, dw_a10_0, dw_w10_0, dw_a10_1, dw_w10_1, dw_a10_2, dw_w10_2, dw_a11, dw_w11, dw_a12, dw_w12, dw_a13, dw_w13, dw_a14, dw_w14, dw_a15, dw_w15, dw_a16, dw_w16, dw_a17, dw_w17, dw_a17_0, dw_w17_0, dw_a18, dw_w18, dw_a18_0, dw_w18_0, dw_a18_1, dw_w18_1, dw_a18_2, dw_w18_2, dw_a18_3, dw_w18_3, dw_a18_4, dw_w18_4, dw_a18_5, dw_w18_5, dw_a19, dw_w19, dw_a19_24, dw_w19_24, dw_a20, dw_w20, dw_18p]); first | with_reducible rw [bnd_s] | with_reducible rw [bn2_s] | with_reducible rw [grd_t]))
    rw [nI_1]
    refine ih (i + 1) _ (by omega) (dw_E8_A e _ _) ?_ ?_
    · intro j hj
      rw [dw_AA, if_neg (fun q => by omega), h1 j hj]
    · intro j hj
      rw [dw_AA]
      by_cases c : j = i
      · rw [if_pos ⟨rfl, by rw [c]⟩, c]
      · rw [if_neg (fun q => c (by omega)), h2 j (by omega)]
theorem dw_Mimage7 (f k : Nat) : ∀ i X', i + k = 18 → dw_E8 X X' → (∀ j, j < i → dw_gA X' 8 j = R j) → dw_Z (M_image_7 (f + k + 1) (dw_mk X' R G S N y) 0 (nI i)) (fun z => ∃ X2, z = some (dw_mk (dw_A (dw_A (dw_A (dw_Y (dw_Y X2 0 (dw_gJ X 5)) 1 (dw_gJ X 6)) 10 0 (dw_gI X 0)) 10 1 y) 10 2 (dw_gI X 13)) R G S N y, dw_gI X 0) ∧ dw_E8 X X2 ∧ (∀ j, j < 18 → dw_gA X2 8 j = R j) ∧ ∀ j, j < 6 → dw_gA X2 8 (18 + j) = G j) := by
  induction k with
  | zero =>
    intro i X' hi e h1
    rw [M_image_7, if_pos (show (18 : Int32) ≤ nI i from nI_le (a := 18) (by omega) (by omega))]
    exact dw_Mimage33 993 6 0 X' rfl e (fun j hj => h1 j (by omega)) (fun j hj => absurd hj (Nat.not_lt_zero j))
  | succ k ih =>
    intro i X' hi e h1
    rw [show f + (k + 1) + 1 = f + k + 1 + 1 by omega, M_image_7, if_neg (show ¬ (18 : Int32) ≤ nI i from nI_ge (b := 18) (by omega) (by omega))]
    repeat (first | with_reducible rw [bnd_s] | with_reducible rw [nmd_s] | with_reducible rw [bn2_s] | with_reducible rw [grd_t] | ((conv => arg 1; arg 1; simp (disch := omega) only [dw_is, dw_f0, dw_t0, dw_f9, dw_t9, dw_f12, dw_t12, dw_f13, dw_t13, dw_f14, dw_t14, dw_f22, dw_t22, dw_f23, dw_t23, dw_f24, dw_t24, dw_f25, dw_t25, dw_f28, dw_t28, dw_f29, dw_t29, dw_f30, dw_t30, dw_f35, dw_t35, dw_f7, dw_t7, dw_f5, dw_t5, dw_f6, dw_t6, dw_f1, dw_f2, dw_f3, dw_f4, dw_f8, dw_f10, dw_f11, dw_f15, dw_f16, dw_f17, dw_f18, dw_f19, dw_f20, dw_f21, dw_f26, dw_f27, dw_f31, dw_f32, dw_f33, dw_f34, dw_a1, dw_w1, dw_a2, dw_w2, dw_a3, dw_w3, dw_a4, dw_w4, dw_a5, dw_w5, dw_a6, dw_w6, dw_a7, dw_w7, dw_a8, dw_w8, dw_a9_0, dw_s9_0, dw_a9_1, dw_s9_1, dw_a10, dw_w10, dw_a10_0, dw_w10_0, dw_a10_1, dw_w10_1, dw_a10_2, dw_w10_2, dw_a11, dw_w11, dw_a12, dw_w12, dw_a13, dw_w13, dw_a14, dw_w14, dw_a15, dw_w15, dw_a16, dw_w16, dw_a17, dw_w17, dw_a17_0, dw_w17_0, dw_a18, dw_w18, dw_a18_0, dw_w18_0, dw_a18_1, dw_w18_1, dw_a18_2, dw_w18_2, dw_a18_3, dw_w18_3, dw_a18_4, dw_w18_4, dw_a18_5, dw_w18_5, dw_a19, dw_w19, dw_a19_24, dw_w19_24, dw_a20, dw_w20]); first | with_reducible rw [bnd_s] | with_reducible rw [bn2_s] | with_reducible rw [grd_t]))
    rw [nI_1]
    refine ih (i + 1) _ (by omega) (dw_E8_A e _ _) ?_
    intro j hj
    rw [dw_AA]
    by_cases c : j = i
    · rw [if_pos ⟨rfl, c⟩, c]
    · rw [if_neg (fun q => c (by omega)), h1 j (by omega)]
theorem dw_Mimage_ (h : dw_RX X R G ((m, s, yy, ho, cl, r), (tx, wt), (tp, tb), im, H)) (ok : dw_Ok ((m, s, yy, ho, cl, r), (tx, wt), (tp, tb), im, H)) : dw_Go (M_image (dw_mk X R G S N (nI yy)) 0) (dw_oimage ((m, s, yy, ho, cl, r), (tx, wt), (tp, tb), im, H)).1 (dw_oimage ((m, s, yy, ho, cl, r), (tx, wt), (tp, tb), im, H)).2 := by
  obtain ⟨h1, h2, h3, h4, h5, h6, h7, h8, h9, h10, h11⟩ := id h
  obtain ⟨⟨o1, o2, o3, o4, o5, o6, o7⟩, _⟩ := id ok
  rw [M_image, dw_oimage]
  repeat (first | with_reducible rw [bnd_s] | with_reducible rw [nmd_s] | with_reducible rw [bn2_s] | with_reducible rw [grd_t] | ((conv => arg 1; arg 1; simp (disch := omega) only [dw_is, dw_f0, dw_t0, dw_f9, dw_t9, dw_f12, dw_t12, dw_f13, dw_t13, dw_f14, dw_t14, dw_f22, dw_t22, dw_f23, dw_t23, dw_f24, dw_t24, dw_f25, dw_t25, dw_f28, dw_t28, dw_f29, dw_t29, dw_f30, dw_t30, dw_f35, dw_t35, dw_f7, dw_t7, dw_f5, dw_t5, dw_f6, dw_t6, dw_f1, dw_f2, dw_f3, dw_f4, dw_f8, dw_f10, dw_f11, dw_f15, dw_f16, dw_f17, dw_f18, dw_f19, dw_f20, dw_f21, dw_f26, dw_f27, dw_f31, dw_f32, dw_f33, dw_f34, dw_a1, dw_w1, dw_a2, dw_w2, dw_a3, dw_w3, dw_a4, dw_w4, dw_a5, dw_w5, dw_a6, dw_w6, dw_a7, dw_w7, dw_a8, dw_w8, dw_a9_0, dw_s9_0, dw_a9_1, dw_s9_1, dw_a10, dw_w10, dw_a10_0, dw_w10_0, dw_a10_1, dw_w10_1, dw_a10_2, dw_w10_2, dw_a11, dw_w11, dw_a12, dw_w12, dw_a13, dw_w13, dw_a14, dw_w14, dw_a15, dw_w15, dw_a16, dw_w16, dw_a17, dw_w17, dw_a17_0, dw_w17_0, dw_a18, dw_w18, dw_a18_0, dw_w18_0, dw_a18_1, dw_w18_1, dw_a18_2, dw_w18_2, dw_a18_3, dw_w18_3, dw_a18_4, dw_w18_4, dw_a18_5, dw_w18_5, dw_a19, dw_w19, dw_a19_24, dw_w19_24, dw_a20, dw_w20]); first | with_reducible rw [bnd_s] | with_reducible rw [bn2_s] | with_reducible rw [grd_t]))
  obtain ⟨X2, e1, e2, e3, e4⟩ := dw_Mimage7 (X := dw_I X 14 1) (R := R) (G := G) (S := S) (N := N) (y := nI yy) 981 18 0 (dw_I X 14 1) rfl ⟨fun _ => rfl, fun _ => rfl, fun _ _ _ => rfl, fun _ => rfl⟩ (fun j hj => absurd hj (Nat.not_lt_zero j))
  have e5 : M_image_7 1000 (dw_mk (dw_I X 14 1) R G S N (nI yy)) 0 0 = _ := e1
  rw [e5]
  have j5 : dw_gJ (dw_I X 14 1) 5 = ho := h3
  have j6 : dw_gJ (dw_I X 14 1) 6 = cl := h4
  have j0 : dw_gI (dw_I X 14 1) 0 = nI m := by rw [dw_IIn (by decide), h2]
  have j13 : dw_gI (dw_I X 14 1) 13 = nI r := by rw [dw_IIn (by decide), h5]
  rw [j5, j6, j0, j13]
  have eA : ∀ c i, c ≠ 8 → c ≠ 10 → dw_gA (dw_A (dw_A (dw_A (dw_Y (dw_Y X2 0 ho) 1 cl) 10 0 (nI m)) 10 1 (nI yy)) 10 2 (nI r)) c i = dw_gA X c i := by
    intro c i c8 c10
    rw [dw_AAn c10, dw_AAn c10, dw_AAn c10, dw_AY, dw_AY, e2.2.2.1 c i c8, dw_AI]
  have eI : ∀ k, k ≠ 14 → dw_gI (dw_A (dw_A (dw_A (dw_Y (dw_Y X2 0 ho) 1 cl) 10 0 (nI m)) 10 1 (nI yy)) 10 2 (nI r)) k = dw_gI X k := by
    intro k hk
    rw [dw_IA, dw_IA, dw_IA, dw_IY, dw_IY, e2.1, dw_IIn hk]
  have eJ : ∀ k, dw_gJ (dw_A (dw_A (dw_A (dw_Y (dw_Y X2 0 ho) 1 cl) 10 0 (nI m)) 10 1 (nI yy)) 10 2 (nI r)) k = dw_gJ X k := by
    intro k
    rw [dw_JA, dw_JA, dw_JA, dw_JY, dw_JY, e2.2.1, dw_JI]
  refine ⟨_, R, G, S, N, rfl, dw_Rel_of (fun c i hc => eA c i (by omega) (by omega)) h1, (eI 0 (by decide)).trans h2, (eJ 5).trans h3, (eJ 6).trans h4, (eI 13 (by decide)).trans h5, (eI 12 (by decide)).trans h6, fun t ht => dw_ML_of (fun c i hc => eA c i (by omega) (by omega)) (h7 t ht), (eI 9 (by decide)).trans h8, fun k hk => (eA 5 k (by decide) (by decide)).trans (h9 k hk), ?_, dw_SH_of (fun c i hc => eA c i (by omega) (by omega)) h11⟩
  have e8 : ∀ i, dw_gA (dw_A (dw_A (dw_A (dw_Y (dw_Y X2 0 ho) 1 cl) 10 0 (nI m)) 10 1 (nI yy)) 10 2 (nI r)) 8 i = dw_gA X2 8 i := by
    intro i
    rw [dw_AAn (by decide), dw_AAn (by decide), dw_AAn (by decide), dw_AY, dw_AY]
  refine ⟨?_, fun d hd => ?_, ?_, ?_, ?_, ?_, ?_⟩
  · rw [dw_IA, dw_IA, dw_IA, dw_IY, dw_IY, e2.1, dw_II, if_pos rfl]
  · obtain ⟨i3, i4, i5, i6, i1, i2⟩ := h1 d hd
    rw [e8, e8, e8, e8, e3 _ (by omega), e3 _ (by omega), e3 _ (by omega), e4 _ (by omega)]
    exact ⟨i3, i4, i5, i6⟩
  · rw [dw_YA, dw_YA, dw_YA, dw_YY, if_neg (by decide), dw_YY, if_pos rfl]
  · rw [dw_YA, dw_YA, dw_YA, dw_YY, if_pos rfl]
  · rw [dw_AA, if_neg (by decide), dw_AA, if_neg (by decide), dw_AA, if_pos ⟨rfl, rfl⟩]
  · rw [dw_AA, if_neg (by decide), dw_AA, if_pos ⟨rfl, rfl⟩]
  · rw [dw_AA, if_pos ⟨rfl, rfl⟩]
theorem dw_Mback38 (f k : Nat) : ∀ i G, i + k = 6 → (∀ j, j < i → G j = dw_gA X 8 (18 + j)) → dw_Z (M_back_38 (f + k + 1) (dw_mk X R G S N y) 0 (nI i)) (fun z => ∃ G', z = some (dw_mk (dw_I (dw_I (dw_J (dw_J X 5 (dw_gY X 0)) 6 (dw_gY X 1)) 0 (dw_gA X 10 0)) 13 (dw_gA X 10 2)) R G' S N (dw_gA X 10 1), dw_gA X 10 0) ∧ ∀ j, j < 6 → G' j = dw_gA X 8 (18 + j)) := by
  induction k with
  | zero =>
    intro i G hi h1
    rw [M_back_38, if_pos (show (6 : Int32) ≤ nI i from nI_le (a := 6) (by omega) (by omega))]
    repeat (first | with_reducible rw [bnd_s] | with_reducible rw [nmd_s] | with_reducible rw [bn2_s] | with_reducible rw [grd_t] | ((conv => arg 1; arg 1; simp (disch := omega) only [dw_is, dw_f0, dw_t0, dw_f9, dw_t9, dw_f12, dw_t12, dw_f13, dw_t13, dw_f14, dw_t14, dw_f22, dw_t22, dw_f23, dw_t23, dw_f24, dw_t24, dw_f25, dw_t25, dw_f28, dw_t28, dw_f29, dw_t29, dw_f30, dw_t30, dw_f35, dw_t35, dw_f7, dw_t7, dw_f5, dw_t5, dw_f6, dw_t6, dw_f1, dw_f2, dw_f3, dw_f4, dw_f8, dw_f10, dw_f11, dw_f15, dw_f16, dw_f17, dw_f18, dw_f19, dw_f20, dw_f21, dw_f26, dw_f27, dw_f31, dw_f32, dw_f33, dw_f34, dw_a1, dw_w1, dw_a2, dw_w2, dw_a3, dw_w3, dw_a4, dw_w4, dw_a5, dw_w5, dw_a6, dw_w6, dw_a7, dw_w7, dw_a8, dw_w8, dw_a9_0, dw_s9_0, dw_a9_1, dw_s9_1, dw_a10, dw_w10, dw_a10_0, dw_w10_0, dw_a10_1, dw_w10_1, dw_a10_2, dw_w10_2, dw_a11, dw_w11, dw_a12, dw_w12, dw_a13, dw_w13, dw_a14, dw_w14, dw_a15, dw_w15, dw_a16, dw_w16, dw_a17, dw_w17, dw_a17_0, dw_w17_0, dw_a18, dw_w18, dw_a18_0, dw_w18_0, dw_a18_1, dw_w18_1, dw_a18_2, dw_w18_2, dw_a18_3, dw_w18_3, dw_a18_4, dw_w18_4, dw_a18_5, dw_w18_5, dw_a19, dw_w19, dw_a19_24, dw_w19_24, dw_a20, dw_w20, dw_AJ, dw_AI, dw_YJ, dw_IIn (show (0 : Nat) ≠ 13 by decide), dw_II0]); first | with_reducible rw [bnd_s] | with_reducible rw [bn2_s] | with_reducible rw [grd_t]))
    exact ⟨G, rfl, fun j hj => h1 j (by omega)⟩
  | succ k ih =>
    intro i G hi h1
    rw [show f + (k + 1) + 1 = f + k + 1 + 1 by omega, M_back_38, if_neg (show ¬ (6 : Int32) ≤ nI i from nI_ge (b := 6) (by omega) (by omega))]
    repeat (first | with_reducible rw [bnd_s] | with_reducible rw [nmd_s] | with_reducible rw [bn2_s] | with_reducible rw [grd_t] | ((conv => arg 1; arg 1; simp (disch := omega) only [dw_is, dw_f0, dw_t0, dw_f9, dw_t9, dw_f12, dw_t12, dw_f13, dw_t13, dw_f14, dw_t14, dw_f22, dw_t22, dw_f23, dw_t23, dw_f24, dw_t24, dw_f25, dw_t25, dw_f28, dw_t28, dw_f29, dw_t29, dw_f30, dw_t30, dw_f35, dw_t35, dw_f7, dw_t7, dw_f5, dw_t5, dw_f6, dw_t6, dw_f1, dw_f2, dw_f3, dw_f4, dw_f8, dw_f10, dw_f11, dw_f15, dw_f16, dw_f17, dw_f18, dw_f19, dw_f20, dw_f21, dw_f26, dw_f27, dw_f31, dw_f32, dw_f33, dw_f34, dw_a1, dw_w1, dw_a2, dw_w2, dw_a3, dw_w3, dw_a4, dw_w4, dw_a5, dw_w5, dw_a6, dw_w6, dw_a7, dw_w7, dw_a8, dw_w8, dw_a9_0, dw_s9_0, dw_a9_1, dw_s9_1, dw_a10, dw_w10, dw_a10_0, dw_w10_0, dw_a10_1, dw_w10_1, dw_a10_2, dw_w10_2, dw_a11, dw_w11, dw_a12, dw_w12, dw_a13, dw_w13, dw_a14, dw_w14, dw_a15, dw_w15, dw_a16, dw_w16, dw_a17, dw_w17, dw_a17_0, dw_w17_0, dw_a18, dw_w18, dw_a18_0, dw_w18_0, dw_a18_1, dw_w18_1, dw_a18_2, dw_w18_2, dw_a18_3, dw_w18_3, dw_a18_4, dw_w18_4, dw_a18_5, dw_w18_5, dw_a19, dw_w19, dw_a19_24, dw_w19_24, dw_a20, dw_w20, dw_18p]); first | with_reducible rw [bnd_s] | with_reducible rw [bn2_s] | with_reducible rw [grd_t]))
    rw [nI_1]
    refine ih (i + 1) _ (by omega) ?_
    intro j hj
    rw [upd_app]
    by_cases c : j = i
    · rw [if_pos c, c]
    · rw [if_neg c, h1 j (by omega)]
theorem dw_Mback12 (f k : Nat) : ∀ i R, i + k = 18 → (∀ j, j < i → R j = dw_gA X 8 j) → dw_Z (M_back_12 (f + k + 1) (dw_mk X R G S N y) 0 (nI i)) (fun z => ∃ R' G', z = some (dw_mk (dw_I (dw_I (dw_J (dw_J X 5 (dw_gY X 0)) 6 (dw_gY X 1)) 0 (dw_gA X 10 0)) 13 (dw_gA X 10 2)) R' G' S N (dw_gA X 10 1), dw_gA X 10 0) ∧ (∀ j, j < 18 → R' j = dw_gA X 8 j) ∧ ∀ j, j < 6 → G' j = dw_gA X 8 (18 + j)) := by
  induction k with
  | zero =>
    intro i R hi h1
    rw [M_back_12, if_pos (show (18 : Int32) ≤ nI i from nI_le (a := 18) (by omega) (by omega))]
    obtain ⟨G', e1, e2⟩ := dw_Mback38 (X := X) (R := R) (S := S) (N := N) (y := y) 993 6 0 G rfl (fun j hj => absurd hj (Nat.not_lt_zero j))
    exact ⟨R, G', e1, fun j hj => h1 j (by omega), e2⟩
  | succ k ih =>
    intro i R hi h1
    rw [show f + (k + 1) + 1 = f + k + 1 + 1 by omega, M_back_12, if_neg (show ¬ (18 : Int32) ≤ nI i from nI_ge (b := 18) (by omega) (by omega))]
    repeat (first | with_reducible rw [bnd_s] | with_reducible rw [nmd_s] | with_reducible rw [bn2_s] | with_reducible rw [grd_t] | ((conv => arg 1; arg 1; simp (disch := omega) only [dw_is, dw_f0, dw_t0, dw_f9, dw_t9, dw_f12, dw_t12, dw_f13, dw_t13, dw_f14, dw_t14, dw_f22, dw_t22, dw_f23, dw_t23, dw_f24, dw_t24, dw_f25, dw_t25, dw_f28, dw_t28, dw_f29, dw_t29, dw_f30, dw_t30, dw_f35, dw_t35, dw_f7, dw_t7, dw_f5, dw_t5, dw_f6, dw_t6, dw_f1, dw_f2, dw_f3, dw_f4, dw_f8, dw_f10, dw_f11, dw_f15, dw_f16, dw_f17, dw_f18, dw_f19, dw_f20, dw_f21, dw_f26, dw_f27, dw_f31, dw_f32, dw_f33, dw_f34, dw_a1, dw_w1, dw_a2, dw_w2, dw_a3, dw_w3, dw_a4, dw_w4, dw_a5, dw_w5, dw_a6, dw_w6, dw_a7, dw_w7, dw_a8, dw_w8, dw_a9_0, dw_s9_0, dw_a9_1, dw_s9_1, dw_a10, dw_w10, dw_a10_0, dw_w10_0, dw_a10_1, dw_w10_1, dw_a10_2, dw_w10_2, dw_a11, dw_w11, dw_a12, dw_w12, dw_a13, dw_w13, dw_a14, dw_w14, dw_a15, dw_w15, dw_a16, dw_w16, dw_a17, dw_w17, dw_a17_0, dw_w17_0, dw_a18, dw_w18, dw_a18_0, dw_w18_0, dw_a18_1, dw_w18_1, dw_a18_2, dw_w18_2, dw_a18_3, dw_w18_3, dw_a18_4, dw_w18_4, dw_a18_5, dw_w18_5, dw_a19, dw_w19, dw_a19_24, dw_w19_24, dw_a20, dw_w20]); first | with_reducible rw [bnd_s] | with_reducible rw [bn2_s] | with_reducible rw [grd_t]))
    rw [nI_1]
    refine ih (i + 1) _ (by omega) ?_
    intro j hj
    rw [upd_app]
    by_cases c : j = i
    · rw [if_pos c, c]
    · rw [if_neg c, h1 j (by omega)]
theorem dw_Mback_ (h : dw_RX X R G ((m, s, yy, ho, cl, r), (tx, wt), (tp, tb), im, H)) (ok : dw_Ok ((m, s, yy, ho, cl, r), (tx, wt), (tp, tb), im, H)) : dw_Go (M_back (dw_mk X R G S N (nI yy)) 0) (dw_oback ((m, s, yy, ho, cl, r), (tx, wt), (tp, tb), im, H)).1 (dw_oback ((m, s, yy, ho, cl, r), (tx, wt), (tp, tb), im, H)).2 := by
  obtain ⟨h1, h2, h3, h4, h5, h6, h7, h8, h9, h10, h11⟩ := id h
  obtain ⟨⟨o1, o2, o3, o4, o5, o6, o7⟩, _, _, _, _, _, k7, _⟩ := id ok
  rw [M_back]
  cases im with
  | none =>
    have h10' : dw_gI X 14 = 0 := h10
    rw [dw_oback]
    repeat (first | with_reducible rw [bnd_s] | with_reducible rw [nmd_s] | with_reducible rw [bn2_s] | with_reducible rw [grd_t] | ((conv => arg 1; arg 1; simp (disch := omega) only [dw_is, dw_f0, dw_t0, dw_f9, dw_t9, dw_f12, dw_t12, dw_f13, dw_t13, dw_f14, dw_t14, dw_f22, dw_t22, dw_f23, dw_t23, dw_f24, dw_t24, dw_f25, dw_t25, dw_f28, dw_t28, dw_f29, dw_t29, dw_f30, dw_t30, dw_f35, dw_t35, dw_f7, dw_t7, dw_f5, dw_t5, dw_f6, dw_t6, dw_f1, dw_f2, dw_f3, dw_f4, dw_f8, dw_f10, dw_f11, dw_f15, dw_f16, dw_f17, dw_f18, dw_f19, dw_f20, dw_f21, dw_f26, dw_f27, dw_f31, dw_f32, dw_f33, dw_f34, dw_a1, dw_w1, dw_a2, dw_w2, dw_a3, dw_w3, dw_a4, dw_w4, dw_a5, dw_w5, dw_a6, dw_w6, dw_a7, dw_w7, dw_a8, dw_w8, dw_a9_0, dw_s9_0, dw_a9_1, dw_s9_1, dw_a10, dw_w10, dw_a10_0, dw_w10_0, dw_a10_1, dw_w10_1, dw_a10_2, dw_w10_2, dw_a11, dw_w11, dw_a12, dw_w12, dw_a13, dw_w13, dw_a14, dw_w14, dw_a15, dw_w15, dw_a16, dw_w16, dw_a17, dw_w17, dw_a17_0, dw_w17_0, dw_a18, dw_w18, dw_a18_0, dw_w18_0, dw_a18_1, dw_w18_1, dw_a18_2, dw_w18_2, dw_a18_3, dw_w18_3, dw_a18_4, dw_w18_4, dw_a18_5, dw_w18_5, dw_a19, dw_w19, dw_a19_24, dw_w19_24, dw_a20, dw_w20, h10']); first | with_reducible rw [bnd_s] | with_reducible rw [bn2_s] | with_reducible rw [grd_t]))
    rw [if_pos rfl]
    exact dw_Go_id h
  | some l =>
    obtain ⟨m', s', yy', ho', cl', r'⟩ := l
    obtain ⟨g1, g2, g3, g4, g5, g6, g7⟩ := id h10
    obtain ⟨⟨i1, i2, i3, i4, i5, i6, i7⟩, i8, i9⟩ := k7
    rw [dw_oback]
    repeat (first | with_reducible rw [bnd_s] | with_reducible rw [nmd_s] | with_reducible rw [bn2_s] | with_reducible rw [grd_t] | ((conv => arg 1; arg 1; simp (disch := omega) only [dw_is, dw_f0, dw_t0, dw_f9, dw_t9, dw_f12, dw_t12, dw_f13, dw_t13, dw_f14, dw_t14, dw_f22, dw_t22, dw_f23, dw_t23, dw_f24, dw_t24, dw_f25, dw_t25, dw_f28, dw_t28, dw_f29, dw_t29, dw_f30, dw_t30, dw_f35, dw_t35, dw_f7, dw_t7, dw_f5, dw_t5, dw_f6, dw_t6, dw_f1, dw_f2, dw_f3, dw_f4, dw_f8, dw_f10, dw_f11, dw_f15, dw_f16, dw_f17, dw_f18, dw_f19, dw_f20, dw_f21, dw_f26, dw_f27, dw_f31, dw_f32, dw_f33, dw_f34, dw_a1, dw_w1, dw_a2, dw_w2, dw_a3, dw_w3, dw_a4, dw_w4, dw_a5, dw_w5, dw_a6, dw_w6, dw_a7, dw_w7, dw_a8, dw_w8, dw_a9_0, dw_s9_0, dw_a9_1, dw_s9_1, dw_a10, dw_w10, dw_a10_0, dw_w10_0, dw_a10_1, dw_w10_1, dw_a10_2, dw_w10_2, dw_a11, dw_w11, dw_a12, dw_w12, dw_a13, dw_w13, dw_a14, dw_w14, dw_a15, dw_w15, dw_a16, dw_w16, dw_a17, dw_w17, dw_a17_0, dw_w17_0, dw_a18, dw_w18, dw_a18_0, dw_w18_0, dw_a18_1, dw_w18_1, dw_a18_2, dw_w18_2, dw_a18_3, dw_w18_3, dw_a18_4, dw_w18_4, dw_a18_5, dw_w18_5, dw_a19, dw_w19, dw_a19_24, dw_w19_24, dw_a20, dw_w20, g1]); first | with_reducible rw [bnd_s] | with_reducible rw [bn2_s] | with_reducible rw [grd_t]))
    rw [if_neg (by decide)]
    obtain ⟨R', G', e1, e2, e3⟩ := dw_Mback12 (X := X) (G := G) (S := S) (N := N) (y := nI yy) 981 18 0 R rfl (fun j hj => absurd hj (Nat.not_lt_zero j))
    have e4 : M_back_12 1000 (dw_mk X R G S N (nI yy)) 0 0 = _ := e1
    rw [e4, g3, g4, g5, g6, g7]
    have eA : ∀ c i, dw_gA (dw_I (dw_I (dw_J (dw_J X 5 ho') 6 cl') 0 (nI m')) 13 (nI r')) c i = dw_gA X c i := fun _ _ => rfl
    have eI : ∀ k, k ≠ 0 → k ≠ 13 → dw_gI (dw_I (dw_I (dw_J (dw_J X 5 ho') 6 cl') 0 (nI m')) 13 (nI r')) k = dw_gI X k := by
      intro k hk hk2
      rw [dw_IIn hk2, dw_IIn hk, dw_IJ, dw_IJ]
    refine ⟨_, R', G', S, N, rfl, fun d hd => ?_, ?_, ?_, ?_, ?_, (eI 12 (by decide) (by decide)).trans h6, fun t ht => dw_ML_of (X := X) (fun c i hc => eA c i) (h7 t ht), (eI 9 (by decide) (by decide)).trans h8, fun k hk => h9 k hk, dw_RI_of (X := X) (fun c i hc => eA c i) (eI 14 (by decide) (by decide)) (fun _ => rfl) h10, dw_SH_of (X := X) (fun c i hc => eA c i) h11⟩
    · obtain ⟨q3, q4, q5, q6⟩ := g2 d hd
      obtain ⟨_, _, _, _, q1, q2⟩ := h1 d (Nat.lt_of_lt_of_le hd i8)
      obtain ⟨p1, p2⟩ := i9 d hd
      exact ⟨(e2 _ (by omega)).trans q3, (e2 _ (by omega)).trans q4, (e2 _ (by omega)).trans q5, (e3 _ (by omega)).trans q6, q1.trans p1.symm, q2.trans p2.symm⟩
    · rw [dw_IIn (by decide), dw_II, if_pos rfl]
    · rw [dw_JI, dw_JI, dw_JJn (by decide), dw_JJ, if_pos rfl]
    · rw [dw_JI, dw_JI, dw_JJ, if_pos rfl]
    · rw [dw_II, if_pos rfl]
theorem dw_Msheet70 {H' : dw_H} {a : Nat} (ha : a < 4) (hz : ∀ j, H'.2.2 a j = 0) (f k : Nat) : ∀ t X2, t + k = 40 → dw_Es X X2 → dw_FI X2 H' t a → dw_Bs (M_sheet_70 (f + k + 1) (dw_mk X2 R G S N y) 0 (nI a) (nI t)) X R G y 1 H' := by
  induction k with
  | zero =>
    intro t X2 ht e hF
    rw [M_sheet_70, if_pos (show (40 : Int32) ≤ nI t from nI_le (a := 40) (by omega) (by omega))]
    exact ⟨X2, R, G, S, N, rfl, e, (fun k hk => ⟨(hF k hk).1, (hF k hk).2.1, fun j hj => (hF k hk).2.2 j hj (Or.inr (by omega))⟩), fun _ _ => rfl, fun _ _ => rfl⟩
  | succ k ih =>
    intro t X2 ht e hF
    rw [show f + (k + 1) + 1 = f + k + 1 + 1 by omega, M_sheet_70, if_neg (show ¬ (40 : Int32) ≤ nI t from nI_ge (b := 40) (by omega) (by omega))]
    repeat (first | with_reducible rw [bnd_s] | with_reducible rw [nmd_s] | with_reducible rw [bn2_s] | with_reducible rw [grd_t] | ((conv => arg 1; arg 1; simp (disch := omega) only [dw_is, dw_f0, dw_t0, dw_f9, dw_t9, dw_f12, dw_t12, dw_f13, dw_t13, dw_f14, dw_t14, dw_f22, dw_t22, dw_f23, dw_t23, dw_f24, dw_t24, dw_f25, dw_t25, dw_f28, dw_t28, dw_f29, dw_t29, dw_f30, dw_t30, dw_f35, dw_t35, dw_f7, dw_t7, dw_f5, dw_t5, dw_f6, dw_t6, dw_f1, dw_f2, dw_f3, dw_f4, dw_f8, dw_f10, dw_f11, dw_f15, dw_f16, dw_f17, dw_f18, dw_f19, dw_f20, dw_f21, dw_f26, dw_f27, dw_f31, dw_f32, dw_f33, dw_f34, dw_a1, dw_w1, dw_a2, dw_w2, dw_a3, dw_w3, dw_a4, dw_w4, dw_a5, dw_w5, dw_a6, dw_w6, dw_a7, dw_w7, dw_a8, dw_w8, dw_a9_0, dw_s9_0, dw_a9_1, dw_s9_1, dw_a10, dw_w10, dw_a10_0, dw_w10_0, dw_a10_1, dw_w10_1, dw_a10_2, dw_w10_2, dw_a11, dw_w11, dw_a12, dw_w12, dw_a13, dw_w13, dw_a14, dw_w14, dw_a15, dw_w15, dw_a16, dw_w16, dw_a17, dw_w17, dw_a17_0, dw_w17_0, dw_a18, dw_w18, dw_a18_0, dw_w18_0, dw_a18_1, dw_w18_1, dw_a18_2, dw_w18_2, dw_a18_3, dw_w18_3, dw_a18_4, dw_w18_4, dw_a18_5, dw_w18_5, dw_a19, dw_w19, dw_a19_24, dw_w19_24, dw_a20, dw_w20, dw_40, nI_add]); first | with_reducible rw [bnd_s] | with_reducible rw [bn2_s] | with_reducible rw [grd_t]))
    rw [nI_1]
    exact ih (t + 1) _ (by omega) (dw_Es_tr e (dw_Es_A (by decide))) (dw_FI_S (dw_FI_A hF 0 (by omega)) (fun _ => by rw [dw_AA, if_pos ⟨rfl, rfl⟩, hz t]))
theorem dw_Msheet44 (hs : dw_SH X H) {a : Nat} (ha : a < 4) (sort n : Int32) : dw_Bs (M_sheet_44 (dw_mk X R G S N y) 0 (nI a) sort n) X R G y 1 (dw_Hset H a sort (if sort = -1 then 0 else n)) := by
  rw [M_sheet_44]
  repeat (first | with_reducible rw [bnd_s] | with_reducible rw [nmd_s] | with_reducible rw [bn2_s] | with_reducible rw [grd_t] | ((conv => arg 1; arg 1; simp (disch := omega) only [dw_is, dw_f0, dw_t0, dw_f9, dw_t9, dw_f12, dw_t12, dw_f13, dw_t13, dw_f14, dw_t14, dw_f22, dw_t22, dw_f23, dw_t23, dw_f24, dw_t24, dw_f25, dw_t25, dw_f28, dw_t28, dw_f29, dw_t29, dw_f30, dw_t30, dw_f35, dw_t35, dw_f7, dw_t7, dw_f5, dw_t5, dw_f6, dw_t6, dw_f1, dw_f2, dw_f3, dw_f4, dw_f8, dw_f10, dw_f11, dw_f15, dw_f16, dw_f17, dw_f18, dw_f19, dw_f20, dw_f21, dw_f26, dw_f27, dw_f31, dw_f32, dw_f33, dw_f34, dw_a1, dw_w1, dw_a2, dw_w2, dw_a3, dw_w3, dw_a4, dw_w4, dw_a5, dw_w5, dw_a6, dw_w6, dw_a7, dw_w7, dw_a8, dw_w8, dw_a9_0, dw_s9_0, dw_a9_1, dw_s9_1, dw_a10, dw_w10, dw_a10_0, dw_w10_0, dw_a10_1, dw_w10_1, dw_a10_2, dw_w10_2, dw_a11, dw_w11, dw_a12, dw_w12, dw_a13, dw_w13, dw_a14, dw_w14, dw_a15, dw_w15, dw_a16, dw_w16, dw_a17, dw_w17, dw_a17_0, dw_w17_0, dw_a18, dw_w18, dw_a18_0, dw_w18_0, dw_a18_1, dw_w18_1, dw_a18_2, dw_w18_2, dw_a18_3, dw_w18_3, dw_a18_4, dw_w18_4, dw_a18_5, dw_w18_5, dw_a19, dw_w19, dw_a19_24, dw_w19_24, dw_a20, dw_w20]); first | with_reducible rw [bnd_s] | with_reducible rw [bn2_s] | with_reducible rw [grd_t]))
  have k1 : (if sort = -1 then M_sheet_66 (dw_mk (dw_A X 11 a sort) R G S N y) 0 (nI a) 0 (nI a) (some 12) else M_sheet_66 (dw_mk (dw_A X 11 a sort) R G S N y) 0 (nI a) n (nI a) (some 12)) = M_sheet_66 (dw_mk (dw_A X 11 a sort) R G S N y) 0 (nI a) (if sort = -1 then 0 else n) (nI a) (some 12) := by
    by_cases c : sort = -1
    · rw [if_pos c, if_pos c]
    · rw [if_neg c, if_neg c]
  rw [k1, M_sheet_66]
  generalize (if sort = -1 then 0 else n) = v
  repeat (first | with_reducible rw [bnd_s] | with_reducible rw [nmd_s] | with_reducible rw [bn2_s] | with_reducible rw [grd_t] | ((conv => arg 1; arg 1; simp (disch := omega) only [dw_is, dw_f0, dw_t0, dw_f9, dw_t9, dw_f12, dw_t12, dw_f13, dw_t13, dw_f14, dw_t14, dw_f22, dw_t22, dw_f23, dw_t23, dw_f24, dw_t24, dw_f25, dw_t25, dw_f28, dw_t28, dw_f29, dw_t29, dw_f30, dw_t30, dw_f35, dw_t35, dw_f7, dw_t7, dw_f5, dw_t5, dw_f6, dw_t6, dw_f1, dw_f2, dw_f3, dw_f4, dw_f8, dw_f10, dw_f11, dw_f15, dw_f16, dw_f17, dw_f18, dw_f19, dw_f20, dw_f21, dw_f26, dw_f27, dw_f31, dw_f32, dw_f33, dw_f34, dw_a1, dw_w1, dw_a2, dw_w2, dw_a3, dw_w3, dw_a4, dw_w4, dw_a5, dw_w5, dw_a6, dw_w6, dw_a7, dw_w7, dw_a8, dw_w8, dw_a9_0, dw_s9_0, dw_a9_1, dw_s9_1, dw_a10, dw_w10, dw_a10_0, dw_w10_0, dw_a10_1, dw_w10_1, dw_a10_2, dw_w10_2, dw_a11, dw_w11, dw_a12, dw_w12, dw_a13, dw_w13, dw_a14, dw_w14, dw_a15, dw_w15, dw_a16, dw_w16, dw_a17, dw_w17, dw_a17_0, dw_w17_0, dw_a18, dw_w18, dw_a18_0, dw_w18_0, dw_a18_1, dw_w18_1, dw_a18_2, dw_w18_2, dw_a18_3, dw_w18_3, dw_a18_4, dw_w18_4, dw_a18_5, dw_w18_5, dw_a19, dw_w19, dw_a19_24, dw_w19_24, dw_a20, dw_w20]); first | with_reducible rw [bnd_s] | with_reducible rw [bn2_s] | with_reducible rw [grd_t]))
  refine dw_Msheet70 (H' := dw_Hset H a sort v) ha (fun j => ?_) 959 40 0 _ rfl (dw_Es_tr (dw_Es_A (by decide)) (dw_Es_A (by decide))) ?_
  · show (if a = a then (0 : Int32) else _) = 0
    rw [if_pos rfl]
  · intro k hk
    obtain ⟨s1, s2, s3⟩ := hs k hk
    refine ⟨?_, ?_, fun i hi hq => ?_⟩
    · show _ = upd H.1 a sort k
      rw [dw_AAn (by decide), dw_AA, upd_app]
      by_cases ck : k = a
      · rw [if_pos ⟨rfl, ck⟩, if_pos ck]
      · rw [if_neg (fun q => ck q.2), if_neg ck, s1]
    · show _ = upd H.2.1 a v k
      rw [dw_AA, upd_app]
      by_cases ck : k = a
      · rw [if_pos ⟨rfl, ck⟩, if_pos ck]
      · rw [if_neg (fun q => ck q.2), if_neg ck, dw_AAn (by decide), s2]
    · have hkq : k ≠ a := by omega
      show _ = (if k = a then (0 : Int32) else H.2.2 k i)
      rw [if_neg hkq, dw_AAn (by decide), dw_AAn (by decide), s3 i hi]
theorem dw_Msheet_ (h : dw_RX X R G ((m, s, yy, ho, cl, r), (tx, wt), (tp, tb), im, H)) (ok : dw_Ok ((m, s, yy, ho, cl, r), (tx, wt), (tp, tb), im, H)) (a sort n : Int32) : dw_Go (M_sheet (dw_mk X R G S N (nI yy)) 0 a sort n) (dw_osheet ((m, s, yy, ho, cl, r), (tx, wt), (tp, tb), im, H) a sort n).1 (dw_osheet ((m, s, yy, ho, cl, r), (tx, wt), (tp, tb), im, H) a sort n).2 := by
  have o1 : m ≤ 6 := ok.1.1
  have h11 : dw_SH X H := h.2.2.2.2.2.2.2.2.2.2
  rw [M_sheet, dw_osheet]
  repeat (first | with_reducible rw [bnd_s] | with_reducible rw [nmd_s] | with_reducible rw [bn2_s] | with_reducible rw [grd_t] | ((conv => arg 1; arg 1; simp (disch := omega) only [dw_is, dw_f0, dw_t0, dw_f9, dw_t9, dw_f12, dw_t12, dw_f13, dw_t13, dw_f14, dw_t14, dw_f22, dw_t22, dw_f23, dw_t23, dw_f24, dw_t24, dw_f25, dw_t25, dw_f28, dw_t28, dw_f29, dw_t29, dw_f30, dw_t30, dw_f35, dw_t35, dw_f7, dw_t7, dw_f5, dw_t5, dw_f6, dw_t6, dw_f1, dw_f2, dw_f3, dw_f4, dw_f8, dw_f10, dw_f11, dw_f15, dw_f16, dw_f17, dw_f18, dw_f19, dw_f20, dw_f21, dw_f26, dw_f27, dw_f31, dw_f32, dw_f33, dw_f34, dw_a1, dw_w1, dw_a2, dw_w2, dw_a3, dw_w3, dw_a4, dw_w4, dw_a5, dw_w5, dw_a6, dw_w6, dw_a7, dw_w7, dw_a8, dw_w8, dw_a9_0, dw_s9_0, dw_a9_1, dw_s9_1, dw_a10, dw_w10, dw_a10_0, dw_w10_0, dw_a10_1, dw_w10_1, dw_a10_2, dw_w10_2, dw_a11, dw_w11, dw_a12, dw_w12, dw_a13, dw_w13, dw_a14, dw_w14, dw_a15, dw_w15, dw_a16, dw_w16, dw_a17, dw_w17, dw_a17_0, dw_w17_0, dw_a18, dw_w18, dw_a18_0, dw_w18_0, dw_a18_1, dw_w18_1, dw_a18_2, dw_w18_2, dw_a18_3, dw_w18_3, dw_a18_4, dw_w18_4, dw_a18_5, dw_w18_5, dw_a19, dw_w19, dw_a19_24, dw_w19_24, dw_a20, dw_w20, dw_Min]); first | with_reducible rw [bnd_s] | with_reducible rw [bn2_s] | with_reducible rw [grd_t]))
  by_cases c0 : dw_in a 0 3 = 0
  · rw [if_pos c0, if_pos c0]
    exact dw_Go_id h
  rw [if_neg c0, if_neg c0]
  repeat (first | with_reducible rw [bnd_s] | with_reducible rw [nmd_s] | with_reducible rw [bn2_s] | with_reducible rw [grd_t] | ((conv => arg 1; arg 1; simp (disch := omega) only [dw_is, dw_f0, dw_t0, dw_f9, dw_t9, dw_f12, dw_t12, dw_f13, dw_t13, dw_f14, dw_t14, dw_f22, dw_t22, dw_f23, dw_t23, dw_f24, dw_t24, dw_f25, dw_t25, dw_f28, dw_t28, dw_f29, dw_t29, dw_f30, dw_t30, dw_f35, dw_t35, dw_f7, dw_t7, dw_f5, dw_t5, dw_f6, dw_t6, dw_f1, dw_f2, dw_f3, dw_f4, dw_f8, dw_f10, dw_f11, dw_f15, dw_f16, dw_f17, dw_f18, dw_f19, dw_f20, dw_f21, dw_f26, dw_f27, dw_f31, dw_f32, dw_f33, dw_f34, dw_a1, dw_w1, dw_a2, dw_w2, dw_a3, dw_w3, dw_a4, dw_w4, dw_a5, dw_w5, dw_a6, dw_w6, dw_a7, dw_w7, dw_a8, dw_w8, dw_a9_0, dw_s9_0, dw_a9_1, dw_s9_1, dw_a10, dw_w10, dw_a10_0, dw_w10_0, dw_a10_1, dw_w10_1, dw_a10_2, dw_w10_2, dw_a11, dw_w11, dw_a12, dw_w12, dw_a13, dw_w13, dw_a14, dw_w14, dw_a15, dw_w15, dw_a16, dw_w16, dw_a17, dw_w17, dw_a17_0, dw_w17_0, dw_a18, dw_w18, dw_a18_0, dw_w18_0, dw_a18_1, dw_w18_1, dw_a18_2, dw_w18_2, dw_a18_3, dw_w18_3, dw_a18_4, dw_w18_4, dw_a18_5, dw_w18_5, dw_a19, dw_w19, dw_a19_24, dw_w19_24, dw_a20, dw_w20, dw_Min]); first | with_reducible rw [bnd_s] | with_reducible rw [bn2_s] | with_reducible rw [grd_t]))
  by_cases c1 : dw_in sort (-1) 2 = 0
  · rw [if_pos c1, if_pos c1]
    exact dw_Go_id h
  rw [if_neg c1, if_neg c1]
  obtain ⟨q, hq, rfl⟩ := dw_in_of (n := 3) rfl c0
  rw [dw_N_nI (by omega)]
  have g := dw_Msheet44 (R := R) (G := G) (S := S) (N := N) (y := nI yy) h11 (a := q) (by omega) sort n
  by_cases c2 : sort = -1
  · rw [if_pos c2] at g
    rw [if_pos c2, if_pos c2, M_sheet_32, if_pos c2]
    have g2 := dw_Go_Bs o1 h g
    rw [c2] at g2 ⊢
    exact g2
  rw [if_neg c2, if_neg c2]
  rw [if_neg c2] at g
  by_cases c3 : n ≤ 40
  · rw [if_pos c3, if_pos c3, M_sheet_32, if_neg c2]
    by_cases c4 : 0 ≤ n
    · rw [if_pos c4, if_pos c4]
      exact dw_Go_Bs o1 h g
    · rw [if_neg c4, if_neg c4]
      exact dw_Go_id h
  · rw [if_neg c3, if_neg c3]
    exact dw_Go_id h
theorem dw_Mcell_ (h : dw_RX X R G ((m, s, yy, ho, cl, r), (tx, wt), (tp, tb), im, H)) (ok : dw_Ok ((m, s, yy, ho, cl, r), (tx, wt), (tp, tb), im, H)) (a i v : Int32) : dw_Go (M_cell (dw_mk X R G S N (nI yy)) 0 a i v) (dw_ocell ((m, s, yy, ho, cl, r), (tx, wt), (tp, tb), im, H) a i v).1 (dw_ocell ((m, s, yy, ho, cl, r), (tx, wt), (tp, tb), im, H) a i v).2 := by
  have o1 : m ≤ 6 := ok.1.1
  have h11 : dw_SH X H := h.2.2.2.2.2.2.2.2.2.2
  rw [M_cell, dw_ocell]
  repeat (first | with_reducible rw [bnd_s] | with_reducible rw [nmd_s] | with_reducible rw [bn2_s] | with_reducible rw [grd_t] | ((conv => arg 1; arg 1; simp (disch := omega) only [dw_is, dw_f0, dw_t0, dw_f9, dw_t9, dw_f12, dw_t12, dw_f13, dw_t13, dw_f14, dw_t14, dw_f22, dw_t22, dw_f23, dw_t23, dw_f24, dw_t24, dw_f25, dw_t25, dw_f28, dw_t28, dw_f29, dw_t29, dw_f30, dw_t30, dw_f35, dw_t35, dw_f7, dw_t7, dw_f5, dw_t5, dw_f6, dw_t6, dw_f1, dw_f2, dw_f3, dw_f4, dw_f8, dw_f10, dw_f11, dw_f15, dw_f16, dw_f17, dw_f18, dw_f19, dw_f20, dw_f21, dw_f26, dw_f27, dw_f31, dw_f32, dw_f33, dw_f34, dw_a1, dw_w1, dw_a2, dw_w2, dw_a3, dw_w3, dw_a4, dw_w4, dw_a5, dw_w5, dw_a6, dw_w6, dw_a7, dw_w7, dw_a8, dw_w8, dw_a9_0, dw_s9_0, dw_a9_1, dw_s9_1, dw_a10, dw_w10, dw_a10_0, dw_w10_0, dw_a10_1, dw_w10_1, dw_a10_2, dw_w10_2, dw_a11, dw_w11, dw_a12, dw_w12, dw_a13, dw_w13, dw_a14, dw_w14, dw_a15, dw_w15, dw_a16, dw_w16, dw_a17, dw_w17, dw_a17_0, dw_w17_0, dw_a18, dw_w18, dw_a18_0, dw_w18_0, dw_a18_1, dw_w18_1, dw_a18_2, dw_w18_2, dw_a18_3, dw_w18_3, dw_a18_4, dw_w18_4, dw_a18_5, dw_w18_5, dw_a19, dw_w19, dw_a19_24, dw_w19_24, dw_a20, dw_w20, dw_Min]); first | with_reducible rw [bnd_s] | with_reducible rw [bn2_s] | with_reducible rw [grd_t]))
  by_cases c0 : dw_in a 0 3 = 0
  · rw [if_pos c0, if_pos c0]
    exact dw_Go_id h
  rw [if_neg c0, if_neg c0]
  obtain ⟨q, hq, rfl⟩ := dw_in_of (n := 3) rfl c0
  rw [dw_N_nI (by omega)]
  obtain ⟨s1, s2, s3⟩ := h11 q (by omega)
  obtain ⟨hk1, z, hz, hk2⟩ := ok.2.2.2.2.2.2.2 q (by omega)
  repeat (first | with_reducible rw [bnd_s] | with_reducible rw [nmd_s] | with_reducible rw [bn2_s] | with_reducible rw [grd_t] | ((conv => arg 1; arg 1; simp (disch := omega) only [dw_is, dw_f0, dw_t0, dw_f9, dw_t9, dw_f12, dw_t12, dw_f13, dw_t13, dw_f14, dw_t14, dw_f22, dw_t22, dw_f23, dw_t23, dw_f24, dw_t24, dw_f25, dw_t25, dw_f28, dw_t28, dw_f29, dw_t29, dw_f30, dw_t30, dw_f35, dw_t35, dw_f7, dw_t7, dw_f5, dw_t5, dw_f6, dw_t6, dw_f1, dw_f2, dw_f3, dw_f4, dw_f8, dw_f10, dw_f11, dw_f15, dw_f16, dw_f17, dw_f18, dw_f19, dw_f20, dw_f21, dw_f26, dw_f27, dw_f31, dw_f32, dw_f33, dw_f34, dw_a1, dw_w1, dw_a2, dw_w2, dw_a3, dw_w3, dw_a4, dw_w4, dw_a5, dw_w5, dw_a6, dw_w6, dw_a7, dw_w7, dw_a8, dw_w8, dw_a9_0, dw_s9_0, dw_a9_1, dw_s9_1, dw_a10, dw_w10, dw_a10_0, dw_w10_0, dw_a10_1, dw_w10_1, dw_a10_2, dw_w10_2, dw_a11, dw_w11, dw_a12, dw_w12, dw_a13, dw_w13, dw_a14, dw_w14, dw_a15, dw_w15, dw_a16, dw_w16, dw_a17, dw_w17, dw_a17_0, dw_w17_0, dw_a18, dw_w18, dw_a18_0, dw_w18_0, dw_a18_1, dw_w18_1, dw_a18_2, dw_w18_2, dw_a18_3, dw_w18_3, dw_a18_4, dw_w18_4, dw_a18_5, dw_w18_5, dw_a19, dw_w19, dw_a19_24, dw_w19_24, dw_a20, dw_w20, s1]); first | with_reducible rw [bnd_s] | with_reducible rw [bn2_s] | with_reducible rw [grd_t]))
  by_cases c1 : H.1 q = -1
  · rw [if_pos c1, if_pos c1]
    exact dw_Go_id h
  rw [if_neg c1, if_neg c1]
  repeat (first | with_reducible rw [bnd_s] | with_reducible rw [nmd_s] | with_reducible rw [bn2_s] | with_reducible rw [grd_t] | ((conv => arg 1; arg 1; simp (disch := omega) only [dw_is, dw_f0, dw_t0, dw_f9, dw_t9, dw_f12, dw_t12, dw_f13, dw_t13, dw_f14, dw_t14, dw_f22, dw_t22, dw_f23, dw_t23, dw_f24, dw_t24, dw_f25, dw_t25, dw_f28, dw_t28, dw_f29, dw_t29, dw_f30, dw_t30, dw_f35, dw_t35, dw_f7, dw_t7, dw_f5, dw_t5, dw_f6, dw_t6, dw_f1, dw_f2, dw_f3, dw_f4, dw_f8, dw_f10, dw_f11, dw_f15, dw_f16, dw_f17, dw_f18, dw_f19, dw_f20, dw_f21, dw_f26, dw_f27, dw_f31, dw_f32, dw_f33, dw_f34, dw_a1, dw_w1, dw_a2, dw_w2, dw_a3, dw_w3, dw_a4, dw_w4, dw_a5, dw_w5, dw_a6, dw_w6, dw_a7, dw_w7, dw_a8, dw_w8, dw_a9_0, dw_s9_0, dw_a9_1, dw_s9_1, dw_a10, dw_w10, dw_a10_0, dw_w10_0, dw_a10_1, dw_w10_1, dw_a10_2, dw_w10_2, dw_a11, dw_w11, dw_a12, dw_w12, dw_a13, dw_w13, dw_a14, dw_w14, dw_a15, dw_w15, dw_a16, dw_w16, dw_a17, dw_w17, dw_a17_0, dw_w17_0, dw_a18, dw_w18, dw_a18_0, dw_w18_0, dw_a18_1, dw_w18_1, dw_a18_2, dw_w18_2, dw_a18_3, dw_w18_3, dw_a18_4, dw_w18_4, dw_a18_5, dw_w18_5, dw_a19, dw_w19, dw_a19_24, dw_w19_24, dw_a20, dw_w20, s2, dw_Min]); first | with_reducible rw [bnd_s] | with_reducible rw [bn2_s] | with_reducible rw [grd_t]))
  by_cases c2 : dw_in i 0 (H.2.1 q - 1) = 0
  · rw [if_pos c2, if_pos c2]
    exact dw_Go_id h
  rw [if_neg c2, if_neg c2]
  have hj : ∃ j : Nat, j < z ∧ i = nI j := by
    rw [hk2] at c2
    rcases Nat.eq_zero_or_pos z with z0 | z0
    · exfalso
      subst z0
      apply c2
      unfold dw_in
      by_cases h1 : i < 0
      · rw [if_pos h1]
      · rw [if_neg h1, if_pos]
        obtain ⟨j, hj, rfl⟩ := nI_of h1
        rw [fa_lt, nI_toInt hj]
        have h2 : (nI 0 - 1).toInt = -1 := by decide
        omega
    · have e1 : nI z - 1 = nI (z - 1) := by
        have h9 := dw_m1 (z - 1)
        rwa [show z - 1 + 1 = z by omega] at h9
      rw [e1] at c2
      obtain ⟨j, hj, e⟩ := dw_in_of (n := z - 1) (nI_toInt (by omega)) c2
      exact ⟨j, by omega, e⟩
  obtain ⟨j, hj, rfl⟩ := hj
  rw [dw_N_nI (by omega)]
  have fin : ∀ u, u = dw_cast (H.1 q) v → dw_Go (M_cell_84 (dw_mk X R G S N (nI yy)) u (40 * nI q + nI j) (some 13)) ((m, s, yy, ho, cl, r), (tx, wt), (tp, tb), im, dw_Hcell H q j (dw_cast (H.1 q) v)) 1 := by
    intro u hu
    rw [M_cell_84, dw_40, nI_add]
    repeat (first | with_reducible rw [bnd_s] | with_reducible rw [nmd_s] | with_reducible rw [bn2_s] | with_reducible rw [grd_t] | ((conv => arg 1; arg 1; simp (disch := omega) only [dw_is, dw_f0, dw_t0, dw_f9, dw_t9, dw_f12, dw_t12, dw_f13, dw_t13, dw_f14, dw_t14, dw_f22, dw_t22, dw_f23, dw_t23, dw_f24, dw_t24, dw_f25, dw_t25, dw_f28, dw_t28, dw_f29, dw_t29, dw_f30, dw_t30, dw_f35, dw_t35, dw_f7, dw_t7, dw_f5, dw_t5, dw_f6, dw_t6, dw_f1, dw_f2, dw_f3, dw_f4, dw_f8, dw_f10, dw_f11, dw_f15, dw_f16, dw_f17, dw_f18, dw_f19, dw_f20, dw_f21, dw_f26, dw_f27, dw_f31, dw_f32, dw_f33, dw_f34, dw_a1, dw_w1, dw_a2, dw_w2, dw_a3, dw_w3, dw_a4, dw_w4, dw_a5, dw_w5, dw_a6, dw_w6, dw_a7, dw_w7, dw_a8, dw_w8, dw_a9_0, dw_s9_0, dw_a9_1, dw_s9_1, dw_a10, dw_w10, dw_a10_0, dw_w10_0, dw_a10_1, dw_w10_1, dw_a10_2, dw_w10_2, dw_a11, dw_w11, dw_a12, dw_w12, dw_a13, dw_w13, dw_a14, dw_w14, dw_a15, dw_w15, dw_a16, dw_w16, dw_a17, dw_w17, dw_a17_0, dw_w17_0, dw_a18, dw_w18, dw_a18_0, dw_w18_0, dw_a18_1, dw_w18_1, dw_a18_2, dw_w18_2, dw_a18_3, dw_w18_3, dw_a18_4, dw_w18_4, dw_a18_5, dw_w18_5, dw_a19, dw_w19, dw_a19_24, dw_w19_24, dw_a20, dw_w20]); first | with_reducible rw [bnd_s] | with_reducible rw [bn2_s] | with_reducible rw [grd_t]))
    refine dw_Go_Bs o1 h ⟨_, R, G, S, N, rfl, dw_Es_A (by decide), fun k hk => ?_, fun _ _ => rfl, fun _ _ => rfl⟩
    obtain ⟨t1, t2, t3⟩ := h11 k hk
    refine ⟨?_, ?_, fun x hx => ?_⟩
    · rw [dw_AAn (by decide)]; exact t1
    · rw [dw_AAn (by decide)]; exact t2
    · show _ = (if k = q ∧ x = j then dw_cast (H.1 q) v else H.2.2 k x)
      rw [dw_AA]
      by_cases c : k = q ∧ x = j
      · rw [if_pos c, if_pos (by omega), hu]
      · rw [if_neg c, if_neg (fun p => c (by omega)), t3 x hx]
  repeat (first | with_reducible rw [bnd_s] | with_reducible rw [nmd_s] | with_reducible rw [bn2_s] | with_reducible rw [grd_t] | ((conv => arg 1; arg 1; simp (disch := omega) only [dw_is, dw_f0, dw_t0, dw_f9, dw_t9, dw_f12, dw_t12, dw_f13, dw_t13, dw_f14, dw_t14, dw_f22, dw_t22, dw_f23, dw_t23, dw_f24, dw_t24, dw_f25, dw_t25, dw_f28, dw_t28, dw_f29, dw_t29, dw_f30, dw_t30, dw_f35, dw_t35, dw_f7, dw_t7, dw_f5, dw_t5, dw_f6, dw_t6, dw_f1, dw_f2, dw_f3, dw_f4, dw_f8, dw_f10, dw_f11, dw_f15, dw_f16, dw_f17, dw_f18, dw_f19, dw_f20, dw_f21, dw_f26, dw_f27, dw_f31, dw_f32, dw_f33, dw_f34, dw_a1, dw_w1, dw_a2, dw_w2, dw_a3, dw_w3, dw_a4, dw_w4, dw_a5, dw_w5, dw_a6, dw_w6, dw_a7, dw_w7, dw_a8, dw_w8, dw_a9_0, dw_s9_0, dw_a9_1, dw_s9_1, dw_a10, dw_w10, dw_a10_0, dw_w10_0, dw_a10_1, dw_w10_1, dw_a10_2, dw_w10_2, dw_a11, dw_w11, dw_a12, dw_w12, dw_a13, dw_w13, dw_a14, dw_w14, dw_a15, dw_w15, dw_a16, dw_w16, dw_a17, dw_w17, dw_a17_0, dw_w17_0, dw_a18, dw_w18, dw_a18_0, dw_w18_0, dw_a18_1, dw_w18_1, dw_a18_2, dw_w18_2, dw_a18_3, dw_w18_3, dw_a18_4, dw_w18_4, dw_a18_5, dw_w18_5, dw_a19, dw_w19, dw_a19_24, dw_w19_24, dw_a20, dw_w20, s1]); first | with_reducible rw [bnd_s] | with_reducible rw [bn2_s] | with_reducible rw [grd_t]))
  rw [dw_cast] at fin
  by_cases c3 : H.1 q = 0
  · rw [if_pos c3]
    rw [if_pos c3] at fin
    rw [dw_cast, if_pos c3]
    exact fin _ rfl
  rw [if_neg c3]
  rw [if_neg c3] at fin
  repeat (first | with_reducible rw [bnd_s] | with_reducible rw [nmd_s] | with_reducible rw [bn2_s] | with_reducible rw [grd_t] | ((conv => arg 1; arg 1; simp (disch := omega) only [dw_is, dw_f0, dw_t0, dw_f9, dw_t9, dw_f12, dw_t12, dw_f13, dw_t13, dw_f14, dw_t14, dw_f22, dw_t22, dw_f23, dw_t23, dw_f24, dw_t24, dw_f25, dw_t25, dw_f28, dw_t28, dw_f29, dw_t29, dw_f30, dw_t30, dw_f35, dw_t35, dw_f7, dw_t7, dw_f5, dw_t5, dw_f6, dw_t6, dw_f1, dw_f2, dw_f3, dw_f4, dw_f8, dw_f10, dw_f11, dw_f15, dw_f16, dw_f17, dw_f18, dw_f19, dw_f20, dw_f21, dw_f26, dw_f27, dw_f31, dw_f32, dw_f33, dw_f34, dw_a1, dw_w1, dw_a2, dw_w2, dw_a3, dw_w3, dw_a4, dw_w4, dw_a5, dw_w5, dw_a6, dw_w6, dw_a7, dw_w7, dw_a8, dw_w8, dw_a9_0, dw_s9_0, dw_a9_1, dw_s9_1, dw_a10, dw_w10, dw_a10_0, dw_w10_0, dw_a10_1, dw_w10_1, dw_a10_2, dw_w10_2, dw_a11, dw_w11, dw_a12, dw_w12, dw_a13, dw_w13, dw_a14, dw_w14, dw_a15, dw_w15, dw_a16, dw_w16, dw_a17, dw_w17, dw_a17_0, dw_w17_0, dw_a18, dw_w18, dw_a18_0, dw_w18_0, dw_a18_1, dw_w18_1, dw_a18_2, dw_w18_2, dw_a18_3, dw_w18_3, dw_a18_4, dw_w18_4, dw_a18_5, dw_w18_5, dw_a19, dw_w19, dw_a19_24, dw_w19_24, dw_a20, dw_w20, s1]); first | with_reducible rw [bnd_s] | with_reducible rw [bn2_s] | with_reducible rw [grd_t]))
  by_cases c4 : H.1 q = 1
  · rw [if_pos c4]
    rw [if_pos c4] at fin
    rw [dw_cast, if_neg c3, if_pos c4]
    exact fin _ rfl
  rw [if_neg c4]
  rw [if_neg c4] at fin
  rw [dw_cast, if_neg c3, if_neg c4]
  exact fin _ rfl
theorem dw_Mund (h : pm_H) (x P : Int32) : M_isUnder h x P = some (h, if dw_und x P = true then 1 else 0) := by
  have key : dw_und x P = true ↔ (P = 0 ∨ x = P ∨ (P = 1 ∧ x = 3) ∨ (P = 2 ∧ x = 4)) := by
    unfold dw_und
    simp [or_assoc]
  have tail : P ≠ 0 → ¬ x = P → ¬ (P = 1 ∧ x = 3) → M_isUnder_19 h x P = some (h, if dw_und x P = true then 1 else 0) := by
    intro a0 a1 a2
    unfold M_isUnder_19 M_isUnder_29
    by_cases b1 : P = 2
    · rw [if_pos b1]
      by_cases b2 : x = 4
      · rw [if_pos b2, if_pos (key.mpr (Or.inr (Or.inr (Or.inr ⟨b1, b2⟩))))]
      · rw [if_neg b2, if_neg]
        intro q
        rcases key.mp q with c | c | c | c
        · exact a0 c
        · exact a1 c
        · exact a2 c
        · exact b2 c.2
    · rw [if_neg b1, if_neg]
      intro q
      rcases key.mp q with c | c | c | c
      · exact a0 c
      · exact a1 c
      · exact a2 c
      · exact b1 c.1
  unfold M_isUnder M_isUnder_29
  by_cases a0 : P = 0
  · rw [if_pos a0, if_pos (key.mpr (Or.inl a0))]
  rw [if_neg a0]
  by_cases a1 : x = P
  · rw [if_pos a1, if_pos (key.mpr (Or.inr (Or.inl a1)))]
  rw [if_neg a1]
  by_cases a2 : P = 1
  · rw [if_pos a2]
    by_cases a3 : x = 3
    · rw [if_pos a3, if_pos (key.mpr (Or.inr (Or.inr (Or.inl ⟨a2, a3⟩))))]
    · rw [if_neg a3]
      exact tail a0 a1 (fun q => a3 q.2)
  · rw [if_neg a2]
    exact tail a0 a1 (fun q => a2 q.1)
theorem dw_Mtaken_ (h : dw_RX X R G ((m, s, yy, ho, cl, r), (tx, wt), (tp, tb), im, H)) (ok : dw_Ok ((m, s, yy, ho, cl, r), (tx, wt), (tp, tb), im, H)) (i k : Int32) : dw_Go (M_taken (dw_mk X R G S N (nI yy)) 0 i k) ((m, s, yy, ho, cl, r), (tx, wt), (tp, tb), im, H) (dw_vtaken ((m, s, yy, ho, cl, r), (tx, wt), (tp, tb), im, H) i k) := by
  obtain ⟨h1, h2, h3, h4, h5, h6, h7, h8, h9, h10, h11⟩ := id h
  have o1 : m ≤ 6 := ok.1.1
  refine dw_Go_Bk o1 h ?_
  rw [M_taken, dw_vtaken]
  repeat (first | with_reducible rw [bnd_s] | with_reducible rw [nmd_s] | with_reducible rw [bn2_s] | with_reducible rw [grd_t] | ((conv => arg 1; arg 1; simp (disch := omega) only [dw_is, dw_f0, dw_t0, dw_f9, dw_t9, dw_f12, dw_t12, dw_f13, dw_t13, dw_f14, dw_t14, dw_f22, dw_t22, dw_f23, dw_t23, dw_f24, dw_t24, dw_f25, dw_t25, dw_f28, dw_t28, dw_f29, dw_t29, dw_f30, dw_t30, dw_f35, dw_t35, dw_f7, dw_t7, dw_f5, dw_t5, dw_f6, dw_t6, dw_f1, dw_f2, dw_f3, dw_f4, dw_f8, dw_f10, dw_f11, dw_f15, dw_f16, dw_f17, dw_f18, dw_f19, dw_f20, dw_f21, dw_f26, dw_f27, dw_f31, dw_f32, dw_f33, dw_f34, dw_a1, dw_w1, dw_a2, dw_w2, dw_a3, dw_w3, dw_a4, dw_w4, dw_a5, dw_w5, dw_a6, dw_w6, dw_a7, dw_w7, dw_a8, dw_w8, dw_a9_0, dw_s9_0, dw_a9_1, dw_s9_1, dw_a10, dw_w10, dw_a10_0, dw_w10_0, dw_a10_1, dw_w10_1, dw_a10_2, dw_w10_2, dw_a11, dw_w11, dw_a12, dw_w12, dw_a13, dw_w13, dw_a14, dw_w14, dw_a15, dw_w15, dw_a16, dw_w16, dw_a17, dw_w17, dw_a17_0, dw_w17_0, dw_a18, dw_w18, dw_a18_0, dw_w18_0, dw_a18_1, dw_w18_1, dw_a18_2, dw_w18_2, dw_a18_3, dw_w18_3, dw_a18_4, dw_w18_4, dw_a18_5, dw_w18_5, dw_a19, dw_w19, dw_a19_24, dw_w19_24, dw_a20, dw_w20, dw_Min]); first | with_reducible rw [bnd_s] | with_reducible rw [bn2_s] | with_reducible rw [grd_t]))
  by_cases c0 : dw_in k 0 6 = 0
  · rw [if_pos c0, if_pos c0]
    exact dw_Bk_id
  rw [if_neg c0, if_neg c0]
  repeat (first | with_reducible rw [bnd_s] | with_reducible rw [nmd_s] | with_reducible rw [bn2_s] | with_reducible rw [grd_t] | ((conv => arg 1; arg 1; simp (disch := omega) only [dw_is, dw_f0, dw_t0, dw_f9, dw_t9, dw_f12, dw_t12, dw_f13, dw_t13, dw_f14, dw_t14, dw_f22, dw_t22, dw_f23, dw_t23, dw_f24, dw_t24, dw_f25, dw_t25, dw_f28, dw_t28, dw_f29, dw_t29, dw_f30, dw_t30, dw_f35, dw_t35, dw_f7, dw_t7, dw_f5, dw_t5, dw_f6, dw_t6, dw_f1, dw_f2, dw_f3, dw_f4, dw_f8, dw_f10, dw_f11, dw_f15, dw_f16, dw_f17, dw_f18, dw_f19, dw_f20, dw_f21, dw_f26, dw_f27, dw_f31, dw_f32, dw_f33, dw_f34, dw_a1, dw_w1, dw_a2, dw_w2, dw_a3, dw_w3, dw_a4, dw_w4, dw_a5, dw_w5, dw_a6, dw_w6, dw_a7, dw_w7, dw_a8, dw_w8, dw_a9_0, dw_s9_0, dw_a9_1, dw_s9_1, dw_a10, dw_w10, dw_a10_0, dw_w10_0, dw_a10_1, dw_w10_1, dw_a10_2, dw_w10_2, dw_a11, dw_w11, dw_a12, dw_w12, dw_a13, dw_w13, dw_a14, dw_w14, dw_a15, dw_w15, dw_a16, dw_w16, dw_a17, dw_w17, dw_a17_0, dw_w17_0, dw_a18, dw_w18, dw_a18_0, dw_w18_0, dw_a18_1, dw_w18_1, dw_a18_2, dw_w18_2, dw_a18_3, dw_w18_3, dw_a18_4, dw_w18_4, dw_a18_5, dw_w18_5, dw_a19, dw_w19, dw_a19_24, dw_w19_24, dw_a20, dw_w20, dw_Min]); first | with_reducible rw [bnd_s] | with_reducible rw [bn2_s] | with_reducible rw [grd_t]))
  by_cases c1 : dw_in i 0 11 = 0
  · rw [if_pos c1, if_pos c1]
    exact dw_Bk_id
  rw [if_neg c1, if_neg c1]
  obtain ⟨q, hq, rfl⟩ := dw_in_of (n := 11) rfl c1
  obtain ⟨p, hp, rfl⟩ := dw_in_of (n := 6) rfl c0
  rw [dw_N_nI (by omega)]
  have e6 : nI q - nI q / 6 * 6 = nI (q % 6) := pk_rem (d := 6) (by omega) (by decide) (by decide)
  repeat (first | with_reducible rw [bnd_s] | with_reducible rw [nmd_s] | with_reducible rw [bn2_s] | with_reducible rw [grd_t] | ((conv => arg 1; arg 1; simp (disch := omega) only [dw_is, dw_f0, dw_t0, dw_f9, dw_t9, dw_f12, dw_t12, dw_f13, dw_t13, dw_f14, dw_t14, dw_f22, dw_t22, dw_f23, dw_t23, dw_f24, dw_t24, dw_f25, dw_t25, dw_f28, dw_t28, dw_f29, dw_t29, dw_f30, dw_t30, dw_f35, dw_t35, dw_f7, dw_t7, dw_f5, dw_t5, dw_f6, dw_t6, dw_f1, dw_f2, dw_f3, dw_f4, dw_f8, dw_f10, dw_f11, dw_f15, dw_f16, dw_f17, dw_f18, dw_f19, dw_f20, dw_f21, dw_f26, dw_f27, dw_f31, dw_f32, dw_f33, dw_f34, dw_a1, dw_w1, dw_a2, dw_w2, dw_a3, dw_w3, dw_a4, dw_w4, dw_a5, dw_w5, dw_a6, dw_w6, dw_a7, dw_w7, dw_a8, dw_w8, dw_a9_0, dw_s9_0, dw_a9_1, dw_s9_1, dw_a10, dw_w10, dw_a10_0, dw_w10_0, dw_a10_1, dw_w10_1, dw_a10_2, dw_w10_2, dw_a11, dw_w11, dw_a12, dw_w12, dw_a13, dw_w13, dw_a14, dw_w14, dw_a15, dw_w15, dw_a16, dw_w16, dw_a17, dw_w17, dw_a17_0, dw_w17_0, dw_a18, dw_w18, dw_a18_0, dw_w18_0, dw_a18_1, dw_w18_1, dw_a18_2, dw_w18_2, dw_a18_3, dw_w18_3, dw_a18_4, dw_w18_4, dw_a18_5, dw_w18_5, dw_a19, dw_w19, dw_a19_24, dw_w19_24, dw_a20, dw_w20, h2]); first | with_reducible rw [bnd_s] | with_reducible rw [bn2_s] | with_reducible rw [grd_t]))
  rw [e6]
  by_cases c2 : q % 6 < m
  · rw [if_pos (show nI (q % 6) < nI m from nI_lt c2 (by omega)), if_pos c2]
    by_cases c3 : q < 6
    · rw [if_pos (show nI q < 6 from nI_lt (b := 6) c3 (by omega)), if_pos c3]
      by_cases c4 : p = 6
      · rw [if_pos (show (6 : Int32) ≤ nI p from nI_le (a := 6) (by omega) (by omega)), if_pos (show nI p = 6 by rw [c4]; rfl)]
        exact dw_Bk_id
      · rw [if_neg (show ¬ (6 : Int32) ≤ nI p from nI_ge (b := 6) (by omega) (by omega)), if_neg (show ¬ nI p = 6 from dw_ne (b := 6) (by omega) (by omega) c4)]
        obtain ⟨_, _, _, _, i1, _⟩ := h1 q (by omega)
        repeat (first | with_reducible rw [bnd_s] | with_reducible rw [nmd_s] | with_reducible rw [bn2_s] | with_reducible rw [grd_t] | ((conv => arg 1; arg 1; simp (disch := omega) only [dw_is, dw_f0, dw_t0, dw_f9, dw_t9, dw_f12, dw_t12, dw_f13, dw_t13, dw_f14, dw_t14, dw_f22, dw_t22, dw_f23, dw_t23, dw_f24, dw_t24, dw_f25, dw_t25, dw_f28, dw_t28, dw_f29, dw_t29, dw_f30, dw_t30, dw_f35, dw_t35, dw_f7, dw_t7, dw_f5, dw_t5, dw_f6, dw_t6, dw_f1, dw_f2, dw_f3, dw_f4, dw_f8, dw_f10, dw_f11, dw_f15, dw_f16, dw_f17, dw_f18, dw_f19, dw_f20, dw_f21, dw_f26, dw_f27, dw_f31, dw_f32, dw_f33, dw_f34, dw_a1, dw_w1, dw_a2, dw_w2, dw_a3, dw_w3, dw_a4, dw_w4, dw_a5, dw_w5, dw_a6, dw_w6, dw_a7, dw_w7, dw_a8, dw_w8, dw_a9_0, dw_s9_0, dw_a9_1, dw_s9_1, dw_a10, dw_w10, dw_a10_0, dw_w10_0, dw_a10_1, dw_w10_1, dw_a10_2, dw_w10_2, dw_a11, dw_w11, dw_a12, dw_w12, dw_a13, dw_w13, dw_a14, dw_w14, dw_a15, dw_w15, dw_a16, dw_w16, dw_a17, dw_w17, dw_a17_0, dw_w17_0, dw_a18, dw_w18, dw_a18_0, dw_w18_0, dw_a18_1, dw_w18_1, dw_a18_2, dw_w18_2, dw_a18_3, dw_w18_3, dw_a18_4, dw_w18_4, dw_a18_5, dw_w18_5, dw_a19, dw_w19, dw_a19_24, dw_w19_24, dw_a20, dw_w20, i1, dw_Mund]); first | with_reducible rw [bnd_s] | with_reducible rw [bn2_s] | with_reducible rw [grd_t]))
        by_cases c5 : dw_und (s q 1) (nI p) = true
        · rw [if_pos c5, if_pos c5, if_neg (by decide)]
          exact dw_Bk_id
        · rw [if_neg c5, if_neg c5, if_pos rfl]
          exact dw_Bk_id
    · rw [if_neg (show ¬ nI q < 6 from nI_nlt (b := 6) (by omega) (by omega)), if_neg c3]
      by_cases c4 : nI p = 6
      · rw [if_pos c4, if_pos c4]
        obtain ⟨_, _, i5, _, _, _⟩ := h1 (q - 6) (by omega)
        have e7 : nI q - 6 = nI (q - 6) := pk_sub (b := 6) (by omega)
        repeat (first | with_reducible rw [bnd_s] | with_reducible rw [nmd_s] | with_reducible rw [bn2_s] | with_reducible rw [grd_t] | ((conv => arg 1; arg 1; simp (disch := omega) only [dw_is, dw_f0, dw_t0, dw_f9, dw_t9, dw_f12, dw_t12, dw_f13, dw_t13, dw_f14, dw_t14, dw_f22, dw_t22, dw_f23, dw_t23, dw_f24, dw_t24, dw_f25, dw_t25, dw_f28, dw_t28, dw_f29, dw_t29, dw_f30, dw_t30, dw_f35, dw_t35, dw_f7, dw_t7, dw_f5, dw_t5, dw_f6, dw_t6, dw_f1, dw_f2, dw_f3, dw_f4, dw_f8, dw_f10, dw_f11, dw_f15, dw_f16, dw_f17, dw_f18, dw_f19, dw_f20, dw_f21, dw_f26, dw_f27, dw_f31, dw_f32, dw_f33, dw_f34, dw_a1, dw_w1, dw_a2, dw_w2, dw_a3, dw_w3, dw_a4, dw_w4, dw_a5, dw_w5, dw_a6, dw_w6, dw_a7, dw_w7, dw_a8, dw_w8, dw_a9_0, dw_s9_0, dw_a9_1, dw_s9_1, dw_a10, dw_w10, dw_a10_0, dw_w10_0, dw_a10_1, dw_w10_1, dw_a10_2, dw_w10_2, dw_a11, dw_w11, dw_a12, dw_w12, dw_a13, dw_w13, dw_a14, dw_w14, dw_a15, dw_w15, dw_a16, dw_w16, dw_a17, dw_w17, dw_a17_0, dw_w17_0, dw_a18, dw_w18, dw_a18_0, dw_w18_0, dw_a18_1, dw_w18_1, dw_a18_2, dw_w18_2, dw_a18_3, dw_w18_3, dw_a18_4, dw_w18_4, dw_a18_5, dw_w18_5, dw_a19, dw_w19, dw_a19_24, dw_w19_24, dw_a20, dw_w20, e7, dw_3, dw_p2, i5]); first | with_reducible rw [bnd_s] | with_reducible rw [bn2_s] | with_reducible rw [grd_t]))
        exact dw_Bk_id
      · rw [if_neg c4, if_neg c4]
        exact dw_Bk_id
  · rw [if_neg (show ¬ nI (q % 6) < nI m from nI_nlt (by omega) (by omega)), if_neg c2]
    exact dw_Bk_id
end MC
