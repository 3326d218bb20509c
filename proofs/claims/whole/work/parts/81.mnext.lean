/-! THE REFERENCE: a token from the tape -/
def dw_tc (t : Nat) : Int32 := if t < 10000 then 1 else if t < 10006 then 2 else if t = 10006 then 4 else if t = 10007 then 5 else if t = 10008 then 60 else if t = 10009 then 61 else if t = 10010 then 43 else if t = 10011 then 45 else if t = 10012 then 42 else if t = 10013 then 6 else if t ≤ 10017 then 3 else if t = 10018 then 40 else if t = 10019 then 41 else if t = 10020 then 59 else if t = 10021 then 0 else -1
def dw_tv (t : Nat) : Int32 := if t < 10000 then nI t else if t < 10006 then nI (t - 10000) else nI (t - 10015)
theorem dw_inL (b : Int32) : dw_in b 97 122 = if dw_isL b = true then 1 else 0 := by
  unfold dw_in dw_isL
  by_cases h1 : b < 97 <;> by_cases h2 : 122 < b <;> simp [h1, h2]
theorem dw_inD (b : Int32) : dw_in b 48 57 = if dw_isD b = true then 1 else 0 := by
  unfold dw_in dw_isD
  by_cases h1 : b < 48 <;> by_cases h2 : 57 < b <;> simp [h1, h2]
theorem dw_LD : ∀ n, n < 256 → dw_isL (nI n) = true → dw_isD (nI n) = false ∧ n ≠ 32 := by decide +kernel
/-- but for a few numbers of its own the heap is the same -/
def dw_Kx (X X' : dw_X) : Prop := X'.2 = X.2 ∧ ∀ j, j < 22 ∨ 25 < j → dw_gI X' j = dw_gI X j
theorem dw_Kx_rfl (X : dw_X) : dw_Kx X X := ⟨rfl, fun _ _ => rfl⟩
theorem dw_Kx_tr {X X' X'' : dw_X} (h : dw_Kx X X') (g : dw_Kx X' X'') : dw_Kx X X'' := ⟨g.1.trans h.1, fun j hj => (g.2 j hj).trans (h.2 j hj)⟩
theorem dw_Kx_I {X : dw_X} {k : Nat} {v : Int32} (h1 : 22 ≤ k) (h2 : k ≤ 25) : dw_Kx X (dw_I X k v) := ⟨rfl, fun j hj => dw_IIn (by omega)⟩
theorem dw_Kx_A {X X' : dw_X} (h : dw_Kx X X') (c i : Nat) : dw_gA X' c i = dw_gA X c i := by
  unfold dw_gA
  rw [h.1]
section MN
variable {X0 : dw_X} {R G S N : Nat → Int32} {y : Int32} {tb : Nat → Nat} {tp : Nat}
/-- the tape and the words of the reference -/
def dw_TA (X : dw_X) (tb : Nat → Nat) (tp : Nat) : Prop := dw_gI X 9 = nI tp ∧ (∀ j, j < tp → dw_gA X 5 j = nI (tb j)) ∧ ∀ i, i < 96 → dw_gA X 15 i = nI (dw_wr.getD i 0)
theorem dw_TA_Kx {X X' : dw_X} (h : dw_TA X tb tp) (e : dw_Kx X X') : dw_TA X' tb tp := ⟨(e.2 9 (by decide)).trans h.1, fun j hj => (dw_Kx_A e 5 j).trans (h.2.1 j hj), fun i hi => (dw_Kx_A e 15 i).trans (h.2.2 i hi)⟩
theorem dw_Mn0 (htp : tp ≤ 160) (f k : Nat) : ∀ i (X : dw_X), tp ≤ i + k → i ≤ tp → dw_TA X tb tp → dw_gI X 22 = nI i → dw_Z (M_next_0 (f + k + 1) (dw_mk X R G S N y) 0) (fun z => ∃ X', z = M_next_52 (dw_mk X' R G S N y) 0 ∧ dw_Kx X X' ∧ dw_gI X' 22 = nI (dw_sk dw_isB tb tp k i)) := by
  induction k with
  | zero =>
    intro i X hk hi hT h22
    rw [M_next_0]
    repeat (first | with_reducible rw [bnd_s] | with_reducible rw [nmd_s] | with_reducible rw [bn2_s] | with_reducible rw [grd_t] | ((conv => arg 1; arg 1; simp (disch := omega) only [dw_is, dw_f0, dw_t0, dw_f9, dw_t9, dw_f12, dw_t12, dw_f13, dw_t13, dw_f14, dw_t14, dw_f22, dw_t22, dw_f23, dw_t23, dw_f24, dw_t24, dw_f25, dw_t25, dw_f28, dw_t28, dw_f29, dw_t29, dw_f30, dw_t30, dw_f35, dw_t35, dw_f7, dw_t7, dw_f5, dw_t5, dw_f6, dw_t6, dw_f1, dw_f2, dw_f3, dw_f4, dw_f8, dw_f10, dw_f11, dw_f15, dw_f16, dw_f17, dw_f18, dw_f19, dw_f20, dw_f21, dw_f26, dw_f27, dw_f31, dw_f32, dw_f33, dw_f34, dw_a1, dw_w1, dw_a2, dw_w2, dw_a3, dw_w3, dw_a4, dw_w4, dw_a5, dw_w5, dw_a6, dw_w6, dw_a7, dw_w7, dw_a8, dw_w8, dw_a9_0, dw_s9_0, dw_a9_1, dw_s9_1, dw_a10, dw_w10, dw_a10_0, dw_w10_0, dw_a10_1, dw_w10_1, dw_a10_2, dw_w10_2, dw_a11, dw_w11, dw_a12, dw_w12, dw_a13, dw_w13, dw_a14, dw_w14, dw_a15, dw_w15, dw_a16, dw_w16, dw_a17, dw_w17, dw_a17_0, dw_w17_0, dw_a18, dw_w18, dw_a18_0, dw_w18_0, dw_a18_1, dw_w18_1, dw_a18_2, dw_w18_2, dw_a18_3, dw_w18_3, dw_a18_4, dw_w18_4, dw_a18_5, dw_w18_5, dw_a19, dw_w19, dw_a19_24, dw_w19_24, dw_a20, dw_w20, h22, hT.1]); first | with_reducible rw [bnd_s] | with_reducible rw [bn2_s] | with_reducible rw [grd_t]))
    rw [if_pos (show nI tp ≤ nI i from nI_le (by omega) (by omega))]
    exact ⟨X, rfl, dw_Kx_rfl X, h22⟩
  | succ k ih =>
    intro i X hk hi hT h22
    rw [show f + (k + 1) + 1 = f + k + 1 + 1 by omega, M_next_0, dw_sk]
    repeat (first | with_reducible rw [bnd_s] | with_reducible rw [nmd_s] | with_reducible rw [bn2_s] | with_reducible rw [grd_t] | ((conv => arg 1; arg 1; simp (disch := omega) only [dw_is, dw_f0, dw_t0, dw_f9, dw_t9, dw_f12, dw_t12, dw_f13, dw_t13, dw_f14, dw_t14, dw_f22, dw_t22, dw_f23, dw_t23, dw_f24, dw_t24, dw_f25, dw_t25, dw_f28, dw_t28, dw_f29, dw_t29, dw_f30, dw_t30, dw_f35, dw_t35, dw_f7, dw_t7, dw_f5, dw_t5, dw_f6, dw_t6, dw_f1, dw_f2, dw_f3, dw_f4, dw_f8, dw_f10, dw_f11, dw_f15, dw_f16, dw_f17, dw_f18, dw_f19, dw_f20, dw_f21, dw_f26, dw_f27, dw_f31, dw_f32, dw_f33, dw_f34, dw_a1, dw_w1, dw_a2, dw_w2, dw_a3, dw_w3, dw_a4, dw_w4, dw_a5, dw_w5, dw_a6, dw_w6, dw_a7, dw_w7, dw_a8, dw_w8, dw_a9_0, dw_s9_0, dw_a9_1, dw_s9_1, dw_a10, dw_w10, dw_a10_0, dw_w10_0, dw_a10_1, dw_w10_1, dw_a10_2, dw_w10_2, dw_a11, dw_w11, dw_a12, dw_w12, dw_a13, dw_w13, dw_a14, dw_w14, dw_a15, dw_w15, dw_a16, dw_w16, dw_a17, dw_w17, dw_a17_0, dw_w17_0, dw_a18, dw_w18, dw_a18_0, dw_w18_0, dw_a18_1, dw_w18_1, dw_a18_2, dw_w18_2, dw_a18_3, dw_w18_3, dw_a18_4, dw_w18_4, dw_a18_5, dw_w18_5, dw_a19, dw_w19, dw_a19_24, dw_w19_24, dw_a20, dw_w20, h22, hT.1]); first | with_reducible rw [bnd_s] | with_reducible rw [bn2_s] | with_reducible rw [grd_t]))
    by_cases c : i < tp
    · rw [if_neg (show ¬ nI tp ≤ nI i from nI_ge c (by omega)), if_pos c]
      have hB : dw_isB (dw_by tb tp i) = (decide (nI (tb i) = 32) || decide (nI (tb i) = 10)) := by rw [dw_by, if_pos c, dw_isB]
      have go : ∃ X', M_next_39 (M_next_0 (f + k + 1)) (dw_mk X R G S N y) 0 = M_next_52 (dw_mk X' R G S N y) 0 ∧ dw_Kx X X' ∧ dw_gI X' 22 = nI (dw_sk dw_isB tb tp k (i + 1)) := by
        have kx := dw_Kx_I (X := X) (k := 22) (v := nI (i + 1)) (by decide) (by decide)
        obtain ⟨X', e1, e2, e3⟩ := ih (i + 1) (dw_I X 22 (nI (i + 1))) (by omega) (by omega) (dw_TA_Kx hT kx) (by rw [dw_II, if_pos rfl])
        refine ⟨X', ?_, dw_Kx_tr kx e2, e3⟩
        rw [M_next_39]
        repeat (first | with_reducible rw [bnd_s] | with_reducible rw [nmd_s] | with_reducible rw [bn2_s] | with_reducible rw [grd_t] | ((conv => arg 1; arg 1; simp (disch := omega) only [dw_is, dw_f0, dw_t0, dw_f9, dw_t9, dw_f12, dw_t12, dw_f13, dw_t13, dw_f14, dw_t14, dw_f22, dw_t22, dw_f23, dw_t23, dw_f24, dw_t24, dw_f25, dw_t25, dw_f28, dw_t28, dw_f29, dw_t29, dw_f30, dw_t30, dw_f35, dw_t35, dw_f7, dw_t7, dw_f5, dw_t5, dw_f6, dw_t6, dw_f1, dw_f2, dw_f3, dw_f4, dw_f8, dw_f10, dw_f11, dw_f15, dw_f16, dw_f17, dw_f18, dw_f19, dw_f20, dw_f21, dw_f26, dw_f27, dw_f31, dw_f32, dw_f33, dw_f34, dw_a1, dw_w1, dw_a2, dw_w2, dw_a3, dw_w3, dw_a4, dw_w4, dw_a5, dw_w5, dw_a6, dw_w6, dw_a7, dw_w7, dw_a8, dw_w8, dw_a9_0, dw_s9_0, dw_a9_1, dw_s9_1, dw_a10, dw_w10, dw_a10_0, dw_w10_0, dw_a10_1, dw_w10_1, dw_a10_2, dw_w10_2, dw_a11, dw_w11, dw_a12, dw_w12, dw_a13, dw_w13, dw_a14, dw_w14, dw_a15, dw_w15, dw_a16, dw_w16, dw_a17, dw_w17, dw_a17_0, dw_w17_0, dw_a18, dw_w18, dw_a18_0, dw_w18_0, dw_a18_1, dw_w18_1, dw_a18_2, dw_w18_2, dw_a18_3, dw_w18_3, dw_a18_4, dw_w18_4, dw_a18_5, dw_w18_5, dw_a19, dw_w19, dw_a19_24, dw_w19_24, dw_a20, dw_w20, h22]); first | with_reducible rw [bnd_s] | with_reducible rw [bn2_s] | with_reducible rw [grd_t]))
        rw [nI_1]
        exact e1
      repeat (first | with_reducible rw [bnd_s] | with_reducible rw [nmd_s] | with_reducible rw [bn2_s] | with_reducible rw [grd_t] | ((conv => arg 1; arg 1; simp (disch := omega) only [dw_is, dw_f0, dw_t0, dw_f9, dw_t9, dw_f12, dw_t12, dw_f13, dw_t13, dw_f14, dw_t14, dw_f22, dw_t22, dw_f23, dw_t23, dw_f24, dw_t24, dw_f25, dw_t25, dw_f28, dw_t28, dw_f29, dw_t29, dw_f30, dw_t30, dw_f35, dw_t35, dw_f7, dw_t7, dw_f5, dw_t5, dw_f6, dw_t6, dw_f1, dw_f2, dw_f3, dw_f4, dw_f8, dw_f10, dw_f11, dw_f15, dw_f16, dw_f17, dw_f18, dw_f19, dw_f20, dw_f21, dw_f26, dw_f27, dw_f31, dw_f32, dw_f33, dw_f34, dw_a1, dw_w1, dw_a2, dw_w2, dw_a3, dw_w3, dw_a4, dw_w4, dw_a5, dw_w5, dw_a6, dw_w6, dw_a7, dw_w7, dw_a8, dw_w8, dw_a9_0, dw_s9_0, dw_a9_1, dw_s9_1, dw_a10, dw_w10, dw_a10_0, dw_w10_0, dw_a10_1, dw_w10_1, dw_a10_2, dw_w10_2, dw_a11, dw_w11, dw_a12, dw_w12, dw_a13, dw_w13, dw_a14, dw_w14, dw_a15, dw_w15, dw_a16, dw_w16, dw_a17, dw_w17, dw_a17_0, dw_w17_0, dw_a18, dw_w18, dw_a18_0, dw_w18_0, dw_a18_1, dw_w18_1, dw_a18_2, dw_w18_2, dw_a18_3, dw_w18_3, dw_a18_4, dw_w18_4, dw_a18_5, dw_w18_5, dw_a19, dw_w19, dw_a19_24, dw_w19_24, dw_a20, dw_w20, h22, hT.2.1 i c]); first | with_reducible rw [bnd_s] | with_reducible rw [bn2_s] | with_reducible rw [grd_t]))
      by_cases c2 : nI (tb i) = 32
      · rw [if_pos c2, if_pos (by rw [hB, decide_eq_true c2]; rfl)]
        exact go
      rw [if_neg c2]
      repeat (first | with_reducible rw [bnd_s] | with_reducible rw [nmd_s] | with_reducible rw [bn2_s] | with_reducible rw [grd_t] | ((conv => arg 1; arg 1; simp (disch := omega) only [dw_is, dw_f0, dw_t0, dw_f9, dw_t9, dw_f12, dw_t12, dw_f13, dw_t13, dw_f14, dw_t14, dw_f22, dw_t22, dw_f23, dw_t23, dw_f24, dw_t24, dw_f25, dw_t25, dw_f28, dw_t28, dw_f29, dw_t29, dw_f30, dw_t30, dw_f35, dw_t35, dw_f7, dw_t7, dw_f5, dw_t5, dw_f6, dw_t6, dw_f1, dw_f2, dw_f3, dw_f4, dw_f8, dw_f10, dw_f11, dw_f15, dw_f16, dw_f17, dw_f18, dw_f19, dw_f20, dw_f21, dw_f26, dw_f27, dw_f31, dw_f32, dw_f33, dw_f34, dw_a1, dw_w1, dw_a2, dw_w2, dw_a3, dw_w3, dw_a4, dw_w4, dw_a5, dw_w5, dw_a6, dw_w6, dw_a7, dw_w7, dw_a8, dw_w8, dw_a9_0, dw_s9_0, dw_a9_1, dw_s9_1, dw_a10, dw_w10, dw_a10_0, dw_w10_0, dw_a10_1, dw_w10_1, dw_a10_2, dw_w10_2, dw_a11, dw_w11, dw_a12, dw_w12, dw_a13, dw_w13, dw_a14, dw_w14, dw_a15, dw_w15, dw_a16, dw_w16, dw_a17, dw_w17, dw_a17_0, dw_w17_0, dw_a18, dw_w18, dw_a18_0, dw_w18_0, dw_a18_1, dw_w18_1, dw_a18_2, dw_w18_2, dw_a18_3, dw_w18_3, dw_a18_4, dw_w18_4, dw_a18_5, dw_w18_5, dw_a19, dw_w19, dw_a19_24, dw_w19_24, dw_a20, dw_w20, h22, hT.2.1 i c]); first | with_reducible rw [bnd_s] | with_reducible rw [bn2_s] | with_reducible rw [grd_t]))
      by_cases c3 : nI (tb i) = 10
      · rw [if_pos c3, if_pos (by rw [hB, decide_eq_true c3, Bool.or_true])]
        exact go
      · rw [if_neg c3, if_neg (by rw [hB, decide_eq_false c2, decide_eq_false c3]; decide)]
        exact ⟨X, rfl, dw_Kx_rfl X, h22⟩
    · rw [if_pos (show nI tp ≤ nI i from nI_le (by omega) (by omega)), if_neg c]
      exact ⟨X, rfl, dw_Kx_rfl X, h22⟩
theorem dw_Mn103 (htp : tp ≤ 160) (f k : Nat) : ∀ i (X : dw_X), tp ≤ i + k → i ≤ tp → dw_TA X tb tp → dw_gI X 22 = nI i → dw_Z (M_next_103 (f + k + 1) (dw_mk X R G S N y) 0) (fun z => ∃ X', z = M_next_146 (dw_mk X' R G S N y) 0 ∧ X'.2 = X.2 ∧ (∀ j, j ≠ 22 → dw_gI X' j = dw_gI X j) ∧ dw_gI X' 22 = nI (dw_sk dw_isL tb tp k i)) := by
  induction k with
  | zero =>
    intro i X hk hi hT h22
    rw [M_next_103]
    repeat (first | with_reducible rw [bnd_s] | with_reducible rw [nmd_s] | with_reducible rw [bn2_s] | with_reducible rw [grd_t] | ((conv => arg 1; arg 1; simp (disch := omega) only [dw_is, dw_f0, dw_t0, dw_f9, dw_t9, dw_f12, dw_t12, dw_f13, dw_t13, dw_f14, dw_t14, dw_f22, dw_t22, dw_f23, dw_t23, dw_f24, dw_t24, dw_f25, dw_t25, dw_f28, dw_t28, dw_f29, dw_t29, dw_f30, dw_t30, dw_f35, dw_t35, dw_f7, dw_t7, dw_f5, dw_t5, dw_f6, dw_t6, dw_f1, dw_f2, dw_f3, dw_f4, dw_f8, dw_f10, dw_f11, dw_f15, dw_f16, dw_f17, dw_f18, dw_f19, dw_f20, dw_f21, dw_f26, dw_f27, dw_f31, dw_f32, dw_f33, dw_f34, dw_a1, dw_w1, dw_a2, dw_w2, dw_a3, dw_w3, dw_a4, dw_w4, dw_a5, dw_w5, dw_a6, dw_w6, dw_a7, dw_w7, dw_a8, dw_w8, dw_a9_0, dw_s9_0, dw_a9_1, dw_s9_1, dw_a10, dw_w10, dw_a10_0, dw_w10_0, dw_a10_1, dw_w10_1, dw_a10_2, dw_w10_2, dw_a11, dw_w11, dw_a12, dw_w12, dw_a13, dw_w13, dw_a14, dw_w14, dw_a15, dw_w15, dw_a16, dw_w16, dw_a17, dw_w17, dw_a17_0, dw_w17_0, dw_a18, dw_w18, dw_a18_0, dw_w18_0, dw_a18_1, dw_w18_1, dw_a18_2, dw_w18_2, dw_a18_3, dw_w18_3, dw_a18_4, dw_w18_4, dw_a18_5, dw_w18_5, dw_a19, dw_w19, dw_a19_24, dw_w19_24, dw_a20, dw_w20, h22, hT.1]); first | with_reducible rw [bnd_s] | with_reducible rw [bn2_s] | with_reducible rw [grd_t]))
    rw [if_pos (show nI tp ≤ nI i from nI_le (by omega) (by omega))]
    exact ⟨X, rfl, rfl, fun _ _ => rfl, h22⟩
  | succ k ih =>
    intro i X hk hi hT h22
    rw [show f + (k + 1) + 1 = f + k + 1 + 1 by omega, M_next_103, dw_sk]
    repeat (first | with_reducible rw [bnd_s] | with_reducible rw [nmd_s] | with_reducible rw [bn2_s] | with_reducible rw [grd_t] | ((conv => arg 1; arg 1; simp (disch := omega) only [dw_is, dw_f0, dw_t0, dw_f9, dw_t9, dw_f12, dw_t12, dw_f13, dw_t13, dw_f14, dw_t14, dw_f22, dw_t22, dw_f23, dw_t23, dw_f24, dw_t24, dw_f25, dw_t25, dw_f28, dw_t28, dw_f29, dw_t29, dw_f30, dw_t30, dw_f35, dw_t35, dw_f7, dw_t7, dw_f5, dw_t5, dw_f6, dw_t6, dw_f1, dw_f2, dw_f3, dw_f4, dw_f8, dw_f10, dw_f11, dw_f15, dw_f16, dw_f17, dw_f18, dw_f19, dw_f20, dw_f21, dw_f26, dw_f27, dw_f31, dw_f32, dw_f33, dw_f34, dw_a1, dw_w1, dw_a2, dw_w2, dw_a3, dw_w3, dw_a4, dw_w4, dw_a5, dw_w5, dw_a6, dw_w6, dw_a7, dw_w7, dw_a8, dw_w8, dw_a9_0, dw_s9_0, dw_a9_1, dw_s9_1, dw_a10, dw_w10, dw_a10_0, dw_w10_0, dw_a10_1, dw_w10_1, dw_a10_2, dw_w10_2, dw_a11, dw_w11, dw_a12, dw_w12, dw_a13, dw_w13, dw_a14, dw_w14, dw_a15, dw_w15, dw_a16, dw_w16, dw_a17, dw_w17, dw_a17_0, dw_w17_0, dw_a18, dw_w18, dw_a18_0, dw_w18_0, dw_a18_1, dw_w18_1, dw_a18_2, dw_w18_2, dw_a18_3, dw_w18_3, dw_a18_4, dw_w18_4, dw_a18_5, dw_w18_5, dw_a19, dw_w19, dw_a19_24, dw_w19_24, dw_a20, dw_w20, h22, hT.1]); first | with_reducible rw [bnd_s] | with_reducible rw [bn2_s] | with_reducible rw [grd_t]))
    by_cases c : i < tp
    · rw [if_neg (show ¬ nI tp ≤ nI i from nI_ge c (by omega)), if_pos c]
      repeat (first | with_reducible rw [bnd_s] | with_reducible rw [nmd_s] | with_reducible rw [bn2_s] | with_reducible rw [grd_t] | ((conv => arg 1; arg 1; simp (disch := omega) only [dw_is, dw_f0, dw_t0, dw_f9, dw_t9, dw_f12, dw_t12, dw_f13, dw_t13, dw_f14, dw_t14, dw_f22, dw_t22, dw_f23, dw_t23, dw_f24, dw_t24, dw_f25, dw_t25, dw_f28, dw_t28, dw_f29, dw_t29, dw_f30, dw_t30, dw_f35, dw_t35, dw_f7, dw_t7, dw_f5, dw_t5, dw_f6, dw_t6, dw_f1, dw_f2, dw_f3, dw_f4, dw_f8, dw_f10, dw_f11, dw_f15, dw_f16, dw_f17, dw_f18, dw_f19, dw_f20, dw_f21, dw_f26, dw_f27, dw_f31, dw_f32, dw_f33, dw_f34, dw_a1, dw_w1, dw_a2, dw_w2, dw_a3, dw_w3, dw_a4, dw_w4, dw_a5, dw_w5, dw_a6, dw_w6, dw_a7, dw_w7, dw_a8, dw_w8, dw_a9_0, dw_s9_0, dw_a9_1, dw_s9_1, dw_a10, dw_w10, dw_a10_0, dw_w10_0, dw_a10_1, dw_w10_1, dw_a10_2, dw_w10_2, dw_a11, dw_w11, dw_a12, dw_w12, dw_a13, dw_w13, dw_a14, dw_w14, dw_a15, dw_w15, dw_a16, dw_w16, dw_a17, dw_w17, dw_a17_0, dw_w17_0, dw_a18, dw_w18, dw_a18_0, dw_w18_0, dw_a18_1, dw_w18_1, dw_a18_2, dw_w18_2, dw_a18_3, dw_w18_3, dw_a18_4, dw_w18_4, dw_a18_5, dw_w18_5, dw_a19, dw_w19, dw_a19_24, dw_w19_24, dw_a20, dw_w20, h22, hT.2.1 i c, dw_Min, dw_inL]); first | with_reducible rw [bnd_s] | with_reducible rw [bn2_s] | with_reducible rw [grd_t]))
      have hB : dw_by tb tp i = nI (tb i) := by rw [dw_by, if_pos c]
      rw [hB]
      by_cases c2 : dw_isL (nI (tb i)) = true
      · rw [if_pos c2, if_pos c2, if_neg (by decide)]
        repeat (first | with_reducible rw [bnd_s] | with_reducible rw [nmd_s] | with_reducible rw [bn2_s] | with_reducible rw [grd_t] | ((conv => arg 1; arg 1; simp (disch := omega) only [dw_is, dw_f0, dw_t0, dw_f9, dw_t9, dw_f12, dw_t12, dw_f13, dw_t13, dw_f14, dw_t14, dw_f22, dw_t22, dw_f23, dw_t23, dw_f24, dw_t24, dw_f25, dw_t25, dw_f28, dw_t28, dw_f29, dw_t29, dw_f30, dw_t30, dw_f35, dw_t35, dw_f7, dw_t7, dw_f5, dw_t5, dw_f6, dw_t6, dw_f1, dw_f2, dw_f3, dw_f4, dw_f8, dw_f10, dw_f11, dw_f15, dw_f16, dw_f17, dw_f18, dw_f19, dw_f20, dw_f21, dw_f26, dw_f27, dw_f31, dw_f32, dw_f33, dw_f34, dw_a1, dw_w1, dw_a2, dw_w2, dw_a3, dw_w3, dw_a4, dw_w4, dw_a5, dw_w5, dw_a6, dw_w6, dw_a7, dw_w7, dw_a8, dw_w8, dw_a9_0, dw_s9_0, dw_a9_1, dw_s9_1, dw_a10, dw_w10, dw_a10_0, dw_w10_0, dw_a10_1, dw_w10_1, dw_a10_2, dw_w10_2, dw_a11, dw_w11, dw_a12, dw_w12, dw_a13, dw_w13, dw_a14, dw_w14, dw_a15, dw_w15, dw_a16, dw_w16, dw_a17, dw_w17, dw_a17_0, dw_w17_0, dw_a18, dw_w18, dw_a18_0, dw_w18_0, dw_a18_1, dw_w18_1, dw_a18_2, dw_w18_2, dw_a18_3, dw_w18_3, dw_a18_4, dw_w18_4, dw_a18_5, dw_w18_5, dw_a19, dw_w19, dw_a19_24, dw_w19_24, dw_a20, dw_w20, h22]); first | with_reducible rw [bnd_s] | with_reducible rw [bn2_s] | with_reducible rw [grd_t]))
        rw [nI_1]
        have kx := dw_Kx_I (X := X) (k := 22) (v := nI (i + 1)) (by decide) (by decide)
        obtain ⟨X', e1, e2, e3, e4⟩ := ih (i + 1) (dw_I X 22 (nI (i + 1))) (by omega) (by omega) (dw_TA_Kx hT kx) (by rw [dw_II, if_pos rfl])
        exact ⟨X', e1, e2, fun j hj => by rw [e3 j hj, dw_IIn hj], e4⟩
      · rw [if_neg c2, if_neg c2, if_pos rfl]
        exact ⟨X, rfl, rfl, fun _ _ => rfl, h22⟩
    · rw [if_pos (show nI tp ≤ nI i from nI_le (by omega) (by omega)), if_neg c]
      exact ⟨X, rfl, rfl, fun _ _ => rfl, h22⟩
theorem dw_Mn230 (htp : tp ≤ 160) (hb : ∀ j, j < tp → tb j < 256) (f k : Nat) : ∀ i d v (X : dw_X), tp ≤ i + k → i ≤ tp → d ≤ i → dw_TA X tb tp → dw_gI X 22 = nI i → dw_gI X 25 = nI v → dw_Z (M_next_230 (f + k + 1) (dw_mk X R G S N y) 0 (nI d)) (fun z => ∃ X', z = M_next_309 (dw_mk X' R G S N y) 0 (nI (d + (dw_sk dw_isD tb tp k i - i))) ∧ dw_Kx X X' ∧ dw_gI X' 23 = dw_gI X 23 ∧ dw_gI X' 22 = nI (dw_sk dw_isD tb tp k i) ∧ (d + (dw_sk dw_isD tb tp k i - i) ≤ 4 → dw_gI X' 25 = nI (dw_vD tb i (dw_sk dw_isD tb tp k i - i) v))) := by
  induction k with
  | zero =>
    intro i d v X hk hi hd hT h22 h25
    rw [M_next_230]
    repeat (first | with_reducible rw [bnd_s] | with_reducible rw [nmd_s] | with_reducible rw [bn2_s] | with_reducible rw [grd_t] | ((conv => arg 1; arg 1; simp (disch := omega) only [dw_is, dw_f0, dw_t0, dw_f9, dw_t9, dw_f12, dw_t12, dw_f13, dw_t13, dw_f14, dw_t14, dw_f22, dw_t22, dw_f23, dw_t23, dw_f24, dw_t24, dw_f25, dw_t25, dw_f28, dw_t28, dw_f29, dw_t29, dw_f30, dw_t30, dw_f35, dw_t35, dw_f7, dw_t7, dw_f5, dw_t5, dw_f6, dw_t6, dw_f1, dw_f2, dw_f3, dw_f4, dw_f8, dw_f10, dw_f11, dw_f15, dw_f16, dw_f17, dw_f18, dw_f19, dw_f20, dw_f21, dw_f26, dw_f27, dw_f31, dw_f32, dw_f33, dw_f34, dw_a1, dw_w1, dw_a2, dw_w2, dw_a3, dw_w3, dw_a4, dw_w4, dw_a5, dw_w5, dw_a6, dw_w6, dw_a7, dw_w7, dw_a8, dw_w8, dw_a9_0, dw_s9_0, dw_a9_1, dw_s9_1, dw_a10, dw_w10, dw_a10_0, dw_w10_0, dw_a10_1, dw_w10_1, dw_a10_2, dw_w10_2, dw_a11, dw_w11, dw_a12, dw_w12, dw_a13, dw_w13, dw_a14, dw_w14, dw_a15, dw_w15, dw_a16, dw_w16, dw_a17, dw_w17, dw_a17_0, dw_w17_0, dw_a18, dw_w18, dw_a18_0, dw_w18_0, dw_a18_1, dw_w18_1, dw_a18_2, dw_w18_2, dw_a18_3, dw_w18_3, dw_a18_4, dw_w18_4, dw_a18_5, dw_w18_5, dw_a19, dw_w19, dw_a19_24, dw_w19_24, dw_a20, dw_w20, h22, hT.1]); first | with_reducible rw [bnd_s] | with_reducible rw [bn2_s] | with_reducible rw [grd_t]))
    rw [if_pos (show nI tp ≤ nI i from nI_le (by omega) (by omega)), dw_sk, Nat.sub_self]
    exact ⟨X, rfl, dw_Kx_rfl X, rfl, h22, fun _ => h25⟩
  | succ k ih =>
    intro i d v X hk hi hd hT h22 h25
    rw [show f + (k + 1) + 1 = f + k + 1 + 1 by omega, M_next_230, dw_sk]
    repeat (first | with_reducible rw [bnd_s] | with_reducible rw [nmd_s] | with_reducible rw [bn2_s] | with_reducible rw [grd_t] | ((conv => arg 1; arg 1; simp (disch := omega) only [dw_is, dw_f0, dw_t0, dw_f9, dw_t9, dw_f12, dw_t12, dw_f13, dw_t13, dw_f14, dw_t14, dw_f22, dw_t22, dw_f23, dw_t23, dw_f24, dw_t24, dw_f25, dw_t25, dw_f28, dw_t28, dw_f29, dw_t29, dw_f30, dw_t30, dw_f35, dw_t35, dw_f7, dw_t7, dw_f5, dw_t5, dw_f6, dw_t6, dw_f1, dw_f2, dw_f3, dw_f4, dw_f8, dw_f10, dw_f11, dw_f15, dw_f16, dw_f17, dw_f18, dw_f19, dw_f20, dw_f21, dw_f26, dw_f27, dw_f31, dw_f32, dw_f33, dw_f34, dw_a1, dw_w1, dw_a2, dw_w2, dw_a3, dw_w3, dw_a4, dw_w4, dw_a5, dw_w5, dw_a6, dw_w6, dw_a7, dw_w7, dw_a8, dw_w8, dw_a9_0, dw_s9_0, dw_a9_1, dw_s9_1, dw_a10, dw_w10, dw_a10_0, dw_w10_0, dw_a10_1, dw_w10_1, dw_a10_2, dw_w10_2, dw_a11, dw_w11, dw_a12, dw_w12, dw_a13, dw_w13, dw_a14, dw_w14, dw_a15, dw_w15, dw_a16, dw_w16, dw_a17, dw_w17, dw_a17_0, dw_w17_0, dw_a18, dw_w18, dw_a18_0, dw_w18_0, dw_a18_1, dw_w18_1, dw_a18_2, dw_w18_2, dw_a18_3, dw_w18_3, dw_a18_4, dw_w18_4, dw_a18_5, dw_w18_5, dw_a19, dw_w19, dw_a19_24, dw_w19_24, dw_a20, dw_w20, h22, hT.1]); first | with_reducible rw [bnd_s] | with_reducible rw [bn2_s] | with_reducible rw [grd_t]))
    by_cases c : i < tp
    · rw [if_neg (show ¬ nI tp ≤ nI i from nI_ge c (by omega)), if_pos c]
      repeat (first | with_reducible rw [bnd_s] | with_reducible rw [nmd_s] | with_reducible rw [bn2_s] | with_reducible rw [grd_t] | ((conv => arg 1; arg 1; simp (disch := omega) only [dw_is, dw_f0, dw_t0, dw_f9, dw_t9, dw_f12, dw_t12, dw_f13, dw_t13, dw_f14, dw_t14, dw_f22, dw_t22, dw_f23, dw_t23, dw_f24, dw_t24, dw_f25, dw_t25, dw_f28, dw_t28, dw_f29, dw_t29, dw_f30, dw_t30, dw_f35, dw_t35, dw_f7, dw_t7, dw_f5, dw_t5, dw_f6, dw_t6, dw_f1, dw_f2, dw_f3, dw_f4, dw_f8, dw_f10, dw_f11, dw_f15, dw_f16, dw_f17, dw_f18, dw_f19, dw_f20, dw_f21, dw_f26, dw_f27, dw_f31, dw_f32, dw_f33, dw_f34, dw_a1, dw_w1, dw_a2, dw_w2, dw_a3, dw_w3, dw_a4, dw_w4, dw_a5, dw_w5, dw_a6, dw_w6, dw_a7, dw_w7, dw_a8, dw_w8, dw_a9_0, dw_s9_0, dw_a9_1, dw_s9_1, dw_a10, dw_w10, dw_a10_0, dw_w10_0, dw_a10_1, dw_w10_1, dw_a10_2, dw_w10_2, dw_a11, dw_w11, dw_a12, dw_w12, dw_a13, dw_w13, dw_a14, dw_w14, dw_a15, dw_w15, dw_a16, dw_w16, dw_a17, dw_w17, dw_a17_0, dw_w17_0, dw_a18, dw_w18, dw_a18_0, dw_w18_0, dw_a18_1, dw_w18_1, dw_a18_2, dw_w18_2, dw_a18_3, dw_w18_3, dw_a18_4, dw_w18_4, dw_a18_5, dw_w18_5, dw_a19, dw_w19, dw_a19_24, dw_w19_24, dw_a20, dw_w20, h22, hT.2.1 i c, dw_Min, dw_inD]); first | with_reducible rw [bnd_s] | with_reducible rw [bn2_s] | with_reducible rw [grd_t]))
      have hB : dw_by tb tp i = nI (tb i) := by rw [dw_by, if_pos c]
      rw [hB]
      by_cases c2 : dw_isD (nI (tb i)) = true
      · rw [if_pos c2, if_pos c2, if_neg (by decide)]
        have h48 := dw_isD48 _ (hb i c) c2
        have hge := dw_sk_ge dw_isD tb tp k (i + 1)
        have kx1 := fun v' : Nat => dw_Kx_I (X := X) (k := 25) (v := nI v') (by decide) (by decide)
        have kx2 := fun v' : Nat => dw_Kx_tr (kx1 v') (dw_Kx_I (X := dw_I X 25 (nI v')) (k := 22) (v := nI (i + 1)) (by decide) (by decide))
        have go : ∀ v' : Nat, ∃ X', M_next_290 (M_next_230 (f + k + 1)) (dw_mk X R G S N y) 0 (nI d) (nI v') 0 = M_next_309 (dw_mk X' R G S N y) 0 (nI (d + (dw_sk dw_isD tb tp k (i + 1) - i))) ∧ dw_Kx X X' ∧ dw_gI X' 23 = dw_gI X 23 ∧ dw_gI X' 22 = nI (dw_sk dw_isD tb tp k (i + 1)) ∧ (d + (dw_sk dw_isD tb tp k (i + 1) - i) ≤ 4 → dw_gI X' 25 = nI (dw_vD tb (i + 1) (dw_sk dw_isD tb tp k (i + 1) - (i + 1)) v')) := by
          intro v'
          obtain ⟨X', e1, e2, e3, e4, e5⟩ := ih (i + 1) (d + 1) v' (dw_I (dw_I X 25 (nI v')) 22 (nI (i + 1))) (by omega) (by omega) (by omega) (dw_TA_Kx hT (kx2 v')) (by rw [dw_II, if_pos rfl]) (by rw [dw_IIn (by decide), dw_II, if_pos rfl])
          rw [show d + 1 + (dw_sk dw_isD tb tp k (i + 1) - (i + 1)) = d + (dw_sk dw_isD tb tp k (i + 1) - i) by omega] at e1 e5
          refine ⟨X', ?_, dw_Kx_tr (kx2 v') e2, ?_, e4, e5⟩
          · rw [M_next_290]
            repeat (first | with_reducible rw [bnd_s] | with_reducible rw [nmd_s] | with_reducible rw [bn2_s] | with_reducible rw [grd_t] | ((conv => arg 1; arg 1; simp (disch := omega) only [dw_is, dw_f0, dw_t0, dw_f9, dw_t9, dw_f12, dw_t12, dw_f13, dw_t13, dw_f14, dw_t14, dw_f22, dw_t22, dw_f23, dw_t23, dw_f24, dw_t24, dw_f25, dw_t25, dw_f28, dw_t28, dw_f29, dw_t29, dw_f30, dw_t30, dw_f35, dw_t35, dw_f7, dw_t7, dw_f5, dw_t5, dw_f6, dw_t6, dw_f1, dw_f2, dw_f3, dw_f4, dw_f8, dw_f10, dw_f11, dw_f15, dw_f16, dw_f17, dw_f18, dw_f19, dw_f20, dw_f21, dw_f26, dw_f27, dw_f31, dw_f32, dw_f33, dw_f34, dw_a1, dw_w1, dw_a2, dw_w2, dw_a3, dw_w3, dw_a4, dw_w4, dw_a5, dw_w5, dw_a6, dw_w6, dw_a7, dw_w7, dw_a8, dw_w8, dw_a9_0, dw_s9_0, dw_a9_1, dw_s9_1, dw_a10, dw_w10, dw_a10_0, dw_w10_0, dw_a10_1, dw_w10_1, dw_a10_2, dw_w10_2, dw_a11, dw_w11, dw_a12, dw_w12, dw_a13, dw_w13, dw_a14, dw_w14, dw_a15, dw_w15, dw_a16, dw_w16, dw_a17, dw_w17, dw_a17_0, dw_w17_0, dw_a18, dw_w18, dw_a18_0, dw_w18_0, dw_a18_1, dw_w18_1, dw_a18_2, dw_w18_2, dw_a18_3, dw_w18_3, dw_a18_4, dw_w18_4, dw_a18_5, dw_w18_5, dw_a19, dw_w19, dw_a19_24, dw_w19_24, dw_a20, dw_w20, dw_IIn, h22, nI_1]); first | with_reducible rw [bnd_s] | with_reducible rw [bn2_s] | with_reducible rw [grd_t]))
            have h22' : dw_gI (dw_I X 25 (nI v')) 22 = nI i := by rw [dw_IIn (by decide), h22]
            repeat (first | with_reducible rw [bnd_s] | with_reducible rw [nmd_s] | with_reducible rw [bn2_s] | with_reducible rw [grd_t] | ((conv => arg 1; arg 1; simp (disch := omega) only [dw_is, dw_f0, dw_t0, dw_f9, dw_t9, dw_f12, dw_t12, dw_f13, dw_t13, dw_f14, dw_t14, dw_f22, dw_t22, dw_f23, dw_t23, dw_f24, dw_t24, dw_f25, dw_t25, dw_f28, dw_t28, dw_f29, dw_t29, dw_f30, dw_t30, dw_f35, dw_t35, dw_f7, dw_t7, dw_f5, dw_t5, dw_f6, dw_t6, dw_f1, dw_f2, dw_f3, dw_f4, dw_f8, dw_f10, dw_f11, dw_f15, dw_f16, dw_f17, dw_f18, dw_f19, dw_f20, dw_f21, dw_f26, dw_f27, dw_f31, dw_f32, dw_f33, dw_f34, dw_a1, dw_w1, dw_a2, dw_w2, dw_a3, dw_w3, dw_a4, dw_w4, dw_a5, dw_w5, dw_a6, dw_w6, dw_a7, dw_w7, dw_a8, dw_w8, dw_a9_0, dw_s9_0, dw_a9_1, dw_s9_1, dw_a10, dw_w10, dw_a10_0, dw_w10_0, dw_a10_1, dw_w10_1, dw_a10_2, dw_w10_2, dw_a11, dw_w11, dw_a12, dw_w12, dw_a13, dw_w13, dw_a14, dw_w14, dw_a15, dw_w15, dw_a16, dw_w16, dw_a17, dw_w17, dw_a17_0, dw_w17_0, dw_a18, dw_w18, dw_a18_0, dw_w18_0, dw_a18_1, dw_w18_1, dw_a18_2, dw_w18_2, dw_a18_3, dw_w18_3, dw_a18_4, dw_w18_4, dw_a18_5, dw_w18_5, dw_a19, dw_w19, dw_a19_24, dw_w19_24, dw_a20, dw_w20, h22', nI_1]); first | with_reducible rw [bnd_s] | with_reducible rw [bn2_s] | with_reducible rw [grd_t]))
            rw [nI_1]
            exact e1
          · rw [e3, dw_IIn (by decide), dw_IIn (by decide)]
        have ev : ∀ v', dw_vD tb i (dw_sk dw_isD tb tp k (i + 1) - i) v' = dw_vD tb (i + 1) (dw_sk dw_isD tb tp k (i + 1) - (i + 1)) (v' * 10 + tb i - 48) := by
          intro v'
          rw [show dw_sk dw_isD tb tp k (i + 1) - i = dw_sk dw_isD tb tp k (i + 1) - (i + 1) + 1 by omega, dw_vD]
        by_cases c4 : 4 ≤ d
        · rw [if_pos (show (4 : Int32) ≤ nI d from nI_le (a := 4) c4 (by omega))]
          obtain ⟨X', e1, e2, e3, e4, e5⟩ := go 0
          exact ⟨X', e1, e2, e3, e4, fun q => absurd q (by omega)⟩
        · rw [if_neg (show ¬ (4 : Int32) ≤ nI d from nI_ge (b := 4) (by omega) (by omega))]
          repeat (first | with_reducible rw [bnd_s] | with_reducible rw [nmd_s] | with_reducible rw [bn2_s] | with_reducible rw [grd_t] | ((conv => arg 1; arg 1; simp (disch := omega) only [dw_is, dw_f0, dw_t0, dw_f9, dw_t9, dw_f12, dw_t12, dw_f13, dw_t13, dw_f14, dw_t14, dw_f22, dw_t22, dw_f23, dw_t23, dw_f24, dw_t24, dw_f25, dw_t25, dw_f28, dw_t28, dw_f29, dw_t29, dw_f30, dw_t30, dw_f35, dw_t35, dw_f7, dw_t7, dw_f5, dw_t5, dw_f6, dw_t6, dw_f1, dw_f2, dw_f3, dw_f4, dw_f8, dw_f10, dw_f11, dw_f15, dw_f16, dw_f17, dw_f18, dw_f19, dw_f20, dw_f21, dw_f26, dw_f27, dw_f31, dw_f32, dw_f33, dw_f34, dw_a1, dw_w1, dw_a2, dw_w2, dw_a3, dw_w3, dw_a4, dw_w4, dw_a5, dw_w5, dw_a6, dw_w6, dw_a7, dw_w7, dw_a8, dw_w8, dw_a9_0, dw_s9_0, dw_a9_1, dw_s9_1, dw_a10, dw_w10, dw_a10_0, dw_w10_0, dw_a10_1, dw_w10_1, dw_a10_2, dw_w10_2, dw_a11, dw_w11, dw_a12, dw_w12, dw_a13, dw_w13, dw_a14, dw_w14, dw_a15, dw_w15, dw_a16, dw_w16, dw_a17, dw_w17, dw_a17_0, dw_w17_0, dw_a18, dw_w18, dw_a18_0, dw_w18_0, dw_a18_1, dw_w18_1, dw_a18_2, dw_w18_2, dw_a18_3, dw_w18_3, dw_a18_4, dw_w18_4, dw_a18_5, dw_w18_5, dw_a19, dw_w19, dw_a19_24, dw_w19_24, dw_a20, dw_w20, h22, h25, hT.2.1 i c]); first | with_reducible rw [bnd_s] | with_reducible rw [bn2_s] | with_reducible rw [grd_t]))
          have ea : 10 * nI v + nI (tb i) - 48 = nI (v * 10 + tb i - 48) := by
            rw [show (10 : Int32) * nI v = nI (10 * v) from pk_mul 10 v, nI_add, Nat.mul_comm 10 v]
            exact pk_sub (b := 48) (by omega)
          rw [ea]
          obtain ⟨X', e1, e2, e3, e4, e5⟩ := go (v * 10 + tb i - 48)
          exact ⟨X', e1, e2, e3, e4, fun q => by rw [ev]; exact e5 q⟩
      · rw [if_neg c2, if_neg c2, if_pos rfl, Nat.sub_self]
        exact ⟨X, rfl, dw_Kx_rfl X, rfl, h22, fun _ => h25⟩
    · rw [if_pos (show nI tp ≤ nI i from nI_le (by omega) (by omega)), if_neg c, Nat.sub_self]
      exact ⟨X, rfl, dw_Kx_rfl X, rfl, h22, fun _ => h25⟩
/-- what a step leaves -/
def dw_NS (tb : Nat → Nat) (tp i : Nat) (X X' : dw_X) : Prop := dw_Kx X X' ∧ dw_gI X' 23 = nI (dw_pl1 tb tp i) ∧ dw_gI X' 24 = dw_tc (dw_tk tb tp i) ∧ ((dw_tk tb tp i ≤ 10005 ∨ (10015 ≤ dw_tk tb tp i ∧ dw_tk tb tp i ≤ 10017)) → dw_gI X' 25 = dw_tv (dw_tk tb tp i)) ∧ (dw_tk tb tp i ≠ 10021 → dw_gI X' 22 = nI (dw_nx tb tp i))
theorem dw_wk_c : ∀ r, r < 13 → (¬ (3 : Int32) ≤ nI r → dw_tc (dw_wk r) = 3 ∧ dw_tv (dw_wk r) = nI r) ∧ ((3 : Int32) ≤ nI r → ¬ (9 : Int32) ≤ nI r → dw_tc (dw_wk r) = 2 ∧ dw_tv (dw_wk r) = nI r - 3) ∧ ((9 : Int32) ≤ nI r → (dw_wk r = 10006 ∨ dw_wk r = 10007 ∨ dw_wk r = 10013 ∨ dw_wk r = 10022) ∧ (if nI r = 12 then (-1 : Int32) else 4 + nI r - 9) = dw_tc (dw_wk r)) := by decide +kernel
theorem dw_Mn146 {X : dw_X} (htp : tp ≤ 160) (hb : ∀ j, j < tp → tb j < 256) (hT : dw_TA X tb tp) {p n : Nat} (hp : p + n ≤ tp) (hl : ∀ x, x < n → tb (p + x) ≠ 32) (h23 : dw_gI X 23 = nI p) (h22 : dw_gI X 22 = nI (p + n)) : dw_Z (M_next_146 (dw_mk X R G S N y) 0) (fun z => ∃ X', z = some (dw_mk X' R G S N y, ()) ∧ dw_Kx X X' ∧ dw_gI X' 23 = nI p ∧ dw_gI X' 24 = dw_tc (dw_wtok tb p n) ∧ ((dw_wtok tb p n ≤ 10005 ∨ (10015 ≤ dw_wtok tb p n ∧ dw_wtok tb p n ≤ 10017)) → dw_gI X' 25 = dw_tv (dw_wtok tb p n)) ∧ dw_gI X' 22 = nI (p + n)) := by
  obtain ⟨r, hr, e1, e2⟩ := dw_Mword (R := R) (G := G) (S := S) (N := N) (y := y) htp hb hT.2.1 hT.2.2 hp hl
  obtain ⟨w1, w2, w3⟩ := dw_wk_c r (by omega)
  rw [e2]
  have fin : ∀ a b : Int32, a = dw_tc (dw_wk r) → ((dw_wk r ≤ 10005 ∨ (10015 ≤ dw_wk r ∧ dw_wk r ≤ 10017)) → b = dw_tv (dw_wk r)) → dw_Z (M_next_195 (dw_mk X R G S N y) 0 (nI r) a 0) (fun z => ∃ X', z = some (dw_mk X' R G S N y, ()) ∧ dw_Kx X X' ∧ dw_gI X' 23 = nI p ∧ dw_gI X' 24 = dw_tc (dw_wk r) ∧ ((dw_wk r ≤ 10005 ∨ (10015 ≤ dw_wk r ∧ dw_wk r ≤ 10017)) → dw_gI X' 25 = dw_tv (dw_wk r)) ∧ dw_gI X' 22 = nI (p + n)) ∨ b ≠ (if (3 : Int32) ≤ nI r then nI r - 3 else nI r) := by
    intro a b ha hbv
    by_cases cb : b = (if (3 : Int32) ≤ nI r then nI r - 3 else nI r)
    · left
      have ex : M_next_195 (dw_mk X R G S N y) 0 (nI r) a 0 = some (dw_mk (dw_I (dw_I X 24 a) 25 b) R G S N y, ()) := by
        rw [cb, M_next_195]
        repeat (first | with_reducible rw [bnd_s] | with_reducible rw [nmd_s] | with_reducible rw [bn2_s] | with_reducible rw [grd_t] | ((conv => arg 1; arg 1; simp (disch := omega) only [dw_is, dw_f0, dw_t0, dw_f9, dw_t9, dw_f12, dw_t12, dw_f13, dw_t13, dw_f14, dw_t14, dw_f22, dw_t22, dw_f23, dw_t23, dw_f24, dw_t24, dw_f25, dw_t25, dw_f28, dw_t28, dw_f29, dw_t29, dw_f30, dw_t30, dw_f35, dw_t35, dw_f7, dw_t7, dw_f5, dw_t5, dw_f6, dw_t6, dw_f1, dw_f2, dw_f3, dw_f4, dw_f8, dw_f10, dw_f11, dw_f15, dw_f16, dw_f17, dw_f18, dw_f19, dw_f20, dw_f21, dw_f26, dw_f27, dw_f31, dw_f32, dw_f33, dw_f34, dw_a1, dw_w1, dw_a2, dw_w2, dw_a3, dw_w3, dw_a4, dw_w4, dw_a5, dw_w5, dw_a6, dw_w6, dw_a7, dw_w7, dw_a8, dw_w8, dw_a9_0, dw_s9_0, dw_a9_1, dw_s9_1, dw_a10, dw_w10, dw_a10_0, dw_w10_0, dw_a10_1, dw_w10_1, dw_a10_2, dw_w10_2, dw_a11, dw_w11, dw_a12, dw_w12, dw_a13, dw_w13, dw_a14, dw_w14, dw_a15, dw_w15, dw_a16, dw_w16, dw_a17, dw_w17, dw_a17_0, dw_w17_0, dw_a18, dw_w18, dw_a18_0, dw_w18_0, dw_a18_1, dw_w18_1, dw_a18_2, dw_w18_2, dw_a18_3, dw_w18_3, dw_a18_4, dw_w18_4, dw_a18_5, dw_w18_5, dw_a19, dw_w19, dw_a19_24, dw_w19_24, dw_a20, dw_w20]); first | with_reducible rw [bnd_s] | with_reducible rw [bn2_s] | with_reducible rw [grd_t]))
        by_cases c3 : (3 : Int32) ≤ nI r
        · rw [if_pos c3, if_pos c3, M_next_211]
          repeat (first | with_reducible rw [bnd_s] | with_reducible rw [nmd_s] | with_reducible rw [bn2_s] | with_reducible rw [grd_t] | ((conv => arg 1; arg 1; simp (disch := omega) only [dw_is, dw_f0, dw_t0, dw_f9, dw_t9, dw_f12, dw_t12, dw_f13, dw_t13, dw_f14, dw_t14, dw_f22, dw_t22, dw_f23, dw_t23, dw_f24, dw_t24, dw_f25, dw_t25, dw_f28, dw_t28, dw_f29, dw_t29, dw_f30, dw_t30, dw_f35, dw_t35, dw_f7, dw_t7, dw_f5, dw_t5, dw_f6, dw_t6, dw_f1, dw_f2, dw_f3, dw_f4, dw_f8, dw_f10, dw_f11, dw_f15, dw_f16, dw_f17, dw_f18, dw_f19, dw_f20, dw_f21, dw_f26, dw_f27, dw_f31, dw_f32, dw_f33, dw_f34, dw_a1, dw_w1, dw_a2, dw_w2, dw_a3, dw_w3, dw_a4, dw_w4, dw_a5, dw_w5, dw_a6, dw_w6, dw_a7, dw_w7, dw_a8, dw_w8, dw_a9_0, dw_s9_0, dw_a9_1, dw_s9_1, dw_a10, dw_w10, dw_a10_0, dw_w10_0, dw_a10_1, dw_w10_1, dw_a10_2, dw_w10_2, dw_a11, dw_w11, dw_a12, dw_w12, dw_a13, dw_w13, dw_a14, dw_w14, dw_a15, dw_w15, dw_a16, dw_w16, dw_a17, dw_w17, dw_a17_0, dw_w17_0, dw_a18, dw_w18, dw_a18_0, dw_w18_0, dw_a18_1, dw_w18_1, dw_a18_2, dw_w18_2, dw_a18_3, dw_w18_3, dw_a18_4, dw_w18_4, dw_a18_5, dw_w18_5, dw_a19, dw_w19, dw_a19_24, dw_w19_24, dw_a20, dw_w20]); first | with_reducible rw [bnd_s] | with_reducible rw [bn2_s] | with_reducible rw [grd_t]))
        · rw [if_neg c3, if_neg c3, M_next_211]
          repeat (first | with_reducible rw [bnd_s] | with_reducible rw [nmd_s] | with_reducible rw [bn2_s] | with_reducible rw [grd_t] | ((conv => arg 1; arg 1; simp (disch := omega) only [dw_is, dw_f0, dw_t0, dw_f9, dw_t9, dw_f12, dw_t12, dw_f13, dw_t13, dw_f14, dw_t14, dw_f22, dw_t22, dw_f23, dw_t23, dw_f24, dw_t24, dw_f25, dw_t25, dw_f28, dw_t28, dw_f29, dw_t29, dw_f30, dw_t30, dw_f35, dw_t35, dw_f7, dw_t7, dw_f5, dw_t5, dw_f6, dw_t6, dw_f1, dw_f2, dw_f3, dw_f4, dw_f8, dw_f10, dw_f11, dw_f15, dw_f16, dw_f17, dw_f18, dw_f19, dw_f20, dw_f21, dw_f26, dw_f27, dw_f31, dw_f32, dw_f33, dw_f34, dw_a1, dw_w1, dw_a2, dw_w2, dw_a3, dw_w3, dw_a4, dw_w4, dw_a5, dw_w5, dw_a6, dw_w6, dw_a7, dw_w7, dw_a8, dw_w8, dw_a9_0, dw_s9_0, dw_a9_1, dw_s9_1, dw_a10, dw_w10, dw_a10_0, dw_w10_0, dw_a10_1, dw_w10_1, dw_a10_2, dw_w10_2, dw_a11, dw_w11, dw_a12, dw_w12, dw_a13, dw_w13, dw_a14, dw_w14, dw_a15, dw_w15, dw_a16, dw_w16, dw_a17, dw_w17, dw_a17_0, dw_w17_0, dw_a18, dw_w18, dw_a18_0, dw_w18_0, dw_a18_1, dw_w18_1, dw_a18_2, dw_w18_2, dw_a18_3, dw_w18_3, dw_a18_4, dw_w18_4, dw_a18_5, dw_w18_5, dw_a19, dw_w19, dw_a19_24, dw_w19_24, dw_a20, dw_w20]); first | with_reducible rw [bnd_s] | with_reducible rw [bn2_s] | with_reducible rw [grd_t]))
      refine ⟨_, ex, dw_Kx_tr (dw_Kx_I (by decide) (by decide)) (dw_Kx_I (by decide) (by decide)), ?_, ?_, fun q => ?_, ?_⟩
      · rw [dw_IIn (by decide), dw_IIn (by decide), h23]
      · rw [dw_IIn (by decide), dw_II, if_pos rfl, ha]
      · rw [dw_II, if_pos rfl, hbv q]
      · rw [dw_IIn (by decide), dw_IIn (by decide), h22]
    · exact Or.inr cb
  rw [M_next_146]
  repeat (first | with_reducible rw [bnd_s] | with_reducible rw [nmd_s] | with_reducible rw [bn2_s] | with_reducible rw [grd_t] | ((conv => arg 1; arg 1; simp (disch := omega) only [dw_is, dw_f0, dw_t0, dw_f9, dw_t9, dw_f12, dw_t12, dw_f13, dw_t13, dw_f14, dw_t14, dw_f22, dw_t22, dw_f23, dw_t23, dw_f24, dw_t24, dw_f25, dw_t25, dw_f28, dw_t28, dw_f29, dw_t29, dw_f30, dw_t30, dw_f35, dw_t35, dw_f7, dw_t7, dw_f5, dw_t5, dw_f6, dw_t6, dw_f1, dw_f2, dw_f3, dw_f4, dw_f8, dw_f10, dw_f11, dw_f15, dw_f16, dw_f17, dw_f18, dw_f19, dw_f20, dw_f21, dw_f26, dw_f27, dw_f31, dw_f32, dw_f33, dw_f34, dw_a1, dw_w1, dw_a2, dw_w2, dw_a3, dw_w3, dw_a4, dw_w4, dw_a5, dw_w5, dw_a6, dw_w6, dw_a7, dw_w7, dw_a8, dw_w8, dw_a9_0, dw_s9_0, dw_a9_1, dw_s9_1, dw_a10, dw_w10, dw_a10_0, dw_w10_0, dw_a10_1, dw_w10_1, dw_a10_2, dw_w10_2, dw_a11, dw_w11, dw_a12, dw_w12, dw_a13, dw_w13, dw_a14, dw_w14, dw_a15, dw_w15, dw_a16, dw_w16, dw_a17, dw_w17, dw_a17_0, dw_w17_0, dw_a18, dw_w18, dw_a18_0, dw_w18_0, dw_a18_1, dw_w18_1, dw_a18_2, dw_w18_2, dw_a18_3, dw_w18_3, dw_a18_4, dw_w18_4, dw_a18_5, dw_w18_5, dw_a19, dw_w19, dw_a19_24, dw_w19_24, dw_a20, dw_w20, h23, h22, e1]); first | with_reducible rw [bnd_s] | with_reducible rw [bn2_s] | with_reducible rw [grd_t]))
  by_cases c3 : (3 : Int32) ≤ nI r
  · rw [if_pos c3]
    by_cases c9 : (9 : Int32) ≤ nI r
    · rw [if_pos c9]
      obtain ⟨w4, w5⟩ := w3 c9
      have nov : ¬ (dw_wk r ≤ 10005 ∨ (10015 ≤ dw_wk r ∧ dw_wk r ≤ 10017)) := by omega
      by_cases c12 : nI r = 12
      · rw [if_pos c12] at w5 ⊢
        rcases fin (-1) _ w5 (fun q => absurd q nov) with h | h
        · exact h
        · exact absurd rfl h
      · rw [if_neg c12] at w5 ⊢
        rcases fin _ _ w5 (fun q => absurd q nov) with h | h
        · exact h
        · exact absurd rfl h
    · rw [if_neg c9]
      rcases fin 2 _ (w2 c3 c9).1.symm (fun _ => (w2 c3 c9).2.symm) with h | h
      · exact h
      · exact absurd (by rw [if_pos c3]) h
  · rw [if_neg c3]
    rcases fin 3 _ (w1 c3).1.symm (fun _ => (w1 c3).2.symm) with h | h
    · exact h
    · exact absurd (by rw [if_neg c3]) h
end MN
