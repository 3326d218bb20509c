/-! THE REFERENCE: move -/
def dw_bu (w : dw_W) (cl : Int64) (s : dw_L) (yy y : Nat) : Nat → Int32
  | 0 => 0
  | k + 1 => dw_bu w cl s yy y k + (if dw_tb (dw_sand (dw_T w cl s yy (k + 1)) 6) y = true then 1 else 0)
def dw_now (ho : Int64) (u : Nat → Int32) : Nat → Int32
  | 0 => 0
  | k + 1 => dw_now ho u k + (if dw_tb ho k = true then u k else 0)
def dw_mvi (ho : Int64) (u : Nat → Int32) (nw : Int32) (a : Nat) (k b : Nat) (z : Int32 × Int32) : Int32 × Int32 := dw_best (fun b => nw - u a + u b) (fun b => nI (100 * a + b)) (fun b => dw_tb ho a && !dw_tb ho b) k b z.1 z.2
def dw_mvo (ho : Int64) (u : Nat → Int32) (nw : Int32) : Nat → Nat → Int32 × Int32 → Int32 × Int32
  | 0, _, z => z
  | k + 1, a, z => dw_mvo ho u nw k (a + 1) (dw_mvi ho u nw a 40 0 z)
def dw_qmove (w : dw_W) (cl ho : Int64) (s : dw_L) (yy : Nat) (a b : Int32) : Int32 := if dw_in a 0 20 = 0 then -2 else if dw_in b 0 1 = 0 then -2 else if b = 0 then (dw_mvo ho (fun y => dw_bu w cl s yy y (dw_N a)) (dw_now ho (fun y => dw_bu w cl s yy y (dw_N a)) 40) 40 0 (-1, dw_now ho (fun y => dw_bu w cl s yy y (dw_N a)) 40)).1 else (dw_mvo ho (fun y => dw_bu w cl s yy y (dw_N a)) (dw_now ho (fun y => dw_bu w cl s yy y (dw_N a)) 40) 40 0 (-1, dw_now ho (fun y => dw_bu w cl s yy y (dw_N a)) 40)).2
theorem dw_ydsS : ∀ a, a < 40 → ∀ b, b < 10 → 1 ≤ b → (dw_yds (nI a) (nI b)).toBitVec.toNat < 2 ^ 40 := by decide +kernel
theorem dw_yds_small {d : dw_D} (h : dw_WF1 d) : dw_small (dw_yds (d 3) (d 4)) := by
  obtain ⟨⟨a, ha, e3⟩, ⟨b, hb, hb2, e4⟩, _⟩ := h
  rw [e3, e4]
  exact dw_small_of (dw_ydsS a ha b hb2 hb)
theorem dw_small_or {x z : Int64} (h : dw_small x) (h2 : dw_small z) : dw_small (x ||| z) := by
  obtain ⟨n, hn, rfl⟩ := h
  obtain ⟨k, hk, rfl⟩ := h2
  exact ⟨n ||| k, Nat.or_lt_two_pow hn hk, fb_orL n k⟩
theorem dw_sand_small {s : dw_L} (h : dw_WFA s) : ∀ k, k ≤ 6 → dw_small (dw_sand s k)
  | 0, _ => ⟨0, by decide, rfl⟩
  | k + 1, hk => by
    rw [dw_sand]
    refine dw_small_or (dw_sand_small h k (by omega)) ?_
    by_cases c : s k 6 = 0
    · rw [if_pos c]
      exact dw_yds_small (h k (by omega))
    · rw [if_neg c]
      exact ⟨0, by decide, rfl⟩
theorem dw_Kept_A {X : dw_X} {R G : Nat → Int32} {y : Int32} (h : dw_Kept X R G y) (i : Nat) (v : Int32) : dw_Kept (dw_A X 20 i v) R G y := ⟨fun k hk => by rw [dw_AA, if_neg (fun q => absurd q.1 (by decide)), h.1 k hk], fun d hd => by rw [dw_AA, if_neg (fun q => absurd q.1 (by decide)), h.2.1 d hd], by rw [dw_AA, if_neg (fun q => absurd q.1 (by decide)), h.2.2]⟩
section MC
variable {X : dw_X} {R G S N : Nat → Int32} {y : Int32} {w : dw_W} {r m yy : Nat} {s : dw_L}
theorem dw_At_Eq {X' : dw_X} {n : Nat} (h : dw_At X R G r m w s yy n) (e : dw_Eq X X') : dw_At X' R G r m w s yy n := ⟨dw_Ctx_Eq e h.1, h.2.1, h.2.2.1, h.2.2.2.1, (e.2.1 5).symm ▸ h.2.2.2.2.1, by rw [e.2.1 6]; exact dw_Rel_rfl e h.1.2.2.2.2 h.2.2.2.2.2⟩
/-- one year counted -/
theorem dw_Mmove68 {k49 : pm_H → Nat → Int32 → Int32 → Int32 → Option (pm_H × Int32)} {x : Int64} (hx : dw_small x) (a b t : Int32) (u : Nat → Int32) (f k : Nat) : ∀ i X, i + k = 40 → (∀ j, j < 40 → dw_gA X 20 j = u j + (if j < i then (if dw_tb x j = true then 1 else 0) else 0)) → dw_Z (M_move_68 k49 (f + k + 1) (dw_mk X R G S N y) 0 a b t x (nI i)) (fun z => ∃ X', z = k49 (dw_mk X' R G S N y) 0 a b (t + 1) ∧ dw_Eq X X' ∧ (∀ R G y, dw_Kept X R G y → dw_Kept X' R G y) ∧ ∀ j, j < 40 → dw_gA X' 20 j = u j + (if dw_tb x j = true then 1 else 0)) := by
  induction k with
  | zero =>
    intro i X hi hu
    rw [M_move_68, if_pos (show (40 : Int32) ≤ nI i from nI_le (a := 40) (by omega) (by omega))]
    repeat (first | with_reducible rw [bnd_s] | with_reducible rw [nmd_s] | with_reducible rw [bn2_s] | with_reducible rw [grd_t] | ((conv => arg 1; arg 1; simp (disch := omega) only [dw_is, dw_f0, dw_t0, dw_f9, dw_t9, dw_f12, dw_t12, dw_f13, dw_t13, dw_f14, dw_t14, dw_f22, dw_t22, dw_f23, dw_t23, dw_f24, dw_t24, dw_f25, dw_t25, dw_f28, dw_t28, dw_f29, dw_t29, dw_f30, dw_t30, dw_f35, dw_t35, dw_f7, dw_t7, dw_f5, dw_t5, dw_f6, dw_t6, dw_f1, dw_f2, dw_f3, dw_f4, dw_f8, dw_f10, dw_f11, dw_f15, dw_f16, dw_f17, dw_f18, dw_f19, dw_f20, dw_f21, dw_f26, dw_f27, dw_f31, dw_f32, dw_f33, dw_f34, dw_a1, dw_w1, dw_a2, dw_w2, dw_a3, dw_w3, dw_a4, dw_w4, dw_a5, dw_w5, dw_a6, dw_w6, dw_a7, dw_w7, dw_a8, dw_w8, dw_a9_0, dw_s9_0, dw_a9_1, dw_s9_1, dw_a10, dw_w10, dw_a10_0, dw_w10_0, dw_a10_1, dw_w10_1, dw_a10_2, dw_w10_2, dw_a11, dw_w11, dw_a12, dw_w12, dw_a13, dw_w13, dw_a14, dw_w14, dw_a15, dw_w15, dw_a16, dw_w16, dw_a17, dw_w17, dw_a17_0, dw_w17_0, dw_a18, dw_w18, dw_a18_0, dw_w18_0, dw_a18_1, dw_w18_1, dw_a18_2, dw_w18_2, dw_a18_3, dw_w18_3, dw_a18_4, dw_w18_4, dw_a18_5, dw_w18_5, dw_a19, dw_w19, dw_a19_24, dw_w19_24, dw_a20, dw_w20]); first | with_reducible rw [bnd_s] | with_reducible rw [bn2_s] | with_reducible rw [grd_t]))
    exact ⟨X, rfl, dw_Eq_rfl X, fun _ _ _ h => h, fun j hj => by rw [hu j hj, if_pos (show j < i by omega)]⟩
  | succ k ih =>
    intro i X hi hu
    have hui := hu i (by omega)
    rw [if_neg (Nat.lt_irrefl i)] at hui
    rw [show f + (k + 1) + 1 = f + k + 1 + 1 by omega, M_move_68, if_neg (show ¬ (40 : Int32) ≤ nI i from nI_ge (b := 40) (by omega) (by omega))]
    repeat (first | with_reducible rw [bnd_s] | with_reducible rw [nmd_s] | with_reducible rw [bn2_s] | with_reducible rw [grd_t] | ((conv => arg 1; arg 1; simp (disch := omega) only [dw_is, dw_f0, dw_t0, dw_f9, dw_t9, dw_f12, dw_t12, dw_f13, dw_t13, dw_f14, dw_t14, dw_f22, dw_t22, dw_f23, dw_t23, dw_f24, dw_t24, dw_f25, dw_t25, dw_f28, dw_t28, dw_f29, dw_t29, dw_f30, dw_t30, dw_f35, dw_t35, dw_f7, dw_t7, dw_f5, dw_t5, dw_f6, dw_t6, dw_f1, dw_f2, dw_f3, dw_f4, dw_f8, dw_f10, dw_f11, dw_f15, dw_f16, dw_f17, dw_f18, dw_f19, dw_f20, dw_f21, dw_f26, dw_f27, dw_f31, dw_f32, dw_f33, dw_f34, dw_a1, dw_w1, dw_a2, dw_w2, dw_a3, dw_w3, dw_a4, dw_w4, dw_a5, dw_w5, dw_a6, dw_w6, dw_a7, dw_w7, dw_a8, dw_w8, dw_a9_0, dw_s9_0, dw_a9_1, dw_s9_1, dw_a10, dw_w10, dw_a10_0, dw_w10_0, dw_a10_1, dw_w10_1, dw_a10_2, dw_w10_2, dw_a11, dw_w11, dw_a12, dw_w12, dw_a13, dw_w13, dw_a14, dw_w14, dw_a15, dw_w15, dw_a16, dw_w16, dw_a17, dw_w17, dw_a17_0, dw_w17_0, dw_a18, dw_w18, dw_a18_0, dw_w18_0, dw_a18_1, dw_w18_1, dw_a18_2, dw_w18_2, dw_a18_3, dw_w18_3, dw_a18_4, dw_w18_4, dw_a18_5, dw_w18_5, dw_a19, dw_w19, dw_a19_24, dw_w19_24, dw_a20, dw_w20]); first | with_reducible rw [bnd_s] | with_reducible rw [bn2_s] | with_reducible rw [grd_t]))
    have step : ∀ v, v = (if dw_tb x i = true then (1 : Int32) else 0) → dw_Z (M_move_100 k49 (M_move_68 k49 (f + k + 1)) (dw_mk X R G S N y) 0 a b t x (nI i) v (dw_gA X 20 i) (nI i) (some 20)) (fun z => ∃ X', z = k49 (dw_mk X' R G S N y) 0 a b (t + 1) ∧ dw_Eq X X' ∧ (∀ R G y, dw_Kept X R G y → dw_Kept X' R G y) ∧ ∀ j, j < 40 → dw_gA X' 20 j = u j + (if dw_tb x j = true then 1 else 0)) := by
      intro v hv
      rw [M_move_100]
      repeat (first | with_reducible rw [bnd_s] | with_reducible rw [nmd_s] | with_reducible rw [bn2_s] | with_reducible rw [grd_t] | ((conv => arg 1; arg 1; simp (disch := omega) only [dw_is, dw_f0, dw_t0, dw_f9, dw_t9, dw_f12, dw_t12, dw_f13, dw_t13, dw_f14, dw_t14, dw_f22, dw_t22, dw_f23, dw_t23, dw_f24, dw_t24, dw_f25, dw_t25, dw_f28, dw_t28, dw_f29, dw_t29, dw_f30, dw_t30, dw_f35, dw_t35, dw_f7, dw_t7, dw_f5, dw_t5, dw_f6, dw_t6, dw_f1, dw_f2, dw_f3, dw_f4, dw_f8, dw_f10, dw_f11, dw_f15, dw_f16, dw_f17, dw_f18, dw_f19, dw_f20, dw_f21, dw_f26, dw_f27, dw_f31, dw_f32, dw_f33, dw_f34, dw_a1, dw_w1, dw_a2, dw_w2, dw_a3, dw_w3, dw_a4, dw_w4, dw_a5, dw_w5, dw_a6, dw_w6, dw_a7, dw_w7, dw_a8, dw_w8, dw_a9_0, dw_s9_0, dw_a9_1, dw_s9_1, dw_a10, dw_w10, dw_a10_0, dw_w10_0, dw_a10_1, dw_w10_1, dw_a10_2, dw_w10_2, dw_a11, dw_w11, dw_a12, dw_w12, dw_a13, dw_w13, dw_a14, dw_w14, dw_a15, dw_w15, dw_a16, dw_w16, dw_a17, dw_w17, dw_a17_0, dw_w17_0, dw_a18, dw_w18, dw_a18_0, dw_w18_0, dw_a18_1, dw_w18_1, dw_a18_2, dw_w18_2, dw_a18_3, dw_w18_3, dw_a18_4, dw_w18_4, dw_a18_5, dw_w18_5, dw_a19, dw_w19, dw_a19_24, dw_w19_24, dw_a20, dw_w20]); first | with_reducible rw [bnd_s] | with_reducible rw [bn2_s] | with_reducible rw [grd_t]))
      rw [nI_1]
      obtain ⟨X', g1, g2, g3, g4⟩ := ih (i + 1) (dw_A X 20 i (dw_gA X 20 i + v)) (by omega) (by
        intro j hj
        rw [dw_AA]
        by_cases cj : j = i
        · rw [if_pos ⟨rfl, cj⟩, cj, hui, if_pos (Nat.lt_succ_self i), hv, Int32.add_zero]
        · rw [if_neg (fun q => cj q.2), hu j hj]
          by_cases c3 : j < i
          · rw [if_pos c3, if_pos (show j < i + 1 by omega)]
          · rw [if_neg c3, if_neg (show ¬ j < i + 1 by omega)])
      exact ⟨X', g1, dw_Eq_tr (dw_Eq_A (by decide)) g2, fun R G y h => g3 R G y (dw_Kept_A h i _), g4⟩
    by_cases cb : dw_tb x i = true
    · rw [if_pos ((dw_tb1 hx (by omega)).mpr cb)]
      exact step 1 (by rw [if_pos cb])
    · rw [if_neg (fun q => cb ((dw_tb1 hx (by omega)).mp q))]
      exact step 0 (by rw [if_neg cb])
theorem dw_Mmove49 {X1 : dw_X} (e : dw_Eq X X1) (hk : dw_Kept X1 R G (nI yy)) {n : Nat} (hn : n ≤ 40) (b : Int32) (f k : Nat) : ∀ t X2 R2 G2 S N, t + k = n → dw_Eq X X2 → dw_Kept X2 R G (nI yy) → dw_At X2 R2 G2 r m w s yy t → (∀ j, j < 40 → dw_gA X2 20 j = dw_bu w (dw_gJ X 6) s yy j t) → dw_Z (M_move_49 (f + k + 1) (dw_mk X2 R2 G2 S N (nI (yy + t))) 0 (nI n) b (nI t)) (fun z => ∃ X' R' G' S' N', z = M_move_123 1000 (dw_mk X' R' G' S' N' (nI yy)) 0 b 0 0 ∧ dw_Eq X X' ∧ (∀ k, k < 18 → R' k = R k) ∧ (∀ d, d < 6 → G' d = G d) ∧ ∀ j, j < 40 → dw_gA X' 20 j = dw_bu w (dw_gJ X 6) s yy j n) := by
  induction k with
  | zero =>
    intro t X2 R2 G2 S N ht e2 k2 h hu
    rw [M_move_49, if_pos (show nI n ≤ nI t from nI_le (by omega) (by omega))]
    obtain ⟨R', G', e5, e6, e7⟩ := dw_Mlays (X := X2) (R := R2) (G := G2) (S := S) (N := N) (y := nI (yy + t)) k2
    repeat (first | with_reducible rw [bnd_s] | with_reducible rw [nmd_s] | with_reducible rw [bn2_s] | with_reducible rw [grd_t] | ((conv => arg 1; arg 1; simp (disch := omega) only [dw_is, dw_f0, dw_t0, dw_f9, dw_t9, dw_f12, dw_t12, dw_f13, dw_t13, dw_f14, dw_t14, dw_f22, dw_t22, dw_f23, dw_t23, dw_f24, dw_t24, dw_f25, dw_t25, dw_f28, dw_t28, dw_f29, dw_t29, dw_f30, dw_t30, dw_f35, dw_t35, dw_f7, dw_t7, dw_f5, dw_t5, dw_f6, dw_t6, dw_f1, dw_f2, dw_f3, dw_f4, dw_f8, dw_f10, dw_f11, dw_f15, dw_f16, dw_f17, dw_f18, dw_f19, dw_f20, dw_f21, dw_f26, dw_f27, dw_f31, dw_f32, dw_f33, dw_f34, dw_a1, dw_w1, dw_a2, dw_w2, dw_a3, dw_w3, dw_a4, dw_w4, dw_a5, dw_w5, dw_a6, dw_w6, dw_a7, dw_w7, dw_a8, dw_w8, dw_a9_0, dw_s9_0, dw_a9_1, dw_s9_1, dw_a10, dw_w10, dw_a10_0, dw_w10_0, dw_a10_1, dw_w10_1, dw_a10_2, dw_w10_2, dw_a11, dw_w11, dw_a12, dw_w12, dw_a13, dw_w13, dw_a14, dw_w14, dw_a15, dw_w15, dw_a16, dw_w16, dw_a17, dw_w17, dw_a17_0, dw_w17_0, dw_a18, dw_w18, dw_a18_0, dw_w18_0, dw_a18_1, dw_w18_1, dw_a18_2, dw_w18_2, dw_a18_3, dw_w18_3, dw_a18_4, dw_w18_4, dw_a18_5, dw_w18_5, dw_a19, dw_w19, dw_a19_24, dw_w19_24, dw_a20, dw_w20, e5]); first | with_reducible rw [bnd_s] | with_reducible rw [bn2_s] | with_reducible rw [grd_t]))
    exact ⟨X2, R', G', _, _, rfl, e2, e6, e7, (show t = n by omega) ▸ hu⟩
  | succ k ih =>
    intro t X2 R2 G2 S N ht e2 k2 h hu
    rw [show f + (k + 1) + 1 = f + k + 1 + 1 by omega, M_move_49, if_neg (show ¬ nI n ≤ nI t from nI_ge (by omega) (by omega))]
    obtain ⟨R3, G3, S3, N3, e3, h3⟩ := dw_Ayear (S := S) (N := N) h (by omega)
    repeat (first | with_reducible rw [bnd_s] | with_reducible rw [nmd_s] | with_reducible rw [bn2_s] | with_reducible rw [grd_t] | ((conv => arg 1; arg 1; simp (disch := omega) only [dw_is, dw_f0, dw_t0, dw_f9, dw_t9, dw_f12, dw_t12, dw_f13, dw_t13, dw_f14, dw_t14, dw_f22, dw_t22, dw_f23, dw_t23, dw_f24, dw_t24, dw_f25, dw_t25, dw_f28, dw_t28, dw_f29, dw_t29, dw_f30, dw_t30, dw_f35, dw_t35, dw_f7, dw_t7, dw_f5, dw_t5, dw_f6, dw_t6, dw_f1, dw_f2, dw_f3, dw_f4, dw_f8, dw_f10, dw_f11, dw_f15, dw_f16, dw_f17, dw_f18, dw_f19, dw_f20, dw_f21, dw_f26, dw_f27, dw_f31, dw_f32, dw_f33, dw_f34, dw_a1, dw_w1, dw_a2, dw_w2, dw_a3, dw_w3, dw_a4, dw_w4, dw_a5, dw_w5, dw_a6, dw_w6, dw_a7, dw_w7, dw_a8, dw_w8, dw_a9_0, dw_s9_0, dw_a9_1, dw_s9_1, dw_a10, dw_w10, dw_a10_0, dw_w10_0, dw_a10_1, dw_w10_1, dw_a10_2, dw_w10_2, dw_a11, dw_w11, dw_a12, dw_w12, dw_a13, dw_w13, dw_a14, dw_w14, dw_a15, dw_w15, dw_a16, dw_w16, dw_a17, dw_w17, dw_a17_0, dw_w17_0, dw_a18, dw_w18, dw_a18_0, dw_w18_0, dw_a18_1, dw_w18_1, dw_a18_2, dw_w18_2, dw_a18_3, dw_w18_3, dw_a18_4, dw_w18_4, dw_a18_5, dw_w18_5, dw_a19, dw_w19, dw_a19_24, dw_w19_24, dw_a20, dw_w20, e3, dw_Asand h3]); first | with_reducible rw [bnd_s] | with_reducible rw [bn2_s] | with_reducible rw [grd_t]))
    have hx := dw_sand_small (dw_TWF (w := w) (cl := dw_gJ X2 6) (yy := yy) h.2.1 (t + 1)) 6 (Nat.le_refl 6)
    obtain ⟨X', g1, g2, g3, g4⟩ := dw_Mmove68 (k49 := M_move_49 (f + k + 1)) (R := R3) (G := G3) (S := S3) (N := N3) (y := nI (yy + (t + 1))) hx (nI n) b (nI t) (fun j => dw_bu w (dw_gJ X 6) s yy j t) 959 40 0 X2 rfl (fun j hj => by rw [hu j hj, if_neg (Nat.not_lt_zero j), Int32.add_zero])
    have g1' : M_move_68 (M_move_49 (f + k + 1)) 1000 (dw_mk X2 R3 G3 S3 N3 (nI (yy + (t + 1)))) 0 (nI n) b (nI t) (dw_sand (dw_T w (dw_gJ X2 6) s yy (t + 1)) 6) 0 = _ := g1
    rw [g1', nI_1]
    refine ih (t + 1) X' R3 G3 S3 N3 (by omega) (dw_Eq_tr e2 g2) (g3 _ _ _ k2) (dw_At_Eq h3 g2) ?_
    intro j hj
    rw [g4 j hj, dw_bu, e2.2.1 6]
theorem dw_Mmove123 (hho : dw_small (dw_gJ X 5)) {u : Nat → Int32} (hu : ∀ j, j < 40 → dw_gA X 20 j = u j) (b : Int32) (f k : Nat) : ∀ i, i + k = 40 → M_move_123 (f + k + 1) (dw_mk X R G S N y) 0 b (dw_now (dw_gJ X 5) u i) (nI i) = M_move_173 1000 (dw_mk X R G S N y) 0 b (dw_now (dw_gJ X 5) u 40) (-1) (dw_now (dw_gJ X 5) u 40) 0 := by
  induction k with
  | zero =>
    intro i hi
    rw [M_move_123, if_pos (show (40 : Int32) ≤ nI i from nI_le (a := 40) (by omega) (by omega)), show i = 40 by omega]
  | succ k ih =>
    intro i hi
    rw [show f + (k + 1) + 1 = f + k + 1 + 1 by omega, M_move_123, if_neg (show ¬ (40 : Int32) ≤ nI i from nI_ge (b := 40) (by omega) (by omega)), ← ih (i + 1) (by omega), dw_now]
    repeat (first | with_reducible rw [bnd_s] | with_reducible rw [nmd_s] | with_reducible rw [bn2_s] | with_reducible rw [grd_t] | ((conv => arg 1; arg 1; simp (disch := omega) only [dw_is, dw_f0, dw_t0, dw_f9, dw_t9, dw_f12, dw_t12, dw_f13, dw_t13, dw_f14, dw_t14, dw_f22, dw_t22, dw_f23, dw_t23, dw_f24, dw_t24, dw_f25, dw_t25, dw_f28, dw_t28, dw_f29, dw_t29, dw_f30, dw_t30, dw_f35, dw_t35, dw_f7, dw_t7, dw_f5, dw_t5, dw_f6, dw_t6, dw_f1, dw_f2, dw_f3, dw_f4, dw_f8, dw_f10, dw_f11, dw_f15, dw_f16, dw_f17, dw_f18, dw_f19, dw_f20, dw_f21, dw_f26, dw_f27, dw_f31, dw_f32, dw_f33, dw_f34, dw_a1, dw_w1, dw_a2, dw_w2, dw_a3, dw_w3, dw_a4, dw_w4, dw_a5, dw_w5, dw_a6, dw_w6, dw_a7, dw_w7, dw_a8, dw_w8, dw_a9_0, dw_s9_0, dw_a9_1, dw_s9_1, dw_a10, dw_w10, dw_a10_0, dw_w10_0, dw_a10_1, dw_w10_1, dw_a10_2, dw_w10_2, dw_a11, dw_w11, dw_a12, dw_w12, dw_a13, dw_w13, dw_a14, dw_w14, dw_a15, dw_w15, dw_a16, dw_w16, dw_a17, dw_w17, dw_a17_0, dw_w17_0, dw_a18, dw_w18, dw_a18_0, dw_w18_0, dw_a18_1, dw_w18_1, dw_a18_2, dw_w18_2, dw_a18_3, dw_w18_3, dw_a18_4, dw_w18_4, dw_a18_5, dw_w18_5, dw_a19, dw_w19, dw_a19_24, dw_w19_24, dw_a20, dw_w20]); first | with_reducible rw [bnd_s] | with_reducible rw [bn2_s] | with_reducible rw [grd_t]))
    by_cases cb : dw_tb (dw_gJ X 5) i = true
    · rw [if_pos ((dw_tb1 hho (by omega)).mpr cb), if_pos cb]
      repeat (first | with_reducible rw [bnd_s] | with_reducible rw [nmd_s] | with_reducible rw [bn2_s] | with_reducible rw [grd_t] | ((conv => arg 1; arg 1; simp (disch := omega) only [dw_is, dw_f0, dw_t0, dw_f9, dw_t9, dw_f12, dw_t12, dw_f13, dw_t13, dw_f14, dw_t14, dw_f22, dw_t22, dw_f23, dw_t23, dw_f24, dw_t24, dw_f25, dw_t25, dw_f28, dw_t28, dw_f29, dw_t29, dw_f30, dw_t30, dw_f35, dw_t35, dw_f7, dw_t7, dw_f5, dw_t5, dw_f6, dw_t6, dw_f1, dw_f2, dw_f3, dw_f4, dw_f8, dw_f10, dw_f11, dw_f15, dw_f16, dw_f17, dw_f18, dw_f19, dw_f20, dw_f21, dw_f26, dw_f27, dw_f31, dw_f32, dw_f33, dw_f34, dw_a1, dw_w1, dw_a2, dw_w2, dw_a3, dw_w3, dw_a4, dw_w4, dw_a5, dw_w5, dw_a6, dw_w6, dw_a7, dw_w7, dw_a8, dw_w8, dw_a9_0, dw_s9_0, dw_a9_1, dw_s9_1, dw_a10, dw_w10, dw_a10_0, dw_w10_0, dw_a10_1, dw_w10_1, dw_a10_2, dw_w10_2, dw_a11, dw_w11, dw_a12, dw_w12, dw_a13, dw_w13, dw_a14, dw_w14, dw_a15, dw_w15, dw_a16, dw_w16, dw_a17, dw_w17, dw_a17_0, dw_w17_0, dw_a18, dw_w18, dw_a18_0, dw_w18_0, dw_a18_1, dw_w18_1, dw_a18_2, dw_w18_2, dw_a18_3, dw_w18_3, dw_a18_4, dw_w18_4, dw_a18_5, dw_w18_5, dw_a19, dw_w19, dw_a19_24, dw_w19_24, dw_a20, dw_w20, hu i (by omega)]); first | with_reducible rw [bnd_s] | with_reducible rw [bn2_s] | with_reducible rw [grd_t]))
      rw [M_move_156, nmd_s, nmd_s, nI_1]
    · rw [if_neg (fun q => cb ((dw_tb1 hho (by omega)).mp q)), if_neg cb, M_move_156, nmd_s, nmd_s, nI_1]
theorem dw_Mmove183 {k173 : pm_H → Nat → Int32 → Int32 → Int32 → Int32 → Int32 → Option (pm_H × Int32)} (hho : dw_small (dw_gJ X 5)) {u : Nat → Int32} (hu : ∀ j, j < 40 → dw_gA X 20 j = u j) (b nw : Int32) {a : Nat} (ha : a < 40) (f k : Nat) : ∀ i p l, i + k = 40 → M_move_183 k173 (f + k + 1) (dw_mk X R G S N y) 0 b nw p l (nI a) (nI i) = k173 (dw_mk X R G S N y) 0 b nw (dw_mvi (dw_gJ X 5) u nw a k i (p, l)).1 (dw_mvi (dw_gJ X 5) u nw a k i (p, l)).2 (nI (a + 1)) := by
  induction k with
  | zero =>
    intro i p l hi
    rw [M_move_183, if_pos (show (40 : Int32) ≤ nI i from nI_le (a := 40) (by omega) (by omega)), nmd_s, nI_1, dw_mvi, dw_best]
  | succ k ih =>
    intro i p l hi
    have run0 : M_move_222 k173 (M_move_183 k173 (f + k + 1)) (dw_mk X R G S N y) 0 b nw p l (nI a) (nI i) = M_move_183 k173 (f + k + 1) (dw_mk X R G S N y) 0 b nw p l (nI a) (nI (i + 1)) := by
      rw [M_move_222, M_move_223]
      repeat (first | with_reducible rw [bnd_s] | with_reducible rw [nmd_s] | with_reducible rw [bn2_s] | with_reducible rw [grd_t] | ((conv => arg 1; arg 1; simp (disch := omega) only [dw_is, dw_f0, dw_t0, dw_f9, dw_t9, dw_f12, dw_t12, dw_f13, dw_t13, dw_f14, dw_t14, dw_f22, dw_t22, dw_f23, dw_t23, dw_f24, dw_t24, dw_f25, dw_t25, dw_f28, dw_t28, dw_f29, dw_t29, dw_f30, dw_t30, dw_f35, dw_t35, dw_f7, dw_t7, dw_f5, dw_t5, dw_f6, dw_t6, dw_f1, dw_f2, dw_f3, dw_f4, dw_f8, dw_f10, dw_f11, dw_f15, dw_f16, dw_f17, dw_f18, dw_f19, dw_f20, dw_f21, dw_f26, dw_f27, dw_f31, dw_f32, dw_f33, dw_f34, dw_a1, dw_w1, dw_a2, dw_w2, dw_a3, dw_w3, dw_a4, dw_w4, dw_a5, dw_w5, dw_a6, dw_w6, dw_a7, dw_w7, dw_a8, dw_w8, dw_a9_0, dw_s9_0, dw_a9_1, dw_s9_1, dw_a10, dw_w10, dw_a10_0, dw_w10_0, dw_a10_1, dw_w10_1, dw_a10_2, dw_w10_2, dw_a11, dw_w11, dw_a12, dw_w12, dw_a13, dw_w13, dw_a14, dw_w14, dw_a15, dw_w15, dw_a16, dw_w16, dw_a17, dw_w17, dw_a17_0, dw_w17_0, dw_a18, dw_w18, dw_a18_0, dw_w18_0, dw_a18_1, dw_w18_1, dw_a18_2, dw_w18_2, dw_a18_3, dw_w18_3, dw_a18_4, dw_w18_4, dw_a18_5, dw_w18_5, dw_a19, dw_w19, dw_a19_24, dw_w19_24, dw_a20, dw_w20]); first | with_reducible rw [bnd_s] | with_reducible rw [bn2_s] | with_reducible rw [grd_t]))
      rw [if_pos rfl, M_move_267, M_move_269, if_pos rfl, M_move_288, M_move_290, nmd_s, nI_1]
    rw [show f + (k + 1) + 1 = f + k + 1 + 1 by omega, M_move_183, if_neg (show ¬ (40 : Int32) ≤ nI i from nI_ge (b := 40) (by omega) (by omega)), dw_mvi, dw_best]
    repeat (first | with_reducible rw [bnd_s] | with_reducible rw [nmd_s] | with_reducible rw [bn2_s] | with_reducible rw [grd_t] | ((conv => arg 1; arg 1; simp (disch := omega) only [dw_is, dw_f0, dw_t0, dw_f9, dw_t9, dw_f12, dw_t12, dw_f13, dw_t13, dw_f14, dw_t14, dw_f22, dw_t22, dw_f23, dw_t23, dw_f24, dw_t24, dw_f25, dw_t25, dw_f28, dw_t28, dw_f29, dw_t29, dw_f30, dw_t30, dw_f35, dw_t35, dw_f7, dw_t7, dw_f5, dw_t5, dw_f6, dw_t6, dw_f1, dw_f2, dw_f3, dw_f4, dw_f8, dw_f10, dw_f11, dw_f15, dw_f16, dw_f17, dw_f18, dw_f19, dw_f20, dw_f21, dw_f26, dw_f27, dw_f31, dw_f32, dw_f33, dw_f34, dw_a1, dw_w1, dw_a2, dw_w2, dw_a3, dw_w3, dw_a4, dw_w4, dw_a5, dw_w5, dw_a6, dw_w6, dw_a7, dw_w7, dw_a8, dw_w8, dw_a9_0, dw_s9_0, dw_a9_1, dw_s9_1, dw_a10, dw_w10, dw_a10_0, dw_w10_0, dw_a10_1, dw_w10_1, dw_a10_2, dw_w10_2, dw_a11, dw_w11, dw_a12, dw_w12, dw_a13, dw_w13, dw_a14, dw_w14, dw_a15, dw_w15, dw_a16, dw_w16, dw_a17, dw_w17, dw_a17_0, dw_w17_0, dw_a18, dw_w18, dw_a18_0, dw_w18_0, dw_a18_1, dw_w18_1, dw_a18_2, dw_w18_2, dw_a18_3, dw_w18_3, dw_a18_4, dw_w18_4, dw_a18_5, dw_w18_5, dw_a19, dw_w19, dw_a19_24, dw_w19_24, dw_a20, dw_w20]); first | with_reducible rw [bnd_s] | with_reducible rw [bn2_s] | with_reducible rw [grd_t]))
    by_cases ca : dw_tb (dw_gJ X 5) a = true
    · rw [if_pos ((dw_tb1 hho (by omega)).mpr ca)]
      repeat (first | with_reducible rw [bnd_s] | with_reducible rw [nmd_s] | with_reducible rw [bn2_s] | with_reducible rw [grd_t] | ((conv => arg 1; arg 1; simp (disch := omega) only [dw_is, dw_f0, dw_t0, dw_f9, dw_t9, dw_f12, dw_t12, dw_f13, dw_t13, dw_f14, dw_t14, dw_f22, dw_t22, dw_f23, dw_t23, dw_f24, dw_t24, dw_f25, dw_t25, dw_f28, dw_t28, dw_f29, dw_t29, dw_f30, dw_t30, dw_f35, dw_t35, dw_f7, dw_t7, dw_f5, dw_t5, dw_f6, dw_t6, dw_f1, dw_f2, dw_f3, dw_f4, dw_f8, dw_f10, dw_f11, dw_f15, dw_f16, dw_f17, dw_f18, dw_f19, dw_f20, dw_f21, dw_f26, dw_f27, dw_f31, dw_f32, dw_f33, dw_f34, dw_a1, dw_w1, dw_a2, dw_w2, dw_a3, dw_w3, dw_a4, dw_w4, dw_a5, dw_w5, dw_a6, dw_w6, dw_a7, dw_w7, dw_a8, dw_w8, dw_a9_0, dw_s9_0, dw_a9_1, dw_s9_1, dw_a10, dw_w10, dw_a10_0, dw_w10_0, dw_a10_1, dw_w10_1, dw_a10_2, dw_w10_2, dw_a11, dw_w11, dw_a12, dw_w12, dw_a13, dw_w13, dw_a14, dw_w14, dw_a15, dw_w15, dw_a16, dw_w16, dw_a17, dw_w17, dw_a17_0, dw_w17_0, dw_a18, dw_w18, dw_a18_0, dw_w18_0, dw_a18_1, dw_w18_1, dw_a18_2, dw_w18_2, dw_a18_3, dw_w18_3, dw_a18_4, dw_w18_4, dw_a18_5, dw_w18_5, dw_a19, dw_w19, dw_a19_24, dw_w19_24, dw_a20, dw_w20]); first | with_reducible rw [bnd_s] | with_reducible rw [bn2_s] | with_reducible rw [grd_t]))
      by_cases cb : dw_tb (dw_gJ X 5) i = true
      · rw [if_neg (fun q => by rw [(dw_tb0 hho (by omega)).mp q] at cb; exact absurd cb (by decide)), run0, if_neg (show ¬ (dw_tb (dw_gJ X 5) a && !dw_tb (dw_gJ X 5) i) = true by rw [cb, ca]; decide)]
        exact ih (i + 1) p l (by omega)
      · have cb2 : dw_tb (dw_gJ X 5) i = false := by
          cases hq : dw_tb (dw_gJ X 5) i
          · rfl
          · exact absurd hq cb
        rw [if_pos ((dw_tb0 hho (by omega)).mpr cb2), if_pos (show (dw_tb (dw_gJ X 5) a && !dw_tb (dw_gJ X 5) i) = true by rw [cb2, ca]; rfl), M_move_223]
        repeat (first | with_reducible rw [bnd_s] | with_reducible rw [nmd_s] | with_reducible rw [bn2_s] | with_reducible rw [grd_t] | ((conv => arg 1; arg 1; simp (disch := omega) only [dw_is, dw_f0, dw_t0, dw_f9, dw_t9, dw_f12, dw_t12, dw_f13, dw_t13, dw_f14, dw_t14, dw_f22, dw_t22, dw_f23, dw_t23, dw_f24, dw_t24, dw_f25, dw_t25, dw_f28, dw_t28, dw_f29, dw_t29, dw_f30, dw_t30, dw_f35, dw_t35, dw_f7, dw_t7, dw_f5, dw_t5, dw_f6, dw_t6, dw_f1, dw_f2, dw_f3, dw_f4, dw_f8, dw_f10, dw_f11, dw_f15, dw_f16, dw_f17, dw_f18, dw_f19, dw_f20, dw_f21, dw_f26, dw_f27, dw_f31, dw_f32, dw_f33, dw_f34, dw_a1, dw_w1, dw_a2, dw_w2, dw_a3, dw_w3, dw_a4, dw_w4, dw_a5, dw_w5, dw_a6, dw_w6, dw_a7, dw_w7, dw_a8, dw_w8, dw_a9_0, dw_s9_0, dw_a9_1, dw_s9_1, dw_a10, dw_w10, dw_a10_0, dw_w10_0, dw_a10_1, dw_w10_1, dw_a10_2, dw_w10_2, dw_a11, dw_w11, dw_a12, dw_w12, dw_a13, dw_w13, dw_a14, dw_w14, dw_a15, dw_w15, dw_a16, dw_w16, dw_a17, dw_w17, dw_a17_0, dw_w17_0, dw_a18, dw_w18, dw_a18_0, dw_w18_0, dw_a18_1, dw_w18_1, dw_a18_2, dw_w18_2, dw_a18_3, dw_w18_3, dw_a18_4, dw_w18_4, dw_a18_5, dw_w18_5, dw_a19, dw_w19, dw_a19_24, dw_w19_24, dw_a20, dw_w20, hu i (by omega), hu a ha]); first | with_reducible rw [bnd_s] | with_reducible rw [bn2_s] | with_reducible rw [grd_t]))
        rw [if_neg (by decide)]
        by_cases cl : nw - u a + u i < l
        · rw [if_neg (fa_of_lt cl).2.1, M_move_269, if_neg (by decide), if_neg (fa_of_lt cl).2.1, M_move_290, nmd_s, nI_1, dw_100, nI_add, if_pos cl]
          exact ih (i + 1) _ _ (by omega)
        · rw [if_pos (fa_of_nlt cl), M_move_267, M_move_269, if_neg (by decide), if_pos (fa_of_nlt cl), M_move_288, M_move_290, nmd_s, nI_1, if_neg cl]
          exact ih (i + 1) _ _ (by omega)
    · have ca2 : dw_tb (dw_gJ X 5) a = false := by
        cases hq : dw_tb (dw_gJ X 5) a
        · rfl
        · exact absurd hq ca
      rw [if_neg (fun q => ca ((dw_tb1 hho (by omega)).mp q)), run0, if_neg (show ¬ (dw_tb (dw_gJ X 5) a && !dw_tb (dw_gJ X 5) i) = true by rw [ca2]; simp)]
      exact ih (i + 1) p l (by omega)
theorem dw_Mmove173 (hho : dw_small (dw_gJ X 5)) {u : Nat → Int32} (hu : ∀ j, j < 40 → dw_gA X 20 j = u j) (b nw : Int32) (f k : Nat) : ∀ a z, a + k = 40 → M_move_173 (f + k + 1) (dw_mk X R G S N y) 0 b nw z.1 z.2 (nI a) = some (dw_mk X R G S N y, if b = 0 then (dw_mvo (dw_gJ X 5) u nw k a z).1 else (dw_mvo (dw_gJ X 5) u nw k a z).2) := by
  induction k with
  | zero =>
    intro a z ha
    rw [M_move_173, if_pos (show (40 : Int32) ≤ nI a from nI_le (a := 40) (by omega) (by omega)), dw_mvo]
    by_cases c : b = 0
    · rw [if_pos c, if_pos c]
    · rw [if_neg c, if_neg c]
  | succ k ih =>
    intro a z ha
    rw [show f + (k + 1) + 1 = f + k + 1 + 1 by omega, M_move_173, if_neg (show ¬ (40 : Int32) ≤ nI a from nI_ge (b := 40) (by omega) (by omega)), dw_mvo]
    have h := dw_Mmove183 (k173 := M_move_173 (f + k + 1)) (R := R) (G := G) (S := S) (N := N) (y := y) hho hu b nw (a := a) (by omega) 959 40 0 z.1 z.2 rfl
    exact h.trans (ih (a + 1) _ (by omega))
theorem dw_Mmove24 (n b : Int32) (f k : Nat) : ∀ i X, i + k = 40 → (∀ j, j < i → dw_gA X 20 j = 0) → dw_Z (M_move_24 (f + k + 1) (dw_mk X R G S N y) 0 n b (nI i)) (fun z => ∃ X', z = M_move_24 (f + 1) (dw_mk X' R G S N y) 0 n b (nI 40) ∧ dw_Eq X X' ∧ ∀ j, j < 40 → dw_gA X' 20 j = 0) := by
  induction k with
  | zero =>
    intro i X hi hu
    rw [show i = 40 by omega] at hu ⊢
    exact ⟨X, rfl, dw_Eq_rfl X, hu⟩
  | succ k ih =>
    intro i X hi hu
    rw [show f + (k + 1) + 1 = f + k + 1 + 1 by omega, M_move_24, if_neg (show ¬ (40 : Int32) ≤ nI i from nI_ge (b := 40) (by omega) (by omega))]
    repeat (first | with_reducible rw [bnd_s] | with_reducible rw [nmd_s] | with_reducible rw [bn2_s] | with_reducible rw [grd_t] | ((conv => arg 1; arg 1; simp (disch := omega) only [dw_is, dw_f0, dw_t0, dw_f9, dw_t9, dw_f12, dw_t12, dw_f13, dw_t13, dw_f14, dw_t14, dw_f22, dw_t22, dw_f23, dw_t23, dw_f24, dw_t24, dw_f25, dw_t25, dw_f28, dw_t28, dw_f29, dw_t29, dw_f30, dw_t30, dw_f35, dw_t35, dw_f7, dw_t7, dw_f5, dw_t5, dw_f6, dw_t6, dw_f1, dw_f2, dw_f3, dw_f4, dw_f8, dw_f10, dw_f11, dw_f15, dw_f16, dw_f17, dw_f18, dw_f19, dw_f20, dw_f21, dw_f26, dw_f27, dw_f31, dw_f32, dw_f33, dw_f34, dw_a1, dw_w1, dw_a2, dw_w2, dw_a3, dw_w3, dw_a4, dw_w4, dw_a5, dw_w5, dw_a6, dw_w6, dw_a7, dw_w7, dw_a8, dw_w8, dw_a9_0, dw_s9_0, dw_a9_1, dw_s9_1, dw_a10, dw_w10, dw_a10_0, dw_w10_0, dw_a10_1, dw_w10_1, dw_a10_2, dw_w10_2, dw_a11, dw_w11, dw_a12, dw_w12, dw_a13, dw_w13, dw_a14, dw_w14, dw_a15, dw_w15, dw_a16, dw_w16, dw_a17, dw_w17, dw_a17_0, dw_w17_0, dw_a18, dw_w18, dw_a18_0, dw_w18_0, dw_a18_1, dw_w18_1, dw_a18_2, dw_w18_2, dw_a18_3, dw_w18_3, dw_a18_4, dw_w18_4, dw_a18_5, dw_w18_5, dw_a19, dw_w19, dw_a19_24, dw_w19_24, dw_a20, dw_w20]); first | with_reducible rw [bnd_s] | with_reducible rw [bn2_s] | with_reducible rw [grd_t]))
    rw [nI_1]
    obtain ⟨X', g1, g2, g3⟩ := ih (i + 1) (dw_A X 20 i 0) (by omega) (by
      intro j hj
      rw [dw_AA]
      by_cases cj : j = i
      · rw [if_pos ⟨rfl, cj⟩]
      · rw [if_neg (fun q => cj q.2), hu j (by omega)])
    exact ⟨X', g1, dw_Eq_tr (dw_Eq_A (by decide)) g2, g3⟩
theorem dw_Mk28_20 (f k : Nat) : ∀ i X, i + k = 6 → dw_Z (M_keeps_28 (f + k + 1) (dw_mk X R G S N y) 0 (nI i)) (fun z => ∃ X', z = some (dw_mk X' R G S N y, ()) ∧ ∀ j, dw_gA X' 20 j = dw_gA X 20 j) := by
  induction k with
  | zero =>
    intro i X hi
    rw [M_keeps_28, if_pos (show (6 : Int32) ≤ nI i from nI_le (a := 6) (by omega) (by omega))]
    repeat (first | with_reducible rw [bnd_s] | with_reducible rw [nmd_s] | with_reducible rw [bn2_s] | with_reducible rw [grd_t] | ((conv => arg 1; arg 1; simp (disch := omega) only [dw_is, dw_f0, dw_t0, dw_f9, dw_t9, dw_f12, dw_t12, dw_f13, dw_t13, dw_f14, dw_t14, dw_f22, dw_t22, dw_f23, dw_t23, dw_f24, dw_t24, dw_f25, dw_t25, dw_f28, dw_t28, dw_f29, dw_t29, dw_f30, dw_t30, dw_f35, dw_t35, dw_f7, dw_t7, dw_f5, dw_t5, dw_f6, dw_t6, dw_f1, dw_f2, dw_f3, dw_f4, dw_f8, dw_f10, dw_f11, dw_f15, dw_f16, dw_f17, dw_f18, dw_f19, dw_f20, dw_f21, dw_f26, dw_f27, dw_f31, dw_f32, dw_f33, dw_f34, dw_a1, dw_w1, dw_a2, dw_w2, dw_a3, dw_w3, dw_a4, dw_w4, dw_a5, dw_w5, dw_a6, dw_w6, dw_a7, dw_w7, dw_a8, dw_w8, dw_a9_0, dw_s9_0, dw_a9_1, dw_s9_1, dw_a10, dw_w10, dw_a10_0, dw_w10_0, dw_a10_1, dw_w10_1, dw_a10_2, dw_w10_2, dw_a11, dw_w11, dw_a12, dw_w12, dw_a13, dw_w13, dw_a14, dw_w14, dw_a15, dw_w15, dw_a16, dw_w16, dw_a17, dw_w17, dw_a17_0, dw_w17_0, dw_a18, dw_w18, dw_a18_0, dw_w18_0, dw_a18_1, dw_w18_1, dw_a18_2, dw_w18_2, dw_a18_3, dw_w18_3, dw_a18_4, dw_w18_4, dw_a18_5, dw_w18_5, dw_a19, dw_w19, dw_a19_24, dw_w19_24, dw_a20, dw_w20]); first | with_reducible rw [bnd_s] | with_reducible rw [bn2_s] | with_reducible rw [grd_t]))
    exact ⟨_, rfl, fun j => by rw [dw_AA, if_neg (fun q => absurd q.1 (by decide))]⟩
  | succ k ih =>
    intro i X hi
    rw [show f + (k + 1) + 1 = f + k + 1 + 1 by omega, M_keeps_28, if_neg (show ¬ (6 : Int32) ≤ nI i from nI_ge (b := 6) (by omega) (by omega))]
    repeat (first | with_reducible rw [bnd_s] | with_reducible rw [nmd_s] | with_reducible rw [bn2_s] | with_reducible rw [grd_t] | ((conv => arg 1; arg 1; simp (disch := omega) only [dw_is, dw_f0, dw_t0, dw_f9, dw_t9, dw_f12, dw_t12, dw_f13, dw_t13, dw_f14, dw_t14, dw_f22, dw_t22, dw_f23, dw_t23, dw_f24, dw_t24, dw_f25, dw_t25, dw_f28, dw_t28, dw_f29, dw_t29, dw_f30, dw_t30, dw_f35, dw_t35, dw_f7, dw_t7, dw_f5, dw_t5, dw_f6, dw_t6, dw_f1, dw_f2, dw_f3, dw_f4, dw_f8, dw_f10, dw_f11, dw_f15, dw_f16, dw_f17, dw_f18, dw_f19, dw_f20, dw_f21, dw_f26, dw_f27, dw_f31, dw_f32, dw_f33, dw_f34, dw_a1, dw_w1, dw_a2, dw_w2, dw_a3, dw_w3, dw_a4, dw_w4, dw_a5, dw_w5, dw_a6, dw_w6, dw_a7, dw_w7, dw_a8, dw_w8, dw_a9_0, dw_s9_0, dw_a9_1, dw_s9_1, dw_a10, dw_w10, dw_a10_0, dw_w10_0, dw_a10_1, dw_w10_1, dw_a10_2, dw_w10_2, dw_a11, dw_w11, dw_a12, dw_w12, dw_a13, dw_w13, dw_a14, dw_w14, dw_a15, dw_w15, dw_a16, dw_w16, dw_a17, dw_w17, dw_a17_0, dw_w17_0, dw_a18, dw_w18, dw_a18_0, dw_w18_0, dw_a18_1, dw_w18_1, dw_a18_2, dw_w18_2, dw_a18_3, dw_w18_3, dw_a18_4, dw_w18_4, dw_a18_5, dw_w18_5, dw_a19, dw_w19, dw_a19_24, dw_w19_24, dw_a20, dw_w20, dw_18p]); first | with_reducible rw [bnd_s] | with_reducible rw [bn2_s] | with_reducible rw [grd_t]))
    rw [nI_1]
    obtain ⟨X', e1, e2⟩ := ih (i + 1) (dw_A X 19 (18 + i) (G i)) (by omega)
    exact ⟨X', e1, fun j => by rw [e2, dw_AA, if_neg (fun q => absurd q.1 (by decide))]⟩
theorem dw_Mk2_20 (f k : Nat) : ∀ i X, i + k = 18 → dw_Z (M_keeps_2 (f + k + 1) (dw_mk X R G S N y) 0 (nI i)) (fun z => ∃ X', z = some (dw_mk X' R G S N y, ()) ∧ ∀ j, dw_gA X' 20 j = dw_gA X 20 j) := by
  induction k with
  | zero =>
    intro i X hi
    rw [M_keeps_2, if_pos (show (18 : Int32) ≤ nI i from nI_le (a := 18) (by omega) (by omega))]
    exact dw_Mk28_20 993 6 0 X rfl
  | succ k ih =>
    intro i X hi
    rw [show f + (k + 1) + 1 = f + k + 1 + 1 by omega, M_keeps_2, if_neg (show ¬ (18 : Int32) ≤ nI i from nI_ge (b := 18) (by omega) (by omega))]
    repeat (first | with_reducible rw [bnd_s] | with_reducible rw [nmd_s] | with_reducible rw [bn2_s] | with_reducible rw [grd_t] | ((conv => arg 1; arg 1; simp (disch := omega) only [dw_is, dw_f0, dw_t0, dw_f9, dw_t9, dw_f12, dw_t12, dw_f13, dw_t13, dw_f14, dw_t14, dw_f22, dw_t22, dw_f23, dw_t23, dw_f24, dw_t24, dw_f25, dw_t25, dw_f28, dw_t28, dw_f29, dw_t29, dw_f30, dw_t30, dw_f35, dw_t35, dw_f7, dw_t7, dw_f5, dw_t5, dw_f6, dw_t6, dw_f1, dw_f2, dw_f3, dw_f4, dw_f8, dw_f10, dw_f11, dw_f15, dw_f16, dw_f17, dw_f18, dw_f19, dw_f20, dw_f21, dw_f26, dw_f27, dw_f31, dw_f32, dw_f33, dw_f34, dw_a1, dw_w1, dw_a2, dw_w2, dw_a3, dw_w3, dw_a4, dw_w4, dw_a5, dw_w5, dw_a6, dw_w6, dw_a7, dw_w7, dw_a8, dw_w8, dw_a9_0, dw_s9_0, dw_a9_1, dw_s9_1, dw_a10, dw_w10, dw_a10_0, dw_w10_0, dw_a10_1, dw_w10_1, dw_a10_2, dw_w10_2, dw_a11, dw_w11, dw_a12, dw_w12, dw_a13, dw_w13, dw_a14, dw_w14, dw_a15, dw_w15, dw_a16, dw_w16, dw_a17, dw_w17, dw_a17_0, dw_w17_0, dw_a18, dw_w18, dw_a18_0, dw_w18_0, dw_a18_1, dw_w18_1, dw_a18_2, dw_w18_2, dw_a18_3, dw_w18_3, dw_a18_4, dw_w18_4, dw_a18_5, dw_w18_5, dw_a19, dw_w19, dw_a19_24, dw_w19_24, dw_a20, dw_w20]); first | with_reducible rw [bnd_s] | with_reducible rw [bn2_s] | with_reducible rw [grd_t]))
    rw [nI_1]
    obtain ⟨X', e1, e2⟩ := ih (i + 1) (dw_A X 19 i (R i)) (by omega)
    exact ⟨X', e1, fun j => by rw [e2, dw_AA, if_neg (fun q => absurd q.1 (by decide))]⟩
theorem dw_Mk20 : ∃ X', M_keeps (dw_mk X R G S N y) 0 = some (dw_mk X' R G S N y, ()) ∧ ∀ j, dw_gA X' 20 j = dw_gA X 20 j := dw_Mk2_20 981 18 0 X (by omega)
theorem dw_mk20 {X1 X2 : dw_X} (f3 : dw_mk X1 R G S N y = dw_mk X2 R G S N y) {j : Nat} (hj : j < 40) : dw_gA X1 20 j = dw_gA X2 20 j := by
  have f5 : op_aI (dw_mk X1 R G S N y) 20 (nI j) = op_aI (dw_mk X2 R G S N y) 20 (nI j) := by rw [f3]
  rw [dw_a20 hj, dw_a20 hj] at f5
  injection f5
theorem dw_Mkeeps20 : ∃ X', M_keeps (dw_mk X R G S N y) 0 = some (dw_mk X' R G S N y, ()) ∧ dw_Eq X X' ∧ dw_Kept X' R G y ∧ ∀ j, j < 40 → dw_gA X' 20 j = dw_gA X 20 j := by
  obtain ⟨X1, e1, e2, e3⟩ := dw_Mkeeps (X := X) (R := R) (G := G) (S := S) (N := N) (y := y)
  obtain ⟨X2, f1, f2⟩ := dw_Mk20 (X := X) (R := R) (G := G) (S := S) (N := N) (y := y)
  rw [e1] at f1
  injection f1 with f1
  exact ⟨X1, e1, e2, e3, fun j hj => by rw [dw_mk20 (Prod.mk.inj f1).1 hj, f2]⟩
theorem dw_Mmove (h : dw_TH X R G r m w s yy) (a b : Int32) : dw_Bk (M_move (dw_mk X R G S N (nI yy)) 0 a b) X R G (nI yy) (dw_qmove w (dw_gJ X 6) (dw_gJ X 5) s yy a b) := by
  rw [M_move, dw_qmove]
  repeat (first | with_reducible rw [bnd_s] | with_reducible rw [nmd_s] | with_reducible rw [bn2_s] | with_reducible rw [grd_t] | ((conv => arg 1; arg 1; simp (disch := omega) only [dw_is, dw_f0, dw_t0, dw_f9, dw_t9, dw_f12, dw_t12, dw_f13, dw_t13, dw_f14, dw_t14, dw_f22, dw_t22, dw_f23, dw_t23, dw_f24, dw_t24, dw_f25, dw_t25, dw_f28, dw_t28, dw_f29, dw_t29, dw_f30, dw_t30, dw_f35, dw_t35, dw_f7, dw_t7, dw_f5, dw_t5, dw_f6, dw_t6, dw_f1, dw_f2, dw_f3, dw_f4, dw_f8, dw_f10, dw_f11, dw_f15, dw_f16, dw_f17, dw_f18, dw_f19, dw_f20, dw_f21, dw_f26, dw_f27, dw_f31, dw_f32, dw_f33, dw_f34, dw_a1, dw_w1, dw_a2, dw_w2, dw_a3, dw_w3, dw_a4, dw_w4, dw_a5, dw_w5, dw_a6, dw_w6, dw_a7, dw_w7, dw_a8, dw_w8, dw_a9_0, dw_s9_0, dw_a9_1, dw_s9_1, dw_a10, dw_w10, dw_a10_0, dw_w10_0, dw_a10_1, dw_w10_1, dw_a10_2, dw_w10_2, dw_a11, dw_w11, dw_a12, dw_w12, dw_a13, dw_w13, dw_a14, dw_w14, dw_a15, dw_w15, dw_a16, dw_w16, dw_a17, dw_w17, dw_a17_0, dw_w17_0, dw_a18, dw_w18, dw_a18_0, dw_w18_0, dw_a18_1, dw_w18_1, dw_a18_2, dw_w18_2, dw_a18_3, dw_w18_3, dw_a18_4, dw_w18_4, dw_a18_5, dw_w18_5, dw_a19, dw_w19, dw_a19_24, dw_w19_24, dw_a20, dw_w20, dw_Min]); first | with_reducible rw [bnd_s] | with_reducible rw [bn2_s] | with_reducible rw [grd_t]))
  by_cases c : dw_in a 0 20 = 0
  · rw [if_pos c, if_pos c]
    exact dw_Bk_id
  rw [if_neg c, if_neg c]
  repeat (first | with_reducible rw [bnd_s] | with_reducible rw [nmd_s] | with_reducible rw [bn2_s] | with_reducible rw [grd_t] | ((conv => arg 1; arg 1; simp (disch := omega) only [dw_is, dw_f0, dw_t0, dw_f9, dw_t9, dw_f12, dw_t12, dw_f13, dw_t13, dw_f14, dw_t14, dw_f22, dw_t22, dw_f23, dw_t23, dw_f24, dw_t24, dw_f25, dw_t25, dw_f28, dw_t28, dw_f29, dw_t29, dw_f30, dw_t30, dw_f35, dw_t35, dw_f7, dw_t7, dw_f5, dw_t5, dw_f6, dw_t6, dw_f1, dw_f2, dw_f3, dw_f4, dw_f8, dw_f10, dw_f11, dw_f15, dw_f16, dw_f17, dw_f18, dw_f19, dw_f20, dw_f21, dw_f26, dw_f27, dw_f31, dw_f32, dw_f33, dw_f34, dw_a1, dw_w1, dw_a2, dw_w2, dw_a3, dw_w3, dw_a4, dw_w4, dw_a5, dw_w5, dw_a6, dw_w6, dw_a7, dw_w7, dw_a8, dw_w8, dw_a9_0, dw_s9_0, dw_a9_1, dw_s9_1, dw_a10, dw_w10, dw_a10_0, dw_w10_0, dw_a10_1, dw_w10_1, dw_a10_2, dw_w10_2, dw_a11, dw_w11, dw_a12, dw_w12, dw_a13, dw_w13, dw_a14, dw_w14, dw_a15, dw_w15, dw_a16, dw_w16, dw_a17, dw_w17, dw_a17_0, dw_w17_0, dw_a18, dw_w18, dw_a18_0, dw_w18_0, dw_a18_1, dw_w18_1, dw_a18_2, dw_w18_2, dw_a18_3, dw_w18_3, dw_a18_4, dw_w18_4, dw_a18_5, dw_w18_5, dw_a19, dw_w19, dw_a19_24, dw_w19_24, dw_a20, dw_w20, dw_Min]); first | with_reducible rw [bnd_s] | with_reducible rw [bn2_s] | with_reducible rw [grd_t]))
  by_cases c2 : dw_in b 0 1 = 0
  · rw [if_pos c2, if_pos c2]
    exact dw_Bk_id
  rw [if_neg c2, if_neg c2]
  obtain ⟨n, hn, rfl⟩ := dw_in_of (n := 20) rfl c
  rw [dw_N_nI (by omega)]
  obtain ⟨X0, a1, a2, a3⟩ := dw_Mmove24 (R := R) (G := G) (S := S) (N := N) (y := nI yy) (nI n) b 959 40 0 X rfl (fun j hj => absurd hj (Nat.not_lt_zero j))
  have a1' : M_move_24 1000 (dw_mk X R G S N (nI yy)) 0 (nI n) b 0 = _ := a1
  rw [a1', M_move_24, if_pos (by decide)]
  obtain ⟨X1, e1, e2, e3, e4⟩ := dw_Mkeeps20 (X := X0) (R := R) (G := G) (S := S) (N := N) (y := nI yy)
  repeat (first | with_reducible rw [bnd_s] | with_reducible rw [nmd_s] | with_reducible rw [bn2_s] | with_reducible rw [grd_t] | ((conv => arg 1; arg 1; simp (disch := omega) only [dw_is, dw_f0, dw_t0, dw_f9, dw_t9, dw_f12, dw_t12, dw_f13, dw_t13, dw_f14, dw_t14, dw_f22, dw_t22, dw_f23, dw_t23, dw_f24, dw_t24, dw_f25, dw_t25, dw_f28, dw_t28, dw_f29, dw_t29, dw_f30, dw_t30, dw_f35, dw_t35, dw_f7, dw_t7, dw_f5, dw_t5, dw_f6, dw_t6, dw_f1, dw_f2, dw_f3, dw_f4, dw_f8, dw_f10, dw_f11, dw_f15, dw_f16, dw_f17, dw_f18, dw_f19, dw_f20, dw_f21, dw_f26, dw_f27, dw_f31, dw_f32, dw_f33, dw_f34, dw_a1, dw_w1, dw_a2, dw_w2, dw_a3, dw_w3, dw_a4, dw_w4, dw_a5, dw_w5, dw_a6, dw_w6, dw_a7, dw_w7, dw_a8, dw_w8, dw_a9_0, dw_s9_0, dw_a9_1, dw_s9_1, dw_a10, dw_w10, dw_a10_0, dw_w10_0, dw_a10_1, dw_w10_1, dw_a10_2, dw_w10_2, dw_a11, dw_w11, dw_a12, dw_w12, dw_a13, dw_w13, dw_a14, dw_w14, dw_a15, dw_w15, dw_a16, dw_w16, dw_a17, dw_w17, dw_a17_0, dw_w17_0, dw_a18, dw_w18, dw_a18_0, dw_w18_0, dw_a18_1, dw_w18_1, dw_a18_2, dw_w18_2, dw_a18_3, dw_w18_3, dw_a18_4, dw_w18_4, dw_a18_5, dw_w18_5, dw_a19, dw_w19, dw_a19_24, dw_w19_24, dw_a20, dw_w20, e1]); first | with_reducible rw [bnd_s] | with_reducible rw [bn2_s] | with_reducible rw [grd_t]))
  have eX := dw_Eq_tr a2 e2
  obtain ⟨X', R', G', S', N', g1, g2, g3, g4, g5⟩ := dw_Mmove49 eX e3 (n := n) (by omega) b (999 - n) n 0 X1 R G S N (by omega) eX e3 (dw_At0 (dw_TH_Eq h eX (fun _ _ => rfl) (fun _ _ => rfl))) (fun j hj => by rw [e4 j hj, a3 j hj, dw_bu])
  rw [show 999 - n + n + 1 = 1000 by omega] at g1
  have g1' : M_move_49 1000 (dw_mk X1 R G S N (nI yy)) 0 (nI n) b 0 = _ := g1
  have hho : dw_small (dw_gJ X' 5) := by rw [g2.2.1 5]; exact h.2.2.2.2.1
  have k1 : M_move_123 1000 (dw_mk X' R' G' S' N' (nI yy)) 0 b 0 0 = _ := dw_Mmove123 (R := R') (G := G') (S := S') (N := N') (y := nI yy) hho g5 b 959 40 0 rfl
  have k2 : M_move_173 1000 (dw_mk X' R' G' S' N' (nI yy)) 0 b (dw_now (dw_gJ X' 5) (fun j => dw_bu w (dw_gJ X 6) s yy j n) 40) (-1) (dw_now (dw_gJ X' 5) (fun j => dw_bu w (dw_gJ X 6) s yy j n) 40) 0 = _ := dw_Mmove173 (R := R') (G := G') (S := S') (N := N') (y := nI yy) hho g5 b _ 959 40 0 (-1, dw_now (dw_gJ X' 5) (fun j => dw_bu w (dw_gJ X 6) s yy j n) 40) rfl
  rw [g1', k1, k2, g2.2.1 5]
  exact ⟨X', R', G', S', N', rfl, g2, g3, g4⟩
end MC
