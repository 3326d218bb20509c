/-! THE REFERENCE: told years -/
def dw_unl (c g : Nat → Int32) : Nat → Nat → Int32
  | 0, _ => -1
  | k + 1, t => if c t = g t then dw_unl c g k (t + 1) else nI t
def dw_U (w : dw_W) (cl : Int64) (s : dw_L) (yy : Nat) (c : Nat → Int32) (n d : Nat) : Int32 := dw_unl c (fun t => dw_fg (dw_T w cl s yy (t + 1)) d 3) n 0
/-- what sheets hold: sort, size, cells -/
abbrev dw_H : Type := (Nat → Int32) × (Nat → Int32) × (Nat → Nat → Int32)
def dw_SH (X : dw_X) (H : dw_H) : Prop := ∀ k, k < 4 → dw_gA X 11 k = H.1 k ∧ dw_gA X 12 k = H.2.1 k ∧ ∀ j, j < 40 → dw_gA X 13 (40 * k + j) = H.2.2 k j
def dw_Hok (H : dw_H) : Prop := ∀ k, k < 4 → (H.1 k = -1 ∨ H.1 k = 0 ∨ H.1 k = 1 ∨ H.1 k = 2) ∧ ∃ n : Nat, n ≤ 40 ∧ H.2.1 k = nI n
def dw_sw (H : dw_H) (a : Int32) : Int32 := if dw_in a 0 3 = 0 then -2 else if H.1 (dw_N a) = -1 then -11 else if H.2.1 (dw_N a) ≤ 20 then 0 else -2
def dw_tw (H : dw_H) (s : dw_L) (a d : Int32) : Int32 := if dw_sw H a = 0 then (match dw_st s d 6 with | none => -5 | some _ => 0) else dw_sw H a
def dw_qU (w : dw_W) (cl : Int64) (s : dw_L) (yy : Nat) (H : dw_H) (a : Int32) (d : Nat) : Int32 := dw_U w cl s yy (H.2.2 (dw_N a)) (dw_N (H.2.1 (dw_N a))) d
def dw_qjudge (w : dw_W) (cl : Int64) (s : dw_L) (yy : Nat) (H : dw_H) (a d : Int32) : Int32 := if dw_tw H s a d = 0 then dw_qU w cl s yy H a (dw_N d) else dw_tw H s a d
def dw_bits (p : Nat → Bool) : Nat → Nat → Int32 → Int32
  | 0, _, z => z
  | k + 1, i, z => dw_bits p k (i + 1) (z ||| (if p i = true then 1 <<< (nI i &&& 31) else 0))
def dw_qkinds (w : dw_W) (cl : Int64) (s : dw_L) (yy : Nat) (H : dw_H) (a d sort : Int32) : Int32 := if dw_tw H s a d = 0 then (if dw_in sort 0 1 = 0 then -7 else if sort = 0 then dw_bits (fun v => decide (dw_qU w cl (dw_set s (dw_N d) 1 (nI v)) yy H a (dw_N d) = -1)) 6 0 0 else dw_bits (fun v => decide (dw_qU w cl (dw_set s (dw_N d) 2 (nI v)) yy H a (dw_N d) = -1)) 10 0 0) else dw_tw H s a d
def dw_cnt (p : Nat → Bool) : Nat → Nat → Int32 → Int32 → Int32 × Int32
  | 0, _, n, l => (n, l)
  | k + 1, i, n, l => if p i = true then dw_cnt p k (i + 1) (n + 1) (if l = -1 then nI i else l) else dw_cnt p k (i + 1) n l
def dw_wh (what : Int32) (z : Int32 × Int32) : Int32 := if what = 0 then z.1 else z.2
def dw_qstates (w : dw_W) (cl : Int64) (s : dw_L) (yy : Nat) (H : dw_H) (a d sort what : Int32) : Int32 := if dw_tw H s a d = 0 then (if dw_in sort 0 2 = 0 then -7 else if dw_in what 0 1 = 0 then -7 else dw_wh what (dw_cnt (fun v => decide (dw_qU w cl (dw_set s (dw_N d) (3 + dw_N sort) (nI v)) yy H a (dw_N d) = -1)) (if sort = 0 then 40 else if sort = 1 then 9 else 100) (if sort = 1 then 1 else 0) 0 (-1))) else dw_tw H s a d
def dw_qwhose (w : dw_W) (cl : Int64) (s : dw_L) (yy : Nat) (H : dw_H) (a : Int32) : Int32 := if dw_sw H a = 0 then dw_bits (fun d => decide (s d 6 = 0) && decide (dw_qU w cl s yy H a d = -1)) 6 0 0 else dw_sw H a
def dw_qlaws (wt : Nat → dw_W) (tx : Nat) (cl : Int64) (s : dw_L) (yy : Nat) (H : dw_H) (a d : Int32) : Int32 := if dw_tw H s a d = 0 then dw_bits (fun t => decide (dw_qU (wt t) cl s yy H a (dw_N d) = -1)) tx 0 0 else dw_tw H s a d
theorem dw_or0 (z : Int32) : z ||| 0 = z := by
  apply Int32.toBitVec_inj.mp
  simp
theorem dw_bits_no {p : Nat → Bool} : ∀ {k i : Nat} {z : Int32}, (∀ j, i ≤ j → j < i + k → p j = false) → dw_bits p k i z = z
  | 0, _, _, _ => rfl
  | k + 1, i, z, h => by
    rw [dw_bits, h i (Nat.le_refl i) (by omega), if_neg (by decide), dw_or0, dw_bits_no (fun j h1 h2 => h j (by omega) (by omega))]
theorem dw_SH_Eq {X X' : dw_X} {H : dw_H} (h : dw_SH X H) (e : dw_Eq X X') : dw_SH X' H := fun k hk => ⟨(e.2.2.1 11 k (by decide) (by decide) (by decide)).trans (h k hk).1, (e.2.2.1 12 k (by decide) (by decide) (by decide)).trans (h k hk).2.1, fun j hj => (e.2.2.1 13 _ (by decide) (by decide) (by decide)).trans ((h k hk).2.2 j hj)⟩
section MC
variable {X : dw_X} {R G S N : Nat → Int32} {y : Int32} {w : dw_W} {r m yy : Nat} {s : dw_L} {H : dw_H}
theorem dw_Munlike9 {X1 : dw_X} (e : dw_Eq X X1) (hk : dw_Kept X1 R G (nI yy)) (hs : dw_SH X1 H) {q d n : Nat} (hq : q < 4) (hd : d < m) (hz : H.2.1 q = nI n) (hn : n ≤ 40) (f k : Nat) : ∀ t R2 G2 S N, t + k = n → dw_At X1 R2 G2 r m w s yy t → dw_Bk (M_unlike_9 (f + k + 1) (dw_mk X1 R2 G2 S N (nI (yy + t))) 0 (nI q) (nI d) (-1) (nI t)) X R G (nI yy) (dw_unl (H.2.2 q) (fun t => dw_fg (dw_T w (dw_gJ X1 6) s yy (t + 1)) d 3) k t) := by
  obtain ⟨hs1, hs2, hs3⟩ := hs q hq
  induction k with
  | zero =>
    intro t R2 G2 S N ht h
    rw [M_unlike_9]
    repeat (first | with_reducible rw [bnd_s] | with_reducible rw [nmd_s] | with_reducible rw [bn2_s] | with_reducible rw [grd_t] | ((conv => arg 1; arg 1; simp (disch := omega) only [dw_is, dw_f0, dw_t0, dw_f9, dw_t9, dw_f12, dw_t12, dw_f13, dw_t13, dw_f14, dw_t14, dw_f22, dw_t22, dw_f23, dw_t23, dw_f24, dw_t24, dw_f25, dw_t25, dw_f28, dw_t28, dw_f29, dw_t29, dw_f30, dw_t30, dw_f35, dw_t35, dw_f7, dw_t7, dw_f5, dw_t5, dw_f6, dw_t6, dw_f1, dw_f2, dw_f3, dw_f4, dw_f8, dw_f10, dw_f11, dw_f15, dw_f16, dw_f17, dw_f18, dw_f19, dw_f20, dw_f21, dw_f26, dw_f27, dw_f31, dw_f32, dw_f33, dw_f34, dw_a1, dw_w1, dw_a2, dw_w2, dw_a3, dw_w3, dw_a4, dw_w4, dw_a5, dw_w5, dw_a6, dw_w6, dw_a7, dw_w7, dw_a8, dw_w8, dw_a9_0, dw_s9_0, dw_a9_1, dw_s9_1, dw_a10, dw_w10, dw_a10_0, dw_w10_0, dw_a10_1, dw_w10_1, dw_a10_2, dw_w10_2, dw_a11, dw_w11, dw_a12, dw_w12, dw_a13, dw_w13, dw_a14, dw_w14, dw_a15, dw_w15, dw_a16, dw_w16, dw_a17, dw_w17, dw_a17_0, dw_w17_0, dw_a18, dw_w18, dw_a18_0, dw_w18_0, dw_a18_1, dw_w18_1, dw_a18_2, dw_w18_2, dw_a18_3, dw_w18_3, dw_a18_4, dw_w18_4, dw_a18_5, dw_w18_5, dw_a19, dw_w19, dw_a19_24, dw_w19_24, dw_a20, dw_w20, hs2, hz]); first | with_reducible rw [bnd_s] | with_reducible rw [bn2_s] | with_reducible rw [grd_t]))
    rw [if_pos (show nI n ≤ nI t from nI_le (by omega) (by omega)), dw_unl, M_unlike_64]
    repeat (first | with_reducible rw [bnd_s] | with_reducible rw [nmd_s] | with_reducible rw [bn2_s] | with_reducible rw [grd_t] | ((conv => arg 1; arg 1; simp (disch := omega) only [dw_is, dw_f0, dw_t0, dw_f9, dw_t9, dw_f12, dw_t12, dw_f13, dw_t13, dw_f14, dw_t14, dw_f22, dw_t22, dw_f23, dw_t23, dw_f24, dw_t24, dw_f25, dw_t25, dw_f28, dw_t28, dw_f29, dw_t29, dw_f30, dw_t30, dw_f35, dw_t35, dw_f7, dw_t7, dw_f5, dw_t5, dw_f6, dw_t6, dw_f1, dw_f2, dw_f3, dw_f4, dw_f8, dw_f10, dw_f11, dw_f15, dw_f16, dw_f17, dw_f18, dw_f19, dw_f20, dw_f21, dw_f26, dw_f27, dw_f31, dw_f32, dw_f33, dw_f34, dw_a1, dw_w1, dw_a2, dw_w2, dw_a3, dw_w3, dw_a4, dw_w4, dw_a5, dw_w5, dw_a6, dw_w6, dw_a7, dw_w7, dw_a8, dw_w8, dw_a9_0, dw_s9_0, dw_a9_1, dw_s9_1, dw_a10, dw_w10, dw_a10_0, dw_w10_0, dw_a10_1, dw_w10_1, dw_a10_2, dw_w10_2, dw_a11, dw_w11, dw_a12, dw_w12, dw_a13, dw_w13, dw_a14, dw_w14, dw_a15, dw_w15, dw_a16, dw_w16, dw_a17, dw_w17, dw_a17_0, dw_w17_0, dw_a18, dw_w18, dw_a18_0, dw_w18_0, dw_a18_1, dw_w18_1, dw_a18_2, dw_w18_2, dw_a18_3, dw_w18_3, dw_a18_4, dw_w18_4, dw_a18_5, dw_w18_5, dw_a19, dw_w19, dw_a19_24, dw_w19_24, dw_a20, dw_w20]); first | with_reducible rw [bnd_s] | with_reducible rw [bn2_s] | with_reducible rw [grd_t]))
    exact dw_Mlayd e hk _
  | succ k ih =>
    intro t R2 G2 S N ht h
    rw [show f + (k + 1) + 1 = f + k + 1 + 1 by omega, M_unlike_9]
    repeat (first | with_reducible rw [bnd_s] | with_reducible rw [nmd_s] | with_reducible rw [bn2_s] | with_reducible rw [grd_t] | ((conv => arg 1; arg 1; simp (disch := omega) only [dw_is, dw_f0, dw_t0, dw_f9, dw_t9, dw_f12, dw_t12, dw_f13, dw_t13, dw_f14, dw_t14, dw_f22, dw_t22, dw_f23, dw_t23, dw_f24, dw_t24, dw_f25, dw_t25, dw_f28, dw_t28, dw_f29, dw_t29, dw_f30, dw_t30, dw_f35, dw_t35, dw_f7, dw_t7, dw_f5, dw_t5, dw_f6, dw_t6, dw_f1, dw_f2, dw_f3, dw_f4, dw_f8, dw_f10, dw_f11, dw_f15, dw_f16, dw_f17, dw_f18, dw_f19, dw_f20, dw_f21, dw_f26, dw_f27, dw_f31, dw_f32, dw_f33, dw_f34, dw_a1, dw_w1, dw_a2, dw_w2, dw_a3, dw_w3, dw_a4, dw_w4, dw_a5, dw_w5, dw_a6, dw_w6, dw_a7, dw_w7, dw_a8, dw_w8, dw_a9_0, dw_s9_0, dw_a9_1, dw_s9_1, dw_a10, dw_w10, dw_a10_0, dw_w10_0, dw_a10_1, dw_w10_1, dw_a10_2, dw_w10_2, dw_a11, dw_w11, dw_a12, dw_w12, dw_a13, dw_w13, dw_a14, dw_w14, dw_a15, dw_w15, dw_a16, dw_w16, dw_a17, dw_w17, dw_a17_0, dw_w17_0, dw_a18, dw_w18, dw_a18_0, dw_w18_0, dw_a18_1, dw_w18_1, dw_a18_2, dw_w18_2, dw_a18_3, dw_w18_3, dw_a18_4, dw_w18_4, dw_a18_5, dw_w18_5, dw_a19, dw_w19, dw_a19_24, dw_w19_24, dw_a20, dw_w20, hs2, hz]); first | with_reducible rw [bnd_s] | with_reducible rw [bn2_s] | with_reducible rw [grd_t]))
    rw [if_neg (show ¬ nI n ≤ nI t from nI_ge (by omega) (by omega)), if_pos rfl]
    obtain ⟨R3, G3, S3, N3, e3, h3⟩ := dw_Ayear (S := S) (N := N) h (by omega)
    repeat (first | with_reducible rw [bnd_s] | with_reducible rw [nmd_s] | with_reducible rw [bn2_s] | with_reducible rw [grd_t] | ((conv => arg 1; arg 1; simp (disch := omega) only [dw_is, dw_f0, dw_t0, dw_f9, dw_t9, dw_f12, dw_t12, dw_f13, dw_t13, dw_f14, dw_t14, dw_f22, dw_t22, dw_f23, dw_t23, dw_f24, dw_t24, dw_f25, dw_t25, dw_f28, dw_t28, dw_f29, dw_t29, dw_f30, dw_t30, dw_f35, dw_t35, dw_f7, dw_t7, dw_f5, dw_t5, dw_f6, dw_t6, dw_f1, dw_f2, dw_f3, dw_f4, dw_f8, dw_f10, dw_f11, dw_f15, dw_f16, dw_f17, dw_f18, dw_f19, dw_f20, dw_f21, dw_f26, dw_f27, dw_f31, dw_f32, dw_f33, dw_f34, dw_a1, dw_w1, dw_a2, dw_w2, dw_a3, dw_w3, dw_a4, dw_w4, dw_a5, dw_w5, dw_a6, dw_w6, dw_a7, dw_w7, dw_a8, dw_w8, dw_a9_0, dw_s9_0, dw_a9_1, dw_s9_1, dw_a10, dw_w10, dw_a10_0, dw_w10_0, dw_a10_1, dw_w10_1, dw_a10_2, dw_w10_2, dw_a11, dw_w11, dw_a12, dw_w12, dw_a13, dw_w13, dw_a14, dw_w14, dw_a15, dw_w15, dw_a16, dw_w16, dw_a17, dw_w17, dw_a17_0, dw_w17_0, dw_a18, dw_w18, dw_a18_0, dw_w18_0, dw_a18_1, dw_w18_1, dw_a18_2, dw_w18_2, dw_a18_3, dw_w18_3, dw_a18_4, dw_w18_4, dw_a18_5, dw_w18_5, dw_a19, dw_w19, dw_a19_24, dw_w19_24, dw_a20, dw_w20, e3, dw_40, nI_add, hs3 t (by omega), dw_AofD0 h3 hd]); first | with_reducible rw [bnd_s] | with_reducible rw [bn2_s] | with_reducible rw [grd_t]))
    rw [dw_unl]
    by_cases c : H.2.2 q t = dw_fg (dw_T w (dw_gJ X1 6) s yy (t + 1)) d 3
    · rw [if_pos c, if_pos c, M_unlike_57, nmd_s, nI_1]
      exact ih (t + 1) _ _ _ _ (by omega) h3
    · rw [if_neg c, if_neg c, M_unlike_57, nmd_s, nI_1, M_unlike_9]
      repeat (first | with_reducible rw [bnd_s] | with_reducible rw [nmd_s] | with_reducible rw [bn2_s] | with_reducible rw [grd_t] | ((conv => arg 1; arg 1; simp (disch := omega) only [dw_is, dw_f0, dw_t0, dw_f9, dw_t9, dw_f12, dw_t12, dw_f13, dw_t13, dw_f14, dw_t14, dw_f22, dw_t22, dw_f23, dw_t23, dw_f24, dw_t24, dw_f25, dw_t25, dw_f28, dw_t28, dw_f29, dw_t29, dw_f30, dw_t30, dw_f35, dw_t35, dw_f7, dw_t7, dw_f5, dw_t5, dw_f6, dw_t6, dw_f1, dw_f2, dw_f3, dw_f4, dw_f8, dw_f10, dw_f11, dw_f15, dw_f16, dw_f17, dw_f18, dw_f19, dw_f20, dw_f21, dw_f26, dw_f27, dw_f31, dw_f32, dw_f33, dw_f34, dw_a1, dw_w1, dw_a2, dw_w2, dw_a3, dw_w3, dw_a4, dw_w4, dw_a5, dw_w5, dw_a6, dw_w6, dw_a7, dw_w7, dw_a8, dw_w8, dw_a9_0, dw_s9_0, dw_a9_1, dw_s9_1, dw_a10, dw_w10, dw_a10_0, dw_w10_0, dw_a10_1, dw_w10_1, dw_a10_2, dw_w10_2, dw_a11, dw_w11, dw_a12, dw_w12, dw_a13, dw_w13, dw_a14, dw_w14, dw_a15, dw_w15, dw_a16, dw_w16, dw_a17, dw_w17, dw_a17_0, dw_w17_0, dw_a18, dw_w18, dw_a18_0, dw_w18_0, dw_a18_1, dw_w18_1, dw_a18_2, dw_w18_2, dw_a18_3, dw_w18_3, dw_a18_4, dw_w18_4, dw_a18_5, dw_w18_5, dw_a19, dw_w19, dw_a19_24, dw_w19_24, dw_a20, dw_w20, hs2, hz]); first | with_reducible rw [bnd_s] | with_reducible rw [bn2_s] | with_reducible rw [grd_t]))
      by_cases c3 : nI n ≤ nI (t + 1)
      · rw [if_pos c3, M_unlike_64]
        repeat (first | with_reducible rw [bnd_s] | with_reducible rw [nmd_s] | with_reducible rw [bn2_s] | with_reducible rw [grd_t] | ((conv => arg 1; arg 1; simp (disch := omega) only [dw_is, dw_f0, dw_t0, dw_f9, dw_t9, dw_f12, dw_t12, dw_f13, dw_t13, dw_f14, dw_t14, dw_f22, dw_t22, dw_f23, dw_t23, dw_f24, dw_t24, dw_f25, dw_t25, dw_f28, dw_t28, dw_f29, dw_t29, dw_f30, dw_t30, dw_f35, dw_t35, dw_f7, dw_t7, dw_f5, dw_t5, dw_f6, dw_t6, dw_f1, dw_f2, dw_f3, dw_f4, dw_f8, dw_f10, dw_f11, dw_f15, dw_f16, dw_f17, dw_f18, dw_f19, dw_f20, dw_f21, dw_f26, dw_f27, dw_f31, dw_f32, dw_f33, dw_f34, dw_a1, dw_w1, dw_a2, dw_w2, dw_a3, dw_w3, dw_a4, dw_w4, dw_a5, dw_w5, dw_a6, dw_w6, dw_a7, dw_w7, dw_a8, dw_w8, dw_a9_0, dw_s9_0, dw_a9_1, dw_s9_1, dw_a10, dw_w10, dw_a10_0, dw_w10_0, dw_a10_1, dw_w10_1, dw_a10_2, dw_w10_2, dw_a11, dw_w11, dw_a12, dw_w12, dw_a13, dw_w13, dw_a14, dw_w14, dw_a15, dw_w15, dw_a16, dw_w16, dw_a17, dw_w17, dw_a17_0, dw_w17_0, dw_a18, dw_w18, dw_a18_0, dw_w18_0, dw_a18_1, dw_w18_1, dw_a18_2, dw_w18_2, dw_a18_3, dw_w18_3, dw_a18_4, dw_w18_4, dw_a18_5, dw_w18_5, dw_a19, dw_w19, dw_a19_24, dw_w19_24, dw_a20, dw_w20]); first | with_reducible rw [bnd_s] | with_reducible rw [bn2_s] | with_reducible rw [grd_t]))
        exact dw_Mlayd e hk _
      · rw [if_neg c3, if_neg (dw_nem1 (by omega)), M_unlike_64]
        repeat (first | with_reducible rw [bnd_s] | with_reducible rw [nmd_s] | with_reducible rw [bn2_s] | with_reducible rw [grd_t] | ((conv => arg 1; arg 1; simp (disch := omega) only [dw_is, dw_f0, dw_t0, dw_f9, dw_t9, dw_f12, dw_t12, dw_f13, dw_t13, dw_f14, dw_t14, dw_f22, dw_t22, dw_f23, dw_t23, dw_f24, dw_t24, dw_f25, dw_t25, dw_f28, dw_t28, dw_f29, dw_t29, dw_f30, dw_t30, dw_f35, dw_t35, dw_f7, dw_t7, dw_f5, dw_t5, dw_f6, dw_t6, dw_f1, dw_f2, dw_f3, dw_f4, dw_f8, dw_f10, dw_f11, dw_f15, dw_f16, dw_f17, dw_f18, dw_f19, dw_f20, dw_f21, dw_f26, dw_f27, dw_f31, dw_f32, dw_f33, dw_f34, dw_a1, dw_w1, dw_a2, dw_w2, dw_a3, dw_w3, dw_a4, dw_w4, dw_a5, dw_w5, dw_a6, dw_w6, dw_a7, dw_w7, dw_a8, dw_w8, dw_a9_0, dw_s9_0, dw_a9_1, dw_s9_1, dw_a10, dw_w10, dw_a10_0, dw_w10_0, dw_a10_1, dw_w10_1, dw_a10_2, dw_w10_2, dw_a11, dw_w11, dw_a12, dw_w12, dw_a13, dw_w13, dw_a14, dw_w14, dw_a15, dw_w15, dw_a16, dw_w16, dw_a17, dw_w17, dw_a17_0, dw_w17_0, dw_a18, dw_w18, dw_a18_0, dw_w18_0, dw_a18_1, dw_w18_1, dw_a18_2, dw_w18_2, dw_a18_3, dw_w18_3, dw_a18_4, dw_w18_4, dw_a18_5, dw_w18_5, dw_a19, dw_w19, dw_a19_24, dw_w19_24, dw_a20, dw_w20]); first | with_reducible rw [bnd_s] | with_reducible rw [bn2_s] | with_reducible rw [grd_t]))
        exact dw_Mlayd e hk _
theorem dw_Munlike (h : dw_TH X R G r m w s yy) (hs : dw_SH X H) (hok : dw_Hok H) {q d : Nat} (hq : q < 4) (hd : d < m) : dw_Bk (M_unlike (dw_mk X R G S N (nI yy)) 0 (nI q) (nI d)) X R G (nI yy) (dw_qU w (dw_gJ X 6) s yy H (nI q) d) := by
  obtain ⟨n, hn, hz⟩ := (hok q hq).2
  rw [M_unlike, dw_qU, dw_N_nI (by omega), hz, dw_N_nI (by omega), dw_U]
  obtain ⟨X1, e1, e2, e3⟩ := dw_Mkeeps (X := X) (R := R) (G := G) (S := S) (N := N) (y := nI yy)
  repeat (first | with_reducible rw [bnd_s] | with_reducible rw [nmd_s] | with_reducible rw [bn2_s] | with_reducible rw [grd_t] | ((conv => arg 1; arg 1; simp (disch := omega) only [dw_is, dw_f0, dw_t0, dw_f9, dw_t9, dw_f12, dw_t12, dw_f13, dw_t13, dw_f14, dw_t14, dw_f22, dw_t22, dw_f23, dw_t23, dw_f24, dw_t24, dw_f25, dw_t25, dw_f28, dw_t28, dw_f29, dw_t29, dw_f30, dw_t30, dw_f35, dw_t35, dw_f7, dw_t7, dw_f5, dw_t5, dw_f6, dw_t6, dw_f1, dw_f2, dw_f3, dw_f4, dw_f8, dw_f10, dw_f11, dw_f15, dw_f16, dw_f17, dw_f18, dw_f19, dw_f20, dw_f21, dw_f26, dw_f27, dw_f31, dw_f32, dw_f33, dw_f34, dw_a1, dw_w1, dw_a2, dw_w2, dw_a3, dw_w3, dw_a4, dw_w4, dw_a5, dw_w5, dw_a6, dw_w6, dw_a7, dw_w7, dw_a8, dw_w8, dw_a9_0, dw_s9_0, dw_a9_1, dw_s9_1, dw_a10, dw_w10, dw_a10_0, dw_w10_0, dw_a10_1, dw_w10_1, dw_a10_2, dw_w10_2, dw_a11, dw_w11, dw_a12, dw_w12, dw_a13, dw_w13, dw_a14, dw_w14, dw_a15, dw_w15, dw_a16, dw_w16, dw_a17, dw_w17, dw_a17_0, dw_w17_0, dw_a18, dw_w18, dw_a18_0, dw_w18_0, dw_a18_1, dw_w18_1, dw_a18_2, dw_w18_2, dw_a18_3, dw_w18_3, dw_a18_4, dw_w18_4, dw_a18_5, dw_w18_5, dw_a19, dw_w19, dw_a19_24, dw_w19_24, dw_a20, dw_w20, e1]); first | with_reducible rw [bnd_s] | with_reducible rw [bn2_s] | with_reducible rw [grd_t]))
  have h2 := dw_Munlike9 e2 e3 (dw_SH_Eq hs e2) hq hd hz hn (999 - n) n 0 R G S N (by omega) (dw_At0 (dw_TH_Eq h e2 (fun _ _ => rfl) (fun _ _ => rfl)))
  rw [e2.2.1 6, show 999 - n + n + 1 = 1000 by omega] at h2
  exact h2
theorem dw_Msw (hs : dw_SH X H) (a : Int32) : M_sheetWrong (dw_mk X R G S N y) 0 a = some (dw_mk X R G S N y, dw_sw H a) := by
  rw [M_sheetWrong, dw_sw]
  repeat (first | with_reducible rw [bnd_s] | with_reducible rw [nmd_s] | with_reducible rw [bn2_s] | with_reducible rw [grd_t] | ((conv => arg 1; arg 1; simp (disch := omega) only [dw_is, dw_f0, dw_t0, dw_f9, dw_t9, dw_f12, dw_t12, dw_f13, dw_t13, dw_f14, dw_t14, dw_f22, dw_t22, dw_f23, dw_t23, dw_f24, dw_t24, dw_f25, dw_t25, dw_f28, dw_t28, dw_f29, dw_t29, dw_f30, dw_t30, dw_f35, dw_t35, dw_f7, dw_t7, dw_f5, dw_t5, dw_f6, dw_t6, dw_f1, dw_f2, dw_f3, dw_f4, dw_f8, dw_f10, dw_f11, dw_f15, dw_f16, dw_f17, dw_f18, dw_f19, dw_f20, dw_f21, dw_f26, dw_f27, dw_f31, dw_f32, dw_f33, dw_f34, dw_a1, dw_w1, dw_a2, dw_w2, dw_a3, dw_w3, dw_a4, dw_w4, dw_a5, dw_w5, dw_a6, dw_w6, dw_a7, dw_w7, dw_a8, dw_w8, dw_a9_0, dw_s9_0, dw_a9_1, dw_s9_1, dw_a10, dw_w10, dw_a10_0, dw_w10_0, dw_a10_1, dw_w10_1, dw_a10_2, dw_w10_2, dw_a11, dw_w11, dw_a12, dw_w12, dw_a13, dw_w13, dw_a14, dw_w14, dw_a15, dw_w15, dw_a16, dw_w16, dw_a17, dw_w17, dw_a17_0, dw_w17_0, dw_a18, dw_w18, dw_a18_0, dw_w18_0, dw_a18_1, dw_w18_1, dw_a18_2, dw_w18_2, dw_a18_3, dw_w18_3, dw_a18_4, dw_w18_4, dw_a18_5, dw_w18_5, dw_a19, dw_w19, dw_a19_24, dw_w19_24, dw_a20, dw_w20, dw_Min]); first | with_reducible rw [bnd_s] | with_reducible rw [bn2_s] | with_reducible rw [grd_t]))
  by_cases c : dw_in a 0 3 = 0
  · rw [if_pos c, if_pos c]
  rw [if_neg c, if_neg c]
  obtain ⟨q, hq, rfl⟩ := dw_in_of (n := 3) rfl c
  obtain ⟨hs1, hs2, hs3⟩ := hs q (by omega)
  rw [dw_N_nI (by omega)]
  repeat (first | with_reducible rw [bnd_s] | with_reducible rw [nmd_s] | with_reducible rw [bn2_s] | with_reducible rw [grd_t] | ((conv => arg 1; arg 1; simp (disch := omega) only [dw_is, dw_f0, dw_t0, dw_f9, dw_t9, dw_f12, dw_t12, dw_f13, dw_t13, dw_f14, dw_t14, dw_f22, dw_t22, dw_f23, dw_t23, dw_f24, dw_t24, dw_f25, dw_t25, dw_f28, dw_t28, dw_f29, dw_t29, dw_f30, dw_t30, dw_f35, dw_t35, dw_f7, dw_t7, dw_f5, dw_t5, dw_f6, dw_t6, dw_f1, dw_f2, dw_f3, dw_f4, dw_f8, dw_f10, dw_f11, dw_f15, dw_f16, dw_f17, dw_f18, dw_f19, dw_f20, dw_f21, dw_f26, dw_f27, dw_f31, dw_f32, dw_f33, dw_f34, dw_a1, dw_w1, dw_a2, dw_w2, dw_a3, dw_w3, dw_a4, dw_w4, dw_a5, dw_w5, dw_a6, dw_w6, dw_a7, dw_w7, dw_a8, dw_w8, dw_a9_0, dw_s9_0, dw_a9_1, dw_s9_1, dw_a10, dw_w10, dw_a10_0, dw_w10_0, dw_a10_1, dw_w10_1, dw_a10_2, dw_w10_2, dw_a11, dw_w11, dw_a12, dw_w12, dw_a13, dw_w13, dw_a14, dw_w14, dw_a15, dw_w15, dw_a16, dw_w16, dw_a17, dw_w17, dw_a17_0, dw_w17_0, dw_a18, dw_w18, dw_a18_0, dw_w18_0, dw_a18_1, dw_w18_1, dw_a18_2, dw_w18_2, dw_a18_3, dw_w18_3, dw_a18_4, dw_w18_4, dw_a18_5, dw_w18_5, dw_a19, dw_w19, dw_a19_24, dw_w19_24, dw_a20, dw_w20, hs1]); first | with_reducible rw [bnd_s] | with_reducible rw [bn2_s] | with_reducible rw [grd_t]))
  by_cases c2 : H.1 q = -1
  · rw [if_pos c2, if_pos c2]
  rw [if_neg c2, if_neg c2]
  repeat (first | with_reducible rw [bnd_s] | with_reducible rw [nmd_s] | with_reducible rw [bn2_s] | with_reducible rw [grd_t] | ((conv => arg 1; arg 1; simp (disch := omega) only [dw_is, dw_f0, dw_t0, dw_f9, dw_t9, dw_f12, dw_t12, dw_f13, dw_t13, dw_f14, dw_t14, dw_f22, dw_t22, dw_f23, dw_t23, dw_f24, dw_t24, dw_f25, dw_t25, dw_f28, dw_t28, dw_f29, dw_t29, dw_f30, dw_t30, dw_f35, dw_t35, dw_f7, dw_t7, dw_f5, dw_t5, dw_f6, dw_t6, dw_f1, dw_f2, dw_f3, dw_f4, dw_f8, dw_f10, dw_f11, dw_f15, dw_f16, dw_f17, dw_f18, dw_f19, dw_f20, dw_f21, dw_f26, dw_f27, dw_f31, dw_f32, dw_f33, dw_f34, dw_a1, dw_w1, dw_a2, dw_w2, dw_a3, dw_w3, dw_a4, dw_w4, dw_a5, dw_w5, dw_a6, dw_w6, dw_a7, dw_w7, dw_a8, dw_w8, dw_a9_0, dw_s9_0, dw_a9_1, dw_s9_1, dw_a10, dw_w10, dw_a10_0, dw_w10_0, dw_a10_1, dw_w10_1, dw_a10_2, dw_w10_2, dw_a11, dw_w11, dw_a12, dw_w12, dw_a13, dw_w13, dw_a14, dw_w14, dw_a15, dw_w15, dw_a16, dw_w16, dw_a17, dw_w17, dw_a17_0, dw_w17_0, dw_a18, dw_w18, dw_a18_0, dw_w18_0, dw_a18_1, dw_w18_1, dw_a18_2, dw_w18_2, dw_a18_3, dw_w18_3, dw_a18_4, dw_w18_4, dw_a18_5, dw_w18_5, dw_a19, dw_w19, dw_a19_24, dw_w19_24, dw_a20, dw_w20, hs2]); first | with_reducible rw [bnd_s] | with_reducible rw [bn2_s] | with_reducible rw [grd_t]))
  by_cases c3 : H.2.1 q ≤ 20
  · rw [if_pos c3, if_pos c3]
  · rw [if_neg c3, if_neg c3]
theorem dw_Mtw (h : dw_TH X R G r m w s yy) (hs : dw_SH X H) (a d : Int32) : M_toldWrong (dw_mk X R G S N y) 0 a d = some (dw_mk X R G S N y, dw_tw H s a d) ∧ (dw_tw H s a d = 0 → ∃ q j, q < 4 ∧ j < m ∧ a = nI q ∧ d = nI j ∧ s j 6 = 0) := by
  rw [M_toldWrong, dw_tw]
  have hm6 := h.1.2.2.2.2
  have hw : dw_sw H a = 0 → ∃ q : Nat, q < 4 ∧ a = nI q := by
    intro q0
    unfold dw_sw at q0
    by_cases c : dw_in a 0 3 = 0
    · rw [if_pos c] at q0
      exact absurd q0 (by decide)
    · obtain ⟨q, hq, rfl⟩ := dw_in_of (n := 3) rfl c
      exact ⟨q, by omega, rfl⟩
  by_cases c : dw_sw H a = 0
  · rw [if_pos c]
    rcases dw_AisD (S := S) (N := N) (y := y) (a := d) h.1 h.2.2.1 h.2.2.2.2.2 with ⟨e1, e2⟩ | ⟨j, h1, h2, h3, e1, e2⟩
    · rw [e1]
      refine ⟨?_, fun q => absurd q (by decide)⟩
      repeat (first | with_reducible rw [bnd_s] | with_reducible rw [nmd_s] | with_reducible rw [bn2_s] | with_reducible rw [grd_t] | ((conv => arg 1; arg 1; simp (disch := omega) only [dw_is, dw_f0, dw_t0, dw_f9, dw_t9, dw_f12, dw_t12, dw_f13, dw_t13, dw_f14, dw_t14, dw_f22, dw_t22, dw_f23, dw_t23, dw_f24, dw_t24, dw_f25, dw_t25, dw_f28, dw_t28, dw_f29, dw_t29, dw_f30, dw_t30, dw_f35, dw_t35, dw_f7, dw_t7, dw_f5, dw_t5, dw_f6, dw_t6, dw_f1, dw_f2, dw_f3, dw_f4, dw_f8, dw_f10, dw_f11, dw_f15, dw_f16, dw_f17, dw_f18, dw_f19, dw_f20, dw_f21, dw_f26, dw_f27, dw_f31, dw_f32, dw_f33, dw_f34, dw_a1, dw_w1, dw_a2, dw_w2, dw_a3, dw_w3, dw_a4, dw_w4, dw_a5, dw_w5, dw_a6, dw_w6, dw_a7, dw_w7, dw_a8, dw_w8, dw_a9_0, dw_s9_0, dw_a9_1, dw_s9_1, dw_a10, dw_w10, dw_a10_0, dw_w10_0, dw_a10_1, dw_w10_1, dw_a10_2, dw_w10_2, dw_a11, dw_w11, dw_a12, dw_w12, dw_a13, dw_w13, dw_a14, dw_w14, dw_a15, dw_w15, dw_a16, dw_w16, dw_a17, dw_w17, dw_a17_0, dw_w17_0, dw_a18, dw_w18, dw_a18_0, dw_w18_0, dw_a18_1, dw_w18_1, dw_a18_2, dw_w18_2, dw_a18_3, dw_w18_3, dw_a18_4, dw_w18_4, dw_a18_5, dw_w18_5, dw_a19, dw_w19, dw_a19_24, dw_w19_24, dw_a20, dw_w20, dw_Msw hs]); first | with_reducible rw [bnd_s] | with_reducible rw [bn2_s] | with_reducible rw [grd_t]))
      rw [if_pos c]
      repeat (first | with_reducible rw [bnd_s] | with_reducible rw [nmd_s] | with_reducible rw [bn2_s] | with_reducible rw [grd_t] | ((conv => arg 1; arg 1; simp (disch := omega) only [dw_is, dw_f0, dw_t0, dw_f9, dw_t9, dw_f12, dw_t12, dw_f13, dw_t13, dw_f14, dw_t14, dw_f22, dw_t22, dw_f23, dw_t23, dw_f24, dw_t24, dw_f25, dw_t25, dw_f28, dw_t28, dw_f29, dw_t29, dw_f30, dw_t30, dw_f35, dw_t35, dw_f7, dw_t7, dw_f5, dw_t5, dw_f6, dw_t6, dw_f1, dw_f2, dw_f3, dw_f4, dw_f8, dw_f10, dw_f11, dw_f15, dw_f16, dw_f17, dw_f18, dw_f19, dw_f20, dw_f21, dw_f26, dw_f27, dw_f31, dw_f32, dw_f33, dw_f34, dw_a1, dw_w1, dw_a2, dw_w2, dw_a3, dw_w3, dw_a4, dw_w4, dw_a5, dw_w5, dw_a6, dw_w6, dw_a7, dw_w7, dw_a8, dw_w8, dw_a9_0, dw_s9_0, dw_a9_1, dw_s9_1, dw_a10, dw_w10, dw_a10_0, dw_w10_0, dw_a10_1, dw_w10_1, dw_a10_2, dw_w10_2, dw_a11, dw_w11, dw_a12, dw_w12, dw_a13, dw_w13, dw_a14, dw_w14, dw_a15, dw_w15, dw_a16, dw_w16, dw_a17, dw_w17, dw_a17_0, dw_w17_0, dw_a18, dw_w18, dw_a18_0, dw_w18_0, dw_a18_1, dw_w18_1, dw_a18_2, dw_w18_2, dw_a18_3, dw_w18_3, dw_a18_4, dw_w18_4, dw_a18_5, dw_w18_5, dw_a19, dw_w19, dw_a19_24, dw_w19_24, dw_a20, dw_w20, e2]); first | with_reducible rw [bnd_s] | with_reducible rw [bn2_s] | with_reducible rw [grd_t]))
      rw [if_pos rfl]
    · rw [e1]
      obtain ⟨q, hq, ha⟩ := hw c
      refine ⟨?_, fun _ => ⟨q, j, hq, h1, ha, h2, h3⟩⟩
      repeat (first | with_reducible rw [bnd_s] | with_reducible rw [nmd_s] | with_reducible rw [bn2_s] | with_reducible rw [grd_t] | ((conv => arg 1; arg 1; simp (disch := omega) only [dw_is, dw_f0, dw_t0, dw_f9, dw_t9, dw_f12, dw_t12, dw_f13, dw_t13, dw_f14, dw_t14, dw_f22, dw_t22, dw_f23, dw_t23, dw_f24, dw_t24, dw_f25, dw_t25, dw_f28, dw_t28, dw_f29, dw_t29, dw_f30, dw_t30, dw_f35, dw_t35, dw_f7, dw_t7, dw_f5, dw_t5, dw_f6, dw_t6, dw_f1, dw_f2, dw_f3, dw_f4, dw_f8, dw_f10, dw_f11, dw_f15, dw_f16, dw_f17, dw_f18, dw_f19, dw_f20, dw_f21, dw_f26, dw_f27, dw_f31, dw_f32, dw_f33, dw_f34, dw_a1, dw_w1, dw_a2, dw_w2, dw_a3, dw_w3, dw_a4, dw_w4, dw_a5, dw_w5, dw_a6, dw_w6, dw_a7, dw_w7, dw_a8, dw_w8, dw_a9_0, dw_s9_0, dw_a9_1, dw_s9_1, dw_a10, dw_w10, dw_a10_0, dw_w10_0, dw_a10_1, dw_w10_1, dw_a10_2, dw_w10_2, dw_a11, dw_w11, dw_a12, dw_w12, dw_a13, dw_w13, dw_a14, dw_w14, dw_a15, dw_w15, dw_a16, dw_w16, dw_a17, dw_w17, dw_a17_0, dw_w17_0, dw_a18, dw_w18, dw_a18_0, dw_w18_0, dw_a18_1, dw_w18_1, dw_a18_2, dw_w18_2, dw_a18_3, dw_w18_3, dw_a18_4, dw_w18_4, dw_a18_5, dw_w18_5, dw_a19, dw_w19, dw_a19_24, dw_w19_24, dw_a20, dw_w20, dw_Msw hs]); first | with_reducible rw [bnd_s] | with_reducible rw [bn2_s] | with_reducible rw [grd_t]))
      rw [if_pos c]
      repeat (first | with_reducible rw [bnd_s] | with_reducible rw [nmd_s] | with_reducible rw [bn2_s] | with_reducible rw [grd_t] | ((conv => arg 1; arg 1; simp (disch := omega) only [dw_is, dw_f0, dw_t0, dw_f9, dw_t9, dw_f12, dw_t12, dw_f13, dw_t13, dw_f14, dw_t14, dw_f22, dw_t22, dw_f23, dw_t23, dw_f24, dw_t24, dw_f25, dw_t25, dw_f28, dw_t28, dw_f29, dw_t29, dw_f30, dw_t30, dw_f35, dw_t35, dw_f7, dw_t7, dw_f5, dw_t5, dw_f6, dw_t6, dw_f1, dw_f2, dw_f3, dw_f4, dw_f8, dw_f10, dw_f11, dw_f15, dw_f16, dw_f17, dw_f18, dw_f19, dw_f20, dw_f21, dw_f26, dw_f27, dw_f31, dw_f32, dw_f33, dw_f34, dw_a1, dw_w1, dw_a2, dw_w2, dw_a3, dw_w3, dw_a4, dw_w4, dw_a5, dw_w5, dw_a6, dw_w6, dw_a7, dw_w7, dw_a8, dw_w8, dw_a9_0, dw_s9_0, dw_a9_1, dw_s9_1, dw_a10, dw_w10, dw_a10_0, dw_w10_0, dw_a10_1, dw_w10_1, dw_a10_2, dw_w10_2, dw_a11, dw_w11, dw_a12, dw_w12, dw_a13, dw_w13, dw_a14, dw_w14, dw_a15, dw_w15, dw_a16, dw_w16, dw_a17, dw_w17, dw_a17_0, dw_w17_0, dw_a18, dw_w18, dw_a18_0, dw_w18_0, dw_a18_1, dw_w18_1, dw_a18_2, dw_w18_2, dw_a18_3, dw_w18_3, dw_a18_4, dw_w18_4, dw_a18_5, dw_w18_5, dw_a19, dw_w19, dw_a19_24, dw_w19_24, dw_a20, dw_w20, e2]); first | with_reducible rw [bnd_s] | with_reducible rw [bn2_s] | with_reducible rw [grd_t]))
      rw [if_neg (by decide)]
  · rw [if_neg c]
    refine ⟨?_, fun q => absurd q c⟩
    repeat (first | with_reducible rw [bnd_s] | with_reducible rw [nmd_s] | with_reducible rw [bn2_s] | with_reducible rw [grd_t] | ((conv => arg 1; arg 1; simp (disch := omega) only [dw_is, dw_f0, dw_t0, dw_f9, dw_t9, dw_f12, dw_t12, dw_f13, dw_t13, dw_f14, dw_t14, dw_f22, dw_t22, dw_f23, dw_t23, dw_f24, dw_t24, dw_f25, dw_t25, dw_f28, dw_t28, dw_f29, dw_t29, dw_f30, dw_t30, dw_f35, dw_t35, dw_f7, dw_t7, dw_f5, dw_t5, dw_f6, dw_t6, dw_f1, dw_f2, dw_f3, dw_f4, dw_f8, dw_f10, dw_f11, dw_f15, dw_f16, dw_f17, dw_f18, dw_f19, dw_f20, dw_f21, dw_f26, dw_f27, dw_f31, dw_f32, dw_f33, dw_f34, dw_a1, dw_w1, dw_a2, dw_w2, dw_a3, dw_w3, dw_a4, dw_w4, dw_a5, dw_w5, dw_a6, dw_w6, dw_a7, dw_w7, dw_a8, dw_w8, dw_a9_0, dw_s9_0, dw_a9_1, dw_s9_1, dw_a10, dw_w10, dw_a10_0, dw_w10_0, dw_a10_1, dw_w10_1, dw_a10_2, dw_w10_2, dw_a11, dw_w11, dw_a12, dw_w12, dw_a13, dw_w13, dw_a14, dw_w14, dw_a15, dw_w15, dw_a16, dw_w16, dw_a17, dw_w17, dw_a17_0, dw_w17_0, dw_a18, dw_w18, dw_a18_0, dw_w18_0, dw_a18_1, dw_w18_1, dw_a18_2, dw_w18_2, dw_a18_3, dw_w18_3, dw_a18_4, dw_w18_4, dw_a18_5, dw_w18_5, dw_a19, dw_w19, dw_a19_24, dw_w19_24, dw_a20, dw_w20, dw_Msw hs]); first | with_reducible rw [bnd_s] | with_reducible rw [bn2_s] | with_reducible rw [grd_t]))
    rw [if_neg c]
theorem dw_Mjudge (h : dw_TH X R G r m w s yy) (hs : dw_SH X H) (hok : dw_Hok H) (a d : Int32) : dw_Bk (M_judge (dw_mk X R G S N (nI yy)) 0 a d) X R G (nI yy) (dw_qjudge w (dw_gJ X 6) s yy H a d) := by
  obtain ⟨e1, e2⟩ := dw_Mtw (S := S) (N := N) (y := nI yy) h hs a d
  have hm6 := h.1.2.2.2.2
  rw [M_judge, dw_qjudge]
  repeat (first | with_reducible rw [bnd_s] | with_reducible rw [nmd_s] | with_reducible rw [bn2_s] | with_reducible rw [grd_t] | ((conv => arg 1; arg 1; simp (disch := omega) only [dw_is, dw_f0, dw_t0, dw_f9, dw_t9, dw_f12, dw_t12, dw_f13, dw_t13, dw_f14, dw_t14, dw_f22, dw_t22, dw_f23, dw_t23, dw_f24, dw_t24, dw_f25, dw_t25, dw_f28, dw_t28, dw_f29, dw_t29, dw_f30, dw_t30, dw_f35, dw_t35, dw_f7, dw_t7, dw_f5, dw_t5, dw_f6, dw_t6, dw_f1, dw_f2, dw_f3, dw_f4, dw_f8, dw_f10, dw_f11, dw_f15, dw_f16, dw_f17, dw_f18, dw_f19, dw_f20, dw_f21, dw_f26, dw_f27, dw_f31, dw_f32, dw_f33, dw_f34, dw_a1, dw_w1, dw_a2, dw_w2, dw_a3, dw_w3, dw_a4, dw_w4, dw_a5, dw_w5, dw_a6, dw_w6, dw_a7, dw_w7, dw_a8, dw_w8, dw_a9_0, dw_s9_0, dw_a9_1, dw_s9_1, dw_a10, dw_w10, dw_a10_0, dw_w10_0, dw_a10_1, dw_w10_1, dw_a10_2, dw_w10_2, dw_a11, dw_w11, dw_a12, dw_w12, dw_a13, dw_w13, dw_a14, dw_w14, dw_a15, dw_w15, dw_a16, dw_w16, dw_a17, dw_w17, dw_a17_0, dw_w17_0, dw_a18, dw_w18, dw_a18_0, dw_w18_0, dw_a18_1, dw_w18_1, dw_a18_2, dw_w18_2, dw_a18_3, dw_w18_3, dw_a18_4, dw_w18_4, dw_a18_5, dw_w18_5, dw_a19, dw_w19, dw_a19_24, dw_w19_24, dw_a20, dw_w20, e1]); first | with_reducible rw [bnd_s] | with_reducible rw [bn2_s] | with_reducible rw [grd_t]))
  by_cases c : dw_tw H s a d = 0
  · rw [if_pos c, if_pos c]
    obtain ⟨q, j, hq, hj, rfl, rfl, h6⟩ := e2 c
    obtain ⟨X3, R3, G3, S3, N3, e3, q1, q2, q3⟩ := dw_Munlike (S := S) (N := N) h hs hok hq hj
    repeat (first | with_reducible rw [bnd_s] | with_reducible rw [nmd_s] | with_reducible rw [bn2_s] | with_reducible rw [grd_t] | ((conv => arg 1; arg 1; simp (disch := omega) only [dw_is, dw_f0, dw_t0, dw_f9, dw_t9, dw_f12, dw_t12, dw_f13, dw_t13, dw_f14, dw_t14, dw_f22, dw_t22, dw_f23, dw_t23, dw_f24, dw_t24, dw_f25, dw_t25, dw_f28, dw_t28, dw_f29, dw_t29, dw_f30, dw_t30, dw_f35, dw_t35, dw_f7, dw_t7, dw_f5, dw_t5, dw_f6, dw_t6, dw_f1, dw_f2, dw_f3, dw_f4, dw_f8, dw_f10, dw_f11, dw_f15, dw_f16, dw_f17, dw_f18, dw_f19, dw_f20, dw_f21, dw_f26, dw_f27, dw_f31, dw_f32, dw_f33, dw_f34, dw_a1, dw_w1, dw_a2, dw_w2, dw_a3, dw_w3, dw_a4, dw_w4, dw_a5, dw_w5, dw_a6, dw_w6, dw_a7, dw_w7, dw_a8, dw_w8, dw_a9_0, dw_s9_0, dw_a9_1, dw_s9_1, dw_a10, dw_w10, dw_a10_0, dw_w10_0, dw_a10_1, dw_w10_1, dw_a10_2, dw_w10_2, dw_a11, dw_w11, dw_a12, dw_w12, dw_a13, dw_w13, dw_a14, dw_w14, dw_a15, dw_w15, dw_a16, dw_w16, dw_a17, dw_w17, dw_a17_0, dw_w17_0, dw_a18, dw_w18, dw_a18_0, dw_w18_0, dw_a18_1, dw_w18_1, dw_a18_2, dw_w18_2, dw_a18_3, dw_w18_3, dw_a18_4, dw_w18_4, dw_a18_5, dw_w18_5, dw_a19, dw_w19, dw_a19_24, dw_w19_24, dw_a20, dw_w20, e3]); first | with_reducible rw [bnd_s] | with_reducible rw [bn2_s] | with_reducible rw [grd_t]))
    rw [dw_N_nI (by omega)]
    exact ⟨X3, R3, G3, S3, N3, rfl, q1, q2, q3⟩
  · rw [if_neg c, if_neg c]
    exact dw_Bk_id
/-- one dune is otherwise -/
theorem dw_TH_12 (h : dw_TH X R G r m w s yy) {d : Nat} (hd : d < m) (a b : Int32) : dw_TH (dw_A (dw_A X 1 d a) 2 d b) R G r m w (dw_set (dw_set s d 1 a) d 2 b) yy := ⟨⟨h.1.1, h.1.2.1, (by
    refine ⟨fun p hp => ?_, fun i hi => by
      rw [dw_AA, if_neg (fun q => absurd q.1 (by decide)), dw_AA, if_neg (fun q => absurd q.1 (by decide)), h.1.2.2.1.2 i hi]⟩
    obtain ⟨k, h1, h2, h3, h4, h5⟩ := h.1.2.2.1.1 p hp
    refine ⟨k, ?_, ?_, h3, ?_, h5⟩
    · rw [dw_AA, if_neg (fun q => absurd q.1 (by decide)), dw_AA, if_neg (fun q => absurd q.1 (by decide)), h1]
    · rw [dw_AA, if_neg (fun q => absurd q.1 (by decide)), dw_AA, if_neg (fun q => absurd q.1 (by decide)), h2]
    have h6 : ∀ (c : List Nat) (k : Nat), dw_MC X k c → dw_MC (dw_A (dw_A X 1 d a) 2 d b) k c := by
      intro c
      induction c with
      | nil => intro k _; trivial
      | cons t c ih =>
        intro k hm
        refine ⟨?_, ih (k + 1) hm.2⟩
        rw [dw_AA, if_neg (fun q => absurd q.1 (by decide)), dw_AA, if_neg (fun q => absurd q.1 (by decide)), hm.1]
    exact h6 _ _ h4), h.1.2.2.2⟩, (by
    intro o ho
    obtain ⟨⟨a1, a2, a3⟩, ⟨b1, b2, b3, b4⟩, c1⟩ := h.2.1 o ho
    refine ⟨⟨a1, a2, ?_⟩, ⟨b1, b2, b3, ?_⟩, ?_⟩
    · rw [dw_set_app, if_neg (fun q => absurd q.2 (by decide)), dw_set_app, if_neg (fun q => absurd q.2 (by decide)), a3]
    · rw [dw_set_app, if_neg (fun q => absurd q.2 (by decide)), dw_set_app, if_neg (fun q => absurd q.2 (by decide)), b4]
    · rw [dw_set_app, if_neg (fun q => absurd q.2 (by decide)), dw_set_app, if_neg (fun q => absurd q.2 (by decide))]
      exact c1), dw_Dead_set (dw_Dead_set h.2.2.1 a hd) b hd, h.2.2.2.1, h.2.2.2.2.1, (by
    intro o ho
    obtain ⟨i3, i4, i5, i6, i1, i2⟩ := h.2.2.2.2.2 o ho
    refine ⟨?_, ?_, ?_, ?_, ?_, ?_⟩
    · rw [dw_set_app, if_neg (fun q => absurd q.2 (by decide)), dw_set_app, if_neg (fun q => absurd q.2 (by decide)), i3]
    · rw [dw_set_app, if_neg (fun q => absurd q.2 (by decide)), dw_set_app, if_neg (fun q => absurd q.2 (by decide)), i4]
    · rw [dw_set_app, if_neg (fun q => absurd q.2 (by decide)), dw_set_app, if_neg (fun q => absurd q.2 (by decide)), i5]
    · rw [dw_set_app, if_neg (fun q => absurd q.2 (by decide)), dw_set_app, if_neg (fun q => absurd q.2 (by decide)), i6]
    · rw [dw_AA, if_neg (show ¬ ((1 : Nat) = 2 ∧ o = d) from fun q => absurd q.1 (by decide)), dw_AA, dw_set_app, if_neg (show ¬ (o = d ∧ (1 : Nat) = 2) from fun q => absurd q.2 (by decide)), dw_set_app]
      by_cases c : o = d
      · rw [if_pos ⟨rfl, c⟩, if_pos ⟨c, rfl⟩]
      · rw [if_neg (fun q => c q.2), if_neg (fun q => c q.1), i1]
    · rw [dw_AA, dw_AA, if_neg (show ¬ ((2 : Nat) = 1 ∧ o = d) from fun q => absurd q.1 (by decide)), dw_set_app, dw_set_app, if_neg (show ¬ (o = d ∧ (2 : Nat) = 1) from fun q => absurd q.2 (by decide))]
      by_cases c : o = d
      · rw [if_pos ⟨rfl, c⟩, if_pos ⟨c, rfl⟩]
      · rw [if_neg (fun q => c q.2), if_neg (fun q => c q.1), i2])⟩
theorem dw_SH_12 (hs : dw_SH X H) (d : Nat) (a b : Int32) : dw_SH (dw_A (dw_A X 1 d a) 2 d b) H := by
  intro k hk
  obtain ⟨h1, h2, h3⟩ := hs k hk
  refine ⟨?_, ?_, fun j hj => ?_⟩
  · rw [dw_AA, if_neg (fun q => absurd q.1 (by decide)), dw_AA, if_neg (fun q => absurd q.1 (by decide)), h1]
  · rw [dw_AA, if_neg (fun q => absurd q.1 (by decide)), dw_AA, if_neg (fun q => absurd q.1 (by decide)), h2]
  · rw [dw_AA, if_neg (fun q => absurd q.1 (by decide)), dw_AA, if_neg (fun q => absurd q.1 (by decide)), h3 j hj]
theorem dw_Eq_12 {X2 : dw_X} {d : Nat} {a b : Int32} (h : dw_Eq (dw_A (dw_A X 1 d a) 2 d b) X2) (a' b' : Int32) : dw_Eq (dw_A (dw_A X 1 d a') 2 d b') (dw_A (dw_A X2 1 d a') 2 d b') := ⟨h.1, h.2.1, (fun c i c1 c2 c3 => by
  have := h.2.2.1 c i c1 c2 c3
  rw [dw_AA, dw_AA] at this ⊢
  rw [dw_AA, dw_AA]
  by_cases e2 : c = 2 ∧ i = d
  · rw [if_pos e2, if_pos e2]
  · rw [if_neg e2] at this ⊢
    rw [if_neg e2]
    by_cases e1 : c = 1 ∧ i = d
    · rw [if_pos e1, if_pos e1]
    · rw [if_neg e1] at this ⊢
      rw [if_neg e1, this]), h.2.2.2⟩
theorem dw_Eq_12own (d : Nat) : dw_Eq X (dw_A (dw_A X 1 d (dw_gA X 1 d)) 2 d (dw_gA X 2 d)) := ⟨fun _ _ => rfl, fun _ => rfl, (fun c i _ _ _ => by
  rw [dw_AA, dw_AA]
  by_cases e2 : c = 2 ∧ i = d
  · rw [if_pos e2, e2.1, e2.2]
  · rw [if_neg e2]
    by_cases e1 : c = 1 ∧ i = d
    · rw [if_pos e1, e1.1, e1.2]
    · rw [if_neg e1]), fun _ => rfl⟩
theorem dw_Mkinds50 (h : dw_TH X R G r m w s yy) (hs : dw_SH X H) (hok : dw_Hok H) {q d : Nat} (hq : q < 4) (hd : d < m) {sort : Int32} (p : Nat → Bool) {n : Nat} (hn : n ≤ 10) (hsort : sort = 0 ∧ n = 6 ∨ sort = 1 ∧ n = 10) (hp : ∀ v, p v = decide (dw_qU w (dw_gJ X 6) (dw_set (dw_set s d 1 (if sort = 0 then nI v else s d 1)) d 2 (if sort = 1 then nI v else s d 2)) yy H (nI q) d = -1)) (f k : Nat) : ∀ i a b X2 R2 G2 S N z, i + k = n → dw_Eq (dw_A (dw_A X 1 d a) 2 d b) X2 → (∀ k, k < 18 → R2 k = R k) → (∀ d, d < 6 → G2 d = G d) → dw_Bk (M_kinds_50 (f + k + 1) (dw_mk X2 R2 G2 S N (nI yy)) 0 (nI q) (nI d) sort (s d 1) (s d 2) z (nI i)) X R G (nI yy) (dw_bits p k i z) := by
  have hm6 := h.1.2.2.2.2
  have k1 : ∀ F h2 i z, M_kinds_50 (F + 1) h2 0 (nI q) (nI d) sort (s d 1) (s d 2) z (nI i) = M_kinds_63 (M_kinds_50 F) h2 0 (nI q) (nI d) sort (s d 1) (s d 2) z (nI i) (nI n) (nI i) := by
    intro F h2 i z
    rw [M_kinds_50]
    rcases hsort with ⟨q1, q2⟩ | ⟨q1, q2⟩
    · rw [if_pos q1, q2]; rfl
    · rw [if_neg (by rw [q1]; decide), q2]; rfl
  have k2 : ∀ F h2 i z x, (if sort = 0 then M_kinds_82 F h2 0 (nI q) (nI d) sort (s d 1) (s d 2) z (nI i) (nI i) (nI d) x else M_kinds_82 F h2 0 (nI q) (nI d) sort (s d 1) (s d 2) z (nI i) (s d 1) (nI d) x) = M_kinds_82 F h2 0 (nI q) (nI d) sort (s d 1) (s d 2) z (nI i) (if sort = 0 then nI i else s d 1) (nI d) x := by
    intro F h2 i z x
    by_cases c : sort = 0
    · rw [if_pos c, if_pos c]
    · rw [if_neg c, if_neg c]
  have k3 : ∀ F h2 i z x, (if sort = 1 then M_kinds_100 F h2 0 (nI q) (nI d) sort (s d 1) (s d 2) z (nI i) (nI i) (nI d) x else M_kinds_100 F h2 0 (nI q) (nI d) sort (s d 1) (s d 2) z (nI i) (s d 2) (nI d) x) = M_kinds_100 F h2 0 (nI q) (nI d) sort (s d 1) (s d 2) z (nI i) (if sort = 1 then nI i else s d 2) (nI d) x := by
    intro F h2 i z x
    by_cases c : sort = 1
    · rw [if_pos c, if_pos c]
    · rw [if_neg c, if_neg c]
  induction k with
  | zero =>
    intro i a b X2 R2 G2 S N z hi e hR hG
    rw [k1, M_kinds_63, if_pos (show nI n ≤ nI i from nI_le (by omega) (by omega)), dw_bits]
    repeat (first | with_reducible rw [bnd_s] | with_reducible rw [nmd_s] | with_reducible rw [bn2_s] | with_reducible rw [grd_t] | ((conv => arg 1; arg 1; simp (disch := omega) only [dw_is, dw_f0, dw_t0, dw_f9, dw_t9, dw_f12, dw_t12, dw_f13, dw_t13, dw_f14, dw_t14, dw_f22, dw_t22, dw_f23, dw_t23, dw_f24, dw_t24, dw_f25, dw_t25, dw_f28, dw_t28, dw_f29, dw_t29, dw_f30, dw_t30, dw_f35, dw_t35, dw_f7, dw_t7, dw_f5, dw_t5, dw_f6, dw_t6, dw_f1, dw_f2, dw_f3, dw_f4, dw_f8, dw_f10, dw_f11, dw_f15, dw_f16, dw_f17, dw_f18, dw_f19, dw_f20, dw_f21, dw_f26, dw_f27, dw_f31, dw_f32, dw_f33, dw_f34, dw_a1, dw_w1, dw_a2, dw_w2, dw_a3, dw_w3, dw_a4, dw_w4, dw_a5, dw_w5, dw_a6, dw_w6, dw_a7, dw_w7, dw_a8, dw_w8, dw_a9_0, dw_s9_0, dw_a9_1, dw_s9_1, dw_a10, dw_w10, dw_a10_0, dw_w10_0, dw_a10_1, dw_w10_1, dw_a10_2, dw_w10_2, dw_a11, dw_w11, dw_a12, dw_w12, dw_a13, dw_w13, dw_a14, dw_w14, dw_a15, dw_w15, dw_a16, dw_w16, dw_a17, dw_w17, dw_a17_0, dw_w17_0, dw_a18, dw_w18, dw_a18_0, dw_w18_0, dw_a18_1, dw_w18_1, dw_a18_2, dw_w18_2, dw_a18_3, dw_w18_3, dw_a18_4, dw_w18_4, dw_a18_5, dw_w18_5, dw_a19, dw_w19, dw_a19_24, dw_w19_24, dw_a20, dw_w20]); first | with_reducible rw [bnd_s] | with_reducible rw [bn2_s] | with_reducible rw [grd_t]))
    obtain ⟨_, _, _, _, i1, i2⟩ := h.2.2.2.2.2 d hd
    have e5 := dw_Eq_12 e (s d 1) (s d 2)
    have e6 := dw_Eq_12own (X := X) d
    rw [i1, i2] at e6
    exact ⟨_, _, _, _, _, rfl, dw_Eq_tr e6 e5, hR, hG⟩
  | succ k ih =>
    intro i a b X2 R2 G2 S N z hi e hR hG
    rw [show f + (k + 1) + 1 = f + k + 1 + 1 by omega, k1, M_kinds_63, if_neg (show ¬ nI n ≤ nI i from nI_ge (by omega) (by omega)), dw_bits]
    repeat (first | with_reducible rw [bnd_s] | with_reducible rw [nmd_s] | with_reducible rw [bn2_s] | with_reducible rw [grd_t] | ((conv => arg 1; arg 1; simp (disch := omega) only [dw_is, dw_f0, dw_t0, dw_f9, dw_t9, dw_f12, dw_t12, dw_f13, dw_t13, dw_f14, dw_t14, dw_f22, dw_t22, dw_f23, dw_t23, dw_f24, dw_t24, dw_f25, dw_t25, dw_f28, dw_t28, dw_f29, dw_t29, dw_f30, dw_t30, dw_f35, dw_t35, dw_f7, dw_t7, dw_f5, dw_t5, dw_f6, dw_t6, dw_f1, dw_f2, dw_f3, dw_f4, dw_f8, dw_f10, dw_f11, dw_f15, dw_f16, dw_f17, dw_f18, dw_f19, dw_f20, dw_f21, dw_f26, dw_f27, dw_f31, dw_f32, dw_f33, dw_f34, dw_a1, dw_w1, dw_a2, dw_w2, dw_a3, dw_w3, dw_a4, dw_w4, dw_a5, dw_w5, dw_a6, dw_w6, dw_a7, dw_w7, dw_a8, dw_w8, dw_a9_0, dw_s9_0, dw_a9_1, dw_s9_1, dw_a10, dw_w10, dw_a10_0, dw_w10_0, dw_a10_1, dw_w10_1, dw_a10_2, dw_w10_2, dw_a11, dw_w11, dw_a12, dw_w12, dw_a13, dw_w13, dw_a14, dw_w14, dw_a15, dw_w15, dw_a16, dw_w16, dw_a17, dw_w17, dw_a17_0, dw_w17_0, dw_a18, dw_w18, dw_a18_0, dw_w18_0, dw_a18_1, dw_w18_1, dw_a18_2, dw_w18_2, dw_a18_3, dw_w18_3, dw_a18_4, dw_w18_4, dw_a18_5, dw_w18_5, dw_a19, dw_w19, dw_a19_24, dw_w19_24, dw_a20, dw_w20]); first | with_reducible rw [bnd_s] | with_reducible rw [bn2_s] | with_reducible rw [grd_t]))
    rw [k2, M_kinds_82]
    repeat (first | with_reducible rw [bnd_s] | with_reducible rw [nmd_s] | with_reducible rw [bn2_s] | with_reducible rw [grd_t] | ((conv => arg 1; arg 1; simp (disch := omega) only [dw_is, dw_f0, dw_t0, dw_f9, dw_t9, dw_f12, dw_t12, dw_f13, dw_t13, dw_f14, dw_t14, dw_f22, dw_t22, dw_f23, dw_t23, dw_f24, dw_t24, dw_f25, dw_t25, dw_f28, dw_t28, dw_f29, dw_t29, dw_f30, dw_t30, dw_f35, dw_t35, dw_f7, dw_t7, dw_f5, dw_t5, dw_f6, dw_t6, dw_f1, dw_f2, dw_f3, dw_f4, dw_f8, dw_f10, dw_f11, dw_f15, dw_f16, dw_f17, dw_f18, dw_f19, dw_f20, dw_f21, dw_f26, dw_f27, dw_f31, dw_f32, dw_f33, dw_f34, dw_a1, dw_w1, dw_a2, dw_w2, dw_a3, dw_w3, dw_a4, dw_w4, dw_a5, dw_w5, dw_a6, dw_w6, dw_a7, dw_w7, dw_a8, dw_w8, dw_a9_0, dw_s9_0, dw_a9_1, dw_s9_1, dw_a10, dw_w10, dw_a10_0, dw_w10_0, dw_a10_1, dw_w10_1, dw_a10_2, dw_w10_2, dw_a11, dw_w11, dw_a12, dw_w12, dw_a13, dw_w13, dw_a14, dw_w14, dw_a15, dw_w15, dw_a16, dw_w16, dw_a17, dw_w17, dw_a17_0, dw_w17_0, dw_a18, dw_w18, dw_a18_0, dw_w18_0, dw_a18_1, dw_w18_1, dw_a18_2, dw_w18_2, dw_a18_3, dw_w18_3, dw_a18_4, dw_w18_4, dw_a18_5, dw_w18_5, dw_a19, dw_w19, dw_a19_24, dw_w19_24, dw_a20, dw_w20]); first | with_reducible rw [bnd_s] | with_reducible rw [bn2_s] | with_reducible rw [grd_t]))
    rw [k3, M_kinds_100]
    repeat (first | with_reducible rw [bnd_s] | with_reducible rw [nmd_s] | with_reducible rw [bn2_s] | with_reducible rw [grd_t] | ((conv => arg 1; arg 1; simp (disch := omega) only [dw_is, dw_f0, dw_t0, dw_f9, dw_t9, dw_f12, dw_t12, dw_f13, dw_t13, dw_f14, dw_t14, dw_f22, dw_t22, dw_f23, dw_t23, dw_f24, dw_t24, dw_f25, dw_t25, dw_f28, dw_t28, dw_f29, dw_t29, dw_f30, dw_t30, dw_f35, dw_t35, dw_f7, dw_t7, dw_f5, dw_t5, dw_f6, dw_t6, dw_f1, dw_f2, dw_f3, dw_f4, dw_f8, dw_f10, dw_f11, dw_f15, dw_f16, dw_f17, dw_f18, dw_f19, dw_f20, dw_f21, dw_f26, dw_f27, dw_f31, dw_f32, dw_f33, dw_f34, dw_a1, dw_w1, dw_a2, dw_w2, dw_a3, dw_w3, dw_a4, dw_w4, dw_a5, dw_w5, dw_a6, dw_w6, dw_a7, dw_w7, dw_a8, dw_w8, dw_a9_0, dw_s9_0, dw_a9_1, dw_s9_1, dw_a10, dw_w10, dw_a10_0, dw_w10_0, dw_a10_1, dw_w10_1, dw_a10_2, dw_w10_2, dw_a11, dw_w11, dw_a12, dw_w12, dw_a13, dw_w13, dw_a14, dw_w14, dw_a15, dw_w15, dw_a16, dw_w16, dw_a17, dw_w17, dw_a17_0, dw_w17_0, dw_a18, dw_w18, dw_a18_0, dw_w18_0, dw_a18_1, dw_w18_1, dw_a18_2, dw_w18_2, dw_a18_3, dw_w18_3, dw_a18_4, dw_w18_4, dw_a18_5, dw_w18_5, dw_a19, dw_w19, dw_a19_24, dw_w19_24, dw_a20, dw_w20]); first | with_reducible rw [bnd_s] | with_reducible rw [bn2_s] | with_reducible rw [grd_t]))
    have e5 := dw_Eq_12 e (if sort = 0 then nI i else s d 1) (if sort = 1 then nI i else s d 2)
    obtain ⟨X3, R3, G3, S3, N3, e3, q1, q2, q3⟩ := dw_Munlike (S := S) (N := N) (dw_TH_Eq (dw_TH_12 h hd (if sort = 0 then nI i else s d 1) (if sort = 1 then nI i else s d 2)) e5 hR hG) (dw_SH_Eq (dw_SH_12 hs d _ _) e5) hok hq hd
    rw [show dw_gJ (dw_A (dw_A X2 1 d (if sort = 0 then nI i else s d 1)) 2 d (if sort = 1 then nI i else s d 2)) 6 = dw_gJ X 6 from e5.2.1 6] at e3
    rw [e3, bn2_s]
    have e6 := dw_Eq_tr e5 q1
    have hR3 : ∀ k, k < 18 → R3 k = R k := fun k hk => (q2 k hk).trans (hR k hk)
    have hG3 : ∀ k, k < 6 → G3 k = G k := fun k hk => (q3 k hk).trans (hG k hk)
    rw [hp i]
    by_cases c : dw_qU w (dw_gJ X 6) (dw_set (dw_set s d 1 (if sort = 0 then nI i else s d 1)) d 2 (if sort = 1 then nI i else s d 2)) yy H (nI q) d = -1
    · rw [if_pos c, decide_eq_true c, if_pos rfl, M_kinds_121, nmd_s, nmd_s, nI_1]
      exact ih (i + 1) _ _ _ _ _ _ _ _ (by omega) e6 hR3 hG3
    · rw [if_neg c, decide_eq_false c, if_neg (by decide), M_kinds_121, nmd_s, nmd_s, nI_1]
      exact ih (i + 1) _ _ _ _ _ _ _ _ (by omega) e6 hR3 hG3
theorem dw_Mkinds (h : dw_TH X R G r m w s yy) (hs : dw_SH X H) (hok : dw_Hok H) (a d sort : Int32) : dw_Bk (M_kinds (dw_mk X R G S N (nI yy)) 0 a d sort) X R G (nI yy) (dw_qkinds w (dw_gJ X 6) s yy H a d sort) := by
  obtain ⟨e1, e2⟩ := dw_Mtw (S := S) (N := N) (y := nI yy) h hs a d
  have hm6 := h.1.2.2.2.2
  rw [M_kinds, dw_qkinds]
  repeat (first | with_reducible rw [bnd_s] | with_reducible rw [nmd_s] | with_reducible rw [bn2_s] | with_reducible rw [grd_t] | ((conv => arg 1; arg 1; simp (disch := omega) only [dw_is, dw_f0, dw_t0, dw_f9, dw_t9, dw_f12, dw_t12, dw_f13, dw_t13, dw_f14, dw_t14, dw_f22, dw_t22, dw_f23, dw_t23, dw_f24, dw_t24, dw_f25, dw_t25, dw_f28, dw_t28, dw_f29, dw_t29, dw_f30, dw_t30, dw_f35, dw_t35, dw_f7, dw_t7, dw_f5, dw_t5, dw_f6, dw_t6, dw_f1, dw_f2, dw_f3, dw_f4, dw_f8, dw_f10, dw_f11, dw_f15, dw_f16, dw_f17, dw_f18, dw_f19, dw_f20, dw_f21, dw_f26, dw_f27, dw_f31, dw_f32, dw_f33, dw_f34, dw_a1, dw_w1, dw_a2, dw_w2, dw_a3, dw_w3, dw_a4, dw_w4, dw_a5, dw_w5, dw_a6, dw_w6, dw_a7, dw_w7, dw_a8, dw_w8, dw_a9_0, dw_s9_0, dw_a9_1, dw_s9_1, dw_a10, dw_w10, dw_a10_0, dw_w10_0, dw_a10_1, dw_w10_1, dw_a10_2, dw_w10_2, dw_a11, dw_w11, dw_a12, dw_w12, dw_a13, dw_w13, dw_a14, dw_w14, dw_a15, dw_w15, dw_a16, dw_w16, dw_a17, dw_w17, dw_a17_0, dw_w17_0, dw_a18, dw_w18, dw_a18_0, dw_w18_0, dw_a18_1, dw_w18_1, dw_a18_2, dw_w18_2, dw_a18_3, dw_w18_3, dw_a18_4, dw_w18_4, dw_a18_5, dw_w18_5, dw_a19, dw_w19, dw_a19_24, dw_w19_24, dw_a20, dw_w20, e1]); first | with_reducible rw [bnd_s] | with_reducible rw [bn2_s] | with_reducible rw [grd_t]))
  by_cases c : dw_tw H s a d = 0
  · rw [if_pos c, if_pos c]
    obtain ⟨q, j, hq, hj, rfl, rfl, h6⟩ := e2 c
    obtain ⟨_, _, _, _, i1, i2⟩ := h.2.2.2.2.2 j hj
    have e6 := dw_Eq_12own (X := X) j
    repeat (first | with_reducible rw [bnd_s] | with_reducible rw [nmd_s] | with_reducible rw [bn2_s] | with_reducible rw [grd_t] | ((conv => arg 1; arg 1; simp (disch := omega) only [dw_is, dw_f0, dw_t0, dw_f9, dw_t9, dw_f12, dw_t12, dw_f13, dw_t13, dw_f14, dw_t14, dw_f22, dw_t22, dw_f23, dw_t23, dw_f24, dw_t24, dw_f25, dw_t25, dw_f28, dw_t28, dw_f29, dw_t29, dw_f30, dw_t30, dw_f35, dw_t35, dw_f7, dw_t7, dw_f5, dw_t5, dw_f6, dw_t6, dw_f1, dw_f2, dw_f3, dw_f4, dw_f8, dw_f10, dw_f11, dw_f15, dw_f16, dw_f17, dw_f18, dw_f19, dw_f20, dw_f21, dw_f26, dw_f27, dw_f31, dw_f32, dw_f33, dw_f34, dw_a1, dw_w1, dw_a2, dw_w2, dw_a3, dw_w3, dw_a4, dw_w4, dw_a5, dw_w5, dw_a6, dw_w6, dw_a7, dw_w7, dw_a8, dw_w8, dw_a9_0, dw_s9_0, dw_a9_1, dw_s9_1, dw_a10, dw_w10, dw_a10_0, dw_w10_0, dw_a10_1, dw_w10_1, dw_a10_2, dw_w10_2, dw_a11, dw_w11, dw_a12, dw_w12, dw_a13, dw_w13, dw_a14, dw_w14, dw_a15, dw_w15, dw_a16, dw_w16, dw_a17, dw_w17, dw_a17_0, dw_w17_0, dw_a18, dw_w18, dw_a18_0, dw_w18_0, dw_a18_1, dw_w18_1, dw_a18_2, dw_w18_2, dw_a18_3, dw_w18_3, dw_a18_4, dw_w18_4, dw_a18_5, dw_w18_5, dw_a19, dw_w19, dw_a19_24, dw_w19_24, dw_a20, dw_w20, dw_Min]); first | with_reducible rw [bnd_s] | with_reducible rw [bn2_s] | with_reducible rw [grd_t]))
    rw [dw_N_nI (by omega)]
    by_cases c2 : dw_in sort 0 1 = 0
    · rw [if_pos c2, if_pos c2]
      exact dw_Bk_id
    rw [if_neg c2, if_neg c2]
    repeat (first | with_reducible rw [bnd_s] | with_reducible rw [nmd_s] | with_reducible rw [bn2_s] | with_reducible rw [grd_t] | ((conv => arg 1; arg 1; simp (disch := omega) only [dw_is, dw_f0, dw_t0, dw_f9, dw_t9, dw_f12, dw_t12, dw_f13, dw_t13, dw_f14, dw_t14, dw_f22, dw_t22, dw_f23, dw_t23, dw_f24, dw_t24, dw_f25, dw_t25, dw_f28, dw_t28, dw_f29, dw_t29, dw_f30, dw_t30, dw_f35, dw_t35, dw_f7, dw_t7, dw_f5, dw_t5, dw_f6, dw_t6, dw_f1, dw_f2, dw_f3, dw_f4, dw_f8, dw_f10, dw_f11, dw_f15, dw_f16, dw_f17, dw_f18, dw_f19, dw_f20, dw_f21, dw_f26, dw_f27, dw_f31, dw_f32, dw_f33, dw_f34, dw_a1, dw_w1, dw_a2, dw_w2, dw_a3, dw_w3, dw_a4, dw_w4, dw_a5, dw_w5, dw_a6, dw_w6, dw_a7, dw_w7, dw_a8, dw_w8, dw_a9_0, dw_s9_0, dw_a9_1, dw_s9_1, dw_a10, dw_w10, dw_a10_0, dw_w10_0, dw_a10_1, dw_w10_1, dw_a10_2, dw_w10_2, dw_a11, dw_w11, dw_a12, dw_w12, dw_a13, dw_w13, dw_a14, dw_w14, dw_a15, dw_w15, dw_a16, dw_w16, dw_a17, dw_w17, dw_a17_0, dw_w17_0, dw_a18, dw_w18, dw_a18_0, dw_w18_0, dw_a18_1, dw_w18_1, dw_a18_2, dw_w18_2, dw_a18_3, dw_w18_3, dw_a18_4, dw_w18_4, dw_a18_5, dw_w18_5, dw_a19, dw_w19, dw_a19_24, dw_w19_24, dw_a20, dw_w20]); first | with_reducible rw [bnd_s] | with_reducible rw [bn2_s] | with_reducible rw [grd_t]))
    rw [i1, i2]
    by_cases c3 : sort = 0
    · rw [if_pos c3]
      refine dw_Mkinds50 h hs hok hq hj _ (n := 6) (by omega) (Or.inl ⟨c3, rfl⟩) (fun v => ?_) 993 6 0 _ _ X R G S N 0 rfl (dw_Eq_sy e6) (fun _ _ => rfl) (fun _ _ => rfl)
      rw [if_pos c3, if_neg (by rw [c3]; decide), dw_set_same (dw_set s j 1 (nI v)) (by rw [dw_set_app, if_neg (fun q => absurd q.2 (by decide))])]
    · rw [if_neg c3]
      have c4 : sort = 1 := by
        obtain ⟨l, hl, rfl⟩ := dw_in_of (n := 1) rfl c2
        rcases (by omega : l = 0 ∨ l = 1) with rfl | rfl
        · exact absurd rfl c3
        · rfl
      refine dw_Mkinds50 h hs hok hq hj _ (n := 10) (by omega) (Or.inr ⟨c4, rfl⟩) (fun v => ?_) 989 10 0 _ _ X R G S N 0 rfl (dw_Eq_sy e6) (fun _ _ => rfl) (fun _ _ => rfl)
      rw [if_neg c3, if_pos c4, dw_set_same s rfl]
  · rw [if_neg c, if_neg c]
    exact dw_Bk_id
end MC
