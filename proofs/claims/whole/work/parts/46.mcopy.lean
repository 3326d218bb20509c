/-! THE REFERENCE: copy, dunesBy -/
theorem dw_plb_iff {i n : Int32} {z : Nat} (hz : z < 2 ^ 30) : dw_plb i n (nI z) = true ↔ ∃ i' n' : Nat, i = nI i' ∧ n = nI n' ∧ i' + n' ≤ z := by
  unfold dw_plb
  rw [nI_toInt (show z < 2 ^ 31 by omega)]
  constructor
  · intro h
    have h' : (0 ≤ i.toInt ∧ 0 ≤ n.toInt) ∧ i.toInt + n.toInt ≤ (z : Int) := by simpa using h
    have e0 : (0 : Int32).toInt = 0 := by decide
    obtain ⟨a, ha, rfl⟩ := nI_of (x := i) (by rw [fa_lt]; omega)
    obtain ⟨b, hb, rfl⟩ := nI_of (x := n) (by rw [fa_lt]; omega)
    rw [nI_toInt ha, nI_toInt hb] at h'
    exact ⟨a, b, rfl, rfl, by omega⟩
  · rintro ⟨a, b, rfl, rfl, h⟩
    rw [nI_toInt (show a < 2 ^ 31 by omega), nI_toInt (show b < 2 ^ 31 by omega)]
    simp
    omega
theorem dw_wrap {c : Nat} (h : 2 ^ 31 ≤ c) (h2 : c < 2 ^ 32) : ((c : Nat) : Int).bmod (2 ^ 32) = (c : Int) - 4294967296 := by
  rw [Int.bmod_def, Int.emod_eq_of_lt (by omega) (by omega), if_neg (by omega)]
  omega
section MC
variable {X : dw_X} {R G S N : Nat → Int32} {w : dw_W} {r m yy tx tp : Nat} {s : dw_L} {H : dw_H} {ho cl : Int64} {wt : Nat → dw_W} {tb : Nat → Nat} {im : Option dw_Ln} {y : Int32}
/-- what stands where, as far as it is copied: from below -/
theorem dw_Mcopy147u {a b n : Nat} (hab : b ≤ a) (ha : a + n ≤ 160) (hb : b + n ≤ 160) (f k : Nat) : ∀ t X2, t + k = n → dw_Es X X2 → (∀ c i, c = 11 ∨ c = 12 → dw_gA X2 c i = dw_gA X c i) → (∀ p, dw_gA X2 13 p = if b ≤ p ∧ p < b + t then dw_gA X 13 (a + (p - b)) else dw_gA X 13 p) → dw_Z (M_copy_147 (f + k + 1) (dw_mk X2 R G S N y) 0 (nI n) (nI a) (nI b) (nI t)) (fun z => ∃ X', z = some (dw_mk X' R G S N y, nI n) ∧ dw_Es X X' ∧ (∀ c i, c = 11 ∨ c = 12 → dw_gA X' c i = dw_gA X c i) ∧ ∀ p, dw_gA X' 13 p = if b ≤ p ∧ p < b + n then dw_gA X 13 (a + (p - b)) else dw_gA X 13 p) := by
  induction k with
  | zero =>
    intro t X2 ht e e2 h
    rw [M_copy_147, if_pos (show nI n ≤ nI t from nI_le (by omega) (by omega))]
    exact ⟨X2, rfl, e, e2, (show t = n by omega) ▸ h⟩
  | succ k ih =>
    intro t X2 ht e e2 h
    rw [show f + (k + 1) + 1 = f + k + 1 + 1 by omega, M_copy_147, if_neg (show ¬ nI n ≤ nI t from nI_ge (by omega) (by omega)), if_pos (show nI b ≤ nI a from nI_le hab (by omega)), M_copy_173]
    have hr : dw_gA X2 13 (a + t) = dw_gA X 13 (a + t) := by rw [h, if_neg (by omega)]
    repeat (first | with_reducible rw [bnd_s] | with_reducible rw [nmd_s] | with_reducible rw [bn2_s] | with_reducible rw [grd_t] | ((conv => arg 1; arg 1; simp (disch := omega) only [dw_is, dw_f0, dw_t0, dw_f9, dw_t9, dw_f12, dw_t12, dw_f13, dw_t13, dw_f14, dw_t14, dw_f22, dw_t22, dw_f23, dw_t23, dw_f24, dw_t24, dw_f25, dw_t25, dw_f28, dw_t28, dw_f29, dw_t29, dw_f30, dw_t30, dw_f35, dw_t35, dw_f7, dw_t7, dw_f5, dw_t5, dw_f6, dw_t6, dw_f1, dw_f2, dw_f3, dw_f4, dw_f8, dw_f10, dw_f11, dw_f15, dw_f16, dw_f17, dw_f18, dw_f19, dw_f20, dw_f21, dw_f26, dw_f27, dw_f31, dw_f32, dw_f33, dw_f34, dw_a1, dw_w1, dw_a2, dw_w2, dw_a3, dw_w3, dw_a4, dw_w4, dw_a5, dw_w5, dw_a6, dw_w6, dw_a7, dw_w7, dw_a8, dw_w8, dw_a9_0, dw_s9_0, dw_a9_1, dw_s9_1, dw_a10, dw_w10, dw_a10_0, dw_w10_0, dw_a10_1, dw_w10_1, dw_a10_2, dw_w10_2, dw_a11, dw_w11, dw_a12, dw_w12, dw_a13, dw_w13, dw_a14, dw_w14, dw_a15, dw_w15, dw_a16, dw_w16, dw_a17, dw_w17, dw_a17_0, dw_w17_0, dw_a18, dw_w18, dw_a18_0, dw_w18_0, dw_a18_1, dw_w18_1, dw_a18_2, dw_w18_2, dw_a18_3, dw_w18_3, dw_a18_4, dw_w18_4, dw_a18_5, dw_w18_5, dw_a19, dw_w19, dw_a19_24, dw_w19_24, dw_a20, dw_w20, nI_add, hr]); first | with_reducible rw [bnd_s] | with_reducible rw [bn2_s] | with_reducible rw [grd_t]))
    rw [nI_1]
    refine ih (t + 1) _ (by omega) (dw_Es_tr e (dw_Es_A (by decide))) (fun c i hc => by rw [dw_AAn (by omega), e2 c i hc]) ?_
    intro p
    rw [dw_AA]
    by_cases c : p = b + t
    · rw [if_pos ⟨rfl, c⟩, if_pos (by omega), show a + (p - b) = a + t by omega]
    · rw [if_neg (fun q => c q.2), h p]
      by_cases c2 : b ≤ p ∧ p < b + t
      · rw [if_pos c2, if_pos (by omega)]
      · rw [if_neg c2, if_neg (by omega)]
theorem dw_Mcopy147d {a b n : Nat} (hab : a < b) (ha : a + n ≤ 160) (hb : b + n ≤ 160) (f k : Nat) : ∀ t X2, t + k = n → dw_Es X X2 → (∀ c i, c = 11 ∨ c = 12 → dw_gA X2 c i = dw_gA X c i) → (∀ p, dw_gA X2 13 p = if b + (n - t) ≤ p ∧ p < b + n then dw_gA X 13 (a + (p - b)) else dw_gA X 13 p) → dw_Z (M_copy_147 (f + k + 1) (dw_mk X2 R G S N y) 0 (nI n) (nI a) (nI b) (nI t)) (fun z => ∃ X', z = some (dw_mk X' R G S N y, nI n) ∧ dw_Es X X' ∧ (∀ c i, c = 11 ∨ c = 12 → dw_gA X' c i = dw_gA X c i) ∧ ∀ p, dw_gA X' 13 p = if b ≤ p ∧ p < b + n then dw_gA X 13 (a + (p - b)) else dw_gA X 13 p) := by
  induction k with
  | zero =>
    intro t X2 ht e e2 h
    rw [M_copy_147, if_pos (show nI n ≤ nI t from nI_le (by omega) (by omega))]
    refine ⟨X2, rfl, e, e2, fun p => ?_⟩
    rw [h p, show b + (n - t) = b by omega]
  | succ k ih =>
    intro t X2 ht e e2 h
    rw [show f + (k + 1) + 1 = f + k + 1 + 1 by omega, M_copy_147, if_neg (show ¬ nI n ≤ nI t from nI_ge (by omega) (by omega)), if_neg (show ¬ nI b ≤ nI a from nI_ge hab (by omega)), M_copy_173]
    have hr : dw_gA X2 13 (a + (n - 1 - t)) = dw_gA X 13 (a + (n - 1 - t)) := by rw [h, if_neg (by omega)]
    have e9 : nI n - 1 - nI t = nI (n - 1 - t) := by rw [dw_s_1 (by omega), pk_sub (by omega)]
    repeat (first | with_reducible rw [bnd_s] | with_reducible rw [nmd_s] | with_reducible rw [bn2_s] | with_reducible rw [grd_t] | ((conv => arg 1; arg 1; simp (disch := omega) only [dw_is, dw_f0, dw_t0, dw_f9, dw_t9, dw_f12, dw_t12, dw_f13, dw_t13, dw_f14, dw_t14, dw_f22, dw_t22, dw_f23, dw_t23, dw_f24, dw_t24, dw_f25, dw_t25, dw_f28, dw_t28, dw_f29, dw_t29, dw_f30, dw_t30, dw_f35, dw_t35, dw_f7, dw_t7, dw_f5, dw_t5, dw_f6, dw_t6, dw_f1, dw_f2, dw_f3, dw_f4, dw_f8, dw_f10, dw_f11, dw_f15, dw_f16, dw_f17, dw_f18, dw_f19, dw_f20, dw_f21, dw_f26, dw_f27, dw_f31, dw_f32, dw_f33, dw_f34, dw_a1, dw_w1, dw_a2, dw_w2, dw_a3, dw_w3, dw_a4, dw_w4, dw_a5, dw_w5, dw_a6, dw_w6, dw_a7, dw_w7, dw_a8, dw_w8, dw_a9_0, dw_s9_0, dw_a9_1, dw_s9_1, dw_a10, dw_w10, dw_a10_0, dw_w10_0, dw_a10_1, dw_w10_1, dw_a10_2, dw_w10_2, dw_a11, dw_w11, dw_a12, dw_w12, dw_a13, dw_w13, dw_a14, dw_w14, dw_a15, dw_w15, dw_a16, dw_w16, dw_a17, dw_w17, dw_a17_0, dw_w17_0, dw_a18, dw_w18, dw_a18_0, dw_w18_0, dw_a18_1, dw_w18_1, dw_a18_2, dw_w18_2, dw_a18_3, dw_w18_3, dw_a18_4, dw_w18_4, dw_a18_5, dw_w18_5, dw_a19, dw_w19, dw_a19_24, dw_w19_24, dw_a20, dw_w20, e9, nI_add, hr]); first | with_reducible rw [bnd_s] | with_reducible rw [bn2_s] | with_reducible rw [grd_t]))
    rw [nI_1]
    refine ih (t + 1) _ (by omega) (dw_Es_tr e (dw_Es_A (by decide))) (fun c i hc => by rw [dw_AAn (by omega), e2 c i hc]) ?_
    intro p
    rw [dw_AA]
    by_cases c : p = b + (n - 1 - t)
    · rw [if_pos ⟨rfl, c⟩, if_pos (by omega), show a + (p - b) = a + (n - 1 - t) by omega]
    · rw [if_neg (fun q => c q.2), h p]
      by_cases c2 : b + (n - t) ≤ p ∧ p < b + n
      · rw [if_pos c2, if_pos (by omega)]
      · rw [if_neg c2, if_neg (by omega)]
theorem dw_Mcopy147 {a b n : Nat} (ha : a + n ≤ 160) (hb : b + n ≤ 160) : dw_Z (M_copy_147 1000 (dw_mk X R G S N y) 0 (nI n) (nI a) (nI b) 0) (fun z => ∃ X', z = some (dw_mk X' R G S N y, nI n) ∧ dw_Es X X' ∧ (∀ c i, c = 11 ∨ c = 12 → dw_gA X' c i = dw_gA X c i) ∧ ∀ p, dw_gA X' 13 p = if b ≤ p ∧ p < b + n then dw_gA X 13 (a + (p - b)) else dw_gA X 13 p) := by
  rcases Nat.lt_or_ge a b with c | c
  · have g := dw_Mcopy147d (X := X) (R := R) (G := G) (S := S) (N := N) (y := y) c ha hb (999 - n) n 0 X (by omega) (dw_Es_of (dw_Eq_rfl X)) (fun _ _ _ => rfl) (fun p => by rw [if_neg (by omega)])
    rw [show 999 - n + n + 1 = 1000 by omega] at g
    exact g
  · have g := dw_Mcopy147u (X := X) (R := R) (G := G) (S := S) (N := N) (y := y) c ha hb (999 - n) n 0 X (by omega) (dw_Es_of (dw_Eq_rfl X)) (fun _ _ _ => rfl) (fun p => by rw [if_neg (by omega)])
    rw [show 999 - n + n + 1 = 1000 by omega] at g
    exact g
theorem dw_Mcopy_ (h : dw_RX X R G ((m, s, yy, ho, cl, r), (tx, wt), (tp, tb), im, H)) (ok : dw_Ok ((m, s, yy, ho, cl, r), (tx, wt), (tp, tb), im, H)) (a i o j n : Int32) : dw_Go (M_copy (dw_mk X R G S N (nI yy)) 0 a i o j n) (dw_ocopy ((m, s, yy, ho, cl, r), (tx, wt), (tp, tb), im, H) a i o j n).1 (dw_ocopy ((m, s, yy, ho, cl, r), (tx, wt), (tp, tb), im, H) a i o j n).2 := by
  have o1 : m ≤ 6 := ok.1.1
  have h11 : dw_SH X H := h.2.2.2.2.2.2.2.2.2.2
  rw [M_copy, dw_ocopy]
  repeat (first | with_reducible rw [bnd_s] | with_reducible rw [nmd_s] | with_reducible rw [bn2_s] | with_reducible rw [grd_t] | ((conv => arg 1; arg 1; simp (disch := omega) only [dw_is, dw_f0, dw_t0, dw_f9, dw_t9, dw_f12, dw_t12, dw_f13, dw_t13, dw_f14, dw_t14, dw_f22, dw_t22, dw_f23, dw_t23, dw_f24, dw_t24, dw_f25, dw_t25, dw_f28, dw_t28, dw_f29, dw_t29, dw_f30, dw_t30, dw_f35, dw_t35, dw_f7, dw_t7, dw_f5, dw_t5, dw_f6, dw_t6, dw_f1, dw_f2, dw_f3, dw_f4, dw_f8, dw_f10, dw_f11, dw_f15, dw_f16, dw_f17, dw_f18, dw_f19, dw_f20, dw_f21, dw_f26, dw_f27, dw_f31, dw_f32, dw_f33, dw_f34, dw_a1, dw_w1, dw_a2, dw_w2, dw_a3, dw_w3, dw_a4, dw_w4, dw_a5, dw_w5, dw_a6, dw_w6, dw_a7, dw_w7, dw_a8, dw_w8, dw_a9_0, dw_s9_0, dw_a9_1, dw_s9_1, dw_a10, dw_w10, dw_a10_0, dw_w10_0, dw_a10_1, dw_w10_1, dw_a10_2, dw_w10_2, dw_a11, dw_w11, dw_a12, dw_w12, dw_a13, dw_w13, dw_a14, dw_w14, dw_a15, dw_w15, dw_a16, dw_w16, dw_a17, dw_w17, dw_a17_0, dw_w17_0, dw_a18, dw_w18, dw_a18_0, dw_w18_0, dw_a18_1, dw_w18_1, dw_a18_2, dw_w18_2, dw_a18_3, dw_w18_3, dw_a18_4, dw_w18_4, dw_a18_5, dw_w18_5, dw_a19, dw_w19, dw_a19_24, dw_w19_24, dw_a20, dw_w20, dw_Min]); first | with_reducible rw [bnd_s] | with_reducible rw [bn2_s] | with_reducible rw [grd_t]))
  by_cases c0 : dw_in a 0 3 = 0
  · rw [if_pos c0, if_pos c0]
    exact dw_Go_id h
  rw [if_neg c0, if_neg c0]
  repeat (first | with_reducible rw [bnd_s] | with_reducible rw [nmd_s] | with_reducible rw [bn2_s] | with_reducible rw [grd_t] | ((conv => arg 1; arg 1; simp (disch := omega) only [dw_is, dw_f0, dw_t0, dw_f9, dw_t9, dw_f12, dw_t12, dw_f13, dw_t13, dw_f14, dw_t14, dw_f22, dw_t22, dw_f23, dw_t23, dw_f24, dw_t24, dw_f25, dw_t25, dw_f28, dw_t28, dw_f29, dw_t29, dw_f30, dw_t30, dw_f35, dw_t35, dw_f7, dw_t7, dw_f5, dw_t5, dw_f6, dw_t6, dw_f1, dw_f2, dw_f3, dw_f4, dw_f8, dw_f10, dw_f11, dw_f15, dw_f16, dw_f17, dw_f18, dw_f19, dw_f20, dw_f21, dw_f26, dw_f27, dw_f31, dw_f32, dw_f33, dw_f34, dw_a1, dw_w1, dw_a2, dw_w2, dw_a3, dw_w3, dw_a4, dw_w4, dw_a5, dw_w5, dw_a6, dw_w6, dw_a7, dw_w7, dw_a8, dw_w8, dw_a9_0, dw_s9_0, dw_a9_1, dw_s9_1, dw_a10, dw_w10, dw_a10_0, dw_w10_0, dw_a10_1, dw_w10_1, dw_a10_2, dw_w10_2, dw_a11, dw_w11, dw_a12, dw_w12, dw_a13, dw_w13, dw_a14, dw_w14, dw_a15, dw_w15, dw_a16, dw_w16, dw_a17, dw_w17, dw_a17_0, dw_w17_0, dw_a18, dw_w18, dw_a18_0, dw_w18_0, dw_a18_1, dw_w18_1, dw_a18_2, dw_w18_2, dw_a18_3, dw_w18_3, dw_a18_4, dw_w18_4, dw_a18_5, dw_w18_5, dw_a19, dw_w19, dw_a19_24, dw_w19_24, dw_a20, dw_w20, dw_Min]); first | with_reducible rw [bnd_s] | with_reducible rw [bn2_s] | with_reducible rw [grd_t]))
  by_cases c1 : dw_in o 0 3 = 0
  · rw [if_pos c1, if_pos c1]
    exact dw_Go_id h
  rw [if_neg c1, if_neg c1]
  obtain ⟨q, hq, rfl⟩ := dw_in_of (n := 3) rfl c0
  obtain ⟨p, hp, rfl⟩ := dw_in_of (n := 3) rfl c1
  rw [dw_N_nI (by omega), dw_N_nI (by omega)]
  obtain ⟨s1, s2, s3⟩ := h11 q (by omega)
  obtain ⟨t1, t2, t3⟩ := h11 p (by omega)
  obtain ⟨_, za, hza, ea⟩ := ok.2.2.2.2.2.2.2 q (by omega)
  obtain ⟨_, zo, hzo, eo⟩ := ok.2.2.2.2.2.2.2 p (by omega)
  repeat (first | with_reducible rw [bnd_s] | with_reducible rw [nmd_s] | with_reducible rw [bn2_s] | with_reducible rw [grd_t] | ((conv => arg 1; arg 1; simp (disch := omega) only [dw_is, dw_f0, dw_t0, dw_f9, dw_t9, dw_f12, dw_t12, dw_f13, dw_t13, dw_f14, dw_t14, dw_f22, dw_t22, dw_f23, dw_t23, dw_f24, dw_t24, dw_f25, dw_t25, dw_f28, dw_t28, dw_f29, dw_t29, dw_f30, dw_t30, dw_f35, dw_t35, dw_f7, dw_t7, dw_f5, dw_t5, dw_f6, dw_t6, dw_f1, dw_f2, dw_f3, dw_f4, dw_f8, dw_f10, dw_f11, dw_f15, dw_f16, dw_f17, dw_f18, dw_f19, dw_f20, dw_f21, dw_f26, dw_f27, dw_f31, dw_f32, dw_f33, dw_f34, dw_a1, dw_w1, dw_a2, dw_w2, dw_a3, dw_w3, dw_a4, dw_w4, dw_a5, dw_w5, dw_a6, dw_w6, dw_a7, dw_w7, dw_a8, dw_w8, dw_a9_0, dw_s9_0, dw_a9_1, dw_s9_1, dw_a10, dw_w10, dw_a10_0, dw_w10_0, dw_a10_1, dw_w10_1, dw_a10_2, dw_w10_2, dw_a11, dw_w11, dw_a12, dw_w12, dw_a13, dw_w13, dw_a14, dw_w14, dw_a15, dw_w15, dw_a16, dw_w16, dw_a17, dw_w17, dw_a17_0, dw_w17_0, dw_a18, dw_w18, dw_a18_0, dw_w18_0, dw_a18_1, dw_w18_1, dw_a18_2, dw_w18_2, dw_a18_3, dw_w18_3, dw_a18_4, dw_w18_4, dw_a18_5, dw_w18_5, dw_a19, dw_w19, dw_a19_24, dw_w19_24, dw_a20, dw_w20, s1]); first | with_reducible rw [bnd_s] | with_reducible rw [bn2_s] | with_reducible rw [grd_t]))
  by_cases c2 : H.1 q = -1
  · rw [if_pos c2, if_pos c2]
    exact dw_Go_id h
  rw [if_neg c2, if_neg c2]
  repeat (first | with_reducible rw [bnd_s] | with_reducible rw [nmd_s] | with_reducible rw [bn2_s] | with_reducible rw [grd_t] | ((conv => arg 1; arg 1; simp (disch := omega) only [dw_is, dw_f0, dw_t0, dw_f9, dw_t9, dw_f12, dw_t12, dw_f13, dw_t13, dw_f14, dw_t14, dw_f22, dw_t22, dw_f23, dw_t23, dw_f24, dw_t24, dw_f25, dw_t25, dw_f28, dw_t28, dw_f29, dw_t29, dw_f30, dw_t30, dw_f35, dw_t35, dw_f7, dw_t7, dw_f5, dw_t5, dw_f6, dw_t6, dw_f1, dw_f2, dw_f3, dw_f4, dw_f8, dw_f10, dw_f11, dw_f15, dw_f16, dw_f17, dw_f18, dw_f19, dw_f20, dw_f21, dw_f26, dw_f27, dw_f31, dw_f32, dw_f33, dw_f34, dw_a1, dw_w1, dw_a2, dw_w2, dw_a3, dw_w3, dw_a4, dw_w4, dw_a5, dw_w5, dw_a6, dw_w6, dw_a7, dw_w7, dw_a8, dw_w8, dw_a9_0, dw_s9_0, dw_a9_1, dw_s9_1, dw_a10, dw_w10, dw_a10_0, dw_w10_0, dw_a10_1, dw_w10_1, dw_a10_2, dw_w10_2, dw_a11, dw_w11, dw_a12, dw_w12, dw_a13, dw_w13, dw_a14, dw_w14, dw_a15, dw_w15, dw_a16, dw_w16, dw_a17, dw_w17, dw_a17_0, dw_w17_0, dw_a18, dw_w18, dw_a18_0, dw_w18_0, dw_a18_1, dw_w18_1, dw_a18_2, dw_w18_2, dw_a18_3, dw_w18_3, dw_a18_4, dw_w18_4, dw_a18_5, dw_w18_5, dw_a19, dw_w19, dw_a19_24, dw_w19_24, dw_a20, dw_w20, t1]); first | with_reducible rw [bnd_s] | with_reducible rw [bn2_s] | with_reducible rw [grd_t]))
  by_cases c3 : H.1 p = -1
  · rw [if_pos c3, if_pos c3]
    exact dw_Go_id h
  rw [if_neg c3, if_neg c3]
  repeat (first | with_reducible rw [bnd_s] | with_reducible rw [nmd_s] | with_reducible rw [bn2_s] | with_reducible rw [grd_t] | ((conv => arg 1; arg 1; simp (disch := omega) only [dw_is, dw_f0, dw_t0, dw_f9, dw_t9, dw_f12, dw_t12, dw_f13, dw_t13, dw_f14, dw_t14, dw_f22, dw_t22, dw_f23, dw_t23, dw_f24, dw_t24, dw_f25, dw_t25, dw_f28, dw_t28, dw_f29, dw_t29, dw_f30, dw_t30, dw_f35, dw_t35, dw_f7, dw_t7, dw_f5, dw_t5, dw_f6, dw_t6, dw_f1, dw_f2, dw_f3, dw_f4, dw_f8, dw_f10, dw_f11, dw_f15, dw_f16, dw_f17, dw_f18, dw_f19, dw_f20, dw_f21, dw_f26, dw_f27, dw_f31, dw_f32, dw_f33, dw_f34, dw_a1, dw_w1, dw_a2, dw_w2, dw_a3, dw_w3, dw_a4, dw_w4, dw_a5, dw_w5, dw_a6, dw_w6, dw_a7, dw_w7, dw_a8, dw_w8, dw_a9_0, dw_s9_0, dw_a9_1, dw_s9_1, dw_a10, dw_w10, dw_a10_0, dw_w10_0, dw_a10_1, dw_w10_1, dw_a10_2, dw_w10_2, dw_a11, dw_w11, dw_a12, dw_w12, dw_a13, dw_w13, dw_a14, dw_w14, dw_a15, dw_w15, dw_a16, dw_w16, dw_a17, dw_w17, dw_a17_0, dw_w17_0, dw_a18, dw_w18, dw_a18_0, dw_w18_0, dw_a18_1, dw_w18_1, dw_a18_2, dw_w18_2, dw_a18_3, dw_w18_3, dw_a18_4, dw_w18_4, dw_a18_5, dw_w18_5, dw_a19, dw_w19, dw_a19_24, dw_w19_24, dw_a20, dw_w20, s1, t1]); first | with_reducible rw [bnd_s] | with_reducible rw [bn2_s] | with_reducible rw [grd_t]))
  by_cases c4 : H.1 q = H.1 p
  · rw [if_pos c4, if_pos c4, ea, eo]
    have no : ∀ {P : Prop}, (∀ i' n' j' : Nat, i = nI i' → n = nI n' → j = nI j' → i' + n' ≤ za → j' + n' ≤ zo → False) → dw_Go (some (dw_mk X R G S N (nI yy), (-12 : Int32))) (if (dw_plb i n (nI za) && dw_plb j n (nI zo)) = true then (((m, s, yy, ho, cl, r), (tx, wt), (tp, tb), im, dw_Hcopy H q (dw_N i) p (dw_N j) (dw_N n)), n) else (((m, s, yy, ho, cl, r), (tx, wt), (tp, tb), im, H), -12)).1 (if (dw_plb i n (nI za) && dw_plb j n (nI zo)) = true then (((m, s, yy, ho, cl, r), (tx, wt), (tp, tb), im, dw_Hcopy H q (dw_N i) p (dw_N j) (dw_N n)), n) else (((m, s, yy, ho, cl, r), (tx, wt), (tp, tb), im, H), -12)).2 := by
      intro _ hno
      have hf : ¬ (dw_plb i n (nI za) && dw_plb j n (nI zo)) = true := by
        intro hq
        rw [Bool.and_eq_true] at hq
        obtain ⟨i', n', e1, e2, e3⟩ := (dw_plb_iff (by omega)).mp hq.1
        obtain ⟨j', n2, e4, e5, e6⟩ := (dw_plb_iff (by omega)).mp hq.2
        have e7 : n' = n2 := by
          rw [e2] at e5
          exact (nI_eq (by omega) (by omega)).mp e5
        subst e7
        exact hno i' n' j' e1 e2 e4 e3 e6
      rw [if_neg hf]
      exact dw_Go_id h
    by_cases d0 : n < 0
    · rw [if_pos d0]
      exact no (P := True) (fun i' n' j' e1 e2 e3 e4 e5 => nI_pos (by omega) (e2 ▸ d0))
    rw [if_neg d0]
    by_cases d1 : i < 0
    · rw [if_pos d1]
      exact no (P := True) (fun i' n' j' e1 e2 e3 e4 e5 => nI_pos (by omega) (e1 ▸ d1))
    rw [if_neg d1]
    by_cases d2 : j < 0
    · rw [if_pos d2]
      exact no (P := True) (fun i' n' j' e1 e2 e3 e4 e5 => nI_pos (by omega) (e3 ▸ d2))
    rw [if_neg d2]
    obtain ⟨n', hn', rfl⟩ := nI_of d0
    obtain ⟨i', hi', rfl⟩ := nI_of d1
    obtain ⟨j', hj', rfl⟩ := nI_of d2
    repeat (first | with_reducible rw [bnd_s] | with_reducible rw [nmd_s] | with_reducible rw [bn2_s] | with_reducible rw [grd_t] | ((conv => arg 1; arg 1; simp (disch := omega) only [dw_is, dw_f0, dw_t0, dw_f9, dw_t9, dw_f12, dw_t12, dw_f13, dw_t13, dw_f14, dw_t14, dw_f22, dw_t22, dw_f23, dw_t23, dw_f24, dw_t24, dw_f25, dw_t25, dw_f28, dw_t28, dw_f29, dw_t29, dw_f30, dw_t30, dw_f35, dw_t35, dw_f7, dw_t7, dw_f5, dw_t5, dw_f6, dw_t6, dw_f1, dw_f2, dw_f3, dw_f4, dw_f8, dw_f10, dw_f11, dw_f15, dw_f16, dw_f17, dw_f18, dw_f19, dw_f20, dw_f21, dw_f26, dw_f27, dw_f31, dw_f32, dw_f33, dw_f34, dw_a1, dw_w1, dw_a2, dw_w2, dw_a3, dw_w3, dw_a4, dw_w4, dw_a5, dw_w5, dw_a6, dw_w6, dw_a7, dw_w7, dw_a8, dw_w8, dw_a9_0, dw_s9_0, dw_a9_1, dw_s9_1, dw_a10, dw_w10, dw_a10_0, dw_w10_0, dw_a10_1, dw_w10_1, dw_a10_2, dw_w10_2, dw_a11, dw_w11, dw_a12, dw_w12, dw_a13, dw_w13, dw_a14, dw_w14, dw_a15, dw_w15, dw_a16, dw_w16, dw_a17, dw_w17, dw_a17_0, dw_w17_0, dw_a18, dw_w18, dw_a18_0, dw_w18_0, dw_a18_1, dw_w18_1, dw_a18_2, dw_w18_2, dw_a18_3, dw_w18_3, dw_a18_4, dw_w18_4, dw_a18_5, dw_w18_5, dw_a19, dw_w19, dw_a19_24, dw_w19_24, dw_a20, dw_w20, s2, ea]); first | with_reducible rw [bnd_s] | with_reducible rw [bn2_s] | with_reducible rw [grd_t]))
    by_cases d3 : za < i'
    · rw [if_pos (show nI za < nI i' from nI_lt d3 hi')]
      exact no (P := True) (fun i2 n2 j2 e1 e2 e3 e4 e5 => by
        rw [nI_eq hi' (by omega)] at e1
        omega)
    rw [if_neg (show ¬ nI za < nI i' from nI_nlt (by omega) (by omega))]
    repeat (first | with_reducible rw [bnd_s] | with_reducible rw [nmd_s] | with_reducible rw [bn2_s] | with_reducible rw [grd_t] | ((conv => arg 1; arg 1; simp (disch := omega) only [dw_is, dw_f0, dw_t0, dw_f9, dw_t9, dw_f12, dw_t12, dw_f13, dw_t13, dw_f14, dw_t14, dw_f22, dw_t22, dw_f23, dw_t23, dw_f24, dw_t24, dw_f25, dw_t25, dw_f28, dw_t28, dw_f29, dw_t29, dw_f30, dw_t30, dw_f35, dw_t35, dw_f7, dw_t7, dw_f5, dw_t5, dw_f6, dw_t6, dw_f1, dw_f2, dw_f3, dw_f4, dw_f8, dw_f10, dw_f11, dw_f15, dw_f16, dw_f17, dw_f18, dw_f19, dw_f20, dw_f21, dw_f26, dw_f27, dw_f31, dw_f32, dw_f33, dw_f34, dw_a1, dw_w1, dw_a2, dw_w2, dw_a3, dw_w3, dw_a4, dw_w4, dw_a5, dw_w5, dw_a6, dw_w6, dw_a7, dw_w7, dw_a8, dw_w8, dw_a9_0, dw_s9_0, dw_a9_1, dw_s9_1, dw_a10, dw_w10, dw_a10_0, dw_w10_0, dw_a10_1, dw_w10_1, dw_a10_2, dw_w10_2, dw_a11, dw_w11, dw_a12, dw_w12, dw_a13, dw_w13, dw_a14, dw_w14, dw_a15, dw_w15, dw_a16, dw_w16, dw_a17, dw_w17, dw_a17_0, dw_w17_0, dw_a18, dw_w18, dw_a18_0, dw_w18_0, dw_a18_1, dw_w18_1, dw_a18_2, dw_w18_2, dw_a18_3, dw_w18_3, dw_a18_4, dw_w18_4, dw_a18_5, dw_w18_5, dw_a19, dw_w19, dw_a19_24, dw_w19_24, dw_a20, dw_w20, t2, eo]); first | with_reducible rw [bnd_s] | with_reducible rw [bn2_s] | with_reducible rw [grd_t]))
    by_cases d4 : zo < j'
    · rw [if_pos (show nI zo < nI j' from nI_lt d4 hj')]
      exact no (P := True) (fun i2 n2 j2 e1 e2 e3 e4 e5 => by
        rw [nI_eq hj' (by omega)] at e3
        omega)
    rw [if_neg (show ¬ nI zo < nI j' from nI_nlt (by omega) (by omega))]
    have e1 : nI za - nI i' = nI (za - i') := pk_sub (by omega)
    have e2 : nI zo - nI j' = nI (zo - j') := pk_sub (by omega)
    repeat (first | with_reducible rw [bnd_s] | with_reducible rw [nmd_s] | with_reducible rw [bn2_s] | with_reducible rw [grd_t] | ((conv => arg 1; arg 1; simp (disch := omega) only [dw_is, dw_f0, dw_t0, dw_f9, dw_t9, dw_f12, dw_t12, dw_f13, dw_t13, dw_f14, dw_t14, dw_f22, dw_t22, dw_f23, dw_t23, dw_f24, dw_t24, dw_f25, dw_t25, dw_f28, dw_t28, dw_f29, dw_t29, dw_f30, dw_t30, dw_f35, dw_t35, dw_f7, dw_t7, dw_f5, dw_t5, dw_f6, dw_t6, dw_f1, dw_f2, dw_f3, dw_f4, dw_f8, dw_f10, dw_f11, dw_f15, dw_f16, dw_f17, dw_f18, dw_f19, dw_f20, dw_f21, dw_f26, dw_f27, dw_f31, dw_f32, dw_f33, dw_f34, dw_a1, dw_w1, dw_a2, dw_w2, dw_a3, dw_w3, dw_a4, dw_w4, dw_a5, dw_w5, dw_a6, dw_w6, dw_a7, dw_w7, dw_a8, dw_w8, dw_a9_0, dw_s9_0, dw_a9_1, dw_s9_1, dw_a10, dw_w10, dw_a10_0, dw_w10_0, dw_a10_1, dw_w10_1, dw_a10_2, dw_w10_2, dw_a11, dw_w11, dw_a12, dw_w12, dw_a13, dw_w13, dw_a14, dw_w14, dw_a15, dw_w15, dw_a16, dw_w16, dw_a17, dw_w17, dw_a17_0, dw_w17_0, dw_a18, dw_w18, dw_a18_0, dw_w18_0, dw_a18_1, dw_w18_1, dw_a18_2, dw_w18_2, dw_a18_3, dw_w18_3, dw_a18_4, dw_w18_4, dw_a18_5, dw_w18_5, dw_a19, dw_w19, dw_a19_24, dw_w19_24, dw_a20, dw_w20, s2, ea]); first | with_reducible rw [bnd_s] | with_reducible rw [bn2_s] | with_reducible rw [grd_t]))
    rw [e1]
    by_cases d5 : za - i' < n'
    · rw [if_pos (show nI (za - i') < nI n' from nI_lt d5 hn')]
      exact no (P := True) (fun i2 n2 j2 e1 e2 e3 e4 e5 => by
        rw [nI_eq hi' (by omega)] at e1
        rw [nI_eq hn' (by omega)] at e2
        omega)
    rw [if_neg (show ¬ nI (za - i') < nI n' from nI_nlt (by omega) (by omega))]
    repeat (first | with_reducible rw [bnd_s] | with_reducible rw [nmd_s] | with_reducible rw [bn2_s] | with_reducible rw [grd_t] | ((conv => arg 1; arg 1; simp (disch := omega) only [dw_is, dw_f0, dw_t0, dw_f9, dw_t9, dw_f12, dw_t12, dw_f13, dw_t13, dw_f14, dw_t14, dw_f22, dw_t22, dw_f23, dw_t23, dw_f24, dw_t24, dw_f25, dw_t25, dw_f28, dw_t28, dw_f29, dw_t29, dw_f30, dw_t30, dw_f35, dw_t35, dw_f7, dw_t7, dw_f5, dw_t5, dw_f6, dw_t6, dw_f1, dw_f2, dw_f3, dw_f4, dw_f8, dw_f10, dw_f11, dw_f15, dw_f16, dw_f17, dw_f18, dw_f19, dw_f20, dw_f21, dw_f26, dw_f27, dw_f31, dw_f32, dw_f33, dw_f34, dw_a1, dw_w1, dw_a2, dw_w2, dw_a3, dw_w3, dw_a4, dw_w4, dw_a5, dw_w5, dw_a6, dw_w6, dw_a7, dw_w7, dw_a8, dw_w8, dw_a9_0, dw_s9_0, dw_a9_1, dw_s9_1, dw_a10, dw_w10, dw_a10_0, dw_w10_0, dw_a10_1, dw_w10_1, dw_a10_2, dw_w10_2, dw_a11, dw_w11, dw_a12, dw_w12, dw_a13, dw_w13, dw_a14, dw_w14, dw_a15, dw_w15, dw_a16, dw_w16, dw_a17, dw_w17, dw_a17_0, dw_w17_0, dw_a18, dw_w18, dw_a18_0, dw_w18_0, dw_a18_1, dw_w18_1, dw_a18_2, dw_w18_2, dw_a18_3, dw_w18_3, dw_a18_4, dw_w18_4, dw_a18_5, dw_w18_5, dw_a19, dw_w19, dw_a19_24, dw_w19_24, dw_a20, dw_w20, t2, eo]); first | with_reducible rw [bnd_s] | with_reducible rw [bn2_s] | with_reducible rw [grd_t]))
    rw [e2]
    by_cases d6 : n' ≤ zo - j'
    · rw [if_pos (show nI n' ≤ nI (zo - j') from nI_le d6 (by omega))]
      repeat (first | with_reducible rw [bnd_s] | with_reducible rw [nmd_s] | with_reducible rw [bn2_s] | with_reducible rw [grd_t] | ((conv => arg 1; arg 1; simp (disch := omega) only [dw_is, dw_f0, dw_t0, dw_f9, dw_t9, dw_f12, dw_t12, dw_f13, dw_t13, dw_f14, dw_t14, dw_f22, dw_t22, dw_f23, dw_t23, dw_f24, dw_t24, dw_f25, dw_t25, dw_f28, dw_t28, dw_f29, dw_t29, dw_f30, dw_t30, dw_f35, dw_t35, dw_f7, dw_t7, dw_f5, dw_t5, dw_f6, dw_t6, dw_f1, dw_f2, dw_f3, dw_f4, dw_f8, dw_f10, dw_f11, dw_f15, dw_f16, dw_f17, dw_f18, dw_f19, dw_f20, dw_f21, dw_f26, dw_f27, dw_f31, dw_f32, dw_f33, dw_f34, dw_a1, dw_w1, dw_a2, dw_w2, dw_a3, dw_w3, dw_a4, dw_w4, dw_a5, dw_w5, dw_a6, dw_w6, dw_a7, dw_w7, dw_a8, dw_w8, dw_a9_0, dw_s9_0, dw_a9_1, dw_s9_1, dw_a10, dw_w10, dw_a10_0, dw_w10_0, dw_a10_1, dw_w10_1, dw_a10_2, dw_w10_2, dw_a11, dw_w11, dw_a12, dw_w12, dw_a13, dw_w13, dw_a14, dw_w14, dw_a15, dw_w15, dw_a16, dw_w16, dw_a17, dw_w17, dw_a17_0, dw_w17_0, dw_a18, dw_w18, dw_a18_0, dw_w18_0, dw_a18_1, dw_w18_1, dw_a18_2, dw_w18_2, dw_a18_3, dw_w18_3, dw_a18_4, dw_w18_4, dw_a18_5, dw_w18_5, dw_a19, dw_w19, dw_a19_24, dw_w19_24, dw_a20, dw_w20, dw_40, nI_add]); first | with_reducible rw [bnd_s] | with_reducible rw [bn2_s] | with_reducible rw [grd_t]))
      obtain ⟨X', x1, x2, x3, x4⟩ := dw_Mcopy147 (X := X) (R := R) (G := G) (S := S) (N := N) (y := nI yy) (a := 40 * q + i') (b := 40 * p + j') (n := n') (by omega) (by omega)
      rw [dw_40, dw_40, nI_add, nI_add, x1, if_pos (show (dw_plb (nI i') (nI n') (nI za) && dw_plb (nI j') (nI n') (nI zo)) = true by
        rw [(dw_plb_iff (by omega)).mpr ⟨i', n', rfl, rfl, by omega⟩, (dw_plb_iff (by omega)).mpr ⟨j', n', rfl, rfl, by omega⟩]
        rfl), dw_N_nI (by omega), dw_N_nI (by omega), dw_N_nI (by omega)]
      refine dw_Go_Bs o1 h ⟨X', R, G, S, N, rfl, x2, fun k hk => ?_, fun _ _ => rfl, fun _ _ => rfl⟩
      obtain ⟨u1, u2, u3⟩ := h11 k hk
      refine ⟨(x3 11 k (by decide)).trans u1, (x3 12 k (by decide)).trans u2, fun x hx => ?_⟩
      show _ = (if k = p ∧ j' ≤ x ∧ x < j' + n' then H.2.2 q (i' + (x - j')) else H.2.2 k x)
      rw [x4]
      by_cases c : k = p ∧ j' ≤ x ∧ x < j' + n'
      · rw [if_pos c, if_pos (by omega), show 40 * q + i' + (40 * k + x - (40 * p + j')) = 40 * q + (i' + (x - j')) by omega, s3 _ (by omega)]
      · rw [if_neg c, if_neg (fun q => c (by omega)), u3 x hx]
    · rw [if_neg (show ¬ nI n' ≤ nI (zo - j') from nI_ge (by omega) (by omega))]
      exact no (P := True) (fun i2 n2 j2 e1 e2 e3 e4 e5 => by
        rw [nI_eq hj' (by omega)] at e3
        rw [nI_eq hn' (by omega)] at e2
        omega)
  · rw [if_neg c4, if_neg c4]
    exact dw_Go_id h
theorem dw_odune_H (σ : dw_S) (k a : Int32) : (dw_odune σ k a).1.2.2.2.2 = σ.2.2.2.2 := by
  obtain ⟨⟨m, s, yy, ho, cl, r⟩, T, P, im, H⟩ := σ
  rw [dw_odune]
  by_cases c0 : dw_in k 0 59 = 0
  · rw [if_pos c0]
  rw [if_neg c0]
  by_cases c1 : dw_in a 0 399099 = 0
  · rw [if_pos c1]
  rw [if_neg c1]
  by_cases c2 : 100 ≤ dw_N a % 1000
  · rw [if_pos c2]
  rw [if_neg c2]
  by_cases c3 : dw_N a / 1000 % 10 = 0
  · rw [if_pos c3]
  rw [if_neg c3]
  by_cases c4 : m = 6
  · rw [if_pos c4]
  rw [if_neg c4]
theorem dw_Mdby64 {q z n : Nat} (hq : q < 4) (hz : z ≤ 40) (hn : n ≤ 6) (fr : Int32) (f k : Nat) : ∀ (i : Nat) (σ : dw_S) (X : dw_X) (R G S N : Nat → Int32) (v : Int32), i + k = n → (0 < i → ¬ fr < 0) → dw_RX X R G σ → dw_Ok σ → σ.2.2.2.2 = H → H.2.1 q = nI z → dw_Go (M_dunesBy_64 (f + k + 1) (dw_mk X R G S N (nI σ.1.2.2.1)) 0 (nI q) fr (nI n) v (nI i)) (dw_dby (H.2.2 q) (nI z) fr k i σ v).1 (dw_dby (H.2.2 q) (nI z) fr k i σ v).2 := by
  induction k with
  | zero =>
    intro i σ X R G S N v hi hfr h ok hH hHz
    rw [M_dunesBy_64, if_pos (show nI n ≤ nI i from nI_le (by omega) (by omega)), dw_dby]
    exact dw_Go_id h
  | succ k ih =>
    intro i σ X R G S N v hi hfr h ok hH hHz
    obtain ⟨⟨m, s, yy, ho, cl, r⟩, ⟨tx, wt⟩, ⟨tp, tb⟩, im, H'⟩ := σ
    obtain rfl : H' = H := hH
    have h11 : dw_SH X H' := h.2.2.2.2.2.2.2.2.2.2
    obtain ⟨t1, t2, t3⟩ := h11 q hq
    rw [show f + (k + 1) + 1 = f + k + 1 + 1 by omega, M_dunesBy_64, if_neg (show ¬ nI n ≤ nI i from nI_ge (by omega) (by omega)), dw_dby, nmd_s, dw_2]
    have no : ¬ dw_plb (fr + nI (2 * i)) 2 (nI z) = true → dw_Go (some (dw_mk X R G S N (nI yy), (-12 : Int32))) (if dw_plb (fr + nI (2 * i)) 2 (nI z) = true then dw_dby (H'.2.2 q) (nI z) fr k (i + 1) (dw_odune ((m, s, yy, ho, cl, r), (tx, wt), (tp, tb), im, H') (H'.2.2 q (dw_N fr + 2 * i)) (H'.2.2 q (dw_N fr + 2 * i + 1))).1 (if (dw_odune ((m, s, yy, ho, cl, r), (tx, wt), (tp, tb), im, H') (H'.2.2 q (dw_N fr + 2 * i)) (H'.2.2 q (dw_N fr + 2 * i + 1))).2 < 0 then v else v + 1) else (((m, s, yy, ho, cl, r), (tx, wt), (tp, tb), im, H'), -12)).1 (if dw_plb (fr + nI (2 * i)) 2 (nI z) = true then dw_dby (H'.2.2 q) (nI z) fr k (i + 1) (dw_odune ((m, s, yy, ho, cl, r), (tx, wt), (tp, tb), im, H') (H'.2.2 q (dw_N fr + 2 * i)) (H'.2.2 q (dw_N fr + 2 * i + 1))).1 (if (dw_odune ((m, s, yy, ho, cl, r), (tx, wt), (tp, tb), im, H') (H'.2.2 q (dw_N fr + 2 * i)) (H'.2.2 q (dw_N fr + 2 * i + 1))).2 < 0 then v else v + 1) else (((m, s, yy, ho, cl, r), (tx, wt), (tp, tb), im, H'), -12)).2 := by
      intro hno
      rw [if_neg hno]
      exact dw_Go_id h
    by_cases c0 : fr < 0
    · rw [if_pos c0]
      refine no (fun hq => ?_)
      obtain ⟨i', n', e1, e2, e3⟩ := (dw_plb_iff (by omega)).mp hq
      rcases Nat.eq_zero_or_pos i with i0 | i0
      · subst i0
        have e4 : fr = nI i' := by
          rw [← e1]
          show fr = fr + 0
          exact (Int32.add_zero fr).symm
        exact nI_pos (by omega) (e4 ▸ c0)
      · exact hfr i0 c0
    rw [if_neg c0]
    obtain ⟨a, ha, rfl⟩ := nI_of c0
    rw [nI_add, dw_N_nI ha]
    rw [nI_add, dw_N_nI ha] at no
    by_cases c1 : nI (a + 2 * i) < nI a
    · rw [if_pos c1]
      refine no (fun hq => ?_)
      obtain ⟨i', n', e1, e2, e3⟩ := (dw_plb_iff (by omega)).mp hq
      rw [e1] at c1
      rcases Nat.lt_or_ge (a + 2 * i) (2 ^ 31) with c | c
      · rw [← e1] at c1
        exact nI_nlt (by omega) c c1
      · have hi' : i' < 2 ^ 31 := by omega
        rw [nI_ltI hi' ha] at c1
        have e5 := congrArg Int32.toInt e1
        rw [nI_toInt hi'] at e5
        have e6 : (nI (a + 2 * i)).toInt = ((a + 2 * i : Nat) : Int).bmod (2 ^ 32) := by
          rw [← nI_add, Int32.toInt_add, nI_toInt ha, nI_toInt (show 2 * i < 2 ^ 31 by omega)]
          rfl
        rw [e6] at e5
        have e7 : ((a + 2 * i : Nat) : Int).bmod (2 ^ 32) = ((a + 2 * i : Nat) : Int) - 4294967296 := dw_wrap (by omega) (by omega)
        omega
    rw [if_neg c1]
    have hlt : a + 2 * i < 2 ^ 31 := by
      rcases Nat.lt_or_ge (a + 2 * i) (2 ^ 31) with c | c
      · exact c
      · exfalso
        apply c1
        have e6 : (nI (a + 2 * i)).toInt = ((a + 2 * i : Nat) : Int).bmod (2 ^ 32) := by
          rw [← nI_add, Int32.toInt_add, nI_toInt ha, nI_toInt (show 2 * i < 2 ^ 31 by omega)]
          rfl
        have e7 : ((a + 2 * i : Nat) : Int).bmod (2 ^ 32) = ((a + 2 * i : Nat) : Int) - 4294967296 := dw_wrap (by omega) (by omega)
        rw [fa_lt, e6, e7, nI_toInt ha]
        omega
    repeat (first | with_reducible rw [bnd_s] | with_reducible rw [nmd_s] | with_reducible rw [bn2_s] | with_reducible rw [grd_t] | ((conv => arg 1; arg 1; simp (disch := omega) only [dw_is, dw_f0, dw_t0, dw_f9, dw_t9, dw_f12, dw_t12, dw_f13, dw_t13, dw_f14, dw_t14, dw_f22, dw_t22, dw_f23, dw_t23, dw_f24, dw_t24, dw_f25, dw_t25, dw_f28, dw_t28, dw_f29, dw_t29, dw_f30, dw_t30, dw_f35, dw_t35, dw_f7, dw_t7, dw_f5, dw_t5, dw_f6, dw_t6, dw_f1, dw_f2, dw_f3, dw_f4, dw_f8, dw_f10, dw_f11, dw_f15, dw_f16, dw_f17, dw_f18, dw_f19, dw_f20, dw_f21, dw_f26, dw_f27, dw_f31, dw_f32, dw_f33, dw_f34, dw_a1, dw_w1, dw_a2, dw_w2, dw_a3, dw_w3, dw_a4, dw_w4, dw_a5, dw_w5, dw_a6, dw_w6, dw_a7, dw_w7, dw_a8, dw_w8, dw_a9_0, dw_s9_0, dw_a9_1, dw_s9_1, dw_a10, dw_w10, dw_a10_0, dw_w10_0, dw_a10_1, dw_w10_1, dw_a10_2, dw_w10_2, dw_a11, dw_w11, dw_a12, dw_w12, dw_a13, dw_w13, dw_a14, dw_w14, dw_a15, dw_w15, dw_a16, dw_w16, dw_a17, dw_w17, dw_a17_0, dw_w17_0, dw_a18, dw_w18, dw_a18_0, dw_w18_0, dw_a18_1, dw_w18_1, dw_a18_2, dw_w18_2, dw_a18_3, dw_w18_3, dw_a18_4, dw_w18_4, dw_a18_5, dw_w18_5, dw_a19, dw_w19, dw_a19_24, dw_w19_24, dw_a20, dw_w20, t2, hHz]); first | with_reducible rw [bnd_s] | with_reducible rw [bn2_s] | with_reducible rw [grd_t]))
    have hz2 : (nI z - 2).toInt = (z : Int) - 2 := by
      rw [show (2 : Int32) = nI 2 from rfl]
      exact pk_sub_toInt (by omega) (by decide)
    by_cases c2 : a + 2 * i + 2 ≤ z
    · rw [if_pos (show nI (a + 2 * i) ≤ nI z - 2 by rw [fa_le, hz2, nI_toInt hlt]; omega), if_pos (show dw_plb (nI (a + 2 * i)) 2 (nI z) = true from (dw_plb_iff (by omega)).mpr ⟨a + 2 * i, 2, rfl, rfl, c2⟩)]
      have d1 := t3 (a + 2 * i) (by omega)
      have d2 := t3 (a + 2 * i + 1) (by omega)
      rw [← Nat.add_assoc] at d2
      repeat (first | with_reducible rw [bnd_s] | with_reducible rw [nmd_s] | with_reducible rw [bn2_s] | with_reducible rw [grd_t] | ((conv => arg 1; arg 1; simp (disch := omega) only [dw_is, dw_f0, dw_t0, dw_f9, dw_t9, dw_f12, dw_t12, dw_f13, dw_t13, dw_f14, dw_t14, dw_f22, dw_t22, dw_f23, dw_t23, dw_f24, dw_t24, dw_f25, dw_t25, dw_f28, dw_t28, dw_f29, dw_t29, dw_f30, dw_t30, dw_f35, dw_t35, dw_f7, dw_t7, dw_f5, dw_t5, dw_f6, dw_t6, dw_f1, dw_f2, dw_f3, dw_f4, dw_f8, dw_f10, dw_f11, dw_f15, dw_f16, dw_f17, dw_f18, dw_f19, dw_f20, dw_f21, dw_f26, dw_f27, dw_f31, dw_f32, dw_f33, dw_f34, dw_a1, dw_w1, dw_a2, dw_w2, dw_a3, dw_w3, dw_a4, dw_w4, dw_a5, dw_w5, dw_a6, dw_w6, dw_a7, dw_w7, dw_a8, dw_w8, dw_a9_0, dw_s9_0, dw_a9_1, dw_s9_1, dw_a10, dw_w10, dw_a10_0, dw_w10_0, dw_a10_1, dw_w10_1, dw_a10_2, dw_w10_2, dw_a11, dw_w11, dw_a12, dw_w12, dw_a13, dw_w13, dw_a14, dw_w14, dw_a15, dw_w15, dw_a16, dw_w16, dw_a17, dw_w17, dw_a17_0, dw_w17_0, dw_a18, dw_w18, dw_a18_0, dw_w18_0, dw_a18_1, dw_w18_1, dw_a18_2, dw_w18_2, dw_a18_3, dw_w18_3, dw_a18_4, dw_w18_4, dw_a18_5, dw_w18_5, dw_a19, dw_w19, dw_a19_24, dw_w19_24, dw_a20, dw_w20, dw_40, nI_add, nI_1, d1, d2]); first | with_reducible rw [bnd_s] | with_reducible rw [bn2_s] | with_reducible rw [grd_t]))
      obtain ⟨X', R', G', S', N', g1, g2⟩ := dw_Mdune_ (S := S) (N := N) h ok (H'.2.2 q (a + 2 * i)) (H'.2.2 q (a + 2 * i + 1))
      repeat (first | with_reducible rw [bnd_s] | with_reducible rw [nmd_s] | with_reducible rw [bn2_s] | with_reducible rw [grd_t] | ((conv => arg 1; arg 1; simp (disch := omega) only [dw_is, dw_f0, dw_t0, dw_f9, dw_t9, dw_f12, dw_t12, dw_f13, dw_t13, dw_f14, dw_t14, dw_f22, dw_t22, dw_f23, dw_t23, dw_f24, dw_t24, dw_f25, dw_t25, dw_f28, dw_t28, dw_f29, dw_t29, dw_f30, dw_t30, dw_f35, dw_t35, dw_f7, dw_t7, dw_f5, dw_t5, dw_f6, dw_t6, dw_f1, dw_f2, dw_f3, dw_f4, dw_f8, dw_f10, dw_f11, dw_f15, dw_f16, dw_f17, dw_f18, dw_f19, dw_f20, dw_f21, dw_f26, dw_f27, dw_f31, dw_f32, dw_f33, dw_f34, dw_a1, dw_w1, dw_a2, dw_w2, dw_a3, dw_w3, dw_a4, dw_w4, dw_a5, dw_w5, dw_a6, dw_w6, dw_a7, dw_w7, dw_a8, dw_w8, dw_a9_0, dw_s9_0, dw_a9_1, dw_s9_1, dw_a10, dw_w10, dw_a10_0, dw_w10_0, dw_a10_1, dw_w10_1, dw_a10_2, dw_w10_2, dw_a11, dw_w11, dw_a12, dw_w12, dw_a13, dw_w13, dw_a14, dw_w14, dw_a15, dw_w15, dw_a16, dw_w16, dw_a17, dw_w17, dw_a17_0, dw_w17_0, dw_a18, dw_w18, dw_a18_0, dw_w18_0, dw_a18_1, dw_w18_1, dw_a18_2, dw_w18_2, dw_a18_3, dw_w18_3, dw_a18_4, dw_w18_4, dw_a18_5, dw_w18_5, dw_a19, dw_w19, dw_a19_24, dw_w19_24, dw_a20, dw_w20, g1]); first | with_reducible rw [bnd_s] | with_reducible rw [bn2_s] | with_reducible rw [grd_t]))
      have ok' := dw_Odune ok (H'.2.2 q (a + 2 * i)) (H'.2.2 q (a + 2 * i + 1))
      have hH' := dw_odune_H ((m, s, yy, ho, cl, r), (tx, wt), (tp, tb), im, H') (H'.2.2 q (a + 2 * i)) (H'.2.2 q (a + 2 * i + 1))
      by_cases c3 : (dw_odune ((m, s, yy, ho, cl, r), (tx, wt), (tp, tb), im, H') (H'.2.2 q (a + 2 * i)) (H'.2.2 q (a + 2 * i + 1))).2 < 0
      · rw [if_pos c3, if_pos c3, M_dunesBy_144, nmd_s, nmd_s, nI_1, Int32.add_zero]
        exact ih (i + 1) _ X' R' G' S' N' v (by omega) (fun _ => c0) g2 ok' hH' hHz
      · rw [if_neg c3, if_neg c3, M_dunesBy_144, nmd_s, nmd_s, nI_1]
        exact ih (i + 1) _ X' R' G' S' N' (v + 1) (by omega) (fun _ => c0) g2 ok' hH' hHz
    · rw [if_neg (show ¬ nI (a + 2 * i) ≤ nI z - 2 by rw [fa_le, hz2, nI_toInt hlt]; omega)]
      refine no (fun hq => ?_)
      obtain ⟨i', n', e1, e2, e3⟩ := (dw_plb_iff (by omega)).mp hq
      rw [nI_eq hlt (by omega)] at e1
      have e5 : n' = 2 := ((nI_eq (a := 2) (by decide) (by omega)).mp e2).symm
      omega
theorem dw_Mdby_ (h : dw_RX X R G ((m, s, yy, ho, cl, r), (tx, wt), (tp, tb), im, H)) (ok : dw_Ok ((m, s, yy, ho, cl, r), (tx, wt), (tp, tb), im, H)) (a sort fr n : Int32) : dw_Go (M_dunesBy (dw_mk X R G S N (nI yy)) 0 a sort fr n) (dw_odby ((m, s, yy, ho, cl, r), (tx, wt), (tp, tb), im, H) a sort fr n).1 (dw_odby ((m, s, yy, ho, cl, r), (tx, wt), (tp, tb), im, H) a sort fr n).2 := by
  have h11 : dw_SH X H := h.2.2.2.2.2.2.2.2.2.2
  rw [M_dunesBy, dw_odby]
  repeat (first | with_reducible rw [bnd_s] | with_reducible rw [nmd_s] | with_reducible rw [bn2_s] | with_reducible rw [grd_t] | ((conv => arg 1; arg 1; simp (disch := omega) only [dw_is, dw_f0, dw_t0, dw_f9, dw_t9, dw_f12, dw_t12, dw_f13, dw_t13, dw_f14, dw_t14, dw_f22, dw_t22, dw_f23, dw_t23, dw_f24, dw_t24, dw_f25, dw_t25, dw_f28, dw_t28, dw_f29, dw_t29, dw_f30, dw_t30, dw_f35, dw_t35, dw_f7, dw_t7, dw_f5, dw_t5, dw_f6, dw_t6, dw_f1, dw_f2, dw_f3, dw_f4, dw_f8, dw_f10, dw_f11, dw_f15, dw_f16, dw_f17, dw_f18, dw_f19, dw_f20, dw_f21, dw_f26, dw_f27, dw_f31, dw_f32, dw_f33, dw_f34, dw_a1, dw_w1, dw_a2, dw_w2, dw_a3, dw_w3, dw_a4, dw_w4, dw_a5, dw_w5, dw_a6, dw_w6, dw_a7, dw_w7, dw_a8, dw_w8, dw_a9_0, dw_s9_0, dw_a9_1, dw_s9_1, dw_a10, dw_w10, dw_a10_0, dw_w10_0, dw_a10_1, dw_w10_1, dw_a10_2, dw_w10_2, dw_a11, dw_w11, dw_a12, dw_w12, dw_a13, dw_w13, dw_a14, dw_w14, dw_a15, dw_w15, dw_a16, dw_w16, dw_a17, dw_w17, dw_a17_0, dw_w17_0, dw_a18, dw_w18, dw_a18_0, dw_w18_0, dw_a18_1, dw_w18_1, dw_a18_2, dw_w18_2, dw_a18_3, dw_w18_3, dw_a18_4, dw_w18_4, dw_a18_5, dw_w18_5, dw_a19, dw_w19, dw_a19_24, dw_w19_24, dw_a20, dw_w20, dw_Min]); first | with_reducible rw [bnd_s] | with_reducible rw [bn2_s] | with_reducible rw [grd_t]))
  by_cases c0 : dw_in a 0 3 = 0
  · rw [if_pos c0, if_pos c0]
    exact dw_Go_id h
  rw [if_neg c0, if_neg c0]
  repeat (first | with_reducible rw [bnd_s] | with_reducible rw [nmd_s] | with_reducible rw [bn2_s] | with_reducible rw [grd_t] | ((conv => arg 1; arg 1; simp (disch := omega) only [dw_is, dw_f0, dw_t0, dw_f9, dw_t9, dw_f12, dw_t12, dw_f13, dw_t13, dw_f14, dw_t14, dw_f22, dw_t22, dw_f23, dw_t23, dw_f24, dw_t24, dw_f25, dw_t25, dw_f28, dw_t28, dw_f29, dw_t29, dw_f30, dw_t30, dw_f35, dw_t35, dw_f7, dw_t7, dw_f5, dw_t5, dw_f6, dw_t6, dw_f1, dw_f2, dw_f3, dw_f4, dw_f8, dw_f10, dw_f11, dw_f15, dw_f16, dw_f17, dw_f18, dw_f19, dw_f20, dw_f21, dw_f26, dw_f27, dw_f31, dw_f32, dw_f33, dw_f34, dw_a1, dw_w1, dw_a2, dw_w2, dw_a3, dw_w3, dw_a4, dw_w4, dw_a5, dw_w5, dw_a6, dw_w6, dw_a7, dw_w7, dw_a8, dw_w8, dw_a9_0, dw_s9_0, dw_a9_1, dw_s9_1, dw_a10, dw_w10, dw_a10_0, dw_w10_0, dw_a10_1, dw_w10_1, dw_a10_2, dw_w10_2, dw_a11, dw_w11, dw_a12, dw_w12, dw_a13, dw_w13, dw_a14, dw_w14, dw_a15, dw_w15, dw_a16, dw_w16, dw_a17, dw_w17, dw_a17_0, dw_w17_0, dw_a18, dw_w18, dw_a18_0, dw_w18_0, dw_a18_1, dw_w18_1, dw_a18_2, dw_w18_2, dw_a18_3, dw_w18_3, dw_a18_4, dw_w18_4, dw_a18_5, dw_w18_5, dw_a19, dw_w19, dw_a19_24, dw_w19_24, dw_a20, dw_w20, dw_Min]); first | with_reducible rw [bnd_s] | with_reducible rw [bn2_s] | with_reducible rw [grd_t]))
  by_cases c1 : dw_in sort 0 2 = 0
  · rw [if_pos c1, if_pos c1]
    exact dw_Go_id h
  rw [if_neg c1, if_neg c1]
  repeat (first | with_reducible rw [bnd_s] | with_reducible rw [nmd_s] | with_reducible rw [bn2_s] | with_reducible rw [grd_t] | ((conv => arg 1; arg 1; simp (disch := omega) only [dw_is, dw_f0, dw_t0, dw_f9, dw_t9, dw_f12, dw_t12, dw_f13, dw_t13, dw_f14, dw_t14, dw_f22, dw_t22, dw_f23, dw_t23, dw_f24, dw_t24, dw_f25, dw_t25, dw_f28, dw_t28, dw_f29, dw_t29, dw_f30, dw_t30, dw_f35, dw_t35, dw_f7, dw_t7, dw_f5, dw_t5, dw_f6, dw_t6, dw_f1, dw_f2, dw_f3, dw_f4, dw_f8, dw_f10, dw_f11, dw_f15, dw_f16, dw_f17, dw_f18, dw_f19, dw_f20, dw_f21, dw_f26, dw_f27, dw_f31, dw_f32, dw_f33, dw_f34, dw_a1, dw_w1, dw_a2, dw_w2, dw_a3, dw_w3, dw_a4, dw_w4, dw_a5, dw_w5, dw_a6, dw_w6, dw_a7, dw_w7, dw_a8, dw_w8, dw_a9_0, dw_s9_0, dw_a9_1, dw_s9_1, dw_a10, dw_w10, dw_a10_0, dw_w10_0, dw_a10_1, dw_w10_1, dw_a10_2, dw_w10_2, dw_a11, dw_w11, dw_a12, dw_w12, dw_a13, dw_w13, dw_a14, dw_w14, dw_a15, dw_w15, dw_a16, dw_w16, dw_a17, dw_w17, dw_a17_0, dw_w17_0, dw_a18, dw_w18, dw_a18_0, dw_w18_0, dw_a18_1, dw_w18_1, dw_a18_2, dw_w18_2, dw_a18_3, dw_w18_3, dw_a18_4, dw_w18_4, dw_a18_5, dw_w18_5, dw_a19, dw_w19, dw_a19_24, dw_w19_24, dw_a20, dw_w20, dw_Min]); first | with_reducible rw [bnd_s] | with_reducible rw [bn2_s] | with_reducible rw [grd_t]))
  by_cases c2 : dw_in n 0 6 = 0
  · rw [if_pos c2, if_pos c2]
    exact dw_Go_id h
  rw [if_neg c2, if_neg c2]
  obtain ⟨q, hq, rfl⟩ := dw_in_of (n := 3) rfl c0
  obtain ⟨l, hl, rfl⟩ := dw_in_of (n := 6) rfl c2
  rw [dw_N_nI (by omega), dw_N_nI (by omega)]
  obtain ⟨t1, t2, t3⟩ := h11 q (by omega)
  obtain ⟨_, z, hz, ez⟩ := ok.2.2.2.2.2.2.2 q (by omega)
  repeat (first | with_reducible rw [bnd_s] | with_reducible rw [nmd_s] | with_reducible rw [bn2_s] | with_reducible rw [grd_t] | ((conv => arg 1; arg 1; simp (disch := omega) only [dw_is, dw_f0, dw_t0, dw_f9, dw_t9, dw_f12, dw_t12, dw_f13, dw_t13, dw_f14, dw_t14, dw_f22, dw_t22, dw_f23, dw_t23, dw_f24, dw_t24, dw_f25, dw_t25, dw_f28, dw_t28, dw_f29, dw_t29, dw_f30, dw_t30, dw_f35, dw_t35, dw_f7, dw_t7, dw_f5, dw_t5, dw_f6, dw_t6, dw_f1, dw_f2, dw_f3, dw_f4, dw_f8, dw_f10, dw_f11, dw_f15, dw_f16, dw_f17, dw_f18, dw_f19, dw_f20, dw_f21, dw_f26, dw_f27, dw_f31, dw_f32, dw_f33, dw_f34, dw_a1, dw_w1, dw_a2, dw_w2, dw_a3, dw_w3, dw_a4, dw_w4, dw_a5, dw_w5, dw_a6, dw_w6, dw_a7, dw_w7, dw_a8, dw_w8, dw_a9_0, dw_s9_0, dw_a9_1, dw_s9_1, dw_a10, dw_w10, dw_a10_0, dw_w10_0, dw_a10_1, dw_w10_1, dw_a10_2, dw_w10_2, dw_a11, dw_w11, dw_a12, dw_w12, dw_a13, dw_w13, dw_a14, dw_w14, dw_a15, dw_w15, dw_a16, dw_w16, dw_a17, dw_w17, dw_a17_0, dw_w17_0, dw_a18, dw_w18, dw_a18_0, dw_w18_0, dw_a18_1, dw_w18_1, dw_a18_2, dw_w18_2, dw_a18_3, dw_w18_3, dw_a18_4, dw_w18_4, dw_a18_5, dw_w18_5, dw_a19, dw_w19, dw_a19_24, dw_w19_24, dw_a20, dw_w20, t1]); first | with_reducible rw [bnd_s] | with_reducible rw [bn2_s] | with_reducible rw [grd_t]))
  by_cases c3 : H.1 q = -1
  · rw [if_pos c3, if_pos c3]
    exact dw_Go_id h
  rw [if_neg c3, if_neg c3]
  repeat (first | with_reducible rw [bnd_s] | with_reducible rw [nmd_s] | with_reducible rw [bn2_s] | with_reducible rw [grd_t] | ((conv => arg 1; arg 1; simp (disch := omega) only [dw_is, dw_f0, dw_t0, dw_f9, dw_t9, dw_f12, dw_t12, dw_f13, dw_t13, dw_f14, dw_t14, dw_f22, dw_t22, dw_f23, dw_t23, dw_f24, dw_t24, dw_f25, dw_t25, dw_f28, dw_t28, dw_f29, dw_t29, dw_f30, dw_t30, dw_f35, dw_t35, dw_f7, dw_t7, dw_f5, dw_t5, dw_f6, dw_t6, dw_f1, dw_f2, dw_f3, dw_f4, dw_f8, dw_f10, dw_f11, dw_f15, dw_f16, dw_f17, dw_f18, dw_f19, dw_f20, dw_f21, dw_f26, dw_f27, dw_f31, dw_f32, dw_f33, dw_f34, dw_a1, dw_w1, dw_a2, dw_w2, dw_a3, dw_w3, dw_a4, dw_w4, dw_a5, dw_w5, dw_a6, dw_w6, dw_a7, dw_w7, dw_a8, dw_w8, dw_a9_0, dw_s9_0, dw_a9_1, dw_s9_1, dw_a10, dw_w10, dw_a10_0, dw_w10_0, dw_a10_1, dw_w10_1, dw_a10_2, dw_w10_2, dw_a11, dw_w11, dw_a12, dw_w12, dw_a13, dw_w13, dw_a14, dw_w14, dw_a15, dw_w15, dw_a16, dw_w16, dw_a17, dw_w17, dw_a17_0, dw_w17_0, dw_a18, dw_w18, dw_a18_0, dw_w18_0, dw_a18_1, dw_w18_1, dw_a18_2, dw_w18_2, dw_a18_3, dw_w18_3, dw_a18_4, dw_w18_4, dw_a18_5, dw_w18_5, dw_a19, dw_w19, dw_a19_24, dw_w19_24, dw_a20, dw_w20, t1]); first | with_reducible rw [bnd_s] | with_reducible rw [bn2_s] | with_reducible rw [grd_t]))
  by_cases c4 : H.1 q = sort
  · rw [if_pos c4, if_pos c4, ez]
    have g := dw_Mdby64 (H := H) (q := q) (by omega) hz hl fr (999 - l) l 0 _ X R G S N 0 (by omega) (fun p => absurd p (Nat.lt_irrefl 0)) h ok rfl ez
    rw [show 999 - l + l + 1 = 1000 by omega] at g
    exact g
  · rw [if_neg c4, if_neg c4]
    exact dw_Go_id h
end MC
