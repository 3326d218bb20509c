/-! THE REFERENCE: yards, sand, who is there -/
def dw_WF1 (d : dw_D) : Prop := (∃ a : Nat, a < 40 ∧ d 3 = nI a) ∧ (∃ b : Nat, 1 ≤ b ∧ b < 10 ∧ d 4 = nI b) ∧ (d 6 = 0 ∨ d 6 = 1)
def dw_RR (s : dw_L) (m : Nat) (R G : Nat → Int32) : Prop := ∀ d, d < m → R (3 * d) = s d 3 ∧ R (3 * d + 1) = s d 4 ∧ R (3 * d + 2) = s d 5 ∧ G d = s d 6
def dw_KK (s : dw_L) (m : Nat) (X : dw_X) : Prop := ∀ d, d < m → dw_gA X 1 d = s d 1 ∧ dw_gA X 2 d = s d 2
section MC
variable {X : dw_X} {R G S N : Nat → Int32} {y : Int32} {s : dw_L} {m : Nat}
theorem dw_Mlies31 {d a : Nat} (hd : d < 6) (ha : a < 40) (hR : R (3 * d) = nI a) : ∀ (n b : Nat) (z : Int64), b ≤ 40 → a + 1 ≤ n + b → M_lies_31 (n + 1) (dw_mk X R G S N y) 0 (nI d) z (nI b) = some (dw_mk X R G S N y, dw_li (n + 1) (nI a) z (nI b))
  | 0, b, z, hb, h => by
    rw [M_lies_31]
    simp (disch := omega) only [bnd_s, bn2_s, grd_t, nmd_s, dw_is, dw_f0, dw_t0, dw_f9, dw_t9, dw_f12, dw_t12, dw_f13, dw_t13, dw_f14, dw_t14, dw_f22, dw_t22, dw_f23, dw_t23, dw_f24, dw_t24, dw_f25, dw_t25, dw_f28, dw_t28, dw_f29, dw_t29, dw_f30, dw_t30, dw_f35, dw_t35, dw_f7, dw_t7, dw_f5, dw_t5, dw_f6, dw_t6, dw_f1, dw_f2, dw_f3, dw_f4, dw_f8, dw_f10, dw_f11, dw_f15, dw_f16, dw_f17, dw_f18, dw_f19, dw_f20, dw_f21, dw_f26, dw_f27, dw_f31, dw_f32, dw_f33, dw_f34, dw_a1, dw_w1, dw_a2, dw_w2, dw_a3, dw_w3, dw_a4, dw_w4, dw_a5, dw_w5, dw_a6, dw_w6, dw_a7, dw_w7, dw_a8, dw_w8, dw_a9_0, dw_s9_0, dw_a9_1, dw_s9_1, dw_a10, dw_w10, dw_a10_0, dw_w10_0, dw_a10_1, dw_w10_1, dw_a10_2, dw_w10_2, dw_a11, dw_w11, dw_a12, dw_w12, dw_a13, dw_w13, dw_a14, dw_w14, dw_a15, dw_w15, dw_a16, dw_w16, dw_a17, dw_w17, dw_a17_0, dw_w17_0, dw_a18, dw_w18, dw_a18_0, dw_w18_0, dw_a18_1, dw_w18_1, dw_a18_2, dw_w18_2, dw_a18_3, dw_w18_3, dw_a18_4, dw_w18_4, dw_a18_5, dw_w18_5, dw_a19, dw_w19, dw_a19_24, dw_w19_24, dw_a20, dw_w20, dw_3, hR]
    rw [if_pos (show nI a < nI b from nI_lt (by omega) (by omega)), dw_li, if_pos (show nI a < nI b from nI_lt (by omega) (by omega))]
  | n + 1, b, z, hb, h => by
    rw [M_lies_31]
    simp (disch := omega) only [bnd_s, bn2_s, grd_t, nmd_s, dw_is, dw_f0, dw_t0, dw_f9, dw_t9, dw_f12, dw_t12, dw_f13, dw_t13, dw_f14, dw_t14, dw_f22, dw_t22, dw_f23, dw_t23, dw_f24, dw_t24, dw_f25, dw_t25, dw_f28, dw_t28, dw_f29, dw_t29, dw_f30, dw_t30, dw_f35, dw_t35, dw_f7, dw_t7, dw_f5, dw_t5, dw_f6, dw_t6, dw_f1, dw_f2, dw_f3, dw_f4, dw_f8, dw_f10, dw_f11, dw_f15, dw_f16, dw_f17, dw_f18, dw_f19, dw_f20, dw_f21, dw_f26, dw_f27, dw_f31, dw_f32, dw_f33, dw_f34, dw_a1, dw_w1, dw_a2, dw_w2, dw_a3, dw_w3, dw_a4, dw_w4, dw_a5, dw_w5, dw_a6, dw_w6, dw_a7, dw_w7, dw_a8, dw_w8, dw_a9_0, dw_s9_0, dw_a9_1, dw_s9_1, dw_a10, dw_w10, dw_a10_0, dw_w10_0, dw_a10_1, dw_w10_1, dw_a10_2, dw_w10_2, dw_a11, dw_w11, dw_a12, dw_w12, dw_a13, dw_w13, dw_a14, dw_w14, dw_a15, dw_w15, dw_a16, dw_w16, dw_a17, dw_w17, dw_a17_0, dw_w17_0, dw_a18, dw_w18, dw_a18_0, dw_w18_0, dw_a18_1, dw_w18_1, dw_a18_2, dw_w18_2, dw_a18_3, dw_w18_3, dw_a18_4, dw_w18_4, dw_a18_5, dw_w18_5, dw_a19, dw_w19, dw_a19_24, dw_w19_24, dw_a20, dw_w20, dw_3, hR]
    rw [dw_li]
    by_cases hc : a < b
    · rw [if_pos (show nI a < nI b from nI_lt (by omega) (by omega)), if_pos (show nI a < nI b from nI_lt (by omega) (by omega))]
    · rw [if_neg (show ¬ nI a < nI b from nI_nlt (by omega) (by omega)), if_neg (show ¬ nI a < nI b from nI_nlt (by omega) (by omega)), nI_1]
      exact dw_Mlies31 hd ha hR n (b + 1) _ (by omega) (by omega)
theorem dw_Mlies {d : Nat} (hd : d < 6) {e : dw_D} (hw : dw_WF1 e) (h3 : R (3 * d) = e 3) (h4 : R (3 * d + 1) = e 4) : M_lies (dw_mk X R G S N y) 0 (nI d) = some (dw_mk X R G S N y, dw_yds (e 3) (e 4)) := by
  obtain ⟨⟨a, ha, e3⟩, ⟨b, hb, hb2, e4⟩, _⟩ := hw
  rw [e3] at h3 ⊢
  rw [e4] at h4 ⊢
  unfold M_lies
  simp (disch := omega) only [bnd_s, bn2_s, grd_t, nmd_s, dw_is, dw_f0, dw_t0, dw_f9, dw_t9, dw_f12, dw_t12, dw_f13, dw_t13, dw_f14, dw_t14, dw_f22, dw_t22, dw_f23, dw_t23, dw_f24, dw_t24, dw_f25, dw_t25, dw_f28, dw_t28, dw_f29, dw_t29, dw_f30, dw_t30, dw_f35, dw_t35, dw_f7, dw_t7, dw_f5, dw_t5, dw_f6, dw_t6, dw_f1, dw_f2, dw_f3, dw_f4, dw_f8, dw_f10, dw_f11, dw_f15, dw_f16, dw_f17, dw_f18, dw_f19, dw_f20, dw_f21, dw_f26, dw_f27, dw_f31, dw_f32, dw_f33, dw_f34, dw_a1, dw_w1, dw_a2, dw_w2, dw_a3, dw_w3, dw_a4, dw_w4, dw_a5, dw_w5, dw_a6, dw_w6, dw_a7, dw_w7, dw_a8, dw_w8, dw_a9_0, dw_s9_0, dw_a9_1, dw_s9_1, dw_a10, dw_w10, dw_a10_0, dw_w10_0, dw_a10_1, dw_w10_1, dw_a10_2, dw_w10_2, dw_a11, dw_w11, dw_a12, dw_w12, dw_a13, dw_w13, dw_a14, dw_w14, dw_a15, dw_w15, dw_a16, dw_w16, dw_a17, dw_w17, dw_a17_0, dw_w17_0, dw_a18, dw_w18, dw_a18_0, dw_w18_0, dw_a18_1, dw_w18_1, dw_a18_2, dw_w18_2, dw_a18_3, dw_w18_3, dw_a18_4, dw_w18_4, dw_a18_5, dw_w18_5, dw_a19, dw_w19, dw_a19_24, dw_w19_24, dw_a20, dw_w20, dw_3, nI_1, h3, h4, dw_Mbd]
  obtain ⟨c, hc, hcc⟩ := dw_bd_nI (x := nI a - nI b + 1) (M := 39) (n := 39) rfl (by decide)
  rw [hcc, dw_Mlies31 hd ha h3 999 c 0 (by omega) (by omega), dw_li_more (999 + 1) 41 a c 0 (by omega) (by omega) (by omega) (by omega), ← hcc, dw_li_yds a ha b hb2 hb]
theorem dw_MisDune {d : Int32} (hm : dw_gI X 0 = nI m) (hm6 : m ≤ 6) : M_isDune (dw_mk X R G S N y) 0 d = some (dw_mk X R G S N y, 0) ∧ (∀ j, j < m → d = nI j → G j ≠ 0) ∨ ∃ j, j < m ∧ d = nI j ∧ G j = 0 ∧ M_isDune (dw_mk X R G S N y) 0 d = some (dw_mk X R G S N y, 1) := by
  unfold M_isDune
  simp only [bnd_s, bn2_s, grd_t, nmd_s, dw_is, dw_f0, dw_t0, dw_f9, dw_t9, dw_f12, dw_t12, dw_f13, dw_t13, dw_f14, dw_t14, dw_f22, dw_t22, dw_f23, dw_t23, dw_f24, dw_t24, dw_f25, dw_t25, dw_f28, dw_t28, dw_f29, dw_t29, dw_f30, dw_t30, dw_f35, dw_t35, dw_f7, dw_t7, dw_f5, dw_t5, dw_f6, dw_t6, dw_f1, dw_f2, dw_f3, dw_f4, dw_f8, dw_f10, dw_f11, dw_f15, dw_f16, dw_f17, dw_f18, dw_f19, dw_f20, dw_f21, dw_f26, dw_f27, dw_f31, dw_f32, dw_f33, dw_f34, dw_a1, dw_w1, dw_a2, dw_w2, dw_a3, dw_w3, dw_a4, dw_w4, dw_a5, dw_w5, dw_a6, dw_w6, dw_a7, dw_w7, dw_a8, dw_w8, dw_a9_0, dw_s9_0, dw_a9_1, dw_s9_1, dw_a10, dw_w10, dw_a10_0, dw_w10_0, dw_a10_1, dw_w10_1, dw_a10_2, dw_w10_2, dw_a11, dw_w11, dw_a12, dw_w12, dw_a13, dw_w13, dw_a14, dw_w14, dw_a15, dw_w15, dw_a16, dw_w16, dw_a17, dw_w17, dw_a17_0, dw_w17_0, dw_a18, dw_w18, dw_a18_0, dw_w18_0, dw_a18_1, dw_w18_1, dw_a18_2, dw_w18_2, dw_a18_3, dw_w18_3, dw_a18_4, dw_w18_4, dw_a18_5, dw_w18_5, dw_a19, dw_w19, dw_a19_24, dw_w19_24, dw_a20, dw_w20, dw_Min, hm]
  by_cases h : dw_in d 0 (nI m - 1) = 0
  · left
    rw [if_pos h]
    refine ⟨rfl, ?_⟩
    intro j hj e
    exfalso
    subst e
    have hm2 : nI m - 1 = nI (m - 1) := by
      have h9 := dw_m1 (m - 1)
      rwa [show m - 1 + 1 = m by omega] at h9
    rw [hm2, dw_in_nI (by omega) (by omega)] at h
    exact absurd h (by decide)
  · have hm0 : 0 < m := by
      rcases Nat.eq_zero_or_pos m with h0 | h0
      · subst h0
        exfalso
        apply h
        unfold dw_in
        by_cases h1 : d < 0
        · rw [if_pos h1]
        · rw [if_neg h1, if_pos]
          obtain ⟨j, hj, rfl⟩ := nI_of h1
          rw [fa_lt, nI_toInt hj]
          have h2 : (nI 0 - 1).toInt = -1 := by decide
          omega
      · exact h0
    have hm2 : nI m - 1 = nI (m - 1) := by
      have h9 := dw_m1 (m - 1)
      rwa [show m - 1 + 1 = m by omega] at h9
    rw [hm2] at h
    obtain ⟨j, hj, rfl⟩ := dw_in_of (nI_toInt (by omega)) h
    rw [hm2, if_neg h]
    simp (disch := omega) only [bnd_s, bn2_s, grd_t, nmd_s, dw_is, dw_f0, dw_t0, dw_f9, dw_t9, dw_f12, dw_t12, dw_f13, dw_t13, dw_f14, dw_t14, dw_f22, dw_t22, dw_f23, dw_t23, dw_f24, dw_t24, dw_f25, dw_t25, dw_f28, dw_t28, dw_f29, dw_t29, dw_f30, dw_t30, dw_f35, dw_t35, dw_f7, dw_t7, dw_f5, dw_t5, dw_f6, dw_t6, dw_f1, dw_f2, dw_f3, dw_f4, dw_f8, dw_f10, dw_f11, dw_f15, dw_f16, dw_f17, dw_f18, dw_f19, dw_f20, dw_f21, dw_f26, dw_f27, dw_f31, dw_f32, dw_f33, dw_f34, dw_a1, dw_w1, dw_a2, dw_w2, dw_a3, dw_w3, dw_a4, dw_w4, dw_a5, dw_w5, dw_a6, dw_w6, dw_a7, dw_w7, dw_a8, dw_w8, dw_a9_0, dw_s9_0, dw_a9_1, dw_s9_1, dw_a10, dw_w10, dw_a10_0, dw_w10_0, dw_a10_1, dw_w10_1, dw_a10_2, dw_w10_2, dw_a11, dw_w11, dw_a12, dw_w12, dw_a13, dw_w13, dw_a14, dw_w14, dw_a15, dw_w15, dw_a16, dw_w16, dw_a17, dw_w17, dw_a17_0, dw_w17_0, dw_a18, dw_w18, dw_a18_0, dw_w18_0, dw_a18_1, dw_w18_1, dw_a18_2, dw_w18_2, dw_a18_3, dw_w18_3, dw_a18_4, dw_w18_4, dw_a18_5, dw_w18_5, dw_a19, dw_w19, dw_a19_24, dw_w19_24, dw_a20, dw_w20]
    by_cases hg : G j = 0
    · right
      exact ⟨j, by omega, rfl, hg, by rw [if_pos hg]⟩
    · left
      rw [if_neg hg]
      refine ⟨rfl, ?_⟩
      intro k hk e
      rw [nI_eq (by omega) (by omega)] at e
      subst e
      exact hg
theorem dw_and_comm (a b : Int64) : a &&& b = b &&& a := by
  apply Int64.toBitVec_inj.mp
  rw [Int64.toBitVec_and, Int64.toBitVec_and, BitVec.and_comm]
theorem dw_MonC {d : Nat} (hd : d < 6) {e : dw_D} (hw : dw_WF1 e) (h3 : R (3 * d) = e 3) (h4 : R (3 * d + 1) = e 4) : M_isOnClover (dw_mk X R G S N y) 0 (nI d) = some (dw_mk X R G S N y, dw_on (dw_gJ X 6) e) := by
  unfold M_isOnClover dw_on
  simp only [bnd_s, bn2_s, grd_t, nmd_s, dw_is, dw_f0, dw_t0, dw_f9, dw_t9, dw_f12, dw_t12, dw_f13, dw_t13, dw_f14, dw_t14, dw_f22, dw_t22, dw_f23, dw_t23, dw_f24, dw_t24, dw_f25, dw_t25, dw_f28, dw_t28, dw_f29, dw_t29, dw_f30, dw_t30, dw_f35, dw_t35, dw_f7, dw_t7, dw_f5, dw_t5, dw_f6, dw_t6, dw_f1, dw_f2, dw_f3, dw_f4, dw_f8, dw_f10, dw_f11, dw_f15, dw_f16, dw_f17, dw_f18, dw_f19, dw_f20, dw_f21, dw_f26, dw_f27, dw_f31, dw_f32, dw_f33, dw_f34, dw_a1, dw_w1, dw_a2, dw_w2, dw_a3, dw_w3, dw_a4, dw_w4, dw_a5, dw_w5, dw_a6, dw_w6, dw_a7, dw_w7, dw_a8, dw_w8, dw_a9_0, dw_s9_0, dw_a9_1, dw_s9_1, dw_a10, dw_w10, dw_a10_0, dw_w10_0, dw_a10_1, dw_w10_1, dw_a10_2, dw_w10_2, dw_a11, dw_w11, dw_a12, dw_w12, dw_a13, dw_w13, dw_a14, dw_w14, dw_a15, dw_w15, dw_a16, dw_w16, dw_a17, dw_w17, dw_a17_0, dw_w17_0, dw_a18, dw_w18, dw_a18_0, dw_w18_0, dw_a18_1, dw_w18_1, dw_a18_2, dw_w18_2, dw_a18_3, dw_w18_3, dw_a18_4, dw_w18_4, dw_a18_5, dw_w18_5, dw_a19, dw_w19, dw_a19_24, dw_w19_24, dw_a20, dw_w20, dw_Mlies hd hw h3 h4, lg_cmp_eq]
  by_cases h : dw_yds (e 3) (e 4) &&& dw_gJ X 6 = 0
  · rw [if_pos h, if_pos h]
  · rw [if_neg h, if_neg h]
theorem dw_Msand4 (hm : dw_gI X 0 = nI m) (hm6 : m ≤ 6) (hr : dw_RR s m R G) (hw : ∀ d, d < m → dw_WF1 (s d)) (f : Nat) : ∀ k i, i + k = m → M_sand_4 (f + k + 1) (dw_mk X R G S N y) 0 (dw_sand s i) (nI i) = some (dw_mk X R G S N y, dw_sand s m)
  | 0, i, hi => by
    rw [M_sand_4]
    simp (disch := omega) only [bnd_s, bn2_s, grd_t, nmd_s, dw_is, dw_f0, dw_t0, dw_f9, dw_t9, dw_f12, dw_t12, dw_f13, dw_t13, dw_f14, dw_t14, dw_f22, dw_t22, dw_f23, dw_t23, dw_f24, dw_t24, dw_f25, dw_t25, dw_f28, dw_t28, dw_f29, dw_t29, dw_f30, dw_t30, dw_f35, dw_t35, dw_f7, dw_t7, dw_f5, dw_t5, dw_f6, dw_t6, dw_f1, dw_f2, dw_f3, dw_f4, dw_f8, dw_f10, dw_f11, dw_f15, dw_f16, dw_f17, dw_f18, dw_f19, dw_f20, dw_f21, dw_f26, dw_f27, dw_f31, dw_f32, dw_f33, dw_f34, dw_a1, dw_w1, dw_a2, dw_w2, dw_a3, dw_w3, dw_a4, dw_w4, dw_a5, dw_w5, dw_a6, dw_w6, dw_a7, dw_w7, dw_a8, dw_w8, dw_a9_0, dw_s9_0, dw_a9_1, dw_s9_1, dw_a10, dw_w10, dw_a10_0, dw_w10_0, dw_a10_1, dw_w10_1, dw_a10_2, dw_w10_2, dw_a11, dw_w11, dw_a12, dw_w12, dw_a13, dw_w13, dw_a14, dw_w14, dw_a15, dw_w15, dw_a16, dw_w16, dw_a17, dw_w17, dw_a17_0, dw_w17_0, dw_a18, dw_w18, dw_a18_0, dw_w18_0, dw_a18_1, dw_w18_1, dw_a18_2, dw_w18_2, dw_a18_3, dw_w18_3, dw_a18_4, dw_w18_4, dw_a18_5, dw_w18_5, dw_a19, dw_w19, dw_a19_24, dw_w19_24, dw_a20, dw_w20, hm]
    rw [if_pos (show nI m ≤ nI i from nI_le (by omega) (by omega)), show i = m by omega]
  | k + 1, i, hi => by
    have ih := dw_Msand4 hm hm6 hr hw f k (i + 1) (by omega)
    obtain ⟨h3, h4, h5, h6⟩ := hr i (by omega)
    rw [M_sand_4]
    simp (disch := omega) only [bnd_s, bn2_s, grd_t, nmd_s, dw_is, dw_f0, dw_t0, dw_f9, dw_t9, dw_f12, dw_t12, dw_f13, dw_t13, dw_f14, dw_t14, dw_f22, dw_t22, dw_f23, dw_t23, dw_f24, dw_t24, dw_f25, dw_t25, dw_f28, dw_t28, dw_f29, dw_t29, dw_f30, dw_t30, dw_f35, dw_t35, dw_f7, dw_t7, dw_f5, dw_t5, dw_f6, dw_t6, dw_f1, dw_f2, dw_f3, dw_f4, dw_f8, dw_f10, dw_f11, dw_f15, dw_f16, dw_f17, dw_f18, dw_f19, dw_f20, dw_f21, dw_f26, dw_f27, dw_f31, dw_f32, dw_f33, dw_f34, dw_a1, dw_w1, dw_a2, dw_w2, dw_a3, dw_w3, dw_a4, dw_w4, dw_a5, dw_w5, dw_a6, dw_w6, dw_a7, dw_w7, dw_a8, dw_w8, dw_a9_0, dw_s9_0, dw_a9_1, dw_s9_1, dw_a10, dw_w10, dw_a10_0, dw_w10_0, dw_a10_1, dw_w10_1, dw_a10_2, dw_w10_2, dw_a11, dw_w11, dw_a12, dw_w12, dw_a13, dw_w13, dw_a14, dw_w14, dw_a15, dw_w15, dw_a16, dw_w16, dw_a17, dw_w17, dw_a17_0, dw_w17_0, dw_a18, dw_w18, dw_a18_0, dw_w18_0, dw_a18_1, dw_w18_1, dw_a18_2, dw_w18_2, dw_a18_3, dw_w18_3, dw_a18_4, dw_w18_4, dw_a18_5, dw_w18_5, dw_a19, dw_w19, dw_a19_24, dw_w19_24, dw_a20, dw_w20, hm, h6, dw_Mlies (d := i) (show i < 6 by omega) (hw i (by omega)) h3 h4]
    rw [if_neg (show ¬ nI m ≤ nI i from nI_ge (by omega) (by omega))]
    rw [dw_sand] at ih
    unfold M_sand_31
    by_cases hg : s i 6 = 0
    · rw [if_pos hg]
      rw [if_pos hg] at ih
      simp only [nmd_s, nI_1]
      exact ih
    · rw [if_neg hg]
      rw [if_neg hg] at ih
      simp only [nmd_s, nI_1]
      exact ih
theorem dw_Msand (hm : dw_gI X 0 = nI m) (hm6 : m ≤ 6) (hr : dw_RR s m R G) (hw : ∀ d, d < m → dw_WF1 (s d)) : M_sand (dw_mk X R G S N y) 0 = some (dw_mk X R G S N y, dw_sand s m) := by
  have h := dw_Msand4 (S := S) (N := N) (y := y) hm hm6 hr hw (999 - m) m 0 (by omega)
  rw [show 999 - m + m + 1 = 1000 by omega] at h
  exact h
theorem dw_11 : (1 : Int32) - 1 = 0 := by decide
theorem dw_10 : (1 : Int32) - 0 = 1 := by decide
theorem dw_shl0 : ∀ i, i < 6 → (0 : Int32) <<< (nI i &&& 31) = 0 := by decide +kernel
theorem dw_10n : ¬ (1 : Int32) = 0 := by decide
theorem dw_Mthere4s (hm : dw_gI X 0 = nI m) (n i : Nat) (v : Int32) (hi : i < m) (hm6 : m ≤ 6) (g : Int32) (h6 : G i = g) : M_there_4 (n + 1) (dw_mk X R G S N y) 0 v (nI i) = M_there_4 n (dw_mk X R G S N y) 0 (v ||| ((1 - g) <<< (nI i &&& 31))) (nI (i + 1)) := by
  rw [M_there_4]
  simp (disch := omega) only [bnd_s, bn2_s, grd_t, nmd_s, dw_is, dw_f0, dw_t0, dw_f9, dw_t9, dw_f12, dw_t12, dw_f13, dw_t13, dw_f14, dw_t14, dw_f22, dw_t22, dw_f23, dw_t23, dw_f24, dw_t24, dw_f25, dw_t25, dw_f28, dw_t28, dw_f29, dw_t29, dw_f30, dw_t30, dw_f35, dw_t35, dw_f7, dw_t7, dw_f5, dw_t5, dw_f6, dw_t6, dw_f1, dw_f2, dw_f3, dw_f4, dw_f8, dw_f10, dw_f11, dw_f15, dw_f16, dw_f17, dw_f18, dw_f19, dw_f20, dw_f21, dw_f26, dw_f27, dw_f31, dw_f32, dw_f33, dw_f34, dw_a1, dw_w1, dw_a2, dw_w2, dw_a3, dw_w3, dw_a4, dw_w4, dw_a5, dw_w5, dw_a6, dw_w6, dw_a7, dw_w7, dw_a8, dw_w8, dw_a9_0, dw_s9_0, dw_a9_1, dw_s9_1, dw_a10, dw_w10, dw_a10_0, dw_w10_0, dw_a10_1, dw_w10_1, dw_a10_2, dw_w10_2, dw_a11, dw_w11, dw_a12, dw_w12, dw_a13, dw_w13, dw_a14, dw_w14, dw_a15, dw_w15, dw_a16, dw_w16, dw_a17, dw_w17, dw_a17_0, dw_w17_0, dw_a18, dw_w18, dw_a18_0, dw_w18_0, dw_a18_1, dw_w18_1, dw_a18_2, dw_w18_2, dw_a18_3, dw_w18_3, dw_a18_4, dw_w18_4, dw_a18_5, dw_w18_5, dw_a19, dw_w19, dw_a19_24, dw_w19_24, dw_a20, dw_w20, hm, h6]
  rw [if_neg (show ¬ nI m ≤ nI i from nI_ge (by omega) (by omega)), nI_1]
theorem dw_Mthere4 (hm : dw_gI X 0 = nI m) (hm6 : m ≤ 6) (hr : dw_RR s m R G) (hw : ∀ d, d < m → dw_WF1 (s d)) (f k : Nat) : ∀ i, i + k = m → M_there_4 (f + k + 1) (dw_mk X R G S N y) 0 (dw_live s i) (nI i) = some (dw_mk X R G S N y, dw_live s m) := by
  induction k with
  | zero =>
    intro i hi
    rw [M_there_4]
    simp (disch := omega) only [bnd_s, bn2_s, grd_t, nmd_s, dw_is, dw_f0, dw_t0, dw_f9, dw_t9, dw_f12, dw_t12, dw_f13, dw_t13, dw_f14, dw_t14, dw_f22, dw_t22, dw_f23, dw_t23, dw_f24, dw_t24, dw_f25, dw_t25, dw_f28, dw_t28, dw_f29, dw_t29, dw_f30, dw_t30, dw_f35, dw_t35, dw_f7, dw_t7, dw_f5, dw_t5, dw_f6, dw_t6, dw_f1, dw_f2, dw_f3, dw_f4, dw_f8, dw_f10, dw_f11, dw_f15, dw_f16, dw_f17, dw_f18, dw_f19, dw_f20, dw_f21, dw_f26, dw_f27, dw_f31, dw_f32, dw_f33, dw_f34, dw_a1, dw_w1, dw_a2, dw_w2, dw_a3, dw_w3, dw_a4, dw_w4, dw_a5, dw_w5, dw_a6, dw_w6, dw_a7, dw_w7, dw_a8, dw_w8, dw_a9_0, dw_s9_0, dw_a9_1, dw_s9_1, dw_a10, dw_w10, dw_a10_0, dw_w10_0, dw_a10_1, dw_w10_1, dw_a10_2, dw_w10_2, dw_a11, dw_w11, dw_a12, dw_w12, dw_a13, dw_w13, dw_a14, dw_w14, dw_a15, dw_w15, dw_a16, dw_w16, dw_a17, dw_w17, dw_a17_0, dw_w17_0, dw_a18, dw_w18, dw_a18_0, dw_w18_0, dw_a18_1, dw_w18_1, dw_a18_2, dw_w18_2, dw_a18_3, dw_w18_3, dw_a18_4, dw_w18_4, dw_a18_5, dw_w18_5, dw_a19, dw_w19, dw_a19_24, dw_w19_24, dw_a20, dw_w20, hm]
    rw [if_pos (show nI m ≤ nI i from nI_le (by omega) (by omega)), show i = m by omega]
  | succ k ih0 =>
    intro i hi
    have ih := ih0 (i + 1) (by omega)
    obtain ⟨h3, h4, h5, h6⟩ := hr i (by omega)
    rw [show f + (k + 1) + 1 = f + k + 1 + 1 by omega, dw_Mthere4s hm (f + k + 1) i _ (by omega) hm6 (s i 6) h6]
    rw [dw_live] at ih
    rcases (hw i (by omega)).2.2 with hg | hg
    · rw [if_pos hg] at ih
      rw [hg, dw_10]
      exact ih
    · rw [if_neg (fun q => dw_10n (hg.symm.trans q))] at ih
      rw [hg, dw_11, dw_shl0 i (by omega)]
      exact ih
theorem dw_Mthere (hm : dw_gI X 0 = nI m) (hm6 : m ≤ 6) (hr : dw_RR s m R G) (hw : ∀ d, d < m → dw_WF1 (s d)) : M_there (dw_mk X R G S N y) 0 = some (dw_mk X R G S N y, dw_live s m) := by
  have h := dw_Mthere4 (S := S) (N := N) (y := y) hm hm6 hr hw (999 - m) m 0 (by omega)
  rw [show 999 - m + m + 1 = 1000 by omega] at h
  exact h
end MC
