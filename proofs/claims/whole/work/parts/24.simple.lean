/-! SMALL FUNCTIONS of both sides -/
def dw_bd (x lo hi : Int32) : Int32 := if lo ≤ x then (if x ≤ hi then x else hi) else lo
def dw_in (a lo hi : Int32) : Int32 := if a < lo then 0 else if hi < a then 0 else 1
theorem dw_Xbd (h : pm_H) (x lo hi : Int32) : X_bounded h x lo hi = some (h, dw_bd x lo hi) := by
  unfold X_bounded dw_bd
  by_cases h1 : lo ≤ x <;> by_cases h2 : x ≤ hi <;> simp [h1, h2]
theorem dw_Mbd (h : pm_H) (x lo hi : Int32) : M_within h x lo hi = some (h, dw_bd x lo hi) := by
  unfold M_within dw_bd
  by_cases h1 : lo ≤ x <;> by_cases h2 : x ≤ hi <;> simp [h1, h2]
theorem dw_Xin (h : pm_H) (x lo hi : Int32) : X_within h x lo hi = some (h, dw_in x lo hi) := by
  unfold X_within dw_in
  by_cases h1 : x < lo <;> by_cases h2 : hi < x <;> simp [h1, h2]
theorem dw_Min (h : pm_H) (x lo hi : Int32) : M_in h x lo hi = some (h, dw_in x lo hi) := by
  unfold M_in dw_in
  by_cases h1 : x < lo <;> by_cases h2 : hi < x <;> simp [h1, h2]
theorem dw_in01 (x lo hi : Int32) : dw_in x lo hi = 0 ∨ dw_in x lo hi = 1 := by
  unfold dw_in
  by_cases h1 : x < lo <;> by_cases h2 : hi < x <;> simp [h1, h2]
/-- in a range from 0: a small number -/
theorem dw_in_of {x M : Int32} {n : Nat} (hM : M.toInt = n) (h : ¬ dw_in x 0 M = 0) : ∃ j : Nat, j ≤ n ∧ x = nI j := by
  unfold dw_in at h
  by_cases h1 : x < 0
  · simp [h1] at h
  · by_cases h2 : M < x
    · simp [h1, h2] at h
    · exact nI_of2 hM h1 (fa_of_nlt h2)
theorem dw_in_nI {j n : Nat} (hj : j ≤ n) (hn : n < 2 ^ 31) : dw_in (nI j) 0 (nI n) = 1 := by
  unfold dw_in
  rw [if_neg (nI_pos (by omega)), if_neg (nI_nlt hj hn)]
theorem dw_bd_nI {x M : Int32} {n : Nat} (hM : M = nI n) (hn : n < 2 ^ 31) : ∃ c : Nat, c ≤ n ∧ dw_bd x 0 M = nI c := by
  subst hM
  unfold dw_bd
  by_cases h1 : (0 : Int32) ≤ x
  · rw [if_pos h1]
    by_cases h2 : x ≤ nI n
    · rw [if_pos h2]
      have h3 : ¬ x < 0 := by
        rw [fa_le] at h1
        rw [fa_lt]
        omega
      exact nI_of2 (nI_toInt hn) h3 h2
    · rw [if_neg h2]
      exact ⟨n, Nat.le_refl _, rfl⟩
  · rw [if_neg h1]
    exact ⟨0, Nat.zero_le _, rfl⟩
theorem dw_3 (d : Nat) : (3 : Int32) * nI d = nI (3 * d) := pk_mul 3 d
theorem dw_4 (d : Nat) : (4 : Int32) * nI d = nI (4 * d) := pk_mul 4 d
theorem dw_40 (d : Nat) : (40 : Int32) * nI d = nI (40 * d) := pk_mul 40 d
theorem dw_200 (d : Nat) : (200 : Int32) * nI d = nI (200 * d) := pk_mul 200 d
theorem dw_8 (d : Nat) : (8 : Int32) * nI d = nI (8 * d) := pk_mul 8 d
theorem dw_2 (d : Nat) : (2 : Int32) * nI d = nI (2 * d) := pk_mul 2 d
theorem dw_100 (d : Nat) : (100 : Int32) * nI d = nI (100 * d) := pk_mul 100 d
theorem dw_p2 (d : Nat) : nI d + 2 = nI (d + 2) := nI_add d 2
theorem dw_p3 (d : Nat) : nI d + 3 = nI (d + 3) := nI_add d 3
theorem dw_18p (d : Nat) : (18 : Int32) + nI d = nI (18 + d) := nI_add 18 d
theorem dw_m1 (d : Nat) : nI (d + 1) - 1 = nI d := nI_pred d
/-! ===== one bit of a long ===== -/
theorem dw_bitL {n i : Nat} (hn : n < 2 ^ 62) (hi : i < 64) : (lN n >>> ((nI i).toInt64 &&& 63)) &&& 1 = if n.testBit i then 1 else 0 := by
  rw [wb_c i hi, pf_shr (d := i) (by rw [wb_tb, wb_sm i hi]; exact Nat.mod_eq_of_lt (by omega)) hn, show (1 : Int64) = lN 1 from rfl, fb_andL, Nat.and_one_is_mod, Nat.testBit_eq_decide_div_mod_eq]
  have h2 : n / 2 ^ i % 2 < 2 := Nat.mod_lt _ (by decide)
  by_cases h : n / 2 ^ i % 2 = 1
  · simp [h]
  · have h0 : n / 2 ^ i % 2 = 0 := by omega
    rw [h0]
    simp
    rfl
theorem dw_bit1 {n i : Nat} (hn : n < 2 ^ 62) (hi : i < 64) : lg_cmp ((lN n >>> ((nI i).toInt64 &&& 63)) &&& 1) 1 = 0 ↔ n.testBit i = true := by
  rw [lg_cmp_eq, dw_bitL hn hi]
  by_cases h : n.testBit i = true
  · simp [h]
  · simp only [h]
    decide
theorem dw_bit0 {n i : Nat} (hn : n < 2 ^ 62) (hi : i < 64) : lg_cmp ((lN n >>> ((nI i).toInt64 &&& 63)) &&& 1) 0 = 0 ↔ n.testBit i = false := by
  rw [lg_cmp_eq, dw_bitL hn hi]
  by_cases h : n.testBit i = true
  · simp only [h]
    decide
  · simp only [h]
    decide
/-! ===== counting bits: the reference's way ===== -/
theorem dw_Mb4 {n : Nat} (hn : n < 2 ^ 62) (h : pm_H) (f : Nat) : ∀ k i, i + k = 40 → M_bitsOf_4 (f + k + 1) h (lN n) (nI (fb_ct (fun j => n.testBit j) i)) (nI i) = some (h, nI (dw_pc n))
  | 0, i, hi => by
    rw [M_bitsOf_4, if_pos (show (40 : Int32) ≤ nI i from nI_le (a := 40) (by omega) (by omega))]
    rw [show i = 40 by omega]
    rfl
  | k + 1, i, hi => by
    have ih := dw_Mb4 hn h f k (i + 1) (by omega)
    rw [M_bitsOf_4, if_neg (show ¬ (40 : Int32) ≤ nI i from nI_ge (b := 40) (by omega) (by omega))]
    rw [fb_ct_succ] at ih
    by_cases hb : n.testBit i = true
    · rw [if_pos ((dw_bit1 hn (by omega)).mpr hb)]
      unfold M_bitsOf_26
      simp only [nmd_s, nI_1]
      rw [if_pos hb] at ih
      exact ih
    · rw [if_neg (fun q => hb ((dw_bit1 hn (by omega)).mp q))]
      unfold M_bitsOf_26
      rw [if_neg hb] at ih
      simp only [nmd_s, nI_1, show ∀ x : Int32, x + 0 = x from fun x => by simp]
      exact ih
theorem dw_Mb {h : pm_H} {n : Nat} (hn : n < 2 ^ 62) : M_bitsOf h (lN n) = some (h, nI (dw_pc n)) := dw_Mb4 hn h 959 40 0 rfl
/-! ===== the yards that one lies on ===== -/
def dw_yds (f z : Int32) : Int64 := if (0 : Int32) ≤ f - z + 1 then (1 <<< ((f + 1).toInt64 &&& 63)) - (1 <<< ((f - z + 1).toInt64 &&& 63)) else (1 <<< ((f + 1).toInt64 &&& 63)) - (1 <<< ((0 : Int32).toInt64 &&& 63))
def dw_li : Nat → Int32 → Int64 → Int32 → Int64
  | 0, _, s, _ => s
  | n + 1, f, s, y => if f < y then s else dw_li n f (s ||| (1 <<< (y.toInt64 &&& 63))) (y + 1)
theorem dw_li_yds : ∀ a, a < 40 → ∀ b, b < 10 → 1 ≤ b → dw_li 41 (nI a) 0 (dw_bd (nI a - nI b + 1) 0 39) = dw_yds (nI a) (nI b) := by decide +kernel
theorem dw_li_more : ∀ (n m a b : Nat) (s : Int64), a < 2 ^ 29 → b < 2 ^ 30 → a + 1 < n + b → a + 1 < m + b → dw_li n (nI a) s (nI b) = dw_li m (nI a) s (nI b)
  | 0, m, a, b, s, ha, hb, h1, h2 => by
    cases m with
    | zero => rfl
    | succ m =>
      rw [dw_li, dw_li, if_pos (show nI a < nI b from nI_lt (by omega) (by omega))]

  | n + 1, 0, a, b, s, ha, hb, h1, h2 => by
    rw [dw_li, dw_li, if_pos (show nI a < nI b from nI_lt (by omega) (by omega))]

  | n + 1, m + 1, a, b, s, ha, hb, h1, h2 => by
    rw [dw_li, dw_li]
    by_cases h : a < b
    · rw [if_pos (nI_lt h (by omega)), if_pos (nI_lt h (by omega))]
    · rw [if_neg (nI_nlt (by omega) (by omega)), if_neg (nI_nlt (by omega) (by omega)), nI_1]
      by_cases hb2 : b + 1 < 2 ^ 30
      · exact dw_li_more n m a (b + 1) _ ha hb2 (by omega) (by omega)
      · omega
