/-! THE REFERENCE: words on the tape -/
/-- the reference's numbers of words, and their tokens -/
def dw_pi (k : Nat) : Nat := if k < 3 then k else if k < 9 then k + 3 else k - 6
def dw_twd (j : Nat) : Nat := if j < 3 then 10015 + j else if j = 3 then 10006 else if j = 4 then 10007 else if j = 5 then 10013 else 9994 + j
def dw_wk (k : Nat) : Nat := if k < 12 then dw_twd (dw_pi k) else 10022
def dw_ext (tb : Nat → Nat) (p n x : Nat) : Nat := if x < n then tb (p + x) else 32
def dw_lk (tb : Nat → Nat) (p n k : Nat) : Nat → Nat → Bool
  | 0, _ => true
  | j + 1, x => decide (dw_wr.getD (8 * k + x) 0 = dw_ext tb p n x) && dw_lk tb p n k j (x + 1)
def dw_slc (tb : Nat → Nat) (p : Nat) : Nat → List Nat
  | 0 => []
  | n + 1 => tb p :: dw_slc tb (p + 1) n
theorem dw_pi_lt : ∀ k, k < 12 → dw_pi k < 12 := by decide
theorem dw_wl_len : ∀ j, j < 12 → (dw_wl j).length ≤ 6 := by decide +kernel
theorem dw_wl_inj : ∀ j, j < 12 → ∀ j', j' < 12 → dw_wl j = dw_wl j' → j = j' := by decide +kernel
theorem dw_wl_32 : ∀ j, j < 12 → ∀ x, x < (dw_wl j).length → (dw_wl j).getD x 0 ≠ 32 := by decide +kernel
theorem dw_wr_wl : ∀ k, k < 12 → ∀ x, x < 8 → dw_wr.getD (8 * k + x) 0 = if x < (dw_wl (dw_pi k)).length then (dw_wl (dw_pi k)).getD x 0 else 32 := by decide +kernel
theorem dw_wr_lt : ∀ x, x < 96 → dw_wr.getD x 0 < 256 := by decide +kernel
theorem dw_spn_slc (tb : Nat → Nat) : ∀ (w : List Nat) (p : Nat), dw_spn tb p w = true → w = dw_slc tb p w.length
  | [], _, _ => rfl
  | c :: w, p, h => by
    rw [dw_spn, Bool.and_eq_true] at h
    have h1 := of_decide_eq_true h.1
    rw [List.length_cons, dw_slc, h1, ← dw_spn_slc tb w (p + 1) h.2]
theorem dw_spn_iff (tb : Nat → Nat) : ∀ (w : List Nat) (p : Nat), dw_spn tb p w = true ↔ ∀ x, x < w.length → w.getD x 0 = tb (p + x)
  | [], _ => ⟨fun _ x hx => absurd hx (Nat.not_lt_zero x), fun _ => rfl⟩
  | c :: w, p => by
    rw [dw_spn, Bool.and_eq_true, dw_spn_iff tb w (p + 1)]
    constructor
    · intro h x hx
      cases x with
      | zero => exact (of_decide_eq_true h.1).symm
      | succ x =>
        have h2 := h.2 x (Nat.lt_of_succ_lt_succ hx)
        rw [show p + (x + 1) = p + 1 + x by omega]
        exact h2
    · intro h
      refine ⟨decide_eq_true (h 0 (Nat.succ_pos _)).symm, fun x hx => ?_⟩
      have h2 := h (x + 1) (Nat.succ_lt_succ hx)
      rw [show p + 1 + x = p + (x + 1) by omega]
      exact h2
theorem dw_lk_iff (tb : Nat → Nat) (p n k : Nat) : ∀ j x, dw_lk tb p n k j x = true ↔ ∀ z, x ≤ z → z < x + j → dw_wr.getD (8 * k + z) 0 = dw_ext tb p n z
  | 0, x => ⟨fun _ z h1 h2 => absurd h2 (by omega), fun _ => rfl⟩
  | j + 1, x => by
    rw [dw_lk, Bool.and_eq_true, dw_lk_iff tb p n k j (x + 1)]
    constructor
    · intro h z h1 h2
      by_cases e : z = x
      · rw [e]
        exact of_decide_eq_true h.1
      · exact h.2 z (by omega) (by omega)
    · intro h
      exact ⟨decide_eq_true (h x (Nat.le_refl x) (by omega)), fun z h1 h2 => h z (by omega) (by omega)⟩
theorem dw_sp_slc {tb : Nat → Nat} {p n j : Nat} (h : dw_sp tb p n j = true) : dw_wl j = dw_slc tb p n := by
  rw [dw_sp, Bool.and_eq_true] at h
  have h1 := of_decide_eq_true h.1
  rw [h1]
  exact dw_spn_slc tb _ p h.2
theorem dw_sp_u {tb : Nat → Nat} {p n j : Nat} (hj : j < 12) (h : dw_sp tb p n j = true) {j' : Nat} (hj' : j' < 12) (hne : j' ≠ j) : dw_sp tb p n j' = false := by
  cases e : dw_sp tb p n j' with
  | false => rfl
  | true => exact absurd (dw_wl_inj j' hj' j hj ((dw_sp_slc e).trans (dw_sp_slc h).symm)) hne
theorem dw_wtok_of {tb : Nat → Nat} {p n j : Nat} (hj : j < 12) (h : dw_sp tb p n j = true) : dw_wtok tb p n = dw_twd j := by
  have u := fun j' hj' hne => dw_sp_u (j' := j') hj h hj' hne
  unfold dw_wtok
  rcases (by omega : j = 0 ∨ j = 1 ∨ j = 2 ∨ j = 3 ∨ j = 4 ∨ j = 5 ∨ j = 6 ∨ j = 7 ∨ j = 8 ∨ j = 9 ∨ j = 10 ∨ j = 11) with rfl | rfl | rfl | rfl | rfl | rfl | rfl | rfl | rfl | rfl | rfl | rfl
  · rw [if_pos h]
    rfl
  · rw [if_neg (by rw [u 0 (by decide) (by decide)]; decide), if_pos h]
    rfl
  · rw [if_neg (by rw [u 0 (by decide) (by decide)]; decide), if_neg (by rw [u 1 (by decide) (by decide)]; decide), if_pos h]
    rfl
  all_goals rw [if_neg (by rw [u 0 (by decide) (by decide)]; decide), if_neg (by rw [u 1 (by decide) (by decide)]; decide), if_neg (by rw [u 2 (by decide) (by decide)]; decide)]
  · rw [if_pos h]
    rfl
  all_goals rw [if_neg (by rw [u 3 (by decide) (by decide)]; decide)]
  · rw [if_pos h]
    rfl
  all_goals rw [if_neg (by rw [u 4 (by decide) (by decide)]; decide)]
  · rw [if_pos h]
    rfl
  all_goals rw [if_neg (by rw [u 5 (by decide) (by decide)]; decide)]
  · rw [if_pos h]
    rfl
  all_goals rw [if_neg (by rw [u 6 (by decide) (by decide)]; decide)]
  · rw [if_pos h]
    rfl
  all_goals rw [if_neg (by rw [u 7 (by decide) (by decide)]; decide)]
  · rw [if_pos h]
    rfl
  all_goals rw [if_neg (by rw [u 8 (by decide) (by decide)]; decide)]
  · rw [if_pos h]
    rfl
  all_goals rw [if_neg (by rw [u 9 (by decide) (by decide)]; decide)]
  · rw [if_pos h]
    rfl
  all_goals rw [if_neg (by rw [u 10 (by decide) (by decide)]; decide)]
  · rw [if_pos h]
    rfl
theorem dw_wtok_no {tb : Nat → Nat} {p n : Nat} (u : ∀ j, j < 12 → dw_sp tb p n j = false) : dw_wtok tb p n = 10022 := by
  unfold dw_wtok
  rw [if_neg (by rw [u 0 (by decide)]; decide), if_neg (by rw [u 1 (by decide)]; decide), if_neg (by rw [u 2 (by decide)]; decide), if_neg (by rw [u 3 (by decide)]; decide), if_neg (by rw [u 4 (by decide)]; decide), if_neg (by rw [u 5 (by decide)]; decide), if_neg (by rw [u 6 (by decide)]; decide), if_neg (by rw [u 7 (by decide)]; decide), if_neg (by rw [u 8 (by decide)]; decide), if_neg (by rw [u 9 (by decide)]; decide), if_neg (by rw [u 10 (by decide)]; decide), if_neg (by rw [u 11 (by decide)]; decide)]
/-- the reference's look at a word says the same -/
theorem dw_lk_sp {tb : Nat → Nat} {p n k : Nat} (hk : k < 12) (hn : n ≤ 8) (hl : ∀ x, x < n → tb (p + x) ≠ 32) : dw_lk tb p n k 8 0 = dw_sp tb p n (dw_pi k) := by
  have hp := dw_pi_lt k hk
  have h6 := dw_wl_len _ hp
  have h32 := dw_wl_32 _ hp
  have hw := dw_wr_wl k hk
  have e1 : dw_sp tb p n (dw_pi k) = true ↔ n = (dw_wl (dw_pi k)).length ∧ ∀ x, x < (dw_wl (dw_pi k)).length → (dw_wl (dw_pi k)).getD x 0 = tb (p + x) := by
    rw [dw_sp, Bool.and_eq_true, dw_spn_iff, decide_eq_true_iff]
  have e2 : dw_lk tb p n k 8 0 = true ↔ dw_sp tb p n (dw_pi k) = true := by
    rw [dw_lk_iff, e1]
    generalize dw_wl (dw_pi k) = w at *
    constructor
    · intro h
      have hn2 : n = w.length := by
        rcases Nat.lt_trichotomy n w.length with c | c | c
        · have h1 := h n (Nat.zero_le _) (by omega)
          rw [hw n (by omega), if_pos c, dw_ext, if_neg (by omega)] at h1
          exact absurd h1 (h32 n c)
        · exact c
        · have h1 := h w.length (Nat.zero_le _) (by omega)
          rw [hw _ (by omega), if_neg (by omega), dw_ext, if_pos c] at h1
          exact absurd h1.symm (hl _ c)
      refine ⟨hn2, fun x hx => ?_⟩
      have h1 := h x (Nat.zero_le _) (by omega)
      rwa [hw x (by omega), if_pos hx, dw_ext, if_pos (by omega)] at h1
    · rintro ⟨h1, h2⟩ z _ hz
      rw [hw z (by omega), dw_ext]
      by_cases c : z < w.length
      · rw [if_pos c, if_pos (by omega)]
        exact h2 z c
      · rw [if_neg c, if_neg (by omega)]
  cases c1 : dw_lk tb p n k 8 0 with
  | true => exact (e2.mp c1).symm
  | false =>
    cases c2 : dw_sp tb p n (dw_pi k) with
    | false => rfl
    | true =>
      have := e2.mpr c2
      rw [c1] at this
      exact absurd this (by decide)
section MW
variable {X : dw_X} {R G S N : Nat → Int32} {y : Int32} {tb : Nat → Nat} {tp : Nat}
theorem dw_Mw26z (k2 : pm_H → Nat → Int32 → Int32 → Int32 → Option (pm_H × Int32)) (f : Nat) (h : pm_H) (a b : Int32) (k : Nat) (l5 : Int32) : M_wordFrom_26 k2 (f + 1) h 0 a b (nI k) 0 l5 = k2 h 0 a b (nI (k + 1)) := by
  rw [M_wordFrom_26, if_pos rfl, ite_self, M_wordFrom_88, if_pos rfl, nmd_s, nI_1]
theorem dw_Mw26 (htp : tp ≤ 160) (hb : ∀ j, j < tp → tb j < 256) (hA : ∀ j, j < tp → dw_gA X 5 j = nI (tb j)) (hW : ∀ i, i < 96 → dw_gA X 15 i = nI (dw_wr.getD i 0)) {p n k : Nat} (hp : p + n ≤ tp) (hk : k < 12) (k2 : pm_H → Nat → Int32 → Int32 → Int32 → Option (pm_H × Int32)) (f : Nat) : ∀ j x, x + j = 8 → M_wordFrom_26 k2 (f + j + 1) (dw_mk X R G S N y) 0 (nI p) (nI (p + n)) (nI k) 1 (nI x) = if dw_lk tb p n k j x = true then some (dw_mk X R G S N y, nI k) else k2 (dw_mk X R G S N y) 0 (nI p) (nI (p + n)) (nI (k + 1))
  | 0, x, hx => by
    rw [M_wordFrom_26, if_pos (show (8 : Int32) ≤ nI x from nI_le (a := 8) (by omega) (by omega)), M_wordFrom_88, if_neg (by decide), dw_lk, if_pos rfl]
  | j + 1, x, hx => by
    have ih := dw_Mw26 htp hb hA hW hp hk k2 f j (x + 1) (by omega)
    have hw := dw_wr_lt (8 * k + x) (by omega)
    rw [show f + (j + 1) + 1 = f + j + 1 + 1 by omega, M_wordFrom_26, if_neg (show ¬ (8 : Int32) ≤ nI x from nI_ge (b := 8) (by omega) (by omega)), if_neg (by decide)]
    repeat (first | with_reducible rw [bnd_s] | with_reducible rw [nmd_s] | with_reducible rw [bn2_s] | with_reducible rw [grd_t] | ((conv => arg 1; arg 1; simp (disch := omega) only [dw_is, dw_f0, dw_t0, dw_f9, dw_t9, dw_f12, dw_t12, dw_f13, dw_t13, dw_f14, dw_t14, dw_f22, dw_t22, dw_f23, dw_t23, dw_f24, dw_t24, dw_f25, dw_t25, dw_f28, dw_t28, dw_f29, dw_t29, dw_f30, dw_t30, dw_f35, dw_t35, dw_f7, dw_t7, dw_f5, dw_t5, dw_f6, dw_t6, dw_f1, dw_f2, dw_f3, dw_f4, dw_f8, dw_f10, dw_f11, dw_f15, dw_f16, dw_f17, dw_f18, dw_f19, dw_f20, dw_f21, dw_f26, dw_f27, dw_f31, dw_f32, dw_f33, dw_f34, dw_a1, dw_w1, dw_a2, dw_w2, dw_a3, dw_w3, dw_a4, dw_w4, dw_a5, dw_w5, dw_a6, dw_w6, dw_a7, dw_w7, dw_a8, dw_w8, dw_a9_0, dw_s9_0, dw_a9_1, dw_s9_1, dw_a10, dw_w10, dw_a10_0, dw_w10_0, dw_a10_1, dw_w10_1, dw_a10_2, dw_w10_2, dw_a11, dw_w11, dw_a12, dw_w12, dw_a13, dw_w13, dw_a14, dw_w14, dw_a15, dw_w15, dw_a16, dw_w16, dw_a17, dw_w17, dw_a17_0, dw_w17_0, dw_a18, dw_w18, dw_a18_0, dw_w18_0, dw_a18_1, dw_w18_1, dw_a18_2, dw_w18_2, dw_a18_3, dw_w18_3, dw_a18_4, dw_w18_4, dw_a18_5, dw_w18_5, dw_a19, dw_w19, dw_a19_24, dw_w19_24, dw_a20, dw_w20, dw_8, nI_add, hW (8 * k + x) (by omega)]); first | with_reducible rw [bnd_s] | with_reducible rw [bn2_s] | with_reducible rw [grd_t]))
    have key : ∀ e : Nat, e < 256 → e = dw_ext tb p n x → M_wordFrom_72 k2 (M_wordFrom_26 k2 (f + j + 1)) (dw_mk X R G S N y) 0 (nI p) (nI (p + n)) (nI k) (nI x) (nI e) (nI (dw_wr.getD (8 * k + x) 0)) = if dw_lk tb p n k (j + 1) x = true then some (dw_mk X R G S N y, nI k) else k2 (dw_mk X R G S N y) 0 (nI p) (nI (p + n)) (nI (k + 1)) := by
      intro e he1 he
      rw [M_wordFrom_72, dw_lk, ← he]
      by_cases c : dw_wr.getD (8 * k + x) 0 = e
      · rw [if_pos (by rw [c]), M_wordFrom_80, nmd_s, nI_1, ih, decide_eq_true c, Bool.true_and]
      · rw [if_neg (dw_ne (by omega) (by omega) c), M_wordFrom_80, nmd_s, dw_Mw26z, decide_eq_false c, Bool.false_and, if_neg (by decide)]
    rw [nI_add]
    by_cases c : x < n
    · rw [if_neg (show ¬ nI (p + n) ≤ nI (p + x) from nI_ge (by omega) (by omega))]
      repeat (first | with_reducible rw [bnd_s] | with_reducible rw [nmd_s] | with_reducible rw [bn2_s] | with_reducible rw [grd_t] | ((conv => arg 1; arg 1; simp (disch := omega) only [dw_is, dw_f0, dw_t0, dw_f9, dw_t9, dw_f12, dw_t12, dw_f13, dw_t13, dw_f14, dw_t14, dw_f22, dw_t22, dw_f23, dw_t23, dw_f24, dw_t24, dw_f25, dw_t25, dw_f28, dw_t28, dw_f29, dw_t29, dw_f30, dw_t30, dw_f35, dw_t35, dw_f7, dw_t7, dw_f5, dw_t5, dw_f6, dw_t6, dw_f1, dw_f2, dw_f3, dw_f4, dw_f8, dw_f10, dw_f11, dw_f15, dw_f16, dw_f17, dw_f18, dw_f19, dw_f20, dw_f21, dw_f26, dw_f27, dw_f31, dw_f32, dw_f33, dw_f34, dw_a1, dw_w1, dw_a2, dw_w2, dw_a3, dw_w3, dw_a4, dw_w4, dw_a5, dw_w5, dw_a6, dw_w6, dw_a7, dw_w7, dw_a8, dw_w8, dw_a9_0, dw_s9_0, dw_a9_1, dw_s9_1, dw_a10, dw_w10, dw_a10_0, dw_w10_0, dw_a10_1, dw_w10_1, dw_a10_2, dw_w10_2, dw_a11, dw_w11, dw_a12, dw_w12, dw_a13, dw_w13, dw_a14, dw_w14, dw_a15, dw_w15, dw_a16, dw_w16, dw_a17, dw_w17, dw_a17_0, dw_w17_0, dw_a18, dw_w18, dw_a18_0, dw_w18_0, dw_a18_1, dw_w18_1, dw_a18_2, dw_w18_2, dw_a18_3, dw_w18_3, dw_a18_4, dw_w18_4, dw_a18_5, dw_w18_5, dw_a19, dw_w19, dw_a19_24, dw_w19_24, dw_a20, dw_w20, hA (p + x) (by omega)]); first | with_reducible rw [bnd_s] | with_reducible rw [bn2_s] | with_reducible rw [grd_t]))
      exact key (tb (p + x)) (hb _ (by omega)) (by rw [dw_ext, if_pos c])
    · rw [if_pos (show nI (p + n) ≤ nI (p + x) from nI_le (by omega) (by omega))]
      exact key 32 (by decide) (by rw [dw_ext, if_neg c])
theorem dw_Mw2 (htp : tp ≤ 160) (hb : ∀ j, j < tp → tb j < 256) (hA : ∀ j, j < tp → dw_gA X 5 j = nI (tb j)) (hW : ∀ i, i < 96 → dw_gA X 15 i = nI (dw_wr.getD i 0)) {p n : Nat} (hp : p + n ≤ tp) (hl : ∀ x, x < n → tb (p + x) ≠ 32) (f : Nat) : ∀ kk k, k + kk = 12 → (∀ j, j < k → dw_sp tb p n (dw_pi j) = false) → ∃ r, r ≤ 12 ∧ M_wordFrom_2 (f + kk + 1) (dw_mk X R G S N y) 0 (nI p) (nI (p + n)) (nI k) = some (dw_mk X R G S N y, nI r) ∧ dw_wtok tb p n = dw_wk r
  | 0, k, hk, hu => by
    have hk' : k = 12 := hk
    subst hk'
    refine ⟨12, Nat.le_refl _, by rw [M_wordFrom_2]; rfl, ?_⟩
    refine (dw_wtok_no (fun j hj => ?_)).trans rfl
    rcases (by omega : j = 0 ∨ j = 1 ∨ j = 2 ∨ j = 3 ∨ j = 4 ∨ j = 5 ∨ j = 6 ∨ j = 7 ∨ j = 8 ∨ j = 9 ∨ j = 10 ∨ j = 11) with rfl | rfl | rfl | rfl | rfl | rfl | rfl | rfl | rfl | rfl | rfl | rfl
    · exact hu 0 (by decide)
    · exact hu 1 (by decide)
    · exact hu 2 (by decide)
    · exact hu 9 (by decide)
    · exact hu 10 (by decide)
    · exact hu 11 (by decide)
    · exact hu 3 (by decide)
    · exact hu 4 (by decide)
    · exact hu 5 (by decide)
    · exact hu 6 (by decide)
    · exact hu 7 (by decide)
    · exact hu 8 (by decide)
  | kk + 1, k, hk, hu => by
    have hk2 : k < 12 := by omega
    have hp' := dw_pi_lt k hk2
    rw [show f + (kk + 1) + 1 = f + kk + 1 + 1 by omega, M_wordFrom_2, if_neg (show ¬ (12 : Int32) ≤ nI k from nI_ge (b := 12) hk2 (by omega)), pk_sub (show p ≤ p + n by omega), show p + n - p = n by omega]
    have next : dw_sp tb p n (dw_pi k) = false → ∃ r, r ≤ 12 ∧ M_wordFrom_2 (f + kk + 1) (dw_mk X R G S N y) 0 (nI p) (nI (p + n)) (nI (k + 1)) = some (dw_mk X R G S N y, nI r) ∧ dw_wtok tb p n = dw_wk r := by
      intro e
      refine dw_Mw2 htp hb hA hW hp hl f kk (k + 1) (by omega) (fun j hj => ?_)
      by_cases c : j = k
      · rw [c]
        exact e
      · exact hu j (by omega)
    by_cases c8 : n ≤ 8
    · rw [if_neg (show ¬ (8 : Int32) < nI n from nI_nlt (a := 8) c8 (by omega)), M_wordFrom_21]
      have e := dw_Mw26 (R := R) (G := G) (S := S) (N := N) (y := y) htp hb hA hW hp hk2 (M_wordFrom_2 (f + kk + 1)) 991 8 0 rfl
      rw [dw_lk_sp hk2 c8 hl] at e
      have e' : M_wordFrom_26 (M_wordFrom_2 (f + kk + 1)) 1000 (dw_mk X R G S N y) 0 (nI p) (nI (p + n)) (nI k) 1 0 = _ := e
      rw [e']
      cases c : dw_sp tb p n (dw_pi k) with
      | true =>
        rw [if_pos rfl]
        exact ⟨k, by omega, rfl, by rw [dw_wtok_of hp' c, dw_wk, if_pos hk2]⟩
      | false =>
        rw [if_neg (by decide)]
        exact next c
    · rw [if_pos (show (8 : Int32) < nI n from nI_lt (a := 8) (by omega) (by omega)), M_wordFrom_21, dw_Mw26z _ 999]
      refine next ?_
      have h6 := dw_wl_len _ hp'
      rw [dw_sp, decide_eq_false (by omega), Bool.false_and]
theorem dw_Mword (htp : tp ≤ 160) (hb : ∀ j, j < tp → tb j < 256) (hA : ∀ j, j < tp → dw_gA X 5 j = nI (tb j)) (hW : ∀ i, i < 96 → dw_gA X 15 i = nI (dw_wr.getD i 0)) {p n : Nat} (hp : p + n ≤ tp) (hl : ∀ x, x < n → tb (p + x) ≠ 32) : ∃ r, r ≤ 12 ∧ M_wordFrom (dw_mk X R G S N y) 0 (nI p) (nI (p + n)) = some (dw_mk X R G S N y, nI r) ∧ dw_wtok tb p n = dw_wk r := dw_Mw2 htp hb hA hW hp hl 987 12 0 rfl (fun j hj => absurd hj (Nat.not_lt_zero j))
end MW
