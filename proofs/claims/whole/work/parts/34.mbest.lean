/-! THE REFERENCE: sow, hold, share -/
def dw_best (f v : Nat → Int32) (q : Nat → Bool) : Nat → Nat → Int32 → Int32 → Int32 × Int32
  | 0, _, b, l => (b, l)
  | k + 1, i, b, l => if q i = true then (if f i < l then dw_best f v q k (i + 1) (v i) (f i) else dw_best f v q k (i + 1) b l) else dw_best f v q k (i + 1) b l
theorem dw_best_no {f v : Nat → Int32} {q : Nat → Bool} : ∀ {k i : Nat} {b l : Int32}, (∀ j, i ≤ j → j < i + k → q j = false) → dw_best f v q k i b l = (b, l)
  | 0, _, _, _, _ => rfl
  | k + 1, i, b, l, h => by
    rw [dw_best, if_neg (by rw [h i (Nat.le_refl i) (by omega)]; decide), dw_best_no (fun j h1 h2 => h j (by omega) (by omega))]
def dw_tb (x : Int64) (i : Nat) : Bool := x.toBitVec.toNat.testBit i
theorem dw_small_n {x : Int64} (h : dw_small x) : x.toBitVec.toNat < 2 ^ 40 := by
  obtain ⟨n, hn, rfl⟩ := h
  rw [wb_tn (by omega)]
  exact hn
theorem dw_small_of {x : Int64} (h : x.toBitVec.toNat < 2 ^ 40) : dw_small x := ⟨x.toBitVec.toNat, h, by
  apply wb_inj
  rw [wb_tb]
  simp⟩
theorem dw_tb1 {x : Int64} (h : dw_small x) {i : Nat} (hi : i < 64) : lg_cmp ((x >>> ((nI i).toInt64 &&& 63)) &&& 1) 1 = 0 ↔ dw_tb x i = true := by
  obtain ⟨n, hn, rfl⟩ := h
  rw [dw_bit1 (by omega) hi, dw_tb, wb_tn (by omega)]
theorem dw_tb0 {x : Int64} (h : dw_small x) {i : Nat} (hi : i < 64) : lg_cmp ((x >>> ((nI i).toInt64 &&& 63)) &&& 1) 0 = 0 ↔ dw_tb x i = false := by
  obtain ⟨n, hn, rfl⟩ := h
  rw [dw_bit0 (by omega) hi, dw_tb, wb_tn (by omega)]
def dw_bit (i : Nat) : Int64 := 1 <<< ((nI i).toInt64 &&& 63)
def dw_qsow (w : dw_W) (cl ho : Int64) (s : dw_L) (yy : Nat) (a b : Int32) : Int32 := if dw_in a 0 20 = 0 then -2 else if dw_in b 0 1 = 0 then -2 else if b = 0 then (dw_best (fun y => dw_F w (cl ||| dw_bit y) ho s yy (dw_N a)) nI (fun y => !dw_tb cl y) 40 0 (-1) (dw_F w cl ho s yy (dw_N a))).1 else (dw_best (fun y => dw_F w (cl ||| dw_bit y) ho s yy (dw_N a)) nI (fun y => !dw_tb cl y) 40 0 (-1) (dw_F w cl ho s yy (dw_N a))).2
def dw_qhold (w : dw_W) (cl ho : Int64) (s : dw_L) (yy : Nat) (a b : Int32) : Int32 := if dw_in a 0 40 = 0 then -2 else if dw_in b 0 1 = 0 then -2 else if b = 0 then (dw_best (fun d => dw_F w cl ho (dw_set s d 6 1) yy (dw_N a)) nI (fun d => decide (s d 6 = 0)) 6 0 (-1) (dw_F w cl ho s yy (dw_N a))).1 else (dw_best (fun d => dw_F w cl ho (dw_set s d 6 1) yy (dw_N a)) nI (fun d => decide (s d 6 = 0)) 6 0 (-1) (dw_F w cl ho s yy (dw_N a))).2
def dw_lw (A B : Nat) (p : Int32) : Int64 := if p = 0 then lN (A / Nat.gcd A B) else lN (B / Nat.gcd A B)
def dw_pcN (x : Int64) : Nat := dw_pc x.toBitVec.toNat
def dw_qshare (w : dw_W) (cl ho : Int64) (s : dw_L) (yy : Nat) (a b : Int32) : Int64 := if dw_in a 0 40 = 0 then -4611686018427387904 else if dw_in b 0 1 = 0 then -4611686018427387904 else if ho = 0 then -4611686018427387904 else dw_lw (dw_pcN (ho &&& dw_sand (dw_T w cl s yy (dw_N a)) 6)) (dw_pcN ho) b
theorem dw_pc_le (n : Nat) : dw_pc n ≤ 40 := fb_ct_le _ 40
theorem dw_pc_pos {n : Nat} (h : n ≠ 0) (h2 : n < 2 ^ 40) : 1 ≤ dw_pc n := by
  obtain ⟨i, hi⟩ := Nat.exists_testBit_of_ne_zero h
  have hi40 : i < 40 := by
    rcases Nat.lt_or_ge i 40 with c | c
    · exact c
    · exfalso
      have h3 : n < 2 ^ i := Nat.lt_of_lt_of_le h2 (Nat.pow_le_pow_right (by decide) c)
      rw [Nat.testBit_lt_two_pow h3] at hi
      exact absurd hi (by decide)
  have h4 := fb_ct_split (fun j => n.testBit j) (i + 1) (39 - i)
  rw [fb_ct_succ, if_pos hi, show i + 1 + (39 - i) = 40 by omega] at h4
  unfold dw_pc
  omega
theorem dw_cmp0 (x : Int64) : lg_cmp x 0 = 0 ↔ x = 0 := by
  unfold lg_cmp
  by_cases h2 : x = 0
  · simp [h2]
  · simp [h2]
    split <;> decide
def dw_eu : Nat → Int64 → Int64 → Option Int64
  | 0, _, _ => none
  | n + 1, a, b => if b = 0 then some a else dw_eu n b (a - a / b * b)
theorem dw_eu_gcd : ∀ a, a < 41 → ∀ b, b < 41 → 1 ≤ a → dw_eu 30 (lN a) (lN b) = some (lN (Nat.gcd a b)) ∧ ¬ lN (Nat.gcd a b) = 0 ∧ lN a / lN (Nat.gcd a b) = lN (a / Nat.gcd a b) ∧ lN b / lN (Nat.gcd a b) = lN (b / Nat.gcd a b) := by decide +kernel
theorem dw_Mlow16 (h : pm_H) (l0 l2 g : Int64) (p : Int32) (hg : ¬ g = 0) (f : Nat) : ∀ n a b, dw_eu n a b = some g → M_lowest_16 (n + f) h l0 l2 p a b = some (h, if p = 0 then l0 / g else l2 / g)
  | 0, _, _, h => absurd h (by rw [dw_eu]; simp)
  | n + 1, a, b, he => by
    rw [dw_eu] at he
    rw [show n + 1 + f = n + f + 1 by omega, M_lowest_16]
    by_cases c : b = 0
    · rw [if_pos c] at he
      injection he with he
      subst he
      rw [if_pos ((dw_cmp0 b).mpr c), decide_eq_false hg]
      by_cases cp : p = 0
      · rw [if_pos cp, if_pos cp]
        rfl
      · rw [if_neg cp, if_neg cp]
        rfl
    · rw [if_neg c] at he
      rw [if_neg (fun q => c ((dw_cmp0 b).mp q)), decide_eq_false c, nmd_s]
      exact dw_Mlow16 h l0 l2 g p hg f n _ _ he
theorem dw_Mlow {h : pm_H} {A B : Nat} {p : Int32} (hA : A ≤ 40) (hB : B ≤ 40) (hB1 : 1 ≤ B) (hp : ¬ dw_in p 0 1 = 0) : M_lowest h (lN A) (lN B) p = some (h, dw_lw A B p) := by
  unfold M_lowest dw_lw
  rcases Nat.eq_zero_or_pos A with c | c
  · subst c
    rw [if_pos ((dw_cmp0 (lN 0)).mpr rfl), Nat.gcd_zero_left, Nat.div_self hB1, Nat.zero_div]
    obtain ⟨j, hj, rfl⟩ := dw_in_of (n := 1) rfl hp
    rcases (by omega : j = 0 ∨ j = 1) with rfl | rfl
    · rfl
    · rfl
  · have e := dw_eu_gcd A (by omega) B (by omega) c
    have hz : ¬ lN A = 0 := by
      have h9 : ∀ a, a < 41 → 1 ≤ a → ¬ lN a = 0 := by decide +kernel
      exact h9 A (by omega) c
    rw [if_neg (fun q => hz ((dw_cmp0 _).mp q)), dw_Mlow16 h (lN A) (lN B) (lN (Nat.gcd A B)) p e.2.1 970 30 _ _ e.1, e.2.2.1, e.2.2.2]
section MC
variable {X : dw_X} {R G S N : Nat → Int32} {y : Int32} {w : dw_W} {r m yy : Nat} {s : dw_L}
theorem dw_TH_cl (h : dw_TH X R G r m w s yy) (v : Int64) : dw_TH (dw_J X 6 v) R G r m w s yy := ⟨⟨h.1.1, h.1.2.1, (by
    refine ⟨fun p hp => ?_, h.1.2.2.1.2⟩
    obtain ⟨k, h1, h2, h3, h4, h5⟩ := h.1.2.2.1.1 p hp
    refine ⟨k, h1, h2, h3, ?_, h5⟩
    have h6 : ∀ (c : List Nat) (a : Nat), dw_MC X a c → dw_MC (dw_J X 6 v) a c := by
      intro c
      induction c with
      | nil => intro a _; trivial
      | cons t c ih => intro a hm; exact ⟨hm.1, ih (a + 1) hm.2⟩
    exact h6 _ _ h4), h.1.2.2.2⟩, h.2.1, h.2.2.1, h.2.2.2.1, h.2.2.2.2.1, h.2.2.2.2.2⟩
theorem dw_Eq_J {X' : dw_X} (h : dw_Eq X X') (k : Nat) (v : Int64) : dw_Eq (dw_J X k v) (dw_J X' k v) := ⟨h.1, (fun j => by
  rw [dw_JJ, dw_JJ, h.2.1 j]), h.2.2.1, h.2.2.2⟩
theorem dw_Eq_JJ (k : Nat) (v v' : Int64) {X' : dw_X} (h : dw_Eq (dw_J X k v) X') : dw_Eq (dw_J X k v') (dw_J X' k v') := ⟨h.1, (fun j => by
  have := h.2.1 j
  rw [dw_JJ] at this ⊢
  rw [dw_JJ]
  by_cases c : j = k
  · rw [if_pos c, if_pos c]
  · rw [if_neg c] at this ⊢
    rw [if_neg c, this]), h.2.2.1, h.2.2.2⟩
theorem dw_Eq_Jown (k : Nat) (v : Int64) (hv : dw_gJ X k = v) : dw_Eq X (dw_J X k v) := ⟨fun _ _ => rfl, (fun j => by
  rw [dw_JJ]
  by_cases c : j = k
  · rw [if_pos c, c, hv]
  · rw [if_neg c]), fun _ _ _ _ _ => rfl, fun _ => rfl⟩
theorem dw_Msow40 (h : dw_TH X R G r m w s yy) (hcl : dw_small (dw_gJ X 6)) {n : Nat} (hn : n ≤ 40) (what : Int32) (f k : Nat) : ∀ i c X2 R2 G2 S N b l, i + k = 40 → dw_Eq (dw_J X 6 c) X2 → (∀ k, k < 18 → R2 k = R k) → (∀ d, d < 6 → G2 d = G d) → dw_Bk (M_sow_40 (f + k + 1) (dw_mk X2 R2 G2 S N (nI yy)) 0 (nI n) what (dw_gJ X 6) b l (nI i)) X R G (nI yy) (if what = 0 then (dw_best (fun y => dw_F w (dw_gJ X 6 ||| dw_bit y) (dw_gJ X 5) s yy n) nI (fun y => !dw_tb (dw_gJ X 6) y) k i b l).1 else (dw_best (fun y => dw_F w (dw_gJ X 6 ||| dw_bit y) (dw_gJ X 5) s yy n) nI (fun y => !dw_tb (dw_gJ X 6) y) k i b l).2) := by
  induction k with
  | zero =>
    intro i c X2 R2 G2 S N b l hi e hR hG
    rw [M_sow_40, if_pos (show (40 : Int32) ≤ nI i from nI_le (a := 40) (by omega) (by omega)), dw_best]
    repeat (first | with_reducible rw [bnd_s] | with_reducible rw [nmd_s] | with_reducible rw [bn2_s] | with_reducible rw [grd_t] | ((conv => arg 1; arg 1; simp (disch := omega) only [dw_is, dw_f0, dw_t0, dw_f9, dw_t9, dw_f12, dw_t12, dw_f13, dw_t13, dw_f14, dw_t14, dw_f22, dw_t22, dw_f23, dw_t23, dw_f24, dw_t24, dw_f25, dw_t25, dw_f28, dw_t28, dw_f29, dw_t29, dw_f30, dw_t30, dw_f35, dw_t35, dw_f7, dw_t7, dw_f5, dw_t5, dw_f6, dw_t6, dw_f1, dw_f2, dw_f3, dw_f4, dw_f8, dw_f10, dw_f11, dw_f15, dw_f16, dw_f17, dw_f18, dw_f19, dw_f20, dw_f21, dw_f26, dw_f27, dw_f31, dw_f32, dw_f33, dw_f34, dw_a1, dw_w1, dw_a2, dw_w2, dw_a3, dw_w3, dw_a4, dw_w4, dw_a5, dw_w5, dw_a6, dw_w6, dw_a7, dw_w7, dw_a8, dw_w8, dw_a9_0, dw_s9_0, dw_a9_1, dw_s9_1, dw_a10, dw_w10, dw_a10_0, dw_w10_0, dw_a10_1, dw_w10_1, dw_a10_2, dw_w10_2, dw_a11, dw_w11, dw_a12, dw_w12, dw_a13, dw_w13, dw_a14, dw_w14, dw_a15, dw_w15, dw_a16, dw_w16, dw_a17, dw_w17, dw_a17_0, dw_w17_0, dw_a18, dw_w18, dw_a18_0, dw_w18_0, dw_a18_1, dw_w18_1, dw_a18_2, dw_w18_2, dw_a18_3, dw_w18_3, dw_a18_4, dw_w18_4, dw_a18_5, dw_w18_5, dw_a19, dw_w19, dw_a19_24, dw_w19_24, dw_a20, dw_w20]); first | with_reducible rw [bnd_s] | with_reducible rw [bn2_s] | with_reducible rw [grd_t]))
    have e2 : dw_Eq X (dw_J X2 6 (dw_gJ X 6)) := dw_Eq_tr (dw_Eq_Jown 6 _ rfl) (dw_Eq_JJ 6 c _ e)
    by_cases c0 : what = 0
    · rw [if_pos c0, if_pos c0]
      exact ⟨_, _, _, _, _, rfl, e2, hR, hG⟩
    · rw [if_neg c0, if_neg c0]
      exact ⟨_, _, _, _, _, rfl, e2, hR, hG⟩
  | succ k ih =>
    intro i c X2 R2 G2 S N b l hi e hR hG
    rw [show f + (k + 1) + 1 = f + k + 1 + 1 by omega, M_sow_40, if_neg (show ¬ (40 : Int32) ≤ nI i from nI_ge (b := 40) (by omega) (by omega)), dw_best]
    by_cases cb : dw_tb (dw_gJ X 6) i = true
    · rw [if_neg (fun q => by rw [(dw_tb0 hcl (by omega)).mp q] at cb; exact absurd cb (by decide)), if_neg (show ¬ (!dw_tb (dw_gJ X 6) i) = true by rw [cb]; decide), M_sow_107, nmd_s, nI_1]
      exact ih (i + 1) c _ _ _ _ _ _ _ (by omega) e hR hG
    · have cb2 : dw_tb (dw_gJ X 6) i = false := by
        cases hq : dw_tb (dw_gJ X 6) i
        · rfl
        · exact absurd hq cb
      rw [if_pos ((dw_tb0 hcl (by omega)).mpr cb2), if_pos (show (!dw_tb (dw_gJ X 6) i) = true by rw [cb2]; rfl)]
      have e5 := dw_Eq_JJ 6 c (dw_gJ X 6 ||| dw_bit i) e
      obtain ⟨X3, R3, G3, S3, N3, e3, q1, q2, q3⟩ := dw_Mbn (S := S) (N := N) (dw_TH_Eq (dw_TH_cl h (dw_gJ X 6 ||| dw_bit i)) e5 hR hG) hn
      rw [show dw_gJ (dw_J X2 6 (dw_gJ X 6 ||| dw_bit i)) 6 = dw_gJ X 6 ||| dw_bit i by rw [dw_JJ, if_pos rfl], show dw_gJ (dw_J X2 6 (dw_gJ X 6 ||| dw_bit i)) 5 = dw_gJ X 5 by rw [e5.2.1 5, dw_JJ, if_neg (by decide)]] at e3
      rw [dw_bit] at e3
      repeat (first | with_reducible rw [bnd_s] | with_reducible rw [nmd_s] | with_reducible rw [bn2_s] | with_reducible rw [grd_t] | ((conv => arg 1; arg 1; simp (disch := omega) only [dw_is, dw_f0, dw_t0, dw_f9, dw_t9, dw_f12, dw_t12, dw_f13, dw_t13, dw_f14, dw_t14, dw_f22, dw_t22, dw_f23, dw_t23, dw_f24, dw_t24, dw_f25, dw_t25, dw_f28, dw_t28, dw_f29, dw_t29, dw_f30, dw_t30, dw_f35, dw_t35, dw_f7, dw_t7, dw_f5, dw_t5, dw_f6, dw_t6, dw_f1, dw_f2, dw_f3, dw_f4, dw_f8, dw_f10, dw_f11, dw_f15, dw_f16, dw_f17, dw_f18, dw_f19, dw_f20, dw_f21, dw_f26, dw_f27, dw_f31, dw_f32, dw_f33, dw_f34, dw_a1, dw_w1, dw_a2, dw_w2, dw_a3, dw_w3, dw_a4, dw_w4, dw_a5, dw_w5, dw_a6, dw_w6, dw_a7, dw_w7, dw_a8, dw_w8, dw_a9_0, dw_s9_0, dw_a9_1, dw_s9_1, dw_a10, dw_w10, dw_a10_0, dw_w10_0, dw_a10_1, dw_w10_1, dw_a10_2, dw_w10_2, dw_a11, dw_w11, dw_a12, dw_w12, dw_a13, dw_w13, dw_a14, dw_w14, dw_a15, dw_w15, dw_a16, dw_w16, dw_a17, dw_w17, dw_a17_0, dw_w17_0, dw_a18, dw_w18, dw_a18_0, dw_w18_0, dw_a18_1, dw_w18_1, dw_a18_2, dw_w18_2, dw_a18_3, dw_w18_3, dw_a18_4, dw_w18_4, dw_a18_5, dw_w18_5, dw_a19, dw_w19, dw_a19_24, dw_w19_24, dw_a20, dw_w20, e3]); first | with_reducible rw [bnd_s] | with_reducible rw [bn2_s] | with_reducible rw [grd_t]))
      rw [← dw_bit] at *
      have e6 := dw_Eq_tr e5 q1
      have hR3 : ∀ k, k < 18 → R3 k = R k := fun k hk => (q2 k hk).trans (hR k hk)
      have hG3 : ∀ k, k < 6 → G3 k = G k := fun k hk => (q3 k hk).trans (hG k hk)
      by_cases cl : dw_F w (dw_gJ X 6 ||| dw_bit i) (dw_gJ X 5) s yy n < l
      · rw [if_neg (show ¬ l ≤ dw_F w (dw_gJ X 6 ||| dw_bit i) (dw_gJ X 5) s yy n from (fa_of_lt cl).2.1), M_sow_89, if_neg (fa_of_lt cl).2.1, M_sow_105, M_sow_107, nmd_s, nI_1, if_pos cl]
        exact ih (i + 1) _ _ _ _ _ _ _ _ (by omega) e6 hR3 hG3
      · rw [if_pos (fa_of_nlt cl), M_sow_89, if_pos (fa_of_nlt cl), M_sow_105, M_sow_107, nmd_s, nI_1, if_neg cl]
        exact ih (i + 1) _ _ _ _ _ _ _ _ (by omega) e6 hR3 hG3
theorem dw_Msow (h : dw_TH X R G r m w s yy) (hcl : dw_small (dw_gJ X 6)) (a b : Int32) : dw_Bk (M_sow (dw_mk X R G S N (nI yy)) 0 a b) X R G (nI yy) (dw_qsow w (dw_gJ X 6) (dw_gJ X 5) s yy a b) := by
  rw [M_sow, dw_qsow]
  repeat (first | with_reducible rw [bnd_s] | with_reducible rw [nmd_s] | with_reducible rw [bn2_s] | with_reducible rw [grd_t] | ((conv => arg 1; arg 1; simp (disch := omega) only [dw_is, dw_f0, dw_t0, dw_f9, dw_t9, dw_f12, dw_t12, dw_f13, dw_t13, dw_f14, dw_t14, dw_f22, dw_t22, dw_f23, dw_t23, dw_f24, dw_t24, dw_f25, dw_t25, dw_f28, dw_t28, dw_f29, dw_t29, dw_f30, dw_t30, dw_f35, dw_t35, dw_f7, dw_t7, dw_f5, dw_t5, dw_f6, dw_t6, dw_f1, dw_f2, dw_f3, dw_f4, dw_f8, dw_f10, dw_f11, dw_f15, dw_f16, dw_f17, dw_f18, dw_f19, dw_f20, dw_f21, dw_f26, dw_f27, dw_f31, dw_f32, dw_f33, dw_f34, dw_a1, dw_w1, dw_a2, dw_w2, dw_a3, dw_w3, dw_a4, dw_w4, dw_a5, dw_w5, dw_a6, dw_w6, dw_a7, dw_w7, dw_a8, dw_w8, dw_a9_0, dw_s9_0, dw_a9_1, dw_s9_1, dw_a10, dw_w10, dw_a10_0, dw_w10_0, dw_a10_1, dw_w10_1, dw_a10_2, dw_w10_2, dw_a11, dw_w11, dw_a12, dw_w12, dw_a13, dw_w13, dw_a14, dw_w14, dw_a15, dw_w15, dw_a16, dw_w16, dw_a17, dw_w17, dw_a17_0, dw_w17_0, dw_a18, dw_w18, dw_a18_0, dw_w18_0, dw_a18_1, dw_w18_1, dw_a18_2, dw_w18_2, dw_a18_3, dw_w18_3, dw_a18_4, dw_w18_4, dw_a18_5, dw_w18_5, dw_a19, dw_w19, dw_a19_24, dw_w19_24, dw_a20, dw_w20, dw_Min]); first | with_reducible rw [bnd_s] | with_reducible rw [bn2_s] | with_reducible rw [grd_t]))
  by_cases c : dw_in a 0 20 = 0
  · rw [if_pos c, if_pos c]
    exact dw_Bk_id
  rw [if_neg c, if_neg c]
  repeat (first | with_reducible rw [bnd_s] | with_reducible rw [nmd_s] | with_reducible rw [bn2_s] | with_reducible rw [grd_t] | ((conv => arg 1; arg 1; simp (disch := omega) only [dw_is, dw_f0, dw_t0, dw_f9, dw_t9, dw_f12, dw_t12, dw_f13, dw_t13, dw_f14, dw_t14, dw_f22, dw_t22, dw_f23, dw_t23, dw_f24, dw_t24, dw_f25, dw_t25, dw_f28, dw_t28, dw_f29, dw_t29, dw_f30, dw_t30, dw_f35, dw_t35, dw_f7, dw_t7, dw_f5, dw_t5, dw_f6, dw_t6, dw_f1, dw_f2, dw_f3, dw_f4, dw_f8, dw_f10, dw_f11, dw_f15, dw_f16, dw_f17, dw_f18, dw_f19, dw_f20, dw_f21, dw_f26, dw_f27, dw_f31, dw_f32, dw_f33, dw_f34, dw_a1, dw_w1, dw_a2, dw_w2, dw_a3, dw_w3, dw_a4, dw_w4, dw_a5, dw_w5, dw_a6, dw_w6, dw_a7, dw_w7, dw_a8, dw_w8, dw_a9_0, dw_s9_0, dw_a9_1, dw_s9_1, dw_a10, dw_w10, dw_a10_0, dw_w10_0, dw_a10_1, dw_w10_1, dw_a10_2, dw_w10_2, dw_a11, dw_w11, dw_a12, dw_w12, dw_a13, dw_w13, dw_a14, dw_w14, dw_a15, dw_w15, dw_a16, dw_w16, dw_a17, dw_w17, dw_a17_0, dw_w17_0, dw_a18, dw_w18, dw_a18_0, dw_w18_0, dw_a18_1, dw_w18_1, dw_a18_2, dw_w18_2, dw_a18_3, dw_w18_3, dw_a18_4, dw_w18_4, dw_a18_5, dw_w18_5, dw_a19, dw_w19, dw_a19_24, dw_w19_24, dw_a20, dw_w20, dw_Min]); first | with_reducible rw [bnd_s] | with_reducible rw [bn2_s] | with_reducible rw [grd_t]))
  by_cases c2 : dw_in b 0 1 = 0
  · rw [if_pos c2, if_pos c2]
    exact dw_Bk_id
  rw [if_neg c2, if_neg c2]
  obtain ⟨n, hn, rfl⟩ := dw_in_of (n := 20) rfl c
  rw [dw_N_nI (by omega)]
  obtain ⟨X3, R3, G3, S3, N3, e3, q1, q2, q3⟩ := dw_Mbn (S := S) (N := N) h (n := n) (by omega)
  repeat (first | with_reducible rw [bnd_s] | with_reducible rw [nmd_s] | with_reducible rw [bn2_s] | with_reducible rw [grd_t] | ((conv => arg 1; arg 1; simp (disch := omega) only [dw_is, dw_f0, dw_t0, dw_f9, dw_t9, dw_f12, dw_t12, dw_f13, dw_t13, dw_f14, dw_t14, dw_f22, dw_t22, dw_f23, dw_t23, dw_f24, dw_t24, dw_f25, dw_t25, dw_f28, dw_t28, dw_f29, dw_t29, dw_f30, dw_t30, dw_f35, dw_t35, dw_f7, dw_t7, dw_f5, dw_t5, dw_f6, dw_t6, dw_f1, dw_f2, dw_f3, dw_f4, dw_f8, dw_f10, dw_f11, dw_f15, dw_f16, dw_f17, dw_f18, dw_f19, dw_f20, dw_f21, dw_f26, dw_f27, dw_f31, dw_f32, dw_f33, dw_f34, dw_a1, dw_w1, dw_a2, dw_w2, dw_a3, dw_w3, dw_a4, dw_w4, dw_a5, dw_w5, dw_a6, dw_w6, dw_a7, dw_w7, dw_a8, dw_w8, dw_a9_0, dw_s9_0, dw_a9_1, dw_s9_1, dw_a10, dw_w10, dw_a10_0, dw_w10_0, dw_a10_1, dw_w10_1, dw_a10_2, dw_w10_2, dw_a11, dw_w11, dw_a12, dw_w12, dw_a13, dw_w13, dw_a14, dw_w14, dw_a15, dw_w15, dw_a16, dw_w16, dw_a17, dw_w17, dw_a17_0, dw_w17_0, dw_a18, dw_w18, dw_a18_0, dw_w18_0, dw_a18_1, dw_w18_1, dw_a18_2, dw_w18_2, dw_a18_3, dw_w18_3, dw_a18_4, dw_w18_4, dw_a18_5, dw_w18_5, dw_a19, dw_w19, dw_a19_24, dw_w19_24, dw_a20, dw_w20, e3]); first | with_reducible rw [bnd_s] | with_reducible rw [bn2_s] | with_reducible rw [grd_t]))
  exact dw_Msow40 h hcl (by omega) b 959 40 0 (dw_gJ X 6) X3 R3 G3 S3 N3 _ _ rfl (dw_Eq_tr (dw_Eq_sy (dw_Eq_Jown 6 _ rfl)) q1) q2 q3
theorem dw_TH_6 (h : dw_TH X R G r m w s yy) {d : Nat} (hd : d < m) : dw_TH X R (upd G d 1) r m w (dw_set s d 6 1) yy := ⟨h.1, dw_WF_set6 h.2.1 d (Or.inr rfl), dw_Dead_set h.2.2.1 1 hd, h.2.2.2.1, h.2.2.2.2.1, dw_Rel_set6 h.2.2.2.2.2 d 1⟩
theorem dw_Mhold34 (h : dw_TH X R G r m w s yy) {n : Nat} (hn : n ≤ 40) (what : Int32) (f k : Nat) : ∀ i X2 R2 G2 S N b l, i + k = m → dw_Eq X X2 → (∀ k, k < 18 → R2 k = R k) → (∀ d, d < 6 → G2 d = G d) → dw_Bk (M_hold_34 (f + k + 1) (dw_mk X2 R2 G2 S N (nI yy)) 0 (nI n) what b l (nI i)) X R G (nI yy) (if what = 0 then (dw_best (fun d => dw_F w (dw_gJ X 6) (dw_gJ X 5) (dw_set s d 6 1) yy n) nI (fun d => decide (s d 6 = 0)) (6 - i) i b l).1 else (dw_best (fun d => dw_F w (dw_gJ X 6) (dw_gJ X 5) (dw_set s d 6 1) yy n) nI (fun d => decide (s d 6 = 0)) (6 - i) i b l).2) := by
  have hm6 := h.1.2.2.2.2
  induction k with
  | zero =>
    intro i X2 R2 G2 S N b l hi e hR hG
    have hm := (e.1 0 (by decide)).trans h.1.2.2.2.1
    rw [M_hold_34]
    repeat (first | with_reducible rw [bnd_s] | with_reducible rw [nmd_s] | with_reducible rw [bn2_s] | with_reducible rw [grd_t] | ((conv => arg 1; arg 1; simp (disch := omega) only [dw_is, dw_f0, dw_t0, dw_f9, dw_t9, dw_f12, dw_t12, dw_f13, dw_t13, dw_f14, dw_t14, dw_f22, dw_t22, dw_f23, dw_t23, dw_f24, dw_t24, dw_f25, dw_t25, dw_f28, dw_t28, dw_f29, dw_t29, dw_f30, dw_t30, dw_f35, dw_t35, dw_f7, dw_t7, dw_f5, dw_t5, dw_f6, dw_t6, dw_f1, dw_f2, dw_f3, dw_f4, dw_f8, dw_f10, dw_f11, dw_f15, dw_f16, dw_f17, dw_f18, dw_f19, dw_f20, dw_f21, dw_f26, dw_f27, dw_f31, dw_f32, dw_f33, dw_f34, dw_a1, dw_w1, dw_a2, dw_w2, dw_a3, dw_w3, dw_a4, dw_w4, dw_a5, dw_w5, dw_a6, dw_w6, dw_a7, dw_w7, dw_a8, dw_w8, dw_a9_0, dw_s9_0, dw_a9_1, dw_s9_1, dw_a10, dw_w10, dw_a10_0, dw_w10_0, dw_a10_1, dw_w10_1, dw_a10_2, dw_w10_2, dw_a11, dw_w11, dw_a12, dw_w12, dw_a13, dw_w13, dw_a14, dw_w14, dw_a15, dw_w15, dw_a16, dw_w16, dw_a17, dw_w17, dw_a17_0, dw_w17_0, dw_a18, dw_w18, dw_a18_0, dw_w18_0, dw_a18_1, dw_w18_1, dw_a18_2, dw_w18_2, dw_a18_3, dw_w18_3, dw_a18_4, dw_w18_4, dw_a18_5, dw_w18_5, dw_a19, dw_w19, dw_a19_24, dw_w19_24, dw_a20, dw_w20, hm]); first | with_reducible rw [bnd_s] | with_reducible rw [bn2_s] | with_reducible rw [grd_t]))
    rw [if_pos (show nI m ≤ nI i from nI_le (by omega) (by omega)), dw_best_no (fun j h1 h2 => by rw [h.2.2.1 j (by omega) (by omega)]; decide)]
    by_cases c0 : what = 0
    · rw [if_pos c0, if_pos c0]
      exact ⟨_, _, _, _, _, rfl, e, hR, hG⟩
    · rw [if_neg c0, if_neg c0]
      exact ⟨_, _, _, _, _, rfl, e, hR, hG⟩
  | succ k ih =>
    intro i X2 R2 G2 S N b l hi e hR hG
    have hm := (e.1 0 (by decide)).trans h.1.2.2.2.1
    have h2 := dw_TH_Eq h e hR hG
    have i6 := (h2.2.2.2.2.2 i (by omega)).2.2.2.1
    rw [show f + (k + 1) + 1 = f + k + 1 + 1 by omega, M_hold_34]
    repeat (first | with_reducible rw [bnd_s] | with_reducible rw [nmd_s] | with_reducible rw [bn2_s] | with_reducible rw [grd_t] | ((conv => arg 1; arg 1; simp (disch := omega) only [dw_is, dw_f0, dw_t0, dw_f9, dw_t9, dw_f12, dw_t12, dw_f13, dw_t13, dw_f14, dw_t14, dw_f22, dw_t22, dw_f23, dw_t23, dw_f24, dw_t24, dw_f25, dw_t25, dw_f28, dw_t28, dw_f29, dw_t29, dw_f30, dw_t30, dw_f35, dw_t35, dw_f7, dw_t7, dw_f5, dw_t5, dw_f6, dw_t6, dw_f1, dw_f2, dw_f3, dw_f4, dw_f8, dw_f10, dw_f11, dw_f15, dw_f16, dw_f17, dw_f18, dw_f19, dw_f20, dw_f21, dw_f26, dw_f27, dw_f31, dw_f32, dw_f33, dw_f34, dw_a1, dw_w1, dw_a2, dw_w2, dw_a3, dw_w3, dw_a4, dw_w4, dw_a5, dw_w5, dw_a6, dw_w6, dw_a7, dw_w7, dw_a8, dw_w8, dw_a9_0, dw_s9_0, dw_a9_1, dw_s9_1, dw_a10, dw_w10, dw_a10_0, dw_w10_0, dw_a10_1, dw_w10_1, dw_a10_2, dw_w10_2, dw_a11, dw_w11, dw_a12, dw_w12, dw_a13, dw_w13, dw_a14, dw_w14, dw_a15, dw_w15, dw_a16, dw_w16, dw_a17, dw_w17, dw_a17_0, dw_w17_0, dw_a18, dw_w18, dw_a18_0, dw_w18_0, dw_a18_1, dw_w18_1, dw_a18_2, dw_w18_2, dw_a18_3, dw_w18_3, dw_a18_4, dw_w18_4, dw_a18_5, dw_w18_5, dw_a19, dw_w19, dw_a19_24, dw_w19_24, dw_a20, dw_w20, hm]); first | with_reducible rw [bnd_s] | with_reducible rw [bn2_s] | with_reducible rw [grd_t]))
    rw [if_neg (show ¬ nI m ≤ nI i from nI_ge (by omega) (by omega)), show 6 - i = 6 - (i + 1) + 1 by omega, dw_best]
    repeat (first | with_reducible rw [bnd_s] | with_reducible rw [nmd_s] | with_reducible rw [bn2_s] | with_reducible rw [grd_t] | ((conv => arg 1; arg 1; simp (disch := omega) only [dw_is, dw_f0, dw_t0, dw_f9, dw_t9, dw_f12, dw_t12, dw_f13, dw_t13, dw_f14, dw_t14, dw_f22, dw_t22, dw_f23, dw_t23, dw_f24, dw_t24, dw_f25, dw_t25, dw_f28, dw_t28, dw_f29, dw_t29, dw_f30, dw_t30, dw_f35, dw_t35, dw_f7, dw_t7, dw_f5, dw_t5, dw_f6, dw_t6, dw_f1, dw_f2, dw_f3, dw_f4, dw_f8, dw_f10, dw_f11, dw_f15, dw_f16, dw_f17, dw_f18, dw_f19, dw_f20, dw_f21, dw_f26, dw_f27, dw_f31, dw_f32, dw_f33, dw_f34, dw_a1, dw_w1, dw_a2, dw_w2, dw_a3, dw_w3, dw_a4, dw_w4, dw_a5, dw_w5, dw_a6, dw_w6, dw_a7, dw_w7, dw_a8, dw_w8, dw_a9_0, dw_s9_0, dw_a9_1, dw_s9_1, dw_a10, dw_w10, dw_a10_0, dw_w10_0, dw_a10_1, dw_w10_1, dw_a10_2, dw_w10_2, dw_a11, dw_w11, dw_a12, dw_w12, dw_a13, dw_w13, dw_a14, dw_w14, dw_a15, dw_w15, dw_a16, dw_w16, dw_a17, dw_w17, dw_a17_0, dw_w17_0, dw_a18, dw_w18, dw_a18_0, dw_w18_0, dw_a18_1, dw_w18_1, dw_a18_2, dw_w18_2, dw_a18_3, dw_w18_3, dw_a18_4, dw_w18_4, dw_a18_5, dw_w18_5, dw_a19, dw_w19, dw_a19_24, dw_w19_24, dw_a20, dw_w20, i6]); first | with_reducible rw [bnd_s] | with_reducible rw [bn2_s] | with_reducible rw [grd_t]))
    by_cases c : s i 6 = 0
    · rw [if_pos c, if_pos (decide_eq_true c)]
      obtain ⟨X3, R3, G3, S3, N3, e3, q1, q2, q3⟩ := dw_Mbn (S := S) (N := N) (dw_TH_6 h2 (d := i) (by omega)) hn
      rw [e.2.1 6, e.2.1 5] at e3
      repeat (first | with_reducible rw [bnd_s] | with_reducible rw [nmd_s] | with_reducible rw [bn2_s] | with_reducible rw [grd_t] | ((conv => arg 1; arg 1; simp (disch := omega) only [dw_is, dw_f0, dw_t0, dw_f9, dw_t9, dw_f12, dw_t12, dw_f13, dw_t13, dw_f14, dw_t14, dw_f22, dw_t22, dw_f23, dw_t23, dw_f24, dw_t24, dw_f25, dw_t25, dw_f28, dw_t28, dw_f29, dw_t29, dw_f30, dw_t30, dw_f35, dw_t35, dw_f7, dw_t7, dw_f5, dw_t5, dw_f6, dw_t6, dw_f1, dw_f2, dw_f3, dw_f4, dw_f8, dw_f10, dw_f11, dw_f15, dw_f16, dw_f17, dw_f18, dw_f19, dw_f20, dw_f21, dw_f26, dw_f27, dw_f31, dw_f32, dw_f33, dw_f34, dw_a1, dw_w1, dw_a2, dw_w2, dw_a3, dw_w3, dw_a4, dw_w4, dw_a5, dw_w5, dw_a6, dw_w6, dw_a7, dw_w7, dw_a8, dw_w8, dw_a9_0, dw_s9_0, dw_a9_1, dw_s9_1, dw_a10, dw_w10, dw_a10_0, dw_w10_0, dw_a10_1, dw_w10_1, dw_a10_2, dw_w10_2, dw_a11, dw_w11, dw_a12, dw_w12, dw_a13, dw_w13, dw_a14, dw_w14, dw_a15, dw_w15, dw_a16, dw_w16, dw_a17, dw_w17, dw_a17_0, dw_w17_0, dw_a18, dw_w18, dw_a18_0, dw_w18_0, dw_a18_1, dw_w18_1, dw_a18_2, dw_w18_2, dw_a18_3, dw_w18_3, dw_a18_4, dw_w18_4, dw_a18_5, dw_w18_5, dw_a19, dw_w19, dw_a19_24, dw_w19_24, dw_a20, dw_w20, e3]); first | with_reducible rw [bnd_s] | with_reducible rw [bn2_s] | with_reducible rw [grd_t]))
      have e6 := dw_Eq_tr e q1
      have hR3 : ∀ k, k < 18 → R3 k = R k := fun k hk => (q2 k hk).trans (hR k hk)
      have hG3 : ∀ k, k < 6 → upd G3 i 0 k = G k := by
        intro k hk
        rw [upd_app]
        by_cases ck : k = i
        · rw [if_pos ck, ck, ← hG i (by omega), i6, c]
        · rw [if_neg ck, q3 k hk, upd_app, if_neg ck, hG k hk]
      by_cases cl : dw_F w (dw_gJ X 6) (dw_gJ X 5) (dw_set s i 6 1) yy n < l
      · rw [if_neg (fa_of_lt cl).2.1, M_hold_89, if_neg (fa_of_lt cl).2.1, M_hold_104, M_hold_106, nmd_s, nI_1, if_pos cl]
        exact ih (i + 1) _ _ _ _ _ _ _ (by omega) e6 hR3 hG3
      · rw [if_pos (fa_of_nlt cl), M_hold_89, if_pos (fa_of_nlt cl), M_hold_104, M_hold_106, nmd_s, nI_1, if_neg cl]
        exact ih (i + 1) _ _ _ _ _ _ _ (by omega) e6 hR3 hG3
    · rw [if_neg c, if_neg (show ¬ decide (s i 6 = 0) = true by rw [decide_eq_false c]; decide), M_hold_106, nmd_s, nI_1]
      exact ih (i + 1) _ _ _ _ _ _ _ (by omega) e hR hG
theorem dw_Mhold (h : dw_TH X R G r m w s yy) (a b : Int32) : dw_Bk (M_hold (dw_mk X R G S N (nI yy)) 0 a b) X R G (nI yy) (dw_qhold w (dw_gJ X 6) (dw_gJ X 5) s yy a b) := by
  rw [M_hold, dw_qhold]
  have hm6 := h.1.2.2.2.2
  repeat (first | with_reducible rw [bnd_s] | with_reducible rw [nmd_s] | with_reducible rw [bn2_s] | with_reducible rw [grd_t] | ((conv => arg 1; arg 1; simp (disch := omega) only [dw_is, dw_f0, dw_t0, dw_f9, dw_t9, dw_f12, dw_t12, dw_f13, dw_t13, dw_f14, dw_t14, dw_f22, dw_t22, dw_f23, dw_t23, dw_f24, dw_t24, dw_f25, dw_t25, dw_f28, dw_t28, dw_f29, dw_t29, dw_f30, dw_t30, dw_f35, dw_t35, dw_f7, dw_t7, dw_f5, dw_t5, dw_f6, dw_t6, dw_f1, dw_f2, dw_f3, dw_f4, dw_f8, dw_f10, dw_f11, dw_f15, dw_f16, dw_f17, dw_f18, dw_f19, dw_f20, dw_f21, dw_f26, dw_f27, dw_f31, dw_f32, dw_f33, dw_f34, dw_a1, dw_w1, dw_a2, dw_w2, dw_a3, dw_w3, dw_a4, dw_w4, dw_a5, dw_w5, dw_a6, dw_w6, dw_a7, dw_w7, dw_a8, dw_w8, dw_a9_0, dw_s9_0, dw_a9_1, dw_s9_1, dw_a10, dw_w10, dw_a10_0, dw_w10_0, dw_a10_1, dw_w10_1, dw_a10_2, dw_w10_2, dw_a11, dw_w11, dw_a12, dw_w12, dw_a13, dw_w13, dw_a14, dw_w14, dw_a15, dw_w15, dw_a16, dw_w16, dw_a17, dw_w17, dw_a17_0, dw_w17_0, dw_a18, dw_w18, dw_a18_0, dw_w18_0, dw_a18_1, dw_w18_1, dw_a18_2, dw_w18_2, dw_a18_3, dw_w18_3, dw_a18_4, dw_w18_4, dw_a18_5, dw_w18_5, dw_a19, dw_w19, dw_a19_24, dw_w19_24, dw_a20, dw_w20, dw_Min]); first | with_reducible rw [bnd_s] | with_reducible rw [bn2_s] | with_reducible rw [grd_t]))
  by_cases c : dw_in a 0 40 = 0
  · rw [if_pos c, if_pos c]
    exact dw_Bk_id
  rw [if_neg c, if_neg c]
  repeat (first | with_reducible rw [bnd_s] | with_reducible rw [nmd_s] | with_reducible rw [bn2_s] | with_reducible rw [grd_t] | ((conv => arg 1; arg 1; simp (disch := omega) only [dw_is, dw_f0, dw_t0, dw_f9, dw_t9, dw_f12, dw_t12, dw_f13, dw_t13, dw_f14, dw_t14, dw_f22, dw_t22, dw_f23, dw_t23, dw_f24, dw_t24, dw_f25, dw_t25, dw_f28, dw_t28, dw_f29, dw_t29, dw_f30, dw_t30, dw_f35, dw_t35, dw_f7, dw_t7, dw_f5, dw_t5, dw_f6, dw_t6, dw_f1, dw_f2, dw_f3, dw_f4, dw_f8, dw_f10, dw_f11, dw_f15, dw_f16, dw_f17, dw_f18, dw_f19, dw_f20, dw_f21, dw_f26, dw_f27, dw_f31, dw_f32, dw_f33, dw_f34, dw_a1, dw_w1, dw_a2, dw_w2, dw_a3, dw_w3, dw_a4, dw_w4, dw_a5, dw_w5, dw_a6, dw_w6, dw_a7, dw_w7, dw_a8, dw_w8, dw_a9_0, dw_s9_0, dw_a9_1, dw_s9_1, dw_a10, dw_w10, dw_a10_0, dw_w10_0, dw_a10_1, dw_w10_1, dw_a10_2, dw_w10_2, dw_a11, dw_w11, dw_a12, dw_w12, dw_a13, dw_w13, dw_a14, dw_w14, dw_a15, dw_w15, dw_a16, dw_w16, dw_a17, dw_w17, dw_a17_0, dw_w17_0, dw_a18, dw_w18, dw_a18_0, dw_w18_0, dw_a18_1, dw_w18_1, dw_a18_2, dw_w18_2, dw_a18_3, dw_w18_3, dw_a18_4, dw_w18_4, dw_a18_5, dw_w18_5, dw_a19, dw_w19, dw_a19_24, dw_w19_24, dw_a20, dw_w20, dw_Min]); first | with_reducible rw [bnd_s] | with_reducible rw [bn2_s] | with_reducible rw [grd_t]))
  by_cases c2 : dw_in b 0 1 = 0
  · rw [if_pos c2, if_pos c2]
    exact dw_Bk_id
  rw [if_neg c2, if_neg c2]
  obtain ⟨n, hn, rfl⟩ := dw_in_of (n := 40) rfl c
  rw [dw_N_nI (by omega)]
  obtain ⟨X3, R3, G3, S3, N3, e3, q1, q2, q3⟩ := dw_Mbn (S := S) (N := N) h (n := n) (by omega)
  repeat (first | with_reducible rw [bnd_s] | with_reducible rw [nmd_s] | with_reducible rw [bn2_s] | with_reducible rw [grd_t] | ((conv => arg 1; arg 1; simp (disch := omega) only [dw_is, dw_f0, dw_t0, dw_f9, dw_t9, dw_f12, dw_t12, dw_f13, dw_t13, dw_f14, dw_t14, dw_f22, dw_t22, dw_f23, dw_t23, dw_f24, dw_t24, dw_f25, dw_t25, dw_f28, dw_t28, dw_f29, dw_t29, dw_f30, dw_t30, dw_f35, dw_t35, dw_f7, dw_t7, dw_f5, dw_t5, dw_f6, dw_t6, dw_f1, dw_f2, dw_f3, dw_f4, dw_f8, dw_f10, dw_f11, dw_f15, dw_f16, dw_f17, dw_f18, dw_f19, dw_f20, dw_f21, dw_f26, dw_f27, dw_f31, dw_f32, dw_f33, dw_f34, dw_a1, dw_w1, dw_a2, dw_w2, dw_a3, dw_w3, dw_a4, dw_w4, dw_a5, dw_w5, dw_a6, dw_w6, dw_a7, dw_w7, dw_a8, dw_w8, dw_a9_0, dw_s9_0, dw_a9_1, dw_s9_1, dw_a10, dw_w10, dw_a10_0, dw_w10_0, dw_a10_1, dw_w10_1, dw_a10_2, dw_w10_2, dw_a11, dw_w11, dw_a12, dw_w12, dw_a13, dw_w13, dw_a14, dw_w14, dw_a15, dw_w15, dw_a16, dw_w16, dw_a17, dw_w17, dw_a17_0, dw_w17_0, dw_a18, dw_w18, dw_a18_0, dw_w18_0, dw_a18_1, dw_w18_1, dw_a18_2, dw_w18_2, dw_a18_3, dw_w18_3, dw_a18_4, dw_w18_4, dw_a18_5, dw_w18_5, dw_a19, dw_w19, dw_a19_24, dw_w19_24, dw_a20, dw_w20, e3]); first | with_reducible rw [bnd_s] | with_reducible rw [bn2_s] | with_reducible rw [grd_t]))
  have h2 := dw_Mhold34 h hn b (999 - m) m 0 X3 R3 G3 S3 N3 (-1) (dw_F w (dw_gJ X 6) (dw_gJ X 5) s yy n) (by omega) q1 q2 q3
  rw [show 999 - m + m + 1 = 1000 by omega] at h2
  exact h2
theorem dw_nIL {n : Nat} (h : n < 2 ^ 31) : (nI n).toInt64 = lN n := nI_l h
theorem dw_Mshare (h : dw_TH X R G r m w s yy) (a b : Int32) : dw_Bk (M_share (dw_mk X R G S N (nI yy)) 0 a b) X R G (nI yy) (dw_qshare w (dw_gJ X 6) (dw_gJ X 5) s yy a b) := by
  rw [M_share, dw_qshare]
  repeat (first | with_reducible rw [bnd_s] | with_reducible rw [nmd_s] | with_reducible rw [bn2_s] | with_reducible rw [grd_t] | ((conv => arg 1; arg 1; simp (disch := omega) only [dw_is, dw_f0, dw_t0, dw_f9, dw_t9, dw_f12, dw_t12, dw_f13, dw_t13, dw_f14, dw_t14, dw_f22, dw_t22, dw_f23, dw_t23, dw_f24, dw_t24, dw_f25, dw_t25, dw_f28, dw_t28, dw_f29, dw_t29, dw_f30, dw_t30, dw_f35, dw_t35, dw_f7, dw_t7, dw_f5, dw_t5, dw_f6, dw_t6, dw_f1, dw_f2, dw_f3, dw_f4, dw_f8, dw_f10, dw_f11, dw_f15, dw_f16, dw_f17, dw_f18, dw_f19, dw_f20, dw_f21, dw_f26, dw_f27, dw_f31, dw_f32, dw_f33, dw_f34, dw_a1, dw_w1, dw_a2, dw_w2, dw_a3, dw_w3, dw_a4, dw_w4, dw_a5, dw_w5, dw_a6, dw_w6, dw_a7, dw_w7, dw_a8, dw_w8, dw_a9_0, dw_s9_0, dw_a9_1, dw_s9_1, dw_a10, dw_w10, dw_a10_0, dw_w10_0, dw_a10_1, dw_w10_1, dw_a10_2, dw_w10_2, dw_a11, dw_w11, dw_a12, dw_w12, dw_a13, dw_w13, dw_a14, dw_w14, dw_a15, dw_w15, dw_a16, dw_w16, dw_a17, dw_w17, dw_a17_0, dw_w17_0, dw_a18, dw_w18, dw_a18_0, dw_w18_0, dw_a18_1, dw_w18_1, dw_a18_2, dw_w18_2, dw_a18_3, dw_w18_3, dw_a18_4, dw_w18_4, dw_a18_5, dw_w18_5, dw_a19, dw_w19, dw_a19_24, dw_w19_24, dw_a20, dw_w20, dw_Min]); first | with_reducible rw [bnd_s] | with_reducible rw [bn2_s] | with_reducible rw [grd_t]))
  by_cases c : dw_in a 0 40 = 0
  · rw [if_pos c, if_pos c]
    exact dw_Bk_id
  rw [if_neg c, if_neg c]
  repeat (first | with_reducible rw [bnd_s] | with_reducible rw [nmd_s] | with_reducible rw [bn2_s] | with_reducible rw [grd_t] | ((conv => arg 1; arg 1; simp (disch := omega) only [dw_is, dw_f0, dw_t0, dw_f9, dw_t9, dw_f12, dw_t12, dw_f13, dw_t13, dw_f14, dw_t14, dw_f22, dw_t22, dw_f23, dw_t23, dw_f24, dw_t24, dw_f25, dw_t25, dw_f28, dw_t28, dw_f29, dw_t29, dw_f30, dw_t30, dw_f35, dw_t35, dw_f7, dw_t7, dw_f5, dw_t5, dw_f6, dw_t6, dw_f1, dw_f2, dw_f3, dw_f4, dw_f8, dw_f10, dw_f11, dw_f15, dw_f16, dw_f17, dw_f18, dw_f19, dw_f20, dw_f21, dw_f26, dw_f27, dw_f31, dw_f32, dw_f33, dw_f34, dw_a1, dw_w1, dw_a2, dw_w2, dw_a3, dw_w3, dw_a4, dw_w4, dw_a5, dw_w5, dw_a6, dw_w6, dw_a7, dw_w7, dw_a8, dw_w8, dw_a9_0, dw_s9_0, dw_a9_1, dw_s9_1, dw_a10, dw_w10, dw_a10_0, dw_w10_0, dw_a10_1, dw_w10_1, dw_a10_2, dw_w10_2, dw_a11, dw_w11, dw_a12, dw_w12, dw_a13, dw_w13, dw_a14, dw_w14, dw_a15, dw_w15, dw_a16, dw_w16, dw_a17, dw_w17, dw_a17_0, dw_w17_0, dw_a18, dw_w18, dw_a18_0, dw_w18_0, dw_a18_1, dw_w18_1, dw_a18_2, dw_w18_2, dw_a18_3, dw_w18_3, dw_a18_4, dw_w18_4, dw_a18_5, dw_w18_5, dw_a19, dw_w19, dw_a19_24, dw_w19_24, dw_a20, dw_w20, dw_Min]); first | with_reducible rw [bnd_s] | with_reducible rw [bn2_s] | with_reducible rw [grd_t]))
  by_cases c2 : dw_in b 0 1 = 0
  · rw [if_pos c2, if_pos c2]
    exact dw_Bk_id
  rw [if_neg c2, if_neg c2]
  repeat (first | with_reducible rw [bnd_s] | with_reducible rw [nmd_s] | with_reducible rw [bn2_s] | with_reducible rw [grd_t] | ((conv => arg 1; arg 1; simp (disch := omega) only [dw_is, dw_f0, dw_t0, dw_f9, dw_t9, dw_f12, dw_t12, dw_f13, dw_t13, dw_f14, dw_t14, dw_f22, dw_t22, dw_f23, dw_t23, dw_f24, dw_t24, dw_f25, dw_t25, dw_f28, dw_t28, dw_f29, dw_t29, dw_f30, dw_t30, dw_f35, dw_t35, dw_f7, dw_t7, dw_f5, dw_t5, dw_f6, dw_t6, dw_f1, dw_f2, dw_f3, dw_f4, dw_f8, dw_f10, dw_f11, dw_f15, dw_f16, dw_f17, dw_f18, dw_f19, dw_f20, dw_f21, dw_f26, dw_f27, dw_f31, dw_f32, dw_f33, dw_f34, dw_a1, dw_w1, dw_a2, dw_w2, dw_a3, dw_w3, dw_a4, dw_w4, dw_a5, dw_w5, dw_a6, dw_w6, dw_a7, dw_w7, dw_a8, dw_w8, dw_a9_0, dw_s9_0, dw_a9_1, dw_s9_1, dw_a10, dw_w10, dw_a10_0, dw_w10_0, dw_a10_1, dw_w10_1, dw_a10_2, dw_w10_2, dw_a11, dw_w11, dw_a12, dw_w12, dw_a13, dw_w13, dw_a14, dw_w14, dw_a15, dw_w15, dw_a16, dw_w16, dw_a17, dw_w17, dw_a17_0, dw_w17_0, dw_a18, dw_w18, dw_a18_0, dw_w18_0, dw_a18_1, dw_w18_1, dw_a18_2, dw_w18_2, dw_a18_3, dw_w18_3, dw_a18_4, dw_w18_4, dw_a18_5, dw_w18_5, dw_a19, dw_w19, dw_a19_24, dw_w19_24, dw_a20, dw_w20]); first | with_reducible rw [bnd_s] | with_reducible rw [bn2_s] | with_reducible rw [grd_t]))
  by_cases c3 : dw_gJ X 5 = 0
  · rw [if_pos ((dw_cmp0 _).mpr c3), if_pos c3]
    exact dw_Bk_id
  rw [if_neg (fun q => c3 ((dw_cmp0 _).mp q)), if_neg c3]
  obtain ⟨n, hn, rfl⟩ := dw_in_of (n := 40) rfl c
  rw [dw_N_nI (by omega)]
  obtain ⟨X1, e1, e2, e3⟩ := dw_Mkeeps (X := X) (R := R) (G := G) (S := S) (N := N) (y := nI yy)
  obtain ⟨R2, G2, S2, N2, e4, h4⟩ := dw_Agoes (S := S) (N := N) (dw_TH_Eq h e2 (fun _ _ => rfl) (fun _ _ => rfl)) hn
  obtain ⟨R', G', e5, e6, e7⟩ := dw_Mlays (X := X1) (R := R2) (G := G2) (S := S2) (N := N2) (y := nI (yy + n)) e3
  have hs := h.2.2.2.2.1
  have hs2 := h4.2.2.2.2.1
  repeat (first | with_reducible rw [bnd_s] | with_reducible rw [nmd_s] | with_reducible rw [bn2_s] | with_reducible rw [grd_t] | ((conv => arg 1; arg 1; simp (disch := omega) only [dw_is, dw_f0, dw_t0, dw_f9, dw_t9, dw_f12, dw_t12, dw_f13, dw_t13, dw_f14, dw_t14, dw_f22, dw_t22, dw_f23, dw_t23, dw_f24, dw_t24, dw_f25, dw_t25, dw_f28, dw_t28, dw_f29, dw_t29, dw_f30, dw_t30, dw_f35, dw_t35, dw_f7, dw_t7, dw_f5, dw_t5, dw_f6, dw_t6, dw_f1, dw_f2, dw_f3, dw_f4, dw_f8, dw_f10, dw_f11, dw_f15, dw_f16, dw_f17, dw_f18, dw_f19, dw_f20, dw_f21, dw_f26, dw_f27, dw_f31, dw_f32, dw_f33, dw_f34, dw_a1, dw_w1, dw_a2, dw_w2, dw_a3, dw_w3, dw_a4, dw_w4, dw_a5, dw_w5, dw_a6, dw_w6, dw_a7, dw_w7, dw_a8, dw_w8, dw_a9_0, dw_s9_0, dw_a9_1, dw_s9_1, dw_a10, dw_w10, dw_a10_0, dw_w10_0, dw_a10_1, dw_w10_1, dw_a10_2, dw_w10_2, dw_a11, dw_w11, dw_a12, dw_w12, dw_a13, dw_w13, dw_a14, dw_w14, dw_a15, dw_w15, dw_a16, dw_w16, dw_a17, dw_w17, dw_a17_0, dw_w17_0, dw_a18, dw_w18, dw_a18_0, dw_w18_0, dw_a18_1, dw_w18_1, dw_a18_2, dw_w18_2, dw_a18_3, dw_w18_3, dw_a18_4, dw_w18_4, dw_a18_5, dw_w18_5, dw_a19, dw_w19, dw_a19_24, dw_w19_24, dw_a20, dw_w20, e1, e4, dw_Asand h4, dw_Abur h4, e5, dw_Mb' hs2]); first | with_reducible rw [bnd_s] | with_reducible rw [bn2_s] | with_reducible rw [grd_t]))
  have hbs := dw_small_n (dw_small_and hs (dw_sand (dw_T w (dw_gJ X 6) s yy n) 6))
  have hB1 : 1 ≤ dw_pcN (dw_gJ X 5) := by
    refine dw_pc_pos ?_ (dw_small_n hs)
    intro q
    apply c3
    apply wb_inj
    apply BitVec.eq_of_toNat_eq
    exact q
  rw [e2.2.1 5, e2.2.1 6, dw_bur, dw_pcL, dw_pcL, dw_nIL (Nat.lt_of_le_of_lt (dw_pc_le _) (by decide)), dw_nIL (Nat.lt_of_le_of_lt (dw_pc_le _) (by decide)), dw_Mlow (dw_pc_le _) (dw_pc_le _) hB1 c2, bn2_s]
  exact ⟨X1, R', G', _, _, rfl, e2, e6, e7⟩
end MC
