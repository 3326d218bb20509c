/-! NUMBERS: rows pasted from kit/laws (fa_, pf_, wb_, fb_), then counting of bits -/
theorem fa_lt (a b : Int32) : a < b ↔ a.toInt < b.toInt := Int32.lt_iff_toInt_lt
theorem fa_le (a b : Int32) : a ≤ b ↔ a.toInt ≤ b.toInt := Int32.le_iff_toInt_le
theorem fa_eq (a b : Int32) : a = b ↔ a.toInt = b.toInt := Int32.toInt_inj.symm
theorem fa_lt64 (a b : Int64) : a < b ↔ a.toInt < b.toInt := Int64.lt_iff_toInt_lt
theorem fa_le64 (a b : Int64) : a ≤ b ↔ a.toInt ≤ b.toInt := Int64.le_iff_toInt_le
theorem fa_eq64 (a b : Int64) : a = b ↔ a.toInt = b.toInt := Int64.toInt_inj.symm
theorem fa_of_lt {a b : Int32} (h : a < b) : a ≤ b ∧ ¬ b ≤ a ∧ ¬ b < a ∧ a ≠ b ∧ b ≠ a := by
  rw [fa_lt] at h
  refine ⟨?_, ?_, ?_, ?_, ?_⟩
  · rw [fa_le]; omega
  · rw [fa_le]; omega
  · rw [fa_lt]; omega
  · intro e; rw [fa_eq] at e; omega
  · intro e; rw [fa_eq] at e; omega
theorem fa_of_nlt {a b : Int32} (h : ¬ a < b) : b ≤ a := by
  rw [fa_lt] at h
  rw [fa_le]
  omega
theorem fa_of_nle {a b : Int32} (h : ¬ a ≤ b) : b < a := by
  rw [fa_le] at h
  rw [fa_lt]
  omega
theorem fa_le_ne {a b : Int32} (h : a ≤ b) (h2 : a ≠ b) : a < b := by
  rw [fa_le] at h
  rw [fa_lt]
  have h3 : a.toInt ≠ b.toInt := fun e => h2 ((fa_eq a b).mpr e)
  omega
theorem fa_three (a b : Int32) : a < b ∨ a = b ∨ b < a := by
  rw [fa_lt, fa_lt, fa_eq]
  omega
theorem fa_trans {a b c : Int32} (h : a < b) (h2 : b ≤ c) : a < c := by
  rw [fa_lt] at *
  rw [fa_le] at h2
  omega
theorem fa_lit (n : Nat) : (OfNat.ofNat n : Int32) = nI n := rfl
theorem fa_litL (n : Nat) : (OfNat.ofNat n : Int64) = lN n := rfl
theorem fa_and (a b : Nat) : nI a &&& nI b = nI (a &&& b) := by
  apply Int32.toBitVec_inj.1
  show BitVec.ofNat 32 a &&& BitVec.ofNat 32 b = BitVec.ofNat 32 (a &&& b)
  apply BitVec.eq_of_getLsbD_eq
  intro i hi
  simp [hi]
theorem fa_or (a b : Nat) : nI a ||| nI b = nI (a ||| b) := by
  apply Int32.toBitVec_inj.1
  show BitVec.ofNat 32 a ||| BitVec.ofNat 32 b = BitVec.ofNat 32 (a ||| b)
  apply BitVec.eq_of_getLsbD_eq
  intro i hi
  simp [hi]
theorem fa_mask (n k : Nat) : nI n &&& nI (2 ^ k - 1) = nI (n % 2 ^ k) := by rw [fa_and, Nat.and_two_pow_sub_one_eq_mod]
def fa_fill {α : Type} (f g : Nat → α) (i : Nat) : Nat → α := fun k => if k < i then f k else g k
theorem fa_fill_0 {α : Type} (f g : Nat → α) : fa_fill f g 0 = g := funext fun k => if_neg (Nat.not_lt_zero k)
theorem fa_fill_in {α : Type} {f g : Nat → α} {i k : Nat} (h : k < i) : fa_fill f g i k = f k := if_pos h
theorem fa_fill_out {α : Type} {f g : Nat → α} {i k : Nat} (h : i ≤ k) : fa_fill f g i k = g k := if_neg (Nat.not_lt_of_le h)
theorem fa_fill_succ (f g : Nat → Int32) (i : Nat) : upd (fa_fill f g i) i (f i) = fa_fill f g (i + 1) := by
  funext k
  by_cases e : k = i
  · subst e
    rw [pk_us]
    exact (if_pos (Nat.lt_succ_self k)).symm
  · rw [pk_un e]
    by_cases h : k < i
    · rw [fa_fill_in h, fa_fill_in (Nat.lt_succ_of_lt h)]
    · rw [fa_fill_out (Nat.le_of_not_lt h), fa_fill_out (by omega)]
theorem fa_upd_same {f : Nat → Int32} {i : Nat} {x : Int32} (h : f i = x) : upd f i x = f := by
  funext k
  by_cases e : k = i
  · subst e
    rw [pk_us, h]
  · rw [pk_un e]
theorem fa_upd_twice (f : Nat → Int32) (i : Nat) (x y : Int32) : upd (upd f i x) i y = upd f i y := by
  funext k
  by_cases e : k = i
  · subst e
    rw [pk_us, pk_us]
  · rw [pk_un e, pk_un e, pk_un e]
theorem fa_upd_swap (f : Nat → Int32) {i j : Nat} (h : i ≠ j) (x y : Int32) : upd (upd f i x) j y = upd (upd f j y) i x := by
  funext k
  by_cases e : k = i
  · subst e
    rw [pk_un h, pk_us, pk_us]
  · by_cases e2 : k = j
    · subst e2
      rw [pk_us, pk_un e, pk_us]
    · rw [pk_un e2, pk_un e, pk_un e, pk_un e2]
theorem wb_tb (n : Nat) : (lN n).toBitVec = BitVec.ofNat 64 n := rfl
theorem wb_inj {a b : Int64} (h : a.toBitVec = b.toBitVec) : a = b := Int64.toBitVec_inj.mp h
theorem wb_tn {n : Nat} (h : n < 2 ^ 64) : (lN n).toBitVec.toNat = n := by rw [wb_tb, BitVec.toNat_ofNat, Nat.mod_eq_of_lt h]
theorem wb_of (x : Int64) : ∃ n, n < 2 ^ 64 ∧ x = lN n := ⟨x.toBitVec.toNat, x.toBitVec.isLt, wb_inj (by rw [wb_tb]; simp)⟩
theorem wb_c : ∀ k, k < 64 → ((nI k).toInt64 &&& 63) = lN k := by decide +kernel
theorem wb_cu : ∀ k, k < 64 → ((nI k).toInt64.toUInt64 &&& Int64.toUInt64 63) = UInt64.ofNat k := by decide +kernel
theorem wb_sm : ∀ k, k < 64 → (BitVec.ofNat 64 k).smod 64 = BitVec.ofNat 64 k := by decide +kernel
theorem wb_shr {n k : Nat} (hn : n < 2 ^ 64) (hk : k < 64) : ((lN n).toUInt64 >>> ((nI k).toInt64.toUInt64 &&& Int64.toUInt64 63)).toInt64 = lN (n / 2 ^ k) := by
  rw [wb_cu k hk]
  apply wb_inj
  apply BitVec.eq_of_toNat_eq
  show ((lN n).toUInt64 >>> UInt64.ofNat k).toNat = (BitVec.ofNat 64 _).toNat
  have h1 : (UInt64.ofNat k).toNat = k := by
    show (BitVec.ofNat 64 k).toNat = k
    rw [BitVec.toNat_ofNat, Nat.mod_eq_of_lt (by omega)]
  have h2 : (lN n).toUInt64.toNat = n := wb_tn hn
  rw [UInt64.toNat_shiftRight, h1, h2, Nat.mod_eq_of_lt hk, Nat.shiftRight_eq_div_pow, BitVec.toNat_ofNat, Nat.mod_eq_of_lt (Nat.lt_of_le_of_lt (Nat.div_le_self _ _) hn)]
theorem wb_shl (n : Nat) {k : Nat} (hk : k < 64) : lN n <<< ((nI k).toInt64 &&& 63) = lN (n * 2 ^ k) := by
  rw [wb_c k hk]
  apply wb_inj
  rw [Int64.toBitVec_shiftLeft, wb_tb, wb_tb, wb_tb, wb_sm k hk]
  apply BitVec.eq_of_toNat_eq
  rw [BitVec.shiftLeft_eq', BitVec.toNat_shiftLeft, BitVec.toNat_ofNat, BitVec.toNat_ofNat, BitVec.toNat_ofNat, Nat.mod_eq_of_lt (show k < 2 ^ 64 by omega), Nat.shiftLeft_eq, Nat.mul_mod, Nat.mod_mod, ← Nat.mul_mod]
theorem wb_and {a b : Nat} (ha : a < 2 ^ 64) (hb : b < 2 ^ 64) : lN a &&& lN b = lN (a &&& b) := by
  apply wb_inj
  rw [Int64.toBitVec_and, wb_tb, wb_tb, wb_tb]
  apply BitVec.eq_of_toNat_eq
  rw [BitVec.toNat_and, BitVec.toNat_ofNat, BitVec.toNat_ofNat, BitVec.toNat_ofNat, Nat.mod_eq_of_lt ha, Nat.mod_eq_of_lt hb, Nat.mod_eq_of_lt (Nat.and_lt_two_pow _ hb)]
theorem wb_or {a b : Nat} (ha : a < 2 ^ 64) (hb : b < 2 ^ 64) : lN a ||| lN b = lN (a ||| b) := by
  apply wb_inj
  rw [Int64.toBitVec_or, wb_tb, wb_tb, wb_tb]
  apply BitVec.eq_of_toNat_eq
  rw [BitVec.toNat_or, BitVec.toNat_ofNat, BitVec.toNat_ofNat, BitVec.toNat_ofNat, Nat.mod_eq_of_lt ha, Nat.mod_eq_of_lt hb, Nat.mod_eq_of_lt (Nat.or_lt_two_pow ha hb)]
theorem pf_lI {a : Nat} (h : a < 2 ^ 63) : (lN a).toInt = (a : Int) := lg_ofNat_toInt h
theorem pf_shr {a d : Nat} {D : Int64} (hD : (D.toBitVec.smod 64).toNat = d) (h : a < 2 ^ 62) : lN a >>> D = lN (a / 2 ^ d) := by
  have hd : a / 2 ^ d ≤ a := Nat.div_le_self _ _
  apply Int64.toInt_inj.mp
  have e : (lN a >>> D).toInt = (lN a).toInt >>> d := by
    rw [← hD]
    exact BitVec.toInt_sshiftRight ..
  rw [e, Int.shiftRight_eq_div_pow, pf_lI (by omega), pf_lI (by omega)]
  rfl
def fb_ct (p : Nat → Bool) : Nat → Nat
  | 0 => 0
  | n + 1 => fb_ct p n + (if p n then 1 else 0)
theorem fb_ct_succ (p : Nat → Bool) (n : Nat) : fb_ct p (n + 1) = fb_ct p n + (if p n then 1 else 0) := rfl
theorem fb_ct_le (p : Nat → Bool) : ∀ n, fb_ct p n ≤ n
  | 0 => Nat.le_refl _
  | n + 1 => by
    have h := fb_ct_le p n
    rw [fb_ct_succ]
    split <;> omega
theorem fb_ct_cong {p q : Nat → Bool} : ∀ {n : Nat}, (∀ k, k < n → p k = q k) → fb_ct p n = fb_ct q n
  | 0, _ => rfl
  | n + 1, h => by
    rw [fb_ct_succ, fb_ct_succ, fb_ct_cong (fun k hk => h k (by omega)), h n (by omega)]
theorem fb_ct_split (p : Nat → Bool) (m : Nat) : ∀ n, fb_ct p (m + n) = fb_ct p m + fb_ct (fun k => p (m + k)) n
  | 0 => rfl
  | n + 1 => by
    have h := fb_ct_split p m n
    show fb_ct p (m + n + 1) = _
    rw [fb_ct_succ, fb_ct_succ, h, Nat.add_assoc]
def fb_sm (f : Nat → Nat) : Nat → Nat
  | 0 => 0
  | n + 1 => fb_sm f n + f n
theorem fb_sm_succ (f : Nat → Nat) (n : Nat) : fb_sm f (n + 1) = fb_sm f n + f n := rfl
theorem fb_sm_cong {f g : Nat → Nat} : ∀ {n : Nat}, (∀ k, k < n → f k = g k) → fb_sm f n = fb_sm g n
  | 0, _ => rfl
  | n + 1, h => by rw [fb_sm_succ, fb_sm_succ, fb_sm_cong (fun k hk => h k (by omega)), h n (by omega)]
theorem fb_andL (a b : Nat) : lN a &&& lN b = lN (a &&& b) := by
  apply Int64.toBitVec_inj.1
  show BitVec.ofNat 64 a &&& BitVec.ofNat 64 b = BitVec.ofNat 64 (a &&& b)
  apply BitVec.eq_of_getLsbD_eq
  intro i hi
  simp [hi]
theorem fb_orL (a b : Nat) : lN a ||| lN b = lN (a ||| b) := by
  apply Int64.toBitVec_inj.1
  show BitVec.ofNat 64 a ||| BitVec.ofNat 64 b = BitVec.ofNat 64 (a ||| b)
  apply BitVec.eq_of_getLsbD_eq
  intro i hi
  simp [hi]
theorem fb_rng (x : Int32) : -2147483648 ≤ x.toInt ∧ x.toInt < 2147483648 := by
  have h1 := Int32.le_toInt x
  have h2 := Int32.toInt_lt x
  omega
theorem fb_bmod {z : Int} (h1 : -2147483648 ≤ z) (h2 : z < 2147483648) : z.bmod (2 ^ 32) = z := by
  rw [Int.bmod_eq_of_le (by omega) (by omega)]
theorem fb_addI {x y : Int32} (h1 : -2147483648 ≤ x.toInt + y.toInt) (h2 : x.toInt + y.toInt < 2147483648) : (x + y).toInt = x.toInt + y.toInt := by
  rw [Int32.toInt_add, fb_bmod h1 h2]
theorem fb_subI {x y : Int32} (h1 : -2147483648 ≤ x.toInt - y.toInt) (h2 : x.toInt - y.toInt < 2147483648) : (x - y).toInt = x.toInt - y.toInt := by
  rw [Int32.toInt_sub, fb_bmod h1 h2]
/-! ===== how many bits: the machine's way ===== -/
theorem dw_split (x c : Nat) : x &&& c = (x % 256 &&& c % 256) + 256 * (x / 256 &&& c / 256) := by
  have h1 : (x &&& c) % 2 ^ 8 = x % 2 ^ 8 &&& c % 2 ^ 8 := Nat.and_mod_two_pow
  have h2 : (x &&& c) / 2 ^ 8 = x / 2 ^ 8 &&& c / 2 ^ 8 := Nat.and_div_two_pow
  have h3 := Nat.mod_add_div (x &&& c) 256
  rw [show (256 : Nat) = 2 ^ 8 from rfl] at h3 ⊢
  rw [h1, h2] at h3
  exact h3.symm
def dw_e (b : Nat) : Nat := b / 2 &&& 85
def dw_f (b : Nat) : Nat := b - dw_e b
def dw_g (m : Nat) : Nat := (m &&& 51) + (m / 4 &&& 51)
def dw_h (b : Nat) : Nat := (dw_g (dw_f b) + dw_g (dw_f b) / 16) % 16
theorem dw_e85 : ∀ b, b < 256 → ∀ e, e < 2 → (b / 2 + 128 * e) &&& 85 = dw_e b := by decide +kernel
theorem dw_g51 : ∀ b, b < 256 → ∀ e, e < 4 → (b / 4 + 64 * e) &&& 51 = b / 4 &&& 51 := by decide +kernel
theorem dw_b8 : ∀ b, b < 256 → dw_e b ≤ b ∧ dw_f b < 256 ∧ dw_g (dw_f b) ≤ 68 ∧ dw_g (dw_f b) % 16 ≤ 4 ∧ dw_h b = fb_ct (fun k => b.testBit k) 8 := by decide +kernel
theorem dw_g8 : ∀ b, b < 256 → dw_g b = (b &&& 51) + (b / 4 &&& 51) := fun _ _ => rfl
/-- five bytes -/
def dw_5 (a b c d e : Nat) : Nat := a + 256 * (b + 256 * (c + 256 * (d + 256 * e)))
theorem dw_of5 {n : Nat} (h : n < 2 ^ 40) : ∃ a b c d e, a < 256 ∧ b < 256 ∧ c < 256 ∧ d < 256 ∧ e < 256 ∧ n = dw_5 a b c d e :=
  ⟨n % 256, n / 256 % 256, n / 65536 % 256, n / 16777216 % 256, n / 4294967296 % 256, by omega, by omega, by omega, by omega, by omega, by unfold dw_5; omega⟩
theorem dw_and1 {b r c : Nat} (hb : b < 256) (hc : c % 256 = 85) : (b + 256 * r) / 2 &&& c = dw_e b + 256 * (r / 2 &&& c / 256) := by
  rw [dw_split, hc, show (b + 256 * r) / 2 % 256 = b / 2 + 128 * (r % 2) by omega, show (b + 256 * r) / 2 / 256 = r / 2 by omega, dw_e85 b hb _ (by omega)]
theorem dw_and2 {b r c : Nat} (hb : b < 256) (hc : c % 256 = 51) : (b + 256 * r) &&& c = (b &&& 51) + 256 * (r &&& c / 256) := by
  rw [dw_split, hc, show (b + 256 * r) % 256 = b by omega, show (b + 256 * r) / 256 = r by omega]
theorem dw_and4 {b r c : Nat} (hb : b < 256) (hc : c % 256 = 51) : (b + 256 * r) / 4 &&& c = (b / 4 &&& 51) + 256 * (r / 4 &&& c / 256) := by
  rw [dw_split, hc, show (b + 256 * r) / 4 % 256 = b / 4 + 64 * (r % 4) by omega, show (b + 256 * r) / 4 / 256 = r / 4 by omega, dw_g51 b hb _ (by omega)]
theorem dw_and15 {b r c : Nat} (hb : b < 256) (hc : c % 256 = 15) : (b + 256 * r) &&& c = b % 16 + 256 * (r &&& c / 256) := by
  rw [dw_split, hc, show (b + 256 * r) % 256 = b by omega, show (b + 256 * r) / 256 = r by omega, show (15 : Nat) = 2 ^ 4 - 1 from rfl, Nat.and_two_pow_sub_one_eq_mod]
theorem dw_s1 {a b c d e : Nat} (ha : a < 256) (hb : b < 256) (hc : c < 256) (hd : d < 256) (he : e < 256) : dw_5 a b c d e / 2 &&& 6148914691236517205 = dw_5 (dw_e a) (dw_e b) (dw_e c) (dw_e d) (dw_e e) := by
  unfold dw_5
  rw [dw_and1 ha (by decide), dw_and1 hb (by decide), dw_and1 hc (by decide), dw_and1 hd (by decide)]
  have h := dw_and1 (r := 0) (c := 6148914691236517205 / 256 / 256 / 256 / 256) he (by decide)
  rw [show (0 / 2 &&& 6148914691236517205 / 256 / 256 / 256 / 256 / 256 : Nat) = 0 from by decide] at h
  simp only [Nat.mul_zero, Nat.add_zero] at h
  rw [h]
theorem dw_s2 {a b c d e : Nat} (ha : a < 256) (hb : b < 256) (hc : c < 256) (hd : d < 256) (he : e < 256) : dw_5 a b c d e &&& 3689348814741910323 = dw_5 (a &&& 51) (b &&& 51) (c &&& 51) (d &&& 51) (e &&& 51) := by
  unfold dw_5
  rw [dw_and2 ha (by decide), dw_and2 hb (by decide), dw_and2 hc (by decide), dw_and2 hd (by decide)]
  have h := dw_and2 (r := 0) (c := 3689348814741910323 / 256 / 256 / 256 / 256) he (by decide)
  rw [show (0 &&& 3689348814741910323 / 256 / 256 / 256 / 256 / 256 : Nat) = 0 from by decide] at h
  simp only [Nat.mul_zero, Nat.add_zero] at h
  rw [h]
theorem dw_s4 {a b c d e : Nat} (ha : a < 256) (hb : b < 256) (hc : c < 256) (hd : d < 256) (he : e < 256) : dw_5 a b c d e / 4 &&& 3689348814741910323 = dw_5 (a / 4 &&& 51) (b / 4 &&& 51) (c / 4 &&& 51) (d / 4 &&& 51) (e / 4 &&& 51) := by
  unfold dw_5
  rw [dw_and4 ha (by decide), dw_and4 hb (by decide), dw_and4 hc (by decide), dw_and4 hd (by decide)]
  have h := dw_and4 (r := 0) (c := 3689348814741910323 / 256 / 256 / 256 / 256) he (by decide)
  rw [show (0 / 4 &&& 3689348814741910323 / 256 / 256 / 256 / 256 / 256 : Nat) = 0 from by decide] at h
  simp only [Nat.mul_zero, Nat.add_zero] at h
  rw [h]
theorem dw_s15 {a b c d e : Nat} (ha : a < 256) (hb : b < 256) (hc : c < 256) (hd : d < 256) (he : e < 256) : dw_5 a b c d e &&& 1085102592571150095 = dw_5 (a % 16) (b % 16) (c % 16) (d % 16) (e % 16) := by
  unfold dw_5
  rw [dw_and15 ha (by decide), dw_and15 hb (by decide), dw_and15 hc (by decide), dw_and15 hd (by decide)]
  have h := dw_and15 (r := 0) (c := 1085102592571150095 / 256 / 256 / 256 / 256) he (by decide)
  rw [show (0 &&& 1085102592571150095 / 256 / 256 / 256 / 256 / 256 : Nat) = 0 from by decide] at h
  simp only [Nat.mul_zero, Nat.add_zero] at h
  rw [h]
/-- the bits among the first 40 -/
def dw_pc (n : Nat) : Nat := fb_ct (fun k => n.testBit k) 40
theorem dw_ct8 (p : Nat → Bool) (b : Nat) (h : ∀ k, k < 8 → p k = b.testBit k) : fb_ct p 8 = fb_ct (fun k => b.testBit k) 8 := fb_ct_cong h
theorem dw_low {b r : Nat} (hb : b < 256) (k : Nat) (hk : k < 8) : (b + 256 * r).testBit k = b.testBit k := by
  have h := Nat.testBit_mod_two_pow (b + 256 * r) 8 k
  rw [show (b + 256 * r) % 2 ^ 8 = b by omega] at h
  rw [h]
  simp [hk]
theorem dw_high {b r : Nat} (hb : b < 256) (k : Nat) : (b + 256 * r).testBit (8 + k) = r.testBit k := by
  have h : ((b + 256 * r) / 2 ^ 8).testBit k = (b + 256 * r).testBit (k + 8) := Nat.testBit_div_two_pow _ _
  rw [show (b + 256 * r) / 2 ^ 8 = r by omega] at h
  rw [h, Nat.add_comm 8 k]
theorem dw_ctS {b r m : Nat} (hb : b < 256) : fb_ct (fun k => (b + 256 * r).testBit k) (8 + m) = fb_ct (fun k => b.testBit k) 8 + fb_ct (fun k => r.testBit k) m := by
  rw [fb_ct_split, dw_ct8 _ b (fun k hk => dw_low hb k hk), fb_ct_cong (p := fun k => (b + 256 * r).testBit (8 + k)) (q := fun k => r.testBit k) (fun k _ => dw_high hb k)]
theorem dw_pc5 {a b c d e : Nat} (ha : a < 256) (hb : b < 256) (hc : c < 256) (hd : d < 256) (he : e < 256) : dw_pc (dw_5 a b c d e) = dw_h a + dw_h b + dw_h c + dw_h d + dw_h e := by
  unfold dw_pc dw_5
  rw [show (40 : Nat) = 8 + 32 from rfl, dw_ctS ha, show (32 : Nat) = 8 + 24 from rfl, dw_ctS hb, show (24 : Nat) = 8 + 16 from rfl, dw_ctS hc, show (16 : Nat) = 8 + 8 from rfl, dw_ctS hd, (dw_b8 a ha).2.2.2.2, (dw_b8 b hb).2.2.2.2, (dw_b8 c hc).2.2.2.2, (dw_b8 d hd).2.2.2.2, (dw_b8 e he).2.2.2.2]
  omega
theorem dw_l1 (n : Nat) (h : n < 2 ^ 64) : ((lN n).toUInt64 >>> ((1 : Int32).toInt64.toUInt64 &&& Int64.toUInt64 63)).toInt64 = lN (n / 2) := wb_shr (k := 1) h (by decide)
theorem dw_l2 (n : Nat) (h : n < 2 ^ 64) : ((lN n).toUInt64 >>> ((2 : Int32).toInt64.toUInt64 &&& Int64.toUInt64 63)).toInt64 = lN (n / 4) := wb_shr (k := 2) h (by decide)
theorem dw_l4 (n : Nat) (h : n < 2 ^ 64) : ((lN n).toUInt64 >>> ((4 : Int32).toInt64.toUInt64 &&& Int64.toUInt64 63)).toInt64 = lN (n / 16) := wb_shr (k := 4) h (by decide)
theorem dw_l8 (n : Nat) (h : n < 2 ^ 64) : ((lN n).toUInt64 >>> ((8 : Int32).toInt64.toUInt64 &&& Int64.toUInt64 63)).toInt64 = lN (n / 256) := wb_shr (k := 8) h (by decide)
theorem dw_l16 (n : Nat) (h : n < 2 ^ 64) : ((lN n).toUInt64 >>> ((16 : Int32).toInt64.toUInt64 &&& Int64.toUInt64 63)).toInt64 = lN (n / 65536) := wb_shr (k := 16) h (by decide)
theorem dw_l32 (n : Nat) (h : n < 2 ^ 64) : ((lN n).toUInt64 >>> ((32 : Int32).toInt64.toUInt64 &&& Int64.toUInt64 63)).toInt64 = lN (n / 4294967296) := wb_shr (k := 32) h (by decide)
theorem dw_ij (n : Nat) : nI n &&& 127 = nI (n % 128) := fa_mask n 7
theorem dw_Jl {h : pm_H} {n : Nat} (hn : n < 2 ^ 40) : Jl_bitCount h (lN n) = some (h, nI (dw_pc n)) := by
  obtain ⟨a, b, c, d, e, ha, hb, hc, hd, he, rfl⟩ := dw_of5 hn
  have Ba := dw_b8 a ha
  have Bb := dw_b8 b hb
  have Bc := dw_b8 c hc
  have Bd := dw_b8 d hd
  have Be := dw_b8 e he
  unfold Jl_bitCount
  simp only [nmd]
  have e1 : (lN (dw_5 a b c d e) - (((lN (dw_5 a b c d e)).toUInt64 >>> ((1 : Int32).toInt64.toUInt64 &&& Int64.toUInt64 63)).toInt64 &&& 6148914691236517205)) = lN (dw_5 (dw_f a) (dw_f b) (dw_f c) (dw_f d) (dw_f e)) := by
    rw [dw_l1 _ (by omega), show (6148914691236517205 : Int64) = lN 6148914691236517205 from rfl, fb_andL, dw_s1 ha hb hc hd he, lN_sub (by unfold dw_5; omega)]
    congr 1
    unfold dw_5 dw_f
    omega
  rw [e1]

  have e2 : (lN (dw_5 (dw_f a) (dw_f b) (dw_f c) (dw_f d) (dw_f e)) &&& 3689348814741910323) + (((lN (dw_5 (dw_f a) (dw_f b) (dw_f c) (dw_f d) (dw_f e))).toUInt64 >>> ((2 : Int32).toInt64.toUInt64 &&& Int64.toUInt64 63)).toInt64 &&& 3689348814741910323) = lN (dw_5 (dw_g (dw_f a)) (dw_g (dw_f b)) (dw_g (dw_f c)) (dw_g (dw_f d)) (dw_g (dw_f e))) := by
    rw [dw_l2 _ (by unfold dw_5; omega), show (3689348814741910323 : Int64) = lN 3689348814741910323 from rfl, fb_andL, fb_andL, dw_s2 (by omega) (by omega) (by omega) (by omega) (by omega), dw_s4 (by omega) (by omega) (by omega) (by omega) (by omega), lN_add]
    congr 1
    unfold dw_5 dw_g
    omega
  rw [e2]

  have e3 : (lN (dw_5 (dw_g (dw_f a)) (dw_g (dw_f b)) (dw_g (dw_f c)) (dw_g (dw_f d)) (dw_g (dw_f e))) + ((lN (dw_5 (dw_g (dw_f a)) (dw_g (dw_f b)) (dw_g (dw_f c)) (dw_g (dw_f d)) (dw_g (dw_f e)))).toUInt64 >>> ((4 : Int32).toInt64.toUInt64 &&& Int64.toUInt64 63)).toInt64 &&& 1085102592571150095) = lN (dw_5 (dw_h a) (dw_h b) (dw_h c) (dw_h d) (dw_h e)) := by
    rw [dw_l4 _ (by unfold dw_5; omega), show (1085102592571150095 : Int64) = lN 1085102592571150095 from rfl, lN_add, fb_andL]
    have hx : dw_5 (dw_g (dw_f a)) (dw_g (dw_f b)) (dw_g (dw_f c)) (dw_g (dw_f d)) (dw_g (dw_f e)) + dw_5 (dw_g (dw_f a)) (dw_g (dw_f b)) (dw_g (dw_f c)) (dw_g (dw_f d)) (dw_g (dw_f e)) / 16 = dw_5 (dw_g (dw_f a) + dw_g (dw_f a) / 16 + 16 * (dw_g (dw_f b) % 16)) (dw_g (dw_f b) + dw_g (dw_f b) / 16 + 16 * (dw_g (dw_f c) % 16)) (dw_g (dw_f c) + dw_g (dw_f c) / 16 + 16 * (dw_g (dw_f d) % 16)) (dw_g (dw_f d) + dw_g (dw_f d) / 16 + 16 * (dw_g (dw_f e) % 16)) (dw_g (dw_f e) + dw_g (dw_f e) / 16) := by
      unfold dw_5
      omega
    rw [hx, dw_s15 (a := dw_g (dw_f a) + dw_g (dw_f a) / 16 + 16 * (dw_g (dw_f b) % 16)) (b := dw_g (dw_f b) + dw_g (dw_f b) / 16 + 16 * (dw_g (dw_f c) % 16)) (c := dw_g (dw_f c) + dw_g (dw_f c) / 16 + 16 * (dw_g (dw_f d) % 16)) (d := dw_g (dw_f d) + dw_g (dw_f d) / 16 + 16 * (dw_g (dw_f e) % 16)) (e := dw_g (dw_f e) + dw_g (dw_f e) / 16) (by omega) (by omega) (by omega) (by omega) (by omega)]
    congr 1
    unfold dw_h dw_5
    omega
  rw [e3]

  have hh : ∀ x, dw_h x < 16 := fun x => Nat.mod_lt _ (by decide)
  have ha := hh a
  have hb := hh b
  have hc := hh c
  have hd := hh d
  have he := hh e
  rw [dw_l8 _ (by unfold dw_5; omega), lN_add, dw_l16 _ (by unfold dw_5; omega), lN_add, dw_l32 _ (by unfold dw_5; omega), lN_add, lN_i, dw_ij, dw_pc5 (by omega) (by omega) (by omega) (by omega) (by omega)]
  have q0 : dw_5 (dw_h a) (dw_h b) (dw_h c) (dw_h d) (dw_h e) = dw_h a + 256 * (dw_h b + 256 * (dw_h c + 256 * (dw_h d + 256 * dw_h e))) := rfl
  have q1 : dw_5 (dw_h a) (dw_h b) (dw_h c) (dw_h d) (dw_h e) / 256 = dw_h b + 256 * (dw_h c + 256 * (dw_h d + 256 * dw_h e)) := by
    rw [q0]
    omega
  have q2 : (dw_5 (dw_h a) (dw_h b) (dw_h c) (dw_h d) (dw_h e) + dw_5 (dw_h a) (dw_h b) (dw_h c) (dw_h d) (dw_h e) / 256) / 65536 = (dw_h c + dw_h d) + 256 * (dw_h d + dw_h e) + 65536 * dw_h e := by
    rw [q1, q0]
    omega
  rw [q2, q1, q0]
  have q3 : (dw_h a + 256 * (dw_h b + 256 * (dw_h c + 256 * (dw_h d + 256 * dw_h e))) + (dw_h b + 256 * (dw_h c + 256 * (dw_h d + 256 * dw_h e))) + ((dw_h c + dw_h d) + 256 * (dw_h d + dw_h e) + 65536 * dw_h e)) / 4294967296 = dw_h e := by omega
  rw [q3]
  congr 3
  omega
