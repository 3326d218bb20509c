/-! THE CLASS: one land, nine cells side by side -/
def dw_rf (t : Nat) : Nat → Option Nat := fun i => if i < 6 then some (t + 3 + i) else none
def dw_bk (t l : Nat) (m y : Int32) (ho cl : Int64) (s : dw_L) (k : Nat → Int32) : pm_H := [.inr (1, [.ref (t + 1), .int m, .long ho, .long cl, .int y, .ref l, .ref (t + 2)]), .inl (3, 6, .inr (.inr (.inr (.inr (dw_rf t))))), .inl (0, 32, .inl k), .inr (0, [.int (nI 0), .int (s 0 1), .int (s 0 2), .int (s 0 3), .int (s 0 4), .int (s 0 5), .int (s 0 6)]), .inr (0, [.int (nI 1), .int (s 1 1), .int (s 1 2), .int (s 1 3), .int (s 1 4), .int (s 1 5), .int (s 1 6)]), .inr (0, [.int (nI 2), .int (s 2 1), .int (s 2 2), .int (s 2 3), .int (s 2 4), .int (s 2 5), .int (s 2 6)]), .inr (0, [.int (nI 3), .int (s 3 1), .int (s 3 2), .int (s 3 3), .int (s 3 4), .int (s 3 5), .int (s 3 6)]), .inr (0, [.int (nI 4), .int (s 4 1), .int (s 4 2), .int (s 4 3), .int (s 4 4), .int (s 4 5), .int (s 4 6)]), .inr (0, [.int (nI 5), .int (s 5 1), .int (s 5 2), .int (s 5 3), .int (s 5 4), .int (s 5 5), .int (s 5 6)])]
def dw_lh (P : pm_H) (t l : Nat) (m y : Int32) (ho cl : Int64) (s : dw_L) (k : Nat → Int32) (Q : pm_H) : pm_H := P ++ (dw_bk t l m y ho cl s k ++ Q)
theorem dw_gx {α : Type} {P B Q : List α} {t j : Nat} (ht : P.length = t) (hj : j < B.length) : (P ++ (B ++ Q))[t + j]? = B[j]? := by
  rw [List.getElem?_append_right (by omega), show t + j - P.length = j by omega, List.getElem?_append_left hj]
theorem dw_sx {α : Type} {P B Q : List α} {t j : Nat} {c : α} (ht : P.length = t) (hj : j < B.length) : (P ++ (B ++ Q)).set (t + j) c = P ++ (B.set j c ++ Q) := by
  rw [List.set_append_right _ _ (by omega), show t + j - P.length = j by omega, List.set_append_left _ _ hj]
theorem op_S_of {h : pm_H} {a ci k : Nat} {fs : List Value} {v : Value} (hc : h[a]? = some (.inr (ci, fs))) (hk : k < fs.length) : op_S h a ci k v = some (h.set a (.inr (ci, fs.set k v))) := by
  unfold op_S
  rw [hc]
  show (if ci = ci ∧ k < fs.length then _ else none) = _
  rw [if_pos ⟨rfl, hk⟩]
section LK
variable {P Q : pm_H} {t l : Nat} {m y : Int32} {ho cl : Int64} {s : dw_L} {k : Nat → Int32}
theorem dw_g0 (ht : P.length = t) : (dw_lh P t l m y ho cl s k Q)[t]? = some (.inr (1, [.ref (t + 1), .int m, .long ho, .long cl, .int y, .ref l, .ref (t + 2)])) := dw_gx (j := 0) (B := dw_bk t l m y ho cl s k) ht (show 0 < 9 by decide)
theorem dw_lis (ht : P.length = t) : op_is (dw_lh P t l m y ho cl s k Q) t 1 = true := by
  unfold op_is
  rw [dw_g0 ht]
  rfl
theorem dw_lA0 (ht : P.length = t) : op_A (dw_lh P t l m y ho cl s k Q) t 1 0 = some (some (t + 1)) := by
  unfold op_A
  rw [dw_g0 ht]
  rfl
theorem dw_lI1 (ht : P.length = t) : op_I (dw_lh P t l m y ho cl s k Q) t 1 1 = some m := by
  unfold op_I
  rw [dw_g0 ht]
  rfl
theorem dw_lJ2 (ht : P.length = t) : op_J (dw_lh P t l m y ho cl s k Q) t 1 2 = some ho := by
  unfold op_J
  rw [dw_g0 ht]
  rfl
theorem dw_lJ3 (ht : P.length = t) : op_J (dw_lh P t l m y ho cl s k Q) t 1 3 = some cl := by
  unfold op_J
  rw [dw_g0 ht]
  rfl
theorem dw_lI4 (ht : P.length = t) : op_I (dw_lh P t l m y ho cl s k Q) t 1 4 = some y := by
  unfold op_I
  rw [dw_g0 ht]
  rfl
theorem dw_lA5 (ht : P.length = t) : op_A (dw_lh P t l m y ho cl s k Q) t 1 5 = some (some l) := by
  unfold op_A
  rw [dw_g0 ht]
  rfl
theorem dw_lA6 (ht : P.length = t) : op_A (dw_lh P t l m y ho cl s k Q) t 1 6 = some (some (t + 2)) := by
  unfold op_A
  rw [dw_g0 ht]
  rfl
theorem dw_s0 (ht : P.length = t) {c : _} : (dw_lh P t l m y ho cl s k Q).set t c = P ++ ((dw_bk t l m y ho cl s k).set 0 c ++ Q) := dw_sx (j := 0) (B := dw_bk t l m y ho cl s k) ht (show 0 < 9 by decide)
theorem dw_lS1 (ht : P.length = t) (v : Int32) : op_S (dw_lh P t l m y ho cl s k Q) t 1 1 (.int v) = some (dw_lh P t l v y ho cl s k Q) := by
  rw [op_S_of (dw_g0 ht) (show 1 < 7 by decide), dw_s0 ht]
  rfl
theorem dw_lS2 (ht : P.length = t) (v : Int64) : op_S (dw_lh P t l m y ho cl s k Q) t 1 2 (.long v) = some (dw_lh P t l m y v cl s k Q) := by
  rw [op_S_of (dw_g0 ht) (show 2 < 7 by decide), dw_s0 ht]
  rfl
theorem dw_lS3 (ht : P.length = t) (v : Int64) : op_S (dw_lh P t l m y ho cl s k Q) t 1 3 (.long v) = some (dw_lh P t l m y ho v s k Q) := by
  rw [op_S_of (dw_g0 ht) (show 3 < 7 by decide), dw_s0 ht]
  rfl
theorem dw_lS4 (ht : P.length = t) (v : Int32) : op_S (dw_lh P t l m y ho cl s k Q) t 1 4 (.int v) = some (dw_lh P t l m v ho cl s k Q) := by
  rw [op_S_of (dw_g0 ht) (show 4 < 7 by decide), dw_s0 ht]
  rfl
theorem dw_lS5 (ht : P.length = t) (v : Nat) : op_S (dw_lh P t l m y ho cl s k Q) t 1 5 (.ref v) = some (dw_lh P t v m y ho cl s k Q) := by
  rw [op_S_of (dw_g0 ht) (show 5 < 7 by decide), dw_s0 ht]
  rfl
theorem dw_lln (ht : P.length = t) : op_ln (dw_lh P t l m y ho cl s k Q) (t + 1) = some 6 := by
  unfold op_ln dw_lh
  rw [dw_gx (j := 1) (B := dw_bk t l m y ho cl s k) ht (show 1 < 9 by decide)]
  rfl
theorem dw_laA (ht : P.length = t) {i : Nat} (hi : i < 6) : op_aA (dw_lh P t l m y ho cl s k Q) (t + 1) 0 (nI i) = some (some (t + 3 + i)) := by
  unfold op_aA dw_lh
  rw [dw_gx (j := 1) (B := dw_bk t l m y ho cl s k) ht (show 1 < 9 by decide)]
  show (if 3 = 0 + 3 then (if nI i < 0 ∨ 6 ≤ (nI i).toNatClampNeg then none else some (dw_rf t (nI i).toNatClampNeg)) else none) = _
  rw [if_pos rfl, nI_clamp (by omega), if_neg (fun q => by
    rcases q with q | q
    · exact nI_pos (by omega) q
    · omega), dw_rf, if_pos hi]
theorem dw_lkn (ht : P.length = t) : op_ln (dw_lh P t l m y ho cl s k Q) (t + 2) = some 32 := by
  unfold op_ln dw_lh
  rw [dw_gx (j := 2) (B := dw_bk t l m y ho cl s k) ht (show 2 < 9 by decide)]
  rfl
theorem dw_lkI (ht : P.length = t) {i : Nat} (hi : i < 32) : op_aI (dw_lh P t l m y ho cl s k Q) (t + 2) (nI i) = some (k i) := by
  refine op_aI_of (f := k) (n := 32) ?_ hi (by decide)
  unfold dw_lh
  rw [dw_gx (j := 2) (B := dw_bk t l m y ho cl s k) ht (show 2 < 9 by decide)]
  rfl
theorem dw_lkS (ht : P.length = t) {i : Nat} (hi : i < 32) (v : Int32) : op_sI (dw_lh P t l m y ho cl s k Q) (t + 2) (nI i) v = some (dw_lh P t l m y ho cl s (upd k i v) Q) := by
  have h : (dw_lh P t l m y ho cl s k Q)[t + 2]? = some (.inl (0, 32, .inl k)) := by
    unfold dw_lh
    rw [dw_gx (j := 2) (B := dw_bk t l m y ho cl s k) ht (show 2 < 9 by decide)]
    rfl
  rw [op_sI_of v h hi (by decide)]
  unfold dw_lh
  rw [dw_sx (j := 2) (B := dw_bk t l m y ho cl s k) ht (show 2 < 9 by decide)]
  rfl
theorem dw_gd (ht : P.length = t) {i : Nat} (hi : i < 6) : (dw_lh P t l m y ho cl s k Q)[t + 3 + i]? = some (.inr (0, [.int (nI i), .int (s i 1), .int (s i 2), .int (s i 3), .int (s i 4), .int (s i 5), .int (s i 6)])) := by
  unfold dw_lh
  rw [Nat.add_assoc, dw_gx (B := dw_bk t l m y ho cl s k) ht (by show 3 + i < 9; omega)]
  rcases (by omega : i = 0 ∨ i = 1 ∨ i = 2 ∨ i = 3 ∨ i = 4 ∨ i = 5) with rfl | rfl | rfl | rfl | rfl | rfl <;> rfl
theorem dw_dis (ht : P.length = t) {i : Nat} (hi : i < 6) : op_is (dw_lh P t l m y ho cl s k Q) (t + 3 + i) 0 = true := by
  unfold op_is
  rw [dw_gd ht hi]
  rfl
theorem dw_dI0 (ht : P.length = t) {i : Nat} (hi : i < 6) : op_I (dw_lh P t l m y ho cl s k Q) (t + 3 + i) 0 0 = some (nI i) := by
  unfold op_I
  rw [dw_gd ht hi]
  rfl
theorem dw_dI1 (ht : P.length = t) {i : Nat} (hi : i < 6) : op_I (dw_lh P t l m y ho cl s k Q) (t + 3 + i) 0 1 = some (s i 1) := by
  unfold op_I
  rw [dw_gd ht hi]
  rfl
theorem dw_dI2 (ht : P.length = t) {i : Nat} (hi : i < 6) : op_I (dw_lh P t l m y ho cl s k Q) (t + 3 + i) 0 2 = some (s i 2) := by
  unfold op_I
  rw [dw_gd ht hi]
  rfl
theorem dw_dI3 (ht : P.length = t) {i : Nat} (hi : i < 6) : op_I (dw_lh P t l m y ho cl s k Q) (t + 3 + i) 0 3 = some (s i 3) := by
  unfold op_I
  rw [dw_gd ht hi]
  rfl
theorem dw_dI4 (ht : P.length = t) {i : Nat} (hi : i < 6) : op_I (dw_lh P t l m y ho cl s k Q) (t + 3 + i) 0 4 = some (s i 4) := by
  unfold op_I
  rw [dw_gd ht hi]
  rfl
theorem dw_dI5 (ht : P.length = t) {i : Nat} (hi : i < 6) : op_I (dw_lh P t l m y ho cl s k Q) (t + 3 + i) 0 5 = some (s i 5) := by
  unfold op_I
  rw [dw_gd ht hi]
  rfl
theorem dw_dI6 (ht : P.length = t) {i : Nat} (hi : i < 6) : op_I (dw_lh P t l m y ho cl s k Q) (t + 3 + i) 0 6 = some (s i 6) := by
  unfold op_I
  rw [dw_gd ht hi]
  rfl
theorem dw_sd (ht : P.length = t) {i f : Nat} (hi : i < 6) (hf : f < 7) (h0 : f ≠ 0) (v : Int32) : op_S (dw_lh P t l m y ho cl s k Q) (t + 3 + i) 0 f (.int v) = some (dw_lh P t l m y ho cl (dw_set s i f v) k Q) := by
  rw [op_S_of (dw_gd ht hi) hf]
  unfold dw_lh
  rw [Nat.add_assoc, dw_sx (B := dw_bk t l m y ho cl s k) ht (by show 3 + i < 9; omega)]
  rcases (by omega : f = 1 ∨ f = 2 ∨ f = 3 ∨ f = 4 ∨ f = 5 ∨ f = 6) with rfl | rfl | rfl | rfl | rfl | rfl <;> rcases (by omega : i = 0 ∨ i = 1 ∨ i = 2 ∨ i = 3 ∨ i = 4 ∨ i = 5) with rfl | rfl | rfl | rfl | rfl | rfl <;> rfl
theorem dw_dS1 (ht : P.length = t) {i : Nat} (hi : i < 6) (v : Int32) : op_S (dw_lh P t l m y ho cl s k Q) (t + 3 + i) 0 1 (.int v) = some (dw_lh P t l m y ho cl (dw_set s i 1 v) k Q) := dw_sd ht hi (by decide) (by decide) v
theorem dw_dS2 (ht : P.length = t) {i : Nat} (hi : i < 6) (v : Int32) : op_S (dw_lh P t l m y ho cl s k Q) (t + 3 + i) 0 2 (.int v) = some (dw_lh P t l m y ho cl (dw_set s i 2 v) k Q) := dw_sd ht hi (by decide) (by decide) v
theorem dw_dS3 (ht : P.length = t) {i : Nat} (hi : i < 6) (v : Int32) : op_S (dw_lh P t l m y ho cl s k Q) (t + 3 + i) 0 3 (.int v) = some (dw_lh P t l m y ho cl (dw_set s i 3 v) k Q) := dw_sd ht hi (by decide) (by decide) v
theorem dw_dS4 (ht : P.length = t) {i : Nat} (hi : i < 6) (v : Int32) : op_S (dw_lh P t l m y ho cl s k Q) (t + 3 + i) 0 4 (.int v) = some (dw_lh P t l m y ho cl (dw_set s i 4 v) k Q) := dw_sd ht hi (by decide) (by decide) v
theorem dw_dS5 (ht : P.length = t) {i : Nat} (hi : i < 6) (v : Int32) : op_S (dw_lh P t l m y ho cl s k Q) (t + 3 + i) 0 5 (.int v) = some (dw_lh P t l m y ho cl (dw_set s i 5 v) k Q) := dw_sd ht hi (by decide) (by decide) v
theorem dw_dS6 (ht : P.length = t) {i : Nat} (hi : i < 6) (v : Int32) : op_S (dw_lh P t l m y ho cl s k Q) (t + 3 + i) 0 6 (.int v) = some (dw_lh P t l m y ho cl (dw_set s i 6 v) k Q) := dw_sd ht hi (by decide) (by decide) v
/-- the same cell whatever stands in the nine -/
def dw_at (P Q : pm_H) (a : Nat) (h0 : pm_H) : Prop := ∀ B : pm_H, B.length = 9 → (P ++ (B ++ Q))[a]? = h0[a]?
end LK
