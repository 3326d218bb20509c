/-! THE REFERENCE'S PICTURE: its 21 cells out of X (fields, arrays), rows R, gone G, stack S, named N and years y -/
abbrev dw_X : Type := (Nat → Int32) × (Nat → Int64) × (Nat → Nat → Int32) × (Nat → Int64)
def dw_gI (X : dw_X) (k : Nat) : Int32 := X.1 k
def dw_gJ (X : dw_X) (k : Nat) : Int64 := X.2.1 k
def dw_gA (X : dw_X) (c i : Nat) : Int32 := X.2.2.1 c i
def dw_gY (X : dw_X) (i : Nat) : Int64 := X.2.2.2 i
def dw_I (X : dw_X) (k : Nat) (v : Int32) : dw_X := (upd X.1 k v, X.2)
def dw_J (X : dw_X) (k : Nat) (v : Int64) : dw_X := (X.1, vp_updL X.2.1 k v, X.2.2)
def dw_A (X : dw_X) (c i : Nat) (v : Int32) : dw_X := (X.1, X.2.1, (fun a => if a = c then upd (X.2.2.1 c) i v else X.2.2.1 a), X.2.2.2)
def dw_Y (X : dw_X) (i : Nat) (v : Int64) : dw_X := (X.1, X.2.1, X.2.2.1, vp_updL X.2.2.2 i v)
theorem dw_II (X : dw_X) (k j : Nat) (v : Int32) : dw_gI (dw_I X k v) j = if j = k then v else dw_gI X j := rfl
theorem dw_IJ (X : dw_X) (k j : Nat) (v : Int64) : dw_gI (dw_J X k v) j = dw_gI X j := rfl
theorem dw_IA (X : dw_X) (c k j : Nat) (v : Int32) : dw_gI (dw_A X c k v) j = dw_gI X j := rfl
theorem dw_IY (X : dw_X) (k j : Nat) (v : Int64) : dw_gI (dw_Y X k v) j = dw_gI X j := rfl
theorem dw_JI (X : dw_X) (k j : Nat) (v : Int32) : dw_gJ (dw_I X k v) j = dw_gJ X j := rfl
theorem dw_JJ (X : dw_X) (k j : Nat) (v : Int64) : dw_gJ (dw_J X k v) j = if j = k then v else dw_gJ X j := rfl
theorem dw_JA (X : dw_X) (c k j : Nat) (v : Int32) : dw_gJ (dw_A X c k v) j = dw_gJ X j := rfl
theorem dw_JY (X : dw_X) (k j : Nat) (v : Int64) : dw_gJ (dw_Y X k v) j = dw_gJ X j := rfl
theorem dw_AI (X : dw_X) (k c j : Nat) (v : Int32) : dw_gA (dw_I X k v) c j = dw_gA X c j := rfl
theorem dw_AJ (X : dw_X) (k c j : Nat) (v : Int64) : dw_gA (dw_J X k v) c j = dw_gA X c j := rfl
theorem dw_AY (X : dw_X) (k c j : Nat) (v : Int64) : dw_gA (dw_Y X k v) c j = dw_gA X c j := rfl
theorem dw_AA (X : dw_X) (c k d j : Nat) (v : Int32) : dw_gA (dw_A X c k v) d j = if d = c ∧ j = k then v else dw_gA X d j := by
  unfold dw_gA dw_A
  by_cases h : d = c
  · subst h
    by_cases h2 : j = k <;> simp [upd, h2]
  · simp [h]
theorem dw_YI (X : dw_X) (k j : Nat) (v : Int32) : dw_gY (dw_I X k v) j = dw_gY X j := rfl
theorem dw_YJ (X : dw_X) (k j : Nat) (v : Int64) : dw_gY (dw_J X k v) j = dw_gY X j := rfl
theorem dw_YA (X : dw_X) (c k j : Nat) (v : Int32) : dw_gY (dw_A X c k v) j = dw_gY X j := rfl
theorem dw_YY (X : dw_X) (k j : Nat) (v : Int64) : dw_gY (dw_Y X k v) j = if j = k then v else dw_gY X j := rfl
theorem bnd_s {α β : Type} (x : α) (f : α → Option β) : bnd (some x) f = f x := rfl
theorem bn2_s {α β γ : Type} (x : α) (y : β) (f : α → β → Option γ) : bn2 (some (x, y)) f = f x y := rfl
theorem grd_t {β : Type} (o : Option β) : grd true o = o := rfl
theorem nmd_s {α β : Type} (x : α) (f : α → Option β) : nmd x f = f x := rfl
theorem upd_app (f : Nat → Int32) (k j : Nat) (x : Int32) : upd f k x j = if j = k then x else f j := rfl
theorem op_aI_of {h : pm_H} {a n i : Nat} {f : Nat → Int32} (hc : h[a]? = some (.inl (0, n, .inl f))) (hi : i < n) (hn : n < 2 ^ 31) : op_aI h a (nI i) = some (f i) := by
  have hx : ¬ (nI i < 0 ∨ n ≤ i) := by
    have h2 := nI_in hi hn
    rwa [nI_clamp (show i < 2 ^ 31 by omega)] at h2
  simp only [op_aI, hc, nI_clamp (show i < 2 ^ 31 by omega), if_neg hx]
theorem op_sI_of {h : pm_H} {a n i : Nat} {f : Nat → Int32} (x : Int32) (hc : h[a]? = some (.inl (0, n, .inl f))) (hi : i < n) (hn : n < 2 ^ 31) : op_sI h a (nI i) x = some (h.set a (.inl (0, n, .inl (upd f i x)))) := by
  have hx : ¬ (nI i < 0 ∨ n ≤ i) := by
    have h2 := nI_in hi hn
    rwa [nI_clamp (show i < 2 ^ 31 by omega)] at h2
  simp only [op_sI, hc, nI_clamp (show i < 2 ^ 31 by omega), if_neg hx]
def dw_mk (X : dw_X) (R G S N : Nat → Int32) (y : Int32) : pm_H := [.inr (6, [.int (dw_gI X 0), .ref 1, .ref 2, .ref 3, .ref 4, .long (dw_gJ X 5), .long (dw_gJ X 6), .int y, .ref 5, .int (dw_gI X 9), .ref 6, .ref 7, .int (dw_gI X 12), .int (dw_gI X 13), .int (dw_gI X 14), .ref 8, .ref 9, .ref 10, .ref 11, .ref 12, .ref 13, .ref 14, .int (dw_gI X 22), .int (dw_gI X 23), .int (dw_gI X 24), .int (dw_gI X 25), .ref 15, .ref 16, .int (dw_gI X 28), .int (dw_gI X 29), .int (dw_gI X 30), .ref 17, .ref 18, .ref 19, .ref 20, .int (dw_gI X 35)]), .inl (0, 6, .inl (dw_gA X 1)), .inl (0, 6, .inl (dw_gA X 2)), .inl (0, 18, .inl R), .inl (0, 6, .inl G), .inl (0, 160, .inl (dw_gA X 5)), .inl (0, 1200, .inl (dw_gA X 6)), .inl (0, 24, .inl (dw_gA X 7)), .inl (0, 24, .inl (dw_gA X 8)), .inl (1, 2, .inr (.inl (dw_gY X))), .inl (0, 3, .inl (dw_gA X 10)), .inl (0, 4, .inl (dw_gA X 11)), .inl (0, 4, .inl (dw_gA X 12)), .inl (0, 160, .inl (dw_gA X 13)), .inl (0, 42, .inl (dw_gA X 14)), .inl (0, 96, .inl (dw_gA X 15)), .inl (0, 200, .inl (dw_gA X 16)), .inl (0, 200, .inl S), .inl (0, 6, .inl N), .inl (0, 25, .inl (dw_gA X 19)), .inl (0, 40, .inl (dw_gA X 20))]
section MK
variable {X : dw_X} {R G S N : Nat → Int32} {y : Int32}
theorem dw_is : op_is (dw_mk X R G S N y) 0 6 = true := rfl
theorem dw_f0 : op_I (dw_mk X R G S N y) 0 6 0 = some (dw_gI X 0) := rfl
theorem dw_t0 (v : Int32) : op_S (dw_mk X R G S N y) 0 6 0 (.int v) = some (dw_mk (dw_I X 0 v) R G S N y) := rfl
theorem dw_f9 : op_I (dw_mk X R G S N y) 0 6 9 = some (dw_gI X 9) := rfl
theorem dw_t9 (v : Int32) : op_S (dw_mk X R G S N y) 0 6 9 (.int v) = some (dw_mk (dw_I X 9 v) R G S N y) := rfl
theorem dw_f12 : op_I (dw_mk X R G S N y) 0 6 12 = some (dw_gI X 12) := rfl
theorem dw_t12 (v : Int32) : op_S (dw_mk X R G S N y) 0 6 12 (.int v) = some (dw_mk (dw_I X 12 v) R G S N y) := rfl
theorem dw_f13 : op_I (dw_mk X R G S N y) 0 6 13 = some (dw_gI X 13) := rfl
theorem dw_t13 (v : Int32) : op_S (dw_mk X R G S N y) 0 6 13 (.int v) = some (dw_mk (dw_I X 13 v) R G S N y) := rfl
theorem dw_f14 : op_I (dw_mk X R G S N y) 0 6 14 = some (dw_gI X 14) := rfl
theorem dw_t14 (v : Int32) : op_S (dw_mk X R G S N y) 0 6 14 (.int v) = some (dw_mk (dw_I X 14 v) R G S N y) := rfl
theorem dw_f22 : op_I (dw_mk X R G S N y) 0 6 22 = some (dw_gI X 22) := rfl
theorem dw_t22 (v : Int32) : op_S (dw_mk X R G S N y) 0 6 22 (.int v) = some (dw_mk (dw_I X 22 v) R G S N y) := rfl
theorem dw_f23 : op_I (dw_mk X R G S N y) 0 6 23 = some (dw_gI X 23) := rfl
theorem dw_t23 (v : Int32) : op_S (dw_mk X R G S N y) 0 6 23 (.int v) = some (dw_mk (dw_I X 23 v) R G S N y) := rfl
theorem dw_f24 : op_I (dw_mk X R G S N y) 0 6 24 = some (dw_gI X 24) := rfl
theorem dw_t24 (v : Int32) : op_S (dw_mk X R G S N y) 0 6 24 (.int v) = some (dw_mk (dw_I X 24 v) R G S N y) := rfl
theorem dw_f25 : op_I (dw_mk X R G S N y) 0 6 25 = some (dw_gI X 25) := rfl
theorem dw_t25 (v : Int32) : op_S (dw_mk X R G S N y) 0 6 25 (.int v) = some (dw_mk (dw_I X 25 v) R G S N y) := rfl
theorem dw_f28 : op_I (dw_mk X R G S N y) 0 6 28 = some (dw_gI X 28) := rfl
theorem dw_t28 (v : Int32) : op_S (dw_mk X R G S N y) 0 6 28 (.int v) = some (dw_mk (dw_I X 28 v) R G S N y) := rfl
theorem dw_f29 : op_I (dw_mk X R G S N y) 0 6 29 = some (dw_gI X 29) := rfl
theorem dw_t29 (v : Int32) : op_S (dw_mk X R G S N y) 0 6 29 (.int v) = some (dw_mk (dw_I X 29 v) R G S N y) := rfl
theorem dw_f30 : op_I (dw_mk X R G S N y) 0 6 30 = some (dw_gI X 30) := rfl
theorem dw_t30 (v : Int32) : op_S (dw_mk X R G S N y) 0 6 30 (.int v) = some (dw_mk (dw_I X 30 v) R G S N y) := rfl
theorem dw_f35 : op_I (dw_mk X R G S N y) 0 6 35 = some (dw_gI X 35) := rfl
theorem dw_t35 (v : Int32) : op_S (dw_mk X R G S N y) 0 6 35 (.int v) = some (dw_mk (dw_I X 35 v) R G S N y) := rfl
theorem dw_f7 : op_I (dw_mk X R G S N y) 0 6 7 = some y := rfl
theorem dw_t7 (v : Int32) : op_S (dw_mk X R G S N y) 0 6 7 (.int v) = some (dw_mk X R G S N v) := rfl
theorem dw_f5 : op_J (dw_mk X R G S N y) 0 6 5 = some (dw_gJ X 5) := rfl
theorem dw_t5 (v : Int64) : op_S (dw_mk X R G S N y) 0 6 5 (.long v) = some (dw_mk (dw_J X 5 v) R G S N y) := rfl
theorem dw_f6 : op_J (dw_mk X R G S N y) 0 6 6 = some (dw_gJ X 6) := rfl
theorem dw_t6 (v : Int64) : op_S (dw_mk X R G S N y) 0 6 6 (.long v) = some (dw_mk (dw_J X 6 v) R G S N y) := rfl
theorem dw_f1 : op_A (dw_mk X R G S N y) 0 6 1 = some (some 1) := rfl
theorem dw_f2 : op_A (dw_mk X R G S N y) 0 6 2 = some (some 2) := rfl
theorem dw_f3 : op_A (dw_mk X R G S N y) 0 6 3 = some (some 3) := rfl
theorem dw_f4 : op_A (dw_mk X R G S N y) 0 6 4 = some (some 4) := rfl
theorem dw_f8 : op_A (dw_mk X R G S N y) 0 6 8 = some (some 5) := rfl
theorem dw_f10 : op_A (dw_mk X R G S N y) 0 6 10 = some (some 6) := rfl
theorem dw_f11 : op_A (dw_mk X R G S N y) 0 6 11 = some (some 7) := rfl
theorem dw_f15 : op_A (dw_mk X R G S N y) 0 6 15 = some (some 8) := rfl
theorem dw_f16 : op_A (dw_mk X R G S N y) 0 6 16 = some (some 9) := rfl
theorem dw_f17 : op_A (dw_mk X R G S N y) 0 6 17 = some (some 10) := rfl
theorem dw_f18 : op_A (dw_mk X R G S N y) 0 6 18 = some (some 11) := rfl
theorem dw_f19 : op_A (dw_mk X R G S N y) 0 6 19 = some (some 12) := rfl
theorem dw_f20 : op_A (dw_mk X R G S N y) 0 6 20 = some (some 13) := rfl
theorem dw_f21 : op_A (dw_mk X R G S N y) 0 6 21 = some (some 14) := rfl
theorem dw_f26 : op_A (dw_mk X R G S N y) 0 6 26 = some (some 15) := rfl
theorem dw_f27 : op_A (dw_mk X R G S N y) 0 6 27 = some (some 16) := rfl
theorem dw_f31 : op_A (dw_mk X R G S N y) 0 6 31 = some (some 17) := rfl
theorem dw_f32 : op_A (dw_mk X R G S N y) 0 6 32 = some (some 18) := rfl
theorem dw_f33 : op_A (dw_mk X R G S N y) 0 6 33 = some (some 19) := rfl
theorem dw_f34 : op_A (dw_mk X R G S N y) 0 6 34 = some (some 20) := rfl
theorem dw_a1 {i : Nat} (h : i < 6) : op_aI (dw_mk X R G S N y) 1 (nI i) = some (dw_gA X 1 i) := op_aI_of (f := dw_gA X 1) rfl h (by decide)
theorem dw_w1 {i : Nat} (h : i < 6) (v : Int32) : op_sI (dw_mk X R G S N y) 1 (nI i) v = some (dw_mk (dw_A X 1 i v) R G S N y) := (op_sI_of (f := dw_gA X 1) v rfl h (by decide)).trans rfl
theorem dw_a2 {i : Nat} (h : i < 6) : op_aI (dw_mk X R G S N y) 2 (nI i) = some (dw_gA X 2 i) := op_aI_of (f := dw_gA X 2) rfl h (by decide)
theorem dw_w2 {i : Nat} (h : i < 6) (v : Int32) : op_sI (dw_mk X R G S N y) 2 (nI i) v = some (dw_mk (dw_A X 2 i v) R G S N y) := (op_sI_of (f := dw_gA X 2) v rfl h (by decide)).trans rfl
theorem dw_a3 {i : Nat} (h : i < 18) : op_aI (dw_mk X R G S N y) 3 (nI i) = some (R i) := op_aI_of (f := R) rfl h (by decide)
theorem dw_w3 {i : Nat} (h : i < 18) (v : Int32) : op_sI (dw_mk X R G S N y) 3 (nI i) v = some (dw_mk X (upd R i v) G S N y) := (op_sI_of (f := R) v rfl h (by decide)).trans rfl
theorem dw_a4 {i : Nat} (h : i < 6) : op_aI (dw_mk X R G S N y) 4 (nI i) = some (G i) := op_aI_of (f := G) rfl h (by decide)
theorem dw_w4 {i : Nat} (h : i < 6) (v : Int32) : op_sI (dw_mk X R G S N y) 4 (nI i) v = some (dw_mk X R (upd G i v) S N y) := (op_sI_of (f := G) v rfl h (by decide)).trans rfl
theorem dw_a5 {i : Nat} (h : i < 160) : op_aI (dw_mk X R G S N y) 5 (nI i) = some (dw_gA X 5 i) := op_aI_of (f := dw_gA X 5) rfl h (by decide)
theorem dw_w5 {i : Nat} (h : i < 160) (v : Int32) : op_sI (dw_mk X R G S N y) 5 (nI i) v = some (dw_mk (dw_A X 5 i v) R G S N y) := (op_sI_of (f := dw_gA X 5) v rfl h (by decide)).trans rfl
theorem dw_a6 {i : Nat} (h : i < 1200) : op_aI (dw_mk X R G S N y) 6 (nI i) = some (dw_gA X 6 i) := op_aI_of (f := dw_gA X 6) rfl h (by decide)
theorem dw_w6 {i : Nat} (h : i < 1200) (v : Int32) : op_sI (dw_mk X R G S N y) 6 (nI i) v = some (dw_mk (dw_A X 6 i v) R G S N y) := (op_sI_of (f := dw_gA X 6) v rfl h (by decide)).trans rfl
theorem dw_a7 {i : Nat} (h : i < 24) : op_aI (dw_mk X R G S N y) 7 (nI i) = some (dw_gA X 7 i) := op_aI_of (f := dw_gA X 7) rfl h (by decide)
theorem dw_w7 {i : Nat} (h : i < 24) (v : Int32) : op_sI (dw_mk X R G S N y) 7 (nI i) v = some (dw_mk (dw_A X 7 i v) R G S N y) := (op_sI_of (f := dw_gA X 7) v rfl h (by decide)).trans rfl
theorem dw_a8 {i : Nat} (h : i < 24) : op_aI (dw_mk X R G S N y) 8 (nI i) = some (dw_gA X 8 i) := op_aI_of (f := dw_gA X 8) rfl h (by decide)
theorem dw_w8 {i : Nat} (h : i < 24) (v : Int32) : op_sI (dw_mk X R G S N y) 8 (nI i) v = some (dw_mk (dw_A X 8 i v) R G S N y) := (op_sI_of (f := dw_gA X 8) v rfl h (by decide)).trans rfl
theorem dw_a9_0 : op_aJ (dw_mk X R G S N y) 9 0 = some (dw_gY X 0) := rfl
theorem dw_s9_0 (v : Int64) : op_sJ (dw_mk X R G S N y) 9 0 v = some (dw_mk (dw_Y X 0 v) R G S N y) := rfl
theorem dw_a9_1 : op_aJ (dw_mk X R G S N y) 9 1 = some (dw_gY X 1) := rfl
theorem dw_s9_1 (v : Int64) : op_sJ (dw_mk X R G S N y) 9 1 v = some (dw_mk (dw_Y X 1 v) R G S N y) := rfl
theorem dw_a10 {i : Nat} (h : i < 3) : op_aI (dw_mk X R G S N y) 10 (nI i) = some (dw_gA X 10 i) := op_aI_of (f := dw_gA X 10) rfl h (by decide)
theorem dw_w10 {i : Nat} (h : i < 3) (v : Int32) : op_sI (dw_mk X R G S N y) 10 (nI i) v = some (dw_mk (dw_A X 10 i v) R G S N y) := (op_sI_of (f := dw_gA X 10) v rfl h (by decide)).trans rfl
theorem dw_a10_0 : op_aI (dw_mk X R G S N y) 10 0 = some (dw_gA X 10 0) := dw_a10 (i := 0) (by decide)
theorem dw_w10_0 (v : Int32) : op_sI (dw_mk X R G S N y) 10 0 v = some (dw_mk (dw_A X 10 0 v) R G S N y) := dw_w10 (i := 0) (by decide) v
theorem dw_a10_1 : op_aI (dw_mk X R G S N y) 10 1 = some (dw_gA X 10 1) := dw_a10 (i := 1) (by decide)
theorem dw_w10_1 (v : Int32) : op_sI (dw_mk X R G S N y) 10 1 v = some (dw_mk (dw_A X 10 1 v) R G S N y) := dw_w10 (i := 1) (by decide) v
theorem dw_a10_2 : op_aI (dw_mk X R G S N y) 10 2 = some (dw_gA X 10 2) := dw_a10 (i := 2) (by decide)
theorem dw_w10_2 (v : Int32) : op_sI (dw_mk X R G S N y) 10 2 v = some (dw_mk (dw_A X 10 2 v) R G S N y) := dw_w10 (i := 2) (by decide) v
theorem dw_a11 {i : Nat} (h : i < 4) : op_aI (dw_mk X R G S N y) 11 (nI i) = some (dw_gA X 11 i) := op_aI_of (f := dw_gA X 11) rfl h (by decide)
theorem dw_w11 {i : Nat} (h : i < 4) (v : Int32) : op_sI (dw_mk X R G S N y) 11 (nI i) v = some (dw_mk (dw_A X 11 i v) R G S N y) := (op_sI_of (f := dw_gA X 11) v rfl h (by decide)).trans rfl
theorem dw_a12 {i : Nat} (h : i < 4) : op_aI (dw_mk X R G S N y) 12 (nI i) = some (dw_gA X 12 i) := op_aI_of (f := dw_gA X 12) rfl h (by decide)
theorem dw_w12 {i : Nat} (h : i < 4) (v : Int32) : op_sI (dw_mk X R G S N y) 12 (nI i) v = some (dw_mk (dw_A X 12 i v) R G S N y) := (op_sI_of (f := dw_gA X 12) v rfl h (by decide)).trans rfl
theorem dw_a13 {i : Nat} (h : i < 160) : op_aI (dw_mk X R G S N y) 13 (nI i) = some (dw_gA X 13 i) := op_aI_of (f := dw_gA X 13) rfl h (by decide)
theorem dw_w13 {i : Nat} (h : i < 160) (v : Int32) : op_sI (dw_mk X R G S N y) 13 (nI i) v = some (dw_mk (dw_A X 13 i v) R G S N y) := (op_sI_of (f := dw_gA X 13) v rfl h (by decide)).trans rfl
theorem dw_a14 {i : Nat} (h : i < 42) : op_aI (dw_mk X R G S N y) 14 (nI i) = some (dw_gA X 14 i) := op_aI_of (f := dw_gA X 14) rfl h (by decide)
theorem dw_w14 {i : Nat} (h : i < 42) (v : Int32) : op_sI (dw_mk X R G S N y) 14 (nI i) v = some (dw_mk (dw_A X 14 i v) R G S N y) := (op_sI_of (f := dw_gA X 14) v rfl h (by decide)).trans rfl
theorem dw_a15 {i : Nat} (h : i < 96) : op_aI (dw_mk X R G S N y) 15 (nI i) = some (dw_gA X 15 i) := op_aI_of (f := dw_gA X 15) rfl h (by decide)
theorem dw_w15 {i : Nat} (h : i < 96) (v : Int32) : op_sI (dw_mk X R G S N y) 15 (nI i) v = some (dw_mk (dw_A X 15 i v) R G S N y) := (op_sI_of (f := dw_gA X 15) v rfl h (by decide)).trans rfl
theorem dw_a16 {i : Nat} (h : i < 200) : op_aI (dw_mk X R G S N y) 16 (nI i) = some (dw_gA X 16 i) := op_aI_of (f := dw_gA X 16) rfl h (by decide)
theorem dw_w16 {i : Nat} (h : i < 200) (v : Int32) : op_sI (dw_mk X R G S N y) 16 (nI i) v = some (dw_mk (dw_A X 16 i v) R G S N y) := (op_sI_of (f := dw_gA X 16) v rfl h (by decide)).trans rfl
theorem dw_a17 {i : Nat} (h : i < 200) : op_aI (dw_mk X R G S N y) 17 (nI i) = some (S i) := op_aI_of (f := S) rfl h (by decide)
theorem dw_w17 {i : Nat} (h : i < 200) (v : Int32) : op_sI (dw_mk X R G S N y) 17 (nI i) v = some (dw_mk X R G (upd S i v) N y) := (op_sI_of (f := S) v rfl h (by decide)).trans rfl
theorem dw_a17_0 : op_aI (dw_mk X R G S N y) 17 0 = some (S 0) := dw_a17 (i := 0) (by decide)
theorem dw_w17_0 (v : Int32) : op_sI (dw_mk X R G S N y) 17 0 v = some (dw_mk X R G (upd S 0 v) N y) := dw_w17 (i := 0) (by decide) v
theorem dw_a18 {i : Nat} (h : i < 6) : op_aI (dw_mk X R G S N y) 18 (nI i) = some (N i) := op_aI_of (f := N) rfl h (by decide)
theorem dw_w18 {i : Nat} (h : i < 6) (v : Int32) : op_sI (dw_mk X R G S N y) 18 (nI i) v = some (dw_mk X R G S (upd N i v) y) := (op_sI_of (f := N) v rfl h (by decide)).trans rfl
theorem dw_a18_0 : op_aI (dw_mk X R G S N y) 18 0 = some (N 0) := dw_a18 (i := 0) (by decide)
theorem dw_w18_0 (v : Int32) : op_sI (dw_mk X R G S N y) 18 0 v = some (dw_mk X R G S (upd N 0 v) y) := dw_w18 (i := 0) (by decide) v
theorem dw_a18_1 : op_aI (dw_mk X R G S N y) 18 1 = some (N 1) := dw_a18 (i := 1) (by decide)
theorem dw_w18_1 (v : Int32) : op_sI (dw_mk X R G S N y) 18 1 v = some (dw_mk X R G S (upd N 1 v) y) := dw_w18 (i := 1) (by decide) v
theorem dw_a18_2 : op_aI (dw_mk X R G S N y) 18 2 = some (N 2) := dw_a18 (i := 2) (by decide)
theorem dw_w18_2 (v : Int32) : op_sI (dw_mk X R G S N y) 18 2 v = some (dw_mk X R G S (upd N 2 v) y) := dw_w18 (i := 2) (by decide) v
theorem dw_a18_3 : op_aI (dw_mk X R G S N y) 18 3 = some (N 3) := dw_a18 (i := 3) (by decide)
theorem dw_w18_3 (v : Int32) : op_sI (dw_mk X R G S N y) 18 3 v = some (dw_mk X R G S (upd N 3 v) y) := dw_w18 (i := 3) (by decide) v
theorem dw_a18_4 : op_aI (dw_mk X R G S N y) 18 4 = some (N 4) := dw_a18 (i := 4) (by decide)
theorem dw_w18_4 (v : Int32) : op_sI (dw_mk X R G S N y) 18 4 v = some (dw_mk X R G S (upd N 4 v) y) := dw_w18 (i := 4) (by decide) v
theorem dw_a18_5 : op_aI (dw_mk X R G S N y) 18 5 = some (N 5) := dw_a18 (i := 5) (by decide)
theorem dw_w18_5 (v : Int32) : op_sI (dw_mk X R G S N y) 18 5 v = some (dw_mk X R G S (upd N 5 v) y) := dw_w18 (i := 5) (by decide) v
theorem dw_a19 {i : Nat} (h : i < 25) : op_aI (dw_mk X R G S N y) 19 (nI i) = some (dw_gA X 19 i) := op_aI_of (f := dw_gA X 19) rfl h (by decide)
theorem dw_w19 {i : Nat} (h : i < 25) (v : Int32) : op_sI (dw_mk X R G S N y) 19 (nI i) v = some (dw_mk (dw_A X 19 i v) R G S N y) := (op_sI_of (f := dw_gA X 19) v rfl h (by decide)).trans rfl
theorem dw_a19_24 : op_aI (dw_mk X R G S N y) 19 24 = some (dw_gA X 19 24) := dw_a19 (i := 24) (by decide)
theorem dw_w19_24 (v : Int32) : op_sI (dw_mk X R G S N y) 19 24 v = some (dw_mk (dw_A X 19 24 v) R G S N y) := dw_w19 (i := 24) (by decide) v
theorem dw_a20 {i : Nat} (h : i < 40) : op_aI (dw_mk X R G S N y) 20 (nI i) = some (dw_gA X 20 i) := op_aI_of (f := dw_gA X 20) rfl h (by decide)
theorem dw_w20 {i : Nat} (h : i < 40) (v : Int32) : op_sI (dw_mk X R G S N y) 20 (nI i) v = some (dw_mk (dw_A X 20 i v) R G S N y) := (op_sI_of (f := dw_gA X 20) v rfl h (by decide)).trans rfl
end MK
