/-! THE CLASS: image; a new land at the end of the heap -/
theorem dw_ge {h : pm_H} {u : Nat} {c : pm_C} (hu : h.length = u) : (h ++ [c])[u]? = some c := by
  have g := dw_gx (P := h) (B := [c]) (Q := []) (t := u) (j := 0) hu (show 0 < 1 by decide)
  rw [List.append_nil] at g
  exact g
theorem dw_se {h : pm_H} {u : Nat} {c c' : pm_C} (hu : h.length = u) : (h ++ [c]).set u c' = h ++ [c'] := by
  have g := dw_sx (P := h) (B := [c]) (Q := []) (t := u) (j := 0) (c := c') hu (show 0 < 1 by decide)
  rw [List.append_nil] at g
  exact g
def dw_nd (i : Nat) : pm_C := .inr (0, [.int (nI i), .int 0, .int 0, .int 0, .int 1, .int 0, .int 1])
theorem dw_Dini {h : pm_H} {u i : Nat} (hu : h.length = u) : D_init (h ++ [.inr (0, pm_new 0)]) u (nI i) = some (h ++ [dw_nd i], ()) := by
  rw [D_init, op_S_of (dw_ge hu) (show 0 < 7 by decide), bnd_s, dw_se hu, op_S_of (dw_ge hu) (show 4 < 7 by decide), bnd_s, dw_se hu, op_S_of (dw_ge hu) (show 6 < 7 by decide), bnd_s, dw_se hu]
  rfl
def dw_hd (b l : Nat) (g : Nat → Option Nat) : pm_H := [.inr (1, [.ref (b + 1), .int 0, .long 0, .long 0, .int 0, .ref l, .ref (b + 2)]), .inl (3, 6, .inr (.inr (.inr (.inr g)))), .inl (0, 32, .inl (fun _ => 0))]
theorem dw_Lini28s {G D : pm_H} {b l i : Nat} {g : Nat → Option Nat} (hG : G.length = b) (hD : D.length = i) (hi : i < 6) (n : Nat) : L_init_28 (n + 1) (G ++ (dw_hd b l g ++ D)) b (nI i) = L_init_28 n (G ++ (dw_hd b l (va_up g i (some (b + 3 + i))) ++ (D ++ [dw_nd i]))) b (nI (i + 1)) := by
  have hl : (G ++ (dw_hd b l g ++ D)).length = b + 3 + i := by
    rw [List.length_append, List.length_append, hG, hD]
    show b + (3 + i) = b + 3 + i
    omega
  have e0 : op_A (G ++ (dw_hd b l g ++ D)) b 1 0 = some (some (b + 1)) := by
    unfold op_A
    rw [show (G ++ (dw_hd b l g ++ D))[b]? = _ from dw_gx (j := 0) (B := dw_hd b l g) hG (show 0 < 3 by decide)]
    rfl
  have e1 : op_ln (G ++ (dw_hd b l g ++ D)) (b + 1) = some 6 := by
    unfold op_ln
    rw [dw_gx (j := 1) (B := dw_hd b l g) hG (show 1 < 3 by decide)]
    rfl
  rw [L_init_28, e0, bnd_s, bnd_s, e1, bnd_s, if_neg (show ¬ (6 : Int32) ≤ nI i from nI_ge (b := 6) hi (by omega)), bnd_s, nmd_s, nmd_s, hl, dw_Dini hl, bn2_s, bnd_s]
  have e2 : op_sA (G ++ (dw_hd b l g ++ D) ++ [dw_nd i]) (b + 1) 0 (nI i) (b + 3 + i) = some (G ++ (dw_hd b l (va_up g i (some (b + 3 + i))) ++ (D ++ [dw_nd i]))) := by
    unfold op_sA
    rw [dw_ge hl, List.append_assoc, List.append_assoc, dw_gx (j := 1) (B := dw_hd b l g) hG (show 1 < 3 by decide)]
    show (if 3 = 0 + 3 ∧ 0 = 0 then (if nI i < 0 ∨ 6 ≤ (nI i).toNatClampNeg then none else some ((G ++ (dw_hd b l g ++ (D ++ [dw_nd i]))).set (b + 1) (.inl (0 + 3, 6, .inr (.inr (.inr (.inr (va_up g (nI i).toNatClampNeg (some (b + 3 + i)))))))))) else none) = _
    rw [if_pos ⟨rfl, rfl⟩, nI_clamp (by omega), if_neg (fun c => by
      rcases c with c | c
      · exact nI_pos (by omega) c
      · omega), dw_sx (j := 1) (B := dw_hd b l g) hG (show 1 < 3 by decide)]
    rfl
  rw [e2, bnd_s, nmd_s, nI_1]
def dw_s0' : dw_L := fun _ f => if f = 4 then 1 else if f = 6 then 1 else 0
theorem dw_rf_up (b : Nat) : va_up (va_up (va_up (va_up (va_up (va_up (fun _ => none) 0 (some (b + 3 + 0))) 1 (some (b + 3 + 1))) 2 (some (b + 3 + 2))) 3 (some (b + 3 + 3))) 4 (some (b + 3 + 4))) 5 (some (b + 3 + 5)) = dw_rf b := by
  funext i
  unfold va_up dw_rf
  by_cases c : i < 6
  · rw [if_pos c]
    rcases (by omega : i = 0 ∨ i = 1 ∨ i = 2 ∨ i = 3 ∨ i = 4 ∨ i = 5) with rfl | rfl | rfl | rfl | rfl | rfl <;> rfl
  · rw [if_neg c, if_neg (by omega), if_neg (by omega), if_neg (by omega), if_neg (by omega), if_neg (by omega), if_neg (by omega)]
theorem dw_Lini {G : pm_H} {b l : Nat} (hG : G.length = b) : L_init (G ++ [.inr (1, pm_new 1)]) b (some l) = some (G ++ dw_bk b l 0 0 0 0 dw_s0' (fun _ => 0), ()) := by
  have hg : (G ++ ([.inr (1, pm_new 1)] : pm_H)).length = b + 1 := by
    rw [List.length_append, hG]
    rfl
  have n1 : op_nA (G ++ [.inr (1, pm_new 1)]) 0 6 = some (G ++ [.inr (1, pm_new 1), .inl (3, 6, .inr (.inr (.inr (.inr (fun _ => none)))))]) := by
    have e : op_nA (G ++ [.inr (1, pm_new 1)]) 0 6 = some (G ++ [.inr (1, pm_new 1)] ++ [.inl (3, 6, .inr (.inr (.inr (.inr (fun _ => none)))))]) := rfl
    rw [e, List.append_assoc]
    rfl
  have S0 : ∀ (fs : List Value) (E : pm_H) (kk : Nat) (v : Value), kk < fs.length → op_S (G ++ (.inr (1, fs) :: E)) b 1 kk v = some (G ++ (.inr (1, fs.set kk v) :: E)) := by
    intro fs E kk v hk
    have g := dw_gx (P := G) (B := .inr (1, fs) :: E) (Q := []) (t := b) (j := 0) hG (Nat.succ_pos _)
    rw [List.append_nil] at g
    have g2 := fun c => dw_sx (P := G) (B := .inr (1, fs) :: E) (Q := []) (t := b) (j := 0) (c := c) hG (Nat.succ_pos _)
    simp only [List.append_nil] at g2
    rw [op_S_of (show (G ++ (.inr (1, fs) :: E))[b]? = some (.inr (1, fs)) from g) hk]
    rw [show (G ++ (.inr (1, fs) :: E)).set b (.inr (1, fs.set kk v)) = _ from g2 _]
    rfl
  rw [L_init, n1, bnd_s, nmd_s, hg, S0 _ _ 0 _ (by decide), bnd_s]
  have n2 : ∀ (E : pm_H), op_nI (G ++ E) 32 = some (G ++ (E ++ [.inl (0, 32, .inl (fun _ => 0))])) := by
    intro E
    have e : op_nI (G ++ E) 32 = some (G ++ E ++ [.inl (0, 32, .inl (fun _ => 0))]) := rfl
    rw [e, List.append_assoc]
  have hg2 : ∀ c c' : pm_C, (G ++ [c, c']).length = b + 2 := by
    intro c c'
    rw [List.length_append, hG]
    rfl
  rw [n2, bnd_s, nmd_s, hg2, List.cons_append, S0 _ _ 6 _ (by rw [List.length_set]; decide), bnd_s, S0 _ _ 5 _ (by rw [List.length_set, List.length_set]; decide), bnd_s]
  have s0 := dw_Lini28s (G := G) (D := []) (b := b) (l := l) (g := fun _ => none) (i := 0) hG rfl (by decide) 999
  have s1 := fun g D (hD : D.length = 1) => dw_Lini28s (G := G) (D := D) (b := b) (l := l) (g := g) (i := 1) hG hD (by decide) 998
  have s2 := fun g D (hD : D.length = 2) => dw_Lini28s (G := G) (D := D) (b := b) (l := l) (g := g) (i := 2) hG hD (by decide) 997
  have s3 := fun g D (hD : D.length = 3) => dw_Lini28s (G := G) (D := D) (b := b) (l := l) (g := g) (i := 3) hG hD (by decide) 996
  have s4 := fun g D (hD : D.length = 4) => dw_Lini28s (G := G) (D := D) (b := b) (l := l) (g := g) (i := 4) hG hD (by decide) 995
  have s5 := fun g D (hD : D.length = 5) => dw_Lini28s (G := G) (D := D) (b := b) (l := l) (g := g) (i := 5) hG hD (by decide) 994
  have e9 : L_init_28 1000 (G ++ (dw_hd b l (fun _ => none) ++ [])) b 0 = some (G ++ dw_bk b l 0 0 0 0 dw_s0' (fun _ => 0), ()) := by
    refine s0.trans ((s1 _ _ rfl).trans ((s2 _ _ rfl).trans ((s3 _ _ rfl).trans ((s4 _ _ rfl).trans ((s5 _ _ rfl).trans ?_)))))
    rw [dw_rf_up, L_init_28]
    have e0 : ∀ D, op_A (G ++ (dw_hd b l (dw_rf b) ++ D)) b 1 0 = some (some (b + 1)) := by
      intro D
      unfold op_A
      rw [show (G ++ (dw_hd b l (dw_rf b) ++ D))[b]? = _ from dw_gx (j := 0) (B := dw_hd b l (dw_rf b)) hG (show 0 < 3 by decide)]
      rfl
    have e1 : ∀ D, op_ln (G ++ (dw_hd b l (dw_rf b) ++ D)) (b + 1) = some 6 := by
      intro D
      unfold op_ln
      rw [dw_gx (j := 1) (B := dw_hd b l (dw_rf b)) hG (show 1 < 3 by decide)]
      rfl
    rw [e0, bnd_s, bnd_s, e1, bnd_s, if_pos (by decide)]
    rfl
  exact e9
/-! laws stay where they are -/
theorem dw_LZ_app {Z E : pm_H} {j : Nat} {n : Int32} {w : dw_W} (h : dw_LZ Z j n w) : dw_LZ (Z ++ E) j n w := by
  have ap : ∀ (j : Nat) (c : pm_C), Z[j]? = some c → (Z ++ E)[j]? = some c := by
    intro j c hc
    have hj : j < Z.length := by
      rcases Nat.lt_or_ge j Z.length with q | q
      · exact q
      · rw [List.getElem?_eq_none q] at hc
        exact absurd hc (by simp)
    rw [List.getElem?_append_left hj]
    exact hc
  exact ⟨ap _ _ h.1, fun q hq => by
    obtain ⟨h1, h2, f, h3, h4⟩ := h.2 q hq
    exact ⟨h1, h2, f, ap _ _ h3, h4⟩⟩
theorem dw_LP_app {Z E : pm_H} {a : Nat} {n : Int32} {w : dw_W} (h : dw_LP Z a n w) : dw_LP (Z ++ E) a n w := by
  rcases h with h | ⟨j, e, h⟩
  · exact Or.inl h
  · exact Or.inr ⟨j, e, dw_LZ_app h⟩
/-- one land for another among what was added -/
theorem dw_LZ_bk {Z1 Z2 : pm_H} {a l l' : Nat} {m m' y y' : Int32} {ho ho' cl cl' : Int64} {s s' : dw_L} {k k' : Nat → Int32} {j : Nat} {n : Int32} {w : dw_W} (h : dw_LZ (Z1 ++ (dw_bk a l m y ho cl s k ++ Z2)) j n w) : dw_LZ (Z1 ++ (dw_bk a l' m' y' ho' cl' s' k' ++ Z2)) j n w := by
  have out : ∀ i, i < Z1.length ∨ Z1.length + 9 ≤ i → (Z1 ++ (dw_bk a l' m' y' ho' cl' s' k' ++ Z2))[i]? = (Z1 ++ (dw_bk a l m y ho cl s k ++ Z2))[i]? := by
    intro i hi
    rcases hi with hi | hi
    · rw [List.getElem?_append_left hi, List.getElem?_append_left hi]
    · have l1 : (dw_bk a l m y ho cl s k).length = 9 := rfl
      have l2 : (dw_bk a l' m' y' ho' cl' s' k').length = 9 := rfl
      rw [List.getElem?_append_right (by omega), List.getElem?_append_right (by omega), List.getElem?_append_right (by omega), List.getElem?_append_right (by omega), l1, l2]
  have inn : ∀ i, i < 9 → (Z1 ++ (dw_bk a l m y ho cl s k ++ Z2))[Z1.length + i]? = (dw_bk a l m y ho cl s k)[i]? := fun i hi => dw_gx rfl hi
  have ne2 : ∀ (i : Nat) (fs : List Value), (dw_bk a l m y ho cl s k)[i]? ≠ (some (.inr (2, fs)) : Option pm_C) := by
    intro i fs
    rcases Nat.lt_or_ge i 9 with c | c
    · rcases (by omega : i = 0 ∨ i = 1 ∨ i = 2 ∨ i = 3 ∨ i = 4 ∨ i = 5 ∨ i = 6 ∨ i = 7 ∨ i = 8) with rfl | rfl | rfl | rfl | rfl | rfl | rfl | rfl | rfl <;> simp [dw_bk]
    · rw [List.getElem?_eq_none (show (dw_bk a l m y ho cl s k).length ≤ i from c)]
      simp
  have hj : j < Z1.length ∨ Z1.length + 9 ≤ j := by
    rcases Nat.lt_or_ge j Z1.length with c | c
    · exact Or.inl c
    · rcases Nat.lt_or_ge j (Z1.length + 9) with c2 | c2
      · exfalso
        have g := inn (j - Z1.length) (by omega)
        rw [show Z1.length + (j - Z1.length) = j by omega, h.1] at g
        exact ne2 _ _ g.symm
      · exact Or.inr c2
  have hq : ∀ q, q < 3 → j + 1 + q < Z1.length ∨ Z1.length + 9 ≤ j + 1 + q := by
    intro q hq
    rcases hj with hj | hj
    · rcases Nat.lt_or_ge (j + 1 + q) Z1.length with c | c
      · exact Or.inl c
      · exfalso
        obtain ⟨h1, h2, f, h3, h4⟩ := h.2 (Z1.length - (j + 1)) (by omega)
        rw [show j + 1 + (Z1.length - (j + 1)) = Z1.length + 0 by omega, inn 0 (by decide)] at h3
        exact absurd h3 (by simp [dw_bk])
    · exact Or.inr (by omega)
  refine ⟨(out j hj).trans h.1, fun q hq' => ?_⟩
  obtain ⟨h1, h2, f, h3, h4⟩ := h.2 q hq'
  exact ⟨h1, h2, f, (out _ (hq q hq')).trans h3, h4⟩
theorem dw_LP_bk {Z1 Z2 : pm_H} {a l l' : Nat} {m m' y y' : Int32} {ho ho' cl cl' : Int64} {s s' : dw_L} {k k' : Nat → Int32} {b : Nat} {n : Int32} {w : dw_W} (h : dw_LP (Z1 ++ (dw_bk a l m y ho cl s k ++ Z2)) b n w) : dw_LP (Z1 ++ (dw_bk a l' m' y' ho' cl' s' k' ++ Z2)) b n w := by
  rcases h with h | ⟨j, e, h⟩
  · exact Or.inl h
  · exact Or.inr ⟨j, e, dw_LZ_bk h⟩
theorem dw_sl_app (a b : pm_H) : pm_sl (a ++ b) = pm_sl a + pm_sl b := by
  unfold pm_sl
  rw [List.map_append, List.sum_append]
theorem dw_ZB_bk {Z1 Z2 : pm_H} {a l l' tx : Nat} {m m' y y' : Int32} {ho ho' cl cl' : Int64} {s s' : dw_L} {k k' : Nat → Int32} {im : Option dw_Ln} (h : dw_ZB (Z1 ++ (dw_bk a l m y ho cl s k ++ Z2)) tx im) : dw_ZB (Z1 ++ (dw_bk a l' m' y' ho' cl' s' k' ++ Z2)) tx im := by
  obtain ⟨h1, h2⟩ := h
  rw [List.length_append, List.length_append] at h1
  rw [dw_sl_app, dw_sl_app] at h2
  refine ⟨?_, ?_⟩
  · rw [List.length_append, List.length_append]
    exact h1
  · rw [dw_sl_app, dw_sl_app]
    exact h2
section CO
variable {T : dw_B} {Z : pm_H} {kp : Value} {tf : Nat → Option Nat} {ti B C U : Nat → Int32} {H : dw_H} {l : Nat} {k : Nat → Int32} {r m yy tx tp : Nat} {s : dw_L} {ho cl : Int64} {wt : Nat → dw_W} {tb : Nat → Nat} {im : Option dw_Ln}
theorem dw_Cim25 {Z1 Z2 : pm_H} {a l2 : Nat} {m2 y2 : Int32} {ho2 cl2 : Int64} {s2 : dw_L} {k2 : Nat → Int32} (h1 : dw_TP (Z1 ++ (dw_bk a l2 m2 y2 ho2 cl2 s2 k2 ++ Z2)) tf tx wt) (h2 : tf r = some l) (h3 : ti 1 = nI tp) (h4 : ∀ j, j < tp → B j = (nI (tb j)).toInt8.toInt32) (ha : a = 37 + Z1.length) (hzb : dw_ZB (Z1 ++ (dw_bk a l2 m2 y2 ho2 cl2 s2 k2 ++ Z2)) tx (some (m, s, yy, ho, cl, r))) (hW : dw_WFA s) : dw_Cgo (X_image_25 (dw_cl (dw_pre (nI tx) (.ref a) tf ti B C U H) (l, nI m, nI yy, ho, cl, s, k) T (Z1 ++ (dw_bk a l2 m2 y2 ho2 cl2 s2 k2 ++ Z2))) 0) ((m, s, yy, ho, cl, r), (tx, wt), (tp, tb), some (m, s, yy, ho, cl, r), H) (nI m) := by
  have e5 : ∀ N Z, op_A (dw_cl (dw_pre (nI tx) (.ref a) tf ti B C U H) N T Z) 0 5 5 = some (some a) := fun _ _ => rfl
  have vw : ∀ l2 m2 y2 ho2 cl2 s2 k2, dw_cl (dw_pre (nI tx) (.ref a) tf ti B C U H) (l, nI m, nI yy, ho, cl, s, k) T (Z1 ++ (dw_bk a l2 m2 y2 ho2 cl2 s2 k2 ++ Z2)) = dw_lh (dw_pre (nI tx) (.ref a) tf ti B C U H ++ (dw_bk 19 l (nI m) (nI yy) ho cl s k ++ (dw_bb 28 T ++ Z1))) a l2 m2 y2 ho2 cl2 s2 k2 Z2 := by
    intro l2 m2 y2 ho2 cl2 s2 k2
    unfold dw_cl dw_lh
    simp only [List.append_assoc]
    rfl
  have hp : (dw_pre (nI tx) (.ref a) tf ti B C U H ++ (dw_bk 19 l (nI m) (nI yy) ho cl s k ++ (dw_bb 28 T ++ Z1))).length = a := by
    rw [List.length_append, List.length_append, List.length_append, ha]
    show 19 + (9 + (9 + Z1.length)) = 37 + Z1.length
    omega
  have be : L_become (dw_cl (dw_pre (nI tx) (.ref a) tf ti B C U H) (l, nI m, nI yy, ho, cl, s, k) T (Z1 ++ (dw_bk a l2 m2 y2 ho2 cl2 s2 k2 ++ Z2))) a (some 19) = some (dw_cl (dw_pre (nI tx) (.ref a) tf ti B C U H) (l, nI m, nI yy, ho, cl, s, k) T (Z1 ++ (dw_bk a l (nI m) (nI yy) ho cl s k2 ++ Z2)), ()) := by
    rw [vw, vw]
    exact dw_Lbe hp (dw_ls_before dw_x_pl) hW
  have is9 : ∀ l2 m2 y2 ho2 cl2 s2 k2, op_is (dw_cl (dw_pre (nI tx) (.ref a) tf ti B C U H) (l, nI m, nI yy, ho, cl, s, k) T (Z1 ++ (dw_bk a l2 m2 y2 ho2 cl2 s2 k2 ++ Z2))) a 1 = true := by
    intro l2 m2 y2 ho2 cl2 s2 k2
    rw [vw]
    exact dw_lis hp
  have I1 : op_I (dw_cl (dw_pre (nI tx) (.ref a) tf ti B C U H) (l, nI m, nI yy, ho, cl, s, k) T (Z1 ++ (dw_bk a l (nI m) (nI yy) ho cl s k2 ++ Z2))) a 1 1 = some (nI m) := by
    rw [vw]
    exact dw_lI1 hp
  rw [X_image_25]
  repeat (first | with_reducible rw [bnd_s] | with_reducible rw [nmd_s] | with_reducible rw [bn2_s] | with_reducible rw [grd_t] | ((conv => arg 1; arg 1; simp (disch := omega) only [dw_x_is, dw_x_f0, dw_x_f1, dw_x_t1, dw_x_f2, dw_x_f3, dw_x_f4, dw_x_t5, dw_x_f6, dw_x_f7, dw_x_tis, dw_x_p0, dw_x_p6, dw_x_p1, dw_x_q1, dw_x_p2, dw_x_q2, dw_x_p3, dw_x_q3, dw_x_p4, dw_x_q4, dw_x_p5, dw_x_q5, dw_x_p7, dw_x_q7, dw_x_ln1, dw_x_ln3, dw_x_ln4, dw_x_ln5, dw_x_ln6, dw_x_a6, dw_x_w6, dw_x_a4, dw_x_w4, dw_ct_is dw_x_pl, dw_ct_A0 dw_x_pl, dw_ct_I1 dw_x_pl, dw_ct_J2 dw_x_pl, dw_ct_J3 dw_x_pl, dw_ct_I4 dw_x_pl, dw_ct_A5 dw_x_pl, dw_ct_S1 dw_x_pl, dw_ct_S2 dw_x_pl, dw_ct_S3 dw_x_pl, dw_ct_S5 dw_x_pl, dw_ct_ln dw_x_pl, dw_ct_aA dw_x_pl, dw_ct_dis dw_x_pl, dw_ct_dI0 dw_x_pl, dw_ct_dI1 dw_x_pl, dw_ct_dI2 dw_x_pl, dw_ct_dI3 dw_x_pl, dw_ct_dI4 dw_x_pl, dw_ct_dI5 dw_x_pl, dw_ct_dI6 dw_x_pl, dw_ct_dS1 dw_x_pl, dw_ct_dS2 dw_x_pl, dw_ct_dS3 dw_x_pl, dw_ct_dS4 dw_x_pl, dw_ct_dS5 dw_x_pl, dw_ct_dS6 dw_x_pl, dw_ct_Dyd dw_x_pl, dw_ct_Dwk dw_x_pl, dw_ct_Dfg dw_x_pl, dw_ct_Dq dw_x_pl, dw_ct_Dc dw_x_pl, dw_ct_onC dw_x_pl, dw_ct_li dw_x_pl, dw_ct_sa dw_x_pl, dw_cn_is dw_x_pl, dw_cn_A0 dw_x_pl, dw_cn_I1 dw_x_pl, dw_cn_J2 dw_x_pl, dw_cn_J3 dw_x_pl, dw_cn_I4 dw_x_pl, dw_cn_A5 dw_x_pl, dw_cn_S1 dw_x_pl, dw_cn_S2 dw_x_pl, dw_cn_S3 dw_x_pl, dw_cn_S5 dw_x_pl, dw_cn_ln dw_x_pl, dw_cn_aA dw_x_pl, dw_cn_dis dw_x_pl, dw_cn_dI0 dw_x_pl, dw_cn_dI1 dw_x_pl, dw_cn_dI2 dw_x_pl, dw_cn_dI3 dw_x_pl, dw_cn_dI4 dw_x_pl, dw_cn_dI5 dw_x_pl, dw_cn_dI6 dw_x_pl, dw_cn_dS1 dw_x_pl, dw_cn_dS2 dw_x_pl, dw_cn_dS3 dw_x_pl, dw_cn_dS4 dw_x_pl, dw_cn_dS5 dw_x_pl, dw_cn_dS6 dw_x_pl, dw_cn_Dyd dw_x_pl, dw_cn_Dwk dw_x_pl, dw_cn_Dfg dw_x_pl, dw_cn_Dq dw_x_pl, dw_cn_Dc dw_x_pl, dw_cn_onC dw_x_pl, dw_cn_li dw_x_pl, dw_cn_sa dw_x_pl, e5, is9, be, I1]); first | with_reducible rw [bnd_s] | with_reducible rw [bn2_s] | with_reducible rw [grd_t]))
  refine ⟨.ref a, tf, ti, B, C, U, H, l, k, T, _, rfl, dw_HE_rfl H, fun t ht => ?_, h2, h3, h4, ⟨a, Z1, Z2, l, k2, rfl, rfl, ha, h2⟩, dw_ZB_bk hzb⟩
  obtain ⟨b, e, g⟩ := h1 t ht
  exact ⟨b, e, dw_LP_bk g⟩
theorem dw_Cimage (h : dw_CX kp tf ti B l Z ((m, s, yy, ho, cl, r), (tx, wt), (tp, tb), im, H)) (ok : dw_Ok ((m, s, yy, ho, cl, r), (tx, wt), (tp, tb), im, H)) : dw_Cgo (X_image (dw_cl (dw_pre (nI tx) kp tf ti B C U H) (l, nI m, nI yy, ho, cl, s, k) T Z) 0) (dw_oimage ((m, s, yy, ho, cl, r), (tx, wt), (tp, tb), im, H)).1 (dw_oimage ((m, s, yy, ho, cl, r), (tx, wt), (tp, tb), im, H)).2 := by
  obtain ⟨h1, h2, h3, h4, h5⟩ := id h
  obtain ⟨⟨o1, o2, _⟩, _⟩ := id ok
  cases im with
  | some l' =>
    obtain ⟨m', s', yy', ho', cl', r'⟩ := l'
    obtain ⟨⟨a, Z1, Z2, l2, k2, rfl, rfl, ha, hr⟩, hzb⟩ := h5
    rw [dw_oimage, X_image]
    have e5 : ∀ N, op_A (dw_cl (dw_pre (nI tx) (.ref a) tf ti B C U H) N T (Z1 ++ (dw_bk a l2 (nI m') (nI yy') ho' cl' s' k2 ++ Z2))) 0 5 5 = some (some a) := fun _ => rfl
    repeat (first | with_reducible rw [bnd_s] | with_reducible rw [nmd_s] | with_reducible rw [bn2_s] | with_reducible rw [grd_t] | ((conv => arg 1; arg 1; simp (disch := omega) only [dw_x_is, dw_x_f0, dw_x_f1, dw_x_t1, dw_x_f2, dw_x_f3, dw_x_f4, dw_x_t5, dw_x_f6, dw_x_f7, dw_x_tis, dw_x_p0, dw_x_p6, dw_x_p1, dw_x_q1, dw_x_p2, dw_x_q2, dw_x_p3, dw_x_q3, dw_x_p4, dw_x_q4, dw_x_p5, dw_x_q5, dw_x_p7, dw_x_q7, dw_x_ln1, dw_x_ln3, dw_x_ln4, dw_x_ln5, dw_x_ln6, dw_x_a6, dw_x_w6, dw_x_a4, dw_x_w4, dw_ct_is dw_x_pl, dw_ct_A0 dw_x_pl, dw_ct_I1 dw_x_pl, dw_ct_J2 dw_x_pl, dw_ct_J3 dw_x_pl, dw_ct_I4 dw_x_pl, dw_ct_A5 dw_x_pl, dw_ct_S1 dw_x_pl, dw_ct_S2 dw_x_pl, dw_ct_S3 dw_x_pl, dw_ct_S5 dw_x_pl, dw_ct_ln dw_x_pl, dw_ct_aA dw_x_pl, dw_ct_dis dw_x_pl, dw_ct_dI0 dw_x_pl, dw_ct_dI1 dw_x_pl, dw_ct_dI2 dw_x_pl, dw_ct_dI3 dw_x_pl, dw_ct_dI4 dw_x_pl, dw_ct_dI5 dw_x_pl, dw_ct_dI6 dw_x_pl, dw_ct_dS1 dw_x_pl, dw_ct_dS2 dw_x_pl, dw_ct_dS3 dw_x_pl, dw_ct_dS4 dw_x_pl, dw_ct_dS5 dw_x_pl, dw_ct_dS6 dw_x_pl, dw_ct_Dyd dw_x_pl, dw_ct_Dwk dw_x_pl, dw_ct_Dfg dw_x_pl, dw_ct_Dq dw_x_pl, dw_ct_Dc dw_x_pl, dw_ct_onC dw_x_pl, dw_ct_li dw_x_pl, dw_ct_sa dw_x_pl, dw_cn_is dw_x_pl, dw_cn_A0 dw_x_pl, dw_cn_I1 dw_x_pl, dw_cn_J2 dw_x_pl, dw_cn_J3 dw_x_pl, dw_cn_I4 dw_x_pl, dw_cn_A5 dw_x_pl, dw_cn_S1 dw_x_pl, dw_cn_S2 dw_x_pl, dw_cn_S3 dw_x_pl, dw_cn_S5 dw_x_pl, dw_cn_ln dw_x_pl, dw_cn_aA dw_x_pl, dw_cn_dis dw_x_pl, dw_cn_dI0 dw_x_pl, dw_cn_dI1 dw_x_pl, dw_cn_dI2 dw_x_pl, dw_cn_dI3 dw_x_pl, dw_cn_dI4 dw_x_pl, dw_cn_dI5 dw_x_pl, dw_cn_dI6 dw_x_pl, dw_cn_dS1 dw_x_pl, dw_cn_dS2 dw_x_pl, dw_cn_dS3 dw_x_pl, dw_cn_dS4 dw_x_pl, dw_cn_dS5 dw_x_pl, dw_cn_dS6 dw_x_pl, dw_cn_Dyd dw_x_pl, dw_cn_Dwk dw_x_pl, dw_cn_Dfg dw_x_pl, dw_cn_Dq dw_x_pl, dw_cn_Dc dw_x_pl, dw_cn_onC dw_x_pl, dw_cn_li dw_x_pl, dw_cn_sa dw_x_pl, e5]); first | with_reducible rw [bnd_s] | with_reducible rw [bn2_s] | with_reducible rw [grd_t]))
    dsimp only
    exact dw_Cim25 h1 h2 h3 h4 ha hzb o2
  | none =>
    have e : kp = .null := h5.1
    subst e
    rw [dw_oimage, X_image]
    have e5 : op_A (dw_cl (dw_pre (nI tx) .null tf ti B C U H) (l, nI m, nI yy, ho, cl, s, k) T Z) 0 5 5 = some none := rfl
    have hl : (dw_cl (dw_pre (nI tx) .null tf ti B C U H) (l, nI m, nI yy, ho, cl, s, k) T Z).length = 37 + Z.length := by
      unfold dw_cl
      rw [List.length_append, List.length_append, List.length_append]
      show 19 + (9 + (9 + Z.length)) = 37 + Z.length
      omega
    have ap : ∀ E, dw_cl (dw_pre (nI tx) .null tf ti B C U H) (l, nI m, nI yy, ho, cl, s, k) T Z ++ E = dw_cl (dw_pre (nI tx) .null tf ti B C U H) (l, nI m, nI yy, ho, cl, s, k) T (Z ++ E) := by
      intro E
      unfold dw_cl
      simp only [List.append_assoc]
    have li := dw_Lini (l := l) hl
    rw [ap, ap] at li
    repeat (first | with_reducible rw [bnd_s] | with_reducible rw [nmd_s] | with_reducible rw [bn2_s] | with_reducible rw [grd_t] | ((conv => arg 1; arg 1; simp (disch := omega) only [dw_x_is, dw_x_f0, dw_x_f1, dw_x_t1, dw_x_f2, dw_x_f3, dw_x_f4, dw_x_t5, dw_x_f6, dw_x_f7, dw_x_tis, dw_x_p0, dw_x_p6, dw_x_p1, dw_x_q1, dw_x_p2, dw_x_q2, dw_x_p3, dw_x_q3, dw_x_p4, dw_x_q4, dw_x_p5, dw_x_q5, dw_x_p7, dw_x_q7, dw_x_ln1, dw_x_ln3, dw_x_ln4, dw_x_ln5, dw_x_ln6, dw_x_a6, dw_x_w6, dw_x_a4, dw_x_w4, dw_ct_is dw_x_pl, dw_ct_A0 dw_x_pl, dw_ct_I1 dw_x_pl, dw_ct_J2 dw_x_pl, dw_ct_J3 dw_x_pl, dw_ct_I4 dw_x_pl, dw_ct_A5 dw_x_pl, dw_ct_S1 dw_x_pl, dw_ct_S2 dw_x_pl, dw_ct_S3 dw_x_pl, dw_ct_S5 dw_x_pl, dw_ct_ln dw_x_pl, dw_ct_aA dw_x_pl, dw_ct_dis dw_x_pl, dw_ct_dI0 dw_x_pl, dw_ct_dI1 dw_x_pl, dw_ct_dI2 dw_x_pl, dw_ct_dI3 dw_x_pl, dw_ct_dI4 dw_x_pl, dw_ct_dI5 dw_x_pl, dw_ct_dI6 dw_x_pl, dw_ct_dS1 dw_x_pl, dw_ct_dS2 dw_x_pl, dw_ct_dS3 dw_x_pl, dw_ct_dS4 dw_x_pl, dw_ct_dS5 dw_x_pl, dw_ct_dS6 dw_x_pl, dw_ct_Dyd dw_x_pl, dw_ct_Dwk dw_x_pl, dw_ct_Dfg dw_x_pl, dw_ct_Dq dw_x_pl, dw_ct_Dc dw_x_pl, dw_ct_onC dw_x_pl, dw_ct_li dw_x_pl, dw_ct_sa dw_x_pl, dw_cn_is dw_x_pl, dw_cn_A0 dw_x_pl, dw_cn_I1 dw_x_pl, dw_cn_J2 dw_x_pl, dw_cn_J3 dw_x_pl, dw_cn_I4 dw_x_pl, dw_cn_A5 dw_x_pl, dw_cn_S1 dw_x_pl, dw_cn_S2 dw_x_pl, dw_cn_S3 dw_x_pl, dw_cn_S5 dw_x_pl, dw_cn_ln dw_x_pl, dw_cn_aA dw_x_pl, dw_cn_dis dw_x_pl, dw_cn_dI0 dw_x_pl, dw_cn_dI1 dw_x_pl, dw_cn_dI2 dw_x_pl, dw_cn_dI3 dw_x_pl, dw_cn_dI4 dw_x_pl, dw_cn_dI5 dw_x_pl, dw_cn_dI6 dw_x_pl, dw_cn_dS1 dw_x_pl, dw_cn_dS2 dw_x_pl, dw_cn_dS3 dw_x_pl, dw_cn_dS4 dw_x_pl, dw_cn_dS5 dw_x_pl, dw_cn_dS6 dw_x_pl, dw_cn_Dyd dw_x_pl, dw_cn_Dwk dw_x_pl, dw_cn_Dfg dw_x_pl, dw_cn_Dq dw_x_pl, dw_cn_Dc dw_x_pl, dw_cn_onC dw_x_pl, dw_cn_li dw_x_pl, dw_cn_sa dw_x_pl, e5]); first | with_reducible rw [bnd_s] | with_reducible rw [bn2_s] | with_reducible rw [grd_t]))
    dsimp only
    rw [hl, ap]
    repeat (first | with_reducible rw [bnd_s] | with_reducible rw [nmd_s] | with_reducible rw [bn2_s] | with_reducible rw [grd_t] | ((conv => arg 1; arg 1; simp (disch := omega) only [dw_x_is, dw_x_f0, dw_x_f1, dw_x_t1, dw_x_f2, dw_x_f3, dw_x_f4, dw_x_t5, dw_x_f6, dw_x_f7, dw_x_tis, dw_x_p0, dw_x_p6, dw_x_p1, dw_x_q1, dw_x_p2, dw_x_q2, dw_x_p3, dw_x_q3, dw_x_p4, dw_x_q4, dw_x_p5, dw_x_q5, dw_x_p7, dw_x_q7, dw_x_ln1, dw_x_ln3, dw_x_ln4, dw_x_ln5, dw_x_ln6, dw_x_a6, dw_x_w6, dw_x_a4, dw_x_w4, dw_ct_is dw_x_pl, dw_ct_A0 dw_x_pl, dw_ct_I1 dw_x_pl, dw_ct_J2 dw_x_pl, dw_ct_J3 dw_x_pl, dw_ct_I4 dw_x_pl, dw_ct_A5 dw_x_pl, dw_ct_S1 dw_x_pl, dw_ct_S2 dw_x_pl, dw_ct_S3 dw_x_pl, dw_ct_S5 dw_x_pl, dw_ct_ln dw_x_pl, dw_ct_aA dw_x_pl, dw_ct_dis dw_x_pl, dw_ct_dI0 dw_x_pl, dw_ct_dI1 dw_x_pl, dw_ct_dI2 dw_x_pl, dw_ct_dI3 dw_x_pl, dw_ct_dI4 dw_x_pl, dw_ct_dI5 dw_x_pl, dw_ct_dI6 dw_x_pl, dw_ct_dS1 dw_x_pl, dw_ct_dS2 dw_x_pl, dw_ct_dS3 dw_x_pl, dw_ct_dS4 dw_x_pl, dw_ct_dS5 dw_x_pl, dw_ct_dS6 dw_x_pl, dw_ct_Dyd dw_x_pl, dw_ct_Dwk dw_x_pl, dw_ct_Dfg dw_x_pl, dw_ct_Dq dw_x_pl, dw_ct_Dc dw_x_pl, dw_ct_onC dw_x_pl, dw_ct_li dw_x_pl, dw_ct_sa dw_x_pl, dw_cn_is dw_x_pl, dw_cn_A0 dw_x_pl, dw_cn_I1 dw_x_pl, dw_cn_J2 dw_x_pl, dw_cn_J3 dw_x_pl, dw_cn_I4 dw_x_pl, dw_cn_A5 dw_x_pl, dw_cn_S1 dw_x_pl, dw_cn_S2 dw_x_pl, dw_cn_S3 dw_x_pl, dw_cn_S5 dw_x_pl, dw_cn_ln dw_x_pl, dw_cn_aA dw_x_pl, dw_cn_dis dw_x_pl, dw_cn_dI0 dw_x_pl, dw_cn_dI1 dw_x_pl, dw_cn_dI2 dw_x_pl, dw_cn_dI3 dw_x_pl, dw_cn_dI4 dw_x_pl, dw_cn_dI5 dw_x_pl, dw_cn_dI6 dw_x_pl, dw_cn_dS1 dw_x_pl, dw_cn_dS2 dw_x_pl, dw_cn_dS3 dw_x_pl, dw_cn_dS4 dw_x_pl, dw_cn_dS5 dw_x_pl, dw_cn_dS6 dw_x_pl, dw_cn_Dyd dw_x_pl, dw_cn_Dwk dw_x_pl, dw_cn_Dfg dw_x_pl, dw_cn_Dq dw_x_pl, dw_cn_Dc dw_x_pl, dw_cn_onC dw_x_pl, dw_cn_li dw_x_pl, dw_cn_sa dw_x_pl, li]); first | with_reducible rw [bnd_s] | with_reducible rw [bn2_s] | with_reducible rw [grd_t]))
    have g := dw_Cim25 (Z1 := Z) (Z2 := []) (a := 37 + Z.length) (l2 := l) (m2 := 0) (y2 := 0) (ho2 := 0) (cl2 := 0) (s2 := dw_s0') (k2 := fun _ => 0) (m := m) (yy := yy) (ho := ho) (cl := cl) (s := s) (k := k) (T := T) (C := C) (U := U) (H := H) (tf := tf) (tx := tx) (wt := wt) (fun t ht => by
      obtain ⟨b, e, g⟩ := h1 t ht
      exact ⟨b, e, dw_LP_app g⟩) h2 h3 h4 rfl (by
      obtain ⟨z1, z2⟩ := h5.2
      have q1 : Z.length ≤ 4 * tx + 9 * 0 := z1
      have q2 : pm_sl Z ≤ 500 * tx + 100 * 0 := z2
      refine ⟨?_, ?_⟩
      · rw [List.length_append]
        show Z.length + 9 ≤ 4 * tx + 9 * 1
        omega
      · rw [dw_sl_app]
        show pm_sl Z + 87 ≤ 500 * tx + 100 * 1
        omega) o2
    rw [List.append_nil] at g
    exact g
end CO
