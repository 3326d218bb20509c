/-! THE CLASS: a year of a land -/
theorem dw_take1_g (s : dw_L) (i o : Nat) {g : Nat} (h5 : g ≠ 5) (h6 : g ≠ 6) (d : Nat) : dw_take1 i o s d g = s d g := by
  unfold dw_take1
  by_cases c : o = i
  · rw [if_pos c]
  rw [if_neg c]
  by_cases c2 : s o 6 = 0
  · rw [if_pos c2]
    by_cases c3 : dw_yds (s o 3) (s o 4) &&& dw_yds (s i 3) (s i 4) = 0
    · rw [if_pos c3]
    rw [if_neg c3]
    by_cases c4 : s i 5 < s o 5
    · rw [if_pos c4]
    rw [if_neg c4, dw_set_k _ _ _ _ h5, dw_set_k _ _ _ _ h6]
  · rw [if_neg c2]
theorem dw_take_g (s : dw_L) (i : Nat) {g : Nat} (h5 : g ≠ 5) (h6 : g ≠ 6) (d : Nat) : ∀ k, dw_take i s k d g = s d g
  | 0 => rfl
  | k + 1 => by rw [dw_take, dw_take1_g _ _ _ h5 h6, dw_take_g s i h5 h6 d k]
section LK
variable {P Q : pm_H} {t l : Nat} {m y : Int32} {ho cl : Int64} {s : dw_L} {k : Nat → Int32} {w : dw_W} {num : Int32}
theorem dw_lcA (hw : dw_lc P Q l num w) : op_A (dw_lh P t l m y ho cl s k Q) l 2 1 = some (some (l + 1)) ∧ op_A (dw_lh P t l m y ho cl s k Q) l 2 2 = some (some (l + 2)) ∧ op_A (dw_lh P t l m y ho cl s k Q) l 2 3 = some (some (l + 3)) ∧ op_I (dw_lh P t l m y ho cl s k Q) l 2 0 = some num := by
  unfold op_A op_I
  rw [dw_od_lh hw.1]
  exact ⟨rfl, rfl, rfl, rfl⟩
theorem dw_Lre (ht : P.length = t) (hw : dw_lc P Q l num w) {i p : Nat} (hi : i < 6) (hp : p < 3) (on : Int32) : dw_Lv (L_reckon (dw_lh P t l m y ho cl s k Q) t (some (l + 1 + p)) (some (t + 3 + i)) on) P t l m y ho cl s Q (dw_val y on (s i) (dw_row w p)) := by
  obtain ⟨h1, h2, F, h3, h4⟩ := hw.2 p hp
  have hl : op_ln (dw_lh P t l m y ho cl s k Q) (l + 1 + p) = some (nI (dw_row w p).length) := by
    unfold op_ln
    rw [dw_od_lh h3]
    rfl
  rw [L_reckon]
  repeat (first | with_reducible rw [bnd_s] | with_reducible rw [nmd_s] | with_reducible rw [bn2_s] | with_reducible rw [grd_t] | ((conv => arg 1; arg 1; simp (disch := omega) only [dw_lis ht, dw_lA0 ht, dw_lI1 ht, dw_lJ2 ht, dw_lJ3 ht, dw_lI4 ht, dw_lA5 ht, dw_lA6 ht, dw_lS1 ht, dw_lS2 ht, dw_lS3 ht, dw_lS4 ht, dw_lS5 ht, dw_lln ht, dw_laA ht, dw_lkn ht, dw_lkI ht, dw_lkS ht, dw_dis ht, dw_dI0 ht, dw_dI1 ht, dw_dI2 ht, dw_dI3 ht, dw_dI4 ht, dw_dI5 ht, dw_dI6 ht, dw_dS1 ht, dw_dS2 ht, dw_dS3 ht, dw_dS4 ht, dw_dS5 ht, dw_dS6 ht, hl]); first | with_reducible rw [bnd_s] | with_reducible rw [bn2_s] | with_reducible rw [grd_t]))
  have g := dw_Lre14 (m := m) (y := y) (ho := ho) (cl := cl) (s := s) (l := l) ht hi on h3 h2 (999 - (dw_row w p).length) (dw_row w p) 0 0 k (by omega) (fun j hj => by rw [Nat.zero_add]; exact h4 j hj) h1
  rw [show 999 - (dw_row w p).length + (dw_row w p).length + 1 = 1000 by omega] at g
  rw [show dw_top 0 = -1 from by decide] at g
  rw [dw_val, ← dw_ev_cong (dw_nm y on (s i)) (dw_row w p) 0 k (fun _ => 0) h1 (fun j hj => absurd hj (Nat.not_lt_zero j))]
  exact ⟨_, g⟩
theorem dw_Lsy13 (ht : P.length = t) (hw : dw_lc P Q l num w) {i p : Nat} (hi : i < 6) (hp : p < 3) : dw_Lv (L_says_13 (dw_lh P t l m y ho cl s k Q) t (nI p) (some (t + 3 + i)) (dw_on cl (s i))) P t l m y ho cl s Q (dw_says w cl y (s i) p) := by
  obtain ⟨a1, a2, a3, a4⟩ := dw_lcA (t := t) (m := m) (y := y) (ho := ho) (cl := cl) (s := s) (k := k) hw
  obtain ⟨k', e⟩ := dw_Lre (m := m) (y := y) (ho := ho) (cl := cl) (s := s) (k := k) ht hw hi hp (dw_on cl (s i))
  rw [L_says_13, dw_says]
  rcases (by omega : p = 0 ∨ p = 1 ∨ p = 2) with rfl | rfl | rfl
  · rw [if_pos (show nI 0 = (0 : Int32) from rfl), if_neg (by decide), if_pos rfl]
    have e' : L_reckon (dw_lh P t l m y ho cl s k Q) t (some (l + 1)) (some (t + 3 + i)) (dw_on cl (s i)) = _ := e
    repeat (first | with_reducible rw [bnd_s] | with_reducible rw [nmd_s] | with_reducible rw [bn2_s] | with_reducible rw [grd_t] | ((conv => arg 1; arg 1; simp (disch := omega) only [dw_lis ht, dw_lA0 ht, dw_lI1 ht, dw_lJ2 ht, dw_lJ3 ht, dw_lI4 ht, dw_lA5 ht, dw_lA6 ht, dw_lS1 ht, dw_lS2 ht, dw_lS3 ht, dw_lS4 ht, dw_lS5 ht, dw_lln ht, dw_laA ht, dw_lkn ht, dw_lkI ht, dw_lkS ht, dw_dis ht, dw_dI0 ht, dw_dI1 ht, dw_dI2 ht, dw_dI3 ht, dw_dI4 ht, dw_dI5 ht, dw_dI6 ht, dw_dS1 ht, dw_dS2 ht, dw_dS3 ht, dw_dS4 ht, dw_dS5 ht, dw_dS6 ht, a1, e', dw_Xbd]); first | with_reducible rw [bnd_s] | with_reducible rw [bn2_s] | with_reducible rw [grd_t]))
    exact ⟨_, rfl⟩
  · rw [if_neg (show ¬ nI 1 = (0 : Int32) by decide), if_pos (show nI 1 = (1 : Int32) from rfl), if_pos rfl, if_neg (by decide)]
    have e' : L_reckon (dw_lh P t l m y ho cl s k Q) t (some (l + 2)) (some (t + 3 + i)) (dw_on cl (s i)) = _ := e
    repeat (first | with_reducible rw [bnd_s] | with_reducible rw [nmd_s] | with_reducible rw [bn2_s] | with_reducible rw [grd_t] | ((conv => arg 1; arg 1; simp (disch := omega) only [dw_lis ht, dw_lA0 ht, dw_lI1 ht, dw_lJ2 ht, dw_lJ3 ht, dw_lI4 ht, dw_lA5 ht, dw_lA6 ht, dw_lS1 ht, dw_lS2 ht, dw_lS3 ht, dw_lS4 ht, dw_lS5 ht, dw_lln ht, dw_laA ht, dw_lkn ht, dw_lkI ht, dw_lkS ht, dw_dis ht, dw_dI0 ht, dw_dI1 ht, dw_dI2 ht, dw_dI3 ht, dw_dI4 ht, dw_dI5 ht, dw_dI6 ht, dw_dS1 ht, dw_dS2 ht, dw_dS3 ht, dw_dS4 ht, dw_dS5 ht, dw_dS6 ht, a2, e', dw_Xbd]); first | with_reducible rw [bnd_s] | with_reducible rw [bn2_s] | with_reducible rw [grd_t]))
    exact ⟨_, rfl⟩
  · rw [if_neg (show ¬ nI 2 = (0 : Int32) by decide), if_neg (show ¬ nI 2 = (1 : Int32) by decide), if_neg (by decide), if_neg (by decide)]
    have e' : L_reckon (dw_lh P t l m y ho cl s k Q) t (some (l + 3)) (some (t + 3 + i)) (dw_on cl (s i)) = _ := e
    repeat (first | with_reducible rw [bnd_s] | with_reducible rw [nmd_s] | with_reducible rw [bn2_s] | with_reducible rw [grd_t] | ((conv => arg 1; arg 1; simp (disch := omega) only [dw_lis ht, dw_lA0 ht, dw_lI1 ht, dw_lJ2 ht, dw_lJ3 ht, dw_lI4 ht, dw_lA5 ht, dw_lA6 ht, dw_lS1 ht, dw_lS2 ht, dw_lS3 ht, dw_lS4 ht, dw_lS5 ht, dw_lln ht, dw_laA ht, dw_lkn ht, dw_lkI ht, dw_lkS ht, dw_dis ht, dw_dI0 ht, dw_dI1 ht, dw_dI2 ht, dw_dI3 ht, dw_dI4 ht, dw_dI5 ht, dw_dI6 ht, dw_dS1 ht, dw_dS2 ht, dw_dS3 ht, dw_dS4 ht, dw_dS5 ht, dw_dS6 ht, a3, e', dw_Xbd]); first | with_reducible rw [bnd_s] | with_reducible rw [bn2_s] | with_reducible rw [grd_t]))
    exact ⟨_, rfl⟩
theorem dw_on01 (cl : Int64) (d : dw_D) : dw_on cl d = 0 ∨ dw_on cl d = 1 := by
  unfold dw_on
  by_cases c : dw_yds (d 3) (d 4) &&& cl = 0
  · rw [if_pos c]; exact Or.inl rfl
  · rw [if_neg c]; exact Or.inr rfl
theorem dw_Lsy (ht : P.length = t) (hw : dw_lc P Q l num w) {i p : Nat} (hi : i < 6) (hp : p < 3) : dw_Lv (L_says (dw_lh P t l m y ho cl s k Q) t (nI p) (some (t + 3 + i))) P t l m y ho cl s Q (dw_says w cl y (s i) p) := by
  have g := dw_Lsy13 (m := m) (y := y) (ho := ho) (cl := cl) (s := s) (k := k) ht hw hi hp
  rw [L_says]
  repeat (first | with_reducible rw [bnd_s] | with_reducible rw [nmd_s] | with_reducible rw [bn2_s] | with_reducible rw [grd_t] | ((conv => arg 1; arg 1; simp (disch := omega) only [dw_lis ht, dw_lA0 ht, dw_lI1 ht, dw_lJ2 ht, dw_lJ3 ht, dw_lI4 ht, dw_lA5 ht, dw_lA6 ht, dw_lS1 ht, dw_lS2 ht, dw_lS3 ht, dw_lS4 ht, dw_lS5 ht, dw_lln ht, dw_laA ht, dw_lkn ht, dw_lkI ht, dw_lkS ht, dw_dis ht, dw_dI0 ht, dw_dI1 ht, dw_dI2 ht, dw_dI3 ht, dw_dI4 ht, dw_dI5 ht, dw_dI6 ht, dw_dS1 ht, dw_dS2 ht, dw_dS3 ht, dw_dS4 ht, dw_dS5 ht, dw_dS6 ht, dw_LonC ht hi]); first | with_reducible rw [bnd_s] | with_reducible rw [bn2_s] | with_reducible rw [grd_t]))
  rcases dw_on01 cl (s i) with c | c
  · rw [if_pos c]
    rw [c] at g
    exact g
  · rw [if_neg (by rw [c]; decide)]
    rw [c] at g
    exact g
theorem dw_Lbl (ht : P.length = t) {i : Nat} (hi : i < 6) (v : Int32) : L_blondStride (dw_lh P t l m y ho cl s k Q) (some (t + 3 + i)) v = some (dw_lh P t l m y ho cl s k Q, dw_blond (s i) v) := by
  rw [L_blondStride, dw_blond]
  repeat (first | with_reducible rw [bnd_s] | with_reducible rw [nmd_s] | with_reducible rw [bn2_s] | with_reducible rw [grd_t] | ((conv => arg 1; arg 1; simp (disch := omega) only [dw_lis ht, dw_lA0 ht, dw_lI1 ht, dw_lJ2 ht, dw_lJ3 ht, dw_lI4 ht, dw_lA5 ht, dw_lA6 ht, dw_lS1 ht, dw_lS2 ht, dw_lS3 ht, dw_lS4 ht, dw_lS5 ht, dw_lln ht, dw_laA ht, dw_lkn ht, dw_lkI ht, dw_lkS ht, dw_dis ht, dw_dI0 ht, dw_dI1 ht, dw_dI2 ht, dw_dI3 ht, dw_dI4 ht, dw_dI5 ht, dw_dI6 ht, dw_dS1 ht, dw_dS2 ht, dw_dS3 ht, dw_dS4 ht, dw_dS5 ht, dw_dS6 ht]); first | with_reducible rw [bnd_s] | with_reducible rw [bn2_s] | with_reducible rw [grd_t]))
  by_cases c : s i 5 ≤ 50
  · rw [if_pos c, if_pos c]
  · rw [if_neg c, if_neg c]
theorem dw_Lsd (ht : P.length = t) (hw : dw_lc P Q l num w) {i : Nat} (hi : i < 6) : dw_Lv (L_stride (dw_lh P t l m y ho cl s k Q) t (some (t + 3 + i))) P t l m y ho cl s Q (dw_stride w cl y (s i)) := by
  obtain ⟨k', e⟩ := dw_Lsy (p := 0) (m := m) (y := y) (ho := ho) (cl := cl) (s := s) (k := k) ht hw hi (by decide)
  have e' : L_says (dw_lh P t l m y ho cl s k Q) t 0 (some (t + 3 + i)) = _ := e
  rw [L_stride, dw_stride]
  repeat (first | with_reducible rw [bnd_s] | with_reducible rw [nmd_s] | with_reducible rw [bn2_s] | with_reducible rw [grd_t] | ((conv => arg 1; arg 1; simp (disch := omega) only [dw_lis ht, dw_lA0 ht, dw_lI1 ht, dw_lJ2 ht, dw_lJ3 ht, dw_lI4 ht, dw_lA5 ht, dw_lA6 ht, dw_lS1 ht, dw_lS2 ht, dw_lS3 ht, dw_lS4 ht, dw_lS5 ht, dw_lln ht, dw_laA ht, dw_lkn ht, dw_lkI ht, dw_lkS ht, dw_dis ht, dw_dI0 ht, dw_dI1 ht, dw_dI2 ht, dw_dI3 ht, dw_dI4 ht, dw_dI5 ht, dw_dI6 ht, dw_dS1 ht, dw_dS2 ht, dw_dS3 ht, dw_dS4 ht, dw_dS5 ht, dw_dS6 ht, e']); first | with_reducible rw [bnd_s] | with_reducible rw [bn2_s] | with_reducible rw [grd_t]))
  by_cases c1 : s i 1 = 1
  · rw [if_pos c1, if_pos c1]
    repeat (first | with_reducible rw [bnd_s] | with_reducible rw [nmd_s] | with_reducible rw [bn2_s] | with_reducible rw [grd_t] | ((conv => arg 1; arg 1; simp (disch := omega) only [dw_lis ht, dw_lA0 ht, dw_lI1 ht, dw_lJ2 ht, dw_lJ3 ht, dw_lI4 ht, dw_lA5 ht, dw_lA6 ht, dw_lS1 ht, dw_lS2 ht, dw_lS3 ht, dw_lS4 ht, dw_lS5 ht, dw_lln ht, dw_laA ht, dw_lkn ht, dw_lkI ht, dw_lkS ht, dw_dis ht, dw_dI0 ht, dw_dI1 ht, dw_dI2 ht, dw_dI3 ht, dw_dI4 ht, dw_dI5 ht, dw_dI6 ht, dw_dS1 ht, dw_dS2 ht, dw_dS3 ht, dw_dS4 ht, dw_dS5 ht, dw_dS6 ht]); first | with_reducible rw [bnd_s] | with_reducible rw [bn2_s] | with_reducible rw [grd_t]))
    exact ⟨_, rfl⟩
  rw [if_neg c1, if_neg c1]
  by_cases c2 : s i 1 = 2
  · rw [if_pos c2, if_pos c2]
    repeat (first | with_reducible rw [bnd_s] | with_reducible rw [nmd_s] | with_reducible rw [bn2_s] | with_reducible rw [grd_t] | ((conv => arg 1; arg 1; simp (disch := omega) only [dw_lis ht, dw_lA0 ht, dw_lI1 ht, dw_lJ2 ht, dw_lJ3 ht, dw_lI4 ht, dw_lA5 ht, dw_lA6 ht, dw_lS1 ht, dw_lS2 ht, dw_lS3 ht, dw_lS4 ht, dw_lS5 ht, dw_lln ht, dw_laA ht, dw_lkn ht, dw_lkI ht, dw_lkS ht, dw_dis ht, dw_dI0 ht, dw_dI1 ht, dw_dI2 ht, dw_dI3 ht, dw_dI4 ht, dw_dI5 ht, dw_dI6 ht, dw_dS1 ht, dw_dS2 ht, dw_dS3 ht, dw_dS4 ht, dw_dS5 ht, dw_dS6 ht, dw_Lbl ht hi]); first | with_reducible rw [bnd_s] | with_reducible rw [bn2_s] | with_reducible rw [grd_t]))
    exact ⟨_, rfl⟩
  rw [if_neg c2, if_neg c2]
  by_cases c3 : s i 1 = 3
  · rw [if_pos c3, if_pos c3]
    repeat (first | with_reducible rw [bnd_s] | with_reducible rw [nmd_s] | with_reducible rw [bn2_s] | with_reducible rw [grd_t] | ((conv => arg 1; arg 1; simp (disch := omega) only [dw_lis ht, dw_lA0 ht, dw_lI1 ht, dw_lJ2 ht, dw_lJ3 ht, dw_lI4 ht, dw_lA5 ht, dw_lA6 ht, dw_lS1 ht, dw_lS2 ht, dw_lS3 ht, dw_lS4 ht, dw_lS5 ht, dw_lln ht, dw_laA ht, dw_lkn ht, dw_lkI ht, dw_lkS ht, dw_dis ht, dw_dI0 ht, dw_dI1 ht, dw_dI2 ht, dw_dI3 ht, dw_dI4 ht, dw_dI5 ht, dw_dI6 ht, dw_dS1 ht, dw_dS2 ht, dw_dS3 ht, dw_dS4 ht, dw_dS5 ht, dw_dS6 ht]); first | with_reducible rw [bnd_s] | with_reducible rw [bn2_s] | with_reducible rw [grd_t]))
    by_cases c4 : y &&& 1 = 0
    · rw [if_pos c4, if_pos c4]
      repeat (first | with_reducible rw [bnd_s] | with_reducible rw [nmd_s] | with_reducible rw [bn2_s] | with_reducible rw [grd_t] | ((conv => arg 1; arg 1; simp (disch := omega) only [dw_lis ht, dw_lA0 ht, dw_lI1 ht, dw_lJ2 ht, dw_lJ3 ht, dw_lI4 ht, dw_lA5 ht, dw_lA6 ht, dw_lS1 ht, dw_lS2 ht, dw_lS3 ht, dw_lS4 ht, dw_lS5 ht, dw_lln ht, dw_laA ht, dw_lkn ht, dw_lkI ht, dw_lkS ht, dw_dis ht, dw_dI0 ht, dw_dI1 ht, dw_dI2 ht, dw_dI3 ht, dw_dI4 ht, dw_dI5 ht, dw_dI6 ht, dw_dS1 ht, dw_dS2 ht, dw_dS3 ht, dw_dS4 ht, dw_dS5 ht, dw_dS6 ht]); first | with_reducible rw [bnd_s] | with_reducible rw [bn2_s] | with_reducible rw [grd_t]))
      exact ⟨_, rfl⟩
    · rw [if_neg c4, if_neg c4]
      exact ⟨_, rfl⟩
  rw [if_neg c3, if_neg c3]
  by_cases c4 : s i 1 = 4
  · rw [if_pos c4, if_pos c4]
    repeat (first | with_reducible rw [bnd_s] | with_reducible rw [nmd_s] | with_reducible rw [bn2_s] | with_reducible rw [grd_t] | ((conv => arg 1; arg 1; simp (disch := omega) only [dw_lis ht, dw_lA0 ht, dw_lI1 ht, dw_lJ2 ht, dw_lJ3 ht, dw_lI4 ht, dw_lA5 ht, dw_lA6 ht, dw_lS1 ht, dw_lS2 ht, dw_lS3 ht, dw_lS4 ht, dw_lS5 ht, dw_lln ht, dw_laA ht, dw_lkn ht, dw_lkI ht, dw_lkS ht, dw_dis ht, dw_dI0 ht, dw_dI1 ht, dw_dI2 ht, dw_dI3 ht, dw_dI4 ht, dw_dI5 ht, dw_dI6 ht, dw_dS1 ht, dw_dS2 ht, dw_dS3 ht, dw_dS4 ht, dw_dS5 ht, dw_dS6 ht, dw_Lbl ht hi]); first | with_reducible rw [bnd_s] | with_reducible rw [bn2_s] | with_reducible rw [grd_t]))
    exact ⟨_, rfl⟩
  rw [if_neg c4, if_neg c4]
  by_cases c5 : s i 1 = 5
  · rw [if_pos c5, if_pos c5]
    exact ⟨_, rfl⟩
  rw [if_neg c5, if_neg c5]
  exact ⟨_, rfl⟩
theorem dw_Lgr44 (ht : P.length = t) {i : Nat} (hi : i < 6) (v : Int32) : L_growth_44 (dw_lh P t l m y ho cl s k Q) t (some (t + 3 + i)) v = some (dw_lh P t l m y ho cl s k Q, dw_half (dw_on cl (s i)) v) := by
  rw [L_growth_44, dw_half]
  repeat (first | with_reducible rw [bnd_s] | with_reducible rw [nmd_s] | with_reducible rw [bn2_s] | with_reducible rw [grd_t] | ((conv => arg 1; arg 1; simp (disch := omega) only [dw_lis ht, dw_lA0 ht, dw_lI1 ht, dw_lJ2 ht, dw_lJ3 ht, dw_lI4 ht, dw_lA5 ht, dw_lA6 ht, dw_lS1 ht, dw_lS2 ht, dw_lS3 ht, dw_lS4 ht, dw_lS5 ht, dw_lln ht, dw_laA ht, dw_lkn ht, dw_lkI ht, dw_lkS ht, dw_dis ht, dw_dI0 ht, dw_dI1 ht, dw_dI2 ht, dw_dI3 ht, dw_dI4 ht, dw_dI5 ht, dw_dI6 ht, dw_dS1 ht, dw_dS2 ht, dw_dS3 ht, dw_dS4 ht, dw_dS5 ht, dw_dS6 ht, dw_LonC ht hi]); first | with_reducible rw [bnd_s] | with_reducible rw [bn2_s] | with_reducible rw [grd_t]))
  by_cases c : dw_on cl (s i) = 0
  · rw [if_pos c, if_pos c]
  · rw [if_neg c, if_neg c]
theorem dw_Lgr (ht : P.length = t) (hw : dw_lc P Q l num w) {i : Nat} (hi : i < 6) : dw_Lv (L_growth (dw_lh P t l m y ho cl s k Q) t (some (t + 3 + i))) P t l m y ho cl s Q (dw_growth w cl y (s i)) := by
  obtain ⟨k', e⟩ := dw_Lsy (p := 1) (m := m) (y := y) (ho := ho) (cl := cl) (s := s) (k := k) ht hw hi (by decide)
  have e' : L_says (dw_lh P t l m y ho cl s k Q) t 1 (some (t + 3 + i)) = _ := e
  rw [L_growth, dw_growth]
  repeat (first | with_reducible rw [bnd_s] | with_reducible rw [nmd_s] | with_reducible rw [bn2_s] | with_reducible rw [grd_t] | ((conv => arg 1; arg 1; simp (disch := omega) only [dw_lis ht, dw_lA0 ht, dw_lI1 ht, dw_lJ2 ht, dw_lJ3 ht, dw_lI4 ht, dw_lA5 ht, dw_lA6 ht, dw_lS1 ht, dw_lS2 ht, dw_lS3 ht, dw_lS4 ht, dw_lS5 ht, dw_lln ht, dw_laA ht, dw_lkn ht, dw_lkI ht, dw_lkS ht, dw_dis ht, dw_dI0 ht, dw_dI1 ht, dw_dI2 ht, dw_dI3 ht, dw_dI4 ht, dw_dI5 ht, dw_dI6 ht, dw_dS1 ht, dw_dS2 ht, dw_dS3 ht, dw_dS4 ht, dw_dS5 ht, dw_dS6 ht, e']); first | with_reducible rw [bnd_s] | with_reducible rw [bn2_s] | with_reducible rw [grd_t]))
  by_cases c1 : s i 1 = 1
  · rw [if_pos c1, if_pos c1, dw_Lgr44 ht hi]
    exact ⟨_, rfl⟩
  rw [if_neg c1, if_neg c1]
  by_cases c2 : s i 1 = 2
  · rw [if_pos c2, if_pos c2]
    exact ⟨_, rfl⟩
  rw [if_neg c2, if_neg c2]
  by_cases c3 : s i 1 = 3
  · rw [if_pos c3, if_pos c3, dw_Lgr44 ht hi]
    exact ⟨_, rfl⟩
  rw [if_neg c3, if_neg c3]
  by_cases c4 : s i 1 = 4
  · rw [if_pos c4, if_pos c4]
    repeat (first | with_reducible rw [bnd_s] | with_reducible rw [nmd_s] | with_reducible rw [bn2_s] | with_reducible rw [grd_t] | ((conv => arg 1; arg 1; simp (disch := omega) only [dw_lis ht, dw_lA0 ht, dw_lI1 ht, dw_lJ2 ht, dw_lJ3 ht, dw_lI4 ht, dw_lA5 ht, dw_lA6 ht, dw_lS1 ht, dw_lS2 ht, dw_lS3 ht, dw_lS4 ht, dw_lS5 ht, dw_lln ht, dw_laA ht, dw_lkn ht, dw_lkI ht, dw_lkS ht, dw_dis ht, dw_dI0 ht, dw_dI1 ht, dw_dI2 ht, dw_dI3 ht, dw_dI4 ht, dw_dI5 ht, dw_dI6 ht, dw_dS1 ht, dw_dS2 ht, dw_dS3 ht, dw_dS4 ht, dw_dS5 ht, dw_dS6 ht]); first | with_reducible rw [bnd_s] | with_reducible rw [bn2_s] | with_reducible rw [grd_t]))
    exact ⟨_, rfl⟩
  rw [if_neg c4, if_neg c4]
  by_cases c5 : s i 1 = 5
  · rw [if_pos c5, if_pos c5]
    repeat (first | with_reducible rw [bnd_s] | with_reducible rw [nmd_s] | with_reducible rw [bn2_s] | with_reducible rw [grd_t] | ((conv => arg 1; arg 1; simp (disch := omega) only [dw_lis ht, dw_lA0 ht, dw_lI1 ht, dw_lJ2 ht, dw_lJ3 ht, dw_lI4 ht, dw_lA5 ht, dw_lA6 ht, dw_lS1 ht, dw_lS2 ht, dw_lS3 ht, dw_lS4 ht, dw_lS5 ht, dw_lln ht, dw_laA ht, dw_lkn ht, dw_lkI ht, dw_lkS ht, dw_dis ht, dw_dI0 ht, dw_dI1 ht, dw_dI2 ht, dw_dI3 ht, dw_dI4 ht, dw_dI5 ht, dw_dI6 ht, dw_dS1 ht, dw_dS2 ht, dw_dS3 ht, dw_dS4 ht, dw_dS5 ht, dw_dS6 ht, dw_LonC ht hi]); first | with_reducible rw [bnd_s] | with_reducible rw [bn2_s] | with_reducible rw [grd_t]))
    by_cases c6 : dw_on cl (s i) = 0
    · rw [if_pos c6, if_pos c6]
      exact ⟨_, rfl⟩
    · rw [if_neg c6, if_neg c6]
      repeat (first | with_reducible rw [bnd_s] | with_reducible rw [nmd_s] | with_reducible rw [bn2_s] | with_reducible rw [grd_t] | ((conv => arg 1; arg 1; simp (disch := omega) only [dw_lis ht, dw_lA0 ht, dw_lI1 ht, dw_lJ2 ht, dw_lJ3 ht, dw_lI4 ht, dw_lA5 ht, dw_lA6 ht, dw_lS1 ht, dw_lS2 ht, dw_lS3 ht, dw_lS4 ht, dw_lS5 ht, dw_lln ht, dw_laA ht, dw_lkn ht, dw_lkI ht, dw_lkS ht, dw_dis ht, dw_dI0 ht, dw_dI1 ht, dw_dI2 ht, dw_dI3 ht, dw_dI4 ht, dw_dI5 ht, dw_dI6 ht, dw_dS1 ht, dw_dS2 ht, dw_dS3 ht, dw_dS4 ht, dw_dS5 ht, dw_dS6 ht]); first | with_reducible rw [bnd_s] | with_reducible rw [bn2_s] | with_reducible rw [grd_t]))
      exact ⟨_, rfl⟩
  rw [if_neg c5, if_neg c5]
  exact ⟨_, rfl⟩
theorem dw_Lne (ht : P.length = t) (hw : dw_lc P Q l num w) {i : Nat} (hi : i < 6) : dw_Lv (L_need (dw_lh P t l m y ho cl s k Q) t (some (t + 3 + i))) P t l m y ho cl s Q (dw_need w cl y (s i)) := by
  obtain ⟨k', e⟩ := dw_Lsy (p := 2) (m := m) (y := y) (ho := ho) (cl := cl) (s := s) (k := k) ht hw hi (by decide)
  have e' : L_says (dw_lh P t l m y ho cl s k Q) t 2 (some (t + 3 + i)) = _ := e
  rw [L_need, dw_need]
  repeat (first | with_reducible rw [bnd_s] | with_reducible rw [nmd_s] | with_reducible rw [bn2_s] | with_reducible rw [grd_t] | ((conv => arg 1; arg 1; simp (disch := omega) only [dw_lis ht, dw_lA0 ht, dw_lI1 ht, dw_lJ2 ht, dw_lJ3 ht, dw_lI4 ht, dw_lA5 ht, dw_lA6 ht, dw_lS1 ht, dw_lS2 ht, dw_lS3 ht, dw_lS4 ht, dw_lS5 ht, dw_lln ht, dw_laA ht, dw_lkn ht, dw_lkI ht, dw_lkS ht, dw_dis ht, dw_dI0 ht, dw_dI1 ht, dw_dI2 ht, dw_dI3 ht, dw_dI4 ht, dw_dI5 ht, dw_dI6 ht, dw_dS1 ht, dw_dS2 ht, dw_dS3 ht, dw_dS4 ht, dw_dS5 ht, dw_dS6 ht]); first | with_reducible rw [bnd_s] | with_reducible rw [bn2_s] | with_reducible rw [grd_t]))
  by_cases c2 : s i 1 = 2
  · rw [if_pos c2, if_pos c2, L_need_32]
    repeat (first | with_reducible rw [bnd_s] | with_reducible rw [nmd_s] | with_reducible rw [bn2_s] | with_reducible rw [grd_t] | ((conv => arg 1; arg 1; simp (disch := omega) only [dw_lis ht, dw_lA0 ht, dw_lI1 ht, dw_lJ2 ht, dw_lJ3 ht, dw_lI4 ht, dw_lA5 ht, dw_lA6 ht, dw_lS1 ht, dw_lS2 ht, dw_lS3 ht, dw_lS4 ht, dw_lS5 ht, dw_lln ht, dw_laA ht, dw_lkn ht, dw_lkI ht, dw_lkS ht, dw_dis ht, dw_dI0 ht, dw_dI1 ht, dw_dI2 ht, dw_dI3 ht, dw_dI4 ht, dw_dI5 ht, dw_dI6 ht, dw_dS1 ht, dw_dS2 ht, dw_dS3 ht, dw_dS4 ht, dw_dS5 ht, dw_dS6 ht, e']); first | with_reducible rw [bnd_s] | with_reducible rw [bn2_s] | with_reducible rw [grd_t]))
    exact ⟨_, rfl⟩
  rw [if_neg c2, if_neg c2]
  by_cases c3 : s i 1 = 3
  · rw [if_pos c3, if_pos c3]
    exact ⟨_, rfl⟩
  rw [if_neg c3, if_neg c3]
  by_cases c4 : s i 1 = 4
  · rw [if_pos c4, if_pos c4, L_need_32]
    repeat (first | with_reducible rw [bnd_s] | with_reducible rw [nmd_s] | with_reducible rw [bn2_s] | with_reducible rw [grd_t] | ((conv => arg 1; arg 1; simp (disch := omega) only [dw_lis ht, dw_lA0 ht, dw_lI1 ht, dw_lJ2 ht, dw_lJ3 ht, dw_lI4 ht, dw_lA5 ht, dw_lA6 ht, dw_lS1 ht, dw_lS2 ht, dw_lS3 ht, dw_lS4 ht, dw_lS5 ht, dw_lln ht, dw_laA ht, dw_lkn ht, dw_lkI ht, dw_lkS ht, dw_dis ht, dw_dI0 ht, dw_dI1 ht, dw_dI2 ht, dw_dI3 ht, dw_dI4 ht, dw_dI5 ht, dw_dI6 ht, dw_dS1 ht, dw_dS2 ht, dw_dS3 ht, dw_dS4 ht, dw_dS5 ht, dw_dS6 ht, e']); first | with_reducible rw [bnd_s] | with_reducible rw [bn2_s] | with_reducible rw [grd_t]))
    exact ⟨_, rfl⟩
  rw [if_neg c4, if_neg c4]
  repeat (first | with_reducible rw [bnd_s] | with_reducible rw [nmd_s] | with_reducible rw [bn2_s] | with_reducible rw [grd_t] | ((conv => arg 1; arg 1; simp (disch := omega) only [dw_lis ht, dw_lA0 ht, dw_lI1 ht, dw_lJ2 ht, dw_lJ3 ht, dw_lI4 ht, dw_lA5 ht, dw_lA6 ht, dw_lS1 ht, dw_lS2 ht, dw_lS3 ht, dw_lS4 ht, dw_lS5 ht, dw_lln ht, dw_laA ht, dw_lkn ht, dw_lkI ht, dw_lkS ht, dw_dis ht, dw_dI0 ht, dw_dI1 ht, dw_dI2 ht, dw_dI3 ht, dw_dI4 ht, dw_dI5 ht, dw_dI6 ht, dw_dS1 ht, dw_dS2 ht, dw_dS3 ht, dw_dS4 ht, dw_dS5 ht, dw_dS6 ht, e']); first | with_reducible rw [bnd_s] | with_reducible rw [bn2_s] | with_reducible rw [grd_t]))
  exact ⟨_, rfl⟩
theorem dw_Ltu19 (ht : P.length = t) {i : Nat} (hi : i < 6) (f n : Nat) : ∀ o, o + n = 6 → L_takeUp_19 (f + n + 1) (dw_lh P t l m y ho cl (dw_take i s o) k Q) (some (t + 3 + i)) (dw_yds (s i 3) (s i 4)) (some (t + 1)) 6 (nI o) = some (dw_lh P t l m y ho cl (dw_take i s 6) k Q, ()) := by
  induction n with
  | zero =>
    intro o ho'
    rw [L_takeUp_19, if_pos (show (6 : Int32) ≤ nI o from nI_le (a := 6) (by omega) (by omega)), show o = 6 by omega]
  | succ n ih =>
    intro o ho'
    have f3 := dw_take_g s i (g := 3) (by decide) (by decide) i o
    have f4 := dw_take_g s i (g := 4) (by decide) (by decide) i o
    rw [show f + (n + 1) + 1 = f + n + 1 + 1 by omega, L_takeUp_19, if_neg (show ¬ (6 : Int32) ≤ nI o from nI_ge (b := 6) (by omega) (by omega)), ← ih (o + 1) (by omega), dw_take]
    repeat (first | with_reducible rw [bnd_s] | with_reducible rw [nmd_s] | with_reducible rw [bn2_s] | with_reducible rw [grd_t] | ((conv => arg 1; arg 1; simp (disch := omega) only [dw_lis ht, dw_lA0 ht, dw_lI1 ht, dw_lJ2 ht, dw_lJ3 ht, dw_lI4 ht, dw_lA5 ht, dw_lA6 ht, dw_lS1 ht, dw_lS2 ht, dw_lS3 ht, dw_lS4 ht, dw_lS5 ht, dw_lln ht, dw_laA ht, dw_lkn ht, dw_lkI ht, dw_lkS ht, dw_dis ht, dw_dI0 ht, dw_dI1 ht, dw_dI2 ht, dw_dI3 ht, dw_dI4 ht, dw_dI5 ht, dw_dI6 ht, dw_dS1 ht, dw_dS2 ht, dw_dS3 ht, dw_dS4 ht, dw_dS5 ht, dw_dS6 ht]); first | with_reducible rw [bnd_s] | with_reducible rw [bn2_s] | with_reducible rw [grd_t]))
    generalize hT : dw_take i s o = T at *
    rw [dw_take1, ← f3, ← f4]
    by_cases c : o = i
    · rw [if_pos (show nI o = nI i by rw [c]), if_pos c, L_takeUp_69, L_takeUp_70, if_pos rfl, L_takeUp_106, nmd_s, nI_1]
    rw [if_neg (show ¬ nI o = nI i from dw_ne (by omega) (by omega) c), if_neg c]
    repeat (first | with_reducible rw [bnd_s] | with_reducible rw [nmd_s] | with_reducible rw [bn2_s] | with_reducible rw [grd_t] | ((conv => arg 1; arg 1; simp (disch := omega) only [dw_lis ht, dw_lA0 ht, dw_lI1 ht, dw_lJ2 ht, dw_lJ3 ht, dw_lI4 ht, dw_lA5 ht, dw_lA6 ht, dw_lS1 ht, dw_lS2 ht, dw_lS3 ht, dw_lS4 ht, dw_lS5 ht, dw_lln ht, dw_laA ht, dw_lkn ht, dw_lkI ht, dw_lkS ht, dw_dis ht, dw_dI0 ht, dw_dI1 ht, dw_dI2 ht, dw_dI3 ht, dw_dI4 ht, dw_dI5 ht, dw_dI6 ht, dw_dS1 ht, dw_dS2 ht, dw_dS3 ht, dw_dS4 ht, dw_dS5 ht, dw_dS6 ht]); first | with_reducible rw [bnd_s] | with_reducible rw [bn2_s] | with_reducible rw [grd_t]))
    by_cases c2 : T o 6 = 0
    · rw [if_pos c2, if_pos c2]
      repeat (first | with_reducible rw [bnd_s] | with_reducible rw [nmd_s] | with_reducible rw [bn2_s] | with_reducible rw [grd_t] | ((conv => arg 1; arg 1; simp (disch := omega) only [dw_lis ht, dw_lA0 ht, dw_lI1 ht, dw_lJ2 ht, dw_lJ3 ht, dw_lI4 ht, dw_lA5 ht, dw_lA6 ht, dw_lS1 ht, dw_lS2 ht, dw_lS3 ht, dw_lS4 ht, dw_lS5 ht, dw_lln ht, dw_laA ht, dw_lkn ht, dw_lkI ht, dw_lkS ht, dw_dis ht, dw_dI0 ht, dw_dI1 ht, dw_dI2 ht, dw_dI3 ht, dw_dI4 ht, dw_dI5 ht, dw_dI6 ht, dw_dS1 ht, dw_dS2 ht, dw_dS3 ht, dw_dS4 ht, dw_dS5 ht, dw_dS6 ht, dw_Dyd ht (show o < 6 by omega)]); first | with_reducible rw [bnd_s] | with_reducible rw [bn2_s] | with_reducible rw [grd_t]))
      by_cases c3 : dw_yds (T o 3) (T o 4) &&& dw_yds (T i 3) (T i 4) = 0
      · rw [if_pos ((dw_cmp0 _).mpr c3), if_pos c3, L_takeUp_69, L_takeUp_70, if_pos rfl, L_takeUp_106, nmd_s, nI_1]
      rw [if_neg (fun q => c3 ((dw_cmp0 _).mp q)), if_neg c3, L_takeUp_70, if_neg (by decide)]
      repeat (first | with_reducible rw [bnd_s] | with_reducible rw [nmd_s] | with_reducible rw [bn2_s] | with_reducible rw [grd_t] | ((conv => arg 1; arg 1; simp (disch := omega) only [dw_lis ht, dw_lA0 ht, dw_lI1 ht, dw_lJ2 ht, dw_lJ3 ht, dw_lI4 ht, dw_lA5 ht, dw_lA6 ht, dw_lS1 ht, dw_lS2 ht, dw_lS3 ht, dw_lS4 ht, dw_lS5 ht, dw_lln ht, dw_laA ht, dw_lkn ht, dw_lkI ht, dw_lkS ht, dw_dis ht, dw_dI0 ht, dw_dI1 ht, dw_dI2 ht, dw_dI3 ht, dw_dI4 ht, dw_dI5 ht, dw_dI6 ht, dw_dS1 ht, dw_dS2 ht, dw_dS3 ht, dw_dS4 ht, dw_dS5 ht, dw_dS6 ht]); first | with_reducible rw [bnd_s] | with_reducible rw [bn2_s] | with_reducible rw [grd_t]))
      by_cases c4 : T i 5 < T o 5
      · rw [if_pos c4, if_pos c4, L_takeUp_106, nmd_s, nI_1]
      rw [if_neg c4, if_neg c4]
      repeat (first | with_reducible rw [bnd_s] | with_reducible rw [nmd_s] | with_reducible rw [bn2_s] | with_reducible rw [grd_t] | ((conv => arg 1; arg 1; simp (disch := omega) only [dw_lis ht, dw_lA0 ht, dw_lI1 ht, dw_lJ2 ht, dw_lJ3 ht, dw_lI4 ht, dw_lA5 ht, dw_lA6 ht, dw_lS1 ht, dw_lS2 ht, dw_lS3 ht, dw_lS4 ht, dw_lS5 ht, dw_lln ht, dw_laA ht, dw_lkn ht, dw_lkI ht, dw_lkS ht, dw_dis ht, dw_dI0 ht, dw_dI1 ht, dw_dI2 ht, dw_dI3 ht, dw_dI4 ht, dw_dI5 ht, dw_dI6 ht, dw_dS1 ht, dw_dS2 ht, dw_dS3 ht, dw_dS4 ht, dw_dS5 ht, dw_dS6 ht, dw_Drs ht hi]); first | with_reducible rw [bnd_s] | with_reducible rw [bn2_s] | with_reducible rw [grd_t]))
      rw [L_takeUp_106, nmd_s, nI_1, dw_set_k T o 6 1 (show 5 ≠ 6 by decide) o, dw_set_k T o 6 1 (show 5 ≠ 6 by decide) i]
    · rw [if_neg c2, if_neg c2, L_takeUp_69, L_takeUp_70, if_pos rfl, L_takeUp_106, nmd_s, nI_1]
theorem dw_Ltu (ht : P.length = t) {i : Nat} (hi : i < 6) : L_takeUp (dw_lh P t l m y ho cl s k Q) t (some (t + 3 + i)) = some (dw_lh P t l m y ho cl (dw_take i s 6) k Q, ()) := by
  rw [L_takeUp]
  repeat (first | with_reducible rw [bnd_s] | with_reducible rw [nmd_s] | with_reducible rw [bn2_s] | with_reducible rw [grd_t] | ((conv => arg 1; arg 1; simp (disch := omega) only [dw_lis ht, dw_lA0 ht, dw_lI1 ht, dw_lJ2 ht, dw_lJ3 ht, dw_lI4 ht, dw_lA5 ht, dw_lA6 ht, dw_lS1 ht, dw_lS2 ht, dw_lS3 ht, dw_lS4 ht, dw_lS5 ht, dw_lln ht, dw_laA ht, dw_lkn ht, dw_lkI ht, dw_lkS ht, dw_dis ht, dw_dI0 ht, dw_dI1 ht, dw_dI2 ht, dw_dI3 ht, dw_dI4 ht, dw_dI5 ht, dw_dI6 ht, dw_dS1 ht, dw_dS2 ht, dw_dS3 ht, dw_dS4 ht, dw_dS5 ht, dw_dS6 ht, dw_Dyd ht hi]); first | with_reducible rw [bnd_s] | with_reducible rw [bn2_s] | with_reducible rw [grd_t]))
  exact dw_Ltu19 ht hi 993 6 0 rfl
theorem dw_Lpa10 (ht : P.length = t) (hw : dw_lc P Q l num w) (f n : Nat) : ∀ i k, i + n = 6 → dw_Lv (L_pass_10 (f + n + 1) (dw_lh P t l m y ho cl (dw_turn w cl y s i) k Q) t (some (t + 1)) 6 (nI i)) P t l m (y + 1) ho cl (dw_turn w cl y s 6) Q () := by
  induction n with
  | zero =>
    intro i k hi
    rw [L_pass_10, if_pos (show (6 : Int32) ≤ nI i from nI_le (a := 6) (by omega) (by omega)), show i = 6 by omega]
    repeat (first | with_reducible rw [bnd_s] | with_reducible rw [nmd_s] | with_reducible rw [bn2_s] | with_reducible rw [grd_t] | ((conv => arg 1; arg 1; simp (disch := omega) only [dw_lis ht, dw_lA0 ht, dw_lI1 ht, dw_lJ2 ht, dw_lJ3 ht, dw_lI4 ht, dw_lA5 ht, dw_lA6 ht, dw_lS1 ht, dw_lS2 ht, dw_lS3 ht, dw_lS4 ht, dw_lS5 ht, dw_lln ht, dw_laA ht, dw_lkn ht, dw_lkI ht, dw_lkS ht, dw_dis ht, dw_dI0 ht, dw_dI1 ht, dw_dI2 ht, dw_dI3 ht, dw_dI4 ht, dw_dI5 ht, dw_dI6 ht, dw_dS1 ht, dw_dS2 ht, dw_dS3 ht, dw_dS4 ht, dw_dS5 ht, dw_dS6 ht]); first | with_reducible rw [bnd_s] | with_reducible rw [bn2_s] | with_reducible rw [grd_t]))
    exact ⟨_, rfl⟩
  | succ n ih =>
    intro i k hi
    have hi6 : i < 6 := by omega
    have g := fun k => ih (i + 1) k (by omega)
    rw [show f + (n + 1) + 1 = f + n + 1 + 1 by omega, L_pass_10, if_neg (show ¬ (6 : Int32) ≤ nI i from nI_ge (b := 6) (by omega) (by omega))]
    repeat (first | with_reducible rw [bnd_s] | with_reducible rw [nmd_s] | with_reducible rw [bn2_s] | with_reducible rw [grd_t] | ((conv => arg 1; arg 1; simp (disch := omega) only [dw_lis ht, dw_lA0 ht, dw_lI1 ht, dw_lJ2 ht, dw_lJ3 ht, dw_lI4 ht, dw_lA5 ht, dw_lA6 ht, dw_lS1 ht, dw_lS2 ht, dw_lS3 ht, dw_lS4 ht, dw_lS5 ht, dw_lln ht, dw_laA ht, dw_lkn ht, dw_lkI ht, dw_lkS ht, dw_dis ht, dw_dI0 ht, dw_dI1 ht, dw_dI2 ht, dw_dI3 ht, dw_dI4 ht, dw_dI5 ht, dw_dI6 ht, dw_dS1 ht, dw_dS2 ht, dw_dS3 ht, dw_dS4 ht, dw_dS5 ht, dw_dS6 ht]); first | with_reducible rw [bnd_s] | with_reducible rw [bn2_s] | with_reducible rw [grd_t]))
    rw [dw_turn] at g
    generalize dw_turn w cl y s i = T at *
    by_cases c : T i 6 = 0
    · rw [if_pos c]
      simp only [if_pos c] at g
      obtain ⟨k1, e1⟩ := dw_Lsd (m := m) (y := y) (ho := ho) (cl := cl) (s := T) (k := k) ht hw hi6
      obtain ⟨k2, e2⟩ := dw_Lgr (m := m) (y := y) (ho := ho) (cl := cl) (s := dw_g2 w cl y i T) (k := k1) ht hw hi6
      obtain ⟨k3, e3⟩ := dw_Lne (m := m) (y := y) (ho := ho) (cl := cl) (s := dw_g3 w cl y i T) (k := k2) ht hw hi6
      repeat (first | with_reducible rw [bnd_s] | with_reducible rw [nmd_s] | with_reducible rw [bn2_s] | with_reducible rw [grd_t] | ((conv => arg 1; arg 1; simp (disch := omega) only [dw_lis ht, dw_lA0 ht, dw_lI1 ht, dw_lJ2 ht, dw_lJ3 ht, dw_lI4 ht, dw_lA5 ht, dw_lA6 ht, dw_lS1 ht, dw_lS2 ht, dw_lS3 ht, dw_lS4 ht, dw_lS5 ht, dw_lln ht, dw_laA ht, dw_lkn ht, dw_lkI ht, dw_lkS ht, dw_dis ht, dw_dI0 ht, dw_dI1 ht, dw_dI2 ht, dw_dI3 ht, dw_dI4 ht, dw_dI5 ht, dw_dI6 ht, dw_dS1 ht, dw_dS2 ht, dw_dS3 ht, dw_dS4 ht, dw_dS5 ht, dw_dS6 ht, e1, dw_Dwk ht hi6, dw_Ltu ht hi6]); first | with_reducible rw [bnd_s] | with_reducible rw [bn2_s] | with_reducible rw [grd_t]))
      rw [← dw_g1, ← dw_g2]
      repeat (first | with_reducible rw [bnd_s] | with_reducible rw [nmd_s] | with_reducible rw [bn2_s] | with_reducible rw [grd_t] | ((conv => arg 1; arg 1; simp (disch := omega) only [dw_lis ht, dw_lA0 ht, dw_lI1 ht, dw_lJ2 ht, dw_lJ3 ht, dw_lI4 ht, dw_lA5 ht, dw_lA6 ht, dw_lS1 ht, dw_lS2 ht, dw_lS3 ht, dw_lS4 ht, dw_lS5 ht, dw_lln ht, dw_laA ht, dw_lkn ht, dw_lkI ht, dw_lkS ht, dw_dis ht, dw_dI0 ht, dw_dI1 ht, dw_dI2 ht, dw_dI3 ht, dw_dI4 ht, dw_dI5 ht, dw_dI6 ht, dw_dS1 ht, dw_dS2 ht, dw_dS3 ht, dw_dS4 ht, dw_dS5 ht, dw_dS6 ht, e2, dw_Drs ht hi6]); first | with_reducible rw [bnd_s] | with_reducible rw [bn2_s] | with_reducible rw [grd_t]))
      rw [← dw_g3]
      repeat (first | with_reducible rw [bnd_s] | with_reducible rw [nmd_s] | with_reducible rw [bn2_s] | with_reducible rw [grd_t] | ((conv => arg 1; arg 1; simp (disch := omega) only [dw_lis ht, dw_lA0 ht, dw_lI1 ht, dw_lJ2 ht, dw_lJ3 ht, dw_lI4 ht, dw_lA5 ht, dw_lA6 ht, dw_lS1 ht, dw_lS2 ht, dw_lS3 ht, dw_lS4 ht, dw_lS5 ht, dw_lln ht, dw_laA ht, dw_lkn ht, dw_lkI ht, dw_lkS ht, dw_dis ht, dw_dI0 ht, dw_dI1 ht, dw_dI2 ht, dw_dI3 ht, dw_dI4 ht, dw_dI5 ht, dw_dI6 ht, dw_dS1 ht, dw_dS2 ht, dw_dS3 ht, dw_dS4 ht, dw_dS5 ht, dw_dS6 ht, e3]); first | with_reducible rw [bnd_s] | with_reducible rw [bn2_s] | with_reducible rw [grd_t]))
      have g3 := g k3
      rw [dw_go1] at g3
      by_cases c2 : dw_need w cl y (dw_g3 w cl y i T i) ≤ dw_g3 w cl y i T i 5
      · rw [if_pos c2] at g3 ⊢
        rw [L_pass_77, bnd_s, show decide ((0 : Int32) = 0 ∨ (0 : Int32) = 1) = true from by decide]
        repeat (first | with_reducible rw [bnd_s] | with_reducible rw [nmd_s] | with_reducible rw [bn2_s] | with_reducible rw [grd_t] | ((conv => arg 1; arg 1; simp (disch := omega) only [dw_lis ht, dw_lA0 ht, dw_lI1 ht, dw_lJ2 ht, dw_lJ3 ht, dw_lI4 ht, dw_lA5 ht, dw_lA6 ht, dw_lS1 ht, dw_lS2 ht, dw_lS3 ht, dw_lS4 ht, dw_lS5 ht, dw_lln ht, dw_laA ht, dw_lkn ht, dw_lkI ht, dw_lkS ht, dw_dis ht, dw_dI0 ht, dw_dI1 ht, dw_dI2 ht, dw_dI3 ht, dw_dI4 ht, dw_dI5 ht, dw_dI6 ht, dw_dS1 ht, dw_dS2 ht, dw_dS3 ht, dw_dS4 ht, dw_dS5 ht, dw_dS6 ht]); first | with_reducible rw [bnd_s] | with_reducible rw [bn2_s] | with_reducible rw [grd_t]))
        rw [L_pass_80, nmd_s, nI_1]
        exact g3
      · rw [if_neg c2] at g3 ⊢
        rw [L_pass_77, bnd_s, show decide ((1 : Int32) = 0 ∨ (1 : Int32) = 1) = true from by decide]
        repeat (first | with_reducible rw [bnd_s] | with_reducible rw [nmd_s] | with_reducible rw [bn2_s] | with_reducible rw [grd_t] | ((conv => arg 1; arg 1; simp (disch := omega) only [dw_lis ht, dw_lA0 ht, dw_lI1 ht, dw_lJ2 ht, dw_lJ3 ht, dw_lI4 ht, dw_lA5 ht, dw_lA6 ht, dw_lS1 ht, dw_lS2 ht, dw_lS3 ht, dw_lS4 ht, dw_lS5 ht, dw_lln ht, dw_laA ht, dw_lkn ht, dw_lkI ht, dw_lkS ht, dw_dis ht, dw_dI0 ht, dw_dI1 ht, dw_dI2 ht, dw_dI3 ht, dw_dI4 ht, dw_dI5 ht, dw_dI6 ht, dw_dS1 ht, dw_dS2 ht, dw_dS3 ht, dw_dS4 ht, dw_dS5 ht, dw_dS6 ht]); first | with_reducible rw [bnd_s] | with_reducible rw [bn2_s] | with_reducible rw [grd_t]))
        rw [L_pass_80, nmd_s, nI_1]
        exact g3
    · rw [if_neg c]
      simp only [if_neg c] at g
      rw [L_pass_80, nmd_s, nI_1]
      exact g k
theorem dw_Lpa (ht : P.length = t) (hw : dw_lc P Q l num w) : dw_Lv (L_pass (dw_lh P t l m y ho cl s k Q) t) P t l m (y + 1) ho cl (dw_turn w cl y s 6) Q () := by
  rw [L_pass]
  repeat (first | with_reducible rw [bnd_s] | with_reducible rw [nmd_s] | with_reducible rw [bn2_s] | with_reducible rw [grd_t] | ((conv => arg 1; arg 1; simp (disch := omega) only [dw_lis ht, dw_lA0 ht, dw_lI1 ht, dw_lJ2 ht, dw_lJ3 ht, dw_lI4 ht, dw_lA5 ht, dw_lA6 ht, dw_lS1 ht, dw_lS2 ht, dw_lS3 ht, dw_lS4 ht, dw_lS5 ht, dw_lln ht, dw_laA ht, dw_lkn ht, dw_lkI ht, dw_lkS ht, dw_dis ht, dw_dI0 ht, dw_dI1 ht, dw_dI2 ht, dw_dI3 ht, dw_dI4 ht, dw_dI5 ht, dw_dI6 ht, dw_dS1 ht, dw_dS2 ht, dw_dS3 ht, dw_dS4 ht, dw_dS5 ht, dw_dS6 ht]); first | with_reducible rw [bnd_s] | with_reducible rw [bn2_s] | with_reducible rw [grd_t]))
  exact dw_Lpa10 (s := s) ht hw 993 6 0 k rfl
end LK
