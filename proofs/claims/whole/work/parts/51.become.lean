/-! THE CLASS: a land becomes another -/
/-- another land outside the nine cells -/
def dw_ls (P Q : pm_H) (t2 l2 : Nat) (m2 y2 : Int32) (ho2 cl2 : Int64) (s2 : dw_L) (k2 : Nat → Int32) : Prop := ∀ B : pm_H, B.length = 9 → ∃ P' Q', P ++ (B ++ Q) = dw_lh P' t2 l2 m2 y2 ho2 cl2 s2 k2 Q' ∧ P'.length = t2
theorem dw_ls_after {P Q1 Q2 : pm_H} {t2 l2 : Nat} {m2 y2 : Int32} {ho2 cl2 : Int64} {s2 : dw_L} {k2 : Nat → Int32} (h : P.length + 9 + Q1.length = t2) : dw_ls P (Q1 ++ (dw_bk t2 l2 m2 y2 ho2 cl2 s2 k2 ++ Q2)) t2 l2 m2 y2 ho2 cl2 s2 k2 := by
  intro B hB
  refine ⟨P ++ (B ++ Q1), Q2, ?_, ?_⟩
  · unfold dw_lh
    simp only [List.append_assoc]
  · simp only [List.length_append]
    omega
theorem dw_ls_before {P1 P2 Q : pm_H} {t2 l2 : Nat} {m2 y2 : Int32} {ho2 cl2 : Int64} {s2 : dw_L} {k2 : Nat → Int32} (h : P1.length = t2) : dw_ls (P1 ++ (dw_bk t2 l2 m2 y2 ho2 cl2 s2 k2 ++ P2)) Q t2 l2 m2 y2 ho2 cl2 s2 k2 := by
  intro B hB
  refine ⟨P1, P2 ++ (B ++ Q), ?_, h⟩
  unfold dw_lh
  simp only [List.append_assoc]
theorem dw_bk_cong {t l : Nat} {m y : Int32} {ho cl : Int64} {s s' : dw_L} {k : Nat → Int32} (h : ∀ d, d < 6 → ∀ f, 1 ≤ f → f ≤ 6 → s d f = s' d f) : dw_bk t l m y ho cl s k = dw_bk t l m y ho cl s' k := by
  unfold dw_bk
  rw [h 0 (by decide) 1 (by decide) (by decide), h 0 (by decide) 2 (by decide) (by decide), h 0 (by decide) 3 (by decide) (by decide), h 0 (by decide) 4 (by decide) (by decide), h 0 (by decide) 5 (by decide) (by decide), h 0 (by decide) 6 (by decide) (by decide),
    h 1 (by decide) 1 (by decide) (by decide), h 1 (by decide) 2 (by decide) (by decide), h 1 (by decide) 3 (by decide) (by decide), h 1 (by decide) 4 (by decide) (by decide), h 1 (by decide) 5 (by decide) (by decide), h 1 (by decide) 6 (by decide) (by decide),
    h 2 (by decide) 1 (by decide) (by decide), h 2 (by decide) 2 (by decide) (by decide), h 2 (by decide) 3 (by decide) (by decide), h 2 (by decide) 4 (by decide) (by decide), h 2 (by decide) 5 (by decide) (by decide), h 2 (by decide) 6 (by decide) (by decide),
    h 3 (by decide) 1 (by decide) (by decide), h 3 (by decide) 2 (by decide) (by decide), h 3 (by decide) 3 (by decide) (by decide), h 3 (by decide) 4 (by decide) (by decide), h 3 (by decide) 5 (by decide) (by decide), h 3 (by decide) 6 (by decide) (by decide),
    h 4 (by decide) 1 (by decide) (by decide), h 4 (by decide) 2 (by decide) (by decide), h 4 (by decide) 3 (by decide) (by decide), h 4 (by decide) 4 (by decide) (by decide), h 4 (by decide) 5 (by decide) (by decide), h 4 (by decide) 6 (by decide) (by decide),
    h 5 (by decide) 1 (by decide) (by decide), h 5 (by decide) 2 (by decide) (by decide), h 5 (by decide) 3 (by decide) (by decide), h 5 (by decide) 4 (by decide) (by decide), h 5 (by decide) 5 (by decide) (by decide), h 5 (by decide) 6 (by decide) (by decide)]
section LK
variable {P Q : pm_H} {t l : Nat} {m y : Int32} {ho cl : Int64} {s : dw_L} {k : Nat → Int32} {t2 l2 : Nat} {m2 y2 : Int32} {ho2 cl2 : Int64} {s2 : dw_L} {k2 : Nat → Int32}
theorem dw_lsr (h : dw_ls P Q t2 l2 m2 y2 ho2 cl2 s2 k2) : ∃ P' Q', dw_lh P t l m y ho cl s k Q = dw_lh P' t2 l2 m2 y2 ho2 cl2 s2 k2 Q' ∧ P'.length = t2 := h (dw_bk t l m y ho cl s k) rfl
theorem dw_lsA0 (h : dw_ls P Q t2 l2 m2 y2 ho2 cl2 s2 k2) : op_A (dw_lh P t l m y ho cl s k Q) t2 1 0 = some (some (t2 + 1)) := by
  obtain ⟨P', Q', e, hP⟩ := dw_lsr (t := t) (l := l) (m := m) (y := y) (ho := ho) (cl := cl) (s := s) (k := k) h
  rw [e, dw_lA0 hP]
theorem dw_lsI1 (h : dw_ls P Q t2 l2 m2 y2 ho2 cl2 s2 k2) : op_I (dw_lh P t l m y ho cl s k Q) t2 1 1 = some m2 := by
  obtain ⟨P', Q', e, hP⟩ := dw_lsr (t := t) (l := l) (m := m) (y := y) (ho := ho) (cl := cl) (s := s) (k := k) h
  rw [e, dw_lI1 hP]
theorem dw_lsJ2 (h : dw_ls P Q t2 l2 m2 y2 ho2 cl2 s2 k2) : op_J (dw_lh P t l m y ho cl s k Q) t2 1 2 = some ho2 := by
  obtain ⟨P', Q', e, hP⟩ := dw_lsr (t := t) (l := l) (m := m) (y := y) (ho := ho) (cl := cl) (s := s) (k := k) h
  rw [e, dw_lJ2 hP]
theorem dw_lsJ3 (h : dw_ls P Q t2 l2 m2 y2 ho2 cl2 s2 k2) : op_J (dw_lh P t l m y ho cl s k Q) t2 1 3 = some cl2 := by
  obtain ⟨P', Q', e, hP⟩ := dw_lsr (t := t) (l := l) (m := m) (y := y) (ho := ho) (cl := cl) (s := s) (k := k) h
  rw [e, dw_lJ3 hP]
theorem dw_lsI4 (h : dw_ls P Q t2 l2 m2 y2 ho2 cl2 s2 k2) : op_I (dw_lh P t l m y ho cl s k Q) t2 1 4 = some y2 := by
  obtain ⟨P', Q', e, hP⟩ := dw_lsr (t := t) (l := l) (m := m) (y := y) (ho := ho) (cl := cl) (s := s) (k := k) h
  rw [e, dw_lI4 hP]
theorem dw_lsA5 (h : dw_ls P Q t2 l2 m2 y2 ho2 cl2 s2 k2) : op_A (dw_lh P t l m y ho cl s k Q) t2 1 5 = some (some l2) := by
  obtain ⟨P', Q', e, hP⟩ := dw_lsr (t := t) (l := l) (m := m) (y := y) (ho := ho) (cl := cl) (s := s) (k := k) h
  rw [e, dw_lA5 hP]
theorem dw_lsln (h : dw_ls P Q t2 l2 m2 y2 ho2 cl2 s2 k2) : op_ln (dw_lh P t l m y ho cl s k Q) (t2 + 1) = some 6 := by
  obtain ⟨P', Q', e, hP⟩ := dw_lsr (t := t) (l := l) (m := m) (y := y) (ho := ho) (cl := cl) (s := s) (k := k) h
  rw [e, dw_lln hP]
theorem dw_lsaA (h : dw_ls P Q t2 l2 m2 y2 ho2 cl2 s2 k2) {i : Nat} (hi : i < 6) : op_aA (dw_lh P t l m y ho cl s k Q) (t2 + 1) 0 (nI i) = some (some (t2 + 3 + i)) := by
  obtain ⟨P', Q', e, hP⟩ := dw_lsr (t := t) (l := l) (m := m) (y := y) (ho := ho) (cl := cl) (s := s) (k := k) h
  rw [e, dw_laA hP hi]
theorem dw_lsd (h : dw_ls P Q t2 l2 m2 y2 ho2 cl2 s2 k2) {i : Nat} (hi : i < 6) : op_I (dw_lh P t l m y ho cl s k Q) (t2 + 3 + i) 0 1 = some (s2 i 1) ∧ op_I (dw_lh P t l m y ho cl s k Q) (t2 + 3 + i) 0 2 = some (s2 i 2) ∧ op_I (dw_lh P t l m y ho cl s k Q) (t2 + 3 + i) 0 3 = some (s2 i 3) ∧ op_I (dw_lh P t l m y ho cl s k Q) (t2 + 3 + i) 0 4 = some (s2 i 4) ∧ op_I (dw_lh P t l m y ho cl s k Q) (t2 + 3 + i) 0 5 = some (s2 i 5) ∧ op_I (dw_lh P t l m y ho cl s k Q) (t2 + 3 + i) 0 6 = some (s2 i 6) := by
  obtain ⟨P', Q', e, hP⟩ := dw_lsr (t := t) (l := l) (m := m) (y := y) (ho := ho) (cl := cl) (s := s) (k := k) h
  rw [e]
  exact ⟨dw_dI1 hP hi, dw_dI2 hP hi, dw_dI3 hP hi, dw_dI4 hP hi, dw_dI5 hP hi, dw_dI6 hP hi⟩
def dw_cp (s s2 : dw_L) (i : Nat) : dw_L := dw_set (dw_set (dw_set (dw_set (dw_set (dw_set s i 1 (s2 i 1)) i 2 (s2 i 2)) i 3 (s2 i 3)) i 4 (s2 i 4)) i 5 (s2 i 5)) i 6 (s2 i 6)
theorem dw_cp_app (s s2 : dw_L) (i d f : Nat) (h1 : 1 ≤ f) (h6 : f ≤ 6) : dw_cp s s2 i d f = if d = i then s2 d f else s d f := by
  unfold dw_cp
  by_cases c : d = i
  · subst c
    rw [if_pos rfl]
    rcases (by omega : f = 1 ∨ f = 2 ∨ f = 3 ∨ f = 4 ∨ f = 5 ∨ f = 6) with rfl | rfl | rfl | rfl | rfl | rfl <;> simp [dw_set_app]
  · rw [if_neg c]
    simp [dw_set_app, c]
theorem dw_Dbe (ht : P.length = t) (h : dw_ls P Q t2 l2 m2 y2 ho2 cl2 s2 k2) {i : Nat} (hi : i < 6) (hw : s2 i 6 = 0 ∨ s2 i 6 = 1) : D_become (dw_lh P t l m y ho cl s k Q) (t + 3 + i) (some (t2 + 3 + i)) = some (dw_lh P t l m y ho cl (dw_cp s s2 i) k Q, ()) := by
  have e := fun s => dw_lsd (t := t) (l := l) (m := m) (y := y) (ho := ho) (cl := cl) (s := s) (k := k) h hi
  rw [D_become]
  repeat (first | with_reducible rw [bnd_s] | with_reducible rw [nmd_s] | with_reducible rw [bn2_s] | with_reducible rw [grd_t] | ((conv => arg 1; arg 1; simp (disch := omega) only [dw_lis ht, dw_lA0 ht, dw_lI1 ht, dw_lJ2 ht, dw_lJ3 ht, dw_lI4 ht, dw_lA5 ht, dw_lA6 ht, dw_lS1 ht, dw_lS2 ht, dw_lS3 ht, dw_lS4 ht, dw_lS5 ht, dw_lln ht, dw_laA ht, dw_lkn ht, dw_lkI ht, dw_lkS ht, dw_dis ht, dw_dI0 ht, dw_dI1 ht, dw_dI2 ht, dw_dI3 ht, dw_dI4 ht, dw_dI5 ht, dw_dI6 ht, dw_dS1 ht, dw_dS2 ht, dw_dS3 ht, dw_dS4 ht, dw_dS5 ht, dw_dS6 ht, (e s).1]); first | with_reducible rw [bnd_s] | with_reducible rw [bn2_s] | with_reducible rw [grd_t]))
  repeat (first | with_reducible rw [bnd_s] | with_reducible rw [nmd_s] | with_reducible rw [bn2_s] | with_reducible rw [grd_t] | ((conv => arg 1; arg 1; simp (disch := omega) only [dw_lis ht, dw_lA0 ht, dw_lI1 ht, dw_lJ2 ht, dw_lJ3 ht, dw_lI4 ht, dw_lA5 ht, dw_lA6 ht, dw_lS1 ht, dw_lS2 ht, dw_lS3 ht, dw_lS4 ht, dw_lS5 ht, dw_lln ht, dw_laA ht, dw_lkn ht, dw_lkI ht, dw_lkS ht, dw_dis ht, dw_dI0 ht, dw_dI1 ht, dw_dI2 ht, dw_dI3 ht, dw_dI4 ht, dw_dI5 ht, dw_dI6 ht, dw_dS1 ht, dw_dS2 ht, dw_dS3 ht, dw_dS4 ht, dw_dS5 ht, dw_dS6 ht, (e (dw_set s i 1 (s2 i 1))).2.1]); first | with_reducible rw [bnd_s] | with_reducible rw [bn2_s] | with_reducible rw [grd_t]))
  repeat (first | with_reducible rw [bnd_s] | with_reducible rw [nmd_s] | with_reducible rw [bn2_s] | with_reducible rw [grd_t] | ((conv => arg 1; arg 1; simp (disch := omega) only [dw_lis ht, dw_lA0 ht, dw_lI1 ht, dw_lJ2 ht, dw_lJ3 ht, dw_lI4 ht, dw_lA5 ht, dw_lA6 ht, dw_lS1 ht, dw_lS2 ht, dw_lS3 ht, dw_lS4 ht, dw_lS5 ht, dw_lln ht, dw_laA ht, dw_lkn ht, dw_lkI ht, dw_lkS ht, dw_dis ht, dw_dI0 ht, dw_dI1 ht, dw_dI2 ht, dw_dI3 ht, dw_dI4 ht, dw_dI5 ht, dw_dI6 ht, dw_dS1 ht, dw_dS2 ht, dw_dS3 ht, dw_dS4 ht, dw_dS5 ht, dw_dS6 ht, (e (dw_set (dw_set s i 1 (s2 i 1)) i 2 (s2 i 2))).2.2.1]); first | with_reducible rw [bnd_s] | with_reducible rw [bn2_s] | with_reducible rw [grd_t]))
  repeat (first | with_reducible rw [bnd_s] | with_reducible rw [nmd_s] | with_reducible rw [bn2_s] | with_reducible rw [grd_t] | ((conv => arg 1; arg 1; simp (disch := omega) only [dw_lis ht, dw_lA0 ht, dw_lI1 ht, dw_lJ2 ht, dw_lJ3 ht, dw_lI4 ht, dw_lA5 ht, dw_lA6 ht, dw_lS1 ht, dw_lS2 ht, dw_lS3 ht, dw_lS4 ht, dw_lS5 ht, dw_lln ht, dw_laA ht, dw_lkn ht, dw_lkI ht, dw_lkS ht, dw_dis ht, dw_dI0 ht, dw_dI1 ht, dw_dI2 ht, dw_dI3 ht, dw_dI4 ht, dw_dI5 ht, dw_dI6 ht, dw_dS1 ht, dw_dS2 ht, dw_dS3 ht, dw_dS4 ht, dw_dS5 ht, dw_dS6 ht, (e (dw_set (dw_set (dw_set s i 1 (s2 i 1)) i 2 (s2 i 2)) i 3 (s2 i 3))).2.2.2.1]); first | with_reducible rw [bnd_s] | with_reducible rw [bn2_s] | with_reducible rw [grd_t]))
  repeat (first | with_reducible rw [bnd_s] | with_reducible rw [nmd_s] | with_reducible rw [bn2_s] | with_reducible rw [grd_t] | ((conv => arg 1; arg 1; simp (disch := omega) only [dw_lis ht, dw_lA0 ht, dw_lI1 ht, dw_lJ2 ht, dw_lJ3 ht, dw_lI4 ht, dw_lA5 ht, dw_lA6 ht, dw_lS1 ht, dw_lS2 ht, dw_lS3 ht, dw_lS4 ht, dw_lS5 ht, dw_lln ht, dw_laA ht, dw_lkn ht, dw_lkI ht, dw_lkS ht, dw_dis ht, dw_dI0 ht, dw_dI1 ht, dw_dI2 ht, dw_dI3 ht, dw_dI4 ht, dw_dI5 ht, dw_dI6 ht, dw_dS1 ht, dw_dS2 ht, dw_dS3 ht, dw_dS4 ht, dw_dS5 ht, dw_dS6 ht, (e (dw_set (dw_set (dw_set (dw_set s i 1 (s2 i 1)) i 2 (s2 i 2)) i 3 (s2 i 3)) i 4 (s2 i 4))).2.2.2.2.1]); first | with_reducible rw [bnd_s] | with_reducible rw [bn2_s] | with_reducible rw [grd_t]))
  repeat (first | with_reducible rw [bnd_s] | with_reducible rw [nmd_s] | with_reducible rw [bn2_s] | with_reducible rw [grd_t] | ((conv => arg 1; arg 1; simp (disch := omega) only [dw_lis ht, dw_lA0 ht, dw_lI1 ht, dw_lJ2 ht, dw_lJ3 ht, dw_lI4 ht, dw_lA5 ht, dw_lA6 ht, dw_lS1 ht, dw_lS2 ht, dw_lS3 ht, dw_lS4 ht, dw_lS5 ht, dw_lln ht, dw_laA ht, dw_lkn ht, dw_lkI ht, dw_lkS ht, dw_dis ht, dw_dI0 ht, dw_dI1 ht, dw_dI2 ht, dw_dI3 ht, dw_dI4 ht, dw_dI5 ht, dw_dI6 ht, dw_dS1 ht, dw_dS2 ht, dw_dS3 ht, dw_dS4 ht, dw_dS5 ht, dw_dS6 ht, (e (dw_set (dw_set (dw_set (dw_set (dw_set s i 1 (s2 i 1)) i 2 (s2 i 2)) i 3 (s2 i 3)) i 4 (s2 i 4)) i 5 (s2 i 5))).2.2.2.2.2]); first | with_reducible rw [bnd_s] | with_reducible rw [bn2_s] | with_reducible rw [grd_t]))
  rw [decide_eq_true hw]
  repeat (first | with_reducible rw [bnd_s] | with_reducible rw [nmd_s] | with_reducible rw [bn2_s] | with_reducible rw [grd_t] | ((conv => arg 1; arg 1; simp (disch := omega) only [dw_lis ht, dw_lA0 ht, dw_lI1 ht, dw_lJ2 ht, dw_lJ3 ht, dw_lI4 ht, dw_lA5 ht, dw_lA6 ht, dw_lS1 ht, dw_lS2 ht, dw_lS3 ht, dw_lS4 ht, dw_lS5 ht, dw_lln ht, dw_laA ht, dw_lkn ht, dw_lkI ht, dw_lkS ht, dw_dis ht, dw_dI0 ht, dw_dI1 ht, dw_dI2 ht, dw_dI3 ht, dw_dI4 ht, dw_dI5 ht, dw_dI6 ht, dw_dS1 ht, dw_dS2 ht, dw_dS3 ht, dw_dS4 ht, dw_dS5 ht, dw_dS6 ht]); first | with_reducible rw [bnd_s] | with_reducible rw [bn2_s] | with_reducible rw [grd_t]))
  rw [dw_cp]
def dw_cpn (s s2 : dw_L) : Nat → dw_L
  | 0 => s
  | i + 1 => dw_cp (dw_cpn s s2 i) s2 i
theorem dw_cpn_app (s s2 : dw_L) (d f : Nat) (h1 : 1 ≤ f) (h6 : f ≤ 6) : ∀ i, dw_cpn s s2 i d f = if d < i then s2 d f else s d f
  | 0 => by rw [if_neg (Nat.not_lt_zero d), dw_cpn]
  | i + 1 => by
    rw [dw_cpn, dw_cp_app _ _ _ _ _ h1 h6, dw_cpn_app s s2 d f h1 h6 i]
    by_cases c : d = i
    · rw [if_pos c, if_pos (by omega)]
    · rw [if_neg c]
      by_cases c2 : d < i
      · rw [if_pos c2, if_pos (by omega)]
      · rw [if_neg c2, if_neg (by omega)]
theorem dw_Lbe41 (ht : P.length = t) (h : dw_ls P Q t2 l2 m2 y2 ho2 cl2 s2 k2) : L_become_41 (dw_lh P t l m y ho cl s k Q) t (some t2) = some (dw_lh P t l2 m2 y2 ho2 cl2 s k Q, ()) := by
  rw [L_become_41]
  repeat (first | with_reducible rw [bnd_s] | with_reducible rw [nmd_s] | with_reducible rw [bn2_s] | with_reducible rw [grd_t] | ((conv => arg 1; arg 1; simp (disch := omega) only [dw_lis ht, dw_lA0 ht, dw_lI1 ht, dw_lJ2 ht, dw_lJ3 ht, dw_lI4 ht, dw_lA5 ht, dw_lA6 ht, dw_lS1 ht, dw_lS2 ht, dw_lS3 ht, dw_lS4 ht, dw_lS5 ht, dw_lln ht, dw_laA ht, dw_lkn ht, dw_lkI ht, dw_lkS ht, dw_dis ht, dw_dI0 ht, dw_dI1 ht, dw_dI2 ht, dw_dI3 ht, dw_dI4 ht, dw_dI5 ht, dw_dI6 ht, dw_dS1 ht, dw_dS2 ht, dw_dS3 ht, dw_dS4 ht, dw_dS5 ht, dw_dS6 ht, dw_lsI1 h]); first | with_reducible rw [bnd_s] | with_reducible rw [bn2_s] | with_reducible rw [grd_t]))
  repeat (first | with_reducible rw [bnd_s] | with_reducible rw [nmd_s] | with_reducible rw [bn2_s] | with_reducible rw [grd_t] | ((conv => arg 1; arg 1; simp (disch := omega) only [dw_lis ht, dw_lA0 ht, dw_lI1 ht, dw_lJ2 ht, dw_lJ3 ht, dw_lI4 ht, dw_lA5 ht, dw_lA6 ht, dw_lS1 ht, dw_lS2 ht, dw_lS3 ht, dw_lS4 ht, dw_lS5 ht, dw_lln ht, dw_laA ht, dw_lkn ht, dw_lkI ht, dw_lkS ht, dw_dis ht, dw_dI0 ht, dw_dI1 ht, dw_dI2 ht, dw_dI3 ht, dw_dI4 ht, dw_dI5 ht, dw_dI6 ht, dw_dS1 ht, dw_dS2 ht, dw_dS3 ht, dw_dS4 ht, dw_dS5 ht, dw_dS6 ht, dw_lsJ2 h]); first | with_reducible rw [bnd_s] | with_reducible rw [bn2_s] | with_reducible rw [grd_t]))
  repeat (first | with_reducible rw [bnd_s] | with_reducible rw [nmd_s] | with_reducible rw [bn2_s] | with_reducible rw [grd_t] | ((conv => arg 1; arg 1; simp (disch := omega) only [dw_lis ht, dw_lA0 ht, dw_lI1 ht, dw_lJ2 ht, dw_lJ3 ht, dw_lI4 ht, dw_lA5 ht, dw_lA6 ht, dw_lS1 ht, dw_lS2 ht, dw_lS3 ht, dw_lS4 ht, dw_lS5 ht, dw_lln ht, dw_laA ht, dw_lkn ht, dw_lkI ht, dw_lkS ht, dw_dis ht, dw_dI0 ht, dw_dI1 ht, dw_dI2 ht, dw_dI3 ht, dw_dI4 ht, dw_dI5 ht, dw_dI6 ht, dw_dS1 ht, dw_dS2 ht, dw_dS3 ht, dw_dS4 ht, dw_dS5 ht, dw_dS6 ht, dw_lsJ3 h]); first | with_reducible rw [bnd_s] | with_reducible rw [bn2_s] | with_reducible rw [grd_t]))
  repeat (first | with_reducible rw [bnd_s] | with_reducible rw [nmd_s] | with_reducible rw [bn2_s] | with_reducible rw [grd_t] | ((conv => arg 1; arg 1; simp (disch := omega) only [dw_lis ht, dw_lA0 ht, dw_lI1 ht, dw_lJ2 ht, dw_lJ3 ht, dw_lI4 ht, dw_lA5 ht, dw_lA6 ht, dw_lS1 ht, dw_lS2 ht, dw_lS3 ht, dw_lS4 ht, dw_lS5 ht, dw_lln ht, dw_laA ht, dw_lkn ht, dw_lkI ht, dw_lkS ht, dw_dis ht, dw_dI0 ht, dw_dI1 ht, dw_dI2 ht, dw_dI3 ht, dw_dI4 ht, dw_dI5 ht, dw_dI6 ht, dw_dS1 ht, dw_dS2 ht, dw_dS3 ht, dw_dS4 ht, dw_dS5 ht, dw_dS6 ht, dw_lsI4 h]); first | with_reducible rw [bnd_s] | with_reducible rw [bn2_s] | with_reducible rw [grd_t]))
  repeat (first | with_reducible rw [bnd_s] | with_reducible rw [nmd_s] | with_reducible rw [bn2_s] | with_reducible rw [grd_t] | ((conv => arg 1; arg 1; simp (disch := omega) only [dw_lis ht, dw_lA0 ht, dw_lI1 ht, dw_lJ2 ht, dw_lJ3 ht, dw_lI4 ht, dw_lA5 ht, dw_lA6 ht, dw_lS1 ht, dw_lS2 ht, dw_lS3 ht, dw_lS4 ht, dw_lS5 ht, dw_lln ht, dw_laA ht, dw_lkn ht, dw_lkI ht, dw_lkS ht, dw_dis ht, dw_dI0 ht, dw_dI1 ht, dw_dI2 ht, dw_dI3 ht, dw_dI4 ht, dw_dI5 ht, dw_dI6 ht, dw_dS1 ht, dw_dS2 ht, dw_dS3 ht, dw_dS4 ht, dw_dS5 ht, dw_dS6 ht, dw_lsA5 h, va_rf]); first | with_reducible rw [bnd_s] | with_reducible rw [bn2_s] | with_reducible rw [grd_t]))
theorem dw_Lbe2 (ht : P.length = t) (h : dw_ls P Q t2 l2 m2 y2 ho2 cl2 s2 k2) (hw : dw_WFA s2) (f n : Nat) : ∀ i, i + n = 6 → L_become_2 (f + n + 1) (dw_lh P t l m y ho cl (dw_cpn s s2 i) k Q) t (some t2) (nI i) = some (dw_lh P t l2 m2 y2 ho2 cl2 (dw_cpn s s2 6) k Q, ()) := by
  induction n with
  | zero =>
    intro i hi
    rw [L_become_2]
    repeat (first | with_reducible rw [bnd_s] | with_reducible rw [nmd_s] | with_reducible rw [bn2_s] | with_reducible rw [grd_t] | ((conv => arg 1; arg 1; simp (disch := omega) only [dw_lis ht, dw_lA0 ht, dw_lI1 ht, dw_lJ2 ht, dw_lJ3 ht, dw_lI4 ht, dw_lA5 ht, dw_lA6 ht, dw_lS1 ht, dw_lS2 ht, dw_lS3 ht, dw_lS4 ht, dw_lS5 ht, dw_lln ht, dw_laA ht, dw_lkn ht, dw_lkI ht, dw_lkS ht, dw_dis ht, dw_dI0 ht, dw_dI1 ht, dw_dI2 ht, dw_dI3 ht, dw_dI4 ht, dw_dI5 ht, dw_dI6 ht, dw_dS1 ht, dw_dS2 ht, dw_dS3 ht, dw_dS4 ht, dw_dS5 ht, dw_dS6 ht]); first | with_reducible rw [bnd_s] | with_reducible rw [bn2_s] | with_reducible rw [grd_t]))
    rw [if_pos (show (6 : Int32) ≤ nI i from nI_le (a := 6) (by omega) (by omega)), show i = 6 by omega, dw_Lbe41 ht h]
  | succ n ih =>
    intro i hi
    rw [show f + (n + 1) + 1 = f + n + 1 + 1 by omega, L_become_2]
    repeat (first | with_reducible rw [bnd_s] | with_reducible rw [nmd_s] | with_reducible rw [bn2_s] | with_reducible rw [grd_t] | ((conv => arg 1; arg 1; simp (disch := omega) only [dw_lis ht, dw_lA0 ht, dw_lI1 ht, dw_lJ2 ht, dw_lJ3 ht, dw_lI4 ht, dw_lA5 ht, dw_lA6 ht, dw_lS1 ht, dw_lS2 ht, dw_lS3 ht, dw_lS4 ht, dw_lS5 ht, dw_lln ht, dw_laA ht, dw_lkn ht, dw_lkI ht, dw_lkS ht, dw_dis ht, dw_dI0 ht, dw_dI1 ht, dw_dI2 ht, dw_dI3 ht, dw_dI4 ht, dw_dI5 ht, dw_dI6 ht, dw_dS1 ht, dw_dS2 ht, dw_dS3 ht, dw_dS4 ht, dw_dS5 ht, dw_dS6 ht]); first | with_reducible rw [bnd_s] | with_reducible rw [bn2_s] | with_reducible rw [grd_t]))
    rw [if_neg (show ¬ (6 : Int32) ≤ nI i from nI_ge (b := 6) (by omega) (by omega))]
    repeat (first | with_reducible rw [bnd_s] | with_reducible rw [nmd_s] | with_reducible rw [bn2_s] | with_reducible rw [grd_t] | ((conv => arg 1; arg 1; simp (disch := omega) only [dw_lis ht, dw_lA0 ht, dw_lI1 ht, dw_lJ2 ht, dw_lJ3 ht, dw_lI4 ht, dw_lA5 ht, dw_lA6 ht, dw_lS1 ht, dw_lS2 ht, dw_lS3 ht, dw_lS4 ht, dw_lS5 ht, dw_lln ht, dw_laA ht, dw_lkn ht, dw_lkI ht, dw_lkS ht, dw_dis ht, dw_dI0 ht, dw_dI1 ht, dw_dI2 ht, dw_dI3 ht, dw_dI4 ht, dw_dI5 ht, dw_dI6 ht, dw_dS1 ht, dw_dS2 ht, dw_dS3 ht, dw_dS4 ht, dw_dS5 ht, dw_dS6 ht, dw_lsA0 h, dw_lsln h]); first | with_reducible rw [bnd_s] | with_reducible rw [bn2_s] | with_reducible rw [grd_t]))
    rw [if_neg (show ¬ (6 : Int32) ≤ nI i from nI_ge (b := 6) (by omega) (by omega))]
    repeat (first | with_reducible rw [bnd_s] | with_reducible rw [nmd_s] | with_reducible rw [bn2_s] | with_reducible rw [grd_t] | ((conv => arg 1; arg 1; simp (disch := omega) only [dw_lis ht, dw_lA0 ht, dw_lI1 ht, dw_lJ2 ht, dw_lJ3 ht, dw_lI4 ht, dw_lA5 ht, dw_lA6 ht, dw_lS1 ht, dw_lS2 ht, dw_lS3 ht, dw_lS4 ht, dw_lS5 ht, dw_lln ht, dw_laA ht, dw_lkn ht, dw_lkI ht, dw_lkS ht, dw_dis ht, dw_dI0 ht, dw_dI1 ht, dw_dI2 ht, dw_dI3 ht, dw_dI4 ht, dw_dI5 ht, dw_dI6 ht, dw_dS1 ht, dw_dS2 ht, dw_dS3 ht, dw_dS4 ht, dw_dS5 ht, dw_dS6 ht, dw_lsA0 h, dw_lsaA h (show i < 6 by omega), dw_Dbe ht h (show i < 6 by omega) (hw i (by omega)).2.2]); first | with_reducible rw [bnd_s] | with_reducible rw [bn2_s] | with_reducible rw [grd_t]))
    rw [nI_1]
    exact ih (i + 1) (by omega)
theorem dw_Lbe (ht : P.length = t) (h : dw_ls P Q t2 l2 m2 y2 ho2 cl2 s2 k2) (hw : dw_WFA s2) : L_become (dw_lh P t l m y ho cl s k Q) t (some t2) = some (dw_lh P t l2 m2 y2 ho2 cl2 s2 k Q, ()) := by
  rw [L_become]
  have g := dw_Lbe2 (l := l) (m := m) (y := y) (ho := ho) (cl := cl) (s := s) (k := k) ht h hw 993 6 0 rfl
  have e : dw_lh P t l2 m2 y2 ho2 cl2 (dw_cpn s s2 6) k Q = dw_lh P t l2 m2 y2 ho2 cl2 s2 k Q := by
    unfold dw_lh
    rw [dw_bk_cong (s := dw_cpn s s2 6) (s' := s2) (fun d hd f h1 h6 => by rw [dw_cpn_app _ _ _ _ h1 h6, if_pos hd])]
  rw [e] at g
  exact g
end LK
