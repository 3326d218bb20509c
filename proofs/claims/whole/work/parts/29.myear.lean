/-! THE MIDDLE PICTURE: what a year keeps -/
def dw_WFA (s : dw_L) : Prop := ∀ d, d < 6 → dw_WF1 (s d)
def dw_Dead (m : Nat) (s : dw_L) : Prop := ∀ o, m ≤ o → o < 6 → s o 6 = 1
theorem dw_WF_set3 {s : dw_L} (h : dw_WFA s) (i : Nat) (x : Int32) : dw_WFA (dw_set s i 3 (dw_bd x 0 39)) := by
  intro d hd
  obtain ⟨h1, h2, h3⟩ := h d hd
  obtain ⟨c, hc, hcc⟩ := dw_bd_nI (x := x) (M := 39) (n := 39) rfl (by decide)
  refine ⟨?_, ?_, ?_⟩
  · by_cases hi : d = i
    · exact ⟨c, by omega, by rw [dw_set_app, if_pos ⟨hi, rfl⟩, hcc]⟩
    · rw [dw_set_app, if_neg (fun q => hi q.1)]
      exact h1
  · rw [dw_set_app, if_neg (fun q => absurd q.2 (by decide))]
    exact h2
  · rw [dw_set_app, if_neg (fun q => absurd q.2 (by decide))]
    exact h3
theorem dw_WF_set5 {s : dw_L} (h : dw_WFA s) (i : Nat) (x : Int32) : dw_WFA (dw_set s i 5 x) := by
  intro d hd
  obtain ⟨h1, h2, h3⟩ := h d hd
  refine ⟨?_, ?_, ?_⟩
  · rw [dw_set_app, if_neg (fun q => absurd q.2 (by decide))]
    exact h1
  · rw [dw_set_app, if_neg (fun q => absurd q.2 (by decide))]
    exact h2
  · rw [dw_set_app, if_neg (fun q => absurd q.2 (by decide))]
    exact h3
theorem dw_WF_set6 {s : dw_L} (h : dw_WFA s) (i : Nat) {x : Int32} (hx : x = 0 ∨ x = 1) : dw_WFA (dw_set s i 6 x) := by
  intro d hd
  obtain ⟨h1, h2, h3⟩ := h d hd
  refine ⟨?_, ?_, ?_⟩
  · rw [dw_set_app, if_neg (fun q => absurd q.2 (by decide))]
    exact h1
  · rw [dw_set_app, if_neg (fun q => absurd q.2 (by decide))]
    exact h2
  · rw [dw_set_app]
    by_cases hi : d = i ∧ 6 = 6
    · rw [if_pos hi]
      exact hx
    · rw [if_neg hi]
      exact h3
theorem dw_WF_take1 {s : dw_L} (h : dw_WFA s) (i o : Nat) : dw_WFA (dw_take1 i o s) := by
  unfold dw_take1
  by_cases c1 : o = i
  · rw [if_pos c1]
    exact h
  rw [if_neg c1]
  by_cases c2 : s o 6 = 0
  · rw [if_pos c2]
    by_cases c3 : dw_yds (s o 3) (s o 4) &&& dw_yds (s i 3) (s i 4) = 0
    · rw [if_pos c3]
      exact h
    rw [if_neg c3]
    by_cases c4 : s i 5 < s o 5
    · rw [if_pos c4]
      exact h
    rw [if_neg c4]
    exact dw_WF_set5 (dw_WF_set6 h o (.inr rfl)) i _
  · rw [if_neg c2]
    exact h
theorem dw_WF_take {s : dw_L} (h : dw_WFA s) (i : Nat) : ∀ k, dw_WFA (dw_take i s k)
  | 0 => h
  | k + 1 => dw_WF_take1 (dw_WF_take h i k) i k
theorem dw_WF_g2 {s : dw_L} (h : dw_WFA s) (w : dw_W) (cl : Int64) (yr : Int32) (i : Nat) : dw_WFA (dw_g2 w cl yr i s) := dw_WF_take (dw_WF_set3 h i _) i 6
theorem dw_WF_g3 {s : dw_L} (h : dw_WFA s) (w : dw_W) (cl : Int64) (yr : Int32) (i : Nat) : dw_WFA (dw_g3 w cl yr i s) := dw_WF_set5 (dw_WF_g2 h w cl yr i) i _
theorem dw_WF_go1 {s : dw_L} (h : dw_WFA s) (w : dw_W) (cl : Int64) (yr : Int32) (i : Nat) : dw_WFA (dw_go1 w cl yr i s) := by
  refine dw_WF_set6 (dw_WF_g3 h w cl yr i) i ?_
  by_cases c : dw_need w cl yr (dw_g3 w cl yr i s i) ≤ dw_g3 w cl yr i s i 5
  · rw [if_pos c]
    exact .inl rfl
  · rw [if_neg c]
    exact .inr rfl
theorem dw_WF_turn {s : dw_L} (h : dw_WFA s) (w : dw_W) (cl : Int64) (yr : Int32) : ∀ k, dw_WFA (dw_turn w cl yr s k)
  | 0 => h
  | k + 1 => by
    have ih := dw_WF_turn h w cl yr k
    rw [dw_turn]
    by_cases c : dw_turn w cl yr s k k 6 = 0
    · rw [if_pos c]
      exact dw_WF_go1 ih w cl yr k
    · rw [if_neg c]
      exact ih
theorem dw_Dead_set {s : dw_L} {m : Nat} (h : dw_Dead m s) {i f : Nat} (x : Int32) (hi : i < m) : dw_Dead m (dw_set s i f x) := by
  intro o ho ho2
  rw [dw_set_app, if_neg (fun q => by omega)]
  exact h o ho ho2
/-- nobody of number m or more is met -/
theorem dw_take1_dead {s : dw_L} {m : Nat} (h : dw_Dead m s) {i o : Nat} (ho : m ≤ o) (ho6 : o < 6) : dw_take1 i o s = s := by
  unfold dw_take1
  by_cases c1 : o = i
  · rw [if_pos c1]
  · rw [if_neg c1, if_neg (fun q => dw_10n ((h o ho ho6).symm.trans q))]
theorem dw_Dead_take1 {s : dw_L} {m : Nat} (h : dw_Dead m s) {i o : Nat} (hi : i < m) : dw_Dead m (dw_take1 i o s) := by
  unfold dw_take1
  by_cases c1 : o = i
  · rw [if_pos c1]
    exact h
  rw [if_neg c1]
  by_cases c2 : s o 6 = 0
  · rw [if_pos c2]
    by_cases c3 : dw_yds (s o 3) (s o 4) &&& dw_yds (s i 3) (s i 4) = 0
    · rw [if_pos c3]
      exact h
    rw [if_neg c3]
    by_cases c4 : s i 5 < s o 5
    · rw [if_pos c4]
      exact h
    rw [if_neg c4]
    refine dw_Dead_set ?_ _ hi
    intro j hj hj2
    rw [dw_set_app]
    by_cases c5 : j = o ∧ 6 = 6
    · rw [if_pos c5]
    · rw [if_neg c5]
      exact h j hj hj2
  · rw [if_neg c2]
    exact h
theorem dw_Dead_take {s : dw_L} {m : Nat} (h : dw_Dead m s) {i : Nat} (hi : i < m) : ∀ k, dw_Dead m (dw_take i s k)
  | 0 => h
  | k + 1 => dw_Dead_take1 (dw_Dead_take h hi k) hi
theorem dw_take_stop {s : dw_L} {m : Nat} (h : dw_Dead m s) {i : Nat} (hi : i < m) : ∀ k, m + k ≤ 6 → dw_take i s (m + k) = dw_take i s m
  | 0, _ => rfl
  | k + 1, hk => by
    have ih := dw_take_stop h hi k (by omega)
    rw [show m + (k + 1) = m + k + 1 from rfl, dw_take, ih]
    exact dw_take1_dead (dw_Dead_take h hi m) (by omega) (by omega)
theorem dw_take6 {s : dw_L} {m : Nat} (h : dw_Dead m s) {i : Nat} (hi : i < m) (hm : m ≤ 6) : dw_take i s 6 = dw_take i s m := by
  have h1 := dw_take_stop h hi (6 - m) (by omega)
  rwa [show m + (6 - m) = 6 by omega] at h1
theorem dw_Dead_go1 {s : dw_L} {m : Nat} (h : dw_Dead m s) (w : dw_W) (cl : Int64) (yr : Int32) {i : Nat} (hi : i < m) : dw_Dead m (dw_go1 w cl yr i s) := dw_Dead_set (dw_Dead_set (dw_Dead_take (s := dw_g1 w cl yr i s) (dw_Dead_set h _ hi) hi 6) _ hi) _ hi
theorem dw_Dead_turn {s : dw_L} {m : Nat} (h : dw_Dead m s) (w : dw_W) (cl : Int64) (yr : Int32) : ∀ k, k ≤ m → dw_Dead m (dw_turn w cl yr s k)
  | 0, _ => h
  | k + 1, hk => by
    have ih := dw_Dead_turn h w cl yr k (by omega)
    rw [dw_turn]
    by_cases c : dw_turn w cl yr s k k 6 = 0
    · rw [if_pos c]
      exact dw_Dead_go1 ih w cl yr (by omega)
    · rw [if_neg c]
      exact ih
theorem dw_turn_stop {s : dw_L} {m : Nat} (h : dw_Dead m s) (w : dw_W) (cl : Int64) (yr : Int32) : ∀ k, m + k ≤ 6 → dw_turn w cl yr s (m + k) = dw_turn w cl yr s m
  | 0, _ => rfl
  | k + 1, hk => by
    have ih := dw_turn_stop h w cl yr k (by omega)
    rw [show m + (k + 1) = m + k + 1 from rfl, dw_turn, ih, if_neg (fun q => dw_10n ((dw_Dead_turn h w cl yr m (Nat.le_refl m) (m + k) (by omega) (by omega)).symm.trans q))]
theorem dw_turn6 {s : dw_L} {m : Nat} (h : dw_Dead m s) (w : dw_W) (cl : Int64) (yr : Int32) (hm : m ≤ 6) : dw_turn w cl yr s 6 = dw_turn w cl yr s m := by
  have h1 := dw_turn_stop h w cl yr (6 - m) (by omega)
  rwa [show m + (6 - m) = 6 by omega] at h1
theorem dw_live6 {s : dw_L} {m : Nat} (h : dw_Dead m s) : ∀ k, m + k ≤ 6 → dw_live s (m + k) = dw_live s m
  | 0, _ => rfl
  | k + 1, hk => by
    have ih := dw_live6 h k (by omega)
    rw [show m + (k + 1) = m + k + 1 from rfl, dw_live, ih, if_neg (fun q => dw_10n ((h (m + k) (by omega) (by omega)).symm.trans q))]
    simp
theorem dw_sand6 {s : dw_L} {m : Nat} (h : dw_Dead m s) : ∀ k, m + k ≤ 6 → dw_sand s (m + k) = dw_sand s m
  | 0, _ => rfl
  | k + 1, hk => by
    have ih := dw_sand6 h k (by omega)
    rw [show m + (k + 1) = m + k + 1 from rfl, dw_sand, ih, if_neg (fun q => dw_10n ((h (m + k) (by omega) (by omega)).symm.trans q))]
    simp
theorem dw_take1_own6 (s : dw_L) (i o : Nat) : dw_take1 i o s i 6 = s i 6 := by
  unfold dw_take1
  by_cases c1 : o = i
  · rw [if_pos c1]
  rw [if_neg c1]
  by_cases c2 : s o 6 = 0
  · rw [if_pos c2]
    by_cases c3 : dw_yds (s o 3) (s o 4) &&& dw_yds (s i 3) (s i 4) = 0
    · rw [if_pos c3]
    rw [if_neg c3]
    by_cases c4 : s i 5 < s o 5
    · rw [if_pos c4]
    rw [if_neg c4, dw_set_app, if_neg (fun q => absurd q.2 (by decide)), dw_set_app, if_neg (fun q => c1 q.1.symm)]
  · rw [if_neg c2]
theorem dw_take_own6 (s : dw_L) (i : Nat) : ∀ k, dw_take i s k i 6 = s i 6
  | 0 => rfl
  | k + 1 => by rw [dw_take, dw_take1_own6, dw_take_own6 s i k]
theorem dw_set_same (s : dw_L) {i f : Nat} {v : Int32} (h : s i f = v) : dw_set s i f v = s := by
  funext j k
  rw [dw_set_app]
  by_cases c : j = i ∧ k = f
  · rw [if_pos c, c.1, c.2, h]
  · rw [if_neg c]
theorem dw_g3_own6 (w : dw_W) (cl : Int64) (yr : Int32) (i : Nat) (s : dw_L) : dw_g3 w cl yr i s i 6 = s i 6 := by
  rw [dw_g3, dw_set_app, if_neg (fun q => absurd q.2 (by decide)), dw_g2, dw_take_own6, dw_g1, dw_set_app, if_neg (fun q => absurd q.2 (by decide))]
/-! THE REFERENCE: one year -/
def dw_Rel (s : dw_L) (m : Nat) (X : dw_X) (R G : Nat → Int32) : Prop := ∀ d, d < m → dw_MD X R G d (s d)
theorem dw_Rel_set3 {s : dw_L} {m : Nat} {X : dw_X} {R G : Nat → Int32} (h : dw_Rel s m X R G) (i : Nat) (v : Int32) : dw_Rel (dw_set s i 3 v) m X (upd R (3 * i) v) G := by
  intro d hd
  obtain ⟨h3, h4, h5, h6, h1, h2⟩ := h d hd
  by_cases hi : d = i
  · subst hi
    refine ⟨?_, ?_, ?_, ?_, ?_, ?_⟩ <;> simp [dw_set_app, upd_app, *]
  · refine ⟨?_, ?_, ?_, ?_, ?_, ?_⟩
    · rw [dw_set_app, if_neg (fun q => hi q.1), upd_app, if_neg (by omega), h3]
    · rw [dw_set_app, if_neg (fun q => hi q.1), upd_app, if_neg (by omega), h4]
    · rw [dw_set_app, if_neg (fun q => hi q.1), upd_app, if_neg (by omega), h5]
    · rw [dw_set_app, if_neg (fun q => hi q.1), h6]
    · rw [dw_set_app, if_neg (fun q => hi q.1), h1]
    · rw [dw_set_app, if_neg (fun q => hi q.1), h2]
theorem dw_Rel_set5 {s : dw_L} {m : Nat} {X : dw_X} {R G : Nat → Int32} (h : dw_Rel s m X R G) (i : Nat) (v : Int32) : dw_Rel (dw_set s i 5 v) m X (upd R (3 * i + 2) v) G := by
  intro d hd
  obtain ⟨h3, h4, h5, h6, h1, h2⟩ := h d hd
  by_cases hi : d = i
  · subst hi
    refine ⟨?_, ?_, ?_, ?_, ?_, ?_⟩ <;> simp [dw_set_app, upd_app, *]
  · refine ⟨?_, ?_, ?_, ?_, ?_, ?_⟩
    · rw [dw_set_app, if_neg (fun q => hi q.1), upd_app, if_neg (by omega), h3]
    · rw [dw_set_app, if_neg (fun q => hi q.1), upd_app, if_neg (by omega), h4]
    · rw [dw_set_app, if_neg (fun q => hi q.1), upd_app, if_neg (by omega), h5]
    · rw [dw_set_app, if_neg (fun q => hi q.1), h6]
    · rw [dw_set_app, if_neg (fun q => hi q.1), h1]
    · rw [dw_set_app, if_neg (fun q => hi q.1), h2]
theorem dw_Rel_set6 {s : dw_L} {m : Nat} {X : dw_X} {R G : Nat → Int32} (h : dw_Rel s m X R G) (i : Nat) (v : Int32) : dw_Rel (dw_set s i 6 v) m X R (upd G i v) := by
  intro d hd
  obtain ⟨h3, h4, h5, h6, h1, h2⟩ := h d hd
  by_cases hi : d = i
  · subst hi
    refine ⟨?_, ?_, ?_, ?_, ?_, ?_⟩ <;> simp [dw_set_app, upd_app, *]
  · refine ⟨?_, ?_, ?_, ?_, ?_, ?_⟩
    · rw [dw_set_app, if_neg (fun q => hi q.1), h3]
    · rw [dw_set_app, if_neg (fun q => hi q.1), h4]
    · rw [dw_set_app, if_neg (fun q => hi q.1), h5]
    · rw [dw_set_app, if_neg (fun q => hi q.1), upd_app, if_neg hi, h6]
    · rw [dw_set_app, if_neg (fun q => hi q.1), h1]
    · rw [dw_set_app, if_neg (fun q => hi q.1), h2]
/-- it answers v; rows and gone are as s then -/
def dw_Et {α : Type} (o : Option (pm_H × α)) (X : dw_X) (s : dw_L) (m : Nat) (y : Int32) (v : α) : Prop := ∃ R G S N, o = some (dw_mk X R G S N y, v) ∧ dw_Rel s m X R G
def dw_Z {α : Type} (o : α) (P : α → Prop) : Prop := P o
