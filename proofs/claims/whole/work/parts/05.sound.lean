/-! THE PURE MACHINE IS SOUND: what it says of a call is a contract of that method -/
theorem pm_W_get {ρ : pm_N} {cA : Nat → ClassId} {h : pm_H} {k : Nat} {c : pm_C} (hk : h[k]? = some c) : (pm_W ρ cA h)[k]? = some (ρ.1 k, pm_cell ρ cA c) := by
  simp [pm_W, List.getElem?_mapIdx, hk]
theorem pm_W_of {ρ : pm_N} {cA : Nat → ClassId} {h : pm_H} {k : Nat} {q : Nat × va_E} (hk : (pm_W ρ cA h)[k]? = some q) : ∃ c, h[k]? = some c ∧ q = (ρ.1 k, pm_cell ρ cA c) := by
  simp only [pm_W, List.getElem?_mapIdx, Option.map_eq_some_iff] at hk
  obtain ⟨c, h1, h2⟩ := hk
  exact ⟨c, h1, h2.symm⟩
theorem pm_W_set {ρ : pm_N} {cA : Nat → ClassId} {h : pm_H} {k : Nat} {c : pm_C} : pm_W ρ cA (h.set k c) = (pm_W ρ cA h).set k (ρ.1 k, pm_cell ρ cA c) := by
  apply List.ext_getElem?
  intro i
  simp only [pm_W, List.getElem?_mapIdx, List.getElem?_set, List.length_mapIdx]
  by_cases hik : k = i
  · subst hik
    by_cases hl : k < h.length <;> simp [hl]
  · simp [hik]
theorem pm_W_app {ρ : pm_N} {cA : Nat → ClassId} {h : pm_H} {c : pm_C} : pm_W ρ cA (h ++ [c]) = pm_W ρ cA h ++ [(ρ.1 h.length, pm_cell ρ cA c)] := by
  simp [pm_W, List.mapIdx_append]
theorem pm_W_len {ρ : pm_N} {cA : Nat → ClassId} {h : pm_H} : (pm_W ρ cA h).length = h.length := by simp [pm_W]
def pm_A (ρ : pm_N) : Nat → Prop := fun a => ∃ k, a = ρ.1 k
theorem pm_W_D {ρ : pm_N} {cA : Nat → ClassId} {h : pm_H} (inj : ∀ i j, ρ.1 i = ρ.1 j → i = j) : va_D (pm_A ρ) (pm_W ρ cA h) := by
  refine ⟨fun i j p q hi hj hpq => ?_, fun k q hk => ?_⟩
  · obtain ⟨c, -, rfl⟩ := pm_W_of hi
    obtain ⟨c', -, rfl⟩ := pm_W_of hj
    exact inj i j hpq
  · obtain ⟨c, -, rfl⟩ := pm_W_of hk
    exact ⟨k, rfl⟩
theorem pm_sl_set {h : pm_H} {k : Nat} {c c0 : pm_C} (hk : h[k]? = some c0) (hz : pm_sz c = pm_sz c0) : pm_sl (h.set k c) = pm_sl h := by
  have e : (h.set k c).map pm_sz = h.map pm_sz := by
    apply List.ext_getElem?
    intro i
    simp only [List.getElem?_map, List.getElem?_set]
    by_cases hik : k = i
    · subst hik
      have hl := (List.getElem?_eq_some_iff.mp hk).1
      have h2 := (List.getElem?_eq_some_iff.mp hk).2
      rw [if_pos rfl, if_pos hl, hk]
      simp [hz]
    · simp [hik]
  simp only [pm_sl, e]
theorem pm_sl_app {h : pm_H} {c : pm_C} : pm_sl (h ++ [c]) = pm_sl h + pm_sz c := by simp [pm_sl]
/-- the locals -/
def pm_lok (ρ : pm_N) (ls : Array Slot) (n : Nat) (L : List Value) : Prop := ls.size = n ∧ L.length = n ∧ lv_wf ls ∧ ∀ (i : Nat) (v : Value), L[i]? = some v → v ≠ pm_J → ls[i]? = some (.val (pm_val ρ v))
def pm_ll (ρ : pm_N) (L : List Value) : List (Nat × Value) := (L.zipIdx.filter (fun q => decide (q.1 ≠ pm_J))).map (fun q => (q.2, pm_val ρ q.1))
theorem pm_ll_mem {ρ : pm_N} {L : List Value} {i : Nat} {v : Value} (h : L[i]? = some v) (hj : v ≠ pm_J) : (i, pm_val ρ v) ∈ pm_ll ρ L := by
  refine List.mem_map.mpr ⟨(v, i), List.mem_filter.mpr ⟨?_, by simpa using hj⟩, rfl⟩
  exact List.mem_zipIdx_iff_getElem?.mpr h
theorem pm_ll_of {ρ : pm_N} {L : List Value} {q : Nat × Value} (h : q ∈ pm_ll ρ L) : ∃ v, L[q.1]? = some v ∧ v ≠ pm_J ∧ q.2 = pm_val ρ v := by
  obtain ⟨⟨v, i⟩, h1, rfl⟩ := List.mem_map.mp h
  obtain ⟨h2, h3⟩ := List.mem_filter.mp h1
  exact ⟨v, List.mem_zipIdx_iff_getElem?.mp h2, by simpa using h3, rfl⟩
theorem pm_lok.has {ρ : pm_N} {ls : Array Slot} {n : Nat} {L : List Value} (h : pm_lok ρ ls n L) : lv_has ls n (pm_ll ρ L) := by
  refine ⟨h.1, h.2.2.1, fun q hq => ?_⟩
  obtain ⟨v, h1, h2, h3⟩ := pm_ll_of hq
  rw [h3]
  exact h.2.2.2 _ v h1 h2
theorem pm_val_cat (ρ : pm_N) (v : Value) : (pm_val ρ v).category = v.category := by
  cases v with
  | retAddr j => show (va_rf (ρ.2 j)).category = 1; cases ρ.2 j <;> rfl
  | _ => rfl
theorem pm_cut_len (L : List Value) (i : Nat) : (pm_cut L i).length = L.length := by
  cases i with
  | zero => rfl
  | succ j => simp only [pm_cut]; split <;> simp
theorem pm_cut_get {L : List Value} {i j : Nat} {v : Value} (h : (pm_cut L i)[j]? = some v) (hj : v ≠ pm_J) : L[j]? = some v ∧ ¬ (j + 1 = i ∧ v.category = 2) := by
  cases i with
  | zero => exact ⟨h, fun q => by omega⟩
  | succ k =>
    simp only [pm_cut] at h
    split at h
    · rename_i x hx
      rw [List.getElem?_set] at h
      by_cases e : k = j
      · subst e
        rw [if_pos rfl] at h
        split at h
        · exact absurd (Option.some.inj h).symm hj
        · cases h
      · rw [if_neg e] at h
        exact ⟨h, fun q => e (by omega)⟩
    · rename_i x hx
      rw [List.getElem?_set] at h
      by_cases e : k = j
      · subst e
        rw [if_pos rfl] at h
        split at h
        · exact absurd (Option.some.inj h).symm hj
        · cases h
      · rw [if_neg e] at h
        exact ⟨h, fun q => e (by omega)⟩
    · rename_i hx1 hx2
      refine ⟨h, fun ⟨q1, q2⟩ => ?_⟩
      have e : j = k := by omega
      subst e
      cases v <;> simp [Value.category] at q2
      · exact hx1 _ h
      · exact hx2 _ h
theorem pm_lok.st1 {ρ : pm_N} {ls ls' : Array Slot} {n : Nat} {L : List Value} {i : Nat} {v : Value} (h : pm_lok ρ ls n L) (h' : lv_has ls' n ((i, pm_val ρ v) :: (pm_ll ρ L).filter (fun q => !(q.1 == i) && !(q.1 + 1 == i && q.2.category == 2)))) : pm_lok ρ ls' n (pm_st1 L i v) := by
  refine ⟨h'.1, by simp [pm_st1, pm_cut_len, h.2.1], h'.2.1, fun j w hj hw => ?_⟩
  simp only [pm_st1, List.getElem?_set] at hj
  by_cases e : i = j
  · subst e
    rw [if_pos rfl] at hj
    split at hj
    · cases hj
      exact h'.2.2 _ List.mem_cons_self
    · cases hj
  · rw [if_neg e] at hj
    obtain ⟨h1, h2⟩ := pm_cut_get hj hw
    refine h'.2.2 (j, pm_val ρ w) (List.mem_cons_of_mem _ (List.mem_filter.mpr ⟨pm_ll_mem h1 hw, ?_⟩))
    simp only [pm_val_cat]
    have e' : ¬ j = i := fun q => e q.symm
    by_cases e2 : j + 1 = i
    · have : ¬ w.category = 2 := fun q => h2 ⟨e2, q⟩
      simp [e', this]
    · simp [e', e2]
theorem pm_lok.st2 {ρ : pm_N} {ls ls' : Array Slot} {n : Nat} {L : List Value} {i : Nat} {v : Value} (h : pm_lok ρ ls n L) (h' : lv_has ls' n ((i, pm_val ρ v) :: (pm_ll ρ L).filter (fun q => !(q.1 == i) && (!(q.1 == i + 1) && !(q.1 + 1 == i && q.2.category == 2))))) : pm_lok ρ ls' n (pm_st2 L i v) := by
  refine ⟨h'.1, by simp [pm_st2, pm_cut_len, h.2.1], h'.2.1, fun j w hj hw => ?_⟩
  simp only [pm_st2, List.getElem?_set] at hj
  by_cases e1 : i + 1 = j
  · subst e1
    rw [if_pos rfl] at hj
    split at hj
    · exact absurd (Option.some.inj hj).symm hw
    · cases hj
  rw [if_neg e1] at hj
  by_cases e : i = j
  · subst e
    rw [if_pos rfl] at hj
    split at hj
    · cases hj
      exact h'.2.2 _ List.mem_cons_self
    · cases hj
  · rw [if_neg e] at hj
    obtain ⟨h1, h2⟩ := pm_cut_get hj hw
    refine h'.2.2 (j, pm_val ρ w) (List.mem_cons_of_mem _ (List.mem_filter.mpr ⟨pm_ll_mem h1 hw, ?_⟩))
    simp only [pm_val_cat]
    have e' : ¬ j = i := fun q => e q.symm
    have e1' : ¬ j = i + 1 := fun q => e1 q.symm
    by_cases e2 : j + 1 = i
    · have : ¬ w.category = 2 := fun q => h2 ⟨e2, q⟩
      simp [e', e1', this]
    · simp [e', e1', e2]
theorem pm_ar_args {ρ : pm_N} : ∀ (as : List Value) (k : Nat) (i : Nat) (v : Value), (pm_ar as)[i]? = some v → v ≠ pm_J → (k + i, pm_val ρ v) ∈ lv_args k (as.map (pm_val ρ))
  | [], _, _, _, h, _ => by simp [pm_ar] at h
  | a :: l, k, i, v, h, hv => by
    have two : ∀ (a' : Value), a'.category = 2 → pm_val ρ a' = a' → (a' :: pm_J :: pm_ar l)[i]? = some v → (k + i, pm_val ρ v) ∈ lv_args k (List.map (pm_val ρ) (a' :: l)) := by
      intro a' hc he h
      simp only [List.map_cons, lv_args, he, hc]
      match i, h with
      | 0, h => simp at h; subst h; rw [he]; exact List.mem_cons_self
      | 1, h => simp at h; exact absurd h.symm hv
      | i + 2, h =>
        have := pm_ar_args (ρ := ρ) l (k + 2) i v (by simpa using h) hv
        rw [show k + (i + 2) = k + 2 + i by omega]
        exact List.mem_cons_of_mem _ (by simpa using this)
    have one : ∀ (a' : Value), a'.category = 1 → (a' :: pm_ar l)[i]? = some v → (k + i, pm_val ρ v) ∈ lv_args k (List.map (pm_val ρ) (a' :: l)) := by
      intro a' hc h
      simp only [List.map_cons, lv_args, pm_val_cat, hc]
      match i, h with
      | 0, h => simp at h; subst h; exact List.mem_cons_self
      | i + 1, h =>
        have := pm_ar_args (ρ := ρ) l (k + 1) i v (by simpa using h) hv
        rw [show k + (i + 1) = k + 1 + i by omega]
        exact List.mem_cons_of_mem _ (by simpa using this)
    cases a <;> first | exact two _ rfl rfl h | exact one _ rfl h
theorem pm_ar_len {ρ : pm_N} : ∀ as : List Value, (lg_sl (as.map (pm_val ρ))).length = (pm_ar as).length
  | [] => rfl
  | a :: l => by
    have ih := pm_ar_len (ρ := ρ) l
    simp only [lg_sl] at ih
    simp only [lg_sl, List.map_cons, List.flatMap_cons, List.length_append, pm_val_cat, ih]
    cases a <;> simp [pm_ar, Value.category] <;> omega
theorem pm_lok_in {ρ : pm_N} {as : List Value} {n : Nat} (h : (pm_ar as).length ≤ n) : pm_lok ρ ((lg_sl (as.map (pm_val ρ)) ++ List.replicate (n - (lg_sl (as.map (pm_val ρ))).length) Slot.unset).toArray) n (pm_in n as) := by
  have hl := lv_entry (as.map (pm_val ρ)) (n := n) (by rw [pm_ar_len]; exact h)
  refine ⟨hl.1, by simp [pm_in]; omega, hl.2.1, fun i v hi hv => ?_⟩
  refine hl.2.2 (i, pm_val ρ v) ?_
  have h1 : (pm_ar as)[i]? = some v := by
    simp only [pm_in, List.getElem?_append] at hi
    split at hi
    · exact hi
    · rw [List.getElem?_replicate] at hi
      split at hi
      · exact absurd (Option.some.inj hi).symm hv
      · cases hi
  have := pm_ar_args (ρ := ρ) as 0 i v h1 hv
  rwa [Nat.zero_add] at this
