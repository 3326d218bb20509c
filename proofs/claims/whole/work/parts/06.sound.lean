/-! what holds in a walk of method mi (its row q), begun at the pure heap h0 -/
def pm_tys (cA : Nat → ClassId) : List (ClassId × FieldType) := [(cA 0, .int), (cA 1, .long), (cA 2, .byte), (cA 3, .object RX0), (cA 5, .object RX2), (cA 6, .object RX3)]
def pm_all : List Cond := lw_tbl.filter goodWord
def pm_ws (q : pm_M) : List Cond := Cond.code q.1 q.2.1 q.2.2.1 q.2.2.2.1 :: pm_all
def pm_isN : Cond → Bool
  | .methodLinkNest _ _ _ _ => true
  | _ => false
def pm_nst : List Cond := lw_tbl.filter pm_isN
def pm_rm (d a b : Nat) : Room := { frames := d, cells := a, slots := b, locals := 64 * d }
/-- what the tables say beyond a method's words -/
def pm_str (ρ : pm_N) (U : State) (H : Heap) : Prop :=
  (∀ j, j < 12 → ∃ a b, ρ.2 j = some a ∧ ρ.2 (100 + j) = some b ∧ va_O "java/lang/String" a (pm_A ρ) U H ∧ va_OF "java/lang/String" "coder" "B" (.int 0) a (pm_A ρ) U H ∧ va_OF "java/lang/String" "value" "[B" (.ref b) a (pm_A ρ) U H ∧ va_T .byte b (pm_slen j) (fun k => .int (pm_sch j k)) (pm_A ρ) U H) ∧
  va_Z "java/lang/String" "COMPACT_STRINGS" "Z" (.int 1) (pm_A ρ) U H ∧ va_Z "jdk/internal/util/Preconditions" "SIOOBE_FORMATTER" "Ljava/util/function/BiFunction;" (va_rf (ρ.2 999)) (pm_A ρ) U H ∧
  ∀ (o : String) (k j e : Nat), lw_tbl[e]? = some (.stringRef o k (pm_ST.getD j "")) → j < 12 → ∀ a, ρ.2 j = some a → vk_R o k (pm_ST.getD j "") a U
def pm_ext (ρ : pm_N) (U : State) : Prop := ((∀ w ∈ pm_nst, va_Nw w U) ∧ ∀ (t : Nat) (r : vw_C), pm_et t → vwCl[t]? = some r → va_AO r.1 U) ∧ pm_str ρ U U.heap
/-- words that no table asks for -/
def pm_fix : List Cond := [.initialized "java/lang/Math", .static Lib.Math.min.name, .code Lib.Math.min.name Lib.Math.min.code 2 (some .int), .initialized "java/lang/System", .static arraycopyName, .native arraycopyName, .instanceMethod objectInit, .code objectInit ⟨#[0xb1]⟩ 1 none, .arrayClass .int, .arrayClass .byte, .arrayClass .long]
theorem pm_in_all {w : Cond} (h : w ∈ lw_tbl) (g : goodWord w = true) : w ∈ pm_all := List.mem_filter.mpr ⟨h, g⟩
theorem pm_at_of {α : Type} {T : List (List (Nat × α))} {c i : Nat} {v : α} (h : pm_at T c i = some v) : ∃ l, T[c]? = some l ∧ (i, v) ∈ l := by
  unfold pm_at at h
  split at h
  · rename_i l hl
    refine ⟨l, hl, ?_⟩
    clear hl
    induction l with
    | nil => simp at h
    | cons a t ih =>
      rw [List.lookup_cons] at h
      split at h
      · rename_i he
        cases h
        have : i = a.1 := by simpa using he
        subst this
        exact List.mem_cons_self
      · exact List.mem_cons_of_mem _ (ih h)
  · cases h
theorem pm_zip {α : Type} {A : List String} {T : List α} {c : Nat} {o : String} {l : α} (h1 : A[c]? = some o) (h2 : T[c]? = some l) : (o, l) ∈ List.zip A T :=
  List.mem_of_getElem? (i := c) (by rw [List.getElem?_zip_eq_some]; exact ⟨h1, h2⟩)
theorem pm_MT_own {mi : Nat} {q : pm_M} (h : pm_MT[mi]? = some q) : pm_cl mi = q.2.2.2.2.1 ∧ pm_RN[pm_cl mi]? = some q.1.cls := by
  have h1 := pm_MT_N q (List.mem_of_getElem? h)
  simp only [pm_okN, Bool.and_eq_true, decide_eq_true_eq] at h1
  have e : pm_cl mi = q.2.2.2.2.1 := by simp [pm_cl, h]
  exact ⟨e, by rw [e]; exact h1.1.1.1.2⟩
theorem pm_fetch_ok {mi pc n : Nat} {i : Instr} {q : pm_M} (h : pm_MT[mi]? = some q) (hf : pm_fetch mi pc = some (i, n)) : decode q.2.1 pc = .ok (i, n) ∧ pm_len i n = true := by
  have h1 := pm_MT_C q (List.mem_of_getElem? h)
  simp only [pm_fetch, h] at hf
  have h2 : (pc, i, n) ∈ q.2.2.2.2.2.2 := by
    have : pm_at [q.2.2.2.2.2.2] 0 pc = some (i, n) := hf
    obtain ⟨l, hl, hm⟩ := pm_at_of this
    cases hl
    exact hm
  have h3 := List.all_eq_true.mp h1 _ h2
  simp only [Bool.and_eq_true, decide_eq_true_eq] at h3
  exact h3
theorem pm_all_all {α : Type} {A : List String} {T : List (List α)} {chk : String → α → Bool} (h : (List.zip A T).all (fun q => q.2.all (chk q.1)) = true) {c : Nat} {o : String} {l : List α} {e : α} (h1 : A[c]? = some o) (h2 : T[c]? = some l) (h3 : e ∈ l) : chk o e = true :=
  List.all_eq_true.mp (List.all_eq_true.mp h _ (pm_zip h1 h2)) _ h3
theorem pm_fT_ok {mi k ci f e : Nat} {q : pm_M} (h : pm_MT[mi]? = some q) (hf : pm_at pm_fT (pm_cl mi) k = some (ci, f, e)) : ∃ r, vwCl[ci]? = some r ∧ f < r.2.2 ∧ Cond.fieldLink q.1.cls k (r.2.1 f).1 (r.2.1 f).2.1 (r.2.1 f).2.2.1 ∈ pm_all := by
  obtain ⟨l, hl, hm⟩ := pm_at_of hf
  have h1 := pm_all_all pm_chk_f (pm_MT_own h).2 hl hm
  simp only [pm_okF] at h1
  split at h1
  · rename_i r hr
    simp only [Bool.and_eq_true, decide_eq_true_eq] at h1
    exact ⟨r, hr, h1.1, pm_in_all (List.mem_of_getElem? h1.2) rfl⟩
  · cases h1
/-- a class of the system, by its number -/
theorem pm_cls {ci : Nat} {r : vw_C} (h : vwCl[ci]? = some r) : (∀ w ∈ u_ws r.1 r.2.1 r.2.2, w ∈ pm_all) ∧ (∀ a, a < r.2.2 → ∀ b, b < r.2.2 → a ≠ b → (r.2.1 a).2.1 ≠ (r.2.1 b).2.1) ∧ (∀ k, k < r.2.2 → (r.2.1 k).1 = r.1) ∧ (∀ k, k < r.2.2 → ∃ t, parseFieldDescriptor (r.2.1 k).2.2.1 = some t) := by
  have key : ∀ (C : String) (T : u_T) (N : Nat), (∀ w ∈ u_ws C T N, w ∈ lw_tbl) → ∀ w ∈ u_ws C T N, w ∈ pm_all := by
    intro C T N h w hw
    refine pm_in_all (h w hw) ?_
    obtain ⟨k, -, rfl⟩ := List.mem_map.mp hw
    unfold u_lay
    split <;> rfl
  match ci, h with
  | 0, h => cases h; exact ⟨key _ _ _ inX0, nmX0, by decide +kernel, fun k hk => ⟨_, tyX0_ok k hk⟩⟩
  | 1, h => cases h; exact ⟨key _ _ _ inX1, nmX1, by decide +kernel, fun k hk => ⟨_, tyX1_ok k hk⟩⟩
  | 2, h => cases h; exact ⟨key _ _ _ inX2, nmX2, by decide +kernel, fun k hk => ⟨_, tyX2_ok k hk⟩⟩
  | 3, h => cases h; exact ⟨key _ _ _ inX3, nmX3, by decide +kernel, fun k hk => ⟨_, tyX3_ok k hk⟩⟩
  | 4, h => cases h; exact ⟨key _ _ _ inX4, nmX4, by decide +kernel, fun k hk => ⟨_, tyX4_ok k hk⟩⟩
  | 5, h => cases h; exact ⟨key _ _ _ inX5, nmX5, by decide +kernel, fun k hk => ⟨_, tyX5_ok k hk⟩⟩
  | 6, h => cases h; exact ⟨key _ _ _ inX6, nmX6, by decide +kernel, fun k hk => ⟨_, tyX6_ok k hk⟩⟩
  | n + 7, h => simp [vwCl] at h
abbrev pm_S (p : Program) (s : State) (m : MethodId) (args : Array Value) (meth : Method) (c : Code) (mi : Nat) (q : pm_M) (D : va_G) (cA : Nat → ClassId) (ρ : pm_N) (h0 : pm_H) : Prop :=
  pm_MT[mi]? = some q ∧ p.tables.exec = Jvm.exec ∧ c.code = q.2.1 ∧ c.maxLocals = q.2.2.1 ∧ s.vm.findClass q.1.cls = some m.cls ∧ (∀ w ∈ pm_ws q, w.before args s = true) ∧ meth.locks = false ∧ meth.sig.returnType = q.2.2.2.1 ∧ meth.name = q.1.name ∧ va_K D vwCl (pm_tys cA) s ∧ (∀ i j, ρ.1 i = ρ.1 j → i = j) ∧ s.heap.size = ρ.1 h0.length ∧ (∀ k, h0.length ≤ k → ρ.1 (k + 1) = ρ.1 k + 1) ∧ pm_ext ρ s ∧ ∀ w ∈ pm_fix, w.before args s = true
abbrev pm_Rel (s : State) (D : va_G) (cA : Nat → ClassId) (ρ : pm_N) (h : pm_H) (H : Heap) (locs : List Loc) : Prop :=
  va_P D vwCl (pm_W ρ cA h) H ∧ va_S (pm_A ρ) s.heap H locs ∧ H.size = ρ.1 h.length
def pm_G (p : Program) (l : Launch) (e : Env) (s : State) (m : MethodId) (args : Array Value) (below : List Frame) (meth : Method) (c : Code) (q : pm_M) (D : va_G) (cA : Nat → ClassId) (ρ : pm_N) (d : Nat) (h0 hF : pm_H) (Q : State → Prop) : pm_K := fun pc L S h =>
  h0.length ≤ h.length ∧ pm_sl h0 ≤ pm_sl h → (h.length ≤ hF.length ∧ pm_sl h ≤ pm_sl hF) ∧ ∀ (H : Heap) (locs : List Loc) (ls : Array Slot), pm_lok ρ ls q.2.2.1 L → pm_Rel s D cA ρ h H locs →
    W p l e (pm_rm d (hF.length - h0.length) (pm_sl hF - pm_sl h0)) s m args below meth c H locs (h.length - h0.length) (pm_sl h - pm_sl h0) Q (F0 m pc ls (S.map (pm_val ρ)))
section PMS
variable {p : Program} {l : Launch} {e : Env} {s : State} {m : MethodId} {args : Array Value} {below : List Frame} {meth : Method} {c : Code} {Q : State → Prop}
variable {q : pm_M} {D : va_G} {cA : Nat → ClassId} {ρ : pm_N} {d mi : Nat} {h0 hF : pm_H}
/-- a step that leaves the heap -/
theorem pm_pass {pc pc' : Nat} {L S S' : List Value} {h : pm_H} (k : pm_G p l e s m args below meth c q D cA ρ d h0 hF Q pc' L S' h)
    (f : ∀ (H : Heap) (locs : List Loc) (ls : Array Slot) (R : Room) (n1 n2 : Nat), pm_lok ρ ls q.2.2.1 L → pm_Rel s D cA ρ h H locs → W p l e R s m args below meth c H locs n1 n2 Q (F0 m pc' ls (S'.map (pm_val ρ))) → W p l e R s m args below meth c H locs n1 n2 Q (F0 m pc ls (S.map (pm_val ρ)))) :
    pm_G p l e s m args below meth c q D cA ρ d h0 hF Q pc L S h :=
  fun hb => ⟨(k hb).1, fun H locs ls hl hR => f H locs ls _ _ _ hl hR ((k hb).2 H locs ls hl hR)⟩
/-- .. with two ways on -/
theorem pm_fork {P : Prop} {pc pc1 pc2 : Nat} {L S S' : List Value} {h : pm_H} (k1 : P → pm_G p l e s m args below meth c q D cA ρ d h0 hF Q pc1 L S' h) (k2 : ¬ P → pm_G p l e s m args below meth c q D cA ρ d h0 hF Q pc2 L S' h)
    (f : ∀ (H : Heap) (locs : List Loc) (ls : Array Slot) (R : Room) (n1 n2 : Nat), (P → W p l e R s m args below meth c H locs n1 n2 Q (F0 m pc1 ls (S'.map (pm_val ρ)))) → (¬ P → W p l e R s m args below meth c H locs n1 n2 Q (F0 m pc2 ls (S'.map (pm_val ρ)))) → W p l e R s m args below meth c H locs n1 n2 Q (F0 m pc ls (S.map (pm_val ρ)))) :
    pm_G p l e s m args below meth c q D cA ρ d h0 hF Q pc L S h := by
  intro hb
  by_cases hP : P
  · exact ⟨(k1 hP hb).1, fun H locs ls hl hR => f H locs ls _ _ _ (fun _ => (k1 hP hb).2 H locs ls hl hR) (fun n => absurd hP n)⟩
  · exact ⟨(k2 hP hb).1, fun H locs ls hl hR => f H locs ls _ _ _ (fun n => absurd n hP) (fun _ => (k2 hP hb).2 H locs ls hl hR)⟩
/-- a step that stores a local -/
theorem pm_loc {pc pc' : Nat} {L L' S S' : List Value} {h : pm_H} (k : pm_G p l e s m args below meth c q D cA ρ d h0 hF Q pc' L' S' h)
    (f : ∀ (H : Heap) (locs : List Loc) (ls : Array Slot) (R : Room) (n1 n2 : Nat), pm_lok ρ ls q.2.2.1 L → (∀ ls', pm_lok ρ ls' q.2.2.1 L' → W p l e R s m args below meth c H locs n1 n2 Q (F0 m pc' ls' (S'.map (pm_val ρ)))) → W p l e R s m args below meth c H locs n1 n2 Q (F0 m pc ls (S.map (pm_val ρ)))) :
    pm_G p l e s m args below meth c q D cA ρ d h0 hF Q pc L S h :=
  fun hb => ⟨(k hb).1, fun H locs ls hl hR => f H locs ls _ _ _ hl (fun ls' hl' => (k hb).2 H locs ls' hl' hR)⟩
theorem pm_Rel.set {h : pm_H} {H H1 : Heap} {locs : List Loc} {a k : Nat} {c0 c1 : pm_C} (hC : pm_S p s m args meth c mi q D cA ρ h0) (hR : pm_Rel s D cA ρ h H locs) (ha : h[a]? = some c0) (hat : va_at D vwCl (ρ.1 a, pm_cell ρ cA c1) H1) (hz : H1.size = H.size) (ho : ∀ x : Nat, x ≠ ρ.1 a → H1[x]? = H[x]?) : pm_Rel s D cA ρ (h.set a c1) H1 (locs ++ [⟨ρ.1 a, k⟩]) := by
  obtain ⟨hP, hS, hsz⟩ := hR
  refine ⟨?_, hS.put hz ho ⟨a, rfl⟩, by rw [hz, hsz, List.length_set]⟩
  rw [pm_W_set]
  exact hP.set (pm_W_D hC.2.2.2.2.2.2.2.2.2.2.1) (pm_W_get ha) hat ho
/-- a step that writes a cell -/
theorem pm_put {pc pc' : Nat} {L S S' : List Value} {h : pm_H} {a : Nat} {c0 c1 : pm_C} (hC : pm_S p s m args meth c mi q D cA ρ h0) (ha : h[a]? = some c0) (hz : pm_sz c1 = pm_sz c0) (k : pm_G p l e s m args below meth c q D cA ρ d h0 hF Q pc' L S' (h.set a c1))
    (f : ∀ (H : Heap) (locs : List Loc) (ls : Array Slot) (R : Room) (n1 n2 : Nat), pm_Rel s D cA ρ h H locs → va_at D vwCl (ρ.1 a, pm_cell ρ cA c0) H → (∀ (H1 : Heap) (j : Nat), va_at D vwCl (ρ.1 a, pm_cell ρ cA c1) H1 → H1.size = H.size → (∀ x : Nat, x ≠ ρ.1 a → H1[x]? = H[x]?) → W p l e R s m args below meth c H1 (locs ++ [⟨ρ.1 a, j⟩]) n1 n2 Q (F0 m pc' ls (S'.map (pm_val ρ)))) → W p l e R s m args below meth c H locs n1 n2 Q (F0 m pc ls (S.map (pm_val ρ)))) :
    pm_G p l e s m args below meth c q D cA ρ d h0 hF Q pc L S h := by
  intro hb
  have e1 : (h.set a c1).length = h.length := List.length_set
  have e2 : pm_sl (h.set a c1) = pm_sl h := pm_sl_set ha hz
  have k' := k (by rw [e1, e2]; exact hb)
  rw [e1, e2] at k'
  exact ⟨k'.1, fun H locs ls hl hR => f H locs ls _ _ _ hR (hR.1 a _ (pm_W_get ha)) (fun H1 j h1 h2 h3 => k'.2 H1 _ ls hl (hR.set hC ha h1 h2 h3))⟩
/-- a step that makes a cell -/
theorem pm_make {pc pc' : Nat} {L S S' : List Value} {h : pm_H} {c1 : pm_C} (hC : pm_S p s m args meth c mi q D cA ρ h0) (k : pm_G p l e s m args below meth c q D cA ρ d h0 hF Q pc' L S' (h ++ [c1]))
    (f : ∀ (H : Heap) (locs : List Loc) (ls : Array Slot) (n1 n2 : Nat), H.size = ρ.1 h.length → n1 + 1 ≤ (pm_rm d (hF.length - h0.length) (pm_sl hF - pm_sl h0)).cells → n2 + pm_sz c1 ≤ (pm_rm d (hF.length - h0.length) (pm_sl hF - pm_sl h0)).slots → (∀ (H1 : Heap), va_at D vwCl (ρ.1 h.length, pm_cell ρ cA c1) H1 → H1.size = H.size + 1 → (∀ x : Nat, x < H.size → H1[x]? = H[x]?) → W p l e (pm_rm d (hF.length - h0.length) (pm_sl hF - pm_sl h0)) s m args below meth c H1 locs (n1 + 1) (n2 + pm_sz c1) Q (F0 m pc' ls (S'.map (pm_val ρ)))) → W p l e (pm_rm d (hF.length - h0.length) (pm_sl hF - pm_sl h0)) s m args below meth c H locs n1 n2 Q (F0 m pc ls (S.map (pm_val ρ)))) :
    pm_G p l e s m args below meth c q D cA ρ d h0 hF Q pc L S h := by
  intro hb
  obtain ⟨-, -, -, -, -, -, -, -, -, -, hinj, hsz, hnx, -, -⟩ := hC
  have e1 : (h ++ [c1]).length = h.length + 1 := by simp
  have e2 : pm_sl (h ++ [c1]) = pm_sl h + pm_sz c1 := pm_sl_app
  have k' := k (by rw [e1, e2]; omega)
  rw [e1, e2] at k'
  obtain ⟨⟨k1, k2⟩, k3⟩ := k'
  refine ⟨by omega, fun H locs ls hl hR => f H locs ls _ _ hR.2.2 (by show _ ≤ hF.length - h0.length; omega) (by show _ ≤ pm_sl hF - pm_sl h0; omega) (fun H1 h1 h2 h3 => ?_)⟩
  have k4 := k3 H1 locs ls hl ⟨?_, ⟨Nat.le_trans hR.2.1.1 (by omega), fun x h4 h5 => (h3 x (Nat.lt_of_lt_of_le h4 hR.2.1.1)).trans (hR.2.1.2.1 x h4 h5), hR.2.1.2.2⟩, by rw [h2, hR.2.2, e1]; exact (hnx _ hb.1).symm⟩
  · rw [show h.length + 1 - h0.length = h.length - h0.length + 1 by omega, show pm_sl h + pm_sz c1 - pm_sl h0 = pm_sl h - pm_sl h0 + pm_sz c1 by omega] at k4
    exact k4
  · rw [pm_W_app]
    refine (hR.1.kept (fun k x hx => h3 x.1 ((hR.1 k x hx).lt))).app (fun k x hx => ?_)
    have hz : k < 1 := (List.getElem?_eq_some_iff.mp hx).1
    rw [show k = 0 by omega] at hx
    cases hx
    exact h1
end PMS
