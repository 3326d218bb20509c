/-! fewer locals; deeper calls -/
def pm_wk : List Value → List Value → Prop
  | [], [] => True
  | v :: L, w :: L' => (w = pm_J ∨ v = w) ∧ pm_wk L L'
  | _, _ => False
theorem wk_rf : ∀ L : List Value, pm_wk L L
  | [] => trivial
  | _ :: L => ⟨.inr rfl, wk_rf L⟩
theorem wk_len : ∀ {L L' : List Value}, pm_wk L L' → L.length = L'.length
  | [], [], _ => rfl
  | _ :: _, _ :: _, h => congrArg (· + 1) (wk_len h.2)
theorem wk_get : ∀ {L L' : List Value} {i : Nat} {v : Value}, pm_wk L L' → L'[i]? = some v → v ≠ pm_J → L[i]? = some v
  | [], [], _, _, _, h, _ => h
  | _ :: _, _ :: _, 0, _, h, hv, hj => by
    simp only [List.getElem?_cons_zero, Option.some.injEq] at hv ⊢
    subst hv
    exact h.1.resolve_left hj
  | _ :: L, _ :: L', i + 1, _, h, hv, hj => by
    simp only [List.getElem?_cons_succ] at hv ⊢
    exact wk_get h.2 hv hj
theorem wk_set : ∀ {L L' : List Value} {i : Nat} {v w : Value}, (w = pm_J ∨ v = w) → pm_wk L L' → pm_wk (L.set i v) (L'.set i w)
  | [], [], _, _, _, _, _ => trivial
  | _ :: _, _ :: _, 0, _, _, hv, h => ⟨hv, h.2⟩
  | _ :: _, _ :: _, i + 1, _, _, hv, h => ⟨h.1, wk_set hv h.2⟩
theorem wk_setJ : ∀ {L L' : List Value} {i : Nat}, pm_wk L L' → (∀ w, L'[i]? = some w → w = pm_J) → pm_wk (L.set i pm_J) L'
  | [], [], _, _, _ => trivial
  | _ :: _, _ :: _, 0, h, hj => ⟨.inl (hj _ rfl), h.2⟩
  | _ :: _, _ :: _, i + 1, h, hj => ⟨h.1, wk_setJ h.2 (fun w hw => hj w (by simpa using hw))⟩
theorem wk_cut {L L' : List Value} (h : pm_wk L L') : ∀ i : Nat, pm_wk (pm_cut L i) (pm_cut L' i)
  | 0 => h
  | j + 1 => by
    cases hv : L'[j]? with
    | none =>
      have h1 : L[j]? = none := by
        rw [List.getElem?_eq_none_iff] at hv ⊢
        rw [wk_len h]; exact hv
      simp only [pm_cut, hv, h1]
      exact h
    | some w =>
      by_cases hj : w = pm_J
      · subst hj
        have e2 : pm_cut L' (j + 1) = L' := by simp only [pm_cut, hv]
        rw [e2]
        have key : pm_wk (L.set j pm_J) L' := wk_setJ h (fun w hw => by rw [hv] at hw; exact (Option.some.inj hw).symm)
        simp only [pm_cut]
        split
        · exact key
        · exact key
        · exact h
      · have h1 := wk_get h hv hj
        simp only [pm_cut, hv, h1]
        cases w <;> first | exact h | exact wk_set (.inr rfl) h
theorem wk_st1 {L L' : List Value} {i : Nat} {v : Value} (h : pm_wk L L') : pm_wk (pm_st1 L i v) (pm_st1 L' i v) := wk_set (.inr rfl) (wk_cut h i)
theorem wk_st2 {L L' : List Value} {i : Nat} {v : Value} (h : pm_wk L L') : pm_wk (pm_st2 L i v) (pm_st2 L' i v) := wk_set (.inr rfl) (wk_set (.inr rfl) (wk_cut h i))
theorem pm_weak_step {C : pm_R} {mi : Nat} {i : Instr} {pc : Nat} {L L' S : List Value} {h : pm_H} {K : pm_K} {Z : Option Value → pm_H → Prop} (hw : pm_wk L L') (hs : pm_step C mi i pc L' S h K Z) : pm_step C mi i pc L S h (fun pc L S h => ∃ L', pm_wk L L' ∧ K pc L' S h) Z := by
  cases i with
  | aload_n z =>
    obtain ⟨x0, y0, y1, k1⟩ := hs
    exact ⟨x0, wk_get hw y0 (fun q => by subst q; cases y1), y1, ⟨_, hw, k1⟩⟩
  | aload z =>
    obtain ⟨x0, y0, y1, k1⟩ := hs
    exact ⟨x0, wk_get hw y0 (fun q => by subst q; cases y1), y1, ⟨_, hw, k1⟩⟩
  | iload_n z =>
    obtain ⟨x0, y0, k1⟩ := hs
    exact ⟨x0, wk_get hw y0 (fun q => by cases q), ⟨_, hw, k1⟩⟩
  | iload z =>
    obtain ⟨x0, y0, k1⟩ := hs
    exact ⟨x0, wk_get hw y0 (fun q => by cases q), ⟨_, hw, k1⟩⟩
  | lload_n z =>
    obtain ⟨x0, y0, k1⟩ := hs
    exact ⟨x0, wk_get hw y0 (fun q => by cases q), ⟨_, hw, k1⟩⟩
  | lload z =>
    obtain ⟨x0, y0, k1⟩ := hs
    exact ⟨x0, wk_get hw y0 (fun q => by cases q), ⟨_, hw, k1⟩⟩
  | istore_n z =>
    obtain ⟨x0, x1, y0, y1, k1⟩ := hs
    exact ⟨x0, x1, y0, by rw [wk_len hw]; exact y1, ⟨_, wk_st1 hw, k1⟩⟩
  | istore z =>
    obtain ⟨x0, x1, y0, y1, k1⟩ := hs
    exact ⟨x0, x1, y0, by rw [wk_len hw]; exact y1, ⟨_, wk_st1 hw, k1⟩⟩
  | lstore_n z =>
    obtain ⟨x0, x1, y0, y1, k1⟩ := hs
    exact ⟨x0, x1, y0, by rw [wk_len hw]; exact y1, ⟨_, wk_st2 hw, k1⟩⟩
  | lstore z =>
    obtain ⟨x0, x1, y0, y1, k1⟩ := hs
    exact ⟨x0, x1, y0, by rw [wk_len hw]; exact y1, ⟨_, wk_st2 hw, k1⟩⟩
  | astore_n z =>
    obtain ⟨x0, x1, y0, y1, y2, k1⟩ := hs
    exact ⟨x0, x1, y0, y1, by rw [wk_len hw]; exact y2, ⟨_, wk_st1 hw, k1⟩⟩
  | astore z =>
    obtain ⟨x0, x1, y0, y1, y2, k1⟩ := hs
    exact ⟨x0, x1, y0, y1, by rw [wk_len hw]; exact y2, ⟨_, wk_st1 hw, k1⟩⟩
  | iinc z1 z2 =>
    obtain ⟨x0, y0, k1⟩ := hs
    exact ⟨x0, wk_get hw y0 (fun q => by cases q), ⟨_, wk_st1 hw, k1⟩⟩
  | ldc_w z =>
    obtain ⟨x0, y0, k1⟩ := hs
    exact ⟨x0, y0, ⟨_, hw, k1⟩⟩
  | ldc2_w z =>
    obtain ⟨x0, y0, k1⟩ := hs
    exact ⟨x0, y0, ⟨_, hw, k1⟩⟩
  | dup =>
    obtain ⟨x0, x1, y0, y1, k1⟩ := hs
    exact ⟨x0, x1, y0, y1, ⟨_, hw, k1⟩⟩
  | dup2 =>
    obtain ⟨x0, x1, x2, y0, y1, y2, k1⟩ := hs
    exact ⟨x0, x1, x2, y0, y1, y2, ⟨_, hw, k1⟩⟩
  | pop =>
    obtain ⟨x0, x1, y0, y1, k1⟩ := hs
    exact ⟨x0, x1, y0, y1, ⟨_, hw, k1⟩⟩
  | goto z =>
    obtain ⟨x0, y0, k1⟩ := hs
    exact ⟨x0, y0, ⟨_, hw, k1⟩⟩
  | tableswitch z1 z2 z3 z4 =>
    obtain ⟨x0, x1, x2, x3, y0, y1, y2, k1⟩ := hs
    exact ⟨x0, x1, x2, x3, y0, y1, y2, ⟨_, hw, k1⟩⟩
  | lookupswitch z1 z2 =>
    obtain ⟨x0, x1, x2, x3, y0, y1, y2, y3, k1⟩ := hs
    exact ⟨x0, x1, x2, x3, y0, y1, y2, y3, ⟨_, hw, k1⟩⟩
  | putfield z =>
    obtain ⟨x0, x1, x2, x3, x4, x5, x6, x7, y0, y1, y2, y3, y4, y5, y6, y7, k1⟩ := hs
    exact ⟨x0, x1, x2, x3, x4, x5, x6, x7, y0, y1, y2, y3, y4, y5, y6, y7, ⟨_, hw, k1⟩⟩
  | iaload =>
    obtain ⟨x0, x1, x2, x3, x4, y0, y1, y2, k1⟩ := hs
    exact ⟨x0, x1, x2, x3, x4, y0, y1, y2, ⟨_, hw, k1⟩⟩
  | laload =>
    obtain ⟨x0, x1, x2, x3, x4, y0, y1, y2, k1⟩ := hs
    exact ⟨x0, x1, x2, x3, x4, y0, y1, y2, ⟨_, hw, k1⟩⟩
  | aaload =>
    obtain ⟨x0, x1, x2, x3, x4, x5, y0, y1, y2, y3, k1⟩ := hs
    exact ⟨x0, x1, x2, x3, x4, x5, y0, y1, y2, y3, ⟨_, hw, k1⟩⟩
  | iastore =>
    obtain ⟨x0, x1, x2, x3, x4, x5, y0, y1, y2, k1⟩ := hs
    exact ⟨x0, x1, x2, x3, x4, x5, y0, y1, y2, ⟨_, hw, k1⟩⟩
  | bastore =>
    obtain ⟨x0, x1, x2, x3, x4, x5, y0, y1, y2, k1⟩ := hs
    exact ⟨x0, x1, x2, x3, x4, x5, y0, y1, y2, ⟨_, hw, k1⟩⟩
  | lastore =>
    obtain ⟨x0, x1, x2, x3, x4, x5, y0, y1, y2, k1⟩ := hs
    exact ⟨x0, x1, x2, x3, x4, x5, y0, y1, y2, ⟨_, hw, k1⟩⟩
  | aastore =>
    obtain ⟨x0, x1, x2, x3, x4, x5, x6, x7, y0, y1, y2, y3, y4, k1⟩ := hs
    exact ⟨x0, x1, x2, x3, x4, x5, x6, x7, y0, y1, y2, y3, y4, ⟨_, hw, k1⟩⟩
  | anewarray z =>
    obtain ⟨x0, x1, x2, x3, y0, y1, y2, y3, y4, k1⟩ := hs
    exact ⟨x0, x1, x2, x3, y0, y1, y2, y3, y4, ⟨_, hw, k1⟩⟩
  | new z =>
    obtain ⟨x0, x1, y0, k1⟩ := hs
    exact ⟨x0, x1, y0, ⟨_, hw, k1⟩⟩
  | iadd =>
    obtain ⟨x0, x1, x2, y0, k1⟩ := hs
    exact ⟨x0, x1, x2, y0, ⟨_, hw, k1⟩⟩
  | isub =>
    obtain ⟨x0, x1, x2, y0, k1⟩ := hs
    exact ⟨x0, x1, x2, y0, ⟨_, hw, k1⟩⟩
  | imul =>
    obtain ⟨x0, x1, x2, y0, k1⟩ := hs
    exact ⟨x0, x1, x2, y0, ⟨_, hw, k1⟩⟩
  | iand =>
    obtain ⟨x0, x1, x2, y0, k1⟩ := hs
    exact ⟨x0, x1, x2, y0, ⟨_, hw, k1⟩⟩
  | ior =>
    obtain ⟨x0, x1, x2, y0, k1⟩ := hs
    exact ⟨x0, x1, x2, y0, ⟨_, hw, k1⟩⟩
  | ixor =>
    obtain ⟨x0, x1, x2, y0, k1⟩ := hs
    exact ⟨x0, x1, x2, y0, ⟨_, hw, k1⟩⟩
  | ishl =>
    obtain ⟨x0, x1, x2, y0, k1⟩ := hs
    exact ⟨x0, x1, x2, y0, ⟨_, hw, k1⟩⟩
  | ishr =>
    obtain ⟨x0, x1, x2, y0, k1⟩ := hs
    exact ⟨x0, x1, x2, y0, ⟨_, hw, k1⟩⟩
  | iushr =>
    obtain ⟨x0, x1, x2, y0, k1⟩ := hs
    exact ⟨x0, x1, x2, y0, ⟨_, hw, k1⟩⟩
  | ladd =>
    obtain ⟨x0, x1, x2, y0, k1⟩ := hs
    exact ⟨x0, x1, x2, y0, ⟨_, hw, k1⟩⟩
  | lsub =>
    obtain ⟨x0, x1, x2, y0, k1⟩ := hs
    exact ⟨x0, x1, x2, y0, ⟨_, hw, k1⟩⟩
  | lmul =>
    obtain ⟨x0, x1, x2, y0, k1⟩ := hs
    exact ⟨x0, x1, x2, y0, ⟨_, hw, k1⟩⟩
  | land =>
    obtain ⟨x0, x1, x2, y0, k1⟩ := hs
    exact ⟨x0, x1, x2, y0, ⟨_, hw, k1⟩⟩
  | lor =>
    obtain ⟨x0, x1, x2, y0, k1⟩ := hs
    exact ⟨x0, x1, x2, y0, ⟨_, hw, k1⟩⟩
  | lxor =>
    obtain ⟨x0, x1, x2, y0, k1⟩ := hs
    exact ⟨x0, x1, x2, y0, ⟨_, hw, k1⟩⟩
  | lshl =>
    obtain ⟨x0, x1, x2, y0, k1⟩ := hs
    exact ⟨x0, x1, x2, y0, ⟨_, hw, k1⟩⟩
  | lshr =>
    obtain ⟨x0, x1, x2, y0, k1⟩ := hs
    exact ⟨x0, x1, x2, y0, ⟨_, hw, k1⟩⟩
  | lushr =>
    obtain ⟨x0, x1, x2, y0, k1⟩ := hs
    exact ⟨x0, x1, x2, y0, ⟨_, hw, k1⟩⟩
  | lcmp =>
    obtain ⟨x0, x1, x2, y0, k1⟩ := hs
    exact ⟨x0, x1, x2, y0, ⟨_, hw, k1⟩⟩
  | idiv =>
    obtain ⟨x0, x1, x2, y0, y1, k1⟩ := hs
    exact ⟨x0, x1, x2, y0, y1, ⟨_, hw, k1⟩⟩
  | irem =>
    obtain ⟨x0, x1, x2, y0, y1, k1⟩ := hs
    exact ⟨x0, x1, x2, y0, y1, ⟨_, hw, k1⟩⟩
  | ldiv =>
    obtain ⟨x0, x1, x2, y0, y1, k1⟩ := hs
    exact ⟨x0, x1, x2, y0, y1, ⟨_, hw, k1⟩⟩
  | lrem =>
    obtain ⟨x0, x1, x2, y0, y1, k1⟩ := hs
    exact ⟨x0, x1, x2, y0, y1, ⟨_, hw, k1⟩⟩
  | ineg =>
    obtain ⟨x0, x1, y0, k1⟩ := hs
    exact ⟨x0, x1, y0, ⟨_, hw, k1⟩⟩
  | i2l =>
    obtain ⟨x0, x1, y0, k1⟩ := hs
    exact ⟨x0, x1, y0, ⟨_, hw, k1⟩⟩
  | i2b =>
    obtain ⟨x0, x1, y0, k1⟩ := hs
    exact ⟨x0, x1, y0, ⟨_, hw, k1⟩⟩
  | i2s =>
    obtain ⟨x0, x1, y0, k1⟩ := hs
    exact ⟨x0, x1, y0, ⟨_, hw, k1⟩⟩
  | i2c =>
    obtain ⟨x0, x1, y0, k1⟩ := hs
    exact ⟨x0, x1, y0, ⟨_, hw, k1⟩⟩
  | l2i =>
    obtain ⟨x0, x1, y0, k1⟩ := hs
    exact ⟨x0, x1, y0, ⟨_, hw, k1⟩⟩
  | iconst z =>
    exact ⟨_, hw, hs⟩
  | bipush z =>
    exact ⟨_, hw, hs⟩
  | sipush z =>
    exact ⟨_, hw, hs⟩
  | lconst z =>
    exact ⟨_, hw, hs⟩
  | aconst_null =>
    exact ⟨_, hw, hs⟩
  | ifCond c off =>
    obtain ⟨t, x, S', h1, h2, h3, h4⟩ := hs
    exact ⟨t, x, S', h1, h2, fun a => ⟨_, hw, h3 a⟩, fun a => ⟨_, hw, h4 a⟩⟩
  | if_icmp c off =>
    obtain ⟨t, x, y, S', h1, h2, h3, h4⟩ := hs
    exact ⟨t, x, y, S', h1, h2, fun a => ⟨_, hw, h3 a⟩, fun a => ⟨_, hw, h4 a⟩⟩
  | ifnull off =>
    obtain ⟨t, x, S', h1, h2, h2', h3, h4⟩ := hs
    exact ⟨t, x, S', h1, h2, h2', fun a => ⟨_, hw, h3 a⟩, fun a => ⟨_, hw, h4 a⟩⟩
  | ifnonnull off =>
    obtain ⟨t, x, S', h1, h2, h2', h3, h4⟩ := hs
    exact ⟨t, x, S', h1, h2, h2', fun a => ⟨_, hw, h3 a⟩, fun a => ⟨_, hw, h4 a⟩⟩
  | ldc k =>
    rcases hs with ⟨x, h1, h2⟩ | ⟨x1, x2, h1, h2⟩
    · exact .inl ⟨x, h1, ⟨_, hw, h2⟩⟩
    · exact .inr ⟨x1, x2, h1, ⟨_, hw, h2⟩⟩
  | getstatic k =>
    rcases hs with ⟨x, h1, h2⟩ | ⟨x, h1, h2⟩
    · exact .inl ⟨x, h1, ⟨_, hw, h2⟩⟩
    · exact .inr ⟨x, h1, ⟨_, hw, h2⟩⟩
  | getfield k =>
    rcases hs with ⟨x1, x2, x3, x4, x5, x6, x7, h1, h2, h3, h4, h5⟩ | ⟨x1, x2, x3, h1, h2, h3, h4⟩ | ⟨x1, x2, x3, h1, h2, h3, h4⟩
    · exact .inl ⟨x1, x2, x3, x4, x5, x6, x7, h1, h2, h3, h4, ⟨_, hw, h5⟩⟩
    · exact .inr (.inl ⟨x1, x2, x3, h1, h2, h3, ⟨_, hw, h4⟩⟩)
    · exact .inr (.inr ⟨x1, x2, x3, h1, h2, h3, ⟨_, hw, h4⟩⟩)
  | baload =>
    rcases hs with ⟨x1, x2, x3, x4, x5, h1, h2, h3, h4⟩ | ⟨x1, x2, x3, h1, h2, h3, h4⟩
    · exact .inl ⟨x1, x2, x3, x4, x5, h1, h2, h3, ⟨_, hw, h4⟩⟩
    · exact .inr ⟨x1, x2, x3, h1, h2, h3, ⟨_, hw, h4⟩⟩
  | arraylength =>
    rcases hs with ⟨x1, x2, x3, x4, h1, h2, h3, h4⟩ | ⟨x1, x2, h1, h2, h3⟩
    · exact .inl ⟨x1, x2, x3, x4, h1, h2, h3, ⟨_, hw, h4⟩⟩
    · exact .inr ⟨x1, x2, h1, h2, ⟨_, hw, h3⟩⟩
  | newarray at_ =>
    obtain ⟨n, S', h1, h2, h3, h4⟩ := hs
    rcases h4 with h4 | h4 | h4
    · exact ⟨n, S', h1, h2, h3, .inl ⟨h4.1, ⟨_, hw, h4.2⟩⟩⟩
    · exact ⟨n, S', h1, h2, h3, .inr (.inl ⟨h4.1, ⟨_, hw, h4.2⟩⟩)⟩
    · exact ⟨n, S', h1, h2, h3, .inr (.inr ⟨h4.1, ⟨_, hw, h4.2⟩⟩)⟩
  | invokespecial k =>
    rcases hs with ⟨a, S', e, h1, h2, h3, h4⟩ | ⟨x1, x2, x3, x4, x5, x6, x7, x8, h1, h2, h3, h4, h5, h6, h7, h8⟩
    · exact .inl ⟨a, S', e, h1, h2, h3, ⟨_, hw, h4⟩⟩
    · exact .inr ⟨x1, x2, x3, x4, x5, x6, x7, x8, h1, h2, h3, h4, h5, h6, h7, ⟨_, hw, h8⟩⟩
  | invokevirtual k =>
    rcases hs with ⟨x1, x2, x3, x4, x5, x6, x7, x8, x9, h1, h2, h3, h4, h5, h6, h7, h8⟩ | ⟨x1, x2, x3, x4, x5, x6, x7, x8, h1, h2, h3, h4, h5, h6, h7, h8⟩
    · exact .inl ⟨x1, x2, x3, x4, x5, x6, x7, x8, x9, h1, h2, h3, h4, h5, h6, h7, ⟨_, hw, h8⟩⟩
    · exact .inr ⟨x1, x2, x3, x4, x5, x6, x7, x8, h1, h2, h3, h4, h5, h6, h7, ⟨_, hw, h8⟩⟩
  | invokestatic k =>
    rcases hs with ⟨x1, x2, x3, x4, x5, x6, x7, x8, h1, h2, h3, h4, h5, h6, h7, h8⟩ | ⟨x, y, S', e, h1, h2, h3, h4⟩ | ⟨x1, x2, x3, x4, x5, x6, x7, x8, x9, x10, x11, h1, h2, h3, h4, h5, h6, h7, h8, h9, h10, h11⟩
    · exact .inl ⟨x1, x2, x3, x4, x5, x6, x7, x8, h1, h2, h3, h4, h5, h6, h7, ⟨_, hw, h8⟩⟩
    · exact .inr (.inl ⟨x, y, S', e, h1, h2, h3, ⟨_, hw, h4⟩⟩)
    · exact .inr (.inr ⟨x1, x2, x3, x4, x5, x6, x7, x8, x9, x10, x11, h1, h2, h3, h4, h5, h6, h7, h8, h9, h10, ⟨_, hw, h11⟩⟩)
  | ireturn => exact hs
  | lreturn => exact hs
  | areturn => exact hs
  | return_ => exact hs
  | _ => exact False.elim hs
theorem pm_weak {C : pm_R} {mi pc : Nat} {L L' S : List Value} {h : pm_H} {Z : Option Value → pm_H → Prop} (hw : pm_wk L L') (hr : pm_run C mi pc L' S h Z) : pm_run C mi pc L S h Z := by
  refine hr (fun pc L' S h => ∀ L, pm_wk L L' → pm_run C mi pc L S h Z) (fun pc L' S h i n hf hs L hw => ?_) L hw
  exact pm_go hf (pm_mono (fun pc L S h ⟨L', h1, h2⟩ => h2 L h1) (pm_weak_step hw hs))
theorem pm_C_step {C C' : pm_R} (hC : ∀ m as h r h', C m as h r h' → C' m as h r h') {mi : Nat} {i : Instr} {pc : Nat} {L S : List Value} {h : pm_H} {K : pm_K} {Z : Option Value → pm_H → Prop} (hs : pm_step C mi i pc L S h K Z) : pm_step C' mi i pc L S h K Z := by
  cases i with
  | invokespecial k =>
    rcases hs with ⟨a, S', e, h1, h2, h3, h4⟩ | ⟨x1, x2, x3, x4, x5, x6, x7, x8, h1, h2, h3, h4, h5, h6, h7, h8⟩
    · exact .inl ⟨a, S', e, h1, h2, h3, h4⟩
    · exact .inr ⟨x1, x2, x3, x4, x5, x6, x7, x8, h1, h2, h3, h4, h5, h6, hC _ _ _ _ _ h7, h8⟩
  | invokevirtual k =>
    rcases hs with ⟨x1, x2, x3, x4, x5, x6, x7, x8, x9, h1, h2, h3, h4, h5, h6, h7, h8⟩ | ⟨x1, x2, x3, x4, x5, x6, x7, x8, h1, h2, h3, h4, h5, h6, h7, h8⟩
    · exact .inl ⟨x1, x2, x3, x4, x5, x6, x7, x8, x9, h1, h2, h3, h4, h5, h6, hC _ _ _ _ _ h7, h8⟩
    · exact .inr ⟨x1, x2, x3, x4, x5, x6, x7, x8, h1, h2, h3, h4, h5, h6, hC _ _ _ _ _ h7, h8⟩
  | invokestatic k =>
    rcases hs with ⟨x1, x2, x3, x4, x5, x6, x7, x8, h1, h2, h3, h4, h5, h6, h7, h8⟩ | h1 | h1
    · exact .inl ⟨x1, x2, x3, x4, x5, x6, x7, x8, h1, h2, h3, h4, h5, h6, hC _ _ _ _ _ h7, h8⟩
    · exact .inr (.inl h1)
    · exact .inr (.inr h1)
  | _ => exact hs
theorem pm_C_run {C C' : pm_R} (hC : ∀ m as h r h', C m as h r h' → C' m as h r h') {mi pc : Nat} {L S : List Value} {h : pm_H} {Z : Option Value → pm_H → Prop} (hr : pm_run C mi pc L S h Z) : pm_run C' mi pc L S h Z :=
  hr (fun pc L S h => pm_run C' mi pc L S h Z) (fun pc L S h i n hf hs => pm_go hf (pm_C_step hC hs))
theorem pm_ev_up : ∀ {d mi : Nat} {as : List Value} {h : pm_H} {r : Option Value} {h' : pm_H}, pm_ev d mi as h r h' → pm_ev (d + 1) mi as h r h'
  | 0, _, _, _, _, _, hev => hev.elim
  | d + 1, _, _, _, _, _, hev => by
    obtain ⟨q, hq, hlen, hrun⟩ := hev
    exact ⟨q, hq, hlen, pm_C_run (fun m as h r h' hc => pm_ev_up hc) hrun⟩
theorem pm_ev_to {d d' mi : Nat} {as : List Value} {h : pm_H} {r : Option Value} {h' : pm_H} (hd : d ≤ d') (hev : pm_ev d mi as h r h') : pm_ev d' mi as h r h' := by
  induction hd with
  | refl => exact hev
  | step _ ih => exact pm_ev_up ih
theorem pm_ev_mk {d mi : Nat} {as : List Value} {h : pm_H} {r : Option Value} {h' : pm_H} {L : List Value} (q : pm_M) (hq : pm_MT[mi]? = some q) (hl : (pm_ar as).length ≤ q.2.2.1) (hL : pm_in q.2.2.1 as = L) (hr : pm_run (pm_ev d) mi 0 L [] h (fun r1 h1 => r1 = r ∧ h1 = h')) : pm_ev (d + 1) mi as h r h' := by
  subst hL
  exact ⟨q, hq, hl, hr⟩
def bn2 {α β γ : Type} (o : Option (α × β)) (f : α → β → Option γ) : Option γ := match o with
  | some (a, b) => f a b
  | none => none
theorem bn2_some {α β γ : Type} {o : Option (α × β)} {f : α → β → Option γ} {r : γ} (h : bn2 o f = some r) : ∃ a b, o = some (a, b) ∧ f a b = some r := by
  cases o with
  | none => cases h
  | some x => exact ⟨x.1, x.2, rfl, h⟩
