def pm_le (a b : pm_H) : Prop := a.length ≤ b.length ∧ pm_sl a ≤ pm_sl b
theorem pm_le_rf (a : pm_H) : pm_le a a := ⟨Nat.le_refl _, Nat.le_refl _⟩
theorem pm_le.tr {a b c : pm_H} (h : pm_le a b) (k : pm_le b c) : pm_le a c := ⟨Nat.le_trans h.1 k.1, Nat.le_trans h.2 k.2⟩
theorem pm_le_set {h : pm_H} {k : Nat} {c c0 : pm_C} (hk : h[k]? = some c0) (hz : pm_sz c = pm_sz c0) : pm_le h (h.set k c) := ⟨by rw [List.length_set]; exact Nat.le_refl _, by rw [pm_sl_set hk hz]; exact Nat.le_refl _⟩
theorem pm_le_app (h : pm_H) (c : pm_C) : pm_le h (h ++ [c]) := ⟨by simp, by rw [pm_sl_app]; omega⟩
theorem pm_step_le {C : pm_R} {mi pc : Nat} {i : Instr} {L S : List Value} {h hF : pm_H} {Z : Option Value → pm_H → Prop} (hC : ∀ m as h r h', C m as h r h' → pm_le h h') (hZ : ∀ r h, Z r h → pm_le h hF) (hs : pm_step C mi i pc L S h (fun _ _ _ h => pm_le h hF) Z) : pm_le h hF := by
  cases i with
  | putfield k =>
    obtain ⟨a, v, S', e', ci, f, fs, ty, -, h1, h2, h3, h4, h5, h6, h7, k1⟩ := hs
    exact (pm_le_set h2 (by simp [pm_sz])).tr k1
  | iastore =>
    obtain ⟨x, i, a, S', n, f, -, h1, h2, k1⟩ := hs
    exact (pm_le_set h1 (by rfl)).tr k1
  | bastore =>
    obtain ⟨x, i, a, S', n, f, -, h1, h2, k1⟩ := hs
    exact (pm_le_set h1 (by rfl)).tr k1
  | lastore =>
    obtain ⟨x, i, a, S', n, f, -, h1, h2, k1⟩ := hs
    exact (pm_le_set h1 (by rfl)).tr k1
  | aastore =>
    obtain ⟨v, i, a, S', t, k, f, vs, -, ht, h1, h2, h3, k1⟩ := hs
    exact (pm_le_set h1 (by rfl)).tr k1
  | newarray at_ =>
    obtain ⟨z, S', -, h1, h2, k1⟩ := hs
    rcases k1 with ⟨-, k1⟩ | ⟨-, k1⟩ | ⟨-, k1⟩ <;> exact (pm_le_app _ _).tr k1
  | anewarray k =>
    obtain ⟨z, S', t, e', -, h1, h2, ht, h3, k1⟩ := hs
    exact (pm_le_app _ _).tr k1
  | new k =>
    obtain ⟨ci, e', h3, k1⟩ := hs
    exact (pm_le_app _ _).tr k1
  | invokevirtual k =>
    rcases hs with ⟨m', e', q', as, S', b, fs, r, h', t1, t2, t3, t4, t5, t6, t7, t8⟩ | ⟨m', e', q', as, S', j, r, h', t1, t2, t3, t4, t5, t6, t7, t8⟩
    · exact (hC _ _ _ _ _ t7).tr t8
    · exact (hC _ _ _ _ _ t7).tr t8
  | ldc k => rcases hs with ⟨_, _, k1⟩ | ⟨_, _, _, k1⟩ <;> exact k1
  | getstatic k => rcases hs with ⟨_, _, k1⟩ | ⟨_, _, k1⟩ <;> exact k1
  | getfield k => rcases hs with ⟨_, _, _, _, _, _, _, _, _, _, _, k1⟩ | ⟨_, _, _, _, _, _, k1⟩ | ⟨_, _, _, _, _, _, k1⟩ <;> exact k1
  | baload => rcases hs with ⟨_, _, _, _, _, _, _, _, k1⟩ | ⟨_, _, _, _, _, _, k1⟩ <;> exact k1
  | arraylength => rcases hs with ⟨_, _, _, _, _, _, _, k1⟩ | ⟨_, _, _, _, k1⟩ <;> exact k1
  | invokespecial k =>
    rcases hs with ⟨a, S', e', t1, t2, t3, t4⟩ | ⟨kd, m', e', q', as, S', b, h', t1, t2, t3, t4, t5, t6, t7, t8⟩
    · exact t4
    · exact (hC _ _ _ _ _ t7).tr t8
  | invokestatic k =>
    rcases hs with ⟨kd, m', e', q', as, S', r, h', t1, t2, t3, t4, t5, t6, t7, t8⟩ | ⟨x, y, S', e', t1, t2, t3, t4⟩ | ⟨sp, dp, nn, a, b, S', e', k0, k1, f, g, t1, t2, t3, t4, t5, t6, t7, t8, t9, t10, t11⟩
    · exact (hC _ _ _ _ _ t7).tr t8
    · exact t4
    · exact (pm_le_set t5 (by rfl)).tr t11
  | ifCond cnd off =>
    obtain ⟨t, x, S', h1, -, k1, k2⟩ := hs
    by_cases hP : pm_cmp cnd x 0
    · exact k1 hP
    · exact k2 hP
  | if_icmp cnd off =>
    obtain ⟨t, x, y, S', h1, -, k1, k2⟩ := hs
    by_cases hP : pm_cmp cnd x y
    · exact k1 hP
    · exact k2 hP
  | ifnull off =>
    obtain ⟨t, v, S', h1, -, h2, k1, k2⟩ := hs
    by_cases hP : v = .null
    · exact k1 hP
    · exact k2 hP
  | ifnonnull off =>
    obtain ⟨t, v, S', h1, -, h2, k1, k2⟩ := hs
    by_cases hP : v = .null
    · exact k2 hP
    · exact k1 hP
  | ireturn => obtain ⟨_, _, _, _, _, _, _, k1⟩ := hs; exact hZ _ _ k1
  | lreturn => obtain ⟨_, _, _, _, _, k1⟩ := hs; exact hZ _ _ k1
  | areturn => obtain ⟨_, _, _, _, _, _, _, _, k1⟩ := hs; exact hZ _ _ k1
  | return_ => obtain ⟨_, _, _, _, k1⟩ := hs; exact hZ _ _ k1
  | _ => first
    | exact hs
    | exact False.elim hs
    | (obtain ⟨_, k1⟩ := hs; exact k1)
    | (obtain ⟨_, _, k1⟩ := hs; exact k1)
    | (obtain ⟨_, _, _, k1⟩ := hs; exact k1)
    | (obtain ⟨_, _, _, _, k1⟩ := hs; exact k1)
    | (obtain ⟨_, _, _, _, _, k1⟩ := hs; exact k1)
    | (obtain ⟨_, _, _, _, _, _, k1⟩ := hs; exact k1)
    | (obtain ⟨_, _, _, _, _, _, _, k1⟩ := hs; exact k1)
    | (obtain ⟨_, _, _, _, _, _, _, _, k1⟩ := hs; exact k1)
    | (obtain ⟨_, _, _, _, _, _, _, _, _, k1⟩ := hs; exact k1)
    | (obtain ⟨_, _, _, _, _, _, _, _, _, _, k1⟩ := hs; exact k1)
    | (obtain ⟨_, _, _, _, _, _, _, _, _, _, _, k1⟩ := hs; exact k1)
    | (obtain ⟨_, _, _, _, _, _, _, _, _, _, _, _, k1⟩ := hs; exact k1)
theorem pm_ev_le : ∀ (d mi : Nat) (as : List Value) (h : pm_H) (r : Option Value) (h' : pm_H), pm_ev d mi as h r h' → pm_le h h'
  | 0, _, _, _, _, _, hev => hev.elim
  | d + 1, mi, as, h, r, h', hev => by
    obtain ⟨q, hq, hlen, hrun⟩ := hev
    exact hrun (fun _ _ _ h => pm_le h h') (fun pc L S h i n hf hs => pm_step_le (pm_ev_le d) (fun r h ⟨_, e⟩ => e ▸ pm_le_rf _) hs)
/-- THE PURE MACHINE IS SOUND -/
theorem pm_sound (l : Launch) : ∀ d : Nat, pm_Snd l d
  | 0 => fun _ _ _ _ _ hev => hev.elim
  | d + 1 => fun mi as h r h' hev => by
    refine ⟨pm_ev_le (d + 1) mi as h r h' hev, fun D cA ρ q hq hinj hnx => ?_⟩
    obtain ⟨q', hq', hlen, hrun⟩ := hev
    cases hq.symm.trans hq'
    have hm := List.mem_of_getElem? hq
    obtain ⟨n1, n2, n3, n4, n5, n6⟩ := pm_MT_q hm
    have n7 := pm_MT_N q hm
    refine Met.ofW (cc := q.2.1) (maxL := q.2.2.1) (ret := q.2.2.2.1) n1 rfl ?_
    intro p e s m args below meth c s₁ B hml hv
    obtain ⟨rfl, hP, hsz, hK, hext⟩ := hv
    have hts := atoms_spec (ws := pm_ws q) B.pre
    have hall : ∀ w ∈ pm_all, w.before _ s = true := fun w hw => hts w (List.mem_cons_of_mem _ hw)
    have hC : pm_S p s m (as.map (pm_val ρ)).toArray meth c mi q D cA ρ h := ⟨hq, B.exec, B.bytes, hml, findClass_of_methodNamed B.named, hts, B.notSynchronized, B.returns, (name_of_methodNamed B.named B.method).1, hK, hinj, hsz, hnx, hext, fun w hw => hall w (pm_fix_in w hw)⟩
    have G := hrun (pm_G p l e s m (as.map (pm_val ρ)).toArray below meth c q D cA ρ (d + 1) h h' (pm_Qm below D cA ρ h' h r (as.map (pm_val ρ)).toArray s)) (fun pc L S h2 i n hf hs => pm_snd_step hC (pm_sound l d) hf hs)
    have w := (G ⟨Nat.le_refl _, Nat.le_refl _⟩).2 s.heap [] _ (pm_lok_in hlen) ⟨hP, va_S.rf, hsz⟩
    rw [Nat.sub_self, Nat.sub_self] at w
    rw [lg_entry_eq]
    exact w
