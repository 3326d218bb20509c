def pm_Pc (D : va_G) (cA : Nat → ClassId) (ρ : pm_N) (h : pm_H) (as : List Value) : Array Value → State → Prop :=
  va_Pc (as.map (pm_val ρ)) (fun U => va_P D vwCl (pm_W ρ cA h) U.heap ∧ U.heap.size = ρ.1 h.length ∧ va_K D vwCl (pm_tys cA) U ∧ pm_ext ρ U)
def pm_Q (D : va_G) (cA : Nat → ClassId) (ρ : pm_N) (h' : pm_H) (r : Option Value) : Array Value → State → Outcome → State → Prop :=
  fun _ st o t => o = .returned (r.map (pm_val ρ)) ∧ va_P D vwCl (pm_W ρ cA h') t.heap ∧ t.heap.size = ρ.1 h'.length ∧ va_F (pm_A ρ) st t
theorem pm_nst_of {w : Cond} (h : w ∈ pm_nst) : ∃ a i x b, w = .methodLinkNest a i x b := by
  have h1 := (List.mem_filter.mp h).2
  cases w <;> first | exact ⟨_, _, _, _, rfl⟩ | cases h1
theorem pm_str.moved {ρ : pm_N} {u U : State} {H H1 : Heap} (hvm : u.vm.Alike U.vm) (hr : ∀ o k t a, vk_R o k t a u → vk_R o k t a U) (hq : ∀ a : Nat, a < H.size → ¬ pm_A ρ a → H1[a]? = H[a]?) (h : pm_str ρ u H) : pm_str ρ U H1 := by
  obtain ⟨h1, h2, h3, h4⟩ := h
  refine ⟨fun j hj => ?_, (h2.kept hq).moved hvm, (h3.kept hq).moved hvm, fun o k j e he hj a ha => hr _ _ _ _ (h4 o k j e he hj a ha)⟩
  obtain ⟨a, b, g1, g2, g3, g4, g5, g6⟩ := h1 j hj
  exact ⟨a, b, g1, g2, (g3.kept hq).moved hvm, (g4.kept hq).moved hvm, (g5.kept hq).moved hvm, (g6.kept hq).moved hvm⟩
theorem pm_ext_warm {ρ : pm_N} {s U : State} (hW : s.WarmedH U.vm) (hq : ∀ a : Nat, a < s.heap.size → ¬ pm_A ρ a → U.heap[a]? = s.heap[a]?) (h : pm_ext ρ s) : pm_ext ρ U := by
  refine ⟨⟨fun w hw => ?_, fun t r ht hr => (h.1.2 t r ht hr).moved hW.alike⟩, h.2.moved hW.alike (fun o k t a hk => hk.warm hW) hq⟩
  obtain ⟨a, i, x, b, rfl⟩ := pm_nst_of hw
  exact va_Nw.warmM hW (h.1.1 _ hw)
theorem pm_Pc_blind (D : va_G) (cA : Nat → ClassId) (ρ : pm_N) (h : pm_H) (as : List Value) : FrameBlind (pm_Pc D cA ρ h as) := by
  intro a U g mk ⟨h1, h2, h3, h4, h5⟩
  refine ⟨h1, h2, h3, va_K.moved (u := U) (U := U.calling g mk a) (Vm.Alike.refl U.vm) h4, ⟨fun w hw => ?_, fun t r ht hr => (h5.1.2 t r ht hr).moved (u := U) (U := U.calling g mk a) (Vm.Alike.refl U.vm)⟩, h5.2.moved (u := U) (U := U.calling g mk a) (Vm.Alike.refl U.vm) (fun o k t b hk => hk.same (U := U.calling g mk a) rfl) (fun _ _ _ => rfl)⟩
  obtain ⟨a', i, x, b, rfl⟩ := pm_nst_of hw
  exact va_Nw.same rfl rfl (h5.1.1 _ hw)
/-- what a call of d levels comes to, as a contract -/
def pm_Snd (l : Launch) (d : Nat) : Prop := ∀ (mi : Nat) (as : List Value) (h : pm_H) (r : Option Value) (h' : pm_H), pm_ev d mi as h r h' →
  (h.length ≤ h'.length ∧ pm_sl h ≤ pm_sl h') ∧ ∀ (D : va_G) (cA : Nat → ClassId) (ρ : pm_N) (q : pm_M), pm_MT[mi]? = some q → (∀ i j, ρ.1 i = ρ.1 j → i = j) → (∀ k, h.length ≤ k → ρ.1 (k + 1) = ρ.1 k + 1) →
    Met l q.1 (pm_ws q) (pm_rm d (h'.length - h.length) (pm_sl h' - pm_sl h)) (pm_Pc D cA ρ h as) (pm_Q D cA ρ h' r) (h'.length - h.length) (pm_sl h' - pm_sl h) (pm_A ρ)
theorem pm_cs_map (ρ : pm_N) (S : List Value) : ((S.map (pm_val ρ)).map fun v => v.category).sum = pm_cs S := by
  simp only [pm_cs, List.map_map]
  congr 1
  apply List.map_congr_left
  intro v _
  exact pm_val_cat ρ v
theorem pm_good (q q' : pm_M) (h' : q' ∈ pm_MT) : GoodIn (pm_ws q) (pm_ws q') := by
  have key : ∀ w ∈ pm_all, w ∈ pm_ws q ∧ ((w.onTables && w.keeps) = true ∨ ∃ ty, w = .arrayClass ty) := fun w hw => ⟨List.mem_cons_of_mem _ hw, good_of_word (List.mem_filter.mp hw).2⟩
  intro w hw
  rcases List.mem_cons.mp hw with rfl | hw
  · exact key _ (pm_in_all (pm_MT_W q' h').1 rfl)
  · exact key w hw
theorem pm_MT_q {q : pm_M} (h : q ∈ pm_MT) : plainName q.1.cls = true ∧ (q.1.cls ≠ "java/lang/invoke/MethodHandle" ∧ q.1.cls ≠ "java/lang/invoke/VarHandle") ∧ (parseMethodDescriptor q.1.desc).map (fun d => d.parameters.length) = some q.2.2.2.2.2.1 ∧ q.2.2.1 ≤ 40 ∧ Cond.initialized q.1.cls ∈ pm_all ∧ pm_RN[q.2.2.2.2.1]? = some q.1.cls := by
  have h1 := pm_MT_N q h
  simp only [pm_okN, Bool.and_eq_true, decide_eq_true_eq] at h1
  exact ⟨h1.1.1.1.1.1, h1.1.1.1.1.2, h1.1.1.2, h1.1.2, pm_in_all (pm_MT_W q h).2 rfl, h1.1.1.1.2⟩
section PMC
variable {p : Program} {l : Launch} {e : Env} {s : State} {m : MethodId} {args : Array Value} {below : List Frame} {meth : Method} {c : Code} {Q : State → Prop}
variable {q : pm_M} {D : va_G} {cA : Nat → ClassId} {ρ : pm_N} {d mi : Nat} {h0 hF : pm_H}
theorem pm_call {R : Room} {H : Heap} {locs : List Loc} {n1 n2 mc ms pc : Nat} {ls : Array Slot} {st0 rest : List Value} {r : Option Value} {h' : pm_H} {a : Array Value} (hr : va_Run p l e R s m args below meth c H locs n1 n2 mc ms (F0 m pc ls st0) rest (pm_Q D cA ρ h' r a) (pm_A ρ)) (hS : va_S (pm_A ρ) s.heap H locs)
    (kk : ∀ (H1 : Heap) (locs1 : List Loc), va_P D vwCl (pm_W ρ cA h') H1 → H1.size = ρ.1 h'.length → va_S (pm_A ρ) s.heap H1 locs1 → W p l e R s m args below meth c H1 locs1 (n1 + mc) (n2 + ms) Q (F0 m (pc + 3) ls ((r.map (pm_val ρ)).toList ++ rest))) : W p l e R s m args below meth c H locs n1 n2 Q (F0 m pc ls st0) := by
  intro T hT X
  obtain ⟨v, st₀, t, T', L, h0', X', hL, e1, e2, ⟨ho, hP, hz, hF1, hF2⟩, st⟩ := hr T hT X
  cases ho
  rw [h0'] at hF1 hF2
  obtain ⟨t2, a1, b1⟩ := kk T'.heap (locs ++ L) (by rw [e1]; exact hP) (by rw [e1]; exact hz) ⟨Nat.le_trans hS.1 (by rw [e1]; exact hF1), fun x g1 g2 => by rw [e1, hF2 x (Nat.lt_of_lt_of_le g1 hS.1) g2]; exact hS.2.1 x g1 g2, fun x hx => by
    rcases List.mem_append.mp hx with g | g
    · exact hS.2.2 x g
    · exact hL x g⟩ T' rfl X'
  exact ⟨t2, st t2 a1, b1⟩
/-- a step that calls -/
theorem pm_callG {pc m' : Nat} {L S S' as : List Value} {h h' : pm_H} {r : Option Value} {q' : pm_M} (hC : pm_S p s m args meth c mi q D cA ρ h0) (sd : pm_Snd l d) (hq' : pm_MT[m']? = some q') (he : pm_ev d m' as h r h') (k : pm_G p l e s m args below meth c q D cA ρ (d + 1) h0 hF Q (pc + 3) L (r.toList ++ S') h')
    (f : ∀ (R : Room) (H : Heap) (locs : List Loc) (ls : Array Slot) (n1 n2 mc ms : Nat), mc = h'.length - h.length → ms = pm_sl h' - pm_sl h → R.frames = d + 1 → R.locals = 64 * (d + 1) → ls.size = q.2.2.1 → va_P D vwCl (pm_W ρ cA h) H → va_S (pm_A ρ) s.heap H locs → n1 + mc ≤ R.cells ∧ n2 + ms ≤ R.slots → Met l q'.1 (pm_ws q') (pm_rm d mc ms) (pm_Pc D cA ρ h as) (pm_Q D cA ρ h' r) mc ms (pm_A ρ) → (∀ U : State, U.heap = H → s.WarmedH U.vm → pm_Pc D cA ρ h as (as.map (pm_val ρ)).toArray U) → va_Run p l e R s m args below meth c H locs n1 n2 mc ms (F0 m pc ls (S.map (pm_val ρ))) (S'.map (pm_val ρ)) (pm_Q D cA ρ h' r (as.map (pm_val ρ)).toArray) (pm_A ρ)) :
    pm_G p l e s m args below meth c q D cA ρ (d + 1) h0 hF Q pc L S h := by
  intro hb
  obtain ⟨⟨g1, g2⟩, hM⟩ := sd m' as h r h' he
  obtain ⟨-, -, -, -, -, -, -, -, -, hK, hinj, hsz, hnx, hext, -⟩ := id hC
  obtain ⟨⟨k1, k2⟩, k3⟩ := k ⟨by omega, by omega⟩
  refine ⟨⟨by omega, by omega⟩, fun H locs ls hl hR => ?_⟩
  have hM' := hM D cA ρ q' hq' hinj (fun k hk => hnx k (by omega))
  have run := f (pm_rm (d + 1) (hF.length - h0.length) (pm_sl hF - pm_sl h0)) H locs ls (h.length - h0.length) (pm_sl h - pm_sl h0) _ _ rfl rfl rfl rfl hl.1 hR.1 hR.2.1 ⟨by show _ ≤ hF.length - h0.length; omega, by show _ ≤ pm_sl hF - pm_sl h0; omega⟩ hM' (fun U hU hW => ⟨rfl, by rw [hU]; exact hR.1, by rw [hU]; exact hR.2.2, va_K.moved hW.alike hK, pm_ext_warm hW (fun x h1 h2 => by rw [hU]; exact hR.2.1.2.1 x h1 h2) hext⟩)
  refine pm_call run hR.2.1 (fun H1 locs1 hP1 hz1 hS1 => ?_)
  have k4 := k3 H1 locs1 ls hl ⟨hP1, hS1, hz1⟩
  rw [show h'.length - h0.length = h.length - h0.length + (h'.length - h.length) by omega, show pm_sl h' - pm_sl h0 = pm_sl h - pm_sl h0 + (pm_sl h' - pm_sl h) by omega] at k4
  have e1 : (r.toList ++ S').map (pm_val ρ) = (r.map (pm_val ρ)).toList ++ S'.map (pm_val ρ) := by cases r <;> simp
  rw [e1] at k4
  exact k4
theorem pm_kT_ok {mi' k kd m' : Nat} {e : Nat × Nat × Nat × String} {qc q' : pm_M} (h : pm_MT[mi']? = some qc) (hq' : pm_MT[m']? = some q') (hf : pm_at pm_cT (pm_cl mi') k = some (kd, m', e)) : pm_okK qc.1.cls (k, kd, m', e) = true := by
  obtain ⟨l, hl, hm⟩ := pm_at_of hf
  exact pm_all_all pm_chk_k (pm_MT_own h).2 hl hm
end PMC
