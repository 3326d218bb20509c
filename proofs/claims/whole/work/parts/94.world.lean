/-! THE LAW'S WORLD: the two heaps in one -/
theorem dw_goodT (q' : pm_M) (h' : q' ∈ pm_MT) : GoodIn lw_tbl (pm_ws q') := by
  have key : ∀ w ∈ pm_all, w ∈ lw_tbl ∧ ((w.onTables && w.keeps) = true ∨ ∃ ty, w = .arrayClass ty) := fun w hw => ⟨(List.mem_filter.mp hw).1, good_of_word (List.mem_filter.mp hw).2⟩
  intro w hw
  rcases List.mem_cons.mp hw with rfl | hw
  · exact key _ (pm_in_all (pm_MT_W q' h').1 rfl)
  · exact key w hw
section LC
variable {p : Program} {l : Launch} {e : Env} {s : State} {m : MethodId} {below : List Frame} {meth : Method} {c : Code} {b L : Nat} {xs : Nat → Int32} {D : va_G} {cA : Nat → ClassId} {Q : State → Prop}
theorem dw_lpost {R : Room} {args : Array Value} {ρ : pm_N} {H : Heap} {locs : List Loc} {n1 n2 mc ms pc : Nat} {ls : Array Slot} {st0 rest : List Value} {r : Option Value} {h' : pm_H} {a : Array Value} (hr : va_Run p l e R s m args below meth c H locs n1 n2 mc ms (F0 m pc ls st0) rest (pm_Q D cA ρ h' r a) (pm_A ρ)) (hAB : ∀ q, pm_A ρ q → s.heap.size ≤ q) (hS : va_S (fun q => s.heap.size ≤ q) s.heap H locs)
    (kk : ∀ (H1 : Heap) (locs1 : List Loc), va_P D vwCl (pm_W ρ cA h') H1 → H1.size = ρ.1 h'.length → H.size ≤ H1.size → (∀ x : Nat, x < H.size → ¬ pm_A ρ x → H1[x]? = H[x]?) → va_S (fun q => s.heap.size ≤ q) s.heap H1 locs1 → W p l e R s m args below meth c H1 locs1 (n1 + mc) (n2 + ms) Q (F0 m (pc + 3) ls ((r.map (pm_val ρ)).toList ++ rest))) : W p l e R s m args below meth c H locs n1 n2 Q (F0 m pc ls st0) := by
  intro T hT X
  obtain ⟨v, st₀, t, T', L, h0', X', hL, e1, e2, ⟨ho, hP, hz, hF1, hF2⟩, st⟩ := hr T hT X
  cases ho
  rw [h0'] at hF1 hF2
  obtain ⟨t2, a1, b1⟩ := kk T'.heap (locs ++ L) (by rw [e1]; exact hP) (by rw [e1]; exact hz) (by rw [e1]; exact hF1) (fun x g1 g2 => by rw [e1]; exact hF2 x g1 g2) ⟨Nat.le_trans hS.1 (by rw [e1]; exact hF1), fun x g1 g2 => by rw [e1, hF2 x (Nat.lt_of_lt_of_le g1 hS.1) (fun z => g2 (hAB x z))]; exact hS.2.1 x g1 g2, fun x hx => by
    rcases List.mem_append.mp hx with g | g
    · exact hS.2.2 x g
    · exact hAB _ (hL x g)⟩ T' rfl X'
  exact ⟨t2, st t2 a1, b1⟩
theorem dw_lPc {ρ : pm_N} {h : pm_H} {as : List Value} {H : Heap} {locs : List Loc} (hK : va_K D vwCl (pm_tys cA) s) (hext : pm_ext ρ s) (hP : va_P D vwCl (pm_W ρ cA h) H) (hz : H.size = ρ.1 h.length) (hS : va_S (fun q => s.heap.size ≤ q) s.heap H locs) {av : List Value} (hav : as.map (pm_val ρ) = av) : ∀ U : State, U.heap = H → s.WarmedH U.vm → pm_Pc D cA ρ h as av.toArray U := fun U hU hW => ⟨by rw [hav], by rw [hU]; exact hP, by rw [hU]; exact hz, va_K.moved hW.alike hK, pm_ext_warm hW (fun x h1 _ => by rw [hU]; exact hS.2.1 x h1 (Nat.not_le.mpr h1)) hext⟩
/-- the law calls a method -/
theorem dw_lcallV (C0 : lw_At p s m meth c b L xs) {ρ : pm_N} {h h' : pm_H} (hK : va_K D vwCl (pm_tys cA) s) (hext : pm_ext ρ s) (hinj : ∀ i j, ρ.1 i = ρ.1 j → i = j) (hnx : ∀ k, h.length ≤ k → ρ.1 (k + 1) = ρ.1 k + 1) (hAB : ∀ q, pm_A ρ q → s.heap.size ≤ q) {mi k i1 i2 i3 : Nat} {q : pm_M} {as fs rest : List Value} {r : Value} (he : pm_ev 70 mi (.ref 0 :: as) h (some r) h') (hq : pm_MT[mi]? = some q) (hn : as.length = q.2.2.2.2.2.1) (o1 : lw_tbl[i1]? = some (.methodLink R_law k q.1)) (o2 : lw_tbl[i2]? = some (.instanceMethod q.1)) (o3 : lw_tbl[i3]? = some (.selects q.1.cls q.1 q.1)) (o4 : q.2.2.2.2.1 < 7) (h0 : h[0]? = some (.inr (q.2.2.2.2.1, fs))) (has : as.map (pm_val ρ) = as) {H : Heap} {locs : List Loc} {n1 n2 pc : Nat} {ls : Array Slot} (hP : va_P D vwCl (pm_W ρ cA h) H) (hz : H.size = ρ.1 h.length) (hS : va_S (fun q => s.heap.size ≤ q) s.heap H locs) (hls : ls.size = 4) (hrest : (rest.map fun v => v.category).sum ≤ 8) (hroom : n1 + (h'.length - h.length) ≤ 600000 ∧ n2 + (pm_sl h' - pm_sl h) ≤ 7302250) (hdg : decode code pc = .ok (.invokevirtual k, 3))
    (kk : ∀ (H1 : Heap) (locs1 : List Loc), va_P D vwCl (pm_W ρ cA h') H1 → H1.size = ρ.1 h'.length → H.size ≤ H1.size → (∀ x : Nat, x < H.size → ¬ pm_A ρ x → H1[x]? = H[x]?) → va_S (fun q => s.heap.size ≤ q) s.heap H1 locs1 → W p l e room_1 s m #[Value.ref b] below meth c H1 locs1 (n1 + (h'.length - h.length)) (n2 + (pm_sl h' - pm_sl h)) Q (F0 m (pc + 3) ls (pm_val ρ r :: rest))) : W p l e room_1 s m #[Value.ref b] below meth c H locs n1 n2 Q (F0 m pc ls (as.reverse ++ .ref (ρ.1 0) :: rest)) := by
  obtain ⟨hx, hb, hr, hml, hown, hts, hX, hbl, hlocks, hgv⟩ := C0
  have hm' := List.mem_of_getElem? hq
  obtain ⟨n1', n2', n3', n4', n5', n6'⟩ := pm_MT_q hm'
  obtain ⟨rv, v1, v2⟩ := pm_vw o4
  have hrn : rv.1 = q.1.cls := Option.some.inj (v2.symm.trans n6')
  have hM := (pm_sound l 70 mi (.ref 0 :: as) h (some r) h' he).2 D cA ρ q hq hinj hnx
  have hcb : CallB room_1 s #[Value.ref b] R_law k q.1 q.2.1 q.2.2.1 q.2.2.2.1 (pm_ws q) (pm_rm 70 (h'.length - h.length) (pm_sl h' - pm_sl h)) (h'.length - h.length) (pm_sl h' - pm_sl h) as.length := callB_of _ hts (dw_goodT q hm') rfl rfl rfl (hts _ (List.mem_filter.mp n5').1) (hts _ (List.mem_of_getElem? o1)) ⟨n2'.1, n2'.2, by rw [n3', hn]⟩ ⟨by show 70 + 1 ≤ 2048; decide, by show 8 + (q.2.2.1 + 11) + 64 * 70 ≤ 84000; omega⟩
  have he0 : (pm_W ρ cA h)[0]? = some (ρ.1 0, .inr (q.2.2.2.2.1, fs.map (pm_val ρ))) := pm_W_get h0
  have hrec := va_recv hK hP v1 he0
  rw [hrn] at hrec
  have eas : (Value.ref 0 :: as).map (pm_val ρ) = .ref (ρ.1 0) :: as := by
    rw [List.map_cons, has]
    rfl
  refine dw_lpost (va_runV (As := as) (rest := rest) (C := q.1.cls) (b := ρ.1 0) (g := F0 m pc ls (as.reverse ++ .ref (ρ.1 0) :: rest)) ⟨hx, hb, hml, hown, hts⟩ hM ⟨hcb, hts _ (List.mem_of_getElem? o2), hts _ (List.mem_of_getElem? o3)⟩ ⟨pm_Pc_blind D cA ρ h _, hrec, dw_lPc hK hext hP hz hS eas⟩ rfl rfl hls rfl (lv_room hrest) hdg hroom) hAB hS (fun H1 locs1 a1 a2 a3 a4 a5 => ?_)
  exact kk H1 locs1 a1 a2 a3 a4 a5
/-- the law calls a constructor -/
theorem dw_lcallI (C0 : lw_At p s m meth c b L xs) {ρ : pm_N} {h h' : pm_H} (hK : va_K D vwCl (pm_tys cA) s) (hext : pm_ext ρ s) (hinj : ∀ i j, ρ.1 i = ρ.1 j → i = j) (hnx : ∀ k, h.length ≤ k → ρ.1 (k + 1) = ρ.1 k + 1) (hAB : ∀ q, pm_A ρ q → s.heap.size ≤ q) {mi k i1 i2 : Nat} {q : pm_M} {rest : List Value} (he : pm_ev 70 mi [.ref 0] h none h') (hq : pm_MT[mi]? = some q) (hn : 0 = q.2.2.2.2.2.1) (hrt : q.2.2.2.1 = none) (hnm : q.1.name = "<init>") (o1 : lw_tbl[i1]? = some (.methodLink R_law k q.1)) (o2 : lw_tbl[i2]? = some (.instanceMethod q.1)) {H : Heap} {locs : List Loc} {n1 n2 pc : Nat} {ls : Array Slot} (hP : va_P D vwCl (pm_W ρ cA h) H) (hz : H.size = ρ.1 h.length) (hS : va_S (fun q => s.heap.size ≤ q) s.heap H locs) (hls : ls.size = 4) (hrest : (rest.map fun v => v.category).sum ≤ 8) (hroom : n1 + (h'.length - h.length) ≤ 600000 ∧ n2 + (pm_sl h' - pm_sl h) ≤ 7302250) (hdg : decode code pc = .ok (.invokespecial k, 3))
    (kk : ∀ (H1 : Heap) (locs1 : List Loc), va_P D vwCl (pm_W ρ cA h') H1 → H1.size = ρ.1 h'.length → H.size ≤ H1.size → (∀ x : Nat, x < H.size → ¬ pm_A ρ x → H1[x]? = H[x]?) → va_S (fun q => s.heap.size ≤ q) s.heap H1 locs1 → W p l e room_1 s m #[Value.ref b] below meth c H1 locs1 (n1 + (h'.length - h.length)) (n2 + (pm_sl h' - pm_sl h)) Q (F0 m (pc + 3) ls rest)) : W p l e room_1 s m #[Value.ref b] below meth c H locs n1 n2 Q (F0 m pc ls (.ref (ρ.1 0) :: rest)) := by
  obtain ⟨hx, hb, hr, hml, hown, hts, hX, hbl, hlocks, hgv⟩ := C0
  have hm' := List.mem_of_getElem? hq
  obtain ⟨n1', n2', n3', n4', n5', n6'⟩ := pm_MT_q hm'
  have hM := (pm_sound l 70 mi [.ref 0] h none h' he).2 D cA ρ q hq hinj hnx
  have hcb : CallB room_1 s #[Value.ref b] R_law k q.1 q.2.1 q.2.2.1 none (pm_ws q) (pm_rm 70 (h'.length - h.length) (pm_sl h' - pm_sl h)) (h'.length - h.length) (pm_sl h' - pm_sl h) 0 := callB_of _ hts (dw_goodT q hm') (by rw [← hrt]; rfl) rfl rfl (hts _ (List.mem_filter.mp n5').1) (hts _ (List.mem_of_getElem? o1)) ⟨n2'.1, n2'.2, by rw [n3', ← hn]⟩ ⟨by show 70 + 1 ≤ 2048; decide, by show 8 + (q.2.2.1 + 11) + 64 * 70 ≤ 84000; omega⟩
  refine dw_lpost (va_runI (As := []) (rest := rest) (b := ρ.1 0) (g := F0 m pc ls (.ref (ρ.1 0) :: rest)) ⟨hx, hb, hml, hown, hts⟩ hM ⟨hcb, hnm, hts _ (List.mem_of_getElem? o2)⟩ ⟨pm_Pc_blind D cA ρ h _, dw_lPc hK hext hP hz hS rfl⟩ rfl rfl hls rfl (lv_room hrest) hdg hroom) hAB hS (fun H1 locs1 a1 a2 a3 a4 a5 => ?_)
  exact kk H1 locs1 a1 a2 a3 a4 a5
end LC
