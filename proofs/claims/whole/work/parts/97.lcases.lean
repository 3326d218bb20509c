/-! THE LAW'S CASES -/
section LC
variable {p : Program} {l : Launch} {e : Env} {s : State} {m : MethodId} {below : List Frame} {meth : Method} {c : Code} {b L : Nat} {xs : Nat → Int32} {D : va_G} {cA : Nat → ClassId} {Q : State → Prop} {σ : Nat → Option Nat} {hX hM : pm_H}
/-- an int of the script is pushed -/
theorem dw_larg (C0 : lw_At p s m meth c b L xs) (hL : L ≤ 3584) {H : Heap} {locs : List Loc} (hS : va_S (fun q => s.heap.size ≤ q) s.heap H locs) {ls : Array Slot} {x0 y0 i : Nat} (hl : lv_has ls 4 [(0, .ref b), (1, .ref x0), (2, .ref y0), (3, .int (nI i))]) (j : Nat) (hij : i + j < L) {R : Room} {n1 n2 pc : Nat} {rest : List Value} {n : Int} (d0 : decode code pc = .ok (.aload_n 0, 1)) (d1 : decode code (pc + 1) = .ok (.iload_n 3, 1)) (d2 : decode code (pc + 2) = .ok (.iconst n, 1)) (hn : Int32.ofInt n = nI j) (d3 : decode code (pc + 3) = .ok (.iadd, 1)) (d4 : decode code (pc + 4) = .ok (.iaload, 1)) (kk : W p l e R s m #[Value.ref b] below meth c H locs n1 n2 Q (F0 m (pc + 5) ls (.int (xs (i + j)) :: rest))) : W p l e R s m #[Value.ref b] below meth c H locs n1 n2 Q (F0 m pc ls rest) := by
  obtain ⟨hx, hb, hr, hml, hown, hts, hX, hbl, hlocks, hgv⟩ := C0
  refine lv_aload_n hx hb d0 rfl (lv_at hl 0 rfl) ?_
  refine lv_iload_n hx hb d1 rfl (lv_at hl 3 rfl) ?_
  refine lv_iconst hx hb d2 hn ?_
  refine lv_iadd hx hb d3 ?_
  rw [nI_add]
  refine va_sld hx hb hX hbl (Nat.not_le.mpr hbl) hS (vp_in_nI hij (by omega)) d4 ?_
  rw [nI_clamp (by omega)]
  exact kk
theorem dw_larg6 (C0 : lw_At p s m meth c b L xs) (hL : L ≤ 3584) {H : Heap} {locs : List Loc} (hS : va_S (fun q => s.heap.size ≤ q) s.heap H locs) {ls : Array Slot} {x0 y0 i : Nat} (hl : lv_has ls 4 [(0, .ref b), (1, .ref x0), (2, .ref y0), (3, .int (nI i))]) (j : Nat) (hij : i + j < L) {R : Room} {n1 n2 pc : Nat} {rest : List Value} {n : Int} (d0 : decode code pc = .ok (.aload_n 0, 1)) (d1 : decode code (pc + 1) = .ok (.iload_n 3, 1)) (d2 : decode code (pc + 2) = .ok (.bipush n, 2)) (hn : (Int8.ofInt n).toInt32 = nI j) (d3 : decode code (pc + 4) = .ok (.iadd, 1)) (d4 : decode code (pc + 5) = .ok (.iaload, 1)) (kk : W p l e R s m #[Value.ref b] below meth c H locs n1 n2 Q (F0 m (pc + 6) ls (.int (xs (i + j)) :: rest))) : W p l e R s m #[Value.ref b] below meth c H locs n1 n2 Q (F0 m pc ls rest) := by
  obtain ⟨hx, hb, hr, hml, hown, hts, hX, hbl, hlocks, hgv⟩ := C0
  refine lv_aload_n hx hb d0 rfl (lv_at hl 0 rfl) ?_
  refine lv_iload_n hx hb d1 rfl (lv_at hl 3 rfl) ?_
  refine lv_bipush hx hb d2 hn ?_
  refine lv_iadd hx hb d3 ?_
  rw [nI_add]
  refine va_sld hx hb hX hbl (Nat.not_le.mpr hbl) hS (vp_in_nI hij (by omega)) d4 ?_
  rw [nI_clamp (by omega)]
  exact kk
/-- behind a call's comparing -/
def dw_Kn (p : Program) (l : Launch) (e : Env) (s : State) (m : MethodId) (below : List Frame) (meth : Method) (c : Code) (b : Nat) (D : va_G) (cA : Nat → ClassId) (σ : Nat → Option Nat) (ls : Array Slot) (Q : State → Prop) : Prop := ∀ (hX hM : pm_H) (H : Heap) (locs : List Loc), dw_JJo hX hM → dw_Wd D cA σ s hX hM H locs → W p l e room_1 s m #[Value.ref b] below meth c H locs (hX.length + 21) (pm_sl hX + pm_sl hM) Q (F0 m 1388 ls [])
theorem dw_L_count (C0 : lw_At p s m meth c b L xs) (hL : L ≤ 3584) (hK : va_K D vwCl (pm_tys cA) s) (hext : ∀ ρ1 : Nat → Nat, (∀ k, s.heap.size ≤ ρ1 k) → pm_ext (ρ1, σ) s) (J : dw_JJo hX hM) {H : Heap} {locs : List Loc} (wd : dw_Wd D cA σ s hX hM H locs) {ls : Array Slot} {i : Nat} (hi : i + 6 < L) (hl : lv_has ls 4 [(0, .ref b), (1, .ref s.heap.size), (2, .ref (s.heap.size + 37)), (3, .int (nI i))]) (kn : dw_Kn p l e s m below meth c b D cA σ ls Q) : W p l e room_1 s m #[Value.ref b] below meth c H locs (hX.length + 21) (pm_sl hX + pm_sl hM) Q (F0 m 188 ls []) := by
  obtain ⟨hx, hb, -⟩ := id C0
  obtain ⟨hX', hM', v, e1, e2, J'⟩ := dw_K_count J (xs (i + 1))
  obtain ⟨j1, j2, j3, -⟩ := dw_JJlen J'
  refine lv_aload_n hx hb (dw_d0' 22 rfl) rfl (lv_at hl 1 rfl) ?_
  refine dw_larg C0 hL wd.2.2.2 hl 1 (by omega) (dw_d0' 23 rfl) (dw_d0' 24 rfl) (dw_d0' 25 rfl) (by decide) (dw_d0' 26 rfl) (dw_d0' 27 rfl) ?_
  refine dw_callX (as := [xs (i + 1)]) (i1 := 265) (i2 := 266) (i3 := 267) C0 hK hext J ⟨j1, j2, j3⟩ wd e1 (fun _ => rfl) (q := pm_m_56) rfl rfl (by decide +kernel) (by decide +kernel) (by decide +kernel) rfl hl.1 (dw_d0' 28 rfl) (fun H1 locs1 wd1 => ?_)
  refine lv_aload_n hx hb (dw_d0' 29 rfl) rfl (lv_at hl 2 rfl) ?_
  refine dw_larg C0 hL wd1.2.2.2 hl 1 (by omega) (dw_d0' 30 rfl) (dw_d0' 31 rfl) (dw_d0' 32 rfl) (by decide) (dw_d0' 33 rfl) (dw_d0' 34 rfl) ?_
  refine dw_callM (as := [xs (i + 1)]) (i1 := 944) (i2 := 945) (i3 := 946) C0 hK hext J J' wd1 e2 (fun _ => rfl) (by decide) (q := pm_m_118) rfl rfl (by decide +kernel) (by decide +kernel) (by decide +kernel) rfl hl.1 (dw_d0' 35 rfl) (fun H2 locs2 wd2 => ?_)
  exact lv_icmp_eq (tgt := 1388) hx hb (dw_d0' 36 rfl) (by decide) (fun _ => kn hX' hM' H2 locs2 J' wd2) (fun q => absurd rfl q)
end LC
