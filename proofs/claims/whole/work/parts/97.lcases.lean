/-! THE LAW'S CASES -/
section LC
variable {p : Program} {l : Launch} {e : Env} {s : State} {m : MethodId} {below : List Frame} {meth : Method} {c : Code} {b L : Nat} {xs : Nat → Int32} {D : va_G} {cA : Nat → ClassId} {Q : State → Prop} {σ : Nat → Option Nat} {hX hM : pm_H}
/-- an int of the script is pushed -/
theorem dw_larg (C0 : lw_At p s m meth c b L xs) (hL : L ≤ 3584) {H : Heap} {locs : List Loc} (hS : va_S (fun q => s.heap.size ≤ q) s.heap H locs) {ls : Array Slot} {x0 y0 i : Nat} (hl : lv_has ls 4 [(0, .ref b), (1, .ref x0), (2, .ref y0), (3, .int (nI i))]) (j : Nat) (hij : i + j < L) {R : Room} {n1 n2 pc : Nat} {rest : List Value} {n : Int} (d0 : decode code pc = .ok (.aload_n 0, 1)) (d1 : decode code (pc + 1) = .ok (.iload_n 3, 1)) (d2 : decode code (pc + 2) = .ok (.iconst n, 1)) (hn : Int32.ofInt n = nI j) (d3 : decode code (pc + 3) = .ok (.iadd, 1)) (d4 : decode code (pc + 4) = .ok (.iaload, 1)) (kk : W p l e R s m #[Value.ref b] below meth c H locs n1 n2 Q (F0 m (pc + 5) ls (.int (xs (i + j)) :: rest))) : W p l e R s m #[Value.ref b] below meth c H locs n1 n2 Q (F0 m pc ls rest) := by
  obtain ⟨hx, hb, hr, hml, hown, hts, hX, hbl, hlocks, hgv⟩ := C0
  refine lv_aload_n hx hb d0 rfl (lv_at hl 0 rfl) ?_
  refine lv_iload_n hx hb d1 rfl (lv_at hl 3 rfl) ?_
  refine lv_iconst hx hb d2 hn ?_
  refine lv_iadd hx hb d3 ?_
  rw [nI_add]
  refine va_sld hx hb hX hbl (Nat.not_le.mpr hbl) hS (vp_in_nI hij (by omega)) d4 ?_
  rw [nI_clamp (by omega)]
  exact kk
theorem dw_larg6 (C0 : lw_At p s m meth c b L xs) (hL : L ≤ 3584) {H : Heap} {locs : List Loc} (hS : va_S (fun q => s.heap.size ≤ q) s.heap H locs) {ls : Array Slot} {x0 y0 i : Nat} (hl : lv_has ls 4 [(0, .ref b), (1, .ref x0), (2, .ref y0), (3, .int (nI i))]) (j : Nat) (hij : i + j < L) {R : Room} {n1 n2 pc : Nat} {rest : List Value} {n : Int} (d0 : decode code pc = .ok (.aload_n 0, 1)) (d1 : decode code (pc + 1) = .ok (.iload_n 3, 1)) (d2 : decode code (pc + 2) = .ok (.bipush n, 2)) (hn : (Int8.ofInt n).toInt32 = nI j) (d3 : decode code (pc + 4) = .ok (.iadd, 1)) (d4 : decode code (pc + 5) = .ok (.iaload, 1)) (kk : W p l e R s m #[Value.ref b] below meth c H locs n1 n2 Q (F0 m (pc + 6) ls (.int (xs (i + j)) :: rest))) : W p l e R s m #[Value.ref b] below meth c H locs n1 n2 Q (F0 m pc ls rest) := by
  obtain ⟨hx, hb, hr, hml, hown, hts, hX, hbl, hlocks, hgv⟩ := C0
  refine lv_aload_n hx hb d0 rfl (lv_at hl 0 rfl) ?_
  refine lv_iload_n hx hb d1 rfl (lv_at hl 3 rfl) ?_
  refine lv_bipush hx hb d2 hn ?_
  refine lv_iadd hx hb d3 ?_
  rw [nI_add]
  refine va_sld hx hb hX hbl (Nat.not_le.mpr hbl) hS (vp_in_nI hij (by omega)) d4 ?_
  rw [nI_clamp (by omega)]
  exact kk
/-- behind a call's comparing -/
def dw_Kn (p : Program) (l : Launch) (e : Env) (s : State) (m : MethodId) (below : List Frame) (meth : Method) (c : Code) (b : Nat) (D : va_G) (cA : Nat → ClassId) (σ : Nat → Option Nat) (ls : Array Slot) (Q : State → Prop) : Prop := ∀ (hX hM : pm_H) (H : Heap) (locs : List Loc), dw_JJo hX hM → dw_Wd D cA σ s hX hM H locs → W p l e room_1 s m #[Value.ref b] below meth c H locs (hX.length + 21) (pm_sl hX + pm_sl hM) Q (F0 m 1388 ls [])
theorem dw_L_count (C0 : lw_At p s m meth c b L xs) (hL : L ≤ 3584) (hK : va_K D vwCl (pm_tys cA) s) (hext : ∀ ρ1 : Nat → Nat, (∀ k, s.heap.size ≤ ρ1 k) → pm_ext (ρ1, σ) s) (J : dw_JJo hX hM) {H : Heap} {locs : List Loc} (wd : dw_Wd D cA σ s hX hM H locs) {ls : Array Slot} {i : Nat} (hi : i + 6 < L) (hl : lv_has ls 4 [(0, .ref b), (1, .ref s.heap.size), (2, .ref (s.heap.size + 37)), (3, .int (nI i))]) (kn : dw_Kn p l e s m below meth c b D cA σ ls Q) : W p l e room_1 s m #[Value.ref b] below meth c H locs (hX.length + 21) (pm_sl hX + pm_sl hM) Q (F0 m 188 ls []) := by
  obtain ⟨hx, hb, -⟩ := id C0
  obtain ⟨hX', hM', v, e1, e2, J'⟩ := dw_K_count J (xs (i + 1))
  obtain ⟨j1, j2, j3, -⟩ := dw_JJlen J'
  refine lv_aload_n hx hb (dw_d0' 22 rfl) rfl (lv_at hl 1 rfl) ?_
  refine dw_larg C0 hL wd.2.2.2 hl 1 (by omega) (dw_d0' 23 rfl) (dw_d0' 24 rfl) (dw_d0' 25 rfl) (by decide) (dw_d0' 26 rfl) (dw_d0' 27 rfl) ?_
  refine dw_callX (as := [xs (i + 1)]) (i1 := 265) (i2 := 266) (i3 := 267) C0 hK hext J ⟨j1, j2, j3⟩ wd e1 (fun _ => rfl) (q := pm_m_56) rfl rfl (by decide +kernel) (by decide +kernel) (by decide +kernel) rfl hl.1 (dw_d0' 28 rfl) (fun H1 locs1 wd1 => ?_)
  refine lv_aload_n hx hb (dw_d0' 29 rfl) rfl (lv_at hl 2 rfl) ?_
  refine dw_larg C0 hL wd1.2.2.2 hl 1 (by omega) (dw_d0' 30 rfl) (dw_d0' 31 rfl) (dw_d0' 32 rfl) (by decide) (dw_d0' 33 rfl) (dw_d0' 34 rfl) ?_
  refine dw_callM (as := [xs (i + 1)]) (i1 := 944) (i2 := 945) (i3 := 946) C0 hK hext J J' wd1 e2 (fun _ => rfl) (Nat.le_of_ble_eq_true rfl) (q := pm_m_118) rfl rfl (by decide +kernel) (by decide +kernel) (by decide +kernel) rfl hl.1 (dw_d0' 35 rfl) (fun H2 locs2 wd2 => ?_)
  exact lv_icmp_eq (tgt := 1388) hx hb (dw_d0' 36 rfl) (by decide) (fun _ => kn hX' hM' H2 locs2 J' wd2) (fun q => absurd rfl q)
theorem dw_L_yard (C0 : lw_At p s m meth c b L xs) (hL : L ≤ 3584) (hK : va_K D vwCl (pm_tys cA) s) (hext : ∀ ρ1 : Nat → Nat, (∀ k, s.heap.size ≤ ρ1 k) → pm_ext (ρ1, σ) s) (J : dw_JJo hX hM) {H : Heap} {locs : List Loc} (wd : dw_Wd D cA σ s hX hM H locs) {ls : Array Slot} {i : Nat} (hi : i + 6 < L) (hl : lv_has ls 4 [(0, .ref b), (1, .ref s.heap.size), (2, .ref (s.heap.size + 37)), (3, .int (nI i))]) (kn : dw_Kn p l e s m below meth c b D cA σ ls Q) : W p l e room_1 s m #[Value.ref b] below meth c H locs (hX.length + 21) (pm_sl hX + pm_sl hM) Q (F0 m 211 ls []) := by
  obtain ⟨hx, hb, -⟩ := id C0
  obtain ⟨hX', hM', v, e1, e2, J'⟩ := dw_K_yard J (xs (i + 1)) (xs (i + 2)) (xs (i + 3))
  obtain ⟨j1, j2, j3, -⟩ := dw_JJlen J'
  refine lv_aload_n hx hb (dw_d0' 39 rfl) rfl (lv_at hl 1 rfl) ?_
  refine dw_larg C0 hL wd.2.2.2 hl 1 (by omega) (dw_d0' 40 rfl) (dw_d0' 41 rfl) (dw_d0' 42 rfl) (by decide) (dw_d0' 43 rfl) (dw_d0' 44 rfl) ?_
  refine dw_larg C0 hL wd.2.2.2 hl 2 (by omega) (dw_d0' 45 rfl) (dw_d0' 46 rfl) (dw_d0' 47 rfl) (by decide) (dw_d0' 48 rfl) (dw_d0' 49 rfl) ?_
  refine dw_larg C0 hL wd.2.2.2 hl 3 (by omega) (dw_d0' 50 rfl) (dw_d0' 51 rfl) (dw_d0' 52 rfl) (by decide) (dw_d0' 53 rfl) (dw_d0' 54 rfl) ?_
  refine dw_callX (as := [xs (i + 1), xs (i + 2), xs (i + 3)]) (i1 := 285) (i2 := 286) (i3 := 287) C0 hK hext J ⟨j1, j2, j3⟩ wd e1 (fun _ => rfl) (q := pm_m_57) rfl rfl (by decide +kernel) (by decide +kernel) (by decide +kernel) rfl hl.1 (dw_d0' 55 rfl) (fun H1 locs1 wd1 => ?_)
  refine lv_aload_n hx hb (dw_d0' 56 rfl) rfl (lv_at hl 2 rfl) ?_
  refine dw_larg C0 hL wd1.2.2.2 hl 1 (by omega) (dw_d0' 57 rfl) (dw_d0' 58 rfl) (dw_d0' 59 rfl) (by decide) (dw_d1' 0 rfl) (dw_d1' 1 rfl) ?_
  refine dw_larg C0 hL wd1.2.2.2 hl 2 (by omega) (dw_d1' 2 rfl) (dw_d1' 3 rfl) (dw_d1' 4 rfl) (by decide) (dw_d1' 5 rfl) (dw_d1' 6 rfl) ?_
  refine dw_larg C0 hL wd1.2.2.2 hl 3 (by omega) (dw_d1' 7 rfl) (dw_d1' 8 rfl) (dw_d1' 9 rfl) (by decide) (dw_d1' 10 rfl) (dw_d1' 11 rfl) ?_
  refine dw_callM (as := [xs (i + 1), xs (i + 2), xs (i + 3)]) (i1 := 955) (i2 := 956) (i3 := 957) C0 hK hext J J' wd1 e2 (fun _ => rfl) (Nat.le_of_ble_eq_true rfl) (q := pm_m_119) rfl rfl (by decide +kernel) (by decide +kernel) (by decide +kernel) rfl hl.1 (dw_d1' 12 rfl) (fun H2 locs2 wd2 => ?_)
  exact lv_icmp_eq (tgt := 1388) hx hb (dw_d1' 13 rfl) (by decide) (fun _ => kn hX' hM' H2 locs2 J' wd2) (fun q => absurd rfl q)
theorem dw_L_parish (C0 : lw_At p s m meth c b L xs) (hL : L ≤ 3584) (hK : va_K D vwCl (pm_tys cA) s) (hext : ∀ ρ1 : Nat → Nat, (∀ k, s.heap.size ≤ ρ1 k) → pm_ext (ρ1, σ) s) (J : dw_JJo hX hM) {H : Heap} {locs : List Loc} (wd : dw_Wd D cA σ s hX hM H locs) {ls : Array Slot} {i : Nat} (hi : i + 6 < L) (hl : lv_has ls 4 [(0, .ref b), (1, .ref s.heap.size), (2, .ref (s.heap.size + 37)), (3, .int (nI i))]) (kn : dw_Kn p l e s m below meth c b D cA σ ls Q) : W p l e room_1 s m #[Value.ref b] below meth c H locs (hX.length + 21) (pm_sl hX + pm_sl hM) Q (F0 m 254 ls []) := by
  obtain ⟨hx, hb, -⟩ := id C0
  obtain ⟨hX', hM', v, e1, e2, J'⟩ := dw_K_parish J (xs (i + 1))
  obtain ⟨j1, j2, j3, -⟩ := dw_JJlen J'
  refine lv_aload_n hx hb (dw_d1' 16 rfl) rfl (lv_at hl 1 rfl) ?_
  refine dw_larg C0 hL wd.2.2.2 hl 1 (by omega) (dw_d1' 17 rfl) (dw_d1' 18 rfl) (dw_d1' 19 rfl) (by decide) (dw_d1' 20 rfl) (dw_d1' 21 rfl) ?_
  refine dw_callX (as := [xs (i + 1)]) (i1 := 293) (i2 := 294) (i3 := 295) C0 hK hext J ⟨j1, j2, j3⟩ wd e1 (fun _ => rfl) (q := pm_m_58) rfl rfl (by decide +kernel) (by decide +kernel) (by decide +kernel) rfl hl.1 (dw_d1' 22 rfl) (fun H1 locs1 wd1 => ?_)
  refine lv_aload_n hx hb (dw_d1' 23 rfl) rfl (lv_at hl 2 rfl) ?_
  refine dw_larg C0 hL wd1.2.2.2 hl 1 (by omega) (dw_d1' 24 rfl) (dw_d1' 25 rfl) (dw_d1' 26 rfl) (by decide) (dw_d1' 27 rfl) (dw_d1' 28 rfl) ?_
  refine dw_callM (as := [xs (i + 1)]) (i1 := 963) (i2 := 964) (i3 := 965) C0 hK hext J J' wd1 e2 (fun _ => rfl) (Nat.le_of_ble_eq_true rfl) (q := pm_m_120) rfl rfl (by decide +kernel) (by decide +kernel) (by decide +kernel) rfl hl.1 (dw_d1' 29 rfl) (fun H2 locs2 wd2 => ?_)
  refine W.lcmp hx hb (dw_d1' 30 rfl) ?_
  refine lv_if_eq (tgt := 1388) hx hb (dw_d1' 31 rfl) (by decide) (fun _ => kn hX' hM' H2 locs2 J' wd2) (fun q => absurd ((lg_cmp_eq _ _).mpr rfl) q)
theorem dw_L_feed (C0 : lw_At p s m meth c b L xs) (hL : L ≤ 3584) (hK : va_K D vwCl (pm_tys cA) s) (hext : ∀ ρ1 : Nat → Nat, (∀ k, s.heap.size ≤ ρ1 k) → pm_ext (ρ1, σ) s) (J : dw_JJo hX hM) {H : Heap} {locs : List Loc} (wd : dw_Wd D cA σ s hX hM H locs) {ls : Array Slot} {i : Nat} (hi : i + 6 < L) (hl : lv_has ls 4 [(0, .ref b), (1, .ref s.heap.size), (2, .ref (s.heap.size + 37)), (3, .int (nI i))]) (kn : dw_Kn p l e s m below meth c b D cA σ ls Q) : W p l e room_1 s m #[Value.ref b] below meth c H locs (hX.length + 21) (pm_sl hX + pm_sl hM) Q (F0 m 278 ls []) := by
  obtain ⟨hx, hb, -⟩ := id C0
  obtain ⟨hX', hM', v, e1, e2, J'⟩ := dw_K_feed J (xs (i + 1)) (xs (i + 2)) (xs (i + 3)) (xs (i + 4)) (xs (i + 5)) (xs (i + 6))
  obtain ⟨j1, j2, j3, -⟩ := dw_JJlen J'
  refine lv_aload_n hx hb (dw_d1' 34 rfl) rfl (lv_at hl 1 rfl) ?_
  refine dw_larg C0 hL wd.2.2.2 hl 1 (by omega) (dw_d1' 35 rfl) (dw_d1' 36 rfl) (dw_d1' 37 rfl) (by decide) (dw_d1' 38 rfl) (dw_d1' 39 rfl) ?_
  refine dw_larg C0 hL wd.2.2.2 hl 2 (by omega) (dw_d1' 40 rfl) (dw_d1' 41 rfl) (dw_d1' 42 rfl) (by decide) (dw_d1' 43 rfl) (dw_d1' 44 rfl) ?_
  refine dw_larg C0 hL wd.2.2.2 hl 3 (by omega) (dw_d1' 45 rfl) (dw_d1' 46 rfl) (dw_d1' 47 rfl) (by decide) (dw_d1' 48 rfl) (dw_d1' 49 rfl) ?_
  refine dw_larg C0 hL wd.2.2.2 hl 4 (by omega) (dw_d1' 50 rfl) (dw_d1' 51 rfl) (dw_d1' 52 rfl) (by decide) (dw_d1' 53 rfl) (dw_d1' 54 rfl) ?_
  refine dw_larg C0 hL wd.2.2.2 hl 5 (by omega) (dw_d1' 55 rfl) (dw_d1' 56 rfl) (dw_d1' 57 rfl) (by decide) (dw_d1' 58 rfl) (dw_d1' 59 rfl) ?_
  refine dw_larg6 C0 hL wd.2.2.2 hl 6 (by omega) (dw_d2' 0 rfl) (dw_d2' 1 rfl) (dw_d2' 2 rfl) (by decide) (dw_d2' 3 rfl) (dw_d2' 4 rfl) ?_
  refine dw_callX (as := [xs (i + 1), xs (i + 2), xs (i + 3), xs (i + 4), xs (i + 5), xs (i + 6)]) (i1 := 306) (i2 := 307) (i3 := 308) C0 hK hext J ⟨j1, j2, j3⟩ wd e1 (fun _ => rfl) (q := pm_m_59) rfl rfl (by decide +kernel) (by decide +kernel) (by decide +kernel) rfl hl.1 (dw_d2' 5 rfl) (fun H1 locs1 wd1 => ?_)
  refine lv_aload_n hx hb (dw_d2' 6 rfl) rfl (lv_at hl 2 rfl) ?_
  refine dw_larg C0 hL wd1.2.2.2 hl 1 (by omega) (dw_d2' 7 rfl) (dw_d2' 8 rfl) (dw_d2' 9 rfl) (by decide) (dw_d2' 10 rfl) (dw_d2' 11 rfl) ?_
  refine dw_larg C0 hL wd1.2.2.2 hl 2 (by omega) (dw_d2' 12 rfl) (dw_d2' 13 rfl) (dw_d2' 14 rfl) (by decide) (dw_d2' 15 rfl) (dw_d2' 16 rfl) ?_
  refine dw_larg C0 hL wd1.2.2.2 hl 3 (by omega) (dw_d2' 17 rfl) (dw_d2' 18 rfl) (dw_d2' 19 rfl) (by decide) (dw_d2' 20 rfl) (dw_d2' 21 rfl) ?_
  refine dw_larg C0 hL wd1.2.2.2 hl 4 (by omega) (dw_d2' 22 rfl) (dw_d2' 23 rfl) (dw_d2' 24 rfl) (by decide) (dw_d2' 25 rfl) (dw_d2' 26 rfl) ?_
  refine dw_larg C0 hL wd1.2.2.2 hl 5 (by omega) (dw_d2' 27 rfl) (dw_d2' 28 rfl) (dw_d2' 29 rfl) (by decide) (dw_d2' 30 rfl) (dw_d2' 31 rfl) ?_
  refine dw_larg6 C0 hL wd1.2.2.2 hl 6 (by omega) (dw_d2' 32 rfl) (dw_d2' 33 rfl) (dw_d2' 34 rfl) (by decide) (dw_d2' 35 rfl) (dw_d2' 36 rfl) ?_
  refine dw_callM (as := [xs (i + 1), xs (i + 2), xs (i + 3), xs (i + 4), xs (i + 5), xs (i + 6)]) (i1 := 979) (i2 := 980) (i3 := 981) C0 hK hext J J' wd1 e2 (fun _ => rfl) (Nat.le_of_ble_eq_true rfl) (q := pm_m_122) rfl rfl (by decide +kernel) (by decide +kernel) (by decide +kernel) rfl hl.1 (dw_d2' 37 rfl) (fun H2 locs2 wd2 => ?_)
  exact lv_icmp_eq (tgt := 1388) hx hb (dw_d2' 38 rfl) (by decide) (fun _ => kn hX' hM' H2 locs2 J' wd2) (fun q => absurd rfl q)
theorem dw_L_text (C0 : lw_At p s m meth c b L xs) (hL : L ≤ 3584) (hK : va_K D vwCl (pm_tys cA) s) (hext : ∀ ρ1 : Nat → Nat, (∀ k, s.heap.size ≤ ρ1 k) → pm_ext (ρ1, σ) s) (J : dw_JJo hX hM) {H : Heap} {locs : List Loc} (wd : dw_Wd D cA σ s hX hM H locs) {ls : Array Slot} {i : Nat} (hi : i + 6 < L) (hl : lv_has ls 4 [(0, .ref b), (1, .ref s.heap.size), (2, .ref (s.heap.size + 37)), (3, .int (nI i))]) (kn : dw_Kn p l e s m below meth c b D cA σ ls Q) : W p l e room_1 s m #[Value.ref b] below meth c H locs (hX.length + 21) (pm_sl hX + pm_sl hM) Q (F0 m 353 ls []) := by
  obtain ⟨hx, hb, -⟩ := id C0
  obtain ⟨hX', hM', v, e1, e2, J'⟩ := dw_K_text J 
  obtain ⟨j1, j2, j3, -⟩ := dw_JJlen J'
  refine lv_aload_n hx hb (dw_d2' 41 rfl) rfl (lv_at hl 1 rfl) ?_
  refine dw_callX (as := []) (i1 := 317) (i2 := 318) (i3 := 319) C0 hK hext J ⟨j1, j2, j3⟩ wd e1 (fun _ => rfl) (q := pm_m_60) rfl rfl (by decide +kernel) (by decide +kernel) (by decide +kernel) rfl hl.1 (dw_d2' 42 rfl) (fun H1 locs1 wd1 => ?_)
  refine lv_aload_n hx hb (dw_d2' 43 rfl) rfl (lv_at hl 2 rfl) ?_
  refine dw_callM (as := []) (i1 := 986) (i2 := 788) (i3 := 789) C0 hK hext J J' wd1 e2 (fun _ => rfl) (Nat.le_of_ble_eq_true rfl) (q := pm_m_133) rfl rfl (by decide +kernel) (by decide +kernel) (by decide +kernel) rfl hl.1 (dw_d2' 44 rfl) (fun H2 locs2 wd2 => ?_)
  exact lv_icmp_eq (tgt := 1388) hx hb (dw_d2' 45 rfl) (by decide) (fun _ => kn hX' hM' H2 locs2 J' wd2) (fun q => absurd rfl q)
theorem dw_L_force (C0 : lw_At p s m meth c b L xs) (hL : L ≤ 3584) (hK : va_K D vwCl (pm_tys cA) s) (hext : ∀ ρ1 : Nat → Nat, (∀ k, s.heap.size ≤ ρ1 k) → pm_ext (ρ1, σ) s) (J : dw_JJo hX hM) {H : Heap} {locs : List Loc} (wd : dw_Wd D cA σ s hX hM H locs) {ls : Array Slot} {i : Nat} (hi : i + 6 < L) (hl : lv_has ls 4 [(0, .ref b), (1, .ref s.heap.size), (2, .ref (s.heap.size + 37)), (3, .int (nI i))]) (kn : dw_Kn p l e s m below meth c b D cA σ ls Q) : W p l e room_1 s m #[Value.ref b] below meth c H locs (hX.length + 21) (pm_sl hX + pm_sl hM) Q (F0 m 366 ls []) := by
  obtain ⟨hx, hb, -⟩ := id C0
  obtain ⟨hX', hM', v, e1, e2, J'⟩ := dw_K_force J (xs (i + 1))
  obtain ⟨j1, j2, j3, -⟩ := dw_JJlen J'
  refine lv_aload_n hx hb (dw_d2' 48 rfl) rfl (lv_at hl 1 rfl) ?_
  refine dw_larg C0 hL wd.2.2.2 hl 1 (by omega) (dw_d2' 49 rfl) (dw_d2' 50 rfl) (dw_d2' 51 rfl) (by decide) (dw_d2' 52 rfl) (dw_d2' 53 rfl) ?_
  refine dw_callX (as := [xs (i + 1)]) (i1 := 481) (i2 := 482) (i3 := 483) C0 hK hext J ⟨j1, j2, j3⟩ wd e1 (fun _ => rfl) (q := pm_m_61) rfl rfl (by decide +kernel) (by decide +kernel) (by decide +kernel) rfl hl.1 (dw_d2' 54 rfl) (fun H1 locs1 wd1 => ?_)
  refine lv_aload_n hx hb (dw_d2' 55 rfl) rfl (lv_at hl 2 rfl) ?_
  refine dw_larg C0 hL wd1.2.2.2 hl 1 (by omega) (dw_d2' 56 rfl) (dw_d2' 57 rfl) (dw_d2' 58 rfl) (by decide) (dw_d2' 59 rfl) (dw_d3' 0 rfl) ?_
  refine dw_callM (as := [xs (i + 1)]) (i1 := 987) (i2 := 988) (i3 := 989) C0 hK hext J J' wd1 e2 (fun _ => rfl) (Nat.le_of_ble_eq_true rfl) (q := pm_m_136) rfl rfl (by decide +kernel) (by decide +kernel) (by decide +kernel) rfl hl.1 (dw_d3' 1 rfl) (fun H2 locs2 wd2 => ?_)
  exact lv_icmp_eq (tgt := 1388) hx hb (dw_d3' 2 rfl) (by decide) (fun _ => kn hX' hM' H2 locs2 J' wd2) (fun q => absurd rfl q)
theorem dw_L_asks (C0 : lw_At p s m meth c b L xs) (hL : L ≤ 3584) (hK : va_K D vwCl (pm_tys cA) s) (hext : ∀ ρ1 : Nat → Nat, (∀ k, s.heap.size ≤ ρ1 k) → pm_ext (ρ1, σ) s) (J : dw_JJo hX hM) {H : Heap} {locs : List Loc} (wd : dw_Wd D cA σ s hX hM H locs) {ls : Array Slot} {i : Nat} (hi : i + 6 < L) (hl : lv_has ls 4 [(0, .ref b), (1, .ref s.heap.size), (2, .ref (s.heap.size + 37)), (3, .int (nI i))]) (kn : dw_Kn p l e s m below meth c b D cA σ ls Q) : W p l e room_1 s m #[Value.ref b] below meth c H locs (hX.length + 21) (pm_sl hX + pm_sl hM) Q (F0 m 389 ls []) := by
  obtain ⟨hx, hb, -⟩ := id C0
  obtain ⟨hX', hM', v, e1, e2, J'⟩ := dw_K_asks J (xs (i + 1)) (xs (i + 2))
  obtain ⟨j1, j2, j3, -⟩ := dw_JJlen J'
  refine lv_aload_n hx hb (dw_d3' 5 rfl) rfl (lv_at hl 1 rfl) ?_
  refine dw_larg C0 hL wd.2.2.2 hl 1 (by omega) (dw_d3' 6 rfl) (dw_d3' 7 rfl) (dw_d3' 8 rfl) (by decide) (dw_d3' 9 rfl) (dw_d3' 10 rfl) ?_
  refine dw_larg C0 hL wd.2.2.2 hl 2 (by omega) (dw_d3' 11 rfl) (dw_d3' 12 rfl) (dw_d3' 13 rfl) (by decide) (dw_d3' 14 rfl) (dw_d3' 15 rfl) ?_
  refine dw_callX (as := [xs (i + 1), xs (i + 2)]) (i1 := 489) (i2 := 490) (i3 := 491) C0 hK hext J ⟨j1, j2, j3⟩ wd e1 (fun _ => rfl) (q := pm_m_62) rfl rfl (by decide +kernel) (by decide +kernel) (by decide +kernel) rfl hl.1 (dw_d3' 16 rfl) (fun H1 locs1 wd1 => ?_)
  refine lv_aload_n hx hb (dw_d3' 17 rfl) rfl (lv_at hl 2 rfl) ?_
  refine dw_larg C0 hL wd1.2.2.2 hl 1 (by omega) (dw_d3' 18 rfl) (dw_d3' 19 rfl) (dw_d3' 20 rfl) (by decide) (dw_d3' 21 rfl) (dw_d3' 22 rfl) ?_
  refine dw_larg C0 hL wd1.2.2.2 hl 2 (by omega) (dw_d3' 23 rfl) (dw_d3' 24 rfl) (dw_d3' 25 rfl) (by decide) (dw_d3' 26 rfl) (dw_d3' 27 rfl) ?_
  refine dw_callM (as := [xs (i + 1), xs (i + 2)]) (i1 := 991) (i2 := 992) (i3 := 993) C0 hK hext J J' wd1 e2 (fun _ => rfl) (Nat.le_of_ble_eq_true rfl) (q := pm_m_138) rfl rfl (by decide +kernel) (by decide +kernel) (by decide +kernel) rfl hl.1 (dw_d3' 28 rfl) (fun H2 locs2 wd2 => ?_)
  exact lv_icmp_eq (tgt := 1388) hx hb (dw_d3' 29 rfl) (by decide) (fun _ => kn hX' hM' H2 locs2 J' wd2) (fun q => absurd rfl q)
theorem dw_L_dune (C0 : lw_At p s m meth c b L xs) (hL : L ≤ 3584) (hK : va_K D vwCl (pm_tys cA) s) (hext : ∀ ρ1 : Nat → Nat, (∀ k, s.heap.size ≤ ρ1 k) → pm_ext (ρ1, σ) s) (J : dw_JJo hX hM) {H : Heap} {locs : List Loc} (wd : dw_Wd D cA σ s hX hM H locs) {ls : Array Slot} {i : Nat} (hi : i + 6 < L) (hl : lv_has ls 4 [(0, .ref b), (1, .ref s.heap.size), (2, .ref (s.heap.size + 37)), (3, .int (nI i))]) (kn : dw_Kn p l e s m below meth c b D cA σ ls Q) : W p l e room_1 s m #[Value.ref b] below meth c H locs (hX.length + 21) (pm_sl hX + pm_sl hM) Q (F0 m 422 ls []) := by
  obtain ⟨hx, hb, -⟩ := id C0
  obtain ⟨hX', hM', v, e1, e2, J'⟩ := dw_K_dune J (xs (i + 1)) (xs (i + 2))
  obtain ⟨j1, j2, j3, -⟩ := dw_JJlen J'
  refine lv_aload_n hx hb (dw_d3' 32 rfl) rfl (lv_at hl 1 rfl) ?_
  refine dw_larg C0 hL wd.2.2.2 hl 1 (by omega) (dw_d3' 33 rfl) (dw_d3' 34 rfl) (dw_d3' 35 rfl) (by decide) (dw_d3' 36 rfl) (dw_d3' 37 rfl) ?_
  refine dw_larg C0 hL wd.2.2.2 hl 2 (by omega) (dw_d3' 38 rfl) (dw_d3' 39 rfl) (dw_d3' 40 rfl) (by decide) (dw_d3' 41 rfl) (dw_d3' 42 rfl) ?_
  refine dw_callX (as := [xs (i + 1), xs (i + 2)]) (i1 := 519) (i2 := 520) (i3 := 521) C0 hK hext J ⟨j1, j2, j3⟩ wd e1 (fun _ => rfl) (q := pm_m_63) rfl rfl (by decide +kernel) (by decide +kernel) (by decide +kernel) rfl hl.1 (dw_d3' 43 rfl) (fun H1 locs1 wd1 => ?_)
  refine lv_aload_n hx hb (dw_d3' 44 rfl) rfl (lv_at hl 2 rfl) ?_
  refine dw_larg C0 hL wd1.2.2.2 hl 1 (by omega) (dw_d3' 45 rfl) (dw_d3' 46 rfl) (dw_d3' 47 rfl) (by decide) (dw_d3' 48 rfl) (dw_d3' 49 rfl) ?_
  refine dw_larg C0 hL wd1.2.2.2 hl 2 (by omega) (dw_d3' 50 rfl) (dw_d3' 51 rfl) (dw_d3' 52 rfl) (by decide) (dw_d3' 53 rfl) (dw_d3' 54 rfl) ?_
  refine dw_callM (as := [xs (i + 1), xs (i + 2)]) (i1 := 1014) (i2 := 1015) (i3 := 1016) C0 hK hext J J' wd1 e2 (fun _ => rfl) (Nat.le_of_ble_eq_true rfl) (q := pm_m_139) rfl rfl (by decide +kernel) (by decide +kernel) (by decide +kernel) rfl hl.1 (dw_d3' 55 rfl) (fun H2 locs2 wd2 => ?_)
  exact lv_icmp_eq (tgt := 1388) hx hb (dw_d3' 56 rfl) (by decide) (fun _ => kn hX' hM' H2 locs2 J' wd2) (fun q => absurd rfl q)
theorem dw_L_put (C0 : lw_At p s m meth c b L xs) (hL : L ≤ 3584) (hK : va_K D vwCl (pm_tys cA) s) (hext : ∀ ρ1 : Nat → Nat, (∀ k, s.heap.size ≤ ρ1 k) → pm_ext (ρ1, σ) s) (J : dw_JJo hX hM) {H : Heap} {locs : List Loc} (wd : dw_Wd D cA σ s hX hM H locs) {ls : Array Slot} {i : Nat} (hi : i + 6 < L) (hl : lv_has ls 4 [(0, .ref b), (1, .ref s.heap.size), (2, .ref (s.heap.size + 37)), (3, .int (nI i))]) (kn : dw_Kn p l e s m below meth c b D cA σ ls Q) : W p l e room_1 s m #[Value.ref b] below meth c H locs (hX.length + 21) (pm_sl hX + pm_sl hM) Q (F0 m 455 ls []) := by
  obtain ⟨hx, hb, -⟩ := id C0
  obtain ⟨hX', hM', v, e1, e2, J'⟩ := dw_K_put J (xs (i + 1)) (xs (i + 2)) (xs (i + 3))
  obtain ⟨j1, j2, j3, -⟩ := dw_JJlen J'
  refine lv_aload_n hx hb (dw_d3' 59 rfl) rfl (lv_at hl 1 rfl) ?_
  refine dw_larg C0 hL wd.2.2.2 hl 1 (by omega) (dw_d4' 0 rfl) (dw_d4' 1 rfl) (dw_d4' 2 rfl) (by decide) (dw_d4' 3 rfl) (dw_d4' 4 rfl) ?_
  refine dw_larg C0 hL wd.2.2.2 hl 2 (by omega) (dw_d4' 5 rfl) (dw_d4' 6 rfl) (dw_d4' 7 rfl) (by decide) (dw_d4' 8 rfl) (dw_d4' 9 rfl) ?_
  refine dw_larg C0 hL wd.2.2.2 hl 3 (by omega) (dw_d4' 10 rfl) (dw_d4' 11 rfl) (dw_d4' 12 rfl) (by decide) (dw_d4' 13 rfl) (dw_d4' 14 rfl) ?_
  refine dw_callX (as := [xs (i + 1), xs (i + 2), xs (i + 3)]) (i1 := 524) (i2 := 525) (i3 := 526) C0 hK hext J ⟨j1, j2, j3⟩ wd e1 (fun _ => rfl) (q := pm_m_64) rfl rfl (by decide +kernel) (by decide +kernel) (by decide +kernel) rfl hl.1 (dw_d4' 15 rfl) (fun H1 locs1 wd1 => ?_)
  refine lv_aload_n hx hb (dw_d4' 16 rfl) rfl (lv_at hl 2 rfl) ?_
  refine dw_larg C0 hL wd1.2.2.2 hl 1 (by omega) (dw_d4' 17 rfl) (dw_d4' 18 rfl) (dw_d4' 19 rfl) (by decide) (dw_d4' 20 rfl) (dw_d4' 21 rfl) ?_
  refine dw_larg C0 hL wd1.2.2.2 hl 2 (by omega) (dw_d4' 22 rfl) (dw_d4' 23 rfl) (dw_d4' 24 rfl) (by decide) (dw_d4' 25 rfl) (dw_d4' 26 rfl) ?_
  refine dw_larg C0 hL wd1.2.2.2 hl 3 (by omega) (dw_d4' 27 rfl) (dw_d4' 28 rfl) (dw_d4' 29 rfl) (by decide) (dw_d4' 30 rfl) (dw_d4' 31 rfl) ?_
  refine dw_callM (as := [xs (i + 1), xs (i + 2), xs (i + 3)]) (i1 := 1019) (i2 := 1020) (i3 := 1021) C0 hK hext J J' wd1 e2 (fun _ => rfl) (Nat.le_of_ble_eq_true rfl) (q := pm_m_140) rfl rfl (by decide +kernel) (by decide +kernel) (by decide +kernel) rfl hl.1 (dw_d4' 32 rfl) (fun H2 locs2 wd2 => ?_)
  exact lv_icmp_eq (tgt := 1388) hx hb (dw_d4' 33 rfl) (by decide) (fun _ => kn hX' hM' H2 locs2 J' wd2) (fun q => absurd rfl q)
theorem dw_L_told (C0 : lw_At p s m meth c b L xs) (hL : L ≤ 3584) (hK : va_K D vwCl (pm_tys cA) s) (hext : ∀ ρ1 : Nat → Nat, (∀ k, s.heap.size ≤ ρ1 k) → pm_ext (ρ1, σ) s) (J : dw_JJo hX hM) {H : Heap} {locs : List Loc} (wd : dw_Wd D cA σ s hX hM H locs) {ls : Array Slot} {i : Nat} (hi : i + 6 < L) (hl : lv_has ls 4 [(0, .ref b), (1, .ref s.heap.size), (2, .ref (s.heap.size + 37)), (3, .int (nI i))]) (kn : dw_Kn p l e s m below meth c b D cA σ ls Q) : W p l e room_1 s m #[Value.ref b] below meth c H locs (hX.length + 21) (pm_sl hX + pm_sl hM) Q (F0 m 498 ls []) := by
  obtain ⟨hx, hb, -⟩ := id C0
  obtain ⟨hX', hM', v, e1, e2, J'⟩ := dw_K_told J (xs (i + 1)) (xs (i + 2))
  obtain ⟨j1, j2, j3, -⟩ := dw_JJlen J'
  refine lv_aload_n hx hb (dw_d4' 36 rfl) rfl (lv_at hl 1 rfl) ?_
  refine dw_larg C0 hL wd.2.2.2 hl 1 (by omega) (dw_d4' 37 rfl) (dw_d4' 38 rfl) (dw_d4' 39 rfl) (by decide) (dw_d4' 40 rfl) (dw_d4' 41 rfl) ?_
  refine dw_larg C0 hL wd.2.2.2 hl 2 (by omega) (dw_d4' 42 rfl) (dw_d4' 43 rfl) (dw_d4' 44 rfl) (by decide) (dw_d4' 45 rfl) (dw_d4' 46 rfl) ?_
  refine dw_callX (as := [xs (i + 1), xs (i + 2)]) (i1 := 542) (i2 := 543) (i3 := 544) C0 hK hext J ⟨j1, j2, j3⟩ wd e1 (fun _ => rfl) (q := pm_m_65) rfl rfl (by decide +kernel) (by decide +kernel) (by decide +kernel) rfl hl.1 (dw_d4' 47 rfl) (fun H1 locs1 wd1 => ?_)
  refine lv_aload_n hx hb (dw_d4' 48 rfl) rfl (lv_at hl 2 rfl) ?_
  refine dw_larg C0 hL wd1.2.2.2 hl 1 (by omega) (dw_d4' 49 rfl) (dw_d4' 50 rfl) (dw_d4' 51 rfl) (by decide) (dw_d4' 52 rfl) (dw_d4' 53 rfl) ?_
  refine dw_larg C0 hL wd1.2.2.2 hl 2 (by omega) (dw_d4' 54 rfl) (dw_d4' 55 rfl) (dw_d4' 56 rfl) (by decide) (dw_d4' 57 rfl) (dw_d4' 58 rfl) ?_
  refine dw_callM (as := [xs (i + 1), xs (i + 2)]) (i1 := 1023) (i2 := 1024) (i3 := 1025) C0 hK hext J J' wd1 e2 (fun _ => rfl) (Nat.le_of_ble_eq_true rfl) (q := pm_m_144) rfl rfl (by decide +kernel) (by decide +kernel) (by decide +kernel) rfl hl.1 (dw_d4' 59 rfl) (fun H2 locs2 wd2 => ?_)
  exact lv_icmp_eq (tgt := 1388) hx hb (dw_d5' 0 rfl) (by decide) (fun _ => kn hX' hM' H2 locs2 J' wd2) (fun q => absurd rfl q)
theorem dw_L_grows (C0 : lw_At p s m meth c b L xs) (hL : L ≤ 3584) (hK : va_K D vwCl (pm_tys cA) s) (hext : ∀ ρ1 : Nat → Nat, (∀ k, s.heap.size ≤ ρ1 k) → pm_ext (ρ1, σ) s) (J : dw_JJo hX hM) {H : Heap} {locs : List Loc} (wd : dw_Wd D cA σ s hX hM H locs) {ls : Array Slot} {i : Nat} (hi : i + 6 < L) (hl : lv_has ls 4 [(0, .ref b), (1, .ref s.heap.size), (2, .ref (s.heap.size + 37)), (3, .int (nI i))]) (kn : dw_Kn p l e s m below meth c b D cA σ ls Q) : W p l e room_1 s m #[Value.ref b] below meth c H locs (hX.length + 21) (pm_sl hX + pm_sl hM) Q (F0 m 531 ls []) := by
  obtain ⟨hx, hb, -⟩ := id C0
  obtain ⟨hX', hM', v, e1, e2, J'⟩ := dw_K_grows J (xs (i + 1))
  obtain ⟨j1, j2, j3, -⟩ := dw_JJlen J'
  refine lv_aload_n hx hb (dw_d5' 3 rfl) rfl (lv_at hl 1 rfl) ?_
  refine dw_larg C0 hL wd.2.2.2 hl 1 (by omega) (dw_d5' 4 rfl) (dw_d5' 5 rfl) (dw_d5' 6 rfl) (by decide) (dw_d5' 7 rfl) (dw_d5' 8 rfl) ?_
  refine dw_callX (as := [xs (i + 1)]) (i1 := 561) (i2 := 562) (i3 := 563) C0 hK hext J ⟨j1, j2, j3⟩ wd e1 (fun _ => rfl) (q := pm_m_66) rfl rfl (by decide +kernel) (by decide +kernel) (by decide +kernel) rfl hl.1 (dw_d5' 9 rfl) (fun H1 locs1 wd1 => ?_)
  refine lv_aload_n hx hb (dw_d5' 10 rfl) rfl (lv_at hl 2 rfl) ?_
  refine dw_larg C0 hL wd1.2.2.2 hl 1 (by omega) (dw_d5' 11 rfl) (dw_d5' 12 rfl) (dw_d5' 13 rfl) (by decide) (dw_d5' 14 rfl) (dw_d5' 15 rfl) ?_
  refine dw_callM (as := [xs (i + 1)]) (i1 := 1035) (i2 := 1036) (i3 := 1037) C0 hK hext J J' wd1 e2 (fun _ => rfl) (Nat.le_of_ble_eq_true rfl) (q := pm_m_145) rfl rfl (by decide +kernel) (by decide +kernel) (by decide +kernel) rfl hl.1 (dw_d5' 16 rfl) (fun H2 locs2 wd2 => ?_)
  exact lv_icmp_eq (tgt := 1388) hx hb (dw_d5' 17 rfl) (by decide) (fun _ => kn hX' hM' H2 locs2 J' wd2) (fun q => absurd rfl q)
theorem dw_L_year (C0 : lw_At p s m meth c b L xs) (hL : L ≤ 3584) (hK : va_K D vwCl (pm_tys cA) s) (hext : ∀ ρ1 : Nat → Nat, (∀ k, s.heap.size ≤ ρ1 k) → pm_ext (ρ1, σ) s) (J : dw_JJo hX hM) {H : Heap} {locs : List Loc} (wd : dw_Wd D cA σ s hX hM H locs) {ls : Array Slot} {i : Nat} (hi : i + 6 < L) (hl : lv_has ls 4 [(0, .ref b), (1, .ref s.heap.size), (2, .ref (s.heap.size + 37)), (3, .int (nI i))]) (kn : dw_Kn p l e s m below meth c b D cA σ ls Q) : W p l e room_1 s m #[Value.ref b] below meth c H locs (hX.length + 21) (pm_sl hX + pm_sl hM) Q (F0 m 554 ls []) := by
  obtain ⟨hx, hb, -⟩ := id C0
  obtain ⟨hX', hM', v, e1, e2, J'⟩ := dw_K_year J 
  obtain ⟨j1, j2, j3, -⟩ := dw_JJlen J'
  refine lv_aload_n hx hb (dw_d5' 20 rfl) rfl (lv_at hl 1 rfl) ?_
  refine dw_callX (as := []) (i1 := 569) (i2 := 570) (i3 := 571) C0 hK hext J ⟨j1, j2, j3⟩ wd e1 (fun _ => rfl) (q := pm_m_67) rfl rfl (by decide +kernel) (by decide +kernel) (by decide +kernel) rfl hl.1 (dw_d5' 21 rfl) (fun H1 locs1 wd1 => ?_)
  refine lv_aload_n hx hb (dw_d5' 22 rfl) rfl (lv_at hl 2 rfl) ?_
  refine dw_callM (as := []) (i1 := 1043) (i2 := 1044) (i3 := 1045) C0 hK hext J J' wd1 e2 (fun _ => rfl) (Nat.le_of_ble_eq_true rfl) (q := pm_m_148) rfl rfl (by decide +kernel) (by decide +kernel) (by decide +kernel) rfl hl.1 (dw_d5' 23 rfl) (fun H2 locs2 wd2 => ?_)
  exact lv_icmp_eq (tgt := 1388) hx hb (dw_d5' 24 rfl) (by decide) (fun _ => kn hX' hM' H2 locs2 J' wd2) (fun q => absurd rfl q)
theorem dw_L_run (C0 : lw_At p s m meth c b L xs) (hL : L ≤ 3584) (hK : va_K D vwCl (pm_tys cA) s) (hext : ∀ ρ1 : Nat → Nat, (∀ k, s.heap.size ≤ ρ1 k) → pm_ext (ρ1, σ) s) (J : dw_JJo hX hM) {H : Heap} {locs : List Loc} (wd : dw_Wd D cA σ s hX hM H locs) {ls : Array Slot} {i : Nat} (hi : i + 6 < L) (hl : lv_has ls 4 [(0, .ref b), (1, .ref s.heap.size), (2, .ref (s.heap.size + 37)), (3, .int (nI i))]) (kn : dw_Kn p l e s m below meth c b D cA σ ls Q) : W p l e room_1 s m #[Value.ref b] below meth c H locs (hX.length + 21) (pm_sl hX + pm_sl hM) Q (F0 m 567 ls []) := by
  obtain ⟨hx, hb, -⟩ := id C0
  obtain ⟨hX', hM', v, e1, e2, J'⟩ := dw_K_run J (xs (i + 1)) (xs (i + 2))
  obtain ⟨j1, j2, j3, -⟩ := dw_JJlen J'
  refine lv_aload_n hx hb (dw_d5' 27 rfl) rfl (lv_at hl 1 rfl) ?_
  refine dw_larg C0 hL wd.2.2.2 hl 1 (by omega) (dw_d5' 28 rfl) (dw_d5' 29 rfl) (dw_d5' 30 rfl) (by decide) (dw_d5' 31 rfl) (dw_d5' 32 rfl) ?_
  refine dw_larg C0 hL wd.2.2.2 hl 2 (by omega) (dw_d5' 33 rfl) (dw_d5' 34 rfl) (dw_d5' 35 rfl) (by decide) (dw_d5' 36 rfl) (dw_d5' 37 rfl) ?_
  refine dw_callX (as := [xs (i + 1), xs (i + 2)]) (i1 := 593) (i2 := 594) (i3 := 595) C0 hK hext J ⟨j1, j2, j3⟩ wd e1 (fun _ => rfl) (q := pm_m_68) rfl rfl (by decide +kernel) (by decide +kernel) (by decide +kernel) rfl hl.1 (dw_d5' 38 rfl) (fun H1 locs1 wd1 => ?_)
  refine lv_aload_n hx hb (dw_d5' 39 rfl) rfl (lv_at hl 2 rfl) ?_
  refine dw_larg C0 hL wd1.2.2.2 hl 1 (by omega) (dw_d5' 40 rfl) (dw_d5' 41 rfl) (dw_d5' 42 rfl) (by decide) (dw_d5' 43 rfl) (dw_d5' 44 rfl) ?_
  refine dw_larg C0 hL wd1.2.2.2 hl 2 (by omega) (dw_d5' 45 rfl) (dw_d5' 46 rfl) (dw_d5' 47 rfl) (by decide) (dw_d5' 48 rfl) (dw_d5' 49 rfl) ?_
  refine dw_callM (as := [xs (i + 1), xs (i + 2)]) (i1 := 1055) (i2 := 1056) (i3 := 1057) C0 hK hext J J' wd1 e2 (fun _ => rfl) (Nat.le_of_ble_eq_true rfl) (q := pm_m_153) rfl rfl (by decide +kernel) (by decide +kernel) (by decide +kernel) rfl hl.1 (dw_d5' 50 rfl) (fun H2 locs2 wd2 => ?_)
  exact lv_icmp_eq (tgt := 1388) hx hb (dw_d5' 51 rfl) (by decide) (fun _ => kn hX' hM' H2 locs2 J' wd2) (fun q => absurd rfl q)
theorem dw_L_comes (C0 : lw_At p s m meth c b L xs) (hL : L ≤ 3584) (hK : va_K D vwCl (pm_tys cA) s) (hext : ∀ ρ1 : Nat → Nat, (∀ k, s.heap.size ≤ ρ1 k) → pm_ext (ρ1, σ) s) (J : dw_JJo hX hM) {H : Heap} {locs : List Loc} (wd : dw_Wd D cA σ s hX hM H locs) {ls : Array Slot} {i : Nat} (hi : i + 6 < L) (hl : lv_has ls 4 [(0, .ref b), (1, .ref s.heap.size), (2, .ref (s.heap.size + 37)), (3, .int (nI i))]) (kn : dw_Kn p l e s m below meth c b D cA σ ls Q) : W p l e room_1 s m #[Value.ref b] below meth c H locs (hX.length + 21) (pm_sl hX + pm_sl hM) Q (F0 m 600 ls []) := by
  obtain ⟨hx, hb, -⟩ := id C0
  obtain ⟨hX', hM', v, e1, e2, J'⟩ := dw_K_comes J (xs (i + 1)) (xs (i + 2))
  obtain ⟨j1, j2, j3, -⟩ := dw_JJlen J'
  refine lv_aload_n hx hb (dw_d5' 54 rfl) rfl (lv_at hl 1 rfl) ?_
  refine dw_larg C0 hL wd.2.2.2 hl 1 (by omega) (dw_d5' 55 rfl) (dw_d5' 56 rfl) (dw_d5' 57 rfl) (by decide) (dw_d5' 58 rfl) (dw_d5' 59 rfl) ?_
  refine dw_larg C0 hL wd.2.2.2 hl 2 (by omega) (dw_d6' 0 rfl) (dw_d6' 1 rfl) (dw_d6' 2 rfl) (by decide) (dw_d6' 3 rfl) (dw_d6' 4 rfl) ?_
  refine dw_callX (as := [xs (i + 1), xs (i + 2)]) (i1 := 619) (i2 := 620) (i3 := 621) C0 hK hext J ⟨j1, j2, j3⟩ wd e1 (fun _ => rfl) (q := pm_m_70) rfl rfl (by decide +kernel) (by decide +kernel) (by decide +kernel) rfl hl.1 (dw_d6' 5 rfl) (fun H1 locs1 wd1 => ?_)
  refine lv_aload_n hx hb (dw_d6' 6 rfl) rfl (lv_at hl 2 rfl) ?_
  refine dw_larg C0 hL wd1.2.2.2 hl 1 (by omega) (dw_d6' 7 rfl) (dw_d6' 8 rfl) (dw_d6' 9 rfl) (by decide) (dw_d6' 10 rfl) (dw_d6' 11 rfl) ?_
  refine dw_larg C0 hL wd1.2.2.2 hl 2 (by omega) (dw_d6' 12 rfl) (dw_d6' 13 rfl) (dw_d6' 14 rfl) (by decide) (dw_d6' 15 rfl) (dw_d6' 16 rfl) ?_
  refine dw_callM (as := [xs (i + 1), xs (i + 2)]) (i1 := 1075) (i2 := 1076) (i3 := 1077) C0 hK hext J J' wd1 e2 (fun _ => rfl) (Nat.le_of_ble_eq_true rfl) (q := pm_m_155) rfl rfl (by decide +kernel) (by decide +kernel) (by decide +kernel) rfl hl.1 (dw_d6' 17 rfl) (fun H2 locs2 wd2 => ?_)
  exact lv_icmp_eq (tgt := 1388) hx hb (dw_d6' 18 rfl) (by decide) (fun _ => kn hX' hM' H2 locs2 J' wd2) (fun q => absurd rfl q)
theorem dw_L_ends (C0 : lw_At p s m meth c b L xs) (hL : L ≤ 3584) (hK : va_K D vwCl (pm_tys cA) s) (hext : ∀ ρ1 : Nat → Nat, (∀ k, s.heap.size ≤ ρ1 k) → pm_ext (ρ1, σ) s) (J : dw_JJo hX hM) {H : Heap} {locs : List Loc} (wd : dw_Wd D cA σ s hX hM H locs) {ls : Array Slot} {i : Nat} (hi : i + 6 < L) (hl : lv_has ls 4 [(0, .ref b), (1, .ref s.heap.size), (2, .ref (s.heap.size + 37)), (3, .int (nI i))]) (kn : dw_Kn p l e s m below meth c b D cA σ ls Q) : W p l e room_1 s m #[Value.ref b] below meth c H locs (hX.length + 21) (pm_sl hX + pm_sl hM) Q (F0 m 633 ls []) := by
  obtain ⟨hx, hb, -⟩ := id C0
  obtain ⟨hX', hM', v, e1, e2, J'⟩ := dw_K_ends J (xs (i + 1))
  obtain ⟨j1, j2, j3, -⟩ := dw_JJlen J'
  refine lv_aload_n hx hb (dw_d6' 21 rfl) rfl (lv_at hl 1 rfl) ?_
  refine dw_larg C0 hL wd.2.2.2 hl 1 (by omega) (dw_d6' 22 rfl) (dw_d6' 23 rfl) (dw_d6' 24 rfl) (by decide) (dw_d6' 25 rfl) (dw_d6' 26 rfl) ?_
  refine dw_callX (as := [xs (i + 1)]) (i1 := 627) (i2 := 628) (i3 := 629) C0 hK hext J ⟨j1, j2, j3⟩ wd e1 (fun _ => rfl) (q := pm_m_71) rfl rfl (by decide +kernel) (by decide +kernel) (by decide +kernel) rfl hl.1 (dw_d6' 27 rfl) (fun H1 locs1 wd1 => ?_)
  refine lv_aload_n hx hb (dw_d6' 28 rfl) rfl (lv_at hl 2 rfl) ?_
  refine dw_larg C0 hL wd1.2.2.2 hl 1 (by omega) (dw_d6' 29 rfl) (dw_d6' 30 rfl) (dw_d6' 31 rfl) (by decide) (dw_d6' 32 rfl) (dw_d6' 33 rfl) ?_
  refine dw_callM (as := [xs (i + 1)]) (i1 := 1083) (i2 := 1084) (i3 := 1085) C0 hK hext J J' wd1 e2 (fun _ => rfl) (Nat.le_of_ble_eq_true rfl) (q := pm_m_156) rfl rfl (by decide +kernel) (by decide +kernel) (by decide +kernel) rfl hl.1 (dw_d6' 34 rfl) (fun H2 locs2 wd2 => ?_)
  exact lv_icmp_eq (tgt := 1388) hx hb (dw_d6' 35 rfl) (by decide) (fun _ => kn hX' hM' H2 locs2 J' wd2) (fun q => absurd rfl q)
theorem dw_L_first (C0 : lw_At p s m meth c b L xs) (hL : L ≤ 3584) (hK : va_K D vwCl (pm_tys cA) s) (hext : ∀ ρ1 : Nat → Nat, (∀ k, s.heap.size ≤ ρ1 k) → pm_ext (ρ1, σ) s) (J : dw_JJo hX hM) {H : Heap} {locs : List Loc} (wd : dw_Wd D cA σ s hX hM H locs) {ls : Array Slot} {i : Nat} (hi : i + 6 < L) (hl : lv_has ls 4 [(0, .ref b), (1, .ref s.heap.size), (2, .ref (s.heap.size + 37)), (3, .int (nI i))]) (kn : dw_Kn p l e s m below meth c b D cA σ ls Q) : W p l e room_1 s m #[Value.ref b] below meth c H locs (hX.length + 21) (pm_sl hX + pm_sl hM) Q (F0 m 656 ls []) := by
  obtain ⟨hx, hb, -⟩ := id C0
  obtain ⟨hX', hM', v, e1, e2, J'⟩ := dw_K_first J (xs (i + 1))
  obtain ⟨j1, j2, j3, -⟩ := dw_JJlen J'
  refine lv_aload_n hx hb (dw_d6' 38 rfl) rfl (lv_at hl 1 rfl) ?_
  refine dw_larg C0 hL wd.2.2.2 hl 1 (by omega) (dw_d6' 39 rfl) (dw_d6' 40 rfl) (dw_d6' 41 rfl) (by decide) (dw_d6' 42 rfl) (dw_d6' 43 rfl) ?_
  refine dw_callX (as := [xs (i + 1)]) (i1 := 631) (i2 := 632) (i3 := 633) C0 hK hext J ⟨j1, j2, j3⟩ wd e1 (fun _ => rfl) (q := pm_m_72) rfl rfl (by decide +kernel) (by decide +kernel) (by decide +kernel) rfl hl.1 (dw_d6' 44 rfl) (fun H1 locs1 wd1 => ?_)
  refine lv_aload_n hx hb (dw_d6' 45 rfl) rfl (lv_at hl 2 rfl) ?_
  refine dw_larg C0 hL wd1.2.2.2 hl 1 (by omega) (dw_d6' 46 rfl) (dw_d6' 47 rfl) (dw_d6' 48 rfl) (by decide) (dw_d6' 49 rfl) (dw_d6' 50 rfl) ?_
  refine dw_callM (as := [xs (i + 1)]) (i1 := 1087) (i2 := 1088) (i3 := 1089) C0 hK hext J J' wd1 e2 (fun _ => rfl) (Nat.le_of_ble_eq_true rfl) (q := pm_m_157) rfl rfl (by decide +kernel) (by decide +kernel) (by decide +kernel) rfl hl.1 (dw_d6' 51 rfl) (fun H2 locs2 wd2 => ?_)
  exact lv_icmp_eq (tgt := 1388) hx hb (dw_d6' 52 rfl) (by decide) (fun _ => kn hX' hM' H2 locs2 J' wd2) (fun q => absurd rfl q)
theorem dw_L_sow (C0 : lw_At p s m meth c b L xs) (hL : L ≤ 3584) (hK : va_K D vwCl (pm_tys cA) s) (hext : ∀ ρ1 : Nat → Nat, (∀ k, s.heap.size ≤ ρ1 k) → pm_ext (ρ1, σ) s) (J : dw_JJo hX hM) {H : Heap} {locs : List Loc} (wd : dw_Wd D cA σ s hX hM H locs) {ls : Array Slot} {i : Nat} (hi : i + 6 < L) (hl : lv_has ls 4 [(0, .ref b), (1, .ref s.heap.size), (2, .ref (s.heap.size + 37)), (3, .int (nI i))]) (kn : dw_Kn p l e s m below meth c b D cA σ ls Q) : W p l e room_1 s m #[Value.ref b] below meth c H locs (hX.length + 21) (pm_sl hX + pm_sl hM) Q (F0 m 679 ls []) := by
  obtain ⟨hx, hb, -⟩ := id C0
  obtain ⟨hX', hM', v, e1, e2, J'⟩ := dw_K_sow J (xs (i + 1)) (xs (i + 2))
  obtain ⟨j1, j2, j3, -⟩ := dw_JJlen J'
  refine lv_aload_n hx hb (dw_d6' 55 rfl) rfl (lv_at hl 1 rfl) ?_
  refine dw_larg C0 hL wd.2.2.2 hl 1 (by omega) (dw_d6' 56 rfl) (dw_d6' 57 rfl) (dw_d6' 58 rfl) (by decide) (dw_d6' 59 rfl) (dw_d7' 0 rfl) ?_
  refine dw_larg C0 hL wd.2.2.2 hl 2 (by omega) (dw_d7' 1 rfl) (dw_d7' 2 rfl) (dw_d7' 3 rfl) (by decide) (dw_d7' 4 rfl) (dw_d7' 5 rfl) ?_
  refine dw_callX (as := [xs (i + 1), xs (i + 2)]) (i1 := 639) (i2 := 640) (i3 := 641) C0 hK hext J ⟨j1, j2, j3⟩ wd e1 (fun _ => rfl) (q := pm_m_73) rfl rfl (by decide +kernel) (by decide +kernel) (by decide +kernel) rfl hl.1 (dw_d7' 6 rfl) (fun H1 locs1 wd1 => ?_)
  refine lv_aload_n hx hb (dw_d7' 7 rfl) rfl (lv_at hl 2 rfl) ?_
  refine dw_larg C0 hL wd1.2.2.2 hl 1 (by omega) (dw_d7' 8 rfl) (dw_d7' 9 rfl) (dw_d7' 10 rfl) (by decide) (dw_d7' 11 rfl) (dw_d7' 12 rfl) ?_
  refine dw_larg C0 hL wd1.2.2.2 hl 2 (by omega) (dw_d7' 13 rfl) (dw_d7' 14 rfl) (dw_d7' 15 rfl) (by decide) (dw_d7' 16 rfl) (dw_d7' 17 rfl) ?_
  refine dw_callM (as := [xs (i + 1), xs (i + 2)]) (i1 := 1091) (i2 := 1092) (i3 := 1093) C0 hK hext J J' wd1 e2 (fun _ => rfl) (Nat.le_of_ble_eq_true rfl) (q := pm_m_159) rfl rfl (by decide +kernel) (by decide +kernel) (by decide +kernel) rfl hl.1 (dw_d7' 18 rfl) (fun H2 locs2 wd2 => ?_)
  exact lv_icmp_eq (tgt := 1388) hx hb (dw_d7' 19 rfl) (by decide) (fun _ => kn hX' hM' H2 locs2 J' wd2) (fun q => absurd rfl q)
theorem dw_L_move (C0 : lw_At p s m meth c b L xs) (hL : L ≤ 3584) (hK : va_K D vwCl (pm_tys cA) s) (hext : ∀ ρ1 : Nat → Nat, (∀ k, s.heap.size ≤ ρ1 k) → pm_ext (ρ1, σ) s) (J : dw_JJo hX hM) {H : Heap} {locs : List Loc} (wd : dw_Wd D cA σ s hX hM H locs) {ls : Array Slot} {i : Nat} (hi : i + 6 < L) (hl : lv_has ls 4 [(0, .ref b), (1, .ref s.heap.size), (2, .ref (s.heap.size + 37)), (3, .int (nI i))]) (kn : dw_Kn p l e s m below meth c b D cA σ ls Q) : W p l e room_1 s m #[Value.ref b] below meth c H locs (hX.length + 21) (pm_sl hX + pm_sl hM) Q (F0 m 712 ls []) := by
  obtain ⟨hx, hb, -⟩ := id C0
  obtain ⟨hX', hM', v, e1, e2, J'⟩ := dw_K_move J (xs (i + 1)) (xs (i + 2))
  obtain ⟨j1, j2, j3, -⟩ := dw_JJlen J'
  refine lv_aload_n hx hb (dw_d7' 22 rfl) rfl (lv_at hl 1 rfl) ?_
  refine dw_larg C0 hL wd.2.2.2 hl 1 (by omega) (dw_d7' 23 rfl) (dw_d7' 24 rfl) (dw_d7' 25 rfl) (by decide) (dw_d7' 26 rfl) (dw_d7' 27 rfl) ?_
  refine dw_larg C0 hL wd.2.2.2 hl 2 (by omega) (dw_d7' 28 rfl) (dw_d7' 29 rfl) (dw_d7' 30 rfl) (by decide) (dw_d7' 31 rfl) (dw_d7' 32 rfl) ?_
  refine dw_callX (as := [xs (i + 1), xs (i + 2)]) (i1 := 643) (i2 := 644) (i3 := 645) C0 hK hext J ⟨j1, j2, j3⟩ wd e1 (fun _ => rfl) (q := pm_m_74) rfl rfl (by decide +kernel) (by decide +kernel) (by decide +kernel) rfl hl.1 (dw_d7' 33 rfl) (fun H1 locs1 wd1 => ?_)
  refine lv_aload_n hx hb (dw_d7' 34 rfl) rfl (lv_at hl 2 rfl) ?_
  refine dw_larg C0 hL wd1.2.2.2 hl 1 (by omega) (dw_d7' 35 rfl) (dw_d7' 36 rfl) (dw_d7' 37 rfl) (by decide) (dw_d7' 38 rfl) (dw_d7' 39 rfl) ?_
  refine dw_larg C0 hL wd1.2.2.2 hl 2 (by omega) (dw_d7' 40 rfl) (dw_d7' 41 rfl) (dw_d7' 42 rfl) (by decide) (dw_d7' 43 rfl) (dw_d7' 44 rfl) ?_
  refine dw_callM (as := [xs (i + 1), xs (i + 2)]) (i1 := 1099) (i2 := 1100) (i3 := 1101) C0 hK hext J J' wd1 e2 (fun _ => rfl) (Nat.le_of_ble_eq_true rfl) (q := pm_m_160) rfl rfl (by decide +kernel) (by decide +kernel) (by decide +kernel) rfl hl.1 (dw_d7' 45 rfl) (fun H2 locs2 wd2 => ?_)
  exact lv_icmp_eq (tgt := 1388) hx hb (dw_d7' 46 rfl) (by decide) (fun _ => kn hX' hM' H2 locs2 J' wd2) (fun q => absurd rfl q)
theorem dw_L_hold (C0 : lw_At p s m meth c b L xs) (hL : L ≤ 3584) (hK : va_K D vwCl (pm_tys cA) s) (hext : ∀ ρ1 : Nat → Nat, (∀ k, s.heap.size ≤ ρ1 k) → pm_ext (ρ1, σ) s) (J : dw_JJo hX hM) {H : Heap} {locs : List Loc} (wd : dw_Wd D cA σ s hX hM H locs) {ls : Array Slot} {i : Nat} (hi : i + 6 < L) (hl : lv_has ls 4 [(0, .ref b), (1, .ref s.heap.size), (2, .ref (s.heap.size + 37)), (3, .int (nI i))]) (kn : dw_Kn p l e s m below meth c b D cA σ ls Q) : W p l e room_1 s m #[Value.ref b] below meth c H locs (hX.length + 21) (pm_sl hX + pm_sl hM) Q (F0 m 745 ls []) := by
  obtain ⟨hx, hb, -⟩ := id C0
  obtain ⟨hX', hM', v, e1, e2, J'⟩ := dw_K_hold J (xs (i + 1)) (xs (i + 2))
  obtain ⟨j1, j2, j3, -⟩ := dw_JJlen J'
  refine lv_aload_n hx hb (dw_d7' 49 rfl) rfl (lv_at hl 1 rfl) ?_
  refine dw_larg C0 hL wd.2.2.2 hl 1 (by omega) (dw_d7' 50 rfl) (dw_d7' 51 rfl) (dw_d7' 52 rfl) (by decide) (dw_d7' 53 rfl) (dw_d7' 54 rfl) ?_
  refine dw_larg C0 hL wd.2.2.2 hl 2 (by omega) (dw_d7' 55 rfl) (dw_d7' 56 rfl) (dw_d7' 57 rfl) (by decide) (dw_d7' 58 rfl) (dw_d7' 59 rfl) ?_
  refine dw_callX (as := [xs (i + 1), xs (i + 2)]) (i1 := 658) (i2 := 659) (i3 := 660) C0 hK hext J ⟨j1, j2, j3⟩ wd e1 (fun _ => rfl) (q := pm_m_75) rfl rfl (by decide +kernel) (by decide +kernel) (by decide +kernel) rfl hl.1 (dw_d8' 0 rfl) (fun H1 locs1 wd1 => ?_)
  refine lv_aload_n hx hb (dw_d8' 1 rfl) rfl (lv_at hl 2 rfl) ?_
  refine dw_larg C0 hL wd1.2.2.2 hl 1 (by omega) (dw_d8' 2 rfl) (dw_d8' 3 rfl) (dw_d8' 4 rfl) (by decide) (dw_d8' 5 rfl) (dw_d8' 6 rfl) ?_
  refine dw_larg C0 hL wd1.2.2.2 hl 2 (by omega) (dw_d8' 7 rfl) (dw_d8' 8 rfl) (dw_d8' 9 rfl) (by decide) (dw_d8' 10 rfl) (dw_d8' 11 rfl) ?_
  refine dw_callM (as := [xs (i + 1), xs (i + 2)]) (i1 := 1103) (i2 := 1104) (i3 := 1105) C0 hK hext J J' wd1 e2 (fun _ => rfl) (Nat.le_of_ble_eq_true rfl) (q := pm_m_161) rfl rfl (by decide +kernel) (by decide +kernel) (by decide +kernel) rfl hl.1 (dw_d8' 12 rfl) (fun H2 locs2 wd2 => ?_)
  exact lv_icmp_eq (tgt := 1388) hx hb (dw_d8' 13 rfl) (by decide) (fun _ => kn hX' hM' H2 locs2 J' wd2) (fun q => absurd rfl q)
theorem dw_L_share (C0 : lw_At p s m meth c b L xs) (hL : L ≤ 3584) (hK : va_K D vwCl (pm_tys cA) s) (hext : ∀ ρ1 : Nat → Nat, (∀ k, s.heap.size ≤ ρ1 k) → pm_ext (ρ1, σ) s) (J : dw_JJo hX hM) {H : Heap} {locs : List Loc} (wd : dw_Wd D cA σ s hX hM H locs) {ls : Array Slot} {i : Nat} (hi : i + 6 < L) (hl : lv_has ls 4 [(0, .ref b), (1, .ref s.heap.size), (2, .ref (s.heap.size + 37)), (3, .int (nI i))]) (kn : dw_Kn p l e s m below meth c b D cA σ ls Q) : W p l e room_1 s m #[Value.ref b] below meth c H locs (hX.length + 21) (pm_sl hX + pm_sl hM) Q (F0 m 778 ls []) := by
  obtain ⟨hx, hb, -⟩ := id C0
  obtain ⟨hX', hM', v, e1, e2, J'⟩ := dw_K_share J (xs (i + 1)) (xs (i + 2))
  obtain ⟨j1, j2, j3, -⟩ := dw_JJlen J'
  refine lv_aload_n hx hb (dw_d8' 16 rfl) rfl (lv_at hl 1 rfl) ?_
  refine dw_larg C0 hL wd.2.2.2 hl 1 (by omega) (dw_d8' 17 rfl) (dw_d8' 18 rfl) (dw_d8' 19 rfl) (by decide) (dw_d8' 20 rfl) (dw_d8' 21 rfl) ?_
  refine dw_larg C0 hL wd.2.2.2 hl 2 (by omega) (dw_d8' 22 rfl) (dw_d8' 23 rfl) (dw_d8' 24 rfl) (by decide) (dw_d8' 25 rfl) (dw_d8' 26 rfl) ?_
  refine dw_callX (as := [xs (i + 1), xs (i + 2)]) (i1 := 662) (i2 := 663) (i3 := 664) C0 hK hext J ⟨j1, j2, j3⟩ wd e1 (fun _ => rfl) (q := pm_m_76) rfl rfl (by decide +kernel) (by decide +kernel) (by decide +kernel) rfl hl.1 (dw_d8' 27 rfl) (fun H1 locs1 wd1 => ?_)
  refine lv_aload_n hx hb (dw_d8' 28 rfl) rfl (lv_at hl 2 rfl) ?_
  refine dw_larg C0 hL wd1.2.2.2 hl 1 (by omega) (dw_d8' 29 rfl) (dw_d8' 30 rfl) (dw_d8' 31 rfl) (by decide) (dw_d8' 32 rfl) (dw_d8' 33 rfl) ?_
  refine dw_larg C0 hL wd1.2.2.2 hl 2 (by omega) (dw_d8' 34 rfl) (dw_d8' 35 rfl) (dw_d8' 36 rfl) (by decide) (dw_d8' 37 rfl) (dw_d8' 38 rfl) ?_
  refine dw_callM (as := [xs (i + 1), xs (i + 2)]) (i1 := 1107) (i2 := 1108) (i3 := 1109) C0 hK hext J J' wd1 e2 (fun _ => rfl) (Nat.le_of_ble_eq_true rfl) (q := pm_m_163) rfl rfl (by decide +kernel) (by decide +kernel) (by decide +kernel) rfl hl.1 (dw_d8' 39 rfl) (fun H2 locs2 wd2 => ?_)
  refine W.lcmp hx hb (dw_d8' 40 rfl) ?_
  refine lv_if_eq (tgt := 1388) hx hb (dw_d8' 41 rfl) (by decide) (fun _ => kn hX' hM' H2 locs2 J' wd2) (fun q => absurd ((lg_cmp_eq _ _).mpr rfl) q)
theorem dw_L_judge (C0 : lw_At p s m meth c b L xs) (hL : L ≤ 3584) (hK : va_K D vwCl (pm_tys cA) s) (hext : ∀ ρ1 : Nat → Nat, (∀ k, s.heap.size ≤ ρ1 k) → pm_ext (ρ1, σ) s) (J : dw_JJo hX hM) {H : Heap} {locs : List Loc} (wd : dw_Wd D cA σ s hX hM H locs) {ls : Array Slot} {i : Nat} (hi : i + 6 < L) (hl : lv_has ls 4 [(0, .ref b), (1, .ref s.heap.size), (2, .ref (s.heap.size + 37)), (3, .int (nI i))]) (kn : dw_Kn p l e s m below meth c b D cA σ ls Q) : W p l e room_1 s m #[Value.ref b] below meth c H locs (hX.length + 21) (pm_sl hX + pm_sl hM) Q (F0 m 812 ls []) := by
  obtain ⟨hx, hb, -⟩ := id C0
  obtain ⟨hX', hM', v, e1, e2, J'⟩ := dw_K_judge J (xs (i + 1)) (xs (i + 2))
  obtain ⟨j1, j2, j3, -⟩ := dw_JJlen J'
  refine lv_aload_n hx hb (dw_d8' 44 rfl) rfl (lv_at hl 1 rfl) ?_
  refine dw_larg C0 hL wd.2.2.2 hl 1 (by omega) (dw_d8' 45 rfl) (dw_d8' 46 rfl) (dw_d8' 47 rfl) (by decide) (dw_d8' 48 rfl) (dw_d8' 49 rfl) ?_
  refine dw_larg C0 hL wd.2.2.2 hl 2 (by omega) (dw_d8' 50 rfl) (dw_d8' 51 rfl) (dw_d8' 52 rfl) (by decide) (dw_d8' 53 rfl) (dw_d8' 54 rfl) ?_
  refine dw_callX (as := [xs (i + 1), xs (i + 2)]) (i1 := 669) (i2 := 670) (i3 := 671) C0 hK hext J ⟨j1, j2, j3⟩ wd e1 (fun _ => rfl) (q := pm_m_77) rfl rfl (by decide +kernel) (by decide +kernel) (by decide +kernel) rfl hl.1 (dw_d8' 55 rfl) (fun H1 locs1 wd1 => ?_)
  refine lv_aload_n hx hb (dw_d8' 56 rfl) rfl (lv_at hl 2 rfl) ?_
  refine dw_larg C0 hL wd1.2.2.2 hl 1 (by omega) (dw_d8' 57 rfl) (dw_d8' 58 rfl) (dw_d8' 59 rfl) (by decide) (dw_d9' 0 rfl) (dw_d9' 1 rfl) ?_
  refine dw_larg C0 hL wd1.2.2.2 hl 2 (by omega) (dw_d9' 2 rfl) (dw_d9' 3 rfl) (dw_d9' 4 rfl) (by decide) (dw_d9' 5 rfl) (dw_d9' 6 rfl) ?_
  refine dw_callM (as := [xs (i + 1), xs (i + 2)]) (i1 := 1114) (i2 := 1115) (i3 := 1116) C0 hK hext J J' wd1 e2 (fun _ => rfl) (Nat.le_of_ble_eq_true rfl) (q := pm_m_167) rfl rfl (by decide +kernel) (by decide +kernel) (by decide +kernel) rfl hl.1 (dw_d9' 7 rfl) (fun H2 locs2 wd2 => ?_)
  exact lv_icmp_eq (tgt := 1388) hx hb (dw_d9' 8 rfl) (by decide) (fun _ => kn hX' hM' H2 locs2 J' wd2) (fun q => absurd rfl q)
theorem dw_L_kinds (C0 : lw_At p s m meth c b L xs) (hL : L ≤ 3584) (hK : va_K D vwCl (pm_tys cA) s) (hext : ∀ ρ1 : Nat → Nat, (∀ k, s.heap.size ≤ ρ1 k) → pm_ext (ρ1, σ) s) (J : dw_JJo hX hM) {H : Heap} {locs : List Loc} (wd : dw_Wd D cA σ s hX hM H locs) {ls : Array Slot} {i : Nat} (hi : i + 6 < L) (hl : lv_has ls 4 [(0, .ref b), (1, .ref s.heap.size), (2, .ref (s.heap.size + 37)), (3, .int (nI i))]) (kn : dw_Kn p l e s m below meth c b D cA σ ls Q) : W p l e room_1 s m #[Value.ref b] below meth c H locs (hX.length + 21) (pm_sl hX + pm_sl hM) Q (F0 m 845 ls []) := by
  obtain ⟨hx, hb, -⟩ := id C0
  obtain ⟨hX', hM', v, e1, e2, J'⟩ := dw_K_kinds J (xs (i + 1)) (xs (i + 2)) (xs (i + 3))
  obtain ⟨j1, j2, j3, -⟩ := dw_JJlen J'
  refine lv_aload_n hx hb (dw_d9' 11 rfl) rfl (lv_at hl 1 rfl) ?_
  refine dw_larg C0 hL wd.2.2.2 hl 1 (by omega) (dw_d9' 12 rfl) (dw_d9' 13 rfl) (dw_d9' 14 rfl) (by decide) (dw_d9' 15 rfl) (dw_d9' 16 rfl) ?_
  refine dw_larg C0 hL wd.2.2.2 hl 2 (by omega) (dw_d9' 17 rfl) (dw_d9' 18 rfl) (dw_d9' 19 rfl) (by decide) (dw_d9' 20 rfl) (dw_d9' 21 rfl) ?_
  refine dw_larg C0 hL wd.2.2.2 hl 3 (by omega) (dw_d9' 22 rfl) (dw_d9' 23 rfl) (dw_d9' 24 rfl) (by decide) (dw_d9' 25 rfl) (dw_d9' 26 rfl) ?_
  refine dw_callX (as := [xs (i + 1), xs (i + 2), xs (i + 3)]) (i1 := 688) (i2 := 689) (i3 := 690) C0 hK hext J ⟨j1, j2, j3⟩ wd e1 (fun _ => rfl) (q := pm_m_78) rfl rfl (by decide +kernel) (by decide +kernel) (by decide +kernel) rfl hl.1 (dw_d9' 27 rfl) (fun H1 locs1 wd1 => ?_)
  refine lv_aload_n hx hb (dw_d9' 28 rfl) rfl (lv_at hl 2 rfl) ?_
  refine dw_larg C0 hL wd1.2.2.2 hl 1 (by omega) (dw_d9' 29 rfl) (dw_d9' 30 rfl) (dw_d9' 31 rfl) (by decide) (dw_d9' 32 rfl) (dw_d9' 33 rfl) ?_
  refine dw_larg C0 hL wd1.2.2.2 hl 2 (by omega) (dw_d9' 34 rfl) (dw_d9' 35 rfl) (dw_d9' 36 rfl) (by decide) (dw_d9' 37 rfl) (dw_d9' 38 rfl) ?_
  refine dw_larg C0 hL wd1.2.2.2 hl 3 (by omega) (dw_d9' 39 rfl) (dw_d9' 40 rfl) (dw_d9' 41 rfl) (by decide) (dw_d9' 42 rfl) (dw_d9' 43 rfl) ?_
  refine dw_callM (as := [xs (i + 1), xs (i + 2), xs (i + 3)]) (i1 := 1130) (i2 := 1131) (i3 := 1132) C0 hK hext J J' wd1 e2 (fun _ => rfl) (Nat.le_of_ble_eq_true rfl) (q := pm_m_168) rfl rfl (by decide +kernel) (by decide +kernel) (by decide +kernel) rfl hl.1 (dw_d9' 44 rfl) (fun H2 locs2 wd2 => ?_)
  exact lv_icmp_eq (tgt := 1388) hx hb (dw_d9' 45 rfl) (by decide) (fun _ => kn hX' hM' H2 locs2 J' wd2) (fun q => absurd rfl q)
theorem dw_L_states (C0 : lw_At p s m meth c b L xs) (hL : L ≤ 3584) (hK : va_K D vwCl (pm_tys cA) s) (hext : ∀ ρ1 : Nat → Nat, (∀ k, s.heap.size ≤ ρ1 k) → pm_ext (ρ1, σ) s) (J : dw_JJo hX hM) {H : Heap} {locs : List Loc} (wd : dw_Wd D cA σ s hX hM H locs) {ls : Array Slot} {i : Nat} (hi : i + 6 < L) (hl : lv_has ls 4 [(0, .ref b), (1, .ref s.heap.size), (2, .ref (s.heap.size + 37)), (3, .int (nI i))]) (kn : dw_Kn p l e s m below meth c b D cA σ ls Q) : W p l e room_1 s m #[Value.ref b] below meth c H locs (hX.length + 21) (pm_sl hX + pm_sl hM) Q (F0 m 888 ls []) := by
  obtain ⟨hx, hb, -⟩ := id C0
  obtain ⟨hX', hM', v, e1, e2, J'⟩ := dw_K_states J (xs (i + 1)) (xs (i + 2)) (xs (i + 3)) (xs (i + 4))
  obtain ⟨j1, j2, j3, -⟩ := dw_JJlen J'
  refine lv_aload_n hx hb (dw_d9' 48 rfl) rfl (lv_at hl 1 rfl) ?_
  refine dw_larg C0 hL wd.2.2.2 hl 1 (by omega) (dw_d9' 49 rfl) (dw_d9' 50 rfl) (dw_d9' 51 rfl) (by decide) (dw_d9' 52 rfl) (dw_d9' 53 rfl) ?_
  refine dw_larg C0 hL wd.2.2.2 hl 2 (by omega) (dw_d9' 54 rfl) (dw_d9' 55 rfl) (dw_d9' 56 rfl) (by decide) (dw_d9' 57 rfl) (dw_d9' 58 rfl) ?_
  refine dw_larg C0 hL wd.2.2.2 hl 3 (by omega) (dw_d9' 59 rfl) (dw_d10' 0 rfl) (dw_d10' 1 rfl) (by decide) (dw_d10' 2 rfl) (dw_d10' 3 rfl) ?_
  refine dw_larg C0 hL wd.2.2.2 hl 4 (by omega) (dw_d10' 4 rfl) (dw_d10' 5 rfl) (dw_d10' 6 rfl) (by decide) (dw_d10' 7 rfl) (dw_d10' 8 rfl) ?_
  refine dw_callX (as := [xs (i + 1), xs (i + 2), xs (i + 3), xs (i + 4)]) (i1 := 696) (i2 := 697) (i3 := 698) C0 hK hext J ⟨j1, j2, j3⟩ wd e1 (fun _ => rfl) (q := pm_m_79) rfl rfl (by decide +kernel) (by decide +kernel) (by decide +kernel) rfl hl.1 (dw_d10' 9 rfl) (fun H1 locs1 wd1 => ?_)
  refine lv_aload_n hx hb (dw_d10' 10 rfl) rfl (lv_at hl 2 rfl) ?_
  refine dw_larg C0 hL wd1.2.2.2 hl 1 (by omega) (dw_d10' 11 rfl) (dw_d10' 12 rfl) (dw_d10' 13 rfl) (by decide) (dw_d10' 14 rfl) (dw_d10' 15 rfl) ?_
  refine dw_larg C0 hL wd1.2.2.2 hl 2 (by omega) (dw_d10' 16 rfl) (dw_d10' 17 rfl) (dw_d10' 18 rfl) (by decide) (dw_d10' 19 rfl) (dw_d10' 20 rfl) ?_
  refine dw_larg C0 hL wd1.2.2.2 hl 3 (by omega) (dw_d10' 21 rfl) (dw_d10' 22 rfl) (dw_d10' 23 rfl) (by decide) (dw_d10' 24 rfl) (dw_d10' 25 rfl) ?_
  refine dw_larg C0 hL wd1.2.2.2 hl 4 (by omega) (dw_d10' 26 rfl) (dw_d10' 27 rfl) (dw_d10' 28 rfl) (by decide) (dw_d10' 29 rfl) (dw_d10' 30 rfl) ?_
  refine dw_callM (as := [xs (i + 1), xs (i + 2), xs (i + 3), xs (i + 4)]) (i1 := 1134) (i2 := 1135) (i3 := 1136) C0 hK hext J J' wd1 e2 (fun _ => rfl) (Nat.le_of_ble_eq_true rfl) (q := pm_m_169) rfl rfl (by decide +kernel) (by decide +kernel) (by decide +kernel) rfl hl.1 (dw_d10' 31 rfl) (fun H2 locs2 wd2 => ?_)
  exact lv_icmp_eq (tgt := 1388) hx hb (dw_d10' 32 rfl) (by decide) (fun _ => kn hX' hM' H2 locs2 J' wd2) (fun q => absurd rfl q)
theorem dw_L_whose (C0 : lw_At p s m meth c b L xs) (hL : L ≤ 3584) (hK : va_K D vwCl (pm_tys cA) s) (hext : ∀ ρ1 : Nat → Nat, (∀ k, s.heap.size ≤ ρ1 k) → pm_ext (ρ1, σ) s) (J : dw_JJo hX hM) {H : Heap} {locs : List Loc} (wd : dw_Wd D cA σ s hX hM H locs) {ls : Array Slot} {i : Nat} (hi : i + 6 < L) (hl : lv_has ls 4 [(0, .ref b), (1, .ref s.heap.size), (2, .ref (s.heap.size + 37)), (3, .int (nI i))]) (kn : dw_Kn p l e s m below meth c b D cA σ ls Q) : W p l e room_1 s m #[Value.ref b] below meth c H locs (hX.length + 21) (pm_sl hX + pm_sl hM) Q (F0 m 941 ls []) := by
  obtain ⟨hx, hb, -⟩ := id C0
  obtain ⟨hX', hM', v, e1, e2, J'⟩ := dw_K_whose J (xs (i + 1))
  obtain ⟨j1, j2, j3, -⟩ := dw_JJlen J'
  refine lv_aload_n hx hb (dw_d10' 35 rfl) rfl (lv_at hl 1 rfl) ?_
  refine dw_larg C0 hL wd.2.2.2 hl 1 (by omega) (dw_d10' 36 rfl) (dw_d10' 37 rfl) (dw_d10' 38 rfl) (by decide) (dw_d10' 39 rfl) (dw_d10' 40 rfl) ?_
  refine dw_callX (as := [xs (i + 1)]) (i1 := 700) (i2 := 701) (i3 := 702) C0 hK hext J ⟨j1, j2, j3⟩ wd e1 (fun _ => rfl) (q := pm_m_80) rfl rfl (by decide +kernel) (by decide +kernel) (by decide +kernel) rfl hl.1 (dw_d10' 41 rfl) (fun H1 locs1 wd1 => ?_)
  refine lv_aload_n hx hb (dw_d10' 42 rfl) rfl (lv_at hl 2 rfl) ?_
  refine dw_larg C0 hL wd1.2.2.2 hl 1 (by omega) (dw_d10' 43 rfl) (dw_d10' 44 rfl) (dw_d10' 45 rfl) (by decide) (dw_d10' 46 rfl) (dw_d10' 47 rfl) ?_
  refine dw_callM (as := [xs (i + 1)]) (i1 := 1138) (i2 := 1139) (i3 := 1140) C0 hK hext J J' wd1 e2 (fun _ => rfl) (Nat.le_of_ble_eq_true rfl) (q := pm_m_170) rfl rfl (by decide +kernel) (by decide +kernel) (by decide +kernel) rfl hl.1 (dw_d10' 48 rfl) (fun H2 locs2 wd2 => ?_)
  exact lv_icmp_eq (tgt := 1388) hx hb (dw_d10' 49 rfl) (by decide) (fun _ => kn hX' hM' H2 locs2 J' wd2) (fun q => absurd rfl q)
theorem dw_L_laws (C0 : lw_At p s m meth c b L xs) (hL : L ≤ 3584) (hK : va_K D vwCl (pm_tys cA) s) (hext : ∀ ρ1 : Nat → Nat, (∀ k, s.heap.size ≤ ρ1 k) → pm_ext (ρ1, σ) s) (J : dw_JJo hX hM) {H : Heap} {locs : List Loc} (wd : dw_Wd D cA σ s hX hM H locs) {ls : Array Slot} {i : Nat} (hi : i + 6 < L) (hl : lv_has ls 4 [(0, .ref b), (1, .ref s.heap.size), (2, .ref (s.heap.size + 37)), (3, .int (nI i))]) (kn : dw_Kn p l e s m below meth c b D cA σ ls Q) : W p l e room_1 s m #[Value.ref b] below meth c H locs (hX.length + 21) (pm_sl hX + pm_sl hM) Q (F0 m 964 ls []) := by
  obtain ⟨hx, hb, -⟩ := id C0
  obtain ⟨hX', hM', v, e1, e2, J'⟩ := dw_K_laws J (xs (i + 1)) (xs (i + 2))
  obtain ⟨j1, j2, j3, -⟩ := dw_JJlen J'
  refine lv_aload_n hx hb (dw_d10' 52 rfl) rfl (lv_at hl 1 rfl) ?_
  refine dw_larg C0 hL wd.2.2.2 hl 1 (by omega) (dw_d10' 53 rfl) (dw_d10' 54 rfl) (dw_d10' 55 rfl) (by decide) (dw_d10' 56 rfl) (dw_d10' 57 rfl) ?_
  refine dw_larg C0 hL wd.2.2.2 hl 2 (by omega) (dw_d10' 58 rfl) (dw_d10' 59 rfl) (dw_d11' 0 rfl) (by decide) (dw_d11' 1 rfl) (dw_d11' 2 rfl) ?_
  refine dw_callX (as := [xs (i + 1), xs (i + 2)]) (i1 := 704) (i2 := 705) (i3 := 706) C0 hK hext J ⟨j1, j2, j3⟩ wd e1 (fun _ => rfl) (q := pm_m_81) rfl rfl (by decide +kernel) (by decide +kernel) (by decide +kernel) rfl hl.1 (dw_d11' 3 rfl) (fun H1 locs1 wd1 => ?_)
  refine lv_aload_n hx hb (dw_d11' 4 rfl) rfl (lv_at hl 2 rfl) ?_
  refine dw_larg C0 hL wd1.2.2.2 hl 1 (by omega) (dw_d11' 5 rfl) (dw_d11' 6 rfl) (dw_d11' 7 rfl) (by decide) (dw_d11' 8 rfl) (dw_d11' 9 rfl) ?_
  refine dw_larg C0 hL wd1.2.2.2 hl 2 (by omega) (dw_d11' 10 rfl) (dw_d11' 11 rfl) (dw_d11' 12 rfl) (by decide) (dw_d11' 13 rfl) (dw_d11' 14 rfl) ?_
  refine dw_callM (as := [xs (i + 1), xs (i + 2)]) (i1 := 1142) (i2 := 1143) (i3 := 1144) C0 hK hext J J' wd1 e2 (fun _ => rfl) (Nat.le_of_ble_eq_true rfl) (q := pm_m_171) rfl rfl (by decide +kernel) (by decide +kernel) (by decide +kernel) rfl hl.1 (dw_d11' 15 rfl) (fun H2 locs2 wd2 => ?_)
  exact lv_icmp_eq (tgt := 1388) hx hb (dw_d11' 16 rfl) (by decide) (fun _ => kn hX' hM' H2 locs2 J' wd2) (fun q => absurd rfl q)
theorem dw_L_film (C0 : lw_At p s m meth c b L xs) (hL : L ≤ 3584) (hK : va_K D vwCl (pm_tys cA) s) (hext : ∀ ρ1 : Nat → Nat, (∀ k, s.heap.size ≤ ρ1 k) → pm_ext (ρ1, σ) s) (J : dw_JJo hX hM) {H : Heap} {locs : List Loc} (wd : dw_Wd D cA σ s hX hM H locs) {ls : Array Slot} {i : Nat} (hi : i + 6 < L) (hl : lv_has ls 4 [(0, .ref b), (1, .ref s.heap.size), (2, .ref (s.heap.size + 37)), (3, .int (nI i))]) (kn : dw_Kn p l e s m below meth c b D cA σ ls Q) : W p l e room_1 s m #[Value.ref b] below meth c H locs (hX.length + 21) (pm_sl hX + pm_sl hM) Q (F0 m 997 ls []) := by
  obtain ⟨hx, hb, -⟩ := id C0
  obtain ⟨hX', hM', v, e1, e2, J'⟩ := dw_K_film J (xs (i + 1)) (xs (i + 2)) (xs (i + 3))
  obtain ⟨j1, j2, j3, -⟩ := dw_JJlen J'
  refine lv_aload_n hx hb (dw_d11' 19 rfl) rfl (lv_at hl 1 rfl) ?_
  refine dw_larg C0 hL wd.2.2.2 hl 1 (by omega) (dw_d11' 20 rfl) (dw_d11' 21 rfl) (dw_d11' 22 rfl) (by decide) (dw_d11' 23 rfl) (dw_d11' 24 rfl) ?_
  refine dw_larg C0 hL wd.2.2.2 hl 2 (by omega) (dw_d11' 25 rfl) (dw_d11' 26 rfl) (dw_d11' 27 rfl) (by decide) (dw_d11' 28 rfl) (dw_d11' 29 rfl) ?_
  refine dw_larg C0 hL wd.2.2.2 hl 3 (by omega) (dw_d11' 30 rfl) (dw_d11' 31 rfl) (dw_d11' 32 rfl) (by decide) (dw_d11' 33 rfl) (dw_d11' 34 rfl) ?_
  refine dw_callX (as := [xs (i + 1), xs (i + 2), xs (i + 3)]) (i1 := 712) (i2 := 713) (i3 := 714) C0 hK hext J ⟨j1, j2, j3⟩ wd e1 (fun _ => rfl) (q := pm_m_82) rfl rfl (by decide +kernel) (by decide +kernel) (by decide +kernel) rfl hl.1 (dw_d11' 35 rfl) (fun H1 locs1 wd1 => ?_)
  refine lv_aload_n hx hb (dw_d11' 36 rfl) rfl (lv_at hl 2 rfl) ?_
  refine dw_larg C0 hL wd1.2.2.2 hl 1 (by omega) (dw_d11' 37 rfl) (dw_d11' 38 rfl) (dw_d11' 39 rfl) (by decide) (dw_d11' 40 rfl) (dw_d11' 41 rfl) ?_
  refine dw_larg C0 hL wd1.2.2.2 hl 2 (by omega) (dw_d11' 42 rfl) (dw_d11' 43 rfl) (dw_d11' 44 rfl) (by decide) (dw_d11' 45 rfl) (dw_d11' 46 rfl) ?_
  refine dw_larg C0 hL wd1.2.2.2 hl 3 (by omega) (dw_d11' 47 rfl) (dw_d11' 48 rfl) (dw_d11' 49 rfl) (by decide) (dw_d11' 50 rfl) (dw_d11' 51 rfl) ?_
  refine dw_callM (as := [xs (i + 1), xs (i + 2), xs (i + 3)]) (i1 := 1146) (i2 := 1147) (i3 := 1148) C0 hK hext J J' wd1 e2 (fun _ => rfl) (Nat.le_of_ble_eq_true rfl) (q := pm_m_172) rfl rfl (by decide +kernel) (by decide +kernel) (by decide +kernel) rfl hl.1 (dw_d11' 52 rfl) (fun H2 locs2 wd2 => ?_)
  exact lv_icmp_eq (tgt := 1388) hx hb (dw_d11' 53 rfl) (by decide) (fun _ => kn hX' hM' H2 locs2 J' wd2) (fun q => absurd rfl q)
theorem dw_L_drawn (C0 : lw_At p s m meth c b L xs) (hL : L ≤ 3584) (hK : va_K D vwCl (pm_tys cA) s) (hext : ∀ ρ1 : Nat → Nat, (∀ k, s.heap.size ≤ ρ1 k) → pm_ext (ρ1, σ) s) (J : dw_JJo hX hM) {H : Heap} {locs : List Loc} (wd : dw_Wd D cA σ s hX hM H locs) {ls : Array Slot} {i : Nat} (hi : i + 6 < L) (hl : lv_has ls 4 [(0, .ref b), (1, .ref s.heap.size), (2, .ref (s.heap.size + 37)), (3, .int (nI i))]) (kn : dw_Kn p l e s m below meth c b D cA σ ls Q) : W p l e room_1 s m #[Value.ref b] below meth c H locs (hX.length + 21) (pm_sl hX + pm_sl hM) Q (F0 m 1040 ls []) := by
  obtain ⟨hx, hb, -⟩ := id C0
  obtain ⟨hX', hM', v, e1, e2, J'⟩ := dw_K_drawn J (xs (i + 1)) (xs (i + 2))
  obtain ⟨j1, j2, j3, -⟩ := dw_JJlen J'
  refine lv_aload_n hx hb (dw_d11' 56 rfl) rfl (lv_at hl 1 rfl) ?_
  refine dw_larg C0 hL wd.2.2.2 hl 1 (by omega) (dw_d11' 57 rfl) (dw_d11' 58 rfl) (dw_d11' 59 rfl) (by decide) (dw_d12' 0 rfl) (dw_d12' 1 rfl) ?_
  refine dw_larg C0 hL wd.2.2.2 hl 2 (by omega) (dw_d12' 2 rfl) (dw_d12' 3 rfl) (dw_d12' 4 rfl) (by decide) (dw_d12' 5 rfl) (dw_d12' 6 rfl) ?_
  refine dw_callX (as := [xs (i + 1), xs (i + 2)]) (i1 := 725) (i2 := 726) (i3 := 727) C0 hK hext J ⟨j1, j2, j3⟩ wd e1 (fun _ => rfl) (q := pm_m_83) rfl rfl (by decide +kernel) (by decide +kernel) (by decide +kernel) rfl hl.1 (dw_d12' 7 rfl) (fun H1 locs1 wd1 => ?_)
  refine lv_aload_n hx hb (dw_d12' 8 rfl) rfl (lv_at hl 2 rfl) ?_
  refine dw_larg C0 hL wd1.2.2.2 hl 1 (by omega) (dw_d12' 9 rfl) (dw_d12' 10 rfl) (dw_d12' 11 rfl) (by decide) (dw_d12' 12 rfl) (dw_d12' 13 rfl) ?_
  refine dw_larg C0 hL wd1.2.2.2 hl 2 (by omega) (dw_d12' 14 rfl) (dw_d12' 15 rfl) (dw_d12' 16 rfl) (by decide) (dw_d12' 17 rfl) (dw_d12' 18 rfl) ?_
  refine dw_callM (as := [xs (i + 1), xs (i + 2)]) (i1 := 1150) (i2 := 1151) (i3 := 1152) C0 hK hext J J' wd1 e2 (fun _ => rfl) (Nat.le_of_ble_eq_true rfl) (q := pm_m_174) rfl rfl (by decide +kernel) (by decide +kernel) (by decide +kernel) rfl hl.1 (dw_d12' 19 rfl) (fun H2 locs2 wd2 => ?_)
  exact lv_icmp_eq (tgt := 1388) hx hb (dw_d12' 20 rfl) (by decide) (fun _ => kn hX' hM' H2 locs2 J' wd2) (fun q => absurd rfl q)
theorem dw_L_odds (C0 : lw_At p s m meth c b L xs) (hL : L ≤ 3584) (hK : va_K D vwCl (pm_tys cA) s) (hext : ∀ ρ1 : Nat → Nat, (∀ k, s.heap.size ≤ ρ1 k) → pm_ext (ρ1, σ) s) (J : dw_JJo hX hM) {H : Heap} {locs : List Loc} (wd : dw_Wd D cA σ s hX hM H locs) {ls : Array Slot} {i : Nat} (hi : i + 6 < L) (hl : lv_has ls 4 [(0, .ref b), (1, .ref s.heap.size), (2, .ref (s.heap.size + 37)), (3, .int (nI i))]) (kn : dw_Kn p l e s m below meth c b D cA σ ls Q) : W p l e room_1 s m #[Value.ref b] below meth c H locs (hX.length + 21) (pm_sl hX + pm_sl hM) Q (F0 m 1073 ls []) := by
  obtain ⟨hx, hb, -⟩ := id C0
  obtain ⟨hX', hM', v, e1, e2, J'⟩ := dw_K_odds J (xs (i + 1)) (xs (i + 2)) (xs (i + 3)) (xs (i + 4))
  obtain ⟨j1, j2, j3, -⟩ := dw_JJlen J'
  refine lv_aload_n hx hb (dw_d12' 23 rfl) rfl (lv_at hl 1 rfl) ?_
  refine dw_larg C0 hL wd.2.2.2 hl 1 (by omega) (dw_d12' 24 rfl) (dw_d12' 25 rfl) (dw_d12' 26 rfl) (by decide) (dw_d12' 27 rfl) (dw_d12' 28 rfl) ?_
  refine dw_larg C0 hL wd.2.2.2 hl 2 (by omega) (dw_d12' 29 rfl) (dw_d12' 30 rfl) (dw_d12' 31 rfl) (by decide) (dw_d12' 32 rfl) (dw_d12' 33 rfl) ?_
  refine dw_larg C0 hL wd.2.2.2 hl 3 (by omega) (dw_d12' 34 rfl) (dw_d12' 35 rfl) (dw_d12' 36 rfl) (by decide) (dw_d12' 37 rfl) (dw_d12' 38 rfl) ?_
  refine dw_larg C0 hL wd.2.2.2 hl 4 (by omega) (dw_d12' 39 rfl) (dw_d12' 40 rfl) (dw_d12' 41 rfl) (by decide) (dw_d12' 42 rfl) (dw_d12' 43 rfl) ?_
  refine dw_callX (as := [xs (i + 1), xs (i + 2), xs (i + 3), xs (i + 4)]) (i1 := 739) (i2 := 740) (i3 := 741) C0 hK hext J ⟨j1, j2, j3⟩ wd e1 (fun _ => rfl) (q := pm_m_84) rfl rfl (by decide +kernel) (by decide +kernel) (by decide +kernel) rfl hl.1 (dw_d12' 44 rfl) (fun H1 locs1 wd1 => ?_)
  refine lv_aload_n hx hb (dw_d12' 45 rfl) rfl (lv_at hl 2 rfl) ?_
  refine dw_larg C0 hL wd1.2.2.2 hl 1 (by omega) (dw_d12' 46 rfl) (dw_d12' 47 rfl) (dw_d12' 48 rfl) (by decide) (dw_d12' 49 rfl) (dw_d12' 50 rfl) ?_
  refine dw_larg C0 hL wd1.2.2.2 hl 2 (by omega) (dw_d12' 51 rfl) (dw_d12' 52 rfl) (dw_d12' 53 rfl) (by decide) (dw_d12' 54 rfl) (dw_d12' 55 rfl) ?_
  refine dw_larg C0 hL wd1.2.2.2 hl 3 (by omega) (dw_d12' 56 rfl) (dw_d12' 57 rfl) (dw_d12' 58 rfl) (by decide) (dw_d12' 59 rfl) (dw_d13' 0 rfl) ?_
  refine dw_larg C0 hL wd1.2.2.2 hl 4 (by omega) (dw_d13' 1 rfl) (dw_d13' 2 rfl) (dw_d13' 3 rfl) (by decide) (dw_d13' 4 rfl) (dw_d13' 5 rfl) ?_
  refine dw_callM (as := [xs (i + 1), xs (i + 2), xs (i + 3), xs (i + 4)]) (i1 := 1163) (i2 := 1164) (i3 := 1165) C0 hK hext J J' wd1 e2 (fun _ => rfl) (Nat.le_of_ble_eq_true rfl) (q := pm_m_175) rfl rfl (by decide +kernel) (by decide +kernel) (by decide +kernel) rfl hl.1 (dw_d13' 6 rfl) (fun H2 locs2 wd2 => ?_)
  refine W.lcmp hx hb (dw_d13' 7 rfl) ?_
  refine lv_if_eq (tgt := 1388) hx hb (dw_d13' 8 rfl) (by decide) (fun _ => kn hX' hM' H2 locs2 J' wd2) (fun q => absurd ((lg_cmp_eq _ _).mpr rfl) q)
theorem dw_L_image (C0 : lw_At p s m meth c b L xs) (hL : L ≤ 3584) (hK : va_K D vwCl (pm_tys cA) s) (hext : ∀ ρ1 : Nat → Nat, (∀ k, s.heap.size ≤ ρ1 k) → pm_ext (ρ1, σ) s) (J : dw_JJo hX hM) {H : Heap} {locs : List Loc} (wd : dw_Wd D cA σ s hX hM H locs) {ls : Array Slot} {i : Nat} (hi : i + 6 < L) (hl : lv_has ls 4 [(0, .ref b), (1, .ref s.heap.size), (2, .ref (s.heap.size + 37)), (3, .int (nI i))]) (kn : dw_Kn p l e s m below meth c b D cA σ ls Q) : W p l e room_1 s m #[Value.ref b] below meth c H locs (hX.length + 21) (pm_sl hX + pm_sl hM) Q (F0 m 1127 ls []) := by
  obtain ⟨hx, hb, -⟩ := id C0
  obtain ⟨hX', hM', v, e1, e2, J'⟩ := dw_K_image J 
  obtain ⟨j1, j2, j3, -⟩ := dw_JJlen J'
  refine lv_aload_n hx hb (dw_d13' 11 rfl) rfl (lv_at hl 1 rfl) ?_
  refine dw_callX (as := []) (i1 := 743) (i2 := 744) (i3 := 745) C0 hK hext J ⟨j1, j2, j3⟩ wd e1 (fun _ => rfl) (q := pm_m_85) rfl rfl (by decide +kernel) (by decide +kernel) (by decide +kernel) rfl hl.1 (dw_d13' 12 rfl) (fun H1 locs1 wd1 => ?_)
  refine lv_aload_n hx hb (dw_d13' 13 rfl) rfl (lv_at hl 2 rfl) ?_
  refine dw_callM (as := []) (i1 := 1167) (i2 := 1168) (i3 := 1169) C0 hK hext J J' wd1 e2 (fun _ => rfl) (Nat.le_of_ble_eq_true rfl) (q := pm_m_176) rfl rfl (by decide +kernel) (by decide +kernel) (by decide +kernel) rfl hl.1 (dw_d13' 14 rfl) (fun H2 locs2 wd2 => ?_)
  exact lv_icmp_eq (tgt := 1388) hx hb (dw_d13' 15 rfl) (by decide) (fun _ => kn hX' hM' H2 locs2 J' wd2) (fun q => absurd rfl q)
theorem dw_L_back (C0 : lw_At p s m meth c b L xs) (hL : L ≤ 3584) (hK : va_K D vwCl (pm_tys cA) s) (hext : ∀ ρ1 : Nat → Nat, (∀ k, s.heap.size ≤ ρ1 k) → pm_ext (ρ1, σ) s) (J : dw_JJo hX hM) {H : Heap} {locs : List Loc} (wd : dw_Wd D cA σ s hX hM H locs) {ls : Array Slot} {i : Nat} (hi : i + 6 < L) (hl : lv_has ls 4 [(0, .ref b), (1, .ref s.heap.size), (2, .ref (s.heap.size + 37)), (3, .int (nI i))]) (kn : dw_Kn p l e s m below meth c b D cA σ ls Q) : W p l e room_1 s m #[Value.ref b] below meth c H locs (hX.length + 21) (pm_sl hX + pm_sl hM) Q (F0 m 1140 ls []) := by
  obtain ⟨hx, hb, -⟩ := id C0
  obtain ⟨hX', hM', v, e1, e2, J'⟩ := dw_K_back J 
  obtain ⟨j1, j2, j3, -⟩ := dw_JJlen J'
  refine lv_aload_n hx hb (dw_d13' 18 rfl) rfl (lv_at hl 1 rfl) ?_
  refine dw_callX (as := []) (i1 := 747) (i2 := 748) (i3 := 749) C0 hK hext J ⟨j1, j2, j3⟩ wd e1 (fun _ => rfl) (q := pm_m_86) rfl rfl (by decide +kernel) (by decide +kernel) (by decide +kernel) rfl hl.1 (dw_d13' 19 rfl) (fun H1 locs1 wd1 => ?_)
  refine lv_aload_n hx hb (dw_d13' 20 rfl) rfl (lv_at hl 2 rfl) ?_
  refine dw_callM (as := []) (i1 := 1171) (i2 := 1172) (i3 := 1173) C0 hK hext J J' wd1 e2 (fun _ => rfl) (Nat.le_of_ble_eq_true rfl) (q := pm_m_177) rfl rfl (by decide +kernel) (by decide +kernel) (by decide +kernel) rfl hl.1 (dw_d13' 21 rfl) (fun H2 locs2 wd2 => ?_)
  exact lv_icmp_eq (tgt := 1388) hx hb (dw_d13' 22 rfl) (by decide) (fun _ => kn hX' hM' H2 locs2 J' wd2) (fun q => absurd rfl q)
theorem dw_L_sheet (C0 : lw_At p s m meth c b L xs) (hL : L ≤ 3584) (hK : va_K D vwCl (pm_tys cA) s) (hext : ∀ ρ1 : Nat → Nat, (∀ k, s.heap.size ≤ ρ1 k) → pm_ext (ρ1, σ) s) (J : dw_JJo hX hM) {H : Heap} {locs : List Loc} (wd : dw_Wd D cA σ s hX hM H locs) {ls : Array Slot} {i : Nat} (hi : i + 6 < L) (hl : lv_has ls 4 [(0, .ref b), (1, .ref s.heap.size), (2, .ref (s.heap.size + 37)), (3, .int (nI i))]) (kn : dw_Kn p l e s m below meth c b D cA σ ls Q) : W p l e room_1 s m #[Value.ref b] below meth c H locs (hX.length + 21) (pm_sl hX + pm_sl hM) Q (F0 m 1153 ls []) := by
  obtain ⟨hx, hb, -⟩ := id C0
  obtain ⟨hX', hM', v, e1, e2, J'⟩ := dw_K_sheet J (xs (i + 1)) (xs (i + 2)) (xs (i + 3))
  obtain ⟨j1, j2, j3, -⟩ := dw_JJlen J'
  refine lv_aload_n hx hb (dw_d13' 25 rfl) rfl (lv_at hl 1 rfl) ?_
  refine dw_larg C0 hL wd.2.2.2 hl 1 (by omega) (dw_d13' 26 rfl) (dw_d13' 27 rfl) (dw_d13' 28 rfl) (by decide) (dw_d13' 29 rfl) (dw_d13' 30 rfl) ?_
  refine dw_larg C0 hL wd.2.2.2 hl 2 (by omega) (dw_d13' 31 rfl) (dw_d13' 32 rfl) (dw_d13' 33 rfl) (by decide) (dw_d13' 34 rfl) (dw_d13' 35 rfl) ?_
  refine dw_larg C0 hL wd.2.2.2 hl 3 (by omega) (dw_d13' 36 rfl) (dw_d13' 37 rfl) (dw_d13' 38 rfl) (by decide) (dw_d13' 39 rfl) (dw_d13' 40 rfl) ?_
  refine dw_callX (as := [xs (i + 1), xs (i + 2), xs (i + 3)]) (i1 := 751) (i2 := 752) (i3 := 753) C0 hK hext J ⟨j1, j2, j3⟩ wd e1 (fun _ => rfl) (q := pm_m_87) rfl rfl (by decide +kernel) (by decide +kernel) (by decide +kernel) rfl hl.1 (dw_d13' 41 rfl) (fun H1 locs1 wd1 => ?_)
  refine lv_aload_n hx hb (dw_d13' 42 rfl) rfl (lv_at hl 2 rfl) ?_
  refine dw_larg C0 hL wd1.2.2.2 hl 1 (by omega) (dw_d13' 43 rfl) (dw_d13' 44 rfl) (dw_d13' 45 rfl) (by decide) (dw_d13' 46 rfl) (dw_d13' 47 rfl) ?_
  refine dw_larg C0 hL wd1.2.2.2 hl 2 (by omega) (dw_d13' 48 rfl) (dw_d13' 49 rfl) (dw_d13' 50 rfl) (by decide) (dw_d13' 51 rfl) (dw_d13' 52 rfl) ?_
  refine dw_larg C0 hL wd1.2.2.2 hl 3 (by omega) (dw_d13' 53 rfl) (dw_d13' 54 rfl) (dw_d13' 55 rfl) (by decide) (dw_d13' 56 rfl) (dw_d13' 57 rfl) ?_
  refine dw_callM (as := [xs (i + 1), xs (i + 2), xs (i + 3)]) (i1 := 1175) (i2 := 1176) (i3 := 1177) C0 hK hext J J' wd1 e2 (fun _ => rfl) (Nat.le_of_ble_eq_true rfl) (q := pm_m_178) rfl rfl (by decide +kernel) (by decide +kernel) (by decide +kernel) rfl hl.1 (dw_d13' 58 rfl) (fun H2 locs2 wd2 => ?_)
  exact lv_icmp_eq (tgt := 1388) hx hb (dw_d13' 59 rfl) (by decide) (fun _ => kn hX' hM' H2 locs2 J' wd2) (fun q => absurd rfl q)
theorem dw_L_cell (C0 : lw_At p s m meth c b L xs) (hL : L ≤ 3584) (hK : va_K D vwCl (pm_tys cA) s) (hext : ∀ ρ1 : Nat → Nat, (∀ k, s.heap.size ≤ ρ1 k) → pm_ext (ρ1, σ) s) (J : dw_JJo hX hM) {H : Heap} {locs : List Loc} (wd : dw_Wd D cA σ s hX hM H locs) {ls : Array Slot} {i : Nat} (hi : i + 6 < L) (hl : lv_has ls 4 [(0, .ref b), (1, .ref s.heap.size), (2, .ref (s.heap.size + 37)), (3, .int (nI i))]) (kn : dw_Kn p l e s m below meth c b D cA σ ls Q) : W p l e room_1 s m #[Value.ref b] below meth c H locs (hX.length + 21) (pm_sl hX + pm_sl hM) Q (F0 m 1196 ls []) := by
  obtain ⟨hx, hb, -⟩ := id C0
  obtain ⟨hX', hM', v, e1, e2, J'⟩ := dw_K_cell J (xs (i + 1)) (xs (i + 2)) (xs (i + 3))
  obtain ⟨j1, j2, j3, -⟩ := dw_JJlen J'
  refine lv_aload_n hx hb (dw_d14' 2 rfl) rfl (lv_at hl 1 rfl) ?_
  refine dw_larg C0 hL wd.2.2.2 hl 1 (by omega) (dw_d14' 3 rfl) (dw_d14' 4 rfl) (dw_d14' 5 rfl) (by decide) (dw_d14' 6 rfl) (dw_d14' 7 rfl) ?_
  refine dw_larg C0 hL wd.2.2.2 hl 2 (by omega) (dw_d14' 8 rfl) (dw_d14' 9 rfl) (dw_d14' 10 rfl) (by decide) (dw_d14' 11 rfl) (dw_d14' 12 rfl) ?_
  refine dw_larg C0 hL wd.2.2.2 hl 3 (by omega) (dw_d14' 13 rfl) (dw_d14' 14 rfl) (dw_d14' 15 rfl) (by decide) (dw_d14' 16 rfl) (dw_d14' 17 rfl) ?_
  refine dw_callX (as := [xs (i + 1), xs (i + 2), xs (i + 3)]) (i1 := 755) (i2 := 756) (i3 := 757) C0 hK hext J ⟨j1, j2, j3⟩ wd e1 (fun _ => rfl) (q := pm_m_88) rfl rfl (by decide +kernel) (by decide +kernel) (by decide +kernel) rfl hl.1 (dw_d14' 18 rfl) (fun H1 locs1 wd1 => ?_)
  refine lv_aload_n hx hb (dw_d14' 19 rfl) rfl (lv_at hl 2 rfl) ?_
  refine dw_larg C0 hL wd1.2.2.2 hl 1 (by omega) (dw_d14' 20 rfl) (dw_d14' 21 rfl) (dw_d14' 22 rfl) (by decide) (dw_d14' 23 rfl) (dw_d14' 24 rfl) ?_
  refine dw_larg C0 hL wd1.2.2.2 hl 2 (by omega) (dw_d14' 25 rfl) (dw_d14' 26 rfl) (dw_d14' 27 rfl) (by decide) (dw_d14' 28 rfl) (dw_d14' 29 rfl) ?_
  refine dw_larg C0 hL wd1.2.2.2 hl 3 (by omega) (dw_d14' 30 rfl) (dw_d14' 31 rfl) (dw_d14' 32 rfl) (by decide) (dw_d14' 33 rfl) (dw_d14' 34 rfl) ?_
  refine dw_callM (as := [xs (i + 1), xs (i + 2), xs (i + 3)]) (i1 := 1179) (i2 := 1180) (i3 := 1181) C0 hK hext J J' wd1 e2 (fun _ => rfl) (Nat.le_of_ble_eq_true rfl) (q := pm_m_179) rfl rfl (by decide +kernel) (by decide +kernel) (by decide +kernel) rfl hl.1 (dw_d14' 35 rfl) (fun H2 locs2 wd2 => ?_)
  exact lv_icmp_eq (tgt := 1388) hx hb (dw_d14' 36 rfl) (by decide) (fun _ => kn hX' hM' H2 locs2 J' wd2) (fun q => absurd rfl q)
theorem dw_L_copy (C0 : lw_At p s m meth c b L xs) (hL : L ≤ 3584) (hK : va_K D vwCl (pm_tys cA) s) (hext : ∀ ρ1 : Nat → Nat, (∀ k, s.heap.size ≤ ρ1 k) → pm_ext (ρ1, σ) s) (J : dw_JJo hX hM) {H : Heap} {locs : List Loc} (wd : dw_Wd D cA σ s hX hM H locs) {ls : Array Slot} {i : Nat} (hi : i + 6 < L) (hl : lv_has ls 4 [(0, .ref b), (1, .ref s.heap.size), (2, .ref (s.heap.size + 37)), (3, .int (nI i))]) (kn : dw_Kn p l e s m below meth c b D cA σ ls Q) : W p l e room_1 s m #[Value.ref b] below meth c H locs (hX.length + 21) (pm_sl hX + pm_sl hM) Q (F0 m 1239 ls []) := by
  obtain ⟨hx, hb, -⟩ := id C0
  obtain ⟨hX', hM', v, e1, e2, J'⟩ := dw_K_copy J (xs (i + 1)) (xs (i + 2)) (xs (i + 3)) (xs (i + 4)) (xs (i + 5))
  obtain ⟨j1, j2, j3, -⟩ := dw_JJlen J'
  refine lv_aload_n hx hb (dw_d14' 39 rfl) rfl (lv_at hl 1 rfl) ?_
  refine dw_larg C0 hL wd.2.2.2 hl 1 (by omega) (dw_d14' 40 rfl) (dw_d14' 41 rfl) (dw_d14' 42 rfl) (by decide) (dw_d14' 43 rfl) (dw_d14' 44 rfl) ?_
  refine dw_larg C0 hL wd.2.2.2 hl 2 (by omega) (dw_d14' 45 rfl) (dw_d14' 46 rfl) (dw_d14' 47 rfl) (by decide) (dw_d14' 48 rfl) (dw_d14' 49 rfl) ?_
  refine dw_larg C0 hL wd.2.2.2 hl 3 (by omega) (dw_d14' 50 rfl) (dw_d14' 51 rfl) (dw_d14' 52 rfl) (by decide) (dw_d14' 53 rfl) (dw_d14' 54 rfl) ?_
  refine dw_larg C0 hL wd.2.2.2 hl 4 (by omega) (dw_d14' 55 rfl) (dw_d14' 56 rfl) (dw_d14' 57 rfl) (by decide) (dw_d14' 58 rfl) (dw_d14' 59 rfl) ?_
  refine dw_larg C0 hL wd.2.2.2 hl 5 (by omega) (dw_d15' 0 rfl) (dw_d15' 1 rfl) (dw_d15' 2 rfl) (by decide) (dw_d15' 3 rfl) (dw_d15' 4 rfl) ?_
  refine dw_callX (as := [xs (i + 1), xs (i + 2), xs (i + 3), xs (i + 4), xs (i + 5)]) (i1 := 759) (i2 := 760) (i3 := 761) C0 hK hext J ⟨j1, j2, j3⟩ wd e1 (fun _ => rfl) (q := pm_m_89) rfl rfl (by decide +kernel) (by decide +kernel) (by decide +kernel) rfl hl.1 (dw_d15' 5 rfl) (fun H1 locs1 wd1 => ?_)
  refine lv_aload_n hx hb (dw_d15' 6 rfl) rfl (lv_at hl 2 rfl) ?_
  refine dw_larg C0 hL wd1.2.2.2 hl 1 (by omega) (dw_d15' 7 rfl) (dw_d15' 8 rfl) (dw_d15' 9 rfl) (by decide) (dw_d15' 10 rfl) (dw_d15' 11 rfl) ?_
  refine dw_larg C0 hL wd1.2.2.2 hl 2 (by omega) (dw_d15' 12 rfl) (dw_d15' 13 rfl) (dw_d15' 14 rfl) (by decide) (dw_d15' 15 rfl) (dw_d15' 16 rfl) ?_
  refine dw_larg C0 hL wd1.2.2.2 hl 3 (by omega) (dw_d15' 17 rfl) (dw_d15' 18 rfl) (dw_d15' 19 rfl) (by decide) (dw_d15' 20 rfl) (dw_d15' 21 rfl) ?_
  refine dw_larg C0 hL wd1.2.2.2 hl 4 (by omega) (dw_d15' 22 rfl) (dw_d15' 23 rfl) (dw_d15' 24 rfl) (by decide) (dw_d15' 25 rfl) (dw_d15' 26 rfl) ?_
  refine dw_larg C0 hL wd1.2.2.2 hl 5 (by omega) (dw_d15' 27 rfl) (dw_d15' 28 rfl) (dw_d15' 29 rfl) (by decide) (dw_d15' 30 rfl) (dw_d15' 31 rfl) ?_
  refine dw_callM (as := [xs (i + 1), xs (i + 2), xs (i + 3), xs (i + 4), xs (i + 5)]) (i1 := 1183) (i2 := 1184) (i3 := 1185) C0 hK hext J J' wd1 e2 (fun _ => rfl) (Nat.le_of_ble_eq_true rfl) (q := pm_m_180) rfl rfl (by decide +kernel) (by decide +kernel) (by decide +kernel) rfl hl.1 (dw_d15' 32 rfl) (fun H2 locs2 wd2 => ?_)
  exact lv_icmp_eq (tgt := 1388) hx hb (dw_d15' 33 rfl) (by decide) (fun _ => kn hX' hM' H2 locs2 J' wd2) (fun q => absurd rfl q)
theorem dw_L_dunesBy (C0 : lw_At p s m meth c b L xs) (hL : L ≤ 3584) (hK : va_K D vwCl (pm_tys cA) s) (hext : ∀ ρ1 : Nat → Nat, (∀ k, s.heap.size ≤ ρ1 k) → pm_ext (ρ1, σ) s) (J : dw_JJo hX hM) {H : Heap} {locs : List Loc} (wd : dw_Wd D cA σ s hX hM H locs) {ls : Array Slot} {i : Nat} (hi : i + 6 < L) (hl : lv_has ls 4 [(0, .ref b), (1, .ref s.heap.size), (2, .ref (s.heap.size + 37)), (3, .int (nI i))]) (kn : dw_Kn p l e s m below meth c b D cA σ ls Q) : W p l e room_1 s m #[Value.ref b] below meth c H locs (hX.length + 21) (pm_sl hX + pm_sl hM) Q (F0 m 1302 ls []) := by
  obtain ⟨hx, hb, -⟩ := id C0
  obtain ⟨hX', hM', v, e1, e2, J'⟩ := dw_K_dunesBy J (xs (i + 1)) (xs (i + 2)) (xs (i + 3)) (xs (i + 4))
  obtain ⟨j1, j2, j3, -⟩ := dw_JJlen J'
  refine lv_aload_n hx hb (dw_d15' 36 rfl) rfl (lv_at hl 1 rfl) ?_
  refine dw_larg C0 hL wd.2.2.2 hl 1 (by omega) (dw_d15' 37 rfl) (dw_d15' 38 rfl) (dw_d15' 39 rfl) (by decide) (dw_d15' 40 rfl) (dw_d15' 41 rfl) ?_
  refine dw_larg C0 hL wd.2.2.2 hl 2 (by omega) (dw_d15' 42 rfl) (dw_d15' 43 rfl) (dw_d15' 44 rfl) (by decide) (dw_d15' 45 rfl) (dw_d15' 46 rfl) ?_
  refine dw_larg C0 hL wd.2.2.2 hl 3 (by omega) (dw_d15' 47 rfl) (dw_d15' 48 rfl) (dw_d15' 49 rfl) (by decide) (dw_d15' 50 rfl) (dw_d15' 51 rfl) ?_
  refine dw_larg C0 hL wd.2.2.2 hl 4 (by omega) (dw_d15' 52 rfl) (dw_d15' 53 rfl) (dw_d15' 54 rfl) (by decide) (dw_d15' 55 rfl) (dw_d15' 56 rfl) ?_
  refine dw_callX (as := [xs (i + 1), xs (i + 2), xs (i + 3), xs (i + 4)]) (i1 := 768) (i2 := 769) (i3 := 770) C0 hK hext J ⟨j1, j2, j3⟩ wd e1 (fun _ => rfl) (q := pm_m_90) rfl rfl (by decide +kernel) (by decide +kernel) (by decide +kernel) rfl hl.1 (dw_d15' 57 rfl) (fun H1 locs1 wd1 => ?_)
  refine lv_aload_n hx hb (dw_d15' 58 rfl) rfl (lv_at hl 2 rfl) ?_
  refine dw_larg C0 hL wd1.2.2.2 hl 1 (by omega) (dw_d15' 59 rfl) (dw_d16' 0 rfl) (dw_d16' 1 rfl) (by decide) (dw_d16' 2 rfl) (dw_d16' 3 rfl) ?_
  refine dw_larg C0 hL wd1.2.2.2 hl 2 (by omega) (dw_d16' 4 rfl) (dw_d16' 5 rfl) (dw_d16' 6 rfl) (by decide) (dw_d16' 7 rfl) (dw_d16' 8 rfl) ?_
  refine dw_larg C0 hL wd1.2.2.2 hl 3 (by omega) (dw_d16' 9 rfl) (dw_d16' 10 rfl) (dw_d16' 11 rfl) (by decide) (dw_d16' 12 rfl) (dw_d16' 13 rfl) ?_
  refine dw_larg C0 hL wd1.2.2.2 hl 4 (by omega) (dw_d16' 14 rfl) (dw_d16' 15 rfl) (dw_d16' 16 rfl) (by decide) (dw_d16' 17 rfl) (dw_d16' 18 rfl) ?_
  refine dw_callM (as := [xs (i + 1), xs (i + 2), xs (i + 3), xs (i + 4)]) (i1 := 1187) (i2 := 1188) (i3 := 1189) C0 hK hext J J' wd1 e2 (fun _ => rfl) (Nat.le_of_ble_eq_true rfl) (q := pm_m_181) rfl rfl (by decide +kernel) (by decide +kernel) (by decide +kernel) rfl hl.1 (dw_d16' 19 rfl) (fun H2 locs2 wd2 => ?_)
  exact lv_icmp_eq (tgt := 1388) hx hb (dw_d16' 20 rfl) (by decide) (fun _ => kn hX' hM' H2 locs2 J' wd2) (fun q => absurd rfl q)
theorem dw_L_taken (C0 : lw_At p s m meth c b L xs) (hL : L ≤ 3584) (hK : va_K D vwCl (pm_tys cA) s) (hext : ∀ ρ1 : Nat → Nat, (∀ k, s.heap.size ≤ ρ1 k) → pm_ext (ρ1, σ) s) (J : dw_JJo hX hM) {H : Heap} {locs : List Loc} (wd : dw_Wd D cA σ s hX hM H locs) {ls : Array Slot} {i : Nat} (hi : i + 6 < L) (hl : lv_has ls 4 [(0, .ref b), (1, .ref s.heap.size), (2, .ref (s.heap.size + 37)), (3, .int (nI i))]) (kn : dw_Kn p l e s m below meth c b D cA σ ls Q) : W p l e room_1 s m #[Value.ref b] below meth c H locs (hX.length + 21) (pm_sl hX + pm_sl hM) Q (F0 m 1355 ls []) := by
  obtain ⟨hx, hb, -⟩ := id C0
  obtain ⟨hX', hM', v, e1, e2, J'⟩ := dw_K_taken J (xs (i + 1)) (xs (i + 2))
  obtain ⟨j1, j2, j3, -⟩ := dw_JJlen J'
  refine lv_aload_n hx hb (dw_d16' 23 rfl) rfl (lv_at hl 1 rfl) ?_
  refine dw_larg C0 hL wd.2.2.2 hl 1 (by omega) (dw_d16' 24 rfl) (dw_d16' 25 rfl) (dw_d16' 26 rfl) (by decide) (dw_d16' 27 rfl) (dw_d16' 28 rfl) ?_
  refine dw_larg C0 hL wd.2.2.2 hl 2 (by omega) (dw_d16' 29 rfl) (dw_d16' 30 rfl) (dw_d16' 31 rfl) (by decide) (dw_d16' 32 rfl) (dw_d16' 33 rfl) ?_
  refine dw_callX (as := [xs (i + 1), xs (i + 2)]) (i1 := 773) (i2 := 774) (i3 := 775) C0 hK hext J ⟨j1, j2, j3⟩ wd e1 (fun _ => rfl) (q := pm_m_91) rfl rfl (by decide +kernel) (by decide +kernel) (by decide +kernel) rfl hl.1 (dw_d16' 34 rfl) (fun H1 locs1 wd1 => ?_)
  refine lv_aload_n hx hb (dw_d16' 35 rfl) rfl (lv_at hl 2 rfl) ?_
  refine dw_larg C0 hL wd1.2.2.2 hl 1 (by omega) (dw_d16' 36 rfl) (dw_d16' 37 rfl) (dw_d16' 38 rfl) (by decide) (dw_d16' 39 rfl) (dw_d16' 40 rfl) ?_
  refine dw_larg C0 hL wd1.2.2.2 hl 2 (by omega) (dw_d16' 41 rfl) (dw_d16' 42 rfl) (dw_d16' 43 rfl) (by decide) (dw_d16' 44 rfl) (dw_d16' 45 rfl) ?_
  refine dw_callM (as := [xs (i + 1), xs (i + 2)]) (i1 := 1192) (i2 := 1193) (i3 := 1194) C0 hK hext J J' wd1 e2 (fun _ => rfl) (Nat.le_of_ble_eq_true rfl) (q := pm_m_183) rfl rfl (by decide +kernel) (by decide +kernel) (by decide +kernel) rfl hl.1 (dw_d16' 46 rfl) (fun H2 locs2 wd2 => ?_)
  exact lv_icmp_eq (tgt := 1388) hx hb (dw_d16' 47 rfl) (by decide) (fun _ => kn hX' hM' H2 locs2 J' wd2) (fun q => absurd rfl q)
end LC
