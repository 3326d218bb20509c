/-! THE LAW'S LOOP -/
section LC
variable {p : Program} {l : Launch} {e : Env} {s : State} {m : MethodId} {below : List Frame} {meth : Method} {c : Code} {b L : Nat} {xs : Nat → Int32} {D : va_G} {cA : Nat → ClassId} {σ : Nat → Option Nat}
theorem dw_head {L i : Nat} (hL : L ≤ 3584) (hi : i ≤ L) (h : ¬ Int32.ofNat L - 7 < nI i) : i + 7 ≤ L := by
  rw [fa_lt] at h
  have e1 : (Int32.ofNat L).toInt = L := nI_toInt (by omega)
  have e2 : (nI i).toInt = i := nI_toInt (by omega)
  have e3 : (7 : Int32).toInt = 7 := by decide
  rw [fb_subI (by rw [e1, e3]; omega) (by rw [e1, e3]; omega), e1, e2, e3] at h
  omega
/-- the switch -/
theorem dw_switch (C0 : lw_At p s m meth c b L xs) (hL : L ≤ 3584) (hK : va_K D vwCl (pm_tys cA) s) (hext : ∀ ρ1 : Nat → Nat, (∀ k, s.heap.size ≤ ρ1 k) → pm_ext (ρ1, σ) s) {hX hM : pm_H} (J : dw_JJo hX hM) {H : Heap} {locs : List Loc} (wd : dw_Wd D cA σ s hX hM H locs) {ls : Array Slot} {i : Nat} (hi : i + 6 < L) (hl : lv_has ls 4 [(0, .ref b), (1, .ref s.heap.size), (2, .ref (s.heap.size + 37)), (3, .int (nI i))]) {Q : State → Prop} (kn : dw_Kn p l e s m below meth c b D cA σ ls Q) (j : Nat) (hj : j < 64) : W p l e room_1 s m #[Value.ref b] below meth c H locs (hX.length + 21) (pm_sl hX + pm_sl hM) Q (F0 m 33 ls [.int (nI j)]) := by
  obtain ⟨hx, hb, -⟩ := id C0
  rcases (by omega : j = 0 ∨ j = 1 ∨ j = 2 ∨ j = 3 ∨ j = 4 ∨ j = 5 ∨ j = 6 ∨ j = 7 ∨ j = 8 ∨ j = 9 ∨ j = 10 ∨ j = 11 ∨ j = 12 ∨ j = 13 ∨ j = 14 ∨ j = 15 ∨ j = 16 ∨ j = 17 ∨ j = 18 ∨ j = 19 ∨ j = 20 ∨ j = 21 ∨ j = 22 ∨ j = 23 ∨ j = 24 ∨ j = 25 ∨ j = 26 ∨ j = 27 ∨ j = 28 ∨ j = 29 ∨ j = 30 ∨ j = 31 ∨ j = 32 ∨ j = 33 ∨ j = 34 ∨ 35 ≤ j) with rfl | rfl | rfl | rfl | rfl | rfl | rfl | rfl | rfl | rfl | rfl | rfl | rfl | rfl | rfl | rfl | rfl | rfl | rfl | rfl | rfl | rfl | rfl | rfl | rfl | rfl | rfl | rfl | rfl | rfl | rfl | rfl | rfl | rfl | rfl | h35
  · exact lv_tableIn (tgt := 188) hx hb (dw_d0' 21 rfl) (by decide) (by decide) rfl (by decide) (dw_L_count C0 hL hK hext J wd hi hl kn)
  · exact lv_tableIn (tgt := 211) hx hb (dw_d0' 21 rfl) (by decide) (by decide) rfl (by decide) (dw_L_yard C0 hL hK hext J wd hi hl kn)
  · exact lv_tableIn (tgt := 254) hx hb (dw_d0' 21 rfl) (by decide) (by decide) rfl (by decide) (dw_L_parish C0 hL hK hext J wd hi hl kn)
  · exact lv_tableIn (tgt := 278) hx hb (dw_d0' 21 rfl) (by decide) (by decide) rfl (by decide) (dw_L_feed C0 hL hK hext J wd hi hl kn)
  · exact lv_tableIn (tgt := 353) hx hb (dw_d0' 21 rfl) (by decide) (by decide) rfl (by decide) (dw_L_text C0 hL hK hext J wd hi hl kn)
  · exact lv_tableIn (tgt := 366) hx hb (dw_d0' 21 rfl) (by decide) (by decide) rfl (by decide) (dw_L_force C0 hL hK hext J wd hi hl kn)
  · exact lv_tableIn (tgt := 389) hx hb (dw_d0' 21 rfl) (by decide) (by decide) rfl (by decide) (dw_L_asks C0 hL hK hext J wd hi hl kn)
  · exact lv_tableIn (tgt := 422) hx hb (dw_d0' 21 rfl) (by decide) (by decide) rfl (by decide) (dw_L_dune C0 hL hK hext J wd hi hl kn)
  · exact lv_tableIn (tgt := 455) hx hb (dw_d0' 21 rfl) (by decide) (by decide) rfl (by decide) (dw_L_put C0 hL hK hext J wd hi hl kn)
  · exact lv_tableIn (tgt := 498) hx hb (dw_d0' 21 rfl) (by decide) (by decide) rfl (by decide) (dw_L_told C0 hL hK hext J wd hi hl kn)
  · exact lv_tableIn (tgt := 531) hx hb (dw_d0' 21 rfl) (by decide) (by decide) rfl (by decide) (dw_L_grows C0 hL hK hext J wd hi hl kn)
  · exact lv_tableIn (tgt := 554) hx hb (dw_d0' 21 rfl) (by decide) (by decide) rfl (by decide) (dw_L_year C0 hL hK hext J wd hi hl kn)
  · exact lv_tableIn (tgt := 567) hx hb (dw_d0' 21 rfl) (by decide) (by decide) rfl (by decide) (dw_L_run C0 hL hK hext J wd hi hl kn)
  · exact lv_tableIn (tgt := 600) hx hb (dw_d0' 21 rfl) (by decide) (by decide) rfl (by decide) (dw_L_comes C0 hL hK hext J wd hi hl kn)
  · exact lv_tableIn (tgt := 633) hx hb (dw_d0' 21 rfl) (by decide) (by decide) rfl (by decide) (dw_L_ends C0 hL hK hext J wd hi hl kn)
  · exact lv_tableIn (tgt := 656) hx hb (dw_d0' 21 rfl) (by decide) (by decide) rfl (by decide) (dw_L_first C0 hL hK hext J wd hi hl kn)
  · exact lv_tableIn (tgt := 679) hx hb (dw_d0' 21 rfl) (by decide) (by decide) rfl (by decide) (dw_L_sow C0 hL hK hext J wd hi hl kn)
  · exact lv_tableIn (tgt := 712) hx hb (dw_d0' 21 rfl) (by decide) (by decide) rfl (by decide) (dw_L_move C0 hL hK hext J wd hi hl kn)
  · exact lv_tableIn (tgt := 745) hx hb (dw_d0' 21 rfl) (by decide) (by decide) rfl (by decide) (dw_L_hold C0 hL hK hext J wd hi hl kn)
  · exact lv_tableIn (tgt := 778) hx hb (dw_d0' 21 rfl) (by decide) (by decide) rfl (by decide) (dw_L_share C0 hL hK hext J wd hi hl kn)
  · exact lv_tableIn (tgt := 812) hx hb (dw_d0' 21 rfl) (by decide) (by decide) rfl (by decide) (dw_L_judge C0 hL hK hext J wd hi hl kn)
  · exact lv_tableIn (tgt := 845) hx hb (dw_d0' 21 rfl) (by decide) (by decide) rfl (by decide) (dw_L_kinds C0 hL hK hext J wd hi hl kn)
  · exact lv_tableIn (tgt := 888) hx hb (dw_d0' 21 rfl) (by decide) (by decide) rfl (by decide) (dw_L_states C0 hL hK hext J wd hi hl kn)
  · exact lv_tableIn (tgt := 941) hx hb (dw_d0' 21 rfl) (by decide) (by decide) rfl (by decide) (dw_L_whose C0 hL hK hext J wd hi hl kn)
  · exact lv_tableIn (tgt := 964) hx hb (dw_d0' 21 rfl) (by decide) (by decide) rfl (by decide) (dw_L_laws C0 hL hK hext J wd hi hl kn)
  · exact lv_tableIn (tgt := 997) hx hb (dw_d0' 21 rfl) (by decide) (by decide) rfl (by decide) (dw_L_film C0 hL hK hext J wd hi hl kn)
  · exact lv_tableIn (tgt := 1040) hx hb (dw_d0' 21 rfl) (by decide) (by decide) rfl (by decide) (dw_L_drawn C0 hL hK hext J wd hi hl kn)
  · exact lv_tableIn (tgt := 1073) hx hb (dw_d0' 21 rfl) (by decide) (by decide) rfl (by decide) (dw_L_odds C0 hL hK hext J wd hi hl kn)
  · exact lv_tableIn (tgt := 1127) hx hb (dw_d0' 21 rfl) (by decide) (by decide) rfl (by decide) (dw_L_image C0 hL hK hext J wd hi hl kn)
  · exact lv_tableIn (tgt := 1140) hx hb (dw_d0' 21 rfl) (by decide) (by decide) rfl (by decide) (dw_L_back C0 hL hK hext J wd hi hl kn)
  · exact lv_tableIn (tgt := 1153) hx hb (dw_d0' 21 rfl) (by decide) (by decide) rfl (by decide) (dw_L_sheet C0 hL hK hext J wd hi hl kn)
  · exact lv_tableIn (tgt := 1196) hx hb (dw_d0' 21 rfl) (by decide) (by decide) rfl (by decide) (dw_L_cell C0 hL hK hext J wd hi hl kn)
  · exact lv_tableIn (tgt := 1239) hx hb (dw_d0' 21 rfl) (by decide) (by decide) rfl (by decide) (dw_L_copy C0 hL hK hext J wd hi hl kn)
  · exact lv_tableIn (tgt := 1302) hx hb (dw_d0' 21 rfl) (by decide) (by decide) rfl (by decide) (dw_L_dunesBy C0 hL hK hext J wd hi hl kn)
  · exact lv_tableIn (tgt := 1355) hx hb (dw_d0' 21 rfl) (by decide) (by decide) rfl (by decide) (dw_L_taken C0 hL hK hext J wd hi hl kn)
  · refine lv_tableOut (tgt := 1388) hx hb (dw_d0' 21 rfl) (Or.inr ?_) (by decide) (kn hX hM H locs J wd)
    rw [nI_toInt (by omega)]
    omega
theorem dw_loop (C0 : lw_At p s m meth c b L xs) (hL : L ≤ 3584) (hK : va_K D vwCl (pm_tys cA) s) (hext : ∀ ρ1 : Nat → Nat, (∀ k, s.heap.size ≤ ρ1 k) → pm_ext (ρ1, σ) s) : ∀ (n i : Nat) (hX hM : pm_H) (H : Heap) (locs : List Loc) (ls : Array Slot), i ≤ L → L + 1 ≤ i + n → dw_JJo hX hM → dw_Wd D cA σ s hX hM H locs → lv_has ls 4 [(0, .ref b), (1, .ref s.heap.size), (2, .ref (s.heap.size + 37)), (3, .int (nI i))] → W p l e room_1 s m #[Value.ref b] below meth c H locs (hX.length + 21) (pm_sl hX + pm_sl hM) (lw_Z below #[Value.ref b] s) (F0 m 18 ls [])
  | 0, i, _, _, _, _, _, hi, hn, _, _, _ => absurd hn (by omega)
  | n + 1, i, hX, hM, H, locs, ls, hi, hn, J, wd, hl => by
    obtain ⟨hx, hb, hr, hml, hown, hts, hX', hbl, hlocks, hgv⟩ := id C0
    have hbA : ¬ (fun q : Nat => s.heap.size ≤ q) b := Nat.not_le.mpr hbl
    refine lv_iload_n hx hb (dw_d0' 10 rfl) rfl (lv_at hl 3 rfl) ?_
    refine lv_aload_n hx hb (dw_d0' 11 rfl) rfl (lv_at hl 0 rfl) ?_
    refine va_slen hx hb hX' hbl hbA wd.2.2.2 (dw_d0' 12 rfl) ?_
    refine lv_bipush (v := 7) hx hb (dw_d0' 13 rfl) (by decide) ?_
    refine lv_isub hx hb (dw_d0' 14 rfl) ?_
    refine lv_icmp_gt (tgt := 1394) hx hb (dw_d0' 15 rfl) (by decide) (fun _ => ?_) (fun q => ?_)
    · refine lv_iconst (v := 1) hx hb (dw_d16' 52 rfl) (by decide) ?_
      refine va_forget (fun q hq => wd.2.2.2.2.2 q hq) ?_
      obtain ⟨j1, j2, j3, j4, j5⟩ := dw_JJlen J
      refine W.widen (k := 600000) (n := 7302250) (by omega) (by omega) ?_
      exact lw_ret hx hb hr hlocks (dw_d16' 53 rfl)
    · have h7 := dw_head hL hi q
      refine lv_aload_n hx hb (dw_d0' 16 rfl) rfl (lv_at hl 0 rfl) ?_
      refine lv_iload_n hx hb (dw_d0' 17 rfl) rfl (lv_at hl 3 rfl) ?_
      refine va_sld hx hb hX' hbl hbA wd.2.2.2 (vp_in_nI (show i < L by omega) (by omega)) (dw_d0' 18 rfl) ?_
      refine lv_bipush (v := 63) hx hb (dw_d0' 19 rfl) (by decide) ?_
      refine lv_iand hx hb (dw_d0' 20 rfl) ?_
      obtain ⟨j, hj, ej⟩ := pk_andE (xs (nI i).toNatClampNeg) (m := 63) 6 (by decide)
      have ej' : xs (nI i).toNatClampNeg &&& 63 = nI j := ej
      rw [ej']
      refine dw_switch C0 hL hK hext J wd (by omega) hl (fun hX1 hM1 H1 locs1 J1 wd1 => ?_) j (by omega)
      refine lv_iinc (v := nI (i + 7)) (lv' := [(3, .int (nI (i + 7))), (0, .ref b), (1, .ref s.heap.size), (2, .ref (s.heap.size + 37))]) hx hb (dw_d16' 50 rfl) hl (k := 3) rfl (nI_add i 7) (by decide) rfl (fun ls1 hl1 => ?_)
      refine lv_goto (tgt := 18) hx hb (dw_d16' 51 rfl) (by decide) ?_
      exact dw_loop C0 hL hK hext n (i + 7) hX1 hM1 H1 locs1 ls1 h7 (by omega) J1 wd1 (lv_sub hl1 [1, 2, 3, 0] rfl)
end LC
