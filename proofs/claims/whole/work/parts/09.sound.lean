section PMT
variable {p : Program} {l : Launch} {e : Env} {s : State} {m : MethodId} {args : Array Value} {below : List Frame} {meth : Method} {c : Code}
variable {q : pm_M} {D : va_G} {cA : Nat → ClassId} {ρ : pm_N} {d mi : Nat} {h0 hF : pm_H} {rF : Option Value}
abbrev pm_Qm (below : List Frame) (D : va_G) (cA : Nat → ClassId) (ρ : pm_N) (hF h0 : pm_H) (rF : Option Value) (args : Array Value) (s : State) : State → Prop := MQ below (pm_Q D cA ρ hF rF) args s (hF.length - h0.length) (pm_sl hF - pm_sl h0) (pm_A ρ)
theorem pm_K0 {U : State} (hK : va_K D vwCl (pm_tys cA) U) : ArrOfT U (cA 0) .int := (hK.2 0 _ rfl).1
theorem pm_K1 {U : State} (hK : va_K D vwCl (pm_tys cA) U) : ArrOfT U (cA 1) .long := (hK.2 1 _ rfl).1
theorem pm_K2 {U : State} (hK : va_K D vwCl (pm_tys cA) U) : ArrOfT U (cA 2) .byte := (hK.2 2 _ rfl).1
theorem pm_K3 {t : Nat} (ht : pm_et t) : ∃ (i : Nat) (r : vw_C), (pm_tys cA)[i]? = some (cA (t + 3), .object r.1) ∧ vwCl[t]? = some r := by
  rcases ht with rfl | rfl | rfl
  · exact ⟨3, _, rfl, rfl⟩
  · exact ⟨4, _, rfl, rfl⟩
  · exact ⟨5, _, rfl, rfl⟩
theorem pm_Kt {t : Nat} (ht : pm_tt t) : ∃ (i : Nat) (ty : FieldType), (pm_tys cA)[i]? = some (cA t, ty) := by
  rcases ht with rfl | rfl | rfl | rfl | rfl | rfl
  · exact ⟨0, _, rfl⟩
  · exact ⟨1, _, rfl⟩
  · exact ⟨2, _, rfl⟩
  · exact ⟨3, _, rfl⟩
  · exact ⟨4, _, rfl⟩
  · exact ⟨5, _, rfl⟩
set_option maxHeartbeats 4000000 in
theorem pm_snd_calls (hC : pm_S p s m args meth c mi q D cA ρ h0) (sd : pm_Snd l d) {pc n : Nat} {L S : List Value} {h : pm_H} {i : Instr} (hi : (∃ k, i = .invokevirtual k) ∨ (∃ k, i = .invokespecial k) ∨ (∃ k, i = .invokestatic k)) (hf : pm_fetch mi pc = some (i, n))
    (hs : pm_step (pm_ev d) mi i pc L S h (pm_G p l e s m args below meth c q D cA ρ (d + 1) h0 hF (pm_Qm below D cA ρ hF h0 rF args s)) (fun r1 h1 => r1 = rF ∧ h1 = hF)) : pm_G p l e s m args below meth c q D cA ρ (d + 1) h0 hF (pm_Qm below D cA ρ hF h0 rF args s) pc L S h := by
  obtain ⟨hq, hx, hb, hml, hown, hts, hlocks, hr, hnm, hK, hinj, hsz, hnx, hnst, hfix⟩ := id hC
  obtain ⟨hdg, hlen⟩ := pm_fetch_ok hq hf
  have hall : ∀ w ∈ pm_all, w.before args s = true := fun w hw => hts w (List.mem_cons_of_mem _ hw)
  have fixd : CallFix p m c q.2.1 q.2.2.1 s args (pm_ws q) q.1.cls := ⟨hx, hb, hml, hown, hts⟩
  have inT : ∀ {k : Nat} {w : Cond}, lw_tbl[k]? = some w → goodWord w = true → w.before args s = true := fun hk hg => hall _ (pm_in_all (List.mem_of_getElem? hk) hg)
  rcases hi with ⟨k, rfl⟩ | ⟨k, rfl⟩ | ⟨k, rfl⟩
  · have hn : n = 3 := by simpa [pm_len] using hlen
    subst hn
    rcases hs with ⟨m', e', q', as, S', b, fs, r, h', t1, t2, t3, t4, t5, t6, t7, t8⟩ | ⟨m', e', q', as, S', j, r, h', t1, t2, t3, t4, t5, t6, t7, t8⟩
    · subst t4
      have hm' := List.mem_of_getElem? t2
      obtain ⟨n1', n2', n3', n4', n5', n6'⟩ := pm_MT_q hm'
      have ok := pm_kT_ok hq t2 t1
      simp only [pm_okK, t2, if_true, Bool.and_eq_true, decide_eq_true_eq] at ok
      obtain ⟨⟨⟨o1, o2⟩, o3⟩, o4⟩ := ok
      obtain ⟨rv, v1, v2⟩ := pm_vw o4
      have hrn : rv.1 = q'.1.cls := Option.some.inj (v2.symm.trans n6')
      refine pm_callG (S' := S') (as := .ref b :: as) hC sd t2 t7 t8 (fun R H locs ls n1 n2 mc ms e1 e2 e3 e4 e5 hP hSS hroom hM hPc => ?_)
      have hcb : CallB R s args q.1.cls k q'.1 q'.2.1 q'.2.2.1 q'.2.2.2.1 (pm_ws q') (pm_rm d mc ms) mc ms as.length := callB_of _ hts (pm_good q q' hm') rfl rfl rfl (hall _ n5') (inT o1 rfl) ⟨n2'.1, n2'.2, by rw [n3', t3]⟩ ⟨by rw [e3]; exact Nat.le_refl _, by rw [e4]; show 8 + (q'.2.2.1 + 11) + 64 * d ≤ 64 * (d + 1); omega⟩
      have he : (pm_W ρ cA h)[b]? = some (ρ.1 b, .inr (q'.2.2.2.2.1, fs.map (pm_val ρ))) := pm_W_get t6
      have hrec := va_recv hK hP v1 he
      rw [hrn] at hrec
      exact va_runV (As := as.map (pm_val ρ)) (rest := S'.map (pm_val ρ)) (C := q'.1.cls) (b := ρ.1 b) (g := F0 m pc ls (List.map (pm_val ρ) (as.reverse ++ .ref b :: S'))) fixd hM ⟨hcb, inT o2 rfl, inT o3 rfl⟩ ⟨pm_Pc_blind D cA ρ h _, hrec, hPc⟩ rfl (by simp) e5 (by simp [List.map_append, List.map_reverse]; rfl) (lv_room (by rw [pm_cs_map]; exact t5)) hdg hroom
    · subst t4
      have hm' := List.mem_of_getElem? t2
      obtain ⟨n1', n2', n3', n4', n5', n6'⟩ := pm_MT_q hm'
      have ok := pm_kT_ok hq t2 t1
      simp only [pm_okK, t2, show ¬ (5 : Nat) = 0 by decide, show ¬ (5 : Nat) = 1 by decide, show ¬ (5 : Nat) = 2 by decide, if_false, if_true, Bool.and_eq_true, decide_eq_true_eq] at ok
      obtain ⟨⟨⟨o1, o2⟩, o3⟩, o4⟩ := ok
      obtain ⟨a, b, g1, g2, g3, g4, g5, g6⟩ := hnst.2.1 j t6
      intro hb0
      have hS0 : ∀ (H : Heap) (locs : List Loc), va_S (pm_A ρ) s.heap H locs → ∃ cell : Cell, H[a]? = some cell ∧ cell.vm.isStatics = false ∧ s.vm.findClass q'.1.cls = some cell.cls := by
        intro H locs hS
        obtain ⟨cell, w1, w2, w3, -⟩ := g3.kept hS.2.1
        exact ⟨cell, w1, w2, by rw [o4]; exact w3⟩
      refine pm_callG (S' := S') (as := .retAddr j :: as) hC sd t2 t7 t8 (fun R H locs ls n1 n2 mc ms e1 e2 e3 e4 e5 hP hSS hroom hM hPc => ?_) hb0
      have hcb : CallB R s args q.1.cls k q'.1 q'.2.1 q'.2.2.1 q'.2.2.2.1 (pm_ws q') (pm_rm d mc ms) mc ms as.length := callB_of _ hts (pm_good q q' hm') rfl rfl rfl (hall _ n5') (inT o1 rfl) ⟨n2'.1, n2'.2, by rw [n3', t3]⟩ ⟨by rw [e3]; exact Nat.le_refl _, by rw [e4]; show 8 + (q'.2.2.1 + 11) + 64 * d ≤ 64 * (d + 1); omega⟩
      have hv : List.map (pm_val ρ) (.retAddr j :: as) = .ref a :: as.map (pm_val ρ) := by rw [List.map_cons]; show va_rf (ρ.2 j) :: _ = _; rw [g1]; rfl
      rw [hv] at hPc ⊢
      have hstk : List.map (pm_val ρ) (as.reverse ++ .retAddr j :: S') = (as.map (pm_val ρ)).reverse ++ .ref a :: S'.map (pm_val ρ) := by
        rw [List.map_append, List.map_reverse, List.map_cons]
        show _ ++ va_rf (ρ.2 j) :: _ = _
        rw [g1]; rfl
      exact va_runV (As := as.map (pm_val ρ)) (rest := S'.map (pm_val ρ)) (C := q'.1.cls) (b := a) (g := F0 m pc ls (List.map (pm_val ρ) (as.reverse ++ .retAddr j :: S'))) fixd hM ⟨hcb, inT o2 rfl, inT o3 rfl⟩ ⟨pm_Pc_blind D cA ρ h _, hS0 H locs hSS, hPc⟩ rfl (by simp) e5 hstk (lv_room (by rw [pm_cs_map]; exact t5)) hdg hroom
  · have hn : n = 3 := by simpa [pm_len] using hlen
    subst hn
    rcases hs with ⟨a, S', e', t1, t2, t3, t4⟩ | ⟨kd, m', e', q', as, S', b, h', t1, t2, t3, t4, t5, t6, t7, t8⟩
    · subst t1
      obtain ⟨lst, hl, hm⟩ := pm_at_of t2
      have ok := pm_all_all (chk := fun o (e : Nat × Nat) => decide (lw_tbl[e.2]? = some (.methodLink o e.1 objectInit))) pm_chk_o (pm_MT_own hq).2 hl hm
      simp only [decide_eq_true_eq] at ok
      intro hb0
      refine ⟨(t4 hb0).1, fun H locs ls hl hR => ?_⟩
      refine W.objInit (g := F0 m pc ls (List.map (pm_val ρ) (.ref a :: S'))) hx hb hown (inT ok rfl) (hfix _ (by simp [pm_fix])) (hfix _ (by simp [pm_fix])) rfl (by rw [hml]; exact hl.1) (rest := S'.map (pm_val ρ)) rfl hdg (by show 1 ≤ d + 1; omega) ?_ ((t4 hb0).2 H locs ls hl hR)
      have h8 := lv_room (m := m) (pc := pc) (ls := ls) (rest := List.map (pm_val ρ) (.ref a :: S')) (st := S'.map (pm_val ρ)) (by rw [pm_cs_map]; exact t3)
      show _ ≤ 64 * (d + 1)
      omega
    · subst t5
      have hm' := List.mem_of_getElem? t2
      obtain ⟨n1', n2', n3', n4', n5', n6'⟩ := pm_MT_q hm'
      have ok := pm_kT_ok hq t2 t1
      refine pm_callG (S' := S') (r := none) (as := .ref b :: as) hC sd t2 t7 t8 (fun R H locs ls n1 n2 mc ms e1 e2 e3 e4 e5 hP hSS hroom hM hPc => ?_)
      have hfl : (pm_rm d mc ms).frames + 1 ≤ R.frames ∧ 8 + (q'.2.2.1 + 11) + (pm_rm d mc ms).locals ≤ R.locals := ⟨by rw [e3]; exact Nat.le_refl _, by rw [e4]; show 8 + (q'.2.2.1 + 11) + 64 * d ≤ 64 * (d + 1); omega⟩
      have hstk : List.map (pm_val ρ) (as.reverse ++ .ref b :: S') = (as.map (pm_val ρ)).reverse ++ .ref (ρ.1 b) :: S'.map (pm_val ρ) := by simp [List.map_append, List.map_reverse]; rfl
      rcases t3 with rfl | rfl
      · simp only [pm_okK, t2, show ¬ (2 : Nat) = 0 by decide, show ¬ (2 : Nat) = 1 by decide, if_false, if_true, Bool.and_eq_true, decide_eq_true_eq] at ok
        obtain ⟨⟨⟨o1, o2⟩, o3⟩, o4⟩ := ok
        have hcb : CallB R s args q.1.cls k q'.1 q'.2.1 q'.2.2.1 none (pm_ws q') (pm_rm d mc ms) mc ms as.length := callB_of _ hts (pm_good q q' hm') (by rw [← o4]; rfl) rfl rfl (hall _ n5') (inT o1 rfl) ⟨n2'.1, n2'.2, by rw [n3', t4]⟩ hfl
        exact va_runI (As := as.map (pm_val ρ)) (rest := S'.map (pm_val ρ)) (b := ρ.1 b) (g := F0 m pc ls (List.map (pm_val ρ) (as.reverse ++ .ref b :: S'))) fixd hM ⟨hcb, o3, inT o2 rfl⟩ ⟨pm_Pc_blind D cA ρ h _, hPc⟩ rfl (by simp) e5 hstk (lv_room (by rw [pm_cs_map]; exact t6)) hdg hroom
      · simp only [pm_okK, t2, show ¬ (3 : Nat) = 0 by decide, show ¬ (3 : Nat) = 1 by decide, show ¬ (3 : Nat) = 2 by decide, show ¬ (3 : Nat) = 5 by decide, if_false, if_true, Bool.and_eq_true, decide_eq_true_eq] at ok
        obtain ⟨⟨⟨o1, o2⟩, o3⟩, o4⟩ := ok
        have hnw := hnst.1.1 _ (List.mem_filter.mpr ⟨List.mem_of_getElem? o1, rfl⟩)
        have hcb := va_cnB (R := R) (args := args) (ret := none) (mc := mc) (ms := ms) as.length hts (pm_good q q' hm') (by rw [← o4]; rfl) rfl rfl hnw (hall _ n5') ⟨n2'.1, n2'.2, by rw [n3', t4]⟩ hfl
        exact va_runIN (As := as.map (pm_val ρ)) (rest := S'.map (pm_val ρ)) (b := ρ.1 b) (g := F0 m pc ls (List.map (pm_val ρ) (as.reverse ++ .ref b :: S'))) fixd hM ⟨hcb, o3, inT o2 rfl⟩ ⟨pm_Pc_blind D cA ρ h _, hPc⟩ rfl (by simp) e5 hstk (lv_room (by rw [pm_cs_map]; exact t6)) hdg hroom
  · have hn : n = 3 := by simpa [pm_len] using hlen
    subst hn
    rcases hs with ⟨kd, m', e', q', as, S', r, h', t1, t2, t3, t4, t5, t6, t7, t8⟩ | ⟨x, y, S', e', t1, t2, t3, t4⟩ | ⟨sp, dp, nn, a, b, S', e', k0, k1, f, g, t1, t2, t3, t4, t5, t6, t7, t8, t9, t10, t11⟩
    · subst t5
      have hm' := List.mem_of_getElem? t2
      obtain ⟨n1', n2', n3', n4', n5', n6'⟩ := pm_MT_q hm'
      have ok := pm_kT_ok hq t2 t1
      refine pm_callG (S' := S') (as := as) hC sd t2 t7 t8 (fun R H locs ls n1 n2 mc ms e1 e2 e3 e4 e5 hP hSS hroom hM hPc => ?_)
      have hfl : (pm_rm d mc ms).frames + 1 ≤ R.frames ∧ 8 + (q'.2.2.1 + 11) + (pm_rm d mc ms).locals ≤ R.locals := ⟨by rw [e3]; exact Nat.le_refl _, by rw [e4]; show 8 + (q'.2.2.1 + 11) + 64 * d ≤ 64 * (d + 1); omega⟩
      have hstk : List.map (pm_val ρ) (as.reverse ++ S') = (as.map (pm_val ρ)).reverse ++ S'.map (pm_val ρ) := by simp [List.map_append, List.map_reverse]
      rcases t3 with rfl | rfl
      · simp only [pm_okK, t2, show ¬ (1 : Nat) = 0 by decide, if_false, if_true, Bool.and_eq_true, decide_eq_true_eq] at ok
        obtain ⟨o1, o2⟩ := ok
        have hcb : CallB R s args q.1.cls k q'.1 q'.2.1 q'.2.2.1 q'.2.2.2.1 (pm_ws q') (pm_rm d mc ms) mc ms as.length := callB_of _ hts (pm_good q q' hm') rfl rfl rfl (hall _ n5') (inT o1 rfl) ⟨n2'.1, n2'.2, by rw [n3', t4]⟩ hfl
        exact va_runS (As := as.map (pm_val ρ)) (rest := S'.map (pm_val ρ)) (g := F0 m pc ls (List.map (pm_val ρ) (as.reverse ++ S'))) fixd hM ⟨hcb, inT o2 rfl⟩ ⟨pm_Pc_blind D cA ρ h _, hPc⟩ rfl (by simp) e5 hstk (lv_room (by rw [pm_cs_map]; exact t6)) hdg hroom
      · simp only [pm_okK, t2, show ¬ (4 : Nat) = 0 by decide, show ¬ (4 : Nat) = 1 by decide, show ¬ (4 : Nat) = 2 by decide, show ¬ (4 : Nat) = 5 by decide, show ¬ (4 : Nat) = 3 by decide, if_false, if_true, Bool.and_eq_true, decide_eq_true_eq] at ok
        obtain ⟨o1, o2⟩ := ok
        have hnw := hnst.1.1 _ (List.mem_filter.mpr ⟨List.mem_of_getElem? o1, rfl⟩)
        have hcb := va_cnB (R := R) (args := args) (mc := mc) (ms := ms) as.length hts (pm_good q q' hm') rfl rfl rfl hnw (hall _ n5') ⟨n2'.1, n2'.2, by rw [n3', t4]⟩ hfl
        exact va_runSN (As := as.map (pm_val ρ)) (rest := S'.map (pm_val ρ)) (g := F0 m pc ls (List.map (pm_val ρ) (as.reverse ++ S'))) fixd hM ⟨hcb, inT o2 rfl, trivial⟩ ⟨pm_Pc_blind D cA ρ h _, hPc⟩ rfl (by simp) e5 hstk (lv_room (by rw [pm_cs_map]; exact t6)) hdg hroom
    · subst t1
      obtain ⟨lst, hl, hm⟩ := pm_at_of t2
      have ok := pm_all_all (chk := fun o (e : Nat × Nat) => decide (lw_tbl[e.2]? = some (.methodLink o e.1 Lib.Math.min.name))) pm_chk_x (pm_MT_own hq).2 hl hm
      simp only [decide_eq_true_eq] at ok
      intro hb0
      obtain ⟨⟨k1, k2⟩, k3⟩ := t4 hb0
      refine ⟨⟨k1, k2⟩, fun H locs ls hl hR => ?_⟩
      refine va_mmin (rest := S'.map (pm_val ρ)) hx hb (by rw [hml]; exact hl.1.symm) hown (inT ok rfl) (hfix _ (by simp [pm_fix])) (hfix _ (by simp [pm_fix])) (hfix _ (by simp [pm_fix])) (by show 1 ≤ d + 1; omega) (by rw [pm_cs_map]; show _ ≤ 64 * (d + 1); omega) (by show _ ≤ hF.length - h0.length; omega) (by show _ ≤ pm_sl hF - pm_sl h0; omega) hdg (k3 H locs ls hl hR)
    · subst t1
      obtain ⟨lst, hl, hm⟩ := pm_at_of t2
      have ok := pm_all_all (chk := fun o (e : Nat × Nat) => decide (lw_tbl[e.2]? = some (.methodLink o e.1 arraycopyName))) pm_chk_y (pm_MT_own hq).2 hl hm
      simp only [decide_eq_true_eq] at ok
      intro hb0
      have e1 : (h.set b (.inl (0, k1, .inl (va_cpy f g sp.toNatClampNeg dp.toNatClampNeg nn.toNatClampNeg)))).length = h.length := List.length_set
      have e2 : pm_sl (h.set b (.inl (0, k1, .inl (va_cpy f g sp.toNatClampNeg dp.toNatClampNeg nn.toNatClampNeg)))) = pm_sl h := pm_sl_set t5 rfl
      have k' := t11 (by rw [e1, e2]; exact hb0)
      rw [e1, e2] at k'
      refine ⟨k'.1, fun H locs ls hl hR => ?_⟩
      refine pm_wcopy (rest := S'.map (pm_val ρ)) (cI := cA 0) hx hb (by rw [hml]; exact hl.1.symm) hown (inT ok rfl) (hfix _ (by simp [pm_fix])) (hfix _ (by simp [pm_fix])) (hfix _ (by simp [pm_fix])) (pm_K0 hK) (hR.1 a _ (pm_W_get t4)) (hR.1 b _ (pm_W_get t5)) t6 t7 t8 t9 t10 (by show 1 ≤ d + 1; omega) ?_ hdg (fun H1 Lc a1 a2 a3 a4 => k'.2 H1 _ ls hl ⟨?_, ?_, ?_⟩)
      · rw [pm_cs_map]
        have : nativeFrameWords "java/lang/System" "arraycopy" 5 ≤ 40 := by decide +kernel
        show _ ≤ 64 * (d + 1)
        omega
      · rw [pm_W_set]
        exact hR.1.set (pm_W_D hinj) (pm_W_get t5) a1 a3
      · refine ⟨by rw [a2]; exact hR.2.1.1, fun x g1 g2 => ?_, fun x hx' => ?_⟩
        · rw [a3 x (fun q => g2 ⟨b, q⟩)]
          exact hR.2.1.2.1 x g1 g2
        · rcases List.mem_append.mp hx' with g | g
          · exact hR.2.1.2.2 x g
          · exact ⟨b, a4 x g⟩
      · rw [a2, e1]; exact hR.2.2
end PMT
