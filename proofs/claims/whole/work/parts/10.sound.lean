section PMU
variable {p : Program} {l : Launch} {e : Env} {s : State} {m : MethodId} {args : Array Value} {below : List Frame} {meth : Method} {c : Code}
variable {q : pm_M} {D : va_G} {cA : Nat → ClassId} {ρ : pm_N} {d mi : Nat} {h0 hF : pm_H} {rF : Option Value}
set_option maxHeartbeats 4000000 in
theorem pm_snd_step (hC : pm_S p s m args meth c mi q D cA ρ h0) (sd : pm_Snd l d) {pc n : Nat} {L S : List Value} {h : pm_H} {i : Instr} (hf : pm_fetch mi pc = some (i, n))
    (hs : pm_step (pm_ev d) mi i pc L S h (pm_G p l e s m args below meth c q D cA ρ (d + 1) h0 hF (pm_Qm below D cA ρ hF h0 rF args s)) (fun r1 h1 => r1 = rF ∧ h1 = hF)) : pm_G p l e s m args below meth c q D cA ρ (d + 1) h0 hF (pm_Qm below D cA ρ hF h0 rF args s) pc L S h := by
  obtain ⟨hq, hx, hb, hml, hown, hts, hlocks, hr, hnm, hK, hinj, hsz, hnx, hnst, hfix⟩ := id hC
  obtain ⟨hdg, hlen⟩ := pm_fetch_ok hq hf
  have hall : ∀ w ∈ pm_all, w.before args s = true := fun w hw => hts w (List.mem_cons_of_mem _ hw)
  have inT : ∀ {k : Nat} {w : Cond}, lw_tbl[k]? = some w → goodWord w = true → w.before args s = true := fun hk hg => hall _ (pm_in_all (List.mem_of_getElem? hk) hg)
  have two : ∀ {i : Instr} {b : Nat}, (n == b) = true → n = b := fun h => by simpa using h
  cases i with
  | aload_n k =>
    have hn : n = 1 := by simpa [pm_len] using hlen
    subst hn
    obtain ⟨v, h1, h2, k1⟩ := hs
    refine pm_pass k1 (fun H locs ls R n1 n2 hl hR w => ?_)
    cases v with
    | ref a => exact lv_aload_n hx hb hdg rfl (hl.2.2.2 _ _ h1 (by simp)) w
    | retAddr j =>
      have h3 := hl.2.2.2 _ _ h1 (by simp)
      rw [show pm_val ρ (.retAddr j) = va_rf (ρ.2 j) from rfl] at h3
      rw [List.map_cons, show pm_val ρ (.retAddr j) = va_rf (ρ.2 j) from rfl] at w
      cases hj : ρ.2 j with
      | none => rw [hj] at h3 w; exact lv_aload_nN hx hb hdg rfl h3 w
      | some a => rw [hj] at h3 w; exact lv_aload_n hx hb hdg rfl h3 w
    | null => exact lv_aload_nN hx hb hdg rfl (hl.2.2.2 _ _ h1 (by simp)) w
    | _ => cases h2
  | aload k =>
    have hn : n = 2 := by simpa [pm_len] using hlen
    subst hn
    obtain ⟨v, h1, h2, k1⟩ := hs
    refine pm_pass k1 (fun H locs ls R n1 n2 hl hR w => ?_)
    cases v with
    | ref a => exact lv_aload hx hb hdg (hl.2.2.2 _ _ h1 (by simp)) w
    | retAddr j =>
      have h3 := hl.2.2.2 _ _ h1 (by simp)
      rw [show pm_val ρ (.retAddr j) = va_rf (ρ.2 j) from rfl] at h3
      rw [List.map_cons, show pm_val ρ (.retAddr j) = va_rf (ρ.2 j) from rfl] at w
      cases hj : ρ.2 j with
      | none => rw [hj] at h3 w; exact lv_aloadN hx hb hdg h3 w
      | some a => rw [hj] at h3 w; exact lv_aload hx hb hdg h3 w
    | null => exact lv_aloadN hx hb hdg (hl.2.2.2 _ _ h1 (by simp)) w
    | _ => cases h2
  | iload_n k =>
    have hn : n = 1 := by simpa [pm_len] using hlen
    subst hn
    obtain ⟨v, h1, k1⟩ := hs
    exact pm_pass k1 (fun H locs ls R n1 n2 hl hR w => lv_iload_n hx hb hdg rfl (hl.2.2.2 _ _ h1 (by simp)) w)
  | iload k =>
    have hn : n = 2 := by simpa [pm_len] using hlen
    subst hn
    obtain ⟨v, h1, k1⟩ := hs
    exact pm_pass k1 (fun H locs ls R n1 n2 hl hR w => lv_iload hx hb hdg (hl.2.2.2 _ _ h1 (by simp)) w)
  | lload_n k =>
    have hn : n = 1 := by simpa [pm_len] using hlen
    subst hn
    obtain ⟨v, h1, k1⟩ := hs
    exact pm_pass k1 (fun H locs ls R n1 n2 hl hR w => lv_lload_n hx hb hdg rfl (hl.2.2.2 _ _ h1 (by simp)) w)
  | lload k =>
    have hn : n = 2 := by simpa [pm_len] using hlen
    subst hn
    obtain ⟨v, h1, k1⟩ := hs
    exact pm_pass k1 (fun H locs ls R n1 n2 hl hR w => lv_lload hx hb hdg (hl.2.2.2 _ _ h1 (by simp)) w)
  | istore_n k =>
    have hn : n = 1 := by simpa [pm_len] using hlen
    subst hn
    obtain ⟨x, S', rfl, h1, k1⟩ := hs
    exact pm_loc k1 (fun H locs ls R n1 n2 hl w => lv_istore_n hx hb hdg rfl hl.has (by rw [← hl.2.1]; exact h1) rfl (fun ls' hl' => w ls' (hl.st1 (v := .int x) hl')))
  | istore k =>
    have hn : n = 2 := by simpa [pm_len] using hlen
    subst hn
    obtain ⟨x, S', rfl, h1, k1⟩ := hs
    exact pm_loc k1 (fun H locs ls R n1 n2 hl w => lv_istore hx hb hdg hl.has (by rw [← hl.2.1]; exact h1) rfl (fun ls' hl' => w ls' (hl.st1 (v := .int x) hl')))
  | lstore_n k =>
    have hn : n = 1 := by simpa [pm_len] using hlen
    subst hn
    obtain ⟨x, S', rfl, h1, k1⟩ := hs
    exact pm_loc k1 (fun H locs ls R n1 n2 hl w => lv_lstore_n hx hb hdg rfl hl.has (by rw [← hl.2.1]; exact h1) rfl (fun ls' hl' => w ls' (hl.st2 (v := .long x) hl')))
  | lstore k =>
    have hn : n = 2 := by simpa [pm_len] using hlen
    subst hn
    obtain ⟨x, S', rfl, h1, k1⟩ := hs
    exact pm_loc k1 (fun H locs ls R n1 n2 hl w => lv_lstore hx hb hdg hl.has (by rw [← hl.2.1]; exact h1) rfl (fun ls' hl' => w ls' (hl.st2 (v := .long x) hl')))
  | astore_n k =>
    have hn : n = 1 := by simpa [pm_len] using hlen
    subst hn
    obtain ⟨v, S', rfl, h2, h1, k1⟩ := hs
    refine pm_loc k1 (fun H locs ls R n1 n2 hl w => ?_)
    cases v with
    | ref a => exact lv_astore_n hx hb hdg rfl hl.has (by rw [← hl.2.1]; exact h1) rfl (fun ls' hl' => w ls' (hl.st1 (v := .ref a) hl'))
    | retAddr j =>
      rw [List.map_cons, show pm_val ρ (.retAddr j) = va_rf (ρ.2 j) from rfl]
      have key : ∀ ls', lv_has ls' q.2.2.1 ((((k : Nat)), va_rf (ρ.2 j)) :: (pm_ll ρ L).filter (fun q => !(q.1 == (k : Nat)) && !(q.1 + 1 == (k : Nat) && q.2.category == 2))) → pm_lok ρ ls' q.2.2.1 (pm_st1 L k (.retAddr j)) := fun ls' hl' => hl.st1 (v := .retAddr j) hl'
      cases hj : ρ.2 j with
      | none => rw [hj] at key; exact lv_astore_nN hx hb hdg rfl hl.has (by rw [← hl.2.1]; exact h1) rfl (fun ls' hl' => w ls' (key ls' hl'))
      | some a => rw [hj] at key; exact lv_astore_n hx hb hdg rfl hl.has (by rw [← hl.2.1]; exact h1) rfl (fun ls' hl' => w ls' (key ls' hl'))
    | null => exact lv_astore_nN hx hb hdg rfl hl.has (by rw [← hl.2.1]; exact h1) rfl (fun ls' hl' => w ls' (hl.st1 (v := .null) hl'))
    | _ => cases h2
  | astore k =>
    have hn : n = 2 := by simpa [pm_len] using hlen
    subst hn
    obtain ⟨v, S', rfl, h2, h1, k1⟩ := hs
    refine pm_loc k1 (fun H locs ls R n1 n2 hl w => ?_)
    cases v with
    | ref a => exact lv_astore hx hb hdg hl.has (by rw [← hl.2.1]; exact h1) rfl (fun ls' hl' => w ls' (hl.st1 (v := .ref a) hl'))
    | retAddr j =>
      rw [List.map_cons, show pm_val ρ (.retAddr j) = va_rf (ρ.2 j) from rfl]
      have key : ∀ ls', lv_has ls' q.2.2.1 ((((k : Nat)), va_rf (ρ.2 j)) :: (pm_ll ρ L).filter (fun q => !(q.1 == (k : Nat)) && !(q.1 + 1 == (k : Nat) && q.2.category == 2))) → pm_lok ρ ls' q.2.2.1 (pm_st1 L k (.retAddr j)) := fun ls' hl' => hl.st1 (v := .retAddr j) hl'
      cases hj : ρ.2 j with
      | none => rw [hj] at key; exact lv_astoreN hx hb hdg hl.has (by rw [← hl.2.1]; exact h1) rfl (fun ls' hl' => w ls' (key ls' hl'))
      | some a => rw [hj] at key; exact lv_astore hx hb hdg hl.has (by rw [← hl.2.1]; exact h1) rfl (fun ls' hl' => w ls' (key ls' hl'))
    | null => exact lv_astoreN hx hb hdg hl.has (by rw [← hl.2.1]; exact h1) rfl (fun ls' hl' => w ls' (hl.st1 (v := .null) hl'))
    | _ => cases h2
  | iinc k z =>
    have hn : n = 3 := by simpa [pm_len] using hlen
    subst hn
    obtain ⟨x, h1, k1⟩ := hs
    refine pm_loc k1 (fun H locs ls R n1 n2 hl w => ?_)
    obtain ⟨j, hj⟩ := List.getElem?_of_mem (pm_ll_mem (ρ := ρ) h1 (by simp))
    exact lv_iinc hx hb hdg hl.has hj rfl (by rw [← hl.2.1]; exact (List.getElem?_eq_some_iff.mp h1).1) rfl (fun ls' hl' => w ls' (hl.st1 (v := .int (x + Int32.ofInt z)) hl'))
  | iconst z =>
    have hn : n = 1 := by simpa [pm_len] using hlen
    subst hn
    exact pm_pass hs (fun H locs ls R n1 n2 hl hR w => lv_iconst hx hb hdg rfl w)
  | bipush z =>
    have hn : n = 2 := by simpa [pm_len] using hlen
    subst hn
    exact pm_pass hs (fun H locs ls R n1 n2 hl hR w => lv_bipush hx hb hdg rfl w)
  | sipush z =>
    have hn : n = 3 := by simpa [pm_len] using hlen
    subst hn
    exact pm_pass hs (fun H locs ls R n1 n2 hl hR w => lv_sipush hx hb hdg rfl w)
  | lconst z =>
    have hn : n = 1 := by simpa [pm_len] using hlen
    subst hn
    exact pm_pass hs (fun H locs ls R n1 n2 hl hR w => lv_lconst hx hb hdg rfl w)
  | aconst_null =>
    have hn : n = 1 := by simpa [pm_len] using hlen
    subst hn
    exact pm_pass hs (fun H locs ls R n1 n2 hl hR w => lv_null hx hb hdg w)
  | ldc k =>
    have hn : n = 2 := by simpa [pm_len] using hlen
    subst hn
    rcases hs with ⟨v, h1, k1⟩ | ⟨j, e', h1, k1⟩
    · obtain ⟨lst, hl, hm⟩ := pm_at_of h1
      have ok := pm_all_all (chk := fun o (e : Nat × Int32 × Nat) => decide (lw_tbl[e.2.2]? = some (.constant o e.1 e.2.1))) pm_chk_i (pm_MT_own hq).2 hl hm
      simp only [decide_eq_true_eq] at ok
      exact pm_pass k1 (fun H locs ls R n1 n2 hl hR w => lv_ldc hx hb hown (inT ok rfl) hdg w)
    · obtain ⟨lst, hl, hm⟩ := pm_at_of h1
      have ok := pm_all_all (chk := fun o (e : Nat × Nat × Nat) => decide (e.2.1 < 12) && decide (lw_tbl[e.2.2]? = some (.stringRef o e.1 (pm_ST.getD e.2.1 "")))) pm_chk_s (pm_MT_own hq).2 hl hm
      simp only [Bool.and_eq_true, decide_eq_true_eq] at ok
      obtain ⟨a, b, g1, g2, -⟩ := hnst.2.1 j ok.1
      have hv := hnst.2.2.2.2 _ _ _ _ ok.2 ok.1 a g1
      refine pm_pass k1 (fun H locs ls R n1 n2 hl hR w => ?_)
      rw [List.map_cons, show pm_val ρ (.retAddr j) = va_rf (ρ.2 j) from rfl, g1] at w
      exact va_ldcS hx hb hown hv hdg w
  | ldc_w k =>
    have hn : n = 3 := by simpa [pm_len] using hlen
    subst hn
    obtain ⟨v, h1, k1⟩ := hs
    obtain ⟨lst, hl, hm⟩ := pm_at_of h1
    have ok := pm_all_all (chk := fun o (e : Nat × Int32 × Nat) => decide (lw_tbl[e.2.2]? = some (.constant o e.1 e.2.1))) pm_chk_i (pm_MT_own hq).2 hl hm
    simp only [decide_eq_true_eq] at ok
    exact pm_pass k1 (fun H locs ls R n1 n2 hl hR w => lv_ldcw hx hb hown (inT ok rfl) hdg w)
  | ldc2_w k =>
    have hn : n = 3 := by simpa [pm_len] using hlen
    subst hn
    obtain ⟨v, h1, k1⟩ := hs
    obtain ⟨lst, hl, hm⟩ := pm_at_of h1
    have ok := pm_all_all (chk := fun o (e : Nat × Int64 × Nat) => decide (lw_tbl[e.2.2]? = some (.constantLong o e.1 e.2.1))) pm_chk_l (pm_MT_own hq).2 hl hm
    simp only [decide_eq_true_eq] at ok
    exact pm_pass k1 (fun H locs ls R n1 n2 hl hR w => lv_ldc2 hx hb hown (inT ok rfl) hdg w)
  | dup =>
    have hn : n = 1 := by simpa [pm_len] using hlen
    subst hn
    obtain ⟨v, S', rfl, h1, k1⟩ := hs
    exact pm_pass k1 (fun H locs ls R n1 n2 hl hR w => lv_dup hx hb hdg (by rw [pm_val_cat]; cases v <;> first | rfl | cases h1) w)
  | dup2 =>
    have hn : n = 1 := by simpa [pm_len] using hlen
    subst hn
    obtain ⟨v, v', S', rfl, h1, h2, k1⟩ := hs
    exact pm_pass k1 (fun H locs ls R n1 n2 hl hR w => lv_dup2_11 hx hb hdg (by rw [pm_val_cat]; cases v <;> first | rfl | cases h1) (by rw [pm_val_cat]; cases v' <;> first | rfl | cases h2) w)
  | pop =>
    have hn : n = 1 := by simpa [pm_len] using hlen
    subst hn
    obtain ⟨v, S', rfl, h1, k1⟩ := hs
    exact pm_pass k1 (fun H locs ls R n1 n2 hl hR w => lv_pop hx hb hdg (by rw [pm_val_cat]; cases v <;> first | rfl | cases h1) w)
  | goto off =>
    have hn : n = 3 := by simpa [pm_len] using hlen
    subst hn
    obtain ⟨t, h1, k1⟩ := hs
    exact pm_pass k1 (fun H locs ls R n1 n2 hl hR w => lv_goto hx hb hdg h1 w)
  | ifCond cnd off =>
    have hn : n = 3 := by simpa [pm_len] using hlen
    subst hn
    obtain ⟨t, x, S', h1, rfl, k1, k2⟩ := hs
    refine pm_fork k1 k2 (fun H locs ls R n1 n2 w1 w2 => ?_)
    cases cnd with
    | eq => exact lv_if_eq hx hb hdg h1 w1 w2
    | ne => exact lv_if_ne hx hb hdg h1 w1 (fun q => w2 (fun z => z q))
    | lt => exact lv_if_lt hx hb hdg h1 w1 w2
    | ge => exact lv_if_ge hx hb hdg h1 w1 w2
    | gt => exact lv_if_gt hx hb hdg h1 w1 w2
    | le => exact lv_if_le hx hb hdg h1 w1 w2
  | if_icmp cnd off =>
    have hn : n = 3 := by simpa [pm_len] using hlen
    subst hn
    obtain ⟨t, x, y, S', h1, rfl, k1, k2⟩ := hs
    refine pm_fork k1 k2 (fun H locs ls R n1 n2 w1 w2 => ?_)
    cases cnd with
    | eq => exact lv_icmp_eq hx hb hdg h1 w1 w2
    | ne => exact lv_icmp_ne hx hb hdg h1 w1 (fun q => w2 (fun z => z q))
    | lt => exact lv_icmp_lt hx hb hdg h1 w1 w2
    | ge => exact lv_icmp_ge hx hb hdg h1 w1 w2
    | gt => exact lv_icmp_gt hx hb hdg h1 w1 w2
    | le => exact lv_icmp_le hx hb hdg h1 w1 w2
  | ifnull off =>
    have hn : n = 3 := by simpa [pm_len] using hlen
    subst hn
    obtain ⟨t, v, S', h1, rfl, h2, k1, k2⟩ := hs
    refine pm_fork k1 k2 (fun H locs ls R n1 n2 w1 w2 => ?_)
    cases v with
    | ref a => exact lv_ifnull hx hb hdg (w2 (by simp))
    | retAddr j => cases h2
    | null => exact lv_ifnullN hx hb hdg h1 (w1 rfl)
    | _ => cases h2
  | ifnonnull off =>
    have hn : n = 3 := by simpa [pm_len] using hlen
    subst hn
    obtain ⟨t, v, S', h1, rfl, h2, k1, k2⟩ := hs
    refine pm_fork (P := ¬ v = .null) k1 (fun z => k2 (Decidable.not_not.mp z)) (fun H locs ls R n1 n2 w1 w2 => ?_)
    cases v with
    | ref a => exact lv_ifnonnull hx hb hdg h1 (w1 (by simp))
    | retAddr j => cases h2
    | null => exact lv_ifnonnullN hx hb hdg (w2 (by simp))
    | _ => cases h2
  | tableswitch df lo hi offs =>
    obtain ⟨t, off, x, S', rfl, h1, h2, k1⟩ := hs
    refine pm_pass k1 (fun H locs ls R n1 n2 hl hR w => ?_)
    rcases h1 with ⟨a1, rfl⟩ | ⟨a1, a2, a3⟩
    · exact lv_tableOut hx hb hdg a1 h2 w
    · exact lv_tableIn hx hb hdg a1 a2 a3 h2 w
  | lookupswitch df ps =>
    obtain ⟨t, off, x, S', rfl, h1, h2, h3, k1⟩ := hs
    exact pm_pass k1 (fun H locs ls R n1 n2 hl hR w => lv_lookup hx hb hdg h1 h2 h3 w)
  | getfield k =>
    have hn : n = 3 := by simpa [pm_len] using hlen
    subst hn
    rcases hs with ⟨a, S', e', ci, f, fs, v, rfl, h1, h2, h3, k1⟩ | ⟨j, S', e', rfl, hj, h1, k1⟩ | ⟨j, S', e', rfl, hj, h1, k1⟩
    · obtain ⟨r, r1, r2, r3⟩ := pm_fT_ok hq h1
      obtain ⟨cl1, cl2, cl3, cl4⟩ := pm_cls r1
      exact pm_pass k1 (fun H locs ls R n1 n2 hl hR w => va_get (ref := (r.2.1 f).1) (C := r.1) (T := r.2.1) (N := r.2.2) (Ts := pm_all) hx hb hall cl1 hown hK hR.1 a (pm_W_get h2) r1 f r2 (hall _ r3) (fun _ h => h) (by rw [List.getElem?_map, h3]; rfl) hdg w)
    · obtain ⟨lst, hl, hm⟩ := pm_at_of h1
      have ok := pm_all_all (chk := fun o (e : Nat × Nat × Nat) => decide (lw_tbl[e.2.2]? = some (if e.2.1 = 0 then .fieldLink o e.1 "java/lang/String" "value" "[B" else .fieldLink o e.1 "java/lang/String" "coder" "B"))) pm_chk_g (pm_MT_own hq).2 hl hm
      simp only [if_true, decide_eq_true_eq] at ok
      obtain ⟨a, b, g1, g2, g3, g4, g5, g6⟩ := hnst.2.1 j hj
      refine pm_pass k1 (fun H locs ls R n1 n2 hl hR w => ?_)
      rw [List.map_cons, show pm_val ρ (.retAddr (100 + j)) = va_rf (ρ.2 (100 + j)) from rfl, g2] at w
      rw [List.map_cons, show pm_val ρ (.retAddr j) = va_rf (ρ.2 j) from rfl, g1]
      exact vk_getf hx hb g5 hR.2.1 hown (inT ok rfl) (fun _ h => h) hdg w
    · obtain ⟨lst, hl, hm⟩ := pm_at_of h1
      have ok := pm_all_all (chk := fun o (e : Nat × Nat × Nat) => decide (lw_tbl[e.2.2]? = some (if e.2.1 = 0 then .fieldLink o e.1 "java/lang/String" "value" "[B" else .fieldLink o e.1 "java/lang/String" "coder" "B"))) pm_chk_g (pm_MT_own hq).2 hl hm
      simp only [show ¬ (1 : Nat) = 0 by decide, if_false, decide_eq_true_eq] at ok
      obtain ⟨a, b, g1, g2, g3, g4, g5, g6⟩ := hnst.2.1 j hj
      refine pm_pass k1 (fun H locs ls R n1 n2 hl hR w => ?_)
      rw [List.map_cons, show pm_val ρ (.retAddr j) = va_rf (ρ.2 j) from rfl, g1]
      exact vk_getf hx hb g4 hR.2.1 hown (inT ok rfl) (fun _ h => h) hdg w
  | getstatic k =>
    have hn : n = 3 := by simpa [pm_len] using hlen
    subst hn
    rcases hs with ⟨e', h1, k1⟩ | ⟨e', h1, k1⟩
    · obtain ⟨lst, hl, hm⟩ := pm_at_of h1
      have ok := pm_all_all (chk := fun o (e : Nat × Nat × Nat) => decide (lw_tbl[e.2.2]? = some (if e.2.1 = 0 then .fieldLink o e.1 "java/lang/String" "COMPACT_STRINGS" "Z" else .fieldLink o e.1 "jdk/internal/util/Preconditions" "SIOOBE_FORMATTER" "Ljava/util/function/BiFunction;"))) pm_chk_u (pm_MT_own hq).2 hl hm
      simp only [if_true, decide_eq_true_eq] at ok
      exact pm_pass k1 (fun H locs ls R n1 n2 hl hR w => va_gets hx hb hnst.2.2.1 hR.2.1 hown (inT ok rfl) (fun _ h => h) hdg w)
    · obtain ⟨lst, hl, hm⟩ := pm_at_of h1
      have ok := pm_all_all (chk := fun o (e : Nat × Nat × Nat) => decide (lw_tbl[e.2.2]? = some (if e.2.1 = 0 then .fieldLink o e.1 "java/lang/String" "COMPACT_STRINGS" "Z" else .fieldLink o e.1 "jdk/internal/util/Preconditions" "SIOOBE_FORMATTER" "Ljava/util/function/BiFunction;"))) pm_chk_u (pm_MT_own hq).2 hl hm
      simp only [show ¬ (1 : Nat) = 0 by decide, if_false, decide_eq_true_eq] at ok
      exact pm_pass k1 (fun H locs ls R n1 n2 hl hR w => va_gets hx hb hnst.2.2.2.1 hR.2.1 hown (inT ok rfl) (fun _ h => h) hdg w)
  | putfield k =>
    have hn : n = 3 := by simpa [pm_len] using hlen
    subst hn
    obtain ⟨a, v, S', e', ci, f, fs, ty, rfl, h1, h2, h3, h4, h5, h6, h7, k1⟩ := hs
    obtain ⟨r, r1, r2, r3⟩ := pm_fT_ok hq h1
    refine pm_put (c0 := .inr (ci, fs)) (c1 := .inr (ci, fs.set f v)) hC h2 (by simp [pm_sz]) k1 (fun H locs ls R n1 n2 hR hat w => ?_)
    have hty : parseFieldDescriptor (r.2.1 f).2.2.1 = some ty := by simpa [pm_ty, r1] using h4
    refine pm_wput (r := r) (fs := fs.map (pm_val ρ)) (v := pm_val ρ v) (rest := S'.map (pm_val ρ)) hx hb hall hown hK hat r1 r2 (hall _ r3) hty (pm_narrow ρ h5) (pm_fits ρ h6) (by simpa using h3) (fun hf => ?_) hdg (fun H1 j a1 a2 a3 => w H1 j ?_ a2 a3)
    · obtain ⟨g1, g2⟩ := h7 (by simpa [pm_fin, r1] using hf)
      refine ⟨by rw [hnm]; simpa [pm_ini, hq] using g1, ?_⟩
      have o := pm_MT_own hq
      subst g2
      have hlt : pm_cl mi < 7 := by
        have := (List.getElem?_eq_some_iff.mp r1).1
        simpa [vwCl] using this
      obtain ⟨rv, v1, v2⟩ := pm_vw hlt
      cases r1.symm.trans v1
      exact Option.some.inj (v2.symm.trans o.2)
    · have : (fs.map (pm_val ρ)).set f (pm_val ρ v) = (fs.set f v).map (pm_val ρ) := by rw [List.map_set]
      rw [this] at a1
      exact a1
  | iaload =>
    have hn : n = 1 := by simpa [pm_len] using hlen
    subst hn
    obtain ⟨i, a, S', k, f, rfl, h1, h2, k1⟩ := hs
    exact pm_pass k1 (fun H locs ls R n1 n2 hl hR w => va_iald hx hb hK hR.1 a 0 (pm_W_get h1) rfl h2 hdg w)
  | baload =>
    have hn : n = 1 := by simpa [pm_len] using hlen
    subst hn
    rcases hs with ⟨i, a, S', k, f, rfl, h1, h2, k1⟩ | ⟨i, j, S', rfl, hj, h2, k1⟩
    · exact pm_pass k1 (fun H locs ls R n1 n2 hl hR w => va_bald hx hb hK hR.1 a 2 (pm_W_get h1) rfl h2 hdg w)
    · obtain ⟨a, b, g1, g2, g3, g4, g5, g6⟩ := hnst.2.1 j hj
      refine pm_pass k1 (fun H locs ls R n1 n2 hl hR w => ?_)
      obtain ⟨cell, c1, c2, c3, c4, c5, c6, c7⟩ := g6.kept hR.2.1.2.1
      have hlt : i.toNatClampNeg < pm_slen j := Nat.not_le.mp fun q => h2 (Or.inr q)
      rw [List.map_cons, List.map_cons, show pm_val ρ (.retAddr (100 + j)) = va_rf (ρ.2 (100 + j)) from rfl, g2]
      exact W.bald hx hb c1 c2 c3 (fun z => h2 (z.imp id (fun y => Nat.le_trans c4 y))) (c6 _ hlt) rfl rfl hdg w
  | laload =>
    have hn : n = 1 := by simpa [pm_len] using hlen
    subst hn
    obtain ⟨i, a, S', k, f, rfl, h1, h2, k1⟩ := hs
    exact pm_pass k1 (fun H locs ls R n1 n2 hl hR w => va_lald hx hb hK hR.1 a 1 (pm_W_get h1) rfl h2 hdg w)
  | aaload =>
    have hn : n = 1 := by simpa [pm_len] using hlen
    subst hn
    obtain ⟨i, a, S', t, k, f, rfl, ht, h1, h2, k1⟩ := hs
    obtain ⟨j, r, r1, r2⟩ := pm_K3 (cA := cA) ht
    refine pm_pass k1 (fun H locs ls R n1 n2 hl hR w => va_aldq hx hb hK hR.1 a j (pm_W_get h1) r1 h2 hdg ?_)
    rw [List.map_cons, pm_rf] at w
    exact w
  | iastore =>
    have hn : n = 1 := by simpa [pm_len] using hlen
    subst hn
    obtain ⟨x, i, a, S', k, f, rfl, h1, h2, k1⟩ := hs
    exact pm_put (c1 := .inl (0, k, .inl (upd f i.toNatClampNeg x))) hC h1 rfl k1 (fun H locs ls R n1 n2 hR hat w => pm_wi hx hb (pm_K0 hK) hat h2 hdg (fun H1 j a1 a2 a3 => w H1 j a1 a2 a3))
  | bastore =>
    have hn : n = 1 := by simpa [pm_len] using hlen
    subst hn
    obtain ⟨x, i, a, S', k, f, rfl, h1, h2, k1⟩ := hs
    exact pm_put (c1 := .inl (2, k, .inl (upd f i.toNatClampNeg x.toInt8.toInt32))) hC h1 rfl k1 (fun H locs ls R n1 n2 hR hat w => pm_wb hx hb (pm_K2 hK) hat h2 hdg (fun H1 j a1 a2 a3 => w H1 j a1 a2 a3))
  | lastore =>
    have hn : n = 1 := by simpa [pm_len] using hlen
    subst hn
    obtain ⟨x, i, a, S', k, f, rfl, h1, h2, k1⟩ := hs
    exact pm_put (c1 := .inl (1, k, .inr (.inl (vp_updL f i.toNatClampNeg x)))) hC h1 rfl k1 (fun H locs ls R n1 n2 hR hat w => pm_wl hx hb (pm_K1 hK) hat h2 hdg (fun H1 j a1 a2 a3 => w H1 j a1 a2 a3))
  | aastore =>
    have hn : n = 1 := by simpa [pm_len] using hlen
    subst hn
    obtain ⟨v, i, a, S', t, k, f, vs, rfl, ht, h1, h2, h3, k1⟩ := hs
    obtain ⟨j, r, r1, r2⟩ := pm_K3 (cA := cA) ht
    refine pm_put (c1 := .inl (t + 3, k, .inr (.inr (.inr (.inr (va_up f i.toNatClampNeg (some v))))))) hC h1 rfl k1 (fun H locs ls R n1 n2 hR hat w => pm_wr hx hb hK (hK.2 j _ r1).2 hat (hR.1 v _ (pm_W_get h2)) r2 h3 hdg (fun H1 j a1 a2 a3 => w H1 j ?_ a2 a3))
    have : (fun z => ((va_up f i.toNatClampNeg (some v)) z).map ρ.1) = va_up (fun z => (f z).map ρ.1) i.toNatClampNeg (some (ρ.1 v)) := by
      funext z
      by_cases hz : z = i.toNatClampNeg <;> simp [va_up, hz]
    show va_at D vwCl (ρ.1 a, .inl (cA (t + 3), k, .inr (.inr (.inr (.inr _))))) H1
    rw [this]
    exact a1
  | arraylength =>
    have hn : n = 1 := by simpa [pm_len] using hlen
    subst hn
    rcases hs with ⟨a, S', t, x, rfl, ht, h1, k1⟩ | ⟨j, S', rfl, hj, k1⟩
    · obtain ⟨j, ty, r1⟩ := pm_Kt (cA := cA) ht
      refine pm_pass k1 (fun H locs ls R n1 n2 hl hR w => va_alen hx hb hK hR.1 a j (x := pm_arr ρ x) (pm_W_get h1) r1 ?_ hdg w)
      obtain ⟨n, f | f | f | f | f⟩ := x <;> rfl
    · obtain ⟨a, b, g1, g2, g3, g4, g5, g6⟩ := hnst.2.1 j hj
      refine pm_pass k1 (fun H locs ls R n1 n2 hl hR w => ?_)
      obtain ⟨cell, c1, c2, c3, c4, c5, c6, c7⟩ := g6.kept hR.2.1.2.1
      rw [List.map_cons, show pm_val ρ (.retAddr (100 + j)) = va_rf (ρ.2 (100 + j)) from rfl, g2]
      exact W.alen hx hb c1 c2 c5 rfl rfl hdg w
  | newarray at_ =>
    have hn : n = 2 := by simpa [pm_len] using hlen
    subst hn
    obtain ⟨z, S', rfl, h1, h2, k1⟩ := hs
    rcases k1 with ⟨rfl, k1⟩ | ⟨rfl, k1⟩ | ⟨rfl, k1⟩
    · refine pm_make hC k1 (fun H locs ls n1 n2 e1 e2 e3 w => va_newaK (atype := .int) (g := F0 m pc ls (List.map (pm_val ρ) (.int z :: S'))) (rest := S'.map (pm_val ρ)) hx hb (hfix _ (by simp [pm_fix, newarray.typeOf])) rfl hdg rfl h1 rfl (by show z.toNatClampNeg * 4 ≤ _; omega) e2 e3 e1 (fun H1 c1 a1 a2 a3 a4 a5 => ?_))
      have hc : c1 = cA 0 := Option.some.inj (a5.symm.trans (hK.2 0 _ rfl).2)
      subst hc
      refine w H1 a1 (by rw [a2, e1]) (fun x hx' => a3 x (by rw [← e1]; exact hx'))
    · refine pm_make hC k1 (fun H locs ls n1 n2 e1 e2 e3 w => va_newaK (atype := .long) (g := F0 m pc ls (List.map (pm_val ρ) (.int z :: S'))) (rest := S'.map (pm_val ρ)) hx hb (hfix _ (by simp [pm_fix, newarray.typeOf])) rfl hdg rfl h1 rfl (by show z.toNatClampNeg * 8 ≤ _; omega) e2 e3 e1 (fun H1 c1 a1 a2 a3 a4 a5 => ?_))
      have hc : c1 = cA 1 := Option.some.inj (a5.symm.trans (hK.2 1 _ rfl).2)
      subst hc
      refine w H1 a1 (by rw [a2, e1]) (fun x hx' => a3 x (by rw [← e1]; exact hx'))
    · refine pm_make hC k1 (fun H locs ls n1 n2 e1 e2 e3 w => va_newaK (atype := .byte) (g := F0 m pc ls (List.map (pm_val ρ) (.int z :: S'))) (rest := S'.map (pm_val ρ)) hx hb (hfix _ (by simp [pm_fix, newarray.typeOf])) rfl hdg rfl h1 rfl (by show z.toNatClampNeg * 1 ≤ _; omega) e2 e3 e1 (fun H1 c1 a1 a2 a3 a4 a5 => ?_))
      have hc : c1 = cA 2 := Option.some.inj (a5.symm.trans (hK.2 2 _ rfl).2)
      subst hc
      refine w H1 a1 (by rw [a2, e1]) (fun x hx' => a3 x (by rw [← e1]; exact hx'))
  | anewarray k =>
    have hn : n = 3 := by simpa [pm_len] using hlen
    subst hn
    obtain ⟨z, S', t, e', rfl, h1, h2, ht, h3, k1⟩ := hs
    obtain ⟨lst, hl, hm⟩ := pm_at_of h3
    have ok := pm_all_all pm_chk_a (pm_MT_own hq).2 hl hm
    obtain ⟨j, r, r1, r2⟩ := pm_K3 (cA := cA) ht
    simp only [pm_okA, r2, Bool.and_eq_true, decide_eq_true_eq] at ok
    refine pm_make hC k1 (fun H locs ls n1 n2 e1 e2 e3 w => W.anew (g := F0 m pc ls (List.map (pm_val ρ) (.int z :: S'))) (rest := S'.map (pm_val ρ)) hx hb hown (inT ok.1 rfl) (hnst.1.2 t r ht r2).use rfl hdg rfl h1 (by omega) e2 e3 (fun c1 kA comp a1 a2 a3 a4 => ?_))
    obtain ⟨kB, comp2, b1, b2, b3, b4⟩ := (hK.2 j _ r1).2
    have hc : c1 = cA (t + 3) := Option.some.inj (a1.symm.trans b4)
    subst hc
    have w' := w (H.push { cls := cA (t + 3), slots := Array.replicate z.toNatClampNeg .null, vm := .none }) ?_ (by simp) (fun x hx' => by rw [Array.getElem?_push, if_neg (Nat.ne_of_lt hx')])
    · rw [List.map_cons, show pm_val ρ (.ref h.length) = .ref H.size by rw [e1]; rfl] at w'
      exact w'
    · show (H.push _)[ρ.1 h.length]? = some (vp_cell _ _)
      rw [← e1, Array.getElem?_push_size]
      rw [arrV_new]
      rfl
  | new k =>
    have hn : n = 3 := by simpa [pm_len] using hlen
    subst hn
    obtain ⟨ci, e', h3, k1⟩ := hs
    obtain ⟨lst, hl, hm⟩ := pm_at_of h3
    have ok := pm_all_all pm_chk_n (pm_MT_own hq).2 hl hm
    simp only [pm_okNw] at ok
    split at ok
    · rename_i r r1
      simp only [Bool.and_eq_true, decide_eq_true_eq] at ok
      obtain ⟨⟨ok1, ok2⟩, ok3⟩ := ok
      obtain ⟨cl1, cl2, cl3, cl4⟩ := pm_cls r1
      have hKn := hK.1 ci _ r1
      have hsz1 : pm_sz (.inr (ci, pm_new ci)) = r.2.2 := by simp [pm_sz, pm_new, r1]
      refine pm_make hC k1 (fun H locs ls n1 n2 e1 e2 e3 w => ?_)
      rw [hsz1] at e3 w
      refine W.newcK (g := F0 m pc ls (S.map (pm_val ρ))) hx hb hown (inT ok1 rfl) (inT ok2 rfl) (inT ok3 rfl) rfl hdg e2 e3 hKn.2.1 e1 (fun H1 kC a1 a2 a3 a4 => ?_)
      refine w H1 ⟨r, r1, ?_⟩ (by rw [a3, e1]) (fun x hx' => a4 x (by rw [← e1]; exact hx'))
      refine (u_born (fun k => (parseFieldDescriptor (r.2.1 k).2.2.1).getD .int) hall cl1 hKn a1 a2 (fun k hk => ?_)).to (fun k hk => ?_)
      · obtain ⟨t, ht⟩ := cl4 k hk
        rw [ht]; rfl
      · obtain ⟨t, ht⟩ := cl4 k hk
        simp only [vp_V, pm_new, r1, List.getD_eq_getElem?_getD, List.getElem?_map, List.getElem?_range hk, Option.map_some, ht, Option.getD_some]
        cases t <;> rfl
    · cases ok
  | invokespecial k => exact pm_snd_calls hC sd (.inr (.inl ⟨k, rfl⟩)) hf hs
  | invokevirtual k => exact pm_snd_calls hC sd (.inl ⟨k, rfl⟩) hf hs
  | invokestatic k => exact pm_snd_calls hC sd (.inr (.inr ⟨k, rfl⟩)) hf hs
  | ireturn =>
    have hn : n = 1 := by simpa [pm_len] using hlen
    subst hn
    obtain ⟨x, q', ty, rfl, h1, h2, h3, rfl, rfl⟩ := hs
    cases hq.symm.trans h1
    exact fun hb0 => ⟨⟨Nat.le_refl _, Nat.le_refl _⟩, fun H locs ls hl hR => W.zret hx hb (hr.trans h2) h3 (fun t ht hW => ⟨rfl, by rw [ht]; exact hR.1, by rw [ht]; exact hR.2.2, hR.2.1.F ht⟩) (fun x hx' => hR.2.1.2.2 x hx') hdg hlocks⟩
  | lreturn =>
    have hn : n = 1 := by simpa [pm_len] using hlen
    subst hn
    obtain ⟨x, q', rfl, h1, h2, rfl, rfl⟩ := hs
    cases hq.symm.trans h1
    exact fun hb0 => ⟨⟨Nat.le_refl _, Nat.le_refl _⟩, fun H locs ls hl hR => W.lret hx hb (hr.trans h2) (fun t ht hW => ⟨rfl, by rw [ht]; exact hR.1, by rw [ht]; exact hR.2.2, hR.2.1.F ht⟩) (fun x hx' => hR.2.1.2.2 x hx') hdg hlocks⟩
  | areturn =>
    have hn : n = 1 := by simpa [pm_len] using hlen
    subst hn
    obtain ⟨v, q', ty, rfl, hv, h1, h2, h3, rfl, rfl⟩ := hs
    cases hq.symm.trans h1
    exact fun hb0 => ⟨⟨Nat.le_refl _, Nat.le_refl _⟩, fun H locs ls hl hR => W.aret hx hb (hr.trans h2) h3 (by
      cases v with
      | retAddr j => show va_rf (ρ.2 j) = _ ∨ ∃ a, va_rf (ρ.2 j) = _; cases ρ.2 j <;> first | exact Or.inl rfl | exact Or.inr ⟨_, rfl⟩
      | _ => first | exact Or.inl rfl | exact Or.inr ⟨_, rfl⟩ | cases hv) (fun t ht hW => ⟨rfl, by rw [ht]; exact hR.1, by rw [ht]; exact hR.2.2, hR.2.1.F ht⟩) (fun x hx' => hR.2.1.2.2 x hx') hdg hlocks⟩
  | return_ =>
    have hn : n = 1 := by simpa [pm_len] using hlen
    subst hn
    obtain ⟨q', rfl, h1, h2, rfl, rfl⟩ := hs
    cases hq.symm.trans h1
    exact fun hb0 => ⟨⟨Nat.le_refl _, Nat.le_refl _⟩, fun H locs ls hl hR => W.vret hx hb (hr.trans h2) (fun t ht hW => ⟨rfl, by rw [ht]; exact hR.1, by rw [ht]; exact hR.2.2, hR.2.1.F ht⟩) (fun x hx' => hR.2.1.2.2 x hx') hdg hlocks⟩
  | iadd =>
    have hn : n = 1 := by simpa [pm_len] using hlen
    subst hn
    obtain ⟨x, y, S', rfl, k1⟩ := hs
    exact pm_pass k1 (fun H locs ls R n1 n2 hl hR w => lv_iadd hx hb hdg w)
  | isub =>
    have hn : n = 1 := by simpa [pm_len] using hlen
    subst hn
    obtain ⟨x, y, S', rfl, k1⟩ := hs
    exact pm_pass k1 (fun H locs ls R n1 n2 hl hR w => lv_isub hx hb hdg w)
  | imul =>
    have hn : n = 1 := by simpa [pm_len] using hlen
    subst hn
    obtain ⟨x, y, S', rfl, k1⟩ := hs
    exact pm_pass k1 (fun H locs ls R n1 n2 hl hR w => lv_imul hx hb hdg w)
  | iand =>
    have hn : n = 1 := by simpa [pm_len] using hlen
    subst hn
    obtain ⟨x, y, S', rfl, k1⟩ := hs
    exact pm_pass k1 (fun H locs ls R n1 n2 hl hR w => lv_iand hx hb hdg w)
  | ior =>
    have hn : n = 1 := by simpa [pm_len] using hlen
    subst hn
    obtain ⟨x, y, S', rfl, k1⟩ := hs
    exact pm_pass k1 (fun H locs ls R n1 n2 hl hR w => lv_ior hx hb hdg w)
  | ixor =>
    have hn : n = 1 := by simpa [pm_len] using hlen
    subst hn
    obtain ⟨x, y, S', rfl, k1⟩ := hs
    exact pm_pass k1 (fun H locs ls R n1 n2 hl hR w => lv_ixor hx hb hdg w)
  | ishl =>
    have hn : n = 1 := by simpa [pm_len] using hlen
    subst hn
    obtain ⟨x, y, S', rfl, k1⟩ := hs
    exact pm_pass k1 (fun H locs ls R n1 n2 hl hR w => lv_ishl hx hb hdg w)
  | ladd =>
    have hn : n = 1 := by simpa [pm_len] using hlen
    subst hn
    obtain ⟨x, y, S', rfl, k1⟩ := hs
    exact pm_pass k1 (fun H locs ls R n1 n2 hl hR w => lv_ladd hx hb hdg w)
  | lsub =>
    have hn : n = 1 := by simpa [pm_len] using hlen
    subst hn
    obtain ⟨x, y, S', rfl, k1⟩ := hs
    exact pm_pass k1 (fun H locs ls R n1 n2 hl hR w => lv_lsub hx hb hdg w)
  | lmul =>
    have hn : n = 1 := by simpa [pm_len] using hlen
    subst hn
    obtain ⟨x, y, S', rfl, k1⟩ := hs
    exact pm_pass k1 (fun H locs ls R n1 n2 hl hR w => lv_lmul hx hb hdg w)
  | land =>
    have hn : n = 1 := by simpa [pm_len] using hlen
    subst hn
    obtain ⟨x, y, S', rfl, k1⟩ := hs
    exact pm_pass k1 (fun H locs ls R n1 n2 hl hR w => lv_land hx hb hdg w)
  | lor =>
    have hn : n = 1 := by simpa [pm_len] using hlen
    subst hn
    obtain ⟨x, y, S', rfl, k1⟩ := hs
    exact pm_pass k1 (fun H locs ls R n1 n2 hl hR w => lv_lor hx hb hdg w)
  | lxor =>
    have hn : n = 1 := by simpa [pm_len] using hlen
    subst hn
    obtain ⟨x, y, S', rfl, k1⟩ := hs
    exact pm_pass k1 (fun H locs ls R n1 n2 hl hR w => lv_lxor hx hb hdg w)
  | idiv =>
    have hn : n = 1 := by simpa [pm_len] using hlen
    subst hn
    obtain ⟨x, y, S', rfl, h1, k1⟩ := hs
    exact pm_pass k1 (fun H locs ls R n1 n2 hl hR w => lv_idiv hx hb hdg h1 w)
  | irem =>
    have hn : n = 1 := by simpa [pm_len] using hlen
    subst hn
    obtain ⟨x, y, S', rfl, h1, k1⟩ := hs
    exact pm_pass k1 (fun H locs ls R n1 n2 hl hR w => lv_irem hx hb hdg h1 w)
  | ldiv =>
    have hn : n = 1 := by simpa [pm_len] using hlen
    subst hn
    obtain ⟨x, y, S', rfl, h1, k1⟩ := hs
    exact pm_pass k1 (fun H locs ls R n1 n2 hl hR w => lv_ldiv hx hb hdg h1 w)
  | lrem =>
    have hn : n = 1 := by simpa [pm_len] using hlen
    subst hn
    obtain ⟨x, y, S', rfl, h1, k1⟩ := hs
    exact pm_pass k1 (fun H locs ls R n1 n2 hl hR w => lv_lrem hx hb hdg h1 w)
  | iushr =>
    have hn : n = 1 := by simpa [pm_len] using hlen
    subst hn
    obtain ⟨x, y, S', rfl, k1⟩ := hs
    exact pm_pass k1 (fun H locs ls R n1 n2 hl hR w => lv_iushr hx hb hdg rfl w)
  | lshl =>
    have hn : n = 1 := by simpa [pm_len] using hlen
    subst hn
    obtain ⟨x, y, S', rfl, k1⟩ := hs
    exact pm_pass k1 (fun H locs ls R n1 n2 hl hR w => lv_lshl hx hb hdg rfl w)
  | lshr =>
    have hn : n = 1 := by simpa [pm_len] using hlen
    subst hn
    obtain ⟨x, y, S', rfl, k1⟩ := hs
    exact pm_pass k1 (fun H locs ls R n1 n2 hl hR w => lv_lshr hx hb hdg rfl w)
  | lushr =>
    have hn : n = 1 := by simpa [pm_len] using hlen
    subst hn
    obtain ⟨x, y, S', rfl, k1⟩ := hs
    exact pm_pass k1 (fun H locs ls R n1 n2 hl hR w => lv_lushr hx hb hdg rfl w)
  | i2l =>
    have hn : n = 1 := by simpa [pm_len] using hlen
    subst hn
    obtain ⟨x, S', rfl, k1⟩ := hs
    exact pm_pass k1 (fun H locs ls R n1 n2 hl hR w => lv_i2l hx hb hdg rfl w)
  | i2b =>
    have hn : n = 1 := by simpa [pm_len] using hlen
    subst hn
    obtain ⟨x, S', rfl, k1⟩ := hs
    exact pm_pass k1 (fun H locs ls R n1 n2 hl hR w => lv_i2b hx hb hdg rfl w)
  | i2s =>
    have hn : n = 1 := by simpa [pm_len] using hlen
    subst hn
    obtain ⟨x, S', rfl, k1⟩ := hs
    exact pm_pass k1 (fun H locs ls R n1 n2 hl hR w => lv_i2s hx hb hdg rfl w)
  | l2i =>
    have hn : n = 1 := by simpa [pm_len] using hlen
    subst hn
    obtain ⟨x, S', rfl, k1⟩ := hs
    exact pm_pass k1 (fun H locs ls R n1 n2 hl hR w => lv_l2i hx hb hdg rfl w)
  | ineg =>
    have hn : n = 1 := by simpa [pm_len] using hlen
    subst hn
    obtain ⟨x, S', rfl, k1⟩ := hs
    exact pm_pass k1 (fun H locs ls R n1 n2 hl hR w => lv_ineg hx hb hdg w)
  | lcmp =>
    have hn : n = 1 := by simpa [pm_len] using hlen
    subst hn
    obtain ⟨x, y, S', rfl, k1⟩ := hs
    exact pm_pass k1 (fun H locs ls R n1 n2 hl hR w => W.lcmp hx hb hdg w)
  | ishr =>
    have hn : n = 1 := by simpa [pm_len] using hlen
    subst hn
    obtain ⟨x, y, S', rfl, k1⟩ := hs
    exact pm_pass k1 (fun H locs ls R n1 n2 hl hR w => lv_ishr hx hb hdg w)
  | i2c =>
    have hn : n = 1 := by simpa [pm_len] using hlen
    subst hn
    obtain ⟨x, S', rfl, k1⟩ := hs
    exact pm_pass k1 (fun H locs ls R n1 n2 hl hR w => lv_i2c hx hb hdg rfl w)
  | _ => exact hs.elim
end PMU
