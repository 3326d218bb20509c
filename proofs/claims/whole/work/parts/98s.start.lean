/-! THE LAW, from its entry -/
def dw_hX0 : pm_H := dw_cl (dw_pre 1 .null dw_tf0 dw_ti0 dw_k0 dw_k0 dw_k0 dw_H0) (15, 0, 0, 0, 0, dw_s0', dw_k0) (15, 0, 0, 0, 0, dw_s0', dw_k0) []
theorem dw_map37 {f : Nat → Option Nat} {g g' : Nat → Nat} (hf : ∀ j a, f j = some a → a < 37) (h : ∀ a, a < 37 → g a = g' a) : (fun j => (f j).map g) = fun j => (f j).map g' := by
  funext j
  cases e : f j with
  | none => rfl
  | some a => simp only [Option.map_some, h a (hf j a e)]
theorem dw_clo0 {B : Nat} {σ : Nat → Option Nat} {cA : Nat → ClassId} : pm_W (fun k => B + k, σ) cA dw_hX0 = pm_W (dw_rX B σ) cA dw_hX0 := by
  have hh : ∀ a, a < 37 → B + a = (dw_rX B σ).1 a := fun a ha => by rw [dw_rX1, if_pos ha]
  have e1 := dw_map37 (f := dw_tf0) (g := fun k => B + k) (g' := (dw_rX B σ).1) (fun j a h => by
    unfold dw_tf0 va_up at h
    split at h
    · injection h with h
      omega
    · exact absurd h (by simp)) hh
  have e2 := dw_map37 (f := dw_sf) (g := fun k => B + k) (g' := (dw_rX B σ).1) (fun j a h => by
    unfold dw_sf at h
    split at h
    · injection h with h
      omega
    · exact absurd h (by simp)) hh
  have e3 := dw_map37 (f := dw_rf 19) (g := fun k => B + k) (g' := (dw_rX B σ).1) (fun j a h => by
    unfold dw_rf at h
    split at h
    · injection h with h
      omega
    · exact absurd h (by simp)) hh
  have e4 := dw_map37 (f := dw_rf 28) (g := fun k => B + k) (g' := (dw_rX B σ).1) (fun j a h => by
    unfold dw_rf at h
    split at h
    · injection h with h
      omega
    · exact absurd h (by simp)) hh
  have v : ∀ a, a < 37 → pm_val (fun k => B + k, σ) (.ref a) = pm_val (dw_rX B σ) (.ref a) := fun a ha => by
    show Value.ref (B + a) = .ref _
    rw [hh a ha]
  simp only [pm_W, dw_hX0, dw_cl, dw_pre, dw_bb, dw_bk, pm_cell, pm_arr, List.mapIdx_append, List.mapIdx_cons, List.mapIdx_nil, List.map_cons, List.map_nil, List.cons_append, List.nil_append, e1, e2, e3, e4]
  simp [pm_val, dw_rX]
theorem dw_born {args : Array Value} {s : State} (hts : ∀ w ∈ lw_tbl, w.before args s = true) {D : va_G} {tys : List (ClassId × FieldType)} (hK : va_K D vwCl tys s) {ci : Nat} {r : vw_C} (r1 : vwCl[ci]? = some r) {kC : Class} {a : Nat} {H1 : Heap} (a1 : s.vm.classes[D.1 ci]? = some kC) (a2 : H1[a]? = some (blank (D.1 ci) kC)) (ρ : pm_N) : va_at D vwCl (a, .inr (ci, (pm_new ci).map (pm_val ρ))) H1 := by
  obtain ⟨cl1, cl2, cl3, cl4⟩ := pm_cls r1
  refine ⟨r, r1, ?_⟩
  refine (u_born (fun k => (parseFieldDescriptor (r.2.1 k).2.2.1).getD .int) hts (fun w hw => (List.mem_filter.mp (cl1 w hw)).1) (hK.1 ci _ r1) a1 a2 (fun k hk => ?_)).to (fun k hk => ?_)
  · obtain ⟨t, ht⟩ := cl4 k hk
    rw [ht]; rfl
  · obtain ⟨t, ht⟩ := cl4 k hk
    simp only [vp_V, pm_new, r1, List.getD_eq_getElem?_getD, List.getElem?_map, List.getElem?_range hk, Option.map_some, ht, Option.getD_some]
    cases t <;> rfl
theorem dw_W1 {D : va_G} {ρ : pm_N} {cA : Nat → ClassId} {c0 : pm_C} {H1 : Heap} (h : va_at D vwCl (ρ.1 0, pm_cell ρ cA c0) H1) : va_P D vwCl (pm_W ρ cA [c0]) H1 := by
  intro k q hk
  obtain ⟨cc, hc, rfl⟩ := pm_W_of hk
  have hk0 : k = 0 := by
    have := (List.getElem?_eq_some_iff.mp hc).1
    have e : ([c0] : pm_H).length = 1 := rfl
    omega
  subst hk0
  injection hc with hc
  subst hc
  exact h
theorem dw_Xinit' : X_init [.inr (5, pm_new 5)] 0 = some (dw_hX0, ()) := dw_Xinit
theorem whole_start {p : Program} {e : Env} {s : State} {m : MethodId} {below : List Frame} {meth : Method} {c : Code} (l : Launch) (hflags : l.flags = flags0) {b L : Nat} {xs : Nat → Int32} (hL : L ≤ 3584) (C0 : lw_At p s m meth c b L xs) : W p l e room_1 s m #[Value.ref b] below meth c s.heap [] 0 0 (lw_Z below #[Value.ref b] s) (entryFrame m ([Value.ref b] : List Value).toArray 4) := by
  obtain ⟨hx, hb, hr, hml, hown, hts, hX, hbl, hlocks, hgv⟩ := id C0
  obtain ⟨D, cA, hK⟩ := dw_Kat hts
  obtain ⟨σ, hext⟩ := dw_xte hts hgv
  obtain ⟨hX0, hM0, x1, m1, J⟩ := dw_JJ0
  have eX : hX0 = dw_hX0 := by
    have h2 := Option.some.inj (x1.symm.trans dw_Xinit')
    exact congrArg Prod.fst h2
  subst eX
  obtain ⟨j1, j2, j3, j4, j5⟩ := dw_JJlen J
  have lX : dw_hX0.length = 37 := rfl
  have sX : pm_sl [.inr (5, pm_new 5)] = 8 := rfl
  have sM : pm_sl [.inr (6, pm_new 6)] = 36 := rfl
  have hxe := P_X_init (d := 67) x1
  have hme := P_M_init (d := 64) m1
  have hle := pm_ev_le _ _ _ _ _ _ hxe
  have hlm := pm_ev_le _ _ _ _ _ _ hme
  have hl := lv_entry ([.ref b]) (n := 4) (Nat.le_of_ble_eq_true rfl)
  rw [lg_entry_eq]
  generalize (lg_sl ([.ref b]) ++ List.replicate (4 - (lg_sl ([.ref b])).length) Slot.unset).toArray = ls at hl ⊢
  have hl : lv_has ls 4 [(0, .ref b)] := hl
  refine W.newcK (g := F0 m 0 ls []) hx hb hown (hts (.classLink R_law 7 RX5) (dw_tin 76 (by decide +kernel))) (hts (.instantiable RX5 8) (dw_tin 77 (by decide +kernel))) (hts (.initialized RX5) (dw_tin 60 (by decide +kernel))) rfl (dw_d0' 0 rfl) (Nat.le_of_ble_eq_true rfl) (Nat.le_of_ble_eq_true rfl) (hK.1 5 _ rfl).2.1 rfl (fun H1 kC a1 a2 a3 a4 => ?_)
  have P1 : va_P D vwCl (pm_W (fun k => s.heap.size + k, σ) cA [.inr (5, pm_new 5)]) H1 := dw_W1 (dw_born hts hK (ci := 5) rfl a1 a2 _)
  have S1 : va_S (fun q => s.heap.size ≤ q) s.heap H1 [] := ⟨by omega, fun q h1 _ => a4 q h1, fun _ h => by cases h⟩
  show W p l e room_1 s m #[Value.ref b] below meth c H1 [] (0 + 1) (0 + 8) (lw_Z below #[Value.ref b] s) (F0 m 3 ls [.ref s.heap.size])
  refine lv_dup hx hb (dw_d0' 1 rfl) rfl ?_
  refine dw_lcallI (rest := [.ref s.heap.size]) (i1 := 78) (i2 := 79) C0 hK (ρ := (fun k => s.heap.size + k, σ)) (hext _ (fun k => Nat.le_add_right _ _)) (fun i j h => Nat.add_left_cancel h) (fun k _ => rfl) (fun q ⟨k, ek⟩ => by rw [ek]; exact Nat.le_add_right _ _) hxe (q := pm_m_55) rfl rfl rfl rfl (by decide +kernel) (by decide +kernel) P1 a3 S1 hl.1 (Nat.le_of_ble_eq_true rfl) ⟨by rw [lX]; decide, by rw [sX]; omega⟩ (dw_d0' 2 rfl) (fun H2 locs2 b1 b2 b3 b4 b5 => ?_)
  have z2 : H2.size = s.heap.size + 37 := b2
  rw [dw_clo0] at b1
  refine lv_astore_n (lv' := [(1, .ref s.heap.size), (0, .ref b)]) hx hb (dw_d0' 3 rfl) rfl hl (by decide) rfl (fun ls hl => ?_)
  refine W.newcK (g := F0 m 8 ls []) hx hb hown (hts (.classLink R_law 10 RX6) (dw_tin 781 (by decide +kernel))) (hts (.instantiable RX6 36) (dw_tin 782 (by decide +kernel))) (hts (.initialized RX6) (dw_tin 66 (by decide +kernel))) rfl (dw_d0' 4 rfl) (by rw [lX]; decide) (by
    show _ ≤ 7302250
    rw [sX]
    omega) (hK.1 6 _ rfl).2.1 z2 (fun H3 kC' c1 c2 c3 c4 => ?_)
  have r0 : (dw_rM s.heap.size (s.heap.size + 58) σ).1 0 = s.heap.size + 37 := by rw [dw_rM1, if_pos (by decide)]
  have P3 : va_P D vwCl (pm_W (dw_rM s.heap.size (s.heap.size + 58) σ) cA [.inr (6, pm_new 6)]) H3 := dw_W1 (by
    rw [r0]
    exact dw_born hts hK (ci := 6) rfl c1 c2 _)
  have S3 : va_S (fun q => s.heap.size ≤ q) s.heap H3 locs2 := ⟨by omega, fun q h1 h2 => (c4 q (by omega)).trans (b5.2.1 q h1 h2), b5.2.2⟩
  have PX3 : va_P D vwCl (pm_W (dw_rX s.heap.size σ) cA dw_hX0) H3 := b1.kept (fun k x hx => by
    obtain ⟨cc, hk, rfl⟩ := pm_W_of hx
    have hk2 := (List.getElem?_eq_some_iff.mp hk).1
    refine c4 _ ?_
    show (dw_rX s.heap.size σ).1 k < _
    rw [dw_rX1, if_pos (by omega)]
    omega)
  have e0 : ([.ref (s.heap.size + 37), .ref (s.heap.size + 37)] : List Value) = .ref ((dw_rM s.heap.size (s.heap.size + 58) σ).1 0) :: [.ref (s.heap.size + 37)] := by rw [r0]
  show W p l e room_1 s m #[Value.ref b] below meth c H3 locs2 (0 + 1 + (dw_hX0.length - 1) + 1) (0 + 8 + (pm_sl dw_hX0 - pm_sl [.inr (5, pm_new 5)]) + 36) (lw_Z below #[Value.ref b] s) (F0 m 11 ls [.ref (s.heap.size + 37)])
  refine lv_dup hx hb (dw_d0' 5 rfl) rfl ?_
  rw [e0]
  refine dw_lcallI (rest := [.ref (s.heap.size + 37)]) (i1 := 783) (i2 := 784) C0 hK (ρ := dw_rM s.heap.size (s.heap.size + 58) σ) (hext (dw_rM s.heap.size (s.heap.size + 58) σ).1 (fun k => dw_rMge (σ := σ) (by omega) k)) (dw_rMi (Nat.le_refl _)) (fun k _ => by rw [dw_rM1, dw_rM1]; split <;> split <;> omega) (fun q ⟨k, ek⟩ => by rw [ek]; exact dw_rMge (by omega) k) hme (q := pm_m_108) rfl rfl rfl rfl (by decide +kernel) (by decide +kernel) P3 (by rw [c3]; rfl) S3 hl.1 (Nat.le_of_ble_eq_true rfl) ⟨by rw [lX, j4]; decide, by rw [sX, sM]; omega⟩ (dw_d0' 6 rfl) (fun H4 locs4 f1 f2 f3 f4 f5 => ?_)
  have z4 : H4.size = s.heap.size + 58 := by
    rw [f2, dw_rM1, j4, if_neg (by decide)]
  have wd : dw_Wd D cA σ s dw_hX0 hM0 H4 locs4 := by
    refine ⟨PX3.kept (fun k x hx => ?_), by rw [z4]; exact f1, by rw [z4, lX], f5⟩
    obtain ⟨cc, hk, rfl⟩ := pm_W_of hx
    have hk2 := (List.getElem?_eq_some_iff.mp hk).1
    have ek : (dw_rX s.heap.size σ).1 k = s.heap.size + k := by rw [dw_rX1, if_pos (by omega)]
    show H4[(dw_rX s.heap.size σ).1 k]? = H3[(dw_rX s.heap.size σ).1 k]?
    rw [ek]
    refine f4 _ (by omega) ?_
    intro ⟨j, ej⟩
    rw [dw_rM1] at ej
    split at ej <;> omega
  refine lv_astore_n (lv' := [(2, .ref (s.heap.size + 37)), (1, .ref s.heap.size), (0, .ref b)]) hx hb (dw_d0' 7 rfl) rfl hl (by decide) rfl (fun ls hl => ?_)
  refine lv_iconst (v := 0) hx hb (dw_d0' 8 rfl) (by decide) ?_
  refine lv_istore_n (lv' := [(3, .int 0), (2, .ref (s.heap.size + 37)), (1, .ref s.heap.size), (0, .ref b)]) hx hb (dw_d0' 9 rfl) rfl hl (by decide) rfl (fun ls hl => ?_)
  refine W.widen (k := dw_hX0.length + 21) (n := pm_sl dw_hX0 + pm_sl hM0) (by rw [lX, j4]; decide) (by
    have q1 := hle.2
    have q2 := hlm.2
    rw [sX] at q1 ⊢
    rw [sM] at q2 ⊢
    omega) ?_
  exact dw_loop C0 hL hK hext (L + 1) 0 dw_hX0 hM0 H4 locs4 ls (Nat.zero_le L) (by omega) J wd (lv_sub hl [3, 2, 1, 0] rfl)
