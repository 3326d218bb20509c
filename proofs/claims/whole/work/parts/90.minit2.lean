/-! THE REFERENCE: a new one, all of it -/
theorem dw_Minit : dw_Go (M_init [.inr (6, pm_new 6)] 0) dw_st0 () := by
  obtain ⟨X1, e1, e2, e3, e4, e5, e6⟩ := dw_Min1 (R := dw_k0) (G := dw_k0) (S := dw_k0) (N := dw_k0) (y := 0) 957 42 0 dw_X00 rfl (fun j hj => absurd hj (Nat.not_lt_zero j))
  have e1' : M_init_999 1000 (dw_mk dw_X00 dw_k0 dw_k0 dw_k0 dw_k0 0) 0 0 = _ := e1
  have z0 : ∀ k, dw_gI dw_X00 k = 0 := fun _ => rfl
  rw [dw_Min0, e1', M_init_999, if_pos (by decide), dw_t9, bnd_s, dw_is, grd_t]
  generalize hX2 : dw_I X1 9 42 = X2
  have i9 : dw_gI X2 9 = nI 42 := by rw [← hX2, dw_II, if_pos rfl]; rfl
  have iI : ∀ k, k ≠ 9 → dw_gI X2 k = 0 := fun k hk => by rw [← hX2, dw_IIn hk, e4, z0]
  have iJ : ∀ k, dw_gJ X2 k = 0 := fun k => by
    rw [← hX2]
    exact e5 k
  have iY : ∀ k, dw_gY X2 k = 0 := fun k => by
    rw [← hX2]
    exact e6 k
  have iA : ∀ c j, c ≠ 5 → dw_gA X2 c j = dw_A0 c j := fun c j hc => by
    rw [← hX2]
    exact e3 c j hc
  have i5 : ∀ j, j < 42 → dw_gA X2 5 j = nI (dw_lwb j) := fun j hj => by
    rw [← hX2]
    exact (e2 j hj).trans (dw_A14 j hj)
  have h12 : dw_gI X2 12 = nI 0 := iI 12 (by decide)
  have hT : dw_TA X2 dw_lwb 42 := ⟨i9, i5, fun i hi => (iA 15 i (by decide)).trans (dw_A15 i hi)⟩
  have hX : dw_TS 0 X2 (dw_I (dw_I X2 22 0) 30 0) 0 [] := ⟨⟨fun k hk => by rw [dw_IIn (by omega), dw_IIn (by omega)], fun _ => rfl, fun _ _ _ _ _ => rfl, fun _ => rfl⟩, by rw [dw_IIn (by decide), dw_II, if_pos rfl]; rfl, by rw [dw_II, if_pos rfl]; rfl, fun k hk => absurd hk (Nat.not_lt_zero k)⟩
  rw [M_text, dw_f12, bnd_s, h12, if_neg (by decide), dw_t22, bnd_s, dw_t30, bnd_s]
  rcases dw_MT0 (R := dw_k0) (G := dw_k0) (S := dw_k0) (N := dw_k0) (y := 0) (by decide) dw_lwb_lt (show 0 < 6 by decide) h12 hT hX with ⟨x, X', q1, _⟩ | ⟨d1, d2, d3, i3, X', q1, q2, q3, q4, q5, q6, q7, q8, q9, q10, q11⟩
  · rw [dw_pflt0] at q1
    exact absurd q1 (by simp)
  · have ew := dw_plaw_PP q1
    rw [dw_plaw0] at ew
    rw [← ew] at q11
    have q7' : M_text_26 1000 (dw_mk (dw_I (dw_I X2 22 0) 30 0) dw_k0 dw_k0 dw_k0 dw_k0 0) 0 1 0 = _ := q7
    rw [q7', bn2_s]
    have eA : ∀ c i, c ≠ 16 → c ≠ 6 → c ≠ 7 → dw_gA X' c i = dw_gA X2 c i := fun c i p1 p2 p3 => q8.2.2.1 c i p1 (fun q => absurd q p2) (fun q => absurd q p3)
    refine ⟨X', dw_k0, dw_k0, dw_k0, dw_k0, rfl, ?_⟩
    refine ⟨fun d hd => absurd hd (Nat.not_lt_zero d), ?_, ?_, ?_, ?_, q10, fun t ht => ?_, q9, fun k hk => absurd hk (Nat.not_lt_zero k), ?_, fun k hk => ⟨?_, ?_, fun j hj => ?_⟩⟩
    · rw [q8.1 0 (by decide) (by decide) (by decide), iI 0 (by decide)]
      rfl
    · rw [q8.2.1 5, iJ]
    · rw [q8.2.1 6, iJ]
    · rw [q8.1 13 (by decide) (by decide) (by decide), iI 13 (by decide)]
      rfl
    · rw [show t = 0 by omega]
      exact ⟨q11, fun i hi => by rw [eA 15 i (by decide) (by decide) (by decide), hT.2.2 i hi]⟩
    · show dw_gI X' 14 = 0
      rw [q8.1 14 (by decide) (by decide) (by decide), iI 14 (by decide)]
    · rw [eA 11 k (by decide) (by decide) (by decide), iA 11 k (by decide)]
      rcases (by omega : k = 0 ∨ k = 1 ∨ k = 2 ∨ k = 3) with rfl | rfl | rfl | rfl <;> rfl
    · rw [eA 12 k (by decide) (by decide) (by decide), iA 12 k (by decide)]
      rfl
    · rw [eA 13 _ (by decide) (by decide) (by decide), iA 13 _ (by decide)]
      rfl
