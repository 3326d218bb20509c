/-! THE REFERENCE: states, whose, laws -/
section MC
variable {X : dw_X} {R G S N : Nat → Int32} {y : Int32} {w : dw_W} {r m yy : Nat} {s : dw_L} {H : dw_H}
theorem dw_TH_R (h : dw_TH X R G r m w s yy) {d f : Nat} (hd : d < m) (hf : f < 3) {v : Int32} (h0 : f = 0 → ∃ a : Nat, a < 40 ∧ v = nI a) (h1 : f = 1 → ∃ b : Nat, 1 ≤ b ∧ b < 10 ∧ v = nI b) : dw_TH X (upd R (3 * d + f) v) G r m w (dw_set s d (3 + f) v) yy := ⟨h.1, (by
    intro o ho
    obtain ⟨⟨a1, a2, a3⟩, ⟨b1, b2, b3, b4⟩, c1⟩ := h.2.1 o ho
    refine ⟨?_, ?_, ?_⟩
    · rw [dw_set_app]
      by_cases c : o = d ∧ 3 = 3 + f
      · rw [if_pos c]
        exact h0 (by omega)
      · rw [if_neg c]
        exact ⟨a1, a2, a3⟩
    · rw [dw_set_app]
      by_cases c : o = d ∧ 4 = 3 + f
      · rw [if_pos c]
        exact h1 (by omega)
      · rw [if_neg c]
        exact ⟨b1, b2, b3, b4⟩
    · rw [dw_set_app, if_neg (fun q => by omega)]
      exact c1), dw_Dead_set h.2.2.1 v hd, h.2.2.2.1, h.2.2.2.2.1, (by
    intro o ho
    obtain ⟨i3, i4, i5, i6, i1, i2⟩ := h.2.2.2.2.2 o ho
    have st : ∀ g, g < 3 → upd R (3 * d + f) v (3 * o + g) = if o = d ∧ 3 + g = 3 + f then v else R (3 * o + g) := by
      intro g hg
      rw [upd_app]
      by_cases c : o = d ∧ 3 + g = 3 + f
      · rw [if_pos c, if_pos (by omega)]
      · rw [if_neg c, if_neg (fun q => c ⟨by omega, by omega⟩)]
    refine ⟨?_, ?_, ?_, ?_, ?_, ?_⟩
    · rw [← Nat.add_zero (3 * o), st 0 (by decide), dw_set_app, Nat.add_zero, Nat.add_zero, i3]
    · rw [st 1 (by decide), dw_set_app, i4]
    · rw [st 2 (by decide), dw_set_app, i5]
    · rw [dw_set_app, if_neg (fun q => by omega), i6]
    · rw [dw_set_app, if_neg (fun q => by omega), i1]
    · rw [dw_set_app, if_neg (fun q => by omega), i2])⟩
theorem dw_Mstates91 (h : dw_TH X R G r m w s yy) (hs : dw_SH X H) (hok : dw_Hok H) {q d f : Nat} (hq : q < 4) (hd : d < m) (hf : f < 3) {what last lo n : Int32} {hi lo' : Nat} (hhi : hi ≤ 99) (h0 : f = 0 → hi < 40) (h1 : f = 1 → 1 ≤ lo' ∧ hi < 10) (F k : Nat) : ∀ i R2 G2 X2 S N z l, lo' ≤ i → i + k = hi + 1 → dw_Eq X X2 → (∀ k, k < 18 → k ≠ 3 * d + f → R2 k = R k) → (∀ d, d < 6 → G2 d = G d) → dw_Bk (M_states_91 (F + k + 1) (dw_mk X2 R2 G2 S N (nI yy)) 0 (nI q) (nI d) (nI f) what (s d (3 + f)) z l (nI hi) (nI i)) X R G (nI yy) (dw_wh what (dw_cnt (fun v => decide (dw_qU w (dw_gJ X 6) (dw_set s d (3 + f) (nI v)) yy H (nI q) d = -1)) k i z l)) := by
  have hm6 := h.1.2.2.2.2
  obtain ⟨i3, i4, i5, _, _, _⟩ := h.2.2.2.2.2 d hd
  have hown : R (3 * d + f) = s d (3 + f) := by
    rcases (by omega : f = 0 ∨ f = 1 ∨ f = 2) with rfl | rfl | rfl
    · exact i3
    · exact i4
    · exact i5
  induction k with
  | zero =>
    intro i R2 G2 X2 S N z l hlo hik e hR hG
    rw [M_states_91, if_pos (show nI hi < nI i from nI_lt (by omega) (by omega)), dw_cnt, dw_wh]
    repeat (first | with_reducible rw [bnd_s] | with_reducible rw [nmd_s] | with_reducible rw [bn2_s] | with_reducible rw [grd_t] | ((conv => arg 1; arg 1; simp (disch := omega) only [dw_is, dw_f0, dw_t0, dw_f9, dw_t9, dw_f12, dw_t12, dw_f13, dw_t13, dw_f14, dw_t14, dw_f22, dw_t22, dw_f23, dw_t23, dw_f24, dw_t24, dw_f25, dw_t25, dw_f28, dw_t28, dw_f29, dw_t29, dw_f30, dw_t30, dw_f35, dw_t35, dw_f7, dw_t7, dw_f5, dw_t5, dw_f6, dw_t6, dw_f1, dw_f2, dw_f3, dw_f4, dw_f8, dw_f10, dw_f11, dw_f15, dw_f16, dw_f17, dw_f18, dw_f19, dw_f20, dw_f21, dw_f26, dw_f27, dw_f31, dw_f32, dw_f33, dw_f34, dw_a1, dw_w1, dw_a2, dw_w2, dw_a3, dw_w3, dw_a4, dw_w4, dw_a5, dw_w5, dw_a6, dw_w6, dw_a7, dw_w7, dw_a8, dw_w8, dw_a9_0, dw_s9_0, dw_a9_1, dw_s9_1, dw_a10, dw_w10, dw_a10_0, dw_w10_0, dw_a10_1, dw_w10_1, dw_a10_2, dw_w10_2, dw_a11, dw_w11, dw_a12, dw_w12, dw_a13, dw_w13, dw_a14, dw_w14, dw_a15, dw_w15, dw_a16, dw_w16, dw_a17, dw_w17, dw_a17_0, dw_w17_0, dw_a18, dw_w18, dw_a18_0, dw_w18_0, dw_a18_1, dw_w18_1, dw_a18_2, dw_w18_2, dw_a18_3, dw_w18_3, dw_a18_4, dw_w18_4, dw_a18_5, dw_w18_5, dw_a19, dw_w19, dw_a19_24, dw_w19_24, dw_a20, dw_w20, dw_3, nI_add]); first | with_reducible rw [bnd_s] | with_reducible rw [bn2_s] | with_reducible rw [grd_t]))
    have hR3 : ∀ k, k < 18 → upd R2 (3 * d + f) (s d (3 + f)) k = R k := by
      intro k hk
      rw [upd_app]
      by_cases c : k = 3 * d + f
      · rw [if_pos c, c, hown]
      · rw [if_neg c, hR k hk c]
    by_cases c : what = 0
    · rw [if_pos c, if_pos c]
      exact ⟨_, _, _, _, _, rfl, e, hR3, hG⟩
    · rw [if_neg c, if_neg c]
      exact ⟨_, _, _, _, _, rfl, e, hR3, hG⟩
  | succ k ih =>
    intro i R2 G2 X2 S N z l hlo hik e hR hG
    rw [show F + (k + 1) + 1 = F + k + 1 + 1 by omega, M_states_91, if_neg (show ¬ nI hi < nI i from nI_nlt (by omega) (by omega)), dw_cnt]
    repeat (first | with_reducible rw [bnd_s] | with_reducible rw [nmd_s] | with_reducible rw [bn2_s] | with_reducible rw [grd_t] | ((conv => arg 1; arg 1; simp (disch := omega) only [dw_is, dw_f0, dw_t0, dw_f9, dw_t9, dw_f12, dw_t12, dw_f13, dw_t13, dw_f14, dw_t14, dw_f22, dw_t22, dw_f23, dw_t23, dw_f24, dw_t24, dw_f25, dw_t25, dw_f28, dw_t28, dw_f29, dw_t29, dw_f30, dw_t30, dw_f35, dw_t35, dw_f7, dw_t7, dw_f5, dw_t5, dw_f6, dw_t6, dw_f1, dw_f2, dw_f3, dw_f4, dw_f8, dw_f10, dw_f11, dw_f15, dw_f16, dw_f17, dw_f18, dw_f19, dw_f20, dw_f21, dw_f26, dw_f27, dw_f31, dw_f32, dw_f33, dw_f34, dw_a1, dw_w1, dw_a2, dw_w2, dw_a3, dw_w3, dw_a4, dw_w4, dw_a5, dw_w5, dw_a6, dw_w6, dw_a7, dw_w7, dw_a8, dw_w8, dw_a9_0, dw_s9_0, dw_a9_1, dw_s9_1, dw_a10, dw_w10, dw_a10_0, dw_w10_0, dw_a10_1, dw_w10_1, dw_a10_2, dw_w10_2, dw_a11, dw_w11, dw_a12, dw_w12, dw_a13, dw_w13, dw_a14, dw_w14, dw_a15, dw_w15, dw_a16, dw_w16, dw_a17, dw_w17, dw_a17_0, dw_w17_0, dw_a18, dw_w18, dw_a18_0, dw_w18_0, dw_a18_1, dw_w18_1, dw_a18_2, dw_w18_2, dw_a18_3, dw_w18_3, dw_a18_4, dw_w18_4, dw_a18_5, dw_w18_5, dw_a19, dw_w19, dw_a19_24, dw_w19_24, dw_a20, dw_w20, dw_3, nI_add]); first | with_reducible rw [bnd_s] | with_reducible rw [bn2_s] | with_reducible rw [grd_t]))
    have hTH := dw_TH_Eq (dw_TH_R h hd hf (v := nI i) (fun q => ⟨i, by have := h0 q; omega, rfl⟩) (fun q => ⟨i, by have := h1 q; omega, by have := h1 q; omega, rfl⟩)) e (R' := upd R2 (3 * d + f) (nI i)) (G' := G2) (by
      intro k hk
      rw [upd_app, upd_app]
      by_cases c : k = 3 * d + f
      · rw [if_pos c, if_pos c]
      · rw [if_neg c, if_neg c, hR k hk c]) hG
    obtain ⟨X3, R3, G3, S3, N3, e3, q1, q2, q3⟩ := dw_Munlike (S := S) (N := N) hTH (dw_SH_Eq hs e) hok hq hd
    rw [e.2.1 6] at e3
    rw [e3, bn2_s]
    have e6 := dw_Eq_tr e q1
    have hR3 : ∀ k, k < 18 → k ≠ 3 * d + f → R3 k = R k := fun k hk c => by rw [q2 k hk, upd_app, if_neg c, hR k hk c]
    have hG3 : ∀ k, k < 6 → G3 k = G k := fun k hk => (q3 k hk).trans (hG k hk)
    by_cases c : dw_qU w (dw_gJ X 6) (dw_set s d (3 + f) (nI i)) yy H (nI q) d = -1
    · rw [if_pos c, if_pos (decide_eq_true c), M_states_125, if_neg (by decide), M_states_139, nmd_s, if_neg (by decide)]
      by_cases c2 : l = -1
      · rw [if_pos c2, if_pos c2, M_states_160, nmd_s, nI_1]
        exact ih (i + 1) _ _ _ _ _ _ _ (by omega) (by omega) e6 hR3 hG3
      · rw [if_neg c2, if_neg c2, M_states_158, M_states_160, nmd_s, nI_1]
        exact ih (i + 1) _ _ _ _ _ _ _ (by omega) (by omega) e6 hR3 hG3
    · rw [if_neg c, if_neg (show ¬ decide (dw_qU w (dw_gJ X 6) (dw_set s d (3 + f) (nI i)) yy H (nI q) d = -1) = true by rw [decide_eq_false c]; decide), M_states_125, if_pos rfl, M_states_139, nmd_s, if_pos rfl, M_states_158, M_states_160, nmd_s, nI_1, Int32.add_zero]
      exact ih (i + 1) _ _ _ _ _ _ _ (by omega) (by omega) e6 hR3 hG3
theorem dw_Mstates (h : dw_TH X R G r m w s yy) (hs : dw_SH X H) (hok : dw_Hok H) (a d sort what : Int32) : dw_Bk (M_states (dw_mk X R G S N (nI yy)) 0 a d sort what) X R G (nI yy) (dw_qstates w (dw_gJ X 6) s yy H a d sort what) := by
  obtain ⟨e1, e2⟩ := dw_Mtw (S := S) (N := N) (y := nI yy) h hs a d
  have hm6 := h.1.2.2.2.2
  rw [M_states, dw_qstates]
  repeat (first | with_reducible rw [bnd_s] | with_reducible rw [nmd_s] | with_reducible rw [bn2_s] | with_reducible rw [grd_t] | ((conv => arg 1; arg 1; simp (disch := omega) only [dw_is, dw_f0, dw_t0, dw_f9, dw_t9, dw_f12, dw_t12, dw_f13, dw_t13, dw_f14, dw_t14, dw_f22, dw_t22, dw_f23, dw_t23, dw_f24, dw_t24, dw_f25, dw_t25, dw_f28, dw_t28, dw_f29, dw_t29, dw_f30, dw_t30, dw_f35, dw_t35, dw_f7, dw_t7, dw_f5, dw_t5, dw_f6, dw_t6, dw_f1, dw_f2, dw_f3, dw_f4, dw_f8, dw_f10, dw_f11, dw_f15, dw_f16, dw_f17, dw_f18, dw_f19, dw_f20, dw_f21, dw_f26, dw_f27, dw_f31, dw_f32, dw_f33, dw_f34, dw_a1, dw_w1, dw_a2, dw_w2, dw_a3, dw_w3, dw_a4, dw_w4, dw_a5, dw_w5, dw_a6, dw_w6, dw_a7, dw_w7, dw_a8, dw_w8, dw_a9_0, dw_s9_0, dw_a9_1, dw_s9_1, dw_a10, dw_w10, dw_a10_0, dw_w10_0, dw_a10_1, dw_w10_1, dw_a10_2, dw_w10_2, dw_a11, dw_w11, dw_a12, dw_w12, dw_a13, dw_w13, dw_a14, dw_w14, dw_a15, dw_w15, dw_a16, dw_w16, dw_a17, dw_w17, dw_a17_0, dw_w17_0, dw_a18, dw_w18, dw_a18_0, dw_w18_0, dw_a18_1, dw_w18_1, dw_a18_2, dw_w18_2, dw_a18_3, dw_w18_3, dw_a18_4, dw_w18_4, dw_a18_5, dw_w18_5, dw_a19, dw_w19, dw_a19_24, dw_w19_24, dw_a20, dw_w20, e1]); first | with_reducible rw [bnd_s] | with_reducible rw [bn2_s] | with_reducible rw [grd_t]))
  by_cases c : dw_tw H s a d = 0
  · rw [if_pos c, if_pos c]
    obtain ⟨q, j, hq, hj, rfl, rfl, h6⟩ := e2 c
    obtain ⟨i3, i4, i5, _, _, _⟩ := h.2.2.2.2.2 j hj
    repeat (first | with_reducible rw [bnd_s] | with_reducible rw [nmd_s] | with_reducible rw [bn2_s] | with_reducible rw [grd_t] | ((conv => arg 1; arg 1; simp (disch := omega) only [dw_is, dw_f0, dw_t0, dw_f9, dw_t9, dw_f12, dw_t12, dw_f13, dw_t13, dw_f14, dw_t14, dw_f22, dw_t22, dw_f23, dw_t23, dw_f24, dw_t24, dw_f25, dw_t25, dw_f28, dw_t28, dw_f29, dw_t29, dw_f30, dw_t30, dw_f35, dw_t35, dw_f7, dw_t7, dw_f5, dw_t5, dw_f6, dw_t6, dw_f1, dw_f2, dw_f3, dw_f4, dw_f8, dw_f10, dw_f11, dw_f15, dw_f16, dw_f17, dw_f18, dw_f19, dw_f20, dw_f21, dw_f26, dw_f27, dw_f31, dw_f32, dw_f33, dw_f34, dw_a1, dw_w1, dw_a2, dw_w2, dw_a3, dw_w3, dw_a4, dw_w4, dw_a5, dw_w5, dw_a6, dw_w6, dw_a7, dw_w7, dw_a8, dw_w8, dw_a9_0, dw_s9_0, dw_a9_1, dw_s9_1, dw_a10, dw_w10, dw_a10_0, dw_w10_0, dw_a10_1, dw_w10_1, dw_a10_2, dw_w10_2, dw_a11, dw_w11, dw_a12, dw_w12, dw_a13, dw_w13, dw_a14, dw_w14, dw_a15, dw_w15, dw_a16, dw_w16, dw_a17, dw_w17, dw_a17_0, dw_w17_0, dw_a18, dw_w18, dw_a18_0, dw_w18_0, dw_a18_1, dw_w18_1, dw_a18_2, dw_w18_2, dw_a18_3, dw_w18_3, dw_a18_4, dw_w18_4, dw_a18_5, dw_w18_5, dw_a19, dw_w19, dw_a19_24, dw_w19_24, dw_a20, dw_w20, dw_Min]); first | with_reducible rw [bnd_s] | with_reducible rw [bn2_s] | with_reducible rw [grd_t]))
    rw [dw_N_nI (by omega)]
    by_cases c2 : dw_in sort 0 2 = 0
    · rw [if_pos c2, if_pos c2]
      exact dw_Bk_id
    rw [if_neg c2, if_neg c2]
    repeat (first | with_reducible rw [bnd_s] | with_reducible rw [nmd_s] | with_reducible rw [bn2_s] | with_reducible rw [grd_t] | ((conv => arg 1; arg 1; simp (disch := omega) only [dw_is, dw_f0, dw_t0, dw_f9, dw_t9, dw_f12, dw_t12, dw_f13, dw_t13, dw_f14, dw_t14, dw_f22, dw_t22, dw_f23, dw_t23, dw_f24, dw_t24, dw_f25, dw_t25, dw_f28, dw_t28, dw_f29, dw_t29, dw_f30, dw_t30, dw_f35, dw_t35, dw_f7, dw_t7, dw_f5, dw_t5, dw_f6, dw_t6, dw_f1, dw_f2, dw_f3, dw_f4, dw_f8, dw_f10, dw_f11, dw_f15, dw_f16, dw_f17, dw_f18, dw_f19, dw_f20, dw_f21, dw_f26, dw_f27, dw_f31, dw_f32, dw_f33, dw_f34, dw_a1, dw_w1, dw_a2, dw_w2, dw_a3, dw_w3, dw_a4, dw_w4, dw_a5, dw_w5, dw_a6, dw_w6, dw_a7, dw_w7, dw_a8, dw_w8, dw_a9_0, dw_s9_0, dw_a9_1, dw_s9_1, dw_a10, dw_w10, dw_a10_0, dw_w10_0, dw_a10_1, dw_w10_1, dw_a10_2, dw_w10_2, dw_a11, dw_w11, dw_a12, dw_w12, dw_a13, dw_w13, dw_a14, dw_w14, dw_a15, dw_w15, dw_a16, dw_w16, dw_a17, dw_w17, dw_a17_0, dw_w17_0, dw_a18, dw_w18, dw_a18_0, dw_w18_0, dw_a18_1, dw_w18_1, dw_a18_2, dw_w18_2, dw_a18_3, dw_w18_3, dw_a18_4, dw_w18_4, dw_a18_5, dw_w18_5, dw_a19, dw_w19, dw_a19_24, dw_w19_24, dw_a20, dw_w20, dw_Min]); first | with_reducible rw [bnd_s] | with_reducible rw [bn2_s] | with_reducible rw [grd_t]))
    by_cases c3 : dw_in what 0 1 = 0
    · rw [if_pos c3, if_pos c3]
      exact dw_Bk_id
    rw [if_neg c3, if_neg c3]
    obtain ⟨f, hf, rfl⟩ := dw_in_of (n := 2) rfl c2
    rw [dw_N_nI (by omega)]
    repeat (first | with_reducible rw [bnd_s] | with_reducible rw [nmd_s] | with_reducible rw [bn2_s] | with_reducible rw [grd_t] | ((conv => arg 1; arg 1; simp (disch := omega) only [dw_is, dw_f0, dw_t0, dw_f9, dw_t9, dw_f12, dw_t12, dw_f13, dw_t13, dw_f14, dw_t14, dw_f22, dw_t22, dw_f23, dw_t23, dw_f24, dw_t24, dw_f25, dw_t25, dw_f28, dw_t28, dw_f29, dw_t29, dw_f30, dw_t30, dw_f35, dw_t35, dw_f7, dw_t7, dw_f5, dw_t5, dw_f6, dw_t6, dw_f1, dw_f2, dw_f3, dw_f4, dw_f8, dw_f10, dw_f11, dw_f15, dw_f16, dw_f17, dw_f18, dw_f19, dw_f20, dw_f21, dw_f26, dw_f27, dw_f31, dw_f32, dw_f33, dw_f34, dw_a1, dw_w1, dw_a2, dw_w2, dw_a3, dw_w3, dw_a4, dw_w4, dw_a5, dw_w5, dw_a6, dw_w6, dw_a7, dw_w7, dw_a8, dw_w8, dw_a9_0, dw_s9_0, dw_a9_1, dw_s9_1, dw_a10, dw_w10, dw_a10_0, dw_w10_0, dw_a10_1, dw_w10_1, dw_a10_2, dw_w10_2, dw_a11, dw_w11, dw_a12, dw_w12, dw_a13, dw_w13, dw_a14, dw_w14, dw_a15, dw_w15, dw_a16, dw_w16, dw_a17, dw_w17, dw_a17_0, dw_w17_0, dw_a18, dw_w18, dw_a18_0, dw_w18_0, dw_a18_1, dw_w18_1, dw_a18_2, dw_w18_2, dw_a18_3, dw_w18_3, dw_a18_4, dw_w18_4, dw_a18_5, dw_w18_5, dw_a19, dw_w19, dw_a19_24, dw_w19_24, dw_a20, dw_w20, dw_3, nI_add]); first | with_reducible rw [bnd_s] | with_reducible rw [bn2_s] | with_reducible rw [grd_t]))
    rcases (by omega : f = 0 ∨ f = 1 ∨ f = 2) with rfl | rfl | rfl
    · rw [if_pos (show nI 0 = (0 : Int32) from rfl), if_pos (show nI 0 = (0 : Int32) from rfl), if_neg (show ¬ nI 0 = (1 : Int32) by decide), M_states_77, if_neg (show ¬ nI 0 = (1 : Int32) by decide), M_states_89, show R (3 * j + 0) = s j (3 + 0) from i3]
      exact dw_Mstates91 h hs hok hq hj (f := 0) (by decide) (last := 0) (lo := 0) (n := 0) (hi := 39) (lo' := 0) (by decide) (fun _ => by decide) (fun q => absurd q (by decide)) 959 40 0 R G X S N 0 (-1) (by decide) rfl (dw_Eq_rfl X) (fun _ _ _ => rfl) (fun _ _ => rfl)
    · rw [if_neg (show ¬ nI 1 = (0 : Int32) by decide), if_neg (show ¬ nI 1 = (0 : Int32) by decide), if_pos (show nI 1 = (1 : Int32) from rfl), if_pos (show nI 1 = (1 : Int32) from rfl), if_pos (show nI 1 = (1 : Int32) from rfl), M_states_77, if_pos (show nI 1 = (1 : Int32) from rfl), M_states_89, show R (3 * j + 1) = s j (3 + 1) from i4]
      exact dw_Mstates91 h hs hok hq hj (f := 1) (by decide) (last := 0) (lo := 0) (n := 0) (hi := 9) (lo' := 1) (by decide) (fun q => absurd q (by decide)) (fun q => by decide) 990 9 1 R G X S N 0 (-1) (by decide) rfl (dw_Eq_rfl X) (fun _ _ _ => rfl) (fun _ _ => rfl)
    · rw [if_neg (show ¬ nI 2 = (0 : Int32) by decide), if_neg (show ¬ nI 2 = (0 : Int32) by decide), if_neg (show ¬ nI 2 = (1 : Int32) by decide), if_neg (show ¬ nI 2 = (1 : Int32) by decide), if_neg (show ¬ nI 2 = (1 : Int32) by decide), M_states_77, if_neg (show ¬ nI 2 = (1 : Int32) by decide), M_states_89, show R (3 * j + 2) = s j (3 + 2) from i5]
      exact dw_Mstates91 h hs hok hq hj (f := 2) (by decide) (last := 0) (lo := 0) (n := 0) (hi := 99) (lo' := 0) (by decide) (fun q => absurd q (by decide)) (fun q => absurd q (by decide)) 899 100 0 R G X S N 0 (-1) (by decide) rfl (dw_Eq_rfl X) (fun _ _ _ => rfl) (fun _ _ => rfl)
  · rw [if_neg c, if_neg c]
    exact dw_Bk_id
theorem dw_Mwhose17 (h : dw_TH X R G r m w s yy) (hs : dw_SH X H) (hok : dw_Hok H) {q : Nat} (hq : q < 4) (F k : Nat) : ∀ i R2 G2 X2 S N z, i + k = m → dw_Eq X X2 → (∀ k, k < 18 → R2 k = R k) → (∀ d, d < 6 → G2 d = G d) → dw_Bk (M_whose_17 (F + k + 1) (dw_mk X2 R2 G2 S N (nI yy)) 0 (nI q) z (nI i)) X R G (nI yy) (dw_bits (fun d => decide (s d 6 = 0) && decide (dw_qU w (dw_gJ X 6) s yy H (nI q) d = -1)) (6 - i) i z) := by
  have hm6 := h.1.2.2.2.2
  induction k with
  | zero =>
    intro i R2 G2 X2 S N z hi e hR hG
    have hm := (e.1 0 (by decide)).trans h.1.2.2.2.1
    rw [M_whose_17]
    repeat (first | with_reducible rw [bnd_s] | with_reducible rw [nmd_s] | with_reducible rw [bn2_s] | with_reducible rw [grd_t] | ((conv => arg 1; arg 1; simp (disch := omega) only [dw_is, dw_f0, dw_t0, dw_f9, dw_t9, dw_f12, dw_t12, dw_f13, dw_t13, dw_f14, dw_t14, dw_f22, dw_t22, dw_f23, dw_t23, dw_f24, dw_t24, dw_f25, dw_t25, dw_f28, dw_t28, dw_f29, dw_t29, dw_f30, dw_t30, dw_f35, dw_t35, dw_f7, dw_t7, dw_f5, dw_t5, dw_f6, dw_t6, dw_f1, dw_f2, dw_f3, dw_f4, dw_f8, dw_f10, dw_f11, dw_f15, dw_f16, dw_f17, dw_f18, dw_f19, dw_f20, dw_f21, dw_f26, dw_f27, dw_f31, dw_f32, dw_f33, dw_f34, dw_a1, dw_w1, dw_a2, dw_w2, dw_a3, dw_w3, dw_a4, dw_w4, dw_a5, dw_w5, dw_a6, dw_w6, dw_a7, dw_w7, dw_a8, dw_w8, dw_a9_0, dw_s9_0, dw_a9_1, dw_s9_1, dw_a10, dw_w10, dw_a10_0, dw_w10_0, dw_a10_1, dw_w10_1, dw_a10_2, dw_w10_2, dw_a11, dw_w11, dw_a12, dw_w12, dw_a13, dw_w13, dw_a14, dw_w14, dw_a15, dw_w15, dw_a16, dw_w16, dw_a17, dw_w17, dw_a17_0, dw_w17_0, dw_a18, dw_w18, dw_a18_0, dw_w18_0, dw_a18_1, dw_w18_1, dw_a18_2, dw_w18_2, dw_a18_3, dw_w18_3, dw_a18_4, dw_w18_4, dw_a18_5, dw_w18_5, dw_a19, dw_w19, dw_a19_24, dw_w19_24, dw_a20, dw_w20, hm]); first | with_reducible rw [bnd_s] | with_reducible rw [bn2_s] | with_reducible rw [grd_t]))
    rw [if_pos (show nI m ≤ nI i from nI_le (by omega) (by omega)), dw_bits_no (fun j h1 h2 => by rw [h.2.2.1 j (by omega) (by omega)]; rfl)]
    exact ⟨_, _, _, _, _, rfl, e, hR, hG⟩
  | succ k ih =>
    intro i R2 G2 X2 S N z hi e hR hG
    have hm := (e.1 0 (by decide)).trans h.1.2.2.2.1
    have h2 := dw_TH_Eq h e hR hG
    have i6 := (h2.2.2.2.2.2 i (by omega)).2.2.2.1
    rw [show F + (k + 1) + 1 = F + k + 1 + 1 by omega, M_whose_17]
    repeat (first | with_reducible rw [bnd_s] | with_reducible rw [nmd_s] | with_reducible rw [bn2_s] | with_reducible rw [grd_t] | ((conv => arg 1; arg 1; simp (disch := omega) only [dw_is, dw_f0, dw_t0, dw_f9, dw_t9, dw_f12, dw_t12, dw_f13, dw_t13, dw_f14, dw_t14, dw_f22, dw_t22, dw_f23, dw_t23, dw_f24, dw_t24, dw_f25, dw_t25, dw_f28, dw_t28, dw_f29, dw_t29, dw_f30, dw_t30, dw_f35, dw_t35, dw_f7, dw_t7, dw_f5, dw_t5, dw_f6, dw_t6, dw_f1, dw_f2, dw_f3, dw_f4, dw_f8, dw_f10, dw_f11, dw_f15, dw_f16, dw_f17, dw_f18, dw_f19, dw_f20, dw_f21, dw_f26, dw_f27, dw_f31, dw_f32, dw_f33, dw_f34, dw_a1, dw_w1, dw_a2, dw_w2, dw_a3, dw_w3, dw_a4, dw_w4, dw_a5, dw_w5, dw_a6, dw_w6, dw_a7, dw_w7, dw_a8, dw_w8, dw_a9_0, dw_s9_0, dw_a9_1, dw_s9_1, dw_a10, dw_w10, dw_a10_0, dw_w10_0, dw_a10_1, dw_w10_1, dw_a10_2, dw_w10_2, dw_a11, dw_w11, dw_a12, dw_w12, dw_a13, dw_w13, dw_a14, dw_w14, dw_a15, dw_w15, dw_a16, dw_w16, dw_a17, dw_w17, dw_a17_0, dw_w17_0, dw_a18, dw_w18, dw_a18_0, dw_w18_0, dw_a18_1, dw_w18_1, dw_a18_2, dw_w18_2, dw_a18_3, dw_w18_3, dw_a18_4, dw_w18_4, dw_a18_5, dw_w18_5, dw_a19, dw_w19, dw_a19_24, dw_w19_24, dw_a20, dw_w20, hm]); first | with_reducible rw [bnd_s] | with_reducible rw [bn2_s] | with_reducible rw [grd_t]))
    rw [if_neg (show ¬ nI m ≤ nI i from nI_ge (by omega) (by omega)), show 6 - i = 6 - (i + 1) + 1 by omega, dw_bits]
    repeat (first | with_reducible rw [bnd_s] | with_reducible rw [nmd_s] | with_reducible rw [bn2_s] | with_reducible rw [grd_t] | ((conv => arg 1; arg 1; simp (disch := omega) only [dw_is, dw_f0, dw_t0, dw_f9, dw_t9, dw_f12, dw_t12, dw_f13, dw_t13, dw_f14, dw_t14, dw_f22, dw_t22, dw_f23, dw_t23, dw_f24, dw_t24, dw_f25, dw_t25, dw_f28, dw_t28, dw_f29, dw_t29, dw_f30, dw_t30, dw_f35, dw_t35, dw_f7, dw_t7, dw_f5, dw_t5, dw_f6, dw_t6, dw_f1, dw_f2, dw_f3, dw_f4, dw_f8, dw_f10, dw_f11, dw_f15, dw_f16, dw_f17, dw_f18, dw_f19, dw_f20, dw_f21, dw_f26, dw_f27, dw_f31, dw_f32, dw_f33, dw_f34, dw_a1, dw_w1, dw_a2, dw_w2, dw_a3, dw_w3, dw_a4, dw_w4, dw_a5, dw_w5, dw_a6, dw_w6, dw_a7, dw_w7, dw_a8, dw_w8, dw_a9_0, dw_s9_0, dw_a9_1, dw_s9_1, dw_a10, dw_w10, dw_a10_0, dw_w10_0, dw_a10_1, dw_w10_1, dw_a10_2, dw_w10_2, dw_a11, dw_w11, dw_a12, dw_w12, dw_a13, dw_w13, dw_a14, dw_w14, dw_a15, dw_w15, dw_a16, dw_w16, dw_a17, dw_w17, dw_a17_0, dw_w17_0, dw_a18, dw_w18, dw_a18_0, dw_w18_0, dw_a18_1, dw_w18_1, dw_a18_2, dw_w18_2, dw_a18_3, dw_w18_3, dw_a18_4, dw_w18_4, dw_a18_5, dw_w18_5, dw_a19, dw_w19, dw_a19_24, dw_w19_24, dw_a20, dw_w20, i6]); first | with_reducible rw [bnd_s] | with_reducible rw [bn2_s] | with_reducible rw [grd_t]))
    by_cases c : s i 6 = 0
    · rw [if_pos c]
      obtain ⟨X3, R3, G3, S3, N3, e3, q1, q2, q3⟩ := dw_Munlike (S := S) (N := N) (d := i) h2 (dw_SH_Eq hs e) hok hq (by omega)
      rw [e.2.1 6] at e3
      repeat (first | with_reducible rw [bnd_s] | with_reducible rw [nmd_s] | with_reducible rw [bn2_s] | with_reducible rw [grd_t] | ((conv => arg 1; arg 1; simp (disch := omega) only [dw_is, dw_f0, dw_t0, dw_f9, dw_t9, dw_f12, dw_t12, dw_f13, dw_t13, dw_f14, dw_t14, dw_f22, dw_t22, dw_f23, dw_t23, dw_f24, dw_t24, dw_f25, dw_t25, dw_f28, dw_t28, dw_f29, dw_t29, dw_f30, dw_t30, dw_f35, dw_t35, dw_f7, dw_t7, dw_f5, dw_t5, dw_f6, dw_t6, dw_f1, dw_f2, dw_f3, dw_f4, dw_f8, dw_f10, dw_f11, dw_f15, dw_f16, dw_f17, dw_f18, dw_f19, dw_f20, dw_f21, dw_f26, dw_f27, dw_f31, dw_f32, dw_f33, dw_f34, dw_a1, dw_w1, dw_a2, dw_w2, dw_a3, dw_w3, dw_a4, dw_w4, dw_a5, dw_w5, dw_a6, dw_w6, dw_a7, dw_w7, dw_a8, dw_w8, dw_a9_0, dw_s9_0, dw_a9_1, dw_s9_1, dw_a10, dw_w10, dw_a10_0, dw_w10_0, dw_a10_1, dw_w10_1, dw_a10_2, dw_w10_2, dw_a11, dw_w11, dw_a12, dw_w12, dw_a13, dw_w13, dw_a14, dw_w14, dw_a15, dw_w15, dw_a16, dw_w16, dw_a17, dw_w17, dw_a17_0, dw_w17_0, dw_a18, dw_w18, dw_a18_0, dw_w18_0, dw_a18_1, dw_w18_1, dw_a18_2, dw_w18_2, dw_a18_3, dw_w18_3, dw_a18_4, dw_w18_4, dw_a18_5, dw_w18_5, dw_a19, dw_w19, dw_a19_24, dw_w19_24, dw_a20, dw_w20, e3]); first | with_reducible rw [bnd_s] | with_reducible rw [bn2_s] | with_reducible rw [grd_t]))
      have e6 := dw_Eq_tr e q1
      have hR3 : ∀ k, k < 18 → R3 k = R k := fun k hk => (q2 k hk).trans (hR k hk)
      have hG3 : ∀ k, k < 6 → G3 k = G k := fun k hk => (q3 k hk).trans (hG k hk)
      by_cases c2 : dw_qU w (dw_gJ X 6) s yy H (nI q) i = -1
      · rw [if_pos c2, if_pos (show (decide (s i 6 = 0) && decide (dw_qU w (dw_gJ X 6) s yy H (nI q) i = -1)) = true by rw [decide_eq_true c, decide_eq_true c2]; rfl), M_whose_56, nmd_s, M_whose_58, nmd_s, nI_1]
        exact ih (i + 1) _ _ _ _ _ _ (by omega) e6 hR3 hG3
      · rw [if_neg c2, if_neg (show ¬ (decide (s i 6 = 0) && decide (dw_qU w (dw_gJ X 6) s yy H (nI q) i = -1)) = true by rw [decide_eq_false c2]; simp), M_whose_56, nmd_s, M_whose_58, nmd_s, nI_1]
        exact ih (i + 1) _ _ _ _ _ _ (by omega) e6 hR3 hG3
    · rw [if_neg c, if_neg (show ¬ (decide (s i 6 = 0) && decide (dw_qU w (dw_gJ X 6) s yy H (nI q) i = -1)) = true by rw [decide_eq_false c]; simp), M_whose_58, nmd_s, nI_1, dw_or0]
      exact ih (i + 1) _ _ _ _ _ _ (by omega) e hR hG
theorem dw_Mwhose (h : dw_TH X R G r m w s yy) (hs : dw_SH X H) (hok : dw_Hok H) (a : Int32) : dw_Bk (M_whose (dw_mk X R G S N (nI yy)) 0 a) X R G (nI yy) (dw_qwhose w (dw_gJ X 6) s yy H a) := by
  rw [M_whose, dw_qwhose]
  have hm6 := h.1.2.2.2.2
  repeat (first | with_reducible rw [bnd_s] | with_reducible rw [nmd_s] | with_reducible rw [bn2_s] | with_reducible rw [grd_t] | ((conv => arg 1; arg 1; simp (disch := omega) only [dw_is, dw_f0, dw_t0, dw_f9, dw_t9, dw_f12, dw_t12, dw_f13, dw_t13, dw_f14, dw_t14, dw_f22, dw_t22, dw_f23, dw_t23, dw_f24, dw_t24, dw_f25, dw_t25, dw_f28, dw_t28, dw_f29, dw_t29, dw_f30, dw_t30, dw_f35, dw_t35, dw_f7, dw_t7, dw_f5, dw_t5, dw_f6, dw_t6, dw_f1, dw_f2, dw_f3, dw_f4, dw_f8, dw_f10, dw_f11, dw_f15, dw_f16, dw_f17, dw_f18, dw_f19, dw_f20, dw_f21, dw_f26, dw_f27, dw_f31, dw_f32, dw_f33, dw_f34, dw_a1, dw_w1, dw_a2, dw_w2, dw_a3, dw_w3, dw_a4, dw_w4, dw_a5, dw_w5, dw_a6, dw_w6, dw_a7, dw_w7, dw_a8, dw_w8, dw_a9_0, dw_s9_0, dw_a9_1, dw_s9_1, dw_a10, dw_w10, dw_a10_0, dw_w10_0, dw_a10_1, dw_w10_1, dw_a10_2, dw_w10_2, dw_a11, dw_w11, dw_a12, dw_w12, dw_a13, dw_w13, dw_a14, dw_w14, dw_a15, dw_w15, dw_a16, dw_w16, dw_a17, dw_w17, dw_a17_0, dw_w17_0, dw_a18, dw_w18, dw_a18_0, dw_w18_0, dw_a18_1, dw_w18_1, dw_a18_2, dw_w18_2, dw_a18_3, dw_w18_3, dw_a18_4, dw_w18_4, dw_a18_5, dw_w18_5, dw_a19, dw_w19, dw_a19_24, dw_w19_24, dw_a20, dw_w20, dw_Msw hs]); first | with_reducible rw [bnd_s] | with_reducible rw [bn2_s] | with_reducible rw [grd_t]))
  by_cases c : dw_sw H a = 0
  · rw [if_pos c, if_pos c]
    have hq : ∃ q : Nat, q < 4 ∧ a = nI q := by
      unfold dw_sw at c
      by_cases c2 : dw_in a 0 3 = 0
      · rw [if_pos c2] at c
        exact absurd c (by decide)
      · obtain ⟨q, hq, rfl⟩ := dw_in_of (n := 3) rfl c2
        exact ⟨q, by omega, rfl⟩
    obtain ⟨q, hq, rfl⟩ := hq
    have h2 := dw_Mwhose17 h hs hok hq (999 - m) m 0 R G X S N 0 (by omega) (dw_Eq_rfl X) (fun _ _ => rfl) (fun _ _ => rfl)
    rw [show 999 - m + m + 1 = 1000 by omega] at h2
    exact h2
  · rw [if_neg c, if_neg c]
    exact dw_Bk_id
/-- another text -/
theorem dw_ML_I {X : dw_X} {r : Nat} {w : dw_W} (k : Nat) (v : Int32) (hL : dw_ML X r w) : dw_ML (dw_I X k v) r w := by
  refine ⟨fun p hp => ?_, hL.2⟩
  obtain ⟨k', h1, h2, h3, h4, h5⟩ := hL.1 p hp
  refine ⟨k', h1, h2, h3, ?_, h5⟩
  have h6 : ∀ (c : List Nat) (a : Nat), dw_MC X a c → dw_MC (dw_I X k v) a c := by
    intro c
    induction c with
    | nil => intro a _; trivial
    | cons t c ih => intro a hm; exact ⟨hm.1, ih (a + 1) hm.2⟩
  exact h6 _ _ h4
theorem dw_TH_13 (h : dw_TH X R G r m w s yy) {t : Nat} (ht : t < 6) {w' : dw_W} (hL : dw_ML X t w') : dw_TH (dw_I X 13 (nI t)) R G t m w' s yy := ⟨⟨rfl, ht, dw_ML_I 13 _ hL, h.1.2.2.2⟩, h.2.1, h.2.2.1, h.2.2.2.1, h.2.2.2.2.1, h.2.2.2.2.2⟩
theorem dw_Eq_I13 {X2 : dw_X} {v : Int32} (h : dw_Eq (dw_I X 13 v) X2) (v' : Int32) : dw_Eq (dw_I X 13 v') (dw_I X2 13 v') := ⟨(fun k hk => by
  have := h.1 k hk
  rw [dw_II] at this ⊢
  rw [dw_II]
  by_cases c : k = 13
  · rw [if_pos c, if_pos c]
  · rw [if_neg c] at this ⊢
    rw [if_neg c, this]), h.2.1, h.2.2.1, h.2.2.2⟩
theorem dw_Eq_I13own {v : Int32} (hv : dw_gI X 13 = v) : dw_Eq X (dw_I X 13 v) := ⟨(fun k hk => by
  rw [dw_II]
  by_cases c : k = 13
  · rw [if_pos c, c, hv]
  · rw [if_neg c]), fun _ => rfl, fun _ _ _ _ _ => rfl, fun _ => rfl⟩
theorem dw_Mlaws25 (h : dw_TH X R G r m w s yy) (hs : dw_SH X H) (hok : dw_Hok H) {wt : Nat → dw_W} {tx : Nat} (htx : tx ≤ 6) (hx : dw_gI X 12 = nI tx) (hL : ∀ t, t < tx → dw_ML X t (wt t)) {q d : Nat} (hq : q < 4) (hd : d < m) (F k : Nat) : ∀ i v R2 G2 X2 S N z, i + k = tx → dw_Eq (dw_I X 13 v) X2 → (∀ k, k < 18 → R2 k = R k) → (∀ d, d < 6 → G2 d = G d) → dw_Bk (M_laws_25 (F + k + 1) (dw_mk X2 R2 G2 S N (nI yy)) 0 (nI q) (nI d) (dw_gI X 13) z (nI i)) X R G (nI yy) (dw_bits (fun t => decide (dw_qU (wt t) (dw_gJ X 6) s yy H (nI q) d = -1)) k i z) := by
  have hm6 := h.1.2.2.2.2
  induction k with
  | zero =>
    intro i v R2 G2 X2 S N z hi e hR hG
    have hm : dw_gI X2 12 = nI tx := (e.1 12 (by decide)).trans hx
    rw [M_laws_25]
    repeat (first | with_reducible rw [bnd_s] | with_reducible rw [nmd_s] | with_reducible rw [bn2_s] | with_reducible rw [grd_t] | ((conv => arg 1; arg 1; simp (disch := omega) only [dw_is, dw_f0, dw_t0, dw_f9, dw_t9, dw_f12, dw_t12, dw_f13, dw_t13, dw_f14, dw_t14, dw_f22, dw_t22, dw_f23, dw_t23, dw_f24, dw_t24, dw_f25, dw_t25, dw_f28, dw_t28, dw_f29, dw_t29, dw_f30, dw_t30, dw_f35, dw_t35, dw_f7, dw_t7, dw_f5, dw_t5, dw_f6, dw_t6, dw_f1, dw_f2, dw_f3, dw_f4, dw_f8, dw_f10, dw_f11, dw_f15, dw_f16, dw_f17, dw_f18, dw_f19, dw_f20, dw_f21, dw_f26, dw_f27, dw_f31, dw_f32, dw_f33, dw_f34, dw_a1, dw_w1, dw_a2, dw_w2, dw_a3, dw_w3, dw_a4, dw_w4, dw_a5, dw_w5, dw_a6, dw_w6, dw_a7, dw_w7, dw_a8, dw_w8, dw_a9_0, dw_s9_0, dw_a9_1, dw_s9_1, dw_a10, dw_w10, dw_a10_0, dw_w10_0, dw_a10_1, dw_w10_1, dw_a10_2, dw_w10_2, dw_a11, dw_w11, dw_a12, dw_w12, dw_a13, dw_w13, dw_a14, dw_w14, dw_a15, dw_w15, dw_a16, dw_w16, dw_a17, dw_w17, dw_a17_0, dw_w17_0, dw_a18, dw_w18, dw_a18_0, dw_w18_0, dw_a18_1, dw_w18_1, dw_a18_2, dw_w18_2, dw_a18_3, dw_w18_3, dw_a18_4, dw_w18_4, dw_a18_5, dw_w18_5, dw_a19, dw_w19, dw_a19_24, dw_w19_24, dw_a20, dw_w20, hm]); first | with_reducible rw [bnd_s] | with_reducible rw [bn2_s] | with_reducible rw [grd_t]))
    rw [if_pos (show nI tx ≤ nI i from nI_le (by omega) (by omega)), dw_bits]
    repeat (first | with_reducible rw [bnd_s] | with_reducible rw [nmd_s] | with_reducible rw [bn2_s] | with_reducible rw [grd_t] | ((conv => arg 1; arg 1; simp (disch := omega) only [dw_is, dw_f0, dw_t0, dw_f9, dw_t9, dw_f12, dw_t12, dw_f13, dw_t13, dw_f14, dw_t14, dw_f22, dw_t22, dw_f23, dw_t23, dw_f24, dw_t24, dw_f25, dw_t25, dw_f28, dw_t28, dw_f29, dw_t29, dw_f30, dw_t30, dw_f35, dw_t35, dw_f7, dw_t7, dw_f5, dw_t5, dw_f6, dw_t6, dw_f1, dw_f2, dw_f3, dw_f4, dw_f8, dw_f10, dw_f11, dw_f15, dw_f16, dw_f17, dw_f18, dw_f19, dw_f20, dw_f21, dw_f26, dw_f27, dw_f31, dw_f32, dw_f33, dw_f34, dw_a1, dw_w1, dw_a2, dw_w2, dw_a3, dw_w3, dw_a4, dw_w4, dw_a5, dw_w5, dw_a6, dw_w6, dw_a7, dw_w7, dw_a8, dw_w8, dw_a9_0, dw_s9_0, dw_a9_1, dw_s9_1, dw_a10, dw_w10, dw_a10_0, dw_w10_0, dw_a10_1, dw_w10_1, dw_a10_2, dw_w10_2, dw_a11, dw_w11, dw_a12, dw_w12, dw_a13, dw_w13, dw_a14, dw_w14, dw_a15, dw_w15, dw_a16, dw_w16, dw_a17, dw_w17, dw_a17_0, dw_w17_0, dw_a18, dw_w18, dw_a18_0, dw_w18_0, dw_a18_1, dw_w18_1, dw_a18_2, dw_w18_2, dw_a18_3, dw_w18_3, dw_a18_4, dw_w18_4, dw_a18_5, dw_w18_5, dw_a19, dw_w19, dw_a19_24, dw_w19_24, dw_a20, dw_w20]); first | with_reducible rw [bnd_s] | with_reducible rw [bn2_s] | with_reducible rw [grd_t]))
    exact ⟨_, _, _, _, _, rfl, dw_Eq_tr (dw_Eq_I13own rfl) (dw_Eq_I13 e _), hR, hG⟩
  | succ k ih =>
    intro i v R2 G2 X2 S N z hi e hR hG
    have hm : dw_gI X2 12 = nI tx := (e.1 12 (by decide)).trans hx
    have e5 := dw_Eq_I13 e (nI i)
    rw [show F + (k + 1) + 1 = F + k + 1 + 1 by omega, M_laws_25]
    repeat (first | with_reducible rw [bnd_s] | with_reducible rw [nmd_s] | with_reducible rw [bn2_s] | with_reducible rw [grd_t] | ((conv => arg 1; arg 1; simp (disch := omega) only [dw_is, dw_f0, dw_t0, dw_f9, dw_t9, dw_f12, dw_t12, dw_f13, dw_t13, dw_f14, dw_t14, dw_f22, dw_t22, dw_f23, dw_t23, dw_f24, dw_t24, dw_f25, dw_t25, dw_f28, dw_t28, dw_f29, dw_t29, dw_f30, dw_t30, dw_f35, dw_t35, dw_f7, dw_t7, dw_f5, dw_t5, dw_f6, dw_t6, dw_f1, dw_f2, dw_f3, dw_f4, dw_f8, dw_f10, dw_f11, dw_f15, dw_f16, dw_f17, dw_f18, dw_f19, dw_f20, dw_f21, dw_f26, dw_f27, dw_f31, dw_f32, dw_f33, dw_f34, dw_a1, dw_w1, dw_a2, dw_w2, dw_a3, dw_w3, dw_a4, dw_w4, dw_a5, dw_w5, dw_a6, dw_w6, dw_a7, dw_w7, dw_a8, dw_w8, dw_a9_0, dw_s9_0, dw_a9_1, dw_s9_1, dw_a10, dw_w10, dw_a10_0, dw_w10_0, dw_a10_1, dw_w10_1, dw_a10_2, dw_w10_2, dw_a11, dw_w11, dw_a12, dw_w12, dw_a13, dw_w13, dw_a14, dw_w14, dw_a15, dw_w15, dw_a16, dw_w16, dw_a17, dw_w17, dw_a17_0, dw_w17_0, dw_a18, dw_w18, dw_a18_0, dw_w18_0, dw_a18_1, dw_w18_1, dw_a18_2, dw_w18_2, dw_a18_3, dw_w18_3, dw_a18_4, dw_w18_4, dw_a18_5, dw_w18_5, dw_a19, dw_w19, dw_a19_24, dw_w19_24, dw_a20, dw_w20, hm]); first | with_reducible rw [bnd_s] | with_reducible rw [bn2_s] | with_reducible rw [grd_t]))
    rw [if_neg (show ¬ nI tx ≤ nI i from nI_ge (by omega) (by omega)), dw_bits]
    obtain ⟨X3, R3, G3, S3, N3, e3, q1, q2, q3⟩ := dw_Munlike (S := S) (N := N) (dw_TH_Eq (dw_TH_13 h (by omega) (hL i (by omega))) e5 hR hG) (dw_SH_Eq (X := dw_I X 13 (nI i)) hs e5) hok hq hd
    rw [show dw_gJ (dw_I X2 13 (nI i)) 6 = dw_gJ X 6 from e5.2.1 6] at e3
    repeat (first | with_reducible rw [bnd_s] | with_reducible rw [nmd_s] | with_reducible rw [bn2_s] | with_reducible rw [grd_t] | ((conv => arg 1; arg 1; simp (disch := omega) only [dw_is, dw_f0, dw_t0, dw_f9, dw_t9, dw_f12, dw_t12, dw_f13, dw_t13, dw_f14, dw_t14, dw_f22, dw_t22, dw_f23, dw_t23, dw_f24, dw_t24, dw_f25, dw_t25, dw_f28, dw_t28, dw_f29, dw_t29, dw_f30, dw_t30, dw_f35, dw_t35, dw_f7, dw_t7, dw_f5, dw_t5, dw_f6, dw_t6, dw_f1, dw_f2, dw_f3, dw_f4, dw_f8, dw_f10, dw_f11, dw_f15, dw_f16, dw_f17, dw_f18, dw_f19, dw_f20, dw_f21, dw_f26, dw_f27, dw_f31, dw_f32, dw_f33, dw_f34, dw_a1, dw_w1, dw_a2, dw_w2, dw_a3, dw_w3, dw_a4, dw_w4, dw_a5, dw_w5, dw_a6, dw_w6, dw_a7, dw_w7, dw_a8, dw_w8, dw_a9_0, dw_s9_0, dw_a9_1, dw_s9_1, dw_a10, dw_w10, dw_a10_0, dw_w10_0, dw_a10_1, dw_w10_1, dw_a10_2, dw_w10_2, dw_a11, dw_w11, dw_a12, dw_w12, dw_a13, dw_w13, dw_a14, dw_w14, dw_a15, dw_w15, dw_a16, dw_w16, dw_a17, dw_w17, dw_a17_0, dw_w17_0, dw_a18, dw_w18, dw_a18_0, dw_w18_0, dw_a18_1, dw_w18_1, dw_a18_2, dw_w18_2, dw_a18_3, dw_w18_3, dw_a18_4, dw_w18_4, dw_a18_5, dw_w18_5, dw_a19, dw_w19, dw_a19_24, dw_w19_24, dw_a20, dw_w20, e3]); first | with_reducible rw [bnd_s] | with_reducible rw [bn2_s] | with_reducible rw [grd_t]))
    have e6 := dw_Eq_tr e5 q1
    have hR3 : ∀ k, k < 18 → R3 k = R k := fun k hk => (q2 k hk).trans (hR k hk)
    have hG3 : ∀ k, k < 6 → G3 k = G k := fun k hk => (q3 k hk).trans (hG k hk)
    by_cases c : dw_qU (wt i) (dw_gJ X 6) s yy H (nI q) d = -1
    · rw [if_pos c, if_pos (decide_eq_true c), M_laws_60, nmd_s, nmd_s, nI_1]
      exact ih (i + 1) _ _ _ _ _ _ _ (by omega) e6 hR3 hG3
    · rw [if_neg c, if_neg (show ¬ decide (dw_qU (wt i) (dw_gJ X 6) s yy H (nI q) d = -1) = true by rw [decide_eq_false c]; decide), M_laws_60, nmd_s, nmd_s, nI_1]
      exact ih (i + 1) _ _ _ _ _ _ _ (by omega) e6 hR3 hG3
theorem dw_Mlaws (h : dw_TH X R G r m w s yy) (hs : dw_SH X H) (hok : dw_Hok H) {wt : Nat → dw_W} {tx : Nat} (htx : tx ≤ 6) (hx : dw_gI X 12 = nI tx) (hL : ∀ t, t < tx → dw_ML X t (wt t)) (a d : Int32) : dw_Bk (M_laws (dw_mk X R G S N (nI yy)) 0 a d) X R G (nI yy) (dw_qlaws wt tx (dw_gJ X 6) s yy H a d) := by
  obtain ⟨e1, e2⟩ := dw_Mtw (S := S) (N := N) (y := nI yy) h hs a d
  have hm6 := h.1.2.2.2.2
  rw [M_laws, dw_qlaws]
  repeat (first | with_reducible rw [bnd_s] | with_reducible rw [nmd_s] | with_reducible rw [bn2_s] | with_reducible rw [grd_t] | ((conv => arg 1; arg 1; simp (disch := omega) only [dw_is, dw_f0, dw_t0, dw_f9, dw_t9, dw_f12, dw_t12, dw_f13, dw_t13, dw_f14, dw_t14, dw_f22, dw_t22, dw_f23, dw_t23, dw_f24, dw_t24, dw_f25, dw_t25, dw_f28, dw_t28, dw_f29, dw_t29, dw_f30, dw_t30, dw_f35, dw_t35, dw_f7, dw_t7, dw_f5, dw_t5, dw_f6, dw_t6, dw_f1, dw_f2, dw_f3, dw_f4, dw_f8, dw_f10, dw_f11, dw_f15, dw_f16, dw_f17, dw_f18, dw_f19, dw_f20, dw_f21, dw_f26, dw_f27, dw_f31, dw_f32, dw_f33, dw_f34, dw_a1, dw_w1, dw_a2, dw_w2, dw_a3, dw_w3, dw_a4, dw_w4, dw_a5, dw_w5, dw_a6, dw_w6, dw_a7, dw_w7, dw_a8, dw_w8, dw_a9_0, dw_s9_0, dw_a9_1, dw_s9_1, dw_a10, dw_w10, dw_a10_0, dw_w10_0, dw_a10_1, dw_w10_1, dw_a10_2, dw_w10_2, dw_a11, dw_w11, dw_a12, dw_w12, dw_a13, dw_w13, dw_a14, dw_w14, dw_a15, dw_w15, dw_a16, dw_w16, dw_a17, dw_w17, dw_a17_0, dw_w17_0, dw_a18, dw_w18, dw_a18_0, dw_w18_0, dw_a18_1, dw_w18_1, dw_a18_2, dw_w18_2, dw_a18_3, dw_w18_3, dw_a18_4, dw_w18_4, dw_a18_5, dw_w18_5, dw_a19, dw_w19, dw_a19_24, dw_w19_24, dw_a20, dw_w20, e1]); first | with_reducible rw [bnd_s] | with_reducible rw [bn2_s] | with_reducible rw [grd_t]))
  by_cases c : dw_tw H s a d = 0
  · rw [if_pos c, if_pos c]
    obtain ⟨q, j, hq, hj, rfl, rfl, h6⟩ := e2 c
    repeat (first | with_reducible rw [bnd_s] | with_reducible rw [nmd_s] | with_reducible rw [bn2_s] | with_reducible rw [grd_t] | ((conv => arg 1; arg 1; simp (disch := omega) only [dw_is, dw_f0, dw_t0, dw_f9, dw_t9, dw_f12, dw_t12, dw_f13, dw_t13, dw_f14, dw_t14, dw_f22, dw_t22, dw_f23, dw_t23, dw_f24, dw_t24, dw_f25, dw_t25, dw_f28, dw_t28, dw_f29, dw_t29, dw_f30, dw_t30, dw_f35, dw_t35, dw_f7, dw_t7, dw_f5, dw_t5, dw_f6, dw_t6, dw_f1, dw_f2, dw_f3, dw_f4, dw_f8, dw_f10, dw_f11, dw_f15, dw_f16, dw_f17, dw_f18, dw_f19, dw_f20, dw_f21, dw_f26, dw_f27, dw_f31, dw_f32, dw_f33, dw_f34, dw_a1, dw_w1, dw_a2, dw_w2, dw_a3, dw_w3, dw_a4, dw_w4, dw_a5, dw_w5, dw_a6, dw_w6, dw_a7, dw_w7, dw_a8, dw_w8, dw_a9_0, dw_s9_0, dw_a9_1, dw_s9_1, dw_a10, dw_w10, dw_a10_0, dw_w10_0, dw_a10_1, dw_w10_1, dw_a10_2, dw_w10_2, dw_a11, dw_w11, dw_a12, dw_w12, dw_a13, dw_w13, dw_a14, dw_w14, dw_a15, dw_w15, dw_a16, dw_w16, dw_a17, dw_w17, dw_a17_0, dw_w17_0, dw_a18, dw_w18, dw_a18_0, dw_w18_0, dw_a18_1, dw_w18_1, dw_a18_2, dw_w18_2, dw_a18_3, dw_w18_3, dw_a18_4, dw_w18_4, dw_a18_5, dw_w18_5, dw_a19, dw_w19, dw_a19_24, dw_w19_24, dw_a20, dw_w20]); first | with_reducible rw [bnd_s] | with_reducible rw [bn2_s] | with_reducible rw [grd_t]))
    rw [dw_N_nI (by omega)]
    have h2 := dw_Mlaws25 h hs hok htx hx hL hq hj (999 - tx) tx 0 (dw_gI X 13) R G X S N 0 (by omega) (dw_Eq_sy (dw_Eq_I13own rfl)) (fun _ _ => rfl) (fun _ _ => rfl)
    rw [show 999 - tx + tx + 1 = 1000 by omega] at h2
    exact h2
  · rw [if_neg c, if_neg c]
    exact dw_Bk_id
end MC
