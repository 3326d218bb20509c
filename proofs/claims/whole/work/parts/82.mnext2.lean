/-! THE REFERENCE: a token from the tape, all of it -/
theorem dw_sg_c0 : ∀ n, n < 256 → dw_tc (dw_sg (nI n)) = if (n = 40 ∨ n = 41 ∨ n = 59 ∨ n = 43) ∨ n = 45 ∨ n = 42 ∨ n = 60 ∨ n = 61 then nI n else -1 := by decide +kernel
theorem dw_sg_c {n : Nat} (hn : n < 256) : (n = 40 ∨ n = 41 ∨ n = 59 ∨ n = 43) ∨ n = 45 ∨ n = 42 ∨ n = 60 ∨ n = 61 → nI n = dw_tc (dw_sg (nI n)) := fun h => by
  rw [dw_sg_c0 n hn, if_pos h]
theorem dw_sg_d {n : Nat} (hn : n < 256) (h : ¬ ((n = 40 ∨ n = 41 ∨ n = 59 ∨ n = 43) ∨ n = 45 ∨ n = 42 ∨ n = 60 ∨ n = 61)) : -1 = dw_tc (dw_sg (nI n)) := by
  rw [dw_sg_c0 n hn, if_neg h]
theorem dw_sg_v : ∀ n, n < 256 → 10006 ≤ dw_sg (nI n) ∧ ¬ (10015 ≤ dw_sg (nI n) ∧ dw_sg (nI n) ≤ 10017) := by decide +kernel
section MN
variable {R G S N : Nat → Int32} {y : Int32} {tb : Nat → Nat} {tp : Nat}
theorem dw_Mn390 {X : dw_X} {p : Nat} {c t : Int32} (h23 : dw_gI X 23 = nI p) (h22 : dw_gI X 22 = nI p) (ht : c = t) : dw_Z (M_next_390 (dw_mk X R G S N y) 0 c 0) (fun z => ∃ X', z = some (dw_mk X' R G S N y, ()) ∧ dw_Kx X X' ∧ dw_gI X' 23 = nI p ∧ dw_gI X' 24 = t ∧ dw_gI X' 22 = nI (p + 1)) := by
  rw [M_next_390]
  have h22' : dw_gI (dw_I X 24 c) 22 = nI p := by rw [dw_IIn (by decide), h22]
  repeat (first | with_reducible rw [bnd_s] | with_reducible rw [nmd_s] | with_reducible rw [bn2_s] | with_reducible rw [grd_t] | ((conv => arg 1; arg 1; simp (disch := omega) only [dw_is, dw_f0, dw_t0, dw_f9, dw_t9, dw_f12, dw_t12, dw_f13, dw_t13, dw_f14, dw_t14, dw_f22, dw_t22, dw_f23, dw_t23, dw_f24, dw_t24, dw_f25, dw_t25, dw_f28, dw_t28, dw_f29, dw_t29, dw_f30, dw_t30, dw_f35, dw_t35, dw_f7, dw_t7, dw_f5, dw_t5, dw_f6, dw_t6, dw_f1, dw_f2, dw_f3, dw_f4, dw_f8, dw_f10, dw_f11, dw_f15, dw_f16, dw_f17, dw_f18, dw_f19, dw_f20, dw_f21, dw_f26, dw_f27, dw_f31, dw_f32, dw_f33, dw_f34, dw_a1, dw_w1, dw_a2, dw_w2, dw_a3, dw_w3, dw_a4, dw_w4, dw_a5, dw_w5, dw_a6, dw_w6, dw_a7, dw_w7, dw_a8, dw_w8, dw_a9_0, dw_s9_0, dw_a9_1, dw_s9_1, dw_a10, dw_w10, dw_a10_0, dw_w10_0, dw_a10_1, dw_w10_1, dw_a10_2, dw_w10_2, dw_a11, dw_w11, dw_a12, dw_w12, dw_a13, dw_w13, dw_a14, dw_w14, dw_a15, dw_w15, dw_a16, dw_w16, dw_a17, dw_w17, dw_a17_0, dw_w17_0, dw_a18, dw_w18, dw_a18_0, dw_w18_0, dw_a18_1, dw_w18_1, dw_a18_2, dw_w18_2, dw_a18_3, dw_w18_3, dw_a18_4, dw_w18_4, dw_a18_5, dw_w18_5, dw_a19, dw_w19, dw_a19_24, dw_w19_24, dw_a20, dw_w20, h22']); first | with_reducible rw [bnd_s] | with_reducible rw [bn2_s] | with_reducible rw [grd_t]))
  refine ⟨_, rfl, dw_Kx_tr (dw_Kx_I (by decide) (by decide)) (dw_Kx_I (k := 22) (by decide) (by decide)), ?_, ?_, ?_⟩
  · rw [dw_IIn (by decide), dw_IIn (by decide), h23]
  · rw [dw_IIn (by decide), dw_II, if_pos rfl, ht]
  · rw [dw_II, if_pos rfl, nI_1]
theorem dw_Mn52 {X : dw_X} (htp : tp ≤ 160) (hb : ∀ j, j < tp → tb j < 256) (hT : dw_TA X tb tp) {i : Nat} (hi : i ≤ tp) (h22 : dw_gI X 22 = nI (dw_sk dw_isB tb tp 160 i)) : dw_Z (M_next_52 (dw_mk X R G S N y) 0) (fun z => ∃ X', z = some (dw_mk X' R G S N y, ()) ∧ dw_NS tb tp i X X') := by
  have hP : dw_sk dw_isB tb tp 160 i ≤ tp := by
    rcases dw_sk_le dw_isB tb tp 160 i with h | h <;> omega
  rw [M_next_52]
  unfold dw_NS dw_pl1 dw_tk dw_nx dw_lex
  generalize dw_sk dw_isB tb tp 160 i = P at *
  generalize eX4 : dw_I (dw_I (dw_I X 23 (nI P)) 24 0) 25 0 = X4
  have k4 : dw_Kx X X4 := by
    rw [← eX4]
    exact dw_Kx_tr (dw_Kx_tr (dw_Kx_I (by decide) (by decide)) (dw_Kx_I (k := 24) (by decide) (by decide))) (dw_Kx_I (k := 25) (by decide) (by decide))
  have a23 : dw_gI X4 23 = nI P := by rw [← eX4, dw_IIn (by decide), dw_IIn (by decide), dw_II, if_pos rfl]
  have a24 : dw_gI X4 24 = 0 := by rw [← eX4, dw_IIn (by decide), dw_II, if_pos rfl]
  have a25 : dw_gI X4 25 = 0 := by rw [← eX4, dw_II, if_pos rfl]
  have a22 : dw_gI X4 22 = nI P := by rw [← eX4, dw_IIn (by decide), dw_IIn (by decide), dw_IIn (by decide), h22]
  have T4 := dw_TA_Kx hT k4
  repeat (first | with_reducible rw [bnd_s] | with_reducible rw [nmd_s] | with_reducible rw [bn2_s] | with_reducible rw [grd_t] | ((conv => arg 1; arg 1; simp (disch := omega) only [dw_is, dw_f0, dw_t0, dw_f9, dw_t9, dw_f12, dw_t12, dw_f13, dw_t13, dw_f14, dw_t14, dw_f22, dw_t22, dw_f23, dw_t23, dw_f24, dw_t24, dw_f25, dw_t25, dw_f28, dw_t28, dw_f29, dw_t29, dw_f30, dw_t30, dw_f35, dw_t35, dw_f7, dw_t7, dw_f5, dw_t5, dw_f6, dw_t6, dw_f1, dw_f2, dw_f3, dw_f4, dw_f8, dw_f10, dw_f11, dw_f15, dw_f16, dw_f17, dw_f18, dw_f19, dw_f20, dw_f21, dw_f26, dw_f27, dw_f31, dw_f32, dw_f33, dw_f34, dw_a1, dw_w1, dw_a2, dw_w2, dw_a3, dw_w3, dw_a4, dw_w4, dw_a5, dw_w5, dw_a6, dw_w6, dw_a7, dw_w7, dw_a8, dw_w8, dw_a9_0, dw_s9_0, dw_a9_1, dw_s9_1, dw_a10, dw_w10, dw_a10_0, dw_w10_0, dw_a10_1, dw_w10_1, dw_a10_2, dw_w10_2, dw_a11, dw_w11, dw_a12, dw_w12, dw_a13, dw_w13, dw_a14, dw_w14, dw_a15, dw_w15, dw_a16, dw_w16, dw_a17, dw_w17, dw_a17_0, dw_w17_0, dw_a18, dw_w18, dw_a18_0, dw_w18_0, dw_a18_1, dw_w18_1, dw_a18_2, dw_w18_2, dw_a18_3, dw_w18_3, dw_a18_4, dw_w18_4, dw_a18_5, dw_w18_5, dw_a19, dw_w19, dw_a19_24, dw_w19_24, dw_a20, dw_w20, h22]); first | with_reducible rw [bnd_s] | with_reducible rw [bn2_s] | with_reducible rw [grd_t]))
  rw [eX4, a22, T4.1]
  by_cases c : P < tp
  · rw [if_neg (dw_ne (by omega) (by omega) (by omega))]
    have eb : dw_by tb tp P = nI (tb P) := by rw [dw_by, if_pos c]
    have hc256 := hb P c
    rw [eb]
    repeat (first | with_reducible rw [bnd_s] | with_reducible rw [nmd_s] | with_reducible rw [bn2_s] | with_reducible rw [grd_t] | ((conv => arg 1; arg 1; simp (disch := omega) only [dw_is, dw_f0, dw_t0, dw_f9, dw_t9, dw_f12, dw_t12, dw_f13, dw_t13, dw_f14, dw_t14, dw_f22, dw_t22, dw_f23, dw_t23, dw_f24, dw_t24, dw_f25, dw_t25, dw_f28, dw_t28, dw_f29, dw_t29, dw_f30, dw_t30, dw_f35, dw_t35, dw_f7, dw_t7, dw_f5, dw_t5, dw_f6, dw_t6, dw_f1, dw_f2, dw_f3, dw_f4, dw_f8, dw_f10, dw_f11, dw_f15, dw_f16, dw_f17, dw_f18, dw_f19, dw_f20, dw_f21, dw_f26, dw_f27, dw_f31, dw_f32, dw_f33, dw_f34, dw_a1, dw_w1, dw_a2, dw_w2, dw_a3, dw_w3, dw_a4, dw_w4, dw_a5, dw_w5, dw_a6, dw_w6, dw_a7, dw_w7, dw_a8, dw_w8, dw_a9_0, dw_s9_0, dw_a9_1, dw_s9_1, dw_a10, dw_w10, dw_a10_0, dw_w10_0, dw_a10_1, dw_w10_1, dw_a10_2, dw_w10_2, dw_a11, dw_w11, dw_a12, dw_w12, dw_a13, dw_w13, dw_a14, dw_w14, dw_a15, dw_w15, dw_a16, dw_w16, dw_a17, dw_w17, dw_a17_0, dw_w17_0, dw_a18, dw_w18, dw_a18_0, dw_w18_0, dw_a18_1, dw_w18_1, dw_a18_2, dw_w18_2, dw_a18_3, dw_w18_3, dw_a18_4, dw_w18_4, dw_a18_5, dw_w18_5, dw_a19, dw_w19, dw_a19_24, dw_w19_24, dw_a20, dw_w20, a22, T4.2.1 P c, dw_Min, dw_inL]); first | with_reducible rw [bnd_s] | with_reducible rw [bn2_s] | with_reducible rw [grd_t]))
    by_cases cL : dw_isL (nI (tb P)) = true
    · have hLD := dw_LD _ hc256 cL
      rw [if_pos cL, if_neg (show ¬ (1 : Int32) = 0 by decide)]
      simp only [hLD.1]
      simp only [if_neg (show ¬ (false = true) by decide)]
      simp only [if_pos cL]
      obtain ⟨X5, e1, e2, e3, e4⟩ := dw_Mn103 (R := R) (G := G) (S := S) (N := N) (y := y) htp 839 160 P X4 (by omega) hP T4 a22
      have e1' : M_next_103 1000 (dw_mk X4 R G S N y) 0 = _ := e1
      have k5 : dw_Kx X4 X5 := ⟨e2, fun j hj => e3 j (by omega)⟩
      have hE : dw_sk dw_isL tb tp 160 P ≤ tp := by
        rcases dw_sk_le dw_isL tb tp 160 P with h | h <;> omega
      have hall := dw_sk_all dw_isL tb tp 160 P
      have hge := dw_sk_ge dw_isL tb tp 160 P
      generalize dw_sk dw_isL tb tp 160 P = E at *
      have b23 : dw_gI X5 23 = nI P := by rw [e3 23 (by decide), a23]
      have b22 : dw_gI X5 22 = nI (P + (E - P)) := by rw [e4, show P + (E - P) = E by omega]
      obtain ⟨X6, f1, f2, f3, f4, f5, f6⟩ := dw_Mn146 (R := R) (G := G) (S := S) (N := N) (y := y) htp hb (dw_TA_Kx T4 k5) (p := P) (n := E - P) (by omega) (fun x hx => by
        obtain ⟨q1, q2⟩ := hall (P + x) (by omega) (by omega)
        exact (dw_LD _ (hb _ q1) q2).2) b23 b22
      refine ⟨X6, ?_, dw_Kx_tr k4 (dw_Kx_tr k5 f2), f3, f4, f5, fun _ => ?_⟩
      · rw [e1']
        exact f1
      · rw [f6, show P + (E - P) = E by omega]
    · rw [if_neg cL, if_pos (show (0 : Int32) = 0 from rfl)]
      repeat (first | with_reducible rw [bnd_s] | with_reducible rw [nmd_s] | with_reducible rw [bn2_s] | with_reducible rw [grd_t] | ((conv => arg 1; arg 1; simp (disch := omega) only [dw_is, dw_f0, dw_t0, dw_f9, dw_t9, dw_f12, dw_t12, dw_f13, dw_t13, dw_f14, dw_t14, dw_f22, dw_t22, dw_f23, dw_t23, dw_f24, dw_t24, dw_f25, dw_t25, dw_f28, dw_t28, dw_f29, dw_t29, dw_f30, dw_t30, dw_f35, dw_t35, dw_f7, dw_t7, dw_f5, dw_t5, dw_f6, dw_t6, dw_f1, dw_f2, dw_f3, dw_f4, dw_f8, dw_f10, dw_f11, dw_f15, dw_f16, dw_f17, dw_f18, dw_f19, dw_f20, dw_f21, dw_f26, dw_f27, dw_f31, dw_f32, dw_f33, dw_f34, dw_a1, dw_w1, dw_a2, dw_w2, dw_a3, dw_w3, dw_a4, dw_w4, dw_a5, dw_w5, dw_a6, dw_w6, dw_a7, dw_w7, dw_a8, dw_w8, dw_a9_0, dw_s9_0, dw_a9_1, dw_s9_1, dw_a10, dw_w10, dw_a10_0, dw_w10_0, dw_a10_1, dw_w10_1, dw_a10_2, dw_w10_2, dw_a11, dw_w11, dw_a12, dw_w12, dw_a13, dw_w13, dw_a14, dw_w14, dw_a15, dw_w15, dw_a16, dw_w16, dw_a17, dw_w17, dw_a17_0, dw_w17_0, dw_a18, dw_w18, dw_a18_0, dw_w18_0, dw_a18_1, dw_w18_1, dw_a18_2, dw_w18_2, dw_a18_3, dw_w18_3, dw_a18_4, dw_w18_4, dw_a18_5, dw_w18_5, dw_a19, dw_w19, dw_a19_24, dw_w19_24, dw_a20, dw_w20, dw_Min, dw_inD]); first | with_reducible rw [bnd_s] | with_reducible rw [bn2_s] | with_reducible rw [grd_t]))
      by_cases cD : dw_isD (nI (tb P)) = true
      · rw [if_pos cD, if_neg (show ¬ (1 : Int32) = 0 by decide)]
        simp only [if_pos cD]
        obtain ⟨X5, e1, e2, e3, e4, e5⟩ := dw_Mn230 (R := R) (G := G) (S := S) (N := N) (y := y) htp hb 839 160 P 0 0 X4 (by omega) hP (Nat.zero_le _) T4 a22 a25
        have e1' : M_next_230 1000 (dw_mk X4 R G S N y) 0 0 = _ := e1
        have hE : dw_sk dw_isD tb tp 160 P ≤ tp := by
          rcases dw_sk_le dw_isD tb tp 160 P with h | h <;> omega
        have hall := dw_sk_all dw_isD tb tp 160 P
        generalize dw_sk dw_isD tb tp 160 P = E at *
        rw [Nat.zero_add] at e1' e5
        rw [e1', M_next_309]
        by_cases c4 : E - P ≤ 4
        · have hv := dw_vD_lt tb (E - P) P 0 0 (by decide) (fun j j1 j2 => by
            obtain ⟨k1, k2⟩ := hall j j1 (by omega)
            exact (dw_isD48 _ (hb j k1) k2).2)
          have h4 : 10 ^ (0 + (E - P)) ≤ 10 ^ 4 := Nat.pow_le_pow_right (by decide) (by omega)
          have ev := e5 c4
          generalize dw_vD tb P (E - P) 0 = V at *
          rw [if_pos (show nI (E - P) ≤ 4 from nI_le (b := 4) c4 (by omega)), M_next_320]
          simp only [if_pos c4]
          repeat (first | with_reducible rw [bnd_s] | with_reducible rw [nmd_s] | with_reducible rw [bn2_s] | with_reducible rw [grd_t] | ((conv => arg 1; arg 1; simp (disch := omega) only [dw_is, dw_f0, dw_t0, dw_f9, dw_t9, dw_f12, dw_t12, dw_f13, dw_t13, dw_f14, dw_t14, dw_f22, dw_t22, dw_f23, dw_t23, dw_f24, dw_t24, dw_f25, dw_t25, dw_f28, dw_t28, dw_f29, dw_t29, dw_f30, dw_t30, dw_f35, dw_t35, dw_f7, dw_t7, dw_f5, dw_t5, dw_f6, dw_t6, dw_f1, dw_f2, dw_f3, dw_f4, dw_f8, dw_f10, dw_f11, dw_f15, dw_f16, dw_f17, dw_f18, dw_f19, dw_f20, dw_f21, dw_f26, dw_f27, dw_f31, dw_f32, dw_f33, dw_f34, dw_a1, dw_w1, dw_a2, dw_w2, dw_a3, dw_w3, dw_a4, dw_w4, dw_a5, dw_w5, dw_a6, dw_w6, dw_a7, dw_w7, dw_a8, dw_w8, dw_a9_0, dw_s9_0, dw_a9_1, dw_s9_1, dw_a10, dw_w10, dw_a10_0, dw_w10_0, dw_a10_1, dw_w10_1, dw_a10_2, dw_w10_2, dw_a11, dw_w11, dw_a12, dw_w12, dw_a13, dw_w13, dw_a14, dw_w14, dw_a15, dw_w15, dw_a16, dw_w16, dw_a17, dw_w17, dw_a17_0, dw_w17_0, dw_a18, dw_w18, dw_a18_0, dw_w18_0, dw_a18_1, dw_w18_1, dw_a18_2, dw_w18_2, dw_a18_3, dw_w18_3, dw_a18_4, dw_w18_4, dw_a18_5, dw_w18_5, dw_a19, dw_w19, dw_a19_24, dw_w19_24, dw_a20, dw_w20]); first | with_reducible rw [bnd_s] | with_reducible rw [bn2_s] | with_reducible rw [grd_t]))
          refine ⟨_, rfl, dw_Kx_tr k4 (dw_Kx_tr e2 (dw_Kx_I (by decide) (by decide))), ?_, ?_, fun _ => ?_, fun _ => ?_⟩
          · rw [dw_IIn (by decide), e3, a23]
          · rw [dw_II, if_pos rfl, dw_tc, if_pos (by omega)]
          · rw [dw_IIn (by decide), ev, dw_tv, if_pos (by omega)]
          · rw [dw_IIn (by decide), e4]
        · rw [if_neg (show ¬ nI (E - P) ≤ 4 from nI_ge (a := 4) (by omega) (by omega)), M_next_320]
          simp only [if_neg c4]
          repeat (first | with_reducible rw [bnd_s] | with_reducible rw [nmd_s] | with_reducible rw [bn2_s] | with_reducible rw [grd_t] | ((conv => arg 1; arg 1; simp (disch := omega) only [dw_is, dw_f0, dw_t0, dw_f9, dw_t9, dw_f12, dw_t12, dw_f13, dw_t13, dw_f14, dw_t14, dw_f22, dw_t22, dw_f23, dw_t23, dw_f24, dw_t24, dw_f25, dw_t25, dw_f28, dw_t28, dw_f29, dw_t29, dw_f30, dw_t30, dw_f35, dw_t35, dw_f7, dw_t7, dw_f5, dw_t5, dw_f6, dw_t6, dw_f1, dw_f2, dw_f3, dw_f4, dw_f8, dw_f10, dw_f11, dw_f15, dw_f16, dw_f17, dw_f18, dw_f19, dw_f20, dw_f21, dw_f26, dw_f27, dw_f31, dw_f32, dw_f33, dw_f34, dw_a1, dw_w1, dw_a2, dw_w2, dw_a3, dw_w3, dw_a4, dw_w4, dw_a5, dw_w5, dw_a6, dw_w6, dw_a7, dw_w7, dw_a8, dw_w8, dw_a9_0, dw_s9_0, dw_a9_1, dw_s9_1, dw_a10, dw_w10, dw_a10_0, dw_w10_0, dw_a10_1, dw_w10_1, dw_a10_2, dw_w10_2, dw_a11, dw_w11, dw_a12, dw_w12, dw_a13, dw_w13, dw_a14, dw_w14, dw_a15, dw_w15, dw_a16, dw_w16, dw_a17, dw_w17, dw_a17_0, dw_w17_0, dw_a18, dw_w18, dw_a18_0, dw_w18_0, dw_a18_1, dw_w18_1, dw_a18_2, dw_w18_2, dw_a18_3, dw_w18_3, dw_a18_4, dw_w18_4, dw_a18_5, dw_w18_5, dw_a19, dw_w19, dw_a19_24, dw_w19_24, dw_a20, dw_w20]); first | with_reducible rw [bnd_s] | with_reducible rw [bn2_s] | with_reducible rw [grd_t]))
          refine ⟨_, rfl, dw_Kx_tr k4 (dw_Kx_tr e2 (dw_Kx_I (by decide) (by decide))), ?_, ?_, fun q => absurd q (by omega), fun _ => ?_⟩
          · rw [dw_IIn (by decide), e3, a23]
          · rw [dw_II, if_pos rfl]
            rfl
          · rw [dw_IIn (by decide), e4]
      · rw [if_neg cD, if_pos (show (0 : Int32) = 0 from rfl)]
        simp only [if_neg cD, if_neg cL, if_pos c]
        obtain ⟨v1, v2⟩ := dw_sg_v _ hc256
        have hS := dw_sg_c hc256
        have hD := dw_sg_d hc256
        have hq : ∀ k, k < 256 → ¬ nI (tb P) = nI k → tb P ≠ k := fun k hk q e => q (by rw [e])
        have hq1 : ∀ k, k < 256 → nI (tb P) = nI k → tb P = k := fun k hk e => (nI_eq (by omega) (by omega)).mp e
        have fin : ∀ t, t = dw_tc (dw_sg (nI (tb P))) → dw_Z (M_next_390 (dw_mk X4 R G S N y) 0 t 0) (fun z => ∃ X', z = some (dw_mk X' R G S N y, ()) ∧ dw_Kx X X' ∧ dw_gI X' 23 = nI P ∧ dw_gI X' 24 = dw_tc (dw_sg (nI (tb P))) ∧ ((dw_sg (nI (tb P)) ≤ 10005 ∨ (10015 ≤ dw_sg (nI (tb P)) ∧ dw_sg (nI (tb P)) ≤ 10017)) → dw_gI X' 25 = dw_tv (dw_sg (nI (tb P)))) ∧ (dw_sg (nI (tb P)) ≠ 10021 → dw_gI X' 22 = nI (P + 1))) := by
          intro t ht
          obtain ⟨X5, e1, e2, e3, e4, e5⟩ := dw_Mn390 (R := R) (G := G) (S := S) (N := N) (y := y) (X := X4) (p := P) a23 a22 ht
          exact ⟨X5, e1, dw_Kx_tr k4 e2, e3, e4, fun q => absurd q (by omega), fun _ => e5⟩
        have sgn : nI (tb P) = dw_tc (dw_sg (nI (tb P))) → dw_Z (M_next_374 (dw_mk X4 R G S N y) 0 (nI (tb P))) (fun z => ∃ X', z = some (dw_mk X' R G S N y, ()) ∧ dw_Kx X X' ∧ dw_gI X' 23 = nI P ∧ dw_gI X' 24 = dw_tc (dw_sg (nI (tb P))) ∧ ((dw_sg (nI (tb P)) ≤ 10005 ∨ (10015 ≤ dw_sg (nI (tb P)) ∧ dw_sg (nI (tb P)) ≤ 10017)) → dw_gI X' 25 = dw_tv (dw_sg (nI (tb P)))) ∧ (dw_sg (nI (tb P)) ≠ 10021 → dw_gI X' 22 = nI (P + 1))) := by
          intro h
          rw [M_next_374, M_next_379, if_neg (by decide)]
          exact fin _ h
        by_cases c1 : nI (tb P) = 40
        · rw [if_pos c1]
          exact sgn (hS (by have := hq1 40 (by decide) c1; omega))
        rw [if_neg c1]
        by_cases c2 : nI (tb P) = 41
        · rw [if_pos c2]
          exact sgn (hS (by have := hq1 41 (by decide) c2; omega))
        rw [if_neg c2]
        by_cases c3 : nI (tb P) = 59
        · rw [if_pos c3]
          exact sgn (hS (by have := hq1 59 (by decide) c3; omega))
        rw [if_neg c3]
        by_cases c4 : nI (tb P) = 43
        · rw [if_pos c4]
          exact sgn (hS (by have := hq1 43 (by decide) c4; omega))
        rw [if_neg c4]
        by_cases c5 : nI (tb P) = 45
        · rw [if_pos c5]
          exact sgn (hS (by have := hq1 45 (by decide) c5; omega))
        rw [if_neg c5]
        by_cases c6 : nI (tb P) = 42
        · rw [if_pos c6]
          exact sgn (hS (by have := hq1 42 (by decide) c6; omega))
        rw [if_neg c6]
        by_cases c7 : nI (tb P) = 60
        · rw [if_pos c7]
          exact sgn (hS (by have := hq1 60 (by decide) c7; omega))
        rw [if_neg c7]
        by_cases c8 : nI (tb P) = 61
        · rw [if_pos c8]
          exact sgn (hS (by have := hq1 61 (by decide) c8; omega))
        rw [if_neg c8, M_next_379, if_pos rfl]
        exact fin (-1) (hD (by
          have e1 := hq 40 (by decide) c1
          have e2 := hq 41 (by decide) c2
          have e3 := hq 59 (by decide) c3
          have e4 := hq 43 (by decide) c4
          have e5 := hq 45 (by decide) c5
          have e6 := hq 42 (by decide) c6
          have e7 := hq 60 (by decide) c7
          have e8 := hq 61 (by decide) c8
          omega))
  · have ePt : P = tp := by omega
    have eb : dw_by tb tp P = -1 := by rw [dw_by, if_neg c]
    rw [if_pos (by rw [ePt]), eb]
    simp only [dw_isDm, dw_isLm, if_neg (show ¬ (false = true) by decide), if_neg c]
    exact ⟨X4, rfl, k4, a23, a24, fun q => absurd q (by omega), fun q => absurd rfl q⟩
theorem dw_Mnext {X : dw_X} (htp : tp ≤ 160) (hb : ∀ j, j < tp → tb j < 256) (hT : dw_TA X tb tp) {i : Nat} (hi : i ≤ tp) (h22 : dw_gI X 22 = nI i) : dw_Z (M_next (dw_mk X R G S N y) 0) (fun z => ∃ X', z = some (dw_mk X' R G S N y, ()) ∧ dw_NS tb tp i X X') := by
  obtain ⟨X1, e1, e2, e3⟩ := dw_Mn0 (R := R) (G := G) (S := S) (N := N) (y := y) htp 839 160 i X (by omega) hi hT h22
  have e1' : M_next (dw_mk X R G S N y) 0 = _ := e1
  rw [e1']
  obtain ⟨X2, f1, f2, f3⟩ := dw_Mn52 (R := R) (G := G) (S := S) (N := N) (y := y) htp hb (dw_TA_Kx hT e2) hi e3
  exact ⟨X2, f1, dw_Kx_tr e2 f2, f3⟩
end MN
