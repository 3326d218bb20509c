/-! THE CLASS: text() -/
section CO
variable {N T : dw_B} {Z : pm_H} {kp : Value} {tf : Nat → Option Nat} {ti B C U : Nat → Int32} {H : dw_H} {l : Nat} {k : Nat → Int32} {r m yy tx tp : Nat} {s : dw_L} {ho cl : Int64} {wt : Nat → dw_W} {tb : Nat → Nat} {im : Option dw_Ln}
theorem dw_Ctx1 (htx : tx < 6) {n : Int32} {E : List Value} {D : pm_H} : (bnd (op_A (dw_cl (dw_pre (nI tx) kp tf ti B C U H) N T (Z ++ (.inr (2, .int n :: E) :: D))) 0 5 0) fun x17q => bnd (op_I (dw_cl (dw_pre (nI tx) kp tf ti B C U H) N T (Z ++ (.inr (2, .int n :: E) :: D))) 0 5 1) fun x18q => bnd x17q fun u19q => bnd (op_sA (dw_cl (dw_pre (nI tx) kp tf ti B C U H) N T (Z ++ (.inr (2, .int n :: E) :: D))) u19q 2 x18q (37 + Z.length)) fun h20q => bnd (op_I h20q 0 5 1) fun x21q => bnd (op_S h20q 0 5 1 (.int (x21q + 1))) fun h22q => bnd (op_I h22q (37 + Z.length) 2 0) fun x23q => some (h22q, x23q)) = some (dw_cl (dw_pre (nI (tx + 1)) kp (va_up tf tx (some (37 + Z.length))) ti B C U H) N T (Z ++ (.inr (2, .int n :: E) :: D)), n) := by
  have es : op_sA (dw_cl (dw_pre (nI tx) kp tf ti B C U H) N T (Z ++ (.inr (2, .int n :: E) :: D))) 1 2 (nI tx) (37 + Z.length) = some (dw_cl (dw_pre (nI tx) kp (va_up tf tx (some (37 + Z.length))) ti B C U H) N T (Z ++ (.inr (2, .int n :: E) :: D))) := by
    unfold op_sA
    rw [show (dw_cl (dw_pre (nI tx) kp tf ti B C U H) N T (Z ++ (.inr (2, .int n :: E) :: D)))[37 + Z.length]? = _ from dw_zg (j := 0) dw_x_pl (Nat.succ_pos _)]
    show (if 5 = 2 + 3 ∧ 2 = 2 then (if nI tx < 0 ∨ 6 ≤ (nI tx).toNatClampNeg then none else some ((dw_cl (dw_pre (nI tx) kp tf ti B C U H) N T (Z ++ (.inr (2, .int n :: E) :: D))).set 1 (.inl (2 + 3, 6, .inr (.inr (.inr (.inr (va_up tf (nI tx).toNatClampNeg (some (37 + Z.length)))))))))) else none) = _
    rw [if_pos ⟨rfl, rfl⟩, nI_clamp (by omega), if_neg (fun c => by
      rcases c with c | c
      · exact nI_pos (by omega) c
      · omega)]
    rfl
  have eI : ∀ tk tf, op_I (dw_cl (dw_pre tk kp tf ti B C U H) N T (Z ++ (.inr (2, .int n :: E) :: D))) (37 + Z.length) 2 0 = some n := by
    intro tk tf
    unfold op_I
    rw [show (dw_cl (dw_pre tk kp tf ti B C U H) N T (Z ++ (.inr (2, .int n :: E) :: D)))[37 + Z.length]? = _ from dw_zg (j := 0) dw_x_pl (Nat.succ_pos _)]
    rfl
  repeat (first | with_reducible rw [bnd_s] | with_reducible rw [nmd_s] | with_reducible rw [bn2_s] | with_reducible rw [grd_t] | ((conv => arg 1; arg 1; simp (disch := omega) only [dw_x_is, dw_x_f0, dw_x_f1, dw_x_t1, dw_x_f2, dw_x_f3, dw_x_f4, dw_x_t5, dw_x_f6, dw_x_f7, dw_x_tis, dw_x_p0, dw_x_p6, dw_x_p1, dw_x_q1, dw_x_p2, dw_x_q2, dw_x_p3, dw_x_q3, dw_x_p4, dw_x_q4, dw_x_p5, dw_x_q5, dw_x_p7, dw_x_q7, dw_x_ln1, dw_x_ln3, dw_x_ln4, dw_x_ln5, dw_x_ln6, dw_x_a6, dw_x_w6, dw_x_a4, dw_x_w4, dw_ct_is dw_x_pl, dw_ct_A0 dw_x_pl, dw_ct_I1 dw_x_pl, dw_ct_J2 dw_x_pl, dw_ct_J3 dw_x_pl, dw_ct_I4 dw_x_pl, dw_ct_A5 dw_x_pl, dw_ct_S1 dw_x_pl, dw_ct_S2 dw_x_pl, dw_ct_S3 dw_x_pl, dw_ct_S5 dw_x_pl, dw_ct_ln dw_x_pl, dw_ct_aA dw_x_pl, dw_ct_dis dw_x_pl, dw_ct_dI0 dw_x_pl, dw_ct_dI1 dw_x_pl, dw_ct_dI2 dw_x_pl, dw_ct_dI3 dw_x_pl, dw_ct_dI4 dw_x_pl, dw_ct_dI5 dw_x_pl, dw_ct_dI6 dw_x_pl, dw_ct_dS1 dw_x_pl, dw_ct_dS2 dw_x_pl, dw_ct_dS3 dw_x_pl, dw_ct_dS4 dw_x_pl, dw_ct_dS5 dw_x_pl, dw_ct_dS6 dw_x_pl, dw_ct_Dyd dw_x_pl, dw_ct_Dwk dw_x_pl, dw_ct_Dfg dw_x_pl, dw_ct_Dq dw_x_pl, dw_ct_Dc dw_x_pl, dw_ct_onC dw_x_pl, dw_ct_li dw_x_pl, dw_ct_sa dw_x_pl, dw_cn_is dw_x_pl, dw_cn_A0 dw_x_pl, dw_cn_I1 dw_x_pl, dw_cn_J2 dw_x_pl, dw_cn_J3 dw_x_pl, dw_cn_I4 dw_x_pl, dw_cn_A5 dw_x_pl, dw_cn_S1 dw_x_pl, dw_cn_S2 dw_x_pl, dw_cn_S3 dw_x_pl, dw_cn_S5 dw_x_pl, dw_cn_ln dw_x_pl, dw_cn_aA dw_x_pl, dw_cn_dis dw_x_pl, dw_cn_dI0 dw_x_pl, dw_cn_dI1 dw_x_pl, dw_cn_dI2 dw_x_pl, dw_cn_dI3 dw_x_pl, dw_cn_dI4 dw_x_pl, dw_cn_dI5 dw_x_pl, dw_cn_dI6 dw_x_pl, dw_cn_dS1 dw_x_pl, dw_cn_dS2 dw_x_pl, dw_cn_dS3 dw_x_pl, dw_cn_dS4 dw_x_pl, dw_cn_dS5 dw_x_pl, dw_cn_dS6 dw_x_pl, dw_cn_Dyd dw_x_pl, dw_cn_Dwk dw_x_pl, dw_cn_Dfg dw_x_pl, dw_cn_Dq dw_x_pl, dw_cn_Dc dw_x_pl, dw_cn_onC dw_x_pl, dw_cn_li dw_x_pl, dw_cn_sa dw_x_pl, es, nI_1]); first | with_reducible rw [bnd_s] | with_reducible rw [bn2_s] | with_reducible rw [grd_t]))
  rw [eI, bnd_s]
theorem dw_Ctx2 (h : dw_CX kp tf ti B l Z ((m, s, yy, ho, cl, r), (tx, wt), (tp, tb), im, H)) (ok : dw_Ok ((m, s, yy, ho, cl, r), (tx, wt), (tp, tb), im, H)) {C' ti' : Nat → Int32} (htx : tx < 6) {g k' u : Nat} {w : dw_W} (hw : dw_LZ (Z ++ dw_nl (37 + Z.length) (nI tx) C' g k' u) Z.length (nI tx) w) (t1 : ti' 1 = 0) : dw_CX kp (va_up tf tx (some (37 + Z.length))) ti' B l (Z ++ dw_nl (37 + Z.length) (nI tx) C' g k' u) ((m, s, yy, ho, cl, r), (tx + 1, fun t => if t = tx then w else wt t), (0, tb), im, H) := by
  obtain ⟨h1, h2, h3, h4, h5⟩ := id h
  obtain ⟨⟨o1, o2, o3, o4, o5, o6, o7⟩, k2, k3, k4, k5, k6, k7, k8⟩ := id ok
  have old : ∀ t, t < tx → va_up tf tx (some (37 + Z.length)) t = tf t := by
    intro t ht
    unfold va_up
    rw [if_neg (by omega)]
  refine ⟨fun t ht => ?_, by rw [old r o7]; exact h2, t1, fun j hj => absurd hj (Nat.not_lt_zero j), ?_⟩
  · by_cases c : t = tx
    · subst c
      refine ⟨37 + Z.length, ?_, ?_⟩
      · unfold va_up
        rw [if_pos rfl]
      · dsimp only
        rw [if_pos rfl]
        exact Or.inr ⟨Z.length, rfl, hw⟩
    · obtain ⟨a, e, q⟩ := h1 t (by omega)
      refine ⟨a, (old t (by omega)).trans e, ?_⟩
      dsimp only
      rw [if_neg c]
      exact dw_LP_app q
  · obtain ⟨h5, hzb⟩ := h5
    refine ⟨?_, ?_⟩
    · cases im with
      | none => exact h5
      | some l' =>
        obtain ⟨m', s', yy', ho', cl', r'⟩ := l'
        obtain ⟨a, Z1, Z2, l2, k2', e1, e2, ha, hr⟩ := h5
        have hr' : r' < tx := k7.1.2.2.2.2.2.2
        refine ⟨a, Z1, Z2 ++ dw_nl (37 + Z.length) (nI tx) C' g k' u, l2, k2', e1, ?_, ha, (old r' hr').trans hr⟩
        rw [e2]
        simp only [List.append_assoc]
    · obtain ⟨z1, z2⟩ := hzb
      have cell : ∀ q, q < 3 → ∀ n f, (dw_nl (37 + Z.length) (nI tx) C' g k' u)[1 + q]? = some (.inl (0, n, .inl f)) → n ≤ 160 := by
        intro q hq n f e
        obtain ⟨_, r2, f', r3, _⟩ := hw.2 q hq
        rw [Nat.add_assoc, List.getElem?_append_right (by omega), show Z.length + (1 + q) - Z.length = 1 + q by omega, e] at r3
        injection r3 with r3
        injection r3 with r3
        injection r3 with _ r3
        injection r3 with r3
        omega
      have c0 := cell 0 (by decide) g _ rfl
      have c1 := cell 1 (by decide) (k' - g) _ rfl
      have c2 := cell 2 (by decide) (u - k') _ rfl
      refine ⟨?_, ?_⟩
      · rw [List.length_append]
        show Z.length + 4 ≤ 4 * (tx + 1) + 9 * dw_ic im
        omega
      · rw [dw_sl_app]
        show pm_sl Z + (4 + (g + (k' - g + (u - k' + 0)))) ≤ 500 * (tx + 1) + 100 * dw_ic im
        omega
end CO
