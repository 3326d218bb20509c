/-! THE REFERENCE: text() -/
section MT
variable {X0 : dw_X} {R G S N : Nat → Int32} {y : Int32} {tx : Nat} {tb : Nat → Nat} {tp : Nat}
theorem dw_R_end (hb : ∀ j, j < tp → tb j < 256) : ∀ n i H c m, i ≤ tp → tp + 2 ≤ n + i → ∃ res, dw_R tb tp n i H c m = some res
  | 0, i, H, c, m, hi, hn => absurd hn (by omega)
  | n + 1, i, H, c, m, hi, hn => by
    obtain ⟨x1, x2⟩ := dw_lx1 (tb := tb) (tp := tp) i
    rw [dw_R]
    by_cases e : dw_tk tb tp i = 10021
    · by_cases c0 : m = 0
      · rw [if_pos c0, if_neg (by omega), if_neg (by omega), if_neg (by omega)]
        exact ⟨_, rfl⟩
      · rw [if_neg c0, if_neg (by omega), if_neg (by omega), if_neg (by omega), if_neg (by omega)]
        exact ⟨_, rfl⟩
    · have x3 := dw_lx2 hb hi e
      have ih := fun H c m => dw_R_end hb n (dw_nx tb tp i) H c m x3 (by omega)
      repeat (first | exact ⟨_, rfl⟩ | exact ih _ _ _ | split)
theorem dw_R_mono : ∀ n i H c m res, dw_R tb tp n i H c m = some res → dw_R tb tp (n + 1) i H c m = some res
  | 0, i, H, c, m, res, h => by
    rw [dw_R] at h
    exact absurd h (by simp)
  | n + 1, i, H, c, m, res, h => by
    have ih := fun i H c m => dw_R_mono n i H c m res
    rw [dw_R] at h
    rw [dw_R]
    by_cases c0 : m = 0
    · rw [if_pos c0] at h ⊢
      by_cases c1 : dw_tk tb tp i = 10020
      · rw [if_pos c1] at h ⊢
        exact h
      rw [if_neg c1] at h ⊢
      by_cases c2 : dw_tk tb tp i = 10019
      · rw [if_pos c2] at h ⊢
        by_cases c3 : (dw_unw 1 H c).1.isEmpty = true
        · rw [if_pos c3] at h ⊢
          exact h
        · rw [if_neg c3] at h ⊢
          exact ih _ _ _ _ h
      rw [if_neg c2] at h ⊢
      by_cases c4 : 10006 ≤ dw_tk tb tp i ∧ dw_tk tb tp i ≤ 10012
      · rw [if_pos c4] at h ⊢
        by_cases c5 : dw_rk (dw_tk tb tp i) = 4 ∧ dw_top4 (dw_unw (dw_ul (dw_tk tb tp i)) H c).1 = true
        · rw [if_pos c5] at h ⊢
          exact h
        · rw [if_neg c5] at h ⊢
          exact ih _ _ _ _ h
      · rw [if_neg c4] at h ⊢
        exact h
    rw [if_neg c0] at h ⊢
    by_cases c1 : dw_tk tb tp i ≤ 10005
    · rw [if_pos c1] at h ⊢
      exact ih _ _ _ _ h
    rw [if_neg c1] at h ⊢
    by_cases c2 : dw_tk tb tp i = 10013 ∧ m = 2
    · rw [if_pos c2] at h ⊢
      by_cases c5 : dw_opn H = 5
      · rw [if_pos c5] at h ⊢
        exact h
      · rw [if_neg c5] at h ⊢
        exact ih _ _ _ _ h
    rw [if_neg c2] at h ⊢
    by_cases c3 : dw_tk tb tp i = 10011
    · rw [if_pos c3] at h ⊢
      by_cases c5 : dw_opn H = 5
      · rw [if_pos c5] at h ⊢
        exact h
      · rw [if_neg c5] at h ⊢
        exact ih _ _ _ _ h
    rw [if_neg c3] at h ⊢
    by_cases c4 : dw_tk tb tp i = 10018
    · rw [if_pos c4] at h ⊢
      by_cases c5 : dw_opn H = 5
      · rw [if_pos c5] at h ⊢
        exact h
      · rw [if_neg c5] at h ⊢
        exact ih _ _ _ _ h
    rw [if_neg c4] at h ⊢
    exact h
theorem dw_R_add {n i : Nat} {H c : List Nat} {m : Nat} {res : dw_Re} (h : dw_R tb tp n i H c m = some res) : ∀ k, dw_R tb tp (n + k) i H c m = some res
  | 0 => h
  | k + 1 => dw_R_mono (n + k) i H c m res (dw_R_add h k)
theorem dw_R_Ld (htp : tp ≤ 160) (hb : ∀ j, j < tp → tb j < 256) {i : Nat} {H c : List Nat} {m : Nat} {res : dw_Re} (hi : i ≤ tp) (h : dw_Ld tb tp i H c m res) : dw_R tb tp 1000 i H c m = some res := by
  obtain ⟨n, h⟩ := h
  obtain ⟨res', h'⟩ := dw_R_end hb 1000 i H c m hi (by omega)
  have e1 := dw_R_add h 1000
  have e2 := dw_R_add h' n
  rw [Nat.add_comm 1000 n, e1] at e2
  rw [h', e2]
theorem dw_lx6 (hb : ∀ j, j < tp → tb j < 256) (i : Nat) : dw_tk tb tp i ≠ 10014 := by
  have hsg : ∀ n, n < 256 → dw_sg (nI n) ≠ 10014 := by decide +kernel
  have hwt : ∀ p n, dw_wtok tb p n ≠ 10014 := by
    intro p n
    unfold dw_wtok
    repeat (split; decide)
    decide
  unfold dw_tk dw_lex
  have hall := fun P => dw_sk_all dw_isD tb tp 160 P
  generalize dw_sk dw_isB tb tp 160 i = P at *
  by_cases cD : dw_isD (dw_by tb tp P) = true
  · simp only [if_pos cD]
    by_cases c4 : dw_sk dw_isD tb tp 160 P - P ≤ 4
    · rw [if_pos c4]
      have hv := dw_vD_lt tb (dw_sk dw_isD tb tp 160 P - P) P 0 0 (by decide) (fun j j1 j2 => by
        obtain ⟨k1, k2⟩ := hall P j j1 (by omega)
        exact (dw_isD48 _ (hb j k1) k2).2)
      have h4 : 10 ^ (0 + (dw_sk dw_isD tb tp 160 P - P)) ≤ 10 ^ 4 := Nat.pow_le_pow_right (by decide) (by omega)
      omega
    · rw [if_neg c4]
      decide
  · simp only [if_neg cD]
    by_cases cL : dw_isL (dw_by tb tp P) = true
    · simp only [if_pos cL]
      exact hwt _ _
    · simp only [if_neg cL]
      by_cases cP : P < tp
      · rw [if_pos cP, dw_by, if_pos cP]
        exact hsg _ (hb P cP)
      · rw [if_neg cP]
        decide
/-- an E, from where it begins -/
theorem dw_MeRead (htp : tp ≤ 160) (hb : ∀ j, j < tp → tb j < 256) (htx : tx < 6) {X : dw_X} (h12 : dw_gI X 12 = nI tx) (hT : dw_TA X tb tp) {i : Nat} {c : List Nat} {res : dw_Re} (h22 : dw_gI X 22 = nI i) (hi : i ≤ tp) (hc : c.length ≤ i) (h30 : dw_gI X 30 = nI c.length) (hcd : ∀ k, k < c.length → dw_gA X 6 (200 * tx + k) = nI (dw_cm (c.getD k 0))) (h : dw_Ld tb tp i [] c 2 res) : dw_Er (M_eRead (dw_mk X R G S N y) 0) tx X R G S N y res := by
  rw [M_eRead, dw_t28, bnd_s, dw_t29, bnd_s]
  have F0 : dw_Fr tx X X := ⟨fun _ _ => rfl, fun _ => rfl, fun _ _ _ _ => rfl, fun _ => rfl⟩
  exact dw_MeR htp hb htx h12 hT 1000 i [] c 2 (dw_I (dw_I X 28 0) 29 0) 1 1 res ⟨dw_Fr_I (by decide) (dw_Fr_I (by decide) F0), by rw [dw_IIn (by decide), dw_II, if_pos rfl]; rfl, by rw [dw_II, if_pos rfl]; rfl, by rw [dw_IIn (by decide), dw_IIn (by decide), h30], trivial, hcd⟩ (by rw [dw_IIn (by decide), dw_IIn (by decide), h22]) hi (by
    show 0 + c.length ≤ i
    omega) (Or.inr (Or.inr ⟨rfl, rfl, rfl⟩)) (dw_R_Ld htp hb hi h)
/-- while a text is read: what isn't touched -/
def dw_F7 (tx : Nat) (X0 X : dw_X) : Prop := (∀ k, k < 22 ∨ 30 < k ∨ k = 26 ∨ k = 27 → dw_gI X k = dw_gI X0 k) ∧ (∀ k, dw_gJ X k = dw_gJ X0 k) ∧ (∀ c i, c ≠ 16 → (c = 6 → i < 200 * tx) → (c = 7 → i < 4 * tx) → dw_gA X c i = dw_gA X0 c i) ∧ ∀ i, dw_gY X i = dw_gY X0 i
theorem dw_F7_Fr {X X' : dw_X} (h : dw_F7 tx X0 X) (g : dw_Fr tx X X') : dw_F7 tx X0 X' := ⟨fun k hk => (g.1 k hk).trans (h.1 k hk), fun k => (g.2.1 k).trans (h.2.1 k), fun c i h1 h2 h3 => (g.2.2.1 c i h1 h2).trans (h.2.2.1 c i h1 h2 h3), fun i => (g.2.2.2 i).trans (h.2.2.2 i)⟩
theorem dw_F7_Kx {X X' : dw_X} (h : dw_F7 tx X0 X) (e : dw_Kx X X') : dw_F7 tx X0 X' := dw_F7_Fr h (dw_Fr_Kx ⟨fun _ _ => rfl, fun _ => rfl, fun _ _ _ _ => rfl, fun _ => rfl⟩ e)
theorem dw_F7_A {X : dw_X} {k : Nat} {v : Int32} (h : dw_F7 tx X0 X) (hk : 4 * tx ≤ k) : dw_F7 tx X0 (dw_A X 7 k v) := ⟨h.1, h.2.1, fun c i h1 h2 h3 => by
  rw [dw_AA, if_neg (fun q => by
    have := h3 q.1
    have := q.2
    omega), h.2.2.1 c i h1 h2 h3], h.2.2.2⟩
theorem dw_TA_F7 {X : dw_X} (hT : dw_TA X0 tb tp) (h : dw_F7 tx X0 X) : dw_TA X tb tp := ⟨(h.1 9 (by decide)).trans hT.1, fun j hj => (h.2.2.1 5 j (by decide) (fun e => absurd e (by decide)) (fun e => absurd e (by decide))).trans (hT.2.1 j hj), fun i hi => (h.2.2.1 15 i (by decide) (fun e => absurd e (by decide)) (fun e => absurd e (by decide))).trans (hT.2.2 i hi)⟩
/-- a text, so far: at i, with codes c -/
def dw_TS (tx : Nat) (X0 X : dw_X) (i : Nat) (c : List Nat) : Prop := dw_F7 tx X0 X ∧ dw_gI X 22 = nI i ∧ dw_gI X 30 = nI c.length ∧ ∀ k, k < c.length → dw_gA X 6 (200 * tx + k) = nI (dw_cm (c.getD k 0))
theorem dw_part3 (htp : tp ≤ 160) (hb : ∀ j, j < tp → tb j < 256) {i key : Nat} {c : List Nat} (hi : i ≤ tp) (hc : c.length ≤ i) (hk2 : 10015 ≤ key ∧ key ≤ 10017) : (∃ x, dw_dd x (dw_ppart tb tp key (dw_LQ tb tp i c)) ∧ ((dw_tk tb tp i ≠ key ∧ x = dw_pl1 tb tp i) ∨ (dw_tk tb tp i = key ∧ dw_Ld tb tp (dw_nx tb tp i) [] c 2 (.inl x)))) ∨ (dw_tk tb tp i = key ∧ ∃ i' d, dw_ppart tb tp key (dw_LQ tb tp i c) = dw_LQ tb tp i' (c ++ d) ∧ i' ≤ tp ∧ (c ++ d).length ≤ i' ∧ dw_rw 31 d ∧ dw_Ld tb tp (dw_nx tb tp i) [] c 2 (.inr (i', c ++ d))) := by
  by_cases e : dw_tk tb tp i = key
  · rcases dw_sim_part htp hb hi (Nat.le_trans hc (dw_lx1 i).1) e (by omega) with ⟨x, z1, z2⟩ | z
    · exact Or.inl ⟨x, z1, Or.inr ⟨e, z2⟩⟩
    · exact Or.inr ⟨e, z⟩
  · left
    have e0 : dw_pexp tb tp key (dw_LQ tb tp i c) = dw_pfail (dw_LQ tb tp i c) := by
      have e1 : ¬ (dw_LQ tb tp i c).2.1 = key := e
      rw [dw_pexp, if_neg e1]
    refine ⟨dw_pl1 tb tp i, ?_, Or.inl ⟨e, rfl⟩⟩
    rw [dw_ppart, e0]
    exact dw_dd_PU (dw_PU_exp (by decide)) (dw_dd_PU (dw_PU_knot 6 0) (dw_dd_fail i c))
/-- one part -/
theorem dw_Mpart (htp : tp ≤ 160) (hb : ∀ j, j < tp → tb j < 256) (htx : tx < 6) (h12 : dw_gI X0 12 = nI tx) (hT : dw_TA X0 tb tp) {X : dw_X} {i p n : Nat} {c : List Nat} (hX : dw_TS tx X0 X i c) (hi : i ≤ tp) (hc : c.length ≤ i) (hp : p < 3) : dw_Z (M_text_26 (n + 1) (dw_mk X R G S N y) 0 1 (nI p)) (fun z => (∃ x X', dw_dd x (dw_ppart tb tp (10015 + p) (dw_LQ tb tp i c)) ∧ z = M_text_26 n (dw_mk X' R G S N y) 0 0 (nI (p + 1)) ∧ dw_F7 tx X0 X' ∧ dw_gI X' 23 = nI x) ∨ (∃ i' d X', dw_ppart tb tp (10015 + p) (dw_LQ tb tp i c) = dw_LQ tb tp i' (c ++ d) ∧ i' ≤ tp ∧ (c ++ d).length ≤ i' ∧ dw_rw 31 d ∧ z = M_text_26 n (dw_mk X' R G S N y) 0 1 (nI (p + 1)) ∧ dw_TS tx X0 X' i' (c ++ d) ∧ dw_gA X' 7 (4 * tx + p) = nI c.length ∧ ∀ j, j ≠ 4 * tx + p → dw_gA X' 7 j = dw_gA X 7 j)) := by
  obtain ⟨f7, h22, h30, hcd⟩ := hX
  obtain ⟨X1, e1, k1, k2, k3, k4, k5⟩ := dw_Mnext (R := R) (G := G) (S := S) (N := N) (y := y) htp hb (dw_TA_F7 hT f7) hi h22
  have g7 := dw_F7_Kx f7 k1
  have x4 := dw_lx4 hb hi
  have x6 := dw_lx6 hb i
  have g12 : dw_gI X1 12 = nI tx := (g7.1 12 (by decide)).trans h12
  have g30 : dw_gI X1 30 = nI c.length := (k1.2 30 (by decide)).trans h30
  have bad : dw_tk tb tp i ≠ 10015 + p → dw_Z (M_text_59 (M_text_26 n) (dw_mk X1 R G S N y) 0 (nI p)) (fun z => ∃ X', z = M_text_26 n (dw_mk X' R G S N y) 0 0 (nI (p + 1)) ∧ dw_F7 tx X0 X' ∧ dw_gI X' 23 = nI (dw_pl1 tb tp i)) := by
    intro _
    rw [M_text_59, M_text_60, dw_f11, bnd_s, dw_f12, bnd_s, dw_f30, bnd_s, bnd_s, g12, dw_4, nI_add, dw_w7 (show 4 * tx + p < 24 by omega), bnd_s, if_pos rfl, M_text_93, M_text_94, nmd_s, nI_1]
    exact ⟨_, rfl, dw_F7_A g7 (by omega), k2⟩
  rw [M_text_26, if_neg (show ¬ (3 : Int32) ≤ nI p from nI_ge (b := 3) hp (by omega)), if_neg (by decide), dw_is, grd_t, e1, bn2_s, dw_f24, bnd_s, k3]
  by_cases ck : dw_tk tb tp i = 10015 + p
  · have ec : dw_tc (dw_tk tb tp i) = 3 := dw_tc_key (by omega) (by omega)
    have ev : dw_tv (dw_tk tb tp i) = nI p := by
      rw [dw_tv, if_neg (by omega), if_neg (by omega), ck, show 10015 + p - 10015 = p by omega]
    rw [if_pos ec, dw_f25, bnd_s, k4 (Or.inr ⟨by omega, by omega⟩), ev, if_pos rfl, M_text_60, dw_f11, bnd_s, dw_f12, bnd_s, dw_f30, bnd_s, bnd_s, g12, dw_4, nI_add, dw_w7 (show 4 * tx + p < 24 by omega), bnd_s, if_neg (by decide), dw_is, grd_t, g30]
    have x5 := dw_lx2 hb hi (show dw_tk tb tp i ≠ 10021 by omega)
    obtain ⟨x1, x2⟩ := dw_lx1 (tb := tb) (tp := tp) i
    have g7' : dw_F7 tx X0 (dw_A X1 7 (4 * tx + p) (nI c.length)) := dw_F7_A g7 (by omega)
    have er := fun res => dw_MeRead (R := R) (G := G) (S := S) (N := N) (y := y) (res := res) htp hb htx (X := dw_A X1 7 (4 * tx + p) (nI c.length)) g12 (dw_TA_F7 hT g7') (i := dw_nx tb tp i) (c := c) (k5 (by omega)) x5 (by omega) g30 (fun k hk => by
      rw [dw_AAn (by decide), dw_Kx_A k1, hcd k hk])
    rcases dw_part3 htp hb hi hc (key := 10015 + p) (by omega) with ⟨x, z1, z2⟩ | ⟨_, i', d, z1, z2, z3, z4, z5⟩
    · rcases z2 with ⟨z2, _⟩ | ⟨_, z2⟩
      · exact absurd ck z2
      · obtain ⟨X2, u1, u2, u3⟩ := er (.inl x) z2
        rw [u1, bn2_s, if_pos rfl, M_text_93, M_text_94, nmd_s, nI_1]
        exact Or.inl ⟨x, X2, z1, rfl, dw_F7_Fr g7' u2, u3⟩
    · obtain ⟨X2, u1, u2, u3⟩ := er (.inr (i', c ++ d)) z5
      rw [u1, bn2_s, if_neg (by decide), M_text_94, nmd_s, nI_1]
      refine Or.inr ⟨i', d, X2, z1, z2, z3, z4, rfl, ⟨dw_F7_Fr g7' u2.1, u3, u2.2.2.2.1, u2.2.2.2.2.2⟩, ?_, fun j hj => ?_⟩
      · rw [u2.1.2.2.1 7 _ (by decide) (fun e => absurd e (by decide)), dw_AA, if_pos ⟨rfl, rfl⟩]
      · rw [u2.1.2.2.1 7 _ (by decide) (fun e => absurd e (by decide)), dw_AA, if_neg (fun q => hj q.2), dw_Kx_A k1]
  · have e0 := bad ck
    rcases dw_part3 htp hb hi hc (key := 10015 + p) (by omega) with ⟨x, z1, z2⟩ | ⟨z2, _⟩
    · rcases z2 with ⟨_, z2⟩ | ⟨z2, _⟩
      · left
        subst z2
        by_cases c3 : dw_tc (dw_tk tb tp i) = 3
        · have hk : 10015 ≤ dw_tk tb tp i ∧ dw_tk tb tp i ≤ 10017 := by
            rcases dw_tc_inv x4 c3 with ⟨e, f⟩ | ⟨e, f⟩ | ⟨e, f⟩ | ⟨e, f⟩ | ⟨e, f⟩ | ⟨e, f⟩ | ⟨e, f⟩ | ⟨e, f⟩ | ⟨e, f⟩ | ⟨e, f⟩ | ⟨e, f⟩ | ⟨e, f⟩ | ⟨e, f⟩ | ⟨e, f⟩ | ⟨e, f⟩ | ⟨e, f⟩ <;> first | exact absurd e (by decide) | omega
          have ev : ¬ dw_tv (dw_tk tb tp i) = nI p := by
            rw [dw_tv, if_neg (by omega), if_neg (by omega)]
            exact dw_ne (by omega) (by omega) (by omega)
          rw [if_pos c3, dw_f25, bnd_s, k4 (Or.inr hk), if_neg ev]
          obtain ⟨X2, u1, u2, u3⟩ := e0
          exact ⟨_, X2, z1, u1, u2, u3⟩
        · rw [if_neg c3]
          obtain ⟨X2, u1, u2, u3⟩ := e0
          exact ⟨_, X2, z1, u1, u2, u3⟩
      · exact absurd z2 ck
    · exact absurd z2 ck
end MT
