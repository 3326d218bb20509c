/-! THE REFERENCE: text(), the call -/
section RW
variable {tb : Nat → Nat} {tp : Nat}
theorem dw_rows (htp : tp ≤ 160) (hb : ∀ j, j < tp → tb j < 256) (h : dw_pflt tb tp = none) : ∀ q, q < 3 → dw_ok (dw_row (dw_plaw tb tp) q) 0 ∧ (dw_row (dw_plaw tb tp) q).length ≤ 160 := by
  have q0 : dw_pq0 tb tp = dw_LQ tb tp 0 [] := rfl
  have e1 : dw_pq1 tb tp = dw_ppart tb tp 10015 (dw_pq0 tb tp) := by rw [dw_pq1]
  have e2 : dw_pq2 tb tp = dw_ppart tb tp 10016 (dw_pq1 tb tp) := by rw [dw_pq2]
  have e3 : dw_pq3 tb tp = dw_ppart tb tp 10017 (dw_pq2 tb tp) := by rw [dw_pq3]
  have pf0 : ∀ x, dw_dd x (dw_pq3 tb tp) → dw_pflt tb tp = some x := fun x h => dw_pflt_dd h
  have pw : ∀ d1 d2 d3 i3, dw_PP3 tb tp d1 d2 d3 i3 → dw_plaw tb tp = (d1, d2, d3) := fun d1 d2 d3 i3 h => dw_plaw_PP h
  unfold dw_PP3 at pw
  rw [h] at pf0
  generalize dw_plaw tb tp = w at *
  generalize dw_pq3 tb tp = q3 at *
  generalize dw_pq2 tb tp = q2 at *
  generalize dw_pq1 tb tp = q1 at *
  rw [q0] at e1
  rcases dw_part3 htp hb (i := 0) (c := []) (Nat.zero_le _) (Nat.zero_le _) (key := 10015) (by decide) with ⟨x, a1, _⟩ | ⟨_, i1, d1, a1, a2, a3, a4, _⟩
  · have d1 : dw_dd x q1 := by
      rw [e1]
      exact a1
    have d2 : dw_dd x q2 := by
      rw [e2]
      exact dw_dd_PU (dw_PU_part (by decide)) d1
    have d3 : dw_dd x q3 := by
      rw [e3]
      exact dw_dd_PU (dw_PU_part (by decide)) d2
    exact absurd (pf0 x d3) (by simp)
  have q1e : q1 = dw_LQ tb tp i1 ([] ++ d1) := by
    rw [e1]
    exact a1
  rw [List.nil_append] at a3 q1e
  subst q1e
  rcases dw_part3 htp hb a2 a3 (key := 10016) (by decide) with ⟨x, b1, _⟩ | ⟨_, i2, d2, b1, b2, b3, b4, _⟩
  · have d2 : dw_dd x q2 := by
      rw [e2]
      exact b1
    have d3 : dw_dd x q3 := by
      rw [e3]
      exact dw_dd_PU (dw_PU_part (by decide)) d2
    exact absurd (pf0 x d3) (by simp)
  have q2e : q2 = dw_LQ tb tp i2 (d1 ++ d2) := by
    rw [e2]
    exact b1
  subst q2e
  rcases dw_part3 htp hb b2 b3 (key := 10017) (by decide) with ⟨x, c1, _⟩ | ⟨_, i3, d3, c1, c2, c3, c4, _⟩
  · have d3 : dw_dd x q3 := by
      rw [e3]
      exact c1
    exact absurd (pf0 x d3) (by simp)
  have q3e : q3 = dw_LQ tb tp i3 (d1 ++ d2 ++ d3) := by
    rw [e3]
    exact c1
  subst q3e
  rw [pw d1 d2 d3 i3 ⟨rfl, rfl, rfl⟩]
  have l123 : (d1 ++ d2 ++ d3).length = d1.length + d2.length + d3.length := by rw [List.length_append, List.length_append]
  intro q hq
  rcases (by omega : q = 0 ∨ q = 1 ∨ q = 2) with rfl | rfl | rfl
  · exact ⟨dw_rw_ok a4, by show d1.length ≤ 160; omega⟩
  · exact ⟨dw_rw_ok b4, by show d2.length ≤ 160; omega⟩
  · exact ⟨dw_rw_ok c4, by show d3.length ≤ 160; omega⟩
end RW
theorem dw_MC_lt {X X' : dw_X} {B : Nat} (e : ∀ i, i < B → dw_gA X' 6 i = dw_gA X 6 i) : ∀ (c : List Nat) (a : Nat), a + c.length ≤ B → dw_MC X a c → dw_MC X' a c
  | [], _, _, _ => trivial
  | t :: c, a, hl, h => by
    have hl2 : a + (c.length + 1) ≤ B := hl
    exact ⟨(e a (by omega)).trans h.1, dw_MC_lt e c (a + 1) (by omega) h.2⟩
section MC
variable {X : dw_X} {R G S N : Nat → Int32} {w : dw_W} {r m yy tx tp : Nat} {s : dw_L} {H : dw_H} {ho cl : Int64} {wt : Nat → dw_W} {tb : Nat → Nat} {im : Option dw_Ln}
theorem dw_M1_F8 {X' : dw_X} {t : Nat} (e : dw_F8 tx X X') (ht : t < tx) (h : dw_M1 X t w) : dw_M1 X' t w := by
  intro p hp
  obtain ⟨k, h1, h2, h3, h4, h5⟩ := h p hp
  have e7 : ∀ i, i < 4 * tx → dw_gA X' 7 i = dw_gA X 7 i := fun i hi => e.2.2.1 7 i (by decide) (fun q => absurd q (by decide)) (fun _ => hi)
  have e6 : ∀ i, i < 200 * tx → dw_gA X' 6 i = dw_gA X 6 i := fun i hi => e.2.2.1 6 i (by decide) (fun _ => hi) (fun q => absurd q (by decide))
  exact ⟨k, (e7 _ (by omega)).trans h1, (e7 _ (by omega)).trans h2, h3, dw_MC_lt e6 _ _ (by omega) h4, h5⟩
theorem dw_ML_F8 {X' : dw_X} {t : Nat} (e : dw_F8 tx X X') (ht : t < tx) (h : dw_ML X t w) : dw_ML X' t w := ⟨dw_M1_F8 e ht h.1, fun i hi => (e.2.2.1 15 i (by decide) (fun q => absurd q (by decide)) (fun q => absurd q (by decide))).trans (h.2 i hi)⟩
theorem dw_Mtext (h : dw_RX X R G ((m, s, yy, ho, cl, r), (tx, wt), (tp, tb), im, H)) (ok : dw_Ok ((m, s, yy, ho, cl, r), (tx, wt), (tp, tb), im, H)) : dw_Go (M_text (dw_mk X R G S N (nI yy)) 0) (dw_otext ((m, s, yy, ho, cl, r), (tx, wt), (tp, tb), im, H)).1 (dw_otext ((m, s, yy, ho, cl, r), (tx, wt), (tp, tb), im, H)).2 := by
  obtain ⟨h1, h2, h3, h4, h5, h6, h7, h8, h9, h10, h11⟩ := id h
  obtain ⟨⟨o1, o2, o3, o4, o5, o6, o7⟩, k2, k3, k4, k5, k6, k7, k8⟩ := id ok
  have hT : dw_TA X tb tp := ⟨h8, h9, (h7 0 (by omega)).2⟩
  rw [M_text, dw_otext, dw_f12, bnd_s, h6]
  by_cases c6 : tx = 6
  · rw [if_pos (show nI tx = 6 by rw [c6]; rfl), if_pos c6]
    exact dw_Go_id h
  rw [if_neg (show ¬ nI tx = 6 from dw_ne (b := 6) (by omega) (by omega) c6), if_neg c6, dw_t22, bnd_s, dw_t30, bnd_s]
  have hX : dw_TS tx X (dw_I (dw_I X 22 0) 30 0) 0 [] := ⟨⟨fun k hk => by rw [dw_IIn (by omega), dw_IIn (by omega)], fun _ => rfl, fun _ _ _ _ _ => rfl, fun _ => rfl⟩, by rw [dw_IIn (by decide), dw_II, if_pos rfl]; rfl, by rw [dw_II, if_pos rfl]; rfl, fun k hk => absurd hk (Nat.not_lt_zero k)⟩
  have fin : ∀ (X' : dw_X) (tx' : Nat) (wt' : Nat → dw_W), dw_F8 tx X X' → dw_gI X' 9 = 0 → dw_gI X' 12 = nI tx' → (∀ t, t < tx' → dw_ML X' t (wt' t)) → dw_RX X' R G ((m, s, yy, ho, cl, r), (tx', wt'), (0, tb), im, H) := by
    intro X' tx' wt' f8 e9 e12 hml
    have eA : ∀ c i, c ≠ 16 → c ≠ 6 → c ≠ 7 → dw_gA X' c i = dw_gA X c i := fun c i q1 q2 q3 => f8.2.2.1 c i q1 (fun q => absurd q q2) (fun q => absurd q q3)
    refine ⟨dw_Rel_of (fun c i q => eA c i (by omega) (by omega) (by omega)) h1, (f8.1 0 (by decide) (by decide) (by decide)).trans h2, (f8.2.1 5).trans h3, (f8.2.1 6).trans h4, (f8.1 13 (by decide) (by decide) (by decide)).trans h5, e12, hml, e9, fun k hk => absurd hk (Nat.not_lt_zero k), dw_RI_of (fun c i q => eA c i (by omega) (by omega) (by omega)) (f8.1 14 (by decide) (by decide) (by decide)) f8.2.2.2 h10, dw_SH_of (fun c i q => eA c i (by omega) (by omega) (by omega)) h11⟩
  rcases dw_MT0 (R := R) (G := G) (S := S) (N := N) (y := nI yy) k5 k6 (show tx < 6 by omega) h6 hT hX with ⟨x, X', q1, q2, q3, q4, q5⟩ | ⟨d1, d2, d3, i3, X', q1, q2, q3, q4, q5, q6, q7, q8, q9, q10, q11⟩
  · rw [q1, dw_otext0]
    have q2' : M_text_26 1000 (dw_mk (dw_I (dw_I X 22 0) 30 0) R G S N (nI yy)) 0 1 0 = _ := q2
    rw [q2']
    exact ⟨X', R, G, S, N, rfl, fin X' tx wt q3 q4 q5 (fun t ht => dw_ML_F8 q3 ht (h7 t ht))⟩
  · rw [q2, dw_otext0]
    have q7' : M_text_26 1000 (dw_mk (dw_I (dw_I X 22 0) 30 0) R G S N (nI yy)) 0 1 0 = _ := q7
    have ew := dw_plaw_PP q1
    rw [q7', ew]
    refine ⟨X', R, G, S, N, rfl, fin X' (tx + 1) _ q8 q9 q10 (fun t ht => ?_)⟩
    by_cases e : t = tx
    · subst e
      rw [if_pos rfl]
      refine ⟨q11, fun i hi => (q8.2.2.1 15 i (by decide) (fun q => absurd q (by decide)) (fun q => absurd q (by decide))).trans (hT.2.2 i hi)⟩
    · show dw_ML X' t (if t = tx then (d1, d2, d3) else wt t)
      rw [if_neg e]
      exact dw_ML_F8 q8 (by omega) (h7 t (by omega))
end MC
