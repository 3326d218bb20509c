/-! THE TWO READERS: a rule of the parser against the signs held -/
def dw_dd (x : Nat) (q : dw_Q) : Prop := q.1 = x ∧ q.2.1 = 10022 ∧ q.2.2.2.1 = some x
abbrev dw_PO : Type := Nat → List Nat → List Nat → Prop
def dw_out (tb : Nat → Nat) (tp i : Nat) (c H : List Nat) (m r need : Nat) (post : dw_PO) (q : dw_Q) : Prop :=
  (∃ x, dw_dd x q ∧ dw_Ld tb tp i H c m (.inl x)) ∨
  (∃ i' d H1 c1, q = dw_LQ tb tp i' (c ++ d) ∧ i < i' ∧ i' ≤ tp ∧ d.length + dw_pl1 tb tp i ≤ dw_pl1 tb tp i' ∧ dw_rw need d ∧ dw_unw r H1 c1 = dw_unw r H (c ++ d) ∧ post i' H1 c1 ∧ ∀ res, dw_Ld tb tp i' H1 c1 0 res → dw_Ld tb tp i H c m res)
def dw_sim (tb : Nat → Nat) (tp : Nat) (p : dw_Q → dw_Q) (o r lb need : Nat) (pre : Nat → Nat → Prop) (post : dw_PO) : Prop :=
  ∀ i c H m, i ≤ tp → c.length ≤ dw_pl1 tb tp i → dw_opn H = o → dw_lwr lb H → m ≠ 0 → pre m (dw_tk tb tp i) → dw_out tb tp i c H m r need post (p (dw_LQ tb tp i c))
def dw_preO : Nat → Nat → Prop := fun m t => m = 1 ∨ t ≠ 10013
def dw_preD : Nat → Nat → Prop := fun m _ => m = 2
def dw_po7 : dw_PO := fun _ _ _ => True
section SI
variable {tb : Nat → Nat} {tp : Nat}
def dw_po6 (tb : Nat → Nat) (tp : Nat) : dw_PO := fun i H1 c1 => dw_po7 i H1 c1 ∧ decide (dw_tk tb tp i = 10012) = false
def dw_po5 (tb : Nat → Nat) (tp : Nat) : dw_PO := fun i H1 c1 => dw_po6 tb tp i H1 c1 ∧ (decide (dw_tk tb tp i = 10010) || decide (dw_tk tb tp i = 10011)) = false
def dw_po3 (tb : Nat → Nat) (tp : Nat) : dw_PO := fun i H1 c1 => dw_po5 tb tp i H1 c1 ∧ (dw_tk tb tp i = 10008 ∨ dw_tk tb tp i = 10009 → dw_top4 (dw_unw 5 H1 c1).1 = true)
def dw_po2 (tb : Nat → Nat) (tp : Nat) : dw_PO := fun i H1 c1 => dw_po3 tb tp i H1 c1 ∧ decide (dw_tk tb tp i = 10007) = false
def dw_po1 (tb : Nat → Nat) (tp : Nat) : dw_PO := fun i H1 c1 => dw_po2 tb tp i H1 c1 ∧ decide (dw_tk tb tp i = 10006) = false
theorem dw_dd_emit {x : Nat} {q : dw_Q} (c : Nat) (h : dw_dd x q) : dw_dd x (dw_pemit c q) := h
theorem dw_dd_PU {x : Nat} {q : dw_Q} {p : dw_Q → dw_Q} (hp : dw_PU p) (h : dw_dd x q) : dw_dd x (p q) := by
  obtain ⟨h1, h2, h3⟩ := h
  obtain ⟨g1, g2, g3, g4⟩ := hp q h2
  refine ⟨g2.trans h1, g1, ?_⟩
  rcases g4 with g4 | g4
  · exact g4.trans h3
  · rw [g4, h1]
theorem dw_dd_fail (i : Nat) (c : List Nat) : dw_dd (dw_pl1 tb tp i) (dw_pfail (dw_LQ tb tp i c)) := ⟨rfl, rfl, rfl⟩
theorem dw_LQ_step (i : Nat) (c : List Nat) : dw_pstep tb tp (dw_LQ tb tp i c) = dw_LQ tb tp (dw_nx tb tp i) c := rfl
theorem dw_LQ_emit {i : Nat} {c : List Nat} (t : Nat) (h : c.length < 160) : dw_pemit t (dw_LQ tb tp i c) = dw_LQ tb tp i (c ++ [t]) := by
  have h2 : (dw_LQ tb tp i c).2.2.2.2.length < 160 := h
  unfold dw_pemit
  rw [if_pos h2]
  rfl
/-- one rule again and again -/
theorem dw_loopK (htp : tp ≤ 160) (hb : ∀ j, j < tp → tb j < 256) {p : dw_Q → dw_Q} {o r r' lb' need : Nat} {pre : Nat → Nat → Prop} {post : dw_PO} (cs : Nat → Bool) (hcs : ∀ t, cs t = true → 10006 ≤ t ∧ t ≤ 10012 ∧ dw_rk t = r ∧ ∀ t', pre (dw_md t) t') (hr4 : r ≠ 4) (hrr : r < r') (hlb : r < lb') (hn : 1 ≤ need) (hp : dw_sim tb tp p o r' lb' need pre post) {i m : Nat} {c H : List Nat} (hi : i ≤ tp) (hc : c.length ≤ dw_pl1 tb tp i) (ho : dw_opn H = o) (hlow : dw_lwr r H) : ∀ k i1 d1 H1 c1, tp ≤ i1 + k → i < i1 → i1 ≤ tp → d1.length + dw_pl1 tb tp i ≤ dw_pl1 tb tp i1 → dw_rw (need + 1) d1 → dw_unw r H1 c1 = dw_unw r H (c ++ d1) → post i1 H1 c1 → (∀ res, dw_Ld tb tp i1 H1 c1 0 res → dw_Ld tb tp i H c m res) → dw_out tb tp i c H m r (need + 1) (fun i' H' c' => post i' H' c' ∧ cs (dw_tk tb tp i') = false) (dw_ploop tb tp cs p k (dw_LQ tb tp i1 (c ++ d1)))
  | 0, i1, d1, H1, c1, hk, g1, g2, g3, g4, g5, g6, g7 => by
    rw [dw_ploop]
    refine Or.inr ⟨i1, d1, H1, c1, rfl, g1, g2, g3, g4, g5, ⟨g6, ?_⟩, g7⟩
    cases e : cs (dw_tk tb tp i1) with
    | false => rfl
    | true =>
      have h9 := (hcs _ e).2.1
      rw [dw_lx5 (by omega)] at h9
      exact absurd h9 (by decide)
  | k + 1, i1, d1, H1, c1, hk, g1, g2, g3, g4, g5, g6, g7 => by
    rw [dw_ploop]
    have eq : (dw_LQ tb tp i1 (c ++ d1)).2.1 = dw_tk tb tp i1 := rfl
    rw [eq]
    cases e : cs (dw_tk tb tp i1) with
    | false =>
      rw [if_neg (by decide)]
      exact Or.inr ⟨i1, d1, H1, c1, rfl, g1, g2, g3, g4, g5, ⟨g6, e⟩, g7⟩
    | true =>
      rw [if_pos rfl, dw_LQ_step]
      obtain ⟨t1, t2, t3, t4⟩ := hcs _ e
      obtain ⟨x1, x2⟩ := dw_lx1 (tb := tb) (tp := tp) i1
      have x3 := dw_lx2 hb g2 (show dw_tk tb tp i1 ≠ 10021 by omega)
      obtain ⟨y1, y2⟩ := dw_lx1 (tb := tb) (tp := tp) (dw_nx tb tp i1)
      have hlen : (c ++ d1).length ≤ dw_pl1 tb tp i1 := by
        rw [List.length_append]
        omega
      have hu : dw_ul (dw_tk tb tp i1) = r := by
        rw [dw_ul, t3, if_neg hr4]
      have hU : dw_unw (dw_ul (dw_tk tb tp i1)) H1 c1 = (H, c ++ d1) := by
        rw [hu, g5, dw_unw_low hlow]
      have hL : ∀ res, dw_Ld tb tp (dw_nx tb tp i1) (dw_tk tb tp i1 :: H) (c ++ d1) (dw_md (dw_tk tb tp i1)) res → dw_Ld tb tp i H c m res := by
        intro res h
        refine g7 res (dw_Ld_sign t1 t2 (fun q => hr4 (t3.symm.trans q.1)) ?_)
        rw [hU]
        exact h
      have hop : dw_opn (dw_tk tb tp i1 :: H) = o := by
        have hb0 : dw_opb (dw_tk tb tp i1) = false := by
          unfold dw_opb
          rw [decide_eq_false (by omega), decide_eq_false (by omega), decide_eq_false (by omega)]
          rfl
        rw [dw_opn, hb0, ho]
        rfl
      have hmd : dw_md (dw_tk tb tp i1) ≠ 0 := by
        unfold dw_md
        split <;> decide
      rcases hp (dw_nx tb tp i1) (c ++ d1) (dw_tk tb tp i1 :: H) (dw_md (dw_tk tb tp i1)) x3 (by omega) hop (by rw [dw_lwr, t3]; exact hlb) hmd (t4 _) with ⟨x, z1, z2⟩ | ⟨i2, d2, H2, c2, z1, z2, z3, z4, z5, z6, z7, z8⟩
      · exact Or.inl ⟨x, dw_dd_PU (dw_PU_loop (by
          cases e9 : cs 10022 with
          | false => rfl
          | true => exact absurd (hcs _ e9).2.1 (by decide)) p k) (dw_dd_emit _ z1), hL _ z2⟩
      · have z9 := dw_lx3 (tb := tb) z3
        have hl2 : (c ++ d1 ++ d2).length < 160 := by
          rw [List.length_append]
          omega
        rw [z1, dw_LQ_emit _ hl2, show c ++ d1 ++ d2 ++ [dw_tk tb tp i1] = c ++ (d1 ++ (d2 ++ [dw_tk tb tp i1])) by simp only [List.append_assoc]]
        refine dw_loopK htp hb cs hcs hr4 hrr hlb hn hp hi hc ho hlow k i2 (d1 ++ (d2 ++ [dw_tk tb tp i1])) H2 c2 (by omega) (by omega) z3 ?_ (dw_rw_bin t1 t2 hn g4 z5) ?_ z7 (fun res h => hL res (z8 res h))
        · rw [List.length_append, List.length_append]
          show d1.length + (d2.length + 1) + _ ≤ _
          omega
        · rw [dw_unw_tr (Nat.le_of_lt hrr) z6, dw_unw_push (by omega), show c ++ d1 ++ d2 ++ [dw_tk tb tp i1] = c ++ (d1 ++ (d2 ++ [dw_tk tb tp i1])) by simp only [List.append_assoc]]
theorem dw_sim_loop (htp : tp ≤ 160) (hb : ∀ j, j < tp → tb j < 256) {p : dw_Q → dw_Q} {o r r' lb' need : Nat} {pre : Nat → Nat → Prop} {post : dw_PO} (cs : Nat → Bool) (hcs : ∀ t, cs t = true → 10006 ≤ t ∧ t ≤ 10012 ∧ dw_rk t = r ∧ ∀ t', pre (dw_md t) t') (hr4 : r ≠ 4) (hrr : r < r') (hlb : r < lb') (hn : 1 ≤ need) (hp : dw_sim tb tp p o r' lb' need pre post) : dw_sim tb tp (fun q => dw_ploop tb tp cs p 160 (p q)) o r r (need + 1) pre (fun i' H' c' => post i' H' c' ∧ cs (dw_tk tb tp i') = false) := by
  intro i c H m hi hc ho hlow hm hpre
  rcases hp i c H m hi hc ho (dw_low_mono (Nat.le_of_lt hlb) hlow) hm hpre with ⟨x, z1, z2⟩ | ⟨i1, d1, H1, c1, z1, z2, z3, z4, z5, z6, z7, z8⟩
  · exact Or.inl ⟨x, dw_dd_PU (dw_PU_loop (by
      cases e9 : cs 10022 with
      | false => rfl
      | true => exact absurd (hcs _ e9).2.1 (by decide)) p 160) z1, z2⟩
  · show dw_out tb tp i c H m r (need + 1) _ (dw_ploop tb tp cs p 160 (p (dw_LQ tb tp i c)))
    rw [z1]
    exact dw_loopK htp hb cs hcs hr4 hrr hlb hn hp hi hc ho hlow 160 i1 d1 H1 c1 (by omega) z2 z3 z4 (dw_rw_mono (Nat.le_succ _) z5) (dw_unw_tr (Nat.le_of_lt hrr) z6) z7 z8
theorem dw_sim_mono {p : dw_Q → dw_Q} {o r lb lb' need need' : Nat} {pre : Nat → Nat → Prop} {post : dw_PO} (hl : lb' ≤ lb) (hn : need ≤ need') (h : dw_sim tb tp p o r lb need pre post) : dw_sim tb tp p o r lb' need' pre post := by
  intro i c H m hi hc ho hlow hm hpre
  rcases h i c H m hi hc ho (dw_low_mono hl hlow) hm hpre with z | ⟨i1, d1, H1, c1, z1, z2, z3, z4, z5, z6, z7, z8⟩
  · exact Or.inl z
  · exact Or.inr ⟨i1, d1, H1, c1, z1, z2, z3, z4, dw_rw_mono hn z5, z6, z7, z8⟩
/-- where an either has ended, and what comes is neither sign nor what is wanted -/
theorem dw_stop1 {i : Nat} {H c : List Nat} (h : dw_po1 tb tp i H c) (h7 : dw_tk tb tp i = 10020 → (dw_unw 1 H c).1.isEmpty = false) (h8 : dw_tk tb tp i = 10019 → (dw_unw 1 H c).1.isEmpty = true) : dw_Ld tb tp i H c 0 (.inl (dw_pl1 tb tp i)) := by
  obtain ⟨⟨⟨⟨⟨_, g6⟩, g5⟩, g4⟩, g2⟩, g1⟩ := h
  rw [Bool.or_eq_false_iff] at g5
  exact dw_Ld_stop h7 h8 ⟨of_decide_eq_false g1, of_decide_eq_false g2, of_decide_eq_false g5.1, of_decide_eq_false g5.2, of_decide_eq_false g6⟩ g4
theorem dw_sim_one (htp : tp ≤ 160) (hb : ∀ j, j < tp → tb j < 256) {rE rO : dw_PF} {o need : Nat} (ho5 : o ≤ 5) (hn : 1 ≤ need) (hE : o < 5 → dw_sim tb tp (rE (o + 1)) (o + 1) 1 1 need dw_preD (dw_po1 tb tp)) (hO : o < 5 → dw_sim tb tp (rO (o + 1)) (o + 1) 7 8 need dw_preO dw_po7) : dw_sim tb tp (dw_pone tb tp rE rO o) o 7 8 need dw_preO dw_po7 := by
  intro i c H m hi hc ho hlow hm hpre
  obtain ⟨x1, x2⟩ := dw_lx1 (tb := tb) (tp := tp) i
  obtain ⟨y1, y2⟩ := dw_lx1 (tb := tb) (tp := tp) (dw_nx tb tp i)
  have eq : (dw_LQ tb tp i c).2.1 = dw_tk tb tp i := rfl
  unfold dw_pone
  rw [eq]
  by_cases c0 : dw_tk tb tp i ≤ 10005
  · rw [if_pos c0]
    have x3 := dw_lx2 hb hi (show dw_tk tb tp i ≠ 10021 by omega)
    rw [dw_LQ_emit _ (by omega), dw_LQ_step]
    refine Or.inr ⟨dw_nx tb tp i, [dw_tk tb tp i], _, _, rfl, by omega, x3, ?_, dw_rw_mono hn (dw_rw_num c0), dw_unw_co (Nat.le_refl 7) _ _, trivial, fun res h => dw_Ld_num hm c0 h⟩
    show 1 + _ ≤ _
    omega
  rw [if_neg c0]
  by_cases c1 : dw_tk tb tp i = 10011 ∧ o < 5
  · rw [if_pos c1, dw_LQ_step]
    have x3 := dw_lx2 hb hi (show dw_tk tb tp i ≠ 10021 by omega)
    have hop : dw_opn (10014 :: H) = o + 1 := by
      rw [dw_opn, ho]
      rfl
    rcases hO c1.2 (dw_nx tb tp i) c (10014 :: H) 1 x3 (by omega) hop (by rw [dw_lwr]; decide) (by decide) (Or.inl rfl) with ⟨x, z1, z2⟩ | ⟨i1, d1, H1, c1', z1, z2, z3, z4, z5, z6, z7, z8⟩
    · exact Or.inl ⟨x, dw_dd_emit _ z1, dw_Ld_neg hm c1.1 (by omega) z2⟩
    · have z9 := dw_lx3 (tb := tb) z3
      have hl2 : (c ++ d1).length < 160 := by
        rw [List.length_append]
        omega
      rw [z1, dw_LQ_emit _ hl2, List.append_assoc]
      refine Or.inr ⟨i1, d1 ++ [10014], H1, c1', rfl, by omega, z3, ?_, dw_rw_un (Or.inr rfl) hn z5, ?_, trivial, fun res h => dw_Ld_neg hm c1.1 (by omega) (z8 res h)⟩
      · rw [List.length_append]
        show d1.length + 1 + _ ≤ _
        omega
      · rw [z6, dw_unw_push (by decide), List.append_assoc]
  rw [if_neg c1]
  by_cases c2 : dw_tk tb tp i = 10018 ∧ o < 5
  · rw [if_pos c2, dw_LQ_step]
    have x3 := dw_lx2 hb hi (show dw_tk tb tp i ≠ 10021 by omega)
    have hop : dw_opn (10018 :: H) = o + 1 := by
      rw [dw_opn, ho]
      rfl
    rcases hE c2.2 (dw_nx tb tp i) c (10018 :: H) 2 x3 (by omega) hop (by rw [dw_lwr]; decide) (by decide) rfl with ⟨x, z1, z2⟩ | ⟨i1, d1, H1, c1', z1, z2, z3, z4, z5, z6, z7, z8⟩
    · exact Or.inl ⟨x, dw_dd_PU (dw_PU_exp (by decide)) z1, dw_Ld_par hm c2.1 (by omega) z2⟩
    · rw [z1, dw_pexp]
      have eq1 : (dw_LQ tb tp i1 (c ++ d1)).2.1 = dw_tk tb tp i1 := rfl
      have hU : dw_unw 1 H1 c1' = (10018 :: H, c ++ d1) := by
        rw [z6, dw_unw_low (by rw [dw_lwr]; decide)]
      rw [eq1]
      by_cases c3 : dw_tk tb tp i1 = 10019
      · rw [if_pos c3, dw_LQ_step]
        have x4 := dw_lx2 hb z3 (show dw_tk tb tp i1 ≠ 10021 by omega)
        obtain ⟨w1, w2⟩ := dw_lx1 (tb := tb) (tp := tp) i1
        obtain ⟨v1, v2⟩ := dw_lx1 (tb := tb) (tp := tp) (dw_nx tb tp i1)
        exact Or.inr ⟨dw_nx tb tp i1, d1, _, _, rfl, by omega, x4, by omega, z5, dw_unw_co (Nat.le_refl 7) _ _, trivial, fun res h => dw_Ld_par hm c2.1 (by omega) (z8 res (dw_Ld_close c3 hU h))⟩
      · rw [if_neg c3]
        refine Or.inl ⟨dw_pl1 tb tp i1, dw_dd_fail i1 _, dw_Ld_par hm c2.1 (by omega) (z8 _ (dw_stop1 z7 (fun _ => by rw [hU]; rfl) (fun e => absurd e c3)))⟩
  rw [if_neg c2]
  refine Or.inl ⟨dw_pl1 tb tp i, dw_dd_fail i c, ?_⟩
  have h13 : ¬ (dw_tk tb tp i = 10013 ∧ m = 2) := by
    intro q
    rcases hpre with e | e
    · omega
    · exact e q.1
  by_cases d1 : dw_tk tb tp i = 10011
  · exact dw_Ld_full hm (by omega) (Or.inr (Or.inl d1))
  by_cases d2 : dw_tk tb tp i = 10018
  · exact dw_Ld_full hm (by omega) (Or.inr (Or.inr d2))
  exact dw_Ld_bad hm c0 h13 d1 d2
theorem dw_sim_den (htp : tp ≤ 160) (hb : ∀ j, j < tp → tb j < 256) {rD rS : dw_PF} {o need : Nat} (ho5 : o ≤ 5) (hn : 1 ≤ need) (hD : o < 5 → dw_sim tb tp (rD (o + 1)) (o + 1) 3 4 (need + 1) dw_preD (dw_po3 tb tp)) (hS : dw_sim tb tp (rS o) o 5 5 need dw_preO (dw_po5 tb tp)) : dw_sim tb tp (dw_pden tb tp rD rS o) o 3 4 (need + 1) dw_preD (dw_po3 tb tp) := by
  intro i c H m hi hc ho hlow hm hpre
  have hm2 : m = 2 := hpre
  subst hm2
  obtain ⟨x1, x2⟩ := dw_lx1 (tb := tb) (tp := tp) i
  obtain ⟨y1, y2⟩ := dw_lx1 (tb := tb) (tp := tp) (dw_nx tb tp i)
  have eq : (dw_LQ tb tp i c).2.1 = dw_tk tb tp i := rfl
  unfold dw_pden
  rw [eq]
  by_cases c0 : dw_tk tb tp i = 10013
  · rw [if_pos c0]
    by_cases c1 : o < 5
    · rw [if_pos c1, dw_LQ_step]
      have x3 := dw_lx2 hb hi (show dw_tk tb tp i ≠ 10021 by omega)
      have hop : dw_opn (10013 :: H) = o + 1 := by
        rw [dw_opn, ho]
        rfl
      rcases hD c1 (dw_nx tb tp i) c (10013 :: H) 2 x3 (by omega) hop (by rw [dw_lwr]; decide) (by decide) rfl with ⟨x, z1, z2⟩ | ⟨i1, d1, H1, c1', z1, z2, z3, z4, z5, z6, z7, z8⟩
      · exact Or.inl ⟨x, dw_dd_emit _ z1, dw_Ld_not c0 (by omega) z2⟩
      · have z9 := dw_lx3 (tb := tb) z3
        have hl2 : (c ++ d1).length < 160 := by
          rw [List.length_append]
          omega
        rw [z1, dw_LQ_emit _ hl2, List.append_assoc]
        refine Or.inr ⟨i1, d1 ++ [10013], H1, c1', rfl, by omega, z3, ?_, dw_rw_un (Or.inl rfl) (by omega) z5, ?_, z7, fun res h => dw_Ld_not c0 (by omega) (z8 res h)⟩
        · rw [List.length_append]
          show d1.length + 1 + _ ≤ _
          omega
        · rw [z6, dw_unw_push (by decide), List.append_assoc]
    · rw [if_neg c1]
      exact Or.inl ⟨dw_pl1 tb tp i, dw_dd_fail i c, dw_Ld_full (by decide) (by omega) (Or.inl ⟨c0, rfl⟩)⟩
  rw [if_neg c0]
  rcases hS i c H 2 hi hc ho (dw_low_mono (by decide) hlow) (by decide) (Or.inr c0) with ⟨x, z1, z2⟩ | ⟨i1, d1, H1, c1', z1, z2, z3, z4, z5, z6, z7, z8⟩
  · rw [if_neg (by
      have e := z1.2.1
      omega)]
    exact Or.inl ⟨x, z1, z2⟩
  · rw [z1]
    have eq1 : (dw_LQ tb tp i1 (c ++ d1)).2.1 = dw_tk tb tp i1 := rfl
    rw [eq1]
    by_cases c1 : dw_tk tb tp i1 = 10008 ∨ dw_tk tb tp i1 = 10009
    · rw [if_pos c1, dw_LQ_step]
      obtain ⟨w1, w2⟩ := dw_lx1 (tb := tb) (tp := tp) i1
      obtain ⟨v1, v2⟩ := dw_lx1 (tb := tb) (tp := tp) (dw_nx tb tp i1)
      have x4 := dw_lx2 hb z3 (show dw_tk tb tp i1 ≠ 10021 by omega)
      have e4 : dw_rk (dw_tk tb tp i1) = 4 ∧ dw_ul (dw_tk tb tp i1) = 5 ∧ dw_md (dw_tk tb tp i1) = 1 ∧ dw_opb (dw_tk tb tp i1) = false := by
        rcases c1 with e | e
        · rw [e]
          decide
        · rw [e]
          decide
      have hU : dw_unw (dw_ul (dw_tk tb tp i1)) H1 c1' = (H, c ++ d1) := by
        rw [e4.2.1, z6, dw_unw_low (dw_low_mono (by decide) hlow)]
      have hnt : dw_top4 H = false := by
        cases H with
        | nil => rfl
        | cons s H' =>
          have h9 : dw_rk s < 4 := hlow
          rw [dw_top4, decide_eq_false (by omega)]
      have hL : ∀ res, dw_Ld tb tp (dw_nx tb tp i1) (dw_tk tb tp i1 :: H) (c ++ d1) 1 res → dw_Ld tb tp i H c 2 res := by
        intro res h
        refine z8 res (dw_Ld_sign (by omega) (by omega) (fun q => ?_) ?_)
        · have q2 := q.2
          rw [hU, hnt] at q2
          exact absurd q2 (by decide)
        · rw [hU, e4.2.2.1]
          exact h
      have hop : dw_opn (dw_tk tb tp i1 :: H) = o := by
        rw [dw_opn, e4.2.2.2, ho]
        rfl
      have hlen : (c ++ d1).length ≤ dw_pl1 tb tp i1 := by
        rw [List.length_append]
        omega
      rcases hS (dw_nx tb tp i1) (c ++ d1) (dw_tk tb tp i1 :: H) 1 x4 (by omega) hop (by rw [dw_lwr, e4.1]; decide) (by decide) (Or.inl rfl) with ⟨x, u1, u2⟩ | ⟨i2, d2, H2, c2, u1, u2, u3, u4, u5, u6, u7, u8⟩
      · exact Or.inl ⟨x, dw_dd_emit _ u1, hL _ u2⟩
      · have u9 := dw_lx3 (tb := tb) u3
        have hl2 : (c ++ d1 ++ d2).length < 160 := by
          rw [List.length_append]
          omega
        have ea : c ++ d1 ++ d2 ++ [dw_tk tb tp i1] = c ++ (d1 ++ (d2 ++ [dw_tk tb tp i1])) := by simp only [List.append_assoc]
        have hU2 : dw_unw 5 H2 c2 = (dw_tk tb tp i1 :: H, c ++ d1 ++ d2) := by
          rw [u6, dw_unw_low (by rw [dw_lwr, e4.1]; decide)]
        rw [u1, dw_LQ_emit _ hl2, ea]
        refine Or.inr ⟨i2, d1 ++ (d2 ++ [dw_tk tb tp i1]), H2, c2, rfl, by omega, u3, ?_, dw_rw_bin (by omega) (by omega) hn (dw_rw_mono (Nat.le_succ _) z5) u5, ?_, ⟨u7, fun _ => ?_⟩, fun res h => hL res (u8 res h)⟩
        · rw [List.length_append, List.length_append]
          show d1.length + (d2.length + 1) + _ ≤ _
          omega
        · rw [dw_unw_tr (by decide) u6, dw_unw_push (by rw [e4.1]; decide), ea]
        · rw [hU2, dw_top4, e4.1]
          rfl
    · rw [if_neg c1]
      exact Or.inr ⟨i1, d1, H1, c1', rfl, z2, z3, z4, dw_rw_mono (Nat.le_succ _) z5, dw_unw_tr (by decide) z6, ⟨z7, fun q => absurd q c1⟩, z8⟩
theorem dw_sim_knot (htp : tp ≤ 160) (hb : ∀ j, j < tp → tb j < 256) : ∀ n o, o ≤ 5 → 6 ≤ n + o → dw_sim tb tp ((dw_pknot tb tp n).1 o) o 1 1 (6 + 5 * (5 - o)) dw_preD (dw_po1 tb tp) ∧ dw_sim tb tp ((dw_pknot tb tp n).2.1 o) o 7 8 (1 + 5 * (5 - o)) dw_preO dw_po7 ∧ dw_sim tb tp ((dw_pknot tb tp n).2.2 o) o 3 4 (4 + 5 * (5 - o)) dw_preD (dw_po3 tb tp)
  | 0, o, h1, h2 => absurd h2 (by omega)
  | n + 1, o, h1, h2 => by
    have ih := fun (h : o < 5) => dw_sim_knot htp hb n (o + 1) (by omega) (by omega)
    have gO : dw_sim tb tp (dw_pone tb tp (dw_pknot tb tp n).1 (dw_pknot tb tp n).2.1 o) o 7 8 (1 + 5 * (5 - o)) dw_preO dw_po7 := dw_sim_one htp hb h1 (by omega) (fun h => dw_sim_mono (Nat.le_refl _) (by omega) (ih h).1) (fun h => dw_sim_mono (Nat.le_refl _) (by omega) (ih h).2.1)
    have gT := dw_sim_loop htp hb (r := 6) (fun t => decide (t = 10012)) (fun t e => by
      have e2 := of_decide_eq_true e
      subst e2
      exact ⟨by decide, by decide, by decide, fun _ => Or.inl rfl⟩) (by decide) (by decide) (by decide) (by omega) gO
    have gS := dw_sim_loop htp hb (r := 5) (fun t => decide (t = 10010) || decide (t = 10011)) (fun t e => by
      rw [Bool.or_eq_true] at e
      rcases e with e | e
      · have e2 := of_decide_eq_true e
        subst e2
        exact ⟨by decide, by decide, by decide, fun _ => Or.inl rfl⟩
      · have e2 := of_decide_eq_true e
        subst e2
        exact ⟨by decide, by decide, by decide, fun _ => Or.inl rfl⟩) (by decide) (by decide) (by decide) (by omega) gT
    have gD : dw_sim tb tp (dw_pden tb tp (dw_pknot tb tp n).2.2 (dw_psum tb tp (dw_pterm tb tp (dw_pone tb tp (dw_pknot tb tp n).1 (dw_pknot tb tp n).2.1))) o) o 3 4 (1 + 5 * (5 - o) + 1 + 1 + 1) dw_preD (dw_po3 tb tp) := dw_sim_den htp hb h1 (by omega) (fun h => dw_sim_mono (Nat.le_refl _) (by omega) (ih h).2.2) gS
    have gB := dw_sim_loop htp hb (r := 2) (fun t => decide (t = 10007)) (fun t e => by
      have e2 := of_decide_eq_true e
      subst e2
      exact ⟨by decide, by decide, by decide, fun _ => rfl⟩) (by decide) (by decide) (by decide) (by omega) gD
    have gE := dw_sim_loop htp hb (r := 1) (fun t => decide (t = 10006)) (fun t e => by
      have e2 := of_decide_eq_true e
      subst e2
      exact ⟨by decide, by decide, by decide, fun _ => rfl⟩) (by decide) (by decide) (by decide) (by omega) gB
    rw [dw_pknot]
    exact ⟨dw_sim_mono (Nat.le_refl _) (by omega) gE, gO, dw_sim_mono (Nat.le_refl _) (by omega) gD⟩
/-- a part, its key being at hand -/
theorem dw_sim_part (htp : tp ≤ 160) (hb : ∀ j, j < tp → tb j < 256) {i key : Nat} {c : List Nat} (hi : i ≤ tp) (hc : c.length ≤ dw_pl1 tb tp i) (hk : dw_tk tb tp i = key) (hk2 : key ≠ 10021) : (∃ x, dw_dd x (dw_ppart tb tp key (dw_LQ tb tp i c)) ∧ dw_Ld tb tp (dw_nx tb tp i) [] c 2 (.inl x)) ∨ (∃ i' d, dw_ppart tb tp key (dw_LQ tb tp i c) = dw_LQ tb tp i' (c ++ d) ∧ i' ≤ tp ∧ (c ++ d).length ≤ i' ∧ dw_rw 31 d ∧ dw_Ld tb tp (dw_nx tb tp i) [] c 2 (.inr (i', c ++ d))) := by
  have hs := (dw_sim_knot htp hb 7 0 (by decide) (by decide)).1
  obtain ⟨x1, x2⟩ := dw_lx1 (tb := tb) (tp := tp) i
  obtain ⟨y1, y2⟩ := dw_lx1 (tb := tb) (tp := tp) (dw_nx tb tp i)
  have x3 := dw_lx2 hb hi (show dw_tk tb tp i ≠ 10021 by omega)
  have e0 : dw_pexp tb tp key (dw_LQ tb tp i c) = dw_LQ tb tp (dw_nx tb tp i) c := by
    have hk3 : (dw_LQ tb tp i c).2.1 = key := hk
    rw [dw_pexp, if_pos hk3]
    rfl
  rw [dw_ppart, e0]
  rcases hs (dw_nx tb tp i) c [] 2 x3 (by omega) rfl trivial (by decide) rfl with ⟨x, z1, z2⟩ | ⟨i1, d1, H1, c1, z1, z2, z3, z4, z5, z6, z7, z8⟩
  · exact Or.inl ⟨x, dw_dd_PU (dw_PU_exp (by decide)) z1, z2⟩
  · rw [z1, dw_pexp]
    have eq1 : (dw_LQ tb tp i1 (c ++ d1)).2.1 = dw_tk tb tp i1 := rfl
    rw [eq1]
    have hU : dw_unw 1 H1 c1 = ([], c ++ d1) := z6
    by_cases c3 : dw_tk tb tp i1 = 10020
    · rw [if_pos c3, dw_LQ_step]
      have x4 := dw_lx2 hb z3 (show dw_tk tb tp i1 ≠ 10021 by omega)
      obtain ⟨w1, w2⟩ := dw_lx1 (tb := tb) (tp := tp) i1
      exact Or.inr ⟨dw_nx tb tp i1, d1, rfl, x4, by rw [List.length_append]; omega, z5, z8 _ (dw_Ld_end c3 hU)⟩
    · rw [if_neg c3]
      exact Or.inl ⟨dw_pl1 tb tp i1, dw_dd_fail i1 _, z8 _ (dw_stop1 z7 (fun e => absurd e c3) (fun _ => by rw [hU]; rfl))⟩
end SI
