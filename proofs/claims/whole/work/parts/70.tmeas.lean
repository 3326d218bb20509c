/-! THE PURE PARSER: never more code than bytes -/
def dw_GQ (q q' : dw_Q) : Prop := q'.1 < q'.2.2.1 ∧ q.2.2.2.2.length ≤ q'.2.2.2.2.length ∧ q'.2.2.2.2.length + q.1 ≤ q.2.2.2.2.length + q'.1
def dw_PR (p : dw_Q → dw_Q) : Prop := ∀ q : dw_Q, q.1 < q.2.2.1 → dw_GQ q (p q)
theorem dw_GQ_rfl {q : dw_Q} (h : q.1 < q.2.2.1) : dw_GQ q q := ⟨h, Nat.le_refl _, Nat.le_refl _⟩
theorem dw_GQ_tr {a b c : dw_Q} (h : dw_GQ a b) (g : dw_GQ b c) : dw_GQ a c := ⟨g.1, Nat.le_trans h.2.1 g.2.1, by
  have h1 := h.2.2
  have h2 := g.2.2
  omega⟩
theorem dw_lexG (tb : Nat → Nat) (tp i : Nat) : i ≤ (dw_lex tb tp i).1 ∧ (dw_lex tb tp i).1 < (dw_lex tb tp i).2.2 := by
  unfold dw_lex
  have hP := dw_sk_ge dw_isB tb tp 160 i
  generalize dw_sk dw_isB tb tp 160 i = P at *
  have adv : ∀ p : Int32 → Bool, p (-1) = false → p (dw_by tb tp P) = true → P < dw_sk p tb tp 160 P := by
    intro p hm hp
    have hPt : P < tp := by
      rcases Nat.lt_or_ge P tp with c | c
      · exact c
      · rw [dw_by, if_neg (by omega), hm] at hp
        exact absurd hp (by decide)
    rw [dw_sk, if_pos hPt, if_pos hp]
    exact dw_sk_ge p tb tp 159 (P + 1)
  by_cases cD : dw_isD (dw_by tb tp P) = true
  · simp only [if_pos cD]
    exact ⟨hP, adv _ dw_isDm cD⟩
  · simp only [if_neg cD]
    by_cases cL : dw_isL (dw_by tb tp P) = true
    · simp only [if_pos cL]
      exact ⟨hP, adv _ dw_isLm cL⟩
    · simp only [if_neg cL]
      exact ⟨hP, Nat.lt_succ_self P⟩
section TM
variable {tb : Nat → Nat} {tp : Nat}
theorem dw_GQ_step {q : dw_Q} (h : q.1 < q.2.2.1) : dw_GQ q (dw_pstep tb tp q) ∧ q.1 + 1 ≤ (dw_pstep tb tp q).1 ∧ (dw_pstep tb tp q).2.2.2.2 = q.2.2.2.2 := by
  obtain ⟨h1, h2⟩ := dw_lexG tb tp q.2.2.1
  refine ⟨⟨h2, Nat.le_refl _, ?_⟩, ?_, rfl⟩
  · show q.2.2.2.2.length + q.1 ≤ q.2.2.2.2.length + (dw_lex tb tp q.2.2.1).1
    omega
  · show q.1 + 1 ≤ (dw_lex tb tp q.2.2.1).1
    omega
theorem dw_GQ_emit {a q : dw_Q} (c : Nat) (h : dw_GQ a q) (hs : q.2.2.2.2.length + a.1 + 1 ≤ a.2.2.2.2.length + q.1) : dw_GQ a (dw_pemit c q) := by
  have hl : q.2.2.2.2.length ≤ (dw_pemit c q).2.2.2.2.length ∧ (dw_pemit c q).2.2.2.2.length ≤ q.2.2.2.2.length + 1 := by
    show q.2.2.2.2.length ≤ (if q.2.2.2.2.length < 160 then q.2.2.2.2 ++ [c] else q.2.2.2.2).length ∧ (if q.2.2.2.2.length < 160 then q.2.2.2.2 ++ [c] else q.2.2.2.2).length ≤ q.2.2.2.2.length + 1
    by_cases c1 : q.2.2.2.2.length < 160
    · rw [if_pos c1, List.length_append]
      exact ⟨Nat.le_succ _, Nat.le_refl _⟩
    · rw [if_neg c1]
      exact ⟨Nat.le_refl _, Nat.le_succ _⟩
  refine ⟨h.1, Nat.le_trans h.2.1 hl.1, ?_⟩
  show (dw_pemit c q).2.2.2.2.length + a.1 ≤ a.2.2.2.2.length + q.1
  omega
theorem dw_GQ_fail {q : dw_Q} (h : q.1 < q.2.2.1) : dw_GQ q (dw_pfail q) := ⟨h, Nat.le_refl _, Nat.le_refl _⟩
theorem dw_GQ_exp {q : dw_Q} (h : q.1 < q.2.2.1) (w : Nat) : dw_GQ q (dw_pexp tb tp w q) := by
  unfold dw_pexp
  by_cases c : q.2.1 = w
  · rw [if_pos c]
    exact (dw_GQ_step h).1
  · rw [if_neg c]
    exact dw_GQ_fail h
/-- a token, a rule, its code -/
theorem dw_GQ_join {q : dw_Q} (h : q.1 < q.2.2.1) {p : dw_Q → dw_Q} (hp : dw_PR p) (c : Nat) : dw_GQ q (dw_pemit c (p (dw_pstep tb tp q))) := by
  obtain ⟨g1, g2, g3⟩ := dw_GQ_step (tb := tb) (tp := tp) h
  have g4 := hp _ g1.1
  refine dw_GQ_emit c (dw_GQ_tr g1 g4) ?_
  have g5 := g4.2.2
  rw [g3] at g5
  omega
theorem dw_PR_one {rE rO : dw_PF} {o : Nat} (hE : dw_PR (rE (o + 1))) (hO : dw_PR (rO (o + 1))) : dw_PR (dw_pone tb tp rE rO o) := by
  intro q h
  unfold dw_pone
  by_cases c0 : q.2.1 ≤ 10005
  · rw [if_pos c0]
    obtain ⟨g1, g2, g3⟩ := dw_GQ_step (tb := tb) (tp := tp) (q := dw_pemit q.2.1 q) h
    have hl : q.2.2.2.2.length ≤ (dw_pemit q.2.1 q).2.2.2.2.length ∧ (dw_pemit q.2.1 q).2.2.2.2.length ≤ q.2.2.2.2.length + 1 := by
      show q.2.2.2.2.length ≤ (if q.2.2.2.2.length < 160 then q.2.2.2.2 ++ [q.2.1] else q.2.2.2.2).length ∧ (if q.2.2.2.2.length < 160 then q.2.2.2.2 ++ [q.2.1] else q.2.2.2.2).length ≤ q.2.2.2.2.length + 1
      by_cases c1 : q.2.2.2.2.length < 160
      · rw [if_pos c1, List.length_append]
        exact ⟨Nat.le_succ _, Nat.le_refl _⟩
      · rw [if_neg c1]
        exact ⟨Nat.le_refl _, Nat.le_succ _⟩
    refine ⟨g1.1, ?_, ?_⟩
    · rw [g3]
      exact hl.1
    · rw [g3]
      have g2' : q.1 + 1 ≤ (dw_pstep tb tp (dw_pemit q.2.1 q)).1 := g2
      omega
  rw [if_neg c0]
  by_cases c1 : q.2.1 = 10011 ∧ o < 5
  · rw [if_pos c1]
    exact dw_GQ_join h hO 10014
  rw [if_neg c1]
  by_cases c2 : q.2.1 = 10018 ∧ o < 5
  · rw [if_pos c2]
    have g1 := (dw_GQ_step (tb := tb) (tp := tp) h).1
    have g2 := hE _ g1.1
    exact dw_GQ_tr (dw_GQ_tr g1 g2) (dw_GQ_exp g2.1 10019)
  · rw [if_neg c2]
    exact dw_GQ_fail h
theorem dw_PR_loop {c : Nat → Bool} {r : dw_Q → dw_Q} (hr : dw_PR r) : ∀ k, dw_PR (dw_ploop tb tp c r k)
  | 0 => fun q h => by
    rw [dw_ploop]
    exact dw_GQ_rfl h
  | k + 1 => fun q h => by
    rw [dw_ploop]
    by_cases c1 : c q.2.1 = true
    · rw [if_pos c1]
      have g := dw_GQ_join (tb := tb) (tp := tp) h hr q.2.1
      exact dw_GQ_tr g (dw_PR_loop hr k _ g.1)
    · rw [if_neg c1]
      exact dw_GQ_rfl h
theorem dw_PR_then {r : dw_Q → dw_Q} (hr : dw_PR r) (c : Nat → Bool) : dw_PR (fun q => dw_ploop tb tp c r 160 (r q)) := fun q h => dw_GQ_tr (hr q h) (dw_PR_loop hr 160 _ (hr q h).1)
theorem dw_PR_den {rD rS : dw_PF} {o : Nat} (hD : dw_PR (rD (o + 1))) (hS : dw_PR (rS o)) : dw_PR (dw_pden tb tp rD rS o) := by
  intro q h
  unfold dw_pden
  by_cases c : q.2.1 = 10013
  · rw [if_pos c]
    by_cases c2 : o < 5
    · rw [if_pos c2]
      exact dw_GQ_join h hD 10013
    · rw [if_neg c2]
      exact dw_GQ_fail h
  rw [if_neg c]
  have g := hS q h
  by_cases d : (rS o q).2.1 = 10008 ∨ (rS o q).2.1 = 10009
  · rw [if_pos d]
    exact dw_GQ_tr g (dw_GQ_join g.1 hS _)
  · rw [if_neg d]
    exact g
theorem dw_PR_knot : ∀ n o, dw_PR ((dw_pknot tb tp n).1 o) ∧ dw_PR ((dw_pknot tb tp n).2.1 o) ∧ dw_PR ((dw_pknot tb tp n).2.2 o)
  | 0, _ => ⟨fun _ h => dw_GQ_rfl h, fun _ h => dw_GQ_rfl h, fun _ h => dw_GQ_rfl h⟩
  | n + 1, o => by
    have ih := dw_PR_knot n (o + 1)
    have gO := dw_PR_one (tb := tb) (tp := tp) (rE := (dw_pknot tb tp n).1) (rO := (dw_pknot tb tp n).2.1) (o := o) ih.1 ih.2.1
    have gT := dw_PR_then (tb := tb) (tp := tp) gO (fun t => decide (t = 10012))
    have gS := dw_PR_then (tb := tb) (tp := tp) gT (fun t => decide (t = 10010) || decide (t = 10011))
    have gD := dw_PR_den (tb := tb) (tp := tp) (rD := (dw_pknot tb tp n).2.2) (rS := dw_psum tb tp (dw_pterm tb tp (dw_pone tb tp (dw_pknot tb tp n).1 (dw_pknot tb tp n).2.1))) (o := o) ih.2.2 gS
    have gB := dw_PR_then (tb := tb) (tp := tp) gD (fun t => decide (t = 10007))
    have gE := dw_PR_then (tb := tb) (tp := tp) gB (fun t => decide (t = 10006))
    rw [dw_pknot]
    exact ⟨gE, gO, gD⟩
theorem dw_PR_part (key : Nat) : dw_PR (dw_ppart tb tp key) := by
  intro q h
  have g1 := dw_GQ_exp (tb := tb) (tp := tp) h key
  have g2 := (dw_PR_knot (tb := tb) (tp := tp) 7 0).1 _ g1.1
  exact dw_GQ_tr (dw_GQ_tr g1 g2) (dw_GQ_exp g2.1 10020)
end TM
