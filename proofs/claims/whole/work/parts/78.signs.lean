/-! THE TWO READERS: signs held, pure -/
def dw_tk (tb : Nat → Nat) (tp i : Nat) : Nat := (dw_lex tb tp i).2.1
def dw_pl1 (tb : Nat → Nat) (tp i : Nat) : Nat := (dw_lex tb tp i).1
def dw_nx (tb : Nat → Nat) (tp i : Nat) : Nat := (dw_lex tb tp i).2.2
/-- the parser, the token at i being at hand -/
def dw_LQ (tb : Nat → Nat) (tp i : Nat) (c : List Nat) : dw_Q := (dw_pl1 tb tp i, dw_tk tb tp i, dw_nx tb tp i, none, c)
def dw_rk (t : Nat) : Nat := if t = 10018 then 0 else if t = 10006 then 1 else if t = 10007 then 2 else if t = 10013 then 3 else if t = 10008 then 4 else if t = 10009 then 4 else if t = 10010 then 5 else if t = 10011 then 5 else if t = 10012 then 6 else 7
/-- all signs that bind at least so come -/
def dw_unw (r : Nat) : List Nat → List Nat → List Nat × List Nat
  | [], c => ([], c)
  | s :: H, c => if r ≤ dw_rk s then dw_unw r H (c ++ [s]) else (s :: H, c)
def dw_opb (s : Nat) : Bool := decide (s = 10013) || decide (s = 10014) || decide (s = 10018)
/-- how many of those that count are held -/
def dw_opn : List Nat → Nat
  | [] => 0
  | s :: H => dw_opn H + (if dw_opb s = true then 1 else 0)
def dw_lwr (r : Nat) : List Nat → Prop
  | [] => True
  | s :: _ => dw_rk s < r
def dw_top4 : List Nat → Bool
  | [] => false
  | s :: _ => decide (dw_rk s = 4)
def dw_ul (t : Nat) : Nat := if dw_rk t = 4 then 5 else dw_rk t
def dw_md (t : Nat) : Nat := if t ≤ 10007 then 2 else 1
abbrev dw_Re : Type := Nat ⊕ (Nat × List Nat)
/-- the reference's way: 0: a sign is wanted, 1: one, 2: one or a not -/
def dw_R (tb : Nat → Nat) (tp : Nat) : Nat → Nat → List Nat → List Nat → Nat → Option dw_Re
  | 0, _, _, _, _ => none
  | n + 1, i, H, c, m =>
    if m = 0 then
      (if dw_tk tb tp i = 10020 then (if (dw_unw 1 H c).1.isEmpty = true then some (.inr (dw_nx tb tp i, (dw_unw 1 H c).2)) else some (.inl (dw_pl1 tb tp i)))
      else if dw_tk tb tp i = 10019 then (if (dw_unw 1 H c).1.isEmpty = true then some (.inl (dw_pl1 tb tp i)) else dw_R tb tp n (dw_nx tb tp i) (dw_unw 7 (dw_unw 1 H c).1.tail (dw_unw 1 H c).2).1 (dw_unw 7 (dw_unw 1 H c).1.tail (dw_unw 1 H c).2).2 0)
      else if 10006 ≤ dw_tk tb tp i ∧ dw_tk tb tp i ≤ 10012 then (if dw_rk (dw_tk tb tp i) = 4 ∧ dw_top4 (dw_unw (dw_ul (dw_tk tb tp i)) H c).1 = true then some (.inl (dw_pl1 tb tp i)) else dw_R tb tp n (dw_nx tb tp i) (dw_tk tb tp i :: (dw_unw (dw_ul (dw_tk tb tp i)) H c).1) (dw_unw (dw_ul (dw_tk tb tp i)) H c).2 (dw_md (dw_tk tb tp i)))
      else some (.inl (dw_pl1 tb tp i)))
    else
      (if dw_tk tb tp i ≤ 10005 then dw_R tb tp n (dw_nx tb tp i) (dw_unw 7 H (c ++ [dw_tk tb tp i])).1 (dw_unw 7 H (c ++ [dw_tk tb tp i])).2 0
      else if dw_tk tb tp i = 10013 ∧ m = 2 then (if dw_opn H = 5 then some (.inl (dw_pl1 tb tp i)) else dw_R tb tp n (dw_nx tb tp i) (10013 :: H) c 2)
      else if dw_tk tb tp i = 10011 then (if dw_opn H = 5 then some (.inl (dw_pl1 tb tp i)) else dw_R tb tp n (dw_nx tb tp i) (10014 :: H) c 1)
      else if dw_tk tb tp i = 10018 then (if dw_opn H = 5 then some (.inl (dw_pl1 tb tp i)) else dw_R tb tp n (dw_nx tb tp i) (10018 :: H) c 2)
      else some (.inl (dw_pl1 tb tp i)))
def dw_Ld (tb : Nat → Nat) (tp i : Nat) (H c : List Nat) (m : Nat) (res : dw_Re) : Prop := ∃ n, dw_R tb tp n i H c m = some res
theorem dw_unw_low {r : Nat} {H : List Nat} (h : dw_lwr r H) (c : List Nat) : dw_unw r H c = (H, c) := by
  cases H with
  | nil => rfl
  | cons s H =>
    have h2 : dw_rk s < r := h
    rw [dw_unw, if_neg (by omega)]
theorem dw_unw_co {r s : Nat} (hrs : r ≤ s) : ∀ (H c : List Nat), dw_unw r (dw_unw s H c).1 (dw_unw s H c).2 = dw_unw r H c
  | [], _ => rfl
  | x :: H, c => by
    by_cases h : s ≤ dw_rk x
    · rw [dw_unw, if_pos h, dw_unw_co hrs H (c ++ [x]), dw_unw, if_pos (by omega)]
    · have e : dw_unw s (x :: H) c = (x :: H, c) := by rw [dw_unw, if_neg h]
      rw [e]
theorem dw_unw_tr {r s : Nat} (hrs : r ≤ s) {H1 c1 H2 c2 : List Nat} (h : dw_unw s H1 c1 = dw_unw s H2 c2) : dw_unw r H1 c1 = dw_unw r H2 c2 := by
  rw [← dw_unw_co hrs H1 c1, h, dw_unw_co hrs]
theorem dw_unw_push {r x : Nat} (h : r ≤ dw_rk x) (H c : List Nat) : dw_unw r (x :: H) c = dw_unw r H (c ++ [x]) := by
  rw [dw_unw, if_pos h]
theorem dw_unw_len (r : Nat) : ∀ (H c : List Nat), (dw_unw r H c).1.length + (dw_unw r H c).2.length = H.length + c.length
  | [], c => rfl
  | x :: H, c => by
    rw [dw_unw]
    by_cases h : r ≤ dw_rk x
    · rw [if_pos h, dw_unw_len r H (c ++ [x]), List.length_append, List.length_cons]
      show H.length + (c.length + 1) = H.length + 1 + c.length
      omega
    · rw [if_neg h]
theorem dw_low_mono {r s : Nat} (h : r ≤ s) {H : List Nat} (hl : dw_lwr r H) : dw_lwr s H := by
  cases H with
  | nil => trivial
  | cons x H => exact Nat.lt_of_lt_of_le hl h
/-! rows of code: so much deeper at most -/
def dw_rw (k : Nat) (d : List Nat) : Prop := ∀ n rest, n + k ≤ 32 → dw_ok rest (n + 1) → dw_ok (d ++ rest) n
theorem dw_rw_mono {k k' : Nat} {d : List Nat} (h : k ≤ k') (hd : dw_rw k d) : dw_rw k' d := fun n rest hn ho => hd n rest (by omega) ho
theorem dw_rw_num {t : Nat} (ht : t ≤ 10005) : dw_rw 1 [t] := fun _ _ hn ho => Or.inl ⟨ht, by omega, ho⟩
theorem dw_rw_un {k t : Nat} {d : List Nat} (ht : t = 10013 ∨ t = 10014) (hk : 1 ≤ k) (hd : dw_rw k d) : dw_rw k (d ++ [t]) := by
  intro n rest hn ho
  rw [List.append_assoc]
  exact hd n _ hn (Or.inr (Or.inl ⟨ht, by omega, by omega, ho⟩))
theorem dw_rw_bin {k t : Nat} {d1 d2 : List Nat} (h1 : 10006 ≤ t) (h2 : t ≤ 10012) (hk : 1 ≤ k) (hd1 : dw_rw (k + 1) d1) (hd2 : dw_rw k d2) : dw_rw (k + 1) (d1 ++ (d2 ++ [t])) := by
  intro n rest hn ho
  rw [List.append_assoc]
  refine hd1 n _ hn ?_
  rw [List.append_assoc]
  refine hd2 (n + 1) _ (by omega) (Or.inr (Or.inr ⟨h1, h2, by omega, by omega, ?_⟩))
  exact ho
/-! what the tokens keep to -/
section LX
variable {tb : Nat → Nat} {tp : Nat}
theorem dw_lx1 (i : Nat) : i ≤ dw_pl1 tb tp i ∧ dw_pl1 tb tp i < dw_nx tb tp i := dw_lexG tb tp i
theorem dw_lx2 (hb : ∀ j, j < tp → tb j < 256) {i : Nat} (hi : i ≤ tp) (h : dw_tk tb tp i ≠ 10021) : dw_nx tb tp i ≤ tp := by
  rcases (dw_lexB hb hi).2.1 with h2 | h2
  · exact h2
  · exact absurd h2 h
theorem dw_lx3 {i : Nat} (hi : i ≤ tp) : dw_pl1 tb tp i ≤ tp := dw_lexP hi
theorem dw_lx4 (hb : ∀ j, j < tp → tb j < 256) {i : Nat} (hi : i ≤ tp) : dw_tk tb tp i ≤ 10022 := (dw_lexB hb hi).2.2
theorem dw_lx5 {i : Nat} (hi : tp ≤ i) : dw_tk tb tp i = 10021 := by
  have e : dw_sk dw_isB tb tp 160 i = i := by rw [dw_sk, if_neg (by omega)]
  have e2 : dw_by tb tp i = -1 := by rw [dw_by, if_neg (by omega)]
  unfold dw_tk dw_lex
  rw [e, e2, if_neg (by decide), if_neg (by decide), if_neg (by omega)]
/-! a step of the reference's way -/
theorem dw_Ld_num {i : Nat} {H c : List Nat} {m : Nat} {res : dw_Re} (hm : m ≠ 0) (ht : dw_tk tb tp i ≤ 10005) (h : dw_Ld tb tp (dw_nx tb tp i) (dw_unw 7 H (c ++ [dw_tk tb tp i])).1 (dw_unw 7 H (c ++ [dw_tk tb tp i])).2 0 res) : dw_Ld tb tp i H c m res := by
  obtain ⟨n, h⟩ := h
  refine ⟨n + 1, ?_⟩
  rw [dw_R, if_neg hm, if_pos ht]
  exact h
theorem dw_Ld_not {i : Nat} {H c : List Nat} {res : dw_Re} (ht : dw_tk tb tp i = 10013) (ho : dw_opn H ≠ 5) (h : dw_Ld tb tp (dw_nx tb tp i) (10013 :: H) c 2 res) : dw_Ld tb tp i H c 2 res := by
  obtain ⟨n, h⟩ := h
  refine ⟨n + 1, ?_⟩
  rw [dw_R, if_neg (by decide), if_neg (by omega), if_pos ⟨ht, rfl⟩, if_neg ho]
  exact h
theorem dw_Ld_neg {i : Nat} {H c : List Nat} {m : Nat} {res : dw_Re} (hm : m ≠ 0) (ht : dw_tk tb tp i = 10011) (ho : dw_opn H ≠ 5) (h : dw_Ld tb tp (dw_nx tb tp i) (10014 :: H) c 1 res) : dw_Ld tb tp i H c m res := by
  obtain ⟨n, h⟩ := h
  refine ⟨n + 1, ?_⟩
  rw [dw_R, if_neg hm, if_neg (by omega), if_neg (by omega), if_pos ht, if_neg ho]
  exact h
theorem dw_Ld_par {i : Nat} {H c : List Nat} {m : Nat} {res : dw_Re} (hm : m ≠ 0) (ht : dw_tk tb tp i = 10018) (ho : dw_opn H ≠ 5) (h : dw_Ld tb tp (dw_nx tb tp i) (10018 :: H) c 2 res) : dw_Ld tb tp i H c m res := by
  obtain ⟨n, h⟩ := h
  refine ⟨n + 1, ?_⟩
  rw [dw_R, if_neg hm, if_neg (by omega), if_neg (by omega), if_neg (by omega), if_pos ht, if_neg ho]
  exact h
theorem dw_Ld_full {i : Nat} {H c : List Nat} {m : Nat} (hm : m ≠ 0) (ho : dw_opn H = 5) (ht : (dw_tk tb tp i = 10013 ∧ m = 2) ∨ dw_tk tb tp i = 10011 ∨ dw_tk tb tp i = 10018) : dw_Ld tb tp i H c m (.inl (dw_pl1 tb tp i)) := by
  refine ⟨1, ?_⟩
  rw [dw_R, if_neg hm, if_neg (by omega)]
  by_cases c1 : dw_tk tb tp i = 10013 ∧ m = 2
  · rw [if_pos c1, if_pos ho]
  rw [if_neg c1]
  by_cases c2 : dw_tk tb tp i = 10011
  · rw [if_pos c2, if_pos ho]
  rw [if_neg c2]
  by_cases c3 : dw_tk tb tp i = 10018
  · rw [if_pos c3, if_pos ho]
  rw [if_neg c3]
theorem dw_Ld_bad {i : Nat} {H c : List Nat} {m : Nat} (hm : m ≠ 0) (h0 : ¬ dw_tk tb tp i ≤ 10005) (h1 : ¬ (dw_tk tb tp i = 10013 ∧ m = 2)) (h2 : dw_tk tb tp i ≠ 10011) (h3 : dw_tk tb tp i ≠ 10018) : dw_Ld tb tp i H c m (.inl (dw_pl1 tb tp i)) := by
  refine ⟨1, ?_⟩
  rw [dw_R, if_neg hm, if_neg h0, if_neg h1, if_neg h2, if_neg h3]
theorem dw_Ld_sign {i : Nat} {H c : List Nat} {res : dw_Re} (h1 : 10006 ≤ dw_tk tb tp i) (h2 : dw_tk tb tp i ≤ 10012) (h4 : ¬ (dw_rk (dw_tk tb tp i) = 4 ∧ dw_top4 (dw_unw (dw_ul (dw_tk tb tp i)) H c).1 = true)) (h : dw_Ld tb tp (dw_nx tb tp i) (dw_tk tb tp i :: (dw_unw (dw_ul (dw_tk tb tp i)) H c).1) (dw_unw (dw_ul (dw_tk tb tp i)) H c).2 (dw_md (dw_tk tb tp i)) res) : dw_Ld tb tp i H c 0 res := by
  obtain ⟨n, h⟩ := h
  refine ⟨n + 1, ?_⟩
  rw [dw_R, if_pos rfl, if_neg (by omega), if_neg (by omega), if_pos ⟨h1, h2⟩, if_neg h4]
  exact h
theorem dw_Ld_close {i : Nat} {H c H' c' : List Nat} {res : dw_Re} (ht : dw_tk tb tp i = 10019) (hu : dw_unw 1 H c = (10018 :: H', c')) (h : dw_Ld tb tp (dw_nx tb tp i) (dw_unw 7 H' c').1 (dw_unw 7 H' c').2 0 res) : dw_Ld tb tp i H c 0 res := by
  obtain ⟨n, h⟩ := h
  refine ⟨n + 1, ?_⟩
  rw [dw_R, if_pos rfl, if_neg (by omega), if_pos ht, hu]
  exact h
theorem dw_Ld_end {i : Nat} {H c c' : List Nat} (ht : dw_tk tb tp i = 10020) (hu : dw_unw 1 H c = ([], c')) : dw_Ld tb tp i H c 0 (.inr (dw_nx tb tp i, c')) := by
  refine ⟨1, ?_⟩
  rw [dw_R, if_pos rfl, if_pos ht, hu]
  rfl
/-- where an E has ended, and what comes can't stand there -/
theorem dw_Ld_stop {i : Nat} {H c : List Nat} (h7 : dw_tk tb tp i = 10020 → (dw_unw 1 H c).1.isEmpty = false) (h8 : dw_tk tb tp i = 10019 → (dw_unw 1 H c).1.isEmpty = true) (h9 : dw_tk tb tp i ≠ 10006 ∧ dw_tk tb tp i ≠ 10007 ∧ dw_tk tb tp i ≠ 10010 ∧ dw_tk tb tp i ≠ 10011 ∧ dw_tk tb tp i ≠ 10012) (h4 : dw_tk tb tp i = 10008 ∨ dw_tk tb tp i = 10009 → dw_top4 (dw_unw 5 H c).1 = true) : dw_Ld tb tp i H c 0 (.inl (dw_pl1 tb tp i)) := by
  refine ⟨1, ?_⟩
  rw [dw_R, if_pos rfl]
  by_cases c1 : dw_tk tb tp i = 10020
  · rw [if_pos c1, h7 c1]
    rfl
  rw [if_neg c1]
  by_cases c2 : dw_tk tb tp i = 10019
  · rw [if_pos c2, h8 c2]
    rfl
  rw [if_neg c2]
  by_cases c3 : 10006 ≤ dw_tk tb tp i ∧ dw_tk tb tp i ≤ 10012
  · rw [if_pos c3]
    have c4 : dw_tk tb tp i = 10008 ∨ dw_tk tb tp i = 10009 := by omega
    have e4 : dw_rk (dw_tk tb tp i) = 4 ∧ dw_ul (dw_tk tb tp i) = 5 := by
      rcases c4 with e | e
      · rw [e]
        decide
      · rw [e]
        decide
    rw [e4.2, if_pos ⟨e4.1, h4 c4⟩]
  · rw [if_neg c3]
end LX
