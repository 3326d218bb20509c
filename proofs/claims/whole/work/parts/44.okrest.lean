/-! EVERY CALL KEEPS THE STATE SOUND -/
section OK
variable {r m yy tx tp : Nat} {s : dw_L} {H : dw_H} {ho cl : Int64} {wt : Nat → dw_W} {tb : Nat → Nat} {im : Option dw_Ln}
theorem dw_Oput (ok : dw_Ok ((m, s, yy, ho, cl, r), (tx, wt), (tp, tb), im, H)) (d wh v : Int32) : dw_Ok (dw_oput ((m, s, yy, ho, cl, r), (tx, wt), (tp, tb), im, H) d wh v).1 := by
  rw [dw_oput]
  cases e : dw_st s d 6 with
  | none => rw [dw_oput0]; exact ok
  | some j =>
    obtain ⟨j1, j2, j3⟩ := dw_st_of e
    rw [dw_oput0]
    by_cases c0 : dw_in wh 0 2 = 0
    · rw [if_pos c0]; exact ok
    rw [if_neg c0]
    by_cases c1 : dw_in v (dw_lo wh) (dw_hi wh) = 0
    · rw [if_pos c1]; exact ok
    rw [if_neg c1]
    obtain ⟨f, hf, rfl⟩ := dw_in_of (n := 2) rfl c0
    rw [dw_N_nI (by omega)]
    obtain ⟨⟨o1, o2, o3, o4, o5, o6, o7⟩, k2, k3, k4, k5, k6, k7, k8⟩ := ok
    have jm : j < m := by
      rcases Nat.lt_or_ge j m with c | c
      · exact c
      · rw [o3 j c j1] at j3
        exact absurd j3 (by decide)
    refine ⟨⟨o1, dw_WF_set o2 (by omega) (fun q => by
      subst q
      obtain ⟨a, ha, e⟩ := dw_in_of (n := 39) (show (39 : Int32).toInt = ((39 : Nat) : Int) from rfl) c1
      exact ⟨a, by omega, e⟩) (fun q => by
      subst q
      obtain ⟨a, ha, ha2, e⟩ := dw_in_of1 (n := 9) (show (9 : Int32).toInt = ((9 : Nat) : Int) from rfl) c1
      exact ⟨a, ha, by omega, e⟩), dw_Dead_set o3 v jm, o4, o5, o6, o7⟩, k2, k3, k4, k5, k6, ?_, k8⟩
    cases im with
    | none => trivial
    | some l =>
      obtain ⟨i1, i2, i3⟩ := k7
      refine ⟨i1, i2, fun d hd => ?_⟩
      have h1 : dw_set s j (3 + f) v d 1 = s d 1 := by rw [dw_set_app, if_neg (fun q => by omega)]
      have h2 : dw_set s j (3 + f) v d 2 = s d 2 := by rw [dw_set_app, if_neg (fun q => by omega)]
      show l.2.1 d 1 = dw_set s j (3 + f) v d 1 ∧ l.2.1 d 2 = dw_set s j (3 + f) v d 2
      rw [h1, h2]
      exact i3 d hd
/-- kinds don't change -/
theorem dw_set_k (s : dw_L) (i f : Nat) (v : Int32) {g : Nat} (hg : g ≠ f) (d : Nat) : dw_set s i f v d g = s d g := by
  rw [dw_set_app, if_neg (fun q => hg q.2)]
theorem dw_take1_k (s : dw_L) (i o : Nat) {g : Nat} (hg : g = 1 ∨ g = 2) (d : Nat) : dw_take1 i o s d g = s d g := by
  unfold dw_take1
  by_cases c : o = i
  · rw [if_pos c]
  rw [if_neg c]
  by_cases c2 : s o 6 = 0
  · rw [if_pos c2]
    by_cases c3 : dw_yds (s o 3) (s o 4) &&& dw_yds (s i 3) (s i 4) = 0
    · rw [if_pos c3]
    rw [if_neg c3]
    by_cases c4 : s i 5 < s o 5
    · rw [if_pos c4]
    rw [if_neg c4, dw_set_k _ _ _ _ (by omega), dw_set_k _ _ _ _ (by omega)]
  · rw [if_neg c2]
theorem dw_take_k (s : dw_L) (i : Nat) {g : Nat} (hg : g = 1 ∨ g = 2) (d : Nat) : ∀ k, dw_take i s k d g = s d g
  | 0 => rfl
  | k + 1 => by rw [dw_take, dw_take1_k _ _ _ hg, dw_take_k s i hg d k]
theorem dw_go1_k (w : dw_W) (cl : Int64) (yr : Int32) (i : Nat) (s : dw_L) {g : Nat} (hg : g = 1 ∨ g = 2) (d : Nat) : dw_go1 w cl yr i s d g = s d g := by
  rw [dw_go1, dw_set_k _ _ _ _ (by omega), dw_g3, dw_set_k _ _ _ _ (by omega), dw_g2, dw_take_k _ _ hg, dw_g1, dw_set_k _ _ _ _ (by omega)]
theorem dw_turn_k (w : dw_W) (cl : Int64) (yr : Int32) (s : dw_L) {g : Nat} (hg : g = 1 ∨ g = 2) (d : Nat) : ∀ k, dw_turn w cl yr s k d g = s d g := by
  intro k
  induction k with
  | zero => rw [dw_turn]
  | succ k ih =>
    rw [dw_turn]
    by_cases c : dw_turn w cl yr s k k 6 = 0
    · rw [if_pos c, dw_go1_k _ _ _ _ _ hg, ih]
    · rw [if_neg c, ih]
theorem dw_Oyear (ok : dw_Ok ((m, s, yy, ho, cl, r), (tx, wt), (tp, tb), im, H)) : dw_Ok (dw_oyear ((m, s, yy, ho, cl, r), (tx, wt), (tp, tb), im, H)).1 := by
  rw [dw_oyear]
  by_cases c : yy = 999
  · rw [if_pos c]; exact ok
  rw [if_neg c]
  obtain ⟨⟨o1, o2, o3, o4, o5, o6, o7⟩, k2, k3, k4, k5, k6, k7, k8⟩ := ok
  refine ⟨⟨o1, dw_WF_turn o2 _ _ _ 6, ?_, by omega, o5, o6, o7⟩, k2, k3, k4, k5, k6, ?_, k8⟩
  · rw [dw_turn6 o3 _ _ _ o1]
    exact dw_Dead_turn o3 _ _ _ m (Nat.le_refl m)
  · cases im with
    | none => trivial
    | some l =>
      obtain ⟨i1, i2, i3⟩ := k7
      refine ⟨i1, i2, fun d hd => ?_⟩
      rw [dw_turn_k _ _ _ _ (Or.inl rfl), dw_turn_k _ _ _ _ (Or.inr rfl)]
      exact i3 d hd
theorem dw_Oimage (ok : dw_Ok ((m, s, yy, ho, cl, r), (tx, wt), (tp, tb), im, H)) : dw_Ok (dw_oimage ((m, s, yy, ho, cl, r), (tx, wt), (tp, tb), im, H)).1 := by
  rw [dw_oimage]
  obtain ⟨k1, k2, k3, k4, k5, k6, k7, k8⟩ := ok
  exact ⟨k1, k2, k3, k4, k5, k6, ⟨k1, Nat.le_refl m, fun _ _ => ⟨rfl, rfl⟩⟩, k8⟩
theorem dw_Oback (ok : dw_Ok ((m, s, yy, ho, cl, r), (tx, wt), (tp, tb), im, H)) : dw_Ok (dw_oback ((m, s, yy, ho, cl, r), (tx, wt), (tp, tb), im, H)).1 := by
  obtain ⟨k1, k2, k3, k4, k5, k6, k7, k8⟩ := id ok
  cases im with
  | none => rw [dw_oback]; exact ok
  | some l =>
    obtain ⟨m', s', yy', ho', cl', r'⟩ := l
    rw [dw_oback]
    obtain ⟨i1, i2, i3⟩ := k7
    exact ⟨i1, k2, k3, k4, k5, k6, ⟨i1, Nat.le_refl m', fun _ _ => ⟨rfl, rfl⟩⟩, k8⟩
theorem dw_Hset_ok {a : Nat} {sort n : Int32} {c : Nat → Nat → Int32} (h : dw_Hok H) (h1 : sort = -1 ∨ sort = 0 ∨ sort = 1 ∨ sort = 2) (h2 : ∃ k : Nat, k ≤ 40 ∧ n = nI k) : dw_Hok (upd H.1 a sort, upd H.2.1 a n, c) := by
  intro k hk
  show (upd H.1 a sort k = -1 ∨ upd H.1 a sort k = 0 ∨ upd H.1 a sort k = 1 ∨ upd H.1 a sort k = 2) ∧ ∃ n', n' ≤ 40 ∧ upd H.2.1 a n k = nI n'
  rw [upd_app, upd_app]
  by_cases c : k = a
  · rw [if_pos c, if_pos c]; exact ⟨h1, h2⟩
  · rw [if_neg c, if_neg c]; exact h k hk
theorem dw_in_m1 {x : Int32} (h : ¬ dw_in x (-1) 2 = 0) : x = -1 ∨ x = 0 ∨ x = 1 ∨ x = 2 := by
  unfold dw_in at h
  by_cases h1 : x < -1
  · simp [h1] at h
  · by_cases h2 : 2 < x
    · simp [h1, h2] at h
    · rw [fa_lt] at h1 h2
      have e1 : (-1 : Int32).toInt = -1 := by decide
      have e2 : (2 : Int32).toInt = 2 := by decide
      rcases (by omega : x.toInt = -1 ∨ x.toInt = 0 ∨ x.toInt = 1 ∨ x.toInt = 2) with q | q | q | q
      · exact Or.inl ((fa_eq x (-1)).mpr (by rw [q]; rfl))
      · exact Or.inr (Or.inl ((fa_eq x 0).mpr (by rw [q]; rfl)))
      · exact Or.inr (Or.inr (Or.inl ((fa_eq x 1).mpr (by rw [q]; rfl))))
      · exact Or.inr (Or.inr (Or.inr ((fa_eq x 2).mpr (by rw [q]; rfl))))
theorem dw_0le {n : Int32} (h : 0 ≤ n) : ¬ n < 0 := by
  rw [fa_le] at h
  rw [fa_lt]
  omega
theorem dw_Osheet (ok : dw_Ok ((m, s, yy, ho, cl, r), (tx, wt), (tp, tb), im, H)) (a sort n : Int32) : dw_Ok (dw_osheet ((m, s, yy, ho, cl, r), (tx, wt), (tp, tb), im, H) a sort n).1 := by
  rw [dw_osheet]
  by_cases c0 : dw_in a 0 3 = 0
  · rw [if_pos c0]; exact ok
  rw [if_neg c0]
  by_cases c1 : dw_in sort (-1) 2 = 0
  · rw [if_pos c1]; exact ok
  rw [if_neg c1]
  obtain ⟨k1, k2, k3, k4, k5, k6, k7, k8⟩ := id ok
  by_cases c2 : sort = -1
  · rw [if_pos c2]; exact ⟨k1, k2, k3, k4, k5, k6, k7, dw_Hset_ok k8 (Or.inl rfl) ⟨0, by decide, rfl⟩⟩
  rw [if_neg c2]
  by_cases c3 : n ≤ 40
  · rw [if_pos c3]
    by_cases c4 : 0 ≤ n
    · rw [if_pos c4]
      obtain ⟨j, hj, e⟩ := nI_of2 (M := 40) (n := 40) rfl (dw_0le c4) c3
      exact ⟨k1, k2, k3, k4, k5, k6, k7, dw_Hset_ok k8 (dw_in_m1 c1) ⟨j, hj, e⟩⟩
    · rw [if_neg c4]; exact ok
  · rw [if_neg c3]; exact ok
theorem dw_Ocell (ok : dw_Ok ((m, s, yy, ho, cl, r), (tx, wt), (tp, tb), im, H)) (a i v : Int32) : dw_Ok (dw_ocell ((m, s, yy, ho, cl, r), (tx, wt), (tp, tb), im, H) a i v).1 := by
  rw [dw_ocell]
  by_cases c0 : dw_in a 0 3 = 0
  · rw [if_pos c0]; exact ok
  rw [if_neg c0]
  by_cases c1 : H.1 (dw_N a) = -1
  · rw [if_pos c1]; exact ok
  rw [if_neg c1]
  by_cases c2 : dw_in i 0 (H.2.1 (dw_N a) - 1) = 0
  · rw [if_pos c2]; exact ok
  rw [if_neg c2]
  obtain ⟨k1, k2, k3, k4, k5, k6, k7, k8⟩ := id ok
  exact ⟨k1, k2, k3, k4, k5, k6, k7, fun k hk => k8 k hk⟩
theorem dw_Ocopy (ok : dw_Ok ((m, s, yy, ho, cl, r), (tx, wt), (tp, tb), im, H)) (a i o j n : Int32) : dw_Ok (dw_ocopy ((m, s, yy, ho, cl, r), (tx, wt), (tp, tb), im, H) a i o j n).1 := by
  rw [dw_ocopy]
  by_cases c0 : dw_in a 0 3 = 0
  · rw [if_pos c0]; exact ok
  rw [if_neg c0]
  by_cases c1 : dw_in o 0 3 = 0
  · rw [if_pos c1]; exact ok
  rw [if_neg c1]
  by_cases c2 : H.1 (dw_N a) = -1
  · rw [if_pos c2]; exact ok
  rw [if_neg c2]
  by_cases c3 : H.1 (dw_N o) = -1
  · rw [if_pos c3]; exact ok
  rw [if_neg c3]
  by_cases c4 : H.1 (dw_N a) = H.1 (dw_N o)
  · rw [if_pos c4]
    by_cases c5 : (dw_plb i n (H.2.1 (dw_N a)) && dw_plb j n (H.2.1 (dw_N o))) = true
    · rw [if_pos c5]
      obtain ⟨k1, k2, k3, k4, k5, k6, k7, k8⟩ := id ok
      exact ⟨k1, k2, k3, k4, k5, k6, k7, fun k hk => k8 k hk⟩
    · rw [if_neg c5]; exact ok
  · rw [if_neg c4]; exact ok
theorem dw_Ofilm (ok : dw_Ok ((m, s, yy, ho, cl, r), (tx, wt), (tp, tb), im, H)) (a d n : Int32) : dw_Ok ((m, s, yy, ho, cl, r), (tx, wt), (tp, tb), im, (dw_qfilm (wt r) cl s yy H a d n).2) := by
  obtain ⟨k1, k2, k3, k4, k5, k6, k7, k8⟩ := id ok
  refine ⟨k1, k2, k3, k4, k5, k6, k7, ?_⟩
  rw [dw_qfilm]
  by_cases c0 : dw_in a 0 3 = 0
  · rw [if_pos c0]; exact k8
  rw [if_neg c0]
  cases e : dw_st s d 6 with
  | none => exact k8
  | some j =>
    dsimp only
    by_cases c1 : dw_in n 0 20 = 0
    · rw [if_pos c1]; exact k8
    rw [if_neg c1]
    obtain ⟨q, hq, rfl⟩ := dw_in_of (n := 20) rfl c1
    exact dw_Hset_ok k8 (Or.inr (Or.inl rfl)) ⟨q, by omega, rfl⟩
theorem dw_Odby_ (c : Nat → Int32) (z fr : Int32) (k : Nat) : ∀ (i : Nat) (σ : dw_S) (v : Int32), dw_Ok σ → dw_Ok (dw_dby c z fr k i σ v).1 := by
  induction k with
  | zero => intro i σ v ok; rw [dw_dby]; exact ok
  | succ k ih =>
    intro i σ v ok
    rw [dw_dby]
    by_cases c1 : dw_plb (fr + nI (2 * i)) 2 z = true
    · rw [if_pos c1]
      refine ih _ _ _ ?_
      obtain ⟨⟨m, s, yy, ho, cl, r⟩, ⟨tx, wt⟩, ⟨tp, tb⟩, im, H⟩ := σ
      exact dw_Odune ok _ _
    · rw [if_neg c1]; exact ok
theorem dw_Odby (ok : dw_Ok ((m, s, yy, ho, cl, r), (tx, wt), (tp, tb), im, H)) (a sort fr n : Int32) : dw_Ok (dw_odby ((m, s, yy, ho, cl, r), (tx, wt), (tp, tb), im, H) a sort fr n).1 := by
  rw [dw_odby]
  by_cases c0 : dw_in a 0 3 = 0
  · rw [if_pos c0]; exact ok
  rw [if_neg c0]
  by_cases c1 : dw_in sort 0 2 = 0
  · rw [if_pos c1]; exact ok
  rw [if_neg c1]
  by_cases c2 : dw_in n 0 6 = 0
  · rw [if_pos c2]; exact ok
  rw [if_neg c2]
  by_cases c3 : H.1 (dw_N a) = -1
  · rw [if_pos c3]; exact ok
  rw [if_neg c3]
  by_cases c4 : H.1 (dw_N a) = sort
  · rw [if_pos c4]; exact dw_Odby_ _ _ _ _ _ _ _ ok
  · rw [if_neg c4]; exact ok
end OK
