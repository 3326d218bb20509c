/-! EVERY CALL KEEPS THE STATE SOUND -/
section OK
variable {r m yy tx tp : Nat} {s : dw_L} {H : dw_H} {ho cl : Int64} {wt : Nat → dw_W} {tb : Nat → Nat} {im : Option dw_Ln}
theorem dw_WF_set {s : dw_L} (h : dw_WFA s) {i f : Nat} {v : Int32} (hf : f < 3) (h0 : f = 0 → ∃ a : Nat, a < 40 ∧ v = nI a) (h1 : f = 1 → ∃ b : Nat, 1 ≤ b ∧ b < 10 ∧ v = nI b) : dw_WFA (dw_set s i (3 + f) v) := by
  intro o ho
  obtain ⟨⟨a1, a2, a3⟩, ⟨b1, b2, b3, b4⟩, c1⟩ := h o ho
  refine ⟨?_, ?_, ?_⟩
  · rw [dw_set_app]
    by_cases c : o = i ∧ 3 = 3 + f
    · rw [if_pos c]
      exact h0 (by omega)
    · rw [if_neg c]
      exact ⟨a1, a2, a3⟩
  · rw [dw_set_app]
    by_cases c : o = i ∧ 4 = 3 + f
    · rw [if_pos c]
      exact h1 (by omega)
    · rw [if_neg c]
      exact ⟨b1, b2, b3, b4⟩
  · rw [dw_set_app, if_neg (fun q => by omega)]
    exact c1
theorem dw_small_will {x : Int64} (h : dw_small x) (is : Int32) {y : Nat} (hy : y < 40) : dw_small (dw_will is x y) := by
  unfold dw_will
  by_cases c : is = 1
  · rw [if_pos c]
    exact dw_small_or h (dw_bit_small hy)
  · rw [if_neg c]
    exact dw_small_and h _
theorem dw_Oyard (ok : dw_Ok ((m, s, yy, ho, cl, r), (tx, wt), (tp, tb), im, H)) (y wh is : Int32) : dw_Ok (dw_oyard ((m, s, yy, ho, cl, r), (tx, wt), (tp, tb), im, H) y wh is).1 := by
  rw [dw_oyard]
  by_cases c0 : dw_in y 0 39 = 0
  · rw [if_pos c0]; exact ok
  rw [if_neg c0]
  by_cases c1 : dw_in wh 0 1 = 0
  · rw [if_pos c1]; exact ok
  rw [if_neg c1]
  by_cases c2 : dw_in is 0 1 = 0
  · rw [if_pos c2]; exact ok
  rw [if_neg c2]
  obtain ⟨q, hq, rfl⟩ := dw_in_of (n := 39) rfl c0
  rw [dw_N_nI (by omega)]
  obtain ⟨⟨o1, o2, o3, o4, o5, o6, o7⟩, ok2⟩ := ok
  by_cases c3 : wh = 0
  · rw [if_pos c3]; exact ⟨⟨o1, o2, o3, o4, dw_small_will o5 is (by omega), o6, o7⟩, ok2⟩
  · rw [if_neg c3]; exact ⟨⟨o1, o2, o3, o4, o5, dw_small_will o6 is (by omega), o7⟩, ok2⟩
theorem dw_Ofeed (ok : dw_Ok ((m, s, yy, ho, cl, r), (tx, wt), (tp, tb), im, H)) (n a b c d e : Int32) : dw_Ok (dw_ofeed ((m, s, yy, ho, cl, r), (tx, wt), (tp, tb), im, H) n a b c d e).1 := by
  rw [dw_ofeed]
  by_cases c0 : dw_in n 1 5 = 0
  · rw [if_pos c0]; exact ok
  rw [if_neg c0]
  by_cases c1 : dw_in a 0 255 = 0
  · rw [if_pos c1]; exact ok
  rw [if_neg c1]
  by_cases c2 : dw_in b 0 255 = 0
  · rw [if_pos c2]; exact ok
  rw [if_neg c2]
  by_cases c3 : dw_in c 0 255 = 0
  · rw [if_pos c3]; exact ok
  rw [if_neg c3]
  by_cases c4 : dw_in d 0 255 = 0
  · rw [if_pos c4]; exact ok
  rw [if_neg c4]
  by_cases c5 : dw_in e 0 255 = 0
  · rw [if_pos c5]; exact ok
  rw [if_neg c5]
  by_cases c6 : tp + dw_N n ≤ 160
  · rw [if_pos c6]
    obtain ⟨k1, k2, k3, k4, k5, k6, k7, k8⟩ := ok
    refine ⟨k1, k2, k3, k4, c6, ?_, k7, k8⟩
    intro k hk
    show (if k < tp then tb k else dw_N (dw_fv a b c d e (k - tp))) < 256
    by_cases ck : k < tp
    · rw [if_pos ck]; exact k6 k ck
    · rw [if_neg ck]
      obtain ⟨xa, ha, ea⟩ := dw_in_of (n := 255) rfl c1
      obtain ⟨xb, hb, eb⟩ := dw_in_of (n := 255) rfl c2
      obtain ⟨xc, hc, ec⟩ := dw_in_of (n := 255) rfl c3
      obtain ⟨xd, hd, ed⟩ := dw_in_of (n := 255) rfl c4
      obtain ⟨xe, he, ee⟩ := dw_in_of (n := 255) rfl c5
      generalize k - tp = j
      unfold dw_fv
      by_cases k0 : j = 0
      · rw [if_pos k0, ea, dw_N_nI (by omega)]; omega
      rw [if_neg k0]
      by_cases k1 : j = 1
      · rw [if_pos k1, eb, dw_N_nI (by omega)]; omega
      rw [if_neg k1]
      by_cases k2 : j = 2
      · rw [if_pos k2, ec, dw_N_nI (by omega)]; omega
      rw [if_neg k2]
      by_cases k3 : j = 3
      · rw [if_pos k3, ed, dw_N_nI (by omega)]; omega
      rw [if_neg k3, ee, dw_N_nI (by omega)]; omega
  · rw [if_neg c6]; exact ok
theorem dw_Oforce (ok : dw_Ok ((m, s, yy, ho, cl, r), (tx, wt), (tp, tb), im, H)) (t : Int32) : dw_Ok (dw_oforce ((m, s, yy, ho, cl, r), (tx, wt), (tp, tb), im, H) t).1 := by
  rw [dw_oforce]
  by_cases c0 : dw_in t 0 (nI tx - 1) = 0
  · rw [if_pos c0]; exact ok
  rw [if_neg c0]
  obtain ⟨⟨o1, o2, o3, o4, o5, o6, o7⟩, k2, k3, ok2⟩ := ok
  have e1 : nI tx - 1 = nI (tx - 1) := by
    have h9 := dw_m1 (tx - 1)
    rwa [show tx - 1 + 1 = tx by omega] at h9
  rw [e1] at c0
  obtain ⟨q, hq, rfl⟩ := dw_in_of (n := tx - 1) (nI_toInt (by omega)) c0
  rw [dw_N_nI (by omega)]
  exact ⟨⟨o1, o2, o3, o4, o5, o6, by omega⟩, k2, k3, ok2⟩
theorem dw_Odune (ok : dw_Ok ((m, s, yy, ho, cl, r), (tx, wt), (tp, tb), im, H)) (k a : Int32) : dw_Ok (dw_odune ((m, s, yy, ho, cl, r), (tx, wt), (tp, tb), im, H) k a).1 := by
  rw [dw_odune]
  by_cases c0 : dw_in k 0 59 = 0
  · rw [if_pos c0]; exact ok
  rw [if_neg c0]
  by_cases c1 : dw_in a 0 399099 = 0
  · rw [if_pos c1]; exact ok
  rw [if_neg c1]
  by_cases c2 : 100 ≤ dw_N a % 1000
  · rw [if_pos c2]; exact ok
  rw [if_neg c2]
  by_cases c3 : dw_N a / 1000 % 10 = 0
  · rw [if_pos c3]; exact ok
  rw [if_neg c3]
  by_cases c4 : m = 6
  · rw [if_pos c4]; exact ok
  rw [if_neg c4]
  obtain ⟨A, hA, rfl⟩ := dw_in_of (n := 399099) rfl c1
  rw [dw_N_nI (by omega)] at c2 c3 ⊢
  obtain ⟨⟨o1, o2, o3, o4, o5, o6, o7⟩, k2, k3, k4, k5, k6, k7, k8⟩ := ok
  have nd : ∀ o, o ≠ m → dw_newd s m (dw_N k) A o = s o := by
    intro o ho
    funext f
    exact if_neg ho
  have nm : ∀ f, dw_newd s m (dw_N k) A m f = if f = 1 then nI (dw_N k / 10) else if f = 2 then nI (dw_N k % 10) else if f = 3 then nI (A / 10000) else if f = 4 then nI (A / 1000 % 10) else if f = 5 then nI (A % 1000) else 0 := fun f => if_pos rfl
  refine ⟨⟨by omega, ?_, ?_, o4, o5, o6, o7⟩, k2, k3, k4, k5, k6, ?_, k8⟩
  · intro o ho
    by_cases c : o = m
    · subst c
      have n3 : dw_newd s o (dw_N k) A o 3 = nI (A / 10000) := by rw [nm, if_neg (by decide), if_neg (by decide), if_pos rfl]
      have n4 : dw_newd s o (dw_N k) A o 4 = nI (A / 1000 % 10) := by rw [nm, if_neg (by decide), if_neg (by decide), if_neg (by decide), if_pos rfl]
      have n6 : dw_newd s o (dw_N k) A o 6 = 0 := by rw [nm, if_neg (by decide), if_neg (by decide), if_neg (by decide), if_neg (by decide), if_neg (by decide)]
      exact ⟨⟨A / 10000, by omega, n3⟩, ⟨A / 1000 % 10, by omega, by omega, n4⟩, Or.inl n6⟩
    · rw [nd o c]; exact o2 o ho
  · intro o h1 h2
    rw [nd o (by omega)]; exact o3 o (by omega) h2
  · cases im with
    | none => trivial
    | some l =>
      obtain ⟨j1, j2, j3⟩ := k7
      exact ⟨j1, by omega, fun d hd => by rw [nd d (by omega)]; exact j3 d hd⟩
end OK
