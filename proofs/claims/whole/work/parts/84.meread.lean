/-! THE REFERENCE: an E is read -/
def dw_mo (m : Nat) (l1 l2 : Int32) : Prop := (m = 0 ∧ l1 = 0) ∨ (m = 1 ∧ l1 = 1 ∧ l2 = 0) ∨ (m = 2 ∧ l1 = 1 ∧ l2 = 1)
def dw_Er (o : Option (pm_H × Int32)) (tx : Nat) (X0 : dw_X) (R G S N : Nat → Int32) (y : Int32) : dw_Re → Prop
  | .inl x => ∃ X', o = some (dw_mk X' R G S N y, 0) ∧ dw_Fr tx X0 X' ∧ dw_gI X' 23 = nI x
  | .inr q => ∃ X', o = some (dw_mk X' R G S N y, 1) ∧ dw_PS tx X0 X' 0 [] q.2 ∧ dw_gI X' 22 = nI q.1
theorem dw_tc_inv {t : Nat} (ht : t ≤ 10022) {v : Int32} (h : dw_tc t = v) : (v = 1 ∧ t < 10000) ∨ (v = 2 ∧ 10000 ≤ t ∧ t ≤ 10005) ∨ (v = 4 ∧ t = 10006) ∨ (v = 5 ∧ t = 10007) ∨ (v = 60 ∧ t = 10008) ∨ (v = 61 ∧ t = 10009) ∨ (v = 43 ∧ t = 10010) ∨ (v = 45 ∧ t = 10011) ∨ (v = 42 ∧ t = 10012) ∨ (v = 6 ∧ t = 10013) ∨ (v = 3 ∧ 10014 ≤ t ∧ t ≤ 10017) ∨ (v = 40 ∧ t = 10018) ∨ (v = 41 ∧ t = 10019) ∨ (v = 59 ∧ t = 10020) ∨ (v = 0 ∧ t = 10021) ∨ (v = -1 ∧ t = 10022) := by
  subst h
  by_cases c0 : t < 10000
  · exact Or.inl ⟨by rw [dw_tc, if_pos c0], c0⟩
  by_cases c1 : t < 10006
  · exact Or.inr (Or.inl ⟨by rw [dw_tc, if_neg c0, if_pos c1], by omega, by omega⟩)
  rcases (by omega : t = 10006 ∨ t = 10007 ∨ t = 10008 ∨ t = 10009 ∨ t = 10010 ∨ t = 10011 ∨ t = 10012 ∨ t = 10013 ∨ t = 10014 ∨ t = 10015 ∨ t = 10016 ∨ t = 10017 ∨ t = 10018 ∨ t = 10019 ∨ t = 10020 ∨ t = 10021 ∨ t = 10022) with rfl | rfl | rfl | rfl | rfl | rfl | rfl | rfl | rfl | rfl | rfl | rfl | rfl | rfl | rfl | rfl | rfl <;> decide
section ME
variable {X0 : dw_X} {R G S N : Nat → Int32} {y : Int32} {tx : Nat} {tb : Nat → Nat} {tp : Nat}
/-- tokens by sort -/
def dw_sort (t : Nat) : Prop := t < 10000 ∨ (10000 ≤ t ∧ t ≤ 10005) ∨ (10006 ≤ t ∧ t ≤ 10012) ∨ t = 10013 ∨ (10014 ≤ t ∧ t ≤ 10017) ∨ t = 10018 ∨ t = 10019 ∨ t = 10020 ∨ t = 10021 ∨ t = 10022
theorem dw_tc_num {t : Nat} (h : t < 10000) : dw_tc t = 1 := by rw [dw_tc, if_pos h]
theorem dw_tc_nam {t : Nat} (h : 10000 ≤ t) (h2 : t ≤ 10005) : dw_tc t = 2 := by rw [dw_tc, if_neg (by omega), if_pos (by omega)]
theorem dw_tc_key {t : Nat} (h : 10014 ≤ t) (h2 : t ≤ 10017) : dw_tc t = 3 := by
  rcases (by omega : t = 10014 ∨ t = 10015 ∨ t = 10016 ∨ t = 10017) with rfl | rfl | rfl | rfl <;> rfl
theorem dw_MsignOf {X : dw_X} {t : Nat} (ht : t ≤ 10022) (h19 : t ≠ 10019) (h20 : t ≠ 10020) (h24 : dw_gI X 24 = dw_tc t) : M_signOf (dw_mk X R G S N y) 0 = some (dw_mk X R G S N y, if 10006 ≤ t ∧ t ≤ 10012 then nI (dw_cm t) else -1) := by
  rw [M_signOf]
  repeat (first | with_reducible rw [bnd_s] | with_reducible rw [nmd_s] | with_reducible rw [bn2_s] | with_reducible rw [grd_t] | ((conv => arg 1; arg 1; simp (disch := omega) only [dw_is, dw_f0, dw_t0, dw_f9, dw_t9, dw_f12, dw_t12, dw_f13, dw_t13, dw_f14, dw_t14, dw_f22, dw_t22, dw_f23, dw_t23, dw_f24, dw_t24, dw_f25, dw_t25, dw_f28, dw_t28, dw_f29, dw_t29, dw_f30, dw_t30, dw_f35, dw_t35, dw_f7, dw_t7, dw_f5, dw_t5, dw_f6, dw_t6, dw_f1, dw_f2, dw_f3, dw_f4, dw_f8, dw_f10, dw_f11, dw_f15, dw_f16, dw_f17, dw_f18, dw_f19, dw_f20, dw_f21, dw_f26, dw_f27, dw_f31, dw_f32, dw_f33, dw_f34, dw_a1, dw_w1, dw_a2, dw_w2, dw_a3, dw_w3, dw_a4, dw_w4, dw_a5, dw_w5, dw_a6, dw_w6, dw_a7, dw_w7, dw_a8, dw_w8, dw_a9_0, dw_s9_0, dw_a9_1, dw_s9_1, dw_a10, dw_w10, dw_a10_0, dw_w10_0, dw_a10_1, dw_w10_1, dw_a10_2, dw_w10_2, dw_a11, dw_w11, dw_a12, dw_w12, dw_a13, dw_w13, dw_a14, dw_w14, dw_a15, dw_w15, dw_a16, dw_w16, dw_a17, dw_w17, dw_a17_0, dw_w17_0, dw_a18, dw_w18, dw_a18_0, dw_w18_0, dw_a18_1, dw_w18_1, dw_a18_2, dw_w18_2, dw_a18_3, dw_w18_3, dw_a18_4, dw_w18_4, dw_a18_5, dw_w18_5, dw_a19, dw_w19, dw_a19_24, dw_w19_24, dw_a20, dw_w20, h24]); first | with_reducible rw [bnd_s] | with_reducible rw [bn2_s] | with_reducible rw [grd_t]))
  have no : ∀ c : Int32, dw_tc t = c → ¬ c = 4 → ¬ c = 5 → ¬ c = 60 → ¬ c = 61 → ¬ c = 43 → ¬ c = 45 → ¬ c = 42 → ¬ (10006 ≤ t ∧ t ≤ 10012) → (if dw_tc t = 4 then some (dw_mk X R G S N y, (11 : Int32)) else bnd (op_I (dw_mk X R G S N y) 0 6 24) fun x3q => if x3q = 5 then (some (dw_mk X R G S N y, 12)) else (bnd (op_I (dw_mk X R G S N y) 0 6 24) fun x5q => if x5q = 60 then (some (dw_mk X R G S N y, 14)) else (bnd (op_I (dw_mk X R G S N y) 0 6 24) fun x7q => if x7q = 61 then (some (dw_mk X R G S N y, 15)) else (bnd (op_I (dw_mk X R G S N y) 0 6 24) fun x9q => if x9q = 43 then (some (dw_mk X R G S N y, 16)) else (bnd (op_I (dw_mk X R G S N y) 0 6 24) fun x11q => if x11q = 45 then (some (dw_mk X R G S N y, 17)) else (bnd (op_I (dw_mk X R G S N y) 0 6 24) fun x13q => if x13q = 42 then (some (dw_mk X R G S N y, 18)) else (some (dw_mk X R G S N y, (-1))))))))) = some (dw_mk X R G S N y, if 10006 ≤ t ∧ t ≤ 10012 then nI (dw_cm t) else -1) := by
    intro c e n1 n2 n3 n4 n5 n6 n7 n8
    rw [dw_f24, bnd_s, bnd_s, bnd_s, bnd_s, bnd_s, bnd_s, h24, e, if_neg n1, if_neg n2, if_neg n3, if_neg n4, if_neg n5, if_neg n6, if_neg n7, if_neg n8]
  by_cases c0 : t < 10000
  · exact no 1 (dw_tc_num c0) (by decide) (by decide) (by decide) (by decide) (by decide) (by decide) (by decide) (by omega)
  by_cases c1 : t ≤ 10005
  · exact no 2 (dw_tc_nam (by omega) c1) (by decide) (by decide) (by decide) (by decide) (by decide) (by decide) (by decide) (by omega)
  rcases (by omega : t = 10006 ∨ t = 10007 ∨ t = 10008 ∨ t = 10009 ∨ t = 10010 ∨ t = 10011 ∨ t = 10012 ∨ t = 10013 ∨ (10014 ≤ t ∧ t ≤ 10017) ∨ t = 10018 ∨ t = 10021 ∨ t = 10022) with rfl | rfl | rfl | rfl | rfl | rfl | rfl | rfl | e | rfl | rfl | rfl
  · rw [if_pos (by decide)]
    rfl
  · rw [dw_f24, bnd_s, h24, if_neg (by decide), if_pos (by decide)]
    rfl
  · rw [dw_f24, bnd_s, bnd_s, h24, if_neg (by decide), if_neg (by decide), if_pos (by decide)]
    rfl
  · rw [dw_f24, bnd_s, bnd_s, bnd_s, h24, if_neg (by decide), if_neg (by decide), if_neg (by decide), if_pos (by decide)]
    rfl
  · rw [dw_f24, bnd_s, bnd_s, bnd_s, bnd_s, h24, if_neg (by decide), if_neg (by decide), if_neg (by decide), if_neg (by decide), if_pos (by decide)]
    rfl
  · rw [dw_f24, bnd_s, bnd_s, bnd_s, bnd_s, bnd_s, h24, if_neg (by decide), if_neg (by decide), if_neg (by decide), if_neg (by decide), if_neg (by decide), if_pos (by decide)]
    rfl
  · rw [dw_f24, bnd_s, bnd_s, bnd_s, bnd_s, bnd_s, bnd_s, h24, if_neg (by decide), if_neg (by decide), if_neg (by decide), if_neg (by decide), if_neg (by decide), if_neg (by decide), if_pos (by decide)]
    rfl
  · exact no 6 rfl (by decide) (by decide) (by decide) (by decide) (by decide) (by decide) (by decide) (by omega)
  · exact no 3 (dw_tc_key e.1 e.2) (by decide) (by decide) (by decide) (by decide) (by decide) (by decide) (by decide) (by omega)
  · exact no 40 rfl (by decide) (by decide) (by decide) (by decide) (by decide) (by decide) (by decide) (by omega)
  · exact no 0 rfl (by decide) (by decide) (by decide) (by decide) (by decide) (by decide) (by decide) (by omega)
  · exact no (-1) rfl (by decide) (by decide) (by decide) (by decide) (by decide) (by decide) (by decide) (by omega)
theorem dw_Fr_Kx {X X' : dw_X} (h : dw_Fr tx X0 X) (e : dw_Kx X X') : dw_Fr tx X0 X' := ⟨fun k hk => (e.2 k (by omega)).trans (h.1 k hk), fun k => by
    unfold dw_gJ
    rw [e.1]
    exact h.2.1 k, fun c i h1 h2 => (dw_Kx_A e c i).trans (h.2.2.1 c i h1 h2), fun i => by
    unfold dw_gY
    rw [e.1]
    exact h.2.2.2 i⟩
theorem dw_PS_Kx {X X' : dw_X} {o : Nat} {H c : List Nat} (h : dw_PS tx X0 X o H c) (e : dw_Kx X X') : dw_PS tx X0 X' o H c := ⟨dw_Fr_Kx h.1 e, (e.2 28 (by decide)).trans h.2.1, (e.2 29 (by decide)).trans h.2.2.1, (e.2 30 (by decide)).trans h.2.2.2.1, dw_hld_eq (fun i => dw_Kx_A e 16 i) h.2.2.2.2.1, fun k hk => (dw_Kx_A e 6 _).trans (h.2.2.2.2.2 k hk)⟩
theorem dw_TA_Fr {X : dw_X} (hT : dw_TA X0 tb tp) (h : dw_Fr tx X0 X) : dw_TA X tb tp := ⟨(h.1 9 (by decide)).trans hT.1, fun j hj => (h.2.2.1 5 j (by decide) (fun e => absurd e (by decide))).trans (hT.2.1 j hj), fun i hi => (h.2.2.1 15 i (by decide) (fun e => absurd e (by decide))).trans (hT.2.2 i hi)⟩
theorem dw_hld_top {X : dw_X} {H : List Nat} (h : dw_hld X H) (h1 : dw_lwr 1 H) : H = [] ∨ ∃ H', H = 10018 :: H' := by
  cases H with
  | nil => exact Or.inl rfl
  | cons s H' =>
    right
    have e : dw_rk s < 1 := h1
    have e2 := (dw_rkr s h.2.1).2.mp (by omega)
    exact ⟨H', by rw [e2]⟩
theorem dw_unw_lw (r : Nat) : ∀ (H c : List Nat), dw_lwr r (dw_unw r H c).1
  | [], _ => trivial
  | s :: H, c => by
    rw [dw_unw]
    by_cases h : r ≤ dw_rk s
    · rw [if_pos h]
      exact dw_unw_lw r H _
    · rw [if_neg h]
      show dw_rk s < r
      omega
def dw_IHe (tb : Nat → Nat) (tp tx : Nat) (X0 : dw_X) (R G S N : Nat → Int32) (y : Int32) (n : Nat) : Prop := ∀ i H c m X l1 l2 res, dw_PS tx X0 X (dw_opn H) H c → dw_gI X 22 = nI i → i ≤ tp → H.length + c.length ≤ i → dw_mo m l1 l2 → dw_R tb tp n i H c m = some res → dw_Er (M_eRead_14 n (dw_mk X R G S N y) 0 l1 l2) tx X0 R G S N y res
theorem dw_Mefail {i : Nat} {X1 X' : dw_X} {res : dw_Re} (k2 : dw_gI X1 23 = nI (dw_pl1 tb tp i)) (f1 : dw_Fr tx X0 X') (f2 : dw_K X1 X') (e : some (.inl (dw_pl1 tb tp i)) = some res) : dw_Er (some (dw_mk X' R G S N y, 0)) tx X0 R G S N y res := by
  injection e with e
  subst e
  exact ⟨X', rfl, f1, (f2 23 (by decide) (by decide)).trans k2⟩
theorem dw_Me59 (hb : ∀ j, j < tp → tb j < 256) (htx : tx < 6) (h12 : dw_gI X0 12 = nI tx) {n i : Nat} {H c : List Nat} {X1 : dw_X} {res : dw_Re} (ih : dw_IHe tb tp tx X0 R G S N y n) (hi : i ≤ tp) (htp : tp ≤ 160) (hl : H.length + c.length ≤ i) (P1 : dw_PS tx X0 X1 (dw_opn H) H c) (k2 : dw_gI X1 23 = nI (dw_pl1 tb tp i)) (k3 : dw_gI X1 24 = dw_tc (dw_tk tb tp i)) (k4 : (dw_tk tb tp i ≤ 10005 ∨ (10015 ≤ dw_tk tb tp i ∧ dw_tk tb tp i ≤ 10017)) → dw_gI X1 25 = dw_tv (dw_tk tb tp i)) (k5 : dw_tk tb tp i ≠ 10021 → dw_gI X1 22 = nI (dw_nx tb tp i)) (c20 : dw_tk tb tp i = 10020) (hR : (if (dw_unw 1 H c).1.isEmpty = true then some (.inr (dw_nx tb tp i, (dw_unw 1 H c).2)) else some (.inl (dw_pl1 tb tp i))) = some res) : dw_Er (bn2 (M_unwinds (dw_mk X1 R G S N y) 0 1) fun h30q _ => bnd (op_I h30q 0 6 28) fun x33q => if x33q = 0 then (some (h30q, 1)) else (some (h30q, 0))) tx X0 R G S N y res := by
  obtain ⟨x1, x2⟩ := dw_lx1 (tb := tb) (tp := tp) i
  obtain ⟨X2, f1, f2, f3⟩ := dw_Munwinds (R := R) (G := G) (S := S) (N := N) (y := y) (r := 1) (b := 0) (by decide) htx h12 P1 (by decide) (by omega)
  have f1' : M_unwinds (dw_mk X1 R G S N y) 0 1 = _ := f1
  have g2 := f2.2.1
  have elen := dw_unw_len 1 H c
  have q22 := (f3 22 (by decide) (by decide)).trans (k5 (by omega))
  rw [f1', bn2_s, dw_f28, bnd_s, g2]
  generalize dw_unw 1 H c = u at *
  obtain ⟨H1, c1⟩ := u
  dsimp only at *
  cases H1 with
  | nil =>
    rw [if_pos (show nI ([] : List Nat).length = 0 from rfl)]
    rw [if_pos (show ([] : List Nat).isEmpty = true from rfl)] at hR
    injection hR with hR
    subst hR
    exact ⟨X2, rfl, f2, q22⟩
  | cons s H2 =>
    have e9 : (s :: H2).length = H2.length + 1 := rfl
    rw [if_neg (show ¬ nI (s :: H2).length = 0 from dw_ne (b := 0) (by omega) (by decide) (Nat.succ_ne_zero _))]
    rw [if_neg (show ¬ (s :: H2).isEmpty = true from fun q => Bool.false_ne_true q)] at hR
    exact dw_Mefail k2 f2.1 f3 hR
theorem dw_Me41 (hb : ∀ j, j < tp → tb j < 256) (htx : tx < 6) (h12 : dw_gI X0 12 = nI tx) {n i : Nat} {H c : List Nat} {X1 : dw_X} {res : dw_Re} (ih : dw_IHe tb tp tx X0 R G S N y n) (hi : i ≤ tp) (htp : tp ≤ 160) (hl : H.length + c.length ≤ i) (P1 : dw_PS tx X0 X1 (dw_opn H) H c) (k2 : dw_gI X1 23 = nI (dw_pl1 tb tp i)) (k3 : dw_gI X1 24 = dw_tc (dw_tk tb tp i)) (k4 : (dw_tk tb tp i ≤ 10005 ∨ (10015 ≤ dw_tk tb tp i ∧ dw_tk tb tp i ≤ 10017)) → dw_gI X1 25 = dw_tv (dw_tk tb tp i)) (k5 : dw_tk tb tp i ≠ 10021 → dw_gI X1 22 = nI (dw_nx tb tp i)) (c19 : dw_tk tb tp i = 10019) (l2 : Int32) (hR : (if (dw_unw 1 H c).1.isEmpty = true then some (.inl (dw_pl1 tb tp i)) else dw_R tb tp n (dw_nx tb tp i) (dw_unw 7 (dw_unw 1 H c).1.tail (dw_unw 1 H c).2).1 (dw_unw 7 (dw_unw 1 H c).1.tail (dw_unw 1 H c).2).2 0) = some res) : dw_Er (bn2 (M_unwinds (dw_mk X1 R G S N y) 0 1) fun h18q _ => bnd (op_I h18q 0 6 28) fun x21q => if x21q = 0 then (some (h18q, 0)) else (bnd (op_I h18q 0 6 28) fun x23q => bnd (op_S h18q 0 6 28 (.int (x23q - 1))) fun h24q => bnd (op_I h24q 0 6 29) fun x25q => bnd (op_S h24q 0 6 29 (.int (x25q - 1))) fun h26q => grd (op_is h26q 0 6) <| bn2 (M_unwinds h26q 0 7) fun h27q _ => M_eRead_14 n h27q 0 0 l2)) tx X0 R G S N y res := by
  obtain ⟨x1, x2⟩ := dw_lx1 (tb := tb) (tp := tp) i
  have x5 := dw_lx2 hb hi (show dw_tk tb tp i ≠ 10021 by omega)
  obtain ⟨X2, f1, f2, f3⟩ := dw_Munwinds (R := R) (G := G) (S := S) (N := N) (y := y) (r := 1) (b := 0) (by decide) htx h12 P1 (by decide) (by omega)
  have f1' : M_unwinds (dw_mk X1 R G S N y) 0 1 = _ := f1
  have g2 := f2.2.1
  have elen := dw_unw_len 1 H c
  have elow := dw_unw_lw 1 H c
  have q22 := (f3 22 (by decide) (by decide)).trans (k5 (by omega))
  rw [f1', bn2_s, dw_f28, bnd_s, g2]
  generalize dw_unw 1 H c = u at *
  obtain ⟨H1, c1⟩ := u
  dsimp only at *
  rcases dw_hld_top f2.2.2.2.2.1 elow with e | ⟨H2, e⟩
  · subst e
    rw [if_pos (show nI ([] : List Nat).length = 0 from rfl)]
    rw [if_pos (show ([] : List Nat).isEmpty = true from rfl)] at hR
    exact dw_Mefail k2 f2.1 f3 hR
  · subst e
    have el : H2.length + 1 + c1.length = H.length + c.length := elen
    have g2' : dw_gI X2 28 = nI (H2.length + 1) := g2
    have g3' : dw_gI X2 29 = nI (dw_opn H2 + 1) := f2.2.2.1
    have oH2 := dw_opn_le H2
    rw [if_neg (show ¬ nI (10018 :: H2).length = 0 from dw_ne (b := 0) (by rw [List.length_cons]; omega) (by decide) (Nat.succ_ne_zero _))]
    rw [if_neg (show ¬ (10018 :: H2).isEmpty = true from fun q => Bool.false_ne_true q)] at hR
    have hR' : dw_R tb tp n (dw_nx tb tp i) (dw_unw 7 H2 c1).1 (dw_unw 7 H2 c1).2 0 = some res := hR
    have g3'' : dw_gI (dw_I X2 28 (nI H2.length)) 29 = nI (dw_opn H2 + 1) := by rw [dw_IIn (by decide), g3']
    have P3 : dw_PS tx X0 (dw_I (dw_I X2 28 (nI H2.length)) 29 (nI (dw_opn H2))) (dw_opn H2 + 0) H2 c1 := ⟨dw_Fr_I (by decide) (dw_Fr_I (by decide) f2.1), by rw [dw_IIn (by decide), dw_II, if_pos rfl], by rw [dw_II, if_pos rfl]; rfl, by rw [dw_IIn (by decide), dw_IIn (by decide), f2.2.2.2.1], dw_hld_I (dw_hld_I f2.2.2.2.2.1.2.2), f2.2.2.2.2.2⟩
    obtain ⟨X4, u1, u2, u3⟩ := dw_Munwinds (R := R) (G := G) (S := S) (N := N) (y := y) (r := 7) (b := 0) (by decide) htx h12 P3 (by decide) (by omega)
    have u1' : M_unwinds (dw_mk (dw_I (dw_I X2 28 (nI H2.length)) 29 (nI (dw_opn H2))) R G S N y) 0 7 = _ := u1
    have el2 := dw_unw_len 7 H2 c1
    rw [bnd_s, show (10018 :: H2).length = H2.length + 1 from rfl, dw_m1, dw_t28, bnd_s, dw_f29, bnd_s, g3'', dw_m1, dw_t29, bnd_s, dw_is, grd_t, u1', bn2_s]
    refine ih _ _ _ 0 X4 0 l2 res u2 ?_ x5 (by omega) (Or.inl ⟨rfl, rfl⟩) hR'
    rw [u3 22 (by decide) (by decide), dw_IIn (by decide), dw_IIn (by decide), q22]
theorem dw_Mesg (hb : ∀ j, j < tp → tb j < 256) (htx : tx < 6) (h12 : dw_gI X0 12 = nI tx) {n i : Nat} {H c : List Nat} {X1 : dw_X} {res : dw_Re} (ih : dw_IHe tb tp tx X0 R G S N y n) (hi : i ≤ tp) (htp : tp ≤ 160) (hl : H.length + c.length ≤ i) (P1 : dw_PS tx X0 X1 (dw_opn H) H c) (k2 : dw_gI X1 23 = nI (dw_pl1 tb tp i)) (k3 : dw_gI X1 24 = dw_tc (dw_tk tb tp i)) (k4 : (dw_tk tb tp i ≤ 10005 ∨ (10015 ≤ dw_tk tb tp i ∧ dw_tk tb tp i ≤ 10017)) → dw_gI X1 25 = dw_tv (dw_tk tb tp i)) (k5 : dw_tk tb tp i ≠ 10021 → dw_gI X1 22 = nI (dw_nx tb tp i)) (cs : 10006 ≤ dw_tk tb tp i ∧ dw_tk tb tp i ≤ 10012) (hR : (if dw_rk (dw_tk tb tp i) = 4 ∧ dw_top4 (dw_unw (dw_ul (dw_tk tb tp i)) H c).1 = true then some (.inl (dw_pl1 tb tp i)) else dw_R tb tp n (dw_nx tb tp i) (dw_tk tb tp i :: (dw_unw (dw_ul (dw_tk tb tp i)) H c).1) (dw_unw (dw_ul (dw_tk tb tp i)) H c).2 (dw_md (dw_tk tb tp i))) = some res) : dw_Er (bn2 (M_between (dw_mk X1 R G S N y) 0 (nI (dw_cm (dw_tk tb tp i)))) fun h13q x14q => if x14q = 0 then (some (h13q, 0)) else (if 12 < nI (dw_cm (dw_tk tb tp i)) then (M_eRead_262 (M_eRead_14 n) h13q 0 1 0) else (M_eRead_262 (M_eRead_14 n) h13q 0 1 1))) tx X0 R G S N y res := by
  obtain ⟨x1, x2⟩ := dw_lx1 (tb := tb) (tp := tp) i
  have x5 := dw_lx2 hb hi (show dw_tk tb tp i ≠ 10021 by omega)
  have k5' := k5 (by omega)
  clear k3 k4 k5
  have hbt0 := dw_Mbetween (R := R) (G := G) (S := S) (N := N) (y := y) (t := dw_tk tb tp i) cs htx h12 P1 (by omega)
  generalize dw_tk tb tp i = t at *
  have ncm : (12 : Int32) < nI (dw_cm t) ↔ ¬ t ≤ 10007 := by
    rcases (by omega : t = 10006 ∨ t = 10007 ∨ t = 10008 ∨ t = 10009 ∨ t = 10010 ∨ t = 10011 ∨ t = 10012) with rfl | rfl | rfl | rfl | rfl | rfl | rfl <;> decide
  have hbt1 : (dw_rk t = 4 ∧ dw_top4 (dw_unw (dw_ul t) H c).1 = true → ∃ X', M_between (dw_mk X1 R G S N y) 0 (nI (dw_cm t)) = some (dw_mk X' R G S N y, 0) ∧ dw_Fr tx X0 X' ∧ dw_K X1 X') ∧ (¬ (dw_rk t = 4 ∧ dw_top4 (dw_unw (dw_ul t) H c).1 = true) → ∃ X', M_between (dw_mk X1 R G S N y) 0 (nI (dw_cm t)) = some (dw_mk X' R G S N y, 1) ∧ dw_PS tx X0 X' (dw_opn (t :: (dw_unw (dw_ul t) H c).1)) (t :: (dw_unw (dw_ul t) H c).1) (dw_unw (dw_ul t) H c).2 ∧ dw_K X1 X') := hbt0
  by_cases cf : dw_rk t = 4 ∧ dw_top4 (dw_unw (dw_ul t) H c).1 = true
  · rw [if_pos cf] at hR
    obtain ⟨X2, f1, f2, f3⟩ := hbt1.1 cf
    rw [f1, bn2_s, if_pos rfl]
    exact dw_Mefail k2 f2 f3 hR
  · rw [if_neg cf] at hR
    obtain ⟨X2, f1, f2, f3⟩ := hbt1.2 cf
    rw [f1, bn2_s, if_neg (by decide)]
    have elen := dw_unw_len (dw_ul t) H c
    have go : ∀ l2', dw_mo (dw_md t) 1 l2' → dw_Er (M_eRead_14 n (dw_mk X2 R G S N y) 0 1 l2') tx X0 R G S N y res := by
      intro l2' hmo
      refine ih _ _ _ _ X2 1 l2' res f2 ?_ x5 ?_ hmo hR
      · rw [f3 22 (by decide) (by decide)]
        exact k5'
      · rw [List.length_cons]
        omega
    by_cases c7 : t ≤ 10007
    · rw [if_neg (fun q => ncm.mp q c7), M_eRead_262]
      exact go 1 (Or.inr (Or.inr ⟨by rw [dw_md, if_pos c7], rfl, rfl⟩))
    · rw [if_pos (ncm.mpr c7), M_eRead_262]
      exact go 0 (Or.inr (Or.inl ⟨by rw [dw_md, if_neg c7], rfl, rfl⟩))
theorem dw_Meput (hb : ∀ j, j < tp → tb j < 256) (htx : tx < 6) (h12 : dw_gI X0 12 = nI tx) {n i : Nat} {H c : List Nat} {X1 : dw_X} {res : dw_Re} (ih : dw_IHe tb tp tx X0 R G S N y n) (hi : i ≤ tp) (htp : tp ≤ 160) (hl : H.length + c.length ≤ i) (P1 : dw_PS tx X0 X1 (dw_opn H) H c) (k2 : dw_gI X1 23 = nI (dw_pl1 tb tp i)) (k3 : dw_gI X1 24 = dw_tc (dw_tk tb tp i)) (k4 : (dw_tk tb tp i ≤ 10005 ∨ (10015 ≤ dw_tk tb tp i ∧ dw_tk tb tp i ≤ 10017)) → dw_gI X1 25 = dw_tv (dw_tk tb tp i)) (k5 : dw_tk tb tp i ≠ 10021 → dw_gI X1 22 = nI (dw_nx tb tp i)) (ht : dw_tk tb tp i ≤ 10005) (l2 : Int32) (hR : dw_R tb tp n (dw_nx tb tp i) (dw_unw 7 H (c ++ [dw_tk tb tp i])).1 (dw_unw 7 H (c ++ [dw_tk tb tp i])).2 0 = some res) : dw_Er (M_eRead_61 (M_eRead_14 n) (dw_mk X1 R G S N y) 0 l2 (nI (dw_cm (dw_tk tb tp i))) 0) tx X0 R G S N y res := by
  obtain ⟨x1, x2⟩ := dw_lx1 (tb := tb) (tp := tp) i
  have x5 := dw_lx2 hb hi (show dw_tk tb tp i ≠ 10021 by omega)
  have k5' := k5 (by omega)
  clear k3 k4 k5
  generalize dw_tk tb tp i = t at *
  rw [M_eRead_61]
  obtain ⟨X2, f1, f2, f3⟩ := dw_Mputs (R := R) (G := G) (S := S) (N := N) (y := y) htx h12 P1 (by omega) t
  have hc1 : (c ++ [t]).length = c.length + 1 := by
    rw [List.length_append]
    rfl
  obtain ⟨X3, u1, u2, u3⟩ := dw_Munwinds (R := R) (G := G) (S := S) (N := N) (y := y) (r := 7) (b := 0) (by decide) htx h12 f2 (by decide) (by omega)
  have u1' : M_unwinds (dw_mk X2 R G S N y) 0 7 = _ := u1
  have elen := dw_unw_len 7 H (c ++ [t])
  rw [dw_is, grd_t, f1, bn2_s, dw_is, grd_t, u1', bn2_s]
  refine ih _ _ _ 0 X3 0 l2 res u2 ?_ x5 (by omega) (Or.inl ⟨rfl, rfl⟩) hR
  rw [u3 22 (by decide) (by decide), f3 22 (by decide) (by decide)]
  exact k5'
theorem dw_Meopn (hb : ∀ j, j < tp → tb j < 256) (htx : tx < 6) (h12 : dw_gI X0 12 = nI tx) {n i : Nat} {H c : List Nat} {X1 : dw_X} {res : dw_Re} (ih : dw_IHe tb tp tx X0 R G S N y n) (hi : i ≤ tp) (htp : tp ≤ 160) (hl : H.length + c.length ≤ i) (P1 : dw_PS tx X0 X1 (dw_opn H) H c) (k2 : dw_gI X1 23 = nI (dw_pl1 tb tp i)) (k3 : dw_gI X1 24 = dw_tc (dw_tk tb tp i)) (k4 : (dw_tk tb tp i ≤ 10005 ∨ (10015 ≤ dw_tk tb tp i ∧ dw_tk tb tp i ≤ 10017)) → dw_gI X1 25 = dw_tv (dw_tk tb tp i)) (k5 : dw_tk tb tp i ≠ 10021 → dw_gI X1 22 = nI (dw_nx tb tp i)) (ht : dw_tk tb tp i ≠ 10021) {s m' : Nat} {l2' : Int32} (hs : s = 10013 ∨ s = 10014 ∨ s = 10018) (hmo : dw_mo m' 1 l2') (hR : (if dw_opn H = 5 then some (.inl (dw_pl1 tb tp i)) else dw_R tb tp n (dw_nx tb tp i) (s :: H) c m') = some res) : dw_Er (bn2 (M_opensOne (dw_mk X1 R G S N y) 0 (nI (dw_hm s))) fun h5q x6q => if x6q = 0 then (some (h5q, 0)) else (M_eRead_14 n h5q 0 1 l2')) tx X0 R G S N y res := by
  obtain ⟨x1, x2⟩ := dw_lx1 (tb := tb) (tp := tp) i
  have x5 := dw_lx2 hb hi ht
  have olH := dw_opn_le H
  have ho : (dw_opn H = 5 → M_opensOne (dw_mk X1 R G S N y) 0 (nI (dw_hm s)) = some (dw_mk X1 R G S N y, 0)) ∧ (dw_opn H ≠ 5 → ∃ X', M_opensOne (dw_mk X1 R G S N y) 0 (nI (dw_hm s)) = some (dw_mk X' R G S N y, 1) ∧ dw_PS tx X0 X' (dw_opn (s :: H)) (s :: H) c ∧ dw_K X1 X') := dw_Mopens (R := R) (G := G) (S := S) (N := N) (y := y) hs P1 olH (by omega)
  by_cases c5 : dw_opn H = 5
  · rw [if_pos c5] at hR
    rw [ho.1 c5, bn2_s, if_pos rfl]
    exact dw_Mefail k2 P1.1 (fun _ _ _ => rfl) hR
  · rw [if_neg c5] at hR
    obtain ⟨X2, f1, f2, f3⟩ := ho.2 c5
    rw [f1, bn2_s, if_neg (by decide)]
    refine ih _ _ _ m' X2 1 l2' res f2 ?_ x5 ?_ hmo hR
    · rw [f3 22 (by decide) (by decide)]
      exact k5 ht
    · rw [List.length_cons]
      omega
theorem dw_Me99 (hb : ∀ j, j < tp → tb j < 256) (htx : tx < 6) (h12 : dw_gI X0 12 = nI tx) {n i : Nat} {H c : List Nat} {X1 : dw_X} {res : dw_Re} (ih : dw_IHe tb tp tx X0 R G S N y n) (hi : i ≤ tp) (htp : tp ≤ 160) (hl : H.length + c.length ≤ i) (P1 : dw_PS tx X0 X1 (dw_opn H) H c) (k2 : dw_gI X1 23 = nI (dw_pl1 tb tp i)) (k3 : dw_gI X1 24 = dw_tc (dw_tk tb tp i)) (k4 : (dw_tk tb tp i ≤ 10005 ∨ (10015 ≤ dw_tk tb tp i ∧ dw_tk tb tp i ≤ 10017)) → dw_gI X1 25 = dw_tv (dw_tk tb tp i)) (k5 : dw_tk tb tp i ≠ 10021 → dw_gI X1 22 = nI (dw_nx tb tp i)) (m : Nat) (n0 : ¬ dw_tk tb tp i ≤ 10005) (n1 : ¬ (dw_tk tb tp i = 10013 ∧ m = 2)) (hR : (if dw_tk tb tp i = 10011 then (if dw_opn H = 5 then some (.inl (dw_pl1 tb tp i)) else dw_R tb tp n (dw_nx tb tp i) (10014 :: H) c 1) else if dw_tk tb tp i = 10018 then (if dw_opn H = 5 then some (.inl (dw_pl1 tb tp i)) else dw_R tb tp n (dw_nx tb tp i) (10018 :: H) c 2) else some (.inl (dw_pl1 tb tp i))) = some res) : dw_Er (M_eRead_99 (M_eRead_14 n) (dw_mk X1 R G S N y) 0 1) tx X0 R G S N y res := by
  have x4 := dw_lx4 hb hi
  rw [M_eRead_99, dw_f24, bnd_s, k3]
  by_cases c1 : dw_tk tb tp i = 10011
  · rw [if_pos (show dw_tc (dw_tk tb tp i) = 45 by rw [c1]; rfl), dw_is, grd_t]
    rw [if_pos c1] at hR
    exact dw_Meopn hb htx h12 ih hi htp hl P1 k2 k3 k4 k5 (by omega) (s := 10014) (Or.inr (Or.inl rfl)) (Or.inr (Or.inl ⟨rfl, rfl, rfl⟩)) hR
  rw [if_neg (show ¬ dw_tc (dw_tk tb tp i) = 45 from fun q => by rcases dw_tc_inv x4 q with ⟨e, f⟩ | ⟨e, f⟩ | ⟨e, f⟩ | ⟨e, f⟩ | ⟨e, f⟩ | ⟨e, f⟩ | ⟨e, f⟩ | ⟨e, f⟩ | ⟨e, f⟩ | ⟨e, f⟩ | ⟨e, f⟩ | ⟨e, f⟩ | ⟨e, f⟩ | ⟨e, f⟩ | ⟨e, f⟩ | ⟨e, f⟩ <;> first | exact absurd e (by decide) | omega)]
  rw [if_neg c1] at hR
  rw [bnd_s]
  by_cases c2 : dw_tk tb tp i = 10018
  · rw [if_pos (show dw_tc (dw_tk tb tp i) = 40 by rw [c2]; rfl), dw_is, grd_t]
    rw [if_pos c2] at hR
    exact dw_Meopn hb htx h12 ih hi htp hl P1 k2 k3 k4 k5 (by omega) (s := 10018) (Or.inr (Or.inr rfl)) (Or.inr (Or.inr ⟨rfl, rfl, rfl⟩)) hR
  rw [if_neg (show ¬ dw_tc (dw_tk tb tp i) = 40 from fun q => by rcases dw_tc_inv x4 q with ⟨e, f⟩ | ⟨e, f⟩ | ⟨e, f⟩ | ⟨e, f⟩ | ⟨e, f⟩ | ⟨e, f⟩ | ⟨e, f⟩ | ⟨e, f⟩ | ⟨e, f⟩ | ⟨e, f⟩ | ⟨e, f⟩ | ⟨e, f⟩ | ⟨e, f⟩ | ⟨e, f⟩ | ⟨e, f⟩ | ⟨e, f⟩ <;> first | exact absurd e (by decide) | omega)]
  rw [if_neg c2] at hR
  exact dw_Mefail k2 P1.1 (fun _ _ _ => rfl) hR
theorem dw_Mewant (hb : ∀ j, j < tp → tb j < 256) (htx : tx < 6) (h12 : dw_gI X0 12 = nI tx) {n i : Nat} {H c : List Nat} {X1 : dw_X} {res : dw_Re} (ih : dw_IHe tb tp tx X0 R G S N y n) (hi : i ≤ tp) (htp : tp ≤ 160) (hl : H.length + c.length ≤ i) (P1 : dw_PS tx X0 X1 (dw_opn H) H c) (k2 : dw_gI X1 23 = nI (dw_pl1 tb tp i)) (k3 : dw_gI X1 24 = dw_tc (dw_tk tb tp i)) (k4 : (dw_tk tb tp i ≤ 10005 ∨ (10015 ≤ dw_tk tb tp i ∧ dw_tk tb tp i ≤ 10017)) → dw_gI X1 25 = dw_tv (dw_tk tb tp i)) (k5 : dw_tk tb tp i ≠ 10021 → dw_gI X1 22 = nI (dw_nx tb tp i)) {m : Nat} {l2 : Int32} (hm2 : l2 = 0 ∧ m = 1 ∨ l2 = 1 ∧ m = 2) (hR : (if dw_tk tb tp i ≤ 10005 then dw_R tb tp n (dw_nx tb tp i) (dw_unw 7 H (c ++ [dw_tk tb tp i])).1 (dw_unw 7 H (c ++ [dw_tk tb tp i])).2 0 else if dw_tk tb tp i = 10013 ∧ m = 2 then (if dw_opn H = 5 then some (.inl (dw_pl1 tb tp i)) else dw_R tb tp n (dw_nx tb tp i) (10013 :: H) c 2) else if dw_tk tb tp i = 10011 then (if dw_opn H = 5 then some (.inl (dw_pl1 tb tp i)) else dw_R tb tp n (dw_nx tb tp i) (10014 :: H) c 1) else if dw_tk tb tp i = 10018 then (if dw_opn H = 5 then some (.inl (dw_pl1 tb tp i)) else dw_R tb tp n (dw_nx tb tp i) (10018 :: H) c 2) else some (.inl (dw_pl1 tb tp i))) = some res) : dw_Er (bnd (op_I (dw_mk X1 R G S N y) 0 6 24) fun x35q => if x35q = 1 then (M_eRead_38 (M_eRead_14 n) (dw_mk X1 R G S N y) 0 l2) else (bnd (op_I (dw_mk X1 R G S N y) 0 6 24) fun x37q => if x37q = 2 then (M_eRead_38 (M_eRead_14 n) (dw_mk X1 R G S N y) 0 l2) else (bnd (op_I (dw_mk X1 R G S N y) 0 6 24) fun x39q => if x39q = 6 then (if l2 = 0 then (M_eRead_99 (M_eRead_14 n) (dw_mk X1 R G S N y) 0 1) else (grd (op_is (dw_mk X1 R G S N y) 0 6) <| bn2 (M_opensOne (dw_mk X1 R G S N y) 0 13) fun h42q x43q => if x43q = 0 then (some (h42q, 0)) else (M_eRead_14 n h42q 0 1 l2))) else (M_eRead_99 (M_eRead_14 n) (dw_mk X1 R G S N y) 0 1)))) tx X0 R G S N y res := by
  have x4 := dw_lx4 hb hi
  rw [dw_f24, bnd_s, k3]
  by_cases c1 : dw_tk tb tp i < 10000
  · have k4' := k4 (Or.inl (by omega))
    have e1 := dw_tc_num c1
    rw [if_pos (show dw_tc (dw_tk tb tp i) = 1 from e1), M_eRead_38, dw_f24, bnd_s, k3, if_pos (show dw_tc (dw_tk tb tp i) = 1 from e1), dw_f25, bnd_s, k4']
    have e9 : (100000 : Int32) + dw_tv (dw_tk tb tp i) = nI (dw_cm (dw_tk tb tp i)) := by
      rw [dw_tv, if_pos c1, dw_cm, if_pos c1]
      exact nI_add 100000 _
    rw [e9]
    rw [if_pos (show dw_tk tb tp i ≤ 10005 by omega)] at hR
    exact dw_Meput hb htx h12 ih hi htp hl P1 k2 k3 k4 k5 (by omega) l2 hR
  rw [if_neg (show ¬ dw_tc (dw_tk tb tp i) = 1 from fun q => by rcases dw_tc_inv x4 q with ⟨e, f⟩ | ⟨e, f⟩ | ⟨e, f⟩ | ⟨e, f⟩ | ⟨e, f⟩ | ⟨e, f⟩ | ⟨e, f⟩ | ⟨e, f⟩ | ⟨e, f⟩ | ⟨e, f⟩ | ⟨e, f⟩ | ⟨e, f⟩ | ⟨e, f⟩ | ⟨e, f⟩ | ⟨e, f⟩ | ⟨e, f⟩ <;> first | exact absurd e (by decide) | omega), bnd_s]
  by_cases c2 : dw_tk tb tp i ≤ 10005
  · have k4' := k4 (Or.inl c2)
    have e2 := dw_tc_nam (by omega) c2
    rw [if_pos (show dw_tc (dw_tk tb tp i) = 2 from e2), M_eRead_38, dw_f24, bnd_s, k3, if_neg (show ¬ dw_tc (dw_tk tb tp i) = 1 by rw [e2]; decide), dw_f25, bnd_s, k4']
    have e9 : dw_tv (dw_tk tb tp i) = nI (dw_cm (dw_tk tb tp i)) := by
      rw [dw_tv, if_neg c1, if_pos (by omega), dw_cm, if_neg c1, if_pos (by omega)]
    rw [e9]
    rw [if_pos c2] at hR
    exact dw_Meput hb htx h12 ih hi htp hl P1 k2 k3 k4 k5 c2 l2 hR
  rw [if_neg (show ¬ dw_tc (dw_tk tb tp i) = 2 from fun q => by rcases dw_tc_inv x4 q with ⟨e, f⟩ | ⟨e, f⟩ | ⟨e, f⟩ | ⟨e, f⟩ | ⟨e, f⟩ | ⟨e, f⟩ | ⟨e, f⟩ | ⟨e, f⟩ | ⟨e, f⟩ | ⟨e, f⟩ | ⟨e, f⟩ | ⟨e, f⟩ | ⟨e, f⟩ | ⟨e, f⟩ | ⟨e, f⟩ | ⟨e, f⟩ <;> first | exact absurd e (by decide) | omega), bnd_s]
  rw [if_neg c2] at hR
  by_cases c3 : dw_tk tb tp i = 10013
  · rw [if_pos (show dw_tc (dw_tk tb tp i) = 6 by rw [c3]; rfl)]
    rcases hm2 with ⟨e, em⟩ | ⟨e, em⟩
    · rw [if_pos e]
      have n1 : ¬ (dw_tk tb tp i = 10013 ∧ m = 2) := by omega
      rw [if_neg n1] at hR
      exact dw_Me99 hb htx h12 ih hi htp hl P1 k2 k3 k4 k5 m c2 n1 hR
    · subst e
      rw [if_neg (show ¬ (1 : Int32) = 0 by decide), dw_is, grd_t]
      rw [if_pos ⟨c3, em⟩] at hR
      exact dw_Meopn hb htx h12 ih hi htp hl P1 k2 k3 k4 k5 (by omega) (s := 10013) (Or.inl rfl) (Or.inr (Or.inr ⟨rfl, rfl, rfl⟩)) hR
  rw [if_neg (show ¬ dw_tc (dw_tk tb tp i) = 6 from fun q => by rcases dw_tc_inv x4 q with ⟨e, f⟩ | ⟨e, f⟩ | ⟨e, f⟩ | ⟨e, f⟩ | ⟨e, f⟩ | ⟨e, f⟩ | ⟨e, f⟩ | ⟨e, f⟩ | ⟨e, f⟩ | ⟨e, f⟩ | ⟨e, f⟩ | ⟨e, f⟩ | ⟨e, f⟩ | ⟨e, f⟩ | ⟨e, f⟩ | ⟨e, f⟩ <;> first | exact absurd e (by decide) | omega)]
  have n1 : ¬ (dw_tk tb tp i = 10013 ∧ m = 2) := fun q => c3 q.1
  rw [if_neg n1] at hR
  exact dw_Me99 hb htx h12 ih hi htp hl P1 k2 k3 k4 k5 m c2 n1 hR
theorem dw_MeR (htp : tp ≤ 160) (hb : ∀ j, j < tp → tb j < 256) (htx : tx < 6) (h12 : dw_gI X0 12 = nI tx) (hT : dw_TA X0 tb tp) : ∀ n, dw_IHe tb tp tx X0 R G S N y n
  | 0 => fun i H c m X l1 l2 res h h22 hi hl hm hR => by
    rw [dw_R] at hR
    exact absurd hR (by simp)
  | n + 1 => fun i H c m X l1 l2 res h h22 hi hl hm hR => by
    have ih := dw_MeR htp hb htx h12 hT n
    obtain ⟨X1, e1, k1, k2, k3, k4, k5⟩ := dw_Mnext (R := R) (G := G) (S := S) (N := N) (y := y) htp hb (dw_TA_Fr hT h.1) hi h22
    have P1 := dw_PS_Kx h k1
    have x4 := dw_lx4 hb hi
    rw [dw_R] at hR
    rw [M_eRead_14, dw_is, grd_t, e1, bn2_s]
    rcases hm with ⟨m0, l0⟩ | hm
    · subst m0
      subst l0
      rw [if_pos rfl, dw_f24, bnd_s, k3]
      rw [if_pos rfl] at hR
      by_cases c20 : dw_tk tb tp i = 10020
      · rw [if_pos (show dw_tc (dw_tk tb tp i) = 59 by rw [c20]; rfl), dw_is, grd_t]
        rw [if_pos c20] at hR
        exact dw_Me59 hb htx h12 ih hi htp hl P1 k2 k3 k4 k5 c20 hR
      rw [if_neg (show ¬ dw_tc (dw_tk tb tp i) = 59 from fun q => by rcases dw_tc_inv x4 q with ⟨e, f⟩ | ⟨e, f⟩ | ⟨e, f⟩ | ⟨e, f⟩ | ⟨e, f⟩ | ⟨e, f⟩ | ⟨e, f⟩ | ⟨e, f⟩ | ⟨e, f⟩ | ⟨e, f⟩ | ⟨e, f⟩ | ⟨e, f⟩ | ⟨e, f⟩ | ⟨e, f⟩ | ⟨e, f⟩ | ⟨e, f⟩ <;> first | exact absurd e (by decide) | omega), bnd_s]
      rw [if_neg c20] at hR
      by_cases c19 : dw_tk tb tp i = 10019
      · rw [if_pos (show dw_tc (dw_tk tb tp i) = 41 by rw [c19]; rfl), dw_is, grd_t]
        rw [if_pos c19] at hR
        exact dw_Me41 hb htx h12 ih hi htp hl P1 k2 k3 k4 k5 c19 l2 hR
      rw [if_neg (show ¬ dw_tc (dw_tk tb tp i) = 41 from fun q => by rcases dw_tc_inv x4 q with ⟨e, f⟩ | ⟨e, f⟩ | ⟨e, f⟩ | ⟨e, f⟩ | ⟨e, f⟩ | ⟨e, f⟩ | ⟨e, f⟩ | ⟨e, f⟩ | ⟨e, f⟩ | ⟨e, f⟩ | ⟨e, f⟩ | ⟨e, f⟩ | ⟨e, f⟩ | ⟨e, f⟩ | ⟨e, f⟩ | ⟨e, f⟩ <;> first | exact absurd e (by decide) | omega), dw_is, grd_t, dw_MsignOf x4 c19 c20 k3, bn2_s]
      rw [if_neg c19] at hR
      by_cases cs : 10006 ≤ dw_tk tb tp i ∧ dw_tk tb tp i ≤ 10012
      · rw [if_pos cs] at hR
        rw [if_pos cs]
        have ncm : ¬ nI (dw_cm (dw_tk tb tp i)) = -1 := by
          rcases (by omega : dw_tk tb tp i = 10006 ∨ dw_tk tb tp i = 10007 ∨ dw_tk tb tp i = 10008 ∨ dw_tk tb tp i = 10009 ∨ dw_tk tb tp i = 10010 ∨ dw_tk tb tp i = 10011 ∨ dw_tk tb tp i = 10012) with e | e | e | e | e | e | e <;> rw [e] <;> decide
        rw [if_neg ncm, dw_is, grd_t]
        exact dw_Mesg hb htx h12 ih hi htp hl P1 k2 k3 k4 k5 cs hR
      · rw [if_neg cs] at hR
        rw [if_neg cs, if_pos rfl]
        exact dw_Mefail k2 P1.1 (fun _ _ _ => rfl) hR
    · have hm' : m ≠ 0 ∧ l1 = 1 ∧ (l2 = 0 ∧ m = 1 ∨ l2 = 1 ∧ m = 2) := by
        rcases hm with ⟨a, b, d⟩ | ⟨a, b, d⟩
        · exact ⟨by omega, b, Or.inl ⟨d, a⟩⟩
        · exact ⟨by omega, b, Or.inr ⟨d, a⟩⟩
      obtain ⟨m0, l0, hm2⟩ := hm'
      subst l0
      rw [if_neg (show ¬ (1 : Int32) = 0 by decide)]
      rw [if_neg m0] at hR
      exact dw_Mewant hb htx h12 ih hi htp hl P1 k2 k3 k4 k5 hm2 hR
end ME
