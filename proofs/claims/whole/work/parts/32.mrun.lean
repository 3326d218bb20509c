/-! THE REFERENCE: what is thought -/
def dw_T (w : dw_W) (cl : Int64) (s : dw_L) (yy n : Nat) : dw_L := (dw_years w cl (s, nI yy) n).1
def dw_F (w : dw_W) (cl ho : Int64) (s : dw_L) (yy n : Nat) : Int32 := dw_sum w cl ho (s, nI yy) n
def dw_fg (s : dw_L) (d f : Nat) : Int32 := if s d 6 = 0 then s d f else -1
def dw_st (s : dw_L) (a : Int32) : Nat → Option Nat
  | 0 => none
  | k + 1 => if a = nI k then (if s k 6 = 0 then some k else none) else dw_st s a k
def dw_N (a : Int32) : Nat := a.toInt.toNat
theorem dw_N_nI {k : Nat} (h : k < 2 ^ 31) : dw_N (nI k) = k := by
  unfold dw_N
  rw [nI_toInt h]
  rfl
theorem dw_st_none {s : dw_L} {a : Int32} : ∀ {k : Nat}, (∀ j, j < k → a = nI j → s j 6 ≠ 0) → dw_st s a k = none
  | 0, _ => rfl
  | k + 1, h => by
    rw [dw_st]
    by_cases c : a = nI k
    · rw [if_pos c, if_neg (h k (Nat.lt_succ_self k) c)]
    · rw [if_neg c, dw_st_none (fun j hj => h j (by omega))]
theorem dw_st_some {s : dw_L} {j : Nat} (h : s j 6 = 0) : ∀ {k : Nat}, j < k → k < 2 ^ 31 → dw_st s (nI j) k = some j
  | 0, hj, _ => absurd hj (Nat.not_lt_zero j)
  | k + 1, hj, hk => by
    rw [dw_st]
    by_cases c : nI j = nI k
    · rw [nI_eq (by omega) (by omega)] at c
      subst c
      rw [if_pos rfl, if_pos h]
    · have : j ≠ k := fun e => c (by rw [e])
      rw [if_neg c, dw_st_some h (by omega) (by omega)]
theorem dw_st_of {s : dw_L} {a : Int32} {j : Nat} : ∀ {k : Nat}, dw_st s a k = some j → j < k ∧ a = nI j ∧ s j 6 = 0
  | 0, h => by
    rw [dw_st] at h
    exact absurd h (by simp)
  | k + 1, h => by
    rw [dw_st] at h
    by_cases c : a = nI k
    · rw [if_pos c] at h
      by_cases c2 : s k 6 = 0
      · rw [if_pos c2] at h
        injection h with h
        subst h
        exact ⟨Nat.lt_succ_self _, c, c2⟩
      · rw [if_neg c2] at h
        exact absurd h (by simp)
    · rw [if_neg c] at h
      obtain ⟨h1, h2, h3⟩ := dw_st_of h
      exact ⟨by omega, h2, h3⟩
theorem dw_ne {a b : Nat} (ha : a < 2 ^ 31) (hb : b < 2 ^ 31) (h : a ≠ b) : ¬ nI a = nI b := fun e => h ((nI_eq ha hb).mp e)
def dw_find (p : Nat → Bool) : Nat → Nat → Int32
  | 0, _ => -1
  | k + 1, i => if p i = true then nI i else dw_find p k (i + 1)
theorem dw_find_no {p : Nat → Bool} : ∀ {k i : Nat}, (∀ j, i ≤ j → j < i + k → p j = false) → dw_find p k i = -1
  | 0, _, _ => rfl
  | k + 1, i, h => by
    rw [dw_find, if_neg (by rw [h i (Nat.le_refl i) (by omega)]; decide), dw_find_no (fun j h1 h2 => h j (by omega) (by omega))]
def dw_ov (s : dw_L) (y : Int32) (d : Nat) : Bool := decide (s d 6 = 0) && decide (lg_cmp ((dw_yds (s d 3) (s d 4) >>> (y.toInt64 &&& 63)) &&& 1) 1 = 0)
def dw_Bk {α : Type} (o : Option (pm_H × α)) (X : dw_X) (R G : Nat → Int32) (y : Int32) (v : α) : Prop := ∃ X' R' G' S N, o = some (dw_mk X' R' G' S N y, v) ∧ dw_Eq X X' ∧ (∀ k, k < 18 → R' k = R k) ∧ ∀ d, d < 6 → G' d = G d
def dw_TH (X : dw_X) (R G : Nat → Int32) (r m : Nat) (w : dw_W) (s : dw_L) (yy : Nat) : Prop := dw_Ctx X r m w ∧ dw_WFA s ∧ dw_Dead m s ∧ yy < 2 ^ 30 ∧ dw_small (dw_gJ X 5) ∧ dw_Rel s m X R G
section MC
variable {X : dw_X} {R G S N : Nat → Int32} {y : Int32} {w : dw_W} {r m yy : Nat} {s : dw_L}
theorem dw_TH_Eq {X' : dw_X} {R' G' : Nat → Int32} (h : dw_TH X R G r m w s yy) (e : dw_Eq X X') (hR : ∀ k, k < 18 → R' k = R k) (hG : ∀ k, k < 6 → G' k = G k) : dw_TH X' R' G' r m w s yy :=
  ⟨dw_Ctx_Eq e h.1, h.2.1, h.2.2.1, h.2.2.2.1, (e.2.1 5).symm ▸ h.2.2.2.2.1, dw_Rel_Eq e h.1.2.2.2.2 hR hG h.2.2.2.2.2⟩
theorem dw_Bk_id {α : Type} {v : α} : dw_Bk (some (dw_mk X R G S N y, v)) X R G y v := ⟨X, R, G, S, N, rfl, dw_Eq_rfl X, fun _ _ => rfl, fun _ _ => rfl⟩
theorem dw_T0 (w : dw_W) (cl : Int64) (s : dw_L) (yy : Nat) : dw_T w cl s yy 0 = s := by rw [dw_T, dw_years_0]
theorem dw_TWF {cl : Int64} (h : dw_WFA s) (n : Nat) : dw_WFA (dw_T w cl s yy n) := dw_years_WF h n
theorem dw_TDead {cl : Int64} (hm : m ≤ 6) (h : dw_Dead m s) (n : Nat) : dw_Dead m (dw_T w cl s yy n) := dw_years_Dead hm h n
/-- at year n of what is thought -/
def dw_At (X : dw_X) (R G : Nat → Int32) (r m : Nat) (w : dw_W) (s : dw_L) (yy n : Nat) : Prop := dw_Ctx X r m w ∧ dw_WFA s ∧ dw_Dead m s ∧ yy < 2 ^ 30 ∧ dw_small (dw_gJ X 5) ∧ dw_Rel (dw_T w (dw_gJ X 6) s yy n) m X R G
theorem dw_At0 (h : dw_TH X R G r m w s yy) : dw_At X R G r m w s yy 0 := ⟨h.1, h.2.1, h.2.2.1, h.2.2.2.1, h.2.2.2.2.1, by rw [dw_T0]; exact h.2.2.2.2.2⟩
/-- a year passes -/
theorem dw_Ayear {n : Nat} (h : dw_At X R G r m w s yy n) (hn : n < 2 ^ 30) : ∃ R' G' S' N', M_yearOf (dw_mk X R G S N (nI (yy + n))) 0 = some (dw_mk X R' G' S' N' (nI (yy + (n + 1))), dw_live (dw_T w (dw_gJ X 6) s yy n) 6 &&& (dw_live (dw_T w (dw_gJ X 6) s yy (n + 1)) 6 ^^^ (-1))) ∧ dw_At X R' G' r m w s yy (n + 1) := by
  obtain ⟨R1, G1, S1, N1, e1, hr1⟩ := dw_Mstep (S := S) (N := N) h.1 h.2.1 h.2.2.1 (n := n) (yy := yy) (by have := h.2.2.2.1; omega) h.2.2.2.2.2
  exact ⟨R1, G1, S1, N1, e1, h.1, h.2.1, h.2.2.1, h.2.2.2.1, h.2.2.2.2.1, hr1⟩
theorem dw_Asand {n : Nat} (h : dw_At X R G r m w s yy n) : M_sand (dw_mk X R G S N y) 0 = some (dw_mk X R G S N y, dw_sand (dw_T w (dw_gJ X 6) s yy n) 6) := dw_MsandY h.1 h.2.1 h.2.2.1 h.2.2.2.2.2
theorem dw_Athere {n : Nat} (h : dw_At X R G r m w s yy n) : M_there (dw_mk X R G S N y) 0 = some (dw_mk X R G S N y, dw_live (dw_T w (dw_gJ X 6) s yy n) 6) := by
  have hm6 := h.1.2.2.2.2
  have l1 := dw_live6 (dw_TDead (w := w) (cl := dw_gJ X 6) (yy := yy) hm6 h.2.2.1 n) (6 - m) (by omega)
  rw [show m + (6 - m) = 6 by omega] at l1
  rw [l1]
  exact dw_Mthere h.1.2.2.2.1 hm6 (dw_RR_of h.2.2.2.2.2) (fun d hd => dw_TWF h.2.1 n d (by omega))
theorem dw_Abur {n : Nat} (h : dw_At X R G r m w s yy n) (H : pm_H) : M_bitsOf H (dw_sand (dw_T w (dw_gJ X 6) s yy n) 6 &&& dw_gJ X 5) = some (H, dw_bur (dw_gJ X 5) (dw_T w (dw_gJ X 6) s yy n)) := by
  rw [dw_and_comm, dw_Mb' (dw_small_and h.2.2.2.2.1 _)]
  rfl
/-- a dune of it -/
theorem dw_AofD {n d f : Nat} (h : dw_At X R G r m w s yy n) (hd : d < m) (hf : f < 3) : M_ofDune (dw_mk X R G S N y) 0 (nI d) (nI f) = some (dw_mk X R G S N y, dw_fg (dw_T w (dw_gJ X 6) s yy n) d (3 + f)) := by
  have hm6 := h.1.2.2.2.2
  obtain ⟨i3, i4, i5, i6, _, _⟩ := h.2.2.2.2.2 d hd
  have h01 := (dw_TWF (w := w) (cl := dw_gJ X 6) (yy := yy) h.2.1 n d (by omega)).2.2
  unfold M_ofDune dw_fg
  repeat (first | with_reducible rw [bnd_s] | with_reducible rw [nmd_s] | with_reducible rw [bn2_s] | with_reducible rw [grd_t] | ((conv => arg 1; arg 1; simp (disch := omega) only [dw_is, dw_f0, dw_t0, dw_f9, dw_t9, dw_f12, dw_t12, dw_f13, dw_t13, dw_f14, dw_t14, dw_f22, dw_t22, dw_f23, dw_t23, dw_f24, dw_t24, dw_f25, dw_t25, dw_f28, dw_t28, dw_f29, dw_t29, dw_f30, dw_t30, dw_f35, dw_t35, dw_f7, dw_t7, dw_f5, dw_t5, dw_f6, dw_t6, dw_f1, dw_f2, dw_f3, dw_f4, dw_f8, dw_f10, dw_f11, dw_f15, dw_f16, dw_f17, dw_f18, dw_f19, dw_f20, dw_f21, dw_f26, dw_f27, dw_f31, dw_f32, dw_f33, dw_f34, dw_a1, dw_w1, dw_a2, dw_w2, dw_a3, dw_w3, dw_a4, dw_w4, dw_a5, dw_w5, dw_a6, dw_w6, dw_a7, dw_w7, dw_a8, dw_w8, dw_a9_0, dw_s9_0, dw_a9_1, dw_s9_1, dw_a10, dw_w10, dw_a10_0, dw_w10_0, dw_a10_1, dw_w10_1, dw_a10_2, dw_w10_2, dw_a11, dw_w11, dw_a12, dw_w12, dw_a13, dw_w13, dw_a14, dw_w14, dw_a15, dw_w15, dw_a16, dw_w16, dw_a17, dw_w17, dw_a17_0, dw_w17_0, dw_a18, dw_w18, dw_a18_0, dw_w18_0, dw_a18_1, dw_w18_1, dw_a18_2, dw_w18_2, dw_a18_3, dw_w18_3, dw_a18_4, dw_w18_4, dw_a18_5, dw_w18_5, dw_a19, dw_w19, dw_a19_24, dw_w19_24, dw_a20, dw_w20, i6]); first | with_reducible rw [bnd_s] | with_reducible rw [bn2_s] | with_reducible rw [grd_t]))
  rcases h01 with c | c
  · rw [if_neg (by rw [c]; decide), if_pos c]
    repeat (first | with_reducible rw [bnd_s] | with_reducible rw [nmd_s] | with_reducible rw [bn2_s] | with_reducible rw [grd_t] | ((conv => arg 1; arg 1; simp (disch := omega) only [dw_is, dw_f0, dw_t0, dw_f9, dw_t9, dw_f12, dw_t12, dw_f13, dw_t13, dw_f14, dw_t14, dw_f22, dw_t22, dw_f23, dw_t23, dw_f24, dw_t24, dw_f25, dw_t25, dw_f28, dw_t28, dw_f29, dw_t29, dw_f30, dw_t30, dw_f35, dw_t35, dw_f7, dw_t7, dw_f5, dw_t5, dw_f6, dw_t6, dw_f1, dw_f2, dw_f3, dw_f4, dw_f8, dw_f10, dw_f11, dw_f15, dw_f16, dw_f17, dw_f18, dw_f19, dw_f20, dw_f21, dw_f26, dw_f27, dw_f31, dw_f32, dw_f33, dw_f34, dw_a1, dw_w1, dw_a2, dw_w2, dw_a3, dw_w3, dw_a4, dw_w4, dw_a5, dw_w5, dw_a6, dw_w6, dw_a7, dw_w7, dw_a8, dw_w8, dw_a9_0, dw_s9_0, dw_a9_1, dw_s9_1, dw_a10, dw_w10, dw_a10_0, dw_w10_0, dw_a10_1, dw_w10_1, dw_a10_2, dw_w10_2, dw_a11, dw_w11, dw_a12, dw_w12, dw_a13, dw_w13, dw_a14, dw_w14, dw_a15, dw_w15, dw_a16, dw_w16, dw_a17, dw_w17, dw_a17_0, dw_w17_0, dw_a18, dw_w18, dw_a18_0, dw_w18_0, dw_a18_1, dw_w18_1, dw_a18_2, dw_w18_2, dw_a18_3, dw_w18_3, dw_a18_4, dw_w18_4, dw_a18_5, dw_w18_5, dw_a19, dw_w19, dw_a19_24, dw_w19_24, dw_a20, dw_w20, dw_3, nI_add]); first | with_reducible rw [bnd_s] | with_reducible rw [bn2_s] | with_reducible rw [grd_t]))
    rcases (by omega : f = 0 ∨ f = 1 ∨ f = 2) with rfl | rfl | rfl
    · rw [← i3]; rfl
    · rw [← i4]
    · rw [← i5]
  · rw [if_pos c, if_neg (by rw [c]; decide)]
theorem dw_AofD0 {n d : Nat} (h : dw_At X R G r m w s yy n) (hd : d < m) : M_ofDune (dw_mk X R G S N y) 0 (nI d) 0 = some (dw_mk X R G S N y, dw_fg (dw_T w (dw_gJ X 6) s yy n) d 3) := dw_AofD (f := 0) h hd (by decide)
theorem dw_AofD2 {n d : Nat} (h : dw_At X R G r m w s yy n) (hd : d < m) : M_ofDune (dw_mk X R G S N y) 0 (nI d) 2 = some (dw_mk X R G S N y, dw_fg (dw_T w (dw_gJ X 6) s yy n) d 5) := dw_AofD (f := 2) h hd (by decide)
theorem dw_AisD {a : Int32} (hC : dw_Ctx X r m w) (hD : dw_Dead m s) (hr : dw_Rel s m X R G) : (dw_st s a 6 = none ∧ M_isDune (dw_mk X R G S N y) 0 a = some (dw_mk X R G S N y, 0)) ∨ ∃ j, j < m ∧ a = nI j ∧ s j 6 = 0 ∧ dw_st s a 6 = some j ∧ M_isDune (dw_mk X R G S N y) 0 a = some (dw_mk X R G S N y, 1) := by
  rcases dw_MisDune (R := R) (G := G) (S := S) (N := N) (y := y) (d := a) hC.2.2.2.1 hC.2.2.2.2 with ⟨e, h⟩ | ⟨j, h1, h2, h3, e⟩
  · refine Or.inl ⟨dw_st_none ?_, e⟩
    intro j hj ha
    by_cases c : j < m
    · rw [← (hr j c).2.2.2.1]
      exact h j c ha
    · rw [hD j (by omega) hj]
      decide
  · have h6 := (hr j h1).2.2.2.1
    rw [h3] at h6
    have hm6 := hC.2.2.2.2
    refine Or.inr ⟨j, h1, h2, h6.symm, ?_, e⟩
    rw [h2]
    exact dw_st_some h6.symm (by omega) (by decide)
theorem dw_Agoes (h : dw_TH X R G r m w s yy) {n : Nat} (hn : n ≤ 40) : ∃ R' G' S' N', M_goes (dw_mk X R G S N (nI yy)) 0 (nI n) = some (dw_mk X R' G' S' N' (nI (yy + n)), dw_F w (dw_gJ X 6) (dw_gJ X 5) s yy n) ∧ dw_At X R' G' r m w s yy n := by
  obtain ⟨R1, G1, S1, N1, e1, hr1⟩ := dw_Mgoes (S := S) (N := N) h.1 h.2.1 h.2.2.1 hn h.2.2.2.1 h.2.2.2.2.1 h.2.2.2.2.2
  exact ⟨R1, G1, S1, N1, e1, h.1, h.2.1, h.2.2.1, h.2.2.2.1, h.2.2.2.2.1, hr1⟩
theorem dw_Mlayd {α : Type} {X1 : dw_X} {R2 G2 : Nat → Int32} {y2 : Int32} (e : dw_Eq X X1) (k : dw_Kept X1 R G y) (v : α) : dw_Bk (bn2 (M_lays (dw_mk X1 R2 G2 S N y2) 0) fun h _ => some (h, v)) X R G y v := by
  obtain ⟨R', G', e1, e2, e3⟩ := dw_Mlays (X := X1) (R := R2) (G := G2) (S := S) (N := N) (y := y2) k
  rw [e1, bn2_s]
  exact ⟨X1, R', G', S, N, rfl, e, e2, e3⟩
/-- years on end, and back -/
theorem dw_Mbn (h : dw_TH X R G r m w s yy) {n : Nat} (hn : n ≤ 40) : dw_Bk (M_buriedNow (dw_mk X R G S N (nI yy)) 0 (nI n)) X R G (nI yy) (dw_F w (dw_gJ X 6) (dw_gJ X 5) s yy n) := by
  rw [M_buriedNow]
  obtain ⟨X1, e1, e2, e3⟩ := dw_Mkeeps (X := X) (R := R) (G := G) (S := S) (N := N) (y := nI yy)
  obtain ⟨R2, G2, S2, N2, e4, h4⟩ := dw_Agoes (S := S) (N := N) (dw_TH_Eq h e2 (fun _ _ => rfl) (fun _ _ => rfl)) hn
  repeat (first | with_reducible rw [bnd_s] | with_reducible rw [nmd_s] | with_reducible rw [bn2_s] | with_reducible rw [grd_t] | ((conv => arg 1; arg 1; simp (disch := omega) only [dw_is, dw_f0, dw_t0, dw_f9, dw_t9, dw_f12, dw_t12, dw_f13, dw_t13, dw_f14, dw_t14, dw_f22, dw_t22, dw_f23, dw_t23, dw_f24, dw_t24, dw_f25, dw_t25, dw_f28, dw_t28, dw_f29, dw_t29, dw_f30, dw_t30, dw_f35, dw_t35, dw_f7, dw_t7, dw_f5, dw_t5, dw_f6, dw_t6, dw_f1, dw_f2, dw_f3, dw_f4, dw_f8, dw_f10, dw_f11, dw_f15, dw_f16, dw_f17, dw_f18, dw_f19, dw_f20, dw_f21, dw_f26, dw_f27, dw_f31, dw_f32, dw_f33, dw_f34, dw_a1, dw_w1, dw_a2, dw_w2, dw_a3, dw_w3, dw_a4, dw_w4, dw_a5, dw_w5, dw_a6, dw_w6, dw_a7, dw_w7, dw_a8, dw_w8, dw_a9_0, dw_s9_0, dw_a9_1, dw_s9_1, dw_a10, dw_w10, dw_a10_0, dw_w10_0, dw_a10_1, dw_w10_1, dw_a10_2, dw_w10_2, dw_a11, dw_w11, dw_a12, dw_w12, dw_a13, dw_w13, dw_a14, dw_w14, dw_a15, dw_w15, dw_a16, dw_w16, dw_a17, dw_w17, dw_a17_0, dw_w17_0, dw_a18, dw_w18, dw_a18_0, dw_w18_0, dw_a18_1, dw_w18_1, dw_a18_2, dw_w18_2, dw_a18_3, dw_w18_3, dw_a18_4, dw_w18_4, dw_a18_5, dw_w18_5, dw_a19, dw_w19, dw_a19_24, dw_w19_24, dw_a20, dw_w20, e1, e4]); first | with_reducible rw [bnd_s] | with_reducible rw [bn2_s] | with_reducible rw [grd_t]))
  rw [← e2.2.1 5, ← e2.2.1 6]
  exact dw_Mlayd e2 e3 _
def dw_qrun (w : dw_W) (cl ho : Int64) (s : dw_L) (yy : Nat) (a b : Int32) : Int32 := if dw_in b 0 2 = 0 then (match dw_st s (b - 10) 6 with | some j => if dw_in a 0 40 = 0 then -2 else dw_fg (dw_T w cl s yy (dw_N a)) j 3 | none => match dw_st s (b - 20) 6 with | some j => if dw_in a 0 40 = 0 then -2 else dw_fg (dw_T w cl s yy (dw_N a)) j 5 | none => -2) else if dw_in a 0 40 = 0 then -2 else if b = 0 then dw_live (dw_T w cl s yy (dw_N a)) 6 else if b = 1 then dw_bur ho (dw_T w cl s yy (dw_N a)) else dw_F w cl ho s yy (dw_N a)
theorem dw_plus {a b : Int32} {j n : Nat} (hb : b = nI n) (h : a - b = nI j) : a = nI (j + n) := by
  have h2 : a = a - b + b := (Int32.sub_add_cancel a b).symm
  rw [h2, h, hb, nI_add]
theorem dw_bd_in : ∀ j, j < 6 → dw_bd (nI j) 0 5 = nI j := by decide
theorem dw_Mrun36 (h : dw_TH X R G r m w s yy) {a b g v : Int32} (hv : ¬ g = 0 → v = if b = 0 then dw_live (dw_T w (dw_gJ X 6) s yy (dw_N a)) 6 else if b = 1 then dw_bur (dw_gJ X 5) (dw_T w (dw_gJ X 6) s yy (dw_N a)) else if b = 2 then dw_F w (dw_gJ X 6) (dw_gJ X 5) s yy (dw_N a) else if 20 ≤ b then dw_fg (dw_T w (dw_gJ X 6) s yy (dw_N a)) (dw_N (b - 20)) 5 else dw_fg (dw_T w (dw_gJ X 6) s yy (dw_N a)) (dw_N (b - 10)) 3) (hb : ¬ g = 0 → ¬ b = 0 → ¬ b = 1 → ¬ b = 2 → ∃ j, j < m ∧ b - (if 20 ≤ b then 20 else 10) = nI j) : dw_Bk (M_run_36 (dw_mk X R G S N (nI yy)) 0 a b g) X R G (nI yy) (if g = 0 then -2 else if dw_in a 0 40 = 0 then -2 else v) := by
  have hm6 := h.1.2.2.2.2
  rw [M_run_36]
  repeat (first | with_reducible rw [bnd_s] | with_reducible rw [nmd_s] | with_reducible rw [bn2_s] | with_reducible rw [grd_t] | ((conv => arg 1; arg 1; simp (disch := omega) only [dw_is, dw_f0, dw_t0, dw_f9, dw_t9, dw_f12, dw_t12, dw_f13, dw_t13, dw_f14, dw_t14, dw_f22, dw_t22, dw_f23, dw_t23, dw_f24, dw_t24, dw_f25, dw_t25, dw_f28, dw_t28, dw_f29, dw_t29, dw_f30, dw_t30, dw_f35, dw_t35, dw_f7, dw_t7, dw_f5, dw_t5, dw_f6, dw_t6, dw_f1, dw_f2, dw_f3, dw_f4, dw_f8, dw_f10, dw_f11, dw_f15, dw_f16, dw_f17, dw_f18, dw_f19, dw_f20, dw_f21, dw_f26, dw_f27, dw_f31, dw_f32, dw_f33, dw_f34, dw_a1, dw_w1, dw_a2, dw_w2, dw_a3, dw_w3, dw_a4, dw_w4, dw_a5, dw_w5, dw_a6, dw_w6, dw_a7, dw_w7, dw_a8, dw_w8, dw_a9_0, dw_s9_0, dw_a9_1, dw_s9_1, dw_a10, dw_w10, dw_a10_0, dw_w10_0, dw_a10_1, dw_w10_1, dw_a10_2, dw_w10_2, dw_a11, dw_w11, dw_a12, dw_w12, dw_a13, dw_w13, dw_a14, dw_w14, dw_a15, dw_w15, dw_a16, dw_w16, dw_a17, dw_w17, dw_a17_0, dw_w17_0, dw_a18, dw_w18, dw_a18_0, dw_w18_0, dw_a18_1, dw_w18_1, dw_a18_2, dw_w18_2, dw_a18_3, dw_w18_3, dw_a18_4, dw_w18_4, dw_a18_5, dw_w18_5, dw_a19, dw_w19, dw_a19_24, dw_w19_24, dw_a20, dw_w20, dw_Min]); first | with_reducible rw [bnd_s] | with_reducible rw [bn2_s] | with_reducible rw [grd_t]))
  by_cases c1 : dw_in a 0 40 = 0
  · rw [if_pos c1, if_pos c1, ite_self]
    exact dw_Bk_id
  rw [if_neg c1, if_neg c1]
  by_cases c2 : g = 0
  · rw [if_pos c2, if_pos c2]
    exact dw_Bk_id
  rw [if_neg c2, if_neg c2]
  have hv := hv c2
  have hb := hb c2
  obtain ⟨n, hn, rfl⟩ := dw_in_of (n := 40) rfl c1
  rw [dw_N_nI (by omega)] at hv
  obtain ⟨X1, e1, e2, e3⟩ := dw_Mkeeps (X := X) (R := R) (G := G) (S := S) (N := N) (y := nI yy)
  obtain ⟨R2, G2, S2, N2, e4, h4⟩ := dw_Agoes (S := S) (N := N) (dw_TH_Eq h e2 (fun _ _ => rfl) (fun _ _ => rfl)) hn
  repeat (first | with_reducible rw [bnd_s] | with_reducible rw [nmd_s] | with_reducible rw [bn2_s] | with_reducible rw [grd_t] | ((conv => arg 1; arg 1; simp (disch := omega) only [dw_is, dw_f0, dw_t0, dw_f9, dw_t9, dw_f12, dw_t12, dw_f13, dw_t13, dw_f14, dw_t14, dw_f22, dw_t22, dw_f23, dw_t23, dw_f24, dw_t24, dw_f25, dw_t25, dw_f28, dw_t28, dw_f29, dw_t29, dw_f30, dw_t30, dw_f35, dw_t35, dw_f7, dw_t7, dw_f5, dw_t5, dw_f6, dw_t6, dw_f1, dw_f2, dw_f3, dw_f4, dw_f8, dw_f10, dw_f11, dw_f15, dw_f16, dw_f17, dw_f18, dw_f19, dw_f20, dw_f21, dw_f26, dw_f27, dw_f31, dw_f32, dw_f33, dw_f34, dw_a1, dw_w1, dw_a2, dw_w2, dw_a3, dw_w3, dw_a4, dw_w4, dw_a5, dw_w5, dw_a6, dw_w6, dw_a7, dw_w7, dw_a8, dw_w8, dw_a9_0, dw_s9_0, dw_a9_1, dw_s9_1, dw_a10, dw_w10, dw_a10_0, dw_w10_0, dw_a10_1, dw_w10_1, dw_a10_2, dw_w10_2, dw_a11, dw_w11, dw_a12, dw_w12, dw_a13, dw_w13, dw_a14, dw_w14, dw_a15, dw_w15, dw_a16, dw_w16, dw_a17, dw_w17, dw_a17_0, dw_w17_0, dw_a18, dw_w18, dw_a18_0, dw_w18_0, dw_a18_1, dw_w18_1, dw_a18_2, dw_w18_2, dw_a18_3, dw_w18_3, dw_a18_4, dw_w18_4, dw_a18_5, dw_w18_5, dw_a19, dw_w19, dw_a19_24, dw_w19_24, dw_a20, dw_w20, e1, e4]); first | with_reducible rw [bnd_s] | with_reducible rw [bn2_s] | with_reducible rw [grd_t]))
  rw [← e2.2.1 5, ← e2.2.1 6] at hv
  by_cases b0 : b = 0
  · rw [if_pos b0, hv, if_pos b0]
    repeat (first | with_reducible rw [bnd_s] | with_reducible rw [nmd_s] | with_reducible rw [bn2_s] | with_reducible rw [grd_t] | ((conv => arg 1; arg 1; simp (disch := omega) only [dw_is, dw_f0, dw_t0, dw_f9, dw_t9, dw_f12, dw_t12, dw_f13, dw_t13, dw_f14, dw_t14, dw_f22, dw_t22, dw_f23, dw_t23, dw_f24, dw_t24, dw_f25, dw_t25, dw_f28, dw_t28, dw_f29, dw_t29, dw_f30, dw_t30, dw_f35, dw_t35, dw_f7, dw_t7, dw_f5, dw_t5, dw_f6, dw_t6, dw_f1, dw_f2, dw_f3, dw_f4, dw_f8, dw_f10, dw_f11, dw_f15, dw_f16, dw_f17, dw_f18, dw_f19, dw_f20, dw_f21, dw_f26, dw_f27, dw_f31, dw_f32, dw_f33, dw_f34, dw_a1, dw_w1, dw_a2, dw_w2, dw_a3, dw_w3, dw_a4, dw_w4, dw_a5, dw_w5, dw_a6, dw_w6, dw_a7, dw_w7, dw_a8, dw_w8, dw_a9_0, dw_s9_0, dw_a9_1, dw_s9_1, dw_a10, dw_w10, dw_a10_0, dw_w10_0, dw_a10_1, dw_w10_1, dw_a10_2, dw_w10_2, dw_a11, dw_w11, dw_a12, dw_w12, dw_a13, dw_w13, dw_a14, dw_w14, dw_a15, dw_w15, dw_a16, dw_w16, dw_a17, dw_w17, dw_a17_0, dw_w17_0, dw_a18, dw_w18, dw_a18_0, dw_w18_0, dw_a18_1, dw_w18_1, dw_a18_2, dw_w18_2, dw_a18_3, dw_w18_3, dw_a18_4, dw_w18_4, dw_a18_5, dw_w18_5, dw_a19, dw_w19, dw_a19_24, dw_w19_24, dw_a20, dw_w20, dw_Athere h4]); first | with_reducible rw [bnd_s] | with_reducible rw [bn2_s] | with_reducible rw [grd_t]))
    rw [M_run_164]
    repeat (first | with_reducible rw [bnd_s] | with_reducible rw [nmd_s] | with_reducible rw [bn2_s] | with_reducible rw [grd_t] | ((conv => arg 1; arg 1; simp (disch := omega) only [dw_is, dw_f0, dw_t0, dw_f9, dw_t9, dw_f12, dw_t12, dw_f13, dw_t13, dw_f14, dw_t14, dw_f22, dw_t22, dw_f23, dw_t23, dw_f24, dw_t24, dw_f25, dw_t25, dw_f28, dw_t28, dw_f29, dw_t29, dw_f30, dw_t30, dw_f35, dw_t35, dw_f7, dw_t7, dw_f5, dw_t5, dw_f6, dw_t6, dw_f1, dw_f2, dw_f3, dw_f4, dw_f8, dw_f10, dw_f11, dw_f15, dw_f16, dw_f17, dw_f18, dw_f19, dw_f20, dw_f21, dw_f26, dw_f27, dw_f31, dw_f32, dw_f33, dw_f34, dw_a1, dw_w1, dw_a2, dw_w2, dw_a3, dw_w3, dw_a4, dw_w4, dw_a5, dw_w5, dw_a6, dw_w6, dw_a7, dw_w7, dw_a8, dw_w8, dw_a9_0, dw_s9_0, dw_a9_1, dw_s9_1, dw_a10, dw_w10, dw_a10_0, dw_w10_0, dw_a10_1, dw_w10_1, dw_a10_2, dw_w10_2, dw_a11, dw_w11, dw_a12, dw_w12, dw_a13, dw_w13, dw_a14, dw_w14, dw_a15, dw_w15, dw_a16, dw_w16, dw_a17, dw_w17, dw_a17_0, dw_w17_0, dw_a18, dw_w18, dw_a18_0, dw_w18_0, dw_a18_1, dw_w18_1, dw_a18_2, dw_w18_2, dw_a18_3, dw_w18_3, dw_a18_4, dw_w18_4, dw_a18_5, dw_w18_5, dw_a19, dw_w19, dw_a19_24, dw_w19_24, dw_a20, dw_w20]); first | with_reducible rw [bnd_s] | with_reducible rw [bn2_s] | with_reducible rw [grd_t]))
    exact dw_Mlayd e2 e3 _
  rw [if_neg b0]
  rw [if_neg b0] at hv
  by_cases b1 : b = 1
  · rw [if_pos b1, hv, if_pos b1]
    repeat (first | with_reducible rw [bnd_s] | with_reducible rw [nmd_s] | with_reducible rw [bn2_s] | with_reducible rw [grd_t] | ((conv => arg 1; arg 1; simp (disch := omega) only [dw_is, dw_f0, dw_t0, dw_f9, dw_t9, dw_f12, dw_t12, dw_f13, dw_t13, dw_f14, dw_t14, dw_f22, dw_t22, dw_f23, dw_t23, dw_f24, dw_t24, dw_f25, dw_t25, dw_f28, dw_t28, dw_f29, dw_t29, dw_f30, dw_t30, dw_f35, dw_t35, dw_f7, dw_t7, dw_f5, dw_t5, dw_f6, dw_t6, dw_f1, dw_f2, dw_f3, dw_f4, dw_f8, dw_f10, dw_f11, dw_f15, dw_f16, dw_f17, dw_f18, dw_f19, dw_f20, dw_f21, dw_f26, dw_f27, dw_f31, dw_f32, dw_f33, dw_f34, dw_a1, dw_w1, dw_a2, dw_w2, dw_a3, dw_w3, dw_a4, dw_w4, dw_a5, dw_w5, dw_a6, dw_w6, dw_a7, dw_w7, dw_a8, dw_w8, dw_a9_0, dw_s9_0, dw_a9_1, dw_s9_1, dw_a10, dw_w10, dw_a10_0, dw_w10_0, dw_a10_1, dw_w10_1, dw_a10_2, dw_w10_2, dw_a11, dw_w11, dw_a12, dw_w12, dw_a13, dw_w13, dw_a14, dw_w14, dw_a15, dw_w15, dw_a16, dw_w16, dw_a17, dw_w17, dw_a17_0, dw_w17_0, dw_a18, dw_w18, dw_a18_0, dw_w18_0, dw_a18_1, dw_w18_1, dw_a18_2, dw_w18_2, dw_a18_3, dw_w18_3, dw_a18_4, dw_w18_4, dw_a18_5, dw_w18_5, dw_a19, dw_w19, dw_a19_24, dw_w19_24, dw_a20, dw_w20, dw_Asand h4, dw_Abur h4]); first | with_reducible rw [bnd_s] | with_reducible rw [bn2_s] | with_reducible rw [grd_t]))
    rw [M_run_164]
    repeat (first | with_reducible rw [bnd_s] | with_reducible rw [nmd_s] | with_reducible rw [bn2_s] | with_reducible rw [grd_t] | ((conv => arg 1; arg 1; simp (disch := omega) only [dw_is, dw_f0, dw_t0, dw_f9, dw_t9, dw_f12, dw_t12, dw_f13, dw_t13, dw_f14, dw_t14, dw_f22, dw_t22, dw_f23, dw_t23, dw_f24, dw_t24, dw_f25, dw_t25, dw_f28, dw_t28, dw_f29, dw_t29, dw_f30, dw_t30, dw_f35, dw_t35, dw_f7, dw_t7, dw_f5, dw_t5, dw_f6, dw_t6, dw_f1, dw_f2, dw_f3, dw_f4, dw_f8, dw_f10, dw_f11, dw_f15, dw_f16, dw_f17, dw_f18, dw_f19, dw_f20, dw_f21, dw_f26, dw_f27, dw_f31, dw_f32, dw_f33, dw_f34, dw_a1, dw_w1, dw_a2, dw_w2, dw_a3, dw_w3, dw_a4, dw_w4, dw_a5, dw_w5, dw_a6, dw_w6, dw_a7, dw_w7, dw_a8, dw_w8, dw_a9_0, dw_s9_0, dw_a9_1, dw_s9_1, dw_a10, dw_w10, dw_a10_0, dw_w10_0, dw_a10_1, dw_w10_1, dw_a10_2, dw_w10_2, dw_a11, dw_w11, dw_a12, dw_w12, dw_a13, dw_w13, dw_a14, dw_w14, dw_a15, dw_w15, dw_a16, dw_w16, dw_a17, dw_w17, dw_a17_0, dw_w17_0, dw_a18, dw_w18, dw_a18_0, dw_w18_0, dw_a18_1, dw_w18_1, dw_a18_2, dw_w18_2, dw_a18_3, dw_w18_3, dw_a18_4, dw_w18_4, dw_a18_5, dw_w18_5, dw_a19, dw_w19, dw_a19_24, dw_w19_24, dw_a20, dw_w20]); first | with_reducible rw [bnd_s] | with_reducible rw [bn2_s] | with_reducible rw [grd_t]))
    exact dw_Mlayd e2 e3 _
  rw [if_neg b1]
  rw [if_neg b1] at hv
  by_cases b2 : b = 2
  · rw [if_pos b2, hv, if_pos b2, M_run_164]
    repeat (first | with_reducible rw [bnd_s] | with_reducible rw [nmd_s] | with_reducible rw [bn2_s] | with_reducible rw [grd_t] | ((conv => arg 1; arg 1; simp (disch := omega) only [dw_is, dw_f0, dw_t0, dw_f9, dw_t9, dw_f12, dw_t12, dw_f13, dw_t13, dw_f14, dw_t14, dw_f22, dw_t22, dw_f23, dw_t23, dw_f24, dw_t24, dw_f25, dw_t25, dw_f28, dw_t28, dw_f29, dw_t29, dw_f30, dw_t30, dw_f35, dw_t35, dw_f7, dw_t7, dw_f5, dw_t5, dw_f6, dw_t6, dw_f1, dw_f2, dw_f3, dw_f4, dw_f8, dw_f10, dw_f11, dw_f15, dw_f16, dw_f17, dw_f18, dw_f19, dw_f20, dw_f21, dw_f26, dw_f27, dw_f31, dw_f32, dw_f33, dw_f34, dw_a1, dw_w1, dw_a2, dw_w2, dw_a3, dw_w3, dw_a4, dw_w4, dw_a5, dw_w5, dw_a6, dw_w6, dw_a7, dw_w7, dw_a8, dw_w8, dw_a9_0, dw_s9_0, dw_a9_1, dw_s9_1, dw_a10, dw_w10, dw_a10_0, dw_w10_0, dw_a10_1, dw_w10_1, dw_a10_2, dw_w10_2, dw_a11, dw_w11, dw_a12, dw_w12, dw_a13, dw_w13, dw_a14, dw_w14, dw_a15, dw_w15, dw_a16, dw_w16, dw_a17, dw_w17, dw_a17_0, dw_w17_0, dw_a18, dw_w18, dw_a18_0, dw_w18_0, dw_a18_1, dw_w18_1, dw_a18_2, dw_w18_2, dw_a18_3, dw_w18_3, dw_a18_4, dw_w18_4, dw_a18_5, dw_w18_5, dw_a19, dw_w19, dw_a19_24, dw_w19_24, dw_a20, dw_w20]); first | with_reducible rw [bnd_s] | with_reducible rw [bn2_s] | with_reducible rw [grd_t]))
    exact dw_Mlayd e2 e3 _
  rw [if_neg b2]
  rw [if_neg b2] at hv
  obtain ⟨j, hj, hbj⟩ := hb b0 b1 b2
  by_cases b20 : 20 ≤ b
  · rw [if_pos b20] at hv hbj ⊢
    rw [hbj, dw_N_nI (by omega)] at hv
    repeat (first | with_reducible rw [bnd_s] | with_reducible rw [nmd_s] | with_reducible rw [bn2_s] | with_reducible rw [grd_t] | ((conv => arg 1; arg 1; simp (disch := omega) only [dw_is, dw_f0, dw_t0, dw_f9, dw_t9, dw_f12, dw_t12, dw_f13, dw_t13, dw_f14, dw_t14, dw_f22, dw_t22, dw_f23, dw_t23, dw_f24, dw_t24, dw_f25, dw_t25, dw_f28, dw_t28, dw_f29, dw_t29, dw_f30, dw_t30, dw_f35, dw_t35, dw_f7, dw_t7, dw_f5, dw_t5, dw_f6, dw_t6, dw_f1, dw_f2, dw_f3, dw_f4, dw_f8, dw_f10, dw_f11, dw_f15, dw_f16, dw_f17, dw_f18, dw_f19, dw_f20, dw_f21, dw_f26, dw_f27, dw_f31, dw_f32, dw_f33, dw_f34, dw_a1, dw_w1, dw_a2, dw_w2, dw_a3, dw_w3, dw_a4, dw_w4, dw_a5, dw_w5, dw_a6, dw_w6, dw_a7, dw_w7, dw_a8, dw_w8, dw_a9_0, dw_s9_0, dw_a9_1, dw_s9_1, dw_a10, dw_w10, dw_a10_0, dw_w10_0, dw_a10_1, dw_w10_1, dw_a10_2, dw_w10_2, dw_a11, dw_w11, dw_a12, dw_w12, dw_a13, dw_w13, dw_a14, dw_w14, dw_a15, dw_w15, dw_a16, dw_w16, dw_a17, dw_w17, dw_a17_0, dw_w17_0, dw_a18, dw_w18, dw_a18_0, dw_w18_0, dw_a18_1, dw_w18_1, dw_a18_2, dw_w18_2, dw_a18_3, dw_w18_3, dw_a18_4, dw_w18_4, dw_a18_5, dw_w18_5, dw_a19, dw_w19, dw_a19_24, dw_w19_24, dw_a20, dw_w20, dw_Mbd, hbj, dw_bd_in j (by omega), dw_AofD2 h4 hj]); first | with_reducible rw [bnd_s] | with_reducible rw [bn2_s] | with_reducible rw [grd_t]))
    rw [M_run_162, M_run_164, hv]
    repeat (first | with_reducible rw [bnd_s] | with_reducible rw [nmd_s] | with_reducible rw [bn2_s] | with_reducible rw [grd_t] | ((conv => arg 1; arg 1; simp (disch := omega) only [dw_is, dw_f0, dw_t0, dw_f9, dw_t9, dw_f12, dw_t12, dw_f13, dw_t13, dw_f14, dw_t14, dw_f22, dw_t22, dw_f23, dw_t23, dw_f24, dw_t24, dw_f25, dw_t25, dw_f28, dw_t28, dw_f29, dw_t29, dw_f30, dw_t30, dw_f35, dw_t35, dw_f7, dw_t7, dw_f5, dw_t5, dw_f6, dw_t6, dw_f1, dw_f2, dw_f3, dw_f4, dw_f8, dw_f10, dw_f11, dw_f15, dw_f16, dw_f17, dw_f18, dw_f19, dw_f20, dw_f21, dw_f26, dw_f27, dw_f31, dw_f32, dw_f33, dw_f34, dw_a1, dw_w1, dw_a2, dw_w2, dw_a3, dw_w3, dw_a4, dw_w4, dw_a5, dw_w5, dw_a6, dw_w6, dw_a7, dw_w7, dw_a8, dw_w8, dw_a9_0, dw_s9_0, dw_a9_1, dw_s9_1, dw_a10, dw_w10, dw_a10_0, dw_w10_0, dw_a10_1, dw_w10_1, dw_a10_2, dw_w10_2, dw_a11, dw_w11, dw_a12, dw_w12, dw_a13, dw_w13, dw_a14, dw_w14, dw_a15, dw_w15, dw_a16, dw_w16, dw_a17, dw_w17, dw_a17_0, dw_w17_0, dw_a18, dw_w18, dw_a18_0, dw_w18_0, dw_a18_1, dw_w18_1, dw_a18_2, dw_w18_2, dw_a18_3, dw_w18_3, dw_a18_4, dw_w18_4, dw_a18_5, dw_w18_5, dw_a19, dw_w19, dw_a19_24, dw_w19_24, dw_a20, dw_w20]); first | with_reducible rw [bnd_s] | with_reducible rw [bn2_s] | with_reducible rw [grd_t]))
    exact dw_Mlayd e2 e3 _
  · rw [if_neg b20] at hv hbj ⊢
    rw [hbj, dw_N_nI (by omega)] at hv
    repeat (first | with_reducible rw [bnd_s] | with_reducible rw [nmd_s] | with_reducible rw [bn2_s] | with_reducible rw [grd_t] | ((conv => arg 1; arg 1; simp (disch := omega) only [dw_is, dw_f0, dw_t0, dw_f9, dw_t9, dw_f12, dw_t12, dw_f13, dw_t13, dw_f14, dw_t14, dw_f22, dw_t22, dw_f23, dw_t23, dw_f24, dw_t24, dw_f25, dw_t25, dw_f28, dw_t28, dw_f29, dw_t29, dw_f30, dw_t30, dw_f35, dw_t35, dw_f7, dw_t7, dw_f5, dw_t5, dw_f6, dw_t6, dw_f1, dw_f2, dw_f3, dw_f4, dw_f8, dw_f10, dw_f11, dw_f15, dw_f16, dw_f17, dw_f18, dw_f19, dw_f20, dw_f21, dw_f26, dw_f27, dw_f31, dw_f32, dw_f33, dw_f34, dw_a1, dw_w1, dw_a2, dw_w2, dw_a3, dw_w3, dw_a4, dw_w4, dw_a5, dw_w5, dw_a6, dw_w6, dw_a7, dw_w7, dw_a8, dw_w8, dw_a9_0, dw_s9_0, dw_a9_1, dw_s9_1, dw_a10, dw_w10, dw_a10_0, dw_w10_0, dw_a10_1, dw_w10_1, dw_a10_2, dw_w10_2, dw_a11, dw_w11, dw_a12, dw_w12, dw_a13, dw_w13, dw_a14, dw_w14, dw_a15, dw_w15, dw_a16, dw_w16, dw_a17, dw_w17, dw_a17_0, dw_w17_0, dw_a18, dw_w18, dw_a18_0, dw_w18_0, dw_a18_1, dw_w18_1, dw_a18_2, dw_w18_2, dw_a18_3, dw_w18_3, dw_a18_4, dw_w18_4, dw_a18_5, dw_w18_5, dw_a19, dw_w19, dw_a19_24, dw_w19_24, dw_a20, dw_w20, dw_Mbd, hbj, dw_bd_in j (by omega), dw_AofD0 h4 hj]); first | with_reducible rw [bnd_s] | with_reducible rw [bn2_s] | with_reducible rw [grd_t]))
    rw [M_run_162, M_run_164, hv]
    repeat (first | with_reducible rw [bnd_s] | with_reducible rw [nmd_s] | with_reducible rw [bn2_s] | with_reducible rw [grd_t] | ((conv => arg 1; arg 1; simp (disch := omega) only [dw_is, dw_f0, dw_t0, dw_f9, dw_t9, dw_f12, dw_t12, dw_f13, dw_t13, dw_f14, dw_t14, dw_f22, dw_t22, dw_f23, dw_t23, dw_f24, dw_t24, dw_f25, dw_t25, dw_f28, dw_t28, dw_f29, dw_t29, dw_f30, dw_t30, dw_f35, dw_t35, dw_f7, dw_t7, dw_f5, dw_t5, dw_f6, dw_t6, dw_f1, dw_f2, dw_f3, dw_f4, dw_f8, dw_f10, dw_f11, dw_f15, dw_f16, dw_f17, dw_f18, dw_f19, dw_f20, dw_f21, dw_f26, dw_f27, dw_f31, dw_f32, dw_f33, dw_f34, dw_a1, dw_w1, dw_a2, dw_w2, dw_a3, dw_w3, dw_a4, dw_w4, dw_a5, dw_w5, dw_a6, dw_w6, dw_a7, dw_w7, dw_a8, dw_w8, dw_a9_0, dw_s9_0, dw_a9_1, dw_s9_1, dw_a10, dw_w10, dw_a10_0, dw_w10_0, dw_a10_1, dw_w10_1, dw_a10_2, dw_w10_2, dw_a11, dw_w11, dw_a12, dw_w12, dw_a13, dw_w13, dw_a14, dw_w14, dw_a15, dw_w15, dw_a16, dw_w16, dw_a17, dw_w17, dw_a17_0, dw_w17_0, dw_a18, dw_w18, dw_a18_0, dw_w18_0, dw_a18_1, dw_w18_1, dw_a18_2, dw_w18_2, dw_a18_3, dw_w18_3, dw_a18_4, dw_w18_4, dw_a18_5, dw_w18_5, dw_a19, dw_w19, dw_a19_24, dw_w19_24, dw_a20, dw_w20]); first | with_reducible rw [bnd_s] | with_reducible rw [bn2_s] | with_reducible rw [grd_t]))
    exact dw_Mlayd e2 e3 _
theorem dw_Mrun (h : dw_TH X R G r m w s yy) (a b : Int32) : dw_Bk (M_run (dw_mk X R G S N (nI yy)) 0 a b) X R G (nI yy) (dw_qrun w (dw_gJ X 6) (dw_gJ X 5) s yy a b) := by
  rw [M_run, dw_qrun]
  repeat (first | with_reducible rw [bnd_s] | with_reducible rw [nmd_s] | with_reducible rw [bn2_s] | with_reducible rw [grd_t] | ((conv => arg 1; arg 1; simp (disch := omega) only [dw_is, dw_f0, dw_t0, dw_f9, dw_t9, dw_f12, dw_t12, dw_f13, dw_t13, dw_f14, dw_t14, dw_f22, dw_t22, dw_f23, dw_t23, dw_f24, dw_t24, dw_f25, dw_t25, dw_f28, dw_t28, dw_f29, dw_t29, dw_f30, dw_t30, dw_f35, dw_t35, dw_f7, dw_t7, dw_f5, dw_t5, dw_f6, dw_t6, dw_f1, dw_f2, dw_f3, dw_f4, dw_f8, dw_f10, dw_f11, dw_f15, dw_f16, dw_f17, dw_f18, dw_f19, dw_f20, dw_f21, dw_f26, dw_f27, dw_f31, dw_f32, dw_f33, dw_f34, dw_a1, dw_w1, dw_a2, dw_w2, dw_a3, dw_w3, dw_a4, dw_w4, dw_a5, dw_w5, dw_a6, dw_w6, dw_a7, dw_w7, dw_a8, dw_w8, dw_a9_0, dw_s9_0, dw_a9_1, dw_s9_1, dw_a10, dw_w10, dw_a10_0, dw_w10_0, dw_a10_1, dw_w10_1, dw_a10_2, dw_w10_2, dw_a11, dw_w11, dw_a12, dw_w12, dw_a13, dw_w13, dw_a14, dw_w14, dw_a15, dw_w15, dw_a16, dw_w16, dw_a17, dw_w17, dw_a17_0, dw_w17_0, dw_a18, dw_w18, dw_a18_0, dw_w18_0, dw_a18_1, dw_w18_1, dw_a18_2, dw_w18_2, dw_a18_3, dw_w18_3, dw_a18_4, dw_w18_4, dw_a18_5, dw_w18_5, dw_a19, dw_w19, dw_a19_24, dw_w19_24, dw_a20, dw_w20, dw_Min]); first | with_reducible rw [bnd_s] | with_reducible rw [bn2_s] | with_reducible rw [grd_t]))
  by_cases c : dw_in b 0 2 = 0
  · rw [if_pos c, if_pos c]
    have hm6 := h.1.2.2.2.2
    rcases dw_AisD (S := S) (N := N) (y := nI yy) (a := b - 10) h.1 h.2.2.1 h.2.2.2.2.2 with ⟨e1, e2⟩ | ⟨j, h1, h2, h3, e1, e2⟩
    · rw [e1]
      repeat (first | with_reducible rw [bnd_s] | with_reducible rw [nmd_s] | with_reducible rw [bn2_s] | with_reducible rw [grd_t] | ((conv => arg 1; arg 1; simp (disch := omega) only [dw_is, dw_f0, dw_t0, dw_f9, dw_t9, dw_f12, dw_t12, dw_f13, dw_t13, dw_f14, dw_t14, dw_f22, dw_t22, dw_f23, dw_t23, dw_f24, dw_t24, dw_f25, dw_t25, dw_f28, dw_t28, dw_f29, dw_t29, dw_f30, dw_t30, dw_f35, dw_t35, dw_f7, dw_t7, dw_f5, dw_t5, dw_f6, dw_t6, dw_f1, dw_f2, dw_f3, dw_f4, dw_f8, dw_f10, dw_f11, dw_f15, dw_f16, dw_f17, dw_f18, dw_f19, dw_f20, dw_f21, dw_f26, dw_f27, dw_f31, dw_f32, dw_f33, dw_f34, dw_a1, dw_w1, dw_a2, dw_w2, dw_a3, dw_w3, dw_a4, dw_w4, dw_a5, dw_w5, dw_a6, dw_w6, dw_a7, dw_w7, dw_a8, dw_w8, dw_a9_0, dw_s9_0, dw_a9_1, dw_s9_1, dw_a10, dw_w10, dw_a10_0, dw_w10_0, dw_a10_1, dw_w10_1, dw_a10_2, dw_w10_2, dw_a11, dw_w11, dw_a12, dw_w12, dw_a13, dw_w13, dw_a14, dw_w14, dw_a15, dw_w15, dw_a16, dw_w16, dw_a17, dw_w17, dw_a17_0, dw_w17_0, dw_a18, dw_w18, dw_a18_0, dw_w18_0, dw_a18_1, dw_w18_1, dw_a18_2, dw_w18_2, dw_a18_3, dw_w18_3, dw_a18_4, dw_w18_4, dw_a18_5, dw_w18_5, dw_a19, dw_w19, dw_a19_24, dw_w19_24, dw_a20, dw_w20, e2]); first | with_reducible rw [bnd_s] | with_reducible rw [bn2_s] | with_reducible rw [grd_t]))
      rw [if_pos rfl]
      rcases dw_AisD (S := S) (N := N) (y := nI yy) (a := b - 20) h.1 h.2.2.1 h.2.2.2.2.2 with ⟨f1, f2⟩ | ⟨j, h1, h2, h3, f1, f2⟩
      · rw [f1]
        repeat (first | with_reducible rw [bnd_s] | with_reducible rw [nmd_s] | with_reducible rw [bn2_s] | with_reducible rw [grd_t] | ((conv => arg 1; arg 1; simp (disch := omega) only [dw_is, dw_f0, dw_t0, dw_f9, dw_t9, dw_f12, dw_t12, dw_f13, dw_t13, dw_f14, dw_t14, dw_f22, dw_t22, dw_f23, dw_t23, dw_f24, dw_t24, dw_f25, dw_t25, dw_f28, dw_t28, dw_f29, dw_t29, dw_f30, dw_t30, dw_f35, dw_t35, dw_f7, dw_t7, dw_f5, dw_t5, dw_f6, dw_t6, dw_f1, dw_f2, dw_f3, dw_f4, dw_f8, dw_f10, dw_f11, dw_f15, dw_f16, dw_f17, dw_f18, dw_f19, dw_f20, dw_f21, dw_f26, dw_f27, dw_f31, dw_f32, dw_f33, dw_f34, dw_a1, dw_w1, dw_a2, dw_w2, dw_a3, dw_w3, dw_a4, dw_w4, dw_a5, dw_w5, dw_a6, dw_w6, dw_a7, dw_w7, dw_a8, dw_w8, dw_a9_0, dw_s9_0, dw_a9_1, dw_s9_1, dw_a10, dw_w10, dw_a10_0, dw_w10_0, dw_a10_1, dw_w10_1, dw_a10_2, dw_w10_2, dw_a11, dw_w11, dw_a12, dw_w12, dw_a13, dw_w13, dw_a14, dw_w14, dw_a15, dw_w15, dw_a16, dw_w16, dw_a17, dw_w17, dw_a17_0, dw_w17_0, dw_a18, dw_w18, dw_a18_0, dw_w18_0, dw_a18_1, dw_w18_1, dw_a18_2, dw_w18_2, dw_a18_3, dw_w18_3, dw_a18_4, dw_w18_4, dw_a18_5, dw_w18_5, dw_a19, dw_w19, dw_a19_24, dw_w19_24, dw_a20, dw_w20, f2]); first | with_reducible rw [bnd_s] | with_reducible rw [bn2_s] | with_reducible rw [grd_t]))
        rw [if_pos rfl]
        exact dw_Mrun36 h (g := 0) (v := 0) (fun q => absurd rfl q) (fun q => absurd rfl q)
      · rw [f1]
        repeat (first | with_reducible rw [bnd_s] | with_reducible rw [nmd_s] | with_reducible rw [bn2_s] | with_reducible rw [grd_t] | ((conv => arg 1; arg 1; simp (disch := omega) only [dw_is, dw_f0, dw_t0, dw_f9, dw_t9, dw_f12, dw_t12, dw_f13, dw_t13, dw_f14, dw_t14, dw_f22, dw_t22, dw_f23, dw_t23, dw_f24, dw_t24, dw_f25, dw_t25, dw_f28, dw_t28, dw_f29, dw_t29, dw_f30, dw_t30, dw_f35, dw_t35, dw_f7, dw_t7, dw_f5, dw_t5, dw_f6, dw_t6, dw_f1, dw_f2, dw_f3, dw_f4, dw_f8, dw_f10, dw_f11, dw_f15, dw_f16, dw_f17, dw_f18, dw_f19, dw_f20, dw_f21, dw_f26, dw_f27, dw_f31, dw_f32, dw_f33, dw_f34, dw_a1, dw_w1, dw_a2, dw_w2, dw_a3, dw_w3, dw_a4, dw_w4, dw_a5, dw_w5, dw_a6, dw_w6, dw_a7, dw_w7, dw_a8, dw_w8, dw_a9_0, dw_s9_0, dw_a9_1, dw_s9_1, dw_a10, dw_w10, dw_a10_0, dw_w10_0, dw_a10_1, dw_w10_1, dw_a10_2, dw_w10_2, dw_a11, dw_w11, dw_a12, dw_w12, dw_a13, dw_w13, dw_a14, dw_w14, dw_a15, dw_w15, dw_a16, dw_w16, dw_a17, dw_w17, dw_a17_0, dw_w17_0, dw_a18, dw_w18, dw_a18_0, dw_w18_0, dw_a18_1, dw_w18_1, dw_a18_2, dw_w18_2, dw_a18_3, dw_w18_3, dw_a18_4, dw_w18_4, dw_a18_5, dw_w18_5, dw_a19, dw_w19, dw_a19_24, dw_w19_24, dw_a20, dw_w20, f2]); first | with_reducible rw [bnd_s] | with_reducible rw [bn2_s] | with_reducible rw [grd_t]))
        have hb := dw_plus (n := 20) rfl h2
        subst hb
        rw [if_neg (by decide), M_run_31]
        have k0 : ¬ nI (j + 20) = 0 := dw_ne (b := 0) (by omega) (by omega) (by omega)
        have k1 : ¬ nI (j + 20) = 1 := dw_ne (b := 1) (by omega) (by omega) (by omega)
        have k2 : ¬ nI (j + 20) = 2 := dw_ne (b := 2) (by omega) (by omega) (by omega)
        have k20 : (20 : Int32) ≤ nI (j + 20) := nI_le (a := 20) (by omega) (by omega)
        refine dw_Mrun36 h (g := 1) (v := dw_fg (dw_T w (dw_gJ X 6) s yy (dw_N a)) j 5) (fun _ => ?_) (fun _ _ _ _ => ⟨j, h1, ?_⟩)
        · rw [if_neg k0, if_neg k1, if_neg k2, if_pos k20, h2, dw_N_nI (by omega)]
        · rw [if_pos k20, h2]
    · rw [e1]
      repeat (first | with_reducible rw [bnd_s] | with_reducible rw [nmd_s] | with_reducible rw [bn2_s] | with_reducible rw [grd_t] | ((conv => arg 1; arg 1; simp (disch := omega) only [dw_is, dw_f0, dw_t0, dw_f9, dw_t9, dw_f12, dw_t12, dw_f13, dw_t13, dw_f14, dw_t14, dw_f22, dw_t22, dw_f23, dw_t23, dw_f24, dw_t24, dw_f25, dw_t25, dw_f28, dw_t28, dw_f29, dw_t29, dw_f30, dw_t30, dw_f35, dw_t35, dw_f7, dw_t7, dw_f5, dw_t5, dw_f6, dw_t6, dw_f1, dw_f2, dw_f3, dw_f4, dw_f8, dw_f10, dw_f11, dw_f15, dw_f16, dw_f17, dw_f18, dw_f19, dw_f20, dw_f21, dw_f26, dw_f27, dw_f31, dw_f32, dw_f33, dw_f34, dw_a1, dw_w1, dw_a2, dw_w2, dw_a3, dw_w3, dw_a4, dw_w4, dw_a5, dw_w5, dw_a6, dw_w6, dw_a7, dw_w7, dw_a8, dw_w8, dw_a9_0, dw_s9_0, dw_a9_1, dw_s9_1, dw_a10, dw_w10, dw_a10_0, dw_w10_0, dw_a10_1, dw_w10_1, dw_a10_2, dw_w10_2, dw_a11, dw_w11, dw_a12, dw_w12, dw_a13, dw_w13, dw_a14, dw_w14, dw_a15, dw_w15, dw_a16, dw_w16, dw_a17, dw_w17, dw_a17_0, dw_w17_0, dw_a18, dw_w18, dw_a18_0, dw_w18_0, dw_a18_1, dw_w18_1, dw_a18_2, dw_w18_2, dw_a18_3, dw_w18_3, dw_a18_4, dw_w18_4, dw_a18_5, dw_w18_5, dw_a19, dw_w19, dw_a19_24, dw_w19_24, dw_a20, dw_w20, e2]); first | with_reducible rw [bnd_s] | with_reducible rw [bn2_s] | with_reducible rw [grd_t]))
      have hb := dw_plus (n := 10) rfl h2
      subst hb
      rw [if_neg (by decide), M_run_31]
      have k0 : ¬ nI (j + 10) = 0 := dw_ne (b := 0) (by omega) (by omega) (by omega)
      have k1 : ¬ nI (j + 10) = 1 := dw_ne (b := 1) (by omega) (by omega) (by omega)
      have k2 : ¬ nI (j + 10) = 2 := dw_ne (b := 2) (by omega) (by omega) (by omega)
      have k20 : ¬ (20 : Int32) ≤ nI (j + 10) := nI_ge (b := 20) (by omega) (by omega)
      refine dw_Mrun36 h (g := 1) (v := dw_fg (dw_T w (dw_gJ X 6) s yy (dw_N a)) j 3) (fun _ => ?_) (fun _ _ _ _ => ⟨j, h1, ?_⟩)
      · rw [if_neg k0, if_neg k1, if_neg k2, if_neg k20, h2, dw_N_nI (by omega)]
      · rw [if_neg k20, h2]
  · rw [if_neg c, if_neg c, M_run_31]
    obtain ⟨j, hj, rfl⟩ := dw_in_of (n := 2) rfl c
    refine dw_Mrun36 h (g := 1) (fun _ => ?_) (fun _ k0 k1 k2 => ?_)
    · rcases (by omega : j = 0 ∨ j = 1 ∨ j = 2) with rfl | rfl | rfl
      · rw [if_pos (show nI 0 = (0 : Int32) from rfl), if_pos (show nI 0 = (0 : Int32) from rfl)]
      · rw [if_neg (show ¬ nI 1 = (0 : Int32) by decide), if_neg (show ¬ nI 1 = (0 : Int32) by decide), if_pos (show nI 1 = (1 : Int32) from rfl), if_pos (show nI 1 = (1 : Int32) from rfl)]
      · rw [if_neg (show ¬ nI 2 = (0 : Int32) by decide), if_neg (show ¬ nI 2 = (0 : Int32) by decide), if_neg (show ¬ nI 2 = (1 : Int32) by decide), if_neg (show ¬ nI 2 = (1 : Int32) by decide), if_pos (show nI 2 = (2 : Int32) from rfl)]
    · rcases (by omega : j = 0 ∨ j = 1 ∨ j = 2) with rfl | rfl | rfl
      · exact absurd rfl k0
      · exact absurd rfl k1
      · exact absurd rfl k2
end MC
