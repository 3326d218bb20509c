/-! THE REFERENCE: film, winds, drawn, odds -/
def dw_Es (X X' : dw_X) : Prop := (∀ k, k = 0 ∨ k = 9 ∨ k = 12 ∨ k = 13 ∨ k = 14 → dw_gI X' k = dw_gI X k) ∧ (∀ k, dw_gJ X' k = dw_gJ X k) ∧ (∀ c i, c ≠ 11 → c ≠ 12 → c ≠ 13 → c ≠ 16 → c ≠ 19 → c ≠ 20 → dw_gA X' c i = dw_gA X c i) ∧ (∀ i, dw_gY X' i = dw_gY X i)
theorem dw_Es_of {X X' : dw_X} (h : dw_Eq X X') : dw_Es X X' := ⟨h.1, h.2.1, fun c i _ _ _ c1 c2 c3 => h.2.2.1 c i c1 c2 c3, h.2.2.2⟩
theorem dw_Es_tr {X Y Z : dw_X} (h : dw_Es X Y) (h2 : dw_Es Y Z) : dw_Es X Z := ⟨fun k hk => (h2.1 k hk).trans (h.1 k hk), fun k => (h2.2.1 k).trans (h.2.1 k), fun c i a1 a2 a3 a4 a5 a6 => (h2.2.2.1 c i a1 a2 a3 a4 a5 a6).trans (h.2.2.1 c i a1 a2 a3 a4 a5 a6), fun i => (h2.2.2.2 i).trans (h.2.2.2 i)⟩
theorem dw_Es_A {X : dw_X} {c i : Nat} {v : Int32} (hc : c = 11 ∨ c = 12 ∨ c = 13) : dw_Es X (dw_A X c i v) := ⟨fun _ _ => rfl, fun _ => rfl, fun d j a1 a2 a3 _ _ _ => by rw [dw_AA, if_neg (fun q => by omega)], fun _ => rfl⟩
theorem dw_MC_Es {X X' : dw_X} (h : dw_Es X X') : ∀ (c : List Nat) (a : Nat), dw_MC X a c → dw_MC X' a c
  | [], _, _ => trivial
  | t :: c, a, hm => ⟨(h.2.2.1 6 a (by decide) (by decide) (by decide) (by decide) (by decide) (by decide)).trans hm.1, dw_MC_Es h c (a + 1) hm.2⟩
theorem dw_ML_Es {X X' : dw_X} (h : dw_Es X X') {r : Nat} {w : dw_W} (hL : dw_ML X r w) : dw_ML X' r w := by
  refine ⟨fun p hp => ?_, fun i hi => (h.2.2.1 15 i (by decide) (by decide) (by decide) (by decide) (by decide) (by decide)).trans (hL.2 i hi)⟩
  obtain ⟨k, h1, h2, h3, h4, h5⟩ := hL.1 p hp
  exact ⟨k, (h.2.2.1 7 _ (by decide) (by decide) (by decide) (by decide) (by decide) (by decide)).trans h1, (h.2.2.1 7 _ (by decide) (by decide) (by decide) (by decide) (by decide) (by decide)).trans h2, h3, dw_MC_Es h _ _ h4, h5⟩
theorem dw_Ctx_Es {X X' : dw_X} (h : dw_Es X X') {r m : Nat} {w : dw_W} (hC : dw_Ctx X r m w) : dw_Ctx X' r m w := ⟨(h.1 13 (by decide)).trans hC.1, hC.2.1, dw_ML_Es h hC.2.2.1, (h.1 0 (by decide)).trans hC.2.2.2.1, hC.2.2.2.2⟩
theorem dw_Rel_Es {X X' : dw_X} (h : dw_Es X X') {s : dw_L} {m : Nat} {R G : Nat → Int32} (hr : dw_Rel s m X R G) : dw_Rel s m X' R G := by
  intro d hd
  obtain ⟨h3, h4, h5, h6, h1, h2⟩ := hr d hd
  exact ⟨h3, h4, h5, h6, (h.2.2.1 1 d (by decide) (by decide) (by decide) (by decide) (by decide) (by decide)).trans h1, (h.2.2.1 2 d (by decide) (by decide) (by decide) (by decide) (by decide) (by decide)).trans h2⟩
theorem dw_Kept_Ac {X : dw_X} {R G : Nat → Int32} {y : Int32} (h : dw_Kept X R G y) {c : Nat} (hc : c ≠ 19) (i : Nat) (v : Int32) : dw_Kept (dw_A X c i v) R G y := ⟨fun k hk => by rw [dw_AA, if_neg (fun q => hc q.1.symm), h.1 k hk], fun d hd => by rw [dw_AA, if_neg (fun q => hc q.1.symm), h.2.1 d hd], by rw [dw_AA, if_neg (fun q => hc q.1.symm), h.2.2]⟩
def dw_Bs {α : Type} (o : Option (pm_H × α)) (X : dw_X) (R G : Nat → Int32) (y : Int32) (v : α) (H : dw_H) : Prop := ∃ X' R' G' S N, o = some (dw_mk X' R' G' S N y, v) ∧ dw_Es X X' ∧ dw_SH X' H ∧ (∀ k, k < 18 → R' k = R k) ∧ ∀ d, d < 6 → G' d = G d
def dw_Hfilm (H : dw_H) (a : Nat) (n : Int32) (c : Nat → Int32) : dw_H := (upd H.1 a 0, upd H.2.1 a n, fun k i => if k = a then (if i < dw_N n then c i else 0) else H.2.2 k i)
def dw_qfilm (w : dw_W) (cl : Int64) (s : dw_L) (yy : Nat) (H : dw_H) (a d n : Int32) : Int32 × dw_H := if dw_in a 0 3 = 0 then (-2, H) else match dw_st s d 6 with | none => (-5, H) | some j => if dw_in n 0 20 = 0 then (-7, H) else (n, dw_Hfilm H (dw_N a) n (fun i => dw_fg (dw_T w cl s yy (i + 1)) j 3))
/-- a film as far as it goes -/
def dw_FI (X : dw_X) (H : dw_H) (t : Nat) (a : Nat) : Prop := ∀ k, k < 4 → dw_gA X 11 k = H.1 k ∧ dw_gA X 12 k = H.2.1 k ∧ ∀ j, j < 40 → k ≠ a ∨ j < t → dw_gA X 13 (40 * k + j) = H.2.2 k j
theorem dw_FI_A {X : dw_X} {H : dw_H} {t a : Nat} (h : dw_FI X H t a) (v : Int32) (ht : t < 40) : dw_FI (dw_A X 13 (40 * a + t) v) H t a := by
  intro k hk
  obtain ⟨h1, h2, h3⟩ := h k hk
  refine ⟨?_, ?_, fun j hj hq => ?_⟩
  · rw [dw_AA, if_neg (fun q => absurd q.1 (by decide)), h1]
  · rw [dw_AA, if_neg (fun q => absurd q.1 (by decide)), h2]
  · rw [dw_AA, if_neg (fun q => by omega), h3 j hj hq]
theorem dw_FI_S {X : dw_X} {H : dw_H} {t a : Nat} (h : dw_FI X H t a) (hv : a < 4 → dw_gA X 13 (40 * a + t) = H.2.2 a t) : dw_FI X H (t + 1) a := by
  intro k hk
  obtain ⟨h1, h2, h3⟩ := h k hk
  refine ⟨h1, h2, fun j hj hq => ?_⟩
  by_cases c : k = a ∧ j = t
  · rw [c.1, c.2]
    exact hv (c.1 ▸ hk)
  · exact h3 j hj (by omega)
def dw_lt (x : Int64) : Int64 := x * 48271 - x * 48271 / 2147483647 * 2147483647
def dw_blow0 (s : dw_L) (v : Int32) : Option Nat → dw_L
  | none => s
  | some d => dw_set s d 3 (dw_bd (s d 3 + v) 0 39)
def dw_m6 (x : Int64) : Int32 := Int64.toInt32 (x - x / 6 * 6)
def dw_m4 (x : Int64) : Int32 := Int64.toInt32 (x - x / 4 * 4)
def dw_blow1 (s : dw_L) (l : Int64) : dw_L := dw_blow0 s (dw_m4 (dw_lt (dw_lt l))) (dw_st s (dw_m6 (dw_lt l)) 6)
theorem dw_blow1_n {s : dw_L} {l : Int64} (h : dw_st s (dw_m6 (dw_lt l)) 6 = none) : dw_blow1 s l = s := by
  rw [dw_blow1, h, dw_blow0]
theorem dw_blow1_s {s : dw_L} {l : Int64} {d : Nat} (h : dw_st s (dw_m6 (dw_lt l)) 6 = some d) : dw_blow1 s l = dw_set s d 3 (dw_bd (s d 3 + dw_m4 (dw_lt (dw_lt l))) 0 39) := by
  rw [dw_blow1, h, dw_blow0]
def dw_blow (w : dw_W) (cl ho : Int64) : Nat → Nat → dw_L → Int64 → Int32 → dw_L × Int32
  | 0, _, s, _, z => (s, z)
  | k + 1, yy, s, l, z => dw_blow w cl ho k (yy + 1) (dw_T w cl (dw_blow1 s l) yy 1) (dw_lt (dw_lt l)) (z + dw_F w cl ho (dw_blow1 s l) yy 1)
def dw_winds (w : dw_W) (cl ho : Int64) (s : dw_L) (yy : Nat) (a : Int32) : dw_L × Int32 := dw_blow w cl ho 6 yy s (a.toInt64 + 1) 0
def dw_qdrawn (w : dw_W) (cl ho : Int64) (s : dw_L) (yy : Nat) (a b : Int32) : Int32 := if dw_in a 0 99999 = 0 then -2 else if dw_in b 0 1 = 0 then -2 else if b = 0 then (dw_winds w cl ho s yy a).2 else dw_live (dw_winds w cl ho s yy a).1 6
def dw_odd1 (f : Nat → Int32) (l : Int32) : Nat → Nat → Nat → Nat
  | 0, _, z => z
  | k + 1, i, z => dw_odd1 f l k (i + 1) (if f i < l then z else z + 1)
def dw_qodds (w : dw_W) (cl ho : Int64) (s : dw_L) (yy : Nat) (a b c p : Int32) : Int64 := if dw_in a 0 99999 = 0 then -4611686018427387904 else if dw_in b 1 40 = 0 then -4611686018427387904 else if dw_in c 0 999 = 0 then -4611686018427387904 else if dw_in p 0 1 = 0 then -4611686018427387904 else dw_lw (dw_odd1 (fun i => (dw_winds w cl ho s yy (a + nI i)).2) c (dw_N b) 0 0) (dw_N b) p
theorem dw_odd1_le {f : Nat → Int32} {l : Int32} : ∀ {k i z : Nat}, dw_odd1 f l k i z ≤ z + k
  | 0, _, _ => Nat.le_refl _
  | k + 1, i, z => by
    rw [dw_odd1]
    by_cases c : f i < l
    · rw [if_pos c]
      have := dw_odd1_le (f := f) (l := l) (k := k) (i := i + 1) (z := z)
      omega
    · rw [if_neg c]
      have := dw_odd1_le (f := f) (l := l) (k := k) (i := i + 1) (z := z + 1)
      omega
theorem dw_in_of1 {x M : Int32} {n : Nat} (hM : M.toInt = n) (h : ¬ dw_in x 1 M = 0) : ∃ j : Nat, 1 ≤ j ∧ j ≤ n ∧ x = nI j := by
  unfold dw_in at h
  by_cases h1 : x < 1
  · simp [h1] at h
  · by_cases h2 : M < x
    · simp [h1, h2] at h
    · have h0 : ¬ x < 0 := by
        rw [fa_lt] at h1 ⊢
        have h3 : (1 : Int32).toInt = 1 := by decide
        have h4 : (0 : Int32).toInt = 0 := by decide
        omega
      obtain ⟨j, hj, rfl⟩ := nI_of2 hM h0 (fa_of_nlt h2)
      refine ⟨j, ?_, hj, rfl⟩
      rcases Nat.eq_zero_or_pos j with c | c
      · subst c
        exact absurd (by decide) h1
      · exact c
section MC
variable {X : dw_X} {R G S N : Nat → Int32} {y : Int32} {w : dw_W} {r m yy : Nat} {s : dw_L} {H : dw_H}
theorem dw_Bs_id {α : Type} {v : α} (hs : dw_SH X H) : dw_Bs (some (dw_mk X R G S N y, v)) X R G y v H := ⟨X, R, G, S, N, rfl, dw_Es_of (dw_Eq_rfl X), hs, fun _ _ => rfl, fun _ _ => rfl⟩
theorem dw_At_Es {X' : dw_X} {n : Nat} (h : dw_At X R G r m w s yy n) (e : dw_Es X X') : dw_At X' R G r m w s yy n := ⟨dw_Ctx_Es e h.1, h.2.1, h.2.2.1, h.2.2.2.1, (e.2.1 5).symm ▸ h.2.2.2.2.1, by rw [e.2.1 6]; exact dw_Rel_Es e h.2.2.2.2.2⟩
theorem dw_At_TH {n : Nat} (h : dw_At X R G r m w s yy n) (hn : yy + n < 2 ^ 30) : dw_TH X R G r m w (dw_T w (dw_gJ X 6) s yy n) (yy + n) := ⟨h.1, dw_TWF h.2.1 n, dw_TDead h.1.2.2.2.2 h.2.2.1 n, hn, h.2.2.2.2.1, h.2.2.2.2.2⟩
theorem dw_Mfilm2 {X1 : dw_X} (hk : dw_Kept X1 R G (nI yy)) (e : dw_Es X X1) {a n : Nat} (ha : a < 4) (hn : n ≤ 20) (hz : ∀ j, n ≤ j → H.2.2 a j = 0) (d : Int32) (f k : Nat) : ∀ t X2 R2 G2 S N y2, t + k = 40 → n ≤ t → dw_Es X X2 → dw_Kept X2 R G (nI yy) → dw_FI X2 H t a → dw_Bs (M_film_57 (f + k + 1) (dw_mk X2 R2 G2 S N y2) 0 (nI a) d (nI n) (nI t)) X R G (nI yy) (nI n) H := by
  induction k with
  | zero =>
    intro t X2 R2 G2 S N y2 ht hnt e2 k2 hF
    rw [M_film_57, if_pos (show (40 : Int32) ≤ nI t from nI_le (a := 40) (by omega) (by omega))]
    obtain ⟨R', G', e5, e6, e7⟩ := dw_Mlays (X := X2) (R := R2) (G := G2) (S := S) (N := N) (y := y2) k2
    repeat (first | with_reducible rw [bnd_s] | with_reducible rw [nmd_s] | with_reducible rw [bn2_s] | with_reducible rw [grd_t] | ((conv => arg 1; arg 1; simp (disch := omega) only [dw_is, dw_f0, dw_t0, dw_f9, dw_t9, dw_f12, dw_t12, dw_f13, dw_t13, dw_f14, dw_t14, dw_f22, dw_t22, dw_f23, dw_t23, dw_f24, dw_t24, dw_f25, dw_t25, dw_f28, dw_t28, dw_f29, dw_t29, dw_f30, dw_t30, dw_f35, dw_t35, dw_f7, dw_t7, dw_f5, dw_t5, dw_f6, dw_t6, dw_f1, dw_f2, dw_f3, dw_f4, dw_f8, dw_f10, dw_f11, dw_f15, dw_f16, dw_f17, dw_f18, dw_f19, dw_f20, dw_f21, dw_f26, dw_f27, dw_f31, dw_f32, dw_f33, dw_f34, dw_a1, dw_w1, dw_a2, dw_w2, dw_a3, dw_w3, dw_a4, dw_w4, dw_a5, dw_w5, dw_a6, dw_w6, dw_a7, dw_w7, dw_a8, dw_w8, dw_a9_0, dw_s9_0, dw_a9_1, dw_s9_1, dw_a10, dw_w10, dw_a10_0, dw_w10_0, dw_a10_1, dw_w10_1, dw_a10_2, dw_w10_2, dw_a11, dw_w11, dw_a12, dw_w12, dw_a13, dw_w13, dw_a14, dw_w14, dw_a15, dw_w15, dw_a16, dw_w16, dw_a17, dw_w17, dw_a17_0, dw_w17_0, dw_a18, dw_w18, dw_a18_0, dw_w18_0, dw_a18_1, dw_w18_1, dw_a18_2, dw_w18_2, dw_a18_3, dw_w18_3, dw_a18_4, dw_w18_4, dw_a18_5, dw_w18_5, dw_a19, dw_w19, dw_a19_24, dw_w19_24, dw_a20, dw_w20, e5]); first | with_reducible rw [bnd_s] | with_reducible rw [bn2_s] | with_reducible rw [grd_t]))
    exact ⟨X2, R', G', _, _, rfl, e2, (fun k hk => ⟨(hF k hk).1, (hF k hk).2.1, fun j hj => (hF k hk).2.2 j hj (Or.inr (by omega))⟩), e6, e7⟩
  | succ k ih =>
    intro t X2 R2 G2 S N y2 ht hnt e2 k2 hF
    rw [show f + (k + 1) + 1 = f + k + 1 + 1 by omega, M_film_57, if_neg (show ¬ (40 : Int32) ≤ nI t from nI_ge (b := 40) (by omega) (by omega))]
    repeat (first | with_reducible rw [bnd_s] | with_reducible rw [nmd_s] | with_reducible rw [bn2_s] | with_reducible rw [grd_t] | ((conv => arg 1; arg 1; simp (disch := omega) only [dw_is, dw_f0, dw_t0, dw_f9, dw_t9, dw_f12, dw_t12, dw_f13, dw_t13, dw_f14, dw_t14, dw_f22, dw_t22, dw_f23, dw_t23, dw_f24, dw_t24, dw_f25, dw_t25, dw_f28, dw_t28, dw_f29, dw_t29, dw_f30, dw_t30, dw_f35, dw_t35, dw_f7, dw_t7, dw_f5, dw_t5, dw_f6, dw_t6, dw_f1, dw_f2, dw_f3, dw_f4, dw_f8, dw_f10, dw_f11, dw_f15, dw_f16, dw_f17, dw_f18, dw_f19, dw_f20, dw_f21, dw_f26, dw_f27, dw_f31, dw_f32, dw_f33, dw_f34, dw_a1, dw_w1, dw_a2, dw_w2, dw_a3, dw_w3, dw_a4, dw_w4, dw_a5, dw_w5, dw_a6, dw_w6, dw_a7, dw_w7, dw_a8, dw_w8, dw_a9_0, dw_s9_0, dw_a9_1, dw_s9_1, dw_a10, dw_w10, dw_a10_0, dw_w10_0, dw_a10_1, dw_w10_1, dw_a10_2, dw_w10_2, dw_a11, dw_w11, dw_a12, dw_w12, dw_a13, dw_w13, dw_a14, dw_w14, dw_a15, dw_w15, dw_a16, dw_w16, dw_a17, dw_w17, dw_a17_0, dw_w17_0, dw_a18, dw_w18, dw_a18_0, dw_w18_0, dw_a18_1, dw_w18_1, dw_a18_2, dw_w18_2, dw_a18_3, dw_w18_3, dw_a18_4, dw_w18_4, dw_a18_5, dw_w18_5, dw_a19, dw_w19, dw_a19_24, dw_w19_24, dw_a20, dw_w20, dw_40, nI_add]); first | with_reducible rw [bnd_s] | with_reducible rw [bn2_s] | with_reducible rw [grd_t]))
    rw [if_pos (show nI n ≤ nI t from nI_le (by omega) (by omega)), M_film_106, nmd_s, nI_1]
    exact ih (t + 1) _ _ _ _ _ _ (by omega) (by omega) (dw_Es_tr e2 (dw_Es_A (by decide))) (dw_Kept_Ac k2 (by decide) _ _) (dw_FI_S (dw_FI_A hF 0 (by omega)) (fun _ => by rw [dw_AA, if_pos ⟨rfl, rfl⟩, hz t hnt]))
theorem dw_Mfilm1 {X1 : dw_X} (hk : dw_Kept X1 R G (nI yy)) (e : dw_Es X X1) {a n d : Nat} (ha : a < 4) (hn : n ≤ 20) (hd : d < m) (hz : ∀ j, n ≤ j → H.2.2 a j = 0) (hv : ∀ t, t < n → H.2.2 a t = dw_fg (dw_T w (dw_gJ X 6) s yy (t + 1)) d 3) (f k : Nat) : ∀ t X2 R2 G2 S N, t + k = n → dw_Es X X2 → dw_Kept X2 R G (nI yy) → dw_FI X2 H t a → dw_At X2 R2 G2 r m w s yy t → dw_Bs (M_film_57 (f + (40 - n) + k + 1) (dw_mk X2 R2 G2 S N (nI (yy + t))) 0 (nI a) (nI d) (nI n) (nI t)) X R G (nI yy) (nI n) H := by
  induction k with
  | zero =>
    intro t X2 R2 G2 S N ht e2 k2 hF h
    exact dw_Mfilm2 hk e ha hn hz (nI d) f (40 - n) t X2 R2 G2 S N (nI (yy + t)) (by omega) (by omega) e2 k2 hF
  | succ k ih =>
    intro t X2 R2 G2 S N ht e2 k2 hF h
    have e3 := dw_Es_tr e2 (dw_Es_A (X := X2) (c := 13) (i := 40 * a + t) (v := 0) (by decide))
    rw [show f + (40 - n) + (k + 1) + 1 = f + (40 - n) + k + 1 + 1 by omega, M_film_57, if_neg (show ¬ (40 : Int32) ≤ nI t from nI_ge (b := 40) (by omega) (by omega))]
    obtain ⟨R3, G3, S3, N3, e4, h3⟩ := dw_Ayear (S := S) (N := N) (dw_At_Es h (dw_Es_A (X := X2) (c := 13) (i := 40 * a + t) (v := 0) (by decide))) (by omega)
    repeat (first | with_reducible rw [bnd_s] | with_reducible rw [nmd_s] | with_reducible rw [bn2_s] | with_reducible rw [grd_t] | ((conv => arg 1; arg 1; simp (disch := omega) only [dw_is, dw_f0, dw_t0, dw_f9, dw_t9, dw_f12, dw_t12, dw_f13, dw_t13, dw_f14, dw_t14, dw_f22, dw_t22, dw_f23, dw_t23, dw_f24, dw_t24, dw_f25, dw_t25, dw_f28, dw_t28, dw_f29, dw_t29, dw_f30, dw_t30, dw_f35, dw_t35, dw_f7, dw_t7, dw_f5, dw_t5, dw_f6, dw_t6, dw_f1, dw_f2, dw_f3, dw_f4, dw_f8, dw_f10, dw_f11, dw_f15, dw_f16, dw_f17, dw_f18, dw_f19, dw_f20, dw_f21, dw_f26, dw_f27, dw_f31, dw_f32, dw_f33, dw_f34, dw_a1, dw_w1, dw_a2, dw_w2, dw_a3, dw_w3, dw_a4, dw_w4, dw_a5, dw_w5, dw_a6, dw_w6, dw_a7, dw_w7, dw_a8, dw_w8, dw_a9_0, dw_s9_0, dw_a9_1, dw_s9_1, dw_a10, dw_w10, dw_a10_0, dw_w10_0, dw_a10_1, dw_w10_1, dw_a10_2, dw_w10_2, dw_a11, dw_w11, dw_a12, dw_w12, dw_a13, dw_w13, dw_a14, dw_w14, dw_a15, dw_w15, dw_a16, dw_w16, dw_a17, dw_w17, dw_a17_0, dw_w17_0, dw_a18, dw_w18, dw_a18_0, dw_w18_0, dw_a18_1, dw_w18_1, dw_a18_2, dw_w18_2, dw_a18_3, dw_w18_3, dw_a18_4, dw_w18_4, dw_a18_5, dw_w18_5, dw_a19, dw_w19, dw_a19_24, dw_w19_24, dw_a20, dw_w20, dw_40, nI_add]); first | with_reducible rw [bnd_s] | with_reducible rw [bn2_s] | with_reducible rw [grd_t]))
    rw [if_neg (show ¬ nI n ≤ nI t from nI_ge (by omega) (by omega))]
    repeat (first | with_reducible rw [bnd_s] | with_reducible rw [nmd_s] | with_reducible rw [bn2_s] | with_reducible rw [grd_t] | ((conv => arg 1; arg 1; simp (disch := omega) only [dw_is, dw_f0, dw_t0, dw_f9, dw_t9, dw_f12, dw_t12, dw_f13, dw_t13, dw_f14, dw_t14, dw_f22, dw_t22, dw_f23, dw_t23, dw_f24, dw_t24, dw_f25, dw_t25, dw_f28, dw_t28, dw_f29, dw_t29, dw_f30, dw_t30, dw_f35, dw_t35, dw_f7, dw_t7, dw_f5, dw_t5, dw_f6, dw_t6, dw_f1, dw_f2, dw_f3, dw_f4, dw_f8, dw_f10, dw_f11, dw_f15, dw_f16, dw_f17, dw_f18, dw_f19, dw_f20, dw_f21, dw_f26, dw_f27, dw_f31, dw_f32, dw_f33, dw_f34, dw_a1, dw_w1, dw_a2, dw_w2, dw_a3, dw_w3, dw_a4, dw_w4, dw_a5, dw_w5, dw_a6, dw_w6, dw_a7, dw_w7, dw_a8, dw_w8, dw_a9_0, dw_s9_0, dw_a9_1, dw_s9_1, dw_a10, dw_w10, dw_a10_0, dw_w10_0, dw_a10_1, dw_w10_1, dw_a10_2, dw_w10_2, dw_a11, dw_w11, dw_a12, dw_w12, dw_a13, dw_w13, dw_a14, dw_w14, dw_a15, dw_w15, dw_a16, dw_w16, dw_a17, dw_w17, dw_a17_0, dw_w17_0, dw_a18, dw_w18, dw_a18_0, dw_w18_0, dw_a18_1, dw_w18_1, dw_a18_2, dw_w18_2, dw_a18_3, dw_w18_3, dw_a18_4, dw_w18_4, dw_a18_5, dw_w18_5, dw_a19, dw_w19, dw_a19_24, dw_w19_24, dw_a20, dw_w20, e4, dw_40, nI_add, dw_AofD0 h3 hd]); first | with_reducible rw [bnd_s] | with_reducible rw [bn2_s] | with_reducible rw [grd_t]))
    rw [M_film_106, nmd_s, nI_1]
    have hF2 := dw_FI_A (dw_FI_A hF 0 (by omega)) (dw_fg (dw_T w (dw_gJ (dw_A X2 13 (40 * a + t) 0) 6) s yy (t + 1)) d 3) (show t < 40 by omega)
    exact ih (t + 1) _ _ _ _ _ (by omega) (dw_Es_tr e3 (dw_Es_A (by decide))) (dw_Kept_Ac (dw_Kept_Ac k2 (by decide) _ _) (by decide) _ _) (dw_FI_S hF2 (fun _ => by rw [dw_AA, if_pos ⟨rfl, rfl⟩, hv t (by omega), e3.2.1 6])) (dw_At_Es h3 (dw_Es_A (by decide)))
theorem dw_Mfilm (h : dw_TH X R G r m w s yy) (hs : dw_SH X H) (a d n : Int32) : dw_Bs (M_film (dw_mk X R G S N (nI yy)) 0 a d n) X R G (nI yy) (dw_qfilm w (dw_gJ X 6) s yy H a d n).1 (dw_qfilm w (dw_gJ X 6) s yy H a d n).2 := by
  have hm6 := h.1.2.2.2.2
  rw [M_film, dw_qfilm]
  repeat (first | with_reducible rw [bnd_s] | with_reducible rw [nmd_s] | with_reducible rw [bn2_s] | with_reducible rw [grd_t] | ((conv => arg 1; arg 1; simp (disch := omega) only [dw_is, dw_f0, dw_t0, dw_f9, dw_t9, dw_f12, dw_t12, dw_f13, dw_t13, dw_f14, dw_t14, dw_f22, dw_t22, dw_f23, dw_t23, dw_f24, dw_t24, dw_f25, dw_t25, dw_f28, dw_t28, dw_f29, dw_t29, dw_f30, dw_t30, dw_f35, dw_t35, dw_f7, dw_t7, dw_f5, dw_t5, dw_f6, dw_t6, dw_f1, dw_f2, dw_f3, dw_f4, dw_f8, dw_f10, dw_f11, dw_f15, dw_f16, dw_f17, dw_f18, dw_f19, dw_f20, dw_f21, dw_f26, dw_f27, dw_f31, dw_f32, dw_f33, dw_f34, dw_a1, dw_w1, dw_a2, dw_w2, dw_a3, dw_w3, dw_a4, dw_w4, dw_a5, dw_w5, dw_a6, dw_w6, dw_a7, dw_w7, dw_a8, dw_w8, dw_a9_0, dw_s9_0, dw_a9_1, dw_s9_1, dw_a10, dw_w10, dw_a10_0, dw_w10_0, dw_a10_1, dw_w10_1, dw_a10_2, dw_w10_2, dw_a11, dw_w11, dw_a12, dw_w12, dw_a13, dw_w13, dw_a14, dw_w14, dw_a15, dw_w15, dw_a16, dw_w16, dw_a17, dw_w17, dw_a17_0, dw_w17_0, dw_a18, dw_w18, dw_a18_0, dw_w18_0, dw_a18_1, dw_w18_1, dw_a18_2, dw_w18_2, dw_a18_3, dw_w18_3, dw_a18_4, dw_w18_4, dw_a18_5, dw_w18_5, dw_a19, dw_w19, dw_a19_24, dw_w19_24, dw_a20, dw_w20, dw_Min]); first | with_reducible rw [bnd_s] | with_reducible rw [bn2_s] | with_reducible rw [grd_t]))
  by_cases c : dw_in a 0 3 = 0
  · rw [if_pos c, if_pos c]
    exact dw_Bs_id hs
  rw [if_neg c, if_neg c]
  rcases dw_AisD (S := S) (N := N) (y := nI yy) (a := d) h.1 h.2.2.1 h.2.2.2.2.2 with ⟨e1, e2⟩ | ⟨j, h1, h2, h3, e1, e2⟩
  · rw [e1]
    repeat (first | with_reducible rw [bnd_s] | with_reducible rw [nmd_s] | with_reducible rw [bn2_s] | with_reducible rw [grd_t] | ((conv => arg 1; arg 1; simp (disch := omega) only [dw_is, dw_f0, dw_t0, dw_f9, dw_t9, dw_f12, dw_t12, dw_f13, dw_t13, dw_f14, dw_t14, dw_f22, dw_t22, dw_f23, dw_t23, dw_f24, dw_t24, dw_f25, dw_t25, dw_f28, dw_t28, dw_f29, dw_t29, dw_f30, dw_t30, dw_f35, dw_t35, dw_f7, dw_t7, dw_f5, dw_t5, dw_f6, dw_t6, dw_f1, dw_f2, dw_f3, dw_f4, dw_f8, dw_f10, dw_f11, dw_f15, dw_f16, dw_f17, dw_f18, dw_f19, dw_f20, dw_f21, dw_f26, dw_f27, dw_f31, dw_f32, dw_f33, dw_f34, dw_a1, dw_w1, dw_a2, dw_w2, dw_a3, dw_w3, dw_a4, dw_w4, dw_a5, dw_w5, dw_a6, dw_w6, dw_a7, dw_w7, dw_a8, dw_w8, dw_a9_0, dw_s9_0, dw_a9_1, dw_s9_1, dw_a10, dw_w10, dw_a10_0, dw_w10_0, dw_a10_1, dw_w10_1, dw_a10_2, dw_w10_2, dw_a11, dw_w11, dw_a12, dw_w12, dw_a13, dw_w13, dw_a14, dw_w14, dw_a15, dw_w15, dw_a16, dw_w16, dw_a17, dw_w17, dw_a17_0, dw_w17_0, dw_a18, dw_w18, dw_a18_0, dw_w18_0, dw_a18_1, dw_w18_1, dw_a18_2, dw_w18_2, dw_a18_3, dw_w18_3, dw_a18_4, dw_w18_4, dw_a18_5, dw_w18_5, dw_a19, dw_w19, dw_a19_24, dw_w19_24, dw_a20, dw_w20, e2]); first | with_reducible rw [bnd_s] | with_reducible rw [bn2_s] | with_reducible rw [grd_t]))
    rw [if_pos rfl]
    exact dw_Bs_id hs
  rw [e1]
  dsimp only
  repeat (first | with_reducible rw [bnd_s] | with_reducible rw [nmd_s] | with_reducible rw [bn2_s] | with_reducible rw [grd_t] | ((conv => arg 1; arg 1; simp (disch := omega) only [dw_is, dw_f0, dw_t0, dw_f9, dw_t9, dw_f12, dw_t12, dw_f13, dw_t13, dw_f14, dw_t14, dw_f22, dw_t22, dw_f23, dw_t23, dw_f24, dw_t24, dw_f25, dw_t25, dw_f28, dw_t28, dw_f29, dw_t29, dw_f30, dw_t30, dw_f35, dw_t35, dw_f7, dw_t7, dw_f5, dw_t5, dw_f6, dw_t6, dw_f1, dw_f2, dw_f3, dw_f4, dw_f8, dw_f10, dw_f11, dw_f15, dw_f16, dw_f17, dw_f18, dw_f19, dw_f20, dw_f21, dw_f26, dw_f27, dw_f31, dw_f32, dw_f33, dw_f34, dw_a1, dw_w1, dw_a2, dw_w2, dw_a3, dw_w3, dw_a4, dw_w4, dw_a5, dw_w5, dw_a6, dw_w6, dw_a7, dw_w7, dw_a8, dw_w8, dw_a9_0, dw_s9_0, dw_a9_1, dw_s9_1, dw_a10, dw_w10, dw_a10_0, dw_w10_0, dw_a10_1, dw_w10_1, dw_a10_2, dw_w10_2, dw_a11, dw_w11, dw_a12, dw_w12, dw_a13, dw_w13, dw_a14, dw_w14, dw_a15, dw_w15, dw_a16, dw_w16, dw_a17, dw_w17, dw_a17_0, dw_w17_0, dw_a18, dw_w18, dw_a18_0, dw_w18_0, dw_a18_1, dw_w18_1, dw_a18_2, dw_w18_2, dw_a18_3, dw_w18_3, dw_a18_4, dw_w18_4, dw_a18_5, dw_w18_5, dw_a19, dw_w19, dw_a19_24, dw_w19_24, dw_a20, dw_w20, e2]); first | with_reducible rw [bnd_s] | with_reducible rw [bn2_s] | with_reducible rw [grd_t]))
  rw [if_neg (by decide)]
  repeat (first | with_reducible rw [bnd_s] | with_reducible rw [nmd_s] | with_reducible rw [bn2_s] | with_reducible rw [grd_t] | ((conv => arg 1; arg 1; simp (disch := omega) only [dw_is, dw_f0, dw_t0, dw_f9, dw_t9, dw_f12, dw_t12, dw_f13, dw_t13, dw_f14, dw_t14, dw_f22, dw_t22, dw_f23, dw_t23, dw_f24, dw_t24, dw_f25, dw_t25, dw_f28, dw_t28, dw_f29, dw_t29, dw_f30, dw_t30, dw_f35, dw_t35, dw_f7, dw_t7, dw_f5, dw_t5, dw_f6, dw_t6, dw_f1, dw_f2, dw_f3, dw_f4, dw_f8, dw_f10, dw_f11, dw_f15, dw_f16, dw_f17, dw_f18, dw_f19, dw_f20, dw_f21, dw_f26, dw_f27, dw_f31, dw_f32, dw_f33, dw_f34, dw_a1, dw_w1, dw_a2, dw_w2, dw_a3, dw_w3, dw_a4, dw_w4, dw_a5, dw_w5, dw_a6, dw_w6, dw_a7, dw_w7, dw_a8, dw_w8, dw_a9_0, dw_s9_0, dw_a9_1, dw_s9_1, dw_a10, dw_w10, dw_a10_0, dw_w10_0, dw_a10_1, dw_w10_1, dw_a10_2, dw_w10_2, dw_a11, dw_w11, dw_a12, dw_w12, dw_a13, dw_w13, dw_a14, dw_w14, dw_a15, dw_w15, dw_a16, dw_w16, dw_a17, dw_w17, dw_a17_0, dw_w17_0, dw_a18, dw_w18, dw_a18_0, dw_w18_0, dw_a18_1, dw_w18_1, dw_a18_2, dw_w18_2, dw_a18_3, dw_w18_3, dw_a18_4, dw_w18_4, dw_a18_5, dw_w18_5, dw_a19, dw_w19, dw_a19_24, dw_w19_24, dw_a20, dw_w20, dw_Min]); first | with_reducible rw [bnd_s] | with_reducible rw [bn2_s] | with_reducible rw [grd_t]))
  by_cases c2 : dw_in n 0 20 = 0
  · rw [if_pos c2, if_pos c2]
    exact dw_Bs_id hs
  rw [if_neg c2, if_neg c2]
  obtain ⟨q, hq, rfl⟩ := dw_in_of (n := 3) rfl c
  obtain ⟨l, hl, rfl⟩ := dw_in_of (n := 20) rfl c2
  subst h2
  rw [dw_N_nI (by omega)]
  have eA : dw_Es X (dw_A (dw_A X 11 q 0) 12 q (nI l)) := dw_Es_tr (dw_Es_A (by decide)) (dw_Es_A (by decide))
  obtain ⟨X1, e3, e4, e5⟩ := dw_Mkeeps (X := dw_A (dw_A X 11 q 0) 12 q (nI l)) (R := R) (G := G) (S := S) (N := N) (y := nI yy)
  repeat (first | with_reducible rw [bnd_s] | with_reducible rw [nmd_s] | with_reducible rw [bn2_s] | with_reducible rw [grd_t] | ((conv => arg 1; arg 1; simp (disch := omega) only [dw_is, dw_f0, dw_t0, dw_f9, dw_t9, dw_f12, dw_t12, dw_f13, dw_t13, dw_f14, dw_t14, dw_f22, dw_t22, dw_f23, dw_t23, dw_f24, dw_t24, dw_f25, dw_t25, dw_f28, dw_t28, dw_f29, dw_t29, dw_f30, dw_t30, dw_f35, dw_t35, dw_f7, dw_t7, dw_f5, dw_t5, dw_f6, dw_t6, dw_f1, dw_f2, dw_f3, dw_f4, dw_f8, dw_f10, dw_f11, dw_f15, dw_f16, dw_f17, dw_f18, dw_f19, dw_f20, dw_f21, dw_f26, dw_f27, dw_f31, dw_f32, dw_f33, dw_f34, dw_a1, dw_w1, dw_a2, dw_w2, dw_a3, dw_w3, dw_a4, dw_w4, dw_a5, dw_w5, dw_a6, dw_w6, dw_a7, dw_w7, dw_a8, dw_w8, dw_a9_0, dw_s9_0, dw_a9_1, dw_s9_1, dw_a10, dw_w10, dw_a10_0, dw_w10_0, dw_a10_1, dw_w10_1, dw_a10_2, dw_w10_2, dw_a11, dw_w11, dw_a12, dw_w12, dw_a13, dw_w13, dw_a14, dw_w14, dw_a15, dw_w15, dw_a16, dw_w16, dw_a17, dw_w17, dw_a17_0, dw_w17_0, dw_a18, dw_w18, dw_a18_0, dw_w18_0, dw_a18_1, dw_w18_1, dw_a18_2, dw_w18_2, dw_a18_3, dw_w18_3, dw_a18_4, dw_w18_4, dw_a18_5, dw_w18_5, dw_a19, dw_w19, dw_a19_24, dw_w19_24, dw_a20, dw_w20, e3]); first | with_reducible rw [bnd_s] | with_reducible rw [bn2_s] | with_reducible rw [grd_t]))
  have eX := dw_Es_tr eA (dw_Es_of e4)
  have hA := dw_At_Es (dw_At0 h) eX
  have g := dw_Mfilm1 (H := dw_Hfilm H q (nI l) (fun i => dw_fg (dw_T w (dw_gJ X 6) s yy (i + 1)) j 3)) e5 eX (a := q) (n := l) (d := j) (by omega) hl h1 (by
    intro i hi
    show (if q = q then (if i < dw_N (nI l) then _ else (0 : Int32)) else _) = 0
    rw [if_pos rfl, dw_N_nI (by omega), if_neg (by omega)]) (by
    intro i hi
    show (if q = q then (if i < dw_N (nI l) then _ else (0 : Int32)) else _) = _
    rw [if_pos rfl, dw_N_nI (by omega), if_pos hi]) (999 - 40) l 0 X1 R G S N (by omega) eX e5 (by
    intro k hk
    obtain ⟨s1, s2, s3⟩ := hs k hk
    refine ⟨?_, ?_, fun i hi hq => ?_⟩
    · rw [e4.2.2.1 11 k (by decide) (by decide) (by decide), dw_AA, if_neg (fun q => absurd q.1 (by decide)), dw_AA]
      show _ = upd H.1 q 0 k
      rw [upd_app]
      by_cases ck : k = q
      · rw [if_pos ⟨rfl, ck⟩, if_pos ck]
      · rw [if_neg (fun q => ck q.2), if_neg ck, s1]
    · rw [e4.2.2.1 12 k (by decide) (by decide) (by decide), dw_AA]
      show _ = upd H.2.1 q (nI l) k
      rw [upd_app]
      by_cases ck : k = q
      · rw [if_pos ⟨rfl, ck⟩, if_pos ck]
      · rw [if_neg (fun q => ck q.2), if_neg ck, dw_AA, if_neg (fun q => absurd q.1 (by decide)), s2]
    · have hkq : k ≠ q := by omega
      rw [e4.2.2.1 13 _ (by decide) (by decide) (by decide), dw_AA, if_neg (fun q => absurd q.1 (by decide)), dw_AA, if_neg (fun q => absurd q.1 (by decide)), s3 i hi]
      show _ = (if k = q then _ else _)
      rw [if_neg hkq]) hA
  rw [show 999 - 40 + (40 - l) + l + 1 = 1000 by omega] at g
  exact g
end MC
