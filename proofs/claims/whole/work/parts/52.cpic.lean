/-! THE CLASS: its picture: what stands in the first cells, the land that is, the land in thought, what was added -/
def dw_law0a : Nat → Int32 := upd (fun _ => 0) 0 2
def dw_law0b : Nat → Int32 := upd (upd (upd (upd (upd (fun _ => 0) 0 1) 1 9) 2 10003) 3 10012) 4 10011
def dw_law0c : Nat → Int32 := upd (fun _ => 0) 0 1
def dw_sf : Nat → Option Nat := fun i => if i < 4 then some (7 + 2 * i) else none
def dw_pre (tk : Int32) (kp : Value) (tf : Nat → Option Nat) (ti B C U : Nat → Int32) (H : dw_H) : pm_H := [.inr (5, [.ref 1, .int tk, .ref 2, .ref 19, .ref 28, kp, .ref 5, .ref 6]), .inl (5, 6, .inr (.inr (.inr (.inr tf)))), .inr (4, [.ref 3, .int (ti 1), .int (ti 2), .int (ti 3), .int (ti 4), .int (ti 5), .ref 4, .int (ti 7)]), .inl (2, 160, .inl B), .inl (0, 160, .inl C), .inl (6, 4, .inr (.inr (.inr (.inr dw_sf)))), .inl (0, 40, .inl U), .inr (3, [.int (H.1 0), .int (H.2.1 0), .ref 8]), .inl (0, 40, .inl (H.2.2 0)), .inr (3, [.int (H.1 1), .int (H.2.1 1), .ref 10]), .inl (0, 40, .inl (H.2.2 1)), .inr (3, [.int (H.1 2), .int (H.2.1 2), .ref 12]), .inl (0, 40, .inl (H.2.2 2)), .inr (3, [.int (H.1 3), .int (H.2.1 3), .ref 14]), .inl (0, 40, .inl (H.2.2 3)), .inr (2, [.int 0, .ref 16, .ref 17, .ref 18]), .inl (0, 1, .inl dw_law0a), .inl (0, 5, .inl dw_law0b), .inl (0, 1, .inl dw_law0c)]
abbrev dw_B : Type := Nat × Int32 × Int32 × Int64 × Int64 × dw_L × (Nat → Int32)
def dw_bb (t : Nat) (b : dw_B) : pm_H := dw_bk t b.1 b.2.1 b.2.2.1 b.2.2.2.1 b.2.2.2.2.1 b.2.2.2.2.2.1 b.2.2.2.2.2.2
def dw_cl (p : pm_H) (N T : dw_B) (Z : pm_H) : pm_H := p ++ (dw_bb 19 N ++ (dw_bb 28 T ++ Z))
/-- a cell whatever stands in the two lands -/
def dw_o18 (p Z : pm_H) (a : Nat) (c : pm_C) : Prop := ∀ M : pm_H, M.length = 18 → (p ++ (M ++ Z))[a]? = some c
def dw_LW (p Z : pm_H) (l : Nat) (n : Int32) (w : dw_W) : Prop := dw_o18 p Z l (.inr (2, [.int n, .ref (l + 1), .ref (l + 2), .ref (l + 3)])) ∧ ∀ q, q < 3 → dw_ok (dw_row w q) 0 ∧ (dw_row w q).length ≤ 160 ∧ ∃ f : Nat → Int32, dw_o18 p Z (l + 1 + q) (.inl (0, (dw_row w q).length, .inl f)) ∧ ∀ j, j < (dw_row w q).length → f j = nI ((dw_row w q).getD j 0)
theorem dw_odT {p Z : pm_H} {N : dw_B} {a : Nat} {c : pm_C} (h : dw_o18 p Z a c) : dw_od (p ++ dw_bb 19 N) Z a c := by
  intro B hB
  have g := h (dw_bb 19 N ++ B) (by rw [List.length_append, hB]; rfl)
  simp only [List.append_assoc] at g ⊢
  exact g
theorem dw_odN {p Z : pm_H} {T : dw_B} {a : Nat} {c : pm_C} (h : dw_o18 p Z a c) : dw_od p (dw_bb 28 T ++ Z) a c := by
  intro B hB
  have g := h (B ++ dw_bb 28 T) (by rw [List.length_append, hB]; rfl)
  simp only [List.append_assoc] at g ⊢
  exact g
theorem dw_lcT {p Z : pm_H} {N : dw_B} {l : Nat} {n : Int32} {w : dw_W} (h : dw_LW p Z l n w) : dw_lc (p ++ dw_bb 19 N) Z l n w := ⟨dw_odT h.1, fun q hq => by
  obtain ⟨h1, h2, f, h3, h4⟩ := h.2 q hq
  exact ⟨h1, h2, f, dw_odT h3, h4⟩⟩
theorem dw_lcN {p Z : pm_H} {T : dw_B} {l : Nat} {n : Int32} {w : dw_W} (h : dw_LW p Z l n w) : dw_lc p (dw_bb 28 T ++ Z) l n w := ⟨dw_odN h.1, fun q hq => by
  obtain ⟨h1, h2, f, h3, h4⟩ := h.2 q hq
  exact ⟨h1, h2, f, dw_odN h3, h4⟩⟩
theorem dw_vT (p : pm_H) (N : dw_B) (l : Nat) (m y : Int32) (ho cl : Int64) (s : dw_L) (k : Nat → Int32) (Z : pm_H) : dw_cl p N (l, m, y, ho, cl, s, k) Z = dw_lh (p ++ dw_bb 19 N) 28 l m y ho cl s k Z := by
  unfold dw_cl dw_lh
  rw [List.append_assoc]
  rfl
theorem dw_vN (p : pm_H) (T : dw_B) (l : Nat) (m y : Int32) (ho cl : Int64) (s : dw_L) (k : Nat → Int32) (Z : pm_H) : dw_cl p (l, m, y, ho, cl, s, k) T Z = dw_lh p 19 l m y ho cl s k (dw_bb 28 T ++ Z) := rfl
theorem dw_pT {p : pm_H} (hp : p.length = 19) (N : dw_B) : (p ++ dw_bb 19 N).length = 28 := by
  rw [List.length_append, hp]
  rfl
section CP
variable {p Z : pm_H} {N T : dw_B} {l : Nat} {m y : Int32} {ho cl : Int64} {s : dw_L} {k : Nat → Int32} {w : dw_W} {num : Int32}
theorem dw_ct_is (hp : p.length = 19) : op_is (dw_cl p N (l, m, y, ho, cl, s, k) Z) 28 1 = true := by
  simp only [dw_vT]
  exact dw_lis (dw_pT hp N)
theorem dw_ct_A0 (hp : p.length = 19) : op_A (dw_cl p N (l, m, y, ho, cl, s, k) Z) 28 1 0 = some (some 29) := by
  simp only [dw_vT]
  exact dw_lA0 (dw_pT hp N)
theorem dw_ct_I1 (hp : p.length = 19) : op_I (dw_cl p N (l, m, y, ho, cl, s, k) Z) 28 1 1 = some m := by
  simp only [dw_vT]
  exact dw_lI1 (dw_pT hp N)
theorem dw_ct_J2 (hp : p.length = 19) : op_J (dw_cl p N (l, m, y, ho, cl, s, k) Z) 28 1 2 = some ho := by
  simp only [dw_vT]
  exact dw_lJ2 (dw_pT hp N)
theorem dw_ct_J3 (hp : p.length = 19) : op_J (dw_cl p N (l, m, y, ho, cl, s, k) Z) 28 1 3 = some cl := by
  simp only [dw_vT]
  exact dw_lJ3 (dw_pT hp N)
theorem dw_ct_I4 (hp : p.length = 19) : op_I (dw_cl p N (l, m, y, ho, cl, s, k) Z) 28 1 4 = some y := by
  simp only [dw_vT]
  exact dw_lI4 (dw_pT hp N)
theorem dw_ct_A5 (hp : p.length = 19) : op_A (dw_cl p N (l, m, y, ho, cl, s, k) Z) 28 1 5 = some (some l) := by
  simp only [dw_vT]
  exact dw_lA5 (dw_pT hp N)
theorem dw_ct_S1 (hp : p.length = 19) (v : Int32) : op_S (dw_cl p N (l, m, y, ho, cl, s, k) Z) 28 1 1 (.int v) = some (dw_cl p N (l, v, y, ho, cl, s, k) Z) := by
  simp only [dw_vT]
  exact dw_lS1 (dw_pT hp N) v
theorem dw_ct_S2 (hp : p.length = 19) (v : Int64) : op_S (dw_cl p N (l, m, y, ho, cl, s, k) Z) 28 1 2 (.long v) = some (dw_cl p N (l, m, y, v, cl, s, k) Z) := by
  simp only [dw_vT]
  exact dw_lS2 (dw_pT hp N) v
theorem dw_ct_S3 (hp : p.length = 19) (v : Int64) : op_S (dw_cl p N (l, m, y, ho, cl, s, k) Z) 28 1 3 (.long v) = some (dw_cl p N (l, m, y, ho, v, s, k) Z) := by
  simp only [dw_vT]
  exact dw_lS3 (dw_pT hp N) v
theorem dw_ct_S5 (hp : p.length = 19) (v : Nat) : op_S (dw_cl p N (l, m, y, ho, cl, s, k) Z) 28 1 5 (.ref v) = some (dw_cl p N (v, m, y, ho, cl, s, k) Z) := by
  simp only [dw_vT]
  exact dw_lS5 (dw_pT hp N) v
theorem dw_ct_ln (hp : p.length = 19) : op_ln (dw_cl p N (l, m, y, ho, cl, s, k) Z) 29 = some 6 := by
  simp only [dw_vT]
  exact dw_lln (dw_pT hp N)
theorem dw_ct_aA (hp : p.length = 19) {i : Nat} (hi : i < 6) : op_aA (dw_cl p N (l, m, y, ho, cl, s, k) Z) 29 0 (nI i) = some (some (31 + i)) := by
  simp only [dw_vT]
  exact dw_laA (dw_pT hp N) hi
theorem dw_ct_dis (hp : p.length = 19) {i : Nat} (hi : i < 6) : op_is (dw_cl p N (l, m, y, ho, cl, s, k) Z) (31 + i) 0 = true := by
  simp only [dw_vT]
  exact dw_dis (dw_pT hp N) hi
theorem dw_ct_dI0 (hp : p.length = 19) {i : Nat} (hi : i < 6) : op_I (dw_cl p N (l, m, y, ho, cl, s, k) Z) (31 + i) 0 0 = some (nI i) := by
  simp only [dw_vT]
  exact dw_dI0 (dw_pT hp N) hi
theorem dw_ct_dI1 (hp : p.length = 19) {i : Nat} (hi : i < 6) : op_I (dw_cl p N (l, m, y, ho, cl, s, k) Z) (31 + i) 0 1 = some (s i 1) := by
  simp only [dw_vT]
  exact dw_dI1 (dw_pT hp N) hi
theorem dw_ct_dS1 (hp : p.length = 19) {i : Nat} (hi : i < 6) (v : Int32) : op_S (dw_cl p N (l, m, y, ho, cl, s, k) Z) (31 + i) 0 1 (.int v) = some (dw_cl p N (l, m, y, ho, cl, dw_set s i 1 v, k) Z) := by
  simp only [dw_vT]
  exact dw_dS1 (dw_pT hp N) hi v
theorem dw_ct_dI2 (hp : p.length = 19) {i : Nat} (hi : i < 6) : op_I (dw_cl p N (l, m, y, ho, cl, s, k) Z) (31 + i) 0 2 = some (s i 2) := by
  simp only [dw_vT]
  exact dw_dI2 (dw_pT hp N) hi
theorem dw_ct_dS2 (hp : p.length = 19) {i : Nat} (hi : i < 6) (v : Int32) : op_S (dw_cl p N (l, m, y, ho, cl, s, k) Z) (31 + i) 0 2 (.int v) = some (dw_cl p N (l, m, y, ho, cl, dw_set s i 2 v, k) Z) := by
  simp only [dw_vT]
  exact dw_dS2 (dw_pT hp N) hi v
theorem dw_ct_dI3 (hp : p.length = 19) {i : Nat} (hi : i < 6) : op_I (dw_cl p N (l, m, y, ho, cl, s, k) Z) (31 + i) 0 3 = some (s i 3) := by
  simp only [dw_vT]
  exact dw_dI3 (dw_pT hp N) hi
theorem dw_ct_dS3 (hp : p.length = 19) {i : Nat} (hi : i < 6) (v : Int32) : op_S (dw_cl p N (l, m, y, ho, cl, s, k) Z) (31 + i) 0 3 (.int v) = some (dw_cl p N (l, m, y, ho, cl, dw_set s i 3 v, k) Z) := by
  simp only [dw_vT]
  exact dw_dS3 (dw_pT hp N) hi v
theorem dw_ct_dI4 (hp : p.length = 19) {i : Nat} (hi : i < 6) : op_I (dw_cl p N (l, m, y, ho, cl, s, k) Z) (31 + i) 0 4 = some (s i 4) := by
  simp only [dw_vT]
  exact dw_dI4 (dw_pT hp N) hi
theorem dw_ct_dS4 (hp : p.length = 19) {i : Nat} (hi : i < 6) (v : Int32) : op_S (dw_cl p N (l, m, y, ho, cl, s, k) Z) (31 + i) 0 4 (.int v) = some (dw_cl p N (l, m, y, ho, cl, dw_set s i 4 v, k) Z) := by
  simp only [dw_vT]
  exact dw_dS4 (dw_pT hp N) hi v
theorem dw_ct_dI5 (hp : p.length = 19) {i : Nat} (hi : i < 6) : op_I (dw_cl p N (l, m, y, ho, cl, s, k) Z) (31 + i) 0 5 = some (s i 5) := by
  simp only [dw_vT]
  exact dw_dI5 (dw_pT hp N) hi
theorem dw_ct_dS5 (hp : p.length = 19) {i : Nat} (hi : i < 6) (v : Int32) : op_S (dw_cl p N (l, m, y, ho, cl, s, k) Z) (31 + i) 0 5 (.int v) = some (dw_cl p N (l, m, y, ho, cl, dw_set s i 5 v, k) Z) := by
  simp only [dw_vT]
  exact dw_dS5 (dw_pT hp N) hi v
theorem dw_ct_dI6 (hp : p.length = 19) {i : Nat} (hi : i < 6) : op_I (dw_cl p N (l, m, y, ho, cl, s, k) Z) (31 + i) 0 6 = some (s i 6) := by
  simp only [dw_vT]
  exact dw_dI6 (dw_pT hp N) hi
theorem dw_ct_dS6 (hp : p.length = 19) {i : Nat} (hi : i < 6) (v : Int32) : op_S (dw_cl p N (l, m, y, ho, cl, s, k) Z) (31 + i) 0 6 (.int v) = some (dw_cl p N (l, m, y, ho, cl, dw_set s i 6 v, k) Z) := by
  simp only [dw_vT]
  exact dw_dS6 (dw_pT hp N) hi v
theorem dw_ct_Dyd (hp : p.length = 19) {i : Nat} (hi : i < 6) : D_yards (dw_cl p N (l, m, y, ho, cl, s, k) Z) (31 + i) = some ((dw_cl p N (l, m, y, ho, cl, s, k) Z), dw_yds (s i 3) (s i 4)) := by
  simp only [dw_vT]
  exact dw_Dyd (dw_pT hp N) hi
theorem dw_ct_Dwk (hp : p.length = 19) {i : Nat} (hi : i < 6) (a : Int32) : D_walk (dw_cl p N (l, m, y, ho, cl, s, k) Z) (31 + i) a = some (dw_cl p N (l, m, y, ho, cl, dw_set s i 3 (dw_bd (s i 3 + a) 0 39), k) Z, ()) := by
  simp only [dw_vT]
  exact dw_Dwk (dw_pT hp N) hi a
theorem dw_ct_Dfg (hp : p.length = 19) {i : Nat} (hi : i < 6) : D_frontOrGone (dw_cl p N (l, m, y, ho, cl, s, k) Z) (31 + i) = some ((dw_cl p N (l, m, y, ho, cl, s, k) Z), dw_fg s i 3) := by
  simp only [dw_vT]
  exact dw_Dfg (dw_pT hp N) hi
theorem dw_ct_Dq (hp : p.length = 19) {i : Nat} (hi : i < 6) (a : Int32) : D_quality (dw_cl p N (l, m, y, ho, cl, s, k) Z) (31 + i) a = some ((dw_cl p N (l, m, y, ho, cl, s, k) Z), if a = 0 then s i 3 else if a = 1 then s i 4 else if a = 2 then s i 5 else if a = 3 then s i 1 else s i 2) := by
  simp only [dw_vT]
  exact dw_Dq (dw_pT hp N) hi a
theorem dw_ct_Dc (hp : p.length = 19) {i : Nat} (hi : i < 6) (a v : Int32) : D_change (dw_cl p N (l, m, y, ho, cl, s, k) Z) (31 + i) a v = some (dw_cl p N (l, m, y, ho, cl, dw_set s i (if a = 0 then 3 else if a = 1 then 4 else if a = 2 then 5 else if a = 3 then 1 else 2) v, k) Z, ()) := by
  simp only [dw_vT]
  exact dw_Dc (dw_pT hp N) hi a v
theorem dw_ct_onC (hp : p.length = 19) {i : Nat} (hi : i < 6) : L_onClover (dw_cl p N (l, m, y, ho, cl, s, k) Z) 28 (some (31 + i)) = some ((dw_cl p N (l, m, y, ho, cl, s, k) Z), dw_on cl (s i)) := by
  simp only [dw_vT]
  exact dw_LonC (dw_pT hp N) hi
theorem dw_ct_stn (hp : p.length = 19) {a : Int32} (e : dw_st s a 6 = none) : L_standing (dw_cl p N (l, m, y, ho, cl, s, k) Z) 28 a = some ((dw_cl p N (l, m, y, ho, cl, s, k) Z), none) := by
  simp only [dw_vT]
  exact by rw [dw_Lst (dw_pT hp N), e]; rfl
theorem dw_ct_sts (hp : p.length = 19) {a : Int32} {j : Nat} (e : dw_st s a 6 = some j) : L_standing (dw_cl p N (l, m, y, ho, cl, s, k) Z) 28 a = some ((dw_cl p N (l, m, y, ho, cl, s, k) Z), some (31 + j)) := by
  simp only [dw_vT]
  exact by rw [dw_Lst (dw_pT hp N), e]; rfl
theorem dw_ct_li (hp : p.length = 19) : L_living (dw_cl p N (l, m, y, ho, cl, s, k) Z) 28 = some ((dw_cl p N (l, m, y, ho, cl, s, k) Z), dw_live s 6) := by
  simp only [dw_vT]
  exact dw_Lli (dw_pT hp N)
theorem dw_ct_sa (hp : p.length = 19) : L_sand (dw_cl p N (l, m, y, ho, cl, s, k) Z) 28 = some ((dw_cl p N (l, m, y, ho, cl, s, k) Z), dw_sand s 6) := by
  simp only [dw_vT]
  exact dw_Lsa (dw_pT hp N)
theorem dw_ct_bu (hp : p.length = 19) (hho : dw_small ho) : L_buried (dw_cl p N (l, m, y, ho, cl, s, k) Z) 28 = some ((dw_cl p N (l, m, y, ho, cl, s, k) Z), dw_bur ho s) := by
  simp only [dw_vT]
  exact dw_Lbu (dw_pT hp N) hho
theorem dw_ct_fo (hp : p.length = 19) (yv : Int32) : L_firstOver (dw_cl p N (l, m, y, ho, cl, s, k) Z) 28 yv = some ((dw_cl p N (l, m, y, ho, cl, s, k) Z), dw_find (dw_ov s yv) 6 0) := by
  simp only [dw_vT]
  exact dw_Lfo (dw_pT hp N) yv
theorem dw_ct_hh (hp : p.length = 19) (hho : dw_small ho) {i : Nat} (hi : i < 64) : L_hasHouse (dw_cl p N (l, m, y, ho, cl, s, k) Z) 28 (nI i) = some ((dw_cl p N (l, m, y, ho, cl, s, k) Z), if dw_tb ho i = true then 1 else 0) := by
  simp only [dw_vT]
  exact dw_Lhh (dw_pT hp N) hho hi
theorem dw_ct_sy (hp : p.length = 19) (hw : dw_LW p Z l num w) {i : Nat} (hi : i < 6) {q : Nat} (hq : q < 3) : ∃ k', L_says (dw_cl p N (l, m, y, ho, cl, s, k) Z) 28 (nI q) (some (31 + i)) = some (dw_cl p N (l, m, y, ho, cl, s, k') Z, dw_says w cl y (s i) q) := by
  simp only [dw_vT]
  exact dw_Lsy (dw_pT hp N) (dw_lcT hw) hi hq
theorem dw_ct_sd (hp : p.length = 19) (hw : dw_LW p Z l num w) {i : Nat} (hi : i < 6) : ∃ k', L_stride (dw_cl p N (l, m, y, ho, cl, s, k) Z) 28 (some (31 + i)) = some (dw_cl p N (l, m, y, ho, cl, s, k') Z, dw_stride w cl y (s i)) := by
  simp only [dw_vT]
  exact dw_Lsd (dw_pT hp N) (dw_lcT hw) hi
theorem dw_ct_gr (hp : p.length = 19) (hw : dw_LW p Z l num w) {i : Nat} (hi : i < 6) : ∃ k', L_growth (dw_cl p N (l, m, y, ho, cl, s, k) Z) 28 (some (31 + i)) = some (dw_cl p N (l, m, y, ho, cl, s, k') Z, dw_growth w cl y (s i)) := by
  simp only [dw_vT]
  exact dw_Lgr (dw_pT hp N) (dw_lcT hw) hi
theorem dw_ct_ne (hp : p.length = 19) (hw : dw_LW p Z l num w) {i : Nat} (hi : i < 6) : ∃ k', L_need (dw_cl p N (l, m, y, ho, cl, s, k) Z) 28 (some (31 + i)) = some (dw_cl p N (l, m, y, ho, cl, s, k') Z, dw_need w cl y (s i)) := by
  simp only [dw_vT]
  exact dw_Lne (dw_pT hp N) (dw_lcT hw) hi
theorem dw_ct_pa (hp : p.length = 19) (hw : dw_LW p Z l num w)  : ∃ k', L_pass (dw_cl p N (l, m, y, ho, cl, s, k) Z) 28 = some (dw_cl p N (l, m, y + 1, ho, cl, dw_turn w cl y s 6, k') Z, ()) := by
  simp only [dw_vT]
  exact dw_Lpa (dw_pT hp N) (dw_lcT hw)
theorem dw_cn_is (hp : p.length = 19) : op_is (dw_cl p (l, m, y, ho, cl, s, k) T Z) 19 1 = true := by
  simp only [dw_vN]
  exact dw_lis hp
theorem dw_cn_A0 (hp : p.length = 19) : op_A (dw_cl p (l, m, y, ho, cl, s, k) T Z) 19 1 0 = some (some 20) := by
  simp only [dw_vN]
  exact dw_lA0 hp
theorem dw_cn_I1 (hp : p.length = 19) : op_I (dw_cl p (l, m, y, ho, cl, s, k) T Z) 19 1 1 = some m := by
  simp only [dw_vN]
  exact dw_lI1 hp
theorem dw_cn_J2 (hp : p.length = 19) : op_J (dw_cl p (l, m, y, ho, cl, s, k) T Z) 19 1 2 = some ho := by
  simp only [dw_vN]
  exact dw_lJ2 hp
theorem dw_cn_J3 (hp : p.length = 19) : op_J (dw_cl p (l, m, y, ho, cl, s, k) T Z) 19 1 3 = some cl := by
  simp only [dw_vN]
  exact dw_lJ3 hp
theorem dw_cn_I4 (hp : p.length = 19) : op_I (dw_cl p (l, m, y, ho, cl, s, k) T Z) 19 1 4 = some y := by
  simp only [dw_vN]
  exact dw_lI4 hp
theorem dw_cn_A5 (hp : p.length = 19) : op_A (dw_cl p (l, m, y, ho, cl, s, k) T Z) 19 1 5 = some (some l) := by
  simp only [dw_vN]
  exact dw_lA5 hp
theorem dw_cn_S1 (hp : p.length = 19) (v : Int32) : op_S (dw_cl p (l, m, y, ho, cl, s, k) T Z) 19 1 1 (.int v) = some (dw_cl p (l, v, y, ho, cl, s, k) T Z) := by
  simp only [dw_vN]
  exact dw_lS1 hp v
theorem dw_cn_S2 (hp : p.length = 19) (v : Int64) : op_S (dw_cl p (l, m, y, ho, cl, s, k) T Z) 19 1 2 (.long v) = some (dw_cl p (l, m, y, v, cl, s, k) T Z) := by
  simp only [dw_vN]
  exact dw_lS2 hp v
theorem dw_cn_S3 (hp : p.length = 19) (v : Int64) : op_S (dw_cl p (l, m, y, ho, cl, s, k) T Z) 19 1 3 (.long v) = some (dw_cl p (l, m, y, ho, v, s, k) T Z) := by
  simp only [dw_vN]
  exact dw_lS3 hp v
theorem dw_cn_S5 (hp : p.length = 19) (v : Nat) : op_S (dw_cl p (l, m, y, ho, cl, s, k) T Z) 19 1 5 (.ref v) = some (dw_cl p (v, m, y, ho, cl, s, k) T Z) := by
  simp only [dw_vN]
  exact dw_lS5 hp v
theorem dw_cn_ln (hp : p.length = 19) : op_ln (dw_cl p (l, m, y, ho, cl, s, k) T Z) 20 = some 6 := by
  simp only [dw_vN]
  exact dw_lln hp
theorem dw_cn_aA (hp : p.length = 19) {i : Nat} (hi : i < 6) : op_aA (dw_cl p (l, m, y, ho, cl, s, k) T Z) 20 0 (nI i) = some (some (22 + i)) := by
  simp only [dw_vN]
  exact dw_laA hp hi
theorem dw_cn_dis (hp : p.length = 19) {i : Nat} (hi : i < 6) : op_is (dw_cl p (l, m, y, ho, cl, s, k) T Z) (22 + i) 0 = true := by
  simp only [dw_vN]
  exact dw_dis hp hi
theorem dw_cn_dI0 (hp : p.length = 19) {i : Nat} (hi : i < 6) : op_I (dw_cl p (l, m, y, ho, cl, s, k) T Z) (22 + i) 0 0 = some (nI i) := by
  simp only [dw_vN]
  exact dw_dI0 hp hi
theorem dw_cn_dI1 (hp : p.length = 19) {i : Nat} (hi : i < 6) : op_I (dw_cl p (l, m, y, ho, cl, s, k) T Z) (22 + i) 0 1 = some (s i 1) := by
  simp only [dw_vN]
  exact dw_dI1 hp hi
theorem dw_cn_dS1 (hp : p.length = 19) {i : Nat} (hi : i < 6) (v : Int32) : op_S (dw_cl p (l, m, y, ho, cl, s, k) T Z) (22 + i) 0 1 (.int v) = some (dw_cl p (l, m, y, ho, cl, dw_set s i 1 v, k) T Z) := by
  simp only [dw_vN]
  exact dw_dS1 hp hi v
theorem dw_cn_dI2 (hp : p.length = 19) {i : Nat} (hi : i < 6) : op_I (dw_cl p (l, m, y, ho, cl, s, k) T Z) (22 + i) 0 2 = some (s i 2) := by
  simp only [dw_vN]
  exact dw_dI2 hp hi
theorem dw_cn_dS2 (hp : p.length = 19) {i : Nat} (hi : i < 6) (v : Int32) : op_S (dw_cl p (l, m, y, ho, cl, s, k) T Z) (22 + i) 0 2 (.int v) = some (dw_cl p (l, m, y, ho, cl, dw_set s i 2 v, k) T Z) := by
  simp only [dw_vN]
  exact dw_dS2 hp hi v
theorem dw_cn_dI3 (hp : p.length = 19) {i : Nat} (hi : i < 6) : op_I (dw_cl p (l, m, y, ho, cl, s, k) T Z) (22 + i) 0 3 = some (s i 3) := by
  simp only [dw_vN]
  exact dw_dI3 hp hi
theorem dw_cn_dS3 (hp : p.length = 19) {i : Nat} (hi : i < 6) (v : Int32) : op_S (dw_cl p (l, m, y, ho, cl, s, k) T Z) (22 + i) 0 3 (.int v) = some (dw_cl p (l, m, y, ho, cl, dw_set s i 3 v, k) T Z) := by
  simp only [dw_vN]
  exact dw_dS3 hp hi v
theorem dw_cn_dI4 (hp : p.length = 19) {i : Nat} (hi : i < 6) : op_I (dw_cl p (l, m, y, ho, cl, s, k) T Z) (22 + i) 0 4 = some (s i 4) := by
  simp only [dw_vN]
  exact dw_dI4 hp hi
theorem dw_cn_dS4 (hp : p.length = 19) {i : Nat} (hi : i < 6) (v : Int32) : op_S (dw_cl p (l, m, y, ho, cl, s, k) T Z) (22 + i) 0 4 (.int v) = some (dw_cl p (l, m, y, ho, cl, dw_set s i 4 v, k) T Z) := by
  simp only [dw_vN]
  exact dw_dS4 hp hi v
theorem dw_cn_dI5 (hp : p.length = 19) {i : Nat} (hi : i < 6) : op_I (dw_cl p (l, m, y, ho, cl, s, k) T Z) (22 + i) 0 5 = some (s i 5) := by
  simp only [dw_vN]
  exact dw_dI5 hp hi
theorem dw_cn_dS5 (hp : p.length = 19) {i : Nat} (hi : i < 6) (v : Int32) : op_S (dw_cl p (l, m, y, ho, cl, s, k) T Z) (22 + i) 0 5 (.int v) = some (dw_cl p (l, m, y, ho, cl, dw_set s i 5 v, k) T Z) := by
  simp only [dw_vN]
  exact dw_dS5 hp hi v
theorem dw_cn_dI6 (hp : p.length = 19) {i : Nat} (hi : i < 6) : op_I (dw_cl p (l, m, y, ho, cl, s, k) T Z) (22 + i) 0 6 = some (s i 6) := by
  simp only [dw_vN]
  exact dw_dI6 hp hi
theorem dw_cn_dS6 (hp : p.length = 19) {i : Nat} (hi : i < 6) (v : Int32) : op_S (dw_cl p (l, m, y, ho, cl, s, k) T Z) (22 + i) 0 6 (.int v) = some (dw_cl p (l, m, y, ho, cl, dw_set s i 6 v, k) T Z) := by
  simp only [dw_vN]
  exact dw_dS6 hp hi v
theorem dw_cn_Dyd (hp : p.length = 19) {i : Nat} (hi : i < 6) : D_yards (dw_cl p (l, m, y, ho, cl, s, k) T Z) (22 + i) = some ((dw_cl p (l, m, y, ho, cl, s, k) T Z), dw_yds (s i 3) (s i 4)) := by
  simp only [dw_vN]
  exact dw_Dyd hp hi
theorem dw_cn_Dwk (hp : p.length = 19) {i : Nat} (hi : i < 6) (a : Int32) : D_walk (dw_cl p (l, m, y, ho, cl, s, k) T Z) (22 + i) a = some (dw_cl p (l, m, y, ho, cl, dw_set s i 3 (dw_bd (s i 3 + a) 0 39), k) T Z, ()) := by
  simp only [dw_vN]
  exact dw_Dwk hp hi a
theorem dw_cn_Dfg (hp : p.length = 19) {i : Nat} (hi : i < 6) : D_frontOrGone (dw_cl p (l, m, y, ho, cl, s, k) T Z) (22 + i) = some ((dw_cl p (l, m, y, ho, cl, s, k) T Z), dw_fg s i 3) := by
  simp only [dw_vN]
  exact dw_Dfg hp hi
theorem dw_cn_Dq (hp : p.length = 19) {i : Nat} (hi : i < 6) (a : Int32) : D_quality (dw_cl p (l, m, y, ho, cl, s, k) T Z) (22 + i) a = some ((dw_cl p (l, m, y, ho, cl, s, k) T Z), if a = 0 then s i 3 else if a = 1 then s i 4 else if a = 2 then s i 5 else if a = 3 then s i 1 else s i 2) := by
  simp only [dw_vN]
  exact dw_Dq hp hi a
theorem dw_cn_Dc (hp : p.length = 19) {i : Nat} (hi : i < 6) (a v : Int32) : D_change (dw_cl p (l, m, y, ho, cl, s, k) T Z) (22 + i) a v = some (dw_cl p (l, m, y, ho, cl, dw_set s i (if a = 0 then 3 else if a = 1 then 4 else if a = 2 then 5 else if a = 3 then 1 else 2) v, k) T Z, ()) := by
  simp only [dw_vN]
  exact dw_Dc hp hi a v
theorem dw_cn_onC (hp : p.length = 19) {i : Nat} (hi : i < 6) : L_onClover (dw_cl p (l, m, y, ho, cl, s, k) T Z) 19 (some (22 + i)) = some ((dw_cl p (l, m, y, ho, cl, s, k) T Z), dw_on cl (s i)) := by
  simp only [dw_vN]
  exact dw_LonC hp hi
theorem dw_cn_stn (hp : p.length = 19) {a : Int32} (e : dw_st s a 6 = none) : L_standing (dw_cl p (l, m, y, ho, cl, s, k) T Z) 19 a = some ((dw_cl p (l, m, y, ho, cl, s, k) T Z), none) := by
  simp only [dw_vN]
  exact by rw [dw_Lst hp, e]; rfl
theorem dw_cn_sts (hp : p.length = 19) {a : Int32} {j : Nat} (e : dw_st s a 6 = some j) : L_standing (dw_cl p (l, m, y, ho, cl, s, k) T Z) 19 a = some ((dw_cl p (l, m, y, ho, cl, s, k) T Z), some (22 + j)) := by
  simp only [dw_vN]
  exact by rw [dw_Lst hp, e]; rfl
theorem dw_cn_li (hp : p.length = 19) : L_living (dw_cl p (l, m, y, ho, cl, s, k) T Z) 19 = some ((dw_cl p (l, m, y, ho, cl, s, k) T Z), dw_live s 6) := by
  simp only [dw_vN]
  exact dw_Lli hp
theorem dw_cn_sa (hp : p.length = 19) : L_sand (dw_cl p (l, m, y, ho, cl, s, k) T Z) 19 = some ((dw_cl p (l, m, y, ho, cl, s, k) T Z), dw_sand s 6) := by
  simp only [dw_vN]
  exact dw_Lsa hp
theorem dw_cn_bu (hp : p.length = 19) (hho : dw_small ho) : L_buried (dw_cl p (l, m, y, ho, cl, s, k) T Z) 19 = some ((dw_cl p (l, m, y, ho, cl, s, k) T Z), dw_bur ho s) := by
  simp only [dw_vN]
  exact dw_Lbu hp hho
theorem dw_cn_fo (hp : p.length = 19) (yv : Int32) : L_firstOver (dw_cl p (l, m, y, ho, cl, s, k) T Z) 19 yv = some ((dw_cl p (l, m, y, ho, cl, s, k) T Z), dw_find (dw_ov s yv) 6 0) := by
  simp only [dw_vN]
  exact dw_Lfo hp yv
theorem dw_cn_hh (hp : p.length = 19) (hho : dw_small ho) {i : Nat} (hi : i < 64) : L_hasHouse (dw_cl p (l, m, y, ho, cl, s, k) T Z) 19 (nI i) = some ((dw_cl p (l, m, y, ho, cl, s, k) T Z), if dw_tb ho i = true then 1 else 0) := by
  simp only [dw_vN]
  exact dw_Lhh hp hho hi
theorem dw_cn_sy (hp : p.length = 19) (hw : dw_LW p Z l num w) {i : Nat} (hi : i < 6) {q : Nat} (hq : q < 3) : ∃ k', L_says (dw_cl p (l, m, y, ho, cl, s, k) T Z) 19 (nI q) (some (22 + i)) = some (dw_cl p (l, m, y, ho, cl, s, k') T Z, dw_says w cl y (s i) q) := by
  simp only [dw_vN]
  exact dw_Lsy hp (dw_lcN hw) hi hq
theorem dw_cn_sd (hp : p.length = 19) (hw : dw_LW p Z l num w) {i : Nat} (hi : i < 6) : ∃ k', L_stride (dw_cl p (l, m, y, ho, cl, s, k) T Z) 19 (some (22 + i)) = some (dw_cl p (l, m, y, ho, cl, s, k') T Z, dw_stride w cl y (s i)) := by
  simp only [dw_vN]
  exact dw_Lsd hp (dw_lcN hw) hi
theorem dw_cn_gr (hp : p.length = 19) (hw : dw_LW p Z l num w) {i : Nat} (hi : i < 6) : ∃ k', L_growth (dw_cl p (l, m, y, ho, cl, s, k) T Z) 19 (some (22 + i)) = some (dw_cl p (l, m, y, ho, cl, s, k') T Z, dw_growth w cl y (s i)) := by
  simp only [dw_vN]
  exact dw_Lgr hp (dw_lcN hw) hi
theorem dw_cn_ne (hp : p.length = 19) (hw : dw_LW p Z l num w) {i : Nat} (hi : i < 6) : ∃ k', L_need (dw_cl p (l, m, y, ho, cl, s, k) T Z) 19 (some (22 + i)) = some (dw_cl p (l, m, y, ho, cl, s, k') T Z, dw_need w cl y (s i)) := by
  simp only [dw_vN]
  exact dw_Lne hp (dw_lcN hw) hi
theorem dw_cn_pa (hp : p.length = 19) (hw : dw_LW p Z l num w)  : ∃ k', L_pass (dw_cl p (l, m, y, ho, cl, s, k) T Z) 19 = some (dw_cl p (l, m, y + 1, ho, cl, dw_turn w cl y s 6, k') T Z, ()) := by
  simp only [dw_vN]
  exact dw_Lpa hp (dw_lcN hw)
/-- the thought becomes the land that is -/
theorem dw_cbe {lN : Nat} {mN yN : Int32} {hN cN : Int64} {sN : dw_L} {kN : Nat → Int32} (hp : p.length = 19) (hw : dw_WFA sN) : L_become (dw_cl p (lN, mN, yN, hN, cN, sN, kN) (l, m, y, ho, cl, s, k) Z) 28 (some 19) = some (dw_cl p (lN, mN, yN, hN, cN, sN, kN) (lN, mN, yN, hN, cN, sN, k) Z, ()) := by
  simp only [dw_vT]
  have g : dw_ls (p ++ dw_bb 19 (lN, mN, yN, hN, cN, sN, kN)) Z 19 lN mN yN hN cN sN kN := by
    have g2 := dw_ls_before (P1 := p) (P2 := []) (Q := Z) (t2 := 19) (l2 := lN) (m2 := mN) (y2 := yN) (ho2 := hN) (cl2 := cN) (s2 := sN) (k2 := kN) hp
    rw [List.append_nil] at g2
    exact g2
  exact dw_Lbe (dw_pT hp _) g hw
end CP
section CQ
variable {N T : dw_B} {Z : pm_H} {tk : Int32} {kp : Value} {tf : Nat → Option Nat} {ti B C U : Nat → Int32} {H : dw_H}
theorem dw_x_is : op_is (dw_cl (dw_pre tk kp tf ti B C U H) N T Z) 0 5 = true := rfl
theorem dw_x_f0 : op_A (dw_cl (dw_pre tk kp tf ti B C U H) N T Z) 0 5 0 = some (some 1) := rfl
theorem dw_x_f1 : op_I (dw_cl (dw_pre tk kp tf ti B C U H) N T Z) 0 5 1 = some tk := rfl
theorem dw_x_t1 (v : Int32) : op_S (dw_cl (dw_pre tk kp tf ti B C U H) N T Z) 0 5 1 (.int v) = some (dw_cl (dw_pre v kp tf ti B C U H) N T Z) := rfl
theorem dw_x_f2 : op_A (dw_cl (dw_pre tk kp tf ti B C U H) N T Z) 0 5 2 = some (some 2) := rfl
theorem dw_x_f3 : op_A (dw_cl (dw_pre tk kp tf ti B C U H) N T Z) 0 5 3 = some (some 19) := rfl
theorem dw_x_f4 : op_A (dw_cl (dw_pre tk kp tf ti B C U H) N T Z) 0 5 4 = some (some 28) := rfl
theorem dw_x_t5 (v : Nat) : op_S (dw_cl (dw_pre tk kp tf ti B C U H) N T Z) 0 5 5 (.ref v) = some (dw_cl (dw_pre tk (.ref v) tf ti B C U H) N T Z) := rfl
theorem dw_x_f6 : op_A (dw_cl (dw_pre tk kp tf ti B C U H) N T Z) 0 5 6 = some (some 5) := rfl
theorem dw_x_f7 : op_A (dw_cl (dw_pre tk kp tf ti B C U H) N T Z) 0 5 7 = some (some 6) := rfl
theorem dw_x_tis : op_is (dw_cl (dw_pre tk kp tf ti B C U H) N T Z) 2 4 = true := rfl
theorem dw_x_p0 : op_A (dw_cl (dw_pre tk kp tf ti B C U H) N T Z) 2 4 0 = some (some 3) := rfl
theorem dw_x_p6 : op_A (dw_cl (dw_pre tk kp tf ti B C U H) N T Z) 2 4 6 = some (some 4) := rfl
theorem dw_x_p1 : op_I (dw_cl (dw_pre tk kp tf ti B C U H) N T Z) 2 4 1 = some (ti 1) := rfl
theorem dw_x_q1 (v : Int32) : op_S (dw_cl (dw_pre tk kp tf ti B C U H) N T Z) 2 4 1 (.int v) = some (dw_cl (dw_pre tk kp tf (upd ti 1 v) B C U H) N T Z) := rfl
theorem dw_x_p2 : op_I (dw_cl (dw_pre tk kp tf ti B C U H) N T Z) 2 4 2 = some (ti 2) := rfl
theorem dw_x_q2 (v : Int32) : op_S (dw_cl (dw_pre tk kp tf ti B C U H) N T Z) 2 4 2 (.int v) = some (dw_cl (dw_pre tk kp tf (upd ti 2 v) B C U H) N T Z) := rfl
theorem dw_x_p3 : op_I (dw_cl (dw_pre tk kp tf ti B C U H) N T Z) 2 4 3 = some (ti 3) := rfl
theorem dw_x_q3 (v : Int32) : op_S (dw_cl (dw_pre tk kp tf ti B C U H) N T Z) 2 4 3 (.int v) = some (dw_cl (dw_pre tk kp tf (upd ti 3 v) B C U H) N T Z) := rfl
theorem dw_x_p4 : op_I (dw_cl (dw_pre tk kp tf ti B C U H) N T Z) 2 4 4 = some (ti 4) := rfl
theorem dw_x_q4 (v : Int32) : op_S (dw_cl (dw_pre tk kp tf ti B C U H) N T Z) 2 4 4 (.int v) = some (dw_cl (dw_pre tk kp tf (upd ti 4 v) B C U H) N T Z) := rfl
theorem dw_x_p5 : op_I (dw_cl (dw_pre tk kp tf ti B C U H) N T Z) 2 4 5 = some (ti 5) := rfl
theorem dw_x_q5 (v : Int32) : op_S (dw_cl (dw_pre tk kp tf ti B C U H) N T Z) 2 4 5 (.int v) = some (dw_cl (dw_pre tk kp tf (upd ti 5 v) B C U H) N T Z) := rfl
theorem dw_x_p7 : op_I (dw_cl (dw_pre tk kp tf ti B C U H) N T Z) 2 4 7 = some (ti 7) := rfl
theorem dw_x_q7 (v : Int32) : op_S (dw_cl (dw_pre tk kp tf ti B C U H) N T Z) 2 4 7 (.int v) = some (dw_cl (dw_pre tk kp tf (upd ti 7 v) B C U H) N T Z) := rfl
theorem dw_x_ln1 : op_ln (dw_cl (dw_pre tk kp tf ti B C U H) N T Z) 1 = some 6 := rfl
theorem dw_x_ln3 : op_ln (dw_cl (dw_pre tk kp tf ti B C U H) N T Z) 3 = some 160 := rfl
theorem dw_x_ln4 : op_ln (dw_cl (dw_pre tk kp tf ti B C U H) N T Z) 4 = some 160 := rfl
theorem dw_x_ln5 : op_ln (dw_cl (dw_pre tk kp tf ti B C U H) N T Z) 5 = some 4 := rfl
theorem dw_x_ln6 : op_ln (dw_cl (dw_pre tk kp tf ti B C U H) N T Z) 6 = some 40 := rfl
theorem dw_x_a6 {i : Nat} (hi : i < 40) : op_aI (dw_cl (dw_pre tk kp tf ti B C U H) N T Z) 6 (nI i) = some (U i) := op_aI_of (f := U) rfl hi (by decide)
theorem dw_x_w6 {i : Nat} (hi : i < 40) (v : Int32) : op_sI (dw_cl (dw_pre tk kp tf ti B C U H) N T Z) 6 (nI i) v = some (dw_cl (dw_pre tk kp tf ti B C (upd U i v) H) N T Z) := (op_sI_of (f := U) v rfl hi (by decide)).trans rfl
theorem dw_x_a4 {i : Nat} (hi : i < 160) : op_aI (dw_cl (dw_pre tk kp tf ti B C U H) N T Z) 4 (nI i) = some (C i) := op_aI_of (f := C) rfl hi (by decide)
theorem dw_x_w4 {i : Nat} (hi : i < 160) (v : Int32) : op_sI (dw_cl (dw_pre tk kp tf ti B C U H) N T Z) 4 (nI i) v = some (dw_cl (dw_pre tk kp tf ti B (upd C i v) U H) N T Z) := (op_sI_of (f := C) v rfl hi (by decide)).trans rfl
theorem dw_x_pl : (dw_pre tk kp tf ti B C U H).length = 19 := rfl
end CQ
