/-! THE CLASS'S HEAP TELLS OF A STATE -/
def dw_wt0 : dw_W := ([2], [1, 9, 10003, 10012, 10011], [1])
/-- a law among what was added -/
def dw_LZ (Z : pm_H) (j : Nat) (n : Int32) (w : dw_W) : Prop := Z[j]? = some (.inr (2, [.int n, .ref (37 + j + 1), .ref (37 + j + 2), .ref (37 + j + 3)])) ∧ ∀ q, q < 3 → dw_ok (dw_row w q) 0 ∧ (dw_row w q).length ≤ 160 ∧ ∃ f : Nat → Int32, Z[j + 1 + q]? = some (.inl (0, (dw_row w q).length, .inl f)) ∧ ∀ i, i < (dw_row w q).length → f i = nI ((dw_row w q).getD i 0)
def dw_LP (Z : pm_H) (a : Nat) (n : Int32) (w : dw_W) : Prop := (a = 15 ∧ n = 0 ∧ w = dw_wt0) ∨ ∃ j, a = 37 + j ∧ dw_LZ Z j n w
theorem dw_o18Z {p Z : pm_H} (hp : p.length = 19) {j : Nat} {c : pm_C} (h : Z[j]? = some c) : dw_o18 p Z (37 + j) c := by
  intro M hM
  rw [List.getElem?_append_right (by omega), List.getElem?_append_right (by omega), show 37 + j - p.length - M.length = j by omega]
  exact h
theorem dw_LWZ {p Z : pm_H} (hp : p.length = 19) {j : Nat} {n : Int32} {w : dw_W} (h : dw_LZ Z j n w) : dw_LW p Z (37 + j) n w := ⟨dw_o18Z hp h.1, fun q hq => by
  obtain ⟨h1, h2, f, h3, h4⟩ := h.2 q hq
  refine ⟨h1, h2, f, ?_, h4⟩
  have g := dw_o18Z hp h3
  rw [show 37 + (j + 1 + q) = 37 + j + 1 + q by omega] at g
  exact g⟩
section CQ
variable {Z : pm_H} {tk : Int32} {kp : Value} {tf : Nat → Option Nat} {ti B C U : Nat → Int32} {H : dw_H}
theorem dw_LW15 : dw_LW (dw_pre tk kp tf ti B C U H) Z 15 0 dw_wt0 := by
  refine ⟨fun M hM => rfl, fun q hq => ?_⟩
  rcases (by omega : q = 0 ∨ q = 1 ∨ q = 2) with rfl | rfl | rfl
  · refine ⟨by simp [dw_wt0, dw_row, dw_ok], by decide, dw_law0a, fun M hM => rfl, fun j hj => ?_⟩
    have hj' : j < 1 := hj
    rw [show j = 0 by omega]
    rfl
  · refine ⟨by simp [dw_wt0, dw_row, dw_ok], by decide, dw_law0b, fun M hM => rfl, fun j hj => ?_⟩
    have hj' : j < 5 := hj
    rcases (by omega : j = 0 ∨ j = 1 ∨ j = 2 ∨ j = 3 ∨ j = 4) with rfl | rfl | rfl | rfl | rfl <;> rfl
  · refine ⟨by simp [dw_wt0, dw_row, dw_ok], by decide, dw_law0c, fun M hM => rfl, fun j hj => ?_⟩
    have hj' : j < 1 := hj
    rw [show j = 0 by omega]
    rfl
theorem dw_LWP {a : Nat} {n : Int32} {w : dw_W} (h : dw_LP Z a n w) : dw_LW (dw_pre tk kp tf ti B C U H) Z a n w := by
  rcases h with ⟨rfl, rfl, rfl⟩ | ⟨j, rfl, h⟩
  · exact dw_LW15
  · exact dw_LWZ dw_x_pl h
end CQ
def dw_TP (Z : pm_H) (tf : Nat → Option Nat) (tx : Nat) (wt : Nat → dw_W) : Prop := ∀ t, t < tx → ∃ a, tf t = some a ∧ dw_LP Z a (nI t) (wt t)
def dw_CI (kp : Value) (Z : pm_H) (tf : Nat → Option Nat) : Option dw_Ln → Prop
  | none => kp = .null
  | some (m, s, yy, ho, cl, r) => ∃ a Z1 Z2 l k, kp = .ref a ∧ Z = Z1 ++ (dw_bk a l (nI m) (nI yy) ho cl s k ++ Z2) ∧ a = 37 + Z1.length ∧ tf r = some l
def dw_ic : Option dw_Ln → Nat
  | none => 0
  | some _ => 1
/-- so much was added at most -/
def dw_ZB (Z : pm_H) (tx : Nat) (im : Option dw_Ln) : Prop := Z.length ≤ 4 * tx + 9 * dw_ic im ∧ pm_sl Z ≤ 500 * tx + 100 * dw_ic im
/-- the class's heap, piece by piece -/
def dw_CX (kp : Value) (tf : Nat → Option Nat) (ti B : Nat → Int32) (l : Nat) (Z : pm_H) : dw_S → Prop
  | ((_, _, _, _, _, r), (tx, wt), (tp, tb), im, _) => dw_TP Z tf tx wt ∧ tf r = some l ∧ ti 1 = nI tp ∧ (∀ j, j < tp → B j = (nI (tb j)).toInt8.toInt32) ∧ dw_CI kp Z tf im ∧ dw_ZB Z tx im
def dw_HE (H H' : dw_H) : Prop := ∀ k, k < 4 → H.1 k = H'.1 k ∧ H.2.1 k = H'.2.1 k ∧ ∀ j, j < 40 → H.2.2 k j = H'.2.2 k j
theorem dw_HE_rfl (H : dw_H) : dw_HE H H := fun _ _ => ⟨rfl, rfl, fun _ _ => rfl⟩
/-- it ends, and its heap tells of the state (sheets as far as they are seen) -/
def dw_Cgo {α : Type} (o : Option (pm_H × α)) : dw_S → α → Prop
  | ((m, s, yy, ho, cl, r), (tx, wt), (tp, tb), im, H), v => ∃ kp tf ti B C U H' l k T Z, o = some (dw_cl (dw_pre (nI tx) kp tf ti B C U H') (l, nI m, nI yy, ho, cl, s, k) T Z, v) ∧ dw_HE H' H ∧ dw_CX kp tf ti B l Z ((m, s, yy, ho, cl, r), (tx, wt), (tp, tb), im, H')
section CO
variable {T : dw_B} {Z : pm_H} {kp : Value} {tf : Nat → Option Nat} {ti B C U : Nat → Int32} {H : dw_H} {l : Nat} {k : Nat → Int32} {r m yy tx tp : Nat} {s : dw_L} {ho cl : Int64} {wt : Nat → dw_W} {tb : Nat → Nat} {im : Option dw_Ln}
theorem dw_Cgo_Ck {α : Type} {o : Option (pm_H × α)} {v : α} (h : dw_CX kp tf ti B l Z ((m, s, yy, ho, cl, r), (tx, wt), (tp, tb), im, H)) (g : dw_Ck o (dw_pre (nI tx) kp tf ti B C U H) (l, nI m, nI yy, ho, cl, s, k) Z v) : dw_Cgo o ((m, s, yy, ho, cl, r), (tx, wt), (tp, tb), im, H) v := by
  obtain ⟨T', e⟩ := g
  exact ⟨kp, tf, ti, B, C, U, H, l, k, T', Z, e, dw_HE_rfl H, h⟩
theorem dw_Cgo_id {α : Type} {v : α} (h : dw_CX kp tf ti B l Z ((m, s, yy, ho, cl, r), (tx, wt), (tp, tb), im, H)) : dw_Cgo (some (dw_cl (dw_pre (nI tx) kp tf ti B C U H) (l, nI m, nI yy, ho, cl, s, k) T Z, v)) ((m, s, yy, ho, cl, r), (tx, wt), (tp, tb), im, H) v := ⟨kp, tf, ti, B, C, U, H, l, k, T, Z, rfl, dw_HE_rfl H, h⟩
/-- the land's text -/
theorem dw_Claw (h : dw_CX kp tf ti B l Z ((m, s, yy, ho, cl, r), (tx, wt), (tp, tb), im, H)) (ok : dw_Ok ((m, s, yy, ho, cl, r), (tx, wt), (tp, tb), im, H)) : dw_LP Z l (nI r) (wt r) := by
  obtain ⟨h1, h2, _⟩ := h
  obtain ⟨⟨o1, o2, o3, o4, o5, o6, o7⟩, _⟩ := ok
  obtain ⟨a, e, g⟩ := h1 r o7
  rw [h2] at e
  injection e with e
  subst e
  exact g
theorem dw_Jic0 (h : pm_H) (x : Int32) : Ji_bitCount h x = (Ji_bitCount [] x).map (fun z => (h, z.2)) := rfl
theorem dw_Jic1 : ∀ n, n < 64 → (Ji_bitCount [] (nI n)).map (fun z => z.2) = some (nI (dw_pc n)) := by decide +kernel
theorem dw_Jic {n : Nat} (hn : n < 64) (h : pm_H) : Ji_bitCount h (nI n) = some (h, nI (dw_pc n)) := by
  have e := dw_Jic1 n hn
  rw [dw_Jic0]
  cases c : Ji_bitCount [] (nI n) with
  | none =>
    rw [c] at e
    exact absurd e (by simp)
  | some z =>
    rw [c] at e
    simp only [Option.map_some] at e ⊢
    injection e with e
    rw [e]
end CO
