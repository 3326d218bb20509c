/-! text(): what it makes of the state; the class's new law -/
def dw_plaw (tb : Nat → Nat) (tp : Nat) : dw_W := ((dw_pq3 tb tp).2.2.2.2.take (dw_pq1 tb tp).2.2.2.2.length, ((dw_pq3 tb tp).2.2.2.2.drop (dw_pq1 tb tp).2.2.2.2.length).take ((dw_pq2 tb tp).2.2.2.2.length - (dw_pq1 tb tp).2.2.2.2.length), ((dw_pq3 tb tp).2.2.2.2.drop (dw_pq2 tb tp).2.2.2.2.length).take ((dw_pq3 tb tp).2.2.2.2.length - (dw_pq2 tb tp).2.2.2.2.length))
def dw_otext0 (l : dw_Ln) (tx : Nat) (wt : Nat → dw_W) (tb : Nat → Nat) (im : Option dw_Ln) (H : dw_H) (w : dw_W) : Option Nat → dw_S × Int32
  | some p => ((l, (tx, wt), (0, tb), im, H), -100 - nI p)
  | none => ((l, (tx + 1, fun t => if t = tx then w else wt t), (0, tb), im, H), nI tx)
def dw_otext : dw_S → dw_S × Int32
  | (l, (tx, wt), (tp, tb), im, H) => if tx = 6 then ((l, (tx, wt), (tp, tb), im, H), -4) else dw_otext0 l tx wt tb im H (dw_plaw tb tp) (dw_pflt tb tp)
theorem dw_slice {out : List Nat} {C : Nat → Int32} (hC : ∀ j, j < out.length → C j = nI (out.getD j 0)) {a n : Nat} (h : a + n ≤ out.length) : ((out.drop a).take n).length = n ∧ ∀ i, i < n → va_cpy C (fun _ => 0) a 0 n i = nI (((out.drop a).take n).getD i 0) := by
  refine ⟨by rw [List.length_take, List.length_drop]; omega, fun i hi => ?_⟩
  rw [pk_cpy_in (Nat.zero_le i) (by omega), Nat.sub_zero, hC _ (by omega), List.getD_eq_getElem?_getD, List.getD_eq_getElem?_getD, List.getElem?_take_of_lt hi, List.getElem?_drop]
theorem dw_LZ_new {Z : pm_H} {n : Int32} {C : Nat → Int32} {out : List Nat} {g k : Nat} (hC : ∀ j, j < out.length → C j = nI (out.getD j 0)) (hgk : g ≤ k) (hku : k ≤ out.length) (hu : out.length ≤ 160) {w : dw_W} (hw : w = (out.take g, (out.drop g).take (k - g), (out.drop k).take (out.length - k))) (hok : ∀ q, q < 3 → dw_ok (dw_row w q) 0) : dw_LZ (Z ++ dw_nl (37 + Z.length) n C g k out.length) Z.length n w := by
  have zg : ∀ j, j < 4 → (Z ++ dw_nl (37 + Z.length) n C g k out.length)[Z.length + j]? = (dw_nl (37 + Z.length) n C g k out.length)[j]? := by
    intro j hj
    have g2 := dw_gx (P := Z) (B := dw_nl (37 + Z.length) n C g k out.length) (Q := []) (t := Z.length) (j := j) rfl hj
    rw [List.append_nil] at g2
    exact g2
  obtain ⟨a1, a2⟩ := dw_slice (a := 0) (n := g) hC (by omega)
  obtain ⟨b1, b2⟩ := dw_slice (a := g) (n := k - g) hC (by omega)
  obtain ⟨c1, c2⟩ := dw_slice (a := k) (n := out.length - k) hC (by omega)
  rw [List.drop_zero] at a1 a2
  subst hw
  refine ⟨zg 0 (by decide), fun q hq => ⟨hok q hq, ?_⟩⟩
  rcases (by omega : q = 0 ∨ q = 1 ∨ q = 2) with rfl | rfl | rfl
  · have e : dw_row (out.take g, (out.drop g).take (k - g), (out.drop k).take (out.length - k)) 0 = out.take g := rfl
    rw [e, a1]
    exact ⟨by omega, _, zg 1 (by decide), a2⟩
  · have e : dw_row (out.take g, (out.drop g).take (k - g), (out.drop k).take (out.length - k)) 1 = (out.drop g).take (k - g) := rfl
    rw [e, b1]
    exact ⟨by omega, _, zg 2 (by decide), b2⟩
  · have e : dw_row (out.take g, (out.drop g).take (k - g), (out.drop k).take (out.length - k)) 2 = (out.drop k).take (out.length - k) := rfl
    rw [e, c1]
    exact ⟨by omega, _, zg 3 (by decide), c2⟩
