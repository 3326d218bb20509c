/-! the grammar's methods call one another: n levels of them -/
abbrev T_fn : Type := pm_H → Nat → Int32 → Option (pm_H × Unit)
/-- either, one, denial -/
def T_knot : Nat → T_fn × T_fn × T_fn
  | 0 => (fun _ _ _ => none, fun _ _ _ => none, fun _ _ _ => none)
  | n + 1 => (T_either (T_both (T_denial (T_knot n).2.2 (T_sum (T_term (T_one (T_knot n).1 (T_knot n).2.1))))), T_one (T_knot n).1 (T_knot n).2.1, T_denial (T_knot n).2.2 (T_sum (T_term (T_one (T_knot n).1 (T_knot n).2.1))))
abbrev T_ok (d m : Nat) (f : T_fn) : Prop := ∀ (h : pm_H) (t : Nat) (x : Int32) (h' : pm_H), f h t x = some (h', ()) → pm_ev d m [.ref t, .int x] h none h'
theorem T_ok.to {d d' m : Nat} {f : T_fn} (h : T_ok d m f) (hd : d ≤ d') : T_ok d' m f := fun a t x b hB => pm_ev_to hd (h a t x b hB)
theorem P_T_knot (d : Nat) : ∀ n : Nat, T_ok (d + 6 * n + 8) 37 (T_knot n).1 ∧ T_ok (d + 6 * n + 8) 42 (T_knot n).2.1 ∧ T_ok (d + 6 * n + 8) 39 (T_knot n).2.2
  | 0 => ⟨fun _ _ _ _ h => (by cases h), fun _ _ _ _ h => (by cases h), fun _ _ _ _ h => (by cases h)⟩
  | n + 1 => by
    obtain ⟨h1, h2, h3⟩ := P_T_knot d n
    have one : T_ok (d + 6 * n + 1 + 8) 42 (T_one (T_knot n).1 (T_knot n).2.1) := fun h t x h' hB => P_T_one (d := d + 6 * n) _ h1 _ h2 hB
    have term : T_ok (d + 6 * n + 2 + 8) 41 (T_term (T_one (T_knot n).1 (T_knot n).2.1)) := fun h t x h' hB => P_T_term (d := d + 6 * n + 1) _ one hB
    have sum : T_ok (d + 6 * n + 3 + 8) 40 (T_sum (T_term (T_one (T_knot n).1 (T_knot n).2.1))) := fun h t x h' hB => P_T_sum (d := d + 6 * n + 2) _ term hB
    have den : T_ok (d + 6 * n + 4 + 8) 39 (T_denial (T_knot n).2.2 (T_sum (T_term (T_one (T_knot n).1 (T_knot n).2.1)))) := fun h t x h' hB => P_T_denial (d := d + 6 * n + 3) _ (h3.to (by omega)) _ sum hB
    have both : T_ok (d + 6 * n + 5 + 8) 38 (T_both (T_denial (T_knot n).2.2 (T_sum (T_term (T_one (T_knot n).1 (T_knot n).2.1))))) := fun h t x h' hB => P_T_both (d := d + 6 * n + 4) _ den hB
    have eith : T_ok (d + 6 * n + 6 + 8) 37 (T_either (T_both (T_denial (T_knot n).2.2 (T_sum (T_term (T_one (T_knot n).1 (T_knot n).2.1)))))) := fun h t x h' hB => P_T_either (d := d + 6 * n + 5) _ both hB
    exact ⟨eith, one.to (by omega), den.to (by omega)⟩
def T_eitherK : T_fn := (T_knot 7).1
theorem P_T_eitherK {d : Nat} {h h' : pm_H} {r : Unit} {t : Nat} {a1 : Int32} (hB : T_eitherK h t a1 = some (h', r)) : pm_ev (d + 64) 37 [.ref t, .int a1] h none h' := ((P_T_knot d 7).1.to (by omega)) h t a1 h' hB
