/-! AT THE LAW'S ENTRY: the classes, the strings -/
theorem dw_tin {w : Cond} (i : Nat) (h : lw_tbl[i]? = some w) : w ∈ lw_tbl := List.mem_of_getElem? h
section EN
variable {s : State} {b : Nat}
theorem dw_Kat (hts : ∀ w ∈ lw_tbl, w.before #[Value.ref b] s = true) : ∃ (D : va_G) (cA : Nat → ClassId), va_K D vwCl (pm_tys cA) s := by
  obtain ⟨c0, i0, k0⟩ := u_known (C := RX0) (T := TX0) (N := 7) (n := 7) hts inX0 (hts _ (dw_tin 171 (by decide +kernel)))
  obtain ⟨c1, i1, k1⟩ := u_known (C := RX1) (T := TX1) (N := 7) (n := 7) hts inX1 (hts _ (dw_tin 164 (by decide +kernel)))
  obtain ⟨c2, i2, k2⟩ := u_known (C := RX2) (T := TX2) (N := 4) (n := 4) hts inX2 (hts _ (dw_tin 141 (by decide +kernel)))
  obtain ⟨c3, i3, k3⟩ := u_known (C := RX3) (T := TX3) (N := 3) (n := 3) hts inX3 (hts _ (dw_tin 123 (by decide +kernel)))
  obtain ⟨c4, i4, k4⟩ := u_known (C := RX4) (T := TX4) (N := 8) (n := 8) hts inX4 (hts _ (dw_tin 87 (by decide +kernel)))
  obtain ⟨c5, i5, k5⟩ := u_known (C := RX5) (T := TX5) (N := 8) (n := 8) hts inX5 (hts _ (dw_tin 77 (by decide +kernel)))
  obtain ⟨c6, i6, k6⟩ := u_known (C := RX6) (T := TX6) (N := 36) (n := 36) hts inX6 (hts _ (dw_tin 782 (by decide +kernel)))
  obtain ⟨D, hD⟩ : ∃ D : va_G, ∀ (k : Nat) (q : vw_C), vwCl[k]? = some q → u_Kn s q.1 q.2.1 q.2.2 (D.1 k) (D.2 k) := by
    refine ⟨(fun k => if k = 0 then c0 else if k = 1 then c1 else if k = 2 then c2 else if k = 3 then c3 else if k = 4 then c4 else if k = 5 then c5 else c6, fun k => if k = 0 then i0 else if k = 1 then i1 else if k = 2 then i2 else if k = 3 then i3 else if k = 4 then i4 else if k = 5 then i5 else i6), ?_⟩
    intro k q hq
    match k, hq with
    | 0, hq => cases hq; exact k0
    | 1, hq => cases hq; exact k1
    | 2, hq => cases hq; exact k2
    | 3, hq => cases hq; exact k3
    | 4, hq => cases hq; exact k4
    | 5, hq => cases hq; exact k5
    | 6, hq => cases hq; exact k6
    | n + 7, hq => simp [vwCl] at hq
  obtain ⟨aI, kkI, cpI, fI1, fI2, fI3⟩ := Cond.arrayClass_spec (args := #[Value.ref b]) (first := s) (o := none) (s := s) (idx := []) (type := .int) (hts _ (dw_tin 120 (by decide +kernel)))
  obtain ⟨aJ, kkJ, cpJ, fJ1, fJ2, fJ3⟩ := Cond.arrayClass_spec (args := #[Value.ref b]) (first := s) (o := none) (s := s) (idx := []) (type := .long) (hts _ (dw_tin 943 (by decide +kernel)))
  obtain ⟨aB, kkB, cpB, fB1, fB2, fB3⟩ := Cond.arrayClass_spec (args := #[Value.ref b]) (first := s) (o := none) (s := s) (idx := []) (type := .byte) (hts _ (dw_tin 119 (by decide +kernel)))
  obtain ⟨cp0, a0, kk0, g01, g02, g03, g04, g05⟩ := Cond.arrayOver_spec (args := #[Value.ref b]) (first := s) (o := none) (s := s) (idx := []) (n := RX0) (hts _ (dw_tin 170 (by decide +kernel)))
  obtain ⟨cp2, a2, kk2, g21, g22, g23, g24, g25⟩ := Cond.arrayOver_spec (args := #[Value.ref b]) (first := s) (o := none) (s := s) (idx := []) (n := RX2) (hts _ (dw_tin 85 (by decide +kernel)))
  obtain ⟨cp3, a3, kk3, g31, g32, g33, g34, g35⟩ := Cond.arrayOver_spec (args := #[Value.ref b]) (first := s) (o := none) (s := s) (idx := []) (n := RX3) (hts _ (dw_tin 122 (by decide +kernel)))
  refine ⟨D, fun k => if k = 0 then aI else if k = 1 then aJ else if k = 2 then aB else if k = 3 then a0 else if k = 5 then a2 else a3, hD, fun k q hq => ?_⟩
  match k, hq with
  | 0, hq => cases hq; exact ⟨fun N z => ⟨fun k h => (by cases h), kkI, fI2, cpI, fI3⟩, fI1⟩
  | 1, hq => cases hq; exact ⟨fun N z => ⟨fun k h => (by cases h), kkJ, fJ2, cpJ, fJ3⟩, fJ1⟩
  | 2, hq => cases hq; exact ⟨fun N z => ⟨fun k h => (by cases h), kkB, fB2, cpB, fB3⟩, fB1⟩
  | 3, hq => cases hq; exact ⟨fun N z => ⟨fun k h => (by cases h), kk0, g03, cp0, g04⟩, kk0, cp0, g03, g04, g01, g05⟩
  | 4, hq => cases hq; exact ⟨fun N z => ⟨fun k h => (by cases h), kk2, g23, cp2, g24⟩, kk2, cp2, g23, g24, g21, g25⟩
  | 5, hq => cases hq; exact ⟨fun N z => ⟨fun k h => (by cases h), kk3, g33, cp3, g34⟩, kk3, cp3, g33, g34, g31, g35⟩
  | n + 6, hq => simp [pm_tys] at hq
def dw_sK : List Nat := [106, 112, 114, 116, 118, 120, 122, 124, 126, 128, 130, 132]
def dw_tm (j : Nat) : Term := .string "DunesWalked$Tape" (dw_sK.getD j 0)
abbrev dw_tv' (j : Nat) : Term := .field (dw_tm j) "java/lang/String" "value" "[B"
def dw_scs (j : Nat) : List Cond := [.exactly (dw_tm j) "java/lang/String", .eq (.field (dw_tm j) "java/lang/String" "coder" "B") (.int 0), .arrayOf (dw_tv' j) .byte, .eq (.length (dw_tv' j)) (.int (Int32.ofNat (pm_slen j)))] ++ (List.range (pm_slen j)).map (fun i => .eq (.elem (dw_tv' j) (.int (Int32.ofNat i))) (.int (pm_sch j i)))
set_option maxRecDepth 100000 in
theorem dw_scs_ok : ∀ j, j < 12 → ∀ c ∈ dw_scs j, c ∈ flatC (Jvm.Cond.and given_1 narrow_1) := by decide +kernel
def dw_SL : List (String × Nat × String) := [("DunesWalked$Tape", 106, "walks"), ("DunesWalked$Tape", 112, "grows"), ("DunesWalked$Tape", 114, "needs"), ("DunesWalked$Tape", 116, "or"), ("DunesWalked$Tape", 118, "and"), ("DunesWalked$Tape", 120, "not"), ("DunesWalked$Tape", 122, "high"), ("DunesWalked$Tape", 124, "at"), ("DunesWalked$Tape", 126, "long"), ("DunesWalked$Tape", 128, "clover"), ("DunesWalked$Tape", 130, "year"), ("DunesWalked$Tape", 132, "more")]
def dw_srw (w : Cond) : Bool := match w with
  | .stringRef o k tx => decide ((o, k, tx) ∈ dw_SL)
  | _ => true
theorem dw_srs : lw_tbl.all dw_srw = true := by decide +kernel
theorem dw_SLj : ∀ q ∈ dw_SL, ∀ j, j < 12 → q.2.2 = pm_ST.getD j "" → q.1 = "DunesWalked$Tape" ∧ q.2.1 = dw_sK.getD j 0 := by decide +kernel
theorem dw_str1 {args : Array Value} {tm : Term} {N : Nat} {f : Nat → Int32} (hN : N < 2 ^ 31) (hex : (Cond.exactly tm "java/lang/String").before args s = true) (hco : (Cond.eq (.field tm "java/lang/String" "coder" "B") (.int 0)).before args s = true) (har : (Cond.arrayOf (.field tm "java/lang/String" "value" "[B") .byte).before args s = true) (hle : (Cond.eq (.length (.field tm "java/lang/String" "value" "[B")) (.int (Int32.ofNat N))).before args s = true) (hel : ∀ i, i < N → (Cond.eq (.elem (.field tm "java/lang/String" "value" "[B") (.int (Int32.ofNat i))) (.int (f i))).before args s = true) : ∃ a t : Nat, tm.eval args s none [] s = some (.ref a) ∧ ∀ A : Nat → Prop, (∀ a : Nat, a < s.heap.size → ¬ A a) → va_O "java/lang/String" a A s s.heap ∧ va_OF "java/lang/String" "coder" "B" (.int 0) a A s s.heap ∧ va_OF "java/lang/String" "value" "[B" (.ref t) a A s s.heap ∧ va_T .byte t N (fun k => .int (f k)) A s s.heap := by
  obtain ⟨a, c, cA, kA, q1, q2, q3, q4, q5, q6, -⟩ := Cond.exactly_spec (args := args) (first := s) (o := none) (s := s) (idx := []) (t := tm) (cls := "java/lang/String") hex
  have T := fun (A : Nat → Prop) hA => va_Tof (f := fun j => .int (f j)) (A := A) hN har (va_eqt hle) (fun j hj => va_eqt (hel j hj)) hA
  obtain ⟨t, ht, -⟩ := T (fun _ => False) (fun _ _ h => h)
  refine ⟨a, t, q1, fun A hA => ?_⟩
  obtain ⟨t', ht', hT⟩ := T A hA
  cases ht.symm.trans ht'
  exact ⟨⟨cA, q3, q5, by rw [q6]; exact q2, hA a (Array.getElem?_eq_some_iff.mp q3).1⟩, vk_OFof q1 (va_eqt hco) hA, vk_OFof q1 ht hA, hT⟩
theorem dw_str2 (hgv : (Jvm.Cond.and given_1 narrow_1).before #[Value.ref b] s = true) {j : Nat} (hj : j < 12) : ∃ a t : Nat, (dw_tm j).eval #[Value.ref b] s none [] s = some (.ref a) ∧ ∀ A : Nat → Prop, (∀ a : Nat, a < s.heap.size → ¬ A a) → va_O "java/lang/String" a A s s.heap ∧ va_OF "java/lang/String" "coder" "B" (.int 0) a A s s.heap ∧ va_OF "java/lang/String" "value" "[B" (.ref t) a A s s.heap ∧ va_T .byte t (pm_slen j) (fun k => .int (pm_sch j k)) A s s.heap := by
  have hf := fun c hc => flat_of_before _ hgv c (dw_scs_ok j hj c hc)
  have hl : ∀ j, j < 12 → pm_slen j < 2 ^ 31 := by decide +kernel
  exact dw_str1 (hl j hj) (hf _ (List.mem_append_left _ (.head _))) (hf _ (List.mem_append_left _ (.tail _ (.head _)))) (hf _ (List.mem_append_left _ (.tail _ (.tail _ (.head _))))) (hf _ (List.mem_append_left _ (.tail _ (.tail _ (.tail _ (.head _)))))) (fun i hi => hf _ (List.mem_append_right _ (List.mem_map.mpr ⟨i, List.mem_range.mpr hi, rfl⟩)))
set_option maxRecDepth 100000 in
theorem dw_cs_in : Cond.eq (.static "java/lang/String" "COMPACT_STRINGS" "Z") (.int 1) ∈ flatC (Jvm.Cond.and given_1 narrow_1) := by decide +kernel
set_option maxRecDepth 100000 in
theorem dw_sf_in : Cond.isRef (.static "jdk/internal/util/Preconditions" "SIOOBE_FORMATTER" "Ljava/util/function/BiFunction;") ∈ flatC (Jvm.Cond.and given_1 narrow_1) := by decide +kernel
theorem dw_fmt (hts : ∀ w ∈ lw_tbl, w.before #[Value.ref b] s = true) (hgv : (Jvm.Cond.and given_1 narrow_1).before #[Value.ref b] s = true) : ∃ o : Option Nat, ∀ A : Nat → Prop, (∀ a : Nat, a < s.heap.size → ¬ A a) → va_Z "jdk/internal/util/Preconditions" "SIOOBE_FORMATTER" "Ljava/util/function/BiFunction;" (va_rf o) A s s.heap := by
  have h := flat_of_before _ hgv _ dw_sf_in
  have hl := hts _ (dw_tin (w := .laysStatic "jdk/internal/util/Preconditions" "SIOOBE_FORMATTER" "Ljava/util/function/BiFunction;") 380 (by decide +kernel))
  have hi := hts _ (dw_tin (w := .initialized "jdk/internal/util/Preconditions") 71 (by decide +kernel))
  cases hv : (Term.static "jdk/internal/util/Preconditions" "SIOOBE_FORMATTER" "Ljava/util/function/BiFunction;").eval #[Value.ref b] s none [] s with
  | none => simp [Cond.before, Cond.holds, Cond.value, hv] at h
  | some w =>
    simp only [Cond.before, Cond.holds, Cond.value, hv] at h
    cases w with
    | null => exact ⟨none, fun A hA => va_Zof hl hi hv hA⟩
    | ref t => exact ⟨some t, fun A hA => va_Zof hl hi hv hA⟩
    | _ => simp at h
/-- what the pure machine wants beyond the heap -/
theorem dw_xte (hts : ∀ w ∈ lw_tbl, w.before #[Value.ref b] s = true) (hgv : (Jvm.Cond.and given_1 narrow_1).before #[Value.ref b] s = true) : ∃ σ : Nat → Option Nat, ∀ ρ1 : Nat → Nat, (∀ k, s.heap.size ≤ ρ1 k) → pm_ext (ρ1, σ) s := by
  have h0 : ∀ j : Nat, ∃ q : Nat × Nat, j < 12 → (dw_tm j).eval #[Value.ref b] s none [] s = some (.ref q.1) ∧ ∀ A : Nat → Prop, (∀ a : Nat, a < s.heap.size → ¬ A a) → va_O "java/lang/String" q.1 A s s.heap ∧ va_OF "java/lang/String" "coder" "B" (.int 0) q.1 A s s.heap ∧ va_OF "java/lang/String" "value" "[B" (.ref q.2) q.1 A s s.heap ∧ va_T .byte q.2 (pm_slen j) (fun k => .int (pm_sch j k)) A s s.heap := by
    intro j
    by_cases hj : j < 12
    · obtain ⟨a, t, h⟩ := dw_str2 hgv hj
      exact ⟨(a, t), fun _ => h⟩
    · exact ⟨(0, 0), fun h => absurd h hj⟩
  obtain ⟨ad, had⟩ := Classical.axiomOfChoice h0
  obtain ⟨fo, hfo⟩ := dw_fmt hts hgv
  refine ⟨fun j => if j < 12 then some (ad j).1 else if j = 999 then fo else some (ad (j - 100)).2, fun ρ1 h1 => ?_⟩
  have hA : ∀ a : Nat, a < s.heap.size → ¬ pm_A (ρ1, fun j => if j < 12 then some (ad j).1 else if j = 999 then fo else some (ad (j - 100)).2) a := by
    intro a ha ⟨k, e⟩
    have h2 := h1 k
    have e' : a = ρ1 k := e
    omega
  have hcs := va_Zof (A := pm_A (ρ1, fun j => if j < 12 then some (ad j).1 else if j = 999 then fo else some (ad (j - 100)).2)) (hts _ (dw_tin (w := .laysStatic "java/lang/String" "COMPACT_STRINGS" "Z") 364 (by decide +kernel))) (hts _ (dw_tin (w := .initialized "java/lang/String") 69 (by decide +kernel))) (va_eqt (flat_of_before _ hgv _ dw_cs_in)) hA
  refine ⟨⟨fun w hw => ?_, fun t r ht hr => ?_⟩, fun j hj => ?_, hcs, ?_, fun o k j e he hj a ha => ?_⟩
  · obtain ⟨a, i, x, c, rfl⟩ := pm_nst_of hw
    exact va_Nw.of rfl (hts _ (List.mem_filter.mp hw).1)
  · rcases ht with rfl | rfl | rfl
    · cases hr
      exact va_AO.of (hts _ (dw_tin 170 (by decide +kernel)))
    · cases hr
      exact va_AO.of (hts _ (dw_tin 85 (by decide +kernel)))
    · cases hr
      exact va_AO.of (hts _ (dw_tin 122 (by decide +kernel)))
  · obtain ⟨g1, g2⟩ := had j hj
    obtain ⟨a1, a2, a3, a4⟩ := g2 _ hA
    refine ⟨(ad j).1, (ad j).2, ?_, ?_, a1, a2, a3, a4⟩
    · show (if j < 12 then _ else _) = _
      rw [if_pos hj]
    · show (if 100 + j < 12 then _ else if 100 + j = 999 then fo else some (ad (100 + j - 100)).2) = _
      rw [if_neg (by omega), if_neg (by omega), Nat.add_sub_cancel_left]
  · exact hfo _ hA
  · have ha' : (if j < 12 then some (ad j).1 else if j = 999 then fo else some (ad (j - 100)).2) = some a := ha
    rw [if_pos hj] at ha'
    injection ha' with ha'
    have hm := List.mem_of_getElem? he
    have h2 := List.all_eq_true.mp dw_srs _ hm
    have h3 := of_decide_eq_true (show decide ((o, k, pm_ST.getD j "") ∈ dw_SL) = true from h2)
    obtain ⟨e1, e2⟩ := dw_SLj _ h3 j hj rfl
    have e1' : o = "DunesWalked$Tape" := e1
    have e2' : k = dw_sK.getD j 0 := e2
    refine vk_R.of (hts _ hm) ?_
    rw [e1', e2', ← ha']
    exact (had j hj).1
end EN
