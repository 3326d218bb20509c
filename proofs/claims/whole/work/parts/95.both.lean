/-! THE LAW'S WORLD: where the two objects lie -/
def dw_rX (B : Nat) (σ : Nat → Option Nat) : pm_N := (fun k => if k < 37 then B + k else B + 21 + k, σ)
def dw_rM (B n : Nat) (σ : Nat → Option Nat) : pm_N := (fun k => if k < 21 then B + 37 + k else n + (k - 21), σ)
theorem dw_rX1 (B : Nat) (σ : Nat → Option Nat) (k : Nat) : (dw_rX B σ).1 k = if k < 37 then B + k else B + 21 + k := rfl
theorem dw_rM1 (B n : Nat) (σ : Nat → Option Nat) (k : Nat) : (dw_rM B n σ).1 k = if k < 21 then B + 37 + k else n + (k - 21) := rfl
theorem dw_rXi {B : Nat} {σ : Nat → Option Nat} (i j : Nat) (h : (dw_rX B σ).1 i = (dw_rX B σ).1 j) : i = j := by
  rw [dw_rX1, dw_rX1] at h
  split at h <;> split at h <;> omega
theorem dw_rMi {B n : Nat} {σ : Nat → Option Nat} (hn : B + 58 ≤ n) (i j : Nat) (h : (dw_rM B n σ).1 i = (dw_rM B n σ).1 j) : i = j := by
  rw [dw_rM1, dw_rM1] at h
  split at h <;> split at h <;> omega
theorem dw_rXge {B : Nat} {σ : Nat → Option Nat} (k : Nat) : B ≤ (dw_rX B σ).1 k := by
  rw [dw_rX1]
  split <;> omega
theorem dw_rMge {B n : Nat} {σ : Nat → Option Nat} (hn : B ≤ n) (k : Nat) : B ≤ (dw_rM B n σ).1 k := by
  rw [dw_rM1]
  split <;> omega
/-- the reference's cells don't care where a new one would come -/
theorem dw_clo {X : dw_X} {R G S N : Nat → Int32} {y : Int32} {B n n' : Nat} {σ : Nat → Option Nat} {cA : Nat → ClassId} : pm_W (dw_rM B n σ) cA (dw_mk X R G S N y) = pm_W (dw_rM B n' σ) cA (dw_mk X R G S N y) := by
  simp [pm_W, dw_mk, pm_cell, pm_val, pm_arr, dw_rM]
def dw_Wd (D : va_G) (cA : Nat → ClassId) (σ : Nat → Option Nat) (s : State) (hX hM : pm_H) (H : Heap) (locs : List Loc) : Prop := va_P D vwCl (pm_W (dw_rX s.heap.size σ) cA hX) H ∧ va_P D vwCl (pm_W (dw_rM s.heap.size H.size σ) cA hM) H ∧ H.size = s.heap.size + 21 + hX.length ∧ va_S (fun q => s.heap.size ≤ q) s.heap H locs
section LC
variable {p : Program} {l : Launch} {e : Env} {s : State} {m : MethodId} {below : List Frame} {meth : Method} {c : Code} {b L : Nat} {xs : Nat → Int32} {D : va_G} {cA : Nat → ClassId} {Q : State → Prop} {σ : Nat → Option Nat} {hX hM : pm_H}
theorem dw_lint {ρ : pm_N} : ∀ {as : List Int32}, (as.map Value.int).map (pm_val ρ) = as.map Value.int
  | [] => rfl
  | a :: as => by
    rw [List.map_cons, List.map_cons, dw_lint]
    rfl
theorem dw_JJ5 (J : dw_JJo hX hM) : ∃ fs, hX[0]? = some (.inr (5, fs)) := by
  obtain ⟨m, s, yy, ho, cl, r, tx, wt, tp, tb, im, H, kp, tf, ti, B, C, U, l, k, T, Z, X, R, G, S, N, rfl, hc, rfl, hr, ok⟩ := J
  exact ⟨_, rfl⟩
theorem dw_JJ6 (J : dw_JJo hX hM) : ∃ fs, hM[0]? = some (.inr (6, fs)) := by
  obtain ⟨m, s, yy, ho, cl, r, tx, wt, tp, tb, im, H, kp, tf, ti, B, C, U, l, k, T, Z, X, R, G, S, N, rfl, hc, rfl, hr, ok⟩ := J
  exact ⟨_, rfl⟩
theorem dw_JJclo (J : dw_JJo hX hM) (B n n' : Nat) : pm_W (dw_rM B n σ) cA hM = pm_W (dw_rM B n' σ) cA hM := by
  obtain ⟨m, s, yy, ho, cl, r, tx, wt, tp, tb, im, H, kp, tf, ti, B', C, U, l, k, T, Z, X, R, G, S, N, rfl, hc, rfl, hr, ok⟩ := J
  exact dw_clo
/-- a call of the class -/
theorem dw_callX (C0 : lw_At p s m meth c b L xs) (hK : va_K D vwCl (pm_tys cA) s) (hext : ∀ ρ1 : Nat → Nat, (∀ k, s.heap.size ≤ ρ1 k) → pm_ext (ρ1, σ) s) {hX' : pm_H} (J : dw_JJo hX hM) (hl' : 37 ≤ hX'.length ∧ hX'.length ≤ 70 ∧ pm_sl hX' ≤ 4000) {H : Heap} {locs : List Loc} (wd : dw_Wd D cA σ s hX hM H locs) {mi k i1 i2 i3 : Nat} {q : pm_M} {as : List Int32} {r : Value} (he : pm_ev 70 mi (.ref 0 :: as.map Value.int) hX (some r) hX') (hrv : ∀ ρ, pm_val ρ r = r) (hq : pm_MT[mi]? = some q) (hn : as.length = q.2.2.2.2.2.1) (o1 : lw_tbl[i1]? = some (.methodLink R_law k q.1)) (o2 : lw_tbl[i2]? = some (.instanceMethod q.1)) (o3 : lw_tbl[i3]? = some (.selects q.1.cls q.1 q.1)) (o4 : q.2.2.2.2.1 = 5) {pc : Nat} {ls : Array Slot} (hls : ls.size = 4) (hdg : decode code pc = .ok (.invokevirtual k, 3))
    (kk : ∀ (H1 : Heap) (locs1 : List Loc), dw_Wd D cA σ s hX' hM H1 locs1 → W p l e room_1 s m #[Value.ref b] below meth c H1 locs1 (hX'.length + 21) (pm_sl hX' + pm_sl hM) Q (F0 m (pc + 3) ls [r])) : W p l e room_1 s m #[Value.ref b] below meth c H locs (hX.length + 21) (pm_sl hX + pm_sl hM) Q (F0 m pc ls ((as.map Value.int).reverse ++ [.ref s.heap.size])) := by
  obtain ⟨w1, w2, w3, w4⟩ := wd
  obtain ⟨j1, j2, j3, j4, j5⟩ := dw_JJlen J
  obtain ⟨fs, h0⟩ := dw_JJ5 J
  have hle := pm_ev_le 70 _ _ _ _ _ he
  have r0 : (dw_rX s.heap.size σ).1 0 = s.heap.size := by rw [dw_rX1, if_pos (by decide)]; rfl
  have e0 : (as.map Value.int).reverse ++ [Value.ref s.heap.size] = (as.map Value.int).reverse ++ .ref ((dw_rX s.heap.size σ).1 0) :: [] := by rw [r0]
  rw [e0]
  refine dw_lcallV (Q := Q) (rest := []) C0 hK (ρ := dw_rX s.heap.size σ) (hext (dw_rX s.heap.size σ).1 (fun k => dw_rXge (σ := σ) k)) dw_rXi (fun k hk => by rw [dw_rX1, dw_rX1, if_neg (by omega), if_neg (by omega)]; omega) (fun q ⟨k, e⟩ => by rw [e]; exact dw_rXge k) he hq (by rw [List.length_map]; exact hn) o1 o2 o3 (by rw [o4]; decide) (by rw [o4]; exact h0) dw_lint (n1 := hX.length + 21) (n2 := pm_sl hX + pm_sl hM) w1 (by rw [w3, dw_rX1, if_neg (by omega)]) w4 hls (by decide) ⟨by have := hle.1; omega, by have := hle.2; omega⟩ hdg (fun H1 locs1 a1 a2 a3 a4 a5 => ?_)
  · have e1 : hX.length + 21 + (hX'.length - hX.length) = hX'.length + 21 := by have := hle.1; omega
    have e2 : pm_sl hX + pm_sl hM + (pm_sl hX' - pm_sl hX) = pm_sl hX' + pm_sl hM := by have := hle.2; omega
    rw [e1, e2, hrv]
    refine kk H1 locs1 ⟨a1, ?_, by rw [a2, dw_rX1, if_neg (by omega)], a5⟩
    rw [dw_JJclo J s.heap.size H1.size H.size]
    refine w2.kept (fun k x hx => ?_)
    obtain ⟨cc, hk, rfl⟩ := pm_W_of hx
    have hk2 : k < 21 := by
      have := (List.getElem?_eq_some_iff.mp hk).1
      omega
    have ek : (dw_rM s.heap.size H.size σ).1 k = s.heap.size + 37 + k := by rw [dw_rM1, if_pos hk2]
    show H1[(dw_rM s.heap.size H.size σ).1 k]? = H[(dw_rM s.heap.size H.size σ).1 k]?
    rw [ek]
    refine a4 _ (by omega) ?_
    intro ⟨j, ej⟩
    rw [dw_rX1] at ej
    split at ej <;> omega
/-- a call of the reference -/
theorem dw_callM (C0 : lw_At p s m meth c b L xs) (hK : va_K D vwCl (pm_tys cA) s) (hext : ∀ ρ1 : Nat → Nat, (∀ k, s.heap.size ≤ ρ1 k) → pm_ext (ρ1, σ) s) {hX0 hX' hM' : pm_H} (J : dw_JJo hX0 hM) (J' : dw_JJo hX' hM') {H : Heap} {locs : List Loc} (wd : dw_Wd D cA σ s hX' hM H locs) {mi k i1 i2 i3 : Nat} {q : pm_M} {as : List Int32} {r r0 : Value} (he : pm_ev 70 mi (.ref 0 :: as.map Value.int) hM (some r) hM') (hrv : ∀ ρ, pm_val ρ r = r) (hr0 : r0.category ≤ 2) (hq : pm_MT[mi]? = some q) (hn : as.length = q.2.2.2.2.2.1) (o1 : lw_tbl[i1]? = some (.methodLink R_law k q.1)) (o2 : lw_tbl[i2]? = some (.instanceMethod q.1)) (o3 : lw_tbl[i3]? = some (.selects q.1.cls q.1 q.1)) (o4 : q.2.2.2.2.1 = 6) {pc : Nat} {ls : Array Slot} (hls : ls.size = 4) (hdg : decode code pc = .ok (.invokevirtual k, 3))
    (kk : ∀ (H1 : Heap) (locs1 : List Loc), dw_Wd D cA σ s hX' hM' H1 locs1 → W p l e room_1 s m #[Value.ref b] below meth c H1 locs1 (hX'.length + 21) (pm_sl hX' + pm_sl hM') Q (F0 m (pc + 3) ls [r, r0])) : W p l e room_1 s m #[Value.ref b] below meth c H locs (hX'.length + 21) (pm_sl hX' + pm_sl hM) Q (F0 m pc ls ((as.map Value.int).reverse ++ [.ref (s.heap.size + 37), r0])) := by
  obtain ⟨w1, w2, w3, w4⟩ := wd
  obtain ⟨j1, j2, j3, j4, j5⟩ := dw_JJlen J
  obtain ⟨k1, k2, k3, k4, k5⟩ := dw_JJlen J'
  obtain ⟨fs, h0⟩ := dw_JJ6 J
  have hle := pm_ev_le 70 _ _ _ _ _ he
  have r0' : (dw_rM s.heap.size H.size σ).1 0 = s.heap.size + 37 := by rw [dw_rM1, if_pos (by decide)]
  have e0 : (as.map Value.int).reverse ++ [Value.ref (s.heap.size + 37), r0] = (as.map Value.int).reverse ++ .ref ((dw_rM s.heap.size H.size σ).1 0) :: [r0] := by rw [r0']
  rw [e0]
  refine dw_lcallV (Q := Q) (rest := [r0]) C0 hK (ρ := dw_rM s.heap.size H.size σ) (hext (dw_rM s.heap.size H.size σ).1 (fun k => dw_rMge (σ := σ) (by omega) k)) (dw_rMi (by omega)) (fun k hk => by rw [dw_rM1, dw_rM1, if_neg (by omega), if_neg (by omega)]; omega) (fun q ⟨k, e⟩ => by rw [e]; exact dw_rMge (by omega) k) he hq (by rw [List.length_map]; exact hn) o1 o2 o3 (by rw [o4]; decide) (by rw [o4]; exact h0) dw_lint (n1 := hX'.length + 21) (n2 := pm_sl hX' + pm_sl hM) w2 (by rw [dw_rM1, if_neg (by omega), j4]; omega) w4 hls (by
    show r0.category + 0 ≤ 8
    omega) ⟨by omega, by have := hle.2; omega⟩ hdg (fun H1 locs1 a1 a2 a3 a4 a5 => ?_)
  · have e1 : hX'.length + 21 + (hM'.length - hM.length) = hX'.length + 21 := by omega
    have e2 : pm_sl hX' + pm_sl hM + (pm_sl hM' - pm_sl hM) = pm_sl hX' + pm_sl hM' := by have := hle.2; omega
    have ez : H1.size = H.size := by
      rw [a2, dw_rM1, if_neg (by omega), k4]
      omega
    rw [e1, e2, hrv]
    refine kk H1 locs1 ⟨?_, by rw [ez]; exact a1, by rw [ez, w3], a5⟩
    refine w1.kept (fun k x hx => ?_)
    obtain ⟨cc, hk, rfl⟩ := pm_W_of hx
    have hk2 := (List.getElem?_eq_some_iff.mp hk).1
    show H1[(dw_rX s.heap.size σ).1 k]? = H[(dw_rX s.heap.size σ).1 k]?
    refine a4 _ ?_ ?_
    · rw [dw_rX1]
      split <;> omega
    · intro ⟨j, ej⟩
      rw [dw_rX1, dw_rM1] at ej
      split at ej <;> split at ej <;> omega
end LC
