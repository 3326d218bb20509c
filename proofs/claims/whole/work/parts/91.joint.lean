/-! BOTH: one state, two heaps -/
def dw_JJo (hX hM : pm_H) : Prop := ∃ (m : Nat) (s : dw_L) (yy : Nat) (ho cl : Int64) (r tx : Nat) (wt : Nat → dw_W) (tp : Nat) (tb : Nat → Nat) (im : Option dw_Ln) (H : dw_H) (kp : Value) (tf : Nat → Option Nat) (ti B C U : Nat → Int32) (l : Nat) (k : Nat → Int32) (T : dw_B) (Z : pm_H) (X : dw_X) (R G S N : Nat → Int32), hX = (dw_cl (dw_pre (nI tx) kp tf ti B C U H) (l, nI m, nI yy, ho, cl, s, k) T Z) ∧ dw_CX kp tf ti B l Z ((m, s, yy, ho, cl, r), (tx, wt), (tp, tb), im, H) ∧ hM = dw_mk X R G S N (nI yy) ∧ dw_RX X R G ((m, s, yy, ho, cl, r), (tx, wt), (tp, tb), im, H) ∧ dw_Ok ((m, s, yy, ho, cl, r), (tx, wt), (tp, tb), im, H)
theorem dw_joint {α : Type} {oX oM : Option (pm_H × α)} {σ : dw_S} {v : α} (c : dw_Cgo oX σ v) (g : dw_Go oM σ v) (ok : dw_Ok σ) : ∃ hX' hM', oX = some (hX', v) ∧ oM = some (hM', v) ∧ dw_JJo hX' hM' := by
  obtain ⟨⟨m, s, yy, ho, cl, r⟩, ⟨tx, wt⟩, ⟨tp, tb⟩, im, H⟩ := σ
  obtain ⟨kp, tf, ti, B, C, U, H', l, k, T, Z, e1, e2, e3⟩ := c
  obtain ⟨X, R, G, S, N, f1, f2⟩ := g
  refine ⟨_, _, e1, f1, m, s, yy, ho, cl, r, tx, wt, tp, tb, im, H', kp, tf, ti, B, C, U, l, k, T, Z, X, R, G, S, N, rfl, e3, rfl, ?_, ?_⟩
  · obtain ⟨h1, h2, h3, h4, h5, h6, h7, h8, h9, h10, h11⟩ := f2
    exact ⟨h1, h2, h3, h4, h5, h6, h7, h8, h9, h10, fun k hk => ⟨(h11 k hk).1.trans (e2 k hk).1.symm, (h11 k hk).2.1.trans (e2 k hk).2.1.symm, fun j hj => ((h11 k hk).2.2 j hj).trans ((e2 k hk).2.2 j hj).symm⟩⟩
  · obtain ⟨k1, k2, k3, k4, k5, k6, k7, k8⟩ := ok
    refine ⟨k1, k2, k3, k4, k5, k6, k7, fun k hk => ?_⟩
    obtain ⟨a1, n, a2, a3⟩ := k8 k hk
    rw [(e2 k hk).1, (e2 k hk).2.1]
    exact ⟨a1, n, a2, a3⟩
theorem dw_JJ0 : ∃ hX hM, X_init [.inr (5, pm_new 5)] 0 = some (hX, ()) ∧ M_init [.inr (6, pm_new 6)] 0 = some (hM, ()) ∧ dw_JJo hX hM := dw_joint dw_Cinit dw_Minit dw_Ok0
theorem dw_slpre (tk : Int32) (kp : Value) (tf : Nat → Option Nat) (ti B C U : Nat → Int32) (H : dw_H) : pm_sl (dw_pre tk kp tf ti B C U H) = 569 := by
  simp [pm_sl, dw_pre, pm_sz]
theorem dw_slbb (t : Nat) (b : dw_B) : pm_sl (dw_bb t b) = 87 := by
  simp [pm_sl, dw_bb, dw_bk, pm_sz]
theorem dw_slmk (X : dw_X) (R G S N : Nat → Int32) (y : Int32) : pm_sl (dw_mk X R G S N y) ≤ 4000 := by
  simp [pm_sl, dw_mk, pm_sz]
/-- how large they are -/
theorem dw_JJlen {hX hM : pm_H} (h : dw_JJo hX hM) : 37 ≤ hX.length ∧ hX.length ≤ 70 ∧ pm_sl hX ≤ 4000 ∧ hM.length = 21 ∧ pm_sl hM ≤ 4000 := by
  obtain ⟨m, s, yy, ho, cl, r, tx, wt, tp, tb, im, H, kp, tf, ti, B, C, U, l, k, T, Z, X, R, G, S, N, rfl, hc, rfl, hr, ok⟩ := h
  obtain ⟨_, k2, k3, _⟩ := ok
  obtain ⟨_, _, _, _, _, z1, z2⟩ := hc
  have ic : dw_ic im ≤ 1 := by
    cases im with
    | none => exact Nat.zero_le 1
    | some l' => exact Nat.le_refl 1
  have el : ((dw_cl (dw_pre (nI tx) kp tf ti B C U H) (l, nI m, nI yy, ho, cl, s, k) T Z)).length = 37 + Z.length := by
    unfold dw_cl
    rw [List.length_append, List.length_append, List.length_append]
    show 19 + (9 + (9 + Z.length)) = 37 + Z.length
    omega
  have es : pm_sl (dw_cl (dw_pre (nI tx) kp tf ti B C U H) (l, nI m, nI yy, ho, cl, s, k) T Z) = 569 + (87 + (87 + pm_sl Z)) := by
    unfold dw_cl
    rw [dw_sl_app, dw_sl_app, dw_sl_app, dw_slpre, dw_slbb, dw_slbb]
  rw [el, es]
  exact ⟨by omega, by omega, by omega, rfl, dw_slmk X R G S N (nI yy)⟩
section JJ
variable {hX hM : pm_H}
theorem dw_K_count (h : dw_JJo hX hM) (a1 : Int32) : ∃ (hX' hM' : pm_H) (v : Int32), pm_ev 70 56 [.ref 0, .int a1] hX (some (.int v)) hX' ∧ pm_ev 70 118 [.ref 0, .int a1] hM (some (.int v)) hM' ∧ dw_JJo hX' hM' := by
  obtain ⟨m, s, yy, ho, cl, r, tx, wt, tp, tb, im, H, kp, tf, ti, B, C, U, l, k, T, Z, X, R, G, S, N, rfl, hc, rfl, hr, ok⟩ := h
  obtain ⟨hX', hM', e1, e2, e3⟩ := dw_joint (dw_Ccount hc ok a1) (dw_Mcount hr ok a1) (ok)
  exact ⟨hX', hM', _, P_X_count (d := 68) e1, P_M_count (d := 68) e2, e3⟩
theorem dw_K_yard (h : dw_JJo hX hM) (a1 a2 a3 : Int32) : ∃ (hX' hM' : pm_H) (v : Int32), pm_ev 70 57 [.ref 0, .int a1, .int a2, .int a3] hX (some (.int v)) hX' ∧ pm_ev 70 119 [.ref 0, .int a1, .int a2, .int a3] hM (some (.int v)) hM' ∧ dw_JJo hX' hM' := by
  obtain ⟨m, s, yy, ho, cl, r, tx, wt, tp, tb, im, H, kp, tf, ti, B, C, U, l, k, T, Z, X, R, G, S, N, rfl, hc, rfl, hr, ok⟩ := h
  obtain ⟨hX', hM', e1, e2, e3⟩ := dw_joint (dw_Cyard hc ok a1 a2 a3) (dw_Myard hr ok a1 a2 a3) (dw_Oyard ok a1 a2 a3)
  exact ⟨hX', hM', _, P_X_yard (d := 68) e1, P_M_yard (d := 67) e2, e3⟩
theorem dw_K_parish (h : dw_JJo hX hM) (a1 : Int32) : ∃ (hX' hM' : pm_H) (v : Int64), pm_ev 70 58 [.ref 0, .int a1] hX (some (.long v)) hX' ∧ pm_ev 70 120 [.ref 0, .int a1] hM (some (.long v)) hM' ∧ dw_JJo hX' hM' := by
  obtain ⟨m, s, yy, ho, cl, r, tx, wt, tp, tb, im, H, kp, tf, ti, B, C, U, l, k, T, Z, X, R, G, S, N, rfl, hc, rfl, hr, ok⟩ := h
  obtain ⟨hX', hM', e1, e2, e3⟩ := dw_joint (dw_Cparish hc a1) (dw_Mparish hr ok a1) (ok)
  exact ⟨hX', hM', _, P_X_parish (d := 67) e1, P_M_parish (d := 66) e2, e3⟩
theorem dw_K_feed (h : dw_JJo hX hM) (a1 a2 a3 a4 a5 a6 : Int32) : ∃ (hX' hM' : pm_H) (v : Int32), pm_ev 70 59 [.ref 0, .int a1, .int a2, .int a3, .int a4, .int a5, .int a6] hX (some (.int v)) hX' ∧ pm_ev 70 122 [.ref 0, .int a1, .int a2, .int a3, .int a4, .int a5, .int a6] hM (some (.int v)) hM' ∧ dw_JJo hX' hM' := by
  obtain ⟨m, s, yy, ho, cl, r, tx, wt, tp, tb, im, H, kp, tf, ti, B, C, U, l, k, T, Z, X, R, G, S, N, rfl, hc, rfl, hr, ok⟩ := h
  obtain ⟨hX', hM', e1, e2, e3⟩ := dw_joint (dw_Cfeed hc ok a1 a2 a3 a4 a5 a6) (dw_Mfeed hr ok a1 a2 a3 a4 a5 a6) (dw_Ofeed ok a1 a2 a3 a4 a5 a6)
  exact ⟨hX', hM', _, P_X_feed (d := 67) e1, P_M_feed (d := 67) e2, e3⟩
theorem dw_K_text (h : dw_JJo hX hM) : ∃ (hX' hM' : pm_H) (v : Int32), pm_ev 70 60 [.ref 0] hX (some (.int v)) hX' ∧ pm_ev 70 133 [.ref 0] hM (some (.int v)) hM' ∧ dw_JJo hX' hM' := by
  obtain ⟨m, s, yy, ho, cl, r, tx, wt, tp, tb, im, H, kp, tf, ti, B, C, U, l, k, T, Z, X, R, G, S, N, rfl, hc, rfl, hr, ok⟩ := h
  have rows := fun q => dw_rows (tb := tb) (tp := tp) ok.2.2.2.2.1 ok.2.2.2.2.2.1 q
  obtain ⟨hX', hM', e1, e2, e3⟩ := dw_joint (dw_Ctext hc ok (fun q => fun p hp => (rows q p hp).1)) (dw_Mtext hr ok ) (dw_Otext ok rows)
  exact ⟨hX', hM', _, P_X_text (d := 3) e1, P_M_text (d := 65) e2, e3⟩
theorem dw_K_force (h : dw_JJo hX hM) (a1 : Int32) : ∃ (hX' hM' : pm_H) (v : Int32), pm_ev 70 61 [.ref 0, .int a1] hX (some (.int v)) hX' ∧ pm_ev 70 136 [.ref 0, .int a1] hM (some (.int v)) hM' ∧ dw_JJo hX' hM' := by
  obtain ⟨m, s, yy, ho, cl, r, tx, wt, tp, tb, im, H, kp, tf, ti, B, C, U, l, k, T, Z, X, R, G, S, N, rfl, hc, rfl, hr, ok⟩ := h
  obtain ⟨hX', hM', e1, e2, e3⟩ := dw_joint (dw_Cforce hc ok a1) (dw_Mforce hr ok a1) (dw_Oforce ok a1)
  exact ⟨hX', hM', _, P_X_force (d := 68) e1, P_M_force (d := 68) e2, e3⟩
theorem dw_K_asks (h : dw_JJo hX hM) (a1 a2 : Int32) : ∃ (hX' hM' : pm_H) (v : Int32), pm_ev 70 62 [.ref 0, .int a1, .int a2] hX (some (.int v)) hX' ∧ pm_ev 70 138 [.ref 0, .int a1, .int a2] hM (some (.int v)) hM' ∧ dw_JJo hX' hM' := by
  obtain ⟨m, s, yy, ho, cl, r, tx, wt, tp, tb, im, H, kp, tf, ti, B, C, U, l, k, T, Z, X, R, G, S, N, rfl, hc, rfl, hr, ok⟩ := h
  obtain ⟨hX', hM', e1, e2, e3⟩ := dw_joint (dw_Casks hc ok a1 a2) (dw_Masks_ hr ok a1 a2) (ok)
  exact ⟨hX', hM', _, P_X_asks (d := 66) e1, P_M_asks (d := 65) e2, e3⟩
theorem dw_K_dune (h : dw_JJo hX hM) (a1 a2 : Int32) : ∃ (hX' hM' : pm_H) (v : Int32), pm_ev 70 63 [.ref 0, .int a1, .int a2] hX (some (.int v)) hX' ∧ pm_ev 70 139 [.ref 0, .int a1, .int a2] hM (some (.int v)) hM' ∧ dw_JJo hX' hM' := by
  obtain ⟨m, s, yy, ho, cl, r, tx, wt, tp, tb, im, H, kp, tf, ti, B, C, U, l, k, T, Z, X, R, G, S, N, rfl, hc, rfl, hr, ok⟩ := h
  obtain ⟨hX', hM', e1, e2, e3⟩ := dw_joint (dw_Cdune hc ok a1 a2) (dw_Mdune_ hr ok a1 a2) (dw_Odune ok a1 a2)
  exact ⟨hX', hM', _, P_X_dune (d := 68) e1, P_M_dune (d := 68) e2, e3⟩
theorem dw_K_put (h : dw_JJo hX hM) (a1 a2 a3 : Int32) : ∃ (hX' hM' : pm_H) (v : Int32), pm_ev 70 64 [.ref 0, .int a1, .int a2, .int a3] hX (some (.int v)) hX' ∧ pm_ev 70 140 [.ref 0, .int a1, .int a2, .int a3] hM (some (.int v)) hM' ∧ dw_JJo hX' hM' := by
  obtain ⟨m, s, yy, ho, cl, r, tx, wt, tp, tb, im, H, kp, tf, ti, B, C, U, l, k, T, Z, X, R, G, S, N, rfl, hc, rfl, hr, ok⟩ := h
  obtain ⟨hX', hM', e1, e2, e3⟩ := dw_joint (dw_Cput hc a1 a2 a3) (dw_Mput_ hr ok a1 a2 a3) (dw_Oput ok a1 a2 a3)
  exact ⟨hX', hM', _, P_X_put (d := 68) e1, P_M_put (d := 67) e2, e3⟩
theorem dw_K_told (h : dw_JJo hX hM) (a1 a2 : Int32) : ∃ (hX' hM' : pm_H) (v : Int32), pm_ev 70 65 [.ref 0, .int a1, .int a2] hX (some (.int v)) hX' ∧ pm_ev 70 144 [.ref 0, .int a1, .int a2] hM (some (.int v)) hM' ∧ dw_JJo hX' hM' := by
  obtain ⟨m, s, yy, ho, cl, r, tx, wt, tp, tb, im, H, kp, tf, ti, B, C, U, l, k, T, Z, X, R, G, S, N, rfl, hc, rfl, hr, ok⟩ := h
  obtain ⟨hX', hM', e1, e2, e3⟩ := dw_joint (dw_Ctold hc ok a1 a2) (dw_Mtold_ hr ok a1 a2) (ok)
  exact ⟨hX', hM', _, P_X_told (d := 65) e1, P_M_told (d := 64) e2, e3⟩
theorem dw_K_grows (h : dw_JJo hX hM) (a1 : Int32) : ∃ (hX' hM' : pm_H) (v : Int32), pm_ev 70 66 [.ref 0, .int a1] hX (some (.int v)) hX' ∧ pm_ev 70 145 [.ref 0, .int a1] hM (some (.int v)) hM' ∧ dw_JJo hX' hM' := by
  obtain ⟨m, s, yy, ho, cl, r, tx, wt, tp, tb, im, H, kp, tf, ti, B, C, U, l, k, T, Z, X, R, G, S, N, rfl, hc, rfl, hr, ok⟩ := h
  obtain ⟨hX', hM', e1, e2, e3⟩ := dw_joint (dw_Cgrows hc ok a1) (dw_Mgrows_ hr ok a1) (ok)
  exact ⟨hX', hM', _, P_X_grows (d := 65) e1, P_M_grows (d := 64) e2, e3⟩
theorem dw_K_year (h : dw_JJo hX hM) : ∃ (hX' hM' : pm_H) (v : Int32), pm_ev 70 67 [.ref 0] hX (some (.int v)) hX' ∧ pm_ev 70 148 [.ref 0] hM (some (.int v)) hM' ∧ dw_JJo hX' hM' := by
  obtain ⟨m, s, yy, ho, cl, r, tx, wt, tp, tb, im, H, kp, tf, ti, B, C, U, l, k, T, Z, X, R, G, S, N, rfl, hc, rfl, hr, ok⟩ := h
  obtain ⟨hX', hM', e1, e2, e3⟩ := dw_joint (dw_Cyear hc ok ) (dw_Myear_ hr ok ) (dw_Oyear ok )
  exact ⟨hX', hM', _, P_X_year (d := 64) e1, P_M_year (d := 62) e2, e3⟩
theorem dw_K_run (h : dw_JJo hX hM) (a1 a2 : Int32) : ∃ (hX' hM' : pm_H) (v : Int32), pm_ev 70 68 [.ref 0, .int a1, .int a2] hX (some (.int v)) hX' ∧ pm_ev 70 153 [.ref 0, .int a1, .int a2] hM (some (.int v)) hM' ∧ dw_JJo hX' hM' := by
  obtain ⟨m, s, yy, ho, cl, r, tx, wt, tp, tb, im, H, kp, tf, ti, B, C, U, l, k, T, Z, X, R, G, S, N, rfl, hc, rfl, hr, ok⟩ := h
  obtain ⟨hX', hM', e1, e2, e3⟩ := dw_joint (dw_Crun hc ok a1 a2) (dw_Grun hr ok a1 a2) (ok)
  exact ⟨hX', hM', _, P_X_run (d := 63) e1, P_M_run (d := 61) e2, e3⟩
theorem dw_K_comes (h : dw_JJo hX hM) (a1 a2 : Int32) : ∃ (hX' hM' : pm_H) (v : Int32), pm_ev 70 70 [.ref 0, .int a1, .int a2] hX (some (.int v)) hX' ∧ pm_ev 70 155 [.ref 0, .int a1, .int a2] hM (some (.int v)) hM' ∧ dw_JJo hX' hM' := by
  obtain ⟨m, s, yy, ho, cl, r, tx, wt, tp, tb, im, H, kp, tf, ti, B, C, U, l, k, T, Z, X, R, G, S, N, rfl, hc, rfl, hr, ok⟩ := h
  obtain ⟨hX', hM', e1, e2, e3⟩ := dw_joint (dw_Ccomes hc ok a1 a2) (dw_Gcomes hr ok a1 a2) (ok)
  exact ⟨hX', hM', _, P_X_comes (d := 64) e1, P_M_comes (d := 62) e2, e3⟩
theorem dw_K_ends (h : dw_JJo hX hM) (a1 : Int32) : ∃ (hX' hM' : pm_H) (v : Int32), pm_ev 70 71 [.ref 0, .int a1] hX (some (.int v)) hX' ∧ pm_ev 70 156 [.ref 0, .int a1] hM (some (.int v)) hM' ∧ dw_JJo hX' hM' := by
  obtain ⟨m, s, yy, ho, cl, r, tx, wt, tp, tb, im, H, kp, tf, ti, B, C, U, l, k, T, Z, X, R, G, S, N, rfl, hc, rfl, hr, ok⟩ := h
  obtain ⟨hX', hM', e1, e2, e3⟩ := dw_joint (dw_Cends hc ok a1) (dw_Gends hr ok a1) (ok)
  exact ⟨hX', hM', _, P_X_ends (d := 64) e1, P_M_ends (d := 62) e2, e3⟩
theorem dw_K_first (h : dw_JJo hX hM) (a1 : Int32) : ∃ (hX' hM' : pm_H) (v : Int32), pm_ev 70 72 [.ref 0, .int a1] hX (some (.int v)) hX' ∧ pm_ev 70 157 [.ref 0, .int a1] hM (some (.int v)) hM' ∧ dw_JJo hX' hM' := by
  obtain ⟨m, s, yy, ho, cl, r, tx, wt, tp, tb, im, H, kp, tf, ti, B, C, U, l, k, T, Z, X, R, G, S, N, rfl, hc, rfl, hr, ok⟩ := h
  obtain ⟨hX', hM', e1, e2, e3⟩ := dw_joint (dw_Cfirst hc ok a1) (dw_Gfirst hr ok a1) (ok)
  exact ⟨hX', hM', _, P_X_first (d := 64) e1, P_M_first (d := 62) e2, e3⟩
theorem dw_K_sow (h : dw_JJo hX hM) (a1 a2 : Int32) : ∃ (hX' hM' : pm_H) (v : Int32), pm_ev 70 73 [.ref 0, .int a1, .int a2] hX (some (.int v)) hX' ∧ pm_ev 70 159 [.ref 0, .int a1, .int a2] hM (some (.int v)) hM' ∧ dw_JJo hX' hM' := by
  obtain ⟨m, s, yy, ho, cl, r, tx, wt, tp, tb, im, H, kp, tf, ti, B, C, U, l, k, T, Z, X, R, G, S, N, rfl, hc, rfl, hr, ok⟩ := h
  obtain ⟨hX', hM', e1, e2, e3⟩ := dw_joint (dw_Csow hc ok a1 a2) (dw_Gsow hr ok a1 a2) (ok)
  exact ⟨hX', hM', _, P_X_sow (d := 63) e1, P_M_sow (d := 60) e2, e3⟩
theorem dw_K_move (h : dw_JJo hX hM) (a1 a2 : Int32) : ∃ (hX' hM' : pm_H) (v : Int32), pm_ev 70 74 [.ref 0, .int a1, .int a2] hX (some (.int v)) hX' ∧ pm_ev 70 160 [.ref 0, .int a1, .int a2] hM (some (.int v)) hM' ∧ dw_JJo hX' hM' := by
  obtain ⟨m, s, yy, ho, cl, r, tx, wt, tp, tb, im, H, kp, tf, ti, B, C, U, l, k, T, Z, X, R, G, S, N, rfl, hc, rfl, hr, ok⟩ := h
  obtain ⟨hX', hM', e1, e2, e3⟩ := dw_joint (dw_Cmove hc ok a1 a2) (dw_Gmove hr ok a1 a2) (ok)
  exact ⟨hX', hM', _, P_X_move (d := 62) e1, P_M_move (d := 62) e2, e3⟩
theorem dw_K_hold (h : dw_JJo hX hM) (a1 a2 : Int32) : ∃ (hX' hM' : pm_H) (v : Int32), pm_ev 70 75 [.ref 0, .int a1, .int a2] hX (some (.int v)) hX' ∧ pm_ev 70 161 [.ref 0, .int a1, .int a2] hM (some (.int v)) hM' ∧ dw_JJo hX' hM' := by
  obtain ⟨m, s, yy, ho, cl, r, tx, wt, tp, tb, im, H, kp, tf, ti, B, C, U, l, k, T, Z, X, R, G, S, N, rfl, hc, rfl, hr, ok⟩ := h
  obtain ⟨hX', hM', e1, e2, e3⟩ := dw_joint (dw_Chold hc ok a1 a2) (dw_Ghold hr ok a1 a2) (ok)
  exact ⟨hX', hM', _, P_X_hold (d := 63) e1, P_M_hold (d := 60) e2, e3⟩
theorem dw_K_share (h : dw_JJo hX hM) (a1 a2 : Int32) : ∃ (hX' hM' : pm_H) (v : Int64), pm_ev 70 76 [.ref 0, .int a1, .int a2] hX (some (.long v)) hX' ∧ pm_ev 70 163 [.ref 0, .int a1, .int a2] hM (some (.long v)) hM' ∧ dw_JJo hX' hM' := by
  obtain ⟨m, s, yy, ho, cl, r, tx, wt, tp, tb, im, H, kp, tf, ti, B, C, U, l, k, T, Z, X, R, G, S, N, rfl, hc, rfl, hr, ok⟩ := h
  obtain ⟨hX', hM', e1, e2, e3⟩ := dw_joint (dw_Cshare hc ok a1 a2) (dw_Gshare hr ok a1 a2) (ok)
  exact ⟨hX', hM', _, P_X_share (d := 63) e1, P_M_share (d := 61) e2, e3⟩
theorem dw_K_judge (h : dw_JJo hX hM) (a1 a2 : Int32) : ∃ (hX' hM' : pm_H) (v : Int32), pm_ev 70 77 [.ref 0, .int a1, .int a2] hX (some (.int v)) hX' ∧ pm_ev 70 167 [.ref 0, .int a1, .int a2] hM (some (.int v)) hM' ∧ dw_JJo hX' hM' := by
  obtain ⟨m, s, yy, ho, cl, r, tx, wt, tp, tb, im, H, kp, tf, ti, B, C, U, l, k, T, Z, X, R, G, S, N, rfl, hc, rfl, hr, ok⟩ := h
  obtain ⟨hX', hM', e1, e2, e3⟩ := dw_joint (dw_Cjudge hc ok a1 a2) (dw_Gjudge hr ok a1 a2) (ok)
  exact ⟨hX', hM', _, P_X_judge (d := 63) e1, P_M_judge (d := 61) e2, e3⟩
theorem dw_K_kinds (h : dw_JJo hX hM) (a1 a2 a3 : Int32) : ∃ (hX' hM' : pm_H) (v : Int32), pm_ev 70 78 [.ref 0, .int a1, .int a2, .int a3] hX (some (.int v)) hX' ∧ pm_ev 70 168 [.ref 0, .int a1, .int a2, .int a3] hM (some (.int v)) hM' ∧ dw_JJo hX' hM' := by
  obtain ⟨m, s, yy, ho, cl, r, tx, wt, tp, tb, im, H, kp, tf, ti, B, C, U, l, k, T, Z, X, R, G, S, N, rfl, hc, rfl, hr, ok⟩ := h
  obtain ⟨hX', hM', e1, e2, e3⟩ := dw_joint (dw_Ckinds hc ok a1 a2 a3) (dw_Gkinds hr ok a1 a2 a3) (ok)
  exact ⟨hX', hM', _, P_X_kinds (d := 62) e1, P_M_kinds (d := 61) e2, e3⟩
theorem dw_K_states (h : dw_JJo hX hM) (a1 a2 a3 a4 : Int32) : ∃ (hX' hM' : pm_H) (v : Int32), pm_ev 70 79 [.ref 0, .int a1, .int a2, .int a3, .int a4] hX (some (.int v)) hX' ∧ pm_ev 70 169 [.ref 0, .int a1, .int a2, .int a3, .int a4] hM (some (.int v)) hM' ∧ dw_JJo hX' hM' := by
  obtain ⟨m, s, yy, ho, cl, r, tx, wt, tp, tb, im, H, kp, tf, ti, B, C, U, l, k, T, Z, X, R, G, S, N, rfl, hc, rfl, hr, ok⟩ := h
  obtain ⟨hX', hM', e1, e2, e3⟩ := dw_joint (dw_Cstates hc ok a1 a2 a3 a4) (dw_Gstates hr ok a1 a2 a3 a4) (ok)
  exact ⟨hX', hM', _, P_X_states (d := 62) e1, P_M_states (d := 61) e2, e3⟩
theorem dw_K_whose (h : dw_JJo hX hM) (a1 : Int32) : ∃ (hX' hM' : pm_H) (v : Int32), pm_ev 70 80 [.ref 0, .int a1] hX (some (.int v)) hX' ∧ pm_ev 70 170 [.ref 0, .int a1] hM (some (.int v)) hM' ∧ dw_JJo hX' hM' := by
  obtain ⟨m, s, yy, ho, cl, r, tx, wt, tp, tb, im, H, kp, tf, ti, B, C, U, l, k, T, Z, X, R, G, S, N, rfl, hc, rfl, hr, ok⟩ := h
  obtain ⟨hX', hM', e1, e2, e3⟩ := dw_joint (dw_Cwhose hc ok a1) (dw_Gwhose hr ok a1) (ok)
  exact ⟨hX', hM', _, P_X_whose (d := 63) e1, P_M_whose (d := 61) e2, e3⟩
theorem dw_K_laws (h : dw_JJo hX hM) (a1 a2 : Int32) : ∃ (hX' hM' : pm_H) (v : Int32), pm_ev 70 81 [.ref 0, .int a1, .int a2] hX (some (.int v)) hX' ∧ pm_ev 70 171 [.ref 0, .int a1, .int a2] hM (some (.int v)) hM' ∧ dw_JJo hX' hM' := by
  obtain ⟨m, s, yy, ho, cl, r, tx, wt, tp, tb, im, H, kp, tf, ti, B, C, U, l, k, T, Z, X, R, G, S, N, rfl, hc, rfl, hr, ok⟩ := h
  obtain ⟨hX', hM', e1, e2, e3⟩ := dw_joint (dw_Claws hc ok a1 a2) (dw_Glaws hr ok a1 a2) (ok)
  exact ⟨hX', hM', _, P_X_laws (d := 62) e1, P_M_laws (d := 61) e2, e3⟩
theorem dw_K_film (h : dw_JJo hX hM) (a1 a2 a3 : Int32) : ∃ (hX' hM' : pm_H) (v : Int32), pm_ev 70 82 [.ref 0, .int a1, .int a2, .int a3] hX (some (.int v)) hX' ∧ pm_ev 70 172 [.ref 0, .int a1, .int a2, .int a3] hM (some (.int v)) hM' ∧ dw_JJo hX' hM' := by
  obtain ⟨m, s, yy, ho, cl, r, tx, wt, tp, tb, im, H, kp, tf, ti, B, C, U, l, k, T, Z, X, R, G, S, N, rfl, hc, rfl, hr, ok⟩ := h
  obtain ⟨hX', hM', e1, e2, e3⟩ := dw_joint (dw_Cfilm hc ok a1 a2 a3) (dw_Gfilm hr ok a1 a2 a3) (dw_Ofilm ok a1 a2 a3)
  exact ⟨hX', hM', _, P_X_film (d := 64) e1, P_M_film (d := 62) e2, e3⟩
theorem dw_K_drawn (h : dw_JJo hX hM) (a1 a2 : Int32) : ∃ (hX' hM' : pm_H) (v : Int32), pm_ev 70 83 [.ref 0, .int a1, .int a2] hX (some (.int v)) hX' ∧ pm_ev 70 174 [.ref 0, .int a1, .int a2] hM (some (.int v)) hM' ∧ dw_JJo hX' hM' := by
  obtain ⟨m, s, yy, ho, cl, r, tx, wt, tp, tb, im, H, kp, tf, ti, B, C, U, l, k, T, Z, X, R, G, S, N, rfl, hc, rfl, hr, ok⟩ := h
  obtain ⟨hX', hM', e1, e2, e3⟩ := dw_joint (dw_Cdrawn hc ok a1 a2) (dw_Gdrawn hr ok a1 a2) (ok)
  exact ⟨hX', hM', _, P_X_drawn (d := 62) e1, P_M_drawn (d := 60) e2, e3⟩
theorem dw_K_odds (h : dw_JJo hX hM) (a1 a2 a3 a4 : Int32) : ∃ (hX' hM' : pm_H) (v : Int64), pm_ev 70 84 [.ref 0, .int a1, .int a2, .int a3, .int a4] hX (some (.long v)) hX' ∧ pm_ev 70 175 [.ref 0, .int a1, .int a2, .int a3, .int a4] hM (some (.long v)) hM' ∧ dw_JJo hX' hM' := by
  obtain ⟨m, s, yy, ho, cl, r, tx, wt, tp, tb, im, H, kp, tf, ti, B, C, U, l, k, T, Z, X, R, G, S, N, rfl, hc, rfl, hr, ok⟩ := h
  obtain ⟨hX', hM', e1, e2, e3⟩ := dw_joint (dw_Codds hc ok a1 a2 a3 a4) (dw_Godds hr ok a1 a2 a3 a4) (ok)
  exact ⟨hX', hM', _, P_X_odds (d := 62) e1, P_M_odds (d := 60) e2, e3⟩
theorem dw_K_image (h : dw_JJo hX hM) : ∃ (hX' hM' : pm_H) (v : Int32), pm_ev 70 85 [.ref 0] hX (some (.int v)) hX' ∧ pm_ev 70 176 [.ref 0] hM (some (.int v)) hM' ∧ dw_JJo hX' hM' := by
  obtain ⟨m, s, yy, ho, cl, r, tx, wt, tp, tb, im, H, kp, tf, ti, B, C, U, l, k, T, Z, X, R, G, S, N, rfl, hc, rfl, hr, ok⟩ := h
  obtain ⟨hX', hM', e1, e2, e3⟩ := dw_joint (dw_Cimage hc ok ) (dw_Mimage_ hr ok ) (dw_Oimage ok )
  exact ⟨hX', hM', _, P_X_image (d := 67) e1, P_M_image (d := 69) e2, e3⟩
theorem dw_K_back (h : dw_JJo hX hM) : ∃ (hX' hM' : pm_H) (v : Int32), pm_ev 70 86 [.ref 0] hX (some (.int v)) hX' ∧ pm_ev 70 177 [.ref 0] hM (some (.int v)) hM' ∧ dw_JJo hX' hM' := by
  obtain ⟨m, s, yy, ho, cl, r, tx, wt, tp, tb, im, H, kp, tf, ti, B, C, U, l, k, T, Z, X, R, G, S, N, rfl, hc, rfl, hr, ok⟩ := h
  obtain ⟨hX', hM', e1, e2, e3⟩ := dw_joint (dw_Cback hc ok ) (dw_Mback_ hr ok ) (dw_Oback ok )
  exact ⟨hX', hM', _, P_X_back (d := 67) e1, P_M_back (d := 69) e2, e3⟩
theorem dw_K_sheet (h : dw_JJo hX hM) (a1 a2 a3 : Int32) : ∃ (hX' hM' : pm_H) (v : Int32), pm_ev 70 87 [.ref 0, .int a1, .int a2, .int a3] hX (some (.int v)) hX' ∧ pm_ev 70 178 [.ref 0, .int a1, .int a2, .int a3] hM (some (.int v)) hM' ∧ dw_JJo hX' hM' := by
  obtain ⟨m, s, yy, ho, cl, r, tx, wt, tp, tb, im, H, kp, tf, ti, B, C, U, l, k, T, Z, X, R, G, S, N, rfl, hc, rfl, hr, ok⟩ := h
  obtain ⟨hX', hM', e1, e2, e3⟩ := dw_joint (dw_Csheet hc a1 a2 a3) (dw_Msheet_ hr ok a1 a2 a3) (dw_Osheet ok a1 a2 a3)
  exact ⟨hX', hM', _, P_X_sheet (d := 67) e1, P_M_sheet (d := 68) e2, e3⟩
theorem dw_K_cell (h : dw_JJo hX hM) (a1 a2 a3 : Int32) : ∃ (hX' hM' : pm_H) (v : Int32), pm_ev 70 88 [.ref 0, .int a1, .int a2, .int a3] hX (some (.int v)) hX' ∧ pm_ev 70 179 [.ref 0, .int a1, .int a2, .int a3] hM (some (.int v)) hM' ∧ dw_JJo hX' hM' := by
  obtain ⟨m, s, yy, ho, cl, r, tx, wt, tp, tb, im, H, kp, tf, ti, B, C, U, l, k, T, Z, X, R, G, S, N, rfl, hc, rfl, hr, ok⟩ := h
  obtain ⟨hX', hM', e1, e2, e3⟩ := dw_joint (dw_Ccell hc ok a1 a2 a3) (dw_Mcell_ hr ok a1 a2 a3) (dw_Ocell ok a1 a2 a3)
  exact ⟨hX', hM', _, P_X_cell (d := 68) e1, P_M_cell (d := 68) e2, e3⟩
theorem dw_K_copy (h : dw_JJo hX hM) (a1 a2 a3 a4 a5 : Int32) : ∃ (hX' hM' : pm_H) (v : Int32), pm_ev 70 89 [.ref 0, .int a1, .int a2, .int a3, .int a4, .int a5] hX (some (.int v)) hX' ∧ pm_ev 70 180 [.ref 0, .int a1, .int a2, .int a3, .int a4, .int a5] hM (some (.int v)) hM' ∧ dw_JJo hX' hM' := by
  obtain ⟨m, s, yy, ho, cl, r, tx, wt, tp, tb, im, H, kp, tf, ti, B, C, U, l, k, T, Z, X, R, G, S, N, rfl, hc, rfl, hr, ok⟩ := h
  obtain ⟨hX', hM', e1, e2, e3⟩ := dw_joint (dw_Ccopy hc ok a1 a2 a3 a4 a5) (dw_Mcopy_ hr ok a1 a2 a3 a4 a5) (dw_Ocopy ok a1 a2 a3 a4 a5)
  exact ⟨hX', hM', _, P_X_copy (d := 68) e1, P_M_copy (d := 68) e2, e3⟩
theorem dw_K_dunesBy (h : dw_JJo hX hM) (a1 a2 a3 a4 : Int32) : ∃ (hX' hM' : pm_H) (v : Int32), pm_ev 70 90 [.ref 0, .int a1, .int a2, .int a3, .int a4] hX (some (.int v)) hX' ∧ pm_ev 70 181 [.ref 0, .int a1, .int a2, .int a3, .int a4] hM (some (.int v)) hM' ∧ dw_JJo hX' hM' := by
  obtain ⟨m, s, yy, ho, cl, r, tx, wt, tp, tb, im, H, kp, tf, ti, B, C, U, l, k, T, Z, X, R, G, S, N, rfl, hc, rfl, hr, ok⟩ := h
  obtain ⟨hX', hM', e1, e2, e3⟩ := dw_joint (dw_Cdby hc ok a1 a2 a3 a4) (dw_Mdby_ hr ok a1 a2 a3 a4) (dw_Odby ok a1 a2 a3 a4)
  exact ⟨hX', hM', _, P_X_dunesBy (d := 67) e1, P_M_dunesBy (d := 67) e2, e3⟩
theorem dw_K_taken (h : dw_JJo hX hM) (a1 a2 : Int32) : ∃ (hX' hM' : pm_H) (v : Int32), pm_ev 70 91 [.ref 0, .int a1, .int a2] hX (some (.int v)) hX' ∧ pm_ev 70 183 [.ref 0, .int a1, .int a2] hM (some (.int v)) hM' ∧ dw_JJo hX' hM' := by
  obtain ⟨m, s, yy, ho, cl, r, tx, wt, tp, tb, im, H, kp, tf, ti, B, C, U, l, k, T, Z, X, R, G, S, N, rfl, hc, rfl, hr, ok⟩ := h
  obtain ⟨hX', hM', e1, e2, e3⟩ := dw_joint (dw_Ctaken hc ok a1 a2) (dw_Mtaken_ hr ok a1 a2) (ok)
  exact ⟨hX', hM', _, P_X_taken (d := 68) e1, P_M_taken (d := 68) e2, e3⟩
end JJ
