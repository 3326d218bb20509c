/-! THE CLASS: one dune of a land -/
def dw_Lv {α : Type} (o : Option (pm_H × α)) (P : pm_H) (t l : Nat) (m y : Int32) (ho cl : Int64) (s : dw_L) (Q : pm_H) (v : α) : Prop := ∃ k', o = some (dw_lh P t l m y ho cl s k' Q, v)
section LK
variable {P Q : pm_H} {t l : Nat} {m y : Int32} {ho cl : Int64} {s : dw_L} {k : Nat → Int32}
theorem dw_Lv_bn2 {α β : Type} {o : Option (pm_H × α)} {v : α} {f : pm_H → α → Option (pm_H × β)} {v' : β} (h : dw_Lv o P t l m y ho cl s Q v) (g : ∀ k, dw_Lv (f (dw_lh P t l m y ho cl s k Q) v) P t l m y ho cl s Q v') : dw_Lv (bn2 o f) P t l m y ho cl s Q v' := by
  obtain ⟨k', e⟩ := h
  rw [e]
  exact g k'
theorem dw_Dyd (ht : P.length = t) {i : Nat} (hi : i < 6) : D_yards (dw_lh P t l m y ho cl s k Q) (t + 3 + i) = some (dw_lh P t l m y ho cl s k Q, dw_yds (s i 3) (s i 4)) := by
  rw [D_yards, dw_yds]
  repeat (first | with_reducible rw [bnd_s] | with_reducible rw [nmd_s] | with_reducible rw [bn2_s] | with_reducible rw [grd_t] | ((conv => arg 1; arg 1; simp (disch := omega) only [dw_lis ht, dw_lA0 ht, dw_lI1 ht, dw_lJ2 ht, dw_lJ3 ht, dw_lI4 ht, dw_lA5 ht, dw_lA6 ht, dw_lS1 ht, dw_lS2 ht, dw_lS3 ht, dw_lS4 ht, dw_lS5 ht, dw_lln ht, dw_laA ht, dw_lkn ht, dw_lkI ht, dw_lkS ht, dw_dis ht, dw_dI0 ht, dw_dI1 ht, dw_dI2 ht, dw_dI3 ht, dw_dI4 ht, dw_dI5 ht, dw_dI6 ht, dw_dS1 ht, dw_dS2 ht, dw_dS3 ht, dw_dS4 ht, dw_dS5 ht, dw_dS6 ht]); first | with_reducible rw [bnd_s] | with_reducible rw [bn2_s] | with_reducible rw [grd_t]))
  by_cases c : (0 : Int32) ≤ s i 3 - s i 4 + 1
  · rw [if_pos c, if_pos c]
  · rw [if_neg c, if_neg c]
theorem dw_Dwk (ht : P.length = t) {i : Nat} (hi : i < 6) (a : Int32) : D_walk (dw_lh P t l m y ho cl s k Q) (t + 3 + i) a = some (dw_lh P t l m y ho cl (dw_set s i 3 (dw_bd (s i 3 + a) 0 39)) k Q, ()) := by
  rw [D_walk]
  repeat (first | with_reducible rw [bnd_s] | with_reducible rw [nmd_s] | with_reducible rw [bn2_s] | with_reducible rw [grd_t] | ((conv => arg 1; arg 1; simp (disch := omega) only [dw_lis ht, dw_lA0 ht, dw_lI1 ht, dw_lJ2 ht, dw_lJ3 ht, dw_lI4 ht, dw_lA5 ht, dw_lA6 ht, dw_lS1 ht, dw_lS2 ht, dw_lS3 ht, dw_lS4 ht, dw_lS5 ht, dw_lln ht, dw_laA ht, dw_lkn ht, dw_lkI ht, dw_lkS ht, dw_dis ht, dw_dI0 ht, dw_dI1 ht, dw_dI2 ht, dw_dI3 ht, dw_dI4 ht, dw_dI5 ht, dw_dI6 ht, dw_dS1 ht, dw_dS2 ht, dw_dS3 ht, dw_dS4 ht, dw_dS5 ht, dw_dS6 ht, dw_Xbd]); first | with_reducible rw [bnd_s] | with_reducible rw [bn2_s] | with_reducible rw [grd_t]))
theorem dw_Drs (ht : P.length = t) {i : Nat} (hi : i < 6) (a : Int32) : D_rise (dw_lh P t l m y ho cl s k Q) (t + 3 + i) a = some (dw_lh P t l m y ho cl (dw_set s i 5 (dw_bd (s i 5 + a) 0 99)) k Q, ()) := by
  rw [D_rise]
  repeat (first | with_reducible rw [bnd_s] | with_reducible rw [nmd_s] | with_reducible rw [bn2_s] | with_reducible rw [grd_t] | ((conv => arg 1; arg 1; simp (disch := omega) only [dw_lis ht, dw_lA0 ht, dw_lI1 ht, dw_lJ2 ht, dw_lJ3 ht, dw_lI4 ht, dw_lA5 ht, dw_lA6 ht, dw_lS1 ht, dw_lS2 ht, dw_lS3 ht, dw_lS4 ht, dw_lS5 ht, dw_lln ht, dw_laA ht, dw_lkn ht, dw_lkI ht, dw_lkS ht, dw_dis ht, dw_dI0 ht, dw_dI1 ht, dw_dI2 ht, dw_dI3 ht, dw_dI4 ht, dw_dI5 ht, dw_dI6 ht, dw_dS1 ht, dw_dS2 ht, dw_dS3 ht, dw_dS4 ht, dw_dS5 ht, dw_dS6 ht, dw_Xbd]); first | with_reducible rw [bnd_s] | with_reducible rw [bn2_s] | with_reducible rw [grd_t]))
theorem dw_Dfg (ht : P.length = t) {i : Nat} (hi : i < 6) : D_frontOrGone (dw_lh P t l m y ho cl s k Q) (t + 3 + i) = some (dw_lh P t l m y ho cl s k Q, dw_fg s i 3) := by
  rw [D_frontOrGone, dw_fg]
  repeat (first | with_reducible rw [bnd_s] | with_reducible rw [nmd_s] | with_reducible rw [bn2_s] | with_reducible rw [grd_t] | ((conv => arg 1; arg 1; simp (disch := omega) only [dw_lis ht, dw_lA0 ht, dw_lI1 ht, dw_lJ2 ht, dw_lJ3 ht, dw_lI4 ht, dw_lA5 ht, dw_lA6 ht, dw_lS1 ht, dw_lS2 ht, dw_lS3 ht, dw_lS4 ht, dw_lS5 ht, dw_lln ht, dw_laA ht, dw_lkn ht, dw_lkI ht, dw_lkS ht, dw_dis ht, dw_dI0 ht, dw_dI1 ht, dw_dI2 ht, dw_dI3 ht, dw_dI4 ht, dw_dI5 ht, dw_dI6 ht, dw_dS1 ht, dw_dS2 ht, dw_dS3 ht, dw_dS4 ht, dw_dS5 ht, dw_dS6 ht]); first | with_reducible rw [bnd_s] | with_reducible rw [bn2_s] | with_reducible rw [grd_t]))
  by_cases c : s i 6 = 0
  · rw [if_pos c, if_pos c]
    repeat (first | with_reducible rw [bnd_s] | with_reducible rw [nmd_s] | with_reducible rw [bn2_s] | with_reducible rw [grd_t] | ((conv => arg 1; arg 1; simp (disch := omega) only [dw_lis ht, dw_lA0 ht, dw_lI1 ht, dw_lJ2 ht, dw_lJ3 ht, dw_lI4 ht, dw_lA5 ht, dw_lA6 ht, dw_lS1 ht, dw_lS2 ht, dw_lS3 ht, dw_lS4 ht, dw_lS5 ht, dw_lln ht, dw_laA ht, dw_lkn ht, dw_lkI ht, dw_lkS ht, dw_dis ht, dw_dI0 ht, dw_dI1 ht, dw_dI2 ht, dw_dI3 ht, dw_dI4 ht, dw_dI5 ht, dw_dI6 ht, dw_dS1 ht, dw_dS2 ht, dw_dS3 ht, dw_dS4 ht, dw_dS5 ht, dw_dS6 ht]); first | with_reducible rw [bnd_s] | with_reducible rw [bn2_s] | with_reducible rw [grd_t]))
  · rw [if_neg c, if_neg c]
theorem dw_Dq (ht : P.length = t) {i : Nat} (hi : i < 6) (a : Int32) : D_quality (dw_lh P t l m y ho cl s k Q) (t + 3 + i) a = some (dw_lh P t l m y ho cl s k Q, if a = 0 then s i 3 else if a = 1 then s i 4 else if a = 2 then s i 5 else if a = 3 then s i 1 else s i 2) := by
  rw [D_quality]
  by_cases c0 : a = 0
  · rw [if_pos c0, if_pos c0]
    repeat (first | with_reducible rw [bnd_s] | with_reducible rw [nmd_s] | with_reducible rw [bn2_s] | with_reducible rw [grd_t] | ((conv => arg 1; arg 1; simp (disch := omega) only [dw_lis ht, dw_lA0 ht, dw_lI1 ht, dw_lJ2 ht, dw_lJ3 ht, dw_lI4 ht, dw_lA5 ht, dw_lA6 ht, dw_lS1 ht, dw_lS2 ht, dw_lS3 ht, dw_lS4 ht, dw_lS5 ht, dw_lln ht, dw_laA ht, dw_lkn ht, dw_lkI ht, dw_lkS ht, dw_dis ht, dw_dI0 ht, dw_dI1 ht, dw_dI2 ht, dw_dI3 ht, dw_dI4 ht, dw_dI5 ht, dw_dI6 ht, dw_dS1 ht, dw_dS2 ht, dw_dS3 ht, dw_dS4 ht, dw_dS5 ht, dw_dS6 ht]); first | with_reducible rw [bnd_s] | with_reducible rw [bn2_s] | with_reducible rw [grd_t]))
  rw [if_neg c0, if_neg c0]
  by_cases c1 : a = 1
  · rw [if_pos c1, if_pos c1]
    repeat (first | with_reducible rw [bnd_s] | with_reducible rw [nmd_s] | with_reducible rw [bn2_s] | with_reducible rw [grd_t] | ((conv => arg 1; arg 1; simp (disch := omega) only [dw_lis ht, dw_lA0 ht, dw_lI1 ht, dw_lJ2 ht, dw_lJ3 ht, dw_lI4 ht, dw_lA5 ht, dw_lA6 ht, dw_lS1 ht, dw_lS2 ht, dw_lS3 ht, dw_lS4 ht, dw_lS5 ht, dw_lln ht, dw_laA ht, dw_lkn ht, dw_lkI ht, dw_lkS ht, dw_dis ht, dw_dI0 ht, dw_dI1 ht, dw_dI2 ht, dw_dI3 ht, dw_dI4 ht, dw_dI5 ht, dw_dI6 ht, dw_dS1 ht, dw_dS2 ht, dw_dS3 ht, dw_dS4 ht, dw_dS5 ht, dw_dS6 ht]); first | with_reducible rw [bnd_s] | with_reducible rw [bn2_s] | with_reducible rw [grd_t]))
  rw [if_neg c1, if_neg c1]
  by_cases c2 : a = 2
  · rw [if_pos c2, if_pos c2]
    repeat (first | with_reducible rw [bnd_s] | with_reducible rw [nmd_s] | with_reducible rw [bn2_s] | with_reducible rw [grd_t] | ((conv => arg 1; arg 1; simp (disch := omega) only [dw_lis ht, dw_lA0 ht, dw_lI1 ht, dw_lJ2 ht, dw_lJ3 ht, dw_lI4 ht, dw_lA5 ht, dw_lA6 ht, dw_lS1 ht, dw_lS2 ht, dw_lS3 ht, dw_lS4 ht, dw_lS5 ht, dw_lln ht, dw_laA ht, dw_lkn ht, dw_lkI ht, dw_lkS ht, dw_dis ht, dw_dI0 ht, dw_dI1 ht, dw_dI2 ht, dw_dI3 ht, dw_dI4 ht, dw_dI5 ht, dw_dI6 ht, dw_dS1 ht, dw_dS2 ht, dw_dS3 ht, dw_dS4 ht, dw_dS5 ht, dw_dS6 ht]); first | with_reducible rw [bnd_s] | with_reducible rw [bn2_s] | with_reducible rw [grd_t]))
  rw [if_neg c2, if_neg c2]
  by_cases c3 : a = 3
  · rw [if_pos c3, if_pos c3]
    repeat (first | with_reducible rw [bnd_s] | with_reducible rw [nmd_s] | with_reducible rw [bn2_s] | with_reducible rw [grd_t] | ((conv => arg 1; arg 1; simp (disch := omega) only [dw_lis ht, dw_lA0 ht, dw_lI1 ht, dw_lJ2 ht, dw_lJ3 ht, dw_lI4 ht, dw_lA5 ht, dw_lA6 ht, dw_lS1 ht, dw_lS2 ht, dw_lS3 ht, dw_lS4 ht, dw_lS5 ht, dw_lln ht, dw_laA ht, dw_lkn ht, dw_lkI ht, dw_lkS ht, dw_dis ht, dw_dI0 ht, dw_dI1 ht, dw_dI2 ht, dw_dI3 ht, dw_dI4 ht, dw_dI5 ht, dw_dI6 ht, dw_dS1 ht, dw_dS2 ht, dw_dS3 ht, dw_dS4 ht, dw_dS5 ht, dw_dS6 ht]); first | with_reducible rw [bnd_s] | with_reducible rw [bn2_s] | with_reducible rw [grd_t]))
  rw [if_neg c3, if_neg c3]
  repeat (first | with_reducible rw [bnd_s] | with_reducible rw [nmd_s] | with_reducible rw [bn2_s] | with_reducible rw [grd_t] | ((conv => arg 1; arg 1; simp (disch := omega) only [dw_lis ht, dw_lA0 ht, dw_lI1 ht, dw_lJ2 ht, dw_lJ3 ht, dw_lI4 ht, dw_lA5 ht, dw_lA6 ht, dw_lS1 ht, dw_lS2 ht, dw_lS3 ht, dw_lS4 ht, dw_lS5 ht, dw_lln ht, dw_laA ht, dw_lkn ht, dw_lkI ht, dw_lkS ht, dw_dis ht, dw_dI0 ht, dw_dI1 ht, dw_dI2 ht, dw_dI3 ht, dw_dI4 ht, dw_dI5 ht, dw_dI6 ht, dw_dS1 ht, dw_dS2 ht, dw_dS3 ht, dw_dS4 ht, dw_dS5 ht, dw_dS6 ht]); first | with_reducible rw [bnd_s] | with_reducible rw [bn2_s] | with_reducible rw [grd_t]))
theorem dw_Dc (ht : P.length = t) {i : Nat} (hi : i < 6) (a v : Int32) : D_change (dw_lh P t l m y ho cl s k Q) (t + 3 + i) a v = some (dw_lh P t l m y ho cl (dw_set s i (if a = 0 then 3 else if a = 1 then 4 else if a = 2 then 5 else if a = 3 then 1 else 2) v) k Q, ()) := by
  rw [D_change]
  by_cases c0 : a = 0
  · rw [if_pos c0, if_pos c0]
    repeat (first | with_reducible rw [bnd_s] | with_reducible rw [nmd_s] | with_reducible rw [bn2_s] | with_reducible rw [grd_t] | ((conv => arg 1; arg 1; simp (disch := omega) only [dw_lis ht, dw_lA0 ht, dw_lI1 ht, dw_lJ2 ht, dw_lJ3 ht, dw_lI4 ht, dw_lA5 ht, dw_lA6 ht, dw_lS1 ht, dw_lS2 ht, dw_lS3 ht, dw_lS4 ht, dw_lS5 ht, dw_lln ht, dw_laA ht, dw_lkn ht, dw_lkI ht, dw_lkS ht, dw_dis ht, dw_dI0 ht, dw_dI1 ht, dw_dI2 ht, dw_dI3 ht, dw_dI4 ht, dw_dI5 ht, dw_dI6 ht, dw_dS1 ht, dw_dS2 ht, dw_dS3 ht, dw_dS4 ht, dw_dS5 ht, dw_dS6 ht]); first | with_reducible rw [bnd_s] | with_reducible rw [bn2_s] | with_reducible rw [grd_t]))
  rw [if_neg c0, if_neg c0]
  by_cases c1 : a = 1
  · rw [if_pos c1, if_pos c1]
    repeat (first | with_reducible rw [bnd_s] | with_reducible rw [nmd_s] | with_reducible rw [bn2_s] | with_reducible rw [grd_t] | ((conv => arg 1; arg 1; simp (disch := omega) only [dw_lis ht, dw_lA0 ht, dw_lI1 ht, dw_lJ2 ht, dw_lJ3 ht, dw_lI4 ht, dw_lA5 ht, dw_lA6 ht, dw_lS1 ht, dw_lS2 ht, dw_lS3 ht, dw_lS4 ht, dw_lS5 ht, dw_lln ht, dw_laA ht, dw_lkn ht, dw_lkI ht, dw_lkS ht, dw_dis ht, dw_dI0 ht, dw_dI1 ht, dw_dI2 ht, dw_dI3 ht, dw_dI4 ht, dw_dI5 ht, dw_dI6 ht, dw_dS1 ht, dw_dS2 ht, dw_dS3 ht, dw_dS4 ht, dw_dS5 ht, dw_dS6 ht]); first | with_reducible rw [bnd_s] | with_reducible rw [bn2_s] | with_reducible rw [grd_t]))
  rw [if_neg c1, if_neg c1]
  by_cases c2 : a = 2
  · rw [if_pos c2, if_pos c2]
    repeat (first | with_reducible rw [bnd_s] | with_reducible rw [nmd_s] | with_reducible rw [bn2_s] | with_reducible rw [grd_t] | ((conv => arg 1; arg 1; simp (disch := omega) only [dw_lis ht, dw_lA0 ht, dw_lI1 ht, dw_lJ2 ht, dw_lJ3 ht, dw_lI4 ht, dw_lA5 ht, dw_lA6 ht, dw_lS1 ht, dw_lS2 ht, dw_lS3 ht, dw_lS4 ht, dw_lS5 ht, dw_lln ht, dw_laA ht, dw_lkn ht, dw_lkI ht, dw_lkS ht, dw_dis ht, dw_dI0 ht, dw_dI1 ht, dw_dI2 ht, dw_dI3 ht, dw_dI4 ht, dw_dI5 ht, dw_dI6 ht, dw_dS1 ht, dw_dS2 ht, dw_dS3 ht, dw_dS4 ht, dw_dS5 ht, dw_dS6 ht]); first | with_reducible rw [bnd_s] | with_reducible rw [bn2_s] | with_reducible rw [grd_t]))
  rw [if_neg c2, if_neg c2]
  by_cases c3 : a = 3
  · rw [if_pos c3, if_pos c3]
    repeat (first | with_reducible rw [bnd_s] | with_reducible rw [nmd_s] | with_reducible rw [bn2_s] | with_reducible rw [grd_t] | ((conv => arg 1; arg 1; simp (disch := omega) only [dw_lis ht, dw_lA0 ht, dw_lI1 ht, dw_lJ2 ht, dw_lJ3 ht, dw_lI4 ht, dw_lA5 ht, dw_lA6 ht, dw_lS1 ht, dw_lS2 ht, dw_lS3 ht, dw_lS4 ht, dw_lS5 ht, dw_lln ht, dw_laA ht, dw_lkn ht, dw_lkI ht, dw_lkS ht, dw_dis ht, dw_dI0 ht, dw_dI1 ht, dw_dI2 ht, dw_dI3 ht, dw_dI4 ht, dw_dI5 ht, dw_dI6 ht, dw_dS1 ht, dw_dS2 ht, dw_dS3 ht, dw_dS4 ht, dw_dS5 ht, dw_dS6 ht]); first | with_reducible rw [bnd_s] | with_reducible rw [bn2_s] | with_reducible rw [grd_t]))
  rw [if_neg c3, if_neg c3]
  repeat (first | with_reducible rw [bnd_s] | with_reducible rw [nmd_s] | with_reducible rw [bn2_s] | with_reducible rw [grd_t] | ((conv => arg 1; arg 1; simp (disch := omega) only [dw_lis ht, dw_lA0 ht, dw_lI1 ht, dw_lJ2 ht, dw_lJ3 ht, dw_lI4 ht, dw_lA5 ht, dw_lA6 ht, dw_lS1 ht, dw_lS2 ht, dw_lS3 ht, dw_lS4 ht, dw_lS5 ht, dw_lln ht, dw_laA ht, dw_lkn ht, dw_lkI ht, dw_lkS ht, dw_dis ht, dw_dI0 ht, dw_dI1 ht, dw_dI2 ht, dw_dI3 ht, dw_dI4 ht, dw_dI5 ht, dw_dI6 ht, dw_dS1 ht, dw_dS2 ht, dw_dS3 ht, dw_dS4 ht, dw_dS5 ht, dw_dS6 ht]); first | with_reducible rw [bnd_s] | with_reducible rw [bn2_s] | with_reducible rw [grd_t]))
theorem dw_LonC (ht : P.length = t) {i : Nat} (hi : i < 6) : L_onClover (dw_lh P t l m y ho cl s k Q) t (some (t + 3 + i)) = some (dw_lh P t l m y ho cl s k Q, dw_on cl (s i)) := by
  rw [L_onClover, dw_on]
  repeat (first | with_reducible rw [bnd_s] | with_reducible rw [nmd_s] | with_reducible rw [bn2_s] | with_reducible rw [grd_t] | ((conv => arg 1; arg 1; simp (disch := omega) only [dw_lis ht, dw_lA0 ht, dw_lI1 ht, dw_lJ2 ht, dw_lJ3 ht, dw_lI4 ht, dw_lA5 ht, dw_lA6 ht, dw_lS1 ht, dw_lS2 ht, dw_lS3 ht, dw_lS4 ht, dw_lS5 ht, dw_lln ht, dw_laA ht, dw_lkn ht, dw_lkI ht, dw_lkS ht, dw_dis ht, dw_dI0 ht, dw_dI1 ht, dw_dI2 ht, dw_dI3 ht, dw_dI4 ht, dw_dI5 ht, dw_dI6 ht, dw_dS1 ht, dw_dS2 ht, dw_dS3 ht, dw_dS4 ht, dw_dS5 ht, dw_dS6 ht, dw_Dyd ht hi]); first | with_reducible rw [bnd_s] | with_reducible rw [bn2_s] | with_reducible rw [grd_t]))
  rw [dw_and_comm]
  by_cases c : dw_yds (s i 3) (s i 4) &&& cl = 0
  · rw [if_pos ((dw_cmp0 _).mpr c), if_pos c]
  · rw [if_neg (fun q => c ((dw_cmp0 _).mp q)), if_neg c]
theorem dw_Lst (ht : P.length = t) (a : Int32) : L_standing (dw_lh P t l m y ho cl s k Q) t a = some (dw_lh P t l m y ho cl s k Q, (dw_st s a 6).map (fun j => t + 3 + j)) := by
  rw [L_standing, L_standing_25]
  by_cases c0 : a < 0
  · rw [if_pos c0, dw_st_none (fun j hj e => absurd (e ▸ c0) (nI_pos (by omega)))]
    rfl
  rw [if_neg c0]
  obtain ⟨j, hj, rfl⟩ := nI_of c0
  repeat (first | with_reducible rw [bnd_s] | with_reducible rw [nmd_s] | with_reducible rw [bn2_s] | with_reducible rw [grd_t] | ((conv => arg 1; arg 1; simp (disch := omega) only [dw_lis ht, dw_lA0 ht, dw_lI1 ht, dw_lJ2 ht, dw_lJ3 ht, dw_lI4 ht, dw_lA5 ht, dw_lA6 ht, dw_lS1 ht, dw_lS2 ht, dw_lS3 ht, dw_lS4 ht, dw_lS5 ht, dw_lln ht, dw_laA ht, dw_lkn ht, dw_lkI ht, dw_lkS ht, dw_dis ht, dw_dI0 ht, dw_dI1 ht, dw_dI2 ht, dw_dI3 ht, dw_dI4 ht, dw_dI5 ht, dw_dI6 ht, dw_dS1 ht, dw_dS2 ht, dw_dS3 ht, dw_dS4 ht, dw_dS5 ht, dw_dS6 ht]); first | with_reducible rw [bnd_s] | with_reducible rw [bn2_s] | with_reducible rw [grd_t]))
  by_cases c1 : j < 6
  · rw [if_neg (show ¬ (6 : Int32) ≤ nI j from nI_ge (b := 6) c1 (by omega))]
    repeat (first | with_reducible rw [bnd_s] | with_reducible rw [nmd_s] | with_reducible rw [bn2_s] | with_reducible rw [grd_t] | ((conv => arg 1; arg 1; simp (disch := omega) only [dw_lis ht, dw_lA0 ht, dw_lI1 ht, dw_lJ2 ht, dw_lJ3 ht, dw_lI4 ht, dw_lA5 ht, dw_lA6 ht, dw_lS1 ht, dw_lS2 ht, dw_lS3 ht, dw_lS4 ht, dw_lS5 ht, dw_lln ht, dw_laA ht, dw_lkn ht, dw_lkI ht, dw_lkS ht, dw_dis ht, dw_dI0 ht, dw_dI1 ht, dw_dI2 ht, dw_dI3 ht, dw_dI4 ht, dw_dI5 ht, dw_dI6 ht, dw_dS1 ht, dw_dS2 ht, dw_dS3 ht, dw_dS4 ht, dw_dS5 ht, dw_dS6 ht]); first | with_reducible rw [bnd_s] | with_reducible rw [bn2_s] | with_reducible rw [grd_t]))
    by_cases c2 : s j 6 = 0
    · rw [if_pos c2, dw_st_some c2 c1 (by decide)]
      repeat (first | with_reducible rw [bnd_s] | with_reducible rw [nmd_s] | with_reducible rw [bn2_s] | with_reducible rw [grd_t] | ((conv => arg 1; arg 1; simp (disch := omega) only [dw_lis ht, dw_lA0 ht, dw_lI1 ht, dw_lJ2 ht, dw_lJ3 ht, dw_lI4 ht, dw_lA5 ht, dw_lA6 ht, dw_lS1 ht, dw_lS2 ht, dw_lS3 ht, dw_lS4 ht, dw_lS5 ht, dw_lln ht, dw_laA ht, dw_lkn ht, dw_lkI ht, dw_lkS ht, dw_dis ht, dw_dI0 ht, dw_dI1 ht, dw_dI2 ht, dw_dI3 ht, dw_dI4 ht, dw_dI5 ht, dw_dI6 ht, dw_dS1 ht, dw_dS2 ht, dw_dS3 ht, dw_dS4 ht, dw_dS5 ht, dw_dS6 ht]); first | with_reducible rw [bnd_s] | with_reducible rw [bn2_s] | with_reducible rw [grd_t]))
      rfl
    · rw [if_neg c2, dw_st_none (fun i hi e => by
        rw [nI_eq (by omega) (by omega)] at e
        rw [← e]
        exact c2)]
      rfl
  · rw [if_pos (show (6 : Int32) ≤ nI j from nI_le (a := 6) (by omega) hj), dw_st_none (fun i hi e => by
      rw [nI_eq (by omega) (by omega)] at e
      omega)]
    rfl
theorem dw_Lli13 (ht : P.length = t) (f n : Nat) : ∀ i, i + n = 6 → L_living_13 (f + n + 1) (dw_lh P t l m y ho cl s k Q) (dw_live s i) (some (t + 1)) 6 (nI i) = some (dw_lh P t l m y ho cl s k Q, dw_live s 6) := by
  induction n with
  | zero =>
    intro i hi
    rw [L_living_13, if_pos (show (6 : Int32) ≤ nI i from nI_le (a := 6) (by omega) (by omega)), show i = 6 by omega]
  | succ n ih =>
    intro i hi
    rw [show f + (n + 1) + 1 = f + n + 1 + 1 by omega, L_living_13, if_neg (show ¬ (6 : Int32) ≤ nI i from nI_ge (b := 6) (by omega) (by omega)), ← ih (i + 1) (by omega), dw_live]
    repeat (first | with_reducible rw [bnd_s] | with_reducible rw [nmd_s] | with_reducible rw [bn2_s] | with_reducible rw [grd_t] | ((conv => arg 1; arg 1; simp (disch := omega) only [dw_lis ht, dw_lA0 ht, dw_lI1 ht, dw_lJ2 ht, dw_lJ3 ht, dw_lI4 ht, dw_lA5 ht, dw_lA6 ht, dw_lS1 ht, dw_lS2 ht, dw_lS3 ht, dw_lS4 ht, dw_lS5 ht, dw_lln ht, dw_laA ht, dw_lkn ht, dw_lkI ht, dw_lkS ht, dw_dis ht, dw_dI0 ht, dw_dI1 ht, dw_dI2 ht, dw_dI3 ht, dw_dI4 ht, dw_dI5 ht, dw_dI6 ht, dw_dS1 ht, dw_dS2 ht, dw_dS3 ht, dw_dS4 ht, dw_dS5 ht, dw_dS6 ht]); first | with_reducible rw [bnd_s] | with_reducible rw [bn2_s] | with_reducible rw [grd_t]))
    by_cases c : s i 6 = 0
    · rw [if_pos c, if_pos c]
      repeat (first | with_reducible rw [bnd_s] | with_reducible rw [nmd_s] | with_reducible rw [bn2_s] | with_reducible rw [grd_t] | ((conv => arg 1; arg 1; simp (disch := omega) only [dw_lis ht, dw_lA0 ht, dw_lI1 ht, dw_lJ2 ht, dw_lJ3 ht, dw_lI4 ht, dw_lA5 ht, dw_lA6 ht, dw_lS1 ht, dw_lS2 ht, dw_lS3 ht, dw_lS4 ht, dw_lS5 ht, dw_lln ht, dw_laA ht, dw_lkn ht, dw_lkI ht, dw_lkS ht, dw_dis ht, dw_dI0 ht, dw_dI1 ht, dw_dI2 ht, dw_dI3 ht, dw_dI4 ht, dw_dI5 ht, dw_dI6 ht, dw_dS1 ht, dw_dS2 ht, dw_dS3 ht, dw_dS4 ht, dw_dS5 ht, dw_dS6 ht]); first | with_reducible rw [bnd_s] | with_reducible rw [bn2_s] | with_reducible rw [grd_t]))
      rw [L_living_45, nmd_s, nmd_s, nI_1]
    · rw [if_neg c, if_neg c, L_living_45, nmd_s, nmd_s, nI_1]
theorem dw_Lli (ht : P.length = t) : L_living (dw_lh P t l m y ho cl s k Q) t = some (dw_lh P t l m y ho cl s k Q, dw_live s 6) := by
  rw [L_living]
  repeat (first | with_reducible rw [bnd_s] | with_reducible rw [nmd_s] | with_reducible rw [bn2_s] | with_reducible rw [grd_t] | ((conv => arg 1; arg 1; simp (disch := omega) only [dw_lis ht, dw_lA0 ht, dw_lI1 ht, dw_lJ2 ht, dw_lJ3 ht, dw_lI4 ht, dw_lA5 ht, dw_lA6 ht, dw_lS1 ht, dw_lS2 ht, dw_lS3 ht, dw_lS4 ht, dw_lS5 ht, dw_lln ht, dw_laA ht, dw_lkn ht, dw_lkI ht, dw_lkS ht, dw_dis ht, dw_dI0 ht, dw_dI1 ht, dw_dI2 ht, dw_dI3 ht, dw_dI4 ht, dw_dI5 ht, dw_dI6 ht, dw_dS1 ht, dw_dS2 ht, dw_dS3 ht, dw_dS4 ht, dw_dS5 ht, dw_dS6 ht]); first | with_reducible rw [bnd_s] | with_reducible rw [bn2_s] | with_reducible rw [grd_t]))
  exact dw_Lli13 ht 993 6 0 rfl
theorem dw_Lsa14 (ht : P.length = t) (f n : Nat) : ∀ i, i + n = 6 → L_sand_14 (f + n + 1) (dw_lh P t l m y ho cl s k Q) (dw_sand s i) (some (t + 1)) 6 (nI i) = some (dw_lh P t l m y ho cl s k Q, dw_sand s 6) := by
  induction n with
  | zero =>
    intro i hi
    rw [L_sand_14, if_pos (show (6 : Int32) ≤ nI i from nI_le (a := 6) (by omega) (by omega)), show i = 6 by omega]
  | succ n ih =>
    intro i hi
    rw [show f + (n + 1) + 1 = f + n + 1 + 1 by omega, L_sand_14, if_neg (show ¬ (6 : Int32) ≤ nI i from nI_ge (b := 6) (by omega) (by omega)), ← ih (i + 1) (by omega), dw_sand]
    repeat (first | with_reducible rw [bnd_s] | with_reducible rw [nmd_s] | with_reducible rw [bn2_s] | with_reducible rw [grd_t] | ((conv => arg 1; arg 1; simp (disch := omega) only [dw_lis ht, dw_lA0 ht, dw_lI1 ht, dw_lJ2 ht, dw_lJ3 ht, dw_lI4 ht, dw_lA5 ht, dw_lA6 ht, dw_lS1 ht, dw_lS2 ht, dw_lS3 ht, dw_lS4 ht, dw_lS5 ht, dw_lln ht, dw_laA ht, dw_lkn ht, dw_lkI ht, dw_lkS ht, dw_dis ht, dw_dI0 ht, dw_dI1 ht, dw_dI2 ht, dw_dI3 ht, dw_dI4 ht, dw_dI5 ht, dw_dI6 ht, dw_dS1 ht, dw_dS2 ht, dw_dS3 ht, dw_dS4 ht, dw_dS5 ht, dw_dS6 ht]); first | with_reducible rw [bnd_s] | with_reducible rw [bn2_s] | with_reducible rw [grd_t]))
    by_cases c : s i 6 = 0
    · rw [if_pos c, if_pos c]
      repeat (first | with_reducible rw [bnd_s] | with_reducible rw [nmd_s] | with_reducible rw [bn2_s] | with_reducible rw [grd_t] | ((conv => arg 1; arg 1; simp (disch := omega) only [dw_lis ht, dw_lA0 ht, dw_lI1 ht, dw_lJ2 ht, dw_lJ3 ht, dw_lI4 ht, dw_lA5 ht, dw_lA6 ht, dw_lS1 ht, dw_lS2 ht, dw_lS3 ht, dw_lS4 ht, dw_lS5 ht, dw_lln ht, dw_laA ht, dw_lkn ht, dw_lkI ht, dw_lkS ht, dw_dis ht, dw_dI0 ht, dw_dI1 ht, dw_dI2 ht, dw_dI3 ht, dw_dI4 ht, dw_dI5 ht, dw_dI6 ht, dw_dS1 ht, dw_dS2 ht, dw_dS3 ht, dw_dS4 ht, dw_dS5 ht, dw_dS6 ht, dw_Dyd ht (show i < 6 by omega)]); first | with_reducible rw [bnd_s] | with_reducible rw [bn2_s] | with_reducible rw [grd_t]))
      rw [L_sand_45, nmd_s, nmd_s, nI_1]
    · rw [if_neg c, if_neg c, L_sand_45, nmd_s, nmd_s, nI_1]
theorem dw_Lsa (ht : P.length = t) : L_sand (dw_lh P t l m y ho cl s k Q) t = some (dw_lh P t l m y ho cl s k Q, dw_sand s 6) := by
  rw [L_sand]
  repeat (first | with_reducible rw [bnd_s] | with_reducible rw [nmd_s] | with_reducible rw [bn2_s] | with_reducible rw [grd_t] | ((conv => arg 1; arg 1; simp (disch := omega) only [dw_lis ht, dw_lA0 ht, dw_lI1 ht, dw_lJ2 ht, dw_lJ3 ht, dw_lI4 ht, dw_lA5 ht, dw_lA6 ht, dw_lS1 ht, dw_lS2 ht, dw_lS3 ht, dw_lS4 ht, dw_lS5 ht, dw_lln ht, dw_laA ht, dw_lkn ht, dw_lkI ht, dw_lkS ht, dw_dis ht, dw_dI0 ht, dw_dI1 ht, dw_dI2 ht, dw_dI3 ht, dw_dI4 ht, dw_dI5 ht, dw_dI6 ht, dw_dS1 ht, dw_dS2 ht, dw_dS3 ht, dw_dS4 ht, dw_dS5 ht, dw_dS6 ht]); first | with_reducible rw [bnd_s] | with_reducible rw [bn2_s] | with_reducible rw [grd_t]))
  exact dw_Lsa14 ht 993 6 0 rfl
theorem dw_Lbu (ht : P.length = t) (hho : dw_small ho) : L_buried (dw_lh P t l m y ho cl s k Q) t = some (dw_lh P t l m y ho cl s k Q, dw_bur ho s) := by
  rw [L_buried, dw_bur]
  repeat (first | with_reducible rw [bnd_s] | with_reducible rw [nmd_s] | with_reducible rw [bn2_s] | with_reducible rw [grd_t] | ((conv => arg 1; arg 1; simp (disch := omega) only [dw_lis ht, dw_lA0 ht, dw_lI1 ht, dw_lJ2 ht, dw_lJ3 ht, dw_lI4 ht, dw_lA5 ht, dw_lA6 ht, dw_lS1 ht, dw_lS2 ht, dw_lS3 ht, dw_lS4 ht, dw_lS5 ht, dw_lln ht, dw_laA ht, dw_lkn ht, dw_lkI ht, dw_lkS ht, dw_dis ht, dw_dI0 ht, dw_dI1 ht, dw_dI2 ht, dw_dI3 ht, dw_dI4 ht, dw_dI5 ht, dw_dI6 ht, dw_dS1 ht, dw_dS2 ht, dw_dS3 ht, dw_dS4 ht, dw_dS5 ht, dw_dS6 ht, dw_Lsa ht, dw_Jl' (dw_small_and hho (dw_sand s 6))]); first | with_reducible rw [bnd_s] | with_reducible rw [bn2_s] | with_reducible rw [grd_t]))
theorem dw_Lfo11 (ht : P.length = t) (yv : Int32) (f n : Nat) : ∀ i, i + n = 6 → L_firstOver_11 (f + n + 1) (dw_lh P t l m y ho cl s k Q) yv (some (t + 1)) 6 (nI i) = some (dw_lh P t l m y ho cl s k Q, dw_find (dw_ov s yv) n i) := by
  induction n with
  | zero =>
    intro i hi
    rw [L_firstOver_11, if_pos (show (6 : Int32) ≤ nI i from nI_le (a := 6) (by omega) (by omega)), dw_find]
  | succ n ih =>
    intro i hi
    rw [show f + (n + 1) + 1 = f + n + 1 + 1 by omega, L_firstOver_11, if_neg (show ¬ (6 : Int32) ≤ nI i from nI_ge (b := 6) (by omega) (by omega)), dw_find]
    repeat (first | with_reducible rw [bnd_s] | with_reducible rw [nmd_s] | with_reducible rw [bn2_s] | with_reducible rw [grd_t] | ((conv => arg 1; arg 1; simp (disch := omega) only [dw_lis ht, dw_lA0 ht, dw_lI1 ht, dw_lJ2 ht, dw_lJ3 ht, dw_lI4 ht, dw_lA5 ht, dw_lA6 ht, dw_lS1 ht, dw_lS2 ht, dw_lS3 ht, dw_lS4 ht, dw_lS5 ht, dw_lln ht, dw_laA ht, dw_lkn ht, dw_lkI ht, dw_lkS ht, dw_dis ht, dw_dI0 ht, dw_dI1 ht, dw_dI2 ht, dw_dI3 ht, dw_dI4 ht, dw_dI5 ht, dw_dI6 ht, dw_dS1 ht, dw_dS2 ht, dw_dS3 ht, dw_dS4 ht, dw_dS5 ht, dw_dS6 ht]); first | with_reducible rw [bnd_s] | with_reducible rw [bn2_s] | with_reducible rw [grd_t]))
    by_cases c : s i 6 = 0
    · rw [if_pos c]
      repeat (first | with_reducible rw [bnd_s] | with_reducible rw [nmd_s] | with_reducible rw [bn2_s] | with_reducible rw [grd_t] | ((conv => arg 1; arg 1; simp (disch := omega) only [dw_lis ht, dw_lA0 ht, dw_lI1 ht, dw_lJ2 ht, dw_lJ3 ht, dw_lI4 ht, dw_lA5 ht, dw_lA6 ht, dw_lS1 ht, dw_lS2 ht, dw_lS3 ht, dw_lS4 ht, dw_lS5 ht, dw_lln ht, dw_laA ht, dw_lkn ht, dw_lkI ht, dw_lkS ht, dw_dis ht, dw_dI0 ht, dw_dI1 ht, dw_dI2 ht, dw_dI3 ht, dw_dI4 ht, dw_dI5 ht, dw_dI6 ht, dw_dS1 ht, dw_dS2 ht, dw_dS3 ht, dw_dS4 ht, dw_dS5 ht, dw_dS6 ht, dw_Dyd ht (show i < 6 by omega)]); first | with_reducible rw [bnd_s] | with_reducible rw [bn2_s] | with_reducible rw [grd_t]))
      by_cases c2 : lg_cmp ((dw_yds (s i 3) (s i 4) >>> (yv.toInt64 &&& 63)) &&& 1) 1 = 0
      · rw [if_pos c2, if_pos (show dw_ov s yv i = true by unfold dw_ov; rw [decide_eq_true c, decide_eq_true c2]; rfl)]
        repeat (first | with_reducible rw [bnd_s] | with_reducible rw [nmd_s] | with_reducible rw [bn2_s] | with_reducible rw [grd_t] | ((conv => arg 1; arg 1; simp (disch := omega) only [dw_lis ht, dw_lA0 ht, dw_lI1 ht, dw_lJ2 ht, dw_lJ3 ht, dw_lI4 ht, dw_lA5 ht, dw_lA6 ht, dw_lS1 ht, dw_lS2 ht, dw_lS3 ht, dw_lS4 ht, dw_lS5 ht, dw_lln ht, dw_laA ht, dw_lkn ht, dw_lkI ht, dw_lkS ht, dw_dis ht, dw_dI0 ht, dw_dI1 ht, dw_dI2 ht, dw_dI3 ht, dw_dI4 ht, dw_dI5 ht, dw_dI6 ht, dw_dS1 ht, dw_dS2 ht, dw_dS3 ht, dw_dS4 ht, dw_dS5 ht, dw_dS6 ht]); first | with_reducible rw [bnd_s] | with_reducible rw [bn2_s] | with_reducible rw [grd_t]))
      · rw [if_neg c2, if_neg (show ¬ dw_ov s yv i = true by unfold dw_ov; rw [decide_eq_false c2]; simp), L_firstOver_51, nmd_s, nI_1]
        exact ih (i + 1) (by omega)
    · rw [if_neg c, if_neg (show ¬ dw_ov s yv i = true by unfold dw_ov; rw [decide_eq_false c]; simp), L_firstOver_51, nmd_s, nI_1]
      exact ih (i + 1) (by omega)
theorem dw_Lfo (ht : P.length = t) (yv : Int32) : L_firstOver (dw_lh P t l m y ho cl s k Q) t yv = some (dw_lh P t l m y ho cl s k Q, dw_find (dw_ov s yv) 6 0) := by
  rw [L_firstOver]
  repeat (first | with_reducible rw [bnd_s] | with_reducible rw [nmd_s] | with_reducible rw [bn2_s] | with_reducible rw [grd_t] | ((conv => arg 1; arg 1; simp (disch := omega) only [dw_lis ht, dw_lA0 ht, dw_lI1 ht, dw_lJ2 ht, dw_lJ3 ht, dw_lI4 ht, dw_lA5 ht, dw_lA6 ht, dw_lS1 ht, dw_lS2 ht, dw_lS3 ht, dw_lS4 ht, dw_lS5 ht, dw_lln ht, dw_laA ht, dw_lkn ht, dw_lkI ht, dw_lkS ht, dw_dis ht, dw_dI0 ht, dw_dI1 ht, dw_dI2 ht, dw_dI3 ht, dw_dI4 ht, dw_dI5 ht, dw_dI6 ht, dw_dS1 ht, dw_dS2 ht, dw_dS3 ht, dw_dS4 ht, dw_dS5 ht, dw_dS6 ht]); first | with_reducible rw [bnd_s] | with_reducible rw [bn2_s] | with_reducible rw [grd_t]))
  exact dw_Lfo11 ht yv 993 6 0 rfl
theorem dw_Lhh (ht : P.length = t) (hho : dw_small ho) {i : Nat} (hi : i < 64) : L_hasHouse (dw_lh P t l m y ho cl s k Q) t (nI i) = some (dw_lh P t l m y ho cl s k Q, if dw_tb ho i = true then 1 else 0) := by
  rw [L_hasHouse]
  repeat (first | with_reducible rw [bnd_s] | with_reducible rw [nmd_s] | with_reducible rw [bn2_s] | with_reducible rw [grd_t] | ((conv => arg 1; arg 1; simp (disch := omega) only [dw_lis ht, dw_lA0 ht, dw_lI1 ht, dw_lJ2 ht, dw_lJ3 ht, dw_lI4 ht, dw_lA5 ht, dw_lA6 ht, dw_lS1 ht, dw_lS2 ht, dw_lS3 ht, dw_lS4 ht, dw_lS5 ht, dw_lln ht, dw_laA ht, dw_lkn ht, dw_lkI ht, dw_lkS ht, dw_dis ht, dw_dI0 ht, dw_dI1 ht, dw_dI2 ht, dw_dI3 ht, dw_dI4 ht, dw_dI5 ht, dw_dI6 ht, dw_dS1 ht, dw_dS2 ht, dw_dS3 ht, dw_dS4 ht, dw_dS5 ht, dw_dS6 ht]); first | with_reducible rw [bnd_s] | with_reducible rw [bn2_s] | with_reducible rw [grd_t]))
  by_cases c : dw_tb ho i = true
  · rw [if_pos ((dw_tb1 hho hi).mpr c), if_pos c]
  · rw [if_neg (fun q => c ((dw_tb1 hho hi).mp q)), if_neg c]
/-! what a text says -/
def dw_od (P Q : pm_H) (a : Nat) (c : pm_C) : Prop := ∀ B : pm_H, B.length = 9 → (P ++ (B ++ Q))[a]? = some c
def dw_lc (P Q : pm_H) (l : Nat) (n : Int32) (w : dw_W) : Prop := dw_od P Q l (.inr (2, [.int n, .ref (l + 1), .ref (l + 2), .ref (l + 3)])) ∧ ∀ p, p < 3 → dw_ok (dw_row w p) 0 ∧ (dw_row w p).length ≤ 160 ∧ ∃ f : Nat → Int32, dw_od P Q (l + 1 + p) (.inl (0, (dw_row w p).length, .inl f)) ∧ ∀ j, j < (dw_row w p).length → f j = nI ((dw_row w p).getD j 0)
theorem dw_od_lh {a : Nat} {c : pm_C} (h : dw_od P Q a c) : (dw_lh P t l m y ho cl s k Q)[a]? = some c := h _ rfl
theorem dw_Lnm (ht : P.length = t) {i : Nat} (hi : i < 6) (on : Int32) {T : Nat} (h1 : 10000 ≤ T) (h2 : T ≤ 10005) : L_named (dw_lh P t l m y ho cl s k Q) t (nI T) (some (t + 3 + i)) on = some (dw_lh P t l m y ho cl s k Q, dw_nm y on (s i) T) := by
  rw [L_named, dw_nm, if_neg (show ¬ T < 10000 by omega)]
  rcases (by omega : T = 10000 ∨ T = 10001 ∨ T = 10002 ∨ T = 10003 ∨ T = 10004 ∨ T = 10005) with rfl | rfl | rfl | rfl | rfl | rfl
  · rw [if_pos (show nI 10000 = 10000 from rfl), if_pos rfl]
    repeat (first | with_reducible rw [bnd_s] | with_reducible rw [nmd_s] | with_reducible rw [bn2_s] | with_reducible rw [grd_t] | ((conv => arg 1; arg 1; simp (disch := omega) only [dw_lis ht, dw_lA0 ht, dw_lI1 ht, dw_lJ2 ht, dw_lJ3 ht, dw_lI4 ht, dw_lA5 ht, dw_lA6 ht, dw_lS1 ht, dw_lS2 ht, dw_lS3 ht, dw_lS4 ht, dw_lS5 ht, dw_lln ht, dw_laA ht, dw_lkn ht, dw_lkI ht, dw_lkS ht, dw_dis ht, dw_dI0 ht, dw_dI1 ht, dw_dI2 ht, dw_dI3 ht, dw_dI4 ht, dw_dI5 ht, dw_dI6 ht, dw_dS1 ht, dw_dS2 ht, dw_dS3 ht, dw_dS4 ht, dw_dS5 ht, dw_dS6 ht]); first | with_reducible rw [bnd_s] | with_reducible rw [bn2_s] | with_reducible rw [grd_t]))
  · rw [if_neg (show ¬ nI 10001 = 10000 by decide), if_pos (show nI 10001 = 10001 from rfl), if_neg (by decide), if_pos rfl]
    repeat (first | with_reducible rw [bnd_s] | with_reducible rw [nmd_s] | with_reducible rw [bn2_s] | with_reducible rw [grd_t] | ((conv => arg 1; arg 1; simp (disch := omega) only [dw_lis ht, dw_lA0 ht, dw_lI1 ht, dw_lJ2 ht, dw_lJ3 ht, dw_lI4 ht, dw_lA5 ht, dw_lA6 ht, dw_lS1 ht, dw_lS2 ht, dw_lS3 ht, dw_lS4 ht, dw_lS5 ht, dw_lln ht, dw_laA ht, dw_lkn ht, dw_lkI ht, dw_lkS ht, dw_dis ht, dw_dI0 ht, dw_dI1 ht, dw_dI2 ht, dw_dI3 ht, dw_dI4 ht, dw_dI5 ht, dw_dI6 ht, dw_dS1 ht, dw_dS2 ht, dw_dS3 ht, dw_dS4 ht, dw_dS5 ht, dw_dS6 ht]); first | with_reducible rw [bnd_s] | with_reducible rw [bn2_s] | with_reducible rw [grd_t]))
  · rw [if_neg (show ¬ nI 10002 = 10000 by decide), if_neg (show ¬ nI 10002 = 10001 by decide), if_pos (show nI 10002 = 10002 from rfl), if_neg (by decide), if_neg (by decide), if_pos rfl]
    repeat (first | with_reducible rw [bnd_s] | with_reducible rw [nmd_s] | with_reducible rw [bn2_s] | with_reducible rw [grd_t] | ((conv => arg 1; arg 1; simp (disch := omega) only [dw_lis ht, dw_lA0 ht, dw_lI1 ht, dw_lJ2 ht, dw_lJ3 ht, dw_lI4 ht, dw_lA5 ht, dw_lA6 ht, dw_lS1 ht, dw_lS2 ht, dw_lS3 ht, dw_lS4 ht, dw_lS5 ht, dw_lln ht, dw_laA ht, dw_lkn ht, dw_lkI ht, dw_lkS ht, dw_dis ht, dw_dI0 ht, dw_dI1 ht, dw_dI2 ht, dw_dI3 ht, dw_dI4 ht, dw_dI5 ht, dw_dI6 ht, dw_dS1 ht, dw_dS2 ht, dw_dS3 ht, dw_dS4 ht, dw_dS5 ht, dw_dS6 ht]); first | with_reducible rw [bnd_s] | with_reducible rw [bn2_s] | with_reducible rw [grd_t]))
  · rw [if_neg (show ¬ nI 10003 = 10000 by decide), if_neg (show ¬ nI 10003 = 10001 by decide), if_neg (show ¬ nI 10003 = 10002 by decide), if_pos (show nI 10003 = 10003 from rfl), if_neg (by decide), if_neg (by decide), if_neg (by decide), if_pos rfl]
  · rw [if_neg (show ¬ nI 10004 = 10000 by decide), if_neg (show ¬ nI 10004 = 10001 by decide), if_neg (show ¬ nI 10004 = 10002 by decide), if_neg (show ¬ nI 10004 = 10003 by decide), if_pos (show nI 10004 = 10004 from rfl), if_neg (by decide), if_neg (by decide), if_neg (by decide), if_neg (by decide), if_pos rfl]
    repeat (first | with_reducible rw [bnd_s] | with_reducible rw [nmd_s] | with_reducible rw [bn2_s] | with_reducible rw [grd_t] | ((conv => arg 1; arg 1; simp (disch := omega) only [dw_lis ht, dw_lA0 ht, dw_lI1 ht, dw_lJ2 ht, dw_lJ3 ht, dw_lI4 ht, dw_lA5 ht, dw_lA6 ht, dw_lS1 ht, dw_lS2 ht, dw_lS3 ht, dw_lS4 ht, dw_lS5 ht, dw_lln ht, dw_laA ht, dw_lkn ht, dw_lkI ht, dw_lkS ht, dw_dis ht, dw_dI0 ht, dw_dI1 ht, dw_dI2 ht, dw_dI3 ht, dw_dI4 ht, dw_dI5 ht, dw_dI6 ht, dw_dS1 ht, dw_dS2 ht, dw_dS3 ht, dw_dS4 ht, dw_dS5 ht, dw_dS6 ht]); first | with_reducible rw [bnd_s] | with_reducible rw [bn2_s] | with_reducible rw [grd_t]))
  · rw [if_neg (show ¬ nI 10005 = 10000 by decide), if_neg (show ¬ nI 10005 = 10001 by decide), if_neg (show ¬ nI 10005 = 10002 by decide), if_neg (show ¬ nI 10005 = 10003 by decide), if_neg (show ¬ nI 10005 = 10004 by decide), if_neg (by decide), if_neg (by decide), if_neg (by decide), if_neg (by decide), if_neg (by decide)]
    repeat (first | with_reducible rw [bnd_s] | with_reducible rw [nmd_s] | with_reducible rw [bn2_s] | with_reducible rw [grd_t] | ((conv => arg 1; arg 1; simp (disch := omega) only [dw_lis ht, dw_lA0 ht, dw_lI1 ht, dw_lJ2 ht, dw_lJ3 ht, dw_lI4 ht, dw_lA5 ht, dw_lA6 ht, dw_lS1 ht, dw_lS2 ht, dw_lS3 ht, dw_lS4 ht, dw_lS5 ht, dw_lln ht, dw_laA ht, dw_lkn ht, dw_lkI ht, dw_lkS ht, dw_dis ht, dw_dI0 ht, dw_dI1 ht, dw_dI2 ht, dw_dI3 ht, dw_dI4 ht, dw_dI5 ht, dw_dI6 ht, dw_dS1 ht, dw_dS2 ht, dw_dS3 ht, dw_dS4 ht, dw_dS5 ht, dw_dS6 ht]); first | with_reducible rw [bnd_s] | with_reducible rw [bn2_s] | with_reducible rw [grd_t]))
theorem dw_Ljo (h : pm_H) {T : Nat} (h1 : 10006 ≤ T) (h2 : T ≤ 10012) (a b : Int32) : L_joined h (nI T) a b = some (h, dw_jn T a b) := by
  unfold L_joined L_joined_48
  rcases (by omega : T = 10006 ∨ T = 10007 ∨ T = 10008 ∨ T = 10009 ∨ T = 10010 ∨ T = 10011 ∨ T = 10012) with rfl | rfl | rfl | rfl | rfl | rfl | rfl
  · rw [if_pos (show nI 10006 = 10006 from rfl), dw_jn6]
    by_cases ha : a = 0 <;> by_cases hb : b = 0 <;> simp [ha, hb]
  · rw [if_neg (show ¬ nI 10007 = 10006 by decide), if_pos (show nI 10007 = 10007 from rfl), dw_jn7]
    by_cases ha : a = 0 <;> by_cases hb : b = 0 <;> simp [ha, hb]
  · rw [if_neg (show ¬ nI 10008 = 10006 by decide), if_neg (show ¬ nI 10008 = 10007 by decide), if_pos (show nI 10008 = 10008 from rfl), dw_jn8]
    by_cases ha : b ≤ a <;> simp [ha]
  · rw [if_neg (show ¬ nI 10009 = 10006 by decide), if_neg (show ¬ nI 10009 = 10007 by decide), if_neg (show ¬ nI 10009 = 10008 by decide), if_pos (show nI 10009 = 10009 from rfl), dw_jn9]
    by_cases ha : a = b <;> simp [ha]
  · rw [if_neg (show ¬ nI 10010 = 10006 by decide), if_neg (show ¬ nI 10010 = 10007 by decide), if_neg (show ¬ nI 10010 = 10008 by decide), if_neg (show ¬ nI 10010 = 10009 by decide), if_pos (show nI 10010 = 10010 from rfl), dw_jn10]
  · rw [if_neg (show ¬ nI 10011 = 10006 by decide), if_neg (show ¬ nI 10011 = 10007 by decide), if_neg (show ¬ nI 10011 = 10008 by decide), if_neg (show ¬ nI 10011 = 10009 by decide), if_neg (show ¬ nI 10011 = 10010 by decide), if_pos (show nI 10011 = 10011 from rfl), dw_jn11]
  · rw [if_neg (show ¬ nI 10012 = 10006 by decide), if_neg (show ¬ nI 10012 = 10007 by decide), if_neg (show ¬ nI 10012 = 10008 by decide), if_neg (show ¬ nI 10012 = 10009 by decide), if_neg (show ¬ nI 10012 = 10010 by decide), if_neg (show ¬ nI 10012 = 10011 by decide), dw_jn12]
/-- the top of a heap of n numbers -/
def dw_top (n : Nat) : Int32 := nI n - 1
theorem dw_top_S (n : Nat) : dw_top (n + 1) = nI n := nI_pred n
theorem dw_top_p {n : Nat} (h : 1 ≤ n) : dw_top n = nI (n - 1) := by
  rw [show n = n - 1 + 1 by omega, dw_top_S]
  rfl
theorem dw_Lre14 (ht : P.length = t) {i : Nat} (hi : i < 6) (on : Int32) {a L : Nat} {F : Nat → Int32} (hF : dw_od P Q a (.inl (0, L, .inl F))) (hL : L ≤ 160) (f : Nat) : ∀ (c : List Nat) (n q : Nat) (k : Nat → Int32), q + c.length = L → (∀ j, j < c.length → F (q + j) = nI (c.getD j 0)) → dw_ok c n → L_reckon_14 (f + c.length + 1) (dw_lh P t l m y ho cl s k Q) t (some (t + 3 + i)) on (dw_top n) (some a) (nI L) (nI q) = some (dw_lh P t l m y ho cl s (dw_ev (dw_nm y on (s i)) c n k) Q, dw_ev (dw_nm y on (s i)) c n k 0)
  | [], n, q, k, hq, hc, hok => by
    have hq' : q = L := hq
    have h1 : n = 1 := hok
    subst h1
    rw [L_reckon_14, if_pos (show nI L ≤ nI q from nI_le (by omega) (by omega)), dw_top_S, if_pos (nI_pos' (by decide)), dw_ev]
    repeat (first | with_reducible rw [bnd_s] | with_reducible rw [nmd_s] | with_reducible rw [bn2_s] | with_reducible rw [grd_t] | ((conv => arg 1; arg 1; simp (disch := omega) only [dw_lis ht, dw_lA0 ht, dw_lI1 ht, dw_lJ2 ht, dw_lJ3 ht, dw_lI4 ht, dw_lA5 ht, dw_lA6 ht, dw_lS1 ht, dw_lS2 ht, dw_lS3 ht, dw_lS4 ht, dw_lS5 ht, dw_lln ht, dw_laA ht, dw_lkn ht, dw_lkI ht, dw_lkS ht, dw_dis ht, dw_dI0 ht, dw_dI1 ht, dw_dI2 ht, dw_dI3 ht, dw_dI4 ht, dw_dI5 ht, dw_dI6 ht, dw_dS1 ht, dw_dS2 ht, dw_dS3 ht, dw_dS4 ht, dw_dS5 ht, dw_dS6 ht]); first | with_reducible rw [bnd_s] | with_reducible rw [bn2_s] | with_reducible rw [grd_t]))
  | T :: c, n, q, k, hq, hc, hok => by
    have hq2 : q + c.length + 1 = L := hq
    have ih := dw_Lre14 ht hi on hF hL f c
    have hT : F q = nI T := hc 0 (Nat.succ_pos _)
    have hc2 : ∀ j, j < c.length → F (q + 1 + j) = nI (c.getD j 0) := by
      intro j hj
      have := hc (j + 1) (Nat.succ_lt_succ hj)
      rw [show q + 1 + j = q + (j + 1) by omega]
      exact this
    have hrd : ∀ k, op_aI (dw_lh P t l m y ho cl s k Q) a (nI q) = some (nI T) := by
      intro k
      rw [op_aI_of (f := F) (n := L) (dw_od_lh hF) (by omega) (by omega), hT]
    rw [show f + (T :: c).length + 1 = f + c.length + 1 + 1 from rfl, L_reckon_14, if_neg (show ¬ nI L ≤ nI q from nI_ge (by omega) (by omega))]
    repeat (first | with_reducible rw [bnd_s] | with_reducible rw [nmd_s] | with_reducible rw [bn2_s] | with_reducible rw [grd_t] | ((conv => arg 1; arg 1; simp (disch := omega) only [dw_lis ht, dw_lA0 ht, dw_lI1 ht, dw_lJ2 ht, dw_lJ3 ht, dw_lI4 ht, dw_lA5 ht, dw_lA6 ht, dw_lS1 ht, dw_lS2 ht, dw_lS3 ht, dw_lS4 ht, dw_lS5 ht, dw_lln ht, dw_laA ht, dw_lkn ht, dw_lkI ht, dw_lkS ht, dw_dis ht, dw_dI0 ht, dw_dI1 ht, dw_dI2 ht, dw_dI3 ht, dw_dI4 ht, dw_dI5 ht, dw_dI6 ht, dw_dS1 ht, dw_dS2 ht, dw_dS3 ht, dw_dS4 ht, dw_dS5 ht, dw_dS6 ht, hrd]); first | with_reducible rw [bnd_s] | with_reducible rw [bn2_s] | with_reducible rw [grd_t]))
    rcases hok with ⟨h1, h2, h3⟩ | ⟨h1, h2, h2', h3⟩ | ⟨h1, h1', h2, h2', h3⟩
    · rw [dw_ev_p _ c n k h1, if_neg (show ¬ 10005 < nI T from nI_nlt (a := 10005) h1 (by omega)), dw_top, Int32.sub_add_cancel]
      repeat (first | with_reducible rw [bnd_s] | with_reducible rw [nmd_s] | with_reducible rw [bn2_s] | with_reducible rw [grd_t] | ((conv => arg 1; arg 1; simp (disch := omega) only [dw_lis ht, dw_lA0 ht, dw_lI1 ht, dw_lJ2 ht, dw_lJ3 ht, dw_lI4 ht, dw_lA5 ht, dw_lA6 ht, dw_lS1 ht, dw_lS2 ht, dw_lS3 ht, dw_lS4 ht, dw_lS5 ht, dw_lln ht, dw_laA ht, dw_lkn ht, dw_lkI ht, dw_lkS ht, dw_dis ht, dw_dI0 ht, dw_dI1 ht, dw_dI2 ht, dw_dI3 ht, dw_dI4 ht, dw_dI5 ht, dw_dI6 ht, dw_dS1 ht, dw_dS2 ht, dw_dS3 ht, dw_dS4 ht, dw_dS5 ht, dw_dS6 ht]); first | with_reducible rw [bnd_s] | with_reducible rw [bn2_s] | with_reducible rw [grd_t]))
      rw [if_pos (show nI n < 32 from nI_lt (b := 32) h2 (by omega))]
      repeat (first | with_reducible rw [bnd_s] | with_reducible rw [nmd_s] | with_reducible rw [bn2_s] | with_reducible rw [grd_t] | ((conv => arg 1; arg 1; simp (disch := omega) only [dw_lis ht, dw_lA0 ht, dw_lI1 ht, dw_lJ2 ht, dw_lJ3 ht, dw_lI4 ht, dw_lA5 ht, dw_lA6 ht, dw_lS1 ht, dw_lS2 ht, dw_lS3 ht, dw_lS4 ht, dw_lS5 ht, dw_lln ht, dw_laA ht, dw_lkn ht, dw_lkI ht, dw_lkS ht, dw_dis ht, dw_dI0 ht, dw_dI1 ht, dw_dI2 ht, dw_dI3 ht, dw_dI4 ht, dw_dI5 ht, dw_dI6 ht, dw_dS1 ht, dw_dS2 ht, dw_dS3 ht, dw_dS4 ht, dw_dS5 ht, dw_dS6 ht]); first | with_reducible rw [bnd_s] | with_reducible rw [bn2_s] | with_reducible rw [grd_t]))
      have h9 := ih (n + 1) (q + 1) (upd k n (dw_nm y on (s i) T)) (by omega) hc2 h3
      rw [dw_top_S] at h9
      by_cases c1 : 10000 ≤ T
      · rw [if_pos (show (10000 : Int32) ≤ nI T from nI_le (a := 10000) c1 (by omega))]
        repeat (first | with_reducible rw [bnd_s] | with_reducible rw [nmd_s] | with_reducible rw [bn2_s] | with_reducible rw [grd_t] | ((conv => arg 1; arg 1; simp (disch := omega) only [dw_lis ht, dw_lA0 ht, dw_lI1 ht, dw_lJ2 ht, dw_lJ3 ht, dw_lI4 ht, dw_lA5 ht, dw_lA6 ht, dw_lS1 ht, dw_lS2 ht, dw_lS3 ht, dw_lS4 ht, dw_lS5 ht, dw_lln ht, dw_laA ht, dw_lkn ht, dw_lkI ht, dw_lkS ht, dw_dis ht, dw_dI0 ht, dw_dI1 ht, dw_dI2 ht, dw_dI3 ht, dw_dI4 ht, dw_dI5 ht, dw_dI6 ht, dw_dS1 ht, dw_dS2 ht, dw_dS3 ht, dw_dS4 ht, dw_dS5 ht, dw_dS6 ht, dw_Lnm ht hi on c1 h1]); first | with_reducible rw [bnd_s] | with_reducible rw [bn2_s] | with_reducible rw [grd_t]))
        rw [L_reckon_78]
        repeat (first | with_reducible rw [bnd_s] | with_reducible rw [nmd_s] | with_reducible rw [bn2_s] | with_reducible rw [grd_t] | ((conv => arg 1; arg 1; simp (disch := omega) only [dw_lis ht, dw_lA0 ht, dw_lI1 ht, dw_lJ2 ht, dw_lJ3 ht, dw_lI4 ht, dw_lA5 ht, dw_lA6 ht, dw_lS1 ht, dw_lS2 ht, dw_lS3 ht, dw_lS4 ht, dw_lS5 ht, dw_lln ht, dw_laA ht, dw_lkn ht, dw_lkI ht, dw_lkS ht, dw_dis ht, dw_dI0 ht, dw_dI1 ht, dw_dI2 ht, dw_dI3 ht, dw_dI4 ht, dw_dI5 ht, dw_dI6 ht, dw_dS1 ht, dw_dS2 ht, dw_dS3 ht, dw_dS4 ht, dw_dS5 ht, dw_dS6 ht]); first | with_reducible rw [bnd_s] | with_reducible rw [bn2_s] | with_reducible rw [grd_t]))
        rw [L_reckon_187, nmd_s, nI_1]
        exact h9
      · rw [if_neg (show ¬ (10000 : Int32) ≤ nI T from nI_ge (b := 10000) (by omega) (by omega)), L_reckon_78]
        repeat (first | with_reducible rw [bnd_s] | with_reducible rw [nmd_s] | with_reducible rw [bn2_s] | with_reducible rw [grd_t] | ((conv => arg 1; arg 1; simp (disch := omega) only [dw_lis ht, dw_lA0 ht, dw_lI1 ht, dw_lJ2 ht, dw_lJ3 ht, dw_lI4 ht, dw_lA5 ht, dw_lA6 ht, dw_lS1 ht, dw_lS2 ht, dw_lS3 ht, dw_lS4 ht, dw_lS5 ht, dw_lln ht, dw_laA ht, dw_lkn ht, dw_lkI ht, dw_lkS ht, dw_dis ht, dw_dI0 ht, dw_dI1 ht, dw_dI2 ht, dw_dI3 ht, dw_dI4 ht, dw_dI5 ht, dw_dI6 ht, dw_dS1 ht, dw_dS2 ht, dw_dS3 ht, dw_dS4 ht, dw_dS5 ht, dw_dS6 ht]); first | with_reducible rw [bnd_s] | with_reducible rw [bn2_s] | with_reducible rw [grd_t]))
        rw [L_reckon_187, nmd_s, nI_1]
        rw [show dw_nm y on (s i) T = nI T by rw [dw_nm, if_pos (by omega)]] at h9 ⊢
        exact h9
    · rcases h1 with rfl | rfl
      · rw [dw_ev_n, if_pos (show (10005 : Int32) < nI 10013 by decide), if_pos (show nI 10013 = 10013 from rfl), L_reckon_98, dw_top_p h2, if_pos (nI_pos' (by omega))]
        repeat (first | with_reducible rw [bnd_s] | with_reducible rw [nmd_s] | with_reducible rw [bn2_s] | with_reducible rw [grd_t] | ((conv => arg 1; arg 1; simp (disch := omega) only [dw_lis ht, dw_lA0 ht, dw_lI1 ht, dw_lJ2 ht, dw_lJ3 ht, dw_lI4 ht, dw_lA5 ht, dw_lA6 ht, dw_lS1 ht, dw_lS2 ht, dw_lS3 ht, dw_lS4 ht, dw_lS5 ht, dw_lln ht, dw_laA ht, dw_lkn ht, dw_lkI ht, dw_lkS ht, dw_dis ht, dw_dI0 ht, dw_dI1 ht, dw_dI2 ht, dw_dI3 ht, dw_dI4 ht, dw_dI5 ht, dw_dI6 ht, dw_dS1 ht, dw_dS2 ht, dw_dS3 ht, dw_dS4 ht, dw_dS5 ht, dw_dS6 ht]); first | with_reducible rw [bnd_s] | with_reducible rw [bn2_s] | with_reducible rw [grd_t]))
        rw [if_neg (show ¬ nI 10013 = 10014 by decide)]
        repeat (first | with_reducible rw [bnd_s] | with_reducible rw [nmd_s] | with_reducible rw [bn2_s] | with_reducible rw [grd_t] | ((conv => arg 1; arg 1; simp (disch := omega) only [dw_lis ht, dw_lA0 ht, dw_lI1 ht, dw_lJ2 ht, dw_lJ3 ht, dw_lI4 ht, dw_lA5 ht, dw_lA6 ht, dw_lS1 ht, dw_lS2 ht, dw_lS3 ht, dw_lS4 ht, dw_lS5 ht, dw_lln ht, dw_laA ht, dw_lkn ht, dw_lkI ht, dw_lkS ht, dw_dis ht, dw_dI0 ht, dw_dI1 ht, dw_dI2 ht, dw_dI3 ht, dw_dI4 ht, dw_dI5 ht, dw_dI6 ht, dw_dS1 ht, dw_dS2 ht, dw_dS3 ht, dw_dS4 ht, dw_dS5 ht, dw_dS6 ht]); first | with_reducible rw [bnd_s] | with_reducible rw [bn2_s] | with_reducible rw [grd_t]))
        have h9 := ih n (q + 1) (upd k (n - 1) (if k (n - 1) = 0 then 1 else 0)) (by omega) hc2 h3
        rw [dw_top_p h2] at h9
        by_cases hz : k (n - 1) = 0
        · simp only [if_pos hz] at h9 ⊢
          rw [L_reckon_145]
          repeat (first | with_reducible rw [bnd_s] | with_reducible rw [nmd_s] | with_reducible rw [bn2_s] | with_reducible rw [grd_t] | ((conv => arg 1; arg 1; simp (disch := omega) only [dw_lis ht, dw_lA0 ht, dw_lI1 ht, dw_lJ2 ht, dw_lJ3 ht, dw_lI4 ht, dw_lA5 ht, dw_lA6 ht, dw_lS1 ht, dw_lS2 ht, dw_lS3 ht, dw_lS4 ht, dw_lS5 ht, dw_lln ht, dw_laA ht, dw_lkn ht, dw_lkI ht, dw_lkS ht, dw_dis ht, dw_dI0 ht, dw_dI1 ht, dw_dI2 ht, dw_dI3 ht, dw_dI4 ht, dw_dI5 ht, dw_dI6 ht, dw_dS1 ht, dw_dS2 ht, dw_dS3 ht, dw_dS4 ht, dw_dS5 ht, dw_dS6 ht]); first | with_reducible rw [bnd_s] | with_reducible rw [bn2_s] | with_reducible rw [grd_t]))
          rw [L_reckon_187, nmd_s, nI_1]
          exact h9
        · simp only [if_neg hz] at h9 ⊢
          rw [L_reckon_145]
          repeat (first | with_reducible rw [bnd_s] | with_reducible rw [nmd_s] | with_reducible rw [bn2_s] | with_reducible rw [grd_t] | ((conv => arg 1; arg 1; simp (disch := omega) only [dw_lis ht, dw_lA0 ht, dw_lI1 ht, dw_lJ2 ht, dw_lJ3 ht, dw_lI4 ht, dw_lA5 ht, dw_lA6 ht, dw_lS1 ht, dw_lS2 ht, dw_lS3 ht, dw_lS4 ht, dw_lS5 ht, dw_lln ht, dw_laA ht, dw_lkn ht, dw_lkI ht, dw_lkS ht, dw_dis ht, dw_dI0 ht, dw_dI1 ht, dw_dI2 ht, dw_dI3 ht, dw_dI4 ht, dw_dI5 ht, dw_dI6 ht, dw_dS1 ht, dw_dS2 ht, dw_dS3 ht, dw_dS4 ht, dw_dS5 ht, dw_dS6 ht]); first | with_reducible rw [bnd_s] | with_reducible rw [bn2_s] | with_reducible rw [grd_t]))
          rw [L_reckon_187, nmd_s, nI_1]
          exact h9
      · rw [dw_ev_m, if_pos (show (10005 : Int32) < nI 10014 by decide), if_neg (show ¬ nI 10014 = 10013 by decide), if_pos (show nI 10014 = 10014 from rfl), L_reckon_98, dw_top_p h2, if_pos (nI_pos' (by omega))]
        repeat (first | with_reducible rw [bnd_s] | with_reducible rw [nmd_s] | with_reducible rw [bn2_s] | with_reducible rw [grd_t] | ((conv => arg 1; arg 1; simp (disch := omega) only [dw_lis ht, dw_lA0 ht, dw_lI1 ht, dw_lJ2 ht, dw_lJ3 ht, dw_lI4 ht, dw_lA5 ht, dw_lA6 ht, dw_lS1 ht, dw_lS2 ht, dw_lS3 ht, dw_lS4 ht, dw_lS5 ht, dw_lln ht, dw_laA ht, dw_lkn ht, dw_lkI ht, dw_lkS ht, dw_dis ht, dw_dI0 ht, dw_dI1 ht, dw_dI2 ht, dw_dI3 ht, dw_dI4 ht, dw_dI5 ht, dw_dI6 ht, dw_dS1 ht, dw_dS2 ht, dw_dS3 ht, dw_dS4 ht, dw_dS5 ht, dw_dS6 ht]); first | with_reducible rw [bnd_s] | with_reducible rw [bn2_s] | with_reducible rw [grd_t]))
        rw [if_pos (show nI 10014 = 10014 from rfl)]
        repeat (first | with_reducible rw [bnd_s] | with_reducible rw [nmd_s] | with_reducible rw [bn2_s] | with_reducible rw [grd_t] | ((conv => arg 1; arg 1; simp (disch := omega) only [dw_lis ht, dw_lA0 ht, dw_lI1 ht, dw_lJ2 ht, dw_lJ3 ht, dw_lI4 ht, dw_lA5 ht, dw_lA6 ht, dw_lS1 ht, dw_lS2 ht, dw_lS3 ht, dw_lS4 ht, dw_lS5 ht, dw_lln ht, dw_laA ht, dw_lkn ht, dw_lkI ht, dw_lkS ht, dw_dis ht, dw_dI0 ht, dw_dI1 ht, dw_dI2 ht, dw_dI3 ht, dw_dI4 ht, dw_dI5 ht, dw_dI6 ht, dw_dS1 ht, dw_dS2 ht, dw_dS3 ht, dw_dS4 ht, dw_dS5 ht, dw_dS6 ht]); first | with_reducible rw [bnd_s] | with_reducible rw [bn2_s] | with_reducible rw [grd_t]))
        have h9 := ih n (q + 1) (upd k (n - 1) (-(k (n - 1)))) (by omega) hc2 h3
        rw [dw_top_p h2] at h9
        rw [L_reckon_145]
        repeat (first | with_reducible rw [bnd_s] | with_reducible rw [nmd_s] | with_reducible rw [bn2_s] | with_reducible rw [grd_t] | ((conv => arg 1; arg 1; simp (disch := omega) only [dw_lis ht, dw_lA0 ht, dw_lI1 ht, dw_lJ2 ht, dw_lJ3 ht, dw_lI4 ht, dw_lA5 ht, dw_lA6 ht, dw_lS1 ht, dw_lS2 ht, dw_lS3 ht, dw_lS4 ht, dw_lS5 ht, dw_lln ht, dw_laA ht, dw_lkn ht, dw_lkI ht, dw_lkS ht, dw_dis ht, dw_dI0 ht, dw_dI1 ht, dw_dI2 ht, dw_dI3 ht, dw_dI4 ht, dw_dI5 ht, dw_dI6 ht, dw_dS1 ht, dw_dS2 ht, dw_dS3 ht, dw_dS4 ht, dw_dS5 ht, dw_dS6 ht]); first | with_reducible rw [bnd_s] | with_reducible rw [bn2_s] | with_reducible rw [grd_t]))
        rw [L_reckon_187, nmd_s, nI_1]
        exact h9
    · rw [dw_ev_b _ c n k h1 h1', if_pos (show 10005 < nI T from nI_lt (a := 10005) (by omega) (by omega)), if_neg (show ¬ nI T = 10013 from dw_ne (b := 10013) (by omega) (by omega) (by omega)), if_neg (show ¬ nI T = 10014 from dw_ne (b := 10014) (by omega) (by omega) (by omega)), dw_top_p (show 1 ≤ n by omega), dw_a_m1 (show 1 ≤ n - 1 by omega), show n - 1 - 1 = n - 2 by omega, if_pos (nI_pos' (by omega))]
      repeat (first | with_reducible rw [bnd_s] | with_reducible rw [nmd_s] | with_reducible rw [bn2_s] | with_reducible rw [grd_t] | ((conv => arg 1; arg 1; simp (disch := omega) only [dw_lis ht, dw_lA0 ht, dw_lI1 ht, dw_lJ2 ht, dw_lJ3 ht, dw_lI4 ht, dw_lA5 ht, dw_lA6 ht, dw_lS1 ht, dw_lS2 ht, dw_lS3 ht, dw_lS4 ht, dw_lS5 ht, dw_lln ht, dw_laA ht, dw_lkn ht, dw_lkI ht, dw_lkS ht, dw_dis ht, dw_dI0 ht, dw_dI1 ht, dw_dI2 ht, dw_dI3 ht, dw_dI4 ht, dw_dI5 ht, dw_dI6 ht, dw_dS1 ht, dw_dS2 ht, dw_dS3 ht, dw_dS4 ht, dw_dS5 ht, dw_dS6 ht, nI_1, show n - 2 + 1 = n - 1 by omega, dw_Ljo _ h1 h1']); first | with_reducible rw [bnd_s] | with_reducible rw [bn2_s] | with_reducible rw [grd_t]))
      have h9 := ih (n - 1) (q + 1) (upd k (n - 2) (dw_jn T (k (n - 2)) (k (n - 1)))) (by omega) hc2 h3
      rw [dw_top_p (show 1 ≤ n - 1 by omega), show n - 1 - 1 = n - 2 by omega] at h9
      rw [L_reckon_187, nmd_s, nI_1]
      exact h9
end LK
