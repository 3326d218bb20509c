/-! THE CLASS: rows of code, a law from the tape -/
theorem dw_clapp {p Z E : pm_H} {N T : dw_B} : dw_cl p N T Z ++ E = dw_cl p N T (Z ++ E) := by
  unfold dw_cl
  simp only [List.append_assoc]
theorem dw_cllen {p Z : pm_H} {N T : dw_B} (hp : p.length = 19) : (dw_cl p N T Z).length = 37 + Z.length := by
  unfold dw_cl
  rw [List.length_append, List.length_append, List.length_append, hp]
  show 19 + (9 + (9 + Z.length)) = 37 + Z.length
  omega
theorem dw_clz {p Z E : pm_H} {N T : dw_B} : dw_cl p N T (Z ++ E) = (p ++ (dw_bb 19 N ++ (dw_bb 28 T ++ Z))) ++ (E ++ []) := by
  unfold dw_cl
  simp only [List.append_assoc, List.append_nil]
theorem dw_zg {p Z E : pm_H} {N T : dw_B} (hp : p.length = 19) {j : Nat} (hj : j < E.length) : (dw_cl p N T (Z ++ E))[37 + Z.length + j]? = E[j]? := by
  rw [dw_clz]
  exact dw_gx (show (p ++ (dw_bb 19 N ++ (dw_bb 28 T ++ Z))).length = 37 + Z.length from dw_cllen hp) hj
theorem dw_zs {p Z E : pm_H} {N T : dw_B} (hp : p.length = 19) {j : Nat} (hj : j < E.length) (c : pm_C) : (dw_cl p N T (Z ++ E)).set (37 + Z.length + j) c = dw_cl p N T (Z ++ E.set j c) := by
  rw [dw_clz, dw_clz]
  exact dw_sx (show (p ++ (dw_bb 19 N ++ (dw_bb 28 T ++ Z))).length = 37 + Z.length from dw_cllen hp) hj
section TW
variable {N T : dw_B} {Z : pm_H} {tk : Int32} {kp : Value} {tf : Nat → Option Nat} {ti B C U : Nat → Int32} {H : dw_H} {tb : Nat → Nat} {tp : Nat}
theorem dw_Tcor {a b : Nat} (hab : a ≤ b) (hb : b ≤ 160) (h0 : ¬ (a = 0 ∧ b = 160)) : Ja_copyOfRange (dw_cl (dw_pre tk kp tf ti B C U H) N T Z) (some 4) (nI a) (nI b) = some (dw_cl (dw_pre tk kp tf ti B C U H) N T (Z ++ [.inl (0, b - a, .inl (va_cpy C (fun _ => 0) a 0 (b - a)))]), some (37 + Z.length)) := by
  have e10 : Ja_copyOfRange_10 (dw_cl (dw_pre tk kp tf ti B C U H) N T Z) (some 4) (nI a) (nI b) = some (dw_cl (dw_pre tk kp tf ti B C U H) N T (Z ++ [.inl (0, b - a, .inl (va_cpy C (fun _ => 0) a 0 (b - a)))]), some (37 + Z.length)) := by
    have hck : ∀ h : pm_H, Ja_checkLength h (nI a) (nI b) = some (h, ()) := by
      intro h
      rw [Ja_checkLength, if_pos (nI_le hab (by omega))]
    have hn : op_nI (dw_cl (dw_pre tk kp tf ti B C U H) N T Z) (nI (b - a)) = some (dw_cl (dw_pre tk kp tf ti B C U H) N T (Z ++ [.inl (0, b - a, .inl (fun _ => 0))])) := by
      unfold op_nI
      rw [nI_clamp (by omega), if_neg (fun q => by
        rcases q with q | q
        · exact nI_pos (by omega) q
        · omega), dw_clapp]
    have hcp : op_cp (dw_cl (dw_pre tk kp tf ti B C U H) N T (Z ++ [.inl (0, b - a, .inl (fun _ => 0))])) 4 (nI a) (37 + Z.length) 0 (nI (b - a)) = some (dw_cl (dw_pre tk kp tf ti B C U H) N T (Z ++ [.inl (0, b - a, .inl (va_cpy C (fun _ => 0) a 0 (b - a)))])) := by
      unfold op_cp
      rw [show (dw_cl (dw_pre tk kp tf ti B C U H) N T (Z ++ [.inl (0, b - a, .inl (fun _ => 0))]))[37 + Z.length]? = _ from dw_zg (j := 0) dw_x_pl (show 0 < 1 by decide), show (dw_cl (dw_pre tk kp tf ti B C U H) N T (Z ++ [.inl (0, b - a, .inl (fun _ => 0))]))[4]? = some (.inl (0, 160, .inl C)) from rfl]
      show (if nI a < 0 ∨ (0 : Int32) < 0 ∨ nI (b - a) < 0 ∨ 160 < (nI a).toNatClampNeg + (nI (b - a)).toNatClampNeg ∨ b - a < (nI 0).toNatClampNeg + (nI (b - a)).toNatClampNeg then none else some ((dw_cl (dw_pre tk kp tf ti B C U H) N T (Z ++ [.inl (0, b - a, .inl (fun _ => 0))])).set (37 + Z.length) (.inl (0, b - a, .inl (va_cpy C (fun _ => 0) (nI a).toNatClampNeg (nI 0).toNatClampNeg (nI (b - a)).toNatClampNeg))))) = _
      rw [nI_clamp (by omega), nI_clamp (by omega), nI_clamp (by decide), if_neg (fun q => by
        rcases q with q | q | q | q | q
        · exact nI_pos (by omega) q
        · exact absurd q (by decide)
        · exact nI_pos (by omega) q
        · omega
        · omega)]
      have g := dw_zs (p := (dw_pre tk kp tf ti B C U H)) (N := N) (T := T) (Z := Z) (E := [.inl (0, b - a, .inl (fun _ => 0))]) (j := 0) dw_x_pl (show 0 < 1 by decide) (.inl (0, b - a, .inl (va_cpy C (fun _ => 0) a 0 (b - a))))
      rw [Nat.add_zero] at g
      rw [g]
      rfl
    have emin : (if nI (b - a) < 160 - nI a then nI (b - a) else 160 - nI a) = nI (b - a) := by
      have e1 : (160 : Int32) - nI a = nI (160 - a) := pk_sub (a := 160) (by omega)
      rw [e1]
      by_cases c : b - a < 160 - a
      · rw [if_pos (nI_lt c (by omega))]
      · rw [if_neg (nI_nlt (by omega) (by omega)), show 160 - a = b - a by omega]
    rw [Ja_copyOfRange_10, Ja_copyOfRangeInt, hck, bn2_s, nmd_s, pk_sub hab, hn, bnd_s, nmd_s, dw_cllen dw_x_pl, bnd_s, dw_x_ln4, bnd_s, emin, hcp]
    rfl
  rw [Ja_copyOfRange]
  by_cases c : a = 0
  · rw [if_pos (show nI a = 0 by rw [c]; rfl), bnd_s, dw_x_ln4, bnd_s, if_neg (show ¬ nI b = 160 from dw_ne (b := 160) (by omega) (by decide) (fun e => h0 ⟨c, e⟩)), e10]
  · rw [if_neg (show ¬ nI a = 0 from nI_ne0 (by omega) (by omega)), e10]
theorem dw_zS {fs : List Value} {E : pm_H} {kk : Nat} {v : Value} (hk : kk < fs.length) : op_S (dw_cl (dw_pre tk kp tf ti B C U H) N T (Z ++ (.inr (2, fs) :: E))) (37 + Z.length) 2 kk v = some (dw_cl (dw_pre tk kp tf ti B C U H) N T (Z ++ (.inr (2, fs.set kk v) :: E))) := by
  rw [op_S_of (show (dw_cl (dw_pre tk kp tf ti B C U H) N T (Z ++ (.inr (2, fs) :: E)))[37 + Z.length]? = some (.inr (2, fs)) from dw_zg (j := 0) dw_x_pl (Nat.succ_pos _)) hk]
  have g := dw_zs (p := (dw_pre tk kp tf ti B C U H)) (N := N) (T := T) (Z := Z) (E := .inr (2, fs) :: E) (j := 0) dw_x_pl (Nat.succ_pos _) (.inr (2, fs.set kk v))
  rw [Nat.add_zero] at g
  rw [g]
  rfl
/-- the new law's cells -/
def dw_nl (a : Nat) (n : Int32) (C : Nat → Int32) (g k u : Nat) : pm_H := [.inr (2, [.int n, .ref (a + 1), .ref (a + 2), .ref (a + 3)]), .inl (0, g, .inl (va_cpy C (fun _ => 0) 0 0 g)), .inl (0, k - g, .inl (va_cpy C (fun _ => 0) g 0 (k - g))), .inl (0, u - k, .inl (va_cpy C (fun _ => 0) k 0 (u - k)))]
theorem dw_Wini {n : Int32} {E : pm_H} {a b c : Nat} : W_init (dw_cl (dw_pre tk kp tf ti B C U H) N T (Z ++ (.inr (2, pm_new 2) :: E))) (37 + Z.length) n (some a) (some b) (some c) = some (dw_cl (dw_pre tk kp tf ti B C U H) N T (Z ++ (.inr (2, [.int n, .ref a, .ref b, .ref c]) :: E)), ()) := by
  rw [W_init, dw_zS (show 0 < (pm_new 2).length by decide), bnd_s, dw_zS (by rw [List.length_set]; decide), bnd_s, dw_zS (by rw [List.length_set, List.length_set]; decide), bnd_s, dw_zS (by rw [List.length_set, List.length_set, List.length_set]; decide)]
  rfl
end TW
