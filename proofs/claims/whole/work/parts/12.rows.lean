/-! ROWS OF THE PURE MACHINE, and the operations that the methods' functions are made of -/
def op_I (h : pm_H) (a ci k : Nat) : Option Int32 := match h[a]? with
  | some (.inr (c, fs)) => if c = ci then (match fs[k]? with | some (.int v) => some v | _ => none) else none
  | _ => none
def op_J (h : pm_H) (a ci k : Nat) : Option Int64 := match h[a]? with
  | some (.inr (c, fs)) => if c = ci then (match fs[k]? with | some (.long v) => some v | _ => none) else none
  | _ => none
def op_A (h : pm_H) (a ci k : Nat) : Option (Option Nat) := match h[a]? with
  | some (.inr (c, fs)) => if c = ci then (match fs[k]? with | some .null => some none | some (.ref b) => some (some b) | _ => none) else none
  | _ => none
def op_S (h : pm_H) (a ci k : Nat) (v : Value) : Option pm_H := match h[a]? with
  | some (.inr (c, fs)) => if c = ci ∧ k < fs.length then some (h.set a (.inr (ci, fs.set k v))) else none
  | _ => none
def op_aI (h : pm_H) (a : Nat) (i : Int32) : Option Int32 := match h[a]? with
  | some (.inl (0, n, .inl f)) => if i < 0 ∨ n ≤ i.toNatClampNeg then none else some (f i.toNatClampNeg)
  | _ => none
def op_aB (h : pm_H) (a : Nat) (i : Int32) : Option Int32 := match h[a]? with
  | some (.inl (2, n, .inl f)) => if i < 0 ∨ n ≤ i.toNatClampNeg then none else some (f i.toNatClampNeg)
  | _ => none
def op_aJ (h : pm_H) (a : Nat) (i : Int32) : Option Int64 := match h[a]? with
  | some (.inl (1, n, .inr (.inl f))) => if i < 0 ∨ n ≤ i.toNatClampNeg then none else some (f i.toNatClampNeg)
  | _ => none
def op_aA (h : pm_H) (a t : Nat) (i : Int32) : Option (Option Nat) := match h[a]? with
  | some (.inl (c, n, .inr (.inr (.inr (.inr f))))) => if c = t + 3 then (if i < 0 ∨ n ≤ i.toNatClampNeg then none else some (f i.toNatClampNeg)) else none
  | _ => none
def op_sI (h : pm_H) (a : Nat) (i x : Int32) : Option pm_H := match h[a]? with
  | some (.inl (0, n, .inl f)) => if i < 0 ∨ n ≤ i.toNatClampNeg then none else some (h.set a (.inl (0, n, .inl (upd f i.toNatClampNeg x))))
  | _ => none
def op_sB (h : pm_H) (a : Nat) (i x : Int32) : Option pm_H := match h[a]? with
  | some (.inl (2, n, .inl f)) => if i < 0 ∨ n ≤ i.toNatClampNeg then none else some (h.set a (.inl (2, n, .inl (upd f i.toNatClampNeg x.toInt8.toInt32))))
  | _ => none
def op_sJ (h : pm_H) (a : Nat) (i : Int32) (x : Int64) : Option pm_H := match h[a]? with
  | some (.inl (1, n, .inr (.inl f))) => if i < 0 ∨ n ≤ i.toNatClampNeg then none else some (h.set a (.inl (1, n, .inr (.inl (vp_updL f i.toNatClampNeg x)))))
  | _ => none
def op_sA (h : pm_H) (a t : Nat) (i : Int32) (v : Nat) : Option pm_H := match h[a]?, h[v]? with
  | some (.inl (c, n, .inr (.inr (.inr (.inr f))))), some (.inr (ci, _)) => if c = t + 3 ∧ ci = t then (if i < 0 ∨ n ≤ i.toNatClampNeg then none else some (h.set a (.inl (t + 3, n, .inr (.inr (.inr (.inr (va_up f i.toNatClampNeg (some v))))))))) else none
  | _, _ => none
def op_ln (h : pm_H) (a : Nat) : Option Int32 := match h[a]? with
  | some (.inl (t, x)) => if t = 0 ∨ t = 1 ∨ t = 2 ∨ t = 3 ∨ t = 5 ∨ t = 6 then some (Int32.ofNat x.1) else none
  | _ => none
def op_nI (h : pm_H) (n : Int32) : Option pm_H := if n < 0 ∨ ¬ n.toNatClampNeg ≤ 60000000 then none else some (h ++ [.inl (0, n.toNatClampNeg, .inl (fun _ => 0))])
def op_nJ (h : pm_H) (n : Int32) : Option pm_H := if n < 0 ∨ ¬ n.toNatClampNeg ≤ 60000000 then none else some (h ++ [.inl (1, n.toNatClampNeg, .inr (.inl (fun _ => 0)))])
def op_nB (h : pm_H) (n : Int32) : Option pm_H := if n < 0 ∨ ¬ n.toNatClampNeg ≤ 60000000 then none else some (h ++ [.inl (2, n.toNatClampNeg, .inl (fun _ => 0))])
def op_nA (h : pm_H) (t : Nat) (n : Int32) : Option pm_H := if n < 0 ∨ ¬ n.toNatClampNeg ≤ 60000000 then none else some (h ++ [.inl (t + 3, n.toNatClampNeg, .inr (.inr (.inr (.inr (fun _ => none)))))])
/-- System.arraycopy over int arrays -/
def op_cp (h : pm_H) (a : Nat) (sp : Int32) (b : Nat) (dp n : Int32) : Option pm_H := match h[a]?, h[b]? with
  | some (.inl (0, n0, .inl f)), some (.inl (0, n1, .inl g)) => if sp < 0 ∨ dp < 0 ∨ n < 0 ∨ n0 < sp.toNatClampNeg + n.toNatClampNeg ∨ n1 < dp.toNatClampNeg + n.toNatClampNeg then none else some (h.set b (.inl (0, n1, .inl (va_cpy f g sp.toNatClampNeg dp.toNatClampNeg n.toNatClampNeg))))
  | _, _ => none
/-- is the receiver of the class? -/
def op_is (h : pm_H) (a ci : Nat) : Bool := match h[a]? with
  | some (.inr (c, _)) => c == ci
  | _ => false
def bnd {α β : Type} (o : Option α) (f : α → Option β) : Option β := match o with
  | some x => f x
  | none => none
def grd {β : Type} (b : Bool) (o : Option β) : Option β := if b = true then o else none
def nmd {α β : Type} (x : α) (f : α → Option β) : Option β := f x
theorem bnd_some {α β : Type} {o : Option α} {f : α → Option β} {r : β} (h : bnd o f = some r) : ∃ x, o = some x ∧ f x = some r := by
  cases o with
  | none => cases h
  | some x => exact ⟨x, rfl, h⟩
theorem grd_some {β : Type} {b : Bool} {o : Option β} {r : β} (h : grd b o = some r) : b = true ∧ o = some r := by
  cases b with
  | false => cases h
  | true => exact ⟨rfl, h⟩
theorem nmd_at {α β : Type} {x y : α} {f : α → Option β} {r : Option β} (hx : x = y) (h : nmd y f = r) : f x = r := by
  subst hx
  exact h
theorem rf_R (r : Option Nat) : pm_isR (va_rf r) = true := by cases r <;> rfl
theorem rf_Q (r : Option Nat) : pm_isQ (va_rf r) = true := by cases r <;> rfl
theorem rf_A (r : Option Nat) : pm_isA (va_rf r) = true := by cases r <;> rfl
theorem rf_n {r : Option Nat} : va_rf r = .null ↔ r = none := by cases r <;> simp [va_rf]
theorem rf_c (r : Option Nat) : (va_rf r).category = 1 := by cases r <;> rfl
theorem rf_cut {L : List Value} {j : Nat} {r : Option Nat} (h : L[j]? = some (va_rf r)) : pm_cut L (j + 1) = L := by
  cases r <;> simp [pm_cut, h, va_rf]
theorem rf_ar (r : Option Nat) (l : List Value) : pm_ar (va_rf r :: l) = va_rf r :: pm_ar l := by cases r <;> rfl
theorem cs_len {S : List Value} (h : S.length ≤ 4) : pm_cs S ≤ 8 := by
  have key : ∀ S : List Value, pm_cs S ≤ 2 * S.length := by
    intro S
    induction S with
    | nil => exact Nat.le_refl _
    | cons v S ih =>
      have hv : v.category ≤ 2 := by cases v <;> simp [Value.category]
      simp only [pm_cs, List.map_cons, List.sum_cons, List.length_cons] at ih ⊢
      omega
  have := key S
  omega
theorem cs_1 {S : List Value} (h : ∀ v ∈ S, v.category = 1) (h2 : S.length ≤ 8) : pm_cs S ≤ 8 := by
  have key : ∀ S : List Value, (∀ v ∈ S, v.category = 1) → pm_cs S = S.length := by
    intro S
    induction S with
    | nil => intro _; rfl
    | cons v S ih =>
      intro h
      have h1 := h v List.mem_cons_self
      have h2 := ih (fun w hw => h w (List.mem_cons_of_mem _ hw))
      simp only [pm_cs, List.map_cons, List.sum_cons, List.length_cons] at h2 ⊢
      omega
  rw [key S h]
  exact h2
section ROWS
variable {C : pm_R} {mi pc : Nat} {L S : List Value} {h : pm_H} {Z : Option Value → pm_H → Prop}
theorem r_aload_n {z : Fin 4} {r : Option Nat} (hf : pm_fetch mi pc = some (.aload_n z, 1)) (hl : L[(z : Nat)]? = some (va_rf r)) (k : pm_run C mi (pc + 1) L (va_rf r :: S) h Z) : pm_run C mi (pc) L (S) h Z := pm_go hf ⟨_, hl, rf_R r, k⟩
theorem r_aload {z : Nat} {r : Option Nat} (hf : pm_fetch mi pc = some (.aload z, 2)) (hl : L[z]? = some (va_rf r)) (k : pm_run C mi (pc + 2) L (va_rf r :: S) h Z) : pm_run C mi (pc) L (S) h Z := pm_go hf ⟨_, hl, rf_R r, k⟩
theorem r_aload_nN {z : Fin 4} {a : Nat} (hf : pm_fetch mi pc = some (.aload_n z, 1)) (hl : L[(z : Nat)]? = some (.ref a)) (k : pm_run C mi (pc + 1) L (.ref a :: S) h Z) : pm_run C mi (pc) L (S) h Z := pm_go hf ⟨_, hl, rfl, k⟩
theorem r_aloadN {z : Nat} {a : Nat} (hf : pm_fetch mi pc = some (.aload z, 2)) (hl : L[z]? = some (.ref a)) (k : pm_run C mi (pc + 2) L (.ref a :: S) h Z) : pm_run C mi (pc) L (S) h Z := pm_go hf ⟨_, hl, rfl, k⟩
theorem r_aload_nS {z : Fin 4} {a : Nat} (hf : pm_fetch mi pc = some (.aload_n z, 1)) (hl : L[(z : Nat)]? = some (.retAddr a)) (k : pm_run C mi (pc + 1) L (.retAddr a :: S) h Z) : pm_run C mi (pc) L (S) h Z := pm_go hf ⟨_, hl, rfl, k⟩
theorem r_iload {z : Nat} {x : Int32} (hf : pm_fetch mi pc = some (.iload z, 2)) (hl : L[z]? = some (.int x)) (k : pm_run C mi (pc + 2) L (.int x :: S) h Z) : pm_run C mi (pc) L (S) h Z := pm_go hf ⟨_, hl, k⟩
theorem r_iload_n {z : Fin 4} {x : Int32} (hf : pm_fetch mi pc = some (.iload_n z, 1)) (hl : L[(z : Nat)]? = some (.int x)) (k : pm_run C mi (pc + 1) L (.int x :: S) h Z) : pm_run C mi (pc) L (S) h Z := pm_go hf ⟨_, hl, k⟩
theorem r_lload {z : Nat} {x : Int64} (hf : pm_fetch mi pc = some (.lload z, 2)) (hl : L[z]? = some (.long x)) (k : pm_run C mi (pc + 2) L (.long x :: S) h Z) : pm_run C mi (pc) L (S) h Z := pm_go hf ⟨_, hl, k⟩
theorem r_lload_n {z : Fin 4} {x : Int64} (hf : pm_fetch mi pc = some (.lload_n z, 1)) (hl : L[(z : Nat)]? = some (.long x)) (k : pm_run C mi (pc + 1) L (.long x :: S) h Z) : pm_run C mi (pc) L (S) h Z := pm_go hf ⟨_, hl, k⟩
theorem r_istore_n {z : Fin 4} {e : Int32} {L' : List Value} {x : Int32} (hf : pm_fetch mi pc = some (.istore_n z, 1)) (hx : x = e) (hn : (z : Nat) < L.length) (hL : pm_st1 L (z : Nat) (.int x) = L') (k : pm_run C mi (pc + 1) L' S h Z) : pm_run C mi pc L (.int e :: S) h Z := by subst hx; subst hL; exact pm_go hf ⟨_, _, rfl, hn, k⟩
theorem r_istore {z : Nat} {e : Int32} {L' : List Value} {x : Int32} (hf : pm_fetch mi pc = some (.istore z, 2)) (hx : x = e) (hn : z < L.length) (hL : pm_st1 L z (.int x) = L') (k : pm_run C mi (pc + 2) L' S h Z) : pm_run C mi pc L (.int e :: S) h Z := by subst hx; subst hL; exact pm_go hf ⟨_, _, rfl, hn, k⟩
theorem r_lstore_n {z : Fin 4} {e : Int64} {L' : List Value} {x : Int64} (hf : pm_fetch mi pc = some (.lstore_n z, 1)) (hx : x = e) (hn : (z : Nat) + 1 < L.length) (hL : pm_st2 L (z : Nat) (.long x) = L') (k : pm_run C mi (pc + 1) L' S h Z) : pm_run C mi pc L (.long e :: S) h Z := by subst hx; subst hL; exact pm_go hf ⟨_, _, rfl, hn, k⟩
theorem r_lstore {z : Nat} {e : Int64} {L' : List Value} {x : Int64} (hf : pm_fetch mi pc = some (.lstore z, 2)) (hx : x = e) (hn : z + 1 < L.length) (hL : pm_st2 L z (.long x) = L') (k : pm_run C mi (pc + 2) L' S h Z) : pm_run C mi pc L (.long e :: S) h Z := by subst hx; subst hL; exact pm_go hf ⟨_, _, rfl, hn, k⟩
theorem r_astore_n {z : Fin 4} {r : Option Nat} {L' : List Value} (hf : pm_fetch mi pc = some (.astore_n z, 1)) (hn : (z : Nat) < L.length) (hL : pm_st1 L (z : Nat) (va_rf r) = L') (k : pm_run C mi (pc + 1) L' S h Z) : pm_run C mi pc L (va_rf r :: S) h Z := by subst hL; exact pm_go hf ⟨_, _, rfl, rf_R r, hn, k⟩
theorem r_astore_nN {z : Fin 4} {a : Nat} {L' : List Value} (hf : pm_fetch mi pc = some (.astore_n z, 1)) (hn : (z : Nat) < L.length) (hL : pm_st1 L (z : Nat) (.ref a) = L') (k : pm_run C mi (pc + 1) L' S h Z) : pm_run C mi pc L (.ref a :: S) h Z := by subst hL; exact pm_go hf ⟨_, _, rfl, rfl, hn, k⟩
theorem r_astore {z : Nat} {r : Option Nat} {L' : List Value} (hf : pm_fetch mi pc = some (.astore z, 2)) (hn : z < L.length) (hL : pm_st1 L z (va_rf r) = L') (k : pm_run C mi (pc + 2) L' S h Z) : pm_run C mi pc L (va_rf r :: S) h Z := by subst hL; exact pm_go hf ⟨_, _, rfl, rf_R r, hn, k⟩
theorem r_astoreN {z : Nat} {a : Nat} {L' : List Value} (hf : pm_fetch mi pc = some (.astore z, 2)) (hn : z < L.length) (hL : pm_st1 L z (.ref a) = L') (k : pm_run C mi (pc + 2) L' S h Z) : pm_run C mi pc L (.ref a :: S) h Z := by subst hL; exact pm_go hf ⟨_, _, rfl, rfl, hn, k⟩
theorem r_iinc {z : Nat} {n : Int} {e x : Int32} {L' : List Value} (hf : pm_fetch mi pc = some (.iinc z n, 3)) (hl : L[z]? = some (.int e)) (hx : x = e + Int32.ofInt n) (hL : pm_st1 L z (.int x) = L') (k : pm_run C mi (pc + 3) L' S h Z) : pm_run C mi pc L S h Z := by subst hx; subst hL; exact pm_go hf ⟨_, hl, k⟩
theorem r_iconst {n : Int} {v : Int32} (hf : pm_fetch mi pc = some (.iconst n, 1)) (hv : Int32.ofInt n = v) (k : pm_run C mi (pc + 1) L (.int v :: S) h Z) : pm_run C mi pc L S h Z := by subst hv; exact pm_go hf k
theorem r_bipush {n : Int} {v : Int32} (hf : pm_fetch mi pc = some (.bipush n, 2)) (hv : (Int8.ofInt n).toInt32 = v) (k : pm_run C mi (pc + 2) L (.int v :: S) h Z) : pm_run C mi pc L S h Z := by subst hv; exact pm_go hf k
theorem r_sipush {n : Int} {v : Int32} (hf : pm_fetch mi pc = some (.sipush n, 3)) (hv : (Int16.ofInt n).toInt32 = v) (k : pm_run C mi (pc + 3) L (.int v :: S) h Z) : pm_run C mi pc L S h Z := by subst hv; exact pm_go hf k
theorem r_lconst {n : Fin 2} {v : Int64} (hf : pm_fetch mi pc = some (.lconst n, 1)) (hv : Int64.ofNat (n : Nat) = v) (k : pm_run C mi (pc + 1) L (.long v :: S) h Z) : pm_run C mi pc L S h Z := by subst hv; exact pm_go hf k
theorem r_null (hf : pm_fetch mi pc = some (.aconst_null, 1)) (k : pm_run C mi (pc + 1) L (va_rf none :: S) h Z) : pm_run C mi pc L S h Z := pm_go hf k
theorem r_ldc {z : Nat} {v : Int32} {p : Nat} (hf : pm_fetch mi pc = some (.ldc z, 2)) (hv : pm_at pm_iT (pm_cl mi) z = some (v, p)) (k : pm_run C mi (pc + 2) L (.int v :: S) h Z) : pm_run C mi pc L S h Z := pm_go hf (.inl ⟨_, hv, k⟩)
theorem r_ldcS {z : Nat} {j p : Nat} (hf : pm_fetch mi pc = some (.ldc z, 2)) (hv : pm_at pm_sT (pm_cl mi) z = some (j, p)) (k : pm_run C mi (pc + 2) L (.retAddr j :: S) h Z) : pm_run C mi pc L S h Z := pm_go hf (.inr ⟨_, _, hv, k⟩)
theorem r_ldc_w {z : Nat} {v : Int32} {p : Nat} (hf : pm_fetch mi pc = some (.ldc_w z, 3)) (hv : pm_at pm_iT (pm_cl mi) z = some (v, p)) (k : pm_run C mi (pc + 3) L (.int v :: S) h Z) : pm_run C mi pc L S h Z := pm_go hf ⟨_, hv, k⟩
theorem r_ldc2_w {z : Nat} {v : Int64} {p : Nat} (hf : pm_fetch mi pc = some (.ldc2_w z, 3)) (hv : pm_at pm_lT (pm_cl mi) z = some (v, p)) (k : pm_run C mi (pc + 3) L (.long v :: S) h Z) : pm_run C mi pc L S h Z := pm_go hf ⟨_, hv, k⟩
theorem r_iadd {x y : Int32} (hf : pm_fetch mi pc = some (.iadd, 1)) (k : pm_run C mi (pc + 1) L (.int (x + y) :: S) h Z) : pm_run C mi (pc) L (.int y :: .int x :: S) h Z := pm_go hf ⟨x, y, S, rfl, k⟩
theorem r_isub {x y : Int32} (hf : pm_fetch mi pc = some (.isub, 1)) (k : pm_run C mi (pc + 1) L (.int (x - y) :: S) h Z) : pm_run C mi (pc) L (.int y :: .int x :: S) h Z := pm_go hf ⟨x, y, S, rfl, k⟩
theorem r_imul {x y : Int32} (hf : pm_fetch mi pc = some (.imul, 1)) (k : pm_run C mi (pc + 1) L (.int (x * y) :: S) h Z) : pm_run C mi (pc) L (.int y :: .int x :: S) h Z := pm_go hf ⟨x, y, S, rfl, k⟩
theorem r_iand {x y : Int32} (hf : pm_fetch mi pc = some (.iand, 1)) (k : pm_run C mi (pc + 1) L (.int (x &&& y) :: S) h Z) : pm_run C mi (pc) L (.int y :: .int x :: S) h Z := pm_go hf ⟨x, y, S, rfl, k⟩
theorem r_ior {x y : Int32} (hf : pm_fetch mi pc = some (.ior, 1)) (k : pm_run C mi (pc + 1) L (.int (x ||| y) :: S) h Z) : pm_run C mi (pc) L (.int y :: .int x :: S) h Z := pm_go hf ⟨x, y, S, rfl, k⟩
theorem r_ixor {x y : Int32} (hf : pm_fetch mi pc = some (.ixor, 1)) (k : pm_run C mi (pc + 1) L (.int (x ^^^ y) :: S) h Z) : pm_run C mi (pc) L (.int y :: .int x :: S) h Z := pm_go hf ⟨x, y, S, rfl, k⟩
theorem r_ishl {x y : Int32} (hf : pm_fetch mi pc = some (.ishl, 1)) (k : pm_run C mi (pc + 1) L (.int (x <<< (y &&& 31)) :: S) h Z) : pm_run C mi (pc) L (.int y :: .int x :: S) h Z := pm_go hf ⟨x, y, S, rfl, k⟩
theorem r_ishr {x y : Int32} (hf : pm_fetch mi pc = some (.ishr, 1)) (k : pm_run C mi (pc + 1) L (.int (x >>> (y &&& 31)) :: S) h Z) : pm_run C mi (pc) L (.int y :: .int x :: S) h Z := pm_go hf ⟨x, y, S, rfl, k⟩
theorem r_iushr {x y : Int32} (hf : pm_fetch mi pc = some (.iushr, 1)) (k : pm_run C mi (pc + 1) L (.int ((x.toUInt32 >>> (y.toUInt32 &&& Int32.toUInt32 31)).toInt32) :: S) h Z) : pm_run C mi (pc) L (.int y :: .int x :: S) h Z := pm_go hf ⟨x, y, S, rfl, k⟩
theorem r_idiv {x y : Int32} (hf : pm_fetch mi pc = some (.idiv, 1)) (hy : ¬ y = 0) (k : pm_run C mi (pc + 1) L (.int (x / y) :: S) h Z) : pm_run C mi (pc) L (.int y :: .int x :: S) h Z := pm_go hf ⟨x, y, S, rfl, hy, k⟩
theorem r_irem {x y : Int32} (hf : pm_fetch mi pc = some (.irem, 1)) (hy : ¬ y = 0) (k : pm_run C mi (pc + 1) L (.int (x - x / y * y) :: S) h Z) : pm_run C mi (pc) L (.int y :: .int x :: S) h Z := pm_go hf ⟨x, y, S, rfl, hy, k⟩
theorem r_ladd {x y : Int64} (hf : pm_fetch mi pc = some (.ladd, 1)) (k : pm_run C mi (pc + 1) L (.long (x + y) :: S) h Z) : pm_run C mi (pc) L (.long y :: .long x :: S) h Z := pm_go hf ⟨x, y, S, rfl, k⟩
theorem r_lsub {x y : Int64} (hf : pm_fetch mi pc = some (.lsub, 1)) (k : pm_run C mi (pc + 1) L (.long (x - y) :: S) h Z) : pm_run C mi (pc) L (.long y :: .long x :: S) h Z := pm_go hf ⟨x, y, S, rfl, k⟩
theorem r_lmul {x y : Int64} (hf : pm_fetch mi pc = some (.lmul, 1)) (k : pm_run C mi (pc + 1) L (.long (x * y) :: S) h Z) : pm_run C mi (pc) L (.long y :: .long x :: S) h Z := pm_go hf ⟨x, y, S, rfl, k⟩
theorem r_land {x y : Int64} (hf : pm_fetch mi pc = some (.land, 1)) (k : pm_run C mi (pc + 1) L (.long (x &&& y) :: S) h Z) : pm_run C mi (pc) L (.long y :: .long x :: S) h Z := pm_go hf ⟨x, y, S, rfl, k⟩
theorem r_lor {x y : Int64} (hf : pm_fetch mi pc = some (.lor, 1)) (k : pm_run C mi (pc + 1) L (.long (x ||| y) :: S) h Z) : pm_run C mi (pc) L (.long y :: .long x :: S) h Z := pm_go hf ⟨x, y, S, rfl, k⟩
theorem r_lxor {x y : Int64} (hf : pm_fetch mi pc = some (.lxor, 1)) (k : pm_run C mi (pc + 1) L (.long (x ^^^ y) :: S) h Z) : pm_run C mi (pc) L (.long y :: .long x :: S) h Z := pm_go hf ⟨x, y, S, rfl, k⟩
theorem r_ldiv {x y : Int64} (hf : pm_fetch mi pc = some (.ldiv, 1)) (hy : ¬ y = 0) (k : pm_run C mi (pc + 1) L (.long (x / y) :: S) h Z) : pm_run C mi (pc) L (.long y :: .long x :: S) h Z := pm_go hf ⟨x, y, S, rfl, hy, k⟩
theorem r_lrem {x y : Int64} (hf : pm_fetch mi pc = some (.lrem, 1)) (hy : ¬ y = 0) (k : pm_run C mi (pc + 1) L (.long (x - x / y * y) :: S) h Z) : pm_run C mi (pc) L (.long y :: .long x :: S) h Z := pm_go hf ⟨x, y, S, rfl, hy, k⟩
theorem r_lshl {x : Int64} {y : Int32} (hf : pm_fetch mi pc = some (.lshl, 1)) (k : pm_run C mi (pc + 1) L (.long (x <<< (y.toInt64 &&& 63)) :: S) h Z) : pm_run C mi (pc) L (.int y :: .long x :: S) h Z := pm_go hf ⟨x, y, S, rfl, k⟩
theorem r_lshr {x : Int64} {y : Int32} (hf : pm_fetch mi pc = some (.lshr, 1)) (k : pm_run C mi (pc + 1) L (.long (x >>> (y.toInt64 &&& 63)) :: S) h Z) : pm_run C mi (pc) L (.int y :: .long x :: S) h Z := pm_go hf ⟨x, y, S, rfl, k⟩
theorem r_lushr {x : Int64} {y : Int32} (hf : pm_fetch mi pc = some (.lushr, 1)) (k : pm_run C mi (pc + 1) L (.long ((x.toUInt64 >>> (y.toInt64.toUInt64 &&& Int64.toUInt64 63)).toInt64) :: S) h Z) : pm_run C mi (pc) L (.int y :: .long x :: S) h Z := pm_go hf ⟨x, y, S, rfl, k⟩
theorem r_lcmp {x y : Int64} (hf : pm_fetch mi pc = some (.lcmp, 1)) (k : pm_run C mi (pc + 1) L (.int (lg_cmp x y) :: S) h Z) : pm_run C mi (pc) L (.long y :: .long x :: S) h Z := pm_go hf ⟨x, y, S, rfl, k⟩
theorem r_ineg {x : Int32} (hf : pm_fetch mi pc = some (.ineg, 1)) (k : pm_run C mi (pc + 1) L (.int (-x) :: S) h Z) : pm_run C mi (pc) L (.int x :: S) h Z := pm_go hf ⟨x, S, rfl, k⟩
theorem r_i2l {x : Int32} (hf : pm_fetch mi pc = some (.i2l, 1)) (k : pm_run C mi (pc + 1) L (.long (x.toInt64) :: S) h Z) : pm_run C mi (pc) L (.int x :: S) h Z := pm_go hf ⟨x, S, rfl, k⟩
theorem r_i2b {x : Int32} (hf : pm_fetch mi pc = some (.i2b, 1)) (k : pm_run C mi (pc + 1) L (.int (x.toInt8.toInt32) :: S) h Z) : pm_run C mi (pc) L (.int x :: S) h Z := pm_go hf ⟨x, S, rfl, k⟩
theorem r_i2s {x : Int32} (hf : pm_fetch mi pc = some (.i2s, 1)) (k : pm_run C mi (pc + 1) L (.int (x.toInt16.toInt32) :: S) h Z) : pm_run C mi (pc) L (.int x :: S) h Z := pm_go hf ⟨x, S, rfl, k⟩
theorem r_i2c {x : Int32} (hf : pm_fetch mi pc = some (.i2c, 1)) (k : pm_run C mi (pc + 1) L (.int ((x.toUInt32 % 65536).toInt32) :: S) h Z) : pm_run C mi (pc) L (.int x :: S) h Z := pm_go hf ⟨x, S, rfl, k⟩
theorem r_l2i {x : Int64} (hf : pm_fetch mi pc = some (.l2i, 1)) (k : pm_run C mi (pc + 1) L (.int (x.toInt32) :: S) h Z) : pm_run C mi (pc) L (.long x :: S) h Z := pm_go hf ⟨x, S, rfl, k⟩
theorem r_dupI {x : Int32} (hf : pm_fetch mi pc = some (.dup, 1)) (k : pm_run C mi (pc + 1) L (.int x :: .int x :: S) h Z) : pm_run C mi (pc) L (.int x :: S) h Z := pm_go hf ⟨_, S, rfl, rfl, k⟩
theorem r_dupN {a : Nat} (hf : pm_fetch mi pc = some (.dup, 1)) (k : pm_run C mi (pc + 1) L (.ref a :: .ref a :: S) h Z) : pm_run C mi (pc) L (.ref a :: S) h Z := pm_go hf ⟨_, S, rfl, rfl, k⟩
theorem r_dupA {r : Option Nat} (hf : pm_fetch mi pc = some (.dup, 1)) (k : pm_run C mi (pc + 1) L (va_rf r :: va_rf r :: S) h Z) : pm_run C mi (pc) L (va_rf r :: S) h Z := pm_go hf ⟨_, S, rfl, rf_A r, k⟩
theorem r_dup2 {x : Int32} {a : Nat} (hf : pm_fetch mi pc = some (.dup2, 1)) (k : pm_run C mi (pc + 1) L (.int x :: .ref a :: .int x :: .ref a :: S) h Z) : pm_run C mi (pc) L (.int x :: .ref a :: S) h Z := pm_go hf ⟨_, _, S, rfl, rfl, rfl, k⟩
theorem r_popI {x : Int32} (hf : pm_fetch mi pc = some (.pop, 1)) (k : pm_run C mi (pc + 1) L (S) h Z) : pm_run C mi (pc) L (.int x :: S) h Z := pm_go hf ⟨_, S, rfl, rfl, k⟩
theorem r_popA {r : Option Nat} (hf : pm_fetch mi pc = some (.pop, 1)) (k : pm_run C mi (pc + 1) L (S) h Z) : pm_run C mi (pc) L (va_rf r :: S) h Z := pm_go hf ⟨_, S, rfl, rf_A r, k⟩
theorem r_goto {off : Int} {t : Nat} (hf : pm_fetch mi pc = some (.goto off, 3)) (ht : (pc : Int) + off = (t : Int)) (k : pm_run C mi t L S h Z) : pm_run C mi pc L S h Z := pm_go hf ⟨t, ht, k⟩
theorem r_if_t {c : ClassFile.Cond} {off : Int} {t : Nat} {x : Int32} (hf : pm_fetch mi pc = some (.ifCond c off, 3)) (ht : (pc : Int) + off = (t : Int)) (hc : pm_cmp c x 0) (k : pm_run C mi t L S h Z) : pm_run C mi pc L (.int x :: S) h Z := pm_go hf ⟨t, x, S, ht, rfl, fun _ => k, fun n => absurd hc n⟩
theorem r_if_f {c : ClassFile.Cond} {off : Int} (t : Nat) {x : Int32} (hf : pm_fetch mi pc = some (.ifCond c off, 3)) (ht : (pc : Int) + off = (t : Int)) (hc : ¬ pm_cmp c x 0) (k : pm_run C mi (pc + 3) L S h Z) : pm_run C mi pc L (.int x :: S) h Z := pm_go hf ⟨t, x, S, ht, rfl, fun n => absurd n hc, fun _ => k⟩
theorem r_ic_t {c : ClassFile.Cond} {off : Int} {t : Nat} {x y : Int32} (hf : pm_fetch mi pc = some (.if_icmp c off, 3)) (ht : (pc : Int) + off = (t : Int)) (hc : pm_cmp c x y) (k : pm_run C mi t L S h Z) : pm_run C mi pc L (.int y :: .int x :: S) h Z := pm_go hf ⟨t, x, y, S, ht, rfl, fun _ => k, fun n => absurd hc n⟩
theorem r_ic_f {c : ClassFile.Cond} {off : Int} (t : Nat) {x y : Int32} (hf : pm_fetch mi pc = some (.if_icmp c off, 3)) (ht : (pc : Int) + off = (t : Int)) (hc : ¬ pm_cmp c x y) (k : pm_run C mi (pc + 3) L S h Z) : pm_run C mi pc L (.int y :: .int x :: S) h Z := pm_go hf ⟨t, x, y, S, ht, rfl, fun n => absurd n hc, fun _ => k⟩
theorem r_in_t {off : Int} {t : Nat} {r : Option Nat} (hf : pm_fetch mi pc = some (.ifnull off, 3)) (ht : (pc : Int) + off = (t : Int)) (hc : r = none) (k : pm_run C mi t L S h Z) : pm_run C mi pc L (va_rf r :: S) h Z := pm_go hf ⟨t, _, S, ht, rfl, rf_Q r, fun _ => k, fun n => absurd (rf_n.mpr hc) n⟩
theorem r_in_f {off : Int} (t : Nat) {r : Option Nat} (hf : pm_fetch mi pc = some (.ifnull off, 3)) (ht : (pc : Int) + off = (t : Int)) (hc : ¬ r = none) (k : pm_run C mi (pc + 3) L S h Z) : pm_run C mi pc L (va_rf r :: S) h Z := pm_go hf ⟨t, _, S, ht, rfl, rf_Q r, fun n => absurd (rf_n.mp n) hc, fun _ => k⟩
theorem r_nn_t {off : Int} {t : Nat} {r : Option Nat} (hf : pm_fetch mi pc = some (.ifnonnull off, 3)) (ht : (pc : Int) + off = (t : Int)) (hc : ¬ r = none) (k : pm_run C mi t L S h Z) : pm_run C mi pc L (va_rf r :: S) h Z := pm_go hf ⟨t, _, S, ht, rfl, rf_Q r, fun _ => k, fun n => absurd (rf_n.mp n) hc⟩
theorem r_nn_f {off : Int} (t : Nat) {r : Option Nat} (hf : pm_fetch mi pc = some (.ifnonnull off, 3)) (ht : (pc : Int) + off = (t : Int)) (hc : r = none) (k : pm_run C mi (pc + 3) L S h Z) : pm_run C mi pc L (va_rf r :: S) h Z := pm_go hf ⟨t, _, S, ht, rfl, rf_Q r, fun n => absurd (rf_n.mpr hc) n, fun _ => k⟩
theorem r_tsw {d lo hi : Int} {offs : Array Int} {n : Nat} {x v : Int32} {off : Int} {t : Nat} (hf : pm_fetch mi pc = some (.tableswitch d lo hi offs, n)) (hx : x = v) (h1 : ¬ v.toInt < lo) (h2 : ¬ hi < v.toInt) (h3 : offs[(v.toInt - lo).toNat]? = some off) (ht : (pc : Int) + off = (t : Int)) (k : pm_run C mi t L S h Z) : pm_run C mi pc L (.int x :: S) h Z := by subst hx; exact pm_go hf ⟨t, off, x, S, rfl, .inr ⟨h1, h2, h3⟩, ht, k⟩
theorem r_tswD {d lo hi : Int} {offs : Array Int} {n : Nat} {x : Int32} {t : Nat} (hf : pm_fetch mi pc = some (.tableswitch d lo hi offs, n)) (h1 : x.toInt < lo ∨ hi < x.toInt) (ht : (pc : Int) + d = (t : Int)) (k : pm_run C mi t L S h Z) : pm_run C mi pc L (.int x :: S) h Z := pm_go hf ⟨t, d, x, S, rfl, .inl ⟨h1, rfl⟩, ht, k⟩
theorem r_lsw {d : Int} {ps : Array (Int × Int)} {n : Nat} {x : Int32} {off : Int} {t : Nat} (hf : pm_fetch mi pc = some (.lookupswitch d ps, n)) (hp : (ps.toList.zip (ps.toList.drop 1)).all (fun (a, next) => a.1 < next.1) = true) (ho : Op.lookupswitch.offset ps.toList d x.toInt = off) (ht : (pc : Int) + off = (t : Int)) (k : pm_run C mi t L S h Z) : pm_run C mi pc L (.int x :: S) h Z := pm_go hf ⟨t, off, x, S, rfl, hp, ho, ht, k⟩
theorem r_getI {z a ci f e : Nat} {x : Int32} (hf : pm_fetch mi pc = some (.getfield z, 3)) (hp : pm_at pm_fT (pm_cl mi) z = some (ci, f, e)) (hx : op_I h a ci f = some x) (k : pm_run C mi (pc + 3) L (.int x :: S) h Z) : pm_run C mi pc L (.ref a :: S) h Z := by
  unfold op_I at hx
  split at hx
  · rename_i c fs hc
    split at hx
    · rename_i e1
      subst e1
      split at hx
      · rename_i v hv
        cases hx
        exact pm_go hf (.inl ⟨a, S, e, c, f, fs, _, rfl, hp, hc, hv, k⟩)
      · cases hx
    · cases hx
  · cases hx
theorem r_getJ {z a ci f e : Nat} {x : Int64} (hf : pm_fetch mi pc = some (.getfield z, 3)) (hp : pm_at pm_fT (pm_cl mi) z = some (ci, f, e)) (hx : op_J h a ci f = some x) (k : pm_run C mi (pc + 3) L (.long x :: S) h Z) : pm_run C mi pc L (.ref a :: S) h Z := by
  unfold op_J at hx
  split at hx
  · rename_i c fs hc
    split at hx
    · rename_i e1
      subst e1
      split at hx
      · rename_i v hv
        cases hx
        exact pm_go hf (.inl ⟨a, S, e, c, f, fs, _, rfl, hp, hc, hv, k⟩)
      · cases hx
    · cases hx
  · cases hx
theorem r_getA {z a ci f e : Nat} {x : Option Nat} (hf : pm_fetch mi pc = some (.getfield z, 3)) (hp : pm_at pm_fT (pm_cl mi) z = some (ci, f, e)) (hx : op_A h a ci f = some x) (k : pm_run C mi (pc + 3) L (va_rf x :: S) h Z) : pm_run C mi pc L (.ref a :: S) h Z := by
  unfold op_A at hx
  split at hx
  · rename_i c fs hc
    split at hx
    · rename_i e1
      subst e1
      split at hx
      · rename_i hv
        cases hx
        exact pm_go hf (.inl ⟨a, S, e, c, f, fs, _, rfl, hp, hc, hv, k⟩)
      · rename_i b hv
        cases hx
        exact pm_go hf (.inl ⟨a, S, e, c, f, fs, _, rfl, hp, hc, hv, k⟩)
      · cases hx
    · cases hx
  · cases hx
theorem r_getSv {z j e : Nat} (hf : pm_fetch mi pc = some (.getfield z, 3)) (hj : j < 12) (hp : pm_at pm_gT (pm_cl mi) z = some (0, e)) (k : pm_run C mi (pc + 3) L (.retAddr (100 + j) :: S) h Z) : pm_run C mi pc L (.retAddr j :: S) h Z := pm_go hf (.inr (.inl ⟨j, S, e, rfl, hj, hp, k⟩))
theorem r_getSc {z j e : Nat} (hf : pm_fetch mi pc = some (.getfield z, 3)) (hj : j < 12) (hp : pm_at pm_gT (pm_cl mi) z = some (1, e)) (k : pm_run C mi (pc + 3) L (.int 0 :: S) h Z) : pm_run C mi pc L (.retAddr j :: S) h Z := pm_go hf (.inr (.inr ⟨j, S, e, rfl, hj, hp, k⟩))
theorem r_gst0 {z e : Nat} (hf : pm_fetch mi pc = some (.getstatic z, 3)) (hp : pm_at pm_uT (pm_cl mi) z = some (0, e)) (k : pm_run C mi (pc + 3) L (.int 1 :: S) h Z) : pm_run C mi pc L S h Z := pm_go hf (.inl ⟨e, hp, k⟩)
theorem r_gst1 {z e : Nat} (hf : pm_fetch mi pc = some (.getstatic z, 3)) (hp : pm_at pm_uT (pm_cl mi) z = some (1, e)) (k : pm_run C mi (pc + 3) L (.retAddr 999 :: S) h Z) : pm_run C mi pc L S h Z := pm_go hf (.inr ⟨e, hp, k⟩)
theorem r_put {z a ci f e : Nat} {v : Value} {ty : FieldType} {h' : pm_H} (hf : pm_fetch mi pc = some (.putfield z, 3)) (hp : pm_at pm_fT (pm_cl mi) z = some (ci, f, e)) (ht : pm_ty ci f = some ty) (hn : narrow ty v = v) (hi : fits ty v = true) (hfi : pm_fin ci f = true → pm_ini mi = true ∧ ci = pm_cl mi) (hx : op_S h a ci f v = some h') (k : pm_run C mi (pc + 3) L S h' Z) : pm_run C mi pc L (v :: .ref a :: S) h Z := by
  unfold op_S at hx
  split at hx
  · rename_i c fs hc
    split at hx
    · rename_i e1
      obtain ⟨rfl, e2⟩ := e1
      cases hx
      exact pm_go hf ⟨a, v, S, e, c, f, fs, ty, rfl, hp, hc, e2, ht, hn, hi, hfi, k⟩
    · cases hx
  · cases hx
theorem r_aI {a : Nat} {i : Int32} {x : Int32} (hf : pm_fetch mi pc = some (.iaload, 1)) (hx : op_aI h a i = some x) (k : pm_run C mi (pc + 1) L (.int x :: S) h Z) : pm_run C mi pc L (.int i :: .ref a :: S) h Z := by
  unfold op_aI at hx
  split at hx
  · rename_i n f hc
    split at hx
    · cases hx
    · rename_i hin
      cases hx
      exact pm_go hf ⟨i, a, S, n, f, rfl, hc, hin, k⟩
  · cases hx
theorem r_aJ {a : Nat} {i : Int32} {x : Int64} (hf : pm_fetch mi pc = some (.laload, 1)) (hx : op_aJ h a i = some x) (k : pm_run C mi (pc + 1) L (.long x :: S) h Z) : pm_run C mi pc L (.int i :: .ref a :: S) h Z := by
  unfold op_aJ at hx
  split at hx
  · rename_i n f hc
    split at hx
    · cases hx
    · rename_i hin
      cases hx
      exact pm_go hf ⟨i, a, S, n, f, rfl, hc, hin, k⟩
  · cases hx
theorem r_aB {a : Nat} {i : Int32} {x : Int32} (hf : pm_fetch mi pc = some (.baload, 1)) (hx : op_aB h a i = some x) (k : pm_run C mi (pc + 1) L (.int x :: S) h Z) : pm_run C mi pc L (.int i :: .ref a :: S) h Z := by
  unfold op_aB at hx
  split at hx
  · rename_i n f hc
    split at hx
    · cases hx
    · rename_i hin
      cases hx
      exact pm_go hf (.inl ⟨i, a, S, n, f, rfl, hc, hin, k⟩)
  · cases hx
theorem r_aBS {j : Nat} {i : Int32} (hf : pm_fetch mi pc = some (.baload, 1)) (hj : j < 12) (hi : ¬ (i < 0 ∨ pm_slen j ≤ i.toNatClampNeg)) (k : pm_run C mi (pc + 1) L (.int (pm_sch j i.toNatClampNeg) :: S) h Z) : pm_run C mi pc L (.int i :: .retAddr (100 + j) :: S) h Z := pm_go hf (.inr ⟨i, j, S, rfl, hj, hi, k⟩)
theorem r_lnS {j : Nat} (hf : pm_fetch mi pc = some (.arraylength, 1)) (hj : j < 12) (k : pm_run C mi (pc + 1) L (.int (nI (pm_slen j)) :: S) h Z) : pm_run C mi pc L (.retAddr (100 + j) :: S) h Z := pm_go hf (.inr ⟨j, S, rfl, hj, k⟩)
theorem r_aA {a : Nat} (t : Nat) {i : Int32} {x : Option Nat} (hf : pm_fetch mi pc = some (.aaload, 1)) (ht : pm_et t) (hx : op_aA h a t i = some x) (k : pm_run C mi (pc + 1) L (va_rf x :: S) h Z) : pm_run C mi pc L (.int i :: .ref a :: S) h Z := by
  unfold op_aA at hx
  split at hx
  · rename_i c n f hc
    split at hx
    · rename_i e1
      subst e1
      split at hx
      · cases hx
      · rename_i hin
        cases hx
        exact pm_go hf ⟨i, a, S, t, n, f, rfl, ht, hc, hin, k⟩
    · cases hx
  · cases hx
theorem r_sI {a : Nat} {i x : Int32} {h' : pm_H} (hf : pm_fetch mi pc = some (.iastore, 1)) (hx : op_sI h a i x = some h') (k : pm_run C mi (pc + 1) L S h' Z) : pm_run C mi pc L (.int x :: .int i :: .ref a :: S) h Z := by
  unfold op_sI at hx
  split at hx
  · rename_i n f hc
    split at hx
    · cases hx
    · rename_i hin
      cases hx
      exact pm_go hf ⟨x, i, a, S, n, f, rfl, hc, hin, k⟩
  · cases hx
theorem r_sB {a : Nat} {i x : Int32} {h' : pm_H} (hf : pm_fetch mi pc = some (.bastore, 1)) (hx : op_sB h a i x = some h') (k : pm_run C mi (pc + 1) L S h' Z) : pm_run C mi pc L (.int x :: .int i :: .ref a :: S) h Z := by
  unfold op_sB at hx
  split at hx
  · rename_i n f hc
    split at hx
    · cases hx
    · rename_i hin
      cases hx
      exact pm_go hf ⟨x, i, a, S, n, f, rfl, hc, hin, k⟩
  · cases hx
theorem r_sJ {a : Nat} {i : Int32} {x : Int64} {h' : pm_H} (hf : pm_fetch mi pc = some (.lastore, 1)) (hx : op_sJ h a i x = some h') (k : pm_run C mi (pc + 1) L S h' Z) : pm_run C mi pc L (.long x :: .int i :: .ref a :: S) h Z := by
  unfold op_sJ at hx
  split at hx
  · rename_i n f hc
    split at hx
    · cases hx
    · rename_i hin
      cases hx
      exact pm_go hf ⟨x, i, a, S, n, f, rfl, hc, hin, k⟩
  · cases hx
theorem r_sA {a v : Nat} (t : Nat) {i : Int32} {h' : pm_H} (hf : pm_fetch mi pc = some (.aastore, 1)) (ht : pm_et t) (hx : op_sA h a t i v = some h') (k : pm_run C mi (pc + 1) L S h' Z) : pm_run C mi pc L (.ref v :: .int i :: .ref a :: S) h Z := by
  unfold op_sA at hx
  split at hx
  · rename_i c n f ci vs hc hv
    split at hx
    · rename_i e1
      obtain ⟨rfl, rfl⟩ := e1
      split at hx
      · cases hx
      · rename_i hin
        cases hx
        exact pm_go hf ⟨v, i, a, S, ci, n, f, vs, rfl, ht, hc, hv, hin, k⟩
    · cases hx
  · cases hx
theorem r_ln {a : Nat} {x : Int32} (hf : pm_fetch mi pc = some (.arraylength, 1)) (hx : op_ln h a = some x) (k : pm_run C mi (pc + 1) L (.int x :: S) h Z) : pm_run C mi pc L (.ref a :: S) h Z := by
  unfold op_ln at hx
  split at hx
  · rename_i t y hc
    split at hx
    · rename_i ht
      cases hx
      exact pm_go hf (.inl ⟨a, S, t, y, rfl, ht, hc, k⟩)
    · cases hx
  · cases hx
theorem r_nI {n : Int32} {h' : pm_H} (hf : pm_fetch mi pc = some (.newarray .int, 2)) (hx : op_nI h n = some h') (k : pm_run C mi (pc + 2) L (.ref h.length :: S) h' Z) : pm_run C mi pc L (.int n :: S) h Z := by
  unfold op_nI at hx
  split at hx
  · cases hx
  · rename_i hc
    cases hx
    exact pm_go hf ⟨n, S, rfl, fun q => hc (.inl q), Decidable.not_not.mp (fun q => hc (.inr q)), .inl ⟨rfl, k⟩⟩
theorem r_nJ {n : Int32} {h' : pm_H} (hf : pm_fetch mi pc = some (.newarray .long, 2)) (hx : op_nJ h n = some h') (k : pm_run C mi (pc + 2) L (.ref h.length :: S) h' Z) : pm_run C mi pc L (.int n :: S) h Z := by
  unfold op_nJ at hx
  split at hx
  · cases hx
  · rename_i hc
    cases hx
    exact pm_go hf ⟨n, S, rfl, fun q => hc (.inl q), Decidable.not_not.mp (fun q => hc (.inr q)), .inr (.inl ⟨rfl, k⟩)⟩
theorem r_nB {n : Int32} {h' : pm_H} (hf : pm_fetch mi pc = some (.newarray .byte, 2)) (hx : op_nB h n = some h') (k : pm_run C mi (pc + 2) L (.ref h.length :: S) h' Z) : pm_run C mi pc L (.int n :: S) h Z := by
  unfold op_nB at hx
  split at hx
  · cases hx
  · rename_i hc
    cases hx
    exact pm_go hf ⟨n, S, rfl, fun q => hc (.inl q), Decidable.not_not.mp (fun q => hc (.inr q)), .inr (.inr ⟨rfl, k⟩)⟩
theorem r_nA {z t : Nat} {e : Nat × Nat} {n : Int32} {h' : pm_H} (hf : pm_fetch mi pc = some (.anewarray z, 3)) (ht : pm_et t) (hp : pm_at pm_aT (pm_cl mi) z = some (t, e)) (hx : op_nA h t n = some h') (k : pm_run C mi (pc + 3) L (.ref h.length :: S) h' Z) : pm_run C mi pc L (.int n :: S) h Z := by
  unfold op_nA at hx
  split at hx
  · cases hx
  · rename_i hc
    cases hx
    exact pm_go hf ⟨n, S, t, _, rfl, fun q => hc (.inl q), Decidable.not_not.mp (fun q => hc (.inr q)), ht, hp, k⟩
theorem r_new {z ci : Nat} {e : Nat × Nat × Nat} (hf : pm_fetch mi pc = some (.new z, 3)) (hp : pm_at pm_nT (pm_cl mi) z = some (ci, e)) (k : pm_run C mi (pc + 3) L (.ref h.length :: S) (h ++ [.inr (ci, pm_new ci)]) Z) : pm_run C mi pc L S h Z := pm_go hf ⟨ci, _, hp, k⟩
theorem r_obj {z a e : Nat} (hf : pm_fetch mi pc = some (.invokespecial z, 3)) (hp : pm_at pm_oT (pm_cl mi) z = some e) (hs : pm_cs S ≤ 8) (k : pm_run C mi (pc + 3) L S h Z) : pm_run C mi pc L (.ref a :: S) h Z := pm_go hf (.inl ⟨a, S, e, rfl, hp, hs, k⟩)
theorem r_ctor {z kd m' b : Nat} {e : Nat × Nat × Nat × String} {q : pm_M} {S0 as : List Value} {h' : pm_H} (hf : pm_fetch mi pc = some (.invokespecial z, 3)) (hp : pm_at pm_cT (pm_cl mi) z = some (kd, m', e)) (hq : pm_MT[m']? = some q) (hk : kd = 2 ∨ kd = 3) (hl : as.length = q.2.2.2.2.2.1) (hS : S0 = as.reverse ++ .ref b :: S) (hs : pm_cs S ≤ 8) (he : C m' (.ref b :: as) h none h') (k : pm_run C mi (pc + 3) L S h' Z) : pm_run C mi pc L S0 h Z := pm_go hf (.inr ⟨kd, m', e, q, as, S, b, h', hp, hq, hk, hl, hS, hs, he, k⟩)
theorem r_virt {z m' b : Nat} {e : Nat × Nat × Nat × String} {q : pm_M} {S0 as : List Value} {r : Option Value} {h' : pm_H} (hf : pm_fetch mi pc = some (.invokevirtual z, 3)) (hp : pm_at pm_cT (pm_cl mi) z = some (0, m', e)) (hq : pm_MT[m']? = some q) (hl : as.length = q.2.2.2.2.2.1) (hS : S0 = as.reverse ++ .ref b :: S) (hs : pm_cs S ≤ 8) (hi : op_is h b q.2.2.2.2.1 = true) (he : C m' (.ref b :: as) h r h') (k : pm_run C mi (pc + 3) L (r.toList ++ S) h' Z) : pm_run C mi pc L S0 h Z := by
  unfold op_is at hi
  split at hi
  · rename_i c fs hc
    have : c = q.2.2.2.2.1 := by simpa using hi
    subst this
    exact pm_go hf (.inl ⟨m', e, q, as, S, b, fs, r, h', hp, hq, hl, hS, hs, hc, he, k⟩)
  · cases hi
theorem r_virS {z m' j : Nat} {e : Nat × Nat × Nat × String} {q : pm_M} {S0 as : List Value} {r : Option Value} {h' : pm_H} (hf : pm_fetch mi pc = some (.invokevirtual z, 3)) (hp : pm_at pm_cT (pm_cl mi) z = some (5, m', e)) (hq : pm_MT[m']? = some q) (hl : as.length = q.2.2.2.2.2.1) (hS : S0 = as.reverse ++ .retAddr j :: S) (hs : pm_cs S ≤ 8) (hj : j < 12) (he : C m' (.retAddr j :: as) h r h') (k : pm_run C mi (pc + 3) L (r.toList ++ S) h' Z) : pm_run C mi pc L S0 h Z := pm_go hf (.inr ⟨m', e, q, as, S, j, r, h', hp, hq, hl, hS, hs, hj, he, k⟩)
theorem r_stat {z kd m' : Nat} {e : Nat × Nat × Nat × String} {q : pm_M} {S0 as : List Value} {r : Option Value} {h' : pm_H} (hf : pm_fetch mi pc = some (.invokestatic z, 3)) (hp : pm_at pm_cT (pm_cl mi) z = some (kd, m', e)) (hq : pm_MT[m']? = some q) (hk : kd = 1 ∨ kd = 4) (hl : as.length = q.2.2.2.2.2.1) (hS : S0 = as.reverse ++ S) (hs : pm_cs S ≤ 8) (he : C m' as h r h') (k : pm_run C mi (pc + 3) L (r.toList ++ S) h' Z) : pm_run C mi pc L S0 h Z := pm_go hf (.inl ⟨kd, m', e, q, as, S, r, h', hp, hq, hk, hl, hS, hs, he, k⟩)
theorem r_min {z e : Nat} {x y : Int32} (hf : pm_fetch mi pc = some (.invokestatic z, 3)) (hp : pm_at pm_xT (pm_cl mi) z = some e) (hs : pm_cs S ≤ 8) (k : pm_run C mi (pc + 3) L (.int (if y < x then y else x) :: S) h Z) : pm_run C mi pc L (.int y :: .int x :: S) h Z := pm_go hf (.inr (.inl ⟨x, y, S, e, rfl, hp, hs, k⟩))
theorem r_cpy {z e a b : Nat} {sp dp n : Int32} {h' : pm_H} (hf : pm_fetch mi pc = some (.invokestatic z, 3)) (hp : pm_at pm_yT (pm_cl mi) z = some e) (hs : pm_cs S ≤ 8) (hx : op_cp h a sp b dp n = some h') (k : pm_run C mi (pc + 3) L S h' Z) : pm_run C mi pc L (.int n :: .int dp :: .ref b :: .int sp :: .ref a :: S) h Z := by
  unfold op_cp at hx
  split at hx
  · rename_i n0 f n1 g h1 h2
    split at hx
    · cases hx
    · rename_i hc
      cases hx
      simp only [not_or, Nat.not_lt] at hc
      exact pm_go hf (.inr (.inr ⟨sp, dp, n, a, b, S, e, n0, n1, f, g, rfl, hp, hs, h1, h2, hc.1, hc.2.1, hc.2.2.1, hc.2.2.2.1, hc.2.2.2.2, k⟩))
  · cases hx
theorem r_iret {x : Int32} (q : pm_M) (ty : FieldType) (hf : pm_fetch mi pc = some (.ireturn, 1)) (hq : pm_MT[mi]? = some q) (ht : q.2.2.2.1 = some ty) (hn : narrow ty (.int x) = .int x) (hz : Z (some (.int x)) h) : pm_run C mi pc L [.int x] h Z := pm_go hf ⟨x, q, ty, rfl, hq, ht, hn, hz⟩
theorem r_lret {x : Int64} (q : pm_M) (hf : pm_fetch mi pc = some (.lreturn, 1)) (hq : pm_MT[mi]? = some q) (ht : q.2.2.2.1 = some .long) (hz : Z (some (.long x)) h) : pm_run C mi pc L [.long x] h Z := pm_go hf ⟨x, q, rfl, hq, ht, hz⟩
theorem r_aret {r : Option Nat} (q : pm_M) (ty : FieldType) (hf : pm_fetch mi pc = some (.areturn, 1)) (hq : pm_MT[mi]? = some q) (ht : q.2.2.2.1 = some ty) (hn : (∃ n, ty = .object n) ∨ ∃ t, ty = .array t) (hz : Z (some (va_rf r)) h) : pm_run C mi pc L [va_rf r] h Z := pm_go hf ⟨_, q, ty, rfl, rf_R r, hq, ht, hn, hz⟩
theorem r_vret (q : pm_M) (hf : pm_fetch mi pc = some (.return_, 1)) (hq : pm_MT[mi]? = some q) (ht : q.2.2.2.1 = none) (hz : Z none h) : pm_run C mi pc L [] h Z := pm_go hf ⟨q, rfl, hq, ht, hz⟩
theorem sw_out {x : Int32} {lo hi : Int} (n : Nat) (h : ∀ k : Nat, k < n → ¬ x.toInt = lo + (k : Int)) (hn : hi < lo + n) : x.toInt < lo ∨ hi < x.toInt := by
  by_cases h1 : x.toInt < lo
  · exact Or.inl h1
  · by_cases h2 : hi < x.toInt
    · exact Or.inr h2
    · have h3 := h (x.toInt - lo).toNat (by omega)
      exact absurd (by omega) h3
theorem sw_ne {x v : Int32} {z : Int} (h : ¬ x = v) (hv : v.toInt = z) : ¬ x.toInt = z := fun q => h (Int32.toInt_inj.mp (q.trans hv.symm))
end ROWS
