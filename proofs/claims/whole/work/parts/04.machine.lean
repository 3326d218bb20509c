/-! THE PURE MACHINE: the bytecode over plain lists. A heap is a list of cells, a reference is a place in it. -/
abbrev pm_C : Type := (Nat × vp_A) ⊕ (Nat × List Value)
abbrev pm_H : Type := List pm_C
/-- where the cells are, and where the constant strings -/
abbrev pm_N : Type := (Nat → Nat) × (Nat → Option Nat)
def pm_val (ρ : pm_N) : Value → Value
  | .ref a => .ref (ρ.1 a)
  | .retAddr j => va_rf (ρ.2 j)
  | v => v
def pm_arr (ρ : pm_N) (a : vp_A) : vp_A := match a.2 with
  | .inl f => (a.1, .inl f)
  | .inr (.inl f) => (a.1, .inr (.inl f))
  | .inr (.inr (.inl f)) => (a.1, .inr (.inr (.inl f)))
  | .inr (.inr (.inr (.inl f))) => (a.1, .inr (.inr (.inr (.inl f))))
  | .inr (.inr (.inr (.inr f))) => (a.1, .inr (.inr (.inr (.inr (fun j => (f j).map ρ.1)))))
def pm_cell (ρ : pm_N) (cA : Nat → ClassId) : pm_C → va_E
  | .inl (k, a) => .inl (cA k, pm_arr ρ a)
  | .inr (ci, fs) => .inr (ci, fs.map (pm_val ρ))
def pm_W (ρ : pm_N) (cA : Nat → ClassId) (h : pm_H) : va_W := h.mapIdx (fun k c => (ρ.1 k, pm_cell ρ cA c))
/-- the room that a cell takes -/
def pm_sz : pm_C → Nat
  | .inl (_, a) => a.1
  | .inr (_, fs) => fs.length
def pm_sl (h : pm_H) : Nat := (h.map pm_sz).sum
/-- what isn't set in a list of locals -/
abbrev pm_J : Value := .float 0
def pm_cut (L : List Value) : Nat → List Value
  | 0 => L
  | j + 1 => match L[j]? with
    | some (.long _) => L.set j pm_J
    | some (.double _) => L.set j pm_J
    | _ => L
def pm_st1 (L : List Value) (i : Nat) (v : Value) : List Value := (pm_cut L i).set i v
def pm_st2 (L : List Value) (i : Nat) (v : Value) : List Value := ((pm_cut L i).set i v).set (i + 1) pm_J
def pm_ar : List Value → List Value
  | [] => []
  | .long x :: l => .long x :: pm_J :: pm_ar l
  | .double x :: l => .double x :: pm_J :: pm_ar l
  | v :: l => v :: pm_ar l
def pm_in (n : Nat) (as : List Value) : List Value := pm_ar as ++ List.replicate (n - (pm_ar as).length) pm_J
def pm_isR : Value → Bool
  | .ref _ => true
  | .retAddr _ => true
  | .null => true
  | _ => false
def pm_isQ : Value → Bool
  | .ref _ => true
  | .null => true
  | _ => false
def pm_isA : Value → Bool
  | .ref _ => true
  | .retAddr _ => true
  | .null => true
  | .int _ => true
  | _ => false
def pm_cs (S : List Value) : Nat := (S.map fun v => v.category).sum
def pm_at {α : Type} (T : List (List (Nat × α))) (c i : Nat) : Option α := match T[c]? with
  | some l => l.lookup i
  | none => none
def pm_fetch (mi pc : Nat) : Option (Instr × Nat) := match pm_MT[mi]? with
  | some q => q.2.2.2.2.2.2.lookup pc
  | none => none
/-- the number of a method's class -/
def pm_cl (mi : Nat) : Nat := match pm_MT[mi]? with
  | some q => q.2.2.2.2.1
  | none => 99
def pm_ini (mi : Nat) : Bool := match pm_MT[mi]? with
  | some q => decide (q.1.name = "<init>")
  | none => false
def pm_ty (ci k : Nat) : Option FieldType := match vwCl[ci]? with
  | some r => parseFieldDescriptor (r.2.1 k).2.2.1
  | none => none
def pm_fin (ci k : Nat) : Bool := match vwCl[ci]? with
  | some r => (r.2.1 k).2.2.2
  | none => true
/-- what stands in a new object -/
def pm_new (ci : Nat) : List Value := match vwCl[ci]? with
  | some r => (List.range r.2.2).map (fun k => match parseFieldDescriptor (r.2.1 k).2.2.1 with
    | some t => defaultValue t
    | none => .null)
  | none => []
def pm_cmp : ClassFile.Cond → Int32 → Int32 → Prop
  | .eq, x, y => x = y
  | .ne, x, y => ¬ x = y
  | .lt, x, y => x < y
  | .ge, x, y => y ≤ x
  | .gt, x, y => y < x
  | .le, x, y => x ≤ y
/-- arrays by their kind: 0 int, 1 long, 2 byte, 3 + t objects of class t -/
def pm_et (t : Nat) : Prop := t = 0 ∨ t = 2 ∨ t = 3
def pm_tt (t : Nat) : Prop := t = 0 ∨ t = 1 ∨ t = 2 ∨ t = 3 ∨ t = 5 ∨ t = 6
abbrev pm_K : Type := Nat → List Value → List Value → pm_H → Prop
abbrev pm_R : Type := Nat → List Value → pm_H → Option Value → pm_H → Prop
/-- the constant strings: their bytes -/
def pm_sb (j : Nat) : List Int32 := pm_SB.getD j []
def pm_slen (j : Nat) : Nat := (pm_sb j).length
def pm_sch (j k : Nat) : Int32 := (pm_sb j).getD k 0
/-- an instruction: from pc, locals L, stack S, heap h, on to K or out to Z; calls are by the relation C -/
def pm_step (C : pm_R) (mi : Nat) (i : Instr) (pc : Nat) (L S : List Value) (h : pm_H) (K : pm_K) (Z : Option Value → pm_H → Prop) : Prop :=
  match i with
  | .aload_n k => ∃ v, L[(k : Nat)]? = some v ∧ pm_isR v = true ∧ K (pc + 1) L (v :: S) h
  | .aload k => ∃ v, L[k]? = some v ∧ pm_isR v = true ∧ K (pc + 2) L (v :: S) h
  | .iload_n k => ∃ x, L[(k : Nat)]? = some (.int x) ∧ K (pc + 1) L (.int x :: S) h
  | .iload k => ∃ x, L[k]? = some (.int x) ∧ K (pc + 2) L (.int x :: S) h
  | .lload_n k => ∃ x, L[(k : Nat)]? = some (.long x) ∧ K (pc + 1) L (.long x :: S) h
  | .lload k => ∃ x, L[k]? = some (.long x) ∧ K (pc + 2) L (.long x :: S) h
  | .istore_n k => ∃ x S', S = .int x :: S' ∧ (k : Nat) < L.length ∧ K (pc + 1) (pm_st1 L k (.int x)) S' h
  | .istore k => ∃ x S', S = .int x :: S' ∧ k < L.length ∧ K (pc + 2) (pm_st1 L k (.int x)) S' h
  | .lstore_n k => ∃ x S', S = .long x :: S' ∧ (k : Nat) + 1 < L.length ∧ K (pc + 1) (pm_st2 L k (.long x)) S' h
  | .lstore k => ∃ x S', S = .long x :: S' ∧ k + 1 < L.length ∧ K (pc + 2) (pm_st2 L k (.long x)) S' h
  | .astore_n k => ∃ v S', S = v :: S' ∧ pm_isR v = true ∧ (k : Nat) < L.length ∧ K (pc + 1) (pm_st1 L k v) S' h
  | .astore k => ∃ v S', S = v :: S' ∧ pm_isR v = true ∧ k < L.length ∧ K (pc + 2) (pm_st1 L k v) S' h
  | .iinc k n => ∃ x, L[k]? = some (.int x) ∧ K (pc + 3) (pm_st1 L k (.int (x + Int32.ofInt n))) S h
  | .iconst n => K (pc + 1) L (.int (Int32.ofInt n) :: S) h
  | .bipush n => K (pc + 2) L (.int (Int8.ofInt n).toInt32 :: S) h
  | .sipush n => K (pc + 3) L (.int (Int16.ofInt n).toInt32 :: S) h
  | .lconst n => K (pc + 1) L (.long (Int64.ofNat (n : Nat)) :: S) h
  | .aconst_null => K (pc + 1) L (.null :: S) h
  | .ldc k => (∃ v, pm_at pm_iT (pm_cl mi) k = some v ∧ K (pc + 2) L (.int v.1 :: S) h) ∨ (∃ j e, pm_at pm_sT (pm_cl mi) k = some (j, e) ∧ K (pc + 2) L (.retAddr j :: S) h)
  | .ldc_w k => ∃ v, pm_at pm_iT (pm_cl mi) k = some v ∧ K (pc + 3) L (.int v.1 :: S) h
  | .ldc2_w k => ∃ v, pm_at pm_lT (pm_cl mi) k = some v ∧ K (pc + 3) L (.long v.1 :: S) h
  | .iadd => ∃ x y S', S = .int y :: .int x :: S' ∧ K (pc + 1) L (.int (x + y) :: S') h
  | .isub => ∃ x y S', S = .int y :: .int x :: S' ∧ K (pc + 1) L (.int (x - y) :: S') h
  | .imul => ∃ x y S', S = .int y :: .int x :: S' ∧ K (pc + 1) L (.int (x * y) :: S') h
  | .idiv => ∃ x y S', S = .int y :: .int x :: S' ∧ ¬ y = 0 ∧ K (pc + 1) L (.int (x / y) :: S') h
  | .irem => ∃ x y S', S = .int y :: .int x :: S' ∧ ¬ y = 0 ∧ K (pc + 1) L (.int (x - x / y * y) :: S') h
  | .iand => ∃ x y S', S = .int y :: .int x :: S' ∧ K (pc + 1) L (.int (x &&& y) :: S') h
  | .ior => ∃ x y S', S = .int y :: .int x :: S' ∧ K (pc + 1) L (.int (x ||| y) :: S') h
  | .ixor => ∃ x y S', S = .int y :: .int x :: S' ∧ K (pc + 1) L (.int (x ^^^ y) :: S') h
  | .ishl => ∃ x y S', S = .int y :: .int x :: S' ∧ K (pc + 1) L (.int (x <<< (y &&& 31)) :: S') h
  | .ishr => ∃ x y S', S = .int y :: .int x :: S' ∧ K (pc + 1) L (.int (x >>> (y &&& 31)) :: S') h
  | .iushr => ∃ x y S', S = .int y :: .int x :: S' ∧ K (pc + 1) L (.int (x.toUInt32 >>> (y.toUInt32 &&& Int32.toUInt32 31)).toInt32 :: S') h
  | .ineg => ∃ x S', S = .int x :: S' ∧ K (pc + 1) L (.int (-x) :: S') h
  | .i2l => ∃ x S', S = .int x :: S' ∧ K (pc + 1) L (.long x.toInt64 :: S') h
  | .i2c => ∃ x S', S = .int x :: S' ∧ K (pc + 1) L (.int (x.toUInt32 % 65536).toInt32 :: S') h
  | .i2b => ∃ x S', S = .int x :: S' ∧ K (pc + 1) L (.int x.toInt8.toInt32 :: S') h
  | .i2s => ∃ x S', S = .int x :: S' ∧ K (pc + 1) L (.int x.toInt16.toInt32 :: S') h
  | .l2i => ∃ x S', S = .long x :: S' ∧ K (pc + 1) L (.int x.toInt32 :: S') h
  | .ladd => ∃ x y S', S = .long y :: .long x :: S' ∧ K (pc + 1) L (.long (x + y) :: S') h
  | .lsub => ∃ x y S', S = .long y :: .long x :: S' ∧ K (pc + 1) L (.long (x - y) :: S') h
  | .lmul => ∃ x y S', S = .long y :: .long x :: S' ∧ K (pc + 1) L (.long (x * y) :: S') h
  | .ldiv => ∃ x y S', S = .long y :: .long x :: S' ∧ ¬ y = 0 ∧ K (pc + 1) L (.long (x / y) :: S') h
  | .lrem => ∃ x y S', S = .long y :: .long x :: S' ∧ ¬ y = 0 ∧ K (pc + 1) L (.long (x - x / y * y) :: S') h
  | .land => ∃ x y S', S = .long y :: .long x :: S' ∧ K (pc + 1) L (.long (x &&& y) :: S') h
  | .lor => ∃ x y S', S = .long y :: .long x :: S' ∧ K (pc + 1) L (.long (x ||| y) :: S') h
  | .lxor => ∃ x y S', S = .long y :: .long x :: S' ∧ K (pc + 1) L (.long (x ^^^ y) :: S') h
  | .lshl => ∃ x y S', S = .int y :: .long x :: S' ∧ K (pc + 1) L (.long (x <<< (y.toInt64 &&& 63)) :: S') h
  | .lshr => ∃ x y S', S = .int y :: .long x :: S' ∧ K (pc + 1) L (.long (x >>> (y.toInt64 &&& 63)) :: S') h
  | .lushr => ∃ x y S', S = .int y :: .long x :: S' ∧ K (pc + 1) L (.long (x.toUInt64 >>> (y.toInt64.toUInt64 &&& Int64.toUInt64 63)).toInt64 :: S') h
  | .lcmp => ∃ x y S', S = .long y :: .long x :: S' ∧ K (pc + 1) L (.int (lg_cmp x y) :: S') h
  | .dup => ∃ v S', S = v :: S' ∧ pm_isA v = true ∧ K (pc + 1) L (v :: v :: S') h
  | .dup2 => ∃ v w S', S = v :: w :: S' ∧ pm_isA v = true ∧ pm_isA w = true ∧ K (pc + 1) L (v :: w :: v :: w :: S') h
  | .pop => ∃ v S', S = v :: S' ∧ pm_isA v = true ∧ K (pc + 1) L S' h
  | .goto off => ∃ t : Nat, (pc : Int) + off = (t : Int) ∧ K t L S h
  | .ifCond c off => ∃ (t : Nat) (x : Int32) (S' : List Value), (pc : Int) + off = (t : Int) ∧ S = .int x :: S' ∧ (pm_cmp c x 0 → K t L S' h) ∧ (¬ pm_cmp c x 0 → K (pc + 3) L S' h)
  | .if_icmp c off => ∃ (t : Nat) (x y : Int32) (S' : List Value), (pc : Int) + off = (t : Int) ∧ S = .int y :: .int x :: S' ∧ (pm_cmp c x y → K t L S' h) ∧ (¬ pm_cmp c x y → K (pc + 3) L S' h)
  | .ifnull off => ∃ (t : Nat) (v : Value) (S' : List Value), (pc : Int) + off = (t : Int) ∧ S = v :: S' ∧ pm_isQ v = true ∧ (v = .null → K t L S' h) ∧ (¬ v = .null → K (pc + 3) L S' h)
  | .ifnonnull off => ∃ (t : Nat) (v : Value) (S' : List Value), (pc : Int) + off = (t : Int) ∧ S = v :: S' ∧ pm_isQ v = true ∧ (¬ v = .null → K t L S' h) ∧ (v = .null → K (pc + 3) L S' h)
  | .tableswitch d lo hi offs => ∃ (t : Nat) (off : Int) (x : Int32) (S' : List Value), S = .int x :: S' ∧ ((x.toInt < lo ∨ hi < x.toInt) ∧ off = d ∨ ¬ x.toInt < lo ∧ ¬ hi < x.toInt ∧ offs[(x.toInt - lo).toNat]? = some off) ∧ (pc : Int) + off = (t : Int) ∧ K t L S' h
  | .lookupswitch d ps => ∃ (t : Nat) (off : Int) (x : Int32) (S' : List Value), S = .int x :: S' ∧ (ps.toList.zip (ps.toList.drop 1)).all (fun (a, next) => a.1 < next.1) = true ∧ Op.lookupswitch.offset ps.toList d x.toInt = off ∧ (pc : Int) + off = (t : Int) ∧ K t L S' h
  | .getfield k => (∃ a S' e ci f fs v, S = .ref a :: S' ∧ pm_at pm_fT (pm_cl mi) k = some (ci, f, e) ∧ h[a]? = some (.inr (ci, fs)) ∧ fs[f]? = some v ∧ K (pc + 3) L (v :: S') h) ∨ (∃ j S' e, S = .retAddr j :: S' ∧ j < 12 ∧ pm_at pm_gT (pm_cl mi) k = some (0, e) ∧ K (pc + 3) L (.retAddr (100 + j) :: S') h) ∨ (∃ j S' e, S = .retAddr j :: S' ∧ j < 12 ∧ pm_at pm_gT (pm_cl mi) k = some (1, e) ∧ K (pc + 3) L (.int 0 :: S') h)
  | .getstatic k => (∃ e, pm_at pm_uT (pm_cl mi) k = some (0, e) ∧ K (pc + 3) L (.int 1 :: S) h) ∨ (∃ e, pm_at pm_uT (pm_cl mi) k = some (1, e) ∧ K (pc + 3) L (.retAddr 999 :: S) h)
  | .putfield k => ∃ a v S' e ci f fs ty, S = v :: .ref a :: S' ∧ pm_at pm_fT (pm_cl mi) k = some (ci, f, e) ∧ h[a]? = some (.inr (ci, fs)) ∧ f < fs.length ∧ pm_ty ci f = some ty ∧ narrow ty v = v ∧ fits ty v = true ∧ (pm_fin ci f = true → pm_ini mi = true ∧ ci = pm_cl mi) ∧ K (pc + 3) L S' (h.set a (.inr (ci, fs.set f v)))
  | .iaload => ∃ i a S' n f, S = .int i :: .ref a :: S' ∧ h[a]? = some (.inl (0, n, .inl f)) ∧ vp_in i n ∧ K (pc + 1) L (.int (f i.toNatClampNeg) :: S') h
  | .baload => (∃ i a S' n f, S = .int i :: .ref a :: S' ∧ h[a]? = some (.inl (2, n, .inl f)) ∧ vp_in i n ∧ K (pc + 1) L (.int (f i.toNatClampNeg) :: S') h) ∨ (∃ i j S', S = .int i :: .retAddr (100 + j) :: S' ∧ j < 12 ∧ vp_in i (pm_slen j) ∧ K (pc + 1) L (.int (pm_sch j i.toNatClampNeg) :: S') h)
  | .laload => ∃ i a S' n f, S = .int i :: .ref a :: S' ∧ h[a]? = some (.inl (1, n, .inr (.inl f))) ∧ vp_in i n ∧ K (pc + 1) L (.long (f i.toNatClampNeg) :: S') h
  | .aaload => ∃ i a S' t n f, S = .int i :: .ref a :: S' ∧ pm_et t ∧ h[a]? = some (.inl (t + 3, n, .inr (.inr (.inr (.inr f))))) ∧ vp_in i n ∧ K (pc + 1) L (va_rf (f i.toNatClampNeg) :: S') h
  | .iastore => ∃ x i a S' n f, S = .int x :: .int i :: .ref a :: S' ∧ h[a]? = some (.inl (0, n, .inl f)) ∧ vp_in i n ∧ K (pc + 1) L S' (h.set a (.inl (0, n, .inl (upd f i.toNatClampNeg x))))
  | .bastore => ∃ x i a S' n f, S = .int x :: .int i :: .ref a :: S' ∧ h[a]? = some (.inl (2, n, .inl f)) ∧ vp_in i n ∧ K (pc + 1) L S' (h.set a (.inl (2, n, .inl (upd f i.toNatClampNeg x.toInt8.toInt32))))
  | .lastore => ∃ x i a S' n f, S = .long x :: .int i :: .ref a :: S' ∧ h[a]? = some (.inl (1, n, .inr (.inl f))) ∧ vp_in i n ∧ K (pc + 1) L S' (h.set a (.inl (1, n, .inr (.inl (vp_updL f i.toNatClampNeg x)))))
  | .aastore => ∃ v i a S' t n f vs, S = .ref v :: .int i :: .ref a :: S' ∧ pm_et t ∧ h[a]? = some (.inl (t + 3, n, .inr (.inr (.inr (.inr f))))) ∧ h[v]? = some (.inr (t, vs)) ∧ vp_in i n ∧ K (pc + 1) L S' (h.set a (.inl (t + 3, n, .inr (.inr (.inr (.inr (va_up f i.toNatClampNeg (some v))))))))
  | .arraylength => (∃ a S' t x, S = .ref a :: S' ∧ pm_tt t ∧ h[a]? = some (.inl (t, x)) ∧ K (pc + 1) L (.int (Int32.ofNat x.1) :: S') h) ∨ (∃ j S', S = .retAddr (100 + j) :: S' ∧ j < 12 ∧ K (pc + 1) L (.int (nI (pm_slen j)) :: S') h)
  | .newarray at_ => ∃ n S', S = .int n :: S' ∧ ¬ n < 0 ∧ n.toNatClampNeg ≤ 60000000 ∧ ((at_ = .int ∧ K (pc + 2) L (.ref h.length :: S') (h ++ [.inl (0, n.toNatClampNeg, .inl (fun _ => 0))])) ∨ (at_ = .long ∧ K (pc + 2) L (.ref h.length :: S') (h ++ [.inl (1, n.toNatClampNeg, .inr (.inl (fun _ => 0)))])) ∨ (at_ = .byte ∧ K (pc + 2) L (.ref h.length :: S') (h ++ [.inl (2, n.toNatClampNeg, .inl (fun _ => 0))])))
  | .anewarray k => ∃ n S' t e, S = .int n :: S' ∧ ¬ n < 0 ∧ n.toNatClampNeg ≤ 60000000 ∧ pm_et t ∧ pm_at pm_aT (pm_cl mi) k = some (t, e) ∧ K (pc + 3) L (.ref h.length :: S') (h ++ [.inl (t + 3, n.toNatClampNeg, .inr (.inr (.inr (.inr (fun _ => none)))))])
  | .new k => ∃ ci e, pm_at pm_nT (pm_cl mi) k = some (ci, e) ∧ K (pc + 3) L (.ref h.length :: S) (h ++ [.inr (ci, pm_new ci)])
  | .invokespecial k => (∃ a S' e, S = .ref a :: S' ∧ pm_at pm_oT (pm_cl mi) k = some e ∧ pm_cs S' ≤ 8 ∧ K (pc + 3) L S' h) ∨ (∃ kd m' e q as S' b h', pm_at pm_cT (pm_cl mi) k = some (kd, m', e) ∧ pm_MT[m']? = some q ∧ (kd = 2 ∨ kd = 3) ∧ as.length = q.2.2.2.2.2.1 ∧ S = as.reverse ++ .ref b :: S' ∧ pm_cs S' ≤ 8 ∧ C m' (.ref b :: as) h none h' ∧ K (pc + 3) L S' h')
  | .invokevirtual k => (∃ m' e q as S' b fs r h', pm_at pm_cT (pm_cl mi) k = some (0, m', e) ∧ pm_MT[m']? = some q ∧ as.length = q.2.2.2.2.2.1 ∧ S = as.reverse ++ .ref b :: S' ∧ pm_cs S' ≤ 8 ∧ h[b]? = some (.inr (q.2.2.2.2.1, fs)) ∧ C m' (.ref b :: as) h r h' ∧ K (pc + 3) L (r.toList ++ S') h') ∨ (∃ m' e q as S' j r h', pm_at pm_cT (pm_cl mi) k = some (5, m', e) ∧ pm_MT[m']? = some q ∧ as.length = q.2.2.2.2.2.1 ∧ S = as.reverse ++ .retAddr j :: S' ∧ pm_cs S' ≤ 8 ∧ j < 12 ∧ C m' (.retAddr j :: as) h r h' ∧ K (pc + 3) L (r.toList ++ S') h')
  | .invokestatic k => (∃ kd m' e q as S' r h', pm_at pm_cT (pm_cl mi) k = some (kd, m', e) ∧ pm_MT[m']? = some q ∧ (kd = 1 ∨ kd = 4) ∧ as.length = q.2.2.2.2.2.1 ∧ S = as.reverse ++ S' ∧ pm_cs S' ≤ 8 ∧ C m' as h r h' ∧ K (pc + 3) L (r.toList ++ S') h') ∨ (∃ x y S' e, S = .int y :: .int x :: S' ∧ pm_at pm_xT (pm_cl mi) k = some e ∧ pm_cs S' ≤ 8 ∧ K (pc + 3) L (.int (if y < x then y else x) :: S') h) ∨ (∃ sp dp n a b S' e n0 n1 f g, S = .int n :: .int dp :: .ref b :: .int sp :: .ref a :: S' ∧ pm_at pm_yT (pm_cl mi) k = some e ∧ pm_cs S' ≤ 8 ∧ h[a]? = some (.inl (0, n0, .inl f)) ∧ h[b]? = some (.inl (0, n1, .inl g)) ∧ ¬ sp < 0 ∧ ¬ dp < 0 ∧ ¬ n < 0 ∧ sp.toNatClampNeg + n.toNatClampNeg ≤ n0 ∧ dp.toNatClampNeg + n.toNatClampNeg ≤ n1 ∧ K (pc + 3) L S' (h.set b (.inl (0, n1, .inl (va_cpy f g sp.toNatClampNeg dp.toNatClampNeg n.toNatClampNeg)))))
  | .ireturn => ∃ x q ty, S = [.int x] ∧ pm_MT[mi]? = some q ∧ q.2.2.2.1 = some ty ∧ narrow ty (.int x) = .int x ∧ Z (some (.int x)) h
  | .lreturn => ∃ x q, S = [.long x] ∧ pm_MT[mi]? = some q ∧ q.2.2.2.1 = some .long ∧ Z (some (.long x)) h
  | .areturn => ∃ v q ty, S = [v] ∧ pm_isR v = true ∧ pm_MT[mi]? = some q ∧ q.2.2.2.1 = some ty ∧ ((∃ n, ty = .object n) ∨ ∃ t, ty = .array t) ∧ Z (some v) h
  | .return_ => ∃ q, S = [] ∧ pm_MT[mi]? = some q ∧ q.2.2.2.1 = none ∧ Z none h
  | _ => False
/-- the machine comes, from here, to an end with Z -/
def pm_run (C : pm_R) (mi : Nat) (pc : Nat) (L S : List Value) (h : pm_H) (Z : Option Value → pm_H → Prop) : Prop :=
  ∀ X : pm_K, (∀ (pc : Nat) (L S : List Value) (h : pm_H) (i : Instr) (n : Nat), pm_fetch mi pc = some (i, n) → pm_step C mi i pc L S h X Z → X pc L S h) → X pc L S h
/-- a call of method mi, at most d deep -/
def pm_ev : Nat → pm_R
  | 0 => fun _ _ _ _ _ => False
  | d + 1 => fun mi as h r h' => ∃ q, pm_MT[mi]? = some q ∧ (pm_ar as).length ≤ q.2.2.1 ∧ pm_run (pm_ev d) mi 0 (pm_in q.2.2.1 as) [] h (fun r1 h1 => r1 = r ∧ h1 = h')
theorem pm_mono {C : pm_R} {mi : Nat} {i : Instr} {pc : Nat} {L S : List Value} {h : pm_H} {K K' : pm_K} {Z : Option Value → pm_H → Prop} (hk : ∀ pc L S h, K pc L S h → K' pc L S h) (hs : pm_step C mi i pc L S h K Z) : pm_step C mi i pc L S h K' Z := by
  cases i with
  | ifCond c off =>
    obtain ⟨t, x, S', h1, h2, h3, h4⟩ := hs
    exact ⟨t, x, S', h1, h2, fun a => hk _ _ _ _ (h3 a), fun a => hk _ _ _ _ (h4 a)⟩
  | if_icmp c off =>
    obtain ⟨t, x, y, S', h1, h2, h3, h4⟩ := hs
    exact ⟨t, x, y, S', h1, h2, fun a => hk _ _ _ _ (h3 a), fun a => hk _ _ _ _ (h4 a)⟩
  | ifnull off =>
    obtain ⟨t, x, S', h1, h2, h2', h3, h4⟩ := hs
    exact ⟨t, x, S', h1, h2, h2', fun a => hk _ _ _ _ (h3 a), fun a => hk _ _ _ _ (h4 a)⟩
  | ifnonnull off =>
    obtain ⟨t, x, S', h1, h2, h2', h3, h4⟩ := hs
    exact ⟨t, x, S', h1, h2, h2', fun a => hk _ _ _ _ (h3 a), fun a => hk _ _ _ _ (h4 a)⟩
  | ldc k =>
    rcases hs with ⟨x, h1, h2⟩ | ⟨x1, x2, h1, h2⟩
    · exact .inl ⟨x, h1, hk _ _ _ _ h2⟩
    · exact .inr ⟨x1, x2, h1, hk _ _ _ _ h2⟩
  | getstatic k =>
    rcases hs with ⟨x, h1, h2⟩ | ⟨x, h1, h2⟩
    · exact .inl ⟨x, h1, hk _ _ _ _ h2⟩
    · exact .inr ⟨x, h1, hk _ _ _ _ h2⟩
  | getfield k =>
    rcases hs with ⟨x1, x2, x3, x4, x5, x6, x7, h1, h2, h3, h4, h5⟩ | ⟨x1, x2, x3, h1, h2, h3, h4⟩ | ⟨x1, x2, x3, h1, h2, h3, h4⟩
    · exact .inl ⟨x1, x2, x3, x4, x5, x6, x7, h1, h2, h3, h4, hk _ _ _ _ h5⟩
    · exact .inr (.inl ⟨x1, x2, x3, h1, h2, h3, hk _ _ _ _ h4⟩)
    · exact .inr (.inr ⟨x1, x2, x3, h1, h2, h3, hk _ _ _ _ h4⟩)
  | baload =>
    rcases hs with ⟨x1, x2, x3, x4, x5, h1, h2, h3, h4⟩ | ⟨x1, x2, x3, h1, h2, h3, h4⟩
    · exact .inl ⟨x1, x2, x3, x4, x5, h1, h2, h3, hk _ _ _ _ h4⟩
    · exact .inr ⟨x1, x2, x3, h1, h2, h3, hk _ _ _ _ h4⟩
  | arraylength =>
    rcases hs with ⟨x1, x2, x3, x4, h1, h2, h3, h4⟩ | ⟨x1, x2, h1, h2, h3⟩
    · exact .inl ⟨x1, x2, x3, x4, h1, h2, h3, hk _ _ _ _ h4⟩
    · exact .inr ⟨x1, x2, h1, h2, hk _ _ _ _ h3⟩
  | newarray at_ =>
    obtain ⟨n, S', h1, h2, h3, h4⟩ := hs
    rcases h4 with h4 | h4 | h4
    · exact ⟨n, S', h1, h2, h3, .inl ⟨h4.1, hk _ _ _ _ h4.2⟩⟩
    · exact ⟨n, S', h1, h2, h3, .inr (.inl ⟨h4.1, hk _ _ _ _ h4.2⟩)⟩
    · exact ⟨n, S', h1, h2, h3, .inr (.inr ⟨h4.1, hk _ _ _ _ h4.2⟩)⟩
  | invokespecial k =>
    rcases hs with ⟨a, S', e, h1, h2, h3, h4⟩ | ⟨x1, x2, x3, x4, x5, x6, x7, x8, h1, h2, h3, h4, h5, h6, h7, h8⟩
    · exact .inl ⟨a, S', e, h1, h2, h3, hk _ _ _ _ h4⟩
    · exact .inr ⟨x1, x2, x3, x4, x5, x6, x7, x8, h1, h2, h3, h4, h5, h6, h7, hk _ _ _ _ h8⟩
  | invokevirtual k =>
    rcases hs with ⟨x1, x2, x3, x4, x5, x6, x7, x8, x9, h1, h2, h3, h4, h5, h6, h7, h8⟩ | ⟨x1, x2, x3, x4, x5, x6, x7, x8, h1, h2, h3, h4, h5, h6, h7, h8⟩
    · exact .inl ⟨x1, x2, x3, x4, x5, x6, x7, x8, x9, h1, h2, h3, h4, h5, h6, h7, hk _ _ _ _ h8⟩
    · exact .inr ⟨x1, x2, x3, x4, x5, x6, x7, x8, h1, h2, h3, h4, h5, h6, h7, hk _ _ _ _ h8⟩
  | invokestatic k =>
    rcases hs with ⟨x1, x2, x3, x4, x5, x6, x7, x8, h1, h2, h3, h4, h5, h6, h7, h8⟩ | ⟨x, y, S', e, h1, h2, h3, h4⟩ | ⟨x1, x2, x3, x4, x5, x6, x7, x8, x9, x10, x11, h1, h2, h3, h4, h5, h6, h7, h8, h9, h10, h11⟩
    · exact .inl ⟨x1, x2, x3, x4, x5, x6, x7, x8, h1, h2, h3, h4, h5, h6, h7, hk _ _ _ _ h8⟩
    · exact .inr (.inl ⟨x, y, S', e, h1, h2, h3, hk _ _ _ _ h4⟩)
    · exact .inr (.inr ⟨x1, x2, x3, x4, x5, x6, x7, x8, x9, x10, x11, h1, h2, h3, h4, h5, h6, h7, h8, h9, h10, hk _ _ _ _ h11⟩)
  | aload_n z =>
    obtain ⟨x0, y0, y1, k1⟩ := hs
    exact ⟨x0, y0, y1, hk _ _ _ _ k1⟩
  | aload z =>
    obtain ⟨x0, y0, y1, k1⟩ := hs
    exact ⟨x0, y0, y1, hk _ _ _ _ k1⟩
  | iload_n z =>
    obtain ⟨x0, y0, k1⟩ := hs
    exact ⟨x0, y0, hk _ _ _ _ k1⟩
  | iload z =>
    obtain ⟨x0, y0, k1⟩ := hs
    exact ⟨x0, y0, hk _ _ _ _ k1⟩
  | lload_n z =>
    obtain ⟨x0, y0, k1⟩ := hs
    exact ⟨x0, y0, hk _ _ _ _ k1⟩
  | lload z =>
    obtain ⟨x0, y0, k1⟩ := hs
    exact ⟨x0, y0, hk _ _ _ _ k1⟩
  | istore_n z =>
    obtain ⟨x0, x1, y0, y1, k1⟩ := hs
    exact ⟨x0, x1, y0, y1, hk _ _ _ _ k1⟩
  | istore z =>
    obtain ⟨x0, x1, y0, y1, k1⟩ := hs
    exact ⟨x0, x1, y0, y1, hk _ _ _ _ k1⟩
  | lstore_n z =>
    obtain ⟨x0, x1, y0, y1, k1⟩ := hs
    exact ⟨x0, x1, y0, y1, hk _ _ _ _ k1⟩
  | lstore z =>
    obtain ⟨x0, x1, y0, y1, k1⟩ := hs
    exact ⟨x0, x1, y0, y1, hk _ _ _ _ k1⟩
  | astore_n z =>
    obtain ⟨x0, x1, y0, y1, y2, k1⟩ := hs
    exact ⟨x0, x1, y0, y1, y2, hk _ _ _ _ k1⟩
  | astore z =>
    obtain ⟨x0, x1, y0, y1, y2, k1⟩ := hs
    exact ⟨x0, x1, y0, y1, y2, hk _ _ _ _ k1⟩
  | ldc_w z =>
    obtain ⟨x0, y0, k1⟩ := hs
    exact ⟨x0, y0, hk _ _ _ _ k1⟩
  | ldc2_w z =>
    obtain ⟨x0, y0, k1⟩ := hs
    exact ⟨x0, y0, hk _ _ _ _ k1⟩
  | dup =>
    obtain ⟨x0, x1, y0, y1, k1⟩ := hs
    exact ⟨x0, x1, y0, y1, hk _ _ _ _ k1⟩
  | dup2 =>
    obtain ⟨x0, x1, x2, y0, y1, y2, k1⟩ := hs
    exact ⟨x0, x1, x2, y0, y1, y2, hk _ _ _ _ k1⟩
  | pop =>
    obtain ⟨x0, x1, y0, y1, k1⟩ := hs
    exact ⟨x0, x1, y0, y1, hk _ _ _ _ k1⟩
  | goto z =>
    obtain ⟨x0, y0, k1⟩ := hs
    exact ⟨x0, y0, hk _ _ _ _ k1⟩
  | tableswitch z1 z2 z3 z4 =>
    obtain ⟨x0, x1, x2, x3, y0, y1, y2, k1⟩ := hs
    exact ⟨x0, x1, x2, x3, y0, y1, y2, hk _ _ _ _ k1⟩
  | lookupswitch z1 z2 =>
    obtain ⟨x0, x1, x2, x3, y0, y1, y2, y3, k1⟩ := hs
    exact ⟨x0, x1, x2, x3, y0, y1, y2, y3, hk _ _ _ _ k1⟩
  | putfield z =>
    obtain ⟨x0, x1, x2, x3, x4, x5, x6, x7, y0, y1, y2, y3, y4, y5, y6, y7, k1⟩ := hs
    exact ⟨x0, x1, x2, x3, x4, x5, x6, x7, y0, y1, y2, y3, y4, y5, y6, y7, hk _ _ _ _ k1⟩
  | iaload =>
    obtain ⟨x0, x1, x2, x3, x4, y0, y1, y2, k1⟩ := hs
    exact ⟨x0, x1, x2, x3, x4, y0, y1, y2, hk _ _ _ _ k1⟩
  | laload =>
    obtain ⟨x0, x1, x2, x3, x4, y0, y1, y2, k1⟩ := hs
    exact ⟨x0, x1, x2, x3, x4, y0, y1, y2, hk _ _ _ _ k1⟩
  | aaload =>
    obtain ⟨x0, x1, x2, x3, x4, x5, y0, y1, y2, y3, k1⟩ := hs
    exact ⟨x0, x1, x2, x3, x4, x5, y0, y1, y2, y3, hk _ _ _ _ k1⟩
  | iastore =>
    obtain ⟨x0, x1, x2, x3, x4, x5, y0, y1, y2, k1⟩ := hs
    exact ⟨x0, x1, x2, x3, x4, x5, y0, y1, y2, hk _ _ _ _ k1⟩
  | bastore =>
    obtain ⟨x0, x1, x2, x3, x4, x5, y0, y1, y2, k1⟩ := hs
    exact ⟨x0, x1, x2, x3, x4, x5, y0, y1, y2, hk _ _ _ _ k1⟩
  | lastore =>
    obtain ⟨x0, x1, x2, x3, x4, x5, y0, y1, y2, k1⟩ := hs
    exact ⟨x0, x1, x2, x3, x4, x5, y0, y1, y2, hk _ _ _ _ k1⟩
  | aastore =>
    obtain ⟨x0, x1, x2, x3, x4, x5, x6, x7, y0, y1, y2, y3, y4, k1⟩ := hs
    exact ⟨x0, x1, x2, x3, x4, x5, x6, x7, y0, y1, y2, y3, y4, hk _ _ _ _ k1⟩
  | anewarray z =>
    obtain ⟨x0, x1, x2, x3, y0, y1, y2, y3, y4, k1⟩ := hs
    exact ⟨x0, x1, x2, x3, y0, y1, y2, y3, y4, hk _ _ _ _ k1⟩
  | new z =>
    obtain ⟨x0, x1, y0, k1⟩ := hs
    exact ⟨x0, x1, y0, hk _ _ _ _ k1⟩
  | iadd =>
    obtain ⟨x0, x1, x2, y0, k1⟩ := hs
    exact ⟨x0, x1, x2, y0, hk _ _ _ _ k1⟩
  | isub =>
    obtain ⟨x0, x1, x2, y0, k1⟩ := hs
    exact ⟨x0, x1, x2, y0, hk _ _ _ _ k1⟩
  | imul =>
    obtain ⟨x0, x1, x2, y0, k1⟩ := hs
    exact ⟨x0, x1, x2, y0, hk _ _ _ _ k1⟩
  | iand =>
    obtain ⟨x0, x1, x2, y0, k1⟩ := hs
    exact ⟨x0, x1, x2, y0, hk _ _ _ _ k1⟩
  | ior =>
    obtain ⟨x0, x1, x2, y0, k1⟩ := hs
    exact ⟨x0, x1, x2, y0, hk _ _ _ _ k1⟩
  | ixor =>
    obtain ⟨x0, x1, x2, y0, k1⟩ := hs
    exact ⟨x0, x1, x2, y0, hk _ _ _ _ k1⟩
  | ishl =>
    obtain ⟨x0, x1, x2, y0, k1⟩ := hs
    exact ⟨x0, x1, x2, y0, hk _ _ _ _ k1⟩
  | ishr =>
    obtain ⟨x0, x1, x2, y0, k1⟩ := hs
    exact ⟨x0, x1, x2, y0, hk _ _ _ _ k1⟩
  | iushr =>
    obtain ⟨x0, x1, x2, y0, k1⟩ := hs
    exact ⟨x0, x1, x2, y0, hk _ _ _ _ k1⟩
  | ladd =>
    obtain ⟨x0, x1, x2, y0, k1⟩ := hs
    exact ⟨x0, x1, x2, y0, hk _ _ _ _ k1⟩
  | lsub =>
    obtain ⟨x0, x1, x2, y0, k1⟩ := hs
    exact ⟨x0, x1, x2, y0, hk _ _ _ _ k1⟩
  | lmul =>
    obtain ⟨x0, x1, x2, y0, k1⟩ := hs
    exact ⟨x0, x1, x2, y0, hk _ _ _ _ k1⟩
  | land =>
    obtain ⟨x0, x1, x2, y0, k1⟩ := hs
    exact ⟨x0, x1, x2, y0, hk _ _ _ _ k1⟩
  | lor =>
    obtain ⟨x0, x1, x2, y0, k1⟩ := hs
    exact ⟨x0, x1, x2, y0, hk _ _ _ _ k1⟩
  | lxor =>
    obtain ⟨x0, x1, x2, y0, k1⟩ := hs
    exact ⟨x0, x1, x2, y0, hk _ _ _ _ k1⟩
  | lshl =>
    obtain ⟨x0, x1, x2, y0, k1⟩ := hs
    exact ⟨x0, x1, x2, y0, hk _ _ _ _ k1⟩
  | lshr =>
    obtain ⟨x0, x1, x2, y0, k1⟩ := hs
    exact ⟨x0, x1, x2, y0, hk _ _ _ _ k1⟩
  | lushr =>
    obtain ⟨x0, x1, x2, y0, k1⟩ := hs
    exact ⟨x0, x1, x2, y0, hk _ _ _ _ k1⟩
  | lcmp =>
    obtain ⟨x0, x1, x2, y0, k1⟩ := hs
    exact ⟨x0, x1, x2, y0, hk _ _ _ _ k1⟩
  | idiv =>
    obtain ⟨x0, x1, x2, y0, y1, k1⟩ := hs
    exact ⟨x0, x1, x2, y0, y1, hk _ _ _ _ k1⟩
  | irem =>
    obtain ⟨x0, x1, x2, y0, y1, k1⟩ := hs
    exact ⟨x0, x1, x2, y0, y1, hk _ _ _ _ k1⟩
  | ldiv =>
    obtain ⟨x0, x1, x2, y0, y1, k1⟩ := hs
    exact ⟨x0, x1, x2, y0, y1, hk _ _ _ _ k1⟩
  | lrem =>
    obtain ⟨x0, x1, x2, y0, y1, k1⟩ := hs
    exact ⟨x0, x1, x2, y0, y1, hk _ _ _ _ k1⟩
  | ineg =>
    obtain ⟨x0, x1, y0, k1⟩ := hs
    exact ⟨x0, x1, y0, hk _ _ _ _ k1⟩
  | i2l =>
    obtain ⟨x0, x1, y0, k1⟩ := hs
    exact ⟨x0, x1, y0, hk _ _ _ _ k1⟩
  | i2b =>
    obtain ⟨x0, x1, y0, k1⟩ := hs
    exact ⟨x0, x1, y0, hk _ _ _ _ k1⟩
  | i2s =>
    obtain ⟨x0, x1, y0, k1⟩ := hs
    exact ⟨x0, x1, y0, hk _ _ _ _ k1⟩
  | i2c =>
    obtain ⟨x0, x1, y0, k1⟩ := hs
    exact ⟨x0, x1, y0, hk _ _ _ _ k1⟩
  | l2i =>
    obtain ⟨x0, x1, y0, k1⟩ := hs
    exact ⟨x0, x1, y0, hk _ _ _ _ k1⟩
  | iinc z1 z2 =>
    obtain ⟨x0, y0, k1⟩ := hs
    exact ⟨x0, y0, hk _ _ _ _ k1⟩
  | iconst z =>
    exact hk _ _ _ _ hs
  | bipush z =>
    exact hk _ _ _ _ hs
  | sipush z =>
    exact hk _ _ _ _ hs
  | lconst z =>
    exact hk _ _ _ _ hs
  | aconst_null =>
    exact hk _ _ _ _ hs
  | ireturn => exact hs
  | lreturn => exact hs
  | areturn => exact hs
  | return_ => exact hs
  | _ => exact False.elim hs
theorem pm_go {C : pm_R} {mi pc : Nat} {L S : List Value} {h : pm_H} {Z : Option Value → pm_H → Prop} {i : Instr} {n : Nat} (hf : pm_fetch mi pc = some (i, n)) (hs : pm_step C mi i pc L S h (fun pc L S h => pm_run C mi pc L S h Z) Z) : pm_run C mi pc L S h Z := by
  intro X hX
  exact hX pc L S h i n hf (pm_mono (fun _ _ _ _ r => r X hX) hs)
