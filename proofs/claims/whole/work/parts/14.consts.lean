/-! small things that the methods' proofs use -/
theorem bool_n {x : Int32} (h : x = 0 ∨ x = 1) : narrow .boolean (.int x) = .int x := by rcases h with rfl | rfl <;> decide
theorem bool_f {x : Int32} (h : x = 0 ∨ x = 1) : fits .boolean (.int x) = true := by rcases h with rfl | rfl <;> decide
theorem rf_na (t : FieldType) (r : Option Nat) : narrow (.array t) (va_rf r) = va_rf r := by cases r <;> rfl
theorem rf_no (t : String) (r : Option Nat) : narrow (.object t) (va_rf r) = va_rf r := by cases r <;> rfl
theorem rf_fa (t : FieldType) (r : Option Nat) : fits (.array t) (va_rf r) = true := by cases r <;> rfl
theorem rf_fo (t : String) (r : Option Nat) : fits (.object t) (va_rf r) = true := by cases r <;> rfl
theorem no_fin {P : Prop} {ci f : Nat} (h : pm_fin ci f = false) : pm_fin ci f = true → P := fun q => by rw [h] at q; cases q
theorem zI {h h' : pm_H} {x r : Int32} (hB : some (h, x) = some (h', r)) : some (Value.int x) = some (Value.int r) ∧ h = h' := by cases hB; exact ⟨rfl, rfl⟩
theorem zJ {h h' : pm_H} {x r : Int64} (hB : some (h, x) = some (h', r)) : some (Value.long x) = some (Value.long r) ∧ h = h' := by cases hB; exact ⟨rfl, rfl⟩
theorem zA {h h' : pm_H} {x r : Option Nat} (hB : some (h, x) = some (h', r)) : some (va_rf x) = some (va_rf r) ∧ h = h' := by cases hB; exact ⟨rfl, rfl⟩
theorem zV {h h' : pm_H} {x r : Unit} (hB : some (h, x) = some (h', r)) : (none : Option Value) = none ∧ h = h' := by cases hB; exact ⟨rfl, rfl⟩
theorem st1_A {L L' : List Value} {i : Nat} {v : Value} (j : Nat) {r : Option Nat} (hj : i = j + 1) (h : L[j]? = some (va_rf r)) (hL : L.set i v = L') : pm_st1 L i v = L' := by
  subst hj
  unfold pm_st1
  rw [rf_cut h]
  exact hL
theorem st2_A {L L' : List Value} {i : Nat} {v : Value} (j : Nat) {r : Option Nat} (hj : i = j + 1) (h : L[j]? = some (va_rf r)) (hL : (L.set i v).set (i + 1) pm_J = L') : pm_st2 L i v = L' := by
  subst hj
  unfold pm_st2
  rw [rf_cut h]
  exact hL
section ROWS2
variable {C : pm_R} {mi pc : Nat} {L S : List Value} {h : pm_H} {Z : Option Value → pm_H → Prop}
theorem r_virtV {z m' b : Nat} {e : Nat × Nat × Nat × String} {q : pm_M} {S0 as : List Value} {v : Value} {h' : pm_H} (hf : pm_fetch mi pc = some (.invokevirtual z, 3)) (hp : pm_at pm_cT (pm_cl mi) z = some (0, m', e)) (hq : pm_MT[m']? = some q) (hl : as.length = q.2.2.2.2.2.1) (hS : S0 = as.reverse ++ .ref b :: S) (hs : pm_cs S ≤ 8) (hi : op_is h b q.2.2.2.2.1 = true) (he : C m' (.ref b :: as) h (some v) h') (k : pm_run C mi (pc + 3) L (v :: S) h' Z) : pm_run C mi pc L S0 h Z := r_virt hf hp hq hl hS hs hi he k
theorem r_virtN {z m' b : Nat} {e : Nat × Nat × Nat × String} {q : pm_M} {S0 as : List Value} {h' : pm_H} (hf : pm_fetch mi pc = some (.invokevirtual z, 3)) (hp : pm_at pm_cT (pm_cl mi) z = some (0, m', e)) (hq : pm_MT[m']? = some q) (hl : as.length = q.2.2.2.2.2.1) (hS : S0 = as.reverse ++ .ref b :: S) (hs : pm_cs S ≤ 8) (hi : op_is h b q.2.2.2.2.1 = true) (he : C m' (.ref b :: as) h none h') (k : pm_run C mi (pc + 3) L S h' Z) : pm_run C mi pc L S0 h Z := r_virt hf hp hq hl hS hs hi he k
theorem r_virSV {z m' j : Nat} {e : Nat × Nat × Nat × String} {q : pm_M} {S0 as : List Value} {v : Value} {h' : pm_H} (hf : pm_fetch mi pc = some (.invokevirtual z, 3)) (hp : pm_at pm_cT (pm_cl mi) z = some (5, m', e)) (hq : pm_MT[m']? = some q) (hl : as.length = q.2.2.2.2.2.1) (hS : S0 = as.reverse ++ .retAddr j :: S) (hs : pm_cs S ≤ 8) (hj : j < 12) (he : C m' (.retAddr j :: as) h (some v) h') (k : pm_run C mi (pc + 3) L (v :: S) h' Z) : pm_run C mi pc L S0 h Z := r_virS hf hp hq hl hS hs hj he k
theorem r_statV {z kd m' : Nat} {e : Nat × Nat × Nat × String} {q : pm_M} {S0 as : List Value} {v : Value} {h' : pm_H} (hf : pm_fetch mi pc = some (.invokestatic z, 3)) (hp : pm_at pm_cT (pm_cl mi) z = some (kd, m', e)) (hq : pm_MT[m']? = some q) (hk : kd = 1 ∨ kd = 4) (hl : as.length = q.2.2.2.2.2.1) (hS : S0 = as.reverse ++ S) (hs : pm_cs S ≤ 8) (he : C m' as h (some v) h') (k : pm_run C mi (pc + 3) L (v :: S) h' Z) : pm_run C mi pc L S0 h Z := r_stat hf hp hq hk hl hS hs he k
theorem r_statN {z kd m' : Nat} {e : Nat × Nat × Nat × String} {q : pm_M} {S0 as : List Value} {h' : pm_H} (hf : pm_fetch mi pc = some (.invokestatic z, 3)) (hp : pm_at pm_cT (pm_cl mi) z = some (kd, m', e)) (hq : pm_MT[m']? = some q) (hk : kd = 1 ∨ kd = 4) (hl : as.length = q.2.2.2.2.2.1) (hS : S0 = as.reverse ++ S) (hs : pm_cs S ≤ 8) (he : C m' as h none h') (k : pm_run C mi (pc + 3) L S h' Z) : pm_run C mi pc L S0 h Z := r_stat hf hp hq hk hl hS hs he k
end ROWS2
theorem ci_1 : Int32.ofInt 1 = 1 := by decide
theorem ci_2 : Int32.ofInt 2 = 2 := by decide
theorem ci_4 : Int32.ofInt 4 = 4 := by decide
theorem cb_8 : (Int8.ofInt 8).toInt32 = 8 := by decide
theorem cb_16 : (Int8.ofInt 16).toInt32 = 16 := by decide
theorem cb_63 : (Int8.ofInt 63).toInt32 = 63 := by decide
theorem cb_32 : (Int8.ofInt 32).toInt32 = 32 := by decide
theorem cb_127 : (Int8.ofInt 127).toInt32 = 127 := by decide
theorem ci_0 : Int32.ofInt 0 = 0 := by decide
theorem ca_11_343 : pm_at pm_cT 11 343 = some (1, 187, 464, 465, 0, "") := by decide +kernel
theorem ca_11_351 : pm_at pm_cT 11 351 = some (1, 189, 461, 462, 0, "") := by decide +kernel
theorem ca_12_335 : pm_at pm_cT 12 335 = some (5, 192, 359, 360, 361, "") := by decide +kernel
theorem ca_12_1059 : pm_at pm_cT 12 1059 = some (1, 196, 381, 382, 0, "") := by decide +kernel
theorem ca_13_9 : pm_at pm_cT 13 9 = some (1, 194, 376, 377, 0, "") := by decide +kernel
theorem cs_255 : (Int16.ofInt 255).toInt32 = 255 := by decide
theorem ca_12_492 : pm_at pm_cT 12 492 = some (5, 193, 369, 370, 371, "") := by decide +kernel
theorem ca_12_495 : pm_at pm_cT 12 495 = some (1, 195, 373, 374, 0, "") := by decide +kernel
theorem ci_m1 : Int32.ofInt (-1) = (-1) := by decide
theorem fa_4_19 : pm_at pm_fT 4 19 = some (4, 1, 93) := by decide +kernel
theorem fa_4_9 : pm_at pm_fT 4 9 = some (4, 0, 92) := by decide +kernel
theorem cb_10 : (Int8.ofInt 10).toInt32 = 10 := by decide
theorem cb_48 : (Int8.ofInt 48).toInt32 = 48 := by decide
theorem cb_57 : (Int8.ofInt 57).toInt32 = 57 := by decide
theorem cb_97 : (Int8.ofInt 97).toInt32 = 97 := by decide
theorem cb_122 : (Int8.ofInt 122).toInt32 = 122 := by decide
theorem ty_4_4 : pm_ty 4 4 = some .int := by decide +kernel
theorem nf_4_4 : pm_fin 4 4 = false := rfl
theorem fa_4_59 : pm_at pm_fT 4 59 = some (4, 4, 97) := by decide +kernel
theorem fa_4_29 : pm_at pm_fT 4 29 = some (4, 3, 96) := by decide +kernel
theorem fa_4_80 : pm_at pm_fT 4 80 = some (4, 2, 95) := by decide +kernel
theorem cs_10022 : (Int16.ofInt 10022).toInt32 = 10022 := by decide
theorem ca_4_83 : pm_at pm_cT 4 83 = some (0, 51, 329, 331, 1, "") := by decide +kernel
theorem ca_4_91 : pm_at pm_cT 4 91 = some (1, 53, 336, 337, 0, "") := by decide +kernel
theorem ty_4_3 : pm_ty 4 3 = some .int := by decide +kernel
theorem nf_4_3 : pm_fin 4 3 = false := rfl
theorem cs_10018 : (Int16.ofInt 10018).toInt32 = 10018 := by decide
theorem cs_10019 : (Int16.ofInt 10019).toInt32 = 10019 := by decide
theorem cs_10012 : (Int16.ofInt 10012).toInt32 = 10012 := by decide
theorem cs_10010 : (Int16.ofInt 10010).toInt32 = 10010 := by decide
theorem cs_10011 : (Int16.ofInt 10011).toInt32 = 10011 := by decide
theorem cs_10020 : (Int16.ofInt 10020).toInt32 = 10020 := by decide
theorem cs_10008 : (Int16.ofInt 10008).toInt32 = 10008 := by decide
theorem cs_10009 : (Int16.ofInt 10009).toInt32 = 10009 := by decide
theorem ca_4_134 : pm_at pm_cT 4 134 = some (5, 190, 355, 356, 357, "") := by decide +kernel
theorem ca_4_140 : pm_at pm_cT 4 140 = some (5, 191, 365, 366, 367, "") := by decide +kernel
theorem ca_4_108 : pm_at pm_cT 4 108 = some (0, 49, 351, 353, 4, "") := by decide +kernel
theorem cs_10005 : (Int16.ofInt 10005).toInt32 = 10005 := by decide
theorem cs_10004 : (Int16.ofInt 10004).toInt32 = 10004 := by decide
theorem cs_10003 : (Int16.ofInt 10003).toInt32 = 10003 := by decide
theorem cs_10002 : (Int16.ofInt 10002).toInt32 = 10002 := by decide
theorem cs_10001 : (Int16.ofInt 10001).toInt32 = 10001 := by decide
theorem cs_10000 : (Int16.ofInt 10000).toInt32 = 10000 := by decide
theorem cs_10013 : (Int16.ofInt 10013).toInt32 = 10013 := by decide
theorem cs_10007 : (Int16.ofInt 10007).toInt32 = 10007 := by decide
theorem cs_10006 : (Int16.ofInt 10006).toInt32 = 10006 := by decide
theorem cs_10017 : (Int16.ofInt 10017).toInt32 = 10017 := by decide
theorem cs_10016 : (Int16.ofInt 10016).toInt32 = 10016 := by decide
theorem cs_10015 : (Int16.ofInt 10015).toInt32 = 10015 := by decide
theorem ca_4_97 : pm_at pm_cT 4 97 = some (1, 54, 343, 344, 0, "") := by decide +kernel
theorem ty_4_2 : pm_ty 4 2 = some .int := by decide +kernel
theorem nf_4_2 : pm_fin 4 2 = false := rfl
theorem ca_4_103 : pm_at pm_cT 4 103 = some (1, 50, 414, 415, 0, "") := by decide +kernel
theorem cs_10021 : (Int16.ofInt 10021).toInt32 = 10021 := by decide
theorem ca_4_100 : pm_at pm_cT 4 100 = some (0, 48, 346, 348, 3, "") := by decide +kernel
theorem ca_4_94 : pm_at pm_cT 4 94 = some (0, 47, 339, 341, 2, "") := by decide +kernel
theorem ca_4_87 : pm_at pm_cT 4 87 = some (1, 52, 333, 334, 0, "") := by decide +kernel
theorem ty_4_5 : pm_ty 4 5 = some .int := by decide +kernel
theorem nf_4_5 : pm_fin 4 5 = false := rfl
theorem fa_4_23 : pm_at pm_fT 4 23 = some (4, 5, 98) := by decide +kernel
theorem fa_4_26 : pm_at pm_fT 4 26 = some (4, 7, 101) := by decide +kernel
theorem fa_4_15 : pm_at pm_fT 4 15 = some (4, 6, 100) := by decide +kernel
theorem ty_4_7 : pm_ty 4 7 = some .int := by decide +kernel
theorem nf_4_7 : pm_fin 4 7 = false := rfl
theorem ca_4_68 : pm_at pm_cT 4 68 = some (0, 44, 425, 427, 7, "") := by decide +kernel
theorem ca_4_32 : pm_at pm_cT 4 32 = some (0, 46, 325, 327, 0, "") := by decide +kernel
theorem ty_4_1 : pm_ty 4 1 = some .int := by decide +kernel
theorem nf_4_1 : pm_fin 4 1 = false := rfl
theorem cs_160 : (Int16.ofInt 160).toInt32 = 160 := by decide
theorem ty_4_0 : pm_ty 4 0 = some (.array .byte) := by decide +kernel
theorem in_33 : pm_ini 33 = true := by decide +kernel
theorem ty_4_6 : pm_ty 4 6 = some (.array .int) := by decide +kernel
theorem ci_5 : Int32.ofInt 5 = 5 := by decide
theorem ca_4_53 : pm_at pm_cT 4 53 = some (0, 37, 429, 431, 8, "") := by decide +kernel
theorem ca_4_39 : pm_at pm_cT 4 39 = some (0, 43, 421, 423, 6, "") := by decide +kernel
theorem ca_4_77 : pm_at pm_cT 4 77 = some (0, 42, 453, 455, 14, "") := by decide +kernel
theorem cs_10014 : (Int16.ofInt 10014).toInt32 = 10014 := by decide
theorem ca_4_62 : pm_at pm_cT 4 62 = some (0, 45, 441, 443, 11, "") := by decide +kernel
theorem ca_4_74 : pm_at pm_cT 4 74 = some (0, 41, 449, 451, 13, "") := by decide +kernel
theorem ca_4_71 : pm_at pm_cT 4 71 = some (0, 40, 445, 447, 12, "") := by decide +kernel
theorem ca_4_65 : pm_at pm_cT 4 65 = some (0, 39, 437, 439, 10, "") := by decide +kernel
theorem ca_4_56 : pm_at pm_cT 4 56 = some (0, 38, 433, 435, 9, "") := by decide +kernel
theorem ty_0_0 : pm_ty 0 0 = some .int := by decide +kernel
theorem in_0 : pm_ini 0 = true := by decide +kernel
theorem fa_0_9 : pm_at pm_fT 0 9 = some (0, 0, 176) := by decide +kernel
theorem ty_0_4 : pm_ty 0 4 = some .int := by decide +kernel
theorem nf_0_4 : pm_fin 0 4 = false := rfl
theorem fa_0_15 : pm_at pm_fT 0 15 = some (0, 4, 188) := by decide +kernel
theorem ty_0_6 : pm_ty 0 6 = some .boolean := by decide +kernel
theorem nf_0_6 : pm_fin 0 6 = false := rfl
theorem fa_0_18 : pm_at pm_fT 0 18 = some (0, 6, 194) := by decide +kernel
theorem fa_0_22 : pm_at pm_fT 0 22 = some (0, 1, 179) := by decide +kernel
theorem ty_0_1 : pm_ty 0 1 = some .int := by decide +kernel
theorem nf_0_1 : pm_fin 0 1 = false := rfl
theorem fa_0_25 : pm_at pm_fT 0 25 = some (0, 2, 182) := by decide +kernel
theorem ty_0_2 : pm_ty 0 2 = some .int := by decide +kernel
theorem nf_0_2 : pm_fin 0 2 = false := rfl
theorem fa_0_28 : pm_at pm_fT 0 28 = some (0, 3, 185) := by decide +kernel
theorem ty_0_3 : pm_ty 0 3 = some .int := by decide +kernel
theorem nf_0_3 : pm_fin 0 3 = false := rfl
theorem fa_0_31 : pm_at pm_fT 0 31 = some (0, 5, 191) := by decide +kernel
theorem ty_0_5 : pm_ty 0 5 = some .int := by decide +kernel
theorem nf_0_5 : pm_fin 0 5 = false := rfl
theorem cl_1 : Int64.ofNat ((1 : Fin 2) : Nat) = 1 := rfl
theorem ci_3 : Int32.ofInt 3 = 3 := by decide
theorem cb_39 : (Int8.ofInt 39).toInt32 = 39 := by decide
theorem ca_0_34 : pm_at pm_cT 0 34 = some (4, 93, 582, 517, 0, "DunesWalked") := by decide +kernel
theorem cb_99 : (Int8.ofInt 99).toInt32 = 99 := by decide
theorem fa_1_11 : pm_at pm_fT 1 11 = some (1, 0, 212) := by decide +kernel
theorem ca_1_25 : pm_at pm_cT 1 25 = some (2, 0, 172, 173, 0, "") := by decide +kernel
theorem et_0 : pm_et 0 := by unfold pm_et; decide
theorem cb_6 : (Int8.ofInt 6).toInt32 = 6 := by decide
theorem ty_1_0 : pm_ty 1 0 = some (.array (.object "DunesWalked$Dune")) := by decide +kernel
theorem in_9 : pm_ini 9 = true := by decide +kernel
theorem ty_1_6 : pm_ty 1 6 = some (.array .int) := by decide +kernel
theorem fa_1_17 : pm_at pm_fT 1 17 = some (1, 6, 224) := by decide +kernel
theorem ty_1_5 : pm_ty 1 5 = some (.object "DunesWalked$Law") := by decide +kernel
theorem nf_1_5 : pm_fin 1 5 = false := rfl
theorem fa_1_21 : pm_at pm_fT 1 21 = some (1, 5, 222) := by decide +kernel
theorem fa_1_32 : pm_at pm_fT 1 32 = some (1, 1, 214) := by decide +kernel
theorem ty_1_1 : pm_ty 1 1 = some .int := by decide +kernel
theorem nf_1_1 : pm_fin 1 1 = false := rfl
theorem fa_1_36 : pm_at pm_fT 1 36 = some (1, 2, 216) := by decide +kernel
theorem ty_1_2 : pm_ty 1 2 = some .long := by decide +kernel
theorem nf_1_2 : pm_fin 1 2 = false := rfl
theorem fa_1_40 : pm_at pm_fT 1 40 = some (1, 3, 218) := by decide +kernel
theorem ty_1_3 : pm_ty 1 3 = some .long := by decide +kernel
theorem nf_1_3 : pm_fin 1 3 = false := rfl
theorem fa_1_43 : pm_at pm_fT 1 43 = some (1, 4, 220) := by decide +kernel
theorem ty_1_4 : pm_ty 1 4 = some .int := by decide +kernel
theorem nf_1_4 : pm_fin 1 4 = false := rfl
theorem ca_1_28 : pm_at pm_cT 1 28 = some (0, 1, 601, 602, 603, "") := by decide +kernel
theorem fa_1_46 : pm_at pm_fT 1 46 = some (0, 6, 195) := by decide +kernel
theorem fa_1_50 : pm_at pm_fT 1 50 = some (0, 0, 177) := by decide +kernel
theorem ca_1_53 : pm_at pm_cT 1 53 = some (0, 2, 301, 302, 303, "") := by decide +kernel
theorem cl_0 : Int64.ofNat ((0 : Fin 2) : Nat) = 0 := rfl
theorem ca_1_57 : pm_at pm_cT 1 57 = some (0, 13, 613, 298, 299, "") := by decide +kernel
theorem ca_1_60 : pm_at pm_cT 1 60 = some (1, 185, 614, 280, 0, "") := by decide +kernel
theorem fa_1_82 : pm_at pm_fT 1 82 = some (0, 5, 193) := by decide +kernel
theorem nz_i_2 : ¬ (2 : Int32) = 0 := by decide
theorem ca_1_79 : pm_at pm_cT 1 79 = some (0, 8, 587, 588, 589, "") := by decide +kernel
theorem cb_50 : (Int8.ofInt 50).toInt32 = 50 := by decide
theorem fa_1_138 : pm_at pm_fT 1 138 = some (0, 3, 187) := by decide +kernel
theorem fa_1_141 : pm_at pm_fT 1 141 = some (0, 4, 190) := by decide +kernel
theorem fa_1_95 : pm_at pm_fT 1 95 = some (0, 2, 184) := by decide +kernel
theorem ca_1_135 : pm_at pm_cT 1 135 = some (1, 27, 513, 514, 0, "") := by decide +kernel
theorem ca_1_131 : pm_at pm_cT 1 131 = some (0, 26, 509, 511, 17, "") := by decide +kernel
theorem fa_1_112 : pm_at pm_fT 1 112 = some (2, 1, 149) := by decide +kernel
theorem ca_1_117 : pm_at pm_cT 1 117 = some (0, 25, 505, 507, 16, "") := by decide +kernel
theorem cb_9 : (Int8.ofInt 9).toInt32 = 9 := by decide
theorem ca_1_121 : pm_at pm_cT 1 121 = some (4, 93, 516, 517, 0, "DunesWalked") := by decide +kernel
theorem fa_1_125 : pm_at pm_fT 1 125 = some (2, 2, 151) := by decide +kernel
theorem cb_m99 : (Int8.ofInt (-99)).toInt32 = (-99) := by decide
theorem fa_1_128 : pm_at pm_fT 1 128 = some (2, 3, 153) := by decide +kernel
theorem ca_1_108 : pm_at pm_cT 1 108 = some (0, 16, 501, 502, 503, "") := by decide +kernel
theorem ca_1_88 : pm_at pm_cT 1 88 = some (0, 24, 551, 498, 499, "") := by decide +kernel
theorem fa_1_92 : pm_at pm_fT 1 92 = some (0, 1, 181) := by decide +kernel
theorem ca_1_104 : pm_at pm_cT 1 104 = some (1, 21, 553, 554, 0, "") := by decide +kernel
theorem ca_1_66 : pm_at pm_cT 1 66 = some (0, 20, 577, 548, 549, "") := by decide +kernel
theorem ca_1_70 : pm_at pm_cT 1 70 = some (0, 7, 578, 579, 580, "") := by decide +kernel
theorem ca_1_73 : pm_at pm_cT 1 73 = some (0, 19, 583, 585, 18, "") := by decide +kernel
theorem ca_1_76 : pm_at pm_cT 1 76 = some (0, 22, 591, 566, 567, "") := by decide +kernel
theorem ca_1_85 : pm_at pm_cT 1 85 = some (0, 23, 592, 557, 558, "") := by decide +kernel
theorem ty_2_0 : pm_ty 2 0 = some .int := by decide +kernel
theorem in_28 : pm_ini 28 = true := by decide +kernel
theorem fa_2_7 : pm_at pm_fT 2 7 = some (2, 0, 146) := by decide +kernel
theorem ty_2_1 : pm_ty 2 1 = some (.array .int) := by decide +kernel
theorem fa_2_13 : pm_at pm_fT 2 13 = some (2, 1, 148) := by decide +kernel
theorem ty_2_2 : pm_ty 2 2 = some (.array .int) := by decide +kernel
theorem fa_2_17 : pm_at pm_fT 2 17 = some (2, 2, 150) := by decide +kernel
theorem ty_2_3 : pm_ty 2 3 = some (.array .int) := by decide +kernel
theorem fa_2_20 : pm_at pm_fT 2 20 = some (2, 3, 152) := by decide +kernel
theorem ty_3_0 : pm_ty 3 0 = some .int := by decide +kernel
theorem nf_3_0 : pm_fin 3 0 = false := rfl
theorem fa_3_9 : pm_at pm_fT 3 9 = some (3, 0, 128) := by decide +kernel
theorem cb_40 : (Int8.ofInt 40).toInt32 = 40 := by decide
theorem ty_3_2 : pm_ty 3 2 = some (.array .int) := by decide +kernel
theorem in_29 : pm_ini 29 = true := by decide +kernel
theorem fa_3_15 : pm_at pm_fT 3 15 = some (3, 2, 132) := by decide +kernel
theorem ty_3_1 : pm_ty 3 1 = some .int := by decide +kernel
theorem nf_3_1 : pm_fin 3 1 = false := rfl
theorem fa_3_19 : pm_at pm_fT 3 19 = some (3, 1, 130) := by decide +kernel
theorem ca_3_22 : pm_at pm_cT 3 22 = some (1, 186, 720, 652, 0, "") := by decide +kernel
theorem ca_4_35 : pm_at pm_cT 4 35 = some (0, 36, 417, 419, 5, "") := by decide +kernel
theorem ca_4_44 : pm_at pm_cT 4 44 = some (1, 188, 458, 459, 0, "") := by decide +kernel
theorem ca_4_50 : pm_at pm_cT 4 50 = some (2, 28, 480, 143, 0, "") := by decide +kernel
theorem ca_6_79 : pm_at pm_cT 6 79 = some (1, 109, 795, 796, 0, "") := by decide +kernel
theorem fa_6_83 : pm_at pm_fT 6 83 = some (6, 0, 834) := by decide +kernel
theorem fa_6_19 : pm_at pm_fT 6 19 = some (6, 4, 838) := by decide +kernel
theorem fa_6_16 : pm_at pm_fT 6 16 = some (6, 3, 837) := by decide +kernel
theorem ca_6_86 : pm_at pm_cT 6 86 = some (1, 110, 975, 976, 0, "") := by decide +kernel
theorem ca_6_90 : pm_at pm_cT 6 90 = some (0, 114, 971, 973, 39, "") := by decide +kernel
theorem fa_6_94 : pm_at pm_fT 6 94 = some (6, 6, 840) := by decide +kernel
theorem ca_6_98 : pm_at pm_cT 6 98 = some (0, 117, 948, 950, 37, "") := by decide +kernel
theorem ca_6_101 : pm_at pm_cT 6 101 = some (1, 113, 952, 953, 0, "") := by decide +kernel
theorem fa_6_105 : pm_at pm_fT 6 105 = some (6, 7, 841) := by decide +kernel
theorem fa_6_108 : pm_at pm_fT 6 108 = some (6, 5, 839) := by decide +kernel
theorem fa_6_111 : pm_at pm_fT 6 111 = some (6, 12, 846) := by decide +kernel
theorem fa_6_114 : pm_at pm_fT 6 114 = some (6, 13, 847) := by decide +kernel
theorem fa_6_71 : pm_at pm_fT 6 71 = some (6, 9, 843) := by decide +kernel
theorem cb_m2 : (Int8.ofInt (-2)).toInt32 = (-2) := by decide
theorem ty_6_6 : pm_ty 6 6 = some .long := by decide +kernel
theorem nf_6_6 : pm_fin 6 6 = false := rfl
theorem ty_6_5 : pm_ty 6 5 = some .long := by decide +kernel
theorem nf_6_5 : pm_fin 6 5 = false := rfl
theorem ca_6_117 : pm_at pm_cT 6 117 = some (1, 111, 959, 960, 0, "") := by decide +kernel
theorem cb_m7 : (Int8.ofInt (-7)).toInt32 = (-7) := by decide
theorem cb_m5 : (Int8.ofInt (-5)).toInt32 = (-5) := by decide
theorem ca_6_123 : pm_at pm_cT 6 123 = some (0, 115, 967, 969, 38, "") := by decide +kernel
theorem ty_6_9 : pm_ty 6 9 = some .int := by decide +kernel
theorem nf_6_9 : pm_fin 6 9 = false := rfl
theorem fa_6_22 : pm_at pm_fT 6 22 = some (6, 8, 842) := by decide +kernel
theorem ca_6_129 : pm_at pm_cT 6 129 = some (1, 121, 983, 984, 0, "") := by decide +kernel
theorem cb_m4 : (Int8.ofInt (-4)).toInt32 = (-4) := by decide
theorem fa_6_53 : pm_at pm_fT 6 53 = some (6, 26, 860) := by decide +kernel
theorem cb_12 : (Int8.ofInt 12).toInt32 = 12 := by decide
theorem fa_6_132 : pm_at pm_fT 6 132 = some (6, 22, 856) := by decide +kernel
theorem ty_6_22 : pm_ty 6 22 = some .int := by decide +kernel
theorem nf_6_22 : pm_fin 6 22 = false := rfl
theorem ty_6_25 : pm_ty 6 25 = some .int := by decide +kernel
theorem nf_6_25 : pm_fin 6 25 = false := rfl
theorem fa_6_141 : pm_at pm_fT 6 141 = some (6, 25, 859) := by decide +kernel
theorem ty_6_24 : pm_ty 6 24 = some .int := by decide +kernel
theorem nf_6_24 : pm_fin 6 24 = false := rfl
theorem fa_6_138 : pm_at pm_fT 6 138 = some (6, 24, 858) := by decide +kernel
theorem fa_6_135 : pm_at pm_fT 6 135 = some (6, 23, 857) := by decide +kernel
theorem ca_6_144 : pm_at pm_cT 6 144 = some (0, 123, 798, 800, 29, "") := by decide +kernel
theorem ty_6_23 : pm_ty 6 23 = some .int := by decide +kernel
theorem nf_6_23 : pm_fin 6 23 = false := rfl
theorem cb_41 : (Int8.ofInt 41).toInt32 = 41 := by decide
theorem cb_59 : (Int8.ofInt 59).toInt32 = 59 := by decide
theorem cb_43 : (Int8.ofInt 43).toInt32 = 43 := by decide
theorem cb_45 : (Int8.ofInt 45).toInt32 = 45 := by decide
theorem cb_42 : (Int8.ofInt 42).toInt32 = 42 := by decide
theorem cb_60 : (Int8.ofInt 60).toInt32 = 60 := by decide
theorem cb_61 : (Int8.ofInt 61).toInt32 = 61 := by decide
theorem cb_11 : (Int8.ofInt 11).toInt32 = 11 := by decide
theorem cb_13 : (Int8.ofInt 13).toInt32 = 13 := by decide
theorem cb_15 : (Int8.ofInt 15).toInt32 = 15 := by decide
theorem cb_17 : (Int8.ofInt 17).toInt32 = 17 := by decide
theorem cb_18 : (Int8.ofInt 18).toInt32 = 18 := by decide
theorem cb_7 : (Int8.ofInt 7).toInt32 = 7 := by decide
theorem fa_6_25 : pm_at pm_fT 6 25 = some (6, 10, 844) := by decide +kernel
theorem cs_200 : (Int16.ofInt 200).toInt32 = 200 := by decide
theorem fa_6_148 : pm_at pm_fT 6 148 = some (6, 30, 864) := by decide +kernel
theorem ty_6_30 : pm_ty 6 30 = some .int := by decide +kernel
theorem nf_6_30 : pm_fin 6 30 = false := rfl
theorem ty_6_29 : pm_ty 6 29 = some .int := by decide +kernel
theorem nf_6_29 : pm_fin 6 29 = false := rfl
theorem fa_6_158 : pm_at pm_fT 6 158 = some (6, 29, 863) := by decide +kernel
theorem ca_6_161 : pm_at pm_cT 6 161 = some (0, 126, 807, 809, 31, "") := by decide +kernel
theorem fa_6_151 : pm_at pm_fT 6 151 = some (6, 28, 862) := by decide +kernel
theorem fa_6_56 : pm_at pm_fT 6 56 = some (6, 27, 861) := by decide +kernel
theorem ca_6_154 : pm_at pm_cT 6 154 = some (1, 125, 815, 816, 0, "") := by decide +kernel
theorem ty_6_28 : pm_ty 6 28 = some .int := by decide +kernel
theorem nf_6_28 : pm_fin 6 28 = false := rfl
theorem cb_19 : (Int8.ofInt 19).toInt32 = 19 := by decide
theorem ca_6_165 : pm_at pm_cT 6 165 = some (0, 128, 822, 824, 34, "") := by decide +kernel
theorem ca_6_168 : pm_at pm_cT 6 168 = some (0, 127, 811, 813, 32, "") := by decide +kernel
theorem cb_14 : (Int8.ofInt 14).toInt32 = 14 := by decide
theorem ca_6_175 : pm_at pm_cT 6 175 = some (0, 129, 818, 820, 33, "") := by decide +kernel
theorem ca_6_171 : pm_at pm_cT 6 171 = some (0, 124, 791, 793, 28, "") := by decide +kernel
theorem ca_6_178 : pm_at pm_cT 6 178 = some (0, 131, 826, 828, 35, "") := by decide +kernel
theorem ca_6_181 : pm_at pm_cT 6 181 = some (0, 130, 830, 832, 36, "") := by decide +kernel
theorem fa_6_28 : pm_at pm_fT 6 28 = some (6, 11, 845) := by decide +kernel
theorem ca_6_184 : pm_at pm_cT 6 184 = some (0, 132, 802, 804, 30, "") := by decide +kernel
theorem ty_6_12 : pm_ty 6 12 = some .int := by decide +kernel
theorem nf_6_12 : pm_fin 6 12 = false := rfl
theorem cb_m100 : (Int8.ofInt (-100)).toInt32 = (-100) := by decide
theorem fa_6_59 : pm_at pm_fT 6 59 = some (6, 31, 865) := by decide +kernel
theorem fa_6_62 : pm_at pm_fT 6 62 = some (6, 32, 866) := by decide +kernel
theorem ca_6_188 : pm_at pm_cT 6 188 = some (1, 134, 1011, 1012, 0, "") := by decide +kernel
theorem ty_6_13 : pm_ty 6 13 = some .int := by decide +kernel
theorem nf_6_13 : pm_fin 6 13 = false := rfl
theorem fa_6_13 : pm_at pm_fT 6 13 = some (6, 2, 836) := by decide +kernel
theorem ca_6_194 : pm_at pm_cT 6 194 = some (0, 135, 1007, 1009, 43, "") := by decide +kernel
theorem ca_6_191 : pm_at pm_cT 6 191 = some (0, 116, 1003, 1005, 42, "") := by decide +kernel
theorem cs_m1000 : (Int16.ofInt (-1000)).toInt32 = (-1000) := by decide
theorem ca_6_197 : pm_at pm_cT 6 197 = some (0, 112, 995, 997, 40, "") := by decide +kernel
theorem ca_6_200 : pm_at pm_cT 6 200 = some (0, 137, 999, 1001, 41, "") := by decide +kernel
theorem cs_1000 : (Int16.ofInt 1000).toInt32 = 1000 := by decide
theorem nz_i_1000 : ¬ (1000 : Int32) = 0 := by decide
theorem nz_i_10 : ¬ (10 : Int32) = 0 := by decide
theorem fa_6_7 : pm_at pm_fT 6 7 = some (6, 1, 835) := by decide +kernel
theorem nz_i_10000 : ¬ (10000 : Int32) = 0 := by decide
theorem ty_6_0 : pm_ty 6 0 = some .int := by decide +kernel
theorem nf_6_0 : pm_fin 6 0 = false := rfl
theorem cb_100 : (Int8.ofInt 100).toInt32 = 100 := by decide
theorem ca_6_204 : pm_at pm_cT 6 204 = some (0, 141, 1027, 1029, 44, "") := by decide +kernel
theorem ca_6_207 : pm_at pm_cT 6 207 = some (0, 143, 1031, 1033, 45, "") := by decide +kernel
theorem ca_6_210 : pm_at pm_cT 6 210 = some (0, 142, 1039, 1041, 46, "") := by decide +kernel
theorem ty_6_7 : pm_ty 6 7 = some .int := by decide +kernel
theorem nf_6_7 : pm_fin 6 7 = false := rfl
theorem ca_6_213 : pm_at pm_cT 6 213 = some (0, 146, 1051, 1053, 48, "") := by decide +kernel
theorem cs_999 : (Int16.ofInt 999).toInt32 = 999 := by decide
theorem ca_6_216 : pm_at pm_cT 6 216 = some (0, 147, 1047, 1049, 47, "") := by decide +kernel
theorem cb_m3 : (Int8.ofInt (-3)).toInt32 = (-3) := by decide
theorem fa_6_65 : pm_at pm_fT 6 65 = some (6, 33, 867) := by decide +kernel
theorem cb_24 : (Int8.ofInt 24).toInt32 = 24 := by decide
theorem ca_6_228 : pm_at pm_cT 6 228 = some (0, 150, 1071, 1073, 52, "") := by decide +kernel
theorem ca_6_219 : pm_at pm_cT 6 219 = some (0, 149, 1059, 1061, 49, "") := by decide +kernel
theorem ca_6_222 : pm_at pm_cT 6 222 = some (0, 151, 1063, 1065, 50, "") := by decide +kernel
theorem cb_20 : (Int8.ofInt 20).toInt32 = 20 := by decide
theorem ca_6_225 : pm_at pm_cT 6 225 = some (0, 152, 1067, 1069, 51, "") := by decide +kernel
theorem ca_6_231 : pm_at pm_cT 6 231 = some (0, 154, 1079, 1081, 53, "") := by decide +kernel
theorem ca_6_234 : pm_at pm_cT 6 234 = some (0, 158, 1095, 1097, 54, "") := by decide +kernel
theorem fa_6_68 : pm_at pm_fT 6 68 = some (6, 34, 868) := by decide +kernel
theorem ca_6_237 : pm_at pm_cT 6 237 = some (1, 162, 1111, 1112, 0, "") := by decide +kernel
theorem fa_6_41 : pm_at pm_fT 6 41 = some (6, 18, 852) := by decide +kernel
theorem fa_6_44 : pm_at pm_fT 6 44 = some (6, 19, 853) := by decide +kernel
theorem cb_m11 : (Int8.ofInt (-11)).toInt32 = (-11) := by decide
theorem ca_6_241 : pm_at pm_cT 6 241 = some (0, 164, 1122, 1124, 56, "") := by decide +kernel
theorem fa_6_47 : pm_at pm_fT 6 47 = some (6, 20, 854) := by decide +kernel
theorem ca_6_244 : pm_at pm_cT 6 244 = some (0, 165, 1118, 1120, 55, "") := by decide +kernel
theorem ca_6_247 : pm_at pm_cT 6 247 = some (0, 166, 1126, 1128, 57, "") := by decide +kernel
theorem ty_6_35 : pm_ty 6 35 = some .int := by decide +kernel
theorem nf_6_35 : pm_fin 6 35 = false := rfl
theorem fa_6_258 : pm_at pm_fT 6 258 = some (6, 35, 869) := by decide +kernel
theorem nz_l_2147483647 : ¬ (2147483647 : Int64) = 0 := by decide
theorem nz_l_6 : ¬ (6 : Int64) = 0 := by decide
theorem nz_l_4 : ¬ (4 : Int64) = 0 := by decide
theorem ca_6_262 : pm_at pm_cT 6 262 = some (0, 173, 1155, 1157, 58, "") := by decide +kernel
theorem fa_6_34 : pm_at pm_fT 6 34 = some (6, 16, 850) := by decide +kernel
theorem fa_6_38 : pm_at pm_fT 6 38 = some (6, 17, 851) := by decide +kernel
theorem fa_6_31 : pm_at pm_fT 6 31 = some (6, 15, 849) := by decide +kernel
theorem ty_6_14 : pm_ty 6 14 = some .boolean := by decide +kernel
theorem nf_6_14 : pm_fin 6 14 = false := rfl
theorem fa_6_265 : pm_at pm_fT 6 265 = some (6, 14, 848) := by decide +kernel
theorem cb_m14 : (Int8.ofInt (-14)).toInt32 = (-14) := by decide
theorem cb_m12 : (Int8.ofInt (-12)).toInt32 = (-12) := by decide
theorem cb_m13 : (Int8.ofInt (-13)).toInt32 = (-13) := by decide
theorem ca_6_269 : pm_at pm_cT 6 269 = some (0, 139, 1191, 1015, 1016, "") := by decide +kernel
theorem nz_i_6 : ¬ (6 : Int32) = 0 := by decide
theorem ca_6_272 : pm_at pm_cT 6 272 = some (1, 182, 1196, 1197, 0, "") := by decide +kernel
theorem fa_5_24 : pm_at pm_fT 5 24 = some (5, 6, 246) := by decide +kernel
theorem ca_5_33 : pm_at pm_cT 5 33 = some (2, 28, 142, 143, 0, "") := by decide +kernel
theorem fa_5_11 : pm_at pm_fT 5 11 = some (5, 0, 240) := by decide +kernel
theorem et_2 : pm_et 2 := by unfold pm_et; decide
theorem ty_5_1 : pm_ty 5 1 = some .int := by decide +kernel
theorem nf_5_1 : pm_fin 5 1 = false := rfl
theorem fa_5_36 : pm_at pm_fT 5 36 = some (5, 1, 241) := by decide +kernel
theorem ca_5_42 : pm_at pm_cT 5 42 = some (2, 9, 165, 166, 0, "") := by decide +kernel
theorem ty_5_3 : pm_ty 5 3 = some (.object "DunesWalked$Land") := by decide +kernel
theorem in_55 : pm_ini 55 = true := by decide +kernel
theorem fa_5_45 : pm_at pm_fT 5 45 = some (5, 3, 243) := by decide +kernel
theorem ty_5_4 : pm_ty 5 4 = some (.object "DunesWalked$Land") := by decide +kernel
theorem fa_5_49 : pm_at pm_fT 5 49 = some (5, 4, 244) := by decide +kernel
theorem ca_5_32 : pm_at pm_cT 5 32 = some (3, 29, 124, 125, 0, "DunesWalked") := by decide +kernel
theorem et_3 : pm_et 3 := by unfold pm_et; decide
theorem ty_5_0 : pm_ty 5 0 = some (.array (.object "DunesWalked$Law")) := by decide +kernel
theorem ca_5_17 : pm_at pm_cT 5 17 = some (3, 33, 88, 89, 0, "DunesWalked") := by decide +kernel
theorem ty_5_2 : pm_ty 5 2 = some (.object "DunesWalked$Tape") := by decide +kernel
theorem fa_5_18 : pm_at pm_fT 5 18 = some (5, 2, 242) := by decide +kernel
theorem ty_5_6 : pm_ty 5 6 = some (.array (.object "DunesWalked$Sheet")) := by decide +kernel
theorem ty_5_7 : pm_ty 5 7 = some (.array .int) := by decide +kernel
theorem fa_5_28 : pm_at pm_fT 5 28 = some (5, 7, 247) := by decide +kernel
theorem fa_5_52 : pm_at pm_fT 5 52 = some (1, 1, 215) := by decide +kernel
theorem ca_5_55 : pm_at pm_cT 5 55 = some (0, 12, 269, 270, 271, "") := by decide +kernel
theorem ca_5_59 : pm_at pm_cT 5 59 = some (1, 184, 273, 274, 0, "") := by decide +kernel
theorem fa_5_65 : pm_at pm_fT 5 65 = some (1, 4, 221) := by decide +kernel
theorem fa_5_68 : pm_at pm_fT 5 68 = some (1, 2, 217) := by decide +kernel
theorem ca_5_72 : pm_at pm_cT 5 72 = some (1, 185, 279, 280, 0, "") := by decide +kernel
theorem fa_5_77 : pm_at pm_fT 5 77 = some (1, 3, 219) := by decide +kernel
theorem fa_5_80 : pm_at pm_fT 5 80 = some (1, 5, 223) := by decide +kernel
theorem fa_5_84 : pm_at pm_fT 5 84 = some (2, 0, 147) := by decide +kernel
theorem fa_5_87 : pm_at pm_fT 5 87 = some (4, 1, 94) := by decide +kernel
theorem ca_5_90 : pm_at pm_cT 5 90 = some (1, 92, 289, 290, 0, "") := by decide +kernel
theorem ca_5_96 : pm_at pm_cT 5 96 = some (0, 13, 297, 298, 299, "") := by decide +kernel
theorem ca_5_106 : pm_at pm_cT 5 106 = some (0, 34, 313, 314, 315, "") := by decide +kernel
theorem ca_5_102 : pm_at pm_cT 5 102 = some (1, 94, 310, 311, 0, "") := by decide +kernel
theorem ca_5_110 : pm_at pm_cT 5 110 = some (0, 35, 321, 322, 323, "") := by decide +kernel
theorem fa_5_114 : pm_at pm_fT 5 114 = some (4, 5, 99) := by decide +kernel
theorem ca_5_117 : pm_at pm_cT 5 117 = some (0, 97, 485, 487, 15, "") := by decide +kernel
theorem ca_5_120 : pm_at pm_cT 5 120 = some (0, 11, 493, 494, 495, "") := by decide +kernel
theorem ca_5_124 : pm_at pm_cT 5 124 = some (0, 24, 497, 498, 499, "") := by decide +kernel
theorem fa_5_129 : pm_at pm_fT 5 129 = some (1, 0, 213) := by decide +kernel
theorem fa_5_133 : pm_at pm_fT 5 133 = some (0, 1, 180) := by decide +kernel
theorem fa_5_138 : pm_at pm_fT 5 138 = some (0, 2, 183) := by decide +kernel
theorem fa_5_141 : pm_at pm_fT 5 141 = some (0, 3, 186) := by decide +kernel
theorem fa_5_144 : pm_at pm_fT 5 144 = some (0, 4, 189) := by decide +kernel
theorem fa_5_145 : pm_at pm_fT 5 145 = some (0, 5, 192) := by decide +kernel
theorem fa_5_148 : pm_at pm_fT 5 148 = some (0, 6, 196) := by decide +kernel
theorem fa_5_152 : pm_at pm_fT 5 152 = some (0, 0, 178) := by decide +kernel
theorem ca_5_153 : pm_at pm_cT 5 153 = some (1, 95, 528, 529, 0, "") := by decide +kernel
theorem ca_5_156 : pm_at pm_cT 5 156 = some (1, 96, 531, 532, 0, "") := by decide +kernel
theorem ca_5_159 : pm_at pm_cT 5 159 = some (0, 3, 534, 535, 536, "") := by decide +kernel
theorem ca_5_162 : pm_at pm_cT 5 162 = some (0, 4, 538, 539, 540, "") := by decide +kernel
theorem ca_5_166 : pm_at pm_cT 5 166 = some (0, 16, 546, 502, 503, "") := by decide +kernel
theorem ca_5_170 : pm_at pm_cT 5 170 = some (0, 20, 547, 548, 549, "") := by decide +kernel
theorem ca_5_174 : pm_at pm_cT 5 174 = some (0, 23, 556, 557, 558, "") := by decide +kernel
theorem ca_5_177 : pm_at pm_cT 5 177 = some (0, 2, 560, 302, 303, "") := by decide +kernel
theorem ca_5_180 : pm_at pm_cT 5 180 = some (0, 22, 565, 566, 567, "") := by decide +kernel
theorem ca_5_183 : pm_at pm_cT 5 183 = some (0, 18, 573, 574, 575, "") := by decide +kernel
theorem ca_5_193 : pm_at pm_cT 5 193 = some (0, 14, 609, 610, 611, "") := by decide +kernel
theorem ca_5_186 : pm_at pm_cT 5 186 = some (0, 10, 597, 598, 599, "") := by decide +kernel
theorem ca_5_190 : pm_at pm_cT 5 190 = some (0, 101, 605, 607, 19, "") := by decide +kernel
theorem ca_5_196 : pm_at pm_cT 5 196 = some (0, 69, 615, 617, 20, "") := by decide +kernel
theorem ca_5_199 : pm_at pm_cT 5 199 = some (0, 17, 623, 624, 625, "") := by decide +kernel
theorem ca_5_202 : pm_at pm_cT 5 202 = some (0, 5, 635, 636, 637, "") := by decide +kernel
theorem ca_5_276 : pm_at pm_cT 5 276 = some (1, 186, 651, 652, 0, "") := by decide +kernel
theorem ca_5_208 : pm_at pm_cT 5 208 = some (0, 15, 654, 655, 656, "") := by decide +kernel
theorem ca_5_205 : pm_at pm_cT 5 205 = some (0, 102, 647, 649, 21, "") := by decide +kernel
theorem ca_5_211 : pm_at pm_cT 5 211 = some (1, 107, 666, 667, 0, "") := by decide +kernel
theorem fa_5_252 : pm_at pm_fT 5 252 = some (3, 0, 129) := by decide +kernel
theorem fa_5_255 : pm_at pm_fT 5 255 = some (3, 1, 131) := by decide +kernel
theorem ca_5_231 : pm_at pm_cT 5 231 = some (1, 99, 681, 682, 0, "") := by decide +kernel
theorem fa_5_260 : pm_at pm_fT 5 260 = some (3, 2, 133) := by decide +kernel
theorem ca_5_215 : pm_at pm_cT 5 215 = some (0, 98, 673, 675, 22, "") := by decide +kernel
theorem ca_5_219 : pm_at pm_cT 5 219 = some (0, 100, 677, 679, 23, "") := by decide +kernel
theorem ca_5_223 : pm_at pm_cT 5 223 = some (0, 105, 684, 686, 24, "") := by decide +kernel
theorem ca_5_227 : pm_at pm_cT 5 227 = some (0, 103, 692, 694, 25, "") := by decide +kernel
theorem ca_5_235 : pm_at pm_cT 5 235 = some (0, 104, 708, 710, 26, "") := by decide +kernel
theorem ca_5_242 : pm_at pm_cT 5 242 = some (0, 31, 721, 722, 723, "") := by decide +kernel
theorem ca_5_239 : pm_at pm_cT 5 239 = some (0, 30, 716, 717, 718, "") := by decide +kernel
theorem ca_5_290 : pm_at pm_cT 5 290 = some (0, 7, 738, 579, 580, "") := by decide +kernel
theorem ca_5_246 : pm_at pm_cT 5 246 = some (0, 106, 730, 732, 27, "") := by decide +kernel
theorem fa_5_249 : pm_at pm_fT 5 249 = some (5, 5, 245) := by decide +kernel
theorem ty_5_5 : pm_ty 5 5 = some (.object "DunesWalked$Land") := by decide +kernel
theorem nf_5_5 : pm_fin 5 5 = false := rfl
theorem ca_5_256 : pm_at pm_cT 5 256 = some (0, 32, 763, 764, 765, "") := by decide +kernel
theorem ca_5_269 : pm_at pm_cT 5 269 = some (0, 63, 772, 520, 521, "") := by decide +kernel
theorem ca_5_273 : pm_at pm_cT 5 273 = some (0, 6, 777, 778, 779, "") := by decide +kernel
theorem ca_6_75 : pm_at pm_cT 6 75 = some (0, 133, 787, 788, 789, "") := by decide +kernel
theorem fa_6_50 : pm_at pm_fT 6 50 = some (6, 21, 855) := by decide +kernel
theorem ty_6_1 : pm_ty 6 1 = some (.array .int) := by decide +kernel
theorem in_108 : pm_ini 108 = true := by decide +kernel
theorem ty_6_2 : pm_ty 6 2 = some (.array .int) := by decide +kernel
theorem ty_6_3 : pm_ty 6 3 = some (.array .int) := by decide +kernel
theorem ty_6_4 : pm_ty 6 4 = some (.array .int) := by decide +kernel
theorem ty_6_8 : pm_ty 6 8 = some (.array .int) := by decide +kernel
theorem cs_1200 : (Int16.ofInt 1200).toInt32 = 1200 := by decide
theorem ty_6_10 : pm_ty 6 10 = some (.array .int) := by decide +kernel
theorem ty_6_11 : pm_ty 6 11 = some (.array .int) := by decide +kernel
theorem ty_6_15 : pm_ty 6 15 = some (.array .int) := by decide +kernel
theorem ty_6_16 : pm_ty 6 16 = some (.array .long) := by decide +kernel
theorem ty_6_17 : pm_ty 6 17 = some (.array .int) := by decide +kernel
theorem ty_6_18 : pm_ty 6 18 = some (.array .int) := by decide +kernel
theorem ty_6_19 : pm_ty 6 19 = some (.array .int) := by decide +kernel
theorem ty_6_20 : pm_ty 6 20 = some (.array .int) := by decide +kernel
theorem cb_119 : (Int8.ofInt 119).toInt32 = 119 := by decide
theorem cb_108 : (Int8.ofInt 108).toInt32 = 108 := by decide
theorem cb_107 : (Int8.ofInt 107).toInt32 = 107 := by decide
theorem cb_115 : (Int8.ofInt 115).toInt32 = 115 := by decide
theorem cb_103 : (Int8.ofInt 103).toInt32 = 103 := by decide
theorem cb_114 : (Int8.ofInt 114).toInt32 = 114 := by decide
theorem cb_111 : (Int8.ofInt 111).toInt32 = 111 := by decide
theorem cb_49 : (Int8.ofInt 49).toInt32 = 49 := by decide
theorem cb_21 : (Int8.ofInt 21).toInt32 = 21 := by decide
theorem cb_22 : (Int8.ofInt 22).toInt32 = 22 := by decide
theorem cb_23 : (Int8.ofInt 23).toInt32 = 23 := by decide
theorem cb_25 : (Int8.ofInt 25).toInt32 = 25 := by decide
theorem cb_26 : (Int8.ofInt 26).toInt32 = 26 := by decide
theorem cb_27 : (Int8.ofInt 27).toInt32 = 27 := by decide
theorem cb_118 : (Int8.ofInt 118).toInt32 = 118 := by decide
theorem cb_28 : (Int8.ofInt 28).toInt32 = 28 := by decide
theorem cb_101 : (Int8.ofInt 101).toInt32 = 101 := by decide
theorem cb_29 : (Int8.ofInt 29).toInt32 = 29 := by decide
theorem cb_30 : (Int8.ofInt 30).toInt32 = 30 := by decide
theorem cb_31 : (Int8.ofInt 31).toInt32 = 31 := by decide
theorem cb_33 : (Int8.ofInt 33).toInt32 = 33 := by decide
theorem cb_110 : (Int8.ofInt 110).toInt32 = 110 := by decide
theorem cb_34 : (Int8.ofInt 34).toInt32 = 34 := by decide
theorem cb_35 : (Int8.ofInt 35).toInt32 = 35 := by decide
theorem cb_36 : (Int8.ofInt 36).toInt32 = 36 := by decide
theorem cb_37 : (Int8.ofInt 37).toInt32 = 37 := by decide
theorem cb_38 : (Int8.ofInt 38).toInt32 = 38 := by decide
theorem ty_6_21 : pm_ty 6 21 = some (.array .int) := by decide +kernel
theorem cb_96 : (Int8.ofInt 96).toInt32 = 96 := by decide
theorem cb_104 : (Int8.ofInt 104).toInt32 = 104 := by decide
theorem cb_105 : (Int8.ofInt 105).toInt32 = 105 := by decide
theorem cb_116 : (Int8.ofInt 116).toInt32 = 116 := by decide
theorem cb_44 : (Int8.ofInt 44).toInt32 = 44 := by decide
theorem cb_46 : (Int8.ofInt 46).toInt32 = 46 := by decide
theorem cb_47 : (Int8.ofInt 47).toInt32 = 47 := by decide
theorem cb_51 : (Int8.ofInt 51).toInt32 = 51 := by decide
theorem cb_52 : (Int8.ofInt 52).toInt32 = 52 := by decide
theorem cb_53 : (Int8.ofInt 53).toInt32 = 53 := by decide
theorem cb_54 : (Int8.ofInt 54).toInt32 = 54 := by decide
theorem cb_55 : (Int8.ofInt 55).toInt32 = 55 := by decide
theorem cb_56 : (Int8.ofInt 56).toInt32 = 56 := by decide
theorem cb_121 : (Int8.ofInt 121).toInt32 = 121 := by decide
theorem cb_58 : (Int8.ofInt 58).toInt32 = 58 := by decide
theorem cb_62 : (Int8.ofInt 62).toInt32 = 62 := by decide
theorem cb_64 : (Int8.ofInt 64).toInt32 = 64 := by decide
theorem cb_109 : (Int8.ofInt 109).toInt32 = 109 := by decide
theorem cb_65 : (Int8.ofInt 65).toInt32 = 65 := by decide
theorem cb_66 : (Int8.ofInt 66).toInt32 = 66 := by decide
theorem cb_67 : (Int8.ofInt 67).toInt32 = 67 := by decide
theorem cb_68 : (Int8.ofInt 68).toInt32 = 68 := by decide
theorem cb_69 : (Int8.ofInt 69).toInt32 = 69 := by decide
theorem cb_70 : (Int8.ofInt 70).toInt32 = 70 := by decide
theorem cb_71 : (Int8.ofInt 71).toInt32 = 71 := by decide
theorem cb_72 : (Int8.ofInt 72).toInt32 = 72 := by decide
theorem cb_73 : (Int8.ofInt 73).toInt32 = 73 := by decide
theorem cb_74 : (Int8.ofInt 74).toInt32 = 74 := by decide
theorem cb_75 : (Int8.ofInt 75).toInt32 = 75 := by decide
theorem cb_76 : (Int8.ofInt 76).toInt32 = 76 := by decide
theorem cb_77 : (Int8.ofInt 77).toInt32 = 77 := by decide
theorem cb_78 : (Int8.ofInt 78).toInt32 = 78 := by decide
theorem cb_79 : (Int8.ofInt 79).toInt32 = 79 := by decide
theorem cb_80 : (Int8.ofInt 80).toInt32 = 80 := by decide
theorem cb_81 : (Int8.ofInt 81).toInt32 = 81 := by decide
theorem cb_82 : (Int8.ofInt 82).toInt32 = 82 := by decide
theorem cb_83 : (Int8.ofInt 83).toInt32 = 83 := by decide
theorem cb_84 : (Int8.ofInt 84).toInt32 = 84 := by decide
theorem cb_85 : (Int8.ofInt 85).toInt32 = 85 := by decide
theorem cb_86 : (Int8.ofInt 86).toInt32 = 86 := by decide
theorem cb_87 : (Int8.ofInt 87).toInt32 = 87 := by decide
theorem cb_88 : (Int8.ofInt 88).toInt32 = 88 := by decide
theorem cb_89 : (Int8.ofInt 89).toInt32 = 89 := by decide
theorem cb_90 : (Int8.ofInt 90).toInt32 = 90 := by decide
theorem cb_91 : (Int8.ofInt 91).toInt32 = 91 := by decide
theorem cb_92 : (Int8.ofInt 92).toInt32 = 92 := by decide
theorem cb_93 : (Int8.ofInt 93).toInt32 = 93 := by decide
theorem cb_94 : (Int8.ofInt 94).toInt32 = 94 := by decide
theorem cb_95 : (Int8.ofInt 95).toInt32 = 95 := by decide
theorem ty_6_26 : pm_ty 6 26 = some (.array .int) := by decide +kernel
theorem ty_6_27 : pm_ty 6 27 = some (.array .int) := by decide +kernel
theorem ty_6_31 : pm_ty 6 31 = some (.array .int) := by decide +kernel
theorem ty_6_32 : pm_ty 6 32 = some (.array .int) := by decide +kernel
theorem ty_6_33 : pm_ty 6 33 = some (.array .int) := by decide +kernel
theorem ty_6_34 : pm_ty 6 34 = some (.array .int) := by decide +kernel
