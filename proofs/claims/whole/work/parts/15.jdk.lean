theorem f184_0 : pm_fetch 184 0 = some (.iload_n 0, 1) := rfl
theorem f184_1 : pm_fetch 184 1 = some (.iload_n 0, 1) := rfl
theorem f184_2 : pm_fetch 184 2 = some (.iconst 1, 1) := rfl
theorem f184_3 : pm_fetch 184 3 = some (.iushr, 1) := rfl
theorem f184_4 : pm_fetch 184 4 = some (.ldc_w 265, 3) := rfl
theorem f184_7 : pm_fetch 184 7 = some (.iand, 1) := rfl
theorem f184_8 : pm_fetch 184 8 = some (.isub, 1) := rfl
theorem f184_9 : pm_fetch 184 9 = some (.istore_n 0, 1) := rfl
theorem f184_10 : pm_fetch 184 10 = some (.iload_n 0, 1) := rfl
theorem f184_11 : pm_fetch 184 11 = some (.ldc_w 266, 3) := rfl
theorem f184_14 : pm_fetch 184 14 = some (.iand, 1) := rfl
theorem f184_15 : pm_fetch 184 15 = some (.iload_n 0, 1) := rfl
theorem f184_16 : pm_fetch 184 16 = some (.iconst 2, 1) := rfl
theorem f184_17 : pm_fetch 184 17 = some (.iushr, 1) := rfl
theorem f184_18 : pm_fetch 184 18 = some (.ldc_w 266, 3) := rfl
theorem f184_21 : pm_fetch 184 21 = some (.iand, 1) := rfl
theorem f184_22 : pm_fetch 184 22 = some (.iadd, 1) := rfl
theorem f184_23 : pm_fetch 184 23 = some (.istore_n 0, 1) := rfl
theorem f184_24 : pm_fetch 184 24 = some (.iload_n 0, 1) := rfl
theorem f184_25 : pm_fetch 184 25 = some (.iload_n 0, 1) := rfl
theorem f184_26 : pm_fetch 184 26 = some (.iconst 4, 1) := rfl
theorem f184_27 : pm_fetch 184 27 = some (.iushr, 1) := rfl
theorem f184_28 : pm_fetch 184 28 = some (.iadd, 1) := rfl
theorem f184_29 : pm_fetch 184 29 = some (.ldc_w 267, 3) := rfl
theorem f184_32 : pm_fetch 184 32 = some (.iand, 1) := rfl
theorem f184_33 : pm_fetch 184 33 = some (.istore_n 0, 1) := rfl
theorem f184_34 : pm_fetch 184 34 = some (.iload_n 0, 1) := rfl
theorem f184_35 : pm_fetch 184 35 = some (.iload_n 0, 1) := rfl
theorem f184_36 : pm_fetch 184 36 = some (.bipush 8, 2) := rfl
theorem f184_38 : pm_fetch 184 38 = some (.iushr, 1) := rfl
theorem f184_39 : pm_fetch 184 39 = some (.iadd, 1) := rfl
theorem f184_40 : pm_fetch 184 40 = some (.istore_n 0, 1) := rfl
theorem f184_41 : pm_fetch 184 41 = some (.iload_n 0, 1) := rfl
theorem f184_42 : pm_fetch 184 42 = some (.iload_n 0, 1) := rfl
theorem f184_43 : pm_fetch 184 43 = some (.bipush 16, 2) := rfl
theorem f184_45 : pm_fetch 184 45 = some (.iushr, 1) := rfl
theorem f184_46 : pm_fetch 184 46 = some (.iadd, 1) := rfl
theorem f184_47 : pm_fetch 184 47 = some (.istore_n 0, 1) := rfl
theorem f184_48 : pm_fetch 184 48 = some (.iload_n 0, 1) := rfl
theorem f184_49 : pm_fetch 184 49 = some (.bipush 63, 2) := rfl
theorem f184_51 : pm_fetch 184 51 = some (.iand, 1) := rfl
theorem f184_52 : pm_fetch 184 52 = some (.ireturn, 1) := rfl
theorem f185_0 : pm_fetch 185 0 = some (.lload_n 0, 1) := rfl
theorem f185_1 : pm_fetch 185 1 = some (.lload_n 0, 1) := rfl
theorem f185_2 : pm_fetch 185 2 = some (.iconst 1, 1) := rfl
theorem f185_3 : pm_fetch 185 3 = some (.lushr, 1) := rfl
theorem f185_4 : pm_fetch 185 4 = some (.ldc2_w 314, 3) := rfl
theorem f185_7 : pm_fetch 185 7 = some (.land, 1) := rfl
theorem f185_8 : pm_fetch 185 8 = some (.lsub, 1) := rfl
theorem f185_9 : pm_fetch 185 9 = some (.lstore_n 0, 1) := rfl
theorem f185_10 : pm_fetch 185 10 = some (.lload_n 0, 1) := rfl
theorem f185_11 : pm_fetch 185 11 = some (.ldc2_w 316, 3) := rfl
theorem f185_14 : pm_fetch 185 14 = some (.land, 1) := rfl
theorem f185_15 : pm_fetch 185 15 = some (.lload_n 0, 1) := rfl
theorem f185_16 : pm_fetch 185 16 = some (.iconst 2, 1) := rfl
theorem f185_17 : pm_fetch 185 17 = some (.lushr, 1) := rfl
theorem f185_18 : pm_fetch 185 18 = some (.ldc2_w 316, 3) := rfl
theorem f185_21 : pm_fetch 185 21 = some (.land, 1) := rfl
theorem f185_22 : pm_fetch 185 22 = some (.ladd, 1) := rfl
theorem f185_23 : pm_fetch 185 23 = some (.lstore_n 0, 1) := rfl
theorem f185_24 : pm_fetch 185 24 = some (.lload_n 0, 1) := rfl
theorem f185_25 : pm_fetch 185 25 = some (.lload_n 0, 1) := rfl
theorem f185_26 : pm_fetch 185 26 = some (.iconst 4, 1) := rfl
theorem f185_27 : pm_fetch 185 27 = some (.lushr, 1) := rfl
theorem f185_28 : pm_fetch 185 28 = some (.ladd, 1) := rfl
theorem f185_29 : pm_fetch 185 29 = some (.ldc2_w 318, 3) := rfl
theorem f185_32 : pm_fetch 185 32 = some (.land, 1) := rfl
theorem f185_33 : pm_fetch 185 33 = some (.lstore_n 0, 1) := rfl
theorem f185_34 : pm_fetch 185 34 = some (.lload_n 0, 1) := rfl
theorem f185_35 : pm_fetch 185 35 = some (.lload_n 0, 1) := rfl
theorem f185_36 : pm_fetch 185 36 = some (.bipush 8, 2) := rfl
theorem f185_38 : pm_fetch 185 38 = some (.lushr, 1) := rfl
theorem f185_39 : pm_fetch 185 39 = some (.ladd, 1) := rfl
theorem f185_40 : pm_fetch 185 40 = some (.lstore_n 0, 1) := rfl
theorem f185_41 : pm_fetch 185 41 = some (.lload_n 0, 1) := rfl
theorem f185_42 : pm_fetch 185 42 = some (.lload_n 0, 1) := rfl
theorem f185_43 : pm_fetch 185 43 = some (.bipush 16, 2) := rfl
theorem f185_45 : pm_fetch 185 45 = some (.lushr, 1) := rfl
theorem f185_46 : pm_fetch 185 46 = some (.ladd, 1) := rfl
theorem f185_47 : pm_fetch 185 47 = some (.lstore_n 0, 1) := rfl
theorem f185_48 : pm_fetch 185 48 = some (.lload_n 0, 1) := rfl
theorem f185_49 : pm_fetch 185 49 = some (.lload_n 0, 1) := rfl
theorem f185_50 : pm_fetch 185 50 = some (.bipush 32, 2) := rfl
theorem f185_52 : pm_fetch 185 52 = some (.lushr, 1) := rfl
theorem f185_53 : pm_fetch 185 53 = some (.ladd, 1) := rfl
theorem f185_54 : pm_fetch 185 54 = some (.lstore_n 0, 1) := rfl
theorem f185_55 : pm_fetch 185 55 = some (.lload_n 0, 1) := rfl
theorem f185_56 : pm_fetch 185 56 = some (.l2i, 1) := rfl
theorem f185_57 : pm_fetch 185 57 = some (.bipush 127, 2) := rfl
theorem f185_59 : pm_fetch 185 59 = some (.iand, 1) := rfl
theorem f185_60 : pm_fetch 185 60 = some (.ireturn, 1) := rfl
theorem f186_0 : pm_fetch 186 0 = some (.iconst 0, 1) := rfl
theorem f186_1 : pm_fetch 186 1 = some (.istore_n 2, 1) := rfl
theorem f186_2 : pm_fetch 186 2 = some (.aload_n 0, 1) := rfl
theorem f186_3 : pm_fetch 186 3 = some (.arraylength, 1) := rfl
theorem f186_4 : pm_fetch 186 4 = some (.istore_n 3, 1) := rfl
theorem f186_5 : pm_fetch 186 5 = some (.iload_n 2, 1) := rfl
theorem f186_6 : pm_fetch 186 6 = some (.iload_n 3, 1) := rfl
theorem f186_7 : pm_fetch 186 7 = some (.if_icmp .ge 13, 3) := rfl
theorem f186_10 : pm_fetch 186 10 = some (.aload_n 0, 1) := rfl
theorem f186_11 : pm_fetch 186 11 = some (.iload_n 2, 1) := rfl
theorem f186_12 : pm_fetch 186 12 = some (.iload_n 1, 1) := rfl
theorem f186_13 : pm_fetch 186 13 = some (.iastore, 1) := rfl
theorem f186_14 : pm_fetch 186 14 = some (.iinc 2 1, 3) := rfl
theorem f186_17 : pm_fetch 186 17 = some (.goto (-12), 3) := rfl
theorem f186_20 : pm_fetch 186 20 = some (.return_, 1) := rfl
theorem f187_0 : pm_fetch 187 0 = some (.iload_n 1, 1) := rfl
theorem f187_1 : pm_fetch 187 1 = some (.iload_n 0, 1) := rfl
theorem f187_2 : pm_fetch 187 2 = some (.if_icmp .ge 35, 3) := rfl
theorem f187_37 : pm_fetch 187 37 = some (.return_, 1) := rfl
theorem f189_0 : pm_fetch 189 0 = some (.iload_n 1, 1) := rfl
theorem f189_1 : pm_fetch 189 1 = some (.iload_n 2, 1) := rfl
theorem f189_2 : pm_fetch 189 2 = some (.invokestatic 343, 3) := rfl
theorem f189_5 : pm_fetch 189 5 = some (.iload_n 2, 1) := rfl
theorem f189_6 : pm_fetch 189 6 = some (.iload_n 1, 1) := rfl
theorem f189_7 : pm_fetch 189 7 = some (.isub, 1) := rfl
theorem f189_8 : pm_fetch 189 8 = some (.istore_n 3, 1) := rfl
theorem f189_9 : pm_fetch 189 9 = some (.iload_n 3, 1) := rfl
theorem f189_10 : pm_fetch 189 10 = some (.newarray .int, 2) := rfl
theorem f189_12 : pm_fetch 189 12 = some (.astore 4, 2) := rfl
theorem f189_14 : pm_fetch 189 14 = some (.aload_n 0, 1) := rfl
theorem f189_15 : pm_fetch 189 15 = some (.iload_n 1, 1) := rfl
theorem f189_16 : pm_fetch 189 16 = some (.aload 4, 2) := rfl
theorem f189_18 : pm_fetch 189 18 = some (.iconst 0, 1) := rfl
theorem f189_19 : pm_fetch 189 19 = some (.aload_n 0, 1) := rfl
theorem f189_20 : pm_fetch 189 20 = some (.arraylength, 1) := rfl
theorem f189_21 : pm_fetch 189 21 = some (.iload_n 1, 1) := rfl
theorem f189_22 : pm_fetch 189 22 = some (.isub, 1) := rfl
theorem f189_23 : pm_fetch 189 23 = some (.iload_n 3, 1) := rfl
theorem f189_24 : pm_fetch 189 24 = some (.invokestatic 304, 3) := rfl
theorem f189_27 : pm_fetch 189 27 = some (.invokestatic 150, 3) := rfl
theorem f189_30 : pm_fetch 189 30 = some (.aload 4, 2) := rfl
theorem f189_32 : pm_fetch 189 32 = some (.areturn, 1) := rfl
theorem f188_0 : pm_fetch 188 0 = some (.iload_n 1, 1) := rfl
theorem f188_1 : pm_fetch 188 1 = some (.ifCond .ne 9, 3) := rfl
theorem f188_4 : pm_fetch 188 4 = some (.iload_n 2, 1) := rfl
theorem f188_5 : pm_fetch 188 5 = some (.aload_n 0, 1) := rfl
theorem f188_6 : pm_fetch 188 6 = some (.arraylength, 1) := rfl
theorem f188_7 : pm_fetch 188 7 = some (.if_icmp .eq 10, 3) := rfl
theorem f188_10 : pm_fetch 188 10 = some (.aload_n 0, 1) := rfl
theorem f188_11 : pm_fetch 188 11 = some (.iload_n 1, 1) := rfl
theorem f188_12 : pm_fetch 188 12 = some (.iload_n 2, 1) := rfl
theorem f188_13 : pm_fetch 188 13 = some (.invokestatic 351, 3) := rfl
theorem f188_16 : pm_fetch 188 16 = some (.areturn, 1) := rfl
theorem f188_17 : pm_fetch 188 17 = some (.aload_n 0, 1) := rfl
theorem f192_0 : pm_fetch 192 0 = some (.getstatic 38, 3) := rfl
theorem f192_3 : pm_fetch 192 3 = some (.ifCond .eq 10, 3) := rfl
theorem f192_6 : pm_fetch 192 6 = some (.aload_n 0, 1) := rfl
theorem f192_7 : pm_fetch 192 7 = some (.getfield 15, 3) := rfl
theorem f192_10 : pm_fetch 192 10 = some (.goto 4, 3) := rfl
theorem f192_13 : pm_fetch 192 13 = some (.iconst 1, 1) := rfl
theorem f192_14 : pm_fetch 192 14 = some (.ireturn, 1) := rfl
theorem f190_0 : pm_fetch 190 0 = some (.aload_n 0, 1) := rfl
theorem f190_1 : pm_fetch 190 1 = some (.getfield 9, 3) := rfl
theorem f190_4 : pm_fetch 190 4 = some (.arraylength, 1) := rfl
theorem f190_5 : pm_fetch 190 5 = some (.aload_n 0, 1) := rfl
theorem f190_6 : pm_fetch 190 6 = some (.invokevirtual 335, 3) := rfl
theorem f190_9 : pm_fetch 190 9 = some (.ishr, 1) := rfl
theorem f190_10 : pm_fetch 190 10 = some (.ireturn, 1) := rfl
theorem f193_0 : pm_fetch 193 0 = some (.getstatic 38, 3) := rfl
theorem f193_3 : pm_fetch 193 3 = some (.ifCond .eq 14, 3) := rfl
theorem f193_6 : pm_fetch 193 6 = some (.aload_n 0, 1) := rfl
theorem f193_7 : pm_fetch 193 7 = some (.getfield 15, 3) := rfl
theorem f193_10 : pm_fetch 193 10 = some (.ifCond .ne 7, 3) := rfl
theorem f193_13 : pm_fetch 193 13 = some (.iconst 1, 1) := rfl
theorem f193_14 : pm_fetch 193 14 = some (.goto 4, 3) := rfl
theorem f193_17 : pm_fetch 193 17 = some (.iconst 0, 1) := rfl
theorem f193_18 : pm_fetch 193 18 = some (.ireturn, 1) := rfl
theorem f196_0 : pm_fetch 196 0 = some (.iload_n 0, 1) := rfl
theorem f196_1 : pm_fetch 196 1 = some (.ifCond .lt 8, 3) := rfl
theorem f196_4 : pm_fetch 196 4 = some (.iload_n 0, 1) := rfl
theorem f196_5 : pm_fetch 196 5 = some (.iload_n 1, 1) := rfl
theorem f196_6 : pm_fetch 196 6 = some (.if_icmp .lt 10, 3) := rfl
theorem f196_9 : pm_fetch 196 9 = some (.aload_n 2, 1) := rfl
theorem f196_10 : pm_fetch 196 10 = some (.iload_n 0, 1) := rfl
theorem f196_11 : pm_fetch 196 11 = some (.iload_n 1, 1) := rfl
theorem f196_16 : pm_fetch 196 16 = some (.iload_n 0, 1) := rfl
theorem f196_17 : pm_fetch 196 17 = some (.ireturn, 1) := rfl
theorem f194_0 : pm_fetch 194 0 = some (.iload_n 0, 1) := rfl
theorem f194_1 : pm_fetch 194 1 = some (.iload_n 1, 1) := rfl
theorem f194_2 : pm_fetch 194 2 = some (.getstatic 1053, 3) := rfl
theorem f194_5 : pm_fetch 194 5 = some (.invokestatic 1059, 3) := rfl
theorem f194_8 : pm_fetch 194 8 = some (.pop, 1) := rfl
theorem f194_9 : pm_fetch 194 9 = some (.return_, 1) := rfl
theorem f195_0 : pm_fetch 195 0 = some (.iload_n 1, 1) := rfl
theorem f195_1 : pm_fetch 195 1 = some (.aload_n 0, 1) := rfl
theorem f195_2 : pm_fetch 195 2 = some (.arraylength, 1) := rfl
theorem f195_3 : pm_fetch 195 3 = some (.invokestatic 9, 3) := rfl
theorem f195_6 : pm_fetch 195 6 = some (.aload_n 0, 1) := rfl
theorem f195_7 : pm_fetch 195 7 = some (.iload_n 1, 1) := rfl
theorem f195_8 : pm_fetch 195 8 = some (.baload, 1) := rfl
theorem f195_9 : pm_fetch 195 9 = some (.sipush 255, 3) := rfl
theorem f195_12 : pm_fetch 195 12 = some (.iand, 1) := rfl
theorem f195_13 : pm_fetch 195 13 = some (.i2c, 1) := rfl
theorem f195_14 : pm_fetch 195 14 = some (.ireturn, 1) := rfl
theorem f191_0 : pm_fetch 191 0 = some (.aload_n 0, 1) := rfl
theorem f191_1 : pm_fetch 191 1 = some (.invokevirtual 492, 3) := rfl
theorem f191_4 : pm_fetch 191 4 = some (.ifCond .eq 12, 3) := rfl
theorem f191_7 : pm_fetch 191 7 = some (.aload_n 0, 1) := rfl
theorem f191_8 : pm_fetch 191 8 = some (.getfield 9, 3) := rfl
theorem f191_11 : pm_fetch 191 11 = some (.iload_n 1, 1) := rfl
theorem f191_12 : pm_fetch 191 12 = some (.invokestatic 495, 3) := rfl
theorem f191_15 : pm_fetch 191 15 = some (.ireturn, 1) := rfl
theorem f191_16 : pm_fetch 191 16 = some (.aload_n 0, 1) := rfl
theorem f191_17 : pm_fetch 191 17 = some (.getfield 9, 3) := rfl
theorem f191_20 : pm_fetch 191 20 = some (.iload_n 1, 1) := rfl
/-- java/lang/Integer.bitCount(I)I -/
def Ji_bitCount (h : pm_H) (a0 : Int32) : Option (pm_H × Int32) := nmd (a0 - ((((a0).toUInt32 >>> ((1).toUInt32 &&& Int32.toUInt32 31)).toInt32) &&& 1431655765)) fun y1q => nmd ((y1q &&& 858993459) + ((((y1q).toUInt32 >>> ((2).toUInt32 &&& Int32.toUInt32 31)).toInt32) &&& 858993459)) fun y2q => nmd ((y2q + (((y2q).toUInt32 >>> ((4).toUInt32 &&& Int32.toUInt32 31)).toInt32)) &&& 252645135) fun y3q => nmd (y3q + (((y3q).toUInt32 >>> ((8).toUInt32 &&& Int32.toUInt32 31)).toInt32)) fun y4q => nmd (y4q + (((y4q).toUInt32 >>> ((16).toUInt32 &&& Int32.toUInt32 31)).toInt32)) fun y5q => some (h, (y5q &&& 63))
/-- java/lang/Long.bitCount(J)I -/
def Jl_bitCount (h : pm_H) (a0 : Int64) : Option (pm_H × Int32) := nmd (a0 - ((((a0).toUInt64 >>> ((1 : Int32).toInt64.toUInt64 &&& Int64.toUInt64 63)).toInt64) &&& 6148914691236517205)) fun y1q => nmd ((y1q &&& 3689348814741910323) + ((((y1q).toUInt64 >>> ((2 : Int32).toInt64.toUInt64 &&& Int64.toUInt64 63)).toInt64) &&& 3689348814741910323)) fun y2q => nmd ((y2q + (((y2q).toUInt64 >>> ((4 : Int32).toInt64.toUInt64 &&& Int64.toUInt64 63)).toInt64)) &&& 1085102592571150095) fun y3q => nmd (y3q + (((y3q).toUInt64 >>> ((8 : Int32).toInt64.toUInt64 &&& Int64.toUInt64 63)).toInt64)) fun y4q => nmd (y4q + (((y4q).toUInt64 >>> ((16 : Int32).toInt64.toUInt64 &&& Int64.toUInt64 63)).toInt64)) fun y5q => nmd (y5q + (((y5q).toUInt64 >>> ((32 : Int32).toInt64.toUInt64 &&& Int64.toUInt64 63)).toInt64)) fun y6q => some (h, ((Int64.toInt32 y6q) &&& 127))
/-- java/util/Arrays.fill([II)V -/
def Ja_fill_5 : Nat → pm_H → Option Nat → Int32 → Int32 → Int32 → Option (pm_H × Unit)
  | 0, _, _, _, _, _ => none
  | n + 1, h, l0, l1, l2, l3 => if l3 ≤ l2 then (some (h, ())) else (bnd l0 fun u2q => bnd (op_sI h u2q l2 l1) fun h3q => nmd (l2 + 1) fun y4q => Ja_fill_5 n h3q (some u2q) l1 y4q l3)
def Ja_fill (h : pm_H) (a0 : Option Nat) (a1 : Int32) : Option (pm_H × Unit) := bnd a0 fun u1q => bnd (op_ln h u1q) fun x2q => Ja_fill_5 1000 h (some u1q) a1 0 x2q
/-- java/util/Arrays.checkLength(II)V -/
def Ja_checkLength (h : pm_H) (a0 : Int32) (a1 : Int32) : Option (pm_H × Unit) := if a0 ≤ a1 then (some (h, ())) else (none)
/-- java/util/Arrays.copyOfRangeInt([III)[I -/
def Ja_copyOfRangeInt (h : pm_H) (a0 : Option Nat) (a1 : Int32) (a2 : Int32) : Option (pm_H × Option Nat) := bn2 (Ja_checkLength h a1 a2) fun h1q _ => nmd (a2 - a1) fun y3q => bnd (op_nI h1q y3q) fun h4q => nmd (List.length h1q) fun b5q => bnd a0 fun u6q => bnd (op_ln h4q u6q) fun x7q => bnd (op_cp h4q u6q a1 b5q 0 (if y3q < (x7q - a1) then y3q else (x7q - a1))) fun h8q => some (h8q, (some b5q))
/-- java/util/Arrays.copyOfRange([III)[I -/
def Ja_copyOfRange_10 (h : pm_H) (l0 : Option Nat) (l1 : Int32) (l2 : Int32) : Option (pm_H × Option Nat) := bn2 (Ja_copyOfRangeInt h l0 l1 l2) fun h1q x2q => some (h1q, x2q)
def Ja_copyOfRange (h : pm_H) (a0 : Option Nat) (a1 : Int32) (a2 : Int32) : Option (pm_H × Option Nat) := if a1 = 0 then (bnd a0 fun u2q => bnd (op_ln h u2q) fun x3q => if a2 = x3q then (none) else (Ja_copyOfRange_10 h (some u2q) a1 a2)) else (Ja_copyOfRange_10 h a0 a1 a2)
/-- java/lang/String.coder()B -/
def Js_coder (h : pm_H) (t : Nat) : Option (pm_H × Int32) := if (1 : Int32) = 0 then (grd (decide (narrow .byte (.int 1) = .int 1)) <| some (h, 1)) else (grd (decide (t < 12)) <| grd (decide (narrow .byte (.int 0) = .int 0)) <| some (h, 0))
/-- java/lang/String.length()I -/
def Js_length (h : pm_H) (t : Nat) : Option (pm_H × Int32) := grd (decide (t < 12)) <| grd (decide (t < 12)) <| grd (decide (t < 12)) <| bn2 (Js_coder h t) fun h3q x4q => some (h3q, ((nI (pm_slen t)) >>> (x4q &&& 31)))
/-- java/lang/String.isLatin1()Z -/
def Js_isLatin1 (h : pm_H) (t : Nat) : Option (pm_H × Int32) := if (1 : Int32) = 0 then (some (h, 0)) else (grd (decide (t < 12)) <| if (0 : Int32) = 0 then (some (h, 1)) else (some (h, 0)))
/-- jdk/internal/util/Preconditions.checkIndex(IILjava/util/function/BiFunction;)I -/
def Jp_checkIndex_9 (h : pm_H) (l0 : Int32) (l1 : Int32) (l2 : Unit) : Option (pm_H × Int32) := none
def Jp_checkIndex (h : pm_H) (a0 : Int32) (a1 : Int32) (a2 : Unit) : Option (pm_H × Int32) := if a0 < 0 then (Jp_checkIndex_9 h a0 a1 a2) else (if a0 < a1 then (some (h, a0)) else (Jp_checkIndex_9 h a0 a1 a2))
/-- java/lang/String.checkIndex(II)V -/
def Js_checkIndex (h : pm_H) (a0 : Int32) (a1 : Int32) : Option (pm_H × Unit) := bn2 (Jp_checkIndex h a0 a1 ()) fun h1q x2q => some (h1q, ())
/-- java/lang/StringLatin1.charAt([BI)C -/
def Jc_charAt (h : pm_H) (a0 : Nat) (a1 : Int32) : Option (pm_H × Int32) := grd (decide (a0 < 12)) <| bn2 (Js_checkIndex h a1 (nI (pm_slen a0))) fun h2q _ => grd (decide (a0 < 12)) <| grd (!decide (a1 < 0 ∨ pm_slen a0 ≤ (a1).toNatClampNeg)) <| grd (decide (narrow .char (.int (UInt32.toInt32 (Int32.toUInt32 ((pm_sch a0 (a1).toNatClampNeg) &&& 255) % 65536))) = .int (UInt32.toInt32 (Int32.toUInt32 ((pm_sch a0 (a1).toNatClampNeg) &&& 255) % 65536)))) <| some (h2q, (UInt32.toInt32 (Int32.toUInt32 ((pm_sch a0 (a1).toNatClampNeg) &&& 255) % 65536)))
/-- java/lang/String.charAt(I)C -/
def Js_charAt (h : pm_H) (t : Nat) (a1 : Int32) : Option (pm_H × Int32) := grd (decide (t < 12)) <| bn2 (Js_isLatin1 h t) fun h1q x2q => if x2q = 0 then (grd (decide (t < 12)) <| none) else (grd (decide (t < 12)) <| bn2 (Jc_charAt h1q t a1) fun h7q x8q => grd (decide (narrow .char (.int x8q) = .int x8q)) <| some (h7q, x8q))
theorem P_Ji_bitCount {d : Nat} {h h' : pm_H} {r : Int32} {a0 : Int32} (hB : Ji_bitCount h a0 = some (h', r)) : pm_ev (d + 1) 184 [.int a0] h (some (.int r)) h' := by
  unfold Ji_bitCount at hB
  refine pm_ev_mk (L := [.int a0]) pm_m_184 rfl (Nat.le_of_ble_eq_true rfl) rfl ?_
  refine r_iload_n f184_0 rfl ?_
  refine r_iload_n f184_1 rfl ?_
  refine r_iconst f184_2 ci_1 ?_
  refine r_iushr f184_3 ?_
  refine r_ldc_w (v := 1431655765) (p := 276) f184_4 rfl ?_
  refine r_iand f184_7 ?_
  refine r_isub f184_8 ?_
  obtain ⟨y1q, hy1q⟩ : ∃ z, z = (a0 - ((((a0).toUInt32 >>> ((1).toUInt32 &&& Int32.toUInt32 31)).toInt32) &&& 1431655765)) := ⟨_, rfl⟩
  replace hB := nmd_at hy1q hB
  refine r_istore_n (L' := [.int y1q]) (x := y1q) f184_9 hy1q (Nat.le_of_ble_eq_true rfl) rfl ?_
  refine r_iload_n f184_10 rfl ?_
  refine r_ldc_w (v := 858993459) (p := 277) f184_11 rfl ?_
  refine r_iand f184_14 ?_
  refine r_iload_n f184_15 rfl ?_
  refine r_iconst f184_16 ci_2 ?_
  refine r_iushr f184_17 ?_
  refine r_ldc_w (v := 858993459) (p := 277) f184_18 rfl ?_
  refine r_iand f184_21 ?_
  refine r_iadd f184_22 ?_
  obtain ⟨y2q, hy2q⟩ : ∃ z, z = ((y1q &&& 858993459) + ((((y1q).toUInt32 >>> ((2).toUInt32 &&& Int32.toUInt32 31)).toInt32) &&& 858993459)) := ⟨_, rfl⟩
  replace hB := nmd_at hy2q hB
  refine r_istore_n (L' := [.int y2q]) (x := y2q) f184_23 hy2q (Nat.le_of_ble_eq_true rfl) rfl ?_
  refine r_iload_n f184_24 rfl ?_
  refine r_iload_n f184_25 rfl ?_
  refine r_iconst f184_26 ci_4 ?_
  refine r_iushr f184_27 ?_
  refine r_iadd f184_28 ?_
  refine r_ldc_w (v := 252645135) (p := 278) f184_29 rfl ?_
  refine r_iand f184_32 ?_
  obtain ⟨y3q, hy3q⟩ : ∃ z, z = ((y2q + (((y2q).toUInt32 >>> ((4).toUInt32 &&& Int32.toUInt32 31)).toInt32)) &&& 252645135) := ⟨_, rfl⟩
  replace hB := nmd_at hy3q hB
  refine r_istore_n (L' := [.int y3q]) (x := y3q) f184_33 hy3q (Nat.le_of_ble_eq_true rfl) rfl ?_
  refine r_iload_n f184_34 rfl ?_
  refine r_iload_n f184_35 rfl ?_
  refine r_bipush f184_36 cb_8 ?_
  refine r_iushr f184_38 ?_
  refine r_iadd f184_39 ?_
  obtain ⟨y4q, hy4q⟩ : ∃ z, z = (y3q + (((y3q).toUInt32 >>> ((8).toUInt32 &&& Int32.toUInt32 31)).toInt32)) := ⟨_, rfl⟩
  replace hB := nmd_at hy4q hB
  refine r_istore_n (L' := [.int y4q]) (x := y4q) f184_40 hy4q (Nat.le_of_ble_eq_true rfl) rfl ?_
  refine r_iload_n f184_41 rfl ?_
  refine r_iload_n f184_42 rfl ?_
  refine r_bipush f184_43 cb_16 ?_
  refine r_iushr f184_45 ?_
  refine r_iadd f184_46 ?_
  obtain ⟨y5q, hy5q⟩ : ∃ z, z = (y4q + (((y4q).toUInt32 >>> ((16).toUInt32 &&& Int32.toUInt32 31)).toInt32)) := ⟨_, rfl⟩
  replace hB := nmd_at hy5q hB
  refine r_istore_n (L' := [.int y5q]) (x := y5q) f184_47 hy5q (Nat.le_of_ble_eq_true rfl) rfl ?_
  refine r_iload_n f184_48 rfl ?_
  refine r_bipush f184_49 cb_63 ?_
  refine r_iand f184_51 ?_
  exact r_iret pm_m_184 .int f184_52 rfl rfl rfl (zI hB)
theorem P_Jl_bitCount {d : Nat} {h h' : pm_H} {r : Int32} {a0 : Int64} (hB : Jl_bitCount h a0 = some (h', r)) : pm_ev (d + 1) 185 [.long a0] h (some (.int r)) h' := by
  unfold Jl_bitCount at hB
  refine pm_ev_mk (L := [.long a0, pm_J]) pm_m_185 rfl (Nat.le_of_ble_eq_true rfl) rfl ?_
  refine r_lload_n f185_0 rfl ?_
  refine r_lload_n f185_1 rfl ?_
  refine r_iconst f185_2 ci_1 ?_
  refine r_lushr f185_3 ?_
  refine r_ldc2_w (v := 6148914691236517205) (p := 282) f185_4 rfl ?_
  refine r_land f185_7 ?_
  refine r_lsub f185_8 ?_
  obtain ⟨y1q, hy1q⟩ : ∃ z, z = (a0 - ((((a0).toUInt64 >>> ((1 : Int32).toInt64.toUInt64 &&& Int64.toUInt64 63)).toInt64) &&& 6148914691236517205)) := ⟨_, rfl⟩
  replace hB := nmd_at hy1q hB
  refine r_lstore_n (L' := [.long y1q, pm_J]) (x := y1q) f185_9 hy1q (Nat.le_of_ble_eq_true rfl) rfl ?_
  refine r_lload_n f185_10 rfl ?_
  refine r_ldc2_w (v := 3689348814741910323) (p := 283) f185_11 rfl ?_
  refine r_land f185_14 ?_
  refine r_lload_n f185_15 rfl ?_
  refine r_iconst f185_16 ci_2 ?_
  refine r_lushr f185_17 ?_
  refine r_ldc2_w (v := 3689348814741910323) (p := 283) f185_18 rfl ?_
  refine r_land f185_21 ?_
  refine r_ladd f185_22 ?_
  obtain ⟨y2q, hy2q⟩ : ∃ z, z = ((y1q &&& 3689348814741910323) + ((((y1q).toUInt64 >>> ((2 : Int32).toInt64.toUInt64 &&& Int64.toUInt64 63)).toInt64) &&& 3689348814741910323)) := ⟨_, rfl⟩
  replace hB := nmd_at hy2q hB
  refine r_lstore_n (L' := [.long y2q, pm_J]) (x := y2q) f185_23 hy2q (Nat.le_of_ble_eq_true rfl) rfl ?_
  refine r_lload_n f185_24 rfl ?_
  refine r_lload_n f185_25 rfl ?_
  refine r_iconst f185_26 ci_4 ?_
  refine r_lushr f185_27 ?_
  refine r_ladd f185_28 ?_
  refine r_ldc2_w (v := 1085102592571150095) (p := 284) f185_29 rfl ?_
  refine r_land f185_32 ?_
  obtain ⟨y3q, hy3q⟩ : ∃ z, z = ((y2q + (((y2q).toUInt64 >>> ((4 : Int32).toInt64.toUInt64 &&& Int64.toUInt64 63)).toInt64)) &&& 1085102592571150095) := ⟨_, rfl⟩
  replace hB := nmd_at hy3q hB
  refine r_lstore_n (L' := [.long y3q, pm_J]) (x := y3q) f185_33 hy3q (Nat.le_of_ble_eq_true rfl) rfl ?_
  refine r_lload_n f185_34 rfl ?_
  refine r_lload_n f185_35 rfl ?_
  refine r_bipush f185_36 cb_8 ?_
  refine r_lushr f185_38 ?_
  refine r_ladd f185_39 ?_
  obtain ⟨y4q, hy4q⟩ : ∃ z, z = (y3q + (((y3q).toUInt64 >>> ((8 : Int32).toInt64.toUInt64 &&& Int64.toUInt64 63)).toInt64)) := ⟨_, rfl⟩
  replace hB := nmd_at hy4q hB
  refine r_lstore_n (L' := [.long y4q, pm_J]) (x := y4q) f185_40 hy4q (Nat.le_of_ble_eq_true rfl) rfl ?_
  refine r_lload_n f185_41 rfl ?_
  refine r_lload_n f185_42 rfl ?_
  refine r_bipush f185_43 cb_16 ?_
  refine r_lushr f185_45 ?_
  refine r_ladd f185_46 ?_
  obtain ⟨y5q, hy5q⟩ : ∃ z, z = (y4q + (((y4q).toUInt64 >>> ((16 : Int32).toInt64.toUInt64 &&& Int64.toUInt64 63)).toInt64)) := ⟨_, rfl⟩
  replace hB := nmd_at hy5q hB
  refine r_lstore_n (L' := [.long y5q, pm_J]) (x := y5q) f185_47 hy5q (Nat.le_of_ble_eq_true rfl) rfl ?_
  refine r_lload_n f185_48 rfl ?_
  refine r_lload_n f185_49 rfl ?_
  refine r_bipush f185_50 cb_32 ?_
  refine r_lushr f185_52 ?_
  refine r_ladd f185_53 ?_
  obtain ⟨y6q, hy6q⟩ : ∃ z, z = (y5q + (((y5q).toUInt64 >>> ((32 : Int32).toInt64.toUInt64 &&& Int64.toUInt64 63)).toInt64)) := ⟨_, rfl⟩
  replace hB := nmd_at hy6q hB
  refine r_lstore_n (L' := [.long y6q, pm_J]) (x := y6q) f185_54 hy6q (Nat.le_of_ble_eq_true rfl) rfl ?_
  refine r_lload_n f185_55 rfl ?_
  refine r_l2i f185_56 ?_
  refine r_bipush f185_57 cb_127 ?_
  refine r_iand f185_59 ?_
  exact r_iret pm_m_185 .int f185_60 rfl rfl rfl (zI hB)
theorem P_Ja_fill_5 {d : Nat} {h' : pm_H} {r : Unit} (n : Nat) : ∀ (h : pm_H) (l0 : Option Nat) (l1 : Int32) (l2 : Int32) (l3 : Int32), Ja_fill_5 n h l0 l1 l2 l3 = some (h', r) → pm_run (pm_ev (d + 0)) 186 5 [va_rf l0, .int l1, .int l2, .int l3] [] h (fun r1 h1 => r1 = none ∧ h1 = h') := by
  induction n with
  | zero => intro h l0 l1 l2 l3 hB; cases hB
  | succ n ih =>
    intro h l0 l1 l2 l3 hB
    unfold Ja_fill_5 at hB
    refine r_iload_n f186_5 rfl ?_
    refine r_iload_n f186_6 rfl ?_
    by_cases c1q : l3 ≤ l2
    · rw [if_pos c1q] at hB
      refine r_ic_t (t := 20) f186_7 (by decide) c1q ?_
      exact r_vret pm_m_186 f186_20 rfl rfl (zV hB)
    · rw [if_neg c1q] at hB
      refine r_ic_f 20 f186_7 (by decide) c1q ?_
      refine r_aload_n f186_10 rfl ?_
      refine r_iload_n f186_11 rfl ?_
      refine r_iload_n f186_12 rfl ?_
      replace hB := bnd_some hB
      obtain ⟨u2q, rfl, hB⟩ := hB
      replace hB := bnd_some hB
      obtain ⟨h3q, eh3q, hB⟩ := hB
      refine r_sI f186_13 eh3q ?_
      obtain ⟨y4q, hy4q⟩ : ∃ z, z = l2 + 1 := ⟨_, rfl⟩
      replace hB := nmd_at hy4q hB
      refine r_iinc (L' := [.ref u2q, .int l1, .int y4q, .int l3]) (x := y4q) f186_14 rfl (hy4q.trans (congrArg (l2 + ·) ci_1.symm)) rfl ?_
      refine r_goto (t := 5) f186_17 (by decide) ?_
      exact pm_weak (L' := [va_rf (some u2q), .int l1, .int y4q, .int l3]) ⟨.inr rfl, .inr rfl, .inr rfl, .inr rfl, trivial⟩ (ih h3q (some u2q) l1 y4q l3 hB)
theorem P_Ja_fill {d : Nat} {h h' : pm_H} {r : Unit} {a0 : Option Nat} {a1 : Int32} (hB : Ja_fill h a0 a1 = some (h', r)) : pm_ev (d + 1) 186 [va_rf a0, .int a1] h none h' := by
  unfold Ja_fill at hB
  refine pm_ev_mk (L := [va_rf a0, .int a1, pm_J, pm_J]) pm_m_186 rfl (by simp only [pm_ar, rf_ar]; exact Nat.le_of_ble_eq_true rfl) (by simp only [pm_in, pm_ar, rf_ar]; rfl) ?_
  refine r_iconst f186_0 ci_0 ?_
  refine r_istore_n (L' := [va_rf a0, .int a1, .int 0, pm_J]) (x := 0) f186_1 rfl (Nat.le_of_ble_eq_true rfl) rfl ?_
  refine r_aload_n f186_2 rfl ?_
  replace hB := bnd_some hB
  obtain ⟨u1q, rfl, hB⟩ := hB
  replace hB := bnd_some hB
  obtain ⟨x2q, ex2q, hB⟩ := hB
  refine r_ln f186_3 ex2q ?_
  refine r_istore_n (L' := [.ref u1q, .int a1, .int 0, .int x2q]) (x := x2q) f186_4 rfl (Nat.le_of_ble_eq_true rfl) rfl ?_
  exact pm_weak (L' := [va_rf (some u1q), .int a1, .int 0, .int x2q]) ⟨.inr rfl, .inr rfl, .inr rfl, .inr rfl, trivial⟩ (P_Ja_fill_5 (d := d) 1000 h (some u1q) a1 0 x2q hB)
theorem P_Ja_checkLength {d : Nat} {h h' : pm_H} {r : Unit} {a0 : Int32} {a1 : Int32} (hB : Ja_checkLength h a0 a1 = some (h', r)) : pm_ev (d + 1) 187 [.int a0, .int a1] h none h' := by
  unfold Ja_checkLength at hB
  refine pm_ev_mk (L := [.int a0, .int a1]) pm_m_187 rfl (Nat.le_of_ble_eq_true rfl) rfl ?_
  refine r_iload_n f187_0 rfl ?_
  refine r_iload_n f187_1 rfl ?_
  by_cases c1q : a0 ≤ a1
  · rw [if_pos c1q] at hB
    refine r_ic_t (t := 37) f187_2 (by decide) c1q ?_
    exact r_vret pm_m_187 f187_37 rfl rfl (zV hB)
  · rw [if_neg c1q] at hB
    refine r_ic_f 37 f187_2 (by decide) c1q ?_
    cases hB
theorem P_Ja_copyOfRangeInt {d : Nat} {h h' : pm_H} {r : Option Nat} {a0 : Option Nat} {a1 : Int32} {a2 : Int32} (hB : Ja_copyOfRangeInt h a0 a1 a2 = some (h', r)) : pm_ev (d + 2) 189 [va_rf a0, .int a1, .int a2] h (some (va_rf r)) h' := by
  unfold Ja_copyOfRangeInt at hB
  refine pm_ev_mk (L := [va_rf a0, .int a1, .int a2, pm_J, pm_J]) pm_m_189 rfl (by simp only [pm_ar, rf_ar]; exact Nat.le_of_ble_eq_true rfl) (by simp only [pm_in, pm_ar, rf_ar]; rfl) ?_
  refine r_iload_n f189_0 rfl ?_
  refine r_iload_n f189_1 rfl ?_
  replace hB := bn2_some hB
  obtain ⟨h1q, _, eh1q, hB⟩ := hB
  refine r_statN (as := [.int a1, .int a2]) (q := pm_m_187) f189_2 ca_11_343 rfl (by decide) rfl rfl (cs_len (Nat.le_of_ble_eq_true rfl)) (P_Ja_checkLength (d := d + 0) eh1q) ?_
  refine r_iload_n f189_5 rfl ?_
  refine r_iload_n f189_6 rfl ?_
  refine r_isub f189_7 ?_
  obtain ⟨y3q, hy3q⟩ : ∃ z, z = (a2 - a1) := ⟨_, rfl⟩
  replace hB := nmd_at hy3q hB
  refine r_istore_n (L' := [va_rf a0, .int a1, .int a2, .int y3q, pm_J]) (x := y3q) f189_8 hy3q (Nat.le_of_ble_eq_true rfl) rfl ?_
  refine r_iload_n f189_9 rfl ?_
  replace hB := bnd_some hB
  obtain ⟨h4q, eh4q, hB⟩ := hB
  refine r_nI f189_10 eh4q ?_
  obtain ⟨b5q, hb5q⟩ : ∃ z, z = List.length h1q := ⟨_, rfl⟩
  replace hB := nmd_at hb5q hB
  rw [← hb5q]
  refine r_astoreN (L' := [va_rf a0, .int a1, .int a2, .int y3q, .ref b5q]) f189_12 (Nat.le_of_ble_eq_true rfl) rfl ?_
  refine r_aload_n f189_14 rfl ?_
  refine r_iload_n f189_15 rfl ?_
  refine r_aloadN f189_16 rfl ?_
  refine r_iconst f189_18 ci_0 ?_
  refine r_aload_n f189_19 rfl ?_
  replace hB := bnd_some hB
  obtain ⟨u6q, rfl, hB⟩ := hB
  replace hB := bnd_some hB
  obtain ⟨x7q, ex7q, hB⟩ := hB
  refine r_ln f189_20 ex7q ?_
  refine r_iload_n f189_21 rfl ?_
  refine r_isub f189_22 ?_
  refine r_iload_n f189_23 rfl ?_
  refine r_min (e := 467) f189_24 rfl (cs_len (Nat.le_of_ble_eq_true rfl)) ?_
  replace hB := bnd_some hB
  obtain ⟨h8q, eh8q, hB⟩ := hB
  refine r_cpy (e := 470) f189_27 rfl (cs_len (Nat.le_of_ble_eq_true rfl)) eh8q ?_
  refine r_aloadN f189_30 rfl ?_
  exact r_aret (r := (some b5q)) pm_m_189 (.array .int) f189_32 rfl rfl (by exact Or.inr ⟨_, rfl⟩) (zA hB)
theorem P_Ja_copyOfRange_10 {d : Nat} {h' : pm_H} {r : Option Nat} (h : pm_H) (l0 : Option Nat) (l1 : Int32) (l2 : Int32) (hB : Ja_copyOfRange_10 h l0 l1 l2 = some (h', r)) : pm_run (pm_ev (d + 2)) 188 10 [va_rf l0, .int l1, .int l2] [] h (fun r1 h1 => r1 = some (va_rf r) ∧ h1 = h') := by
  unfold Ja_copyOfRange_10 at hB
  refine r_aload_n f188_10 rfl ?_
  refine r_iload_n f188_11 rfl ?_
  refine r_iload_n f188_12 rfl ?_
  replace hB := bn2_some hB
  obtain ⟨h1q, x2q, eh1q, hB⟩ := hB
  refine r_statV (as := [va_rf l0, .int l1, .int l2]) (q := pm_m_189) f188_13 ca_11_351 rfl (by decide) rfl rfl (cs_len (Nat.le_of_ble_eq_true rfl)) (P_Ja_copyOfRangeInt (d := d + 0) eh1q) ?_
  exact r_aret (r := x2q) pm_m_188 (.array .int) f188_16 rfl rfl (by exact Or.inr ⟨_, rfl⟩) (zA hB)
theorem P_Ja_copyOfRange {d : Nat} {h h' : pm_H} {r : Option Nat} {a0 : Option Nat} {a1 : Int32} {a2 : Int32} (hB : Ja_copyOfRange h a0 a1 a2 = some (h', r)) : pm_ev (d + 3) 188 [va_rf a0, .int a1, .int a2] h (some (va_rf r)) h' := by
  unfold Ja_copyOfRange at hB
  refine pm_ev_mk (L := [va_rf a0, .int a1, .int a2]) pm_m_188 rfl (by simp only [pm_ar, rf_ar]; exact Nat.le_of_ble_eq_true rfl) (by simp only [pm_in, pm_ar, rf_ar]; rfl) ?_
  refine r_iload_n f188_0 rfl ?_
  by_cases c1q : a1 = 0
  · rw [if_pos c1q] at hB
    refine r_if_f 10 f188_1 (by decide) (fun q => q c1q) ?_
    refine r_iload_n f188_4 rfl ?_
    refine r_aload_n f188_5 rfl ?_
    replace hB := bnd_some hB
    obtain ⟨u2q, rfl, hB⟩ := hB
    replace hB := bnd_some hB
    obtain ⟨x3q, ex3q, hB⟩ := hB
    refine r_ln f188_6 ex3q ?_
    by_cases c4q : a2 = x3q
    · rw [if_pos c4q] at hB
      refine r_ic_t (t := 17) f188_7 (by decide) c4q ?_
      refine r_aload_nN f188_17 rfl ?_
      cases hB
    · rw [if_neg c4q] at hB
      refine r_ic_f 17 f188_7 (by decide) c4q ?_
      exact pm_weak (L' := [va_rf (some u2q), .int a1, .int a2]) ⟨.inr rfl, .inr rfl, .inr rfl, trivial⟩ (P_Ja_copyOfRange_10 (d := d) h (some u2q) a1 a2 hB)
  · rw [if_neg c1q] at hB
    refine r_if_t (t := 10) f188_1 (by decide) c1q ?_
    exact pm_weak (L' := [va_rf a0, .int a1, .int a2]) ⟨.inr rfl, .inr rfl, .inr rfl, trivial⟩ (P_Ja_copyOfRange_10 (d := d) h a0 a1 a2 hB)
theorem P_Js_coder {d : Nat} {h h' : pm_H} {r : Int32} {t : Nat} (hB : Js_coder h t = some (h', r)) : pm_ev (d + 1) 192 [.retAddr t] h (some (.int r)) h' := by
  unfold Js_coder at hB
  refine pm_ev_mk (L := [.retAddr t]) pm_m_192 rfl (Nat.le_of_ble_eq_true rfl) rfl ?_
  refine r_gst0 f192_0 rfl ?_
  by_cases c1q : (1 : Int32) = 0
  · rw [if_pos c1q] at hB
    refine r_if_t (t := 13) f192_3 (by decide) c1q ?_
    refine r_iconst f192_13 ci_1 ?_
    replace hB := grd_some hB
    obtain ⟨q2q, hB⟩ := hB
    exact r_iret pm_m_192 .byte f192_14 rfl rfl (of_decide_eq_true q2q) (zI hB)
  · rw [if_neg c1q] at hB
    refine r_if_f 13 f192_3 (by decide) c1q ?_
    refine r_aload_nS f192_6 rfl ?_
    replace hB := grd_some hB
    obtain ⟨j3q, hB⟩ := hB
    refine r_getSc f192_7 (of_decide_eq_true j3q) rfl ?_
    refine r_goto (t := 14) f192_10 (by decide) ?_
    replace hB := grd_some hB
    obtain ⟨q4q, hB⟩ := hB
    exact r_iret pm_m_192 .byte f192_14 rfl rfl (of_decide_eq_true q4q) (zI hB)
theorem P_Js_length {d : Nat} {h h' : pm_H} {r : Int32} {t : Nat} (hB : Js_length h t = some (h', r)) : pm_ev (d + 2) 190 [.retAddr t] h (some (.int r)) h' := by
  unfold Js_length at hB
  refine pm_ev_mk (L := [.retAddr t]) pm_m_190 rfl (Nat.le_of_ble_eq_true rfl) rfl ?_
  refine r_aload_nS f190_0 rfl ?_
  replace hB := grd_some hB
  obtain ⟨j1q, hB⟩ := hB
  refine r_getSv f190_1 (of_decide_eq_true j1q) rfl ?_
  replace hB := grd_some hB
  obtain ⟨j2q, hB⟩ := hB
  refine r_lnS f190_4 (of_decide_eq_true j2q) ?_
  refine r_aload_nS f190_5 rfl ?_
  replace hB := grd_some hB
  obtain ⟨g5q, hB⟩ := hB
  replace hB := bn2_some hB
  obtain ⟨h3q, x4q, eh3q, hB⟩ := hB
  refine r_virSV (as := []) (q := pm_m_192) f190_6 ca_12_335 rfl rfl rfl (cs_len (Nat.le_of_ble_eq_true rfl)) (of_decide_eq_true g5q) (P_Js_coder (d := d + 0) eh3q) ?_
  refine r_ishr f190_9 ?_
  exact r_iret pm_m_190 .int f190_10 rfl rfl rfl (zI hB)
theorem P_Js_isLatin1 {d : Nat} {h h' : pm_H} {r : Int32} {t : Nat} (hB : Js_isLatin1 h t = some (h', r)) : pm_ev (d + 1) 193 [.retAddr t] h (some (.int r)) h' := by
  unfold Js_isLatin1 at hB
  refine pm_ev_mk (L := [.retAddr t]) pm_m_193 rfl (Nat.le_of_ble_eq_true rfl) rfl ?_
  refine r_gst0 f193_0 rfl ?_
  by_cases c1q : (1 : Int32) = 0
  · rw [if_pos c1q] at hB
    refine r_if_t (t := 17) f193_3 (by decide) c1q ?_
    refine r_iconst f193_17 ci_0 ?_
    exact r_iret pm_m_193 .boolean f193_18 rfl rfl (bool_n (by decide)) (zI hB)
  · rw [if_neg c1q] at hB
    refine r_if_f 17 f193_3 (by decide) c1q ?_
    refine r_aload_nS f193_6 rfl ?_
    replace hB := grd_some hB
    obtain ⟨j2q, hB⟩ := hB
    refine r_getSc f193_7 (of_decide_eq_true j2q) rfl ?_
    by_cases c3q : (0 : Int32) = 0
    · rw [if_pos c3q] at hB
      refine r_if_f 17 f193_10 (by decide) (fun q => q c3q) ?_
      refine r_iconst f193_13 ci_1 ?_
      refine r_goto (t := 18) f193_14 (by decide) ?_
      exact r_iret pm_m_193 .boolean f193_18 rfl rfl (bool_n (by decide)) (zI hB)
    · rw [if_neg c3q] at hB
      refine r_if_t (t := 17) f193_10 (by decide) c3q ?_
      refine r_iconst f193_17 ci_0 ?_
      exact r_iret pm_m_193 .boolean f193_18 rfl rfl (bool_n (by decide)) (zI hB)
theorem P_Jp_checkIndex_9 {d : Nat} {h' : pm_H} {r : Int32} (h : pm_H) (l0 : Int32) (l1 : Int32) (l2 : Unit) (hB : Jp_checkIndex_9 h l0 l1 l2 = some (h', r)) : pm_run (pm_ev (d + 0)) 196 9 [.int l0, .int l1, .retAddr 999] [] h (fun r1 h1 => r1 = some (.int r) ∧ h1 = h') := by
  unfold Jp_checkIndex_9 at hB
  refine r_aload_nS f196_9 rfl ?_
  refine r_iload_n f196_10 rfl ?_
  refine r_iload_n f196_11 rfl ?_
  cases hB
theorem P_Jp_checkIndex {d : Nat} {h h' : pm_H} {r : Int32} {a0 : Int32} {a1 : Int32} {a2 : Unit} (hB : Jp_checkIndex h a0 a1 a2 = some (h', r)) : pm_ev (d + 1) 196 [.int a0, .int a1, .retAddr 999] h (some (.int r)) h' := by
  unfold Jp_checkIndex at hB
  refine pm_ev_mk (L := [.int a0, .int a1, .retAddr 999]) pm_m_196 rfl (Nat.le_of_ble_eq_true rfl) rfl ?_
  refine r_iload_n f196_0 rfl ?_
  by_cases c1q : a0 < 0
  · rw [if_pos c1q] at hB
    refine r_if_t (t := 9) f196_1 (by decide) c1q ?_
    exact pm_weak (L' := [.int a0, .int a1, .retAddr 999]) ⟨.inr rfl, .inr rfl, .inr rfl, trivial⟩ (P_Jp_checkIndex_9 (d := d) h a0 a1 a2 hB)
  · rw [if_neg c1q] at hB
    refine r_if_f 9 f196_1 (by decide) c1q ?_
    refine r_iload_n f196_4 rfl ?_
    refine r_iload_n f196_5 rfl ?_
    by_cases c2q : a0 < a1
    · rw [if_pos c2q] at hB
      refine r_ic_t (t := 16) f196_6 (by decide) c2q ?_
      refine r_iload_n f196_16 rfl ?_
      exact r_iret pm_m_196 .int f196_17 rfl rfl rfl (zI hB)
    · rw [if_neg c2q] at hB
      refine r_ic_f 16 f196_6 (by decide) c2q ?_
      exact pm_weak (L' := [.int a0, .int a1, .retAddr 999]) ⟨.inr rfl, .inr rfl, .inr rfl, trivial⟩ (P_Jp_checkIndex_9 (d := d) h a0 a1 a2 hB)
theorem P_Js_checkIndex {d : Nat} {h h' : pm_H} {r : Unit} {a0 : Int32} {a1 : Int32} (hB : Js_checkIndex h a0 a1 = some (h', r)) : pm_ev (d + 2) 194 [.int a0, .int a1] h none h' := by
  unfold Js_checkIndex at hB
  refine pm_ev_mk (L := [.int a0, .int a1]) pm_m_194 rfl (Nat.le_of_ble_eq_true rfl) rfl ?_
  refine r_iload_n f194_0 rfl ?_
  refine r_iload_n f194_1 rfl ?_
  refine r_gst1 f194_2 rfl ?_
  replace hB := bn2_some hB
  obtain ⟨h1q, x2q, eh1q, hB⟩ := hB
  refine r_statV (as := [.int a0, .int a1, .retAddr 999]) (q := pm_m_196) f194_5 ca_12_1059 rfl (by decide) rfl rfl (cs_len (Nat.le_of_ble_eq_true rfl)) (P_Jp_checkIndex (d := d + 0) eh1q) ?_
  refine r_popI f194_8 ?_
  exact r_vret pm_m_194 f194_9 rfl rfl (zV hB)
theorem P_Jc_charAt {d : Nat} {h h' : pm_H} {r : Int32} {a0 : Nat} {a1 : Int32} (hB : Jc_charAt h a0 a1 = some (h', r)) : pm_ev (d + 3) 195 [.retAddr (100 + a0), .int a1] h (some (.int r)) h' := by
  unfold Jc_charAt at hB
  refine pm_ev_mk (L := [.retAddr (100 + a0), .int a1]) pm_m_195 rfl (Nat.le_of_ble_eq_true rfl) rfl ?_
  refine r_iload_n f195_0 rfl ?_
  refine r_aload_nS f195_1 rfl ?_
  replace hB := grd_some hB
  obtain ⟨j1q, hB⟩ := hB
  refine r_lnS f195_2 (of_decide_eq_true j1q) ?_
  replace hB := bn2_some hB
  obtain ⟨h2q, _, eh2q, hB⟩ := hB
  refine r_statN (as := [.int a1, .int (nI (pm_slen a0))]) (q := pm_m_194) f195_3 ca_13_9 rfl (by decide) rfl rfl (cs_len (Nat.le_of_ble_eq_true rfl)) (P_Js_checkIndex (d := d + 0) eh2q) ?_
  refine r_aload_nS f195_6 rfl ?_
  refine r_iload_n f195_7 rfl ?_
  replace hB := grd_some hB
  obtain ⟨j4q, hB⟩ := hB
  replace hB := grd_some hB
  obtain ⟨j5q, hB⟩ := hB
  refine r_aBS f195_8 (of_decide_eq_true j4q) (of_decide_eq_false (by simpa using j5q)) ?_
  refine r_sipush f195_9 cs_255 ?_
  refine r_iand f195_12 ?_
  refine r_i2c f195_13 ?_
  replace hB := grd_some hB
  obtain ⟨q6q, hB⟩ := hB
  exact r_iret pm_m_195 .char f195_14 rfl rfl (of_decide_eq_true q6q) (zI hB)
theorem P_Js_charAt {d : Nat} {h h' : pm_H} {r : Int32} {t : Nat} {a1 : Int32} (hB : Js_charAt h t a1 = some (h', r)) : pm_ev (d + 4) 191 [.retAddr t, .int a1] h (some (.int r)) h' := by
  unfold Js_charAt at hB
  refine pm_ev_mk (L := [.retAddr t, .int a1]) pm_m_191 rfl (Nat.le_of_ble_eq_true rfl) rfl ?_
  refine r_aload_nS f191_0 rfl ?_
  replace hB := grd_some hB
  obtain ⟨g3q, hB⟩ := hB
  replace hB := bn2_some hB
  obtain ⟨h1q, x2q, eh1q, hB⟩ := hB
  refine r_virSV (as := []) (q := pm_m_193) f191_1 ca_12_492 rfl rfl rfl (cs_len (Nat.le_of_ble_eq_true rfl)) (of_decide_eq_true g3q) (P_Js_isLatin1 (d := d + 2) eh1q) ?_
  by_cases c4q : x2q = 0
  · rw [if_pos c4q] at hB
    refine r_if_t (t := 16) f191_4 (by decide) c4q ?_
    refine r_aload_nS f191_16 rfl ?_
    replace hB := grd_some hB
    obtain ⟨j5q, hB⟩ := hB
    refine r_getSv f191_17 (of_decide_eq_true j5q) rfl ?_
    refine r_iload_n f191_20 rfl ?_
    cases hB
  · rw [if_neg c4q] at hB
    refine r_if_f 16 f191_4 (by decide) c4q ?_
    refine r_aload_nS f191_7 rfl ?_
    replace hB := grd_some hB
    obtain ⟨j6q, hB⟩ := hB
    refine r_getSv f191_8 (of_decide_eq_true j6q) rfl ?_
    refine r_iload_n f191_11 rfl ?_
    replace hB := bn2_some hB
    obtain ⟨h7q, x8q, eh7q, hB⟩ := hB
    refine r_statV (as := [.retAddr (100 + t), .int a1]) (q := pm_m_195) f191_12 ca_12_495 rfl (by decide) rfl rfl (cs_len (Nat.le_of_ble_eq_true rfl)) (P_Jc_charAt (d := d + 0) eh7q) ?_
    replace hB := grd_some hB
    obtain ⟨q9q, hB⟩ := hB
    exact r_iret pm_m_191 .char f191_15 rfl rfl (of_decide_eq_true q9q) (zI hB)
