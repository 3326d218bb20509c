theorem f93_0 : pm_fetch 93 0 = some (.iload_n 0, 1) := rfl
theorem f93_1 : pm_fetch 93 1 = some (.iload_n 1, 1) := rfl
theorem f93_2 : pm_fetch 93 2 = some (.if_icmp .ge 7, 3) := rfl
theorem f93_5 : pm_fetch 93 5 = some (.iload_n 1, 1) := rfl
theorem f93_6 : pm_fetch 93 6 = some (.goto 13, 3) := rfl
theorem f93_9 : pm_fetch 93 9 = some (.iload_n 0, 1) := rfl
theorem f93_10 : pm_fetch 93 10 = some (.iload_n 2, 1) := rfl
theorem f93_11 : pm_fetch 93 11 = some (.if_icmp .le 7, 3) := rfl
theorem f93_14 : pm_fetch 93 14 = some (.iload_n 2, 1) := rfl
theorem f93_15 : pm_fetch 93 15 = some (.goto 4, 3) := rfl
theorem f93_18 : pm_fetch 93 18 = some (.iload_n 0, 1) := rfl
theorem f93_19 : pm_fetch 93 19 = some (.ireturn, 1) := rfl
theorem f0_0 : pm_fetch 0 0 = some (.aload_n 0, 1) := rfl
theorem f0_1 : pm_fetch 0 1 = some (.invokespecial 3, 3) := rfl
theorem f0_4 : pm_fetch 0 4 = some (.aload_n 0, 1) := rfl
theorem f0_5 : pm_fetch 0 5 = some (.iload_n 1, 1) := rfl
theorem f0_6 : pm_fetch 0 6 = some (.putfield 9, 3) := rfl
theorem f0_9 : pm_fetch 0 9 = some (.aload_n 0, 1) := rfl
theorem f0_10 : pm_fetch 0 10 = some (.iconst 1, 1) := rfl
theorem f0_11 : pm_fetch 0 11 = some (.putfield 15, 3) := rfl
theorem f0_14 : pm_fetch 0 14 = some (.aload_n 0, 1) := rfl
theorem f0_15 : pm_fetch 0 15 = some (.iconst 1, 1) := rfl
theorem f0_16 : pm_fetch 0 16 = some (.putfield 18, 3) := rfl
theorem f0_19 : pm_fetch 0 19 = some (.return_, 1) := rfl
theorem f1_0 : pm_fetch 1 0 = some (.aload_n 0, 1) := rfl
theorem f1_1 : pm_fetch 1 1 = some (.aload_n 1, 1) := rfl
theorem f1_2 : pm_fetch 1 2 = some (.getfield 22, 3) := rfl
theorem f1_5 : pm_fetch 1 5 = some (.putfield 22, 3) := rfl
theorem f1_8 : pm_fetch 1 8 = some (.aload_n 0, 1) := rfl
theorem f1_9 : pm_fetch 1 9 = some (.aload_n 1, 1) := rfl
theorem f1_10 : pm_fetch 1 10 = some (.getfield 25, 3) := rfl
theorem f1_13 : pm_fetch 1 13 = some (.putfield 25, 3) := rfl
theorem f1_16 : pm_fetch 1 16 = some (.aload_n 0, 1) := rfl
theorem f1_17 : pm_fetch 1 17 = some (.aload_n 1, 1) := rfl
theorem f1_18 : pm_fetch 1 18 = some (.getfield 28, 3) := rfl
theorem f1_21 : pm_fetch 1 21 = some (.putfield 28, 3) := rfl
theorem f1_24 : pm_fetch 1 24 = some (.aload_n 0, 1) := rfl
theorem f1_25 : pm_fetch 1 25 = some (.aload_n 1, 1) := rfl
theorem f1_26 : pm_fetch 1 26 = some (.getfield 15, 3) := rfl
theorem f1_29 : pm_fetch 1 29 = some (.putfield 15, 3) := rfl
theorem f1_32 : pm_fetch 1 32 = some (.aload_n 0, 1) := rfl
theorem f1_33 : pm_fetch 1 33 = some (.aload_n 1, 1) := rfl
theorem f1_34 : pm_fetch 1 34 = some (.getfield 31, 3) := rfl
theorem f1_37 : pm_fetch 1 37 = some (.putfield 31, 3) := rfl
theorem f1_40 : pm_fetch 1 40 = some (.aload_n 0, 1) := rfl
theorem f1_41 : pm_fetch 1 41 = some (.aload_n 1, 1) := rfl
theorem f1_42 : pm_fetch 1 42 = some (.getfield 18, 3) := rfl
theorem f1_45 : pm_fetch 1 45 = some (.putfield 18, 3) := rfl
theorem f1_48 : pm_fetch 1 48 = some (.return_, 1) := rfl
theorem f2_0 : pm_fetch 2 0 = some (.aload_n 0, 1) := rfl
theorem f2_1 : pm_fetch 2 1 = some (.getfield 28, 3) := rfl
theorem f2_4 : pm_fetch 2 4 = some (.aload_n 0, 1) := rfl
theorem f2_5 : pm_fetch 2 5 = some (.getfield 15, 3) := rfl
theorem f2_8 : pm_fetch 2 8 = some (.isub, 1) := rfl
theorem f2_9 : pm_fetch 2 9 = some (.iconst 1, 1) := rfl
theorem f2_10 : pm_fetch 2 10 = some (.iadd, 1) := rfl
theorem f2_11 : pm_fetch 2 11 = some (.istore_n 1, 1) := rfl
theorem f2_12 : pm_fetch 2 12 = some (.lconst 1, 1) := rfl
theorem f2_13 : pm_fetch 2 13 = some (.aload_n 0, 1) := rfl
theorem f2_14 : pm_fetch 2 14 = some (.getfield 28, 3) := rfl
theorem f2_17 : pm_fetch 2 17 = some (.iconst 1, 1) := rfl
theorem f2_18 : pm_fetch 2 18 = some (.iadd, 1) := rfl
theorem f2_19 : pm_fetch 2 19 = some (.lshl, 1) := rfl
theorem f2_20 : pm_fetch 2 20 = some (.lconst 1, 1) := rfl
theorem f2_21 : pm_fetch 2 21 = some (.iload_n 1, 1) := rfl
theorem f2_22 : pm_fetch 2 22 = some (.ifCond .ge 7, 3) := rfl
theorem f2_25 : pm_fetch 2 25 = some (.iconst 0, 1) := rfl
theorem f2_26 : pm_fetch 2 26 = some (.goto 4, 3) := rfl
theorem f2_29 : pm_fetch 2 29 = some (.iload_n 1, 1) := rfl
theorem f2_30 : pm_fetch 2 30 = some (.lshl, 1) := rfl
theorem f2_31 : pm_fetch 2 31 = some (.lsub, 1) := rfl
theorem f2_32 : pm_fetch 2 32 = some (.lreturn, 1) := rfl
theorem f3_0 : pm_fetch 3 0 = some (.iload_n 1, 1) := rfl
theorem f3_1 : pm_fetch 3 1 = some (.tableswitch 51 0 3 #[31, 36, 41, 46], 31) := rfl
theorem f3_32 : pm_fetch 3 32 = some (.aload_n 0, 1) := rfl
theorem f3_33 : pm_fetch 3 33 = some (.getfield 28, 3) := rfl
theorem f3_36 : pm_fetch 3 36 = some (.ireturn, 1) := rfl
theorem f3_37 : pm_fetch 3 37 = some (.aload_n 0, 1) := rfl
theorem f3_38 : pm_fetch 3 38 = some (.getfield 15, 3) := rfl
theorem f3_41 : pm_fetch 3 41 = some (.ireturn, 1) := rfl
theorem f3_42 : pm_fetch 3 42 = some (.aload_n 0, 1) := rfl
theorem f3_43 : pm_fetch 3 43 = some (.getfield 31, 3) := rfl
theorem f3_46 : pm_fetch 3 46 = some (.ireturn, 1) := rfl
theorem f3_47 : pm_fetch 3 47 = some (.aload_n 0, 1) := rfl
theorem f3_48 : pm_fetch 3 48 = some (.getfield 22, 3) := rfl
theorem f3_51 : pm_fetch 3 51 = some (.ireturn, 1) := rfl
theorem f3_52 : pm_fetch 3 52 = some (.aload_n 0, 1) := rfl
theorem f3_53 : pm_fetch 3 53 = some (.getfield 25, 3) := rfl
theorem f3_56 : pm_fetch 3 56 = some (.ireturn, 1) := rfl
theorem f4_0 : pm_fetch 4 0 = some (.iload_n 1, 1) := rfl
theorem f4_1 : pm_fetch 4 1 = some (.tableswitch 63 0 3 #[31, 39, 47, 55], 31) := rfl
theorem f4_32 : pm_fetch 4 32 = some (.aload_n 0, 1) := rfl
theorem f4_33 : pm_fetch 4 33 = some (.iload_n 2, 1) := rfl
theorem f4_34 : pm_fetch 4 34 = some (.putfield 28, 3) := rfl
theorem f4_37 : pm_fetch 4 37 = some (.goto 32, 3) := rfl
theorem f4_40 : pm_fetch 4 40 = some (.aload_n 0, 1) := rfl
theorem f4_41 : pm_fetch 4 41 = some (.iload_n 2, 1) := rfl
theorem f4_42 : pm_fetch 4 42 = some (.putfield 15, 3) := rfl
theorem f4_45 : pm_fetch 4 45 = some (.goto 24, 3) := rfl
theorem f4_48 : pm_fetch 4 48 = some (.aload_n 0, 1) := rfl
theorem f4_49 : pm_fetch 4 49 = some (.iload_n 2, 1) := rfl
theorem f4_50 : pm_fetch 4 50 = some (.putfield 31, 3) := rfl
theorem f4_53 : pm_fetch 4 53 = some (.goto 16, 3) := rfl
theorem f4_56 : pm_fetch 4 56 = some (.aload_n 0, 1) := rfl
theorem f4_57 : pm_fetch 4 57 = some (.iload_n 2, 1) := rfl
theorem f4_58 : pm_fetch 4 58 = some (.putfield 22, 3) := rfl
theorem f4_61 : pm_fetch 4 61 = some (.goto 8, 3) := rfl
theorem f4_64 : pm_fetch 4 64 = some (.aload_n 0, 1) := rfl
theorem f4_65 : pm_fetch 4 65 = some (.iload_n 2, 1) := rfl
theorem f4_66 : pm_fetch 4 66 = some (.putfield 25, 3) := rfl
theorem f4_69 : pm_fetch 4 69 = some (.return_, 1) := rfl
theorem f5_0 : pm_fetch 5 0 = some (.aload_n 0, 1) := rfl
theorem f5_1 : pm_fetch 5 1 = some (.getfield 18, 3) := rfl
theorem f5_4 : pm_fetch 5 4 = some (.ifCond .eq 7, 3) := rfl
theorem f5_7 : pm_fetch 5 7 = some (.iconst (-1), 1) := rfl
theorem f5_8 : pm_fetch 5 8 = some (.goto 7, 3) := rfl
theorem f5_11 : pm_fetch 5 11 = some (.aload_n 0, 1) := rfl
theorem f5_12 : pm_fetch 5 12 = some (.getfield 28, 3) := rfl
theorem f5_15 : pm_fetch 5 15 = some (.ireturn, 1) := rfl
theorem f6_0 : pm_fetch 6 0 = some (.iload_n 1, 1) := rfl
theorem f6_1 : pm_fetch 6 1 = some (.ifCond .eq 37, 3) := rfl
theorem f6_4 : pm_fetch 6 4 = some (.iload_n 1, 1) := rfl
theorem f6_5 : pm_fetch 6 5 = some (.aload_n 0, 1) := rfl
theorem f6_6 : pm_fetch 6 6 = some (.getfield 22, 3) := rfl
theorem f6_9 : pm_fetch 6 9 = some (.if_icmp .eq 29, 3) := rfl
theorem f6_12 : pm_fetch 6 12 = some (.iload_n 1, 1) := rfl
theorem f6_13 : pm_fetch 6 13 = some (.iconst 1, 1) := rfl
theorem f6_14 : pm_fetch 6 14 = some (.if_icmp .ne 11, 3) := rfl
theorem f6_17 : pm_fetch 6 17 = some (.aload_n 0, 1) := rfl
theorem f6_18 : pm_fetch 6 18 = some (.getfield 22, 3) := rfl
theorem f6_21 : pm_fetch 6 21 = some (.iconst 3, 1) := rfl
theorem f6_22 : pm_fetch 6 22 = some (.if_icmp .eq 16, 3) := rfl
theorem f6_25 : pm_fetch 6 25 = some (.iload_n 1, 1) := rfl
theorem f6_26 : pm_fetch 6 26 = some (.iconst 2, 1) := rfl
theorem f6_27 : pm_fetch 6 27 = some (.if_icmp .ne 15, 3) := rfl
theorem f6_30 : pm_fetch 6 30 = some (.aload_n 0, 1) := rfl
theorem f6_31 : pm_fetch 6 31 = some (.getfield 22, 3) := rfl
theorem f6_34 : pm_fetch 6 34 = some (.iconst 4, 1) := rfl
theorem f6_35 : pm_fetch 6 35 = some (.if_icmp .ne 7, 3) := rfl
theorem f6_38 : pm_fetch 6 38 = some (.iconst 1, 1) := rfl
theorem f6_39 : pm_fetch 6 39 = some (.goto 4, 3) := rfl
theorem f6_42 : pm_fetch 6 42 = some (.iconst 0, 1) := rfl
theorem f6_43 : pm_fetch 6 43 = some (.ireturn, 1) := rfl
theorem f7_0 : pm_fetch 7 0 = some (.aload_n 0, 1) := rfl
theorem f7_1 : pm_fetch 7 1 = some (.aload_n 0, 1) := rfl
theorem f7_2 : pm_fetch 7 2 = some (.getfield 28, 3) := rfl
theorem f7_5 : pm_fetch 7 5 = some (.iload_n 1, 1) := rfl
theorem f7_6 : pm_fetch 7 6 = some (.iadd, 1) := rfl
theorem f7_7 : pm_fetch 7 7 = some (.iconst 0, 1) := rfl
theorem f7_8 : pm_fetch 7 8 = some (.bipush 39, 2) := rfl
theorem f7_10 : pm_fetch 7 10 = some (.invokestatic 34, 3) := rfl
theorem f7_13 : pm_fetch 7 13 = some (.putfield 28, 3) := rfl
theorem f7_16 : pm_fetch 7 16 = some (.return_, 1) := rfl
theorem f8_0 : pm_fetch 8 0 = some (.aload_n 0, 1) := rfl
theorem f8_1 : pm_fetch 8 1 = some (.aload_n 0, 1) := rfl
theorem f8_2 : pm_fetch 8 2 = some (.getfield 31, 3) := rfl
theorem f8_5 : pm_fetch 8 5 = some (.iload_n 1, 1) := rfl
theorem f8_6 : pm_fetch 8 6 = some (.iadd, 1) := rfl
theorem f8_7 : pm_fetch 8 7 = some (.iconst 0, 1) := rfl
theorem f8_8 : pm_fetch 8 8 = some (.bipush 99, 2) := rfl
theorem f8_10 : pm_fetch 8 10 = some (.invokestatic 34, 3) := rfl
theorem f8_13 : pm_fetch 8 13 = some (.putfield 31, 3) := rfl
theorem f8_16 : pm_fetch 8 16 = some (.return_, 1) := rfl
theorem f9_0 : pm_fetch 9 0 = some (.aload_n 0, 1) := rfl
theorem f9_1 : pm_fetch 9 1 = some (.invokespecial 3, 3) := rfl
theorem f9_4 : pm_fetch 9 4 = some (.aload_n 0, 1) := rfl
theorem f9_5 : pm_fetch 9 5 = some (.bipush 6, 2) := rfl
theorem f9_7 : pm_fetch 9 7 = some (.anewarray 9, 3) := rfl
theorem f9_10 : pm_fetch 9 10 = some (.putfield 11, 3) := rfl
theorem f9_13 : pm_fetch 9 13 = some (.aload_n 0, 1) := rfl
theorem f9_14 : pm_fetch 9 14 = some (.bipush 32, 2) := rfl
theorem f9_16 : pm_fetch 9 16 = some (.newarray .int, 2) := rfl
theorem f9_18 : pm_fetch 9 18 = some (.putfield 17, 3) := rfl
theorem f9_21 : pm_fetch 9 21 = some (.aload_n 0, 1) := rfl
theorem f9_22 : pm_fetch 9 22 = some (.aload_n 1, 1) := rfl
theorem f9_23 : pm_fetch 9 23 = some (.putfield 21, 3) := rfl
theorem f9_26 : pm_fetch 9 26 = some (.iconst 0, 1) := rfl
theorem f9_27 : pm_fetch 9 27 = some (.istore_n 2, 1) := rfl
theorem f9_28 : pm_fetch 9 28 = some (.iload_n 2, 1) := rfl
theorem f9_29 : pm_fetch 9 29 = some (.aload_n 0, 1) := rfl
theorem f9_30 : pm_fetch 9 30 = some (.getfield 11, 3) := rfl
theorem f9_33 : pm_fetch 9 33 = some (.arraylength, 1) := rfl
theorem f9_34 : pm_fetch 9 34 = some (.if_icmp .ge 23, 3) := rfl
theorem f9_37 : pm_fetch 9 37 = some (.aload_n 0, 1) := rfl
theorem f9_38 : pm_fetch 9 38 = some (.getfield 11, 3) := rfl
theorem f9_41 : pm_fetch 9 41 = some (.iload_n 2, 1) := rfl
theorem f9_42 : pm_fetch 9 42 = some (.new 9, 3) := rfl
theorem f9_45 : pm_fetch 9 45 = some (.dup, 1) := rfl
theorem f9_46 : pm_fetch 9 46 = some (.iload_n 2, 1) := rfl
theorem f9_47 : pm_fetch 9 47 = some (.invokespecial 25, 3) := rfl
theorem f9_50 : pm_fetch 9 50 = some (.aastore, 1) := rfl
theorem f9_51 : pm_fetch 9 51 = some (.iinc 2 1, 3) := rfl
theorem f9_54 : pm_fetch 9 54 = some (.goto (-26), 3) := rfl
theorem f9_57 : pm_fetch 9 57 = some (.return_, 1) := rfl
theorem f10_0 : pm_fetch 10 0 = some (.iconst 0, 1) := rfl
theorem f10_1 : pm_fetch 10 1 = some (.istore_n 2, 1) := rfl
theorem f10_2 : pm_fetch 10 2 = some (.iload_n 2, 1) := rfl
theorem f10_3 : pm_fetch 10 3 = some (.aload_n 0, 1) := rfl
theorem f10_4 : pm_fetch 10 4 = some (.getfield 11, 3) := rfl
theorem f10_7 : pm_fetch 10 7 = some (.arraylength, 1) := rfl
theorem f10_8 : pm_fetch 10 8 = some (.if_icmp .ge 33, 3) := rfl
theorem f10_11 : pm_fetch 10 11 = some (.iload_n 2, 1) := rfl
theorem f10_12 : pm_fetch 10 12 = some (.aload_n 1, 1) := rfl
theorem f10_13 : pm_fetch 10 13 = some (.getfield 11, 3) := rfl
theorem f10_16 : pm_fetch 10 16 = some (.arraylength, 1) := rfl
theorem f10_17 : pm_fetch 10 17 = some (.if_icmp .ge 24, 3) := rfl
theorem f10_20 : pm_fetch 10 20 = some (.aload_n 0, 1) := rfl
theorem f10_21 : pm_fetch 10 21 = some (.getfield 11, 3) := rfl
theorem f10_24 : pm_fetch 10 24 = some (.iload_n 2, 1) := rfl
theorem f10_25 : pm_fetch 10 25 = some (.aaload, 1) := rfl
theorem f10_26 : pm_fetch 10 26 = some (.aload_n 1, 1) := rfl
theorem f10_27 : pm_fetch 10 27 = some (.getfield 11, 3) := rfl
theorem f10_30 : pm_fetch 10 30 = some (.iload_n 2, 1) := rfl
theorem f10_31 : pm_fetch 10 31 = some (.aaload, 1) := rfl
theorem f10_32 : pm_fetch 10 32 = some (.invokevirtual 28, 3) := rfl
theorem f10_35 : pm_fetch 10 35 = some (.iinc 2 1, 3) := rfl
theorem f10_38 : pm_fetch 10 38 = some (.goto (-36), 3) := rfl
theorem f10_41 : pm_fetch 10 41 = some (.aload_n 0, 1) := rfl
theorem f10_42 : pm_fetch 10 42 = some (.aload_n 1, 1) := rfl
theorem f10_43 : pm_fetch 10 43 = some (.getfield 32, 3) := rfl
theorem f10_46 : pm_fetch 10 46 = some (.putfield 32, 3) := rfl
theorem f10_49 : pm_fetch 10 49 = some (.aload_n 0, 1) := rfl
theorem f10_50 : pm_fetch 10 50 = some (.aload_n 1, 1) := rfl
theorem f10_51 : pm_fetch 10 51 = some (.getfield 36, 3) := rfl
theorem f10_54 : pm_fetch 10 54 = some (.putfield 36, 3) := rfl
theorem f10_57 : pm_fetch 10 57 = some (.aload_n 0, 1) := rfl
theorem f10_58 : pm_fetch 10 58 = some (.aload_n 1, 1) := rfl
theorem f10_59 : pm_fetch 10 59 = some (.getfield 40, 3) := rfl
theorem f10_62 : pm_fetch 10 62 = some (.putfield 40, 3) := rfl
theorem f10_65 : pm_fetch 10 65 = some (.aload_n 0, 1) := rfl
theorem f10_66 : pm_fetch 10 66 = some (.aload_n 1, 1) := rfl
theorem f10_67 : pm_fetch 10 67 = some (.getfield 43, 3) := rfl
theorem f10_70 : pm_fetch 10 70 = some (.putfield 43, 3) := rfl
theorem f10_73 : pm_fetch 10 73 = some (.aload_n 0, 1) := rfl
theorem f10_74 : pm_fetch 10 74 = some (.aload_n 1, 1) := rfl
theorem f10_75 : pm_fetch 10 75 = some (.getfield 21, 3) := rfl
theorem f10_78 : pm_fetch 10 78 = some (.putfield 21, 3) := rfl
theorem f10_81 : pm_fetch 10 81 = some (.return_, 1) := rfl
theorem f11_0 : pm_fetch 11 0 = some (.iload_n 1, 1) := rfl
theorem f11_1 : pm_fetch 11 1 = some (.ifCond .lt 24, 3) := rfl
theorem f11_4 : pm_fetch 11 4 = some (.iload_n 1, 1) := rfl
theorem f11_5 : pm_fetch 11 5 = some (.aload_n 0, 1) := rfl
theorem f11_6 : pm_fetch 11 6 = some (.getfield 11, 3) := rfl
theorem f11_9 : pm_fetch 11 9 = some (.arraylength, 1) := rfl
theorem f11_10 : pm_fetch 11 10 = some (.if_icmp .ge 15, 3) := rfl
theorem f11_13 : pm_fetch 11 13 = some (.aload_n 0, 1) := rfl
theorem f11_14 : pm_fetch 11 14 = some (.getfield 11, 3) := rfl
theorem f11_17 : pm_fetch 11 17 = some (.iload_n 1, 1) := rfl
theorem f11_18 : pm_fetch 11 18 = some (.aaload, 1) := rfl
theorem f11_19 : pm_fetch 11 19 = some (.getfield 46, 3) := rfl
theorem f11_22 : pm_fetch 11 22 = some (.ifCond .eq 7, 3) := rfl
theorem f11_25 : pm_fetch 11 25 = some (.aconst_null, 1) := rfl
theorem f11_26 : pm_fetch 11 26 = some (.goto 9, 3) := rfl
theorem f11_29 : pm_fetch 11 29 = some (.aload_n 0, 1) := rfl
theorem f11_30 : pm_fetch 11 30 = some (.getfield 11, 3) := rfl
theorem f11_33 : pm_fetch 11 33 = some (.iload_n 1, 1) := rfl
theorem f11_34 : pm_fetch 11 34 = some (.aaload, 1) := rfl
theorem f11_35 : pm_fetch 11 35 = some (.areturn, 1) := rfl
theorem f12_0 : pm_fetch 12 0 = some (.iconst 0, 1) := rfl
theorem f12_1 : pm_fetch 12 1 = some (.istore_n 1, 1) := rfl
theorem f12_2 : pm_fetch 12 2 = some (.aload_n 0, 1) := rfl
theorem f12_3 : pm_fetch 12 3 = some (.getfield 11, 3) := rfl
theorem f12_6 : pm_fetch 12 6 = some (.astore_n 2, 1) := rfl
theorem f12_7 : pm_fetch 12 7 = some (.aload_n 2, 1) := rfl
theorem f12_8 : pm_fetch 12 8 = some (.arraylength, 1) := rfl
theorem f12_9 : pm_fetch 12 9 = some (.istore_n 3, 1) := rfl
theorem f12_10 : pm_fetch 12 10 = some (.iconst 0, 1) := rfl
theorem f12_11 : pm_fetch 12 11 = some (.istore 4, 2) := rfl
theorem f12_13 : pm_fetch 12 13 = some (.iload 4, 2) := rfl
theorem f12_15 : pm_fetch 12 15 = some (.iload_n 3, 1) := rfl
theorem f12_16 : pm_fetch 12 16 = some (.if_icmp .ge 37, 3) := rfl
theorem f12_19 : pm_fetch 12 19 = some (.aload_n 2, 1) := rfl
theorem f12_20 : pm_fetch 12 20 = some (.iload 4, 2) := rfl
theorem f12_22 : pm_fetch 12 22 = some (.aaload, 1) := rfl
theorem f12_23 : pm_fetch 12 23 = some (.astore 5, 2) := rfl
theorem f12_25 : pm_fetch 12 25 = some (.iload_n 1, 1) := rfl
theorem f12_26 : pm_fetch 12 26 = some (.aload 5, 2) := rfl
theorem f12_28 : pm_fetch 12 28 = some (.getfield 46, 3) := rfl
theorem f12_31 : pm_fetch 12 31 = some (.ifCond .eq 7, 3) := rfl
theorem f12_34 : pm_fetch 12 34 = some (.iconst 0, 1) := rfl
theorem f12_35 : pm_fetch 12 35 = some (.goto 10, 3) := rfl
theorem f12_38 : pm_fetch 12 38 = some (.iconst 1, 1) := rfl
theorem f12_39 : pm_fetch 12 39 = some (.aload 5, 2) := rfl
theorem f12_41 : pm_fetch 12 41 = some (.getfield 50, 3) := rfl
theorem f12_44 : pm_fetch 12 44 = some (.ishl, 1) := rfl
theorem f12_45 : pm_fetch 12 45 = some (.ior, 1) := rfl
theorem f12_46 : pm_fetch 12 46 = some (.istore_n 1, 1) := rfl
theorem f12_47 : pm_fetch 12 47 = some (.iinc 4 1, 3) := rfl
theorem f12_50 : pm_fetch 12 50 = some (.goto (-37), 3) := rfl
theorem f12_53 : pm_fetch 12 53 = some (.iload_n 1, 1) := rfl
theorem f12_54 : pm_fetch 12 54 = some (.ireturn, 1) := rfl
theorem f13_0 : pm_fetch 13 0 = some (.lconst 0, 1) := rfl
theorem f13_1 : pm_fetch 13 1 = some (.lstore_n 1, 1) := rfl
theorem f13_2 : pm_fetch 13 2 = some (.aload_n 0, 1) := rfl
theorem f13_3 : pm_fetch 13 3 = some (.getfield 11, 3) := rfl
theorem f13_6 : pm_fetch 13 6 = some (.astore_n 3, 1) := rfl
theorem f13_7 : pm_fetch 13 7 = some (.aload_n 3, 1) := rfl
theorem f13_8 : pm_fetch 13 8 = some (.arraylength, 1) := rfl
theorem f13_9 : pm_fetch 13 9 = some (.istore 4, 2) := rfl
theorem f13_11 : pm_fetch 13 11 = some (.iconst 0, 1) := rfl
theorem f13_12 : pm_fetch 13 12 = some (.istore 5, 2) := rfl
theorem f13_14 : pm_fetch 13 14 = some (.iload 5, 2) := rfl
theorem f13_16 : pm_fetch 13 16 = some (.iload 4, 2) := rfl
theorem f13_18 : pm_fetch 13 18 = some (.if_icmp .ge 35, 3) := rfl
theorem f13_21 : pm_fetch 13 21 = some (.aload_n 3, 1) := rfl
theorem f13_22 : pm_fetch 13 22 = some (.iload 5, 2) := rfl
theorem f13_24 : pm_fetch 13 24 = some (.aaload, 1) := rfl
theorem f13_25 : pm_fetch 13 25 = some (.astore 6, 2) := rfl
theorem f13_27 : pm_fetch 13 27 = some (.lload_n 1, 1) := rfl
theorem f13_28 : pm_fetch 13 28 = some (.aload 6, 2) := rfl
theorem f13_30 : pm_fetch 13 30 = some (.getfield 46, 3) := rfl
theorem f13_33 : pm_fetch 13 33 = some (.ifCond .eq 7, 3) := rfl
theorem f13_36 : pm_fetch 13 36 = some (.lconst 0, 1) := rfl
theorem f13_37 : pm_fetch 13 37 = some (.goto 8, 3) := rfl
theorem f13_40 : pm_fetch 13 40 = some (.aload 6, 2) := rfl
theorem f13_42 : pm_fetch 13 42 = some (.invokevirtual 53, 3) := rfl
theorem f13_45 : pm_fetch 13 45 = some (.lor, 1) := rfl
theorem f13_46 : pm_fetch 13 46 = some (.lstore_n 1, 1) := rfl
theorem f13_47 : pm_fetch 13 47 = some (.iinc 5 1, 3) := rfl
theorem f13_50 : pm_fetch 13 50 = some (.goto (-36), 3) := rfl
theorem f13_53 : pm_fetch 13 53 = some (.lload_n 1, 1) := rfl
theorem f13_54 : pm_fetch 13 54 = some (.lreturn, 1) := rfl
theorem f14_0 : pm_fetch 14 0 = some (.aload_n 0, 1) := rfl
theorem f14_1 : pm_fetch 14 1 = some (.getfield 36, 3) := rfl
theorem f14_4 : pm_fetch 14 4 = some (.aload_n 0, 1) := rfl
theorem f14_5 : pm_fetch 14 5 = some (.invokevirtual 57, 3) := rfl
theorem f14_8 : pm_fetch 14 8 = some (.land, 1) := rfl
theorem f14_9 : pm_fetch 14 9 = some (.invokestatic 60, 3) := rfl
theorem f14_12 : pm_fetch 14 12 = some (.ireturn, 1) := rfl
theorem f15_0 : pm_fetch 15 0 = some (.aload_n 0, 1) := rfl
theorem f15_1 : pm_fetch 15 1 = some (.getfield 36, 3) := rfl
theorem f15_4 : pm_fetch 15 4 = some (.iload_n 1, 1) := rfl
theorem f15_5 : pm_fetch 15 5 = some (.lshr, 1) := rfl
theorem f15_6 : pm_fetch 15 6 = some (.lconst 1, 1) := rfl
theorem f15_7 : pm_fetch 15 7 = some (.land, 1) := rfl
theorem f15_8 : pm_fetch 15 8 = some (.lconst 1, 1) := rfl
theorem f15_9 : pm_fetch 15 9 = some (.lcmp, 1) := rfl
theorem f15_10 : pm_fetch 15 10 = some (.ifCond .ne 7, 3) := rfl
theorem f15_13 : pm_fetch 15 13 = some (.iconst 1, 1) := rfl
theorem f15_14 : pm_fetch 15 14 = some (.goto 4, 3) := rfl
theorem f15_17 : pm_fetch 15 17 = some (.iconst 0, 1) := rfl
theorem f15_18 : pm_fetch 15 18 = some (.ireturn, 1) := rfl
theorem f16_0 : pm_fetch 16 0 = some (.aload_n 0, 1) := rfl
theorem f16_1 : pm_fetch 16 1 = some (.getfield 40, 3) := rfl
theorem f16_4 : pm_fetch 16 4 = some (.aload_n 1, 1) := rfl
theorem f16_5 : pm_fetch 16 5 = some (.invokevirtual 53, 3) := rfl
theorem f16_8 : pm_fetch 16 8 = some (.land, 1) := rfl
theorem f16_9 : pm_fetch 16 9 = some (.lconst 0, 1) := rfl
theorem f16_10 : pm_fetch 16 10 = some (.lcmp, 1) := rfl
theorem f16_11 : pm_fetch 16 11 = some (.ifCond .eq 7, 3) := rfl
theorem f16_14 : pm_fetch 16 14 = some (.iconst 1, 1) := rfl
theorem f16_15 : pm_fetch 16 15 = some (.goto 4, 3) := rfl
theorem f16_18 : pm_fetch 16 18 = some (.iconst 0, 1) := rfl
theorem f16_19 : pm_fetch 16 19 = some (.ireturn, 1) := rfl
theorem f17_0 : pm_fetch 17 0 = some (.aload_n 0, 1) := rfl
theorem f17_1 : pm_fetch 17 1 = some (.getfield 11, 3) := rfl
theorem f17_4 : pm_fetch 17 4 = some (.astore_n 2, 1) := rfl
theorem f17_5 : pm_fetch 17 5 = some (.aload_n 2, 1) := rfl
theorem f17_6 : pm_fetch 17 6 = some (.arraylength, 1) := rfl
theorem f17_7 : pm_fetch 17 7 = some (.istore_n 3, 1) := rfl
theorem f17_8 : pm_fetch 17 8 = some (.iconst 0, 1) := rfl
theorem f17_9 : pm_fetch 17 9 = some (.istore 4, 2) := rfl
theorem f17_11 : pm_fetch 17 11 = some (.iload 4, 2) := rfl
theorem f17_13 : pm_fetch 17 13 = some (.iload_n 3, 1) := rfl
theorem f17_14 : pm_fetch 17 14 = some (.if_icmp .ge 43, 3) := rfl
theorem f17_17 : pm_fetch 17 17 = some (.aload_n 2, 1) := rfl
theorem f17_18 : pm_fetch 17 18 = some (.iload 4, 2) := rfl
theorem f17_20 : pm_fetch 17 20 = some (.aaload, 1) := rfl
theorem f17_21 : pm_fetch 17 21 = some (.astore 5, 2) := rfl
theorem f17_23 : pm_fetch 17 23 = some (.aload 5, 2) := rfl
theorem f17_25 : pm_fetch 17 25 = some (.getfield 46, 3) := rfl
theorem f17_28 : pm_fetch 17 28 = some (.ifCond .ne 23, 3) := rfl
theorem f17_31 : pm_fetch 17 31 = some (.aload 5, 2) := rfl
theorem f17_33 : pm_fetch 17 33 = some (.invokevirtual 53, 3) := rfl
theorem f17_36 : pm_fetch 17 36 = some (.iload_n 1, 1) := rfl
theorem f17_37 : pm_fetch 17 37 = some (.lshr, 1) := rfl
theorem f17_38 : pm_fetch 17 38 = some (.lconst 1, 1) := rfl
theorem f17_39 : pm_fetch 17 39 = some (.land, 1) := rfl
theorem f17_40 : pm_fetch 17 40 = some (.lconst 1, 1) := rfl
theorem f17_41 : pm_fetch 17 41 = some (.lcmp, 1) := rfl
theorem f17_42 : pm_fetch 17 42 = some (.ifCond .ne 9, 3) := rfl
theorem f17_45 : pm_fetch 17 45 = some (.aload 5, 2) := rfl
theorem f17_47 : pm_fetch 17 47 = some (.getfield 50, 3) := rfl
theorem f17_50 : pm_fetch 17 50 = some (.ireturn, 1) := rfl
theorem f17_51 : pm_fetch 17 51 = some (.iinc 4 1, 3) := rfl
theorem f17_54 : pm_fetch 17 54 = some (.goto (-43), 3) := rfl
theorem f17_57 : pm_fetch 17 57 = some (.iconst (-1), 1) := rfl
theorem f17_58 : pm_fetch 17 58 = some (.ireturn, 1) := rfl
theorem f19_0 : pm_fetch 19 0 = some (.aload_n 1, 1) := rfl
theorem f19_1 : pm_fetch 19 1 = some (.invokevirtual 53, 3) := rfl
theorem f19_4 : pm_fetch 19 4 = some (.lstore_n 2, 1) := rfl
theorem f19_5 : pm_fetch 19 5 = some (.aload_n 0, 1) := rfl
theorem f19_6 : pm_fetch 19 6 = some (.getfield 11, 3) := rfl
theorem f19_9 : pm_fetch 19 9 = some (.astore 4, 2) := rfl
theorem f19_11 : pm_fetch 19 11 = some (.aload 4, 2) := rfl
theorem f19_13 : pm_fetch 19 13 = some (.arraylength, 1) := rfl
theorem f19_14 : pm_fetch 19 14 = some (.istore 5, 2) := rfl
theorem f19_16 : pm_fetch 19 16 = some (.iconst 0, 1) := rfl
theorem f19_17 : pm_fetch 19 17 = some (.istore 6, 2) := rfl
theorem f19_19 : pm_fetch 19 19 = some (.iload 6, 2) := rfl
theorem f19_21 : pm_fetch 19 21 = some (.iload 5, 2) := rfl
theorem f19_23 : pm_fetch 19 23 = some (.if_icmp .ge 89, 3) := rfl
theorem f19_26 : pm_fetch 19 26 = some (.aload 4, 2) := rfl
theorem f19_28 : pm_fetch 19 28 = some (.iload 6, 2) := rfl
theorem f19_30 : pm_fetch 19 30 = some (.aaload, 1) := rfl
theorem f19_31 : pm_fetch 19 31 = some (.astore 7, 2) := rfl
theorem f19_33 : pm_fetch 19 33 = some (.aload 7, 2) := rfl
theorem f19_35 : pm_fetch 19 35 = some (.getfield 50, 3) := rfl
theorem f19_38 : pm_fetch 19 38 = some (.aload_n 1, 1) := rfl
theorem f19_39 : pm_fetch 19 39 = some (.getfield 50, 3) := rfl
theorem f19_42 : pm_fetch 19 42 = some (.if_icmp .eq 27, 3) := rfl
theorem f19_45 : pm_fetch 19 45 = some (.aload 7, 2) := rfl
theorem f19_47 : pm_fetch 19 47 = some (.getfield 46, 3) := rfl
theorem f19_50 : pm_fetch 19 50 = some (.ifCond .ne 19, 3) := rfl
theorem f19_53 : pm_fetch 19 53 = some (.aload 7, 2) := rfl
theorem f19_55 : pm_fetch 19 55 = some (.invokevirtual 53, 3) := rfl
theorem f19_58 : pm_fetch 19 58 = some (.lload_n 2, 1) := rfl
theorem f19_59 : pm_fetch 19 59 = some (.land, 1) := rfl
theorem f19_60 : pm_fetch 19 60 = some (.lconst 0, 1) := rfl
theorem f19_61 : pm_fetch 19 61 = some (.lcmp, 1) := rfl
theorem f19_62 : pm_fetch 19 62 = some (.ifCond .eq 7, 3) := rfl
theorem f19_65 : pm_fetch 19 65 = some (.iconst 1, 1) := rfl
theorem f19_66 : pm_fetch 19 66 = some (.goto 4, 3) := rfl
theorem f19_69 : pm_fetch 19 69 = some (.iconst 0, 1) := rfl
theorem f19_70 : pm_fetch 19 70 = some (.istore 8, 2) := rfl
theorem f19_72 : pm_fetch 19 72 = some (.iload 8, 2) := rfl
theorem f19_74 : pm_fetch 19 74 = some (.ifCond .eq 32, 3) := rfl
theorem f19_77 : pm_fetch 19 77 = some (.aload 7, 2) := rfl
theorem f19_79 : pm_fetch 19 79 = some (.getfield 82, 3) := rfl
theorem f19_82 : pm_fetch 19 82 = some (.aload_n 1, 1) := rfl
theorem f19_83 : pm_fetch 19 83 = some (.getfield 82, 3) := rfl
theorem f19_86 : pm_fetch 19 86 = some (.if_icmp .gt 20, 3) := rfl
theorem f19_89 : pm_fetch 19 89 = some (.aload 7, 2) := rfl
theorem f19_91 : pm_fetch 19 91 = some (.iconst 1, 1) := rfl
theorem f19_92 : pm_fetch 19 92 = some (.putfield 46, 3) := rfl
theorem f19_95 : pm_fetch 19 95 = some (.aload_n 1, 1) := rfl
theorem f19_96 : pm_fetch 19 96 = some (.aload 7, 2) := rfl
theorem f19_98 : pm_fetch 19 98 = some (.getfield 82, 3) := rfl
theorem f19_101 : pm_fetch 19 101 = some (.iconst 2, 1) := rfl
theorem f19_102 : pm_fetch 19 102 = some (.idiv, 1) := rfl
theorem f19_103 : pm_fetch 19 103 = some (.invokevirtual 79, 3) := rfl
theorem f19_106 : pm_fetch 19 106 = some (.iinc 6 1, 3) := rfl
theorem f19_109 : pm_fetch 19 109 = some (.goto (-90), 3) := rfl
theorem f19_112 : pm_fetch 19 112 = some (.return_, 1) := rfl
theorem f21_0 : pm_fetch 21 0 = some (.aload_n 0, 1) := rfl
theorem f21_1 : pm_fetch 21 1 = some (.getfield 82, 3) := rfl
theorem f21_4 : pm_fetch 21 4 = some (.bipush 50, 2) := rfl
theorem f21_6 : pm_fetch 21 6 = some (.if_icmp .le 9, 3) := rfl
theorem f21_9 : pm_fetch 21 9 = some (.iload_n 1, 1) := rfl
theorem f21_10 : pm_fetch 21 10 = some (.iconst 2, 1) := rfl
theorem f21_11 : pm_fetch 21 11 = some (.idiv, 1) := rfl
theorem f21_12 : pm_fetch 21 12 = some (.goto 6, 3) := rfl
theorem f21_15 : pm_fetch 21 15 = some (.iload_n 1, 1) := rfl
theorem f21_16 : pm_fetch 21 16 = some (.iconst 1, 1) := rfl
theorem f21_17 : pm_fetch 21 17 = some (.iadd, 1) := rfl
theorem f21_18 : pm_fetch 21 18 = some (.ireturn, 1) := rfl
theorem f26_0 : pm_fetch 26 0 = some (.iload_n 1, 1) := rfl
theorem f26_1 : pm_fetch 26 1 = some (.tableswitch 57 10000 10004 #[35, 40, 45, 50, 52], 35) := rfl
theorem f26_36 : pm_fetch 26 36 = some (.aload_n 2, 1) := rfl
theorem f26_37 : pm_fetch 26 37 = some (.getfield 82, 3) := rfl
theorem f26_40 : pm_fetch 26 40 = some (.ireturn, 1) := rfl
theorem f26_41 : pm_fetch 26 41 = some (.aload_n 2, 1) := rfl
theorem f26_42 : pm_fetch 26 42 = some (.getfield 138, 3) := rfl
theorem f26_45 : pm_fetch 26 45 = some (.ireturn, 1) := rfl
theorem f26_46 : pm_fetch 26 46 = some (.aload_n 2, 1) := rfl
theorem f26_47 : pm_fetch 26 47 = some (.getfield 141, 3) := rfl
theorem f26_50 : pm_fetch 26 50 = some (.ireturn, 1) := rfl
theorem f26_51 : pm_fetch 26 51 = some (.iload_n 3, 1) := rfl
theorem f26_52 : pm_fetch 26 52 = some (.ireturn, 1) := rfl
theorem f26_53 : pm_fetch 26 53 = some (.aload_n 0, 1) := rfl
theorem f26_54 : pm_fetch 26 54 = some (.getfield 43, 3) := rfl
theorem f26_57 : pm_fetch 26 57 = some (.ireturn, 1) := rfl
theorem f26_58 : pm_fetch 26 58 = some (.aload_n 2, 1) := rfl
theorem f26_59 : pm_fetch 26 59 = some (.getfield 95, 3) := rfl
theorem f26_62 : pm_fetch 26 62 = some (.ireturn, 1) := rfl
theorem f27_0 : pm_fetch 27 0 = some (.iload_n 0, 1) := rfl
theorem f27_1 : pm_fetch 27 1 = some (.tableswitch 97 10006 10011 #[39, 53, 67, 78, 89, 93], 39) := rfl
theorem f27_40 : pm_fetch 27 40 = some (.iload_n 1, 1) := rfl
theorem f27_41 : pm_fetch 27 41 = some (.ifCond .ne 7, 3) := rfl
theorem f27_44 : pm_fetch 27 44 = some (.iload_n 2, 1) := rfl
theorem f27_45 : pm_fetch 27 45 = some (.ifCond .eq 7, 3) := rfl
theorem f27_48 : pm_fetch 27 48 = some (.iconst 1, 1) := rfl
theorem f27_49 : pm_fetch 27 49 = some (.goto 4, 3) := rfl
theorem f27_52 : pm_fetch 27 52 = some (.iconst 0, 1) := rfl
theorem f27_53 : pm_fetch 27 53 = some (.ireturn, 1) := rfl
theorem f27_54 : pm_fetch 27 54 = some (.iload_n 1, 1) := rfl
theorem f27_55 : pm_fetch 27 55 = some (.ifCond .eq 11, 3) := rfl
theorem f27_58 : pm_fetch 27 58 = some (.iload_n 2, 1) := rfl
theorem f27_59 : pm_fetch 27 59 = some (.ifCond .eq 7, 3) := rfl
theorem f27_62 : pm_fetch 27 62 = some (.iconst 1, 1) := rfl
theorem f27_63 : pm_fetch 27 63 = some (.goto 4, 3) := rfl
theorem f27_66 : pm_fetch 27 66 = some (.iconst 0, 1) := rfl
theorem f27_67 : pm_fetch 27 67 = some (.ireturn, 1) := rfl
theorem f27_68 : pm_fetch 27 68 = some (.iload_n 1, 1) := rfl
theorem f27_69 : pm_fetch 27 69 = some (.iload_n 2, 1) := rfl
theorem f27_70 : pm_fetch 27 70 = some (.if_icmp .ge 7, 3) := rfl
theorem f27_73 : pm_fetch 27 73 = some (.iconst 1, 1) := rfl
theorem f27_74 : pm_fetch 27 74 = some (.goto 4, 3) := rfl
theorem f27_77 : pm_fetch 27 77 = some (.iconst 0, 1) := rfl
theorem f27_78 : pm_fetch 27 78 = some (.ireturn, 1) := rfl
theorem f27_79 : pm_fetch 27 79 = some (.iload_n 1, 1) := rfl
theorem f27_80 : pm_fetch 27 80 = some (.iload_n 2, 1) := rfl
theorem f27_81 : pm_fetch 27 81 = some (.if_icmp .ne 7, 3) := rfl
theorem f27_84 : pm_fetch 27 84 = some (.iconst 1, 1) := rfl
theorem f27_85 : pm_fetch 27 85 = some (.goto 4, 3) := rfl
theorem f27_88 : pm_fetch 27 88 = some (.iconst 0, 1) := rfl
theorem f27_89 : pm_fetch 27 89 = some (.ireturn, 1) := rfl
theorem f27_90 : pm_fetch 27 90 = some (.iload_n 1, 1) := rfl
theorem f27_91 : pm_fetch 27 91 = some (.iload_n 2, 1) := rfl
theorem f27_92 : pm_fetch 27 92 = some (.iadd, 1) := rfl
theorem f27_93 : pm_fetch 27 93 = some (.ireturn, 1) := rfl
theorem f27_94 : pm_fetch 27 94 = some (.iload_n 1, 1) := rfl
theorem f27_95 : pm_fetch 27 95 = some (.iload_n 2, 1) := rfl
theorem f27_96 : pm_fetch 27 96 = some (.isub, 1) := rfl
theorem f27_97 : pm_fetch 27 97 = some (.ireturn, 1) := rfl
theorem f27_98 : pm_fetch 27 98 = some (.iload_n 1, 1) := rfl
theorem f27_99 : pm_fetch 27 99 = some (.iload_n 2, 1) := rfl
theorem f27_100 : pm_fetch 27 100 = some (.imul, 1) := rfl
theorem f27_101 : pm_fetch 27 101 = some (.ireturn, 1) := rfl
theorem f25_0 : pm_fetch 25 0 = some (.iconst (-1), 1) := rfl
theorem f25_1 : pm_fetch 25 1 = some (.istore 4, 2) := rfl
theorem f25_3 : pm_fetch 25 3 = some (.aload_n 1, 1) := rfl
theorem f25_4 : pm_fetch 25 4 = some (.astore 5, 2) := rfl
theorem f25_6 : pm_fetch 25 6 = some (.aload 5, 2) := rfl
theorem f25_8 : pm_fetch 25 8 = some (.arraylength, 1) := rfl
theorem f25_9 : pm_fetch 25 9 = some (.istore 6, 2) := rfl
theorem f25_11 : pm_fetch 25 11 = some (.iconst 0, 1) := rfl
theorem f25_12 : pm_fetch 25 12 = some (.istore 7, 2) := rfl
theorem f25_14 : pm_fetch 25 14 = some (.iload 7, 2) := rfl
theorem f25_16 : pm_fetch 25 16 = some (.iload 6, 2) := rfl
theorem f25_18 : pm_fetch 25 18 = some (.if_icmp .ge 175, 3) := rfl
theorem f25_21 : pm_fetch 25 21 = some (.aload 5, 2) := rfl
theorem f25_23 : pm_fetch 25 23 = some (.iload 7, 2) := rfl
theorem f25_25 : pm_fetch 25 25 = some (.iaload, 1) := rfl
theorem f25_26 : pm_fetch 25 26 = some (.istore 8, 2) := rfl
theorem f25_28 : pm_fetch 25 28 = some (.iload 8, 2) := rfl
theorem f25_30 : pm_fetch 25 30 = some (.sipush 10005, 3) := rfl
theorem f25_33 : pm_fetch 25 33 = some (.if_icmp .gt 49, 3) := rfl
theorem f25_36 : pm_fetch 25 36 = some (.iinc 4 1, 3) := rfl
theorem f25_39 : pm_fetch 25 39 = some (.iload 4, 2) := rfl
theorem f25_41 : pm_fetch 25 41 = some (.aload_n 0, 1) := rfl
theorem f25_42 : pm_fetch 25 42 = some (.getfield 17, 3) := rfl
theorem f25_45 : pm_fetch 25 45 = some (.arraylength, 1) := rfl
theorem f25_46 : pm_fetch 25 46 = some (.if_icmp .lt 5, 3) := rfl
theorem f25_49 : pm_fetch 25 49 = some (.iconst 0, 1) := rfl
theorem f25_50 : pm_fetch 25 50 = some (.ireturn, 1) := rfl
theorem f25_51 : pm_fetch 25 51 = some (.aload_n 0, 1) := rfl
theorem f25_52 : pm_fetch 25 52 = some (.getfield 17, 3) := rfl
theorem f25_55 : pm_fetch 25 55 = some (.iload 4, 2) := rfl
theorem f25_57 : pm_fetch 25 57 = some (.iload 8, 2) := rfl
theorem f25_59 : pm_fetch 25 59 = some (.sipush 10000, 3) := rfl
theorem f25_62 : pm_fetch 25 62 = some (.if_icmp .ge 8, 3) := rfl
theorem f25_65 : pm_fetch 25 65 = some (.iload 8, 2) := rfl
theorem f25_67 : pm_fetch 25 67 = some (.goto 11, 3) := rfl
theorem f25_70 : pm_fetch 25 70 = some (.aload_n 0, 1) := rfl
theorem f25_71 : pm_fetch 25 71 = some (.iload 8, 2) := rfl
theorem f25_73 : pm_fetch 25 73 = some (.aload_n 2, 1) := rfl
theorem f25_74 : pm_fetch 25 74 = some (.iload_n 3, 1) := rfl
theorem f25_75 : pm_fetch 25 75 = some (.invokevirtual 131, 3) := rfl
theorem f25_78 : pm_fetch 25 78 = some (.iastore, 1) := rfl
theorem f25_79 : pm_fetch 25 79 = some (.goto 108, 3) := rfl
theorem f25_82 : pm_fetch 25 82 = some (.iload 8, 2) := rfl
theorem f25_84 : pm_fetch 25 84 = some (.sipush 10013, 3) := rfl
theorem f25_87 : pm_fetch 25 87 = some (.if_icmp .eq 11, 3) := rfl
theorem f25_90 : pm_fetch 25 90 = some (.iload 8, 2) := rfl
theorem f25_92 : pm_fetch 25 92 = some (.sipush 10014, 3) := rfl
theorem f25_95 : pm_fetch 25 95 = some (.if_icmp .ne 54, 3) := rfl
theorem f25_98 : pm_fetch 25 98 = some (.iload 4, 2) := rfl
theorem f25_100 : pm_fetch 25 100 = some (.ifCond .ge 5, 3) := rfl
theorem f25_103 : pm_fetch 25 103 = some (.iconst 0, 1) := rfl
theorem f25_104 : pm_fetch 25 104 = some (.ireturn, 1) := rfl
theorem f25_105 : pm_fetch 25 105 = some (.aload_n 0, 1) := rfl
theorem f25_106 : pm_fetch 25 106 = some (.getfield 17, 3) := rfl
theorem f25_109 : pm_fetch 25 109 = some (.iload 4, 2) := rfl
theorem f25_111 : pm_fetch 25 111 = some (.iload 8, 2) := rfl
theorem f25_113 : pm_fetch 25 113 = some (.sipush 10014, 3) := rfl
theorem f25_116 : pm_fetch 25 116 = some (.if_icmp .ne 14, 3) := rfl
theorem f25_119 : pm_fetch 25 119 = some (.aload_n 0, 1) := rfl
theorem f25_120 : pm_fetch 25 120 = some (.getfield 17, 3) := rfl
theorem f25_123 : pm_fetch 25 123 = some (.iload 4, 2) := rfl
theorem f25_125 : pm_fetch 25 125 = some (.iaload, 1) := rfl
theorem f25_126 : pm_fetch 25 126 = some (.ineg, 1) := rfl
theorem f25_127 : pm_fetch 25 127 = some (.goto 18, 3) := rfl
theorem f25_130 : pm_fetch 25 130 = some (.aload_n 0, 1) := rfl
theorem f25_131 : pm_fetch 25 131 = some (.getfield 17, 3) := rfl
theorem f25_134 : pm_fetch 25 134 = some (.iload 4, 2) := rfl
theorem f25_136 : pm_fetch 25 136 = some (.iaload, 1) := rfl
theorem f25_137 : pm_fetch 25 137 = some (.ifCond .ne 7, 3) := rfl
theorem f25_140 : pm_fetch 25 140 = some (.iconst 1, 1) := rfl
theorem f25_141 : pm_fetch 25 141 = some (.goto 4, 3) := rfl
theorem f25_144 : pm_fetch 25 144 = some (.iconst 0, 1) := rfl
theorem f25_145 : pm_fetch 25 145 = some (.iastore, 1) := rfl
theorem f25_146 : pm_fetch 25 146 = some (.goto 41, 3) := rfl
theorem f25_149 : pm_fetch 25 149 = some (.iinc 4 (-1), 3) := rfl
theorem f25_152 : pm_fetch 25 152 = some (.iload 4, 2) := rfl
theorem f25_154 : pm_fetch 25 154 = some (.ifCond .ge 5, 3) := rfl
theorem f25_157 : pm_fetch 25 157 = some (.iconst 0, 1) := rfl
theorem f25_158 : pm_fetch 25 158 = some (.ireturn, 1) := rfl
theorem f25_159 : pm_fetch 25 159 = some (.aload_n 0, 1) := rfl
theorem f25_160 : pm_fetch 25 160 = some (.getfield 17, 3) := rfl
theorem f25_163 : pm_fetch 25 163 = some (.iload 4, 2) := rfl
theorem f25_165 : pm_fetch 25 165 = some (.iload 8, 2) := rfl
theorem f25_167 : pm_fetch 25 167 = some (.aload_n 0, 1) := rfl
theorem f25_168 : pm_fetch 25 168 = some (.getfield 17, 3) := rfl
theorem f25_171 : pm_fetch 25 171 = some (.iload 4, 2) := rfl
theorem f25_173 : pm_fetch 25 173 = some (.iaload, 1) := rfl
theorem f25_174 : pm_fetch 25 174 = some (.aload_n 0, 1) := rfl
theorem f25_175 : pm_fetch 25 175 = some (.getfield 17, 3) := rfl
theorem f25_178 : pm_fetch 25 178 = some (.iload 4, 2) := rfl
theorem f25_180 : pm_fetch 25 180 = some (.iconst 1, 1) := rfl
theorem f25_181 : pm_fetch 25 181 = some (.iadd, 1) := rfl
theorem f25_182 : pm_fetch 25 182 = some (.iaload, 1) := rfl
theorem f25_183 : pm_fetch 25 183 = some (.invokestatic 135, 3) := rfl
theorem f25_186 : pm_fetch 25 186 = some (.iastore, 1) := rfl
theorem f25_187 : pm_fetch 25 187 = some (.iinc 7 1, 3) := rfl
theorem f25_190 : pm_fetch 25 190 = some (.goto (-176), 3) := rfl
theorem f25_193 : pm_fetch 25 193 = some (.iload 4, 2) := rfl
theorem f25_195 : pm_fetch 25 195 = some (.ifCond .ge 7, 3) := rfl
theorem f25_198 : pm_fetch 25 198 = some (.iconst 0, 1) := rfl
theorem f25_199 : pm_fetch 25 199 = some (.goto 10, 3) := rfl
theorem f25_202 : pm_fetch 25 202 = some (.aload_n 0, 1) := rfl
theorem f25_203 : pm_fetch 25 203 = some (.getfield 17, 3) := rfl
theorem f25_206 : pm_fetch 25 206 = some (.iload 4, 2) := rfl
theorem f25_208 : pm_fetch 25 208 = some (.iaload, 1) := rfl
theorem f25_209 : pm_fetch 25 209 = some (.ireturn, 1) := rfl
theorem f24_0 : pm_fetch 24 0 = some (.aload_n 0, 1) := rfl
theorem f24_1 : pm_fetch 24 1 = some (.aload_n 2, 1) := rfl
theorem f24_2 : pm_fetch 24 2 = some (.invokevirtual 108, 3) := rfl
theorem f24_5 : pm_fetch 24 5 = some (.ifCond .eq 7, 3) := rfl
theorem f24_8 : pm_fetch 24 8 = some (.iconst 1, 1) := rfl
theorem f24_9 : pm_fetch 24 9 = some (.goto 4, 3) := rfl
theorem f24_12 : pm_fetch 24 12 = some (.iconst 0, 1) := rfl
theorem f24_13 : pm_fetch 24 13 = some (.istore_n 3, 1) := rfl
theorem f24_14 : pm_fetch 24 14 = some (.iload_n 1, 1) := rfl
theorem f24_15 : pm_fetch 24 15 = some (.lookupswitch 66 #[(0, 25), (1, 45)], 25) := rfl
theorem f24_40 : pm_fetch 24 40 = some (.aload_n 0, 1) := rfl
theorem f24_41 : pm_fetch 24 41 = some (.aload_n 0, 1) := rfl
theorem f24_42 : pm_fetch 24 42 = some (.getfield 21, 3) := rfl
theorem f24_45 : pm_fetch 24 45 = some (.getfield 112, 3) := rfl
theorem f24_48 : pm_fetch 24 48 = some (.aload_n 2, 1) := rfl
theorem f24_49 : pm_fetch 24 49 = some (.iload_n 3, 1) := rfl
theorem f24_50 : pm_fetch 24 50 = some (.invokevirtual 117, 3) := rfl
theorem f24_53 : pm_fetch 24 53 = some (.iconst 0, 1) := rfl
theorem f24_54 : pm_fetch 24 54 = some (.bipush 9, 2) := rfl
theorem f24_56 : pm_fetch 24 56 = some (.invokestatic 121, 3) := rfl
theorem f24_59 : pm_fetch 24 59 = some (.ireturn, 1) := rfl
theorem f24_60 : pm_fetch 24 60 = some (.aload_n 0, 1) := rfl
theorem f24_61 : pm_fetch 24 61 = some (.aload_n 0, 1) := rfl
theorem f24_62 : pm_fetch 24 62 = some (.getfield 21, 3) := rfl
theorem f24_65 : pm_fetch 24 65 = some (.getfield 125, 3) := rfl
theorem f24_68 : pm_fetch 24 68 = some (.aload_n 2, 1) := rfl
theorem f24_69 : pm_fetch 24 69 = some (.iload_n 3, 1) := rfl
theorem f24_70 : pm_fetch 24 70 = some (.invokevirtual 117, 3) := rfl
theorem f24_73 : pm_fetch 24 73 = some (.bipush (-99), 2) := rfl
theorem f24_75 : pm_fetch 24 75 = some (.bipush 99, 2) := rfl
theorem f24_77 : pm_fetch 24 77 = some (.invokestatic 121, 3) := rfl
theorem f24_80 : pm_fetch 24 80 = some (.ireturn, 1) := rfl
theorem f24_81 : pm_fetch 24 81 = some (.aload_n 0, 1) := rfl
theorem f24_82 : pm_fetch 24 82 = some (.aload_n 0, 1) := rfl
theorem f24_83 : pm_fetch 24 83 = some (.getfield 21, 3) := rfl
theorem f24_86 : pm_fetch 24 86 = some (.getfield 128, 3) := rfl
theorem f24_89 : pm_fetch 24 89 = some (.aload_n 2, 1) := rfl
theorem f24_90 : pm_fetch 24 90 = some (.iload_n 3, 1) := rfl
theorem f24_91 : pm_fetch 24 91 = some (.invokevirtual 117, 3) := rfl
theorem f24_94 : pm_fetch 24 94 = some (.iconst 0, 1) := rfl
theorem f24_95 : pm_fetch 24 95 = some (.bipush 99, 2) := rfl
theorem f24_97 : pm_fetch 24 97 = some (.invokestatic 121, 3) := rfl
theorem f24_100 : pm_fetch 24 100 = some (.ireturn, 1) := rfl
theorem f20_0 : pm_fetch 20 0 = some (.aload_n 0, 1) := rfl
theorem f20_1 : pm_fetch 20 1 = some (.iconst 0, 1) := rfl
theorem f20_2 : pm_fetch 20 2 = some (.aload_n 1, 1) := rfl
theorem f20_3 : pm_fetch 20 3 = some (.invokevirtual 88, 3) := rfl
theorem f20_6 : pm_fetch 20 6 = some (.istore_n 2, 1) := rfl
theorem f20_7 : pm_fetch 20 7 = some (.aload_n 1, 1) := rfl
theorem f20_8 : pm_fetch 20 8 = some (.getfield 92, 3) := rfl
theorem f20_11 : pm_fetch 20 11 = some (.tableswitch 80 1 5 #[33, 42, 48, 70, 78], 33) := rfl
theorem f20_44 : pm_fetch 20 44 = some (.iload_n 2, 1) := rfl
theorem f20_45 : pm_fetch 20 45 = some (.aload_n 1, 1) := rfl
theorem f20_46 : pm_fetch 20 46 = some (.getfield 95, 3) := rfl
theorem f20_49 : pm_fetch 20 49 = some (.invokestatic 98, 3) := rfl
theorem f20_52 : pm_fetch 20 52 = some (.ireturn, 1) := rfl
theorem f20_53 : pm_fetch 20 53 = some (.aload_n 1, 1) := rfl
theorem f20_54 : pm_fetch 20 54 = some (.iload_n 2, 1) := rfl
theorem f20_55 : pm_fetch 20 55 = some (.invokestatic 104, 3) := rfl
theorem f20_58 : pm_fetch 20 58 = some (.ireturn, 1) := rfl
theorem f20_59 : pm_fetch 20 59 = some (.aload_n 0, 1) := rfl
theorem f20_60 : pm_fetch 20 60 = some (.getfield 43, 3) := rfl
theorem f20_63 : pm_fetch 20 63 = some (.iconst 1, 1) := rfl
theorem f20_64 : pm_fetch 20 64 = some (.iand, 1) := rfl
theorem f20_65 : pm_fetch 20 65 = some (.ifCond .ne 14, 3) := rfl
theorem f20_68 : pm_fetch 20 68 = some (.iload_n 2, 1) := rfl
theorem f20_69 : pm_fetch 20 69 = some (.aload_n 1, 1) := rfl
theorem f20_70 : pm_fetch 20 70 = some (.getfield 95, 3) := rfl
theorem f20_73 : pm_fetch 20 73 = some (.invokestatic 98, 3) := rfl
theorem f20_76 : pm_fetch 20 76 = some (.goto 4, 3) := rfl
theorem f20_79 : pm_fetch 20 79 = some (.iconst 0, 1) := rfl
theorem f20_80 : pm_fetch 20 80 = some (.ireturn, 1) := rfl
theorem f20_81 : pm_fetch 20 81 = some (.iconst 2, 1) := rfl
theorem f20_82 : pm_fetch 20 82 = some (.aload_n 1, 1) := rfl
theorem f20_83 : pm_fetch 20 83 = some (.iload_n 2, 1) := rfl
theorem f20_84 : pm_fetch 20 84 = some (.invokestatic 104, 3) := rfl
theorem f20_87 : pm_fetch 20 87 = some (.imul, 1) := rfl
theorem f20_88 : pm_fetch 20 88 = some (.ireturn, 1) := rfl
theorem f20_89 : pm_fetch 20 89 = some (.iconst 0, 1) := rfl
theorem f20_90 : pm_fetch 20 90 = some (.ireturn, 1) := rfl
theorem f20_91 : pm_fetch 20 91 = some (.iload_n 2, 1) := rfl
theorem f20_92 : pm_fetch 20 92 = some (.ireturn, 1) := rfl
theorem f22_0 : pm_fetch 22 0 = some (.aload_n 0, 1) := rfl
theorem f22_1 : pm_fetch 22 1 = some (.iconst 1, 1) := rfl
theorem f22_2 : pm_fetch 22 2 = some (.aload_n 1, 1) := rfl
theorem f22_3 : pm_fetch 22 3 = some (.invokevirtual 88, 3) := rfl
theorem f22_6 : pm_fetch 22 6 = some (.istore_n 2, 1) := rfl
theorem f22_7 : pm_fetch 22 7 = some (.aload_n 1, 1) := rfl
theorem f22_8 : pm_fetch 22 8 = some (.getfield 92, 3) := rfl
theorem f22_11 : pm_fetch 22 11 = some (.tableswitch 74 1 5 #[33, 74, 33, 49, 56], 33) := rfl
theorem f22_44 : pm_fetch 22 44 = some (.aload_n 0, 1) := rfl
theorem f22_45 : pm_fetch 22 45 = some (.aload_n 1, 1) := rfl
theorem f22_46 : pm_fetch 22 46 = some (.invokevirtual 108, 3) := rfl
theorem f22_49 : pm_fetch 22 49 = some (.ifCond .eq 9, 3) := rfl
theorem f22_52 : pm_fetch 22 52 = some (.iload_n 2, 1) := rfl
theorem f22_53 : pm_fetch 22 53 = some (.iconst 2, 1) := rfl
theorem f22_54 : pm_fetch 22 54 = some (.idiv, 1) := rfl
theorem f22_55 : pm_fetch 22 55 = some (.goto 4, 3) := rfl
theorem f22_58 : pm_fetch 22 58 = some (.iload_n 2, 1) := rfl
theorem f22_59 : pm_fetch 22 59 = some (.ireturn, 1) := rfl
theorem f22_60 : pm_fetch 22 60 = some (.iload_n 2, 1) := rfl
theorem f22_61 : pm_fetch 22 61 = some (.aload_n 1, 1) := rfl
theorem f22_62 : pm_fetch 22 62 = some (.getfield 95, 3) := rfl
theorem f22_65 : pm_fetch 22 65 = some (.isub, 1) := rfl
theorem f22_66 : pm_fetch 22 66 = some (.ireturn, 1) := rfl
theorem f22_67 : pm_fetch 22 67 = some (.aload_n 0, 1) := rfl
theorem f22_68 : pm_fetch 22 68 = some (.aload_n 1, 1) := rfl
theorem f22_69 : pm_fetch 22 69 = some (.invokevirtual 108, 3) := rfl
theorem f22_72 : pm_fetch 22 72 = some (.ifCond .eq 11, 3) := rfl
theorem f22_75 : pm_fetch 22 75 = some (.aload_n 1, 1) := rfl
theorem f22_76 : pm_fetch 22 76 = some (.getfield 95, 3) := rfl
theorem f22_79 : pm_fetch 22 79 = some (.ineg, 1) := rfl
theorem f22_80 : pm_fetch 22 80 = some (.goto 4, 3) := rfl
theorem f22_83 : pm_fetch 22 83 = some (.iconst 0, 1) := rfl
theorem f22_84 : pm_fetch 22 84 = some (.ireturn, 1) := rfl
theorem f22_85 : pm_fetch 22 85 = some (.iload_n 2, 1) := rfl
theorem f22_86 : pm_fetch 22 86 = some (.ireturn, 1) := rfl
theorem f23_0 : pm_fetch 23 0 = some (.aload_n 1, 1) := rfl
theorem f23_1 : pm_fetch 23 1 = some (.getfield 92, 3) := rfl
theorem f23_4 : pm_fetch 23 4 = some (.tableswitch 42 2 4 #[28, 40, 28], 28) := rfl
theorem f23_32 : pm_fetch 23 32 = some (.aload_n 0, 1) := rfl
theorem f23_33 : pm_fetch 23 33 = some (.iconst 2, 1) := rfl
theorem f23_34 : pm_fetch 23 34 = some (.aload_n 1, 1) := rfl
theorem f23_35 : pm_fetch 23 35 = some (.invokevirtual 88, 3) := rfl
theorem f23_38 : pm_fetch 23 38 = some (.aload_n 1, 1) := rfl
theorem f23_39 : pm_fetch 23 39 = some (.getfield 95, 3) := rfl
theorem f23_42 : pm_fetch 23 42 = some (.iadd, 1) := rfl
theorem f23_43 : pm_fetch 23 43 = some (.ireturn, 1) := rfl
theorem f23_44 : pm_fetch 23 44 = some (.iconst 0, 1) := rfl
theorem f23_45 : pm_fetch 23 45 = some (.ireturn, 1) := rfl
theorem f23_46 : pm_fetch 23 46 = some (.aload_n 0, 1) := rfl
theorem f23_47 : pm_fetch 23 47 = some (.iconst 2, 1) := rfl
theorem f23_48 : pm_fetch 23 48 = some (.aload_n 1, 1) := rfl
theorem f23_49 : pm_fetch 23 49 = some (.invokevirtual 88, 3) := rfl
theorem f23_52 : pm_fetch 23 52 = some (.ireturn, 1) := rfl
theorem f18_0 : pm_fetch 18 0 = some (.aload_n 0, 1) := rfl
theorem f18_1 : pm_fetch 18 1 = some (.getfield 11, 3) := rfl
theorem f18_4 : pm_fetch 18 4 = some (.astore_n 1, 1) := rfl
theorem f18_5 : pm_fetch 18 5 = some (.aload_n 1, 1) := rfl
theorem f18_6 : pm_fetch 18 6 = some (.arraylength, 1) := rfl
theorem f18_7 : pm_fetch 18 7 = some (.istore_n 2, 1) := rfl
theorem f18_8 : pm_fetch 18 8 = some (.iconst 0, 1) := rfl
theorem f18_9 : pm_fetch 18 9 = some (.istore_n 3, 1) := rfl
theorem f18_10 : pm_fetch 18 10 = some (.iload_n 3, 1) := rfl
theorem f18_11 : pm_fetch 18 11 = some (.iload_n 2, 1) := rfl
theorem f18_12 : pm_fetch 18 12 = some (.if_icmp .ge 74, 3) := rfl
theorem f18_15 : pm_fetch 18 15 = some (.aload_n 1, 1) := rfl
theorem f18_16 : pm_fetch 18 16 = some (.iload_n 3, 1) := rfl
theorem f18_17 : pm_fetch 18 17 = some (.aaload, 1) := rfl
theorem f18_18 : pm_fetch 18 18 = some (.astore 4, 2) := rfl
theorem f18_20 : pm_fetch 18 20 = some (.aload 4, 2) := rfl
theorem f18_22 : pm_fetch 18 22 = some (.getfield 46, 3) := rfl
theorem f18_25 : pm_fetch 18 25 = some (.ifCond .ne 55, 3) := rfl
theorem f18_28 : pm_fetch 18 28 = some (.aload 4, 2) := rfl
theorem f18_30 : pm_fetch 18 30 = some (.aload_n 0, 1) := rfl
theorem f18_31 : pm_fetch 18 31 = some (.aload 4, 2) := rfl
theorem f18_33 : pm_fetch 18 33 = some (.invokevirtual 66, 3) := rfl
theorem f18_36 : pm_fetch 18 36 = some (.invokevirtual 70, 3) := rfl
theorem f18_39 : pm_fetch 18 39 = some (.aload_n 0, 1) := rfl
theorem f18_40 : pm_fetch 18 40 = some (.aload 4, 2) := rfl
theorem f18_42 : pm_fetch 18 42 = some (.invokevirtual 73, 3) := rfl
theorem f18_45 : pm_fetch 18 45 = some (.aload 4, 2) := rfl
theorem f18_47 : pm_fetch 18 47 = some (.aload_n 0, 1) := rfl
theorem f18_48 : pm_fetch 18 48 = some (.aload 4, 2) := rfl
theorem f18_50 : pm_fetch 18 50 = some (.invokevirtual 76, 3) := rfl
theorem f18_53 : pm_fetch 18 53 = some (.invokevirtual 79, 3) := rfl
theorem f18_56 : pm_fetch 18 56 = some (.aload 4, 2) := rfl
theorem f18_58 : pm_fetch 18 58 = some (.aload 4, 2) := rfl
theorem f18_60 : pm_fetch 18 60 = some (.getfield 82, 3) := rfl
theorem f18_63 : pm_fetch 18 63 = some (.aload_n 0, 1) := rfl
theorem f18_64 : pm_fetch 18 64 = some (.aload 4, 2) := rfl
theorem f18_66 : pm_fetch 18 66 = some (.invokevirtual 85, 3) := rfl
theorem f18_69 : pm_fetch 18 69 = some (.if_icmp .ge 7, 3) := rfl
theorem f18_72 : pm_fetch 18 72 = some (.iconst 1, 1) := rfl
theorem f18_73 : pm_fetch 18 73 = some (.goto 4, 3) := rfl
theorem f18_76 : pm_fetch 18 76 = some (.iconst 0, 1) := rfl
theorem f18_77 : pm_fetch 18 77 = some (.putfield 46, 3) := rfl
theorem f18_80 : pm_fetch 18 80 = some (.iinc 3 1, 3) := rfl
theorem f18_83 : pm_fetch 18 83 = some (.goto (-73), 3) := rfl
theorem f18_86 : pm_fetch 18 86 = some (.aload_n 0, 1) := rfl
theorem f18_87 : pm_fetch 18 87 = some (.dup, 1) := rfl
theorem f18_88 : pm_fetch 18 88 = some (.getfield 43, 3) := rfl
theorem f18_91 : pm_fetch 18 91 = some (.iconst 1, 1) := rfl
theorem f18_92 : pm_fetch 18 92 = some (.iadd, 1) := rfl
theorem f18_93 : pm_fetch 18 93 = some (.putfield 43, 3) := rfl
theorem f18_96 : pm_fetch 18 96 = some (.return_, 1) := rfl
theorem f28_0 : pm_fetch 28 0 = some (.aload_n 0, 1) := rfl
theorem f28_1 : pm_fetch 28 1 = some (.invokespecial 1, 3) := rfl
theorem f28_4 : pm_fetch 28 4 = some (.aload_n 0, 1) := rfl
theorem f28_5 : pm_fetch 28 5 = some (.iload_n 1, 1) := rfl
theorem f28_6 : pm_fetch 28 6 = some (.putfield 7, 3) := rfl
theorem f28_9 : pm_fetch 28 9 = some (.aload_n 0, 1) := rfl
theorem f28_10 : pm_fetch 28 10 = some (.aload_n 2, 1) := rfl
theorem f28_11 : pm_fetch 28 11 = some (.putfield 13, 3) := rfl
theorem f28_14 : pm_fetch 28 14 = some (.aload_n 0, 1) := rfl
theorem f28_15 : pm_fetch 28 15 = some (.aload_n 3, 1) := rfl
theorem f28_16 : pm_fetch 28 16 = some (.putfield 17, 3) := rfl
theorem f28_19 : pm_fetch 28 19 = some (.aload_n 0, 1) := rfl
theorem f28_20 : pm_fetch 28 20 = some (.aload 4, 2) := rfl
theorem f28_22 : pm_fetch 28 22 = some (.putfield 20, 3) := rfl
theorem f28_25 : pm_fetch 28 25 = some (.return_, 1) := rfl
theorem f29_0 : pm_fetch 29 0 = some (.aload_n 0, 1) := rfl
theorem f29_1 : pm_fetch 29 1 = some (.invokespecial 3, 3) := rfl
theorem f29_4 : pm_fetch 29 4 = some (.aload_n 0, 1) := rfl
theorem f29_5 : pm_fetch 29 5 = some (.iconst (-1), 1) := rfl
theorem f29_6 : pm_fetch 29 6 = some (.putfield 9, 3) := rfl
theorem f29_9 : pm_fetch 29 9 = some (.aload_n 0, 1) := rfl
theorem f29_10 : pm_fetch 29 10 = some (.bipush 40, 2) := rfl
theorem f29_12 : pm_fetch 29 12 = some (.newarray .int, 2) := rfl
theorem f29_14 : pm_fetch 29 14 = some (.putfield 15, 3) := rfl
theorem f29_17 : pm_fetch 29 17 = some (.return_, 1) := rfl
theorem f30_0 : pm_fetch 30 0 = some (.aload_n 0, 1) := rfl
theorem f30_1 : pm_fetch 30 1 = some (.iload_n 1, 1) := rfl
theorem f30_2 : pm_fetch 30 2 = some (.putfield 9, 3) := rfl
theorem f30_5 : pm_fetch 30 5 = some (.aload_n 0, 1) := rfl
theorem f30_6 : pm_fetch 30 6 = some (.iload_n 2, 1) := rfl
theorem f30_7 : pm_fetch 30 7 = some (.putfield 19, 3) := rfl
theorem f30_10 : pm_fetch 30 10 = some (.aload_n 0, 1) := rfl
theorem f30_11 : pm_fetch 30 11 = some (.getfield 15, 3) := rfl
theorem f30_14 : pm_fetch 30 14 = some (.iconst 0, 1) := rfl
theorem f30_15 : pm_fetch 30 15 = some (.invokestatic 22, 3) := rfl
theorem f30_18 : pm_fetch 30 18 = some (.return_, 1) := rfl
theorem f31_0 : pm_fetch 31 0 = some (.iload_n 1, 1) := rfl
theorem f31_1 : pm_fetch 31 1 = some (.ifCond .lt 44, 3) := rfl
theorem f31_4 : pm_fetch 31 4 = some (.iload_n 1, 1) := rfl
theorem f31_5 : pm_fetch 31 5 = some (.aload_n 0, 1) := rfl
theorem f31_6 : pm_fetch 31 6 = some (.getfield 15, 3) := rfl
theorem f31_9 : pm_fetch 31 9 = some (.arraylength, 1) := rfl
theorem f31_10 : pm_fetch 31 10 = some (.if_icmp .ge 35, 3) := rfl
theorem f31_13 : pm_fetch 31 13 = some (.aload_n 0, 1) := rfl
theorem f31_14 : pm_fetch 31 14 = some (.getfield 15, 3) := rfl
theorem f31_17 : pm_fetch 31 17 = some (.iload_n 1, 1) := rfl
theorem f31_18 : pm_fetch 31 18 = some (.aload_n 0, 1) := rfl
theorem f31_19 : pm_fetch 31 19 = some (.getfield 9, 3) := rfl
theorem f31_22 : pm_fetch 31 22 = some (.ifCond .ne 8, 3) := rfl
theorem f31_25 : pm_fetch 31 25 = some (.iload_n 2, 1) := rfl
theorem f31_26 : pm_fetch 31 26 = some (.i2b, 1) := rfl
theorem f31_27 : pm_fetch 31 27 = some (.goto 17, 3) := rfl
theorem f31_30 : pm_fetch 31 30 = some (.aload_n 0, 1) := rfl
theorem f31_31 : pm_fetch 31 31 = some (.getfield 9, 3) := rfl
theorem f31_34 : pm_fetch 31 34 = some (.iconst 1, 1) := rfl
theorem f31_35 : pm_fetch 31 35 = some (.if_icmp .ne 8, 3) := rfl
theorem f31_38 : pm_fetch 31 38 = some (.iload_n 2, 1) := rfl
theorem f31_39 : pm_fetch 31 39 = some (.i2s, 1) := rfl
theorem f31_40 : pm_fetch 31 40 = some (.goto 4, 3) := rfl
theorem f31_43 : pm_fetch 31 43 = some (.iload_n 2, 1) := rfl
theorem f31_44 : pm_fetch 31 44 = some (.iastore, 1) := rfl
theorem f31_45 : pm_fetch 31 45 = some (.return_, 1) := rfl
theorem f32_0 : pm_fetch 32 0 = some (.iload_n 1, 1) := rfl
theorem f32_1 : pm_fetch 32 1 = some (.ifCond .lt 29, 3) := rfl
theorem f32_4 : pm_fetch 32 4 = some (.iload_n 2, 1) := rfl
theorem f32_5 : pm_fetch 32 5 = some (.ifCond .lt 25, 3) := rfl
theorem f32_8 : pm_fetch 32 8 = some (.iload_n 2, 1) := rfl
theorem f32_9 : pm_fetch 32 9 = some (.aload_n 0, 1) := rfl
theorem f32_10 : pm_fetch 32 10 = some (.getfield 19, 3) := rfl
theorem f32_13 : pm_fetch 32 13 = some (.if_icmp .gt 17, 3) := rfl
theorem f32_16 : pm_fetch 32 16 = some (.iload_n 1, 1) := rfl
theorem f32_17 : pm_fetch 32 17 = some (.aload_n 0, 1) := rfl
theorem f32_18 : pm_fetch 32 18 = some (.getfield 19, 3) := rfl
theorem f32_21 : pm_fetch 32 21 = some (.iload_n 2, 1) := rfl
theorem f32_22 : pm_fetch 32 22 = some (.isub, 1) := rfl
theorem f32_23 : pm_fetch 32 23 = some (.if_icmp .gt 7, 3) := rfl
theorem f32_26 : pm_fetch 32 26 = some (.iconst 1, 1) := rfl
theorem f32_27 : pm_fetch 32 27 = some (.goto 4, 3) := rfl
theorem f32_30 : pm_fetch 32 30 = some (.iconst 0, 1) := rfl
theorem f32_31 : pm_fetch 32 31 = some (.ireturn, 1) := rfl
theorem f36_0 : pm_fetch 36 0 = some (.aload_n 0, 1) := rfl
theorem f36_1 : pm_fetch 36 1 = some (.iload_n 1, 1) := rfl
theorem f36_2 : pm_fetch 36 2 = some (.invokevirtual 39, 3) := rfl
theorem f36_5 : pm_fetch 36 5 = some (.aload_n 0, 1) := rfl
theorem f36_6 : pm_fetch 36 6 = some (.iconst 0, 1) := rfl
theorem f36_7 : pm_fetch 36 7 = some (.invokevirtual 53, 3) := rfl
theorem f36_10 : pm_fetch 36 10 = some (.aload_n 0, 1) := rfl
theorem f36_11 : pm_fetch 36 11 = some (.sipush 10020, 3) := rfl
theorem f36_14 : pm_fetch 36 14 = some (.invokevirtual 39, 3) := rfl
theorem f36_17 : pm_fetch 36 17 = some (.return_, 1) := rfl
theorem f35_0 : pm_fetch 35 0 = some (.aload_n 0, 1) := rfl
theorem f35_1 : pm_fetch 35 1 = some (.iconst (-1), 1) := rfl
theorem f35_2 : pm_fetch 35 2 = some (.putfield 23, 3) := rfl
theorem f35_5 : pm_fetch 35 5 = some (.aload_n 0, 1) := rfl
theorem f35_6 : pm_fetch 35 6 = some (.iconst 0, 1) := rfl
theorem f35_7 : pm_fetch 35 7 = some (.putfield 26, 3) := rfl
theorem f35_10 : pm_fetch 35 10 = some (.aload_n 0, 1) := rfl
theorem f35_11 : pm_fetch 35 11 = some (.iconst 0, 1) := rfl
theorem f35_12 : pm_fetch 35 12 = some (.putfield 29, 3) := rfl
theorem f35_15 : pm_fetch 35 15 = some (.aload_n 0, 1) := rfl
theorem f35_16 : pm_fetch 35 16 = some (.invokevirtual 32, 3) := rfl
theorem f35_19 : pm_fetch 35 19 = some (.aload_n 0, 1) := rfl
theorem f35_20 : pm_fetch 35 20 = some (.sipush 10015, 3) := rfl
theorem f35_23 : pm_fetch 35 23 = some (.invokevirtual 35, 3) := rfl
theorem f35_26 : pm_fetch 35 26 = some (.aload_n 0, 1) := rfl
theorem f35_27 : pm_fetch 35 27 = some (.getfield 26, 3) := rfl
theorem f35_30 : pm_fetch 35 30 = some (.istore_n 2, 1) := rfl
theorem f35_31 : pm_fetch 35 31 = some (.aload_n 0, 1) := rfl
theorem f35_32 : pm_fetch 35 32 = some (.sipush 10016, 3) := rfl
theorem f35_35 : pm_fetch 35 35 = some (.invokevirtual 35, 3) := rfl
theorem f35_38 : pm_fetch 35 38 = some (.aload_n 0, 1) := rfl
theorem f35_39 : pm_fetch 35 39 = some (.getfield 26, 3) := rfl
theorem f35_42 : pm_fetch 35 42 = some (.istore_n 3, 1) := rfl
theorem f35_43 : pm_fetch 35 43 = some (.aload_n 0, 1) := rfl
theorem f35_44 : pm_fetch 35 44 = some (.sipush 10017, 3) := rfl
theorem f35_47 : pm_fetch 35 47 = some (.invokevirtual 35, 3) := rfl
theorem f35_50 : pm_fetch 35 50 = some (.aload_n 0, 1) := rfl
theorem f35_51 : pm_fetch 35 51 = some (.sipush 10021, 3) := rfl
theorem f35_54 : pm_fetch 35 54 = some (.invokevirtual 39, 3) := rfl
theorem f35_57 : pm_fetch 35 57 = some (.aload_n 0, 1) := rfl
theorem f35_58 : pm_fetch 35 58 = some (.iconst 0, 1) := rfl
theorem f35_59 : pm_fetch 35 59 = some (.putfield 19, 3) := rfl
theorem f35_62 : pm_fetch 35 62 = some (.aload_n 0, 1) := rfl
theorem f35_63 : pm_fetch 35 63 = some (.getfield 23, 3) := rfl
theorem f35_66 : pm_fetch 35 66 = some (.iconst (-1), 1) := rfl
theorem f35_67 : pm_fetch 35 67 = some (.if_icmp .eq 5, 3) := rfl
theorem f35_70 : pm_fetch 35 70 = some (.aconst_null, 1) := rfl
theorem f35_71 : pm_fetch 35 71 = some (.areturn, 1) := rfl
theorem f35_72 : pm_fetch 35 72 = some (.new 42, 3) := rfl
theorem f35_75 : pm_fetch 35 75 = some (.dup, 1) := rfl
theorem f35_76 : pm_fetch 35 76 = some (.iload_n 1, 1) := rfl
theorem f35_77 : pm_fetch 35 77 = some (.aload_n 0, 1) := rfl
theorem f35_78 : pm_fetch 35 78 = some (.getfield 15, 3) := rfl
theorem f35_81 : pm_fetch 35 81 = some (.iconst 0, 1) := rfl
theorem f35_82 : pm_fetch 35 82 = some (.iload_n 2, 1) := rfl
theorem f35_83 : pm_fetch 35 83 = some (.invokestatic 44, 3) := rfl
theorem f35_86 : pm_fetch 35 86 = some (.aload_n 0, 1) := rfl
theorem f35_87 : pm_fetch 35 87 = some (.getfield 15, 3) := rfl
theorem f35_90 : pm_fetch 35 90 = some (.iload_n 2, 1) := rfl
theorem f35_91 : pm_fetch 35 91 = some (.iload_n 3, 1) := rfl
theorem f35_92 : pm_fetch 35 92 = some (.invokestatic 44, 3) := rfl
theorem f35_95 : pm_fetch 35 95 = some (.aload_n 0, 1) := rfl
theorem f35_96 : pm_fetch 35 96 = some (.getfield 15, 3) := rfl
theorem f35_99 : pm_fetch 35 99 = some (.iload_n 3, 1) := rfl
theorem f35_100 : pm_fetch 35 100 = some (.aload_n 0, 1) := rfl
theorem f35_101 : pm_fetch 35 101 = some (.getfield 26, 3) := rfl
theorem f35_104 : pm_fetch 35 104 = some (.invokestatic 44, 3) := rfl
theorem f35_107 : pm_fetch 35 107 = some (.invokespecial 50, 3) := rfl
theorem f35_110 : pm_fetch 35 110 = some (.areturn, 1) := rfl
/-- DunesWalked.bounded(III)I -/
def X_bounded (h : pm_H) (a0 : Int32) (a1 : Int32) (a2 : Int32) : Option (pm_H × Int32) := if a1 ≤ a0 then (if a0 ≤ a2 then (some (h, a0)) else (some (h, a2))) else (some (h, a1))
/-- DunesWalked$Dune.<init>(I)V -/
def D_init (h : pm_H) (t : Nat) (a1 : Int32) : Option (pm_H × Unit) := bnd (op_S h t 0 0 (.int a1)) fun h1q => bnd (op_S h1q t 0 4 (.int 1)) fun h2q => bnd (op_S h2q t 0 6 (.int 1)) fun h3q => some (h3q, ())
/-- DunesWalked$Dune.become(LDunesWalked$Dune;)V -/
def D_become (h : pm_H) (t : Nat) (a1 : Option Nat) : Option (pm_H × Unit) := bnd a1 fun u1q => bnd (op_I h u1q 0 1) fun x2q => bnd (op_S h t 0 1 (.int x2q)) fun h3q => bnd (op_I h3q u1q 0 2) fun x4q => bnd (op_S h3q t 0 2 (.int x4q)) fun h5q => bnd (op_I h5q u1q 0 3) fun x6q => bnd (op_S h5q t 0 3 (.int x6q)) fun h7q => bnd (op_I h7q u1q 0 4) fun x8q => bnd (op_S h7q t 0 4 (.int x8q)) fun h9q => bnd (op_I h9q u1q 0 5) fun x10q => bnd (op_S h9q t 0 5 (.int x10q)) fun h11q => bnd (op_I h11q u1q 0 6) fun x12q => grd (decide (x12q = 0 ∨ x12q = 1)) <| bnd (op_S h11q t 0 6 (.int x12q)) fun h14q => some (h14q, ())
/-- DunesWalked$Dune.yards()J -/
def D_yards (h : pm_H) (t : Nat) : Option (pm_H × Int64) := bnd (op_I h t 0 3) fun x1q => bnd (op_I h t 0 4) fun x2q => nmd ((x1q - x2q) + 1) fun y3q => bnd (op_I h t 0 3) fun x4q => if (0 : Int32) ≤ y3q then (some (h, ((1 <<< (((x4q + 1) : Int32).toInt64 &&& 63)) - (1 <<< ((y3q : Int32).toInt64 &&& 63))))) else (some (h, ((1 <<< (((x4q + 1) : Int32).toInt64 &&& 63)) - (1 <<< ((0 : Int32).toInt64 &&& 63)))))
/-- DunesWalked$Dune.quality(I)I -/
def D_quality (h : pm_H) (t : Nat) (a1 : Int32) : Option (pm_H × Int32) := if a1 = 0 then (bnd (op_I h t 0 3) fun x2q => some (h, x2q)) else (if a1 = 1 then (bnd (op_I h t 0 4) fun x4q => some (h, x4q)) else (if a1 = 2 then (bnd (op_I h t 0 5) fun x6q => some (h, x6q)) else (if a1 = 3 then (bnd (op_I h t 0 1) fun x8q => some (h, x8q)) else (bnd (op_I h t 0 2) fun x9q => some (h, x9q)))))
/-- DunesWalked$Dune.change(II)V -/
def D_change (h : pm_H) (t : Nat) (a1 : Int32) (a2 : Int32) : Option (pm_H × Unit) := if a1 = 0 then (bnd (op_S h t 0 3 (.int a2)) fun h2q => some (h2q, ())) else (if a1 = 1 then (bnd (op_S h t 0 4 (.int a2)) fun h4q => some (h4q, ())) else (if a1 = 2 then (bnd (op_S h t 0 5 (.int a2)) fun h6q => some (h6q, ())) else (if a1 = 3 then (bnd (op_S h t 0 1 (.int a2)) fun h8q => some (h8q, ())) else (bnd (op_S h t 0 2 (.int a2)) fun h9q => some (h9q, ())))))
/-- DunesWalked$Dune.frontOrGone()I -/
def D_frontOrGone (h : pm_H) (t : Nat) : Option (pm_H × Int32) := bnd (op_I h t 0 6) fun x1q => if x1q = 0 then (bnd (op_I h t 0 3) fun x3q => some (h, x3q)) else (some (h, (-1)))
/-- DunesWalked$Dune.isOf(I)Z -/
def D_isOf_38 (h : pm_H) : Option (pm_H × Int32) := some (h, 1)
def D_isOf_25 (h : pm_H) (l0 : Nat) (l1 : Int32) : Option (pm_H × Int32) := if l1 = 2 then (bnd (op_I h l0 0 1) fun x2q => if x2q = 4 then (D_isOf_38 h) else (some (h, 0))) else (some (h, 0))
def D_isOf (h : pm_H) (t : Nat) (a1 : Int32) : Option (pm_H × Int32) := if a1 = 0 then (D_isOf_38 h) else (bnd (op_I h t 0 1) fun x2q => if a1 = x2q then (D_isOf_38 h) else (if a1 = 1 then (bnd (op_I h t 0 1) fun x5q => if x5q = 3 then (D_isOf_38 h) else (D_isOf_25 h t a1)) else (D_isOf_25 h t a1)))
/-- DunesWalked$Dune.walk(I)V -/
def D_walk (h : pm_H) (t : Nat) (a1 : Int32) : Option (pm_H × Unit) := bnd (op_I h t 0 3) fun x1q => bn2 (X_bounded h (x1q + a1) 0 39) fun h2q x3q => bnd (op_S h2q t 0 3 (.int x3q)) fun h4q => some (h4q, ())
/-- DunesWalked$Dune.rise(I)V -/
def D_rise (h : pm_H) (t : Nat) (a1 : Int32) : Option (pm_H × Unit) := bnd (op_I h t 0 5) fun x1q => bn2 (X_bounded h (x1q + a1) 0 99) fun h2q x3q => bnd (op_S h2q t 0 5 (.int x3q)) fun h4q => some (h4q, ())
/-- DunesWalked$Land.<init>(LDunesWalked$Law;)V -/
def L_init_28 : Nat → pm_H → Nat → Int32 → Option (pm_H × Unit)
  | 0, _, _, _ => none
  | n + 1, h, l0, l2 => bnd (op_A h l0 1 0) fun x1q => bnd x1q fun u2q => bnd (op_ln h u2q) fun x3q => if x3q ≤ l2 then (some (h, ())) else (bnd (op_A h l0 1 0) fun x5q => nmd (List.length h) fun b7q => nmd (h ++ [.inr (0, pm_new 0)]) fun h6q => bn2 (D_init h6q b7q l2) fun h8q _ => bnd x5q fun u10q => bnd (op_sA h8q u10q 0 l2 b7q) fun h11q => nmd (l2 + 1) fun y12q => L_init_28 n h11q l0 y12q)
def L_init (h : pm_H) (t : Nat) (a1 : Option Nat) : Option (pm_H × Unit) := bnd (op_nA h 0 6) fun h1q => nmd (List.length h) fun b2q => bnd (op_S h1q t 1 0 (.ref b2q)) fun h3q => bnd (op_nI h3q 32) fun h4q => nmd (List.length h3q) fun b5q => bnd (op_S h4q t 1 6 (.ref b5q)) fun h6q => bnd (op_S h6q t 1 5 (va_rf a1)) fun h7q => L_init_28 1000 h7q t 0
/-- DunesWalked$Land.become(LDunesWalked$Land;)V -/
def L_become_41 (h : pm_H) (l0 : Nat) (l1 : Option Nat) : Option (pm_H × Unit) := bnd l1 fun u1q => bnd (op_I h u1q 1 1) fun x2q => bnd (op_S h l0 1 1 (.int x2q)) fun h3q => bnd (op_J h3q u1q 1 2) fun x4q => bnd (op_S h3q l0 1 2 (.long x4q)) fun h5q => bnd (op_J h5q u1q 1 3) fun x6q => bnd (op_S h5q l0 1 3 (.long x6q)) fun h7q => bnd (op_I h7q u1q 1 4) fun x8q => bnd (op_S h7q l0 1 4 (.int x8q)) fun h9q => bnd (op_A h9q u1q 1 5) fun x10q => bnd (op_S h9q l0 1 5 (va_rf x10q)) fun h11q => some (h11q, ())
def L_become_2 : Nat → pm_H → Nat → Option Nat → Int32 → Option (pm_H × Unit)
  | 0, _, _, _, _ => none
  | n + 1, h, l0, l1, l2 => bnd (op_A h l0 1 0) fun x1q => bnd x1q fun u2q => bnd (op_ln h u2q) fun x3q => if x3q ≤ l2 then (L_become_41 h l0 l1) else (bnd l1 fun u5q => bnd (op_A h u5q 1 0) fun x6q => bnd x6q fun u7q => bnd (op_ln h u7q) fun x8q => if x8q ≤ l2 then (L_become_41 h l0 (some u5q)) else (bnd (op_A h l0 1 0) fun x10q => bnd x10q fun u11q => bnd (op_aA h u11q 0 l2) fun x12q => bnd (op_A h u5q 1 0) fun x13q => bnd x13q fun u14q => bnd (op_aA h u14q 0 l2) fun x15q => bnd x12q fun u16q => grd (op_is h u16q 0) <| bn2 (D_become h u16q x15q) fun h17q _ => nmd (l2 + 1) fun y20q => L_become_2 n h17q l0 (some u5q) y20q))
def L_become (h : pm_H) (t : Nat) (a1 : Option Nat) : Option (pm_H × Unit) := L_become_2 1000 h t a1 0
/-- DunesWalked$Land.standing(I)LDunesWalked$Dune; -/
def L_standing_25 (h : pm_H) : Option (pm_H × Option Nat) := some (h, none)
def L_standing (h : pm_H) (t : Nat) (a1 : Int32) : Option (pm_H × Option Nat) := if a1 < 0 then (L_standing_25 h) else (bnd (op_A h t 1 0) fun x2q => bnd x2q fun u3q => bnd (op_ln h u3q) fun x4q => if x4q ≤ a1 then (L_standing_25 h) else (bnd (op_A h t 1 0) fun x6q => bnd x6q fun u7q => bnd (op_aA h u7q 0 a1) fun x8q => bnd x8q fun u9q => bnd (op_I h u9q 0 6) fun x10q => if x10q = 0 then (bnd (op_A h t 1 0) fun x12q => bnd x12q fun u13q => bnd (op_aA h u13q 0 a1) fun x14q => some (h, x14q)) else (L_standing_25 h)))
/-- DunesWalked$Land.living()I -/
def L_living_45 (k_13 : pm_H → Int32 → Option Nat → Int32 → Int32 → Option (pm_H × Int32)) (h : pm_H) (l2 : Option Nat) (l3 : Int32) (l4 : Int32) (s0 : Int32) (s1 : Int32) : Option (pm_H × Int32) := nmd (s1 ||| s0) fun y1q => nmd (l4 + 1) fun y2q => k_13 h y1q l2 l3 y2q
def L_living_13 : Nat → pm_H → Int32 → Option Nat → Int32 → Int32 → Option (pm_H × Int32)
  | 0, _, _, _, _, _ => none
  | n + 1, h, l1, l2, l3, l4 => if l3 ≤ l4 then (some (h, l1)) else (bnd l2 fun u2q => bnd (op_aA h u2q 0 l4) fun x3q => bnd x3q fun u4q => bnd (op_I h u4q 0 6) fun x5q => if x5q = 0 then (bnd (op_I h u4q 0 0) fun x7q => L_living_45 (L_living_13 n) h (some u2q) l3 l4 (1 <<< (x7q &&& 31)) l1) else (L_living_45 (L_living_13 n) h (some u2q) l3 l4 0 l1))
def L_living (h : pm_H) (t : Nat) : Option (pm_H × Int32) := bnd (op_A h t 1 0) fun x1q => bnd x1q fun u2q => bnd (op_ln h u2q) fun x3q => L_living_13 1000 h 0 (some u2q) x3q 0
/-- DunesWalked$Land.sand()J -/
def L_sand_45 (k_14 : pm_H → Int64 → Option Nat → Int32 → Int32 → Option (pm_H × Int64)) (h : pm_H) (l3 : Option Nat) (l4 : Int32) (l5 : Int32) (s0 : Int64) (s1 : Int64) : Option (pm_H × Int64) := nmd (s1 ||| s0) fun y1q => nmd (l5 + 1) fun y2q => k_14 h y1q l3 l4 y2q
def L_sand_14 : Nat → pm_H → Int64 → Option Nat → Int32 → Int32 → Option (pm_H × Int64)
  | 0, _, _, _, _, _ => none
  | n + 1, h, l1, l3, l4, l5 => if l4 ≤ l5 then (some (h, l1)) else (bnd l3 fun u2q => bnd (op_aA h u2q 0 l5) fun x3q => bnd x3q fun u4q => bnd (op_I h u4q 0 6) fun x5q => if x5q = 0 then (grd (op_is h u4q 0) <| bn2 (D_yards h u4q) fun h7q x8q => L_sand_45 (L_sand_14 n) h7q (some u2q) l4 l5 x8q l1) else (L_sand_45 (L_sand_14 n) h (some u2q) l4 l5 0 l1))
def L_sand (h : pm_H) (t : Nat) : Option (pm_H × Int64) := bnd (op_A h t 1 0) fun x1q => bnd x1q fun u2q => bnd (op_ln h u2q) fun x3q => L_sand_14 1000 h 0 (some u2q) x3q 0
/-- DunesWalked$Land.buried()I -/
def L_buried (h : pm_H) (t : Nat) : Option (pm_H × Int32) := bnd (op_J h t 1 2) fun x1q => grd (op_is h t 1) <| bn2 (L_sand h t) fun h2q x3q => bn2 (Jl_bitCount h2q (x1q &&& x3q)) fun h5q x6q => some (h5q, x6q)
/-- DunesWalked$Land.hasHouse(I)Z -/
def L_hasHouse (h : pm_H) (t : Nat) (a1 : Int32) : Option (pm_H × Int32) := bnd (op_J h t 1 2) fun x1q => if (lg_cmp ((x1q >>> ((a1 : Int32).toInt64 &&& 63)) &&& 1) 1) = 0 then (some (h, 1)) else (some (h, 0))
/-- DunesWalked$Land.onClover(LDunesWalked$Dune;)Z -/
def L_onClover (h : pm_H) (t : Nat) (a1 : Option Nat) : Option (pm_H × Int32) := bnd (op_J h t 1 3) fun x1q => bnd a1 fun u2q => grd (op_is h u2q 0) <| bn2 (D_yards h u2q) fun h3q x4q => if (lg_cmp (x1q &&& x4q) 0) = 0 then (some (h3q, 0)) else (some (h3q, 1))
/-- DunesWalked$Land.firstOver(I)I -/
def L_firstOver_51 (k_11 : pm_H → Int32 → Option Nat → Int32 → Int32 → Option (pm_H × Int32)) (h : pm_H) (l1 : Int32) (l2 : Option Nat) (l3 : Int32) (l4 : Int32) : Option (pm_H × Int32) := nmd (l4 + 1) fun y1q => k_11 h l1 l2 l3 y1q
def L_firstOver_11 : Nat → pm_H → Int32 → Option Nat → Int32 → Int32 → Option (pm_H × Int32)
  | 0, _, _, _, _, _ => none
  | n + 1, h, l1, l2, l3, l4 => if l3 ≤ l4 then (some (h, (-1))) else (bnd l2 fun u2q => bnd (op_aA h u2q 0 l4) fun x3q => bnd x3q fun u4q => bnd (op_I h u4q 0 6) fun x5q => if x5q = 0 then (grd (op_is h u4q 0) <| bn2 (D_yards h u4q) fun h7q x8q => if (lg_cmp ((x8q >>> ((l1 : Int32).toInt64 &&& 63)) &&& 1) 1) = 0 then (bnd (op_I h7q u4q 0 0) fun x11q => some (h7q, x11q)) else (L_firstOver_51 (L_firstOver_11 n) h7q l1 (some u2q) l3 l4)) else (L_firstOver_51 (L_firstOver_11 n) h l1 (some u2q) l3 l4))
def L_firstOver (h : pm_H) (t : Nat) (a1 : Int32) : Option (pm_H × Int32) := bnd (op_A h t 1 0) fun x1q => bnd x1q fun u2q => bnd (op_ln h u2q) fun x3q => L_firstOver_11 1000 h a1 (some u2q) x3q 0
/-- DunesWalked$Land.takeUp(LDunesWalked$Dune;)V -/
def L_takeUp_106 (k_19 : pm_H → Option Nat → Int64 → Option Nat → Int32 → Int32 → Option (pm_H × Unit)) (h : pm_H) (l1 : Option Nat) (l2 : Int64) (l4 : Option Nat) (l5 : Int32) (l6 : Int32) : Option (pm_H × Unit) := nmd (l6 + 1) fun y1q => k_19 h l1 l2 l4 l5 y1q
def L_takeUp_70 (k_19 : pm_H → Option Nat → Int64 → Option Nat → Int32 → Int32 → Option (pm_H × Unit)) (h : pm_H) (l1 : Option Nat) (l2 : Int64) (l4 : Option Nat) (l5 : Int32) (l6 : Int32) (l7 : Option Nat) (s0 : Int32) : Option (pm_H × Unit) := if s0 = 0 then (L_takeUp_106 k_19 h l1 l2 l4 l5 l6) else (bnd l7 fun u2q => bnd (op_I h u2q 0 5) fun x3q => bnd l1 fun u4q => bnd (op_I h u4q 0 5) fun x5q => if x5q < x3q then (L_takeUp_106 k_19 h (some u4q) l2 l4 l5 l6) else (bnd (op_S h u2q 0 6 (.int 1)) fun h7q => bnd (op_I h7q u2q 0 5) fun x8q => grd (op_is h7q u4q 0) <| bn2 (D_rise h7q u4q (x8q / 2)) fun h9q _ => L_takeUp_106 k_19 h9q (some u4q) l2 l4 l5 l6))
def L_takeUp_69 (k_19 : pm_H → Option Nat → Int64 → Option Nat → Int32 → Int32 → Option (pm_H × Unit)) (h : pm_H) (l1 : Option Nat) (l2 : Int64) (l4 : Option Nat) (l5 : Int32) (l6 : Int32) (l7 : Option Nat) : Option (pm_H × Unit) := L_takeUp_70 k_19 h l1 l2 l4 l5 l6 l7 0
def L_takeUp_19 : Nat → pm_H → Option Nat → Int64 → Option Nat → Int32 → Int32 → Option (pm_H × Unit)
  | 0, _, _, _, _, _, _ => none
  | n + 1, h, l1, l2, l4, l5, l6 => if l5 ≤ l6 then (some (h, ())) else (bnd l4 fun u2q => bnd (op_aA h u2q 0 l6) fun x3q => bnd x3q fun u4q => bnd (op_I h u4q 0 0) fun x5q => bnd l1 fun u6q => bnd (op_I h u6q 0 0) fun x7q => if x5q = x7q then (L_takeUp_69 (L_takeUp_19 n) h (some u6q) l2 (some u2q) l5 l6 (some u4q)) else (bnd (op_I h u4q 0 6) fun x9q => if x9q = 0 then (grd (op_is h u4q 0) <| bn2 (D_yards h u4q) fun h11q x12q => if (lg_cmp (x12q &&& l2) 0) = 0 then (L_takeUp_69 (L_takeUp_19 n) h11q (some u6q) l2 (some u2q) l5 l6 (some u4q)) else (L_takeUp_70 (L_takeUp_19 n) h11q (some u6q) l2 (some u2q) l5 l6 (some u4q) 1)) else (L_takeUp_69 (L_takeUp_19 n) h (some u6q) l2 (some u2q) l5 l6 (some u4q))))
def L_takeUp (h : pm_H) (t : Nat) (a1 : Option Nat) : Option (pm_H × Unit) := bnd a1 fun u1q => grd (op_is h u1q 0) <| bn2 (D_yards h u1q) fun h2q x3q => bnd (op_A h2q t 1 0) fun x5q => bnd x5q fun u6q => bnd (op_ln h2q u6q) fun x7q => L_takeUp_19 1000 h2q (some u1q) x3q (some u6q) x7q 0
/-- DunesWalked$Land.blondStride(LDunesWalked$Dune;I)I -/
def L_blondStride (h : pm_H) (a0 : Option Nat) (a1 : Int32) : Option (pm_H × Int32) := bnd a0 fun u1q => bnd (op_I h u1q 0 5) fun x2q => if x2q ≤ 50 then (some (h, (a1 + 1))) else (some (h, (a1 / 2)))
/-- DunesWalked$Land.named(ILDunesWalked$Dune;I)I -/
def L_named (h : pm_H) (t : Nat) (a1 : Int32) (a2 : Option Nat) (a3 : Int32) : Option (pm_H × Int32) := if a1 = 10000 then (bnd a2 fun u2q => bnd (op_I h u2q 0 5) fun x3q => some (h, x3q)) else (if a1 = 10001 then (bnd a2 fun u5q => bnd (op_I h u5q 0 3) fun x6q => some (h, x6q)) else (if a1 = 10002 then (bnd a2 fun u8q => bnd (op_I h u8q 0 4) fun x9q => some (h, x9q)) else (if a1 = 10003 then (some (h, a3)) else (if a1 = 10004 then (bnd (op_I h t 1 4) fun x12q => some (h, x12q)) else (bnd a2 fun u13q => bnd (op_I h u13q 0 2) fun x14q => some (h, x14q))))))
/-- DunesWalked$Land.joined(III)I -/
def L_joined_48 (h : pm_H) : Option (pm_H × Int32) := some (h, 1)
def L_joined (h : pm_H) (a0 : Int32) (a1 : Int32) (a2 : Int32) : Option (pm_H × Int32) := if a0 = 10006 then (if a1 = 0 then (if a2 = 0 then (some (h, 0)) else (L_joined_48 h)) else (L_joined_48 h)) else (if a0 = 10007 then (if a1 = 0 then (some (h, 0)) else (if a2 = 0 then (some (h, 0)) else (some (h, 1)))) else (if a0 = 10008 then (if a2 ≤ a1 then (some (h, 0)) else (some (h, 1))) else (if a0 = 10009 then (if a1 = a2 then (some (h, 1)) else (some (h, 0))) else (if a0 = 10010 then (some (h, (a1 + a2))) else (if a0 = 10011 then (some (h, (a1 - a2))) else (some (h, (a1 * a2))))))))
/-- DunesWalked$Land.reckon([ILDunesWalked$Dune;I)I -/
def L_reckon_187 (k_14 : pm_H → Nat → Option Nat → Int32 → Int32 → Option Nat → Int32 → Int32 → Option (pm_H × Int32)) (h : pm_H) (l0 : Nat) (l2 : Option Nat) (l3 : Int32) (l4 : Int32) (l5 : Option Nat) (l6 : Int32) (l7 : Int32) : Option (pm_H × Int32) := nmd (l7 + 1) fun y1q => k_14 h l0 l2 l3 l4 l5 l6 y1q
def L_reckon_78 (k_14 : pm_H → Nat → Option Nat → Int32 → Int32 → Option Nat → Int32 → Int32 → Option (pm_H × Int32)) (h : pm_H) (l0 : Nat) (l2 : Option Nat) (l3 : Int32) (l4 : Int32) (l5 : Option Nat) (l6 : Int32) (l7 : Int32) (s0 : Int32) (s1 : Int32) (s2 : Option Nat) : Option (pm_H × Int32) := bnd s2 fun u1q => bnd (op_sI h u1q s1 s0) fun h2q => L_reckon_187 k_14 h2q l0 l2 l3 l4 l5 l6 l7
def L_reckon_145 (k_14 : pm_H → Nat → Option Nat → Int32 → Int32 → Option Nat → Int32 → Int32 → Option (pm_H × Int32)) (h : pm_H) (l0 : Nat) (l2 : Option Nat) (l3 : Int32) (l4 : Int32) (l5 : Option Nat) (l6 : Int32) (l7 : Int32) (s0 : Int32) (s1 : Int32) (s2 : Option Nat) : Option (pm_H × Int32) := bnd s2 fun u1q => bnd (op_sI h u1q s1 s0) fun h2q => L_reckon_187 k_14 h2q l0 l2 l3 l4 l5 l6 l7
def L_reckon_98 (k_14 : pm_H → Nat → Option Nat → Int32 → Int32 → Option Nat → Int32 → Int32 → Option (pm_H × Int32)) (h : pm_H) (l0 : Nat) (l2 : Option Nat) (l3 : Int32) (l4 : Int32) (l5 : Option Nat) (l6 : Int32) (l7 : Int32) (l8 : Int32) : Option (pm_H × Int32) := if (0 : Int32) ≤ l4 then (bnd (op_A h l0 1 6) fun x2q => if l8 = 10014 then (bnd (op_A h l0 1 6) fun x8q => bnd x8q fun u9q => bnd (op_aI h u9q l4) fun x10q => L_reckon_145 k_14 h l0 l2 l3 l4 l5 l6 l7 (-x10q) l4 x2q) else (bnd (op_A h l0 1 6) fun x4q => bnd x4q fun u5q => bnd (op_aI h u5q l4) fun x6q => if x6q = 0 then (L_reckon_145 k_14 h l0 l2 l3 l4 l5 l6 l7 1 l4 x2q) else (L_reckon_145 k_14 h l0 l2 l3 l4 l5 l6 l7 0 l4 x2q))) else (some (h, 0))
def L_reckon_14 : Nat → pm_H → Nat → Option Nat → Int32 → Int32 → Option Nat → Int32 → Int32 → Option (pm_H × Int32)
  | 0, _, _, _, _, _, _, _, _ => none
  | n + 1, h, l0, l2, l3, l4, l5, l6, l7 => if l6 ≤ l7 then (if (0 : Int32) ≤ l4 then (bnd (op_A h l0 1 6) fun x3q => bnd x3q fun u4q => bnd (op_aI h u4q l4) fun x5q => some (h, x5q)) else (some (h, 0))) else (bnd l5 fun u6q => bnd (op_aI h u6q l7) fun x7q => if 10005 < x7q then (if x7q = 10013 then (L_reckon_98 (L_reckon_14 n) h l0 l2 l3 l4 (some u6q) l6 l7 x7q) else (if x7q = 10014 then (L_reckon_98 (L_reckon_14 n) h l0 l2 l3 l4 (some u6q) l6 l7 x7q) else (nmd (l4 + (-1)) fun y11q => if (0 : Int32) ≤ y11q then (bnd (op_A h l0 1 6) fun x13q => bnd (op_A h l0 1 6) fun x14q => bnd x14q fun u15q => bnd (op_aI h u15q y11q) fun x16q => bnd (op_A h l0 1 6) fun x17q => bnd x17q fun u18q => bnd (op_aI h u18q (y11q + 1)) fun x19q => bn2 (L_joined h x7q x16q x19q) fun h20q x21q => bnd x13q fun u22q => bnd (op_sI h20q u22q y11q x21q) fun h23q => L_reckon_187 (L_reckon_14 n) h23q l0 l2 l3 y11q (some u6q) l6 l7) else (some (h, 0))))) else (nmd (l4 + 1) fun y24q => bnd (op_A h l0 1 6) fun x25q => bnd x25q fun u26q => bnd (op_ln h u26q) fun x27q => if y24q < x27q then (bnd (op_A h l0 1 6) fun x29q => if 10000 ≤ x7q then (grd (op_is h l0 1) <| bn2 (L_named h l0 x7q l2 l3) fun h31q x32q => L_reckon_78 (L_reckon_14 n) h31q l0 l2 l3 y24q (some u6q) l6 l7 x32q y24q x29q) else (L_reckon_78 (L_reckon_14 n) h l0 l2 l3 y24q (some u6q) l6 l7 x7q y24q x29q)) else (some (h, 0))))
def L_reckon (h : pm_H) (t : Nat) (a1 : Option Nat) (a2 : Option Nat) (a3 : Int32) : Option (pm_H × Int32) := bnd a1 fun u1q => bnd (op_ln h u1q) fun x2q => L_reckon_14 1000 h t a2 a3 (-1) (some u1q) x2q 0
/-- DunesWalked$Land.says(ILDunesWalked$Dune;)I -/
def L_says_13 (h : pm_H) (l0 : Nat) (l1 : Int32) (l2 : Option Nat) (s0 : Int32) : Option (pm_H × Int32) := if l1 = 0 then (bnd (op_A h l0 1 5) fun x2q => bnd x2q fun u3q => bnd (op_A h u3q 2 1) fun x4q => grd (op_is h l0 1) <| bn2 (L_reckon h l0 x4q l2 s0) fun h5q x6q => bn2 (X_bounded h5q x6q 0 9) fun h8q x9q => some (h8q, x9q)) else (if l1 = 1 then (bnd (op_A h l0 1 5) fun x11q => bnd x11q fun u12q => bnd (op_A h u12q 2 2) fun x13q => grd (op_is h l0 1) <| bn2 (L_reckon h l0 x13q l2 s0) fun h14q x15q => bn2 (X_bounded h14q x15q (-99) 99) fun h17q x18q => some (h17q, x18q)) else (bnd (op_A h l0 1 5) fun x19q => bnd x19q fun u20q => bnd (op_A h u20q 2 3) fun x21q => grd (op_is h l0 1) <| bn2 (L_reckon h l0 x21q l2 s0) fun h22q x23q => bn2 (X_bounded h22q x23q 0 99) fun h25q x26q => some (h25q, x26q)))
def L_says (h : pm_H) (t : Nat) (a1 : Int32) (a2 : Option Nat) : Option (pm_H × Int32) := grd (op_is h t 1) <| bn2 (L_onClover h t a2) fun h1q x2q => if x2q = 0 then (L_says_13 h1q t a1 a2 0) else (L_says_13 h1q t a1 a2 1)
/-- DunesWalked$Land.stride(LDunesWalked$Dune;)I -/
def L_stride (h : pm_H) (t : Nat) (a1 : Option Nat) : Option (pm_H × Int32) := grd (op_is h t 1) <| bn2 (L_says h t 0 a1) fun h1q x2q => bnd a1 fun u4q => bnd (op_I h1q u4q 0 1) fun x5q => if x5q = 1 then (bnd (op_I h1q u4q 0 2) fun x7q => some (h1q, (if x7q < x2q then x7q else x2q))) else (if x5q = 2 then (bn2 (L_blondStride h1q (some u4q) x2q) fun h9q x10q => some (h9q, x10q)) else (if x5q = 3 then (bnd (op_I h1q t 1 4) fun x12q => if (x12q &&& 1) = 0 then (bnd (op_I h1q u4q 0 2) fun x14q => some (h1q, (if x14q < x2q then x14q else x2q))) else (some (h1q, 0))) else (if x5q = 4 then (bn2 (L_blondStride h1q (some u4q) x2q) fun h16q x17q => some (h16q, (2 * x17q))) else (if x5q = 5 then (some (h1q, 0)) else (some (h1q, x2q))))))
/-- DunesWalked$Land.growth(LDunesWalked$Dune;)I -/
def L_growth_44 (h : pm_H) (l0 : Nat) (l1 : Option Nat) (l2 : Int32) : Option (pm_H × Int32) := grd (op_is h l0 1) <| bn2 (L_onClover h l0 l1) fun h1q x2q => if x2q = 0 then (some (h1q, l2)) else (some (h1q, (l2 / 2)))
def L_growth (h : pm_H) (t : Nat) (a1 : Option Nat) : Option (pm_H × Int32) := grd (op_is h t 1) <| bn2 (L_says h t 1 a1) fun h1q x2q => bnd a1 fun u4q => bnd (op_I h1q u4q 0 1) fun x5q => if x5q = 1 then (L_growth_44 h1q t (some u4q) x2q) else (if x5q = 2 then (some (h1q, x2q)) else (if x5q = 3 then (L_growth_44 h1q t (some u4q) x2q) else (if x5q = 4 then (bnd (op_I h1q u4q 0 2) fun x10q => some (h1q, (x2q - x10q))) else (if x5q = 5 then (grd (op_is h1q t 1) <| bn2 (L_onClover h1q t (some u4q)) fun h12q x13q => if x13q = 0 then (some (h12q, 0)) else (bnd (op_I h12q u4q 0 2) fun x16q => some (h12q, (-x16q)))) else (some (h1q, x2q))))))
/-- DunesWalked$Land.need(LDunesWalked$Dune;)I -/
def L_need_32 (h : pm_H) (l0 : Nat) (l1 : Option Nat) : Option (pm_H × Int32) := grd (op_is h l0 1) <| bn2 (L_says h l0 2 l1) fun h1q x2q => bnd l1 fun u4q => bnd (op_I h1q u4q 0 2) fun x5q => some (h1q, (x2q + x5q))
def L_need (h : pm_H) (t : Nat) (a1 : Option Nat) : Option (pm_H × Int32) := bnd a1 fun u1q => bnd (op_I h u1q 0 1) fun x2q => if x2q = 2 then (L_need_32 h t (some u1q)) else (if x2q = 3 then (some (h, 0)) else (if x2q = 4 then (L_need_32 h t (some u1q)) else (grd (op_is h t 1) <| bn2 (L_says h t 2 (some u1q)) fun h6q x7q => some (h6q, x7q))))
/-- DunesWalked$Land.pass()V -/
def L_pass_80 (k_10 : pm_H → Nat → Option Nat → Int32 → Int32 → Option (pm_H × Unit)) (h : pm_H) (l0 : Nat) (l1 : Option Nat) (l2 : Int32) (l3 : Int32) : Option (pm_H × Unit) := nmd (l3 + 1) fun y1q => k_10 h l0 l1 l2 y1q
def L_pass_77 (k_10 : pm_H → Nat → Option Nat → Int32 → Int32 → Option (pm_H × Unit)) (h : pm_H) (l0 : Nat) (l1 : Option Nat) (l2 : Int32) (l3 : Int32) (s0 : Int32) (s1 : Option Nat) : Option (pm_H × Unit) := bnd s1 fun u1q => grd (decide (s0 = 0 ∨ s0 = 1)) <| bnd (op_S h u1q 0 6 (.int s0)) fun h3q => L_pass_80 k_10 h3q l0 l1 l2 l3
def L_pass_10 : Nat → pm_H → Nat → Option Nat → Int32 → Int32 → Option (pm_H × Unit)
  | 0, _, _, _, _, _ => none
  | n + 1, h, l0, l1, l2, l3 => if l2 ≤ l3 then (bnd (op_I h l0 1 4) fun x2q => bnd (op_S h l0 1 4 (.int (x2q + 1))) fun h3q => some (h3q, ())) else (bnd l1 fun u4q => bnd (op_aA h u4q 0 l3) fun x5q => bnd x5q fun u6q => bnd (op_I h u6q 0 6) fun x7q => if x7q = 0 then (grd (op_is h l0 1) <| bn2 (L_stride h l0 (some u6q)) fun h9q x10q => grd (op_is h9q u6q 0) <| bn2 (D_walk h9q u6q x10q) fun h12q _ => grd (op_is h12q l0 1) <| bn2 (L_takeUp h12q l0 (some u6q)) fun h15q _ => grd (op_is h15q l0 1) <| bn2 (L_growth h15q l0 (some u6q)) fun h18q x19q => grd (op_is h18q u6q 0) <| bn2 (D_rise h18q u6q x19q) fun h21q _ => bnd (op_I h21q u6q 0 5) fun x24q => grd (op_is h21q l0 1) <| bn2 (L_need h21q l0 (some u6q)) fun h25q x26q => if x26q ≤ x24q then (L_pass_77 (L_pass_10 n) h25q l0 (some u4q) l2 l3 0 (some u6q)) else (L_pass_77 (L_pass_10 n) h25q l0 (some u4q) l2 l3 1 (some u6q))) else (L_pass_80 (L_pass_10 n) h l0 (some u4q) l2 l3))
def L_pass (h : pm_H) (t : Nat) : Option (pm_H × Unit) := bnd (op_A h t 1 0) fun x1q => bnd x1q fun u2q => bnd (op_ln h u2q) fun x3q => L_pass_10 1000 h t (some u2q) x3q 0
/-- DunesWalked$Law.<init>(I[I[I[I)V -/
def W_init (h : pm_H) (t : Nat) (a1 : Int32) (a2 : Option Nat) (a3 : Option Nat) (a4 : Option Nat) : Option (pm_H × Unit) := bnd (op_S h t 2 0 (.int a1)) fun h1q => bnd (op_S h1q t 2 1 (va_rf a2)) fun h2q => bnd (op_S h2q t 2 2 (va_rf a3)) fun h3q => bnd (op_S h3q t 2 3 (va_rf a4)) fun h4q => some (h4q, ())
/-- DunesWalked$Sheet.<init>()V -/
def S_init (h : pm_H) (t : Nat) : Option (pm_H × Unit) := bnd (op_S h t 3 0 (.int (-1))) fun h1q => bnd (op_nI h1q 40) fun h2q => nmd (List.length h1q) fun b3q => bnd (op_S h2q t 3 2 (.ref b3q)) fun h4q => some (h4q, ())
/-- DunesWalked$Sheet.becomeRow(II)V -/
def S_becomeRow (h : pm_H) (t : Nat) (a1 : Int32) (a2 : Int32) : Option (pm_H × Unit) := bnd (op_S h t 3 0 (.int a1)) fun h1q => bnd (op_S h1q t 3 1 (.int a2)) fun h2q => bnd (op_A h2q t 3 2) fun x3q => bn2 (Ja_fill h2q x3q 0) fun h4q _ => some (h4q, ())
/-- DunesWalked$Sheet.write(II)V -/
def S_write_44 (h : pm_H) (s0 : Int32) (s1 : Int32) (s2 : Option Nat) : Option (pm_H × Unit) := bnd s2 fun u1q => bnd (op_sI h u1q s1 s0) fun h2q => some (h2q, ())
def S_write (h : pm_H) (t : Nat) (a1 : Int32) (a2 : Int32) : Option (pm_H × Unit) := if a1 < 0 then (some (h, ())) else (bnd (op_A h t 3 2) fun x2q => bnd x2q fun u3q => bnd (op_ln h u3q) fun x4q => if x4q ≤ a1 then (some (h, ())) else (bnd (op_A h t 3 2) fun x6q => bnd (op_I h t 3 0) fun x7q => if x7q = 0 then (S_write_44 h (Int8.toInt32 (Int32.toInt8 a2)) a1 x6q) else (bnd (op_I h t 3 0) fun x9q => if x9q = 1 then (S_write_44 h (Int16.toInt32 (Int32.toInt16 a2)) a1 x6q) else (S_write_44 h a2 a1 x6q))))
/-- DunesWalked$Sheet.hasPlaces(II)Z -/
def S_hasPlaces (h : pm_H) (t : Nat) (a1 : Int32) (a2 : Int32) : Option (pm_H × Int32) := if a1 < 0 then (some (h, 0)) else (if a2 < 0 then (some (h, 0)) else (bnd (op_I h t 3 1) fun x3q => if x3q < a2 then (some (h, 0)) else (bnd (op_I h t 3 1) fun x5q => if (x5q - a2) < a1 then (some (h, 0)) else (some (h, 1)))))
/-- DunesWalked$Tape.part(I)V -/
def T_part (h : pm_H) (t : Nat) (a1 : Int32) : Option (pm_H × Unit) := grd (op_is h t 4) <| bn2 (T_expect h t a1) fun h1q _ => grd (op_is h1q t 4) <| bn2 (T_eitherK h1q t 0) fun h4q _ => grd (op_is h4q t 4) <| bn2 (T_expect h4q t 10020) fun h7q _ => some (h7q, ())
/-- DunesWalked$Tape.toLaw(I)LDunesWalked$Law; -/
def T_toLaw (h : pm_H) (t : Nat) (a1 : Int32) : Option (pm_H × Option Nat) := bnd (op_S h t 4 5 (.int (-1))) fun h1q => bnd (op_S h1q t 4 7 (.int 0)) fun h2q => bnd (op_S h2q t 4 3 (.int 0)) fun h3q => grd (op_is h3q t 4) <| bn2 (T_step h3q t) fun h4q _ => grd (op_is h4q t 4) <| bn2 (T_part h4q t 10015) fun h7q _ => bnd (op_I h7q t 4 7) fun x10q => grd (op_is h7q t 4) <| bn2 (T_part h7q t 10016) fun h11q _ => bnd (op_I h11q t 4 7) fun x14q => grd (op_is h11q t 4) <| bn2 (T_part h11q t 10017) fun h15q _ => grd (op_is h15q t 4) <| bn2 (T_expect h15q t 10021) fun h18q _ => bnd (op_S h18q t 4 1 (.int 0)) fun h21q => bnd (op_I h21q t 4 5) fun x22q => if x22q = (-1) then (nmd (List.length h21q) fun b25q => nmd (h21q ++ [.inr (2, pm_new 2)]) fun h24q => bnd (op_A h24q t 4 6) fun x26q => bn2 (Ja_copyOfRange h24q x26q 0 x10q) fun h27q x28q => bnd (op_A h27q t 4 6) fun x29q => bn2 (Ja_copyOfRange h27q x29q x10q x14q) fun h30q x31q => bnd (op_A h30q t 4 6) fun x32q => bnd (op_I h30q t 4 7) fun x33q => bn2 (Ja_copyOfRange h30q x32q x14q x33q) fun h34q x35q => bn2 (W_init h34q b25q a1 x28q x31q x35q) fun h36q _ => some (h36q, (some b25q))) else (some (h21q, none))
theorem P_X_bounded {d : Nat} {h h' : pm_H} {r : Int32} {a0 : Int32} {a1 : Int32} {a2 : Int32} (hB : X_bounded h a0 a1 a2 = some (h', r)) : pm_ev (d + 1) 93 [.int a0, .int a1, .int a2] h (some (.int r)) h' := by
  unfold X_bounded at hB
  refine pm_ev_mk (L := [.int a0, .int a1, .int a2]) pm_m_93 rfl (Nat.le_of_ble_eq_true rfl) rfl ?_
  refine r_iload_n f93_0 rfl ?_
  refine r_iload_n f93_1 rfl ?_
  by_cases c1q : a1 ≤ a0
  · rw [if_pos c1q] at hB
    refine r_ic_t (t := 9) f93_2 (by decide) c1q ?_
    refine r_iload_n f93_9 rfl ?_
    refine r_iload_n f93_10 rfl ?_
    by_cases c2q : a0 ≤ a2
    · rw [if_pos c2q] at hB
      refine r_ic_t (t := 18) f93_11 (by decide) c2q ?_
      refine r_iload_n f93_18 rfl ?_
      exact r_iret pm_m_93 .int f93_19 rfl rfl rfl (zI hB)
    · rw [if_neg c2q] at hB
      refine r_ic_f 18 f93_11 (by decide) c2q ?_
      refine r_iload_n f93_14 rfl ?_
      refine r_goto (t := 19) f93_15 (by decide) ?_
      exact r_iret pm_m_93 .int f93_19 rfl rfl rfl (zI hB)
  · rw [if_neg c1q] at hB
    refine r_ic_f 9 f93_2 (by decide) c1q ?_
    refine r_iload_n f93_5 rfl ?_
    refine r_goto (t := 19) f93_6 (by decide) ?_
    exact r_iret pm_m_93 .int f93_19 rfl rfl rfl (zI hB)
theorem P_D_init {d : Nat} {h h' : pm_H} {r : Unit} {t : Nat} {a1 : Int32} (hB : D_init h t a1 = some (h', r)) : pm_ev (d + 1) 0 [.ref t, .int a1] h none h' := by
  unfold D_init at hB
  refine pm_ev_mk (L := [.ref t, .int a1]) pm_m_0 rfl (Nat.le_of_ble_eq_true rfl) rfl ?_
  refine r_aload_nN f0_0 rfl ?_
  refine r_obj f0_1 (e := 175) rfl (cs_len (Nat.le_of_ble_eq_true rfl)) ?_
  refine r_aload_nN f0_4 rfl ?_
  refine r_iload_n f0_5 rfl ?_
  replace hB := bnd_some hB
  obtain ⟨h1q, eh1q, hB⟩ := hB
  refine r_put f0_6 fa_0_9 ty_0_0 rfl rfl (fun _ => ⟨in_0, rfl⟩) eh1q ?_
  refine r_aload_nN f0_9 rfl ?_
  refine r_iconst f0_10 ci_1 ?_
  replace hB := bnd_some hB
  obtain ⟨h2q, eh2q, hB⟩ := hB
  refine r_put f0_11 fa_0_15 ty_0_4 rfl rfl (no_fin (nf_0_4)) eh2q ?_
  refine r_aload_nN f0_14 rfl ?_
  refine r_iconst f0_15 ci_1 ?_
  replace hB := bnd_some hB
  obtain ⟨h3q, eh3q, hB⟩ := hB
  refine r_put f0_16 fa_0_18 ty_0_6 (bool_n (by decide)) (bool_f (by decide)) (no_fin (nf_0_6)) eh3q ?_
  exact r_vret pm_m_0 f0_19 rfl rfl (zV hB)
theorem P_D_become {d : Nat} {h h' : pm_H} {r : Unit} {t : Nat} {a1 : Option Nat} (hB : D_become h t a1 = some (h', r)) : pm_ev (d + 1) 1 [.ref t, va_rf a1] h none h' := by
  unfold D_become at hB
  refine pm_ev_mk (L := [.ref t, va_rf a1]) pm_m_1 rfl (by simp only [pm_ar, rf_ar]; exact Nat.le_of_ble_eq_true rfl) (by simp only [pm_in, pm_ar, rf_ar]; rfl) ?_
  refine r_aload_nN f1_0 rfl ?_
  refine r_aload_n f1_1 rfl ?_
  replace hB := bnd_some hB
  obtain ⟨u1q, rfl, hB⟩ := hB
  replace hB := bnd_some hB
  obtain ⟨x2q, ex2q, hB⟩ := hB
  refine r_getI f1_2 fa_0_22 ex2q ?_
  replace hB := bnd_some hB
  obtain ⟨h3q, eh3q, hB⟩ := hB
  refine r_put f1_5 fa_0_22 ty_0_1 rfl rfl (no_fin (nf_0_1)) eh3q ?_
  refine r_aload_nN f1_8 rfl ?_
  refine r_aload_nN f1_9 rfl ?_
  replace hB := bnd_some hB
  obtain ⟨x4q, ex4q, hB⟩ := hB
  refine r_getI f1_10 fa_0_25 ex4q ?_
  replace hB := bnd_some hB
  obtain ⟨h5q, eh5q, hB⟩ := hB
  refine r_put f1_13 fa_0_25 ty_0_2 rfl rfl (no_fin (nf_0_2)) eh5q ?_
  refine r_aload_nN f1_16 rfl ?_
  refine r_aload_nN f1_17 rfl ?_
  replace hB := bnd_some hB
  obtain ⟨x6q, ex6q, hB⟩ := hB
  refine r_getI f1_18 fa_0_28 ex6q ?_
  replace hB := bnd_some hB
  obtain ⟨h7q, eh7q, hB⟩ := hB
  refine r_put f1_21 fa_0_28 ty_0_3 rfl rfl (no_fin (nf_0_3)) eh7q ?_
  refine r_aload_nN f1_24 rfl ?_
  refine r_aload_nN f1_25 rfl ?_
  replace hB := bnd_some hB
  obtain ⟨x8q, ex8q, hB⟩ := hB
  refine r_getI f1_26 fa_0_15 ex8q ?_
  replace hB := bnd_some hB
  obtain ⟨h9q, eh9q, hB⟩ := hB
  refine r_put f1_29 fa_0_15 ty_0_4 rfl rfl (no_fin (nf_0_4)) eh9q ?_
  refine r_aload_nN f1_32 rfl ?_
  refine r_aload_nN f1_33 rfl ?_
  replace hB := bnd_some hB
  obtain ⟨x10q, ex10q, hB⟩ := hB
  refine r_getI f1_34 fa_0_31 ex10q ?_
  replace hB := bnd_some hB
  obtain ⟨h11q, eh11q, hB⟩ := hB
  refine r_put f1_37 fa_0_31 ty_0_5 rfl rfl (no_fin (nf_0_5)) eh11q ?_
  refine r_aload_nN f1_40 rfl ?_
  refine r_aload_nN f1_41 rfl ?_
  replace hB := bnd_some hB
  obtain ⟨x12q, ex12q, hB⟩ := hB
  refine r_getI f1_42 fa_0_18 ex12q ?_
  replace hB := grd_some hB
  obtain ⟨q13q, hB⟩ := hB
  replace hB := bnd_some hB
  obtain ⟨h14q, eh14q, hB⟩ := hB
  refine r_put f1_45 fa_0_18 ty_0_6 (bool_n (of_decide_eq_true q13q)) (bool_f (of_decide_eq_true q13q)) (no_fin (nf_0_6)) eh14q ?_
  exact r_vret pm_m_1 f1_48 rfl rfl (zV hB)
theorem P_D_yards {d : Nat} {h h' : pm_H} {r : Int64} {t : Nat} (hB : D_yards h t = some (h', r)) : pm_ev (d + 1) 2 [.ref t] h (some (.long r)) h' := by
  unfold D_yards at hB
  refine pm_ev_mk (L := [.ref t, pm_J]) pm_m_2 rfl (Nat.le_of_ble_eq_true rfl) rfl ?_
  refine r_aload_nN f2_0 rfl ?_
  replace hB := bnd_some hB
  obtain ⟨x1q, ex1q, hB⟩ := hB
  refine r_getI f2_1 fa_0_28 ex1q ?_
  refine r_aload_nN f2_4 rfl ?_
  replace hB := bnd_some hB
  obtain ⟨x2q, ex2q, hB⟩ := hB
  refine r_getI f2_5 fa_0_15 ex2q ?_
  refine r_isub f2_8 ?_
  refine r_iconst f2_9 ci_1 ?_
  refine r_iadd f2_10 ?_
  obtain ⟨y3q, hy3q⟩ : ∃ z, z = ((x1q - x2q) + 1) := ⟨_, rfl⟩
  replace hB := nmd_at hy3q hB
  refine r_istore_n (L' := [.ref t, .int y3q]) (x := y3q) f2_11 hy3q (Nat.le_of_ble_eq_true rfl) rfl ?_
  refine r_lconst f2_12 cl_1 ?_
  refine r_aload_nN f2_13 rfl ?_
  replace hB := bnd_some hB
  obtain ⟨x4q, ex4q, hB⟩ := hB
  refine r_getI f2_14 fa_0_28 ex4q ?_
  refine r_iconst f2_17 ci_1 ?_
  refine r_iadd f2_18 ?_
  refine r_lshl f2_19 ?_
  refine r_lconst f2_20 cl_1 ?_
  refine r_iload_n f2_21 rfl ?_
  by_cases c5q : (0 : Int32) ≤ y3q
  · rw [if_pos c5q] at hB
    refine r_if_t (t := 29) f2_22 (by decide) c5q ?_
    refine r_iload_n f2_29 rfl ?_
    refine r_lshl f2_30 ?_
    refine r_lsub f2_31 ?_
    exact r_lret pm_m_2 f2_32 rfl rfl (zJ hB)
  · rw [if_neg c5q] at hB
    refine r_if_f 29 f2_22 (by decide) c5q ?_
    refine r_iconst f2_25 ci_0 ?_
    refine r_goto (t := 30) f2_26 (by decide) ?_
    refine r_lshl f2_30 ?_
    refine r_lsub f2_31 ?_
    exact r_lret pm_m_2 f2_32 rfl rfl (zJ hB)
theorem P_D_quality {d : Nat} {h h' : pm_H} {r : Int32} {t : Nat} {a1 : Int32} (hB : D_quality h t a1 = some (h', r)) : pm_ev (d + 1) 3 [.ref t, .int a1] h (some (.int r)) h' := by
  unfold D_quality at hB
  refine pm_ev_mk (L := [.ref t, .int a1]) pm_m_3 rfl (Nat.le_of_ble_eq_true rfl) rfl ?_
  refine r_iload_n f3_0 rfl ?_
  by_cases c1q : a1 = 0
  · rw [if_pos c1q] at hB
    refine r_tsw (off := 31) (t := 32) f3_1 c1q (by decide) (by decide) (by decide) (by decide) ?_
    refine r_aload_nN f3_32 rfl ?_
    replace hB := bnd_some hB
    obtain ⟨x2q, ex2q, hB⟩ := hB
    refine r_getI f3_33 fa_0_28 ex2q ?_
    exact r_iret pm_m_3 .int f3_36 rfl rfl rfl (zI hB)
  rw [if_neg c1q] at hB
  by_cases c3q : a1 = 1
  · rw [if_pos c3q] at hB
    refine r_tsw (off := 36) (t := 37) f3_1 c3q (by decide) (by decide) (by decide) (by decide) ?_
    refine r_aload_nN f3_37 rfl ?_
    replace hB := bnd_some hB
    obtain ⟨x4q, ex4q, hB⟩ := hB
    refine r_getI f3_38 fa_0_15 ex4q ?_
    exact r_iret pm_m_3 .int f3_41 rfl rfl rfl (zI hB)
  rw [if_neg c3q] at hB
  by_cases c5q : a1 = 2
  · rw [if_pos c5q] at hB
    refine r_tsw (off := 41) (t := 42) f3_1 c5q (by decide) (by decide) (by decide) (by decide) ?_
    refine r_aload_nN f3_42 rfl ?_
    replace hB := bnd_some hB
    obtain ⟨x6q, ex6q, hB⟩ := hB
    refine r_getI f3_43 fa_0_31 ex6q ?_
    exact r_iret pm_m_3 .int f3_46 rfl rfl rfl (zI hB)
  rw [if_neg c5q] at hB
  by_cases c7q : a1 = 3
  · rw [if_pos c7q] at hB
    refine r_tsw (off := 46) (t := 47) f3_1 c7q (by decide) (by decide) (by decide) (by decide) ?_
    refine r_aload_nN f3_47 rfl ?_
    replace hB := bnd_some hB
    obtain ⟨x8q, ex8q, hB⟩ := hB
    refine r_getI f3_48 fa_0_22 ex8q ?_
    exact r_iret pm_m_3 .int f3_51 rfl rfl rfl (zI hB)
  rw [if_neg c7q] at hB
  refine r_tswD (t := 52) f3_1 (sw_out 4 (lt_s (lt_s (lt_s (lt_s (lt_0) (sw_ne c1q (by decide))) (sw_ne c3q (by decide))) (sw_ne c5q (by decide))) (sw_ne c7q (by decide))) (by decide)) (by decide) ?_
  refine r_aload_nN f3_52 rfl ?_
  replace hB := bnd_some hB
  obtain ⟨x9q, ex9q, hB⟩ := hB
  refine r_getI f3_53 fa_0_25 ex9q ?_
  exact r_iret pm_m_3 .int f3_56 rfl rfl rfl (zI hB)
theorem P_D_change {d : Nat} {h h' : pm_H} {r : Unit} {t : Nat} {a1 : Int32} {a2 : Int32} (hB : D_change h t a1 a2 = some (h', r)) : pm_ev (d + 1) 4 [.ref t, .int a1, .int a2] h none h' := by
  unfold D_change at hB
  refine pm_ev_mk (L := [.ref t, .int a1, .int a2]) pm_m_4 rfl (Nat.le_of_ble_eq_true rfl) rfl ?_
  refine r_iload_n f4_0 rfl ?_
  by_cases c1q : a1 = 0
  · rw [if_pos c1q] at hB
    refine r_tsw (off := 31) (t := 32) f4_1 c1q (by decide) (by decide) (by decide) (by decide) ?_
    refine r_aload_nN f4_32 rfl ?_
    refine r_iload_n f4_33 rfl ?_
    replace hB := bnd_some hB
    obtain ⟨h2q, eh2q, hB⟩ := hB
    refine r_put f4_34 fa_0_28 ty_0_3 rfl rfl (no_fin (nf_0_3)) eh2q ?_
    refine r_goto (t := 69) f4_37 (by decide) ?_
    exact r_vret pm_m_4 f4_69 rfl rfl (zV hB)
  rw [if_neg c1q] at hB
  by_cases c3q : a1 = 1
  · rw [if_pos c3q] at hB
    refine r_tsw (off := 39) (t := 40) f4_1 c3q (by decide) (by decide) (by decide) (by decide) ?_
    refine r_aload_nN f4_40 rfl ?_
    refine r_iload_n f4_41 rfl ?_
    replace hB := bnd_some hB
    obtain ⟨h4q, eh4q, hB⟩ := hB
    refine r_put f4_42 fa_0_15 ty_0_4 rfl rfl (no_fin (nf_0_4)) eh4q ?_
    refine r_goto (t := 69) f4_45 (by decide) ?_
    exact r_vret pm_m_4 f4_69 rfl rfl (zV hB)
  rw [if_neg c3q] at hB
  by_cases c5q : a1 = 2
  · rw [if_pos c5q] at hB
    refine r_tsw (off := 47) (t := 48) f4_1 c5q (by decide) (by decide) (by decide) (by decide) ?_
    refine r_aload_nN f4_48 rfl ?_
    refine r_iload_n f4_49 rfl ?_
    replace hB := bnd_some hB
    obtain ⟨h6q, eh6q, hB⟩ := hB
    refine r_put f4_50 fa_0_31 ty_0_5 rfl rfl (no_fin (nf_0_5)) eh6q ?_
    refine r_goto (t := 69) f4_53 (by decide) ?_
    exact r_vret pm_m_4 f4_69 rfl rfl (zV hB)
  rw [if_neg c5q] at hB
  by_cases c7q : a1 = 3
  · rw [if_pos c7q] at hB
    refine r_tsw (off := 55) (t := 56) f4_1 c7q (by decide) (by decide) (by decide) (by decide) ?_
    refine r_aload_nN f4_56 rfl ?_
    refine r_iload_n f4_57 rfl ?_
    replace hB := bnd_some hB
    obtain ⟨h8q, eh8q, hB⟩ := hB
    refine r_put f4_58 fa_0_22 ty_0_1 rfl rfl (no_fin (nf_0_1)) eh8q ?_
    refine r_goto (t := 69) f4_61 (by decide) ?_
    exact r_vret pm_m_4 f4_69 rfl rfl (zV hB)
  rw [if_neg c7q] at hB
  refine r_tswD (t := 64) f4_1 (sw_out 4 (lt_s (lt_s (lt_s (lt_s (lt_0) (sw_ne c1q (by decide))) (sw_ne c3q (by decide))) (sw_ne c5q (by decide))) (sw_ne c7q (by decide))) (by decide)) (by decide) ?_
  refine r_aload_nN f4_64 rfl ?_
  refine r_iload_n f4_65 rfl ?_
  replace hB := bnd_some hB
  obtain ⟨h9q, eh9q, hB⟩ := hB
  refine r_put f4_66 fa_0_25 ty_0_2 rfl rfl (no_fin (nf_0_2)) eh9q ?_
  exact r_vret pm_m_4 f4_69 rfl rfl (zV hB)
theorem P_D_frontOrGone {d : Nat} {h h' : pm_H} {r : Int32} {t : Nat} (hB : D_frontOrGone h t = some (h', r)) : pm_ev (d + 1) 5 [.ref t] h (some (.int r)) h' := by
  unfold D_frontOrGone at hB
  refine pm_ev_mk (L := [.ref t]) pm_m_5 rfl (Nat.le_of_ble_eq_true rfl) rfl ?_
  refine r_aload_nN f5_0 rfl ?_
  replace hB := bnd_some hB
  obtain ⟨x1q, ex1q, hB⟩ := hB
  refine r_getI f5_1 fa_0_18 ex1q ?_
  by_cases c2q : x1q = 0
  · rw [if_pos c2q] at hB
    refine r_if_t (t := 11) f5_4 (by decide) c2q ?_
    refine r_aload_nN f5_11 rfl ?_
    replace hB := bnd_some hB
    obtain ⟨x3q, ex3q, hB⟩ := hB
    refine r_getI f5_12 fa_0_28 ex3q ?_
    exact r_iret pm_m_5 .int f5_15 rfl rfl rfl (zI hB)
  · rw [if_neg c2q] at hB
    refine r_if_f 11 f5_4 (by decide) c2q ?_
    refine r_iconst f5_7 ci_m1 ?_
    refine r_goto (t := 15) f5_8 (by decide) ?_
    exact r_iret pm_m_5 .int f5_15 rfl rfl rfl (zI hB)
theorem P_D_isOf_38 {d : Nat} {h' : pm_H} {r : Int32} (h : pm_H) (hB : D_isOf_38 h = some (h', r)) : pm_run (pm_ev (d + 0)) 6 38 [pm_J, pm_J] [] h (fun r1 h1 => r1 = some (.int r) ∧ h1 = h') := by
  unfold D_isOf_38 at hB
  refine r_iconst f6_38 ci_1 ?_
  refine r_goto (t := 43) f6_39 (by decide) ?_
  exact r_iret pm_m_6 .boolean f6_43 rfl rfl (bool_n (by decide)) (zI hB)
theorem P_D_isOf_25 {d : Nat} {h' : pm_H} {r : Int32} (h : pm_H) (l0 : Nat) (l1 : Int32) (hB : D_isOf_25 h l0 l1 = some (h', r)) : pm_run (pm_ev (d + 0)) 6 25 [.ref l0, .int l1] [] h (fun r1 h1 => r1 = some (.int r) ∧ h1 = h') := by
  unfold D_isOf_25 at hB
  refine r_iload_n f6_25 rfl ?_
  refine r_iconst f6_26 ci_2 ?_
  by_cases c1q : l1 = 2
  · rw [if_pos c1q] at hB
    refine r_ic_f 42 f6_27 (by decide) (fun q => q c1q) ?_
    refine r_aload_nN f6_30 rfl ?_
    replace hB := bnd_some hB
    obtain ⟨x2q, ex2q, hB⟩ := hB
    refine r_getI f6_31 fa_0_22 ex2q ?_
    refine r_iconst f6_34 ci_4 ?_
    by_cases c3q : x2q = 4
    · rw [if_pos c3q] at hB
      refine r_ic_f 42 f6_35 (by decide) (fun q => q c3q) ?_
      exact pm_weak (L' := [pm_J, pm_J]) ⟨.inl rfl, .inl rfl, trivial⟩ (P_D_isOf_38 (d := d) h hB)
    · rw [if_neg c3q] at hB
      refine r_ic_t (t := 42) f6_35 (by decide) c3q ?_
      refine r_iconst f6_42 ci_0 ?_
      exact r_iret pm_m_6 .boolean f6_43 rfl rfl (bool_n (by decide)) (zI hB)
  · rw [if_neg c1q] at hB
    refine r_ic_t (t := 42) f6_27 (by decide) c1q ?_
    refine r_iconst f6_42 ci_0 ?_
    exact r_iret pm_m_6 .boolean f6_43 rfl rfl (bool_n (by decide)) (zI hB)
theorem P_D_isOf {d : Nat} {h h' : pm_H} {r : Int32} {t : Nat} {a1 : Int32} (hB : D_isOf h t a1 = some (h', r)) : pm_ev (d + 1) 6 [.ref t, .int a1] h (some (.int r)) h' := by
  unfold D_isOf at hB
  refine pm_ev_mk (L := [.ref t, .int a1]) pm_m_6 rfl (Nat.le_of_ble_eq_true rfl) rfl ?_
  refine r_iload_n f6_0 rfl ?_
  by_cases c1q : a1 = 0
  · rw [if_pos c1q] at hB
    refine r_if_t (t := 38) f6_1 (by decide) c1q ?_
    exact pm_weak (L' := [pm_J, pm_J]) ⟨.inl rfl, .inl rfl, trivial⟩ (P_D_isOf_38 (d := d) h hB)
  · rw [if_neg c1q] at hB
    refine r_if_f 38 f6_1 (by decide) c1q ?_
    refine r_iload_n f6_4 rfl ?_
    refine r_aload_nN f6_5 rfl ?_
    replace hB := bnd_some hB
    obtain ⟨x2q, ex2q, hB⟩ := hB
    refine r_getI f6_6 fa_0_22 ex2q ?_
    by_cases c3q : a1 = x2q
    · rw [if_pos c3q] at hB
      refine r_ic_t (t := 38) f6_9 (by decide) c3q ?_
      exact pm_weak (L' := [pm_J, pm_J]) ⟨.inl rfl, .inl rfl, trivial⟩ (P_D_isOf_38 (d := d) h hB)
    · rw [if_neg c3q] at hB
      refine r_ic_f 38 f6_9 (by decide) c3q ?_
      refine r_iload_n f6_12 rfl ?_
      refine r_iconst f6_13 ci_1 ?_
      by_cases c4q : a1 = 1
      · rw [if_pos c4q] at hB
        refine r_ic_f 25 f6_14 (by decide) (fun q => q c4q) ?_
        refine r_aload_nN f6_17 rfl ?_
        replace hB := bnd_some hB
        obtain ⟨x5q, ex5q, hB⟩ := hB
        refine r_getI f6_18 fa_0_22 ex5q ?_
        refine r_iconst f6_21 ci_3 ?_
        by_cases c6q : x5q = 3
        · rw [if_pos c6q] at hB
          refine r_ic_t (t := 38) f6_22 (by decide) c6q ?_
          exact pm_weak (L' := [pm_J, pm_J]) ⟨.inl rfl, .inl rfl, trivial⟩ (P_D_isOf_38 (d := d) h hB)
        · rw [if_neg c6q] at hB
          refine r_ic_f 38 f6_22 (by decide) c6q ?_
          exact pm_weak (L' := [.ref t, .int a1]) ⟨.inr rfl, .inr rfl, trivial⟩ (P_D_isOf_25 (d := d) h t a1 hB)
      · rw [if_neg c4q] at hB
        refine r_ic_t (t := 25) f6_14 (by decide) c4q ?_
        exact pm_weak (L' := [.ref t, .int a1]) ⟨.inr rfl, .inr rfl, trivial⟩ (P_D_isOf_25 (d := d) h t a1 hB)
theorem P_D_walk {d : Nat} {h h' : pm_H} {r : Unit} {t : Nat} {a1 : Int32} (hB : D_walk h t a1 = some (h', r)) : pm_ev (d + 2) 7 [.ref t, .int a1] h none h' := by
  unfold D_walk at hB
  refine pm_ev_mk (L := [.ref t, .int a1]) pm_m_7 rfl (Nat.le_of_ble_eq_true rfl) rfl ?_
  refine r_aload_nN f7_0 rfl ?_
  refine r_aload_nN f7_1 rfl ?_
  replace hB := bnd_some hB
  obtain ⟨x1q, ex1q, hB⟩ := hB
  refine r_getI f7_2 fa_0_28 ex1q ?_
  refine r_iload_n f7_5 rfl ?_
  refine r_iadd f7_6 ?_
  refine r_iconst f7_7 ci_0 ?_
  refine r_bipush f7_8 cb_39 ?_
  replace hB := bn2_some hB
  obtain ⟨h2q, x3q, eh2q, hB⟩ := hB
  refine r_statV (as := [.int (x1q + a1), .int 0, .int 39]) (q := pm_m_93) f7_10 ca_0_34 rfl (by decide) rfl rfl (cs_len (Nat.le_of_ble_eq_true rfl)) (P_X_bounded (d := d + 0) eh2q) ?_
  replace hB := bnd_some hB
  obtain ⟨h4q, eh4q, hB⟩ := hB
  refine r_put f7_13 fa_0_28 ty_0_3 rfl rfl (no_fin (nf_0_3)) eh4q ?_
  exact r_vret pm_m_7 f7_16 rfl rfl (zV hB)
theorem P_D_rise {d : Nat} {h h' : pm_H} {r : Unit} {t : Nat} {a1 : Int32} (hB : D_rise h t a1 = some (h', r)) : pm_ev (d + 2) 8 [.ref t, .int a1] h none h' := by
  unfold D_rise at hB
  refine pm_ev_mk (L := [.ref t, .int a1]) pm_m_8 rfl (Nat.le_of_ble_eq_true rfl) rfl ?_
  refine r_aload_nN f8_0 rfl ?_
  refine r_aload_nN f8_1 rfl ?_
  replace hB := bnd_some hB
  obtain ⟨x1q, ex1q, hB⟩ := hB
  refine r_getI f8_2 fa_0_31 ex1q ?_
  refine r_iload_n f8_5 rfl ?_
  refine r_iadd f8_6 ?_
  refine r_iconst f8_7 ci_0 ?_
  refine r_bipush f8_8 cb_99 ?_
  replace hB := bn2_some hB
  obtain ⟨h2q, x3q, eh2q, hB⟩ := hB
  refine r_statV (as := [.int (x1q + a1), .int 0, .int 99]) (q := pm_m_93) f8_10 ca_0_34 rfl (by decide) rfl rfl (cs_len (Nat.le_of_ble_eq_true rfl)) (P_X_bounded (d := d + 0) eh2q) ?_
  replace hB := bnd_some hB
  obtain ⟨h4q, eh4q, hB⟩ := hB
  refine r_put f8_13 fa_0_31 ty_0_5 rfl rfl (no_fin (nf_0_5)) eh4q ?_
  exact r_vret pm_m_8 f8_16 rfl rfl (zV hB)
theorem P_L_init_28 {d : Nat} {h' : pm_H} {r : Unit} (n : Nat) : ∀ (h : pm_H) (l0 : Nat) (l2 : Int32), L_init_28 n h l0 l2 = some (h', r) → pm_run (pm_ev (d + 1)) 9 28 [.ref l0, pm_J, .int l2] [] h (fun r1 h1 => r1 = none ∧ h1 = h') := by
  induction n with
  | zero => intro h l0 l2 hB; cases hB
  | succ n ih =>
    intro h l0 l2 hB
    unfold L_init_28 at hB
    refine r_iload_n f9_28 rfl ?_
    refine r_aload_nN f9_29 rfl ?_
    replace hB := bnd_some hB
    obtain ⟨x1q, ex1q, hB⟩ := hB
    refine r_getA f9_30 fa_1_11 ex1q ?_
    replace hB := bnd_some hB
    obtain ⟨u2q, rfl, hB⟩ := hB
    replace hB := bnd_some hB
    obtain ⟨x3q, ex3q, hB⟩ := hB
    refine r_ln f9_33 ex3q ?_
    by_cases c4q : x3q ≤ l2
    · rw [if_pos c4q] at hB
      refine r_ic_t (t := 57) f9_34 (by decide) c4q ?_
      exact r_vret pm_m_9 f9_57 rfl rfl (zV hB)
    · rw [if_neg c4q] at hB
      refine r_ic_f 57 f9_34 (by decide) c4q ?_
      refine r_aload_nN f9_37 rfl ?_
      replace hB := bnd_some hB
      obtain ⟨x5q, ex5q, hB⟩ := hB
      refine r_getA f9_38 fa_1_11 ex5q ?_
      refine r_iload_n f9_41 rfl ?_
      refine r_new (ci := 0) f9_42 rfl ?_
      obtain ⟨b7q, hb7q⟩ : ∃ z, z = List.length h := ⟨_, rfl⟩
      replace hB := nmd_at hb7q hB
      obtain ⟨h6q, hh6q⟩ : ∃ z, z = h ++ [.inr (0, pm_new 0)] := ⟨_, rfl⟩
      replace hB := nmd_at hh6q hB
      rw [← hb7q, ← hh6q]
      refine r_dupN f9_45 ?_
      refine r_iload_n f9_46 rfl ?_
      replace hB := bn2_some hB
      obtain ⟨h8q, _, eh8q, hB⟩ := hB
      refine r_ctor (as := [.int l2]) (q := pm_m_0) f9_47 ca_1_25 rfl (by decide) rfl rfl (cs_len (Nat.le_of_ble_eq_true rfl)) (P_D_init (d := d + 0) eh8q) ?_
      replace hB := bnd_some hB
      obtain ⟨u10q, rfl, hB⟩ := hB
      replace hB := bnd_some hB
      obtain ⟨h11q, eh11q, hB⟩ := hB
      refine r_sA 0 f9_50 et_0 eh11q ?_
      obtain ⟨y12q, hy12q⟩ : ∃ z, z = l2 + 1 := ⟨_, rfl⟩
      replace hB := nmd_at hy12q hB
      refine r_iinc (L' := [.ref l0, pm_J, .int y12q]) (x := y12q) f9_51 rfl (hy12q.trans (congrArg (l2 + ·) ci_1.symm)) rfl ?_
      refine r_goto (t := 28) f9_54 (by decide) ?_
      exact pm_weak (L' := [.ref l0, pm_J, .int y12q]) ⟨.inr rfl, .inl rfl, .inr rfl, trivial⟩ (ih h11q l0 y12q hB)
theorem P_L_init {d : Nat} {h h' : pm_H} {r : Unit} {t : Nat} {a1 : Option Nat} (hB : L_init h t a1 = some (h', r)) : pm_ev (d + 2) 9 [.ref t, va_rf a1] h none h' := by
  unfold L_init at hB
  refine pm_ev_mk (L := [.ref t, va_rf a1, pm_J]) pm_m_9 rfl (by simp only [pm_ar, rf_ar]; exact Nat.le_of_ble_eq_true rfl) (by simp only [pm_in, pm_ar, rf_ar]; rfl) ?_
  refine r_aload_nN f9_0 rfl ?_
  refine r_obj f9_1 (e := 168) rfl (cs_len (Nat.le_of_ble_eq_true rfl)) ?_
  refine r_aload_nN f9_4 rfl ?_
  refine r_bipush f9_5 cb_6 ?_
  replace hB := bnd_some hB
  obtain ⟨h1q, eh1q, hB⟩ := hB
  refine r_nA (t := 0) f9_7 et_0 rfl eh1q ?_
  obtain ⟨b2q, hb2q⟩ : ∃ z, z = List.length h := ⟨_, rfl⟩
  replace hB := nmd_at hb2q hB
  rw [← hb2q]
  replace hB := bnd_some hB
  obtain ⟨h3q, eh3q, hB⟩ := hB
  refine r_put f9_10 fa_1_11 ty_1_0 rfl rfl (fun _ => ⟨in_9, rfl⟩) eh3q ?_
  refine r_aload_nN f9_13 rfl ?_
  refine r_bipush f9_14 cb_32 ?_
  replace hB := bnd_some hB
  obtain ⟨h4q, eh4q, hB⟩ := hB
  refine r_nI f9_16 eh4q ?_
  obtain ⟨b5q, hb5q⟩ : ∃ z, z = List.length h3q := ⟨_, rfl⟩
  replace hB := nmd_at hb5q hB
  rw [← hb5q]
  replace hB := bnd_some hB
  obtain ⟨h6q, eh6q, hB⟩ := hB
  refine r_put f9_18 fa_1_17 ty_1_6 rfl rfl (fun _ => ⟨in_9, rfl⟩) eh6q ?_
  refine r_aload_nN f9_21 rfl ?_
  refine r_aload_n f9_22 rfl ?_
  replace hB := bnd_some hB
  obtain ⟨h7q, eh7q, hB⟩ := hB
  refine r_put f9_23 fa_1_21 ty_1_5 (rf_no _ _) (rf_fo _ _) (no_fin (nf_1_5)) eh7q ?_
  refine r_iconst f9_26 ci_0 ?_
  refine r_istore_n (L' := [.ref t, va_rf a1, .int 0]) (x := 0) f9_27 rfl (Nat.le_of_ble_eq_true rfl) (st1_A 1 (r := a1) rfl rfl rfl) ?_
  exact pm_weak (L' := [.ref t, pm_J, .int 0]) ⟨.inr rfl, .inl rfl, .inr rfl, trivial⟩ (P_L_init_28 (d := d) 1000 h7q t 0 hB)
theorem P_L_become_41 {d : Nat} {h' : pm_H} {r : Unit} (h : pm_H) (l0 : Nat) (l1 : Option Nat) (hB : L_become_41 h l0 l1 = some (h', r)) : pm_run (pm_ev (d + 1)) 10 41 [.ref l0, va_rf l1, pm_J] [] h (fun r1 h1 => r1 = none ∧ h1 = h') := by
  unfold L_become_41 at hB
  refine r_aload_nN f10_41 rfl ?_
  refine r_aload_n f10_42 rfl ?_
  replace hB := bnd_some hB
  obtain ⟨u1q, rfl, hB⟩ := hB
  replace hB := bnd_some hB
  obtain ⟨x2q, ex2q, hB⟩ := hB
  refine r_getI f10_43 fa_1_32 ex2q ?_
  replace hB := bnd_some hB
  obtain ⟨h3q, eh3q, hB⟩ := hB
  refine r_put f10_46 fa_1_32 ty_1_1 rfl rfl (no_fin (nf_1_1)) eh3q ?_
  refine r_aload_nN f10_49 rfl ?_
  refine r_aload_nN f10_50 rfl ?_
  replace hB := bnd_some hB
  obtain ⟨x4q, ex4q, hB⟩ := hB
  refine r_getJ f10_51 fa_1_36 ex4q ?_
  replace hB := bnd_some hB
  obtain ⟨h5q, eh5q, hB⟩ := hB
  refine r_put f10_54 fa_1_36 ty_1_2 rfl rfl (no_fin (nf_1_2)) eh5q ?_
  refine r_aload_nN f10_57 rfl ?_
  refine r_aload_nN f10_58 rfl ?_
  replace hB := bnd_some hB
  obtain ⟨x6q, ex6q, hB⟩ := hB
  refine r_getJ f10_59 fa_1_40 ex6q ?_
  replace hB := bnd_some hB
  obtain ⟨h7q, eh7q, hB⟩ := hB
  refine r_put f10_62 fa_1_40 ty_1_3 rfl rfl (no_fin (nf_1_3)) eh7q ?_
  refine r_aload_nN f10_65 rfl ?_
  refine r_aload_nN f10_66 rfl ?_
  replace hB := bnd_some hB
  obtain ⟨x8q, ex8q, hB⟩ := hB
  refine r_getI f10_67 fa_1_43 ex8q ?_
  replace hB := bnd_some hB
  obtain ⟨h9q, eh9q, hB⟩ := hB
  refine r_put f10_70 fa_1_43 ty_1_4 rfl rfl (no_fin (nf_1_4)) eh9q ?_
  refine r_aload_nN f10_73 rfl ?_
  refine r_aload_nN f10_74 rfl ?_
  replace hB := bnd_some hB
  obtain ⟨x10q, ex10q, hB⟩ := hB
  refine r_getA f10_75 fa_1_21 ex10q ?_
  replace hB := bnd_some hB
  obtain ⟨h11q, eh11q, hB⟩ := hB
  refine r_put f10_78 fa_1_21 ty_1_5 (rf_no _ _) (rf_fo _ _) (no_fin (nf_1_5)) eh11q ?_
  exact r_vret pm_m_10 f10_81 rfl rfl (zV hB)
theorem P_L_become_2 {d : Nat} {h' : pm_H} {r : Unit} (n : Nat) : ∀ (h : pm_H) (l0 : Nat) (l1 : Option Nat) (l2 : Int32), L_become_2 n h l0 l1 l2 = some (h', r) → pm_run (pm_ev (d + 1)) 10 2 [.ref l0, va_rf l1, .int l2] [] h (fun r1 h1 => r1 = none ∧ h1 = h') := by
  induction n with
  | zero => intro h l0 l1 l2 hB; cases hB
  | succ n ih =>
    intro h l0 l1 l2 hB
    unfold L_become_2 at hB
    refine r_iload_n f10_2 rfl ?_
    refine r_aload_nN f10_3 rfl ?_
    replace hB := bnd_some hB
    obtain ⟨x1q, ex1q, hB⟩ := hB
    refine r_getA f10_4 fa_1_11 ex1q ?_
    replace hB := bnd_some hB
    obtain ⟨u2q, rfl, hB⟩ := hB
    replace hB := bnd_some hB
    obtain ⟨x3q, ex3q, hB⟩ := hB
    refine r_ln f10_7 ex3q ?_
    by_cases c4q : x3q ≤ l2
    · rw [if_pos c4q] at hB
      refine r_ic_t (t := 41) f10_8 (by decide) c4q ?_
      exact pm_weak (L' := [.ref l0, va_rf l1, pm_J]) ⟨.inr rfl, .inr rfl, .inl rfl, trivial⟩ (P_L_become_41 (d := d) h l0 l1 hB)
    · rw [if_neg c4q] at hB
      refine r_ic_f 41 f10_8 (by decide) c4q ?_
      refine r_iload_n f10_11 rfl ?_
      refine r_aload_n f10_12 rfl ?_
      replace hB := bnd_some hB
      obtain ⟨u5q, rfl, hB⟩ := hB
      replace hB := bnd_some hB
      obtain ⟨x6q, ex6q, hB⟩ := hB
      refine r_getA f10_13 fa_1_11 ex6q ?_
      replace hB := bnd_some hB
      obtain ⟨u7q, rfl, hB⟩ := hB
      replace hB := bnd_some hB
      obtain ⟨x8q, ex8q, hB⟩ := hB
      refine r_ln f10_16 ex8q ?_
      by_cases c9q : x8q ≤ l2
      · rw [if_pos c9q] at hB
        refine r_ic_t (t := 41) f10_17 (by decide) c9q ?_
        exact pm_weak (L' := [.ref l0, va_rf (some u5q), pm_J]) ⟨.inr rfl, .inr rfl, .inl rfl, trivial⟩ (P_L_become_41 (d := d) h l0 (some u5q) hB)
      · rw [if_neg c9q] at hB
        refine r_ic_f 41 f10_17 (by decide) c9q ?_
        refine r_aload_nN f10_20 rfl ?_
        replace hB := bnd_some hB
        obtain ⟨x10q, ex10q, hB⟩ := hB
        refine r_getA f10_21 fa_1_11 ex10q ?_
        refine r_iload_n f10_24 rfl ?_
        replace hB := bnd_some hB
        obtain ⟨u11q, rfl, hB⟩ := hB
        replace hB := bnd_some hB
        obtain ⟨x12q, ex12q, hB⟩ := hB
        refine r_aA 0 f10_25 et_0 ex12q ?_
        refine r_aload_nN f10_26 rfl ?_
        replace hB := bnd_some hB
        obtain ⟨x13q, ex13q, hB⟩ := hB
        refine r_getA f10_27 fa_1_11 ex13q ?_
        refine r_iload_n f10_30 rfl ?_
        replace hB := bnd_some hB
        obtain ⟨u14q, rfl, hB⟩ := hB
        replace hB := bnd_some hB
        obtain ⟨x15q, ex15q, hB⟩ := hB
        refine r_aA 0 f10_31 et_0 ex15q ?_
        replace hB := bnd_some hB
        obtain ⟨u16q, rfl, hB⟩ := hB
        replace hB := grd_some hB
        obtain ⟨g19q, hB⟩ := hB
        replace hB := bn2_some hB
        obtain ⟨h17q, _, eh17q, hB⟩ := hB
        refine r_virtN (as := [va_rf x15q]) (q := pm_m_1) f10_32 ca_1_28 rfl rfl rfl (cs_len (Nat.le_of_ble_eq_true rfl)) g19q (P_D_become (d := d + 0) eh17q) ?_
        obtain ⟨y20q, hy20q⟩ : ∃ z, z = l2 + 1 := ⟨_, rfl⟩
        replace hB := nmd_at hy20q hB
        refine r_iinc (L' := [.ref l0, .ref u5q, .int y20q]) (x := y20q) f10_35 rfl (hy20q.trans (congrArg (l2 + ·) ci_1.symm)) rfl ?_
        refine r_goto (t := 2) f10_38 (by decide) ?_
        exact pm_weak (L' := [.ref l0, va_rf (some u5q), .int y20q]) ⟨.inr rfl, .inr rfl, .inr rfl, trivial⟩ (ih h17q l0 (some u5q) y20q hB)
theorem P_L_become {d : Nat} {h h' : pm_H} {r : Unit} {t : Nat} {a1 : Option Nat} (hB : L_become h t a1 = some (h', r)) : pm_ev (d + 2) 10 [.ref t, va_rf a1] h none h' := by
  unfold L_become at hB
  refine pm_ev_mk (L := [.ref t, va_rf a1, pm_J]) pm_m_10 rfl (by simp only [pm_ar, rf_ar]; exact Nat.le_of_ble_eq_true rfl) (by simp only [pm_in, pm_ar, rf_ar]; rfl) ?_
  refine r_iconst f10_0 ci_0 ?_
  refine r_istore_n (L' := [.ref t, va_rf a1, .int 0]) (x := 0) f10_1 rfl (Nat.le_of_ble_eq_true rfl) (st1_A 1 (r := a1) rfl rfl rfl) ?_
  exact pm_weak (L' := [.ref t, va_rf a1, .int 0]) ⟨.inr rfl, .inr rfl, .inr rfl, trivial⟩ (P_L_become_2 (d := d) 1000 h t a1 0 hB)
theorem P_L_standing_25 {d : Nat} {h' : pm_H} {r : Option Nat} (h : pm_H) (hB : L_standing_25 h = some (h', r)) : pm_run (pm_ev (d + 0)) 11 25 [pm_J, pm_J] [] h (fun r1 h1 => r1 = some (va_rf r) ∧ h1 = h') := by
  unfold L_standing_25 at hB
  refine r_null f11_25 ?_
  refine r_goto (t := 35) f11_26 (by decide) ?_
  exact r_aret (r := none) pm_m_11 (.object "DunesWalked$Dune") f11_35 rfl rfl (by exact Or.inl ⟨_, rfl⟩) (zA hB)
theorem P_L_standing {d : Nat} {h h' : pm_H} {r : Option Nat} {t : Nat} {a1 : Int32} (hB : L_standing h t a1 = some (h', r)) : pm_ev (d + 1) 11 [.ref t, .int a1] h (some (va_rf r)) h' := by
  unfold L_standing at hB
  refine pm_ev_mk (L := [.ref t, .int a1]) pm_m_11 rfl (Nat.le_of_ble_eq_true rfl) rfl ?_
  refine r_iload_n f11_0 rfl ?_
  by_cases c1q : a1 < 0
  · rw [if_pos c1q] at hB
    refine r_if_t (t := 25) f11_1 (by decide) c1q ?_
    exact pm_weak (L' := [pm_J, pm_J]) ⟨.inl rfl, .inl rfl, trivial⟩ (P_L_standing_25 (d := d) h hB)
  · rw [if_neg c1q] at hB
    refine r_if_f 25 f11_1 (by decide) c1q ?_
    refine r_iload_n f11_4 rfl ?_
    refine r_aload_nN f11_5 rfl ?_
    replace hB := bnd_some hB
    obtain ⟨x2q, ex2q, hB⟩ := hB
    refine r_getA f11_6 fa_1_11 ex2q ?_
    replace hB := bnd_some hB
    obtain ⟨u3q, rfl, hB⟩ := hB
    replace hB := bnd_some hB
    obtain ⟨x4q, ex4q, hB⟩ := hB
    refine r_ln f11_9 ex4q ?_
    by_cases c5q : x4q ≤ a1
    · rw [if_pos c5q] at hB
      refine r_ic_t (t := 25) f11_10 (by decide) c5q ?_
      exact pm_weak (L' := [pm_J, pm_J]) ⟨.inl rfl, .inl rfl, trivial⟩ (P_L_standing_25 (d := d) h hB)
    · rw [if_neg c5q] at hB
      refine r_ic_f 25 f11_10 (by decide) c5q ?_
      refine r_aload_nN f11_13 rfl ?_
      replace hB := bnd_some hB
      obtain ⟨x6q, ex6q, hB⟩ := hB
      refine r_getA f11_14 fa_1_11 ex6q ?_
      refine r_iload_n f11_17 rfl ?_
      replace hB := bnd_some hB
      obtain ⟨u7q, rfl, hB⟩ := hB
      replace hB := bnd_some hB
      obtain ⟨x8q, ex8q, hB⟩ := hB
      refine r_aA 0 f11_18 et_0 ex8q ?_
      replace hB := bnd_some hB
      obtain ⟨u9q, rfl, hB⟩ := hB
      replace hB := bnd_some hB
      obtain ⟨x10q, ex10q, hB⟩ := hB
      refine r_getI f11_19 fa_1_46 ex10q ?_
      by_cases c11q : x10q = 0
      · rw [if_pos c11q] at hB
        refine r_if_t (t := 29) f11_22 (by decide) c11q ?_
        refine r_aload_nN f11_29 rfl ?_
        replace hB := bnd_some hB
        obtain ⟨x12q, ex12q, hB⟩ := hB
        refine r_getA f11_30 fa_1_11 ex12q ?_
        refine r_iload_n f11_33 rfl ?_
        replace hB := bnd_some hB
        obtain ⟨u13q, rfl, hB⟩ := hB
        replace hB := bnd_some hB
        obtain ⟨x14q, ex14q, hB⟩ := hB
        refine r_aA 0 f11_34 et_0 ex14q ?_
        exact r_aret (r := x14q) pm_m_11 (.object "DunesWalked$Dune") f11_35 rfl rfl (by exact Or.inl ⟨_, rfl⟩) (zA hB)
      · rw [if_neg c11q] at hB
        refine r_if_f 29 f11_22 (by decide) c11q ?_
        exact pm_weak (L' := [pm_J, pm_J]) ⟨.inl rfl, .inl rfl, trivial⟩ (P_L_standing_25 (d := d) h hB)
theorem P_L_living_45 {d : Nat} {h' : pm_H} {r : Int32} (k_13 : pm_H → Int32 → Option Nat → Int32 → Int32 → Option (pm_H × Int32)) (hk_13 : ∀ (h : pm_H) (l1 : Int32) (l2 : Option Nat) (l3 : Int32) (l4 : Int32), k_13 h l1 l2 l3 l4 = some (h', r) → pm_run (pm_ev (d + 0)) 12 13 [pm_J, .int l1, va_rf l2, .int l3, .int l4, pm_J] [] h (fun r1 h1 => r1 = some (.int r) ∧ h1 = h')) (h : pm_H) (l2 : Option Nat) (l3 : Int32) (l4 : Int32) (s0 : Int32) (s1 : Int32) (hB : L_living_45 k_13 h l2 l3 l4 s0 s1 = some (h', r)) : pm_run (pm_ev (d + 0)) 12 45 [pm_J, pm_J, va_rf l2, .int l3, .int l4, pm_J] [.int s0, .int s1] h (fun r1 h1 => r1 = some (.int r) ∧ h1 = h') := by
  unfold L_living_45 at hB
  refine r_ior f12_45 ?_
  obtain ⟨y1q, hy1q⟩ : ∃ z, z = (s1 ||| s0) := ⟨_, rfl⟩
  replace hB := nmd_at hy1q hB
  refine r_istore_n (L' := [pm_J, .int y1q, va_rf l2, .int l3, .int l4, pm_J]) (x := y1q) f12_46 hy1q (Nat.le_of_ble_eq_true rfl) rfl ?_
  obtain ⟨y2q, hy2q⟩ : ∃ z, z = l4 + 1 := ⟨_, rfl⟩
  replace hB := nmd_at hy2q hB
  refine r_iinc (L' := [pm_J, .int y1q, va_rf l2, .int l3, .int y2q, pm_J]) (x := y2q) f12_47 rfl (hy2q.trans (congrArg (l4 + ·) ci_1.symm)) rfl ?_
  refine r_goto (t := 13) f12_50 (by decide) ?_
  exact pm_weak (L' := [pm_J, .int y1q, va_rf l2, .int l3, .int y2q, pm_J]) ⟨.inl rfl, .inr rfl, .inr rfl, .inr rfl, .inr rfl, .inl rfl, trivial⟩ (hk_13 h y1q l2 l3 y2q hB)
theorem P_L_living_13 {d : Nat} {h' : pm_H} {r : Int32} (n : Nat) : ∀ (h : pm_H) (l1 : Int32) (l2 : Option Nat) (l3 : Int32) (l4 : Int32), L_living_13 n h l1 l2 l3 l4 = some (h', r) → pm_run (pm_ev (d + 0)) 12 13 [pm_J, .int l1, va_rf l2, .int l3, .int l4, pm_J] [] h (fun r1 h1 => r1 = some (.int r) ∧ h1 = h') := by
  induction n with
  | zero => intro h l1 l2 l3 l4 hB; cases hB
  | succ n ih =>
    intro h l1 l2 l3 l4 hB
    unfold L_living_13 at hB
    refine r_iload f12_13 rfl ?_
    refine r_iload_n f12_15 rfl ?_
    by_cases c1q : l3 ≤ l4
    · rw [if_pos c1q] at hB
      refine r_ic_t (t := 53) f12_16 (by decide) c1q ?_
      refine r_iload_n f12_53 rfl ?_
      exact r_iret pm_m_12 .int f12_54 rfl rfl rfl (zI hB)
    · rw [if_neg c1q] at hB
      refine r_ic_f 53 f12_16 (by decide) c1q ?_
      refine r_aload_n f12_19 rfl ?_
      refine r_iload f12_20 rfl ?_
      replace hB := bnd_some hB
      obtain ⟨u2q, rfl, hB⟩ := hB
      replace hB := bnd_some hB
      obtain ⟨x3q, ex3q, hB⟩ := hB
      refine r_aA 0 f12_22 et_0 ex3q ?_
      refine r_astore (L' := [pm_J, .int l1, .ref u2q, .int l3, .int l4, va_rf x3q]) f12_23 (Nat.le_of_ble_eq_true rfl) rfl ?_
      refine r_iload_n f12_25 rfl ?_
      refine r_aload f12_26 rfl ?_
      replace hB := bnd_some hB
      obtain ⟨u4q, rfl, hB⟩ := hB
      replace hB := bnd_some hB
      obtain ⟨x5q, ex5q, hB⟩ := hB
      refine r_getI f12_28 fa_1_46 ex5q ?_
      by_cases c6q : x5q = 0
      · rw [if_pos c6q] at hB
        refine r_if_t (t := 38) f12_31 (by decide) c6q ?_
        refine r_iconst f12_38 ci_1 ?_
        refine r_aloadN f12_39 rfl ?_
        replace hB := bnd_some hB
        obtain ⟨x7q, ex7q, hB⟩ := hB
        refine r_getI f12_41 fa_1_50 ex7q ?_
        refine r_ishl f12_44 ?_
        exact pm_weak (L' := [pm_J, pm_J, va_rf (some u2q), .int l3, .int l4, pm_J]) ⟨.inl rfl, .inl rfl, .inr rfl, .inr rfl, .inr rfl, .inl rfl, trivial⟩ (P_L_living_45 (d := d) (L_living_13 n) ih h (some u2q) l3 l4 (1 <<< (x7q &&& 31)) l1 hB)
      · rw [if_neg c6q] at hB
        refine r_if_f 38 f12_31 (by decide) c6q ?_
        refine r_iconst f12_34 ci_0 ?_
        refine r_goto (t := 45) f12_35 (by decide) ?_
        exact pm_weak (L' := [pm_J, pm_J, va_rf (some u2q), .int l3, .int l4, pm_J]) ⟨.inl rfl, .inl rfl, .inr rfl, .inr rfl, .inr rfl, .inl rfl, trivial⟩ (P_L_living_45 (d := d) (L_living_13 n) ih h (some u2q) l3 l4 0 l1 hB)
theorem P_L_living {d : Nat} {h h' : pm_H} {r : Int32} {t : Nat} (hB : L_living h t = some (h', r)) : pm_ev (d + 1) 12 [.ref t] h (some (.int r)) h' := by
  unfold L_living at hB
  refine pm_ev_mk (L := [.ref t, pm_J, pm_J, pm_J, pm_J, pm_J]) pm_m_12 rfl (Nat.le_of_ble_eq_true rfl) rfl ?_
  refine r_iconst f12_0 ci_0 ?_
  refine r_istore_n (L' := [.ref t, .int 0, pm_J, pm_J, pm_J, pm_J]) (x := 0) f12_1 rfl (Nat.le_of_ble_eq_true rfl) rfl ?_
  refine r_aload_nN f12_2 rfl ?_
  replace hB := bnd_some hB
  obtain ⟨x1q, ex1q, hB⟩ := hB
  refine r_getA f12_3 fa_1_11 ex1q ?_
  refine r_astore_n (L' := [.ref t, .int 0, va_rf x1q, pm_J, pm_J, pm_J]) f12_6 (Nat.le_of_ble_eq_true rfl) rfl ?_
  refine r_aload_n f12_7 rfl ?_
  replace hB := bnd_some hB
  obtain ⟨u2q, rfl, hB⟩ := hB
  replace hB := bnd_some hB
  obtain ⟨x3q, ex3q, hB⟩ := hB
  refine r_ln f12_8 ex3q ?_
  refine r_istore_n (L' := [.ref t, .int 0, .ref u2q, .int x3q, pm_J, pm_J]) (x := x3q) f12_9 rfl (Nat.le_of_ble_eq_true rfl) rfl ?_
  refine r_iconst f12_10 ci_0 ?_
  refine r_istore (L' := [.ref t, .int 0, .ref u2q, .int x3q, .int 0, pm_J]) (x := 0) f12_11 rfl (Nat.le_of_ble_eq_true rfl) rfl ?_
  exact pm_weak (L' := [pm_J, .int 0, va_rf (some u2q), .int x3q, .int 0, pm_J]) ⟨.inl rfl, .inr rfl, .inr rfl, .inr rfl, .inr rfl, .inl rfl, trivial⟩ (P_L_living_13 (d := d) 1000 h 0 (some u2q) x3q 0 hB)
theorem P_L_sand_45 {d : Nat} {h' : pm_H} {r : Int64} (k_14 : pm_H → Int64 → Option Nat → Int32 → Int32 → Option (pm_H × Int64)) (hk_14 : ∀ (h : pm_H) (l1 : Int64) (l3 : Option Nat) (l4 : Int32) (l5 : Int32), k_14 h l1 l3 l4 l5 = some (h', r) → pm_run (pm_ev (d + 1)) 13 14 [pm_J, .long l1, pm_J, va_rf l3, .int l4, .int l5, pm_J] [] h (fun r1 h1 => r1 = some (.long r) ∧ h1 = h')) (h : pm_H) (l3 : Option Nat) (l4 : Int32) (l5 : Int32) (s0 : Int64) (s1 : Int64) (hB : L_sand_45 k_14 h l3 l4 l5 s0 s1 = some (h', r)) : pm_run (pm_ev (d + 1)) 13 45 [pm_J, pm_J, pm_J, va_rf l3, .int l4, .int l5, pm_J] [.long s0, .long s1] h (fun r1 h1 => r1 = some (.long r) ∧ h1 = h') := by
  unfold L_sand_45 at hB
  refine r_lor f13_45 ?_
  obtain ⟨y1q, hy1q⟩ : ∃ z, z = (s1 ||| s0) := ⟨_, rfl⟩
  replace hB := nmd_at hy1q hB
  refine r_lstore_n (L' := [pm_J, .long y1q, pm_J, va_rf l3, .int l4, .int l5, pm_J]) (x := y1q) f13_46 hy1q (Nat.le_of_ble_eq_true rfl) rfl ?_
  obtain ⟨y2q, hy2q⟩ : ∃ z, z = l5 + 1 := ⟨_, rfl⟩
  replace hB := nmd_at hy2q hB
  refine r_iinc (L' := [pm_J, .long y1q, pm_J, va_rf l3, .int l4, .int y2q, pm_J]) (x := y2q) f13_47 rfl (hy2q.trans (congrArg (l5 + ·) ci_1.symm)) rfl ?_
  refine r_goto (t := 14) f13_50 (by decide) ?_
  exact pm_weak (L' := [pm_J, .long y1q, pm_J, va_rf l3, .int l4, .int y2q, pm_J]) ⟨.inl rfl, .inr rfl, .inl rfl, .inr rfl, .inr rfl, .inr rfl, .inl rfl, trivial⟩ (hk_14 h y1q l3 l4 y2q hB)
theorem P_L_sand_14 {d : Nat} {h' : pm_H} {r : Int64} (n : Nat) : ∀ (h : pm_H) (l1 : Int64) (l3 : Option Nat) (l4 : Int32) (l5 : Int32), L_sand_14 n h l1 l3 l4 l5 = some (h', r) → pm_run (pm_ev (d + 1)) 13 14 [pm_J, .long l1, pm_J, va_rf l3, .int l4, .int l5, pm_J] [] h (fun r1 h1 => r1 = some (.long r) ∧ h1 = h') := by
  induction n with
  | zero => intro h l1 l3 l4 l5 hB; cases hB
  | succ n ih =>
    intro h l1 l3 l4 l5 hB
    unfold L_sand_14 at hB
    refine r_iload f13_14 rfl ?_
    refine r_iload f13_16 rfl ?_
    by_cases c1q : l4 ≤ l5
    · rw [if_pos c1q] at hB
      refine r_ic_t (t := 53) f13_18 (by decide) c1q ?_
      refine r_lload_n f13_53 rfl ?_
      exact r_lret pm_m_13 f13_54 rfl rfl (zJ hB)
    · rw [if_neg c1q] at hB
      refine r_ic_f 53 f13_18 (by decide) c1q ?_
      refine r_aload_n f13_21 rfl ?_
      refine r_iload f13_22 rfl ?_
      replace hB := bnd_some hB
      obtain ⟨u2q, rfl, hB⟩ := hB
      replace hB := bnd_some hB
      obtain ⟨x3q, ex3q, hB⟩ := hB
      refine r_aA 0 f13_24 et_0 ex3q ?_
      refine r_astore (L' := [pm_J, .long l1, pm_J, .ref u2q, .int l4, .int l5, va_rf x3q]) f13_25 (Nat.le_of_ble_eq_true rfl) rfl ?_
      refine r_lload_n f13_27 rfl ?_
      refine r_aload f13_28 rfl ?_
      replace hB := bnd_some hB
      obtain ⟨u4q, rfl, hB⟩ := hB
      replace hB := bnd_some hB
      obtain ⟨x5q, ex5q, hB⟩ := hB
      refine r_getI f13_30 fa_1_46 ex5q ?_
      by_cases c6q : x5q = 0
      · rw [if_pos c6q] at hB
        refine r_if_t (t := 40) f13_33 (by decide) c6q ?_
        refine r_aloadN f13_40 rfl ?_
        replace hB := grd_some hB
        obtain ⟨g9q, hB⟩ := hB
        replace hB := bn2_some hB
        obtain ⟨h7q, x8q, eh7q, hB⟩ := hB
        refine r_virtV (as := []) (q := pm_m_2) f13_42 ca_1_53 rfl rfl rfl (cs_len (Nat.le_of_ble_eq_true rfl)) g9q (P_D_yards (d := d + 0) eh7q) ?_
        exact pm_weak (L' := [pm_J, pm_J, pm_J, va_rf (some u2q), .int l4, .int l5, pm_J]) ⟨.inl rfl, .inl rfl, .inl rfl, .inr rfl, .inr rfl, .inr rfl, .inl rfl, trivial⟩ (P_L_sand_45 (d := d) (L_sand_14 n) ih h7q (some u2q) l4 l5 x8q l1 hB)
      · rw [if_neg c6q] at hB
        refine r_if_f 40 f13_33 (by decide) c6q ?_
        refine r_lconst f13_36 cl_0 ?_
        refine r_goto (t := 45) f13_37 (by decide) ?_
        exact pm_weak (L' := [pm_J, pm_J, pm_J, va_rf (some u2q), .int l4, .int l5, pm_J]) ⟨.inl rfl, .inl rfl, .inl rfl, .inr rfl, .inr rfl, .inr rfl, .inl rfl, trivial⟩ (P_L_sand_45 (d := d) (L_sand_14 n) ih h (some u2q) l4 l5 0 l1 hB)
theorem P_L_sand {d : Nat} {h h' : pm_H} {r : Int64} {t : Nat} (hB : L_sand h t = some (h', r)) : pm_ev (d + 2) 13 [.ref t] h (some (.long r)) h' := by
  unfold L_sand at hB
  refine pm_ev_mk (L := [.ref t, pm_J, pm_J, pm_J, pm_J, pm_J, pm_J]) pm_m_13 rfl (Nat.le_of_ble_eq_true rfl) rfl ?_
  refine r_lconst f13_0 cl_0 ?_
  refine r_lstore_n (L' := [.ref t, .long 0, pm_J, pm_J, pm_J, pm_J, pm_J]) (x := 0) f13_1 rfl (Nat.le_of_ble_eq_true rfl) rfl ?_
  refine r_aload_nN f13_2 rfl ?_
  replace hB := bnd_some hB
  obtain ⟨x1q, ex1q, hB⟩ := hB
  refine r_getA f13_3 fa_1_11 ex1q ?_
  refine r_astore_n (L' := [.ref t, .long 0, pm_J, va_rf x1q, pm_J, pm_J, pm_J]) f13_6 (Nat.le_of_ble_eq_true rfl) rfl ?_
  refine r_aload_n f13_7 rfl ?_
  replace hB := bnd_some hB
  obtain ⟨u2q, rfl, hB⟩ := hB
  replace hB := bnd_some hB
  obtain ⟨x3q, ex3q, hB⟩ := hB
  refine r_ln f13_8 ex3q ?_
  refine r_istore (L' := [.ref t, .long 0, pm_J, .ref u2q, .int x3q, pm_J, pm_J]) (x := x3q) f13_9 rfl (Nat.le_of_ble_eq_true rfl) rfl ?_
  refine r_iconst f13_11 ci_0 ?_
  refine r_istore (L' := [.ref t, .long 0, pm_J, .ref u2q, .int x3q, .int 0, pm_J]) (x := 0) f13_12 rfl (Nat.le_of_ble_eq_true rfl) rfl ?_
  exact pm_weak (L' := [pm_J, .long 0, pm_J, va_rf (some u2q), .int x3q, .int 0, pm_J]) ⟨.inl rfl, .inr rfl, .inl rfl, .inr rfl, .inr rfl, .inr rfl, .inl rfl, trivial⟩ (P_L_sand_14 (d := d) 1000 h 0 (some u2q) x3q 0 hB)
theorem P_L_buried {d : Nat} {h h' : pm_H} {r : Int32} {t : Nat} (hB : L_buried h t = some (h', r)) : pm_ev (d + 3) 14 [.ref t] h (some (.int r)) h' := by
  unfold L_buried at hB
  refine pm_ev_mk (L := [.ref t]) pm_m_14 rfl (Nat.le_of_ble_eq_true rfl) rfl ?_
  refine r_aload_nN f14_0 rfl ?_
  replace hB := bnd_some hB
  obtain ⟨x1q, ex1q, hB⟩ := hB
  refine r_getJ f14_1 fa_1_36 ex1q ?_
  refine r_aload_nN f14_4 rfl ?_
  replace hB := grd_some hB
  obtain ⟨g4q, hB⟩ := hB
  replace hB := bn2_some hB
  obtain ⟨h2q, x3q, eh2q, hB⟩ := hB
  refine r_virtV (as := []) (q := pm_m_13) f14_5 ca_1_57 rfl rfl rfl (cs_len (Nat.le_of_ble_eq_true rfl)) g4q (P_L_sand (d := d + 0) eh2q) ?_
  refine r_land f14_8 ?_
  replace hB := bn2_some hB
  obtain ⟨h5q, x6q, eh5q, hB⟩ := hB
  refine r_statV (as := [.long (x1q &&& x3q)]) (q := pm_m_185) f14_9 ca_1_60 rfl (by decide) rfl rfl (cs_len (Nat.le_of_ble_eq_true rfl)) (P_Jl_bitCount (d := d + 1) eh5q) ?_
  exact r_iret pm_m_14 .int f14_12 rfl rfl rfl (zI hB)
theorem P_L_hasHouse {d : Nat} {h h' : pm_H} {r : Int32} {t : Nat} {a1 : Int32} (hB : L_hasHouse h t a1 = some (h', r)) : pm_ev (d + 1) 15 [.ref t, .int a1] h (some (.int r)) h' := by
  unfold L_hasHouse at hB
  refine pm_ev_mk (L := [.ref t, .int a1]) pm_m_15 rfl (Nat.le_of_ble_eq_true rfl) rfl ?_
  refine r_aload_nN f15_0 rfl ?_
  replace hB := bnd_some hB
  obtain ⟨x1q, ex1q, hB⟩ := hB
  refine r_getJ f15_1 fa_1_36 ex1q ?_
  refine r_iload_n f15_4 rfl ?_
  refine r_lshr f15_5 ?_
  refine r_lconst f15_6 cl_1 ?_
  refine r_land f15_7 ?_
  refine r_lconst f15_8 cl_1 ?_
  refine r_lcmp f15_9 ?_
  by_cases c2q : (lg_cmp ((x1q >>> ((a1 : Int32).toInt64 &&& 63)) &&& 1) 1) = 0
  · rw [if_pos c2q] at hB
    refine r_if_f 17 f15_10 (by decide) (fun q => q c2q) ?_
    refine r_iconst f15_13 ci_1 ?_
    refine r_goto (t := 18) f15_14 (by decide) ?_
    exact r_iret pm_m_15 .boolean f15_18 rfl rfl (bool_n (by decide)) (zI hB)
  · rw [if_neg c2q] at hB
    refine r_if_t (t := 17) f15_10 (by decide) c2q ?_
    refine r_iconst f15_17 ci_0 ?_
    exact r_iret pm_m_15 .boolean f15_18 rfl rfl (bool_n (by decide)) (zI hB)
theorem P_L_onClover {d : Nat} {h h' : pm_H} {r : Int32} {t : Nat} {a1 : Option Nat} (hB : L_onClover h t a1 = some (h', r)) : pm_ev (d + 2) 16 [.ref t, va_rf a1] h (some (.int r)) h' := by
  unfold L_onClover at hB
  refine pm_ev_mk (L := [.ref t, va_rf a1]) pm_m_16 rfl (by simp only [pm_ar, rf_ar]; exact Nat.le_of_ble_eq_true rfl) (by simp only [pm_in, pm_ar, rf_ar]; rfl) ?_
  refine r_aload_nN f16_0 rfl ?_
  replace hB := bnd_some hB
  obtain ⟨x1q, ex1q, hB⟩ := hB
  refine r_getJ f16_1 fa_1_40 ex1q ?_
  refine r_aload_n f16_4 rfl ?_
  replace hB := bnd_some hB
  obtain ⟨u2q, rfl, hB⟩ := hB
  replace hB := grd_some hB
  obtain ⟨g5q, hB⟩ := hB
  replace hB := bn2_some hB
  obtain ⟨h3q, x4q, eh3q, hB⟩ := hB
  refine r_virtV (as := []) (q := pm_m_2) f16_5 ca_1_53 rfl rfl rfl (cs_len (Nat.le_of_ble_eq_true rfl)) g5q (P_D_yards (d := d + 0) eh3q) ?_
  refine r_land f16_8 ?_
  refine r_lconst f16_9 cl_0 ?_
  refine r_lcmp f16_10 ?_
  by_cases c6q : (lg_cmp (x1q &&& x4q) 0) = 0
  · rw [if_pos c6q] at hB
    refine r_if_t (t := 18) f16_11 (by decide) c6q ?_
    refine r_iconst f16_18 ci_0 ?_
    exact r_iret pm_m_16 .boolean f16_19 rfl rfl (bool_n (by decide)) (zI hB)
  · rw [if_neg c6q] at hB
    refine r_if_f 18 f16_11 (by decide) c6q ?_
    refine r_iconst f16_14 ci_1 ?_
    refine r_goto (t := 19) f16_15 (by decide) ?_
    exact r_iret pm_m_16 .boolean f16_19 rfl rfl (bool_n (by decide)) (zI hB)
theorem P_L_firstOver_51 {d : Nat} {h' : pm_H} {r : Int32} (k_11 : pm_H → Int32 → Option Nat → Int32 → Int32 → Option (pm_H × Int32)) (hk_11 : ∀ (h : pm_H) (l1 : Int32) (l2 : Option Nat) (l3 : Int32) (l4 : Int32), k_11 h l1 l2 l3 l4 = some (h', r) → pm_run (pm_ev (d + 1)) 17 11 [pm_J, .int l1, va_rf l2, .int l3, .int l4, pm_J] [] h (fun r1 h1 => r1 = some (.int r) ∧ h1 = h')) (h : pm_H) (l1 : Int32) (l2 : Option Nat) (l3 : Int32) (l4 : Int32) (hB : L_firstOver_51 k_11 h l1 l2 l3 l4 = some (h', r)) : pm_run (pm_ev (d + 1)) 17 51 [pm_J, .int l1, va_rf l2, .int l3, .int l4, pm_J] [] h (fun r1 h1 => r1 = some (.int r) ∧ h1 = h') := by
  unfold L_firstOver_51 at hB
  obtain ⟨y1q, hy1q⟩ : ∃ z, z = l4 + 1 := ⟨_, rfl⟩
  replace hB := nmd_at hy1q hB
  refine r_iinc (L' := [pm_J, .int l1, va_rf l2, .int l3, .int y1q, pm_J]) (x := y1q) f17_51 rfl (hy1q.trans (congrArg (l4 + ·) ci_1.symm)) rfl ?_
  refine r_goto (t := 11) f17_54 (by decide) ?_
  exact pm_weak (L' := [pm_J, .int l1, va_rf l2, .int l3, .int y1q, pm_J]) ⟨.inl rfl, .inr rfl, .inr rfl, .inr rfl, .inr rfl, .inl rfl, trivial⟩ (hk_11 h l1 l2 l3 y1q hB)
theorem P_L_firstOver_11 {d : Nat} {h' : pm_H} {r : Int32} (n : Nat) : ∀ (h : pm_H) (l1 : Int32) (l2 : Option Nat) (l3 : Int32) (l4 : Int32), L_firstOver_11 n h l1 l2 l3 l4 = some (h', r) → pm_run (pm_ev (d + 1)) 17 11 [pm_J, .int l1, va_rf l2, .int l3, .int l4, pm_J] [] h (fun r1 h1 => r1 = some (.int r) ∧ h1 = h') := by
  induction n with
  | zero => intro h l1 l2 l3 l4 hB; cases hB
  | succ n ih =>
    intro h l1 l2 l3 l4 hB
    unfold L_firstOver_11 at hB
    refine r_iload f17_11 rfl ?_
    refine r_iload_n f17_13 rfl ?_
    by_cases c1q : l3 ≤ l4
    · rw [if_pos c1q] at hB
      refine r_ic_t (t := 57) f17_14 (by decide) c1q ?_
      refine r_iconst f17_57 ci_m1 ?_
      exact r_iret pm_m_17 .int f17_58 rfl rfl rfl (zI hB)
    · rw [if_neg c1q] at hB
      refine r_ic_f 57 f17_14 (by decide) c1q ?_
      refine r_aload_n f17_17 rfl ?_
      refine r_iload f17_18 rfl ?_
      replace hB := bnd_some hB
      obtain ⟨u2q, rfl, hB⟩ := hB
      replace hB := bnd_some hB
      obtain ⟨x3q, ex3q, hB⟩ := hB
      refine r_aA 0 f17_20 et_0 ex3q ?_
      refine r_astore (L' := [pm_J, .int l1, .ref u2q, .int l3, .int l4, va_rf x3q]) f17_21 (Nat.le_of_ble_eq_true rfl) rfl ?_
      refine r_aload f17_23 rfl ?_
      replace hB := bnd_some hB
      obtain ⟨u4q, rfl, hB⟩ := hB
      replace hB := bnd_some hB
      obtain ⟨x5q, ex5q, hB⟩ := hB
      refine r_getI f17_25 fa_1_46 ex5q ?_
      by_cases c6q : x5q = 0
      · rw [if_pos c6q] at hB
        refine r_if_f 51 f17_28 (by decide) (fun q => q c6q) ?_
        refine r_aloadN f17_31 rfl ?_
        replace hB := grd_some hB
        obtain ⟨g9q, hB⟩ := hB
        replace hB := bn2_some hB
        obtain ⟨h7q, x8q, eh7q, hB⟩ := hB
        refine r_virtV (as := []) (q := pm_m_2) f17_33 ca_1_53 rfl rfl rfl (cs_len (Nat.le_of_ble_eq_true rfl)) g9q (P_D_yards (d := d + 0) eh7q) ?_
        refine r_iload_n f17_36 rfl ?_
        refine r_lshr f17_37 ?_
        refine r_lconst f17_38 cl_1 ?_
        refine r_land f17_39 ?_
        refine r_lconst f17_40 cl_1 ?_
        refine r_lcmp f17_41 ?_
        by_cases c10q : (lg_cmp ((x8q >>> ((l1 : Int32).toInt64 &&& 63)) &&& 1) 1) = 0
        · rw [if_pos c10q] at hB
          refine r_if_f 51 f17_42 (by decide) (fun q => q c10q) ?_
          refine r_aloadN f17_45 rfl ?_
          replace hB := bnd_some hB
          obtain ⟨x11q, ex11q, hB⟩ := hB
          refine r_getI f17_47 fa_1_50 ex11q ?_
          exact r_iret pm_m_17 .int f17_50 rfl rfl rfl (zI hB)
        · rw [if_neg c10q] at hB
          refine r_if_t (t := 51) f17_42 (by decide) c10q ?_
          exact pm_weak (L' := [pm_J, .int l1, va_rf (some u2q), .int l3, .int l4, pm_J]) ⟨.inl rfl, .inr rfl, .inr rfl, .inr rfl, .inr rfl, .inl rfl, trivial⟩ (P_L_firstOver_51 (d := d) (L_firstOver_11 n) ih h7q l1 (some u2q) l3 l4 hB)
      · rw [if_neg c6q] at hB
        refine r_if_t (t := 51) f17_28 (by decide) c6q ?_
        exact pm_weak (L' := [pm_J, .int l1, va_rf (some u2q), .int l3, .int l4, pm_J]) ⟨.inl rfl, .inr rfl, .inr rfl, .inr rfl, .inr rfl, .inl rfl, trivial⟩ (P_L_firstOver_51 (d := d) (L_firstOver_11 n) ih h l1 (some u2q) l3 l4 hB)
theorem P_L_firstOver {d : Nat} {h h' : pm_H} {r : Int32} {t : Nat} {a1 : Int32} (hB : L_firstOver h t a1 = some (h', r)) : pm_ev (d + 2) 17 [.ref t, .int a1] h (some (.int r)) h' := by
  unfold L_firstOver at hB
  refine pm_ev_mk (L := [.ref t, .int a1, pm_J, pm_J, pm_J, pm_J]) pm_m_17 rfl (Nat.le_of_ble_eq_true rfl) rfl ?_
  refine r_aload_nN f17_0 rfl ?_
  replace hB := bnd_some hB
  obtain ⟨x1q, ex1q, hB⟩ := hB
  refine r_getA f17_1 fa_1_11 ex1q ?_
  refine r_astore_n (L' := [.ref t, .int a1, va_rf x1q, pm_J, pm_J, pm_J]) f17_4 (Nat.le_of_ble_eq_true rfl) rfl ?_
  refine r_aload_n f17_5 rfl ?_
  replace hB := bnd_some hB
  obtain ⟨u2q, rfl, hB⟩ := hB
  replace hB := bnd_some hB
  obtain ⟨x3q, ex3q, hB⟩ := hB
  refine r_ln f17_6 ex3q ?_
  refine r_istore_n (L' := [.ref t, .int a1, .ref u2q, .int x3q, pm_J, pm_J]) (x := x3q) f17_7 rfl (Nat.le_of_ble_eq_true rfl) rfl ?_
  refine r_iconst f17_8 ci_0 ?_
  refine r_istore (L' := [.ref t, .int a1, .ref u2q, .int x3q, .int 0, pm_J]) (x := 0) f17_9 rfl (Nat.le_of_ble_eq_true rfl) rfl ?_
  exact pm_weak (L' := [pm_J, .int a1, va_rf (some u2q), .int x3q, .int 0, pm_J]) ⟨.inl rfl, .inr rfl, .inr rfl, .inr rfl, .inr rfl, .inl rfl, trivial⟩ (P_L_firstOver_11 (d := d) 1000 h a1 (some u2q) x3q 0 hB)
theorem P_L_takeUp_106 {d : Nat} {h' : pm_H} {r : Unit} (k_19 : pm_H → Option Nat → Int64 → Option Nat → Int32 → Int32 → Option (pm_H × Unit)) (hk_19 : ∀ (h : pm_H) (l1 : Option Nat) (l2 : Int64) (l4 : Option Nat) (l5 : Int32) (l6 : Int32), k_19 h l1 l2 l4 l5 l6 = some (h', r) → pm_run (pm_ev (d + 2)) 19 19 [pm_J, va_rf l1, .long l2, pm_J, va_rf l4, .int l5, .int l6, pm_J, pm_J] [] h (fun r1 h1 => r1 = none ∧ h1 = h')) (h : pm_H) (l1 : Option Nat) (l2 : Int64) (l4 : Option Nat) (l5 : Int32) (l6 : Int32) (hB : L_takeUp_106 k_19 h l1 l2 l4 l5 l6 = some (h', r)) : pm_run (pm_ev (d + 2)) 19 106 [pm_J, va_rf l1, .long l2, pm_J, va_rf l4, .int l5, .int l6, pm_J, pm_J] [] h (fun r1 h1 => r1 = none ∧ h1 = h') := by
  unfold L_takeUp_106 at hB
  obtain ⟨y1q, hy1q⟩ : ∃ z, z = l6 + 1 := ⟨_, rfl⟩
  replace hB := nmd_at hy1q hB
  refine r_iinc (L' := [pm_J, va_rf l1, .long l2, pm_J, va_rf l4, .int l5, .int y1q, pm_J, pm_J]) (x := y1q) f19_106 rfl (hy1q.trans (congrArg (l6 + ·) ci_1.symm)) rfl ?_
  refine r_goto (t := 19) f19_109 (by decide) ?_
  exact pm_weak (L' := [pm_J, va_rf l1, .long l2, pm_J, va_rf l4, .int l5, .int y1q, pm_J, pm_J]) ⟨.inl rfl, .inr rfl, .inr rfl, .inl rfl, .inr rfl, .inr rfl, .inr rfl, .inl rfl, .inl rfl, trivial⟩ (hk_19 h l1 l2 l4 l5 y1q hB)
theorem P_L_takeUp_70 {d : Nat} {h' : pm_H} {r : Unit} (k_19 : pm_H → Option Nat → Int64 → Option Nat → Int32 → Int32 → Option (pm_H × Unit)) (hk_19 : ∀ (h : pm_H) (l1 : Option Nat) (l2 : Int64) (l4 : Option Nat) (l5 : Int32) (l6 : Int32), k_19 h l1 l2 l4 l5 l6 = some (h', r) → pm_run (pm_ev (d + 2)) 19 19 [pm_J, va_rf l1, .long l2, pm_J, va_rf l4, .int l5, .int l6, pm_J, pm_J] [] h (fun r1 h1 => r1 = none ∧ h1 = h')) (h : pm_H) (l1 : Option Nat) (l2 : Int64) (l4 : Option Nat) (l5 : Int32) (l6 : Int32) (l7 : Option Nat) (s0 : Int32) (hB : L_takeUp_70 k_19 h l1 l2 l4 l5 l6 l7 s0 = some (h', r)) : pm_run (pm_ev (d + 2)) 19 70 [pm_J, va_rf l1, .long l2, pm_J, va_rf l4, .int l5, .int l6, va_rf l7, pm_J] [.int s0] h (fun r1 h1 => r1 = none ∧ h1 = h') := by
  unfold L_takeUp_70 at hB
  refine r_istore (L' := [pm_J, va_rf l1, .long l2, pm_J, va_rf l4, .int l5, .int l6, va_rf l7, .int s0]) (x := s0) f19_70 rfl (Nat.le_of_ble_eq_true rfl) (st1_A 7 (r := l7) rfl rfl rfl) ?_
  refine r_iload f19_72 rfl ?_
  by_cases c1q : s0 = 0
  · rw [if_pos c1q] at hB
    refine r_if_t (t := 106) f19_74 (by decide) c1q ?_
    exact pm_weak (L' := [pm_J, va_rf l1, .long l2, pm_J, va_rf l4, .int l5, .int l6, pm_J, pm_J]) ⟨.inl rfl, .inr rfl, .inr rfl, .inl rfl, .inr rfl, .inr rfl, .inr rfl, .inl rfl, .inl rfl, trivial⟩ (P_L_takeUp_106 (d := d) k_19 hk_19 h l1 l2 l4 l5 l6 hB)
  · rw [if_neg c1q] at hB
    refine r_if_f 106 f19_74 (by decide) c1q ?_
    refine r_aload f19_77 rfl ?_
    replace hB := bnd_some hB
    obtain ⟨u2q, rfl, hB⟩ := hB
    replace hB := bnd_some hB
    obtain ⟨x3q, ex3q, hB⟩ := hB
    refine r_getI f19_79 fa_1_82 ex3q ?_
    refine r_aload_n f19_82 rfl ?_
    replace hB := bnd_some hB
    obtain ⟨u4q, rfl, hB⟩ := hB
    replace hB := bnd_some hB
    obtain ⟨x5q, ex5q, hB⟩ := hB
    refine r_getI f19_83 fa_1_82 ex5q ?_
    by_cases c6q : x5q < x3q
    · rw [if_pos c6q] at hB
      refine r_ic_t (t := 106) f19_86 (by decide) c6q ?_
      exact pm_weak (L' := [pm_J, va_rf (some u4q), .long l2, pm_J, va_rf l4, .int l5, .int l6, pm_J, pm_J]) ⟨.inl rfl, .inr rfl, .inr rfl, .inl rfl, .inr rfl, .inr rfl, .inr rfl, .inl rfl, .inl rfl, trivial⟩ (P_L_takeUp_106 (d := d) k_19 hk_19 h (some u4q) l2 l4 l5 l6 hB)
    · rw [if_neg c6q] at hB
      refine r_ic_f 106 f19_86 (by decide) c6q ?_
      refine r_aloadN f19_89 rfl ?_
      refine r_iconst f19_91 ci_1 ?_
      replace hB := bnd_some hB
      obtain ⟨h7q, eh7q, hB⟩ := hB
      refine r_put f19_92 fa_1_46 ty_0_6 (bool_n (by decide)) (bool_f (by decide)) (no_fin (nf_0_6)) eh7q ?_
      refine r_aload_nN f19_95 rfl ?_
      refine r_aloadN f19_96 rfl ?_
      replace hB := bnd_some hB
      obtain ⟨x8q, ex8q, hB⟩ := hB
      refine r_getI f19_98 fa_1_82 ex8q ?_
      refine r_iconst f19_101 ci_2 ?_
      refine r_idiv f19_102 nz_i_2 ?_
      replace hB := grd_some hB
      obtain ⟨g11q, hB⟩ := hB
      replace hB := bn2_some hB
      obtain ⟨h9q, _, eh9q, hB⟩ := hB
      refine r_virtN (as := [.int (x8q / 2)]) (q := pm_m_8) f19_103 ca_1_79 rfl rfl rfl (cs_len (Nat.le_of_ble_eq_true rfl)) g11q (P_D_rise (d := d + 0) eh9q) ?_
      exact pm_weak (L' := [pm_J, va_rf (some u4q), .long l2, pm_J, va_rf l4, .int l5, .int l6, pm_J, pm_J]) ⟨.inl rfl, .inr rfl, .inr rfl, .inl rfl, .inr rfl, .inr rfl, .inr rfl, .inl rfl, .inl rfl, trivial⟩ (P_L_takeUp_106 (d := d) k_19 hk_19 h9q (some u4q) l2 l4 l5 l6 hB)
theorem P_L_takeUp_69 {d : Nat} {h' : pm_H} {r : Unit} (k_19 : pm_H → Option Nat → Int64 → Option Nat → Int32 → Int32 → Option (pm_H × Unit)) (hk_19 : ∀ (h : pm_H) (l1 : Option Nat) (l2 : Int64) (l4 : Option Nat) (l5 : Int32) (l6 : Int32), k_19 h l1 l2 l4 l5 l6 = some (h', r) → pm_run (pm_ev (d + 2)) 19 19 [pm_J, va_rf l1, .long l2, pm_J, va_rf l4, .int l5, .int l6, pm_J, pm_J] [] h (fun r1 h1 => r1 = none ∧ h1 = h')) (h : pm_H) (l1 : Option Nat) (l2 : Int64) (l4 : Option Nat) (l5 : Int32) (l6 : Int32) (l7 : Option Nat) (hB : L_takeUp_69 k_19 h l1 l2 l4 l5 l6 l7 = some (h', r)) : pm_run (pm_ev (d + 2)) 19 69 [pm_J, va_rf l1, .long l2, pm_J, va_rf l4, .int l5, .int l6, va_rf l7, pm_J] [] h (fun r1 h1 => r1 = none ∧ h1 = h') := by
  unfold L_takeUp_69 at hB
  refine r_iconst f19_69 ci_0 ?_
  exact pm_weak (L' := [pm_J, va_rf l1, .long l2, pm_J, va_rf l4, .int l5, .int l6, va_rf l7, pm_J]) ⟨.inl rfl, .inr rfl, .inr rfl, .inl rfl, .inr rfl, .inr rfl, .inr rfl, .inr rfl, .inl rfl, trivial⟩ (P_L_takeUp_70 (d := d) k_19 hk_19 h l1 l2 l4 l5 l6 l7 0 hB)
theorem P_L_takeUp_19 {d : Nat} {h' : pm_H} {r : Unit} (n : Nat) : ∀ (h : pm_H) (l1 : Option Nat) (l2 : Int64) (l4 : Option Nat) (l5 : Int32) (l6 : Int32), L_takeUp_19 n h l1 l2 l4 l5 l6 = some (h', r) → pm_run (pm_ev (d + 2)) 19 19 [pm_J, va_rf l1, .long l2, pm_J, va_rf l4, .int l5, .int l6, pm_J, pm_J] [] h (fun r1 h1 => r1 = none ∧ h1 = h') := by
  induction n with
  | zero => intro h l1 l2 l4 l5 l6 hB; cases hB
  | succ n ih =>
    intro h l1 l2 l4 l5 l6 hB
    unfold L_takeUp_19 at hB
    refine r_iload f19_19 rfl ?_
    refine r_iload f19_21 rfl ?_
    by_cases c1q : l5 ≤ l6
    · rw [if_pos c1q] at hB
      refine r_ic_t (t := 112) f19_23 (by decide) c1q ?_
      exact r_vret pm_m_19 f19_112 rfl rfl (zV hB)
    · rw [if_neg c1q] at hB
      refine r_ic_f 112 f19_23 (by decide) c1q ?_
      refine r_aload f19_26 rfl ?_
      refine r_iload f19_28 rfl ?_
      replace hB := bnd_some hB
      obtain ⟨u2q, rfl, hB⟩ := hB
      replace hB := bnd_some hB
      obtain ⟨x3q, ex3q, hB⟩ := hB
      refine r_aA 0 f19_30 et_0 ex3q ?_
      refine r_astore (L' := [pm_J, va_rf l1, .long l2, pm_J, .ref u2q, .int l5, .int l6, va_rf x3q, pm_J]) f19_31 (Nat.le_of_ble_eq_true rfl) rfl ?_
      refine r_aload f19_33 rfl ?_
      replace hB := bnd_some hB
      obtain ⟨u4q, rfl, hB⟩ := hB
      replace hB := bnd_some hB
      obtain ⟨x5q, ex5q, hB⟩ := hB
      refine r_getI f19_35 fa_1_50 ex5q ?_
      refine r_aload_n f19_38 rfl ?_
      replace hB := bnd_some hB
      obtain ⟨u6q, rfl, hB⟩ := hB
      replace hB := bnd_some hB
      obtain ⟨x7q, ex7q, hB⟩ := hB
      refine r_getI f19_39 fa_1_50 ex7q ?_
      by_cases c8q : x5q = x7q
      · rw [if_pos c8q] at hB
        refine r_ic_t (t := 69) f19_42 (by decide) c8q ?_
        exact pm_weak (L' := [pm_J, va_rf (some u6q), .long l2, pm_J, va_rf (some u2q), .int l5, .int l6, va_rf (some u4q), pm_J]) ⟨.inl rfl, .inr rfl, .inr rfl, .inl rfl, .inr rfl, .inr rfl, .inr rfl, .inr rfl, .inl rfl, trivial⟩ (P_L_takeUp_69 (d := d) (L_takeUp_19 n) ih h (some u6q) l2 (some u2q) l5 l6 (some u4q) hB)
      · rw [if_neg c8q] at hB
        refine r_ic_f 69 f19_42 (by decide) c8q ?_
        refine r_aloadN f19_45 rfl ?_
        replace hB := bnd_some hB
        obtain ⟨x9q, ex9q, hB⟩ := hB
        refine r_getI f19_47 fa_1_46 ex9q ?_
        by_cases c10q : x9q = 0
        · rw [if_pos c10q] at hB
          refine r_if_f 69 f19_50 (by decide) (fun q => q c10q) ?_
          refine r_aloadN f19_53 rfl ?_
          replace hB := grd_some hB
          obtain ⟨g13q, hB⟩ := hB
          replace hB := bn2_some hB
          obtain ⟨h11q, x12q, eh11q, hB⟩ := hB
          refine r_virtV (as := []) (q := pm_m_2) f19_55 ca_1_53 rfl rfl rfl (cs_len (Nat.le_of_ble_eq_true rfl)) g13q (P_D_yards (d := d + 1) eh11q) ?_
          refine r_lload_n f19_58 rfl ?_
          refine r_land f19_59 ?_
          refine r_lconst f19_60 cl_0 ?_
          refine r_lcmp f19_61 ?_
          by_cases c14q : (lg_cmp (x12q &&& l2) 0) = 0
          · rw [if_pos c14q] at hB
            refine r_if_t (t := 69) f19_62 (by decide) c14q ?_
            exact pm_weak (L' := [pm_J, va_rf (some u6q), .long l2, pm_J, va_rf (some u2q), .int l5, .int l6, va_rf (some u4q), pm_J]) ⟨.inl rfl, .inr rfl, .inr rfl, .inl rfl, .inr rfl, .inr rfl, .inr rfl, .inr rfl, .inl rfl, trivial⟩ (P_L_takeUp_69 (d := d) (L_takeUp_19 n) ih h11q (some u6q) l2 (some u2q) l5 l6 (some u4q) hB)
          · rw [if_neg c14q] at hB
            refine r_if_f 69 f19_62 (by decide) c14q ?_
            refine r_iconst f19_65 ci_1 ?_
            refine r_goto (t := 70) f19_66 (by decide) ?_
            exact pm_weak (L' := [pm_J, va_rf (some u6q), .long l2, pm_J, va_rf (some u2q), .int l5, .int l6, va_rf (some u4q), pm_J]) ⟨.inl rfl, .inr rfl, .inr rfl, .inl rfl, .inr rfl, .inr rfl, .inr rfl, .inr rfl, .inl rfl, trivial⟩ (P_L_takeUp_70 (d := d) (L_takeUp_19 n) ih h11q (some u6q) l2 (some u2q) l5 l6 (some u4q) 1 hB)
        · rw [if_neg c10q] at hB
          refine r_if_t (t := 69) f19_50 (by decide) c10q ?_
          exact pm_weak (L' := [pm_J, va_rf (some u6q), .long l2, pm_J, va_rf (some u2q), .int l5, .int l6, va_rf (some u4q), pm_J]) ⟨.inl rfl, .inr rfl, .inr rfl, .inl rfl, .inr rfl, .inr rfl, .inr rfl, .inr rfl, .inl rfl, trivial⟩ (P_L_takeUp_69 (d := d) (L_takeUp_19 n) ih h (some u6q) l2 (some u2q) l5 l6 (some u4q) hB)
theorem P_L_takeUp {d : Nat} {h h' : pm_H} {r : Unit} {t : Nat} {a1 : Option Nat} (hB : L_takeUp h t a1 = some (h', r)) : pm_ev (d + 3) 19 [.ref t, va_rf a1] h none h' := by
  unfold L_takeUp at hB
  refine pm_ev_mk (L := [.ref t, va_rf a1, pm_J, pm_J, pm_J, pm_J, pm_J, pm_J, pm_J]) pm_m_19 rfl (by simp only [pm_ar, rf_ar]; exact Nat.le_of_ble_eq_true rfl) (by simp only [pm_in, pm_ar, rf_ar]; rfl) ?_
  refine r_aload_n f19_0 rfl ?_
  replace hB := bnd_some hB
  obtain ⟨u1q, rfl, hB⟩ := hB
  replace hB := grd_some hB
  obtain ⟨g4q, hB⟩ := hB
  replace hB := bn2_some hB
  obtain ⟨h2q, x3q, eh2q, hB⟩ := hB
  refine r_virtV (as := []) (q := pm_m_2) f19_1 ca_1_53 rfl rfl rfl (cs_len (Nat.le_of_ble_eq_true rfl)) g4q (P_D_yards (d := d + 1) eh2q) ?_
  refine r_lstore_n (L' := [.ref t, .ref u1q, .long x3q, pm_J, pm_J, pm_J, pm_J, pm_J, pm_J]) (x := x3q) f19_4 rfl (Nat.le_of_ble_eq_true rfl) rfl ?_
  refine r_aload_nN f19_5 rfl ?_
  replace hB := bnd_some hB
  obtain ⟨x5q, ex5q, hB⟩ := hB
  refine r_getA f19_6 fa_1_11 ex5q ?_
  refine r_astore (L' := [.ref t, .ref u1q, .long x3q, pm_J, va_rf x5q, pm_J, pm_J, pm_J, pm_J]) f19_9 (Nat.le_of_ble_eq_true rfl) rfl ?_
  refine r_aload f19_11 rfl ?_
  replace hB := bnd_some hB
  obtain ⟨u6q, rfl, hB⟩ := hB
  replace hB := bnd_some hB
  obtain ⟨x7q, ex7q, hB⟩ := hB
  refine r_ln f19_13 ex7q ?_
  refine r_istore (L' := [.ref t, .ref u1q, .long x3q, pm_J, .ref u6q, .int x7q, pm_J, pm_J, pm_J]) (x := x7q) f19_14 rfl (Nat.le_of_ble_eq_true rfl) rfl ?_
  refine r_iconst f19_16 ci_0 ?_
  refine r_istore (L' := [.ref t, .ref u1q, .long x3q, pm_J, .ref u6q, .int x7q, .int 0, pm_J, pm_J]) (x := 0) f19_17 rfl (Nat.le_of_ble_eq_true rfl) rfl ?_
  exact pm_weak (L' := [pm_J, va_rf (some u1q), .long x3q, pm_J, va_rf (some u6q), .int x7q, .int 0, pm_J, pm_J]) ⟨.inl rfl, .inr rfl, .inr rfl, .inl rfl, .inr rfl, .inr rfl, .inr rfl, .inl rfl, .inl rfl, trivial⟩ (P_L_takeUp_19 (d := d) 1000 h2q (some u1q) x3q (some u6q) x7q 0 hB)
theorem P_L_blondStride {d : Nat} {h h' : pm_H} {r : Int32} {a0 : Option Nat} {a1 : Int32} (hB : L_blondStride h a0 a1 = some (h', r)) : pm_ev (d + 1) 21 [va_rf a0, .int a1] h (some (.int r)) h' := by
  unfold L_blondStride at hB
  refine pm_ev_mk (L := [va_rf a0, .int a1]) pm_m_21 rfl (by simp only [pm_ar, rf_ar]; exact Nat.le_of_ble_eq_true rfl) (by simp only [pm_in, pm_ar, rf_ar]; rfl) ?_
  refine r_aload_n f21_0 rfl ?_
  replace hB := bnd_some hB
  obtain ⟨u1q, rfl, hB⟩ := hB
  replace hB := bnd_some hB
  obtain ⟨x2q, ex2q, hB⟩ := hB
  refine r_getI f21_1 fa_1_82 ex2q ?_
  refine r_bipush f21_4 cb_50 ?_
  by_cases c3q : x2q ≤ 50
  · rw [if_pos c3q] at hB
    refine r_ic_t (t := 15) f21_6 (by decide) c3q ?_
    refine r_iload_n f21_15 rfl ?_
    refine r_iconst f21_16 ci_1 ?_
    refine r_iadd f21_17 ?_
    exact r_iret pm_m_21 .int f21_18 rfl rfl rfl (zI hB)
  · rw [if_neg c3q] at hB
    refine r_ic_f 15 f21_6 (by decide) c3q ?_
    refine r_iload_n f21_9 rfl ?_
    refine r_iconst f21_10 ci_2 ?_
    refine r_idiv f21_11 nz_i_2 ?_
    refine r_goto (t := 18) f21_12 (by decide) ?_
    exact r_iret pm_m_21 .int f21_18 rfl rfl rfl (zI hB)
theorem P_L_named {d : Nat} {h h' : pm_H} {r : Int32} {t : Nat} {a1 : Int32} {a2 : Option Nat} {a3 : Int32} (hB : L_named h t a1 a2 a3 = some (h', r)) : pm_ev (d + 1) 26 [.ref t, .int a1, va_rf a2, .int a3] h (some (.int r)) h' := by
  unfold L_named at hB
  refine pm_ev_mk (L := [.ref t, .int a1, va_rf a2, .int a3]) pm_m_26 rfl (by simp only [pm_ar, rf_ar]; exact Nat.le_of_ble_eq_true rfl) (by simp only [pm_in, pm_ar, rf_ar]; rfl) ?_
  refine r_iload_n f26_0 rfl ?_
  by_cases c1q : a1 = 10000
  · rw [if_pos c1q] at hB
    refine r_tsw (off := 35) (t := 36) f26_1 c1q (by decide) (by decide) (by decide) (by decide) ?_
    refine r_aload_n f26_36 rfl ?_
    replace hB := bnd_some hB
    obtain ⟨u2q, rfl, hB⟩ := hB
    replace hB := bnd_some hB
    obtain ⟨x3q, ex3q, hB⟩ := hB
    refine r_getI f26_37 fa_1_82 ex3q ?_
    exact r_iret pm_m_26 .int f26_40 rfl rfl rfl (zI hB)
  rw [if_neg c1q] at hB
  by_cases c4q : a1 = 10001
  · rw [if_pos c4q] at hB
    refine r_tsw (off := 40) (t := 41) f26_1 c4q (by decide) (by decide) (by decide) (by decide) ?_
    refine r_aload_n f26_41 rfl ?_
    replace hB := bnd_some hB
    obtain ⟨u5q, rfl, hB⟩ := hB
    replace hB := bnd_some hB
    obtain ⟨x6q, ex6q, hB⟩ := hB
    refine r_getI f26_42 fa_1_138 ex6q ?_
    exact r_iret pm_m_26 .int f26_45 rfl rfl rfl (zI hB)
  rw [if_neg c4q] at hB
  by_cases c7q : a1 = 10002
  · rw [if_pos c7q] at hB
    refine r_tsw (off := 45) (t := 46) f26_1 c7q (by decide) (by decide) (by decide) (by decide) ?_
    refine r_aload_n f26_46 rfl ?_
    replace hB := bnd_some hB
    obtain ⟨u8q, rfl, hB⟩ := hB
    replace hB := bnd_some hB
    obtain ⟨x9q, ex9q, hB⟩ := hB
    refine r_getI f26_47 fa_1_141 ex9q ?_
    exact r_iret pm_m_26 .int f26_50 rfl rfl rfl (zI hB)
  rw [if_neg c7q] at hB
  by_cases c10q : a1 = 10003
  · rw [if_pos c10q] at hB
    refine r_tsw (off := 50) (t := 51) f26_1 c10q (by decide) (by decide) (by decide) (by decide) ?_
    refine r_iload_n f26_51 rfl ?_
    exact r_iret pm_m_26 .int f26_52 rfl rfl rfl (zI hB)
  rw [if_neg c10q] at hB
  by_cases c11q : a1 = 10004
  · rw [if_pos c11q] at hB
    refine r_tsw (off := 52) (t := 53) f26_1 c11q (by decide) (by decide) (by decide) (by decide) ?_
    refine r_aload_nN f26_53 rfl ?_
    replace hB := bnd_some hB
    obtain ⟨x12q, ex12q, hB⟩ := hB
    refine r_getI f26_54 fa_1_43 ex12q ?_
    exact r_iret pm_m_26 .int f26_57 rfl rfl rfl (zI hB)
  rw [if_neg c11q] at hB
  refine r_tswD (t := 58) f26_1 (sw_out 5 (lt_s (lt_s (lt_s (lt_s (lt_s (lt_0) (sw_ne c1q (by decide))) (sw_ne c4q (by decide))) (sw_ne c7q (by decide))) (sw_ne c10q (by decide))) (sw_ne c11q (by decide))) (by decide)) (by decide) ?_
  refine r_aload_n f26_58 rfl ?_
  replace hB := bnd_some hB
  obtain ⟨u13q, rfl, hB⟩ := hB
  replace hB := bnd_some hB
  obtain ⟨x14q, ex14q, hB⟩ := hB
  refine r_getI f26_59 fa_1_95 ex14q ?_
  exact r_iret pm_m_26 .int f26_62 rfl rfl rfl (zI hB)
theorem P_L_joined_48 {d : Nat} {h' : pm_H} {r : Int32} (h : pm_H) (hB : L_joined_48 h = some (h', r)) : pm_run (pm_ev (d + 0)) 27 48 [pm_J, pm_J, pm_J] [] h (fun r1 h1 => r1 = some (.int r) ∧ h1 = h') := by
  unfold L_joined_48 at hB
  refine r_iconst f27_48 ci_1 ?_
  refine r_goto (t := 53) f27_49 (by decide) ?_
  exact r_iret pm_m_27 .int f27_53 rfl rfl rfl (zI hB)
theorem P_L_joined {d : Nat} {h h' : pm_H} {r : Int32} {a0 : Int32} {a1 : Int32} {a2 : Int32} (hB : L_joined h a0 a1 a2 = some (h', r)) : pm_ev (d + 1) 27 [.int a0, .int a1, .int a2] h (some (.int r)) h' := by
  unfold L_joined at hB
  refine pm_ev_mk (L := [.int a0, .int a1, .int a2]) pm_m_27 rfl (Nat.le_of_ble_eq_true rfl) rfl ?_
  refine r_iload_n f27_0 rfl ?_
  by_cases c1q : a0 = 10006
  · rw [if_pos c1q] at hB
    refine r_tsw (off := 39) (t := 40) f27_1 c1q (by decide) (by decide) (by decide) (by decide) ?_
    refine r_iload_n f27_40 rfl ?_
    by_cases c2q : a1 = 0
    · rw [if_pos c2q] at hB
      refine r_if_f 48 f27_41 (by decide) (fun q => q c2q) ?_
      refine r_iload_n f27_44 rfl ?_
      by_cases c3q : a2 = 0
      · rw [if_pos c3q] at hB
        refine r_if_t (t := 52) f27_45 (by decide) c3q ?_
        refine r_iconst f27_52 ci_0 ?_
        exact r_iret pm_m_27 .int f27_53 rfl rfl rfl (zI hB)
      · rw [if_neg c3q] at hB
        refine r_if_f 52 f27_45 (by decide) c3q ?_
        exact pm_weak (L' := [pm_J, pm_J, pm_J]) ⟨.inl rfl, .inl rfl, .inl rfl, trivial⟩ (P_L_joined_48 (d := d) h hB)
    · rw [if_neg c2q] at hB
      refine r_if_t (t := 48) f27_41 (by decide) c2q ?_
      exact pm_weak (L' := [pm_J, pm_J, pm_J]) ⟨.inl rfl, .inl rfl, .inl rfl, trivial⟩ (P_L_joined_48 (d := d) h hB)
  rw [if_neg c1q] at hB
  by_cases c4q : a0 = 10007
  · rw [if_pos c4q] at hB
    refine r_tsw (off := 53) (t := 54) f27_1 c4q (by decide) (by decide) (by decide) (by decide) ?_
    refine r_iload_n f27_54 rfl ?_
    by_cases c5q : a1 = 0
    · rw [if_pos c5q] at hB
      refine r_if_t (t := 66) f27_55 (by decide) c5q ?_
      refine r_iconst f27_66 ci_0 ?_
      exact r_iret pm_m_27 .int f27_67 rfl rfl rfl (zI hB)
    · rw [if_neg c5q] at hB
      refine r_if_f 66 f27_55 (by decide) c5q ?_
      refine r_iload_n f27_58 rfl ?_
      by_cases c6q : a2 = 0
      · rw [if_pos c6q] at hB
        refine r_if_t (t := 66) f27_59 (by decide) c6q ?_
        refine r_iconst f27_66 ci_0 ?_
        exact r_iret pm_m_27 .int f27_67 rfl rfl rfl (zI hB)
      · rw [if_neg c6q] at hB
        refine r_if_f 66 f27_59 (by decide) c6q ?_
        refine r_iconst f27_62 ci_1 ?_
        refine r_goto (t := 67) f27_63 (by decide) ?_
        exact r_iret pm_m_27 .int f27_67 rfl rfl rfl (zI hB)
  rw [if_neg c4q] at hB
  by_cases c7q : a0 = 10008
  · rw [if_pos c7q] at hB
    refine r_tsw (off := 67) (t := 68) f27_1 c7q (by decide) (by decide) (by decide) (by decide) ?_
    refine r_iload_n f27_68 rfl ?_
    refine r_iload_n f27_69 rfl ?_
    by_cases c8q : a2 ≤ a1
    · rw [if_pos c8q] at hB
      refine r_ic_t (t := 77) f27_70 (by decide) c8q ?_
      refine r_iconst f27_77 ci_0 ?_
      exact r_iret pm_m_27 .int f27_78 rfl rfl rfl (zI hB)
    · rw [if_neg c8q] at hB
      refine r_ic_f 77 f27_70 (by decide) c8q ?_
      refine r_iconst f27_73 ci_1 ?_
      refine r_goto (t := 78) f27_74 (by decide) ?_
      exact r_iret pm_m_27 .int f27_78 rfl rfl rfl (zI hB)
  rw [if_neg c7q] at hB
  by_cases c9q : a0 = 10009
  · rw [if_pos c9q] at hB
    refine r_tsw (off := 78) (t := 79) f27_1 c9q (by decide) (by decide) (by decide) (by decide) ?_
    refine r_iload_n f27_79 rfl ?_
    refine r_iload_n f27_80 rfl ?_
    by_cases c10q : a1 = a2
    · rw [if_pos c10q] at hB
      refine r_ic_f 88 f27_81 (by decide) (fun q => q c10q) ?_
      refine r_iconst f27_84 ci_1 ?_
      refine r_goto (t := 89) f27_85 (by decide) ?_
      exact r_iret pm_m_27 .int f27_89 rfl rfl rfl (zI hB)
    · rw [if_neg c10q] at hB
      refine r_ic_t (t := 88) f27_81 (by decide) c10q ?_
      refine r_iconst f27_88 ci_0 ?_
      exact r_iret pm_m_27 .int f27_89 rfl rfl rfl (zI hB)
  rw [if_neg c9q] at hB
  by_cases c11q : a0 = 10010
  · rw [if_pos c11q] at hB
    refine r_tsw (off := 89) (t := 90) f27_1 c11q (by decide) (by decide) (by decide) (by decide) ?_
    refine r_iload_n f27_90 rfl ?_
    refine r_iload_n f27_91 rfl ?_
    refine r_iadd f27_92 ?_
    exact r_iret pm_m_27 .int f27_93 rfl rfl rfl (zI hB)
  rw [if_neg c11q] at hB
  by_cases c12q : a0 = 10011
  · rw [if_pos c12q] at hB
    refine r_tsw (off := 93) (t := 94) f27_1 c12q (by decide) (by decide) (by decide) (by decide) ?_
    refine r_iload_n f27_94 rfl ?_
    refine r_iload_n f27_95 rfl ?_
    refine r_isub f27_96 ?_
    exact r_iret pm_m_27 .int f27_97 rfl rfl rfl (zI hB)
  rw [if_neg c12q] at hB
  refine r_tswD (t := 98) f27_1 (sw_out 6 (lt_s (lt_s (lt_s (lt_s (lt_s (lt_s (lt_0) (sw_ne c1q (by decide))) (sw_ne c4q (by decide))) (sw_ne c7q (by decide))) (sw_ne c9q (by decide))) (sw_ne c11q (by decide))) (sw_ne c12q (by decide))) (by decide)) (by decide) ?_
  refine r_iload_n f27_98 rfl ?_
  refine r_iload_n f27_99 rfl ?_
  refine r_imul f27_100 ?_
  exact r_iret pm_m_27 .int f27_101 rfl rfl rfl (zI hB)
theorem P_L_reckon_187 {d : Nat} {h' : pm_H} {r : Int32} (k_14 : pm_H → Nat → Option Nat → Int32 → Int32 → Option Nat → Int32 → Int32 → Option (pm_H × Int32)) (hk_14 : ∀ (h : pm_H) (l0 : Nat) (l2 : Option Nat) (l3 : Int32) (l4 : Int32) (l5 : Option Nat) (l6 : Int32) (l7 : Int32), k_14 h l0 l2 l3 l4 l5 l6 l7 = some (h', r) → pm_run (pm_ev (d + 1)) 25 14 [.ref l0, pm_J, va_rf l2, .int l3, .int l4, va_rf l5, .int l6, .int l7, pm_J] [] h (fun r1 h1 => r1 = some (.int r) ∧ h1 = h')) (h : pm_H) (l0 : Nat) (l2 : Option Nat) (l3 : Int32) (l4 : Int32) (l5 : Option Nat) (l6 : Int32) (l7 : Int32) (hB : L_reckon_187 k_14 h l0 l2 l3 l4 l5 l6 l7 = some (h', r)) : pm_run (pm_ev (d + 1)) 25 187 [.ref l0, pm_J, va_rf l2, .int l3, .int l4, va_rf l5, .int l6, .int l7, pm_J] [] h (fun r1 h1 => r1 = some (.int r) ∧ h1 = h') := by
  unfold L_reckon_187 at hB
  obtain ⟨y1q, hy1q⟩ : ∃ z, z = l7 + 1 := ⟨_, rfl⟩
  replace hB := nmd_at hy1q hB
  refine r_iinc (L' := [.ref l0, pm_J, va_rf l2, .int l3, .int l4, va_rf l5, .int l6, .int y1q, pm_J]) (x := y1q) f25_187 rfl (hy1q.trans (congrArg (l7 + ·) ci_1.symm)) rfl ?_
  refine r_goto (t := 14) f25_190 (by decide) ?_
  exact pm_weak (L' := [.ref l0, pm_J, va_rf l2, .int l3, .int l4, va_rf l5, .int l6, .int y1q, pm_J]) ⟨.inr rfl, .inl rfl, .inr rfl, .inr rfl, .inr rfl, .inr rfl, .inr rfl, .inr rfl, .inl rfl, trivial⟩ (hk_14 h l0 l2 l3 l4 l5 l6 y1q hB)
theorem P_L_reckon_78 {d : Nat} {h' : pm_H} {r : Int32} (k_14 : pm_H → Nat → Option Nat → Int32 → Int32 → Option Nat → Int32 → Int32 → Option (pm_H × Int32)) (hk_14 : ∀ (h : pm_H) (l0 : Nat) (l2 : Option Nat) (l3 : Int32) (l4 : Int32) (l5 : Option Nat) (l6 : Int32) (l7 : Int32), k_14 h l0 l2 l3 l4 l5 l6 l7 = some (h', r) → pm_run (pm_ev (d + 1)) 25 14 [.ref l0, pm_J, va_rf l2, .int l3, .int l4, va_rf l5, .int l6, .int l7, pm_J] [] h (fun r1 h1 => r1 = some (.int r) ∧ h1 = h')) (h : pm_H) (l0 : Nat) (l2 : Option Nat) (l3 : Int32) (l4 : Int32) (l5 : Option Nat) (l6 : Int32) (l7 : Int32) (s0 : Int32) (s1 : Int32) (s2 : Option Nat) (hB : L_reckon_78 k_14 h l0 l2 l3 l4 l5 l6 l7 s0 s1 s2 = some (h', r)) : pm_run (pm_ev (d + 1)) 25 78 [.ref l0, pm_J, va_rf l2, .int l3, .int l4, va_rf l5, .int l6, .int l7, pm_J] [.int s0, .int s1, va_rf s2] h (fun r1 h1 => r1 = some (.int r) ∧ h1 = h') := by
  unfold L_reckon_78 at hB
  replace hB := bnd_some hB
  obtain ⟨u1q, rfl, hB⟩ := hB
  replace hB := bnd_some hB
  obtain ⟨h2q, eh2q, hB⟩ := hB
  refine r_sI f25_78 eh2q ?_
  refine r_goto (t := 187) f25_79 (by decide) ?_
  exact pm_weak (L' := [.ref l0, pm_J, va_rf l2, .int l3, .int l4, va_rf l5, .int l6, .int l7, pm_J]) ⟨.inr rfl, .inl rfl, .inr rfl, .inr rfl, .inr rfl, .inr rfl, .inr rfl, .inr rfl, .inl rfl, trivial⟩ (P_L_reckon_187 (d := d) k_14 hk_14 h2q l0 l2 l3 l4 l5 l6 l7 hB)
theorem P_L_reckon_145 {d : Nat} {h' : pm_H} {r : Int32} (k_14 : pm_H → Nat → Option Nat → Int32 → Int32 → Option Nat → Int32 → Int32 → Option (pm_H × Int32)) (hk_14 : ∀ (h : pm_H) (l0 : Nat) (l2 : Option Nat) (l3 : Int32) (l4 : Int32) (l5 : Option Nat) (l6 : Int32) (l7 : Int32), k_14 h l0 l2 l3 l4 l5 l6 l7 = some (h', r) → pm_run (pm_ev (d + 1)) 25 14 [.ref l0, pm_J, va_rf l2, .int l3, .int l4, va_rf l5, .int l6, .int l7, pm_J] [] h (fun r1 h1 => r1 = some (.int r) ∧ h1 = h')) (h : pm_H) (l0 : Nat) (l2 : Option Nat) (l3 : Int32) (l4 : Int32) (l5 : Option Nat) (l6 : Int32) (l7 : Int32) (s0 : Int32) (s1 : Int32) (s2 : Option Nat) (hB : L_reckon_145 k_14 h l0 l2 l3 l4 l5 l6 l7 s0 s1 s2 = some (h', r)) : pm_run (pm_ev (d + 1)) 25 145 [.ref l0, pm_J, va_rf l2, .int l3, .int l4, va_rf l5, .int l6, .int l7, pm_J] [.int s0, .int s1, va_rf s2] h (fun r1 h1 => r1 = some (.int r) ∧ h1 = h') := by
  unfold L_reckon_145 at hB
  replace hB := bnd_some hB
  obtain ⟨u1q, rfl, hB⟩ := hB
  replace hB := bnd_some hB
  obtain ⟨h2q, eh2q, hB⟩ := hB
  refine r_sI f25_145 eh2q ?_
  refine r_goto (t := 187) f25_146 (by decide) ?_
  exact pm_weak (L' := [.ref l0, pm_J, va_rf l2, .int l3, .int l4, va_rf l5, .int l6, .int l7, pm_J]) ⟨.inr rfl, .inl rfl, .inr rfl, .inr rfl, .inr rfl, .inr rfl, .inr rfl, .inr rfl, .inl rfl, trivial⟩ (P_L_reckon_187 (d := d) k_14 hk_14 h2q l0 l2 l3 l4 l5 l6 l7 hB)
theorem P_L_reckon_98 {d : Nat} {h' : pm_H} {r : Int32} (k_14 : pm_H → Nat → Option Nat → Int32 → Int32 → Option Nat → Int32 → Int32 → Option (pm_H × Int32)) (hk_14 : ∀ (h : pm_H) (l0 : Nat) (l2 : Option Nat) (l3 : Int32) (l4 : Int32) (l5 : Option Nat) (l6 : Int32) (l7 : Int32), k_14 h l0 l2 l3 l4 l5 l6 l7 = some (h', r) → pm_run (pm_ev (d + 1)) 25 14 [.ref l0, pm_J, va_rf l2, .int l3, .int l4, va_rf l5, .int l6, .int l7, pm_J] [] h (fun r1 h1 => r1 = some (.int r) ∧ h1 = h')) (h : pm_H) (l0 : Nat) (l2 : Option Nat) (l3 : Int32) (l4 : Int32) (l5 : Option Nat) (l6 : Int32) (l7 : Int32) (l8 : Int32) (hB : L_reckon_98 k_14 h l0 l2 l3 l4 l5 l6 l7 l8 = some (h', r)) : pm_run (pm_ev (d + 1)) 25 98 [.ref l0, pm_J, va_rf l2, .int l3, .int l4, va_rf l5, .int l6, .int l7, .int l8] [] h (fun r1 h1 => r1 = some (.int r) ∧ h1 = h') := by
  unfold L_reckon_98 at hB
  refine r_iload f25_98 rfl ?_
  by_cases c1q : (0 : Int32) ≤ l4
  · rw [if_pos c1q] at hB
    refine r_if_t (t := 105) f25_100 (by decide) c1q ?_
    refine r_aload_nN f25_105 rfl ?_
    replace hB := bnd_some hB
    obtain ⟨x2q, ex2q, hB⟩ := hB
    refine r_getA f25_106 fa_1_17 ex2q ?_
    refine r_iload f25_109 rfl ?_
    refine r_iload f25_111 rfl ?_
    refine r_sipush f25_113 cs_10014 ?_
    by_cases c3q : l8 = 10014
    · rw [if_pos c3q] at hB
      refine r_ic_f 130 f25_116 (by decide) (fun q => q c3q) ?_
      refine r_aload_nN f25_119 rfl ?_
      replace hB := bnd_some hB
      obtain ⟨x8q, ex8q, hB⟩ := hB
      refine r_getA f25_120 fa_1_17 ex8q ?_
      refine r_iload f25_123 rfl ?_
      replace hB := bnd_some hB
      obtain ⟨u9q, rfl, hB⟩ := hB
      replace hB := bnd_some hB
      obtain ⟨x10q, ex10q, hB⟩ := hB
      refine r_aI f25_125 ex10q ?_
      refine r_ineg f25_126 ?_
      refine r_goto (t := 145) f25_127 (by decide) ?_
      exact pm_weak (L' := [.ref l0, pm_J, va_rf l2, .int l3, .int l4, va_rf l5, .int l6, .int l7, pm_J]) ⟨.inr rfl, .inl rfl, .inr rfl, .inr rfl, .inr rfl, .inr rfl, .inr rfl, .inr rfl, .inl rfl, trivial⟩ (P_L_reckon_145 (d := d) k_14 hk_14 h l0 l2 l3 l4 l5 l6 l7 (-x10q) l4 x2q hB)
    · rw [if_neg c3q] at hB
      refine r_ic_t (t := 130) f25_116 (by decide) c3q ?_
      refine r_aload_nN f25_130 rfl ?_
      replace hB := bnd_some hB
      obtain ⟨x4q, ex4q, hB⟩ := hB
      refine r_getA f25_131 fa_1_17 ex4q ?_
      refine r_iload f25_134 rfl ?_
      replace hB := bnd_some hB
      obtain ⟨u5q, rfl, hB⟩ := hB
      replace hB := bnd_some hB
      obtain ⟨x6q, ex6q, hB⟩ := hB
      refine r_aI f25_136 ex6q ?_
      by_cases c7q : x6q = 0
      · rw [if_pos c7q] at hB
        refine r_if_f 144 f25_137 (by decide) (fun q => q c7q) ?_
        refine r_iconst f25_140 ci_1 ?_
        refine r_goto (t := 145) f25_141 (by decide) ?_
        exact pm_weak (L' := [.ref l0, pm_J, va_rf l2, .int l3, .int l4, va_rf l5, .int l6, .int l7, pm_J]) ⟨.inr rfl, .inl rfl, .inr rfl, .inr rfl, .inr rfl, .inr rfl, .inr rfl, .inr rfl, .inl rfl, trivial⟩ (P_L_reckon_145 (d := d) k_14 hk_14 h l0 l2 l3 l4 l5 l6 l7 1 l4 x2q hB)
      · rw [if_neg c7q] at hB
        refine r_if_t (t := 144) f25_137 (by decide) c7q ?_
        refine r_iconst f25_144 ci_0 ?_
        exact pm_weak (L' := [.ref l0, pm_J, va_rf l2, .int l3, .int l4, va_rf l5, .int l6, .int l7, pm_J]) ⟨.inr rfl, .inl rfl, .inr rfl, .inr rfl, .inr rfl, .inr rfl, .inr rfl, .inr rfl, .inl rfl, trivial⟩ (P_L_reckon_145 (d := d) k_14 hk_14 h l0 l2 l3 l4 l5 l6 l7 0 l4 x2q hB)
  · rw [if_neg c1q] at hB
    refine r_if_f 105 f25_100 (by decide) c1q ?_
    refine r_iconst f25_103 ci_0 ?_
    exact r_iret pm_m_25 .int f25_104 rfl rfl rfl (zI hB)
theorem P_L_reckon_14 {d : Nat} {h' : pm_H} {r : Int32} (n : Nat) : ∀ (h : pm_H) (l0 : Nat) (l2 : Option Nat) (l3 : Int32) (l4 : Int32) (l5 : Option Nat) (l6 : Int32) (l7 : Int32), L_reckon_14 n h l0 l2 l3 l4 l5 l6 l7 = some (h', r) → pm_run (pm_ev (d + 1)) 25 14 [.ref l0, pm_J, va_rf l2, .int l3, .int l4, va_rf l5, .int l6, .int l7, pm_J] [] h (fun r1 h1 => r1 = some (.int r) ∧ h1 = h') := by
  induction n with
  | zero => intro h l0 l2 l3 l4 l5 l6 l7 hB; cases hB
  | succ n ih =>
    intro h l0 l2 l3 l4 l5 l6 l7 hB
    unfold L_reckon_14 at hB
    refine r_iload f25_14 rfl ?_
    refine r_iload f25_16 rfl ?_
    by_cases c1q : l6 ≤ l7
    · rw [if_pos c1q] at hB
      refine r_ic_t (t := 193) f25_18 (by decide) c1q ?_
      refine r_iload f25_193 rfl ?_
      by_cases c2q : (0 : Int32) ≤ l4
      · rw [if_pos c2q] at hB
        refine r_if_t (t := 202) f25_195 (by decide) c2q ?_
        refine r_aload_nN f25_202 rfl ?_
        replace hB := bnd_some hB
        obtain ⟨x3q, ex3q, hB⟩ := hB
        refine r_getA f25_203 fa_1_17 ex3q ?_
        refine r_iload f25_206 rfl ?_
        replace hB := bnd_some hB
        obtain ⟨u4q, rfl, hB⟩ := hB
        replace hB := bnd_some hB
        obtain ⟨x5q, ex5q, hB⟩ := hB
        refine r_aI f25_208 ex5q ?_
        exact r_iret pm_m_25 .int f25_209 rfl rfl rfl (zI hB)
      · rw [if_neg c2q] at hB
        refine r_if_f 202 f25_195 (by decide) c2q ?_
        refine r_iconst f25_198 ci_0 ?_
        refine r_goto (t := 209) f25_199 (by decide) ?_
        exact r_iret pm_m_25 .int f25_209 rfl rfl rfl (zI hB)
    · rw [if_neg c1q] at hB
      refine r_ic_f 193 f25_18 (by decide) c1q ?_
      refine r_aload f25_21 rfl ?_
      refine r_iload f25_23 rfl ?_
      replace hB := bnd_some hB
      obtain ⟨u6q, rfl, hB⟩ := hB
      replace hB := bnd_some hB
      obtain ⟨x7q, ex7q, hB⟩ := hB
      refine r_aI f25_25 ex7q ?_
      refine r_istore (L' := [.ref l0, pm_J, va_rf l2, .int l3, .int l4, .ref u6q, .int l6, .int l7, .int x7q]) (x := x7q) f25_26 rfl (Nat.le_of_ble_eq_true rfl) rfl ?_
      refine r_iload f25_28 rfl ?_
      refine r_sipush f25_30 cs_10005 ?_
      by_cases c8q : 10005 < x7q
      · rw [if_pos c8q] at hB
        refine r_ic_t (t := 82) f25_33 (by decide) c8q ?_
        refine r_iload f25_82 rfl ?_
        refine r_sipush f25_84 cs_10013 ?_
        by_cases c9q : x7q = 10013
        · rw [if_pos c9q] at hB
          refine r_ic_t (t := 98) f25_87 (by decide) c9q ?_
          exact pm_weak (L' := [.ref l0, pm_J, va_rf l2, .int l3, .int l4, va_rf (some u6q), .int l6, .int l7, .int x7q]) ⟨.inr rfl, .inl rfl, .inr rfl, .inr rfl, .inr rfl, .inr rfl, .inr rfl, .inr rfl, .inr rfl, trivial⟩ (P_L_reckon_98 (d := d) (L_reckon_14 n) ih h l0 l2 l3 l4 (some u6q) l6 l7 x7q hB)
        · rw [if_neg c9q] at hB
          refine r_ic_f 98 f25_87 (by decide) c9q ?_
          refine r_iload f25_90 rfl ?_
          refine r_sipush f25_92 cs_10014 ?_
          by_cases c10q : x7q = 10014
          · rw [if_pos c10q] at hB
            refine r_ic_f 149 f25_95 (by decide) (fun q => q c10q) ?_
            exact pm_weak (L' := [.ref l0, pm_J, va_rf l2, .int l3, .int l4, va_rf (some u6q), .int l6, .int l7, .int x7q]) ⟨.inr rfl, .inl rfl, .inr rfl, .inr rfl, .inr rfl, .inr rfl, .inr rfl, .inr rfl, .inr rfl, trivial⟩ (P_L_reckon_98 (d := d) (L_reckon_14 n) ih h l0 l2 l3 l4 (some u6q) l6 l7 x7q hB)
          · rw [if_neg c10q] at hB
            refine r_ic_t (t := 149) f25_95 (by decide) c10q ?_
            obtain ⟨y11q, hy11q⟩ : ∃ z, z = l4 + (-1) := ⟨_, rfl⟩
            replace hB := nmd_at hy11q hB
            refine r_iinc (L' := [.ref l0, pm_J, va_rf l2, .int l3, .int y11q, .ref u6q, .int l6, .int l7, .int x7q]) (x := y11q) f25_149 rfl (hy11q.trans (congrArg (l4 + ·) ci_m1.symm)) rfl ?_
            refine r_iload f25_152 rfl ?_
            by_cases c12q : (0 : Int32) ≤ y11q
            · rw [if_pos c12q] at hB
              refine r_if_t (t := 159) f25_154 (by decide) c12q ?_
              refine r_aload_nN f25_159 rfl ?_
              replace hB := bnd_some hB
              obtain ⟨x13q, ex13q, hB⟩ := hB
              refine r_getA f25_160 fa_1_17 ex13q ?_
              refine r_iload f25_163 rfl ?_
              refine r_iload f25_165 rfl ?_
              refine r_aload_nN f25_167 rfl ?_
              replace hB := bnd_some hB
              obtain ⟨x14q, ex14q, hB⟩ := hB
              refine r_getA f25_168 fa_1_17 ex14q ?_
              refine r_iload f25_171 rfl ?_
              replace hB := bnd_some hB
              obtain ⟨u15q, rfl, hB⟩ := hB
              replace hB := bnd_some hB
              obtain ⟨x16q, ex16q, hB⟩ := hB
              refine r_aI f25_173 ex16q ?_
              refine r_aload_nN f25_174 rfl ?_
              replace hB := bnd_some hB
              obtain ⟨x17q, ex17q, hB⟩ := hB
              refine r_getA f25_175 fa_1_17 ex17q ?_
              refine r_iload f25_178 rfl ?_
              refine r_iconst f25_180 ci_1 ?_
              refine r_iadd f25_181 ?_
              replace hB := bnd_some hB
              obtain ⟨u18q, rfl, hB⟩ := hB
              replace hB := bnd_some hB
              obtain ⟨x19q, ex19q, hB⟩ := hB
              refine r_aI f25_182 ex19q ?_
              replace hB := bn2_some hB
              obtain ⟨h20q, x21q, eh20q, hB⟩ := hB
              refine r_statV (as := [.int x7q, .int x16q, .int x19q]) (q := pm_m_27) f25_183 ca_1_135 rfl (by decide) rfl rfl (cs_len (Nat.le_of_ble_eq_true rfl)) (P_L_joined (d := d + 0) eh20q) ?_
              replace hB := bnd_some hB
              obtain ⟨u22q, rfl, hB⟩ := hB
              replace hB := bnd_some hB
              obtain ⟨h23q, eh23q, hB⟩ := hB
              refine r_sI f25_186 eh23q ?_
              exact pm_weak (L' := [.ref l0, pm_J, va_rf l2, .int l3, .int y11q, va_rf (some u6q), .int l6, .int l7, pm_J]) ⟨.inr rfl, .inl rfl, .inr rfl, .inr rfl, .inr rfl, .inr rfl, .inr rfl, .inr rfl, .inl rfl, trivial⟩ (P_L_reckon_187 (d := d) (L_reckon_14 n) ih h23q l0 l2 l3 y11q (some u6q) l6 l7 hB)
            · rw [if_neg c12q] at hB
              refine r_if_f 159 f25_154 (by decide) c12q ?_
              refine r_iconst f25_157 ci_0 ?_
              exact r_iret pm_m_25 .int f25_158 rfl rfl rfl (zI hB)
      · rw [if_neg c8q] at hB
        refine r_ic_f 82 f25_33 (by decide) c8q ?_
        obtain ⟨y24q, hy24q⟩ : ∃ z, z = l4 + 1 := ⟨_, rfl⟩
        replace hB := nmd_at hy24q hB
        refine r_iinc (L' := [.ref l0, pm_J, va_rf l2, .int l3, .int y24q, .ref u6q, .int l6, .int l7, .int x7q]) (x := y24q) f25_36 rfl (hy24q.trans (congrArg (l4 + ·) ci_1.symm)) rfl ?_
        refine r_iload f25_39 rfl ?_
        refine r_aload_nN f25_41 rfl ?_
        replace hB := bnd_some hB
        obtain ⟨x25q, ex25q, hB⟩ := hB
        refine r_getA f25_42 fa_1_17 ex25q ?_
        replace hB := bnd_some hB
        obtain ⟨u26q, rfl, hB⟩ := hB
        replace hB := bnd_some hB
        obtain ⟨x27q, ex27q, hB⟩ := hB
        refine r_ln f25_45 ex27q ?_
        by_cases c28q : y24q < x27q
        · rw [if_pos c28q] at hB
          refine r_ic_t (t := 51) f25_46 (by decide) c28q ?_
          refine r_aload_nN f25_51 rfl ?_
          replace hB := bnd_some hB
          obtain ⟨x29q, ex29q, hB⟩ := hB
          refine r_getA f25_52 fa_1_17 ex29q ?_
          refine r_iload f25_55 rfl ?_
          refine r_iload f25_57 rfl ?_
          refine r_sipush f25_59 cs_10000 ?_
          by_cases c30q : 10000 ≤ x7q
          · rw [if_pos c30q] at hB
            refine r_ic_t (t := 70) f25_62 (by decide) c30q ?_
            refine r_aload_nN f25_70 rfl ?_
            refine r_iload f25_71 rfl ?_
            refine r_aload_n f25_73 rfl ?_
            refine r_iload_n f25_74 rfl ?_
            replace hB := grd_some hB
            obtain ⟨g33q, hB⟩ := hB
            replace hB := bn2_some hB
            obtain ⟨h31q, x32q, eh31q, hB⟩ := hB
            refine r_virtV (as := [.int x7q, va_rf l2, .int l3]) (q := pm_m_26) f25_75 ca_1_131 rfl rfl rfl (cs_len (Nat.le_of_ble_eq_true rfl)) g33q (P_L_named (d := d + 0) eh31q) ?_
            exact pm_weak (L' := [.ref l0, pm_J, va_rf l2, .int l3, .int y24q, va_rf (some u6q), .int l6, .int l7, pm_J]) ⟨.inr rfl, .inl rfl, .inr rfl, .inr rfl, .inr rfl, .inr rfl, .inr rfl, .inr rfl, .inl rfl, trivial⟩ (P_L_reckon_78 (d := d) (L_reckon_14 n) ih h31q l0 l2 l3 y24q (some u6q) l6 l7 x32q y24q x29q hB)
          · rw [if_neg c30q] at hB
            refine r_ic_f 70 f25_62 (by decide) c30q ?_
            refine r_iload f25_65 rfl ?_
            refine r_goto (t := 78) f25_67 (by decide) ?_
            exact pm_weak (L' := [.ref l0, pm_J, va_rf l2, .int l3, .int y24q, va_rf (some u6q), .int l6, .int l7, pm_J]) ⟨.inr rfl, .inl rfl, .inr rfl, .inr rfl, .inr rfl, .inr rfl, .inr rfl, .inr rfl, .inl rfl, trivial⟩ (P_L_reckon_78 (d := d) (L_reckon_14 n) ih h l0 l2 l3 y24q (some u6q) l6 l7 x7q y24q x29q hB)
        · rw [if_neg c28q] at hB
          refine r_ic_f 51 f25_46 (by decide) c28q ?_
          refine r_iconst f25_49 ci_0 ?_
          exact r_iret pm_m_25 .int f25_50 rfl rfl rfl (zI hB)
theorem P_L_reckon {d : Nat} {h h' : pm_H} {r : Int32} {t : Nat} {a1 : Option Nat} {a2 : Option Nat} {a3 : Int32} (hB : L_reckon h t a1 a2 a3 = some (h', r)) : pm_ev (d + 2) 25 [.ref t, va_rf a1, va_rf a2, .int a3] h (some (.int r)) h' := by
  unfold L_reckon at hB
  refine pm_ev_mk (L := [.ref t, va_rf a1, va_rf a2, .int a3, pm_J, pm_J, pm_J, pm_J, pm_J]) pm_m_25 rfl (by simp only [pm_ar, rf_ar]; exact Nat.le_of_ble_eq_true rfl) (by simp only [pm_in, pm_ar, rf_ar]; rfl) ?_
  refine r_iconst f25_0 ci_m1 ?_
  refine r_istore (L' := [.ref t, va_rf a1, va_rf a2, .int a3, .int (-1), pm_J, pm_J, pm_J, pm_J]) (x := (-1)) f25_1 rfl (Nat.le_of_ble_eq_true rfl) rfl ?_
  refine r_aload_n f25_3 rfl ?_
  refine r_astore (L' := [.ref t, va_rf a1, va_rf a2, .int a3, .int (-1), va_rf a1, pm_J, pm_J, pm_J]) f25_4 (Nat.le_of_ble_eq_true rfl) rfl ?_
  refine r_aload f25_6 rfl ?_
  replace hB := bnd_some hB
  obtain ⟨u1q, rfl, hB⟩ := hB
  replace hB := bnd_some hB
  obtain ⟨x2q, ex2q, hB⟩ := hB
  refine r_ln f25_8 ex2q ?_
  refine r_istore (L' := [.ref t, .ref u1q, va_rf a2, .int a3, .int (-1), .ref u1q, .int x2q, pm_J, pm_J]) (x := x2q) f25_9 rfl (Nat.le_of_ble_eq_true rfl) rfl ?_
  refine r_iconst f25_11 ci_0 ?_
  refine r_istore (L' := [.ref t, .ref u1q, va_rf a2, .int a3, .int (-1), .ref u1q, .int x2q, .int 0, pm_J]) (x := 0) f25_12 rfl (Nat.le_of_ble_eq_true rfl) rfl ?_
  exact pm_weak (L' := [.ref t, pm_J, va_rf a2, .int a3, .int (-1), va_rf (some u1q), .int x2q, .int 0, pm_J]) ⟨.inr rfl, .inl rfl, .inr rfl, .inr rfl, .inr rfl, .inr rfl, .inr rfl, .inr rfl, .inl rfl, trivial⟩ (P_L_reckon_14 (d := d) 1000 h t a2 a3 (-1) (some u1q) x2q 0 hB)
theorem P_L_says_13 {d : Nat} {h' : pm_H} {r : Int32} (h : pm_H) (l0 : Nat) (l1 : Int32) (l2 : Option Nat) (s0 : Int32) (hB : L_says_13 h l0 l1 l2 s0 = some (h', r)) : pm_run (pm_ev (d + 2)) 24 13 [.ref l0, .int l1, va_rf l2, pm_J] [.int s0] h (fun r1 h1 => r1 = some (.int r) ∧ h1 = h') := by
  unfold L_says_13 at hB
  refine r_istore_n (L' := [.ref l0, .int l1, va_rf l2, .int s0]) (x := s0) f24_13 rfl (Nat.le_of_ble_eq_true rfl) (st1_A 2 (r := l2) rfl rfl rfl) ?_
  refine r_iload_n f24_14 rfl ?_
  by_cases c1q : l1 = 0
  · rw [if_pos c1q] at hB
    refine r_lsw (off := 25) (t := 40) f24_15 (by decide) (by rw [c1q]; decide) (by decide) ?_
    refine r_aload_nN f24_40 rfl ?_
    refine r_aload_nN f24_41 rfl ?_
    replace hB := bnd_some hB
    obtain ⟨x2q, ex2q, hB⟩ := hB
    refine r_getA f24_42 fa_1_21 ex2q ?_
    replace hB := bnd_some hB
    obtain ⟨u3q, rfl, hB⟩ := hB
    replace hB := bnd_some hB
    obtain ⟨x4q, ex4q, hB⟩ := hB
    refine r_getA f24_45 fa_1_112 ex4q ?_
    refine r_aload_n f24_48 rfl ?_
    refine r_iload_n f24_49 rfl ?_
    replace hB := grd_some hB
    obtain ⟨g7q, hB⟩ := hB
    replace hB := bn2_some hB
    obtain ⟨h5q, x6q, eh5q, hB⟩ := hB
    refine r_virtV (as := [va_rf x4q, va_rf l2, .int s0]) (q := pm_m_25) f24_50 ca_1_117 rfl rfl rfl (cs_len (Nat.le_of_ble_eq_true rfl)) g7q (P_L_reckon (d := d + 0) eh5q) ?_
    refine r_iconst f24_53 ci_0 ?_
    refine r_bipush f24_54 cb_9 ?_
    replace hB := bn2_some hB
    obtain ⟨h8q, x9q, eh8q, hB⟩ := hB
    refine r_statV (as := [.int x6q, .int 0, .int 9]) (q := pm_m_93) f24_56 ca_1_121 rfl (by decide) rfl rfl (cs_len (Nat.le_of_ble_eq_true rfl)) (P_X_bounded (d := d + 1) eh8q) ?_
    exact r_iret pm_m_24 .int f24_59 rfl rfl rfl (zI hB)
  rw [if_neg c1q] at hB
  by_cases c10q : l1 = 1
  · rw [if_pos c10q] at hB
    refine r_lsw (off := 45) (t := 60) f24_15 (by decide) (by rw [c10q]; decide) (by decide) ?_
    refine r_aload_nN f24_60 rfl ?_
    refine r_aload_nN f24_61 rfl ?_
    replace hB := bnd_some hB
    obtain ⟨x11q, ex11q, hB⟩ := hB
    refine r_getA f24_62 fa_1_21 ex11q ?_
    replace hB := bnd_some hB
    obtain ⟨u12q, rfl, hB⟩ := hB
    replace hB := bnd_some hB
    obtain ⟨x13q, ex13q, hB⟩ := hB
    refine r_getA f24_65 fa_1_125 ex13q ?_
    refine r_aload_n f24_68 rfl ?_
    refine r_iload_n f24_69 rfl ?_
    replace hB := grd_some hB
    obtain ⟨g16q, hB⟩ := hB
    replace hB := bn2_some hB
    obtain ⟨h14q, x15q, eh14q, hB⟩ := hB
    refine r_virtV (as := [va_rf x13q, va_rf l2, .int s0]) (q := pm_m_25) f24_70 ca_1_117 rfl rfl rfl (cs_len (Nat.le_of_ble_eq_true rfl)) g16q (P_L_reckon (d := d + 0) eh14q) ?_
    refine r_bipush f24_73 cb_m99 ?_
    refine r_bipush f24_75 cb_99 ?_
    replace hB := bn2_some hB
    obtain ⟨h17q, x18q, eh17q, hB⟩ := hB
    refine r_statV (as := [.int x15q, .int (-99), .int 99]) (q := pm_m_93) f24_77 ca_1_121 rfl (by decide) rfl rfl (cs_len (Nat.le_of_ble_eq_true rfl)) (P_X_bounded (d := d + 1) eh17q) ?_
    exact r_iret pm_m_24 .int f24_80 rfl rfl rfl (zI hB)
  rw [if_neg c10q] at hB
  refine r_lsw (off := 66) (t := 81) f24_15 (by decide) (by simp [Op.lookupswitch.offset, (show ¬ ((0 : Int) = Int32.toInt l1) from fun q => sw_ne c1q (by decide) q.symm), (show ¬ ((1 : Int) = Int32.toInt l1) from fun q => sw_ne c10q (by decide) q.symm)]) (by decide) ?_
  refine r_aload_nN f24_81 rfl ?_
  refine r_aload_nN f24_82 rfl ?_
  replace hB := bnd_some hB
  obtain ⟨x19q, ex19q, hB⟩ := hB
  refine r_getA f24_83 fa_1_21 ex19q ?_
  replace hB := bnd_some hB
  obtain ⟨u20q, rfl, hB⟩ := hB
  replace hB := bnd_some hB
  obtain ⟨x21q, ex21q, hB⟩ := hB
  refine r_getA f24_86 fa_1_128 ex21q ?_
  refine r_aload_n f24_89 rfl ?_
  refine r_iload_n f24_90 rfl ?_
  replace hB := grd_some hB
  obtain ⟨g24q, hB⟩ := hB
  replace hB := bn2_some hB
  obtain ⟨h22q, x23q, eh22q, hB⟩ := hB
  refine r_virtV (as := [va_rf x21q, va_rf l2, .int s0]) (q := pm_m_25) f24_91 ca_1_117 rfl rfl rfl (cs_len (Nat.le_of_ble_eq_true rfl)) g24q (P_L_reckon (d := d + 0) eh22q) ?_
  refine r_iconst f24_94 ci_0 ?_
  refine r_bipush f24_95 cb_99 ?_
  replace hB := bn2_some hB
  obtain ⟨h25q, x26q, eh25q, hB⟩ := hB
  refine r_statV (as := [.int x23q, .int 0, .int 99]) (q := pm_m_93) f24_97 ca_1_121 rfl (by decide) rfl rfl (cs_len (Nat.le_of_ble_eq_true rfl)) (P_X_bounded (d := d + 1) eh25q) ?_
  exact r_iret pm_m_24 .int f24_100 rfl rfl rfl (zI hB)
theorem P_L_says {d : Nat} {h h' : pm_H} {r : Int32} {t : Nat} {a1 : Int32} {a2 : Option Nat} (hB : L_says h t a1 a2 = some (h', r)) : pm_ev (d + 3) 24 [.ref t, .int a1, va_rf a2] h (some (.int r)) h' := by
  unfold L_says at hB
  refine pm_ev_mk (L := [.ref t, .int a1, va_rf a2, pm_J]) pm_m_24 rfl (by simp only [pm_ar, rf_ar]; exact Nat.le_of_ble_eq_true rfl) (by simp only [pm_in, pm_ar, rf_ar]; rfl) ?_
  refine r_aload_nN f24_0 rfl ?_
  refine r_aload_n f24_1 rfl ?_
  replace hB := grd_some hB
  obtain ⟨g3q, hB⟩ := hB
  replace hB := bn2_some hB
  obtain ⟨h1q, x2q, eh1q, hB⟩ := hB
  refine r_virtV (as := [va_rf a2]) (q := pm_m_16) f24_2 ca_1_108 rfl rfl rfl (cs_len (Nat.le_of_ble_eq_true rfl)) g3q (P_L_onClover (d := d + 0) eh1q) ?_
  by_cases c4q : x2q = 0
  · rw [if_pos c4q] at hB
    refine r_if_t (t := 12) f24_5 (by decide) c4q ?_
    refine r_iconst f24_12 ci_0 ?_
    exact pm_weak (L' := [.ref t, .int a1, va_rf a2, pm_J]) ⟨.inr rfl, .inr rfl, .inr rfl, .inl rfl, trivial⟩ (P_L_says_13 (d := d) h1q t a1 a2 0 hB)
  · rw [if_neg c4q] at hB
    refine r_if_f 12 f24_5 (by decide) c4q ?_
    refine r_iconst f24_8 ci_1 ?_
    refine r_goto (t := 13) f24_9 (by decide) ?_
    exact pm_weak (L' := [.ref t, .int a1, va_rf a2, pm_J]) ⟨.inr rfl, .inr rfl, .inr rfl, .inl rfl, trivial⟩ (P_L_says_13 (d := d) h1q t a1 a2 1 hB)
theorem P_L_stride {d : Nat} {h h' : pm_H} {r : Int32} {t : Nat} {a1 : Option Nat} (hB : L_stride h t a1 = some (h', r)) : pm_ev (d + 4) 20 [.ref t, va_rf a1] h (some (.int r)) h' := by
  unfold L_stride at hB
  refine pm_ev_mk (L := [.ref t, va_rf a1, pm_J]) pm_m_20 rfl (by simp only [pm_ar, rf_ar]; exact Nat.le_of_ble_eq_true rfl) (by simp only [pm_in, pm_ar, rf_ar]; rfl) ?_
  refine r_aload_nN f20_0 rfl ?_
  refine r_iconst f20_1 ci_0 ?_
  refine r_aload_n f20_2 rfl ?_
  replace hB := grd_some hB
  obtain ⟨g3q, hB⟩ := hB
  replace hB := bn2_some hB
  obtain ⟨h1q, x2q, eh1q, hB⟩ := hB
  refine r_virtV (as := [.int 0, va_rf a1]) (q := pm_m_24) f20_3 ca_1_88 rfl rfl rfl (cs_len (Nat.le_of_ble_eq_true rfl)) g3q (P_L_says (d := d + 0) eh1q) ?_
  refine r_istore_n (L' := [.ref t, va_rf a1, .int x2q]) (x := x2q) f20_6 rfl (Nat.le_of_ble_eq_true rfl) (st1_A 1 (r := a1) rfl rfl rfl) ?_
  refine r_aload_n f20_7 rfl ?_
  replace hB := bnd_some hB
  obtain ⟨u4q, rfl, hB⟩ := hB
  replace hB := bnd_some hB
  obtain ⟨x5q, ex5q, hB⟩ := hB
  refine r_getI f20_8 fa_1_92 ex5q ?_
  by_cases c6q : x5q = 1
  · rw [if_pos c6q] at hB
    refine r_tsw (off := 33) (t := 44) f20_11 c6q (by decide) (by decide) (by decide) (by decide) ?_
    refine r_iload_n f20_44 rfl ?_
    refine r_aload_nN f20_45 rfl ?_
    replace hB := bnd_some hB
    obtain ⟨x7q, ex7q, hB⟩ := hB
    refine r_getI f20_46 fa_1_95 ex7q ?_
    refine r_min (e := 552) f20_49 rfl (cs_len (Nat.le_of_ble_eq_true rfl)) ?_
    exact r_iret pm_m_20 .int f20_52 rfl rfl rfl (zI hB)
  rw [if_neg c6q] at hB
  by_cases c8q : x5q = 2
  · rw [if_pos c8q] at hB
    refine r_tsw (off := 42) (t := 53) f20_11 c8q (by decide) (by decide) (by decide) (by decide) ?_
    refine r_aload_nN f20_53 rfl ?_
    refine r_iload_n f20_54 rfl ?_
    replace hB := bn2_some hB
    obtain ⟨h9q, x10q, eh9q, hB⟩ := hB
    refine r_statV (as := [.ref u4q, .int x2q]) (q := pm_m_21) f20_55 ca_1_104 rfl (by decide) rfl rfl (cs_len (Nat.le_of_ble_eq_true rfl)) (P_L_blondStride (d := d + 2) eh9q) ?_
    exact r_iret pm_m_20 .int f20_58 rfl rfl rfl (zI hB)
  rw [if_neg c8q] at hB
  by_cases c11q : x5q = 3
  · rw [if_pos c11q] at hB
    refine r_tsw (off := 48) (t := 59) f20_11 c11q (by decide) (by decide) (by decide) (by decide) ?_
    refine r_aload_nN f20_59 rfl ?_
    replace hB := bnd_some hB
    obtain ⟨x12q, ex12q, hB⟩ := hB
    refine r_getI f20_60 fa_1_43 ex12q ?_
    refine r_iconst f20_63 ci_1 ?_
    refine r_iand f20_64 ?_
    by_cases c13q : (x12q &&& 1) = 0
    · rw [if_pos c13q] at hB
      refine r_if_f 79 f20_65 (by decide) (fun q => q c13q) ?_
      refine r_iload_n f20_68 rfl ?_
      refine r_aload_nN f20_69 rfl ?_
      replace hB := bnd_some hB
      obtain ⟨x14q, ex14q, hB⟩ := hB
      refine r_getI f20_70 fa_1_95 ex14q ?_
      refine r_min (e := 552) f20_73 rfl (cs_len (Nat.le_of_ble_eq_true rfl)) ?_
      refine r_goto (t := 80) f20_76 (by decide) ?_
      exact r_iret pm_m_20 .int f20_80 rfl rfl rfl (zI hB)
    · rw [if_neg c13q] at hB
      refine r_if_t (t := 79) f20_65 (by decide) c13q ?_
      refine r_iconst f20_79 ci_0 ?_
      exact r_iret pm_m_20 .int f20_80 rfl rfl rfl (zI hB)
  rw [if_neg c11q] at hB
  by_cases c15q : x5q = 4
  · rw [if_pos c15q] at hB
    refine r_tsw (off := 70) (t := 81) f20_11 c15q (by decide) (by decide) (by decide) (by decide) ?_
    refine r_iconst f20_81 ci_2 ?_
    refine r_aload_nN f20_82 rfl ?_
    refine r_iload_n f20_83 rfl ?_
    replace hB := bn2_some hB
    obtain ⟨h16q, x17q, eh16q, hB⟩ := hB
    refine r_statV (as := [.ref u4q, .int x2q]) (q := pm_m_21) f20_84 ca_1_104 rfl (by decide) rfl rfl (cs_len (Nat.le_of_ble_eq_true rfl)) (P_L_blondStride (d := d + 2) eh16q) ?_
    refine r_imul f20_87 ?_
    exact r_iret pm_m_20 .int f20_88 rfl rfl rfl (zI hB)
  rw [if_neg c15q] at hB
  by_cases c18q : x5q = 5
  · rw [if_pos c18q] at hB
    refine r_tsw (off := 78) (t := 89) f20_11 c18q (by decide) (by decide) (by decide) (by decide) ?_
    refine r_iconst f20_89 ci_0 ?_
    exact r_iret pm_m_20 .int f20_90 rfl rfl rfl (zI hB)
  rw [if_neg c18q] at hB
  refine r_tswD (t := 91) f20_11 (sw_out 5 (lt_s (lt_s (lt_s (lt_s (lt_s (lt_0) (sw_ne c6q (by decide))) (sw_ne c8q (by decide))) (sw_ne c11q (by decide))) (sw_ne c15q (by decide))) (sw_ne c18q (by decide))) (by decide)) (by decide) ?_
  refine r_iload_n f20_91 rfl ?_
  exact r_iret pm_m_20 .int f20_92 rfl rfl rfl (zI hB)
theorem P_L_growth_44 {d : Nat} {h' : pm_H} {r : Int32} (h : pm_H) (l0 : Nat) (l1 : Option Nat) (l2 : Int32) (hB : L_growth_44 h l0 l1 l2 = some (h', r)) : pm_run (pm_ev (d + 3)) 22 44 [.ref l0, va_rf l1, .int l2] [] h (fun r1 h1 => r1 = some (.int r) ∧ h1 = h') := by
  unfold L_growth_44 at hB
  refine r_aload_nN f22_44 rfl ?_
  refine r_aload_n f22_45 rfl ?_
  replace hB := grd_some hB
  obtain ⟨g3q, hB⟩ := hB
  replace hB := bn2_some hB
  obtain ⟨h1q, x2q, eh1q, hB⟩ := hB
  refine r_virtV (as := [va_rf l1]) (q := pm_m_16) f22_46 ca_1_108 rfl rfl rfl (cs_len (Nat.le_of_ble_eq_true rfl)) g3q (P_L_onClover (d := d + 1) eh1q) ?_
  by_cases c4q : x2q = 0
  · rw [if_pos c4q] at hB
    refine r_if_t (t := 58) f22_49 (by decide) c4q ?_
    refine r_iload_n f22_58 rfl ?_
    exact r_iret pm_m_22 .int f22_59 rfl rfl rfl (zI hB)
  · rw [if_neg c4q] at hB
    refine r_if_f 58 f22_49 (by decide) c4q ?_
    refine r_iload_n f22_52 rfl ?_
    refine r_iconst f22_53 ci_2 ?_
    refine r_idiv f22_54 nz_i_2 ?_
    refine r_goto (t := 59) f22_55 (by decide) ?_
    exact r_iret pm_m_22 .int f22_59 rfl rfl rfl (zI hB)
theorem P_L_growth {d : Nat} {h h' : pm_H} {r : Int32} {t : Nat} {a1 : Option Nat} (hB : L_growth h t a1 = some (h', r)) : pm_ev (d + 4) 22 [.ref t, va_rf a1] h (some (.int r)) h' := by
  unfold L_growth at hB
  refine pm_ev_mk (L := [.ref t, va_rf a1, pm_J]) pm_m_22 rfl (by simp only [pm_ar, rf_ar]; exact Nat.le_of_ble_eq_true rfl) (by simp only [pm_in, pm_ar, rf_ar]; rfl) ?_
  refine r_aload_nN f22_0 rfl ?_
  refine r_iconst f22_1 ci_1 ?_
  refine r_aload_n f22_2 rfl ?_
  replace hB := grd_some hB
  obtain ⟨g3q, hB⟩ := hB
  replace hB := bn2_some hB
  obtain ⟨h1q, x2q, eh1q, hB⟩ := hB
  refine r_virtV (as := [.int 1, va_rf a1]) (q := pm_m_24) f22_3 ca_1_88 rfl rfl rfl (cs_len (Nat.le_of_ble_eq_true rfl)) g3q (P_L_says (d := d + 0) eh1q) ?_
  refine r_istore_n (L' := [.ref t, va_rf a1, .int x2q]) (x := x2q) f22_6 rfl (Nat.le_of_ble_eq_true rfl) (st1_A 1 (r := a1) rfl rfl rfl) ?_
  refine r_aload_n f22_7 rfl ?_
  replace hB := bnd_some hB
  obtain ⟨u4q, rfl, hB⟩ := hB
  replace hB := bnd_some hB
  obtain ⟨x5q, ex5q, hB⟩ := hB
  refine r_getI f22_8 fa_1_92 ex5q ?_
  by_cases c6q : x5q = 1
  · rw [if_pos c6q] at hB
    refine r_tsw (off := 33) (t := 44) f22_11 c6q (by decide) (by decide) (by decide) (by decide) ?_
    exact pm_weak (L' := [.ref t, va_rf (some u4q), .int x2q]) ⟨.inr rfl, .inr rfl, .inr rfl, trivial⟩ (P_L_growth_44 (d := d) h1q t (some u4q) x2q hB)
  rw [if_neg c6q] at hB
  by_cases c7q : x5q = 2
  · rw [if_pos c7q] at hB
    refine r_tsw (off := 74) (t := 85) f22_11 c7q (by decide) (by decide) (by decide) (by decide) ?_
    refine r_iload_n f22_85 rfl ?_
    exact r_iret pm_m_22 .int f22_86 rfl rfl rfl (zI hB)
  rw [if_neg c7q] at hB
  by_cases c8q : x5q = 3
  · rw [if_pos c8q] at hB
    refine r_tsw (off := 33) (t := 44) f22_11 c8q (by decide) (by decide) (by decide) (by decide) ?_
    exact pm_weak (L' := [.ref t, va_rf (some u4q), .int x2q]) ⟨.inr rfl, .inr rfl, .inr rfl, trivial⟩ (P_L_growth_44 (d := d) h1q t (some u4q) x2q hB)
  rw [if_neg c8q] at hB
  by_cases c9q : x5q = 4
  · rw [if_pos c9q] at hB
    refine r_tsw (off := 49) (t := 60) f22_11 c9q (by decide) (by decide) (by decide) (by decide) ?_
    refine r_iload_n f22_60 rfl ?_
    refine r_aload_nN f22_61 rfl ?_
    replace hB := bnd_some hB
    obtain ⟨x10q, ex10q, hB⟩ := hB
    refine r_getI f22_62 fa_1_95 ex10q ?_
    refine r_isub f22_65 ?_
    exact r_iret pm_m_22 .int f22_66 rfl rfl rfl (zI hB)
  rw [if_neg c9q] at hB
  by_cases c11q : x5q = 5
  · rw [if_pos c11q] at hB
    refine r_tsw (off := 56) (t := 67) f22_11 c11q (by decide) (by decide) (by decide) (by decide) ?_
    refine r_aload_nN f22_67 rfl ?_
    refine r_aload_nN f22_68 rfl ?_
    replace hB := grd_some hB
    obtain ⟨g14q, hB⟩ := hB
    replace hB := bn2_some hB
    obtain ⟨h12q, x13q, eh12q, hB⟩ := hB
    refine r_virtV (as := [.ref u4q]) (q := pm_m_16) f22_69 ca_1_108 rfl rfl rfl (cs_len (Nat.le_of_ble_eq_true rfl)) g14q (P_L_onClover (d := d + 1) eh12q) ?_
    by_cases c15q : x13q = 0
    · rw [if_pos c15q] at hB
      refine r_if_t (t := 83) f22_72 (by decide) c15q ?_
      refine r_iconst f22_83 ci_0 ?_
      exact r_iret pm_m_22 .int f22_84 rfl rfl rfl (zI hB)
    · rw [if_neg c15q] at hB
      refine r_if_f 83 f22_72 (by decide) c15q ?_
      refine r_aload_nN f22_75 rfl ?_
      replace hB := bnd_some hB
      obtain ⟨x16q, ex16q, hB⟩ := hB
      refine r_getI f22_76 fa_1_95 ex16q ?_
      refine r_ineg f22_79 ?_
      refine r_goto (t := 84) f22_80 (by decide) ?_
      exact r_iret pm_m_22 .int f22_84 rfl rfl rfl (zI hB)
  rw [if_neg c11q] at hB
  refine r_tswD (t := 85) f22_11 (sw_out 5 (lt_s (lt_s (lt_s (lt_s (lt_s (lt_0) (sw_ne c6q (by decide))) (sw_ne c7q (by decide))) (sw_ne c8q (by decide))) (sw_ne c9q (by decide))) (sw_ne c11q (by decide))) (by decide)) (by decide) ?_
  refine r_iload_n f22_85 rfl ?_
  exact r_iret pm_m_22 .int f22_86 rfl rfl rfl (zI hB)
theorem P_L_need_32 {d : Nat} {h' : pm_H} {r : Int32} (h : pm_H) (l0 : Nat) (l1 : Option Nat) (hB : L_need_32 h l0 l1 = some (h', r)) : pm_run (pm_ev (d + 3)) 23 32 [.ref l0, va_rf l1] [] h (fun r1 h1 => r1 = some (.int r) ∧ h1 = h') := by
  unfold L_need_32 at hB
  refine r_aload_nN f23_32 rfl ?_
  refine r_iconst f23_33 ci_2 ?_
  refine r_aload_n f23_34 rfl ?_
  replace hB := grd_some hB
  obtain ⟨g3q, hB⟩ := hB
  replace hB := bn2_some hB
  obtain ⟨h1q, x2q, eh1q, hB⟩ := hB
  refine r_virtV (as := [.int 2, va_rf l1]) (q := pm_m_24) f23_35 ca_1_88 rfl rfl rfl (cs_len (Nat.le_of_ble_eq_true rfl)) g3q (P_L_says (d := d + 0) eh1q) ?_
  refine r_aload_n f23_38 rfl ?_
  replace hB := bnd_some hB
  obtain ⟨u4q, rfl, hB⟩ := hB
  replace hB := bnd_some hB
  obtain ⟨x5q, ex5q, hB⟩ := hB
  refine r_getI f23_39 fa_1_95 ex5q ?_
  refine r_iadd f23_42 ?_
  exact r_iret pm_m_23 .int f23_43 rfl rfl rfl (zI hB)
theorem P_L_need {d : Nat} {h h' : pm_H} {r : Int32} {t : Nat} {a1 : Option Nat} (hB : L_need h t a1 = some (h', r)) : pm_ev (d + 4) 23 [.ref t, va_rf a1] h (some (.int r)) h' := by
  unfold L_need at hB
  refine pm_ev_mk (L := [.ref t, va_rf a1]) pm_m_23 rfl (by simp only [pm_ar, rf_ar]; exact Nat.le_of_ble_eq_true rfl) (by simp only [pm_in, pm_ar, rf_ar]; rfl) ?_
  refine r_aload_n f23_0 rfl ?_
  replace hB := bnd_some hB
  obtain ⟨u1q, rfl, hB⟩ := hB
  replace hB := bnd_some hB
  obtain ⟨x2q, ex2q, hB⟩ := hB
  refine r_getI f23_1 fa_1_92 ex2q ?_
  by_cases c3q : x2q = 2
  · rw [if_pos c3q] at hB
    refine r_tsw (off := 28) (t := 32) f23_4 c3q (by decide) (by decide) (by decide) (by decide) ?_
    exact pm_weak (L' := [.ref t, va_rf (some u1q)]) ⟨.inr rfl, .inr rfl, trivial⟩ (P_L_need_32 (d := d) h t (some u1q) hB)
  rw [if_neg c3q] at hB
  by_cases c4q : x2q = 3
  · rw [if_pos c4q] at hB
    refine r_tsw (off := 40) (t := 44) f23_4 c4q (by decide) (by decide) (by decide) (by decide) ?_
    refine r_iconst f23_44 ci_0 ?_
    exact r_iret pm_m_23 .int f23_45 rfl rfl rfl (zI hB)
  rw [if_neg c4q] at hB
  by_cases c5q : x2q = 4
  · rw [if_pos c5q] at hB
    refine r_tsw (off := 28) (t := 32) f23_4 c5q (by decide) (by decide) (by decide) (by decide) ?_
    exact pm_weak (L' := [.ref t, va_rf (some u1q)]) ⟨.inr rfl, .inr rfl, trivial⟩ (P_L_need_32 (d := d) h t (some u1q) hB)
  rw [if_neg c5q] at hB
  refine r_tswD (t := 46) f23_4 (sw_out 3 (lt_s (lt_s (lt_s (lt_0) (sw_ne c3q (by decide))) (sw_ne c4q (by decide))) (sw_ne c5q (by decide))) (by decide)) (by decide) ?_
  refine r_aload_nN f23_46 rfl ?_
  refine r_iconst f23_47 ci_2 ?_
  refine r_aload_nN f23_48 rfl ?_
  replace hB := grd_some hB
  obtain ⟨g8q, hB⟩ := hB
  replace hB := bn2_some hB
  obtain ⟨h6q, x7q, eh6q, hB⟩ := hB
  refine r_virtV (as := [.int 2, .ref u1q]) (q := pm_m_24) f23_49 ca_1_88 rfl rfl rfl (cs_len (Nat.le_of_ble_eq_true rfl)) g8q (P_L_says (d := d + 0) eh6q) ?_
  exact r_iret pm_m_23 .int f23_52 rfl rfl rfl (zI hB)
theorem P_L_pass_80 {d : Nat} {h' : pm_H} {r : Unit} (k_10 : pm_H → Nat → Option Nat → Int32 → Int32 → Option (pm_H × Unit)) (hk_10 : ∀ (h : pm_H) (l0 : Nat) (l1 : Option Nat) (l2 : Int32) (l3 : Int32), k_10 h l0 l1 l2 l3 = some (h', r) → pm_run (pm_ev (d + 4)) 18 10 [.ref l0, va_rf l1, .int l2, .int l3, pm_J] [] h (fun r1 h1 => r1 = none ∧ h1 = h')) (h : pm_H) (l0 : Nat) (l1 : Option Nat) (l2 : Int32) (l3 : Int32) (hB : L_pass_80 k_10 h l0 l1 l2 l3 = some (h', r)) : pm_run (pm_ev (d + 4)) 18 80 [.ref l0, va_rf l1, .int l2, .int l3, pm_J] [] h (fun r1 h1 => r1 = none ∧ h1 = h') := by
  unfold L_pass_80 at hB
  obtain ⟨y1q, hy1q⟩ : ∃ z, z = l3 + 1 := ⟨_, rfl⟩
  replace hB := nmd_at hy1q hB
  refine r_iinc (L' := [.ref l0, va_rf l1, .int l2, .int y1q, pm_J]) (x := y1q) f18_80 rfl (hy1q.trans (congrArg (l3 + ·) ci_1.symm)) rfl ?_
  refine r_goto (t := 10) f18_83 (by decide) ?_
  exact pm_weak (L' := [.ref l0, va_rf l1, .int l2, .int y1q, pm_J]) ⟨.inr rfl, .inr rfl, .inr rfl, .inr rfl, .inl rfl, trivial⟩ (hk_10 h l0 l1 l2 y1q hB)
theorem P_L_pass_77 {d : Nat} {h' : pm_H} {r : Unit} (k_10 : pm_H → Nat → Option Nat → Int32 → Int32 → Option (pm_H × Unit)) (hk_10 : ∀ (h : pm_H) (l0 : Nat) (l1 : Option Nat) (l2 : Int32) (l3 : Int32), k_10 h l0 l1 l2 l3 = some (h', r) → pm_run (pm_ev (d + 4)) 18 10 [.ref l0, va_rf l1, .int l2, .int l3, pm_J] [] h (fun r1 h1 => r1 = none ∧ h1 = h')) (h : pm_H) (l0 : Nat) (l1 : Option Nat) (l2 : Int32) (l3 : Int32) (s0 : Int32) (s1 : Option Nat) (hB : L_pass_77 k_10 h l0 l1 l2 l3 s0 s1 = some (h', r)) : pm_run (pm_ev (d + 4)) 18 77 [.ref l0, va_rf l1, .int l2, .int l3, pm_J] [.int s0, va_rf s1] h (fun r1 h1 => r1 = none ∧ h1 = h') := by
  unfold L_pass_77 at hB
  replace hB := bnd_some hB
  obtain ⟨u1q, rfl, hB⟩ := hB
  replace hB := grd_some hB
  obtain ⟨q2q, hB⟩ := hB
  replace hB := bnd_some hB
  obtain ⟨h3q, eh3q, hB⟩ := hB
  refine r_put f18_77 fa_1_46 ty_0_6 (bool_n (of_decide_eq_true q2q)) (bool_f (of_decide_eq_true q2q)) (no_fin (nf_0_6)) eh3q ?_
  exact pm_weak (L' := [.ref l0, va_rf l1, .int l2, .int l3, pm_J]) ⟨.inr rfl, .inr rfl, .inr rfl, .inr rfl, .inl rfl, trivial⟩ (P_L_pass_80 (d := d) k_10 hk_10 h3q l0 l1 l2 l3 hB)
theorem P_L_pass_10 {d : Nat} {h' : pm_H} {r : Unit} (n : Nat) : ∀ (h : pm_H) (l0 : Nat) (l1 : Option Nat) (l2 : Int32) (l3 : Int32), L_pass_10 n h l0 l1 l2 l3 = some (h', r) → pm_run (pm_ev (d + 4)) 18 10 [.ref l0, va_rf l1, .int l2, .int l3, pm_J] [] h (fun r1 h1 => r1 = none ∧ h1 = h') := by
  induction n with
  | zero => intro h l0 l1 l2 l3 hB; cases hB
  | succ n ih =>
    intro h l0 l1 l2 l3 hB
    unfold L_pass_10 at hB
    refine r_iload_n f18_10 rfl ?_
    refine r_iload_n f18_11 rfl ?_
    by_cases c1q : l2 ≤ l3
    · rw [if_pos c1q] at hB
      refine r_ic_t (t := 86) f18_12 (by decide) c1q ?_
      refine r_aload_nN f18_86 rfl ?_
      refine r_dupN f18_87 ?_
      replace hB := bnd_some hB
      obtain ⟨x2q, ex2q, hB⟩ := hB
      refine r_getI f18_88 fa_1_43 ex2q ?_
      refine r_iconst f18_91 ci_1 ?_
      refine r_iadd f18_92 ?_
      replace hB := bnd_some hB
      obtain ⟨h3q, eh3q, hB⟩ := hB
      refine r_put f18_93 fa_1_43 ty_1_4 rfl rfl (no_fin (nf_1_4)) eh3q ?_
      exact r_vret pm_m_18 f18_96 rfl rfl (zV hB)
    · rw [if_neg c1q] at hB
      refine r_ic_f 86 f18_12 (by decide) c1q ?_
      refine r_aload_n f18_15 rfl ?_
      refine r_iload_n f18_16 rfl ?_
      replace hB := bnd_some hB
      obtain ⟨u4q, rfl, hB⟩ := hB
      replace hB := bnd_some hB
      obtain ⟨x5q, ex5q, hB⟩ := hB
      refine r_aA 0 f18_17 et_0 ex5q ?_
      refine r_astore (L' := [.ref l0, .ref u4q, .int l2, .int l3, va_rf x5q]) f18_18 (Nat.le_of_ble_eq_true rfl) rfl ?_
      refine r_aload f18_20 rfl ?_
      replace hB := bnd_some hB
      obtain ⟨u6q, rfl, hB⟩ := hB
      replace hB := bnd_some hB
      obtain ⟨x7q, ex7q, hB⟩ := hB
      refine r_getI f18_22 fa_1_46 ex7q ?_
      by_cases c8q : x7q = 0
      · rw [if_pos c8q] at hB
        refine r_if_f 80 f18_25 (by decide) (fun q => q c8q) ?_
        refine r_aloadN f18_28 rfl ?_
        refine r_aload_nN f18_30 rfl ?_
        refine r_aloadN f18_31 rfl ?_
        replace hB := grd_some hB
        obtain ⟨g11q, hB⟩ := hB
        replace hB := bn2_some hB
        obtain ⟨h9q, x10q, eh9q, hB⟩ := hB
        refine r_virtV (as := [.ref u6q]) (q := pm_m_20) f18_33 ca_1_66 rfl rfl rfl (cs_len (Nat.le_of_ble_eq_true rfl)) g11q (P_L_stride (d := d + 0) eh9q) ?_
        replace hB := grd_some hB
        obtain ⟨g14q, hB⟩ := hB
        replace hB := bn2_some hB
        obtain ⟨h12q, _, eh12q, hB⟩ := hB
        refine r_virtN (as := [.int x10q]) (q := pm_m_7) f18_36 ca_1_70 rfl rfl rfl (cs_len (Nat.le_of_ble_eq_true rfl)) g14q (P_D_walk (d := d + 2) eh12q) ?_
        refine r_aload_nN f18_39 rfl ?_
        refine r_aloadN f18_40 rfl ?_
        replace hB := grd_some hB
        obtain ⟨g17q, hB⟩ := hB
        replace hB := bn2_some hB
        obtain ⟨h15q, _, eh15q, hB⟩ := hB
        refine r_virtN (as := [.ref u6q]) (q := pm_m_19) f18_42 ca_1_73 rfl rfl rfl (cs_len (Nat.le_of_ble_eq_true rfl)) g17q (P_L_takeUp (d := d + 1) eh15q) ?_
        refine r_aloadN f18_45 rfl ?_
        refine r_aload_nN f18_47 rfl ?_
        refine r_aloadN f18_48 rfl ?_
        replace hB := grd_some hB
        obtain ⟨g20q, hB⟩ := hB
        replace hB := bn2_some hB
        obtain ⟨h18q, x19q, eh18q, hB⟩ := hB
        refine r_virtV (as := [.ref u6q]) (q := pm_m_22) f18_50 ca_1_76 rfl rfl rfl (cs_len (Nat.le_of_ble_eq_true rfl)) g20q (P_L_growth (d := d + 0) eh18q) ?_
        replace hB := grd_some hB
        obtain ⟨g23q, hB⟩ := hB
        replace hB := bn2_some hB
        obtain ⟨h21q, _, eh21q, hB⟩ := hB
        refine r_virtN (as := [.int x19q]) (q := pm_m_8) f18_53 ca_1_79 rfl rfl rfl (cs_len (Nat.le_of_ble_eq_true rfl)) g23q (P_D_rise (d := d + 2) eh21q) ?_
        refine r_aloadN f18_56 rfl ?_
        refine r_aloadN f18_58 rfl ?_
        replace hB := bnd_some hB
        obtain ⟨x24q, ex24q, hB⟩ := hB
        refine r_getI f18_60 fa_1_82 ex24q ?_
        refine r_aload_nN f18_63 rfl ?_
        refine r_aloadN f18_64 rfl ?_
        replace hB := grd_some hB
        obtain ⟨g27q, hB⟩ := hB
        replace hB := bn2_some hB
        obtain ⟨h25q, x26q, eh25q, hB⟩ := hB
        refine r_virtV (as := [.ref u6q]) (q := pm_m_23) f18_66 ca_1_85 rfl rfl rfl (cs_len (Nat.le_of_ble_eq_true rfl)) g27q (P_L_need (d := d + 0) eh25q) ?_
        by_cases c28q : x26q ≤ x24q
        · rw [if_pos c28q] at hB
          refine r_ic_t (t := 76) f18_69 (by decide) c28q ?_
          refine r_iconst f18_76 ci_0 ?_
          exact pm_weak (L' := [.ref l0, va_rf (some u4q), .int l2, .int l3, pm_J]) ⟨.inr rfl, .inr rfl, .inr rfl, .inr rfl, .inl rfl, trivial⟩ (P_L_pass_77 (d := d) (L_pass_10 n) ih h25q l0 (some u4q) l2 l3 0 (some u6q) hB)
        · rw [if_neg c28q] at hB
          refine r_ic_f 76 f18_69 (by decide) c28q ?_
          refine r_iconst f18_72 ci_1 ?_
          refine r_goto (t := 77) f18_73 (by decide) ?_
          exact pm_weak (L' := [.ref l0, va_rf (some u4q), .int l2, .int l3, pm_J]) ⟨.inr rfl, .inr rfl, .inr rfl, .inr rfl, .inl rfl, trivial⟩ (P_L_pass_77 (d := d) (L_pass_10 n) ih h25q l0 (some u4q) l2 l3 1 (some u6q) hB)
      · rw [if_neg c8q] at hB
        refine r_if_t (t := 80) f18_25 (by decide) c8q ?_
        exact pm_weak (L' := [.ref l0, va_rf (some u4q), .int l2, .int l3, pm_J]) ⟨.inr rfl, .inr rfl, .inr rfl, .inr rfl, .inl rfl, trivial⟩ (P_L_pass_80 (d := d) (L_pass_10 n) ih h l0 (some u4q) l2 l3 hB)
theorem P_L_pass {d : Nat} {h h' : pm_H} {r : Unit} {t : Nat} (hB : L_pass h t = some (h', r)) : pm_ev (d + 5) 18 [.ref t] h none h' := by
  unfold L_pass at hB
  refine pm_ev_mk (L := [.ref t, pm_J, pm_J, pm_J, pm_J]) pm_m_18 rfl (Nat.le_of_ble_eq_true rfl) rfl ?_
  refine r_aload_nN f18_0 rfl ?_
  replace hB := bnd_some hB
  obtain ⟨x1q, ex1q, hB⟩ := hB
  refine r_getA f18_1 fa_1_11 ex1q ?_
  refine r_astore_n (L' := [.ref t, va_rf x1q, pm_J, pm_J, pm_J]) f18_4 (Nat.le_of_ble_eq_true rfl) rfl ?_
  refine r_aload_n f18_5 rfl ?_
  replace hB := bnd_some hB
  obtain ⟨u2q, rfl, hB⟩ := hB
  replace hB := bnd_some hB
  obtain ⟨x3q, ex3q, hB⟩ := hB
  refine r_ln f18_6 ex3q ?_
  refine r_istore_n (L' := [.ref t, .ref u2q, .int x3q, pm_J, pm_J]) (x := x3q) f18_7 rfl (Nat.le_of_ble_eq_true rfl) rfl ?_
  refine r_iconst f18_8 ci_0 ?_
  refine r_istore_n (L' := [.ref t, .ref u2q, .int x3q, .int 0, pm_J]) (x := 0) f18_9 rfl (Nat.le_of_ble_eq_true rfl) rfl ?_
  exact pm_weak (L' := [.ref t, va_rf (some u2q), .int x3q, .int 0, pm_J]) ⟨.inr rfl, .inr rfl, .inr rfl, .inr rfl, .inl rfl, trivial⟩ (P_L_pass_10 (d := d) 1000 h t (some u2q) x3q 0 hB)
theorem P_W_init {d : Nat} {h h' : pm_H} {r : Unit} {t : Nat} {a1 : Int32} {a2 : Option Nat} {a3 : Option Nat} {a4 : Option Nat} (hB : W_init h t a1 a2 a3 a4 = some (h', r)) : pm_ev (d + 1) 28 [.ref t, .int a1, va_rf a2, va_rf a3, va_rf a4] h none h' := by
  unfold W_init at hB
  refine pm_ev_mk (L := [.ref t, .int a1, va_rf a2, va_rf a3, va_rf a4]) pm_m_28 rfl (by simp only [pm_ar, rf_ar]; exact Nat.le_of_ble_eq_true rfl) (by simp only [pm_in, pm_ar, rf_ar]; rfl) ?_
  refine r_aload_nN f28_0 rfl ?_
  refine r_obj f28_1 (e := 145) rfl (cs_len (Nat.le_of_ble_eq_true rfl)) ?_
  refine r_aload_nN f28_4 rfl ?_
  refine r_iload_n f28_5 rfl ?_
  replace hB := bnd_some hB
  obtain ⟨h1q, eh1q, hB⟩ := hB
  refine r_put f28_6 fa_2_7 ty_2_0 rfl rfl (fun _ => ⟨in_28, rfl⟩) eh1q ?_
  refine r_aload_nN f28_9 rfl ?_
  refine r_aload_n f28_10 rfl ?_
  replace hB := bnd_some hB
  obtain ⟨h2q, eh2q, hB⟩ := hB
  refine r_put f28_11 fa_2_13 ty_2_1 (rf_na _ _) (rf_fa _ _) (fun _ => ⟨in_28, rfl⟩) eh2q ?_
  refine r_aload_nN f28_14 rfl ?_
  refine r_aload_n f28_15 rfl ?_
  replace hB := bnd_some hB
  obtain ⟨h3q, eh3q, hB⟩ := hB
  refine r_put f28_16 fa_2_17 ty_2_2 (rf_na _ _) (rf_fa _ _) (fun _ => ⟨in_28, rfl⟩) eh3q ?_
  refine r_aload_nN f28_19 rfl ?_
  refine r_aload f28_20 rfl ?_
  replace hB := bnd_some hB
  obtain ⟨h4q, eh4q, hB⟩ := hB
  refine r_put f28_22 fa_2_20 ty_2_3 (rf_na _ _) (rf_fa _ _) (fun _ => ⟨in_28, rfl⟩) eh4q ?_
  exact r_vret pm_m_28 f28_25 rfl rfl (zV hB)
theorem P_S_init {d : Nat} {h h' : pm_H} {r : Unit} {t : Nat} (hB : S_init h t = some (h', r)) : pm_ev (d + 1) 29 [.ref t] h none h' := by
  unfold S_init at hB
  refine pm_ev_mk (L := [.ref t]) pm_m_29 rfl (Nat.le_of_ble_eq_true rfl) rfl ?_
  refine r_aload_nN f29_0 rfl ?_
  refine r_obj f29_1 (e := 127) rfl (cs_len (Nat.le_of_ble_eq_true rfl)) ?_
  refine r_aload_nN f29_4 rfl ?_
  refine r_iconst f29_5 ci_m1 ?_
  replace hB := bnd_some hB
  obtain ⟨h1q, eh1q, hB⟩ := hB
  refine r_put f29_6 fa_3_9 ty_3_0 rfl rfl (no_fin (nf_3_0)) eh1q ?_
  refine r_aload_nN f29_9 rfl ?_
  refine r_bipush f29_10 cb_40 ?_
  replace hB := bnd_some hB
  obtain ⟨h2q, eh2q, hB⟩ := hB
  refine r_nI f29_12 eh2q ?_
  obtain ⟨b3q, hb3q⟩ : ∃ z, z = List.length h1q := ⟨_, rfl⟩
  replace hB := nmd_at hb3q hB
  rw [← hb3q]
  replace hB := bnd_some hB
  obtain ⟨h4q, eh4q, hB⟩ := hB
  refine r_put f29_14 fa_3_15 ty_3_2 rfl rfl (fun _ => ⟨in_29, rfl⟩) eh4q ?_
  exact r_vret pm_m_29 f29_17 rfl rfl (zV hB)
theorem P_S_becomeRow {d : Nat} {h h' : pm_H} {r : Unit} {t : Nat} {a1 : Int32} {a2 : Int32} (hB : S_becomeRow h t a1 a2 = some (h', r)) : pm_ev (d + 2) 30 [.ref t, .int a1, .int a2] h none h' := by
  unfold S_becomeRow at hB
  refine pm_ev_mk (L := [.ref t, .int a1, .int a2]) pm_m_30 rfl (Nat.le_of_ble_eq_true rfl) rfl ?_
  refine r_aload_nN f30_0 rfl ?_
  refine r_iload_n f30_1 rfl ?_
  replace hB := bnd_some hB
  obtain ⟨h1q, eh1q, hB⟩ := hB
  refine r_put f30_2 fa_3_9 ty_3_0 rfl rfl (no_fin (nf_3_0)) eh1q ?_
  refine r_aload_nN f30_5 rfl ?_
  refine r_iload_n f30_6 rfl ?_
  replace hB := bnd_some hB
  obtain ⟨h2q, eh2q, hB⟩ := hB
  refine r_put f30_7 fa_3_19 ty_3_1 rfl rfl (no_fin (nf_3_1)) eh2q ?_
  refine r_aload_nN f30_10 rfl ?_
  replace hB := bnd_some hB
  obtain ⟨x3q, ex3q, hB⟩ := hB
  refine r_getA f30_11 fa_3_15 ex3q ?_
  refine r_iconst f30_14 ci_0 ?_
  replace hB := bn2_some hB
  obtain ⟨h4q, _, eh4q, hB⟩ := hB
  refine r_statN (as := [va_rf x3q, .int 0]) (q := pm_m_186) f30_15 ca_3_22 rfl (by decide) rfl rfl (cs_len (Nat.le_of_ble_eq_true rfl)) (P_Ja_fill (d := d + 0) eh4q) ?_
  exact r_vret pm_m_30 f30_18 rfl rfl (zV hB)
theorem P_S_write_44 {d : Nat} {h' : pm_H} {r : Unit} (h : pm_H) (s0 : Int32) (s1 : Int32) (s2 : Option Nat) (hB : S_write_44 h s0 s1 s2 = some (h', r)) : pm_run (pm_ev (d + 0)) 31 44 [pm_J, pm_J, pm_J] [.int s0, .int s1, va_rf s2] h (fun r1 h1 => r1 = none ∧ h1 = h') := by
  unfold S_write_44 at hB
  replace hB := bnd_some hB
  obtain ⟨u1q, rfl, hB⟩ := hB
  replace hB := bnd_some hB
  obtain ⟨h2q, eh2q, hB⟩ := hB
  refine r_sI f31_44 eh2q ?_
  exact r_vret pm_m_31 f31_45 rfl rfl (zV hB)
theorem P_S_write {d : Nat} {h h' : pm_H} {r : Unit} {t : Nat} {a1 : Int32} {a2 : Int32} (hB : S_write h t a1 a2 = some (h', r)) : pm_ev (d + 1) 31 [.ref t, .int a1, .int a2] h none h' := by
  unfold S_write at hB
  refine pm_ev_mk (L := [.ref t, .int a1, .int a2]) pm_m_31 rfl (Nat.le_of_ble_eq_true rfl) rfl ?_
  refine r_iload_n f31_0 rfl ?_
  by_cases c1q : a1 < 0
  · rw [if_pos c1q] at hB
    refine r_if_t (t := 45) f31_1 (by decide) c1q ?_
    exact r_vret pm_m_31 f31_45 rfl rfl (zV hB)
  · rw [if_neg c1q] at hB
    refine r_if_f 45 f31_1 (by decide) c1q ?_
    refine r_iload_n f31_4 rfl ?_
    refine r_aload_nN f31_5 rfl ?_
    replace hB := bnd_some hB
    obtain ⟨x2q, ex2q, hB⟩ := hB
    refine r_getA f31_6 fa_3_15 ex2q ?_
    replace hB := bnd_some hB
    obtain ⟨u3q, rfl, hB⟩ := hB
    replace hB := bnd_some hB
    obtain ⟨x4q, ex4q, hB⟩ := hB
    refine r_ln f31_9 ex4q ?_
    by_cases c5q : x4q ≤ a1
    · rw [if_pos c5q] at hB
      refine r_ic_t (t := 45) f31_10 (by decide) c5q ?_
      exact r_vret pm_m_31 f31_45 rfl rfl (zV hB)
    · rw [if_neg c5q] at hB
      refine r_ic_f 45 f31_10 (by decide) c5q ?_
      refine r_aload_nN f31_13 rfl ?_
      replace hB := bnd_some hB
      obtain ⟨x6q, ex6q, hB⟩ := hB
      refine r_getA f31_14 fa_3_15 ex6q ?_
      refine r_iload_n f31_17 rfl ?_
      refine r_aload_nN f31_18 rfl ?_
      replace hB := bnd_some hB
      obtain ⟨x7q, ex7q, hB⟩ := hB
      refine r_getI f31_19 fa_3_9 ex7q ?_
      by_cases c8q : x7q = 0
      · rw [if_pos c8q] at hB
        refine r_if_f 30 f31_22 (by decide) (fun q => q c8q) ?_
        refine r_iload_n f31_25 rfl ?_
        refine r_i2b f31_26 ?_
        refine r_goto (t := 44) f31_27 (by decide) ?_
        exact pm_weak (L' := [pm_J, pm_J, pm_J]) ⟨.inl rfl, .inl rfl, .inl rfl, trivial⟩ (P_S_write_44 (d := d) h (Int8.toInt32 (Int32.toInt8 a2)) a1 x6q hB)
      · rw [if_neg c8q] at hB
        refine r_if_t (t := 30) f31_22 (by decide) c8q ?_
        refine r_aload_nN f31_30 rfl ?_
        replace hB := bnd_some hB
        obtain ⟨x9q, ex9q, hB⟩ := hB
        refine r_getI f31_31 fa_3_9 ex9q ?_
        refine r_iconst f31_34 ci_1 ?_
        by_cases c10q : x9q = 1
        · rw [if_pos c10q] at hB
          refine r_ic_f 43 f31_35 (by decide) (fun q => q c10q) ?_
          refine r_iload_n f31_38 rfl ?_
          refine r_i2s f31_39 ?_
          refine r_goto (t := 44) f31_40 (by decide) ?_
          exact pm_weak (L' := [pm_J, pm_J, pm_J]) ⟨.inl rfl, .inl rfl, .inl rfl, trivial⟩ (P_S_write_44 (d := d) h (Int16.toInt32 (Int32.toInt16 a2)) a1 x6q hB)
        · rw [if_neg c10q] at hB
          refine r_ic_t (t := 43) f31_35 (by decide) c10q ?_
          refine r_iload_n f31_43 rfl ?_
          exact pm_weak (L' := [pm_J, pm_J, pm_J]) ⟨.inl rfl, .inl rfl, .inl rfl, trivial⟩ (P_S_write_44 (d := d) h a2 a1 x6q hB)
theorem P_S_hasPlaces {d : Nat} {h h' : pm_H} {r : Int32} {t : Nat} {a1 : Int32} {a2 : Int32} (hB : S_hasPlaces h t a1 a2 = some (h', r)) : pm_ev (d + 1) 32 [.ref t, .int a1, .int a2] h (some (.int r)) h' := by
  unfold S_hasPlaces at hB
  refine pm_ev_mk (L := [.ref t, .int a1, .int a2]) pm_m_32 rfl (Nat.le_of_ble_eq_true rfl) rfl ?_
  refine r_iload_n f32_0 rfl ?_
  by_cases c1q : a1 < 0
  · rw [if_pos c1q] at hB
    refine r_if_t (t := 30) f32_1 (by decide) c1q ?_
    refine r_iconst f32_30 ci_0 ?_
    exact r_iret pm_m_32 .boolean f32_31 rfl rfl (bool_n (by decide)) (zI hB)
  · rw [if_neg c1q] at hB
    refine r_if_f 30 f32_1 (by decide) c1q ?_
    refine r_iload_n f32_4 rfl ?_
    by_cases c2q : a2 < 0
    · rw [if_pos c2q] at hB
      refine r_if_t (t := 30) f32_5 (by decide) c2q ?_
      refine r_iconst f32_30 ci_0 ?_
      exact r_iret pm_m_32 .boolean f32_31 rfl rfl (bool_n (by decide)) (zI hB)
    · rw [if_neg c2q] at hB
      refine r_if_f 30 f32_5 (by decide) c2q ?_
      refine r_iload_n f32_8 rfl ?_
      refine r_aload_nN f32_9 rfl ?_
      replace hB := bnd_some hB
      obtain ⟨x3q, ex3q, hB⟩ := hB
      refine r_getI f32_10 fa_3_19 ex3q ?_
      by_cases c4q : x3q < a2
      · rw [if_pos c4q] at hB
        refine r_ic_t (t := 30) f32_13 (by decide) c4q ?_
        refine r_iconst f32_30 ci_0 ?_
        exact r_iret pm_m_32 .boolean f32_31 rfl rfl (bool_n (by decide)) (zI hB)
      · rw [if_neg c4q] at hB
        refine r_ic_f 30 f32_13 (by decide) c4q ?_
        refine r_iload_n f32_16 rfl ?_
        refine r_aload_nN f32_17 rfl ?_
        replace hB := bnd_some hB
        obtain ⟨x5q, ex5q, hB⟩ := hB
        refine r_getI f32_18 fa_3_19 ex5q ?_
        refine r_iload_n f32_21 rfl ?_
        refine r_isub f32_22 ?_
        by_cases c6q : (x5q - a2) < a1
        · rw [if_pos c6q] at hB
          refine r_ic_t (t := 30) f32_23 (by decide) c6q ?_
          refine r_iconst f32_30 ci_0 ?_
          exact r_iret pm_m_32 .boolean f32_31 rfl rfl (bool_n (by decide)) (zI hB)
        · rw [if_neg c6q] at hB
          refine r_ic_f 30 f32_23 (by decide) c6q ?_
          refine r_iconst f32_26 ci_1 ?_
          refine r_goto (t := 31) f32_27 (by decide) ?_
          exact r_iret pm_m_32 .boolean f32_31 rfl rfl (bool_n (by decide)) (zI hB)
theorem P_T_part {d : Nat} {h h' : pm_H} {r : Unit} {t : Nat} {a1 : Int32} (hB : T_part h t a1 = some (h', r)) : pm_ev (d + 65) 36 [.ref t, .int a1] h none h' := by
  unfold T_part at hB
  refine pm_ev_mk (L := [.ref t, .int a1]) pm_m_36 rfl (Nat.le_of_ble_eq_true rfl) rfl ?_
  refine r_aload_nN f36_0 rfl ?_
  refine r_iload_n f36_1 rfl ?_
  replace hB := grd_some hB
  obtain ⟨g3q, hB⟩ := hB
  replace hB := bn2_some hB
  obtain ⟨h1q, _, eh1q, hB⟩ := hB
  refine r_virtN (as := [.int a1]) (q := pm_m_43) f36_2 ca_4_39 rfl rfl rfl (cs_len (Nat.le_of_ble_eq_true rfl)) g3q (P_T_expect (d := d + 56) eh1q) ?_
  refine r_aload_nN f36_5 rfl ?_
  refine r_iconst f36_6 ci_0 ?_
  replace hB := grd_some hB
  obtain ⟨g6q, hB⟩ := hB
  replace hB := bn2_some hB
  obtain ⟨h4q, _, eh4q, hB⟩ := hB
  refine r_virtN (as := [.int 0]) (q := pm_m_37) f36_7 ca_4_53 rfl rfl rfl (cs_len (Nat.le_of_ble_eq_true rfl)) g6q (P_T_eitherK (d := d + 0) eh4q) ?_
  refine r_aload_nN f36_10 rfl ?_
  refine r_sipush f36_11 cs_10020 ?_
  replace hB := grd_some hB
  obtain ⟨g9q, hB⟩ := hB
  replace hB := bn2_some hB
  obtain ⟨h7q, _, eh7q, hB⟩ := hB
  refine r_virtN (as := [.int 10020]) (q := pm_m_43) f36_14 ca_4_39 rfl rfl rfl (cs_len (Nat.le_of_ble_eq_true rfl)) g9q (P_T_expect (d := d + 56) eh7q) ?_
  exact r_vret pm_m_36 f36_17 rfl rfl (zV hB)
theorem P_T_toLaw {d : Nat} {h h' : pm_H} {r : Option Nat} {t : Nat} {a1 : Int32} (hB : T_toLaw h t a1 = some (h', r)) : pm_ev (d + 66) 35 [.ref t, .int a1] h (some (va_rf r)) h' := by
  unfold T_toLaw at hB
  refine pm_ev_mk (L := [.ref t, .int a1, pm_J, pm_J]) pm_m_35 rfl (Nat.le_of_ble_eq_true rfl) rfl ?_
  refine r_aload_nN f35_0 rfl ?_
  refine r_iconst f35_1 ci_m1 ?_
  replace hB := bnd_some hB
  obtain ⟨h1q, eh1q, hB⟩ := hB
  refine r_put f35_2 fa_4_23 ty_4_5 rfl rfl (no_fin (nf_4_5)) eh1q ?_
  refine r_aload_nN f35_5 rfl ?_
  refine r_iconst f35_6 ci_0 ?_
  replace hB := bnd_some hB
  obtain ⟨h2q, eh2q, hB⟩ := hB
  refine r_put f35_7 fa_4_26 ty_4_7 rfl rfl (no_fin (nf_4_7)) eh2q ?_
  refine r_aload_nN f35_10 rfl ?_
  refine r_iconst f35_11 ci_0 ?_
  replace hB := bnd_some hB
  obtain ⟨h3q, eh3q, hB⟩ := hB
  refine r_put f35_12 fa_4_29 ty_4_3 rfl rfl (no_fin (nf_4_3)) eh3q ?_
  refine r_aload_nN f35_15 rfl ?_
  replace hB := grd_some hB
  obtain ⟨g6q, hB⟩ := hB
  replace hB := bn2_some hB
  obtain ⟨h4q, _, eh4q, hB⟩ := hB
  refine r_virtN (as := []) (q := pm_m_46) f35_16 ca_4_32 rfl rfl rfl (cs_len (Nat.le_of_ble_eq_true rfl)) g6q (P_T_step (d := d + 58) eh4q) ?_
  refine r_aload_nN f35_19 rfl ?_
  refine r_sipush f35_20 cs_10015 ?_
  replace hB := grd_some hB
  obtain ⟨g9q, hB⟩ := hB
  replace hB := bn2_some hB
  obtain ⟨h7q, _, eh7q, hB⟩ := hB
  refine r_virtN (as := [.int 10015]) (q := pm_m_36) f35_23 ca_4_35 rfl rfl rfl (cs_len (Nat.le_of_ble_eq_true rfl)) g9q (P_T_part (d := d + 0) eh7q) ?_
  refine r_aload_nN f35_26 rfl ?_
  replace hB := bnd_some hB
  obtain ⟨x10q, ex10q, hB⟩ := hB
  refine r_getI f35_27 fa_4_26 ex10q ?_
  refine r_istore_n (L' := [.ref t, .int a1, .int x10q, pm_J]) (x := x10q) f35_30 rfl (Nat.le_of_ble_eq_true rfl) rfl ?_
  refine r_aload_nN f35_31 rfl ?_
  refine r_sipush f35_32 cs_10016 ?_
  replace hB := grd_some hB
  obtain ⟨g13q, hB⟩ := hB
  replace hB := bn2_some hB
  obtain ⟨h11q, _, eh11q, hB⟩ := hB
  refine r_virtN (as := [.int 10016]) (q := pm_m_36) f35_35 ca_4_35 rfl rfl rfl (cs_len (Nat.le_of_ble_eq_true rfl)) g13q (P_T_part (d := d + 0) eh11q) ?_
  refine r_aload_nN f35_38 rfl ?_
  replace hB := bnd_some hB
  obtain ⟨x14q, ex14q, hB⟩ := hB
  refine r_getI f35_39 fa_4_26 ex14q ?_
  refine r_istore_n (L' := [.ref t, .int a1, .int x10q, .int x14q]) (x := x14q) f35_42 rfl (Nat.le_of_ble_eq_true rfl) rfl ?_
  refine r_aload_nN f35_43 rfl ?_
  refine r_sipush f35_44 cs_10017 ?_
  replace hB := grd_some hB
  obtain ⟨g17q, hB⟩ := hB
  replace hB := bn2_some hB
  obtain ⟨h15q, _, eh15q, hB⟩ := hB
  refine r_virtN (as := [.int 10017]) (q := pm_m_36) f35_47 ca_4_35 rfl rfl rfl (cs_len (Nat.le_of_ble_eq_true rfl)) g17q (P_T_part (d := d + 0) eh15q) ?_
  refine r_aload_nN f35_50 rfl ?_
  refine r_sipush f35_51 cs_10021 ?_
  replace hB := grd_some hB
  obtain ⟨g20q, hB⟩ := hB
  replace hB := bn2_some hB
  obtain ⟨h18q, _, eh18q, hB⟩ := hB
  refine r_virtN (as := [.int 10021]) (q := pm_m_43) f35_54 ca_4_39 rfl rfl rfl (cs_len (Nat.le_of_ble_eq_true rfl)) g20q (P_T_expect (d := d + 57) eh18q) ?_
  refine r_aload_nN f35_57 rfl ?_
  refine r_iconst f35_58 ci_0 ?_
  replace hB := bnd_some hB
  obtain ⟨h21q, eh21q, hB⟩ := hB
  refine r_put f35_59 fa_4_19 ty_4_1 rfl rfl (no_fin (nf_4_1)) eh21q ?_
  refine r_aload_nN f35_62 rfl ?_
  replace hB := bnd_some hB
  obtain ⟨x22q, ex22q, hB⟩ := hB
  refine r_getI f35_63 fa_4_23 ex22q ?_
  refine r_iconst f35_66 ci_m1 ?_
  by_cases c23q : x22q = (-1)
  · rw [if_pos c23q] at hB
    refine r_ic_t (t := 72) f35_67 (by decide) c23q ?_
    refine r_new (ci := 2) f35_72 rfl ?_
    obtain ⟨b25q, hb25q⟩ : ∃ z, z = List.length h21q := ⟨_, rfl⟩
    replace hB := nmd_at hb25q hB
    obtain ⟨h24q, hh24q⟩ : ∃ z, z = h21q ++ [.inr (2, pm_new 2)] := ⟨_, rfl⟩
    replace hB := nmd_at hh24q hB
    rw [← hb25q, ← hh24q]
    refine r_dupN f35_75 ?_
    refine r_iload_n f35_76 rfl ?_
    refine r_aload_nN f35_77 rfl ?_
    replace hB := bnd_some hB
    obtain ⟨x26q, ex26q, hB⟩ := hB
    refine r_getA f35_78 fa_4_15 ex26q ?_
    refine r_iconst f35_81 ci_0 ?_
    refine r_iload_n f35_82 rfl ?_
    replace hB := bn2_some hB
    obtain ⟨h27q, x28q, eh27q, hB⟩ := hB
    refine r_statV (as := [va_rf x26q, .int 0, .int x10q]) (q := pm_m_188) f35_83 ca_4_44 rfl (by decide) rfl rfl (cs_len (Nat.le_of_ble_eq_true rfl)) (P_Ja_copyOfRange (d := d + 62) eh27q) ?_
    refine r_aload_nN f35_86 rfl ?_
    replace hB := bnd_some hB
    obtain ⟨x29q, ex29q, hB⟩ := hB
    refine r_getA f35_87 fa_4_15 ex29q ?_
    refine r_iload_n f35_90 rfl ?_
    refine r_iload_n f35_91 rfl ?_
    replace hB := bn2_some hB
    obtain ⟨h30q, x31q, eh30q, hB⟩ := hB
    refine r_statV (as := [va_rf x29q, .int x10q, .int x14q]) (q := pm_m_188) f35_92 ca_4_44 rfl (by decide) rfl rfl (cs_len (Nat.le_of_ble_eq_true rfl)) (P_Ja_copyOfRange (d := d + 62) eh30q) ?_
    refine r_aload_nN f35_95 rfl ?_
    replace hB := bnd_some hB
    obtain ⟨x32q, ex32q, hB⟩ := hB
    refine r_getA f35_96 fa_4_15 ex32q ?_
    refine r_iload_n f35_99 rfl ?_
    refine r_aload_nN f35_100 rfl ?_
    replace hB := bnd_some hB
    obtain ⟨x33q, ex33q, hB⟩ := hB
    refine r_getI f35_101 fa_4_26 ex33q ?_
    replace hB := bn2_some hB
    obtain ⟨h34q, x35q, eh34q, hB⟩ := hB
    refine r_statV (as := [va_rf x32q, .int x14q, .int x33q]) (q := pm_m_188) f35_104 ca_4_44 rfl (by decide) rfl rfl (cs_1 (List.forall_mem_cons.mpr ⟨rf_c _, List.forall_mem_cons.mpr ⟨rf_c _, List.forall_mem_cons.mpr ⟨rfl, List.forall_mem_cons.mpr ⟨rfl, List.forall_mem_cons.mpr ⟨rfl, fun _ h => absurd h List.not_mem_nil⟩⟩⟩⟩⟩) (Nat.le_of_ble_eq_true rfl)) (P_Ja_copyOfRange (d := d + 62) eh34q) ?_
    replace hB := bn2_some hB
    obtain ⟨h36q, _, eh36q, hB⟩ := hB
    refine r_ctor (as := [.int a1, va_rf x28q, va_rf x31q, va_rf x35q]) (q := pm_m_28) f35_107 ca_4_50 rfl (by decide) rfl rfl (cs_len (Nat.le_of_ble_eq_true rfl)) (P_W_init (d := d + 64) eh36q) ?_
    exact r_aret (r := (some b25q)) pm_m_35 (.object "DunesWalked$Law") f35_110 rfl rfl (by exact Or.inl ⟨_, rfl⟩) (zA hB)
  · rw [if_neg c23q] at hB
    refine r_ic_f 72 f35_67 (by decide) c23q ?_
    refine r_null f35_70 ?_
    exact r_aret (r := none) pm_m_35 (.object "DunesWalked$Law") f35_71 rfl rfl (by exact Or.inl ⟨_, rfl⟩) (zA hB)
