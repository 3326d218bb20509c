theorem f109_0 : pm_fetch 109 0 = some (.iload_n 0, 1) := rfl
theorem f109_1 : pm_fetch 109 1 = some (.iload_n 1, 1) := rfl
theorem f109_2 : pm_fetch 109 2 = some (.if_icmp .lt 12, 3) := rfl
theorem f109_5 : pm_fetch 109 5 = some (.iload_n 0, 1) := rfl
theorem f109_6 : pm_fetch 109 6 = some (.iload_n 2, 1) := rfl
theorem f109_7 : pm_fetch 109 7 = some (.if_icmp .gt 7, 3) := rfl
theorem f109_10 : pm_fetch 109 10 = some (.iconst 1, 1) := rfl
theorem f109_11 : pm_fetch 109 11 = some (.goto 4, 3) := rfl
theorem f109_14 : pm_fetch 109 14 = some (.iconst 0, 1) := rfl
theorem f109_15 : pm_fetch 109 15 = some (.ireturn, 1) := rfl
theorem f110_0 : pm_fetch 110 0 = some (.iload_n 0, 1) := rfl
theorem f110_1 : pm_fetch 110 1 = some (.iload_n 1, 1) := rfl
theorem f110_2 : pm_fetch 110 2 = some (.if_icmp .ge 7, 3) := rfl
theorem f110_5 : pm_fetch 110 5 = some (.iload_n 1, 1) := rfl
theorem f110_6 : pm_fetch 110 6 = some (.goto 13, 3) := rfl
theorem f110_9 : pm_fetch 110 9 = some (.iload_n 0, 1) := rfl
theorem f110_10 : pm_fetch 110 10 = some (.iload_n 2, 1) := rfl
theorem f110_11 : pm_fetch 110 11 = some (.if_icmp .le 7, 3) := rfl
theorem f110_14 : pm_fetch 110 14 = some (.iload_n 2, 1) := rfl
theorem f110_15 : pm_fetch 110 15 = some (.goto 4, 3) := rfl
theorem f110_18 : pm_fetch 110 18 = some (.iload_n 0, 1) := rfl
theorem f110_19 : pm_fetch 110 19 = some (.ireturn, 1) := rfl
theorem f111_0 : pm_fetch 111 0 = some (.iload_n 0, 1) := rfl
theorem f111_1 : pm_fetch 111 1 = some (.iconst 0, 1) := rfl
theorem f111_2 : pm_fetch 111 2 = some (.bipush 39, 2) := rfl
theorem f111_4 : pm_fetch 111 4 = some (.invokestatic 79, 3) := rfl
theorem f111_7 : pm_fetch 111 7 = some (.ireturn, 1) := rfl
theorem f112_0 : pm_fetch 112 0 = some (.iload_n 1, 1) := rfl
theorem f112_1 : pm_fetch 112 1 = some (.iconst 0, 1) := rfl
theorem f112_2 : pm_fetch 112 2 = some (.aload_n 0, 1) := rfl
theorem f112_3 : pm_fetch 112 3 = some (.getfield 83, 3) := rfl
theorem f112_6 : pm_fetch 112 6 = some (.iconst 1, 1) := rfl
theorem f112_7 : pm_fetch 112 7 = some (.isub, 1) := rfl
theorem f112_8 : pm_fetch 112 8 = some (.invokestatic 79, 3) := rfl
theorem f112_11 : pm_fetch 112 11 = some (.ifCond .ne 5, 3) := rfl
theorem f112_14 : pm_fetch 112 14 = some (.iconst 0, 1) := rfl
theorem f112_15 : pm_fetch 112 15 = some (.ireturn, 1) := rfl
theorem f112_16 : pm_fetch 112 16 = some (.aload_n 0, 1) := rfl
theorem f112_17 : pm_fetch 112 17 = some (.getfield 19, 3) := rfl
theorem f112_20 : pm_fetch 112 20 = some (.iload_n 1, 1) := rfl
theorem f112_21 : pm_fetch 112 21 = some (.iaload, 1) := rfl
theorem f112_22 : pm_fetch 112 22 = some (.ifCond .ne 7, 3) := rfl
theorem f112_25 : pm_fetch 112 25 = some (.iconst 1, 1) := rfl
theorem f112_26 : pm_fetch 112 26 = some (.goto 4, 3) := rfl
theorem f112_29 : pm_fetch 112 29 = some (.iconst 0, 1) := rfl
theorem f112_30 : pm_fetch 112 30 = some (.ireturn, 1) := rfl
theorem f113_0 : pm_fetch 113 0 = some (.iconst 0, 1) := rfl
theorem f113_1 : pm_fetch 113 1 = some (.istore_n 2, 1) := rfl
theorem f113_2 : pm_fetch 113 2 = some (.iconst 0, 1) := rfl
theorem f113_3 : pm_fetch 113 3 = some (.istore_n 3, 1) := rfl
theorem f113_4 : pm_fetch 113 4 = some (.iload_n 3, 1) := rfl
theorem f113_5 : pm_fetch 113 5 = some (.bipush 40, 2) := rfl
theorem f113_7 : pm_fetch 113 7 = some (.if_icmp .ge 27, 3) := rfl
theorem f113_10 : pm_fetch 113 10 = some (.iload_n 2, 1) := rfl
theorem f113_11 : pm_fetch 113 11 = some (.lload_n 0, 1) := rfl
theorem f113_12 : pm_fetch 113 12 = some (.iload_n 3, 1) := rfl
theorem f113_13 : pm_fetch 113 13 = some (.lshr, 1) := rfl
theorem f113_14 : pm_fetch 113 14 = some (.lconst 1, 1) := rfl
theorem f113_15 : pm_fetch 113 15 = some (.land, 1) := rfl
theorem f113_16 : pm_fetch 113 16 = some (.lconst 1, 1) := rfl
theorem f113_17 : pm_fetch 113 17 = some (.lcmp, 1) := rfl
theorem f113_18 : pm_fetch 113 18 = some (.ifCond .ne 7, 3) := rfl
theorem f113_21 : pm_fetch 113 21 = some (.iconst 1, 1) := rfl
theorem f113_22 : pm_fetch 113 22 = some (.goto 4, 3) := rfl
theorem f113_25 : pm_fetch 113 25 = some (.iconst 0, 1) := rfl
theorem f113_26 : pm_fetch 113 26 = some (.iadd, 1) := rfl
theorem f113_27 : pm_fetch 113 27 = some (.istore_n 2, 1) := rfl
theorem f113_28 : pm_fetch 113 28 = some (.iinc 3 1, 3) := rfl
theorem f113_31 : pm_fetch 113 31 = some (.goto (-27), 3) := rfl
theorem f113_34 : pm_fetch 113 34 = some (.iload_n 2, 1) := rfl
theorem f113_35 : pm_fetch 113 35 = some (.ireturn, 1) := rfl
theorem f114_0 : pm_fetch 114 0 = some (.lconst 0, 1) := rfl
theorem f114_1 : pm_fetch 114 1 = some (.lstore_n 2, 1) := rfl
theorem f114_2 : pm_fetch 114 2 = some (.aload_n 0, 1) := rfl
theorem f114_3 : pm_fetch 114 3 = some (.getfield 16, 3) := rfl
theorem f114_6 : pm_fetch 114 6 = some (.iconst 3, 1) := rfl
theorem f114_7 : pm_fetch 114 7 = some (.iload_n 1, 1) := rfl
theorem f114_8 : pm_fetch 114 8 = some (.imul, 1) := rfl
theorem f114_9 : pm_fetch 114 9 = some (.iaload, 1) := rfl
theorem f114_10 : pm_fetch 114 10 = some (.aload_n 0, 1) := rfl
theorem f114_11 : pm_fetch 114 11 = some (.getfield 16, 3) := rfl
theorem f114_14 : pm_fetch 114 14 = some (.iconst 3, 1) := rfl
theorem f114_15 : pm_fetch 114 15 = some (.iload_n 1, 1) := rfl
theorem f114_16 : pm_fetch 114 16 = some (.imul, 1) := rfl
theorem f114_17 : pm_fetch 114 17 = some (.iconst 1, 1) := rfl
theorem f114_18 : pm_fetch 114 18 = some (.iadd, 1) := rfl
theorem f114_19 : pm_fetch 114 19 = some (.iaload, 1) := rfl
theorem f114_20 : pm_fetch 114 20 = some (.isub, 1) := rfl
theorem f114_21 : pm_fetch 114 21 = some (.iconst 1, 1) := rfl
theorem f114_22 : pm_fetch 114 22 = some (.iadd, 1) := rfl
theorem f114_23 : pm_fetch 114 23 = some (.iconst 0, 1) := rfl
theorem f114_24 : pm_fetch 114 24 = some (.bipush 39, 2) := rfl
theorem f114_26 : pm_fetch 114 26 = some (.invokestatic 86, 3) := rfl
theorem f114_29 : pm_fetch 114 29 = some (.istore 4, 2) := rfl
theorem f114_31 : pm_fetch 114 31 = some (.iload 4, 2) := rfl
theorem f114_33 : pm_fetch 114 33 = some (.aload_n 0, 1) := rfl
theorem f114_34 : pm_fetch 114 34 = some (.getfield 16, 3) := rfl
theorem f114_37 : pm_fetch 114 37 = some (.iconst 3, 1) := rfl
theorem f114_38 : pm_fetch 114 38 = some (.iload_n 1, 1) := rfl
theorem f114_39 : pm_fetch 114 39 = some (.imul, 1) := rfl
theorem f114_40 : pm_fetch 114 40 = some (.iaload, 1) := rfl
theorem f114_41 : pm_fetch 114 41 = some (.if_icmp .gt 16, 3) := rfl
theorem f114_44 : pm_fetch 114 44 = some (.lload_n 2, 1) := rfl
theorem f114_45 : pm_fetch 114 45 = some (.lconst 1, 1) := rfl
theorem f114_46 : pm_fetch 114 46 = some (.iload 4, 2) := rfl
theorem f114_48 : pm_fetch 114 48 = some (.lshl, 1) := rfl
theorem f114_49 : pm_fetch 114 49 = some (.lor, 1) := rfl
theorem f114_50 : pm_fetch 114 50 = some (.lstore_n 2, 1) := rfl
theorem f114_51 : pm_fetch 114 51 = some (.iinc 4 1, 3) := rfl
theorem f114_54 : pm_fetch 114 54 = some (.goto (-23), 3) := rfl
theorem f114_57 : pm_fetch 114 57 = some (.lload_n 2, 1) := rfl
theorem f114_58 : pm_fetch 114 58 = some (.lreturn, 1) := rfl
theorem f115_0 : pm_fetch 115 0 = some (.lconst 0, 1) := rfl
theorem f115_1 : pm_fetch 115 1 = some (.lstore_n 1, 1) := rfl
theorem f115_2 : pm_fetch 115 2 = some (.iconst 0, 1) := rfl
theorem f115_3 : pm_fetch 115 3 = some (.istore_n 3, 1) := rfl
theorem f115_4 : pm_fetch 115 4 = some (.iload_n 3, 1) := rfl
theorem f115_5 : pm_fetch 115 5 = some (.aload_n 0, 1) := rfl
theorem f115_6 : pm_fetch 115 6 = some (.getfield 83, 3) := rfl
theorem f115_9 : pm_fetch 115 9 = some (.if_icmp .ge 30, 3) := rfl
theorem f115_12 : pm_fetch 115 12 = some (.lload_n 1, 1) := rfl
theorem f115_13 : pm_fetch 115 13 = some (.aload_n 0, 1) := rfl
theorem f115_14 : pm_fetch 115 14 = some (.getfield 19, 3) := rfl
theorem f115_17 : pm_fetch 115 17 = some (.iload_n 3, 1) := rfl
theorem f115_18 : pm_fetch 115 18 = some (.iaload, 1) := rfl
theorem f115_19 : pm_fetch 115 19 = some (.ifCond .ne 11, 3) := rfl
theorem f115_22 : pm_fetch 115 22 = some (.aload_n 0, 1) := rfl
theorem f115_23 : pm_fetch 115 23 = some (.iload_n 3, 1) := rfl
theorem f115_24 : pm_fetch 115 24 = some (.invokevirtual 90, 3) := rfl
theorem f115_27 : pm_fetch 115 27 = some (.goto 4, 3) := rfl
theorem f115_30 : pm_fetch 115 30 = some (.lconst 0, 1) := rfl
theorem f115_31 : pm_fetch 115 31 = some (.lor, 1) := rfl
theorem f115_32 : pm_fetch 115 32 = some (.lstore_n 1, 1) := rfl
theorem f115_33 : pm_fetch 115 33 = some (.iinc 3 1, 3) := rfl
theorem f115_36 : pm_fetch 115 36 = some (.goto (-32), 3) := rfl
theorem f115_39 : pm_fetch 115 39 = some (.lload_n 1, 1) := rfl
theorem f115_40 : pm_fetch 115 40 = some (.lreturn, 1) := rfl
theorem f116_0 : pm_fetch 116 0 = some (.aload_n 0, 1) := rfl
theorem f116_1 : pm_fetch 116 1 = some (.iload_n 1, 1) := rfl
theorem f116_2 : pm_fetch 116 2 = some (.invokevirtual 90, 3) := rfl
theorem f116_5 : pm_fetch 116 5 = some (.aload_n 0, 1) := rfl
theorem f116_6 : pm_fetch 116 6 = some (.getfield 94, 3) := rfl
theorem f116_9 : pm_fetch 116 9 = some (.land, 1) := rfl
theorem f116_10 : pm_fetch 116 10 = some (.lconst 0, 1) := rfl
theorem f116_11 : pm_fetch 116 11 = some (.lcmp, 1) := rfl
theorem f116_12 : pm_fetch 116 12 = some (.ifCond .eq 7, 3) := rfl
theorem f116_15 : pm_fetch 116 15 = some (.iconst 1, 1) := rfl
theorem f116_16 : pm_fetch 116 16 = some (.goto 4, 3) := rfl
theorem f116_19 : pm_fetch 116 19 = some (.iconst 0, 1) := rfl
theorem f116_20 : pm_fetch 116 20 = some (.ireturn, 1) := rfl
theorem f117_0 : pm_fetch 117 0 = some (.iconst 0, 1) := rfl
theorem f117_1 : pm_fetch 117 1 = some (.istore_n 1, 1) := rfl
theorem f117_2 : pm_fetch 117 2 = some (.iconst 0, 1) := rfl
theorem f117_3 : pm_fetch 117 3 = some (.istore_n 2, 1) := rfl
theorem f117_4 : pm_fetch 117 4 = some (.iload_n 2, 1) := rfl
theorem f117_5 : pm_fetch 117 5 = some (.aload_n 0, 1) := rfl
theorem f117_6 : pm_fetch 117 6 = some (.getfield 83, 3) := rfl
theorem f117_9 : pm_fetch 117 9 = some (.if_icmp .ge 22, 3) := rfl
theorem f117_12 : pm_fetch 117 12 = some (.iload_n 1, 1) := rfl
theorem f117_13 : pm_fetch 117 13 = some (.iconst 1, 1) := rfl
theorem f117_14 : pm_fetch 117 14 = some (.aload_n 0, 1) := rfl
theorem f117_15 : pm_fetch 117 15 = some (.getfield 19, 3) := rfl
theorem f117_18 : pm_fetch 117 18 = some (.iload_n 2, 1) := rfl
theorem f117_19 : pm_fetch 117 19 = some (.iaload, 1) := rfl
theorem f117_20 : pm_fetch 117 20 = some (.isub, 1) := rfl
theorem f117_21 : pm_fetch 117 21 = some (.iload_n 2, 1) := rfl
theorem f117_22 : pm_fetch 117 22 = some (.ishl, 1) := rfl
theorem f117_23 : pm_fetch 117 23 = some (.ior, 1) := rfl
theorem f117_24 : pm_fetch 117 24 = some (.istore_n 1, 1) := rfl
theorem f117_25 : pm_fetch 117 25 = some (.iinc 2 1, 3) := rfl
theorem f117_28 : pm_fetch 117 28 = some (.goto (-24), 3) := rfl
theorem f117_31 : pm_fetch 117 31 = some (.iload_n 1, 1) := rfl
theorem f117_32 : pm_fetch 117 32 = some (.ireturn, 1) := rfl
theorem f118_0 : pm_fetch 118 0 = some (.iload_n 1, 1) := rfl
theorem f118_1 : pm_fetch 118 1 = some (.tableswitch 97 0 7 #[47, 52, 61, 66, 74, 82, 87, 92], 47) := rfl
theorem f118_48 : pm_fetch 118 48 = some (.aload_n 0, 1) := rfl
theorem f118_49 : pm_fetch 118 49 = some (.getfield 83, 3) := rfl
theorem f118_52 : pm_fetch 118 52 = some (.ireturn, 1) := rfl
theorem f118_53 : pm_fetch 118 53 = some (.aload_n 0, 1) := rfl
theorem f118_54 : pm_fetch 118 54 = some (.invokevirtual 98, 3) := rfl
theorem f118_57 : pm_fetch 118 57 = some (.i2l, 1) := rfl
theorem f118_58 : pm_fetch 118 58 = some (.invokestatic 101, 3) := rfl
theorem f118_61 : pm_fetch 118 61 = some (.ireturn, 1) := rfl
theorem f118_62 : pm_fetch 118 62 = some (.aload_n 0, 1) := rfl
theorem f118_63 : pm_fetch 118 63 = some (.getfield 105, 3) := rfl
theorem f118_66 : pm_fetch 118 66 = some (.ireturn, 1) := rfl
theorem f118_67 : pm_fetch 118 67 = some (.aload_n 0, 1) := rfl
theorem f118_68 : pm_fetch 118 68 = some (.getfield 108, 3) := rfl
theorem f118_71 : pm_fetch 118 71 = some (.invokestatic 101, 3) := rfl
theorem f118_74 : pm_fetch 118 74 = some (.ireturn, 1) := rfl
theorem f118_75 : pm_fetch 118 75 = some (.aload_n 0, 1) := rfl
theorem f118_76 : pm_fetch 118 76 = some (.getfield 94, 3) := rfl
theorem f118_79 : pm_fetch 118 79 = some (.invokestatic 101, 3) := rfl
theorem f118_82 : pm_fetch 118 82 = some (.ireturn, 1) := rfl
theorem f118_83 : pm_fetch 118 83 = some (.aload_n 0, 1) := rfl
theorem f118_84 : pm_fetch 118 84 = some (.getfield 111, 3) := rfl
theorem f118_87 : pm_fetch 118 87 = some (.ireturn, 1) := rfl
theorem f118_88 : pm_fetch 118 88 = some (.aload_n 0, 1) := rfl
theorem f118_89 : pm_fetch 118 89 = some (.getfield 114, 3) := rfl
theorem f118_92 : pm_fetch 118 92 = some (.ireturn, 1) := rfl
theorem f118_93 : pm_fetch 118 93 = some (.aload_n 0, 1) := rfl
theorem f118_94 : pm_fetch 118 94 = some (.getfield 71, 3) := rfl
theorem f118_97 : pm_fetch 118 97 = some (.ireturn, 1) := rfl
theorem f118_98 : pm_fetch 118 98 = some (.bipush (-2), 2) := rfl
theorem f118_100 : pm_fetch 118 100 = some (.ireturn, 1) := rfl
theorem f119_0 : pm_fetch 119 0 = some (.iload_n 1, 1) := rfl
theorem f119_1 : pm_fetch 119 1 = some (.invokestatic 117, 3) := rfl
theorem f119_4 : pm_fetch 119 4 = some (.ifCond .ne 6, 3) := rfl
theorem f119_7 : pm_fetch 119 7 = some (.bipush (-5), 2) := rfl
theorem f119_9 : pm_fetch 119 9 = some (.ireturn, 1) := rfl
theorem f119_10 : pm_fetch 119 10 = some (.iload_n 2, 1) := rfl
theorem f119_11 : pm_fetch 119 11 = some (.iconst 0, 1) := rfl
theorem f119_12 : pm_fetch 119 12 = some (.iconst 1, 1) := rfl
theorem f119_13 : pm_fetch 119 13 = some (.invokestatic 79, 3) := rfl
theorem f119_16 : pm_fetch 119 16 = some (.ifCond .eq 12, 3) := rfl
theorem f119_19 : pm_fetch 119 19 = some (.iload_n 3, 1) := rfl
theorem f119_20 : pm_fetch 119 20 = some (.iconst 0, 1) := rfl
theorem f119_21 : pm_fetch 119 21 = some (.iconst 1, 1) := rfl
theorem f119_22 : pm_fetch 119 22 = some (.invokestatic 79, 3) := rfl
theorem f119_25 : pm_fetch 119 25 = some (.ifCond .ne 6, 3) := rfl
theorem f119_28 : pm_fetch 119 28 = some (.bipush (-7), 2) := rfl
theorem f119_30 : pm_fetch 119 30 = some (.ireturn, 1) := rfl
theorem f119_31 : pm_fetch 119 31 = some (.iload_n 2, 1) := rfl
theorem f119_32 : pm_fetch 119 32 = some (.ifCond .ne 10, 3) := rfl
theorem f119_35 : pm_fetch 119 35 = some (.aload_n 0, 1) := rfl
theorem f119_36 : pm_fetch 119 36 = some (.getfield 108, 3) := rfl
theorem f119_39 : pm_fetch 119 39 = some (.goto 7, 3) := rfl
theorem f119_42 : pm_fetch 119 42 = some (.aload_n 0, 1) := rfl
theorem f119_43 : pm_fetch 119 43 = some (.getfield 94, 3) := rfl
theorem f119_46 : pm_fetch 119 46 = some (.lstore 4, 2) := rfl
theorem f119_48 : pm_fetch 119 48 = some (.iload_n 3, 1) := rfl
theorem f119_49 : pm_fetch 119 49 = some (.iconst 1, 1) := rfl
theorem f119_50 : pm_fetch 119 50 = some (.if_icmp .ne 12, 3) := rfl
theorem f119_53 : pm_fetch 119 53 = some (.lload 4, 2) := rfl
theorem f119_55 : pm_fetch 119 55 = some (.lconst 1, 1) := rfl
theorem f119_56 : pm_fetch 119 56 = some (.iload_n 1, 1) := rfl
theorem f119_57 : pm_fetch 119 57 = some (.lshl, 1) := rfl
theorem f119_58 : pm_fetch 119 58 = some (.lor, 1) := rfl
theorem f119_59 : pm_fetch 119 59 = some (.goto 13, 3) := rfl
theorem f119_62 : pm_fetch 119 62 = some (.lload 4, 2) := rfl
theorem f119_64 : pm_fetch 119 64 = some (.lconst 1, 1) := rfl
theorem f119_65 : pm_fetch 119 65 = some (.iload_n 1, 1) := rfl
theorem f119_66 : pm_fetch 119 66 = some (.lshl, 1) := rfl
theorem f119_67 : pm_fetch 119 67 = some (.ldc2_w 121, 3) := rfl
theorem f119_70 : pm_fetch 119 70 = some (.lxor, 1) := rfl
theorem f119_71 : pm_fetch 119 71 = some (.land, 1) := rfl
theorem f119_72 : pm_fetch 119 72 = some (.lstore 6, 2) := rfl
theorem f119_74 : pm_fetch 119 74 = some (.iload_n 2, 1) := rfl
theorem f119_75 : pm_fetch 119 75 = some (.ifCond .ne 12, 3) := rfl
theorem f119_78 : pm_fetch 119 78 = some (.aload_n 0, 1) := rfl
theorem f119_79 : pm_fetch 119 79 = some (.lload 6, 2) := rfl
theorem f119_81 : pm_fetch 119 81 = some (.putfield 108, 3) := rfl
theorem f119_84 : pm_fetch 119 84 = some (.goto 9, 3) := rfl
theorem f119_87 : pm_fetch 119 87 = some (.aload_n 0, 1) := rfl
theorem f119_88 : pm_fetch 119 88 = some (.lload 6, 2) := rfl
theorem f119_90 : pm_fetch 119 90 = some (.putfield 94, 3) := rfl
theorem f119_93 : pm_fetch 119 93 = some (.lload 4, 2) := rfl
theorem f119_95 : pm_fetch 119 95 = some (.iload_n 1, 1) := rfl
theorem f119_96 : pm_fetch 119 96 = some (.lshr, 1) := rfl
theorem f119_97 : pm_fetch 119 97 = some (.lconst 1, 1) := rfl
theorem f119_98 : pm_fetch 119 98 = some (.land, 1) := rfl
theorem f119_99 : pm_fetch 119 99 = some (.lconst 1, 1) := rfl
theorem f119_100 : pm_fetch 119 100 = some (.lcmp, 1) := rfl
theorem f119_101 : pm_fetch 119 101 = some (.ifCond .ne 7, 3) := rfl
theorem f119_104 : pm_fetch 119 104 = some (.iconst 1, 1) := rfl
theorem f119_105 : pm_fetch 119 105 = some (.goto 4, 3) := rfl
theorem f119_108 : pm_fetch 119 108 = some (.iconst 0, 1) := rfl
theorem f119_109 : pm_fetch 119 109 = some (.ireturn, 1) := rfl
theorem f120_0 : pm_fetch 120 0 = some (.iload_n 1, 1) := rfl
theorem f120_1 : pm_fetch 120 1 = some (.tableswitch 56 0 3 #[31, 36, 41, 46], 31) := rfl
theorem f120_32 : pm_fetch 120 32 = some (.aload_n 0, 1) := rfl
theorem f120_33 : pm_fetch 120 33 = some (.getfield 108, 3) := rfl
theorem f120_36 : pm_fetch 120 36 = some (.lreturn, 1) := rfl
theorem f120_37 : pm_fetch 120 37 = some (.aload_n 0, 1) := rfl
theorem f120_38 : pm_fetch 120 38 = some (.getfield 94, 3) := rfl
theorem f120_41 : pm_fetch 120 41 = some (.lreturn, 1) := rfl
theorem f120_42 : pm_fetch 120 42 = some (.aload_n 0, 1) := rfl
theorem f120_43 : pm_fetch 120 43 = some (.invokevirtual 123, 3) := rfl
theorem f120_46 : pm_fetch 120 46 = some (.lreturn, 1) := rfl
theorem f120_47 : pm_fetch 120 47 = some (.aload_n 0, 1) := rfl
theorem f120_48 : pm_fetch 120 48 = some (.invokevirtual 123, 3) := rfl
theorem f120_51 : pm_fetch 120 51 = some (.aload_n 0, 1) := rfl
theorem f120_52 : pm_fetch 120 52 = some (.getfield 108, 3) := rfl
theorem f120_55 : pm_fetch 120 55 = some (.land, 1) := rfl
theorem f120_56 : pm_fetch 120 56 = some (.lreturn, 1) := rfl
theorem f120_57 : pm_fetch 120 57 = some (.ldc2_w 127, 3) := rfl
theorem f120_60 : pm_fetch 120 60 = some (.lreturn, 1) := rfl
theorem f121_0 : pm_fetch 121 0 = some (.iload_n 0, 1) := rfl
theorem f121_1 : pm_fetch 121 1 = some (.iconst 0, 1) := rfl
theorem f121_2 : pm_fetch 121 2 = some (.sipush 255, 3) := rfl
theorem f121_5 : pm_fetch 121 5 = some (.invokestatic 79, 3) := rfl
theorem f121_8 : pm_fetch 121 8 = some (.ireturn, 1) := rfl
theorem f122_0 : pm_fetch 122 0 = some (.iload_n 1, 1) := rfl
theorem f122_1 : pm_fetch 122 1 = some (.iconst 1, 1) := rfl
theorem f122_2 : pm_fetch 122 2 = some (.iconst 5, 1) := rfl
theorem f122_3 : pm_fetch 122 3 = some (.invokestatic 79, 3) := rfl
theorem f122_6 : pm_fetch 122 6 = some (.ifCond .eq 41, 3) := rfl
theorem f122_9 : pm_fetch 122 9 = some (.iload_n 2, 1) := rfl
theorem f122_10 : pm_fetch 122 10 = some (.invokestatic 129, 3) := rfl
theorem f122_13 : pm_fetch 122 13 = some (.ifCond .eq 34, 3) := rfl
theorem f122_16 : pm_fetch 122 16 = some (.iload_n 3, 1) := rfl
theorem f122_17 : pm_fetch 122 17 = some (.invokestatic 129, 3) := rfl
theorem f122_20 : pm_fetch 122 20 = some (.ifCond .eq 27, 3) := rfl
theorem f122_23 : pm_fetch 122 23 = some (.iload 4, 2) := rfl
theorem f122_25 : pm_fetch 122 25 = some (.invokestatic 129, 3) := rfl
theorem f122_28 : pm_fetch 122 28 = some (.ifCond .eq 19, 3) := rfl
theorem f122_31 : pm_fetch 122 31 = some (.iload 5, 2) := rfl
theorem f122_33 : pm_fetch 122 33 = some (.invokestatic 129, 3) := rfl
theorem f122_36 : pm_fetch 122 36 = some (.ifCond .eq 11, 3) := rfl
theorem f122_39 : pm_fetch 122 39 = some (.iload 6, 2) := rfl
theorem f122_41 : pm_fetch 122 41 = some (.invokestatic 129, 3) := rfl
theorem f122_44 : pm_fetch 122 44 = some (.ifCond .ne 6, 3) := rfl
theorem f122_47 : pm_fetch 122 47 = some (.bipush (-2), 2) := rfl
theorem f122_49 : pm_fetch 122 49 = some (.ireturn, 1) := rfl
theorem f122_50 : pm_fetch 122 50 = some (.aload_n 0, 1) := rfl
theorem f122_51 : pm_fetch 122 51 = some (.getfield 71, 3) := rfl
theorem f122_54 : pm_fetch 122 54 = some (.iload_n 1, 1) := rfl
theorem f122_55 : pm_fetch 122 55 = some (.iadd, 1) := rfl
theorem f122_56 : pm_fetch 122 56 = some (.sipush 160, 3) := rfl
theorem f122_59 : pm_fetch 122 59 = some (.if_icmp .le 6, 3) := rfl
theorem f122_62 : pm_fetch 122 62 = some (.bipush (-4), 2) := rfl
theorem f122_64 : pm_fetch 122 64 = some (.ireturn, 1) := rfl
theorem f122_65 : pm_fetch 122 65 = some (.iconst 0, 1) := rfl
theorem f122_66 : pm_fetch 122 66 = some (.istore 7, 2) := rfl
theorem f122_68 : pm_fetch 122 68 = some (.iload 7, 2) := rfl
theorem f122_70 : pm_fetch 122 70 = some (.iload_n 1, 1) := rfl
theorem f122_71 : pm_fetch 122 71 = some (.if_icmp .ge 71, 3) := rfl
theorem f122_74 : pm_fetch 122 74 = some (.aload_n 0, 1) := rfl
theorem f122_75 : pm_fetch 122 75 = some (.getfield 22, 3) := rfl
theorem f122_78 : pm_fetch 122 78 = some (.aload_n 0, 1) := rfl
theorem f122_79 : pm_fetch 122 79 = some (.getfield 71, 3) := rfl
theorem f122_82 : pm_fetch 122 82 = some (.iload 7, 2) := rfl
theorem f122_84 : pm_fetch 122 84 = some (.ifCond .ne 7, 3) := rfl
theorem f122_87 : pm_fetch 122 87 = some (.iload_n 2, 1) := rfl
theorem f122_88 : pm_fetch 122 88 = some (.goto 37, 3) := rfl
theorem f122_91 : pm_fetch 122 91 = some (.iload 7, 2) := rfl
theorem f122_93 : pm_fetch 122 93 = some (.iconst 1, 1) := rfl
theorem f122_94 : pm_fetch 122 94 = some (.if_icmp .ne 7, 3) := rfl
theorem f122_97 : pm_fetch 122 97 = some (.iload_n 3, 1) := rfl
theorem f122_98 : pm_fetch 122 98 = some (.goto 27, 3) := rfl
theorem f122_101 : pm_fetch 122 101 = some (.iload 7, 2) := rfl
theorem f122_103 : pm_fetch 122 103 = some (.iconst 2, 1) := rfl
theorem f122_104 : pm_fetch 122 104 = some (.if_icmp .ne 8, 3) := rfl
theorem f122_107 : pm_fetch 122 107 = some (.iload 4, 2) := rfl
theorem f122_109 : pm_fetch 122 109 = some (.goto 16, 3) := rfl
theorem f122_112 : pm_fetch 122 112 = some (.iload 7, 2) := rfl
theorem f122_114 : pm_fetch 122 114 = some (.iconst 3, 1) := rfl
theorem f122_115 : pm_fetch 122 115 = some (.if_icmp .ne 8, 3) := rfl
theorem f122_118 : pm_fetch 122 118 = some (.iload 5, 2) := rfl
theorem f122_120 : pm_fetch 122 120 = some (.goto 5, 3) := rfl
theorem f122_123 : pm_fetch 122 123 = some (.iload 6, 2) := rfl
theorem f122_125 : pm_fetch 122 125 = some (.iastore, 1) := rfl
theorem f122_126 : pm_fetch 122 126 = some (.aload_n 0, 1) := rfl
theorem f122_127 : pm_fetch 122 127 = some (.dup, 1) := rfl
theorem f122_128 : pm_fetch 122 128 = some (.getfield 71, 3) := rfl
theorem f122_131 : pm_fetch 122 131 = some (.iconst 1, 1) := rfl
theorem f122_132 : pm_fetch 122 132 = some (.iadd, 1) := rfl
theorem f122_133 : pm_fetch 122 133 = some (.putfield 71, 3) := rfl
theorem f122_136 : pm_fetch 122 136 = some (.iinc 7 1, 3) := rfl
theorem f122_139 : pm_fetch 122 139 = some (.goto (-71), 3) := rfl
theorem f122_142 : pm_fetch 122 142 = some (.aload_n 0, 1) := rfl
theorem f122_143 : pm_fetch 122 143 = some (.getfield 71, 3) := rfl
theorem f122_146 : pm_fetch 122 146 = some (.ireturn, 1) := rfl
theorem f123_0 : pm_fetch 123 0 = some (.iconst 0, 1) := rfl
theorem f123_1 : pm_fetch 123 1 = some (.istore_n 3, 1) := rfl
theorem f123_2 : pm_fetch 123 2 = some (.iload_n 3, 1) := rfl
theorem f123_3 : pm_fetch 123 3 = some (.bipush 12, 2) := rfl
theorem f123_5 : pm_fetch 123 5 = some (.if_icmp .ge 96, 3) := rfl
theorem f123_8 : pm_fetch 123 8 = some (.iload_n 2, 1) := rfl
theorem f123_9 : pm_fetch 123 9 = some (.iload_n 1, 1) := rfl
theorem f123_10 : pm_fetch 123 10 = some (.isub, 1) := rfl
theorem f123_11 : pm_fetch 123 11 = some (.bipush 8, 2) := rfl
theorem f123_13 : pm_fetch 123 13 = some (.if_icmp .gt 7, 3) := rfl
theorem f123_16 : pm_fetch 123 16 = some (.iconst 1, 1) := rfl
theorem f123_17 : pm_fetch 123 17 = some (.goto 4, 3) := rfl
theorem f123_20 : pm_fetch 123 20 = some (.iconst 0, 1) := rfl
theorem f123_21 : pm_fetch 123 21 = some (.istore 4, 2) := rfl
theorem f123_23 : pm_fetch 123 23 = some (.iconst 0, 1) := rfl
theorem f123_24 : pm_fetch 123 24 = some (.istore 5, 2) := rfl
theorem f123_26 : pm_fetch 123 26 = some (.iload 5, 2) := rfl
theorem f123_28 : pm_fetch 123 28 = some (.bipush 8, 2) := rfl
theorem f123_30 : pm_fetch 123 30 = some (.if_icmp .ge 58, 3) := rfl
theorem f123_33 : pm_fetch 123 33 = some (.iload 4, 2) := rfl
theorem f123_35 : pm_fetch 123 35 = some (.ifCond .eq 53, 3) := rfl
theorem f123_38 : pm_fetch 123 38 = some (.aload_n 0, 1) := rfl
theorem f123_39 : pm_fetch 123 39 = some (.getfield 53, 3) := rfl
theorem f123_42 : pm_fetch 123 42 = some (.bipush 8, 2) := rfl
theorem f123_44 : pm_fetch 123 44 = some (.iload_n 3, 1) := rfl
theorem f123_45 : pm_fetch 123 45 = some (.imul, 1) := rfl
theorem f123_46 : pm_fetch 123 46 = some (.iload 5, 2) := rfl
theorem f123_48 : pm_fetch 123 48 = some (.iadd, 1) := rfl
theorem f123_49 : pm_fetch 123 49 = some (.iaload, 1) := rfl
theorem f123_50 : pm_fetch 123 50 = some (.iload_n 1, 1) := rfl
theorem f123_51 : pm_fetch 123 51 = some (.iload 5, 2) := rfl
theorem f123_53 : pm_fetch 123 53 = some (.iadd, 1) := rfl
theorem f123_54 : pm_fetch 123 54 = some (.iload_n 2, 1) := rfl
theorem f123_55 : pm_fetch 123 55 = some (.if_icmp .ge 15, 3) := rfl
theorem f123_58 : pm_fetch 123 58 = some (.aload_n 0, 1) := rfl
theorem f123_59 : pm_fetch 123 59 = some (.getfield 22, 3) := rfl
theorem f123_62 : pm_fetch 123 62 = some (.iload_n 1, 1) := rfl
theorem f123_63 : pm_fetch 123 63 = some (.iload 5, 2) := rfl
theorem f123_65 : pm_fetch 123 65 = some (.iadd, 1) := rfl
theorem f123_66 : pm_fetch 123 66 = some (.iaload, 1) := rfl
theorem f123_67 : pm_fetch 123 67 = some (.goto 5, 3) := rfl
theorem f123_70 : pm_fetch 123 70 = some (.bipush 32, 2) := rfl
theorem f123_72 : pm_fetch 123 72 = some (.if_icmp .ne 7, 3) := rfl
theorem f123_75 : pm_fetch 123 75 = some (.iconst 1, 1) := rfl
theorem f123_76 : pm_fetch 123 76 = some (.goto 4, 3) := rfl
theorem f123_79 : pm_fetch 123 79 = some (.iconst 0, 1) := rfl
theorem f123_80 : pm_fetch 123 80 = some (.istore 4, 2) := rfl
theorem f123_82 : pm_fetch 123 82 = some (.iinc 5 1, 3) := rfl
theorem f123_85 : pm_fetch 123 85 = some (.goto (-59), 3) := rfl
theorem f123_88 : pm_fetch 123 88 = some (.iload 4, 2) := rfl
theorem f123_90 : pm_fetch 123 90 = some (.ifCond .eq 5, 3) := rfl
theorem f123_93 : pm_fetch 123 93 = some (.iload_n 3, 1) := rfl
theorem f123_94 : pm_fetch 123 94 = some (.ireturn, 1) := rfl
theorem f123_95 : pm_fetch 123 95 = some (.iinc 3 1, 3) := rfl
theorem f123_98 : pm_fetch 123 98 = some (.goto (-96), 3) := rfl
theorem f123_101 : pm_fetch 123 101 = some (.bipush 12, 2) := rfl
theorem f123_103 : pm_fetch 123 103 = some (.ireturn, 1) := rfl
theorem f124_0 : pm_fetch 124 0 = some (.aload_n 0, 1) := rfl
theorem f124_1 : pm_fetch 124 1 = some (.getfield 132, 3) := rfl
theorem f124_4 : pm_fetch 124 4 = some (.aload_n 0, 1) := rfl
theorem f124_5 : pm_fetch 124 5 = some (.getfield 71, 3) := rfl
theorem f124_8 : pm_fetch 124 8 = some (.if_icmp .ge 44, 3) := rfl
theorem f124_11 : pm_fetch 124 11 = some (.aload_n 0, 1) := rfl
theorem f124_12 : pm_fetch 124 12 = some (.getfield 22, 3) := rfl
theorem f124_15 : pm_fetch 124 15 = some (.aload_n 0, 1) := rfl
theorem f124_16 : pm_fetch 124 16 = some (.getfield 132, 3) := rfl
theorem f124_19 : pm_fetch 124 19 = some (.iaload, 1) := rfl
theorem f124_20 : pm_fetch 124 20 = some (.bipush 32, 2) := rfl
theorem f124_22 : pm_fetch 124 22 = some (.if_icmp .eq 17, 3) := rfl
theorem f124_25 : pm_fetch 124 25 = some (.aload_n 0, 1) := rfl
theorem f124_26 : pm_fetch 124 26 = some (.getfield 22, 3) := rfl
theorem f124_29 : pm_fetch 124 29 = some (.aload_n 0, 1) := rfl
theorem f124_30 : pm_fetch 124 30 = some (.getfield 132, 3) := rfl
theorem f124_33 : pm_fetch 124 33 = some (.iaload, 1) := rfl
theorem f124_34 : pm_fetch 124 34 = some (.bipush 10, 2) := rfl
theorem f124_36 : pm_fetch 124 36 = some (.if_icmp .ne 16, 3) := rfl
theorem f124_39 : pm_fetch 124 39 = some (.aload_n 0, 1) := rfl
theorem f124_40 : pm_fetch 124 40 = some (.dup, 1) := rfl
theorem f124_41 : pm_fetch 124 41 = some (.getfield 132, 3) := rfl
theorem f124_44 : pm_fetch 124 44 = some (.iconst 1, 1) := rfl
theorem f124_45 : pm_fetch 124 45 = some (.iadd, 1) := rfl
theorem f124_46 : pm_fetch 124 46 = some (.putfield 132, 3) := rfl
theorem f124_49 : pm_fetch 124 49 = some (.goto (-49), 3) := rfl
theorem f124_52 : pm_fetch 124 52 = some (.aload_n 0, 1) := rfl
theorem f124_53 : pm_fetch 124 53 = some (.aload_n 0, 1) := rfl
theorem f124_54 : pm_fetch 124 54 = some (.getfield 132, 3) := rfl
theorem f124_57 : pm_fetch 124 57 = some (.putfield 135, 3) := rfl
theorem f124_60 : pm_fetch 124 60 = some (.aload_n 0, 1) := rfl
theorem f124_61 : pm_fetch 124 61 = some (.iconst 0, 1) := rfl
theorem f124_62 : pm_fetch 124 62 = some (.putfield 138, 3) := rfl
theorem f124_65 : pm_fetch 124 65 = some (.aload_n 0, 1) := rfl
theorem f124_66 : pm_fetch 124 66 = some (.iconst 0, 1) := rfl
theorem f124_67 : pm_fetch 124 67 = some (.putfield 141, 3) := rfl
theorem f124_70 : pm_fetch 124 70 = some (.aload_n 0, 1) := rfl
theorem f124_71 : pm_fetch 124 71 = some (.getfield 132, 3) := rfl
theorem f124_74 : pm_fetch 124 74 = some (.aload_n 0, 1) := rfl
theorem f124_75 : pm_fetch 124 75 = some (.getfield 71, 3) := rfl
theorem f124_78 : pm_fetch 124 78 = some (.if_icmp .ne 4, 3) := rfl
theorem f124_81 : pm_fetch 124 81 = some (.return_, 1) := rfl
theorem f124_82 : pm_fetch 124 82 = some (.aload_n 0, 1) := rfl
theorem f124_83 : pm_fetch 124 83 = some (.getfield 22, 3) := rfl
theorem f124_86 : pm_fetch 124 86 = some (.aload_n 0, 1) := rfl
theorem f124_87 : pm_fetch 124 87 = some (.getfield 132, 3) := rfl
theorem f124_90 : pm_fetch 124 90 = some (.iaload, 1) := rfl
theorem f124_91 : pm_fetch 124 91 = some (.istore_n 1, 1) := rfl
theorem f124_92 : pm_fetch 124 92 = some (.iload_n 1, 1) := rfl
theorem f124_93 : pm_fetch 124 93 = some (.bipush 97, 2) := rfl
theorem f124_95 : pm_fetch 124 95 = some (.bipush 122, 2) := rfl
theorem f124_97 : pm_fetch 124 97 = some (.invokestatic 79, 3) := rfl
theorem f124_100 : pm_fetch 124 100 = some (.ifCond .eq 117, 3) := rfl
theorem f124_103 : pm_fetch 124 103 = some (.aload_n 0, 1) := rfl
theorem f124_104 : pm_fetch 124 104 = some (.getfield 132, 3) := rfl
theorem f124_107 : pm_fetch 124 107 = some (.aload_n 0, 1) := rfl
theorem f124_108 : pm_fetch 124 108 = some (.getfield 71, 3) := rfl
theorem f124_111 : pm_fetch 124 111 = some (.if_icmp .ge 35, 3) := rfl
theorem f124_114 : pm_fetch 124 114 = some (.aload_n 0, 1) := rfl
theorem f124_115 : pm_fetch 124 115 = some (.getfield 22, 3) := rfl
theorem f124_118 : pm_fetch 124 118 = some (.aload_n 0, 1) := rfl
theorem f124_119 : pm_fetch 124 119 = some (.getfield 132, 3) := rfl
theorem f124_122 : pm_fetch 124 122 = some (.iaload, 1) := rfl
theorem f124_123 : pm_fetch 124 123 = some (.bipush 97, 2) := rfl
theorem f124_125 : pm_fetch 124 125 = some (.bipush 122, 2) := rfl
theorem f124_127 : pm_fetch 124 127 = some (.invokestatic 79, 3) := rfl
theorem f124_130 : pm_fetch 124 130 = some (.ifCond .eq 16, 3) := rfl
theorem f124_133 : pm_fetch 124 133 = some (.aload_n 0, 1) := rfl
theorem f124_134 : pm_fetch 124 134 = some (.dup, 1) := rfl
theorem f124_135 : pm_fetch 124 135 = some (.getfield 132, 3) := rfl
theorem f124_138 : pm_fetch 124 138 = some (.iconst 1, 1) := rfl
theorem f124_139 : pm_fetch 124 139 = some (.iadd, 1) := rfl
theorem f124_140 : pm_fetch 124 140 = some (.putfield 132, 3) := rfl
theorem f124_143 : pm_fetch 124 143 = some (.goto (-40), 3) := rfl
theorem f124_146 : pm_fetch 124 146 = some (.aload_n 0, 1) := rfl
theorem f124_147 : pm_fetch 124 147 = some (.aload_n 0, 1) := rfl
theorem f124_148 : pm_fetch 124 148 = some (.getfield 135, 3) := rfl
theorem f124_151 : pm_fetch 124 151 = some (.aload_n 0, 1) := rfl
theorem f124_152 : pm_fetch 124 152 = some (.getfield 132, 3) := rfl
theorem f124_155 : pm_fetch 124 155 = some (.invokevirtual 144, 3) := rfl
theorem f124_158 : pm_fetch 124 158 = some (.istore_n 2, 1) := rfl
theorem f124_159 : pm_fetch 124 159 = some (.aload_n 0, 1) := rfl
theorem f124_160 : pm_fetch 124 160 = some (.iload_n 2, 1) := rfl
theorem f124_161 : pm_fetch 124 161 = some (.iconst 3, 1) := rfl
theorem f124_162 : pm_fetch 124 162 = some (.if_icmp .ge 7, 3) := rfl
theorem f124_165 : pm_fetch 124 165 = some (.iconst 3, 1) := rfl
theorem f124_166 : pm_fetch 124 166 = some (.goto 29, 3) := rfl
theorem f124_169 : pm_fetch 124 169 = some (.iload_n 2, 1) := rfl
theorem f124_170 : pm_fetch 124 170 = some (.bipush 9, 2) := rfl
theorem f124_172 : pm_fetch 124 172 = some (.if_icmp .ge 7, 3) := rfl
theorem f124_175 : pm_fetch 124 175 = some (.iconst 2, 1) := rfl
theorem f124_176 : pm_fetch 124 176 = some (.goto 19, 3) := rfl
theorem f124_179 : pm_fetch 124 179 = some (.iload_n 2, 1) := rfl
theorem f124_180 : pm_fetch 124 180 = some (.bipush 12, 2) := rfl
theorem f124_182 : pm_fetch 124 182 = some (.if_icmp .ne 7, 3) := rfl
theorem f124_185 : pm_fetch 124 185 = some (.iconst (-1), 1) := rfl
theorem f124_186 : pm_fetch 124 186 = some (.goto 9, 3) := rfl
theorem f124_189 : pm_fetch 124 189 = some (.iconst 4, 1) := rfl
theorem f124_190 : pm_fetch 124 190 = some (.iload_n 2, 1) := rfl
theorem f124_191 : pm_fetch 124 191 = some (.iadd, 1) := rfl
theorem f124_192 : pm_fetch 124 192 = some (.bipush 9, 2) := rfl
theorem f124_194 : pm_fetch 124 194 = some (.isub, 1) := rfl
theorem f124_195 : pm_fetch 124 195 = some (.putfield 138, 3) := rfl
theorem f124_198 : pm_fetch 124 198 = some (.aload_n 0, 1) := rfl
theorem f124_199 : pm_fetch 124 199 = some (.iload_n 2, 1) := rfl
theorem f124_200 : pm_fetch 124 200 = some (.iconst 3, 1) := rfl
theorem f124_201 : pm_fetch 124 201 = some (.if_icmp .ge 7, 3) := rfl
theorem f124_204 : pm_fetch 124 204 = some (.iload_n 2, 1) := rfl
theorem f124_205 : pm_fetch 124 205 = some (.goto 6, 3) := rfl
theorem f124_208 : pm_fetch 124 208 = some (.iload_n 2, 1) := rfl
theorem f124_209 : pm_fetch 124 209 = some (.iconst 3, 1) := rfl
theorem f124_210 : pm_fetch 124 210 = some (.isub, 1) := rfl
theorem f124_211 : pm_fetch 124 211 = some (.putfield 141, 3) := rfl
theorem f124_214 : pm_fetch 124 214 = some (.goto 189, 3) := rfl
theorem f124_217 : pm_fetch 124 217 = some (.iload_n 1, 1) := rfl
theorem f124_218 : pm_fetch 124 218 = some (.bipush 48, 2) := rfl
theorem f124_220 : pm_fetch 124 220 = some (.bipush 57, 2) := rfl
theorem f124_222 : pm_fetch 124 222 = some (.invokestatic 79, 3) := rfl
theorem f124_225 : pm_fetch 124 225 = some (.ifCond .eq 101, 3) := rfl
theorem f124_228 : pm_fetch 124 228 = some (.iconst 0, 1) := rfl
theorem f124_229 : pm_fetch 124 229 = some (.istore_n 2, 1) := rfl
theorem f124_230 : pm_fetch 124 230 = some (.aload_n 0, 1) := rfl
theorem f124_231 : pm_fetch 124 231 = some (.getfield 132, 3) := rfl
theorem f124_234 : pm_fetch 124 234 = some (.aload_n 0, 1) := rfl
theorem f124_235 : pm_fetch 124 235 = some (.getfield 71, 3) := rfl
theorem f124_238 : pm_fetch 124 238 = some (.if_icmp .ge 71, 3) := rfl
theorem f124_241 : pm_fetch 124 241 = some (.aload_n 0, 1) := rfl
theorem f124_242 : pm_fetch 124 242 = some (.getfield 22, 3) := rfl
theorem f124_245 : pm_fetch 124 245 = some (.aload_n 0, 1) := rfl
theorem f124_246 : pm_fetch 124 246 = some (.getfield 132, 3) := rfl
theorem f124_249 : pm_fetch 124 249 = some (.iaload, 1) := rfl
theorem f124_250 : pm_fetch 124 250 = some (.bipush 48, 2) := rfl
theorem f124_252 : pm_fetch 124 252 = some (.bipush 57, 2) := rfl
theorem f124_254 : pm_fetch 124 254 = some (.invokestatic 79, 3) := rfl
theorem f124_257 : pm_fetch 124 257 = some (.ifCond .eq 52, 3) := rfl
theorem f124_260 : pm_fetch 124 260 = some (.aload_n 0, 1) := rfl
theorem f124_261 : pm_fetch 124 261 = some (.iload_n 2, 1) := rfl
theorem f124_262 : pm_fetch 124 262 = some (.iconst 4, 1) := rfl
theorem f124_263 : pm_fetch 124 263 = some (.if_icmp .ge 26, 3) := rfl
theorem f124_266 : pm_fetch 124 266 = some (.bipush 10, 2) := rfl
theorem f124_268 : pm_fetch 124 268 = some (.aload_n 0, 1) := rfl
theorem f124_269 : pm_fetch 124 269 = some (.getfield 141, 3) := rfl
theorem f124_272 : pm_fetch 124 272 = some (.imul, 1) := rfl
theorem f124_273 : pm_fetch 124 273 = some (.aload_n 0, 1) := rfl
theorem f124_274 : pm_fetch 124 274 = some (.getfield 22, 3) := rfl
theorem f124_277 : pm_fetch 124 277 = some (.aload_n 0, 1) := rfl
theorem f124_278 : pm_fetch 124 278 = some (.getfield 132, 3) := rfl
theorem f124_281 : pm_fetch 124 281 = some (.iaload, 1) := rfl
theorem f124_282 : pm_fetch 124 282 = some (.iadd, 1) := rfl
theorem f124_283 : pm_fetch 124 283 = some (.bipush 48, 2) := rfl
theorem f124_285 : pm_fetch 124 285 = some (.isub, 1) := rfl
theorem f124_286 : pm_fetch 124 286 = some (.goto 4, 3) := rfl
theorem f124_289 : pm_fetch 124 289 = some (.iconst 0, 1) := rfl
theorem f124_290 : pm_fetch 124 290 = some (.putfield 141, 3) := rfl
theorem f124_293 : pm_fetch 124 293 = some (.iinc 2 1, 3) := rfl
theorem f124_296 : pm_fetch 124 296 = some (.aload_n 0, 1) := rfl
theorem f124_297 : pm_fetch 124 297 = some (.dup, 1) := rfl
theorem f124_298 : pm_fetch 124 298 = some (.getfield 132, 3) := rfl
theorem f124_301 : pm_fetch 124 301 = some (.iconst 1, 1) := rfl
theorem f124_302 : pm_fetch 124 302 = some (.iadd, 1) := rfl
theorem f124_303 : pm_fetch 124 303 = some (.putfield 132, 3) := rfl
theorem f124_306 : pm_fetch 124 306 = some (.goto (-76), 3) := rfl
theorem f124_309 : pm_fetch 124 309 = some (.aload_n 0, 1) := rfl
theorem f124_310 : pm_fetch 124 310 = some (.iload_n 2, 1) := rfl
theorem f124_311 : pm_fetch 124 311 = some (.iconst 4, 1) := rfl
theorem f124_312 : pm_fetch 124 312 = some (.if_icmp .le 7, 3) := rfl
theorem f124_315 : pm_fetch 124 315 = some (.iconst (-1), 1) := rfl
theorem f124_316 : pm_fetch 124 316 = some (.goto 4, 3) := rfl
theorem f124_319 : pm_fetch 124 319 = some (.iconst 1, 1) := rfl
theorem f124_320 : pm_fetch 124 320 = some (.putfield 138, 3) := rfl
theorem f124_323 : pm_fetch 124 323 = some (.goto 80, 3) := rfl
theorem f124_326 : pm_fetch 124 326 = some (.iload_n 1, 1) := rfl
theorem f124_327 : pm_fetch 124 327 = some (.bipush 40, 2) := rfl
theorem f124_329 : pm_fetch 124 329 = some (.if_icmp .eq 45, 3) := rfl
theorem f124_332 : pm_fetch 124 332 = some (.iload_n 1, 1) := rfl
theorem f124_333 : pm_fetch 124 333 = some (.bipush 41, 2) := rfl
theorem f124_335 : pm_fetch 124 335 = some (.if_icmp .eq 39, 3) := rfl
theorem f124_338 : pm_fetch 124 338 = some (.iload_n 1, 1) := rfl
theorem f124_339 : pm_fetch 124 339 = some (.bipush 59, 2) := rfl
theorem f124_341 : pm_fetch 124 341 = some (.if_icmp .eq 33, 3) := rfl
theorem f124_344 : pm_fetch 124 344 = some (.iload_n 1, 1) := rfl
theorem f124_345 : pm_fetch 124 345 = some (.bipush 43, 2) := rfl
theorem f124_347 : pm_fetch 124 347 = some (.if_icmp .eq 27, 3) := rfl
theorem f124_350 : pm_fetch 124 350 = some (.iload_n 1, 1) := rfl
theorem f124_351 : pm_fetch 124 351 = some (.bipush 45, 2) := rfl
theorem f124_353 : pm_fetch 124 353 = some (.if_icmp .eq 21, 3) := rfl
theorem f124_356 : pm_fetch 124 356 = some (.iload_n 1, 1) := rfl
theorem f124_357 : pm_fetch 124 357 = some (.bipush 42, 2) := rfl
theorem f124_359 : pm_fetch 124 359 = some (.if_icmp .eq 15, 3) := rfl
theorem f124_362 : pm_fetch 124 362 = some (.iload_n 1, 1) := rfl
theorem f124_363 : pm_fetch 124 363 = some (.bipush 60, 2) := rfl
theorem f124_365 : pm_fetch 124 365 = some (.if_icmp .eq 9, 3) := rfl
theorem f124_368 : pm_fetch 124 368 = some (.iload_n 1, 1) := rfl
theorem f124_369 : pm_fetch 124 369 = some (.bipush 61, 2) := rfl
theorem f124_371 : pm_fetch 124 371 = some (.if_icmp .ne 7, 3) := rfl
theorem f124_374 : pm_fetch 124 374 = some (.iconst 1, 1) := rfl
theorem f124_375 : pm_fetch 124 375 = some (.goto 4, 3) := rfl
theorem f124_378 : pm_fetch 124 378 = some (.iconst 0, 1) := rfl
theorem f124_379 : pm_fetch 124 379 = some (.istore_n 2, 1) := rfl
theorem f124_380 : pm_fetch 124 380 = some (.aload_n 0, 1) := rfl
theorem f124_381 : pm_fetch 124 381 = some (.iload_n 2, 1) := rfl
theorem f124_382 : pm_fetch 124 382 = some (.ifCond .eq 7, 3) := rfl
theorem f124_385 : pm_fetch 124 385 = some (.iload_n 1, 1) := rfl
theorem f124_386 : pm_fetch 124 386 = some (.goto 4, 3) := rfl
theorem f124_389 : pm_fetch 124 389 = some (.iconst (-1), 1) := rfl
theorem f124_390 : pm_fetch 124 390 = some (.putfield 138, 3) := rfl
theorem f124_393 : pm_fetch 124 393 = some (.aload_n 0, 1) := rfl
theorem f124_394 : pm_fetch 124 394 = some (.dup, 1) := rfl
theorem f124_395 : pm_fetch 124 395 = some (.getfield 132, 3) := rfl
theorem f124_398 : pm_fetch 124 398 = some (.iconst 1, 1) := rfl
theorem f124_399 : pm_fetch 124 399 = some (.iadd, 1) := rfl
theorem f124_400 : pm_fetch 124 400 = some (.putfield 132, 3) := rfl
theorem f124_403 : pm_fetch 124 403 = some (.return_, 1) := rfl
theorem f125_0 : pm_fetch 125 0 = some (.iload_n 0, 1) := rfl
theorem f125_1 : pm_fetch 125 1 = some (.ifCond .ne 7, 3) := rfl
theorem f125_4 : pm_fetch 125 4 = some (.iconst 0, 1) := rfl
theorem f125_5 : pm_fetch 125 5 = some (.goto 66, 3) := rfl
theorem f125_8 : pm_fetch 125 8 = some (.iload_n 0, 1) := rfl
theorem f125_9 : pm_fetch 125 9 = some (.bipush 11, 2) := rfl
theorem f125_11 : pm_fetch 125 11 = some (.if_icmp .ne 7, 3) := rfl
theorem f125_14 : pm_fetch 125 14 = some (.iconst 1, 1) := rfl
theorem f125_15 : pm_fetch 125 15 = some (.goto 56, 3) := rfl
theorem f125_18 : pm_fetch 125 18 = some (.iload_n 0, 1) := rfl
theorem f125_19 : pm_fetch 125 19 = some (.bipush 12, 2) := rfl
theorem f125_21 : pm_fetch 125 21 = some (.if_icmp .ne 7, 3) := rfl
theorem f125_24 : pm_fetch 125 24 = some (.iconst 2, 1) := rfl
theorem f125_25 : pm_fetch 125 25 = some (.goto 46, 3) := rfl
theorem f125_28 : pm_fetch 125 28 = some (.iload_n 0, 1) := rfl
theorem f125_29 : pm_fetch 125 29 = some (.bipush 13, 2) := rfl
theorem f125_31 : pm_fetch 125 31 = some (.if_icmp .ne 7, 3) := rfl
theorem f125_34 : pm_fetch 125 34 = some (.iconst 3, 1) := rfl
theorem f125_35 : pm_fetch 125 35 = some (.goto 36, 3) := rfl
theorem f125_38 : pm_fetch 125 38 = some (.iload_n 0, 1) := rfl
theorem f125_39 : pm_fetch 125 39 = some (.bipush 15, 2) := rfl
theorem f125_41 : pm_fetch 125 41 = some (.if_icmp .gt 7, 3) := rfl
theorem f125_44 : pm_fetch 125 44 = some (.iconst 4, 1) := rfl
theorem f125_45 : pm_fetch 125 45 = some (.goto 26, 3) := rfl
theorem f125_48 : pm_fetch 125 48 = some (.iload_n 0, 1) := rfl
theorem f125_49 : pm_fetch 125 49 = some (.bipush 17, 2) := rfl
theorem f125_51 : pm_fetch 125 51 = some (.if_icmp .gt 7, 3) := rfl
theorem f125_54 : pm_fetch 125 54 = some (.iconst 5, 1) := rfl
theorem f125_55 : pm_fetch 125 55 = some (.goto 16, 3) := rfl
theorem f125_58 : pm_fetch 125 58 = some (.iload_n 0, 1) := rfl
theorem f125_59 : pm_fetch 125 59 = some (.bipush 18, 2) := rfl
theorem f125_61 : pm_fetch 125 61 = some (.if_icmp .ne 8, 3) := rfl
theorem f125_64 : pm_fetch 125 64 = some (.bipush 6, 2) := rfl
theorem f125_66 : pm_fetch 125 66 = some (.goto 5, 3) := rfl
theorem f125_69 : pm_fetch 125 69 = some (.bipush 7, 2) := rfl
theorem f125_71 : pm_fetch 125 71 = some (.ireturn, 1) := rfl
theorem f126_0 : pm_fetch 126 0 = some (.aload_n 0, 1) := rfl
theorem f126_1 : pm_fetch 126 1 = some (.getfield 25, 3) := rfl
theorem f126_4 : pm_fetch 126 4 = some (.sipush 200, 3) := rfl
theorem f126_7 : pm_fetch 126 7 = some (.aload_n 0, 1) := rfl
theorem f126_8 : pm_fetch 126 8 = some (.getfield 111, 3) := rfl
theorem f126_11 : pm_fetch 126 11 = some (.imul, 1) := rfl
theorem f126_12 : pm_fetch 126 12 = some (.aload_n 0, 1) := rfl
theorem f126_13 : pm_fetch 126 13 = some (.getfield 148, 3) := rfl
theorem f126_16 : pm_fetch 126 16 = some (.iadd, 1) := rfl
theorem f126_17 : pm_fetch 126 17 = some (.iload_n 1, 1) := rfl
theorem f126_18 : pm_fetch 126 18 = some (.iastore, 1) := rfl
theorem f126_19 : pm_fetch 126 19 = some (.aload_n 0, 1) := rfl
theorem f126_20 : pm_fetch 126 20 = some (.dup, 1) := rfl
theorem f126_21 : pm_fetch 126 21 = some (.getfield 148, 3) := rfl
theorem f126_24 : pm_fetch 126 24 = some (.iconst 1, 1) := rfl
theorem f126_25 : pm_fetch 126 25 = some (.iadd, 1) := rfl
theorem f126_26 : pm_fetch 126 26 = some (.putfield 148, 3) := rfl
theorem f126_29 : pm_fetch 126 29 = some (.return_, 1) := rfl
theorem f127_0 : pm_fetch 127 0 = some (.aload_n 0, 1) := rfl
theorem f127_1 : pm_fetch 127 1 = some (.getfield 151, 3) := rfl
theorem f127_4 : pm_fetch 127 4 = some (.ifCond .le 75, 3) := rfl
theorem f127_7 : pm_fetch 127 7 = some (.aload_n 0, 1) := rfl
theorem f127_8 : pm_fetch 127 8 = some (.getfield 56, 3) := rfl
theorem f127_11 : pm_fetch 127 11 = some (.aload_n 0, 1) := rfl
theorem f127_12 : pm_fetch 127 12 = some (.getfield 151, 3) := rfl
theorem f127_15 : pm_fetch 127 15 = some (.iconst 1, 1) := rfl
theorem f127_16 : pm_fetch 127 16 = some (.isub, 1) := rfl
theorem f127_17 : pm_fetch 127 17 = some (.iaload, 1) := rfl
theorem f127_18 : pm_fetch 127 18 = some (.invokestatic 154, 3) := rfl
theorem f127_21 : pm_fetch 127 21 = some (.iload_n 1, 1) := rfl
theorem f127_22 : pm_fetch 127 22 = some (.if_icmp .lt 57, 3) := rfl
theorem f127_25 : pm_fetch 127 25 = some (.aload_n 0, 1) := rfl
theorem f127_26 : pm_fetch 127 26 = some (.dup, 1) := rfl
theorem f127_27 : pm_fetch 127 27 = some (.getfield 151, 3) := rfl
theorem f127_30 : pm_fetch 127 30 = some (.iconst 1, 1) := rfl
theorem f127_31 : pm_fetch 127 31 = some (.isub, 1) := rfl
theorem f127_32 : pm_fetch 127 32 = some (.putfield 151, 3) := rfl
theorem f127_35 : pm_fetch 127 35 = some (.aload_n 0, 1) := rfl
theorem f127_36 : pm_fetch 127 36 = some (.getfield 56, 3) := rfl
theorem f127_39 : pm_fetch 127 39 = some (.aload_n 0, 1) := rfl
theorem f127_40 : pm_fetch 127 40 = some (.getfield 151, 3) := rfl
theorem f127_43 : pm_fetch 127 43 = some (.iaload, 1) := rfl
theorem f127_44 : pm_fetch 127 44 = some (.istore_n 2, 1) := rfl
theorem f127_45 : pm_fetch 127 45 = some (.aload_n 0, 1) := rfl
theorem f127_46 : pm_fetch 127 46 = some (.dup, 1) := rfl
theorem f127_47 : pm_fetch 127 47 = some (.getfield 158, 3) := rfl
theorem f127_50 : pm_fetch 127 50 = some (.iload_n 2, 1) := rfl
theorem f127_51 : pm_fetch 127 51 = some (.bipush 13, 2) := rfl
theorem f127_53 : pm_fetch 127 53 = some (.if_icmp .eq 9, 3) := rfl
theorem f127_56 : pm_fetch 127 56 = some (.iload_n 2, 1) := rfl
theorem f127_57 : pm_fetch 127 57 = some (.bipush 19, 2) := rfl
theorem f127_59 : pm_fetch 127 59 = some (.if_icmp .ne 7, 3) := rfl
theorem f127_62 : pm_fetch 127 62 = some (.iconst 1, 1) := rfl
theorem f127_63 : pm_fetch 127 63 = some (.goto 4, 3) := rfl
theorem f127_66 : pm_fetch 127 66 = some (.iconst 0, 1) := rfl
theorem f127_67 : pm_fetch 127 67 = some (.isub, 1) := rfl
theorem f127_68 : pm_fetch 127 68 = some (.putfield 158, 3) := rfl
theorem f127_71 : pm_fetch 127 71 = some (.aload_n 0, 1) := rfl
theorem f127_72 : pm_fetch 127 72 = some (.iload_n 2, 1) := rfl
theorem f127_73 : pm_fetch 127 73 = some (.invokevirtual 161, 3) := rfl
theorem f127_76 : pm_fetch 127 76 = some (.goto (-76), 3) := rfl
theorem f127_79 : pm_fetch 127 79 = some (.return_, 1) := rfl
theorem f128_0 : pm_fetch 128 0 = some (.aload_n 0, 1) := rfl
theorem f128_1 : pm_fetch 128 1 = some (.getfield 56, 3) := rfl
theorem f128_4 : pm_fetch 128 4 = some (.aload_n 0, 1) := rfl
theorem f128_5 : pm_fetch 128 5 = some (.getfield 151, 3) := rfl
theorem f128_8 : pm_fetch 128 8 = some (.iload_n 1, 1) := rfl
theorem f128_9 : pm_fetch 128 9 = some (.iastore, 1) := rfl
theorem f128_10 : pm_fetch 128 10 = some (.aload_n 0, 1) := rfl
theorem f128_11 : pm_fetch 128 11 = some (.dup, 1) := rfl
theorem f128_12 : pm_fetch 128 12 = some (.getfield 151, 3) := rfl
theorem f128_15 : pm_fetch 128 15 = some (.iconst 1, 1) := rfl
theorem f128_16 : pm_fetch 128 16 = some (.iadd, 1) := rfl
theorem f128_17 : pm_fetch 128 17 = some (.putfield 151, 3) := rfl
theorem f128_20 : pm_fetch 128 20 = some (.return_, 1) := rfl
theorem f129_0 : pm_fetch 129 0 = some (.aload_n 0, 1) := rfl
theorem f129_1 : pm_fetch 129 1 = some (.getfield 158, 3) := rfl
theorem f129_4 : pm_fetch 129 4 = some (.iconst 5, 1) := rfl
theorem f129_5 : pm_fetch 129 5 = some (.if_icmp .ne 5, 3) := rfl
theorem f129_8 : pm_fetch 129 8 = some (.iconst 0, 1) := rfl
theorem f129_9 : pm_fetch 129 9 = some (.ireturn, 1) := rfl
theorem f129_10 : pm_fetch 129 10 = some (.aload_n 0, 1) := rfl
theorem f129_11 : pm_fetch 129 11 = some (.dup, 1) := rfl
theorem f129_12 : pm_fetch 129 12 = some (.getfield 158, 3) := rfl
theorem f129_15 : pm_fetch 129 15 = some (.iconst 1, 1) := rfl
theorem f129_16 : pm_fetch 129 16 = some (.iadd, 1) := rfl
theorem f129_17 : pm_fetch 129 17 = some (.putfield 158, 3) := rfl
theorem f129_20 : pm_fetch 129 20 = some (.aload_n 0, 1) := rfl
theorem f129_21 : pm_fetch 129 21 = some (.iload_n 1, 1) := rfl
theorem f129_22 : pm_fetch 129 22 = some (.invokevirtual 165, 3) := rfl
theorem f129_25 : pm_fetch 129 25 = some (.iconst 1, 1) := rfl
theorem f129_26 : pm_fetch 129 26 = some (.ireturn, 1) := rfl
theorem f130_0 : pm_fetch 130 0 = some (.aload_n 0, 1) := rfl
theorem f130_1 : pm_fetch 130 1 = some (.iload_n 1, 1) := rfl
theorem f130_2 : pm_fetch 130 2 = some (.invokestatic 154, 3) := rfl
theorem f130_5 : pm_fetch 130 5 = some (.iconst 4, 1) := rfl
theorem f130_6 : pm_fetch 130 6 = some (.if_icmp .ne 7, 3) := rfl
theorem f130_9 : pm_fetch 130 9 = some (.iconst 5, 1) := rfl
theorem f130_10 : pm_fetch 130 10 = some (.goto 7, 3) := rfl
theorem f130_13 : pm_fetch 130 13 = some (.iload_n 1, 1) := rfl
theorem f130_14 : pm_fetch 130 14 = some (.invokestatic 154, 3) := rfl
theorem f130_17 : pm_fetch 130 17 = some (.invokevirtual 168, 3) := rfl
theorem f130_20 : pm_fetch 130 20 = some (.iload_n 1, 1) := rfl
theorem f130_21 : pm_fetch 130 21 = some (.invokestatic 154, 3) := rfl
theorem f130_24 : pm_fetch 130 24 = some (.iconst 4, 1) := rfl
theorem f130_25 : pm_fetch 130 25 = some (.if_icmp .ne 30, 3) := rfl
theorem f130_28 : pm_fetch 130 28 = some (.aload_n 0, 1) := rfl
theorem f130_29 : pm_fetch 130 29 = some (.getfield 151, 3) := rfl
theorem f130_32 : pm_fetch 130 32 = some (.ifCond .le 23, 3) := rfl
theorem f130_35 : pm_fetch 130 35 = some (.aload_n 0, 1) := rfl
theorem f130_36 : pm_fetch 130 36 = some (.getfield 56, 3) := rfl
theorem f130_39 : pm_fetch 130 39 = some (.aload_n 0, 1) := rfl
theorem f130_40 : pm_fetch 130 40 = some (.getfield 151, 3) := rfl
theorem f130_43 : pm_fetch 130 43 = some (.iconst 1, 1) := rfl
theorem f130_44 : pm_fetch 130 44 = some (.isub, 1) := rfl
theorem f130_45 : pm_fetch 130 45 = some (.iaload, 1) := rfl
theorem f130_46 : pm_fetch 130 46 = some (.invokestatic 154, 3) := rfl
theorem f130_49 : pm_fetch 130 49 = some (.iconst 4, 1) := rfl
theorem f130_50 : pm_fetch 130 50 = some (.if_icmp .ne 5, 3) := rfl
theorem f130_53 : pm_fetch 130 53 = some (.iconst 0, 1) := rfl
theorem f130_54 : pm_fetch 130 54 = some (.ireturn, 1) := rfl
theorem f130_55 : pm_fetch 130 55 = some (.aload_n 0, 1) := rfl
theorem f130_56 : pm_fetch 130 56 = some (.iload_n 1, 1) := rfl
theorem f130_57 : pm_fetch 130 57 = some (.invokevirtual 165, 3) := rfl
theorem f130_60 : pm_fetch 130 60 = some (.iconst 1, 1) := rfl
theorem f130_61 : pm_fetch 130 61 = some (.ireturn, 1) := rfl
theorem f131_0 : pm_fetch 131 0 = some (.aload_n 0, 1) := rfl
theorem f131_1 : pm_fetch 131 1 = some (.getfield 138, 3) := rfl
theorem f131_4 : pm_fetch 131 4 = some (.iconst 4, 1) := rfl
theorem f131_5 : pm_fetch 131 5 = some (.if_icmp .ne 8, 3) := rfl
theorem f131_8 : pm_fetch 131 8 = some (.bipush 11, 2) := rfl
theorem f131_10 : pm_fetch 131 10 = some (.goto 87, 3) := rfl
theorem f131_13 : pm_fetch 131 13 = some (.aload_n 0, 1) := rfl
theorem f131_14 : pm_fetch 131 14 = some (.getfield 138, 3) := rfl
theorem f131_17 : pm_fetch 131 17 = some (.iconst 5, 1) := rfl
theorem f131_18 : pm_fetch 131 18 = some (.if_icmp .ne 8, 3) := rfl
theorem f131_21 : pm_fetch 131 21 = some (.bipush 12, 2) := rfl
theorem f131_23 : pm_fetch 131 23 = some (.goto 74, 3) := rfl
theorem f131_26 : pm_fetch 131 26 = some (.aload_n 0, 1) := rfl
theorem f131_27 : pm_fetch 131 27 = some (.getfield 138, 3) := rfl
theorem f131_30 : pm_fetch 131 30 = some (.bipush 60, 2) := rfl
theorem f131_32 : pm_fetch 131 32 = some (.if_icmp .ne 8, 3) := rfl
theorem f131_35 : pm_fetch 131 35 = some (.bipush 14, 2) := rfl
theorem f131_37 : pm_fetch 131 37 = some (.goto 60, 3) := rfl
theorem f131_40 : pm_fetch 131 40 = some (.aload_n 0, 1) := rfl
theorem f131_41 : pm_fetch 131 41 = some (.getfield 138, 3) := rfl
theorem f131_44 : pm_fetch 131 44 = some (.bipush 61, 2) := rfl
theorem f131_46 : pm_fetch 131 46 = some (.if_icmp .ne 8, 3) := rfl
theorem f131_49 : pm_fetch 131 49 = some (.bipush 15, 2) := rfl
theorem f131_51 : pm_fetch 131 51 = some (.goto 46, 3) := rfl
theorem f131_54 : pm_fetch 131 54 = some (.aload_n 0, 1) := rfl
theorem f131_55 : pm_fetch 131 55 = some (.getfield 138, 3) := rfl
theorem f131_58 : pm_fetch 131 58 = some (.bipush 43, 2) := rfl
theorem f131_60 : pm_fetch 131 60 = some (.if_icmp .ne 8, 3) := rfl
theorem f131_63 : pm_fetch 131 63 = some (.bipush 16, 2) := rfl
theorem f131_65 : pm_fetch 131 65 = some (.goto 32, 3) := rfl
theorem f131_68 : pm_fetch 131 68 = some (.aload_n 0, 1) := rfl
theorem f131_69 : pm_fetch 131 69 = some (.getfield 138, 3) := rfl
theorem f131_72 : pm_fetch 131 72 = some (.bipush 45, 2) := rfl
theorem f131_74 : pm_fetch 131 74 = some (.if_icmp .ne 8, 3) := rfl
theorem f131_77 : pm_fetch 131 77 = some (.bipush 17, 2) := rfl
theorem f131_79 : pm_fetch 131 79 = some (.goto 18, 3) := rfl
theorem f131_82 : pm_fetch 131 82 = some (.aload_n 0, 1) := rfl
theorem f131_83 : pm_fetch 131 83 = some (.getfield 138, 3) := rfl
theorem f131_86 : pm_fetch 131 86 = some (.bipush 42, 2) := rfl
theorem f131_88 : pm_fetch 131 88 = some (.if_icmp .ne 8, 3) := rfl
theorem f131_91 : pm_fetch 131 91 = some (.bipush 18, 2) := rfl
theorem f131_93 : pm_fetch 131 93 = some (.goto 4, 3) := rfl
theorem f131_96 : pm_fetch 131 96 = some (.iconst (-1), 1) := rfl
theorem f131_97 : pm_fetch 131 97 = some (.ireturn, 1) := rfl
theorem f132_0 : pm_fetch 132 0 = some (.aload_n 0, 1) := rfl
theorem f132_1 : pm_fetch 132 1 = some (.iconst 0, 1) := rfl
theorem f132_2 : pm_fetch 132 2 = some (.putfield 151, 3) := rfl
theorem f132_5 : pm_fetch 132 5 = some (.aload_n 0, 1) := rfl
theorem f132_6 : pm_fetch 132 6 = some (.iconst 0, 1) := rfl
theorem f132_7 : pm_fetch 132 7 = some (.putfield 158, 3) := rfl
theorem f132_10 : pm_fetch 132 10 = some (.iconst 1, 1) := rfl
theorem f132_11 : pm_fetch 132 11 = some (.istore_n 1, 1) := rfl
theorem f132_12 : pm_fetch 132 12 = some (.iconst 1, 1) := rfl
theorem f132_13 : pm_fetch 132 13 = some (.istore_n 2, 1) := rfl
theorem f132_14 : pm_fetch 132 14 = some (.aload_n 0, 1) := rfl
theorem f132_15 : pm_fetch 132 15 = some (.invokevirtual 171, 3) := rfl
theorem f132_18 : pm_fetch 132 18 = some (.iload_n 1, 1) := rfl
theorem f132_19 : pm_fetch 132 19 = some (.ifCond .eq 131, 3) := rfl
theorem f132_22 : pm_fetch 132 22 = some (.aload_n 0, 1) := rfl
theorem f132_23 : pm_fetch 132 23 = some (.getfield 138, 3) := rfl
theorem f132_26 : pm_fetch 132 26 = some (.iconst 1, 1) := rfl
theorem f132_27 : pm_fetch 132 27 = some (.if_icmp .eq 11, 3) := rfl
theorem f132_30 : pm_fetch 132 30 = some (.aload_n 0, 1) := rfl
theorem f132_31 : pm_fetch 132 31 = some (.getfield 138, 3) := rfl
theorem f132_34 : pm_fetch 132 34 = some (.iconst 2, 1) := rfl
theorem f132_35 : pm_fetch 132 35 = some (.if_icmp .ne 40, 3) := rfl
theorem f132_38 : pm_fetch 132 38 = some (.aload_n 0, 1) := rfl
theorem f132_39 : pm_fetch 132 39 = some (.aload_n 0, 1) := rfl
theorem f132_40 : pm_fetch 132 40 = some (.getfield 138, 3) := rfl
theorem f132_43 : pm_fetch 132 43 = some (.iconst 1, 1) := rfl
theorem f132_44 : pm_fetch 132 44 = some (.if_icmp .ne 13, 3) := rfl
theorem f132_47 : pm_fetch 132 47 = some (.ldc 174, 2) := rfl
theorem f132_49 : pm_fetch 132 49 = some (.aload_n 0, 1) := rfl
theorem f132_50 : pm_fetch 132 50 = some (.getfield 141, 3) := rfl
theorem f132_53 : pm_fetch 132 53 = some (.iadd, 1) := rfl
theorem f132_54 : pm_fetch 132 54 = some (.goto 7, 3) := rfl
theorem f132_57 : pm_fetch 132 57 = some (.aload_n 0, 1) := rfl
theorem f132_58 : pm_fetch 132 58 = some (.getfield 141, 3) := rfl
theorem f132_61 : pm_fetch 132 61 = some (.invokevirtual 161, 3) := rfl
theorem f132_64 : pm_fetch 132 64 = some (.aload_n 0, 1) := rfl
theorem f132_65 : pm_fetch 132 65 = some (.bipush 7, 2) := rfl
theorem f132_67 : pm_fetch 132 67 = some (.invokevirtual 168, 3) := rfl
theorem f132_70 : pm_fetch 132 70 = some (.iconst 0, 1) := rfl
theorem f132_71 : pm_fetch 132 71 = some (.istore_n 1, 1) := rfl
theorem f132_72 : pm_fetch 132 72 = some (.goto (-58), 3) := rfl
theorem f132_75 : pm_fetch 132 75 = some (.aload_n 0, 1) := rfl
theorem f132_76 : pm_fetch 132 76 = some (.getfield 138, 3) := rfl
theorem f132_79 : pm_fetch 132 79 = some (.bipush 6, 2) := rfl
theorem f132_81 : pm_fetch 132 81 = some (.if_icmp .ne 18, 3) := rfl
theorem f132_84 : pm_fetch 132 84 = some (.iload_n 2, 1) := rfl
theorem f132_85 : pm_fetch 132 85 = some (.ifCond .eq 14, 3) := rfl
theorem f132_88 : pm_fetch 132 88 = some (.aload_n 0, 1) := rfl
theorem f132_89 : pm_fetch 132 89 = some (.bipush 13, 2) := rfl
theorem f132_91 : pm_fetch 132 91 = some (.invokevirtual 175, 3) := rfl
theorem f132_94 : pm_fetch 132 94 = some (.ifCond .ne (-80), 3) := rfl
theorem f132_97 : pm_fetch 132 97 = some (.iconst 0, 1) := rfl
theorem f132_98 : pm_fetch 132 98 = some (.ireturn, 1) := rfl
theorem f132_99 : pm_fetch 132 99 = some (.aload_n 0, 1) := rfl
theorem f132_100 : pm_fetch 132 100 = some (.getfield 138, 3) := rfl
theorem f132_103 : pm_fetch 132 103 = some (.bipush 45, 2) := rfl
theorem f132_105 : pm_fetch 132 105 = some (.if_icmp .ne 19, 3) := rfl
theorem f132_108 : pm_fetch 132 108 = some (.aload_n 0, 1) := rfl
theorem f132_109 : pm_fetch 132 109 = some (.bipush 19, 2) := rfl
theorem f132_111 : pm_fetch 132 111 = some (.invokevirtual 175, 3) := rfl
theorem f132_114 : pm_fetch 132 114 = some (.ifCond .ne 5, 3) := rfl
theorem f132_117 : pm_fetch 132 117 = some (.iconst 0, 1) := rfl
theorem f132_118 : pm_fetch 132 118 = some (.ireturn, 1) := rfl
theorem f132_119 : pm_fetch 132 119 = some (.iconst 0, 1) := rfl
theorem f132_120 : pm_fetch 132 120 = some (.istore_n 2, 1) := rfl
theorem f132_121 : pm_fetch 132 121 = some (.goto (-107), 3) := rfl
theorem f132_124 : pm_fetch 132 124 = some (.aload_n 0, 1) := rfl
theorem f132_125 : pm_fetch 132 125 = some (.getfield 138, 3) := rfl
theorem f132_128 : pm_fetch 132 128 = some (.bipush 40, 2) := rfl
theorem f132_130 : pm_fetch 132 130 = some (.if_icmp .ne 18, 3) := rfl
theorem f132_133 : pm_fetch 132 133 = some (.aload_n 0, 1) := rfl
theorem f132_134 : pm_fetch 132 134 = some (.iconst 0, 1) := rfl
theorem f132_135 : pm_fetch 132 135 = some (.invokevirtual 175, 3) := rfl
theorem f132_138 : pm_fetch 132 138 = some (.ifCond .ne 5, 3) := rfl
theorem f132_141 : pm_fetch 132 141 = some (.iconst 0, 1) := rfl
theorem f132_142 : pm_fetch 132 142 = some (.ireturn, 1) := rfl
theorem f132_143 : pm_fetch 132 143 = some (.iconst 1, 1) := rfl
theorem f132_144 : pm_fetch 132 144 = some (.istore_n 2, 1) := rfl
theorem f132_145 : pm_fetch 132 145 = some (.goto (-131), 3) := rfl
theorem f132_148 : pm_fetch 132 148 = some (.iconst 0, 1) := rfl
theorem f132_149 : pm_fetch 132 149 = some (.ireturn, 1) := rfl
theorem f132_150 : pm_fetch 132 150 = some (.aload_n 0, 1) := rfl
theorem f132_151 : pm_fetch 132 151 = some (.getfield 138, 3) := rfl
theorem f132_154 : pm_fetch 132 154 = some (.bipush 59, 2) := rfl
theorem f132_156 : pm_fetch 132 156 = some (.if_icmp .ne 21, 3) := rfl
theorem f132_159 : pm_fetch 132 159 = some (.aload_n 0, 1) := rfl
theorem f132_160 : pm_fetch 132 160 = some (.iconst 1, 1) := rfl
theorem f132_161 : pm_fetch 132 161 = some (.invokevirtual 168, 3) := rfl
theorem f132_164 : pm_fetch 132 164 = some (.aload_n 0, 1) := rfl
theorem f132_165 : pm_fetch 132 165 = some (.getfield 151, 3) := rfl
theorem f132_168 : pm_fetch 132 168 = some (.ifCond .ne 7, 3) := rfl
theorem f132_171 : pm_fetch 132 171 = some (.iconst 1, 1) := rfl
theorem f132_172 : pm_fetch 132 172 = some (.goto 4, 3) := rfl
theorem f132_175 : pm_fetch 132 175 = some (.iconst 0, 1) := rfl
theorem f132_176 : pm_fetch 132 176 = some (.ireturn, 1) := rfl
theorem f132_177 : pm_fetch 132 177 = some (.aload_n 0, 1) := rfl
theorem f132_178 : pm_fetch 132 178 = some (.getfield 138, 3) := rfl
theorem f132_181 : pm_fetch 132 181 = some (.bipush 41, 2) := rfl
theorem f132_183 : pm_fetch 132 183 = some (.if_icmp .ne 46, 3) := rfl
theorem f132_186 : pm_fetch 132 186 = some (.aload_n 0, 1) := rfl
theorem f132_187 : pm_fetch 132 187 = some (.iconst 1, 1) := rfl
theorem f132_188 : pm_fetch 132 188 = some (.invokevirtual 168, 3) := rfl
theorem f132_191 : pm_fetch 132 191 = some (.aload_n 0, 1) := rfl
theorem f132_192 : pm_fetch 132 192 = some (.getfield 151, 3) := rfl
theorem f132_195 : pm_fetch 132 195 = some (.ifCond .ne 5, 3) := rfl
theorem f132_198 : pm_fetch 132 198 = some (.iconst 0, 1) := rfl
theorem f132_199 : pm_fetch 132 199 = some (.ireturn, 1) := rfl
theorem f132_200 : pm_fetch 132 200 = some (.aload_n 0, 1) := rfl
theorem f132_201 : pm_fetch 132 201 = some (.dup, 1) := rfl
theorem f132_202 : pm_fetch 132 202 = some (.getfield 151, 3) := rfl
theorem f132_205 : pm_fetch 132 205 = some (.iconst 1, 1) := rfl
theorem f132_206 : pm_fetch 132 206 = some (.isub, 1) := rfl
theorem f132_207 : pm_fetch 132 207 = some (.putfield 151, 3) := rfl
theorem f132_210 : pm_fetch 132 210 = some (.aload_n 0, 1) := rfl
theorem f132_211 : pm_fetch 132 211 = some (.dup, 1) := rfl
theorem f132_212 : pm_fetch 132 212 = some (.getfield 158, 3) := rfl
theorem f132_215 : pm_fetch 132 215 = some (.iconst 1, 1) := rfl
theorem f132_216 : pm_fetch 132 216 = some (.isub, 1) := rfl
theorem f132_217 : pm_fetch 132 217 = some (.putfield 158, 3) := rfl
theorem f132_220 : pm_fetch 132 220 = some (.aload_n 0, 1) := rfl
theorem f132_221 : pm_fetch 132 221 = some (.bipush 7, 2) := rfl
theorem f132_223 : pm_fetch 132 223 = some (.invokevirtual 168, 3) := rfl
theorem f132_226 : pm_fetch 132 226 = some (.goto (-212), 3) := rfl
theorem f132_229 : pm_fetch 132 229 = some (.aload_n 0, 1) := rfl
theorem f132_230 : pm_fetch 132 230 = some (.invokevirtual 178, 3) := rfl
theorem f132_233 : pm_fetch 132 233 = some (.istore_n 3, 1) := rfl
theorem f132_234 : pm_fetch 132 234 = some (.iload_n 3, 1) := rfl
theorem f132_235 : pm_fetch 132 235 = some (.iconst (-1), 1) := rfl
theorem f132_236 : pm_fetch 132 236 = some (.if_icmp .eq 11, 3) := rfl
theorem f132_239 : pm_fetch 132 239 = some (.aload_n 0, 1) := rfl
theorem f132_240 : pm_fetch 132 240 = some (.iload_n 3, 1) := rfl
theorem f132_241 : pm_fetch 132 241 = some (.invokevirtual 181, 3) := rfl
theorem f132_244 : pm_fetch 132 244 = some (.ifCond .ne 5, 3) := rfl
theorem f132_247 : pm_fetch 132 247 = some (.iconst 0, 1) := rfl
theorem f132_248 : pm_fetch 132 248 = some (.ireturn, 1) := rfl
theorem f132_249 : pm_fetch 132 249 = some (.iconst 1, 1) := rfl
theorem f132_250 : pm_fetch 132 250 = some (.istore_n 1, 1) := rfl
theorem f132_251 : pm_fetch 132 251 = some (.iload_n 3, 1) := rfl
theorem f132_252 : pm_fetch 132 252 = some (.bipush 12, 2) := rfl
theorem f132_254 : pm_fetch 132 254 = some (.if_icmp .gt 7, 3) := rfl
theorem f132_257 : pm_fetch 132 257 = some (.iconst 1, 1) := rfl
theorem f132_258 : pm_fetch 132 258 = some (.goto 4, 3) := rfl
theorem f132_261 : pm_fetch 132 261 = some (.iconst 0, 1) := rfl
theorem f132_262 : pm_fetch 132 262 = some (.istore_n 2, 1) := rfl
theorem f132_263 : pm_fetch 132 263 = some (.goto (-249), 3) := rfl
theorem f133_0 : pm_fetch 133 0 = some (.aload_n 0, 1) := rfl
theorem f133_1 : pm_fetch 133 1 = some (.getfield 111, 3) := rfl
theorem f133_4 : pm_fetch 133 4 = some (.bipush 6, 2) := rfl
theorem f133_6 : pm_fetch 133 6 = some (.if_icmp .ne 6, 3) := rfl
theorem f133_9 : pm_fetch 133 9 = some (.bipush (-4), 2) := rfl
theorem f133_11 : pm_fetch 133 11 = some (.ireturn, 1) := rfl
theorem f133_12 : pm_fetch 133 12 = some (.aload_n 0, 1) := rfl
theorem f133_13 : pm_fetch 133 13 = some (.iconst 0, 1) := rfl
theorem f133_14 : pm_fetch 133 14 = some (.putfield 132, 3) := rfl
theorem f133_17 : pm_fetch 133 17 = some (.aload_n 0, 1) := rfl
theorem f133_18 : pm_fetch 133 18 = some (.iconst 0, 1) := rfl
theorem f133_19 : pm_fetch 133 19 = some (.putfield 148, 3) := rfl
theorem f133_22 : pm_fetch 133 22 = some (.iconst 1, 1) := rfl
theorem f133_23 : pm_fetch 133 23 = some (.istore_n 1, 1) := rfl
theorem f133_24 : pm_fetch 133 24 = some (.iconst 0, 1) := rfl
theorem f133_25 : pm_fetch 133 25 = some (.istore_n 2, 1) := rfl
theorem f133_26 : pm_fetch 133 26 = some (.iload_n 2, 1) := rfl
theorem f133_27 : pm_fetch 133 27 = some (.iconst 3, 1) := rfl
theorem f133_28 : pm_fetch 133 28 = some (.if_icmp .ge 73, 3) := rfl
theorem f133_31 : pm_fetch 133 31 = some (.iload_n 1, 1) := rfl
theorem f133_32 : pm_fetch 133 32 = some (.ifCond .eq 69, 3) := rfl
theorem f133_35 : pm_fetch 133 35 = some (.aload_n 0, 1) := rfl
theorem f133_36 : pm_fetch 133 36 = some (.invokevirtual 171, 3) := rfl
theorem f133_39 : pm_fetch 133 39 = some (.aload_n 0, 1) := rfl
theorem f133_40 : pm_fetch 133 40 = some (.getfield 138, 3) := rfl
theorem f133_43 : pm_fetch 133 43 = some (.iconst 3, 1) := rfl
theorem f133_44 : pm_fetch 133 44 = some (.if_icmp .ne 15, 3) := rfl
theorem f133_47 : pm_fetch 133 47 = some (.aload_n 0, 1) := rfl
theorem f133_48 : pm_fetch 133 48 = some (.getfield 141, 3) := rfl
theorem f133_51 : pm_fetch 133 51 = some (.iload_n 2, 1) := rfl
theorem f133_52 : pm_fetch 133 52 = some (.if_icmp .ne 7, 3) := rfl
theorem f133_55 : pm_fetch 133 55 = some (.iconst 1, 1) := rfl
theorem f133_56 : pm_fetch 133 56 = some (.goto 4, 3) := rfl
theorem f133_59 : pm_fetch 133 59 = some (.iconst 0, 1) := rfl
theorem f133_60 : pm_fetch 133 60 = some (.istore_n 1, 1) := rfl
theorem f133_61 : pm_fetch 133 61 = some (.aload_n 0, 1) := rfl
theorem f133_62 : pm_fetch 133 62 = some (.getfield 28, 3) := rfl
theorem f133_65 : pm_fetch 133 65 = some (.iconst 4, 1) := rfl
theorem f133_66 : pm_fetch 133 66 = some (.aload_n 0, 1) := rfl
theorem f133_67 : pm_fetch 133 67 = some (.getfield 111, 3) := rfl
theorem f133_70 : pm_fetch 133 70 = some (.imul, 1) := rfl
theorem f133_71 : pm_fetch 133 71 = some (.iload_n 2, 1) := rfl
theorem f133_72 : pm_fetch 133 72 = some (.iadd, 1) := rfl
theorem f133_73 : pm_fetch 133 73 = some (.aload_n 0, 1) := rfl
theorem f133_74 : pm_fetch 133 74 = some (.getfield 148, 3) := rfl
theorem f133_77 : pm_fetch 133 77 = some (.iastore, 1) := rfl
theorem f133_78 : pm_fetch 133 78 = some (.iload_n 1, 1) := rfl
theorem f133_79 : pm_fetch 133 79 = some (.ifCond .eq 14, 3) := rfl
theorem f133_82 : pm_fetch 133 82 = some (.aload_n 0, 1) := rfl
theorem f133_83 : pm_fetch 133 83 = some (.invokevirtual 184, 3) := rfl
theorem f133_86 : pm_fetch 133 86 = some (.ifCond .eq 7, 3) := rfl
theorem f133_89 : pm_fetch 133 89 = some (.iconst 1, 1) := rfl
theorem f133_90 : pm_fetch 133 90 = some (.goto 4, 3) := rfl
theorem f133_93 : pm_fetch 133 93 = some (.iconst 0, 1) := rfl
theorem f133_94 : pm_fetch 133 94 = some (.istore_n 1, 1) := rfl
theorem f133_95 : pm_fetch 133 95 = some (.iinc 2 1, 3) := rfl
theorem f133_98 : pm_fetch 133 98 = some (.goto (-72), 3) := rfl
theorem f133_101 : pm_fetch 133 101 = some (.iload_n 1, 1) := rfl
theorem f133_102 : pm_fetch 133 102 = some (.ifCond .eq 20, 3) := rfl
theorem f133_105 : pm_fetch 133 105 = some (.aload_n 0, 1) := rfl
theorem f133_106 : pm_fetch 133 106 = some (.invokevirtual 171, 3) := rfl
theorem f133_109 : pm_fetch 133 109 = some (.aload_n 0, 1) := rfl
theorem f133_110 : pm_fetch 133 110 = some (.getfield 138, 3) := rfl
theorem f133_113 : pm_fetch 133 113 = some (.ifCond .ne 7, 3) := rfl
theorem f133_116 : pm_fetch 133 116 = some (.iconst 1, 1) := rfl
theorem f133_117 : pm_fetch 133 117 = some (.goto 4, 3) := rfl
theorem f133_120 : pm_fetch 133 120 = some (.iconst 0, 1) := rfl
theorem f133_121 : pm_fetch 133 121 = some (.istore_n 1, 1) := rfl
theorem f133_122 : pm_fetch 133 122 = some (.aload_n 0, 1) := rfl
theorem f133_123 : pm_fetch 133 123 = some (.getfield 28, 3) := rfl
theorem f133_126 : pm_fetch 133 126 = some (.iconst 4, 1) := rfl
theorem f133_127 : pm_fetch 133 127 = some (.aload_n 0, 1) := rfl
theorem f133_128 : pm_fetch 133 128 = some (.getfield 111, 3) := rfl
theorem f133_131 : pm_fetch 133 131 = some (.imul, 1) := rfl
theorem f133_132 : pm_fetch 133 132 = some (.iconst 3, 1) := rfl
theorem f133_133 : pm_fetch 133 133 = some (.iadd, 1) := rfl
theorem f133_134 : pm_fetch 133 134 = some (.aload_n 0, 1) := rfl
theorem f133_135 : pm_fetch 133 135 = some (.getfield 148, 3) := rfl
theorem f133_138 : pm_fetch 133 138 = some (.iastore, 1) := rfl
theorem f133_139 : pm_fetch 133 139 = some (.aload_n 0, 1) := rfl
theorem f133_140 : pm_fetch 133 140 = some (.iconst 0, 1) := rfl
theorem f133_141 : pm_fetch 133 141 = some (.putfield 71, 3) := rfl
theorem f133_144 : pm_fetch 133 144 = some (.iload_n 1, 1) := rfl
theorem f133_145 : pm_fetch 133 145 = some (.ifCond .ne 11, 3) := rfl
theorem f133_148 : pm_fetch 133 148 = some (.bipush (-100), 2) := rfl
theorem f133_150 : pm_fetch 133 150 = some (.aload_n 0, 1) := rfl
theorem f133_151 : pm_fetch 133 151 = some (.getfield 135, 3) := rfl
theorem f133_154 : pm_fetch 133 154 = some (.isub, 1) := rfl
theorem f133_155 : pm_fetch 133 155 = some (.ireturn, 1) := rfl
theorem f133_156 : pm_fetch 133 156 = some (.aload_n 0, 1) := rfl
theorem f133_157 : pm_fetch 133 157 = some (.dup, 1) := rfl
theorem f133_158 : pm_fetch 133 158 = some (.getfield 111, 3) := rfl
theorem f133_161 : pm_fetch 133 161 = some (.iconst 1, 1) := rfl
theorem f133_162 : pm_fetch 133 162 = some (.iadd, 1) := rfl
theorem f133_163 : pm_fetch 133 163 = some (.putfield 111, 3) := rfl
theorem f133_166 : pm_fetch 133 166 = some (.aload_n 0, 1) := rfl
theorem f133_167 : pm_fetch 133 167 = some (.getfield 111, 3) := rfl
theorem f133_170 : pm_fetch 133 170 = some (.iconst 1, 1) := rfl
theorem f133_171 : pm_fetch 133 171 = some (.isub, 1) := rfl
theorem f133_172 : pm_fetch 133 172 = some (.ireturn, 1) := rfl
theorem f134_0 : pm_fetch 134 0 = some (.iload_n 0, 1) := rfl
theorem f134_1 : pm_fetch 134 1 = some (.tableswitch 101 11 17 #[43, 57, 101, 71, 82, 93, 97], 43) := rfl
theorem f134_44 : pm_fetch 134 44 = some (.iload_n 1, 1) := rfl
theorem f134_45 : pm_fetch 134 45 = some (.ifCond .ne 7, 3) := rfl
theorem f134_48 : pm_fetch 134 48 = some (.iload_n 2, 1) := rfl
theorem f134_49 : pm_fetch 134 49 = some (.ifCond .eq 7, 3) := rfl
theorem f134_52 : pm_fetch 134 52 = some (.iconst 1, 1) := rfl
theorem f134_53 : pm_fetch 134 53 = some (.goto 4, 3) := rfl
theorem f134_56 : pm_fetch 134 56 = some (.iconst 0, 1) := rfl
theorem f134_57 : pm_fetch 134 57 = some (.ireturn, 1) := rfl
theorem f134_58 : pm_fetch 134 58 = some (.iload_n 1, 1) := rfl
theorem f134_59 : pm_fetch 134 59 = some (.ifCond .eq 11, 3) := rfl
theorem f134_62 : pm_fetch 134 62 = some (.iload_n 2, 1) := rfl
theorem f134_63 : pm_fetch 134 63 = some (.ifCond .eq 7, 3) := rfl
theorem f134_66 : pm_fetch 134 66 = some (.iconst 1, 1) := rfl
theorem f134_67 : pm_fetch 134 67 = some (.goto 4, 3) := rfl
theorem f134_70 : pm_fetch 134 70 = some (.iconst 0, 1) := rfl
theorem f134_71 : pm_fetch 134 71 = some (.ireturn, 1) := rfl
theorem f134_72 : pm_fetch 134 72 = some (.iload_n 1, 1) := rfl
theorem f134_73 : pm_fetch 134 73 = some (.iload_n 2, 1) := rfl
theorem f134_74 : pm_fetch 134 74 = some (.if_icmp .ge 7, 3) := rfl
theorem f134_77 : pm_fetch 134 77 = some (.iconst 1, 1) := rfl
theorem f134_78 : pm_fetch 134 78 = some (.goto 4, 3) := rfl
theorem f134_81 : pm_fetch 134 81 = some (.iconst 0, 1) := rfl
theorem f134_82 : pm_fetch 134 82 = some (.ireturn, 1) := rfl
theorem f134_83 : pm_fetch 134 83 = some (.iload_n 1, 1) := rfl
theorem f134_84 : pm_fetch 134 84 = some (.iload_n 2, 1) := rfl
theorem f134_85 : pm_fetch 134 85 = some (.if_icmp .ne 7, 3) := rfl
theorem f134_88 : pm_fetch 134 88 = some (.iconst 1, 1) := rfl
theorem f134_89 : pm_fetch 134 89 = some (.goto 4, 3) := rfl
theorem f134_92 : pm_fetch 134 92 = some (.iconst 0, 1) := rfl
theorem f134_93 : pm_fetch 134 93 = some (.ireturn, 1) := rfl
theorem f134_94 : pm_fetch 134 94 = some (.iload_n 1, 1) := rfl
theorem f134_95 : pm_fetch 134 95 = some (.iload_n 2, 1) := rfl
theorem f134_96 : pm_fetch 134 96 = some (.iadd, 1) := rfl
theorem f134_97 : pm_fetch 134 97 = some (.ireturn, 1) := rfl
theorem f134_98 : pm_fetch 134 98 = some (.iload_n 1, 1) := rfl
theorem f134_99 : pm_fetch 134 99 = some (.iload_n 2, 1) := rfl
theorem f134_100 : pm_fetch 134 100 = some (.isub, 1) := rfl
theorem f134_101 : pm_fetch 134 101 = some (.ireturn, 1) := rfl
theorem f134_102 : pm_fetch 134 102 = some (.iload_n 1, 1) := rfl
theorem f134_103 : pm_fetch 134 103 = some (.iload_n 2, 1) := rfl
theorem f134_104 : pm_fetch 134 104 = some (.imul, 1) := rfl
theorem f134_105 : pm_fetch 134 105 = some (.ireturn, 1) := rfl
theorem f135_0 : pm_fetch 135 0 = some (.iconst 0, 1) := rfl
theorem f135_1 : pm_fetch 135 1 = some (.istore_n 2, 1) := rfl
theorem f135_2 : pm_fetch 135 2 = some (.aload_n 0, 1) := rfl
theorem f135_3 : pm_fetch 135 3 = some (.getfield 28, 3) := rfl
theorem f135_6 : pm_fetch 135 6 = some (.iconst 4, 1) := rfl
theorem f135_7 : pm_fetch 135 7 = some (.aload_n 0, 1) := rfl
theorem f135_8 : pm_fetch 135 8 = some (.getfield 114, 3) := rfl
theorem f135_11 : pm_fetch 135 11 = some (.imul, 1) := rfl
theorem f135_12 : pm_fetch 135 12 = some (.iload_n 1, 1) := rfl
theorem f135_13 : pm_fetch 135 13 = some (.iadd, 1) := rfl
theorem f135_14 : pm_fetch 135 14 = some (.iaload, 1) := rfl
theorem f135_15 : pm_fetch 135 15 = some (.istore_n 3, 1) := rfl
theorem f135_16 : pm_fetch 135 16 = some (.iload_n 3, 1) := rfl
theorem f135_17 : pm_fetch 135 17 = some (.aload_n 0, 1) := rfl
theorem f135_18 : pm_fetch 135 18 = some (.getfield 28, 3) := rfl
theorem f135_21 : pm_fetch 135 21 = some (.iconst 4, 1) := rfl
theorem f135_22 : pm_fetch 135 22 = some (.aload_n 0, 1) := rfl
theorem f135_23 : pm_fetch 135 23 = some (.getfield 114, 3) := rfl
theorem f135_26 : pm_fetch 135 26 = some (.imul, 1) := rfl
theorem f135_27 : pm_fetch 135 27 = some (.iload_n 1, 1) := rfl
theorem f135_28 : pm_fetch 135 28 = some (.iadd, 1) := rfl
theorem f135_29 : pm_fetch 135 29 = some (.iconst 1, 1) := rfl
theorem f135_30 : pm_fetch 135 30 = some (.iadd, 1) := rfl
theorem f135_31 : pm_fetch 135 31 = some (.iaload, 1) := rfl
theorem f135_32 : pm_fetch 135 32 = some (.if_icmp .ge 165, 3) := rfl
theorem f135_35 : pm_fetch 135 35 = some (.aload_n 0, 1) := rfl
theorem f135_36 : pm_fetch 135 36 = some (.getfield 25, 3) := rfl
theorem f135_39 : pm_fetch 135 39 = some (.sipush 200, 3) := rfl
theorem f135_42 : pm_fetch 135 42 = some (.aload_n 0, 1) := rfl
theorem f135_43 : pm_fetch 135 43 = some (.getfield 114, 3) := rfl
theorem f135_46 : pm_fetch 135 46 = some (.imul, 1) := rfl
theorem f135_47 : pm_fetch 135 47 = some (.iload_n 3, 1) := rfl
theorem f135_48 : pm_fetch 135 48 = some (.iadd, 1) := rfl
theorem f135_49 : pm_fetch 135 49 = some (.iaload, 1) := rfl
theorem f135_50 : pm_fetch 135 50 = some (.istore 4, 2) := rfl
theorem f135_52 : pm_fetch 135 52 = some (.iload 4, 2) := rfl
theorem f135_54 : pm_fetch 135 54 = some (.ldc 174, 2) := rfl
theorem f135_56 : pm_fetch 135 56 = some (.if_icmp .ge 10, 3) := rfl
theorem f135_59 : pm_fetch 135 59 = some (.iload 4, 2) := rfl
theorem f135_61 : pm_fetch 135 61 = some (.bipush 11, 2) := rfl
theorem f135_63 : pm_fetch 135 63 = some (.if_icmp .ge 37, 3) := rfl
theorem f135_66 : pm_fetch 135 66 = some (.aload_n 0, 1) := rfl
theorem f135_67 : pm_fetch 135 67 = some (.getfield 59, 3) := rfl
theorem f135_70 : pm_fetch 135 70 = some (.iload_n 2, 1) := rfl
theorem f135_71 : pm_fetch 135 71 = some (.iload 4, 2) := rfl
theorem f135_73 : pm_fetch 135 73 = some (.bipush 11, 2) := rfl
theorem f135_75 : pm_fetch 135 75 = some (.if_icmp .ge 13, 3) := rfl
theorem f135_78 : pm_fetch 135 78 = some (.aload_n 0, 1) := rfl
theorem f135_79 : pm_fetch 135 79 = some (.getfield 62, 3) := rfl
theorem f135_82 : pm_fetch 135 82 = some (.iload 4, 2) := rfl
theorem f135_84 : pm_fetch 135 84 = some (.iaload, 1) := rfl
theorem f135_85 : pm_fetch 135 85 = some (.goto 8, 3) := rfl
theorem f135_88 : pm_fetch 135 88 = some (.iload 4, 2) := rfl
theorem f135_90 : pm_fetch 135 90 = some (.ldc 174, 2) := rfl
theorem f135_92 : pm_fetch 135 92 = some (.isub, 1) := rfl
theorem f135_93 : pm_fetch 135 93 = some (.iastore, 1) := rfl
theorem f135_94 : pm_fetch 135 94 = some (.iinc 2 1, 3) := rfl
theorem f135_97 : pm_fetch 135 97 = some (.goto 94, 3) := rfl
theorem f135_100 : pm_fetch 135 100 = some (.iload 4, 2) := rfl
theorem f135_102 : pm_fetch 135 102 = some (.bipush 13, 2) := rfl
theorem f135_104 : pm_fetch 135 104 = some (.if_icmp .ne 30, 3) := rfl
theorem f135_107 : pm_fetch 135 107 = some (.aload_n 0, 1) := rfl
theorem f135_108 : pm_fetch 135 108 = some (.getfield 59, 3) := rfl
theorem f135_111 : pm_fetch 135 111 = some (.iload_n 2, 1) := rfl
theorem f135_112 : pm_fetch 135 112 = some (.iconst 1, 1) := rfl
theorem f135_113 : pm_fetch 135 113 = some (.isub, 1) := rfl
theorem f135_114 : pm_fetch 135 114 = some (.aload_n 0, 1) := rfl
theorem f135_115 : pm_fetch 135 115 = some (.getfield 59, 3) := rfl
theorem f135_118 : pm_fetch 135 118 = some (.iload_n 2, 1) := rfl
theorem f135_119 : pm_fetch 135 119 = some (.iconst 1, 1) := rfl
theorem f135_120 : pm_fetch 135 120 = some (.isub, 1) := rfl
theorem f135_121 : pm_fetch 135 121 = some (.iaload, 1) := rfl
theorem f135_122 : pm_fetch 135 122 = some (.ifCond .ne 7, 3) := rfl
theorem f135_125 : pm_fetch 135 125 = some (.iconst 1, 1) := rfl
theorem f135_126 : pm_fetch 135 126 = some (.goto 4, 3) := rfl
theorem f135_129 : pm_fetch 135 129 = some (.iconst 0, 1) := rfl
theorem f135_130 : pm_fetch 135 130 = some (.iastore, 1) := rfl
theorem f135_131 : pm_fetch 135 131 = some (.goto 60, 3) := rfl
theorem f135_134 : pm_fetch 135 134 = some (.iload 4, 2) := rfl
theorem f135_136 : pm_fetch 135 136 = some (.bipush 19, 2) := rfl
theorem f135_138 : pm_fetch 135 138 = some (.if_icmp .ne 23, 3) := rfl
theorem f135_141 : pm_fetch 135 141 = some (.aload_n 0, 1) := rfl
theorem f135_142 : pm_fetch 135 142 = some (.getfield 59, 3) := rfl
theorem f135_145 : pm_fetch 135 145 = some (.iload_n 2, 1) := rfl
theorem f135_146 : pm_fetch 135 146 = some (.iconst 1, 1) := rfl
theorem f135_147 : pm_fetch 135 147 = some (.isub, 1) := rfl
theorem f135_148 : pm_fetch 135 148 = some (.aload_n 0, 1) := rfl
theorem f135_149 : pm_fetch 135 149 = some (.getfield 59, 3) := rfl
theorem f135_152 : pm_fetch 135 152 = some (.iload_n 2, 1) := rfl
theorem f135_153 : pm_fetch 135 153 = some (.iconst 1, 1) := rfl
theorem f135_154 : pm_fetch 135 154 = some (.isub, 1) := rfl
theorem f135_155 : pm_fetch 135 155 = some (.iaload, 1) := rfl
theorem f135_156 : pm_fetch 135 156 = some (.ineg, 1) := rfl
theorem f135_157 : pm_fetch 135 157 = some (.iastore, 1) := rfl
theorem f135_158 : pm_fetch 135 158 = some (.goto 33, 3) := rfl
theorem f135_161 : pm_fetch 135 161 = some (.iinc 2 (-1), 3) := rfl
theorem f135_164 : pm_fetch 135 164 = some (.aload_n 0, 1) := rfl
theorem f135_165 : pm_fetch 135 165 = some (.getfield 59, 3) := rfl
theorem f135_168 : pm_fetch 135 168 = some (.iload_n 2, 1) := rfl
theorem f135_169 : pm_fetch 135 169 = some (.iconst 1, 1) := rfl
theorem f135_170 : pm_fetch 135 170 = some (.isub, 1) := rfl
theorem f135_171 : pm_fetch 135 171 = some (.iload 4, 2) := rfl
theorem f135_173 : pm_fetch 135 173 = some (.aload_n 0, 1) := rfl
theorem f135_174 : pm_fetch 135 174 = some (.getfield 59, 3) := rfl
theorem f135_177 : pm_fetch 135 177 = some (.iload_n 2, 1) := rfl
theorem f135_178 : pm_fetch 135 178 = some (.iconst 1, 1) := rfl
theorem f135_179 : pm_fetch 135 179 = some (.isub, 1) := rfl
theorem f135_180 : pm_fetch 135 180 = some (.iaload, 1) := rfl
theorem f135_181 : pm_fetch 135 181 = some (.aload_n 0, 1) := rfl
theorem f135_182 : pm_fetch 135 182 = some (.getfield 59, 3) := rfl
theorem f135_185 : pm_fetch 135 185 = some (.iload_n 2, 1) := rfl
theorem f135_186 : pm_fetch 135 186 = some (.iaload, 1) := rfl
theorem f135_187 : pm_fetch 135 187 = some (.invokestatic 188, 3) := rfl
theorem f135_190 : pm_fetch 135 190 = some (.iastore, 1) := rfl
theorem f135_191 : pm_fetch 135 191 = some (.iinc 3 1, 3) := rfl
theorem f135_194 : pm_fetch 135 194 = some (.goto (-178), 3) := rfl
theorem f135_197 : pm_fetch 135 197 = some (.aload_n 0, 1) := rfl
theorem f135_198 : pm_fetch 135 198 = some (.getfield 59, 3) := rfl
theorem f135_201 : pm_fetch 135 201 = some (.iconst 0, 1) := rfl
theorem f135_202 : pm_fetch 135 202 = some (.iaload, 1) := rfl
theorem f135_203 : pm_fetch 135 203 = some (.ireturn, 1) := rfl
theorem f136_0 : pm_fetch 136 0 = some (.iload_n 1, 1) := rfl
theorem f136_1 : pm_fetch 136 1 = some (.iconst 0, 1) := rfl
theorem f136_2 : pm_fetch 136 2 = some (.aload_n 0, 1) := rfl
theorem f136_3 : pm_fetch 136 3 = some (.getfield 111, 3) := rfl
theorem f136_6 : pm_fetch 136 6 = some (.iconst 1, 1) := rfl
theorem f136_7 : pm_fetch 136 7 = some (.isub, 1) := rfl
theorem f136_8 : pm_fetch 136 8 = some (.invokestatic 79, 3) := rfl
theorem f136_11 : pm_fetch 136 11 = some (.ifCond .ne 6, 3) := rfl
theorem f136_14 : pm_fetch 136 14 = some (.bipush (-2), 2) := rfl
theorem f136_16 : pm_fetch 136 16 = some (.ireturn, 1) := rfl
theorem f136_17 : pm_fetch 136 17 = some (.aload_n 0, 1) := rfl
theorem f136_18 : pm_fetch 136 18 = some (.getfield 114, 3) := rfl
theorem f136_21 : pm_fetch 136 21 = some (.istore_n 2, 1) := rfl
theorem f136_22 : pm_fetch 136 22 = some (.aload_n 0, 1) := rfl
theorem f136_23 : pm_fetch 136 23 = some (.iload_n 1, 1) := rfl
theorem f136_24 : pm_fetch 136 24 = some (.putfield 114, 3) := rfl
theorem f136_27 : pm_fetch 136 27 = some (.iload_n 2, 1) := rfl
theorem f136_28 : pm_fetch 136 28 = some (.ireturn, 1) := rfl
theorem f137_0 : pm_fetch 137 0 = some (.aload_n 0, 1) := rfl
theorem f137_1 : pm_fetch 137 1 = some (.getfield 62, 3) := rfl
theorem f137_4 : pm_fetch 137 4 = some (.iconst 0, 1) := rfl
theorem f137_5 : pm_fetch 137 5 = some (.aload_n 0, 1) := rfl
theorem f137_6 : pm_fetch 137 6 = some (.getfield 16, 3) := rfl
theorem f137_9 : pm_fetch 137 9 = some (.iconst 3, 1) := rfl
theorem f137_10 : pm_fetch 137 10 = some (.iload_n 2, 1) := rfl
theorem f137_11 : pm_fetch 137 11 = some (.imul, 1) := rfl
theorem f137_12 : pm_fetch 137 12 = some (.iconst 2, 1) := rfl
theorem f137_13 : pm_fetch 137 13 = some (.iadd, 1) := rfl
theorem f137_14 : pm_fetch 137 14 = some (.iaload, 1) := rfl
theorem f137_15 : pm_fetch 137 15 = some (.iastore, 1) := rfl
theorem f137_16 : pm_fetch 137 16 = some (.aload_n 0, 1) := rfl
theorem f137_17 : pm_fetch 137 17 = some (.getfield 62, 3) := rfl
theorem f137_20 : pm_fetch 137 20 = some (.iconst 1, 1) := rfl
theorem f137_21 : pm_fetch 137 21 = some (.aload_n 0, 1) := rfl
theorem f137_22 : pm_fetch 137 22 = some (.getfield 16, 3) := rfl
theorem f137_25 : pm_fetch 137 25 = some (.iconst 3, 1) := rfl
theorem f137_26 : pm_fetch 137 26 = some (.iload_n 2, 1) := rfl
theorem f137_27 : pm_fetch 137 27 = some (.imul, 1) := rfl
theorem f137_28 : pm_fetch 137 28 = some (.iaload, 1) := rfl
theorem f137_29 : pm_fetch 137 29 = some (.iastore, 1) := rfl
theorem f137_30 : pm_fetch 137 30 = some (.aload_n 0, 1) := rfl
theorem f137_31 : pm_fetch 137 31 = some (.getfield 62, 3) := rfl
theorem f137_34 : pm_fetch 137 34 = some (.iconst 2, 1) := rfl
theorem f137_35 : pm_fetch 137 35 = some (.aload_n 0, 1) := rfl
theorem f137_36 : pm_fetch 137 36 = some (.getfield 16, 3) := rfl
theorem f137_39 : pm_fetch 137 39 = some (.iconst 3, 1) := rfl
theorem f137_40 : pm_fetch 137 40 = some (.iload_n 2, 1) := rfl
theorem f137_41 : pm_fetch 137 41 = some (.imul, 1) := rfl
theorem f137_42 : pm_fetch 137 42 = some (.iconst 1, 1) := rfl
theorem f137_43 : pm_fetch 137 43 = some (.iadd, 1) := rfl
theorem f137_44 : pm_fetch 137 44 = some (.iaload, 1) := rfl
theorem f137_45 : pm_fetch 137 45 = some (.iastore, 1) := rfl
theorem f137_46 : pm_fetch 137 46 = some (.aload_n 0, 1) := rfl
theorem f137_47 : pm_fetch 137 47 = some (.getfield 62, 3) := rfl
theorem f137_50 : pm_fetch 137 50 = some (.iconst 3, 1) := rfl
theorem f137_51 : pm_fetch 137 51 = some (.aload_n 0, 1) := rfl
theorem f137_52 : pm_fetch 137 52 = some (.iload_n 2, 1) := rfl
theorem f137_53 : pm_fetch 137 53 = some (.invokevirtual 191, 3) := rfl
theorem f137_56 : pm_fetch 137 56 = some (.ifCond .eq 7, 3) := rfl
theorem f137_59 : pm_fetch 137 59 = some (.iconst 1, 1) := rfl
theorem f137_60 : pm_fetch 137 60 = some (.goto 4, 3) := rfl
theorem f137_63 : pm_fetch 137 63 = some (.iconst 0, 1) := rfl
theorem f137_64 : pm_fetch 137 64 = some (.iastore, 1) := rfl
theorem f137_65 : pm_fetch 137 65 = some (.aload_n 0, 1) := rfl
theorem f137_66 : pm_fetch 137 66 = some (.getfield 62, 3) := rfl
theorem f137_69 : pm_fetch 137 69 = some (.iconst 4, 1) := rfl
theorem f137_70 : pm_fetch 137 70 = some (.aload_n 0, 1) := rfl
theorem f137_71 : pm_fetch 137 71 = some (.getfield 105, 3) := rfl
theorem f137_74 : pm_fetch 137 74 = some (.iastore, 1) := rfl
theorem f137_75 : pm_fetch 137 75 = some (.aload_n 0, 1) := rfl
theorem f137_76 : pm_fetch 137 76 = some (.getfield 62, 3) := rfl
theorem f137_79 : pm_fetch 137 79 = some (.iconst 5, 1) := rfl
theorem f137_80 : pm_fetch 137 80 = some (.aload_n 0, 1) := rfl
theorem f137_81 : pm_fetch 137 81 = some (.getfield 13, 3) := rfl
theorem f137_84 : pm_fetch 137 84 = some (.iload_n 2, 1) := rfl
theorem f137_85 : pm_fetch 137 85 = some (.iaload, 1) := rfl
theorem f137_86 : pm_fetch 137 86 = some (.iastore, 1) := rfl
theorem f137_87 : pm_fetch 137 87 = some (.aload_n 0, 1) := rfl
theorem f137_88 : pm_fetch 137 88 = some (.iload_n 1, 1) := rfl
theorem f137_89 : pm_fetch 137 89 = some (.invokevirtual 194, 3) := rfl
theorem f137_92 : pm_fetch 137 92 = some (.iload_n 1, 1) := rfl
theorem f137_93 : pm_fetch 137 93 = some (.iconst 1, 1) := rfl
theorem f137_94 : pm_fetch 137 94 = some (.if_icmp .ne 8, 3) := rfl
theorem f137_97 : pm_fetch 137 97 = some (.bipush (-99), 2) := rfl
theorem f137_99 : pm_fetch 137 99 = some (.goto 4, 3) := rfl
theorem f137_102 : pm_fetch 137 102 = some (.iconst 0, 1) := rfl
theorem f137_103 : pm_fetch 137 103 = some (.iload_n 1, 1) := rfl
theorem f137_104 : pm_fetch 137 104 = some (.ifCond .ne 8, 3) := rfl
theorem f137_107 : pm_fetch 137 107 = some (.bipush 9, 2) := rfl
theorem f137_109 : pm_fetch 137 109 = some (.goto 5, 3) := rfl
theorem f137_112 : pm_fetch 137 112 = some (.bipush 99, 2) := rfl
theorem f137_114 : pm_fetch 137 114 = some (.invokestatic 86, 3) := rfl
theorem f137_117 : pm_fetch 137 117 = some (.ireturn, 1) := rfl
theorem f138_0 : pm_fetch 138 0 = some (.iload_n 1, 1) := rfl
theorem f138_1 : pm_fetch 138 1 = some (.iconst 0, 1) := rfl
theorem f138_2 : pm_fetch 138 2 = some (.iconst 2, 1) := rfl
theorem f138_3 : pm_fetch 138 3 = some (.invokestatic 79, 3) := rfl
theorem f138_6 : pm_fetch 138 6 = some (.ifCond .eq 20, 3) := rfl
theorem f138_9 : pm_fetch 138 9 = some (.aload_n 0, 1) := rfl
theorem f138_10 : pm_fetch 138 10 = some (.iload_n 2, 1) := rfl
theorem f138_11 : pm_fetch 138 11 = some (.invokevirtual 197, 3) := rfl
theorem f138_14 : pm_fetch 138 14 = some (.ifCond .eq 12, 3) := rfl
theorem f138_17 : pm_fetch 138 17 = some (.aload_n 0, 1) := rfl
theorem f138_18 : pm_fetch 138 18 = some (.iload_n 1, 1) := rfl
theorem f138_19 : pm_fetch 138 19 = some (.iload_n 2, 1) := rfl
theorem f138_20 : pm_fetch 138 20 = some (.invokevirtual 200, 3) := rfl
theorem f138_23 : pm_fetch 138 23 = some (.goto 6, 3) := rfl
theorem f138_26 : pm_fetch 138 26 = some (.sipush (-1000), 3) := rfl
theorem f138_29 : pm_fetch 138 29 = some (.ireturn, 1) := rfl
theorem f139_0 : pm_fetch 139 0 = some (.iload_n 1, 1) := rfl
theorem f139_1 : pm_fetch 139 1 = some (.iconst 0, 1) := rfl
theorem f139_2 : pm_fetch 139 2 = some (.bipush 59, 2) := rfl
theorem f139_4 : pm_fetch 139 4 = some (.invokestatic 79, 3) := rfl
theorem f139_7 : pm_fetch 139 7 = some (.ifCond .eq 27, 3) := rfl
theorem f139_10 : pm_fetch 139 10 = some (.iload_n 2, 1) := rfl
theorem f139_11 : pm_fetch 139 11 = some (.iconst 0, 1) := rfl
theorem f139_12 : pm_fetch 139 12 = some (.ldc 203, 2) := rfl
theorem f139_14 : pm_fetch 139 14 = some (.invokestatic 79, 3) := rfl
theorem f139_17 : pm_fetch 139 17 = some (.ifCond .eq 17, 3) := rfl
theorem f139_20 : pm_fetch 139 20 = some (.iload_n 2, 1) := rfl
theorem f139_21 : pm_fetch 139 21 = some (.sipush 1000, 3) := rfl
theorem f139_24 : pm_fetch 139 24 = some (.irem, 1) := rfl
theorem f139_25 : pm_fetch 139 25 = some (.bipush 100, 2) := rfl
theorem f139_27 : pm_fetch 139 27 = some (.if_icmp .ge 7, 3) := rfl
theorem f139_30 : pm_fetch 139 30 = some (.iconst 1, 1) := rfl
theorem f139_31 : pm_fetch 139 31 = some (.goto 4, 3) := rfl
theorem f139_34 : pm_fetch 139 34 = some (.iconst 0, 1) := rfl
theorem f139_35 : pm_fetch 139 35 = some (.istore_n 3, 1) := rfl
theorem f139_36 : pm_fetch 139 36 = some (.iload_n 3, 1) := rfl
theorem f139_37 : pm_fetch 139 37 = some (.ifCond .eq 14, 3) := rfl
theorem f139_40 : pm_fetch 139 40 = some (.iload_n 2, 1) := rfl
theorem f139_41 : pm_fetch 139 41 = some (.sipush 1000, 3) := rfl
theorem f139_44 : pm_fetch 139 44 = some (.idiv, 1) := rfl
theorem f139_45 : pm_fetch 139 45 = some (.bipush 10, 2) := rfl
theorem f139_47 : pm_fetch 139 47 = some (.irem, 1) := rfl
theorem f139_48 : pm_fetch 139 48 = some (.ifCond .ne 6, 3) := rfl
theorem f139_51 : pm_fetch 139 51 = some (.bipush (-2), 2) := rfl
theorem f139_53 : pm_fetch 139 53 = some (.ireturn, 1) := rfl
theorem f139_54 : pm_fetch 139 54 = some (.aload_n 0, 1) := rfl
theorem f139_55 : pm_fetch 139 55 = some (.getfield 83, 3) := rfl
theorem f139_58 : pm_fetch 139 58 = some (.bipush 6, 2) := rfl
theorem f139_60 : pm_fetch 139 60 = some (.if_icmp .ne 6, 3) := rfl
theorem f139_63 : pm_fetch 139 63 = some (.bipush (-4), 2) := rfl
theorem f139_65 : pm_fetch 139 65 = some (.ireturn, 1) := rfl
theorem f139_66 : pm_fetch 139 66 = some (.aload_n 0, 1) := rfl
theorem f139_67 : pm_fetch 139 67 = some (.getfield 7, 3) := rfl
theorem f139_70 : pm_fetch 139 70 = some (.aload_n 0, 1) := rfl
theorem f139_71 : pm_fetch 139 71 = some (.getfield 83, 3) := rfl
theorem f139_74 : pm_fetch 139 74 = some (.iload_n 1, 1) := rfl
theorem f139_75 : pm_fetch 139 75 = some (.bipush 10, 2) := rfl
theorem f139_77 : pm_fetch 139 77 = some (.idiv, 1) := rfl
theorem f139_78 : pm_fetch 139 78 = some (.iastore, 1) := rfl
theorem f139_79 : pm_fetch 139 79 = some (.aload_n 0, 1) := rfl
theorem f139_80 : pm_fetch 139 80 = some (.getfield 13, 3) := rfl
theorem f139_83 : pm_fetch 139 83 = some (.aload_n 0, 1) := rfl
theorem f139_84 : pm_fetch 139 84 = some (.getfield 83, 3) := rfl
theorem f139_87 : pm_fetch 139 87 = some (.iload_n 1, 1) := rfl
theorem f139_88 : pm_fetch 139 88 = some (.bipush 10, 2) := rfl
theorem f139_90 : pm_fetch 139 90 = some (.irem, 1) := rfl
theorem f139_91 : pm_fetch 139 91 = some (.iastore, 1) := rfl
theorem f139_92 : pm_fetch 139 92 = some (.aload_n 0, 1) := rfl
theorem f139_93 : pm_fetch 139 93 = some (.getfield 16, 3) := rfl
theorem f139_96 : pm_fetch 139 96 = some (.iconst 3, 1) := rfl
theorem f139_97 : pm_fetch 139 97 = some (.aload_n 0, 1) := rfl
theorem f139_98 : pm_fetch 139 98 = some (.getfield 83, 3) := rfl
theorem f139_101 : pm_fetch 139 101 = some (.imul, 1) := rfl
theorem f139_102 : pm_fetch 139 102 = some (.iload_n 2, 1) := rfl
theorem f139_103 : pm_fetch 139 103 = some (.sipush 10000, 3) := rfl
theorem f139_106 : pm_fetch 139 106 = some (.idiv, 1) := rfl
theorem f139_107 : pm_fetch 139 107 = some (.iastore, 1) := rfl
theorem f139_108 : pm_fetch 139 108 = some (.aload_n 0, 1) := rfl
theorem f139_109 : pm_fetch 139 109 = some (.getfield 16, 3) := rfl
theorem f139_112 : pm_fetch 139 112 = some (.iconst 3, 1) := rfl
theorem f139_113 : pm_fetch 139 113 = some (.aload_n 0, 1) := rfl
theorem f139_114 : pm_fetch 139 114 = some (.getfield 83, 3) := rfl
theorem f139_117 : pm_fetch 139 117 = some (.imul, 1) := rfl
theorem f139_118 : pm_fetch 139 118 = some (.iconst 1, 1) := rfl
theorem f139_119 : pm_fetch 139 119 = some (.iadd, 1) := rfl
theorem f139_120 : pm_fetch 139 120 = some (.iload_n 2, 1) := rfl
theorem f139_121 : pm_fetch 139 121 = some (.sipush 1000, 3) := rfl
theorem f139_124 : pm_fetch 139 124 = some (.idiv, 1) := rfl
theorem f139_125 : pm_fetch 139 125 = some (.bipush 10, 2) := rfl
theorem f139_127 : pm_fetch 139 127 = some (.irem, 1) := rfl
theorem f139_128 : pm_fetch 139 128 = some (.iastore, 1) := rfl
theorem f139_129 : pm_fetch 139 129 = some (.aload_n 0, 1) := rfl
theorem f139_130 : pm_fetch 139 130 = some (.getfield 16, 3) := rfl
theorem f139_133 : pm_fetch 139 133 = some (.iconst 3, 1) := rfl
theorem f139_134 : pm_fetch 139 134 = some (.aload_n 0, 1) := rfl
theorem f139_135 : pm_fetch 139 135 = some (.getfield 83, 3) := rfl
theorem f139_138 : pm_fetch 139 138 = some (.imul, 1) := rfl
theorem f139_139 : pm_fetch 139 139 = some (.iconst 2, 1) := rfl
theorem f139_140 : pm_fetch 139 140 = some (.iadd, 1) := rfl
theorem f139_141 : pm_fetch 139 141 = some (.iload_n 2, 1) := rfl
theorem f139_142 : pm_fetch 139 142 = some (.sipush 1000, 3) := rfl
theorem f139_145 : pm_fetch 139 145 = some (.irem, 1) := rfl
theorem f139_146 : pm_fetch 139 146 = some (.iastore, 1) := rfl
theorem f139_147 : pm_fetch 139 147 = some (.aload_n 0, 1) := rfl
theorem f139_148 : pm_fetch 139 148 = some (.getfield 19, 3) := rfl
theorem f139_151 : pm_fetch 139 151 = some (.aload_n 0, 1) := rfl
theorem f139_152 : pm_fetch 139 152 = some (.getfield 83, 3) := rfl
theorem f139_155 : pm_fetch 139 155 = some (.iconst 0, 1) := rfl
theorem f139_156 : pm_fetch 139 156 = some (.iastore, 1) := rfl
theorem f139_157 : pm_fetch 139 157 = some (.aload_n 0, 1) := rfl
theorem f139_158 : pm_fetch 139 158 = some (.dup, 1) := rfl
theorem f139_159 : pm_fetch 139 159 = some (.getfield 83, 3) := rfl
theorem f139_162 : pm_fetch 139 162 = some (.iconst 1, 1) := rfl
theorem f139_163 : pm_fetch 139 163 = some (.iadd, 1) := rfl
theorem f139_164 : pm_fetch 139 164 = some (.putfield 83, 3) := rfl
theorem f139_167 : pm_fetch 139 167 = some (.aload_n 0, 1) := rfl
theorem f139_168 : pm_fetch 139 168 = some (.getfield 83, 3) := rfl
theorem f139_171 : pm_fetch 139 171 = some (.iconst 1, 1) := rfl
theorem f139_172 : pm_fetch 139 172 = some (.isub, 1) := rfl
theorem f139_173 : pm_fetch 139 173 = some (.ireturn, 1) := rfl
theorem f140_0 : pm_fetch 140 0 = some (.aload_n 0, 1) := rfl
theorem f140_1 : pm_fetch 140 1 = some (.iload_n 1, 1) := rfl
theorem f140_2 : pm_fetch 140 2 = some (.invokevirtual 197, 3) := rfl
theorem f140_5 : pm_fetch 140 5 = some (.ifCond .ne 6, 3) := rfl
theorem f140_8 : pm_fetch 140 8 = some (.bipush (-5), 2) := rfl
theorem f140_10 : pm_fetch 140 10 = some (.ireturn, 1) := rfl
theorem f140_11 : pm_fetch 140 11 = some (.iload_n 2, 1) := rfl
theorem f140_12 : pm_fetch 140 12 = some (.iconst 0, 1) := rfl
theorem f140_13 : pm_fetch 140 13 = some (.iconst 2, 1) := rfl
theorem f140_14 : pm_fetch 140 14 = some (.invokestatic 79, 3) := rfl
theorem f140_17 : pm_fetch 140 17 = some (.ifCond .eq 41, 3) := rfl
theorem f140_20 : pm_fetch 140 20 = some (.iload_n 3, 1) := rfl
theorem f140_21 : pm_fetch 140 21 = some (.iload_n 2, 1) := rfl
theorem f140_22 : pm_fetch 140 22 = some (.iconst 1, 1) := rfl
theorem f140_23 : pm_fetch 140 23 = some (.if_icmp .ne 7, 3) := rfl
theorem f140_26 : pm_fetch 140 26 = some (.iconst 1, 1) := rfl
theorem f140_27 : pm_fetch 140 27 = some (.goto 4, 3) := rfl
theorem f140_30 : pm_fetch 140 30 = some (.iconst 0, 1) := rfl
theorem f140_31 : pm_fetch 140 31 = some (.iload_n 2, 1) := rfl
theorem f140_32 : pm_fetch 140 32 = some (.ifCond .ne 8, 3) := rfl
theorem f140_35 : pm_fetch 140 35 = some (.bipush 39, 2) := rfl
theorem f140_37 : pm_fetch 140 37 = some (.goto 15, 3) := rfl
theorem f140_40 : pm_fetch 140 40 = some (.iload_n 2, 1) := rfl
theorem f140_41 : pm_fetch 140 41 = some (.iconst 1, 1) := rfl
theorem f140_42 : pm_fetch 140 42 = some (.if_icmp .ne 8, 3) := rfl
theorem f140_45 : pm_fetch 140 45 = some (.bipush 9, 2) := rfl
theorem f140_47 : pm_fetch 140 47 = some (.goto 5, 3) := rfl
theorem f140_50 : pm_fetch 140 50 = some (.bipush 99, 2) := rfl
theorem f140_52 : pm_fetch 140 52 = some (.invokestatic 79, 3) := rfl
theorem f140_55 : pm_fetch 140 55 = some (.ifCond .ne 6, 3) := rfl
theorem f140_58 : pm_fetch 140 58 = some (.bipush (-7), 2) := rfl
theorem f140_60 : pm_fetch 140 60 = some (.ireturn, 1) := rfl
theorem f140_61 : pm_fetch 140 61 = some (.aload_n 0, 1) := rfl
theorem f140_62 : pm_fetch 140 62 = some (.getfield 16, 3) := rfl
theorem f140_65 : pm_fetch 140 65 = some (.iconst 3, 1) := rfl
theorem f140_66 : pm_fetch 140 66 = some (.iload_n 1, 1) := rfl
theorem f140_67 : pm_fetch 140 67 = some (.imul, 1) := rfl
theorem f140_68 : pm_fetch 140 68 = some (.iload_n 2, 1) := rfl
theorem f140_69 : pm_fetch 140 69 = some (.iadd, 1) := rfl
theorem f140_70 : pm_fetch 140 70 = some (.iaload, 1) := rfl
theorem f140_71 : pm_fetch 140 71 = some (.istore 4, 2) := rfl
theorem f140_73 : pm_fetch 140 73 = some (.aload_n 0, 1) := rfl
theorem f140_74 : pm_fetch 140 74 = some (.getfield 16, 3) := rfl
theorem f140_77 : pm_fetch 140 77 = some (.iconst 3, 1) := rfl
theorem f140_78 : pm_fetch 140 78 = some (.iload_n 1, 1) := rfl
theorem f140_79 : pm_fetch 140 79 = some (.imul, 1) := rfl
theorem f140_80 : pm_fetch 140 80 = some (.iload_n 2, 1) := rfl
theorem f140_81 : pm_fetch 140 81 = some (.iadd, 1) := rfl
theorem f140_82 : pm_fetch 140 82 = some (.iload_n 3, 1) := rfl
theorem f140_83 : pm_fetch 140 83 = some (.iastore, 1) := rfl
theorem f140_84 : pm_fetch 140 84 = some (.iload 4, 2) := rfl
theorem f140_86 : pm_fetch 140 86 = some (.ireturn, 1) := rfl
theorem f141_0 : pm_fetch 141 0 = some (.aload_n 0, 1) := rfl
theorem f141_1 : pm_fetch 141 1 = some (.getfield 7, 3) := rfl
theorem f141_4 : pm_fetch 141 4 = some (.iload_n 1, 1) := rfl
theorem f141_5 : pm_fetch 141 5 = some (.iaload, 1) := rfl
theorem f141_6 : pm_fetch 141 6 = some (.iconst 5, 1) := rfl
theorem f141_7 : pm_fetch 141 7 = some (.if_icmp .eq 23, 3) := rfl
theorem f141_10 : pm_fetch 141 10 = some (.aload_n 0, 1) := rfl
theorem f141_11 : pm_fetch 141 11 = some (.getfield 7, 3) := rfl
theorem f141_14 : pm_fetch 141 14 = some (.iload_n 1, 1) := rfl
theorem f141_15 : pm_fetch 141 15 = some (.iaload, 1) := rfl
theorem f141_16 : pm_fetch 141 16 = some (.iconst 3, 1) := rfl
theorem f141_17 : pm_fetch 141 17 = some (.if_icmp .ne 15, 3) := rfl
theorem f141_20 : pm_fetch 141 20 = some (.aload_n 0, 1) := rfl
theorem f141_21 : pm_fetch 141 21 = some (.getfield 105, 3) := rfl
theorem f141_24 : pm_fetch 141 24 = some (.iconst 2, 1) := rfl
theorem f141_25 : pm_fetch 141 25 = some (.irem, 1) := rfl
theorem f141_26 : pm_fetch 141 26 = some (.iconst 1, 1) := rfl
theorem f141_27 : pm_fetch 141 27 = some (.if_icmp .ne 5, 3) := rfl
theorem f141_30 : pm_fetch 141 30 = some (.iconst 0, 1) := rfl
theorem f141_31 : pm_fetch 141 31 = some (.ireturn, 1) := rfl
theorem f141_32 : pm_fetch 141 32 = some (.aload_n 0, 1) := rfl
theorem f141_33 : pm_fetch 141 33 = some (.iconst 0, 1) := rfl
theorem f141_34 : pm_fetch 141 34 = some (.iload_n 1, 1) := rfl
theorem f141_35 : pm_fetch 141 35 = some (.invokevirtual 200, 3) := rfl
theorem f141_38 : pm_fetch 141 38 = some (.istore_n 2, 1) := rfl
theorem f141_39 : pm_fetch 141 39 = some (.aload_n 0, 1) := rfl
theorem f141_40 : pm_fetch 141 40 = some (.getfield 16, 3) := rfl
theorem f141_43 : pm_fetch 141 43 = some (.iconst 3, 1) := rfl
theorem f141_44 : pm_fetch 141 44 = some (.iload_n 1, 1) := rfl
theorem f141_45 : pm_fetch 141 45 = some (.imul, 1) := rfl
theorem f141_46 : pm_fetch 141 46 = some (.iconst 2, 1) := rfl
theorem f141_47 : pm_fetch 141 47 = some (.iadd, 1) := rfl
theorem f141_48 : pm_fetch 141 48 = some (.iaload, 1) := rfl
theorem f141_49 : pm_fetch 141 49 = some (.bipush 50, 2) := rfl
theorem f141_51 : pm_fetch 141 51 = some (.if_icmp .le 9, 3) := rfl
theorem f141_54 : pm_fetch 141 54 = some (.iload_n 2, 1) := rfl
theorem f141_55 : pm_fetch 141 55 = some (.iconst 2, 1) := rfl
theorem f141_56 : pm_fetch 141 56 = some (.idiv, 1) := rfl
theorem f141_57 : pm_fetch 141 57 = some (.goto 6, 3) := rfl
theorem f141_60 : pm_fetch 141 60 = some (.iload_n 2, 1) := rfl
theorem f141_61 : pm_fetch 141 61 = some (.iconst 1, 1) := rfl
theorem f141_62 : pm_fetch 141 62 = some (.iadd, 1) := rfl
theorem f141_63 : pm_fetch 141 63 = some (.istore_n 3, 1) := rfl
theorem f141_64 : pm_fetch 141 64 = some (.aload_n 0, 1) := rfl
theorem f141_65 : pm_fetch 141 65 = some (.getfield 7, 3) := rfl
theorem f141_68 : pm_fetch 141 68 = some (.iload_n 1, 1) := rfl
theorem f141_69 : pm_fetch 141 69 = some (.iaload, 1) := rfl
theorem f141_70 : pm_fetch 141 70 = some (.tableswitch 57 1 4 #[30, 51, 30, 53], 30) := rfl
theorem f141_100 : pm_fetch 141 100 = some (.iload_n 2, 1) := rfl
theorem f141_101 : pm_fetch 141 101 = some (.aload_n 0, 1) := rfl
theorem f141_102 : pm_fetch 141 102 = some (.getfield 13, 3) := rfl
theorem f141_105 : pm_fetch 141 105 = some (.iload_n 1, 1) := rfl
theorem f141_106 : pm_fetch 141 106 = some (.iaload, 1) := rfl
theorem f141_107 : pm_fetch 141 107 = some (.if_icmp .ge 7, 3) := rfl
theorem f141_110 : pm_fetch 141 110 = some (.iload_n 2, 1) := rfl
theorem f141_111 : pm_fetch 141 111 = some (.goto 9, 3) := rfl
theorem f141_114 : pm_fetch 141 114 = some (.aload_n 0, 1) := rfl
theorem f141_115 : pm_fetch 141 115 = some (.getfield 13, 3) := rfl
theorem f141_118 : pm_fetch 141 118 = some (.iload_n 1, 1) := rfl
theorem f141_119 : pm_fetch 141 119 = some (.iaload, 1) := rfl
theorem f141_120 : pm_fetch 141 120 = some (.ireturn, 1) := rfl
theorem f141_121 : pm_fetch 141 121 = some (.iload_n 3, 1) := rfl
theorem f141_122 : pm_fetch 141 122 = some (.ireturn, 1) := rfl
theorem f141_123 : pm_fetch 141 123 = some (.iconst 2, 1) := rfl
theorem f141_124 : pm_fetch 141 124 = some (.iload_n 3, 1) := rfl
theorem f141_125 : pm_fetch 141 125 = some (.imul, 1) := rfl
theorem f141_126 : pm_fetch 141 126 = some (.ireturn, 1) := rfl
theorem f141_127 : pm_fetch 141 127 = some (.iload_n 2, 1) := rfl
theorem f141_128 : pm_fetch 141 128 = some (.ireturn, 1) := rfl
theorem f142_0 : pm_fetch 142 0 = some (.aload_n 0, 1) := rfl
theorem f142_1 : pm_fetch 142 1 = some (.iload_n 1, 1) := rfl
theorem f142_2 : pm_fetch 142 2 = some (.invokevirtual 191, 3) := rfl
theorem f142_5 : pm_fetch 142 5 = some (.istore_n 2, 1) := rfl
theorem f142_6 : pm_fetch 142 6 = some (.aload_n 0, 1) := rfl
theorem f142_7 : pm_fetch 142 7 = some (.getfield 7, 3) := rfl
theorem f142_10 : pm_fetch 142 10 = some (.iload_n 1, 1) := rfl
theorem f142_11 : pm_fetch 142 11 = some (.iaload, 1) := rfl
theorem f142_12 : pm_fetch 142 12 = some (.iconst 5, 1) := rfl
theorem f142_13 : pm_fetch 142 13 = some (.if_icmp .ne 19, 3) := rfl
theorem f142_16 : pm_fetch 142 16 = some (.iload_n 2, 1) := rfl
theorem f142_17 : pm_fetch 142 17 = some (.ifCond .eq 13, 3) := rfl
theorem f142_20 : pm_fetch 142 20 = some (.aload_n 0, 1) := rfl
theorem f142_21 : pm_fetch 142 21 = some (.getfield 13, 3) := rfl
theorem f142_24 : pm_fetch 142 24 = some (.iload_n 1, 1) := rfl
theorem f142_25 : pm_fetch 142 25 = some (.iaload, 1) := rfl
theorem f142_26 : pm_fetch 142 26 = some (.ineg, 1) := rfl
theorem f142_27 : pm_fetch 142 27 = some (.goto 4, 3) := rfl
theorem f142_30 : pm_fetch 142 30 = some (.iconst 0, 1) := rfl
theorem f142_31 : pm_fetch 142 31 = some (.ireturn, 1) := rfl
theorem f142_32 : pm_fetch 142 32 = some (.aload_n 0, 1) := rfl
theorem f142_33 : pm_fetch 142 33 = some (.iconst 1, 1) := rfl
theorem f142_34 : pm_fetch 142 34 = some (.iload_n 1, 1) := rfl
theorem f142_35 : pm_fetch 142 35 = some (.invokevirtual 200, 3) := rfl
theorem f142_38 : pm_fetch 142 38 = some (.istore_n 3, 1) := rfl
theorem f142_39 : pm_fetch 142 39 = some (.aload_n 0, 1) := rfl
theorem f142_40 : pm_fetch 142 40 = some (.getfield 7, 3) := rfl
theorem f142_43 : pm_fetch 142 43 = some (.iload_n 1, 1) := rfl
theorem f142_44 : pm_fetch 142 44 = some (.iaload, 1) := rfl
theorem f142_45 : pm_fetch 142 45 = some (.tableswitch 52 1 4 #[31, 52, 31, 43], 31) := rfl
theorem f142_76 : pm_fetch 142 76 = some (.iload_n 2, 1) := rfl
theorem f142_77 : pm_fetch 142 77 = some (.ifCond .eq 9, 3) := rfl
theorem f142_80 : pm_fetch 142 80 = some (.iload_n 3, 1) := rfl
theorem f142_81 : pm_fetch 142 81 = some (.iconst 2, 1) := rfl
theorem f142_82 : pm_fetch 142 82 = some (.idiv, 1) := rfl
theorem f142_83 : pm_fetch 142 83 = some (.goto 4, 3) := rfl
theorem f142_86 : pm_fetch 142 86 = some (.iload_n 3, 1) := rfl
theorem f142_87 : pm_fetch 142 87 = some (.ireturn, 1) := rfl
theorem f142_88 : pm_fetch 142 88 = some (.iload_n 3, 1) := rfl
theorem f142_89 : pm_fetch 142 89 = some (.aload_n 0, 1) := rfl
theorem f142_90 : pm_fetch 142 90 = some (.getfield 13, 3) := rfl
theorem f142_93 : pm_fetch 142 93 = some (.iload_n 1, 1) := rfl
theorem f142_94 : pm_fetch 142 94 = some (.iaload, 1) := rfl
theorem f142_95 : pm_fetch 142 95 = some (.isub, 1) := rfl
theorem f142_96 : pm_fetch 142 96 = some (.ireturn, 1) := rfl
theorem f142_97 : pm_fetch 142 97 = some (.iload_n 3, 1) := rfl
theorem f142_98 : pm_fetch 142 98 = some (.ireturn, 1) := rfl
theorem f143_0 : pm_fetch 143 0 = some (.aload_n 0, 1) := rfl
theorem f143_1 : pm_fetch 143 1 = some (.getfield 7, 3) := rfl
theorem f143_4 : pm_fetch 143 4 = some (.iload_n 1, 1) := rfl
theorem f143_5 : pm_fetch 143 5 = some (.iaload, 1) := rfl
theorem f143_6 : pm_fetch 143 6 = some (.iconst 3, 1) := rfl
theorem f143_7 : pm_fetch 143 7 = some (.if_icmp .ne 5, 3) := rfl
theorem f143_10 : pm_fetch 143 10 = some (.iconst 0, 1) := rfl
theorem f143_11 : pm_fetch 143 11 = some (.ireturn, 1) := rfl
theorem f143_12 : pm_fetch 143 12 = some (.aload_n 0, 1) := rfl
theorem f143_13 : pm_fetch 143 13 = some (.iconst 2, 1) := rfl
theorem f143_14 : pm_fetch 143 14 = some (.iload_n 1, 1) := rfl
theorem f143_15 : pm_fetch 143 15 = some (.invokevirtual 200, 3) := rfl
theorem f143_18 : pm_fetch 143 18 = some (.istore_n 2, 1) := rfl
theorem f143_19 : pm_fetch 143 19 = some (.aload_n 0, 1) := rfl
theorem f143_20 : pm_fetch 143 20 = some (.getfield 7, 3) := rfl
theorem f143_23 : pm_fetch 143 23 = some (.iload_n 1, 1) := rfl
theorem f143_24 : pm_fetch 143 24 = some (.iaload, 1) := rfl
theorem f143_25 : pm_fetch 143 25 = some (.iconst 2, 1) := rfl
theorem f143_26 : pm_fetch 143 26 = some (.if_icmp .eq 13, 3) := rfl
theorem f143_29 : pm_fetch 143 29 = some (.aload_n 0, 1) := rfl
theorem f143_30 : pm_fetch 143 30 = some (.getfield 7, 3) := rfl
theorem f143_33 : pm_fetch 143 33 = some (.iload_n 1, 1) := rfl
theorem f143_34 : pm_fetch 143 34 = some (.iaload, 1) := rfl
theorem f143_35 : pm_fetch 143 35 = some (.iconst 4, 1) := rfl
theorem f143_36 : pm_fetch 143 36 = some (.if_icmp .ne 14, 3) := rfl
theorem f143_39 : pm_fetch 143 39 = some (.iload_n 2, 1) := rfl
theorem f143_40 : pm_fetch 143 40 = some (.aload_n 0, 1) := rfl
theorem f143_41 : pm_fetch 143 41 = some (.getfield 13, 3) := rfl
theorem f143_44 : pm_fetch 143 44 = some (.iload_n 1, 1) := rfl
theorem f143_45 : pm_fetch 143 45 = some (.iaload, 1) := rfl
theorem f143_46 : pm_fetch 143 46 = some (.iadd, 1) := rfl
theorem f143_47 : pm_fetch 143 47 = some (.goto 4, 3) := rfl
theorem f143_50 : pm_fetch 143 50 = some (.iload_n 2, 1) := rfl
theorem f143_51 : pm_fetch 143 51 = some (.ireturn, 1) := rfl
theorem f144_0 : pm_fetch 144 0 = some (.aload_n 0, 1) := rfl
theorem f144_1 : pm_fetch 144 1 = some (.iload_n 1, 1) := rfl
theorem f144_2 : pm_fetch 144 2 = some (.invokevirtual 197, 3) := rfl
theorem f144_5 : pm_fetch 144 5 = some (.ifCond .ne 6, 3) := rfl
theorem f144_8 : pm_fetch 144 8 = some (.bipush (-5), 2) := rfl
theorem f144_10 : pm_fetch 144 10 = some (.ireturn, 1) := rfl
theorem f144_11 : pm_fetch 144 11 = some (.iload_n 2, 1) := rfl
theorem f144_12 : pm_fetch 144 12 = some (.tableswitch 117 0 8 #[52, 52, 52, 63, 70, 77, 91, 97, 103], 52) := rfl
theorem f144_64 : pm_fetch 144 64 = some (.aload_n 0, 1) := rfl
theorem f144_65 : pm_fetch 144 65 = some (.getfield 16, 3) := rfl
theorem f144_68 : pm_fetch 144 68 = some (.iconst 3, 1) := rfl
theorem f144_69 : pm_fetch 144 69 = some (.iload_n 1, 1) := rfl
theorem f144_70 : pm_fetch 144 70 = some (.imul, 1) := rfl
theorem f144_71 : pm_fetch 144 71 = some (.iload_n 2, 1) := rfl
theorem f144_72 : pm_fetch 144 72 = some (.iadd, 1) := rfl
theorem f144_73 : pm_fetch 144 73 = some (.iaload, 1) := rfl
theorem f144_74 : pm_fetch 144 74 = some (.ireturn, 1) := rfl
theorem f144_75 : pm_fetch 144 75 = some (.aload_n 0, 1) := rfl
theorem f144_76 : pm_fetch 144 76 = some (.getfield 7, 3) := rfl
theorem f144_79 : pm_fetch 144 79 = some (.iload_n 1, 1) := rfl
theorem f144_80 : pm_fetch 144 80 = some (.iaload, 1) := rfl
theorem f144_81 : pm_fetch 144 81 = some (.ireturn, 1) := rfl
theorem f144_82 : pm_fetch 144 82 = some (.aload_n 0, 1) := rfl
theorem f144_83 : pm_fetch 144 83 = some (.getfield 13, 3) := rfl
theorem f144_86 : pm_fetch 144 86 = some (.iload_n 1, 1) := rfl
theorem f144_87 : pm_fetch 144 87 = some (.iaload, 1) := rfl
theorem f144_88 : pm_fetch 144 88 = some (.ireturn, 1) := rfl
theorem f144_89 : pm_fetch 144 89 = some (.aload_n 0, 1) := rfl
theorem f144_90 : pm_fetch 144 90 = some (.iload_n 1, 1) := rfl
theorem f144_91 : pm_fetch 144 91 = some (.invokevirtual 191, 3) := rfl
theorem f144_94 : pm_fetch 144 94 = some (.ifCond .eq 7, 3) := rfl
theorem f144_97 : pm_fetch 144 97 = some (.iconst 1, 1) := rfl
theorem f144_98 : pm_fetch 144 98 = some (.goto 4, 3) := rfl
theorem f144_101 : pm_fetch 144 101 = some (.iconst 0, 1) := rfl
theorem f144_102 : pm_fetch 144 102 = some (.ireturn, 1) := rfl
theorem f144_103 : pm_fetch 144 103 = some (.aload_n 0, 1) := rfl
theorem f144_104 : pm_fetch 144 104 = some (.iload_n 1, 1) := rfl
theorem f144_105 : pm_fetch 144 105 = some (.invokevirtual 204, 3) := rfl
theorem f144_108 : pm_fetch 144 108 = some (.ireturn, 1) := rfl
theorem f144_109 : pm_fetch 144 109 = some (.aload_n 0, 1) := rfl
theorem f144_110 : pm_fetch 144 110 = some (.iload_n 1, 1) := rfl
theorem f144_111 : pm_fetch 144 111 = some (.invokevirtual 207, 3) := rfl
theorem f144_114 : pm_fetch 144 114 = some (.ireturn, 1) := rfl
theorem f144_115 : pm_fetch 144 115 = some (.aload_n 0, 1) := rfl
theorem f144_116 : pm_fetch 144 116 = some (.iload_n 1, 1) := rfl
theorem f144_117 : pm_fetch 144 117 = some (.invokevirtual 90, 3) := rfl
theorem f144_120 : pm_fetch 144 120 = some (.aload_n 0, 1) := rfl
theorem f144_121 : pm_fetch 144 121 = some (.getfield 108, 3) := rfl
theorem f144_124 : pm_fetch 144 124 = some (.land, 1) := rfl
theorem f144_125 : pm_fetch 144 125 = some (.invokestatic 101, 3) := rfl
theorem f144_128 : pm_fetch 144 128 = some (.ireturn, 1) := rfl
theorem f144_129 : pm_fetch 144 129 = some (.bipush (-7), 2) := rfl
theorem f144_131 : pm_fetch 144 131 = some (.ireturn, 1) := rfl
theorem f145_0 : pm_fetch 145 0 = some (.aload_n 0, 1) := rfl
theorem f145_1 : pm_fetch 145 1 = some (.iload_n 1, 1) := rfl
theorem f145_2 : pm_fetch 145 2 = some (.invokevirtual 197, 3) := rfl
theorem f145_5 : pm_fetch 145 5 = some (.ifCond .eq 11, 3) := rfl
theorem f145_8 : pm_fetch 145 8 = some (.aload_n 0, 1) := rfl
theorem f145_9 : pm_fetch 145 9 = some (.iload_n 1, 1) := rfl
theorem f145_10 : pm_fetch 145 10 = some (.invokevirtual 210, 3) := rfl
theorem f145_13 : pm_fetch 145 13 = some (.goto 6, 3) := rfl
theorem f145_16 : pm_fetch 145 16 = some (.sipush (-1000), 3) := rfl
theorem f145_19 : pm_fetch 145 19 = some (.ireturn, 1) := rfl
theorem f146_0 : pm_fetch 146 0 = some (.aload_n 0, 1) := rfl
theorem f146_1 : pm_fetch 146 1 = some (.getfield 16, 3) := rfl
theorem f146_4 : pm_fetch 146 4 = some (.iconst 3, 1) := rfl
theorem f146_5 : pm_fetch 146 5 = some (.iload_n 1, 1) := rfl
theorem f146_6 : pm_fetch 146 6 = some (.imul, 1) := rfl
theorem f146_7 : pm_fetch 146 7 = some (.aload_n 0, 1) := rfl
theorem f146_8 : pm_fetch 146 8 = some (.getfield 16, 3) := rfl
theorem f146_11 : pm_fetch 146 11 = some (.iconst 3, 1) := rfl
theorem f146_12 : pm_fetch 146 12 = some (.iload_n 1, 1) := rfl
theorem f146_13 : pm_fetch 146 13 = some (.imul, 1) := rfl
theorem f146_14 : pm_fetch 146 14 = some (.iaload, 1) := rfl
theorem f146_15 : pm_fetch 146 15 = some (.aload_n 0, 1) := rfl
theorem f146_16 : pm_fetch 146 16 = some (.iload_n 1, 1) := rfl
theorem f146_17 : pm_fetch 146 17 = some (.invokevirtual 204, 3) := rfl
theorem f146_20 : pm_fetch 146 20 = some (.iadd, 1) := rfl
theorem f146_21 : pm_fetch 146 21 = some (.iconst 0, 1) := rfl
theorem f146_22 : pm_fetch 146 22 = some (.bipush 39, 2) := rfl
theorem f146_24 : pm_fetch 146 24 = some (.invokestatic 86, 3) := rfl
theorem f146_27 : pm_fetch 146 27 = some (.iastore, 1) := rfl
theorem f146_28 : pm_fetch 146 28 = some (.iconst 0, 1) := rfl
theorem f146_29 : pm_fetch 146 29 = some (.istore_n 2, 1) := rfl
theorem f146_30 : pm_fetch 146 30 = some (.iload_n 2, 1) := rfl
theorem f146_31 : pm_fetch 146 31 = some (.aload_n 0, 1) := rfl
theorem f146_32 : pm_fetch 146 32 = some (.getfield 83, 3) := rfl
theorem f146_35 : pm_fetch 146 35 = some (.if_icmp .ge 118, 3) := rfl
theorem f146_38 : pm_fetch 146 38 = some (.iload_n 2, 1) := rfl
theorem f146_39 : pm_fetch 146 39 = some (.iload_n 1, 1) := rfl
theorem f146_40 : pm_fetch 146 40 = some (.if_icmp .eq 16, 3) := rfl
theorem f146_43 : pm_fetch 146 43 = some (.aload_n 0, 1) := rfl
theorem f146_44 : pm_fetch 146 44 = some (.getfield 19, 3) := rfl
theorem f146_47 : pm_fetch 146 47 = some (.iload_n 2, 1) := rfl
theorem f146_48 : pm_fetch 146 48 = some (.iaload, 1) := rfl
theorem f146_49 : pm_fetch 146 49 = some (.ifCond .ne 7, 3) := rfl
theorem f146_52 : pm_fetch 146 52 = some (.iconst 1, 1) := rfl
theorem f146_53 : pm_fetch 146 53 = some (.goto 4, 3) := rfl
theorem f146_56 : pm_fetch 146 56 = some (.iconst 0, 1) := rfl
theorem f146_57 : pm_fetch 146 57 = some (.istore_n 3, 1) := rfl
theorem f146_58 : pm_fetch 146 58 = some (.iload_n 3, 1) := rfl
theorem f146_59 : pm_fetch 146 59 = some (.ifCond .eq 88, 3) := rfl
theorem f146_62 : pm_fetch 146 62 = some (.aload_n 0, 1) := rfl
theorem f146_63 : pm_fetch 146 63 = some (.iload_n 2, 1) := rfl
theorem f146_64 : pm_fetch 146 64 = some (.invokevirtual 90, 3) := rfl
theorem f146_67 : pm_fetch 146 67 = some (.aload_n 0, 1) := rfl
theorem f146_68 : pm_fetch 146 68 = some (.iload_n 1, 1) := rfl
theorem f146_69 : pm_fetch 146 69 = some (.invokevirtual 90, 3) := rfl
theorem f146_72 : pm_fetch 146 72 = some (.land, 1) := rfl
theorem f146_73 : pm_fetch 146 73 = some (.lconst 0, 1) := rfl
theorem f146_74 : pm_fetch 146 74 = some (.lcmp, 1) := rfl
theorem f146_75 : pm_fetch 146 75 = some (.ifCond .eq 72, 3) := rfl
theorem f146_78 : pm_fetch 146 78 = some (.aload_n 0, 1) := rfl
theorem f146_79 : pm_fetch 146 79 = some (.getfield 16, 3) := rfl
theorem f146_82 : pm_fetch 146 82 = some (.iconst 3, 1) := rfl
theorem f146_83 : pm_fetch 146 83 = some (.iload_n 2, 1) := rfl
theorem f146_84 : pm_fetch 146 84 = some (.imul, 1) := rfl
theorem f146_85 : pm_fetch 146 85 = some (.iconst 2, 1) := rfl
theorem f146_86 : pm_fetch 146 86 = some (.iadd, 1) := rfl
theorem f146_87 : pm_fetch 146 87 = some (.iaload, 1) := rfl
theorem f146_88 : pm_fetch 146 88 = some (.aload_n 0, 1) := rfl
theorem f146_89 : pm_fetch 146 89 = some (.getfield 16, 3) := rfl
theorem f146_92 : pm_fetch 146 92 = some (.iconst 3, 1) := rfl
theorem f146_93 : pm_fetch 146 93 = some (.iload_n 1, 1) := rfl
theorem f146_94 : pm_fetch 146 94 = some (.imul, 1) := rfl
theorem f146_95 : pm_fetch 146 95 = some (.iconst 2, 1) := rfl
theorem f146_96 : pm_fetch 146 96 = some (.iadd, 1) := rfl
theorem f146_97 : pm_fetch 146 97 = some (.iaload, 1) := rfl
theorem f146_98 : pm_fetch 146 98 = some (.if_icmp .gt 49, 3) := rfl
theorem f146_101 : pm_fetch 146 101 = some (.aload_n 0, 1) := rfl
theorem f146_102 : pm_fetch 146 102 = some (.getfield 19, 3) := rfl
theorem f146_105 : pm_fetch 146 105 = some (.iload_n 2, 1) := rfl
theorem f146_106 : pm_fetch 146 106 = some (.iconst 1, 1) := rfl
theorem f146_107 : pm_fetch 146 107 = some (.iastore, 1) := rfl
theorem f146_108 : pm_fetch 146 108 = some (.aload_n 0, 1) := rfl
theorem f146_109 : pm_fetch 146 109 = some (.getfield 16, 3) := rfl
theorem f146_112 : pm_fetch 146 112 = some (.iconst 3, 1) := rfl
theorem f146_113 : pm_fetch 146 113 = some (.iload_n 1, 1) := rfl
theorem f146_114 : pm_fetch 146 114 = some (.imul, 1) := rfl
theorem f146_115 : pm_fetch 146 115 = some (.iconst 2, 1) := rfl
theorem f146_116 : pm_fetch 146 116 = some (.iadd, 1) := rfl
theorem f146_117 : pm_fetch 146 117 = some (.aload_n 0, 1) := rfl
theorem f146_118 : pm_fetch 146 118 = some (.getfield 16, 3) := rfl
theorem f146_121 : pm_fetch 146 121 = some (.iconst 3, 1) := rfl
theorem f146_122 : pm_fetch 146 122 = some (.iload_n 1, 1) := rfl
theorem f146_123 : pm_fetch 146 123 = some (.imul, 1) := rfl
theorem f146_124 : pm_fetch 146 124 = some (.iconst 2, 1) := rfl
theorem f146_125 : pm_fetch 146 125 = some (.iadd, 1) := rfl
theorem f146_126 : pm_fetch 146 126 = some (.iaload, 1) := rfl
theorem f146_127 : pm_fetch 146 127 = some (.aload_n 0, 1) := rfl
theorem f146_128 : pm_fetch 146 128 = some (.getfield 16, 3) := rfl
theorem f146_131 : pm_fetch 146 131 = some (.iconst 3, 1) := rfl
theorem f146_132 : pm_fetch 146 132 = some (.iload_n 2, 1) := rfl
theorem f146_133 : pm_fetch 146 133 = some (.imul, 1) := rfl
theorem f146_134 : pm_fetch 146 134 = some (.iconst 2, 1) := rfl
theorem f146_135 : pm_fetch 146 135 = some (.iadd, 1) := rfl
theorem f146_136 : pm_fetch 146 136 = some (.iaload, 1) := rfl
theorem f146_137 : pm_fetch 146 137 = some (.iconst 2, 1) := rfl
theorem f146_138 : pm_fetch 146 138 = some (.idiv, 1) := rfl
theorem f146_139 : pm_fetch 146 139 = some (.iadd, 1) := rfl
theorem f146_140 : pm_fetch 146 140 = some (.iconst 0, 1) := rfl
theorem f146_141 : pm_fetch 146 141 = some (.bipush 99, 2) := rfl
theorem f146_143 : pm_fetch 146 143 = some (.invokestatic 86, 3) := rfl
theorem f146_146 : pm_fetch 146 146 = some (.iastore, 1) := rfl
theorem f146_147 : pm_fetch 146 147 = some (.iinc 2 1, 3) := rfl
theorem f146_150 : pm_fetch 146 150 = some (.goto (-120), 3) := rfl
theorem f146_153 : pm_fetch 146 153 = some (.aload_n 0, 1) := rfl
theorem f146_154 : pm_fetch 146 154 = some (.getfield 16, 3) := rfl
theorem f146_157 : pm_fetch 146 157 = some (.iconst 3, 1) := rfl
theorem f146_158 : pm_fetch 146 158 = some (.iload_n 1, 1) := rfl
theorem f146_159 : pm_fetch 146 159 = some (.imul, 1) := rfl
theorem f146_160 : pm_fetch 146 160 = some (.iconst 2, 1) := rfl
theorem f146_161 : pm_fetch 146 161 = some (.iadd, 1) := rfl
theorem f146_162 : pm_fetch 146 162 = some (.aload_n 0, 1) := rfl
theorem f146_163 : pm_fetch 146 163 = some (.getfield 16, 3) := rfl
theorem f146_166 : pm_fetch 146 166 = some (.iconst 3, 1) := rfl
theorem f146_167 : pm_fetch 146 167 = some (.iload_n 1, 1) := rfl
theorem f146_168 : pm_fetch 146 168 = some (.imul, 1) := rfl
theorem f146_169 : pm_fetch 146 169 = some (.iconst 2, 1) := rfl
theorem f146_170 : pm_fetch 146 170 = some (.iadd, 1) := rfl
theorem f146_171 : pm_fetch 146 171 = some (.iaload, 1) := rfl
theorem f146_172 : pm_fetch 146 172 = some (.aload_n 0, 1) := rfl
theorem f146_173 : pm_fetch 146 173 = some (.iload_n 1, 1) := rfl
theorem f146_174 : pm_fetch 146 174 = some (.invokevirtual 210, 3) := rfl
theorem f146_177 : pm_fetch 146 177 = some (.iadd, 1) := rfl
theorem f146_178 : pm_fetch 146 178 = some (.iconst 0, 1) := rfl
theorem f146_179 : pm_fetch 146 179 = some (.bipush 99, 2) := rfl
theorem f146_181 : pm_fetch 146 181 = some (.invokestatic 86, 3) := rfl
theorem f146_184 : pm_fetch 146 184 = some (.iastore, 1) := rfl
theorem f146_185 : pm_fetch 146 185 = some (.aload_n 0, 1) := rfl
theorem f146_186 : pm_fetch 146 186 = some (.getfield 16, 3) := rfl
theorem f146_189 : pm_fetch 146 189 = some (.iconst 3, 1) := rfl
theorem f146_190 : pm_fetch 146 190 = some (.iload_n 1, 1) := rfl
theorem f146_191 : pm_fetch 146 191 = some (.imul, 1) := rfl
theorem f146_192 : pm_fetch 146 192 = some (.iconst 2, 1) := rfl
theorem f146_193 : pm_fetch 146 193 = some (.iadd, 1) := rfl
theorem f146_194 : pm_fetch 146 194 = some (.iaload, 1) := rfl
theorem f146_195 : pm_fetch 146 195 = some (.aload_n 0, 1) := rfl
theorem f146_196 : pm_fetch 146 196 = some (.iload_n 1, 1) := rfl
theorem f146_197 : pm_fetch 146 197 = some (.invokevirtual 207, 3) := rfl
theorem f146_200 : pm_fetch 146 200 = some (.if_icmp .ge 10, 3) := rfl
theorem f146_203 : pm_fetch 146 203 = some (.aload_n 0, 1) := rfl
theorem f146_204 : pm_fetch 146 204 = some (.getfield 19, 3) := rfl
theorem f146_207 : pm_fetch 146 207 = some (.iload_n 1, 1) := rfl
theorem f146_208 : pm_fetch 146 208 = some (.iconst 1, 1) := rfl
theorem f146_209 : pm_fetch 146 209 = some (.iastore, 1) := rfl
theorem f146_210 : pm_fetch 146 210 = some (.return_, 1) := rfl
theorem f147_0 : pm_fetch 147 0 = some (.aload_n 0, 1) := rfl
theorem f147_1 : pm_fetch 147 1 = some (.invokevirtual 98, 3) := rfl
theorem f147_4 : pm_fetch 147 4 = some (.istore_n 1, 1) := rfl
theorem f147_5 : pm_fetch 147 5 = some (.iconst 0, 1) := rfl
theorem f147_6 : pm_fetch 147 6 = some (.istore_n 2, 1) := rfl
theorem f147_7 : pm_fetch 147 7 = some (.iload_n 2, 1) := rfl
theorem f147_8 : pm_fetch 147 8 = some (.aload_n 0, 1) := rfl
theorem f147_9 : pm_fetch 147 9 = some (.getfield 83, 3) := rfl
theorem f147_12 : pm_fetch 147 12 = some (.if_icmp .ge 23, 3) := rfl
theorem f147_15 : pm_fetch 147 15 = some (.aload_n 0, 1) := rfl
theorem f147_16 : pm_fetch 147 16 = some (.getfield 19, 3) := rfl
theorem f147_19 : pm_fetch 147 19 = some (.iload_n 2, 1) := rfl
theorem f147_20 : pm_fetch 147 20 = some (.iaload, 1) := rfl
theorem f147_21 : pm_fetch 147 21 = some (.ifCond .ne 8, 3) := rfl
theorem f147_24 : pm_fetch 147 24 = some (.aload_n 0, 1) := rfl
theorem f147_25 : pm_fetch 147 25 = some (.iload_n 2, 1) := rfl
theorem f147_26 : pm_fetch 147 26 = some (.invokevirtual 213, 3) := rfl
theorem f147_29 : pm_fetch 147 29 = some (.iinc 2 1, 3) := rfl
theorem f147_32 : pm_fetch 147 32 = some (.goto (-25), 3) := rfl
theorem f147_35 : pm_fetch 147 35 = some (.aload_n 0, 1) := rfl
theorem f147_36 : pm_fetch 147 36 = some (.dup, 1) := rfl
theorem f147_37 : pm_fetch 147 37 = some (.getfield 105, 3) := rfl
theorem f147_40 : pm_fetch 147 40 = some (.iconst 1, 1) := rfl
theorem f147_41 : pm_fetch 147 41 = some (.iadd, 1) := rfl
theorem f147_42 : pm_fetch 147 42 = some (.putfield 105, 3) := rfl
theorem f147_45 : pm_fetch 147 45 = some (.iload_n 1, 1) := rfl
theorem f147_46 : pm_fetch 147 46 = some (.aload_n 0, 1) := rfl
theorem f147_47 : pm_fetch 147 47 = some (.invokevirtual 98, 3) := rfl
theorem f147_50 : pm_fetch 147 50 = some (.iconst (-1), 1) := rfl
theorem f147_51 : pm_fetch 147 51 = some (.ixor, 1) := rfl
theorem f147_52 : pm_fetch 147 52 = some (.iand, 1) := rfl
theorem f147_53 : pm_fetch 147 53 = some (.ireturn, 1) := rfl
theorem f148_0 : pm_fetch 148 0 = some (.aload_n 0, 1) := rfl
theorem f148_1 : pm_fetch 148 1 = some (.getfield 105, 3) := rfl
theorem f148_4 : pm_fetch 148 4 = some (.sipush 999, 3) := rfl
theorem f148_7 : pm_fetch 148 7 = some (.if_icmp .ne 8, 3) := rfl
theorem f148_10 : pm_fetch 148 10 = some (.bipush (-3), 2) := rfl
theorem f148_12 : pm_fetch 148 12 = some (.goto 7, 3) := rfl
theorem f148_15 : pm_fetch 148 15 = some (.aload_n 0, 1) := rfl
theorem f148_16 : pm_fetch 148 16 = some (.invokevirtual 216, 3) := rfl
theorem f148_19 : pm_fetch 148 19 = some (.ireturn, 1) := rfl
theorem f149_0 : pm_fetch 149 0 = some (.iconst 0, 1) := rfl
theorem f149_1 : pm_fetch 149 1 = some (.istore_n 1, 1) := rfl
theorem f149_2 : pm_fetch 149 2 = some (.iload_n 1, 1) := rfl
theorem f149_3 : pm_fetch 149 3 = some (.bipush 18, 2) := rfl
theorem f149_5 : pm_fetch 149 5 = some (.if_icmp .ge 21, 3) := rfl
theorem f149_8 : pm_fetch 149 8 = some (.aload_n 0, 1) := rfl
theorem f149_9 : pm_fetch 149 9 = some (.getfield 65, 3) := rfl
theorem f149_12 : pm_fetch 149 12 = some (.iload_n 1, 1) := rfl
theorem f149_13 : pm_fetch 149 13 = some (.aload_n 0, 1) := rfl
theorem f149_14 : pm_fetch 149 14 = some (.getfield 16, 3) := rfl
theorem f149_17 : pm_fetch 149 17 = some (.iload_n 1, 1) := rfl
theorem f149_18 : pm_fetch 149 18 = some (.iaload, 1) := rfl
theorem f149_19 : pm_fetch 149 19 = some (.iastore, 1) := rfl
theorem f149_20 : pm_fetch 149 20 = some (.iinc 1 1, 3) := rfl
theorem f149_23 : pm_fetch 149 23 = some (.goto (-21), 3) := rfl
theorem f149_26 : pm_fetch 149 26 = some (.iconst 0, 1) := rfl
theorem f149_27 : pm_fetch 149 27 = some (.istore_n 1, 1) := rfl
theorem f149_28 : pm_fetch 149 28 = some (.iload_n 1, 1) := rfl
theorem f149_29 : pm_fetch 149 29 = some (.bipush 6, 2) := rfl
theorem f149_31 : pm_fetch 149 31 = some (.if_icmp .ge 24, 3) := rfl
theorem f149_34 : pm_fetch 149 34 = some (.aload_n 0, 1) := rfl
theorem f149_35 : pm_fetch 149 35 = some (.getfield 65, 3) := rfl
theorem f149_38 : pm_fetch 149 38 = some (.bipush 18, 2) := rfl
theorem f149_40 : pm_fetch 149 40 = some (.iload_n 1, 1) := rfl
theorem f149_41 : pm_fetch 149 41 = some (.iadd, 1) := rfl
theorem f149_42 : pm_fetch 149 42 = some (.aload_n 0, 1) := rfl
theorem f149_43 : pm_fetch 149 43 = some (.getfield 19, 3) := rfl
theorem f149_46 : pm_fetch 149 46 = some (.iload_n 1, 1) := rfl
theorem f149_47 : pm_fetch 149 47 = some (.iaload, 1) := rfl
theorem f149_48 : pm_fetch 149 48 = some (.iastore, 1) := rfl
theorem f149_49 : pm_fetch 149 49 = some (.iinc 1 1, 3) := rfl
theorem f149_52 : pm_fetch 149 52 = some (.goto (-24), 3) := rfl
theorem f149_55 : pm_fetch 149 55 = some (.aload_n 0, 1) := rfl
theorem f149_56 : pm_fetch 149 56 = some (.getfield 65, 3) := rfl
theorem f149_59 : pm_fetch 149 59 = some (.bipush 24, 2) := rfl
theorem f149_61 : pm_fetch 149 61 = some (.aload_n 0, 1) := rfl
theorem f149_62 : pm_fetch 149 62 = some (.getfield 105, 3) := rfl
theorem f149_65 : pm_fetch 149 65 = some (.iastore, 1) := rfl
theorem f149_66 : pm_fetch 149 66 = some (.return_, 1) := rfl
theorem f150_0 : pm_fetch 150 0 = some (.iconst 0, 1) := rfl
theorem f150_1 : pm_fetch 150 1 = some (.istore_n 1, 1) := rfl
theorem f150_2 : pm_fetch 150 2 = some (.iload_n 1, 1) := rfl
theorem f150_3 : pm_fetch 150 3 = some (.bipush 18, 2) := rfl
theorem f150_5 : pm_fetch 150 5 = some (.if_icmp .ge 21, 3) := rfl
theorem f150_8 : pm_fetch 150 8 = some (.aload_n 0, 1) := rfl
theorem f150_9 : pm_fetch 150 9 = some (.getfield 16, 3) := rfl
theorem f150_12 : pm_fetch 150 12 = some (.iload_n 1, 1) := rfl
theorem f150_13 : pm_fetch 150 13 = some (.aload_n 0, 1) := rfl
theorem f150_14 : pm_fetch 150 14 = some (.getfield 65, 3) := rfl
theorem f150_17 : pm_fetch 150 17 = some (.iload_n 1, 1) := rfl
theorem f150_18 : pm_fetch 150 18 = some (.iaload, 1) := rfl
theorem f150_19 : pm_fetch 150 19 = some (.iastore, 1) := rfl
theorem f150_20 : pm_fetch 150 20 = some (.iinc 1 1, 3) := rfl
theorem f150_23 : pm_fetch 150 23 = some (.goto (-21), 3) := rfl
theorem f150_26 : pm_fetch 150 26 = some (.iconst 0, 1) := rfl
theorem f150_27 : pm_fetch 150 27 = some (.istore_n 1, 1) := rfl
theorem f150_28 : pm_fetch 150 28 = some (.iload_n 1, 1) := rfl
theorem f150_29 : pm_fetch 150 29 = some (.bipush 6, 2) := rfl
theorem f150_31 : pm_fetch 150 31 = some (.if_icmp .ge 24, 3) := rfl
theorem f150_34 : pm_fetch 150 34 = some (.aload_n 0, 1) := rfl
theorem f150_35 : pm_fetch 150 35 = some (.getfield 19, 3) := rfl
theorem f150_38 : pm_fetch 150 38 = some (.iload_n 1, 1) := rfl
theorem f150_39 : pm_fetch 150 39 = some (.aload_n 0, 1) := rfl
theorem f150_40 : pm_fetch 150 40 = some (.getfield 65, 3) := rfl
theorem f150_43 : pm_fetch 150 43 = some (.bipush 18, 2) := rfl
theorem f150_45 : pm_fetch 150 45 = some (.iload_n 1, 1) := rfl
theorem f150_46 : pm_fetch 150 46 = some (.iadd, 1) := rfl
theorem f150_47 : pm_fetch 150 47 = some (.iaload, 1) := rfl
theorem f150_48 : pm_fetch 150 48 = some (.iastore, 1) := rfl
theorem f150_49 : pm_fetch 150 49 = some (.iinc 1 1, 3) := rfl
theorem f150_52 : pm_fetch 150 52 = some (.goto (-24), 3) := rfl
theorem f150_55 : pm_fetch 150 55 = some (.aload_n 0, 1) := rfl
theorem f150_56 : pm_fetch 150 56 = some (.aload_n 0, 1) := rfl
theorem f150_57 : pm_fetch 150 57 = some (.getfield 65, 3) := rfl
theorem f150_60 : pm_fetch 150 60 = some (.bipush 24, 2) := rfl
theorem f150_62 : pm_fetch 150 62 = some (.iaload, 1) := rfl
theorem f150_63 : pm_fetch 150 63 = some (.putfield 105, 3) := rfl
theorem f150_66 : pm_fetch 150 66 = some (.return_, 1) := rfl
theorem f151_0 : pm_fetch 151 0 = some (.iconst 0, 1) := rfl
theorem f151_1 : pm_fetch 151 1 = some (.istore_n 2, 1) := rfl
theorem f151_2 : pm_fetch 151 2 = some (.iconst 0, 1) := rfl
theorem f151_3 : pm_fetch 151 3 = some (.istore_n 3, 1) := rfl
theorem f151_4 : pm_fetch 151 4 = some (.iload_n 3, 1) := rfl
theorem f151_5 : pm_fetch 151 5 = some (.iload_n 1, 1) := rfl
theorem f151_6 : pm_fetch 151 6 = some (.if_icmp .ge 29, 3) := rfl
theorem f151_9 : pm_fetch 151 9 = some (.aload_n 0, 1) := rfl
theorem f151_10 : pm_fetch 151 10 = some (.invokevirtual 216, 3) := rfl
theorem f151_13 : pm_fetch 151 13 = some (.pop, 1) := rfl
theorem f151_14 : pm_fetch 151 14 = some (.iload_n 2, 1) := rfl
theorem f151_15 : pm_fetch 151 15 = some (.aload_n 0, 1) := rfl
theorem f151_16 : pm_fetch 151 16 = some (.invokevirtual 123, 3) := rfl
theorem f151_19 : pm_fetch 151 19 = some (.aload_n 0, 1) := rfl
theorem f151_20 : pm_fetch 151 20 = some (.getfield 108, 3) := rfl
theorem f151_23 : pm_fetch 151 23 = some (.land, 1) := rfl
theorem f151_24 : pm_fetch 151 24 = some (.invokestatic 101, 3) := rfl
theorem f151_27 : pm_fetch 151 27 = some (.iadd, 1) := rfl
theorem f151_28 : pm_fetch 151 28 = some (.istore_n 2, 1) := rfl
theorem f151_29 : pm_fetch 151 29 = some (.iinc 3 1, 3) := rfl
theorem f151_32 : pm_fetch 151 32 = some (.goto (-28), 3) := rfl
theorem f151_35 : pm_fetch 151 35 = some (.iload_n 2, 1) := rfl
theorem f151_36 : pm_fetch 151 36 = some (.ireturn, 1) := rfl
theorem f152_0 : pm_fetch 152 0 = some (.aload_n 0, 1) := rfl
theorem f152_1 : pm_fetch 152 1 = some (.getfield 19, 3) := rfl
theorem f152_4 : pm_fetch 152 4 = some (.iload_n 1, 1) := rfl
theorem f152_5 : pm_fetch 152 5 = some (.iaload, 1) := rfl
theorem f152_6 : pm_fetch 152 6 = some (.iconst 1, 1) := rfl
theorem f152_7 : pm_fetch 152 7 = some (.if_icmp .ne 7, 3) := rfl
theorem f152_10 : pm_fetch 152 10 = some (.iconst (-1), 1) := rfl
theorem f152_11 : pm_fetch 152 11 = some (.goto 13, 3) := rfl
theorem f152_14 : pm_fetch 152 14 = some (.aload_n 0, 1) := rfl
theorem f152_15 : pm_fetch 152 15 = some (.getfield 16, 3) := rfl
theorem f152_18 : pm_fetch 152 18 = some (.iconst 3, 1) := rfl
theorem f152_19 : pm_fetch 152 19 = some (.iload_n 1, 1) := rfl
theorem f152_20 : pm_fetch 152 20 = some (.imul, 1) := rfl
theorem f152_21 : pm_fetch 152 21 = some (.iload_n 2, 1) := rfl
theorem f152_22 : pm_fetch 152 22 = some (.iadd, 1) := rfl
theorem f152_23 : pm_fetch 152 23 = some (.iaload, 1) := rfl
theorem f152_24 : pm_fetch 152 24 = some (.ireturn, 1) := rfl
theorem f153_0 : pm_fetch 153 0 = some (.iload_n 2, 1) := rfl
theorem f153_1 : pm_fetch 153 1 = some (.iconst 0, 1) := rfl
theorem f153_2 : pm_fetch 153 2 = some (.iconst 2, 1) := rfl
theorem f153_3 : pm_fetch 153 3 = some (.invokestatic 79, 3) := rfl
theorem f153_6 : pm_fetch 153 6 = some (.ifCond .ne 25, 3) := rfl
theorem f153_9 : pm_fetch 153 9 = some (.aload_n 0, 1) := rfl
theorem f153_10 : pm_fetch 153 10 = some (.iload_n 2, 1) := rfl
theorem f153_11 : pm_fetch 153 11 = some (.bipush 10, 2) := rfl
theorem f153_13 : pm_fetch 153 13 = some (.isub, 1) := rfl
theorem f153_14 : pm_fetch 153 14 = some (.invokevirtual 197, 3) := rfl
theorem f153_17 : pm_fetch 153 17 = some (.ifCond .ne 14, 3) := rfl
theorem f153_20 : pm_fetch 153 20 = some (.aload_n 0, 1) := rfl
theorem f153_21 : pm_fetch 153 21 = some (.iload_n 2, 1) := rfl
theorem f153_22 : pm_fetch 153 22 = some (.bipush 20, 2) := rfl
theorem f153_24 : pm_fetch 153 24 = some (.isub, 1) := rfl
theorem f153_25 : pm_fetch 153 25 = some (.invokevirtual 197, 3) := rfl
theorem f153_28 : pm_fetch 153 28 = some (.ifCond .eq 7, 3) := rfl
theorem f153_31 : pm_fetch 153 31 = some (.iconst 1, 1) := rfl
theorem f153_32 : pm_fetch 153 32 = some (.goto 4, 3) := rfl
theorem f153_35 : pm_fetch 153 35 = some (.iconst 0, 1) := rfl
theorem f153_36 : pm_fetch 153 36 = some (.istore_n 3, 1) := rfl
theorem f153_37 : pm_fetch 153 37 = some (.iload_n 1, 1) := rfl
theorem f153_38 : pm_fetch 153 38 = some (.iconst 0, 1) := rfl
theorem f153_39 : pm_fetch 153 39 = some (.bipush 40, 2) := rfl
theorem f153_41 : pm_fetch 153 41 = some (.invokestatic 79, 3) := rfl
theorem f153_44 : pm_fetch 153 44 = some (.ifCond .eq 7, 3) := rfl
theorem f153_47 : pm_fetch 153 47 = some (.iload_n 3, 1) := rfl
theorem f153_48 : pm_fetch 153 48 = some (.ifCond .ne 6, 3) := rfl
theorem f153_51 : pm_fetch 153 51 = some (.bipush (-2), 2) := rfl
theorem f153_53 : pm_fetch 153 53 = some (.ireturn, 1) := rfl
theorem f153_54 : pm_fetch 153 54 = some (.aload_n 0, 1) := rfl
theorem f153_55 : pm_fetch 153 55 = some (.invokevirtual 219, 3) := rfl
theorem f153_58 : pm_fetch 153 58 = some (.aload_n 0, 1) := rfl
theorem f153_59 : pm_fetch 153 59 = some (.iload_n 1, 1) := rfl
theorem f153_60 : pm_fetch 153 60 = some (.invokevirtual 222, 3) := rfl
theorem f153_63 : pm_fetch 153 63 = some (.istore 4, 2) := rfl
theorem f153_65 : pm_fetch 153 65 = some (.iload 4, 2) := rfl
theorem f153_67 : pm_fetch 153 67 = some (.istore 5, 2) := rfl
theorem f153_69 : pm_fetch 153 69 = some (.iload_n 2, 1) := rfl
theorem f153_70 : pm_fetch 153 70 = some (.tableswitch 55 0 2 #[26, 35, 52], 26) := rfl
theorem f153_96 : pm_fetch 153 96 = some (.aload_n 0, 1) := rfl
theorem f153_97 : pm_fetch 153 97 = some (.invokevirtual 98, 3) := rfl
theorem f153_100 : pm_fetch 153 100 = some (.istore 5, 2) := rfl
theorem f153_102 : pm_fetch 153 102 = some (.goto 62, 3) := rfl
theorem f153_105 : pm_fetch 153 105 = some (.aload_n 0, 1) := rfl
theorem f153_106 : pm_fetch 153 106 = some (.invokevirtual 123, 3) := rfl
theorem f153_109 : pm_fetch 153 109 = some (.aload_n 0, 1) := rfl
theorem f153_110 : pm_fetch 153 110 = some (.getfield 108, 3) := rfl
theorem f153_113 : pm_fetch 153 113 = some (.land, 1) := rfl
theorem f153_114 : pm_fetch 153 114 = some (.invokestatic 101, 3) := rfl
theorem f153_117 : pm_fetch 153 117 = some (.istore 5, 2) := rfl
theorem f153_119 : pm_fetch 153 119 = some (.goto 45, 3) := rfl
theorem f153_122 : pm_fetch 153 122 = some (.goto 42, 3) := rfl
theorem f153_125 : pm_fetch 153 125 = some (.iload_n 2, 1) := rfl
theorem f153_126 : pm_fetch 153 126 = some (.bipush 20, 2) := rfl
theorem f153_128 : pm_fetch 153 128 = some (.if_icmp .ge 20, 3) := rfl
theorem f153_131 : pm_fetch 153 131 = some (.aload_n 0, 1) := rfl
theorem f153_132 : pm_fetch 153 132 = some (.iload_n 2, 1) := rfl
theorem f153_133 : pm_fetch 153 133 = some (.bipush 10, 2) := rfl
theorem f153_135 : pm_fetch 153 135 = some (.isub, 1) := rfl
theorem f153_136 : pm_fetch 153 136 = some (.iconst 0, 1) := rfl
theorem f153_137 : pm_fetch 153 137 = some (.iconst 5, 1) := rfl
theorem f153_138 : pm_fetch 153 138 = some (.invokestatic 86, 3) := rfl
theorem f153_141 : pm_fetch 153 141 = some (.iconst 0, 1) := rfl
theorem f153_142 : pm_fetch 153 142 = some (.invokevirtual 225, 3) := rfl
theorem f153_145 : pm_fetch 153 145 = some (.goto 17, 3) := rfl
theorem f153_148 : pm_fetch 153 148 = some (.aload_n 0, 1) := rfl
theorem f153_149 : pm_fetch 153 149 = some (.iload_n 2, 1) := rfl
theorem f153_150 : pm_fetch 153 150 = some (.bipush 20, 2) := rfl
theorem f153_152 : pm_fetch 153 152 = some (.isub, 1) := rfl
theorem f153_153 : pm_fetch 153 153 = some (.iconst 0, 1) := rfl
theorem f153_154 : pm_fetch 153 154 = some (.iconst 5, 1) := rfl
theorem f153_155 : pm_fetch 153 155 = some (.invokestatic 86, 3) := rfl
theorem f153_158 : pm_fetch 153 158 = some (.iconst 2, 1) := rfl
theorem f153_159 : pm_fetch 153 159 = some (.invokevirtual 225, 3) := rfl
theorem f153_162 : pm_fetch 153 162 = some (.istore 5, 2) := rfl
theorem f153_164 : pm_fetch 153 164 = some (.aload_n 0, 1) := rfl
theorem f153_165 : pm_fetch 153 165 = some (.invokevirtual 228, 3) := rfl
theorem f153_168 : pm_fetch 153 168 = some (.iload 5, 2) := rfl
theorem f153_170 : pm_fetch 153 170 = some (.ireturn, 1) := rfl
theorem f154_0 : pm_fetch 154 0 = some (.iconst 0, 1) := rfl
theorem f154_1 : pm_fetch 154 1 = some (.istore_n 2, 1) := rfl
theorem f154_2 : pm_fetch 154 2 = some (.iload_n 2, 1) := rfl
theorem f154_3 : pm_fetch 154 3 = some (.aload_n 0, 1) := rfl
theorem f154_4 : pm_fetch 154 4 = some (.getfield 83, 3) := rfl
theorem f154_7 : pm_fetch 154 7 = some (.if_icmp .ge 34, 3) := rfl
theorem f154_10 : pm_fetch 154 10 = some (.aload_n 0, 1) := rfl
theorem f154_11 : pm_fetch 154 11 = some (.getfield 19, 3) := rfl
theorem f154_14 : pm_fetch 154 14 = some (.iload_n 2, 1) := rfl
theorem f154_15 : pm_fetch 154 15 = some (.iaload, 1) := rfl
theorem f154_16 : pm_fetch 154 16 = some (.ifCond .ne 19, 3) := rfl
theorem f154_19 : pm_fetch 154 19 = some (.aload_n 0, 1) := rfl
theorem f154_20 : pm_fetch 154 20 = some (.iload_n 2, 1) := rfl
theorem f154_21 : pm_fetch 154 21 = some (.invokevirtual 90, 3) := rfl
theorem f154_24 : pm_fetch 154 24 = some (.iload_n 1, 1) := rfl
theorem f154_25 : pm_fetch 154 25 = some (.lshr, 1) := rfl
theorem f154_26 : pm_fetch 154 26 = some (.lconst 1, 1) := rfl
theorem f154_27 : pm_fetch 154 27 = some (.land, 1) := rfl
theorem f154_28 : pm_fetch 154 28 = some (.lconst 1, 1) := rfl
theorem f154_29 : pm_fetch 154 29 = some (.lcmp, 1) := rfl
theorem f154_30 : pm_fetch 154 30 = some (.ifCond .ne 5, 3) := rfl
theorem f154_33 : pm_fetch 154 33 = some (.iload_n 2, 1) := rfl
theorem f154_34 : pm_fetch 154 34 = some (.ireturn, 1) := rfl
theorem f154_35 : pm_fetch 154 35 = some (.iinc 2 1, 3) := rfl
theorem f154_38 : pm_fetch 154 38 = some (.goto (-36), 3) := rfl
theorem f154_41 : pm_fetch 154 41 = some (.iconst (-1), 1) := rfl
theorem f154_42 : pm_fetch 154 42 = some (.ireturn, 1) := rfl
theorem f155_0 : pm_fetch 155 0 = some (.iload_n 1, 1) := rfl
theorem f155_1 : pm_fetch 155 1 = some (.invokestatic 117, 3) := rfl
theorem f155_4 : pm_fetch 155 4 = some (.ifCond .ne 6, 3) := rfl
theorem f155_7 : pm_fetch 155 7 = some (.bipush (-5), 2) := rfl
theorem f155_9 : pm_fetch 155 9 = some (.ireturn, 1) := rfl
theorem f155_10 : pm_fetch 155 10 = some (.iload_n 2, 1) := rfl
theorem f155_11 : pm_fetch 155 11 = some (.iconst 0, 1) := rfl
theorem f155_12 : pm_fetch 155 12 = some (.iconst 2, 1) := rfl
theorem f155_13 : pm_fetch 155 13 = some (.invokestatic 79, 3) := rfl
theorem f155_16 : pm_fetch 155 16 = some (.ifCond .ne 6, 3) := rfl
theorem f155_19 : pm_fetch 155 19 = some (.bipush (-7), 2) := rfl
theorem f155_21 : pm_fetch 155 21 = some (.ireturn, 1) := rfl
theorem f155_22 : pm_fetch 155 22 = some (.iconst (-1), 1) := rfl
theorem f155_23 : pm_fetch 155 23 = some (.istore_n 3, 1) := rfl
theorem f155_24 : pm_fetch 155 24 = some (.iconst 0, 1) := rfl
theorem f155_25 : pm_fetch 155 25 = some (.istore 4, 2) := rfl
theorem f155_27 : pm_fetch 155 27 = some (.iconst (-1), 1) := rfl
theorem f155_28 : pm_fetch 155 28 = some (.istore 5, 2) := rfl
theorem f155_30 : pm_fetch 155 30 = some (.iconst 1, 1) := rfl
theorem f155_31 : pm_fetch 155 31 = some (.istore 6, 2) := rfl
theorem f155_33 : pm_fetch 155 33 = some (.aload_n 0, 1) := rfl
theorem f155_34 : pm_fetch 155 34 = some (.invokevirtual 219, 3) := rfl
theorem f155_37 : pm_fetch 155 37 = some (.iconst 0, 1) := rfl
theorem f155_38 : pm_fetch 155 38 = some (.istore 7, 2) := rfl
theorem f155_40 : pm_fetch 155 40 = some (.iload 7, 2) := rfl
theorem f155_42 : pm_fetch 155 42 = some (.bipush 40, 2) := rfl
theorem f155_44 : pm_fetch 155 44 = some (.if_icmp .gt 76, 3) := rfl
theorem f155_47 : pm_fetch 155 47 = some (.iload 6, 2) := rfl
theorem f155_49 : pm_fetch 155 49 = some (.ifCond .eq 71, 3) := rfl
theorem f155_52 : pm_fetch 155 52 = some (.aload_n 0, 1) := rfl
theorem f155_53 : pm_fetch 155 53 = some (.iload_n 1, 1) := rfl
theorem f155_54 : pm_fetch 155 54 = some (.invokevirtual 231, 3) := rfl
theorem f155_57 : pm_fetch 155 57 = some (.istore 8, 2) := rfl
theorem f155_59 : pm_fetch 155 59 = some (.iload 8, 2) := rfl
theorem f155_61 : pm_fetch 155 61 = some (.iconst (-1), 1) := rfl
theorem f155_62 : pm_fetch 155 62 = some (.if_icmp .eq 35, 3) := rfl
theorem f155_65 : pm_fetch 155 65 = some (.iload_n 3, 1) := rfl
theorem f155_66 : pm_fetch 155 66 = some (.iconst (-1), 1) := rfl
theorem f155_67 : pm_fetch 155 67 = some (.if_icmp .ne 8, 3) := rfl
theorem f155_70 : pm_fetch 155 70 = some (.iload 8, 2) := rfl
theorem f155_72 : pm_fetch 155 72 = some (.goto 5, 3) := rfl
theorem f155_75 : pm_fetch 155 75 = some (.iload 5, 2) := rfl
theorem f155_77 : pm_fetch 155 77 = some (.istore 5, 2) := rfl
theorem f155_79 : pm_fetch 155 79 = some (.iload_n 3, 1) := rfl
theorem f155_80 : pm_fetch 155 80 = some (.iconst (-1), 1) := rfl
theorem f155_81 : pm_fetch 155 81 = some (.if_icmp .ne 8, 3) := rfl
theorem f155_84 : pm_fetch 155 84 = some (.iload 7, 2) := rfl
theorem f155_86 : pm_fetch 155 86 = some (.goto 4, 3) := rfl
theorem f155_89 : pm_fetch 155 89 = some (.iload_n 3, 1) := rfl
theorem f155_90 : pm_fetch 155 90 = some (.istore_n 3, 1) := rfl
theorem f155_91 : pm_fetch 155 91 = some (.iinc 4 1, 3) := rfl
theorem f155_94 : pm_fetch 155 94 = some (.goto 15, 3) := rfl
theorem f155_97 : pm_fetch 155 97 = some (.iload_n 3, 1) := rfl
theorem f155_98 : pm_fetch 155 98 = some (.iconst (-1), 1) := rfl
theorem f155_99 : pm_fetch 155 99 = some (.if_icmp .ne 7, 3) := rfl
theorem f155_102 : pm_fetch 155 102 = some (.iconst 1, 1) := rfl
theorem f155_103 : pm_fetch 155 103 = some (.goto 4, 3) := rfl
theorem f155_106 : pm_fetch 155 106 = some (.iconst 0, 1) := rfl
theorem f155_107 : pm_fetch 155 107 = some (.istore 6, 2) := rfl
theorem f155_109 : pm_fetch 155 109 = some (.aload_n 0, 1) := rfl
theorem f155_110 : pm_fetch 155 110 = some (.invokevirtual 216, 3) := rfl
theorem f155_113 : pm_fetch 155 113 = some (.pop, 1) := rfl
theorem f155_114 : pm_fetch 155 114 = some (.iinc 7 1, 3) := rfl
theorem f155_117 : pm_fetch 155 117 = some (.goto (-77), 3) := rfl
theorem f155_120 : pm_fetch 155 120 = some (.aload_n 0, 1) := rfl
theorem f155_121 : pm_fetch 155 121 = some (.invokevirtual 228, 3) := rfl
theorem f155_124 : pm_fetch 155 124 = some (.iload_n 2, 1) := rfl
theorem f155_125 : pm_fetch 155 125 = some (.ifCond .ne 7, 3) := rfl
theorem f155_128 : pm_fetch 155 128 = some (.iload_n 3, 1) := rfl
theorem f155_129 : pm_fetch 155 129 = some (.goto 15, 3) := rfl
theorem f155_132 : pm_fetch 155 132 = some (.iload_n 2, 1) := rfl
theorem f155_133 : pm_fetch 155 133 = some (.iconst 1, 1) := rfl
theorem f155_134 : pm_fetch 155 134 = some (.if_icmp .ne 8, 3) := rfl
theorem f155_137 : pm_fetch 155 137 = some (.iload 4, 2) := rfl
theorem f155_139 : pm_fetch 155 139 = some (.goto 5, 3) := rfl
theorem f155_142 : pm_fetch 155 142 = some (.iload 5, 2) := rfl
theorem f155_144 : pm_fetch 155 144 = some (.ireturn, 1) := rfl
theorem f156_0 : pm_fetch 156 0 = some (.aload_n 0, 1) := rfl
theorem f156_1 : pm_fetch 156 1 = some (.iload_n 1, 1) := rfl
theorem f156_2 : pm_fetch 156 2 = some (.invokevirtual 197, 3) := rfl
theorem f156_5 : pm_fetch 156 5 = some (.ifCond .ne 6, 3) := rfl
theorem f156_8 : pm_fetch 156 8 = some (.bipush (-5), 2) := rfl
theorem f156_10 : pm_fetch 156 10 = some (.ireturn, 1) := rfl
theorem f156_11 : pm_fetch 156 11 = some (.iconst (-1), 1) := rfl
theorem f156_12 : pm_fetch 156 12 = some (.istore_n 2, 1) := rfl
theorem f156_13 : pm_fetch 156 13 = some (.aload_n 0, 1) := rfl
theorem f156_14 : pm_fetch 156 14 = some (.invokevirtual 219, 3) := rfl
theorem f156_17 : pm_fetch 156 17 = some (.iconst 1, 1) := rfl
theorem f156_18 : pm_fetch 156 18 = some (.istore_n 3, 1) := rfl
theorem f156_19 : pm_fetch 156 19 = some (.iload_n 3, 1) := rfl
theorem f156_20 : pm_fetch 156 20 = some (.bipush 40, 2) := rfl
theorem f156_22 : pm_fetch 156 22 = some (.if_icmp .gt 35, 3) := rfl
theorem f156_25 : pm_fetch 156 25 = some (.iload_n 2, 1) := rfl
theorem f156_26 : pm_fetch 156 26 = some (.iconst (-1), 1) := rfl
theorem f156_27 : pm_fetch 156 27 = some (.if_icmp .ne 30, 3) := rfl
theorem f156_30 : pm_fetch 156 30 = some (.aload_n 0, 1) := rfl
theorem f156_31 : pm_fetch 156 31 = some (.invokevirtual 216, 3) := rfl
theorem f156_34 : pm_fetch 156 34 = some (.pop, 1) := rfl
theorem f156_35 : pm_fetch 156 35 = some (.aload_n 0, 1) := rfl
theorem f156_36 : pm_fetch 156 36 = some (.getfield 19, 3) := rfl
theorem f156_39 : pm_fetch 156 39 = some (.iload_n 1, 1) := rfl
theorem f156_40 : pm_fetch 156 40 = some (.iaload, 1) := rfl
theorem f156_41 : pm_fetch 156 41 = some (.iconst 1, 1) := rfl
theorem f156_42 : pm_fetch 156 42 = some (.if_icmp .ne 7, 3) := rfl
theorem f156_45 : pm_fetch 156 45 = some (.iload_n 3, 1) := rfl
theorem f156_46 : pm_fetch 156 46 = some (.goto 4, 3) := rfl
theorem f156_49 : pm_fetch 156 49 = some (.iconst (-1), 1) := rfl
theorem f156_50 : pm_fetch 156 50 = some (.istore_n 2, 1) := rfl
theorem f156_51 : pm_fetch 156 51 = some (.iinc 3 1, 3) := rfl
theorem f156_54 : pm_fetch 156 54 = some (.goto (-35), 3) := rfl
theorem f156_57 : pm_fetch 156 57 = some (.aload_n 0, 1) := rfl
theorem f156_58 : pm_fetch 156 58 = some (.invokevirtual 228, 3) := rfl
theorem f156_61 : pm_fetch 156 61 = some (.iload_n 2, 1) := rfl
theorem f156_62 : pm_fetch 156 62 = some (.ireturn, 1) := rfl
theorem f157_0 : pm_fetch 157 0 = some (.iload_n 1, 1) := rfl
theorem f157_1 : pm_fetch 157 1 = some (.iconst 0, 1) := rfl
theorem f157_2 : pm_fetch 157 2 = some (.iconst 1, 1) := rfl
theorem f157_3 : pm_fetch 157 3 = some (.invokestatic 79, 3) := rfl
theorem f157_6 : pm_fetch 157 6 = some (.ifCond .ne 6, 3) := rfl
theorem f157_9 : pm_fetch 157 9 = some (.bipush (-2), 2) := rfl
theorem f157_11 : pm_fetch 157 11 = some (.ireturn, 1) := rfl
theorem f157_12 : pm_fetch 157 12 = some (.iconst (-1), 1) := rfl
theorem f157_13 : pm_fetch 157 13 = some (.istore_n 2, 1) := rfl
theorem f157_14 : pm_fetch 157 14 = some (.iconst (-1), 1) := rfl
theorem f157_15 : pm_fetch 157 15 = some (.istore_n 3, 1) := rfl
theorem f157_16 : pm_fetch 157 16 = some (.aload_n 0, 1) := rfl
theorem f157_17 : pm_fetch 157 17 = some (.invokevirtual 219, 3) := rfl
theorem f157_20 : pm_fetch 157 20 = some (.iconst 0, 1) := rfl
theorem f157_21 : pm_fetch 157 21 = some (.istore 4, 2) := rfl
theorem f157_23 : pm_fetch 157 23 = some (.iload 4, 2) := rfl
theorem f157_25 : pm_fetch 157 25 = some (.bipush 40, 2) := rfl
theorem f157_27 : pm_fetch 157 27 = some (.if_icmp .gt 93, 3) := rfl
theorem f157_30 : pm_fetch 157 30 = some (.iload_n 2, 1) := rfl
theorem f157_31 : pm_fetch 157 31 = some (.iconst (-1), 1) := rfl
theorem f157_32 : pm_fetch 157 32 = some (.if_icmp .ne 88, 3) := rfl
theorem f157_35 : pm_fetch 157 35 = some (.aload_n 0, 1) := rfl
theorem f157_36 : pm_fetch 157 36 = some (.getfield 83, 3) := rfl
theorem f157_39 : pm_fetch 157 39 = some (.iconst 1, 1) := rfl
theorem f157_40 : pm_fetch 157 40 = some (.isub, 1) := rfl
theorem f157_41 : pm_fetch 157 41 = some (.istore 5, 2) := rfl
theorem f157_43 : pm_fetch 157 43 = some (.iload 5, 2) := rfl
theorem f157_45 : pm_fetch 157 45 = some (.ifCond .lt 64, 3) := rfl
theorem f157_48 : pm_fetch 157 48 = some (.aload_n 0, 1) := rfl
theorem f157_49 : pm_fetch 157 49 = some (.getfield 19, 3) := rfl
theorem f157_52 : pm_fetch 157 52 = some (.iload 5, 2) := rfl
theorem f157_54 : pm_fetch 157 54 = some (.iaload, 1) := rfl
theorem f157_55 : pm_fetch 157 55 = some (.ifCond .ne 21, 3) := rfl
theorem f157_58 : pm_fetch 157 58 = some (.aload_n 0, 1) := rfl
theorem f157_59 : pm_fetch 157 59 = some (.getfield 16, 3) := rfl
theorem f157_62 : pm_fetch 157 62 = some (.iconst 3, 1) := rfl
theorem f157_63 : pm_fetch 157 63 = some (.iload 5, 2) := rfl
theorem f157_65 : pm_fetch 157 65 = some (.imul, 1) := rfl
theorem f157_66 : pm_fetch 157 66 = some (.iaload, 1) := rfl
theorem f157_67 : pm_fetch 157 67 = some (.bipush 39, 2) := rfl
theorem f157_69 : pm_fetch 157 69 = some (.if_icmp .ne 7, 3) := rfl
theorem f157_72 : pm_fetch 157 72 = some (.iconst 1, 1) := rfl
theorem f157_73 : pm_fetch 157 73 = some (.goto 4, 3) := rfl
theorem f157_76 : pm_fetch 157 76 = some (.iconst 0, 1) := rfl
theorem f157_77 : pm_fetch 157 77 = some (.istore 6, 2) := rfl
theorem f157_79 : pm_fetch 157 79 = some (.iload 6, 2) := rfl
theorem f157_81 : pm_fetch 157 81 = some (.ifCond .eq 8, 3) := rfl
theorem f157_84 : pm_fetch 157 84 = some (.iload 5, 2) := rfl
theorem f157_86 : pm_fetch 157 86 = some (.goto 4, 3) := rfl
theorem f157_89 : pm_fetch 157 89 = some (.iload_n 2, 1) := rfl
theorem f157_90 : pm_fetch 157 90 = some (.istore_n 2, 1) := rfl
theorem f157_91 : pm_fetch 157 91 = some (.iload 6, 2) := rfl
theorem f157_93 : pm_fetch 157 93 = some (.ifCond .eq 8, 3) := rfl
theorem f157_96 : pm_fetch 157 96 = some (.iload 4, 2) := rfl
theorem f157_98 : pm_fetch 157 98 = some (.goto 4, 3) := rfl
theorem f157_101 : pm_fetch 157 101 = some (.iload_n 3, 1) := rfl
theorem f157_102 : pm_fetch 157 102 = some (.istore_n 3, 1) := rfl
theorem f157_103 : pm_fetch 157 103 = some (.iinc 5 (-1), 3) := rfl
theorem f157_106 : pm_fetch 157 106 = some (.goto (-63), 3) := rfl
theorem f157_109 : pm_fetch 157 109 = some (.aload_n 0, 1) := rfl
theorem f157_110 : pm_fetch 157 110 = some (.invokevirtual 216, 3) := rfl
theorem f157_113 : pm_fetch 157 113 = some (.pop, 1) := rfl
theorem f157_114 : pm_fetch 157 114 = some (.iinc 4 1, 3) := rfl
theorem f157_117 : pm_fetch 157 117 = some (.goto (-94), 3) := rfl
theorem f157_120 : pm_fetch 157 120 = some (.aload_n 0, 1) := rfl
theorem f157_121 : pm_fetch 157 121 = some (.invokevirtual 228, 3) := rfl
theorem f157_124 : pm_fetch 157 124 = some (.iload_n 1, 1) := rfl
theorem f157_125 : pm_fetch 157 125 = some (.ifCond .ne 7, 3) := rfl
theorem f157_128 : pm_fetch 157 128 = some (.iload_n 2, 1) := rfl
theorem f157_129 : pm_fetch 157 129 = some (.goto 4, 3) := rfl
theorem f157_132 : pm_fetch 157 132 = some (.iload_n 3, 1) := rfl
theorem f157_133 : pm_fetch 157 133 = some (.ireturn, 1) := rfl
theorem f158_0 : pm_fetch 158 0 = some (.aload_n 0, 1) := rfl
theorem f158_1 : pm_fetch 158 1 = some (.invokevirtual 219, 3) := rfl
theorem f158_4 : pm_fetch 158 4 = some (.aload_n 0, 1) := rfl
theorem f158_5 : pm_fetch 158 5 = some (.iload_n 1, 1) := rfl
theorem f158_6 : pm_fetch 158 6 = some (.invokevirtual 222, 3) := rfl
theorem f158_9 : pm_fetch 158 9 = some (.istore_n 2, 1) := rfl
theorem f158_10 : pm_fetch 158 10 = some (.aload_n 0, 1) := rfl
theorem f158_11 : pm_fetch 158 11 = some (.invokevirtual 228, 3) := rfl
theorem f158_14 : pm_fetch 158 14 = some (.iload_n 2, 1) := rfl
theorem f158_15 : pm_fetch 158 15 = some (.ireturn, 1) := rfl
theorem f159_0 : pm_fetch 159 0 = some (.iload_n 1, 1) := rfl
theorem f159_1 : pm_fetch 159 1 = some (.iconst 0, 1) := rfl
theorem f159_2 : pm_fetch 159 2 = some (.bipush 20, 2) := rfl
theorem f159_4 : pm_fetch 159 4 = some (.invokestatic 79, 3) := rfl
theorem f159_7 : pm_fetch 159 7 = some (.ifCond .eq 12, 3) := rfl
theorem f159_10 : pm_fetch 159 10 = some (.iload_n 2, 1) := rfl
theorem f159_11 : pm_fetch 159 11 = some (.iconst 0, 1) := rfl
theorem f159_12 : pm_fetch 159 12 = some (.iconst 1, 1) := rfl
theorem f159_13 : pm_fetch 159 13 = some (.invokestatic 79, 3) := rfl
theorem f159_16 : pm_fetch 159 16 = some (.ifCond .ne 6, 3) := rfl
theorem f159_19 : pm_fetch 159 19 = some (.bipush (-2), 2) := rfl
theorem f159_21 : pm_fetch 159 21 = some (.ireturn, 1) := rfl
theorem f159_22 : pm_fetch 159 22 = some (.aload_n 0, 1) := rfl
theorem f159_23 : pm_fetch 159 23 = some (.getfield 94, 3) := rfl
theorem f159_26 : pm_fetch 159 26 = some (.lstore_n 3, 1) := rfl
theorem f159_27 : pm_fetch 159 27 = some (.iconst (-1), 1) := rfl
theorem f159_28 : pm_fetch 159 28 = some (.istore 5, 2) := rfl
theorem f159_30 : pm_fetch 159 30 = some (.aload_n 0, 1) := rfl
theorem f159_31 : pm_fetch 159 31 = some (.iload_n 1, 1) := rfl
theorem f159_32 : pm_fetch 159 32 = some (.invokevirtual 234, 3) := rfl
theorem f159_35 : pm_fetch 159 35 = some (.istore 6, 2) := rfl
theorem f159_37 : pm_fetch 159 37 = some (.iconst 0, 1) := rfl
theorem f159_38 : pm_fetch 159 38 = some (.istore 7, 2) := rfl
theorem f159_40 : pm_fetch 159 40 = some (.iload 7, 2) := rfl
theorem f159_42 : pm_fetch 159 42 = some (.bipush 40, 2) := rfl
theorem f159_44 : pm_fetch 159 44 = some (.if_icmp .ge 69, 3) := rfl
theorem f159_47 : pm_fetch 159 47 = some (.lload_n 3, 1) := rfl
theorem f159_48 : pm_fetch 159 48 = some (.iload 7, 2) := rfl
theorem f159_50 : pm_fetch 159 50 = some (.lshr, 1) := rfl
theorem f159_51 : pm_fetch 159 51 = some (.lconst 1, 1) := rfl
theorem f159_52 : pm_fetch 159 52 = some (.land, 1) := rfl
theorem f159_53 : pm_fetch 159 53 = some (.lconst 0, 1) := rfl
theorem f159_54 : pm_fetch 159 54 = some (.lcmp, 1) := rfl
theorem f159_55 : pm_fetch 159 55 = some (.ifCond .ne 52, 3) := rfl
theorem f159_58 : pm_fetch 159 58 = some (.aload_n 0, 1) := rfl
theorem f159_59 : pm_fetch 159 59 = some (.lload_n 3, 1) := rfl
theorem f159_60 : pm_fetch 159 60 = some (.lconst 1, 1) := rfl
theorem f159_61 : pm_fetch 159 61 = some (.iload 7, 2) := rfl
theorem f159_63 : pm_fetch 159 63 = some (.lshl, 1) := rfl
theorem f159_64 : pm_fetch 159 64 = some (.lor, 1) := rfl
theorem f159_65 : pm_fetch 159 65 = some (.putfield 94, 3) := rfl
theorem f159_68 : pm_fetch 159 68 = some (.aload_n 0, 1) := rfl
theorem f159_69 : pm_fetch 159 69 = some (.iload_n 1, 1) := rfl
theorem f159_70 : pm_fetch 159 70 = some (.invokevirtual 234, 3) := rfl
theorem f159_73 : pm_fetch 159 73 = some (.istore 8, 2) := rfl
theorem f159_75 : pm_fetch 159 75 = some (.iload 8, 2) := rfl
theorem f159_77 : pm_fetch 159 77 = some (.iload 6, 2) := rfl
theorem f159_79 : pm_fetch 159 79 = some (.if_icmp .ge 8, 3) := rfl
theorem f159_82 : pm_fetch 159 82 = some (.iload 7, 2) := rfl
theorem f159_84 : pm_fetch 159 84 = some (.goto 5, 3) := rfl
theorem f159_87 : pm_fetch 159 87 = some (.iload 5, 2) := rfl
theorem f159_89 : pm_fetch 159 89 = some (.istore 5, 2) := rfl
theorem f159_91 : pm_fetch 159 91 = some (.iload 8, 2) := rfl
theorem f159_93 : pm_fetch 159 93 = some (.iload 6, 2) := rfl
theorem f159_95 : pm_fetch 159 95 = some (.if_icmp .ge 8, 3) := rfl
theorem f159_98 : pm_fetch 159 98 = some (.iload 8, 2) := rfl
theorem f159_100 : pm_fetch 159 100 = some (.goto 5, 3) := rfl
theorem f159_103 : pm_fetch 159 103 = some (.iload 6, 2) := rfl
theorem f159_105 : pm_fetch 159 105 = some (.istore 6, 2) := rfl
theorem f159_107 : pm_fetch 159 107 = some (.iinc 7 1, 3) := rfl
theorem f159_110 : pm_fetch 159 110 = some (.goto (-70), 3) := rfl
theorem f159_113 : pm_fetch 159 113 = some (.aload_n 0, 1) := rfl
theorem f159_114 : pm_fetch 159 114 = some (.lload_n 3, 1) := rfl
theorem f159_115 : pm_fetch 159 115 = some (.putfield 94, 3) := rfl
theorem f159_118 : pm_fetch 159 118 = some (.iload_n 2, 1) := rfl
theorem f159_119 : pm_fetch 159 119 = some (.ifCond .ne 8, 3) := rfl
theorem f159_122 : pm_fetch 159 122 = some (.iload 5, 2) := rfl
theorem f159_124 : pm_fetch 159 124 = some (.goto 5, 3) := rfl
theorem f159_127 : pm_fetch 159 127 = some (.iload 6, 2) := rfl
theorem f159_129 : pm_fetch 159 129 = some (.ireturn, 1) := rfl
theorem f160_0 : pm_fetch 160 0 = some (.iload_n 1, 1) := rfl
theorem f160_1 : pm_fetch 160 1 = some (.iconst 0, 1) := rfl
theorem f160_2 : pm_fetch 160 2 = some (.bipush 20, 2) := rfl
theorem f160_4 : pm_fetch 160 4 = some (.invokestatic 79, 3) := rfl
theorem f160_7 : pm_fetch 160 7 = some (.ifCond .eq 12, 3) := rfl
theorem f160_10 : pm_fetch 160 10 = some (.iload_n 2, 1) := rfl
theorem f160_11 : pm_fetch 160 11 = some (.iconst 0, 1) := rfl
theorem f160_12 : pm_fetch 160 12 = some (.iconst 1, 1) := rfl
theorem f160_13 : pm_fetch 160 13 = some (.invokestatic 79, 3) := rfl
theorem f160_16 : pm_fetch 160 16 = some (.ifCond .ne 6, 3) := rfl
theorem f160_19 : pm_fetch 160 19 = some (.bipush (-2), 2) := rfl
theorem f160_21 : pm_fetch 160 21 = some (.ireturn, 1) := rfl
theorem f160_22 : pm_fetch 160 22 = some (.iconst 0, 1) := rfl
theorem f160_23 : pm_fetch 160 23 = some (.istore_n 3, 1) := rfl
theorem f160_24 : pm_fetch 160 24 = some (.iload_n 3, 1) := rfl
theorem f160_25 : pm_fetch 160 25 = some (.bipush 40, 2) := rfl
theorem f160_27 : pm_fetch 160 27 = some (.if_icmp .ge 16, 3) := rfl
theorem f160_30 : pm_fetch 160 30 = some (.aload_n 0, 1) := rfl
theorem f160_31 : pm_fetch 160 31 = some (.getfield 68, 3) := rfl
theorem f160_34 : pm_fetch 160 34 = some (.iload_n 3, 1) := rfl
theorem f160_35 : pm_fetch 160 35 = some (.iconst 0, 1) := rfl
theorem f160_36 : pm_fetch 160 36 = some (.iastore, 1) := rfl
theorem f160_37 : pm_fetch 160 37 = some (.iinc 3 1, 3) := rfl
theorem f160_40 : pm_fetch 160 40 = some (.goto (-16), 3) := rfl
theorem f160_43 : pm_fetch 160 43 = some (.aload_n 0, 1) := rfl
theorem f160_44 : pm_fetch 160 44 = some (.invokevirtual 219, 3) := rfl
theorem f160_47 : pm_fetch 160 47 = some (.iconst 0, 1) := rfl
theorem f160_48 : pm_fetch 160 48 = some (.istore_n 3, 1) := rfl
theorem f160_49 : pm_fetch 160 49 = some (.iload_n 3, 1) := rfl
theorem f160_50 : pm_fetch 160 50 = some (.iload_n 1, 1) := rfl
theorem f160_51 : pm_fetch 160 51 = some (.if_icmp .ge 63, 3) := rfl
theorem f160_54 : pm_fetch 160 54 = some (.aload_n 0, 1) := rfl
theorem f160_55 : pm_fetch 160 55 = some (.invokevirtual 216, 3) := rfl
theorem f160_58 : pm_fetch 160 58 = some (.pop, 1) := rfl
theorem f160_59 : pm_fetch 160 59 = some (.aload_n 0, 1) := rfl
theorem f160_60 : pm_fetch 160 60 = some (.invokevirtual 123, 3) := rfl
theorem f160_63 : pm_fetch 160 63 = some (.lstore 4, 2) := rfl
theorem f160_65 : pm_fetch 160 65 = some (.iconst 0, 1) := rfl
theorem f160_66 : pm_fetch 160 66 = some (.istore 6, 2) := rfl
theorem f160_68 : pm_fetch 160 68 = some (.iload 6, 2) := rfl
theorem f160_70 : pm_fetch 160 70 = some (.bipush 40, 2) := rfl
theorem f160_72 : pm_fetch 160 72 = some (.if_icmp .ge 36, 3) := rfl
theorem f160_75 : pm_fetch 160 75 = some (.aload_n 0, 1) := rfl
theorem f160_76 : pm_fetch 160 76 = some (.getfield 68, 3) := rfl
theorem f160_79 : pm_fetch 160 79 = some (.iload 6, 2) := rfl
theorem f160_81 : pm_fetch 160 81 = some (.dup2, 1) := rfl
theorem f160_82 : pm_fetch 160 82 = some (.iaload, 1) := rfl
theorem f160_83 : pm_fetch 160 83 = some (.lload 4, 2) := rfl
theorem f160_85 : pm_fetch 160 85 = some (.iload 6, 2) := rfl
theorem f160_87 : pm_fetch 160 87 = some (.lshr, 1) := rfl
theorem f160_88 : pm_fetch 160 88 = some (.lconst 1, 1) := rfl
theorem f160_89 : pm_fetch 160 89 = some (.land, 1) := rfl
theorem f160_90 : pm_fetch 160 90 = some (.lconst 1, 1) := rfl
theorem f160_91 : pm_fetch 160 91 = some (.lcmp, 1) := rfl
theorem f160_92 : pm_fetch 160 92 = some (.ifCond .ne 7, 3) := rfl
theorem f160_95 : pm_fetch 160 95 = some (.iconst 1, 1) := rfl
theorem f160_96 : pm_fetch 160 96 = some (.goto 4, 3) := rfl
theorem f160_99 : pm_fetch 160 99 = some (.iconst 0, 1) := rfl
theorem f160_100 : pm_fetch 160 100 = some (.iadd, 1) := rfl
theorem f160_101 : pm_fetch 160 101 = some (.iastore, 1) := rfl
theorem f160_102 : pm_fetch 160 102 = some (.iinc 6 1, 3) := rfl
theorem f160_105 : pm_fetch 160 105 = some (.goto (-37), 3) := rfl
theorem f160_108 : pm_fetch 160 108 = some (.iinc 3 1, 3) := rfl
theorem f160_111 : pm_fetch 160 111 = some (.goto (-62), 3) := rfl
theorem f160_114 : pm_fetch 160 114 = some (.aload_n 0, 1) := rfl
theorem f160_115 : pm_fetch 160 115 = some (.invokevirtual 228, 3) := rfl
theorem f160_118 : pm_fetch 160 118 = some (.iconst 0, 1) := rfl
theorem f160_119 : pm_fetch 160 119 = some (.istore_n 3, 1) := rfl
theorem f160_120 : pm_fetch 160 120 = some (.iconst 0, 1) := rfl
theorem f160_121 : pm_fetch 160 121 = some (.istore 4, 2) := rfl
theorem f160_123 : pm_fetch 160 123 = some (.iload 4, 2) := rfl
theorem f160_125 : pm_fetch 160 125 = some (.bipush 40, 2) := rfl
theorem f160_127 : pm_fetch 160 127 = some (.if_icmp .ge 37, 3) := rfl
theorem f160_130 : pm_fetch 160 130 = some (.iload_n 3, 1) := rfl
theorem f160_131 : pm_fetch 160 131 = some (.aload_n 0, 1) := rfl
theorem f160_132 : pm_fetch 160 132 = some (.getfield 108, 3) := rfl
theorem f160_135 : pm_fetch 160 135 = some (.iload 4, 2) := rfl
theorem f160_137 : pm_fetch 160 137 = some (.lshr, 1) := rfl
theorem f160_138 : pm_fetch 160 138 = some (.lconst 1, 1) := rfl
theorem f160_139 : pm_fetch 160 139 = some (.land, 1) := rfl
theorem f160_140 : pm_fetch 160 140 = some (.lconst 1, 1) := rfl
theorem f160_141 : pm_fetch 160 141 = some (.lcmp, 1) := rfl
theorem f160_142 : pm_fetch 160 142 = some (.ifCond .ne 13, 3) := rfl
theorem f160_145 : pm_fetch 160 145 = some (.aload_n 0, 1) := rfl
theorem f160_146 : pm_fetch 160 146 = some (.getfield 68, 3) := rfl
theorem f160_149 : pm_fetch 160 149 = some (.iload 4, 2) := rfl
theorem f160_151 : pm_fetch 160 151 = some (.iaload, 1) := rfl
theorem f160_152 : pm_fetch 160 152 = some (.goto 4, 3) := rfl
theorem f160_155 : pm_fetch 160 155 = some (.iconst 0, 1) := rfl
theorem f160_156 : pm_fetch 160 156 = some (.iadd, 1) := rfl
theorem f160_157 : pm_fetch 160 157 = some (.istore_n 3, 1) := rfl
theorem f160_158 : pm_fetch 160 158 = some (.iinc 4 1, 3) := rfl
theorem f160_161 : pm_fetch 160 161 = some (.goto (-38), 3) := rfl
theorem f160_164 : pm_fetch 160 164 = some (.iconst (-1), 1) := rfl
theorem f160_165 : pm_fetch 160 165 = some (.istore 4, 2) := rfl
theorem f160_167 : pm_fetch 160 167 = some (.iload_n 3, 1) := rfl
theorem f160_168 : pm_fetch 160 168 = some (.istore 5, 2) := rfl
theorem f160_170 : pm_fetch 160 170 = some (.iconst 0, 1) := rfl
theorem f160_171 : pm_fetch 160 171 = some (.istore 6, 2) := rfl
theorem f160_173 : pm_fetch 160 173 = some (.iload 6, 2) := rfl
theorem f160_175 : pm_fetch 160 175 = some (.bipush 40, 2) := rfl
theorem f160_177 : pm_fetch 160 177 = some (.if_icmp .ge 127, 3) := rfl
theorem f160_180 : pm_fetch 160 180 = some (.iconst 0, 1) := rfl
theorem f160_181 : pm_fetch 160 181 = some (.istore 7, 2) := rfl
theorem f160_183 : pm_fetch 160 183 = some (.iload 7, 2) := rfl
theorem f160_185 : pm_fetch 160 185 = some (.bipush 40, 2) := rfl
theorem f160_187 : pm_fetch 160 187 = some (.if_icmp .ge 111, 3) := rfl
theorem f160_190 : pm_fetch 160 190 = some (.aload_n 0, 1) := rfl
theorem f160_191 : pm_fetch 160 191 = some (.getfield 108, 3) := rfl
theorem f160_194 : pm_fetch 160 194 = some (.iload 6, 2) := rfl
theorem f160_196 : pm_fetch 160 196 = some (.lshr, 1) := rfl
theorem f160_197 : pm_fetch 160 197 = some (.lconst 1, 1) := rfl
theorem f160_198 : pm_fetch 160 198 = some (.land, 1) := rfl
theorem f160_199 : pm_fetch 160 199 = some (.lconst 1, 1) := rfl
theorem f160_200 : pm_fetch 160 200 = some (.lcmp, 1) := rfl
theorem f160_201 : pm_fetch 160 201 = some (.ifCond .ne 21, 3) := rfl
theorem f160_204 : pm_fetch 160 204 = some (.aload_n 0, 1) := rfl
theorem f160_205 : pm_fetch 160 205 = some (.getfield 108, 3) := rfl
theorem f160_208 : pm_fetch 160 208 = some (.iload 7, 2) := rfl
theorem f160_210 : pm_fetch 160 210 = some (.lshr, 1) := rfl
theorem f160_211 : pm_fetch 160 211 = some (.lconst 1, 1) := rfl
theorem f160_212 : pm_fetch 160 212 = some (.land, 1) := rfl
theorem f160_213 : pm_fetch 160 213 = some (.lconst 0, 1) := rfl
theorem f160_214 : pm_fetch 160 214 = some (.lcmp, 1) := rfl
theorem f160_215 : pm_fetch 160 215 = some (.ifCond .ne 7, 3) := rfl
theorem f160_218 : pm_fetch 160 218 = some (.iconst 1, 1) := rfl
theorem f160_219 : pm_fetch 160 219 = some (.goto 4, 3) := rfl
theorem f160_222 : pm_fetch 160 222 = some (.iconst 0, 1) := rfl
theorem f160_223 : pm_fetch 160 223 = some (.istore 8, 2) := rfl
theorem f160_225 : pm_fetch 160 225 = some (.iload_n 3, 1) := rfl
theorem f160_226 : pm_fetch 160 226 = some (.aload_n 0, 1) := rfl
theorem f160_227 : pm_fetch 160 227 = some (.getfield 68, 3) := rfl
theorem f160_230 : pm_fetch 160 230 = some (.iload 6, 2) := rfl
theorem f160_232 : pm_fetch 160 232 = some (.iaload, 1) := rfl
theorem f160_233 : pm_fetch 160 233 = some (.isub, 1) := rfl
theorem f160_234 : pm_fetch 160 234 = some (.aload_n 0, 1) := rfl
theorem f160_235 : pm_fetch 160 235 = some (.getfield 68, 3) := rfl
theorem f160_238 : pm_fetch 160 238 = some (.iload 7, 2) := rfl
theorem f160_240 : pm_fetch 160 240 = some (.iaload, 1) := rfl
theorem f160_241 : pm_fetch 160 241 = some (.iadd, 1) := rfl
theorem f160_242 : pm_fetch 160 242 = some (.istore 9, 2) := rfl
theorem f160_244 : pm_fetch 160 244 = some (.iload 8, 2) := rfl
theorem f160_246 : pm_fetch 160 246 = some (.ifCond .eq 21, 3) := rfl
theorem f160_249 : pm_fetch 160 249 = some (.iload 9, 2) := rfl
theorem f160_251 : pm_fetch 160 251 = some (.iload 5, 2) := rfl
theorem f160_253 : pm_fetch 160 253 = some (.if_icmp .ge 14, 3) := rfl
theorem f160_256 : pm_fetch 160 256 = some (.bipush 100, 2) := rfl
theorem f160_258 : pm_fetch 160 258 = some (.iload 6, 2) := rfl
theorem f160_260 : pm_fetch 160 260 = some (.imul, 1) := rfl
theorem f160_261 : pm_fetch 160 261 = some (.iload 7, 2) := rfl
theorem f160_263 : pm_fetch 160 263 = some (.iadd, 1) := rfl
theorem f160_264 : pm_fetch 160 264 = some (.goto 5, 3) := rfl
theorem f160_267 : pm_fetch 160 267 = some (.iload 4, 2) := rfl
theorem f160_269 : pm_fetch 160 269 = some (.istore 4, 2) := rfl
theorem f160_271 : pm_fetch 160 271 = some (.iload 8, 2) := rfl
theorem f160_273 : pm_fetch 160 273 = some (.ifCond .eq 15, 3) := rfl
theorem f160_276 : pm_fetch 160 276 = some (.iload 9, 2) := rfl
theorem f160_278 : pm_fetch 160 278 = some (.iload 5, 2) := rfl
theorem f160_280 : pm_fetch 160 280 = some (.if_icmp .ge 8, 3) := rfl
theorem f160_283 : pm_fetch 160 283 = some (.iload 9, 2) := rfl
theorem f160_285 : pm_fetch 160 285 = some (.goto 5, 3) := rfl
theorem f160_288 : pm_fetch 160 288 = some (.iload 5, 2) := rfl
theorem f160_290 : pm_fetch 160 290 = some (.istore 5, 2) := rfl
theorem f160_292 : pm_fetch 160 292 = some (.iinc 7 1, 3) := rfl
theorem f160_295 : pm_fetch 160 295 = some (.goto (-112), 3) := rfl
theorem f160_298 : pm_fetch 160 298 = some (.iinc 6 1, 3) := rfl
theorem f160_301 : pm_fetch 160 301 = some (.goto (-128), 3) := rfl
theorem f160_304 : pm_fetch 160 304 = some (.iload_n 2, 1) := rfl
theorem f160_305 : pm_fetch 160 305 = some (.ifCond .ne 8, 3) := rfl
theorem f160_308 : pm_fetch 160 308 = some (.iload 4, 2) := rfl
theorem f160_310 : pm_fetch 160 310 = some (.goto 5, 3) := rfl
theorem f160_313 : pm_fetch 160 313 = some (.iload 5, 2) := rfl
theorem f160_315 : pm_fetch 160 315 = some (.ireturn, 1) := rfl
theorem f161_0 : pm_fetch 161 0 = some (.iload_n 1, 1) := rfl
theorem f161_1 : pm_fetch 161 1 = some (.iconst 0, 1) := rfl
theorem f161_2 : pm_fetch 161 2 = some (.bipush 40, 2) := rfl
theorem f161_4 : pm_fetch 161 4 = some (.invokestatic 79, 3) := rfl
theorem f161_7 : pm_fetch 161 7 = some (.ifCond .eq 12, 3) := rfl
theorem f161_10 : pm_fetch 161 10 = some (.iload_n 2, 1) := rfl
theorem f161_11 : pm_fetch 161 11 = some (.iconst 0, 1) := rfl
theorem f161_12 : pm_fetch 161 12 = some (.iconst 1, 1) := rfl
theorem f161_13 : pm_fetch 161 13 = some (.invokestatic 79, 3) := rfl
theorem f161_16 : pm_fetch 161 16 = some (.ifCond .ne 6, 3) := rfl
theorem f161_19 : pm_fetch 161 19 = some (.bipush (-2), 2) := rfl
theorem f161_21 : pm_fetch 161 21 = some (.ireturn, 1) := rfl
theorem f161_22 : pm_fetch 161 22 = some (.iconst (-1), 1) := rfl
theorem f161_23 : pm_fetch 161 23 = some (.istore_n 3, 1) := rfl
theorem f161_24 : pm_fetch 161 24 = some (.aload_n 0, 1) := rfl
theorem f161_25 : pm_fetch 161 25 = some (.iload_n 1, 1) := rfl
theorem f161_26 : pm_fetch 161 26 = some (.invokevirtual 234, 3) := rfl
theorem f161_29 : pm_fetch 161 29 = some (.istore 4, 2) := rfl
theorem f161_31 : pm_fetch 161 31 = some (.iconst 0, 1) := rfl
theorem f161_32 : pm_fetch 161 32 = some (.istore 5, 2) := rfl
theorem f161_34 : pm_fetch 161 34 = some (.iload 5, 2) := rfl
theorem f161_36 : pm_fetch 161 36 = some (.aload_n 0, 1) := rfl
theorem f161_37 : pm_fetch 161 37 = some (.getfield 83, 3) := rfl
theorem f161_40 : pm_fetch 161 40 = some (.if_icmp .ge 72, 3) := rfl
theorem f161_43 : pm_fetch 161 43 = some (.aload_n 0, 1) := rfl
theorem f161_44 : pm_fetch 161 44 = some (.getfield 19, 3) := rfl
theorem f161_47 : pm_fetch 161 47 = some (.iload 5, 2) := rfl
theorem f161_49 : pm_fetch 161 49 = some (.iaload, 1) := rfl
theorem f161_50 : pm_fetch 161 50 = some (.ifCond .ne 56, 3) := rfl
theorem f161_53 : pm_fetch 161 53 = some (.aload_n 0, 1) := rfl
theorem f161_54 : pm_fetch 161 54 = some (.getfield 19, 3) := rfl
theorem f161_57 : pm_fetch 161 57 = some (.iload 5, 2) := rfl
theorem f161_59 : pm_fetch 161 59 = some (.iconst 1, 1) := rfl
theorem f161_60 : pm_fetch 161 60 = some (.iastore, 1) := rfl
theorem f161_61 : pm_fetch 161 61 = some (.aload_n 0, 1) := rfl
theorem f161_62 : pm_fetch 161 62 = some (.iload_n 1, 1) := rfl
theorem f161_63 : pm_fetch 161 63 = some (.invokevirtual 234, 3) := rfl
theorem f161_66 : pm_fetch 161 66 = some (.istore 6, 2) := rfl
theorem f161_68 : pm_fetch 161 68 = some (.aload_n 0, 1) := rfl
theorem f161_69 : pm_fetch 161 69 = some (.getfield 19, 3) := rfl
theorem f161_72 : pm_fetch 161 72 = some (.iload 5, 2) := rfl
theorem f161_74 : pm_fetch 161 74 = some (.iconst 0, 1) := rfl
theorem f161_75 : pm_fetch 161 75 = some (.iastore, 1) := rfl
theorem f161_76 : pm_fetch 161 76 = some (.iload 6, 2) := rfl
theorem f161_78 : pm_fetch 161 78 = some (.iload 4, 2) := rfl
theorem f161_80 : pm_fetch 161 80 = some (.if_icmp .ge 8, 3) := rfl
theorem f161_83 : pm_fetch 161 83 = some (.iload 5, 2) := rfl
theorem f161_85 : pm_fetch 161 85 = some (.goto 4, 3) := rfl
theorem f161_88 : pm_fetch 161 88 = some (.iload_n 3, 1) := rfl
theorem f161_89 : pm_fetch 161 89 = some (.istore_n 3, 1) := rfl
theorem f161_90 : pm_fetch 161 90 = some (.iload 6, 2) := rfl
theorem f161_92 : pm_fetch 161 92 = some (.iload 4, 2) := rfl
theorem f161_94 : pm_fetch 161 94 = some (.if_icmp .ge 8, 3) := rfl
theorem f161_97 : pm_fetch 161 97 = some (.iload 6, 2) := rfl
theorem f161_99 : pm_fetch 161 99 = some (.goto 5, 3) := rfl
theorem f161_102 : pm_fetch 161 102 = some (.iload 4, 2) := rfl
theorem f161_104 : pm_fetch 161 104 = some (.istore 4, 2) := rfl
theorem f161_106 : pm_fetch 161 106 = some (.iinc 5 1, 3) := rfl
theorem f161_109 : pm_fetch 161 109 = some (.goto (-75), 3) := rfl
theorem f161_112 : pm_fetch 161 112 = some (.iload_n 2, 1) := rfl
theorem f161_113 : pm_fetch 161 113 = some (.ifCond .ne 7, 3) := rfl
theorem f161_116 : pm_fetch 161 116 = some (.iload_n 3, 1) := rfl
theorem f161_117 : pm_fetch 161 117 = some (.goto 5, 3) := rfl
theorem f161_120 : pm_fetch 161 120 = some (.iload 4, 2) := rfl
theorem f161_122 : pm_fetch 161 122 = some (.ireturn, 1) := rfl
theorem f162_0 : pm_fetch 162 0 = some (.lload_n 0, 1) := rfl
theorem f162_1 : pm_fetch 162 1 = some (.lconst 0, 1) := rfl
theorem f162_2 : pm_fetch 162 2 = some (.lcmp, 1) := rfl
theorem f162_3 : pm_fetch 162 3 = some (.ifCond .ne 7, 3) := rfl
theorem f162_6 : pm_fetch 162 6 = some (.iload 4, 2) := rfl
theorem f162_8 : pm_fetch 162 8 = some (.i2l, 1) := rfl
theorem f162_9 : pm_fetch 162 9 = some (.lreturn, 1) := rfl
theorem f162_10 : pm_fetch 162 10 = some (.lload_n 0, 1) := rfl
theorem f162_11 : pm_fetch 162 11 = some (.lstore 5, 2) := rfl
theorem f162_13 : pm_fetch 162 13 = some (.lload_n 2, 1) := rfl
theorem f162_14 : pm_fetch 162 14 = some (.lstore 7, 2) := rfl
theorem f162_16 : pm_fetch 162 16 = some (.lload 7, 2) := rfl
theorem f162_18 : pm_fetch 162 18 = some (.lconst 0, 1) := rfl
theorem f162_19 : pm_fetch 162 19 = some (.lcmp, 1) := rfl
theorem f162_20 : pm_fetch 162 20 = some (.ifCond .eq 21, 3) := rfl
theorem f162_23 : pm_fetch 162 23 = some (.lload 5, 2) := rfl
theorem f162_25 : pm_fetch 162 25 = some (.lload 7, 2) := rfl
theorem f162_27 : pm_fetch 162 27 = some (.lrem, 1) := rfl
theorem f162_28 : pm_fetch 162 28 = some (.lstore 9, 2) := rfl
theorem f162_30 : pm_fetch 162 30 = some (.lload 7, 2) := rfl
theorem f162_32 : pm_fetch 162 32 = some (.lstore 5, 2) := rfl
theorem f162_34 : pm_fetch 162 34 = some (.lload 9, 2) := rfl
theorem f162_36 : pm_fetch 162 36 = some (.lstore 7, 2) := rfl
theorem f162_38 : pm_fetch 162 38 = some (.goto (-22), 3) := rfl
theorem f162_41 : pm_fetch 162 41 = some (.iload 4, 2) := rfl
theorem f162_43 : pm_fetch 162 43 = some (.ifCond .ne 7, 3) := rfl
theorem f162_46 : pm_fetch 162 46 = some (.lload_n 0, 1) := rfl
theorem f162_47 : pm_fetch 162 47 = some (.goto 4, 3) := rfl
theorem f162_50 : pm_fetch 162 50 = some (.lload_n 2, 1) := rfl
theorem f162_51 : pm_fetch 162 51 = some (.lload 5, 2) := rfl
theorem f162_53 : pm_fetch 162 53 = some (.ldiv, 1) := rfl
theorem f162_54 : pm_fetch 162 54 = some (.lreturn, 1) := rfl
theorem f163_0 : pm_fetch 163 0 = some (.iload_n 1, 1) := rfl
theorem f163_1 : pm_fetch 163 1 = some (.iconst 0, 1) := rfl
theorem f163_2 : pm_fetch 163 2 = some (.bipush 40, 2) := rfl
theorem f163_4 : pm_fetch 163 4 = some (.invokestatic 79, 3) := rfl
theorem f163_7 : pm_fetch 163 7 = some (.ifCond .eq 21, 3) := rfl
theorem f163_10 : pm_fetch 163 10 = some (.iload_n 2, 1) := rfl
theorem f163_11 : pm_fetch 163 11 = some (.iconst 0, 1) := rfl
theorem f163_12 : pm_fetch 163 12 = some (.iconst 1, 1) := rfl
theorem f163_13 : pm_fetch 163 13 = some (.invokestatic 79, 3) := rfl
theorem f163_16 : pm_fetch 163 16 = some (.ifCond .eq 12, 3) := rfl
theorem f163_19 : pm_fetch 163 19 = some (.aload_n 0, 1) := rfl
theorem f163_20 : pm_fetch 163 20 = some (.getfield 108, 3) := rfl
theorem f163_23 : pm_fetch 163 23 = some (.lconst 0, 1) := rfl
theorem f163_24 : pm_fetch 163 24 = some (.lcmp, 1) := rfl
theorem f163_25 : pm_fetch 163 25 = some (.ifCond .ne 7, 3) := rfl
theorem f163_28 : pm_fetch 163 28 = some (.ldc2_w 127, 3) := rfl
theorem f163_31 : pm_fetch 163 31 = some (.lreturn, 1) := rfl
theorem f163_32 : pm_fetch 163 32 = some (.aload_n 0, 1) := rfl
theorem f163_33 : pm_fetch 163 33 = some (.invokevirtual 219, 3) := rfl
theorem f163_36 : pm_fetch 163 36 = some (.aload_n 0, 1) := rfl
theorem f163_37 : pm_fetch 163 37 = some (.iload_n 1, 1) := rfl
theorem f163_38 : pm_fetch 163 38 = some (.invokevirtual 222, 3) := rfl
theorem f163_41 : pm_fetch 163 41 = some (.pop, 1) := rfl
theorem f163_42 : pm_fetch 163 42 = some (.aload_n 0, 1) := rfl
theorem f163_43 : pm_fetch 163 43 = some (.invokevirtual 123, 3) := rfl
theorem f163_46 : pm_fetch 163 46 = some (.aload_n 0, 1) := rfl
theorem f163_47 : pm_fetch 163 47 = some (.getfield 108, 3) := rfl
theorem f163_50 : pm_fetch 163 50 = some (.land, 1) := rfl
theorem f163_51 : pm_fetch 163 51 = some (.invokestatic 101, 3) := rfl
theorem f163_54 : pm_fetch 163 54 = some (.istore_n 3, 1) := rfl
theorem f163_55 : pm_fetch 163 55 = some (.aload_n 0, 1) := rfl
theorem f163_56 : pm_fetch 163 56 = some (.invokevirtual 228, 3) := rfl
theorem f163_59 : pm_fetch 163 59 = some (.iload_n 3, 1) := rfl
theorem f163_60 : pm_fetch 163 60 = some (.i2l, 1) := rfl
theorem f163_61 : pm_fetch 163 61 = some (.aload_n 0, 1) := rfl
theorem f163_62 : pm_fetch 163 62 = some (.getfield 108, 3) := rfl
theorem f163_65 : pm_fetch 163 65 = some (.invokestatic 101, 3) := rfl
theorem f163_68 : pm_fetch 163 68 = some (.i2l, 1) := rfl
theorem f163_69 : pm_fetch 163 69 = some (.iload_n 2, 1) := rfl
theorem f163_70 : pm_fetch 163 70 = some (.invokestatic 237, 3) := rfl
theorem f163_73 : pm_fetch 163 73 = some (.lreturn, 1) := rfl
theorem f164_0 : pm_fetch 164 0 = some (.iload_n 1, 1) := rfl
theorem f164_1 : pm_fetch 164 1 = some (.iconst 0, 1) := rfl
theorem f164_2 : pm_fetch 164 2 = some (.iconst 3, 1) := rfl
theorem f164_3 : pm_fetch 164 3 = some (.invokestatic 79, 3) := rfl
theorem f164_6 : pm_fetch 164 6 = some (.ifCond .ne 6, 3) := rfl
theorem f164_9 : pm_fetch 164 9 = some (.bipush (-2), 2) := rfl
theorem f164_11 : pm_fetch 164 11 = some (.ireturn, 1) := rfl
theorem f164_12 : pm_fetch 164 12 = some (.aload_n 0, 1) := rfl
theorem f164_13 : pm_fetch 164 13 = some (.getfield 41, 3) := rfl
theorem f164_16 : pm_fetch 164 16 = some (.iload_n 1, 1) := rfl
theorem f164_17 : pm_fetch 164 17 = some (.iaload, 1) := rfl
theorem f164_18 : pm_fetch 164 18 = some (.iconst (-1), 1) := rfl
theorem f164_19 : pm_fetch 164 19 = some (.if_icmp .ne 6, 3) := rfl
theorem f164_22 : pm_fetch 164 22 = some (.bipush (-11), 2) := rfl
theorem f164_24 : pm_fetch 164 24 = some (.ireturn, 1) := rfl
theorem f164_25 : pm_fetch 164 25 = some (.aload_n 0, 1) := rfl
theorem f164_26 : pm_fetch 164 26 = some (.getfield 44, 3) := rfl
theorem f164_29 : pm_fetch 164 29 = some (.iload_n 1, 1) := rfl
theorem f164_30 : pm_fetch 164 30 = some (.iaload, 1) := rfl
theorem f164_31 : pm_fetch 164 31 = some (.bipush 20, 2) := rfl
theorem f164_33 : pm_fetch 164 33 = some (.if_icmp .le 8, 3) := rfl
theorem f164_36 : pm_fetch 164 36 = some (.bipush (-2), 2) := rfl
theorem f164_38 : pm_fetch 164 38 = some (.goto 4, 3) := rfl
theorem f164_41 : pm_fetch 164 41 = some (.iconst 0, 1) := rfl
theorem f164_42 : pm_fetch 164 42 = some (.ireturn, 1) := rfl
theorem f165_0 : pm_fetch 165 0 = some (.aload_n 0, 1) := rfl
theorem f165_1 : pm_fetch 165 1 = some (.iload_n 1, 1) := rfl
theorem f165_2 : pm_fetch 165 2 = some (.invokevirtual 241, 3) := rfl
theorem f165_5 : pm_fetch 165 5 = some (.istore_n 3, 1) := rfl
theorem f165_6 : pm_fetch 165 6 = some (.iload_n 3, 1) := rfl
theorem f165_7 : pm_fetch 165 7 = some (.ifCond .eq 7, 3) := rfl
theorem f165_10 : pm_fetch 165 10 = some (.iload_n 3, 1) := rfl
theorem f165_11 : pm_fetch 165 11 = some (.goto 17, 3) := rfl
theorem f165_14 : pm_fetch 165 14 = some (.aload_n 0, 1) := rfl
theorem f165_15 : pm_fetch 165 15 = some (.iload_n 2, 1) := rfl
theorem f165_16 : pm_fetch 165 16 = some (.invokevirtual 197, 3) := rfl
theorem f165_19 : pm_fetch 165 19 = some (.ifCond .eq 7, 3) := rfl
theorem f165_22 : pm_fetch 165 22 = some (.iconst 0, 1) := rfl
theorem f165_23 : pm_fetch 165 23 = some (.goto 5, 3) := rfl
theorem f165_26 : pm_fetch 165 26 = some (.bipush (-5), 2) := rfl
theorem f165_28 : pm_fetch 165 28 = some (.ireturn, 1) := rfl
theorem f166_0 : pm_fetch 166 0 = some (.iconst (-1), 1) := rfl
theorem f166_1 : pm_fetch 166 1 = some (.istore_n 3, 1) := rfl
theorem f166_2 : pm_fetch 166 2 = some (.aload_n 0, 1) := rfl
theorem f166_3 : pm_fetch 166 3 = some (.invokevirtual 219, 3) := rfl
theorem f166_6 : pm_fetch 166 6 = some (.iconst 0, 1) := rfl
theorem f166_7 : pm_fetch 166 7 = some (.istore 4, 2) := rfl
theorem f166_9 : pm_fetch 166 9 = some (.iload 4, 2) := rfl
theorem f166_11 : pm_fetch 166 11 = some (.aload_n 0, 1) := rfl
theorem f166_12 : pm_fetch 166 12 = some (.getfield 44, 3) := rfl
theorem f166_15 : pm_fetch 166 15 = some (.iload_n 1, 1) := rfl
theorem f166_16 : pm_fetch 166 16 = some (.iaload, 1) := rfl
theorem f166_17 : pm_fetch 166 17 = some (.if_icmp .ge 47, 3) := rfl
theorem f166_20 : pm_fetch 166 20 = some (.iload_n 3, 1) := rfl
theorem f166_21 : pm_fetch 166 21 = some (.iconst (-1), 1) := rfl
theorem f166_22 : pm_fetch 166 22 = some (.if_icmp .ne 42, 3) := rfl
theorem f166_25 : pm_fetch 166 25 = some (.aload_n 0, 1) := rfl
theorem f166_26 : pm_fetch 166 26 = some (.invokevirtual 216, 3) := rfl
theorem f166_29 : pm_fetch 166 29 = some (.pop, 1) := rfl
theorem f166_30 : pm_fetch 166 30 = some (.aload_n 0, 1) := rfl
theorem f166_31 : pm_fetch 166 31 = some (.getfield 47, 3) := rfl
theorem f166_34 : pm_fetch 166 34 = some (.bipush 40, 2) := rfl
theorem f166_36 : pm_fetch 166 36 = some (.iload_n 1, 1) := rfl
theorem f166_37 : pm_fetch 166 37 = some (.imul, 1) := rfl
theorem f166_38 : pm_fetch 166 38 = some (.iload 4, 2) := rfl
theorem f166_40 : pm_fetch 166 40 = some (.iadd, 1) := rfl
theorem f166_41 : pm_fetch 166 41 = some (.iaload, 1) := rfl
theorem f166_42 : pm_fetch 166 42 = some (.aload_n 0, 1) := rfl
theorem f166_43 : pm_fetch 166 43 = some (.iload_n 2, 1) := rfl
theorem f166_44 : pm_fetch 166 44 = some (.iconst 0, 1) := rfl
theorem f166_45 : pm_fetch 166 45 = some (.invokevirtual 225, 3) := rfl
theorem f166_48 : pm_fetch 166 48 = some (.if_icmp .ne 7, 3) := rfl
theorem f166_51 : pm_fetch 166 51 = some (.iconst (-1), 1) := rfl
theorem f166_52 : pm_fetch 166 52 = some (.goto 5, 3) := rfl
theorem f166_55 : pm_fetch 166 55 = some (.iload 4, 2) := rfl
theorem f166_57 : pm_fetch 166 57 = some (.istore_n 3, 1) := rfl
theorem f166_58 : pm_fetch 166 58 = some (.iinc 4 1, 3) := rfl
theorem f166_61 : pm_fetch 166 61 = some (.goto (-52), 3) := rfl
theorem f166_64 : pm_fetch 166 64 = some (.aload_n 0, 1) := rfl
theorem f166_65 : pm_fetch 166 65 = some (.invokevirtual 228, 3) := rfl
theorem f166_68 : pm_fetch 166 68 = some (.iload_n 3, 1) := rfl
theorem f166_69 : pm_fetch 166 69 = some (.ireturn, 1) := rfl
theorem f167_0 : pm_fetch 167 0 = some (.aload_n 0, 1) := rfl
theorem f167_1 : pm_fetch 167 1 = some (.iload_n 1, 1) := rfl
theorem f167_2 : pm_fetch 167 2 = some (.iload_n 2, 1) := rfl
theorem f167_3 : pm_fetch 167 3 = some (.invokevirtual 244, 3) := rfl
theorem f167_6 : pm_fetch 167 6 = some (.istore_n 3, 1) := rfl
theorem f167_7 : pm_fetch 167 7 = some (.iload_n 3, 1) := rfl
theorem f167_8 : pm_fetch 167 8 = some (.ifCond .ne 12, 3) := rfl
theorem f167_11 : pm_fetch 167 11 = some (.aload_n 0, 1) := rfl
theorem f167_12 : pm_fetch 167 12 = some (.iload_n 1, 1) := rfl
theorem f167_13 : pm_fetch 167 13 = some (.iload_n 2, 1) := rfl
theorem f167_14 : pm_fetch 167 14 = some (.invokevirtual 247, 3) := rfl
theorem f167_17 : pm_fetch 167 17 = some (.goto 4, 3) := rfl
theorem f167_20 : pm_fetch 167 20 = some (.iload_n 3, 1) := rfl
theorem f167_21 : pm_fetch 167 21 = some (.ireturn, 1) := rfl
theorem f168_0 : pm_fetch 168 0 = some (.aload_n 0, 1) := rfl
theorem f168_1 : pm_fetch 168 1 = some (.iload_n 1, 1) := rfl
theorem f168_2 : pm_fetch 168 2 = some (.iload_n 2, 1) := rfl
theorem f168_3 : pm_fetch 168 3 = some (.invokevirtual 244, 3) := rfl
theorem f168_6 : pm_fetch 168 6 = some (.istore 4, 2) := rfl
theorem f168_8 : pm_fetch 168 8 = some (.iload 4, 2) := rfl
theorem f168_10 : pm_fetch 168 10 = some (.ifCond .eq 6, 3) := rfl
theorem f168_13 : pm_fetch 168 13 = some (.iload 4, 2) := rfl
theorem f168_15 : pm_fetch 168 15 = some (.ireturn, 1) := rfl
theorem f168_16 : pm_fetch 168 16 = some (.iload_n 3, 1) := rfl
theorem f168_17 : pm_fetch 168 17 = some (.iconst 0, 1) := rfl
theorem f168_18 : pm_fetch 168 18 = some (.iconst 1, 1) := rfl
theorem f168_19 : pm_fetch 168 19 = some (.invokestatic 79, 3) := rfl
theorem f168_22 : pm_fetch 168 22 = some (.ifCond .ne 6, 3) := rfl
theorem f168_25 : pm_fetch 168 25 = some (.bipush (-7), 2) := rfl
theorem f168_27 : pm_fetch 168 27 = some (.ireturn, 1) := rfl
theorem f168_28 : pm_fetch 168 28 = some (.aload_n 0, 1) := rfl
theorem f168_29 : pm_fetch 168 29 = some (.getfield 7, 3) := rfl
theorem f168_32 : pm_fetch 168 32 = some (.iload_n 2, 1) := rfl
theorem f168_33 : pm_fetch 168 33 = some (.iaload, 1) := rfl
theorem f168_34 : pm_fetch 168 34 = some (.istore 5, 2) := rfl
theorem f168_36 : pm_fetch 168 36 = some (.aload_n 0, 1) := rfl
theorem f168_37 : pm_fetch 168 37 = some (.getfield 13, 3) := rfl
theorem f168_40 : pm_fetch 168 40 = some (.iload_n 2, 1) := rfl
theorem f168_41 : pm_fetch 168 41 = some (.iaload, 1) := rfl
theorem f168_42 : pm_fetch 168 42 = some (.istore 6, 2) := rfl
theorem f168_44 : pm_fetch 168 44 = some (.iconst 0, 1) := rfl
theorem f168_45 : pm_fetch 168 45 = some (.istore 7, 2) := rfl
theorem f168_47 : pm_fetch 168 47 = some (.iconst 0, 1) := rfl
theorem f168_48 : pm_fetch 168 48 = some (.istore 8, 2) := rfl
theorem f168_50 : pm_fetch 168 50 = some (.iload 8, 2) := rfl
theorem f168_52 : pm_fetch 168 52 = some (.iload_n 3, 1) := rfl
theorem f168_53 : pm_fetch 168 53 = some (.ifCond .ne 8, 3) := rfl
theorem f168_56 : pm_fetch 168 56 = some (.bipush 6, 2) := rfl
theorem f168_58 : pm_fetch 168 58 = some (.goto 5, 3) := rfl
theorem f168_61 : pm_fetch 168 61 = some (.bipush 10, 2) := rfl
theorem f168_63 : pm_fetch 168 63 = some (.if_icmp .ge 67, 3) := rfl
theorem f168_66 : pm_fetch 168 66 = some (.aload_n 0, 1) := rfl
theorem f168_67 : pm_fetch 168 67 = some (.getfield 7, 3) := rfl
theorem f168_70 : pm_fetch 168 70 = some (.iload_n 2, 1) := rfl
theorem f168_71 : pm_fetch 168 71 = some (.iload_n 3, 1) := rfl
theorem f168_72 : pm_fetch 168 72 = some (.ifCond .ne 8, 3) := rfl
theorem f168_75 : pm_fetch 168 75 = some (.iload 8, 2) := rfl
theorem f168_77 : pm_fetch 168 77 = some (.goto 5, 3) := rfl
theorem f168_80 : pm_fetch 168 80 = some (.iload 5, 2) := rfl
theorem f168_82 : pm_fetch 168 82 = some (.iastore, 1) := rfl
theorem f168_83 : pm_fetch 168 83 = some (.aload_n 0, 1) := rfl
theorem f168_84 : pm_fetch 168 84 = some (.getfield 13, 3) := rfl
theorem f168_87 : pm_fetch 168 87 = some (.iload_n 2, 1) := rfl
theorem f168_88 : pm_fetch 168 88 = some (.iload_n 3, 1) := rfl
theorem f168_89 : pm_fetch 168 89 = some (.iconst 1, 1) := rfl
theorem f168_90 : pm_fetch 168 90 = some (.if_icmp .ne 8, 3) := rfl
theorem f168_93 : pm_fetch 168 93 = some (.iload 8, 2) := rfl
theorem f168_95 : pm_fetch 168 95 = some (.goto 5, 3) := rfl
theorem f168_98 : pm_fetch 168 98 = some (.iload 6, 2) := rfl
theorem f168_100 : pm_fetch 168 100 = some (.iastore, 1) := rfl
theorem f168_101 : pm_fetch 168 101 = some (.iload 7, 2) := rfl
theorem f168_103 : pm_fetch 168 103 = some (.aload_n 0, 1) := rfl
theorem f168_104 : pm_fetch 168 104 = some (.iload_n 1, 1) := rfl
theorem f168_105 : pm_fetch 168 105 = some (.iload_n 2, 1) := rfl
theorem f168_106 : pm_fetch 168 106 = some (.invokevirtual 247, 3) := rfl
theorem f168_109 : pm_fetch 168 109 = some (.iconst (-1), 1) := rfl
theorem f168_110 : pm_fetch 168 110 = some (.if_icmp .ne 10, 3) := rfl
theorem f168_113 : pm_fetch 168 113 = some (.iconst 1, 1) := rfl
theorem f168_114 : pm_fetch 168 114 = some (.iload 8, 2) := rfl
theorem f168_116 : pm_fetch 168 116 = some (.ishl, 1) := rfl
theorem f168_117 : pm_fetch 168 117 = some (.goto 4, 3) := rfl
theorem f168_120 : pm_fetch 168 120 = some (.iconst 0, 1) := rfl
theorem f168_121 : pm_fetch 168 121 = some (.ior, 1) := rfl
theorem f168_122 : pm_fetch 168 122 = some (.istore 7, 2) := rfl
theorem f168_124 : pm_fetch 168 124 = some (.iinc 8 1, 3) := rfl
theorem f168_127 : pm_fetch 168 127 = some (.goto (-77), 3) := rfl
theorem f168_130 : pm_fetch 168 130 = some (.aload_n 0, 1) := rfl
theorem f168_131 : pm_fetch 168 131 = some (.getfield 7, 3) := rfl
theorem f168_134 : pm_fetch 168 134 = some (.iload_n 2, 1) := rfl
theorem f168_135 : pm_fetch 168 135 = some (.iload 5, 2) := rfl
theorem f168_137 : pm_fetch 168 137 = some (.iastore, 1) := rfl
theorem f168_138 : pm_fetch 168 138 = some (.aload_n 0, 1) := rfl
theorem f168_139 : pm_fetch 168 139 = some (.getfield 13, 3) := rfl
theorem f168_142 : pm_fetch 168 142 = some (.iload_n 2, 1) := rfl
theorem f168_143 : pm_fetch 168 143 = some (.iload 6, 2) := rfl
theorem f168_145 : pm_fetch 168 145 = some (.iastore, 1) := rfl
theorem f168_146 : pm_fetch 168 146 = some (.iload 7, 2) := rfl
theorem f168_148 : pm_fetch 168 148 = some (.ireturn, 1) := rfl
theorem f169_0 : pm_fetch 169 0 = some (.aload_n 0, 1) := rfl
theorem f169_1 : pm_fetch 169 1 = some (.iload_n 1, 1) := rfl
theorem f169_2 : pm_fetch 169 2 = some (.iload_n 2, 1) := rfl
theorem f169_3 : pm_fetch 169 3 = some (.invokevirtual 244, 3) := rfl
theorem f169_6 : pm_fetch 169 6 = some (.istore 5, 2) := rfl
theorem f169_8 : pm_fetch 169 8 = some (.iload 5, 2) := rfl
theorem f169_10 : pm_fetch 169 10 = some (.ifCond .eq 6, 3) := rfl
theorem f169_13 : pm_fetch 169 13 = some (.iload 5, 2) := rfl
theorem f169_15 : pm_fetch 169 15 = some (.ireturn, 1) := rfl
theorem f169_16 : pm_fetch 169 16 = some (.iload_n 3, 1) := rfl
theorem f169_17 : pm_fetch 169 17 = some (.iconst 0, 1) := rfl
theorem f169_18 : pm_fetch 169 18 = some (.iconst 2, 1) := rfl
theorem f169_19 : pm_fetch 169 19 = some (.invokestatic 79, 3) := rfl
theorem f169_22 : pm_fetch 169 22 = some (.ifCond .eq 13, 3) := rfl
theorem f169_25 : pm_fetch 169 25 = some (.iload 4, 2) := rfl
theorem f169_27 : pm_fetch 169 27 = some (.iconst 0, 1) := rfl
theorem f169_28 : pm_fetch 169 28 = some (.iconst 1, 1) := rfl
theorem f169_29 : pm_fetch 169 29 = some (.invokestatic 79, 3) := rfl
theorem f169_32 : pm_fetch 169 32 = some (.ifCond .ne 6, 3) := rfl
theorem f169_35 : pm_fetch 169 35 = some (.bipush (-7), 2) := rfl
theorem f169_37 : pm_fetch 169 37 = some (.ireturn, 1) := rfl
theorem f169_38 : pm_fetch 169 38 = some (.aload_n 0, 1) := rfl
theorem f169_39 : pm_fetch 169 39 = some (.getfield 16, 3) := rfl
theorem f169_42 : pm_fetch 169 42 = some (.iconst 3, 1) := rfl
theorem f169_43 : pm_fetch 169 43 = some (.iload_n 2, 1) := rfl
theorem f169_44 : pm_fetch 169 44 = some (.imul, 1) := rfl
theorem f169_45 : pm_fetch 169 45 = some (.iload_n 3, 1) := rfl
theorem f169_46 : pm_fetch 169 46 = some (.iadd, 1) := rfl
theorem f169_47 : pm_fetch 169 47 = some (.iaload, 1) := rfl
theorem f169_48 : pm_fetch 169 48 = some (.istore 6, 2) := rfl
theorem f169_50 : pm_fetch 169 50 = some (.iconst 0, 1) := rfl
theorem f169_51 : pm_fetch 169 51 = some (.istore 7, 2) := rfl
theorem f169_53 : pm_fetch 169 53 = some (.iconst (-1), 1) := rfl
theorem f169_54 : pm_fetch 169 54 = some (.istore 8, 2) := rfl
theorem f169_56 : pm_fetch 169 56 = some (.iload_n 3, 1) := rfl
theorem f169_57 : pm_fetch 169 57 = some (.ifCond .ne 8, 3) := rfl
theorem f169_60 : pm_fetch 169 60 = some (.bipush 39, 2) := rfl
theorem f169_62 : pm_fetch 169 62 = some (.goto 15, 3) := rfl
theorem f169_65 : pm_fetch 169 65 = some (.iload_n 3, 1) := rfl
theorem f169_66 : pm_fetch 169 66 = some (.iconst 1, 1) := rfl
theorem f169_67 : pm_fetch 169 67 = some (.if_icmp .ne 8, 3) := rfl
theorem f169_70 : pm_fetch 169 70 = some (.bipush 9, 2) := rfl
theorem f169_72 : pm_fetch 169 72 = some (.goto 5, 3) := rfl
theorem f169_75 : pm_fetch 169 75 = some (.bipush 99, 2) := rfl
theorem f169_77 : pm_fetch 169 77 = some (.istore 9, 2) := rfl
theorem f169_79 : pm_fetch 169 79 = some (.iload_n 3, 1) := rfl
theorem f169_80 : pm_fetch 169 80 = some (.iconst 1, 1) := rfl
theorem f169_81 : pm_fetch 169 81 = some (.if_icmp .ne 7, 3) := rfl
theorem f169_84 : pm_fetch 169 84 = some (.iconst 1, 1) := rfl
theorem f169_85 : pm_fetch 169 85 = some (.goto 4, 3) := rfl
theorem f169_88 : pm_fetch 169 88 = some (.iconst 0, 1) := rfl
theorem f169_89 : pm_fetch 169 89 = some (.istore 10, 2) := rfl
theorem f169_91 : pm_fetch 169 91 = some (.iload 10, 2) := rfl
theorem f169_93 : pm_fetch 169 93 = some (.iload 9, 2) := rfl
theorem f169_95 : pm_fetch 169 95 = some (.if_icmp .gt 73, 3) := rfl
theorem f169_98 : pm_fetch 169 98 = some (.aload_n 0, 1) := rfl
theorem f169_99 : pm_fetch 169 99 = some (.getfield 16, 3) := rfl
theorem f169_102 : pm_fetch 169 102 = some (.iconst 3, 1) := rfl
theorem f169_103 : pm_fetch 169 103 = some (.iload_n 2, 1) := rfl
theorem f169_104 : pm_fetch 169 104 = some (.imul, 1) := rfl
theorem f169_105 : pm_fetch 169 105 = some (.iload_n 3, 1) := rfl
theorem f169_106 : pm_fetch 169 106 = some (.iadd, 1) := rfl
theorem f169_107 : pm_fetch 169 107 = some (.iload 10, 2) := rfl
theorem f169_109 : pm_fetch 169 109 = some (.iastore, 1) := rfl
theorem f169_110 : pm_fetch 169 110 = some (.aload_n 0, 1) := rfl
theorem f169_111 : pm_fetch 169 111 = some (.iload_n 1, 1) := rfl
theorem f169_112 : pm_fetch 169 112 = some (.iload_n 2, 1) := rfl
theorem f169_113 : pm_fetch 169 113 = some (.invokevirtual 247, 3) := rfl
theorem f169_116 : pm_fetch 169 116 = some (.iconst (-1), 1) := rfl
theorem f169_117 : pm_fetch 169 117 = some (.if_icmp .ne 7, 3) := rfl
theorem f169_120 : pm_fetch 169 120 = some (.iconst 1, 1) := rfl
theorem f169_121 : pm_fetch 169 121 = some (.goto 4, 3) := rfl
theorem f169_124 : pm_fetch 169 124 = some (.iconst 0, 1) := rfl
theorem f169_125 : pm_fetch 169 125 = some (.istore 11, 2) := rfl
theorem f169_127 : pm_fetch 169 127 = some (.iload 7, 2) := rfl
theorem f169_129 : pm_fetch 169 129 = some (.iload 11, 2) := rfl
theorem f169_131 : pm_fetch 169 131 = some (.ifCond .eq 7, 3) := rfl
theorem f169_134 : pm_fetch 169 134 = some (.iconst 1, 1) := rfl
theorem f169_135 : pm_fetch 169 135 = some (.goto 4, 3) := rfl
theorem f169_138 : pm_fetch 169 138 = some (.iconst 0, 1) := rfl
theorem f169_139 : pm_fetch 169 139 = some (.iadd, 1) := rfl
theorem f169_140 : pm_fetch 169 140 = some (.istore 7, 2) := rfl
theorem f169_142 : pm_fetch 169 142 = some (.iload 11, 2) := rfl
theorem f169_144 : pm_fetch 169 144 = some (.ifCond .eq 14, 3) := rfl
theorem f169_147 : pm_fetch 169 147 = some (.iload 8, 2) := rfl
theorem f169_149 : pm_fetch 169 149 = some (.iconst (-1), 1) := rfl
theorem f169_150 : pm_fetch 169 150 = some (.if_icmp .ne 8, 3) := rfl
theorem f169_153 : pm_fetch 169 153 = some (.iload 10, 2) := rfl
theorem f169_155 : pm_fetch 169 155 = some (.goto 5, 3) := rfl
theorem f169_158 : pm_fetch 169 158 = some (.iload 8, 2) := rfl
theorem f169_160 : pm_fetch 169 160 = some (.istore 8, 2) := rfl
theorem f169_162 : pm_fetch 169 162 = some (.iinc 10 1, 3) := rfl
theorem f169_165 : pm_fetch 169 165 = some (.goto (-74), 3) := rfl
theorem f169_168 : pm_fetch 169 168 = some (.aload_n 0, 1) := rfl
theorem f169_169 : pm_fetch 169 169 = some (.getfield 16, 3) := rfl
theorem f169_172 : pm_fetch 169 172 = some (.iconst 3, 1) := rfl
theorem f169_173 : pm_fetch 169 173 = some (.iload_n 2, 1) := rfl
theorem f169_174 : pm_fetch 169 174 = some (.imul, 1) := rfl
theorem f169_175 : pm_fetch 169 175 = some (.iload_n 3, 1) := rfl
theorem f169_176 : pm_fetch 169 176 = some (.iadd, 1) := rfl
theorem f169_177 : pm_fetch 169 177 = some (.iload 6, 2) := rfl
theorem f169_179 : pm_fetch 169 179 = some (.iastore, 1) := rfl
theorem f169_180 : pm_fetch 169 180 = some (.iload 4, 2) := rfl
theorem f169_182 : pm_fetch 169 182 = some (.ifCond .ne 8, 3) := rfl
theorem f169_185 : pm_fetch 169 185 = some (.iload 7, 2) := rfl
theorem f169_187 : pm_fetch 169 187 = some (.goto 5, 3) := rfl
theorem f169_190 : pm_fetch 169 190 = some (.iload 8, 2) := rfl
theorem f169_192 : pm_fetch 169 192 = some (.ireturn, 1) := rfl
theorem f170_0 : pm_fetch 170 0 = some (.aload_n 0, 1) := rfl
theorem f170_1 : pm_fetch 170 1 = some (.iload_n 1, 1) := rfl
theorem f170_2 : pm_fetch 170 2 = some (.invokevirtual 241, 3) := rfl
theorem f170_5 : pm_fetch 170 5 = some (.istore_n 2, 1) := rfl
theorem f170_6 : pm_fetch 170 6 = some (.iload_n 2, 1) := rfl
theorem f170_7 : pm_fetch 170 7 = some (.ifCond .eq 5, 3) := rfl
theorem f170_10 : pm_fetch 170 10 = some (.iload_n 2, 1) := rfl
theorem f170_11 : pm_fetch 170 11 = some (.ireturn, 1) := rfl
theorem f170_12 : pm_fetch 170 12 = some (.iconst 0, 1) := rfl
theorem f170_13 : pm_fetch 170 13 = some (.istore_n 3, 1) := rfl
theorem f170_14 : pm_fetch 170 14 = some (.iconst 0, 1) := rfl
theorem f170_15 : pm_fetch 170 15 = some (.istore 4, 2) := rfl
theorem f170_17 : pm_fetch 170 17 = some (.iload 4, 2) := rfl
theorem f170_19 : pm_fetch 170 19 = some (.aload_n 0, 1) := rfl
theorem f170_20 : pm_fetch 170 20 = some (.getfield 83, 3) := rfl
theorem f170_23 : pm_fetch 170 23 = some (.if_icmp .ge 41, 3) := rfl
theorem f170_26 : pm_fetch 170 26 = some (.aload_n 0, 1) := rfl
theorem f170_27 : pm_fetch 170 27 = some (.getfield 19, 3) := rfl
theorem f170_30 : pm_fetch 170 30 = some (.iload 4, 2) := rfl
theorem f170_32 : pm_fetch 170 32 = some (.iaload, 1) := rfl
theorem f170_33 : pm_fetch 170 33 = some (.ifCond .ne 25, 3) := rfl
theorem f170_36 : pm_fetch 170 36 = some (.iload_n 3, 1) := rfl
theorem f170_37 : pm_fetch 170 37 = some (.aload_n 0, 1) := rfl
theorem f170_38 : pm_fetch 170 38 = some (.iload_n 1, 1) := rfl
theorem f170_39 : pm_fetch 170 39 = some (.iload 4, 2) := rfl
theorem f170_41 : pm_fetch 170 41 = some (.invokevirtual 247, 3) := rfl
theorem f170_44 : pm_fetch 170 44 = some (.iconst (-1), 1) := rfl
theorem f170_45 : pm_fetch 170 45 = some (.if_icmp .ne 10, 3) := rfl
theorem f170_48 : pm_fetch 170 48 = some (.iconst 1, 1) := rfl
theorem f170_49 : pm_fetch 170 49 = some (.iload 4, 2) := rfl
theorem f170_51 : pm_fetch 170 51 = some (.ishl, 1) := rfl
theorem f170_52 : pm_fetch 170 52 = some (.goto 4, 3) := rfl
theorem f170_55 : pm_fetch 170 55 = some (.iconst 0, 1) := rfl
theorem f170_56 : pm_fetch 170 56 = some (.ior, 1) := rfl
theorem f170_57 : pm_fetch 170 57 = some (.istore_n 3, 1) := rfl
theorem f170_58 : pm_fetch 170 58 = some (.iinc 4 1, 3) := rfl
theorem f170_61 : pm_fetch 170 61 = some (.goto (-44), 3) := rfl
theorem f170_64 : pm_fetch 170 64 = some (.iload_n 3, 1) := rfl
theorem f170_65 : pm_fetch 170 65 = some (.ireturn, 1) := rfl
theorem f171_0 : pm_fetch 171 0 = some (.aload_n 0, 1) := rfl
theorem f171_1 : pm_fetch 171 1 = some (.iload_n 1, 1) := rfl
theorem f171_2 : pm_fetch 171 2 = some (.iload_n 2, 1) := rfl
theorem f171_3 : pm_fetch 171 3 = some (.invokevirtual 244, 3) := rfl
theorem f171_6 : pm_fetch 171 6 = some (.istore_n 3, 1) := rfl
theorem f171_7 : pm_fetch 171 7 = some (.iload_n 3, 1) := rfl
theorem f171_8 : pm_fetch 171 8 = some (.ifCond .eq 5, 3) := rfl
theorem f171_11 : pm_fetch 171 11 = some (.iload_n 3, 1) := rfl
theorem f171_12 : pm_fetch 171 12 = some (.ireturn, 1) := rfl
theorem f171_13 : pm_fetch 171 13 = some (.aload_n 0, 1) := rfl
theorem f171_14 : pm_fetch 171 14 = some (.getfield 114, 3) := rfl
theorem f171_17 : pm_fetch 171 17 = some (.istore 4, 2) := rfl
theorem f171_19 : pm_fetch 171 19 = some (.iconst 0, 1) := rfl
theorem f171_20 : pm_fetch 171 20 = some (.istore 5, 2) := rfl
theorem f171_22 : pm_fetch 171 22 = some (.iconst 0, 1) := rfl
theorem f171_23 : pm_fetch 171 23 = some (.istore 6, 2) := rfl
theorem f171_25 : pm_fetch 171 25 = some (.iload 6, 2) := rfl
theorem f171_27 : pm_fetch 171 27 = some (.aload_n 0, 1) := rfl
theorem f171_28 : pm_fetch 171 28 = some (.getfield 111, 3) := rfl
theorem f171_31 : pm_fetch 171 31 = some (.if_icmp .ge 38, 3) := rfl
theorem f171_34 : pm_fetch 171 34 = some (.aload_n 0, 1) := rfl
theorem f171_35 : pm_fetch 171 35 = some (.iload 6, 2) := rfl
theorem f171_37 : pm_fetch 171 37 = some (.putfield 114, 3) := rfl
theorem f171_40 : pm_fetch 171 40 = some (.iload 5, 2) := rfl
theorem f171_42 : pm_fetch 171 42 = some (.aload_n 0, 1) := rfl
theorem f171_43 : pm_fetch 171 43 = some (.iload_n 1, 1) := rfl
theorem f171_44 : pm_fetch 171 44 = some (.iload_n 2, 1) := rfl
theorem f171_45 : pm_fetch 171 45 = some (.invokevirtual 247, 3) := rfl
theorem f171_48 : pm_fetch 171 48 = some (.iconst (-1), 1) := rfl
theorem f171_49 : pm_fetch 171 49 = some (.if_icmp .ne 10, 3) := rfl
theorem f171_52 : pm_fetch 171 52 = some (.iconst 1, 1) := rfl
theorem f171_53 : pm_fetch 171 53 = some (.iload 6, 2) := rfl
theorem f171_55 : pm_fetch 171 55 = some (.ishl, 1) := rfl
theorem f171_56 : pm_fetch 171 56 = some (.goto 4, 3) := rfl
theorem f171_59 : pm_fetch 171 59 = some (.iconst 0, 1) := rfl
theorem f171_60 : pm_fetch 171 60 = some (.ior, 1) := rfl
theorem f171_61 : pm_fetch 171 61 = some (.istore 5, 2) := rfl
theorem f171_63 : pm_fetch 171 63 = some (.iinc 6 1, 3) := rfl
theorem f171_66 : pm_fetch 171 66 = some (.goto (-41), 3) := rfl
theorem f171_69 : pm_fetch 171 69 = some (.aload_n 0, 1) := rfl
theorem f171_70 : pm_fetch 171 70 = some (.iload 4, 2) := rfl
theorem f171_72 : pm_fetch 171 72 = some (.putfield 114, 3) := rfl
theorem f171_75 : pm_fetch 171 75 = some (.iload 5, 2) := rfl
theorem f171_77 : pm_fetch 171 77 = some (.ireturn, 1) := rfl
theorem f172_0 : pm_fetch 172 0 = some (.iload_n 1, 1) := rfl
theorem f172_1 : pm_fetch 172 1 = some (.iconst 0, 1) := rfl
theorem f172_2 : pm_fetch 172 2 = some (.iconst 3, 1) := rfl
theorem f172_3 : pm_fetch 172 3 = some (.invokestatic 79, 3) := rfl
theorem f172_6 : pm_fetch 172 6 = some (.ifCond .ne 6, 3) := rfl
theorem f172_9 : pm_fetch 172 9 = some (.bipush (-2), 2) := rfl
theorem f172_11 : pm_fetch 172 11 = some (.ireturn, 1) := rfl
theorem f172_12 : pm_fetch 172 12 = some (.aload_n 0, 1) := rfl
theorem f172_13 : pm_fetch 172 13 = some (.iload_n 2, 1) := rfl
theorem f172_14 : pm_fetch 172 14 = some (.invokevirtual 197, 3) := rfl
theorem f172_17 : pm_fetch 172 17 = some (.ifCond .ne 6, 3) := rfl
theorem f172_20 : pm_fetch 172 20 = some (.bipush (-5), 2) := rfl
theorem f172_22 : pm_fetch 172 22 = some (.ireturn, 1) := rfl
theorem f172_23 : pm_fetch 172 23 = some (.iload_n 3, 1) := rfl
theorem f172_24 : pm_fetch 172 24 = some (.iconst 0, 1) := rfl
theorem f172_25 : pm_fetch 172 25 = some (.bipush 20, 2) := rfl
theorem f172_27 : pm_fetch 172 27 = some (.invokestatic 79, 3) := rfl
theorem f172_30 : pm_fetch 172 30 = some (.ifCond .ne 6, 3) := rfl
theorem f172_33 : pm_fetch 172 33 = some (.bipush (-7), 2) := rfl
theorem f172_35 : pm_fetch 172 35 = some (.ireturn, 1) := rfl
theorem f172_36 : pm_fetch 172 36 = some (.aload_n 0, 1) := rfl
theorem f172_37 : pm_fetch 172 37 = some (.getfield 41, 3) := rfl
theorem f172_40 : pm_fetch 172 40 = some (.iload_n 1, 1) := rfl
theorem f172_41 : pm_fetch 172 41 = some (.iconst 0, 1) := rfl
theorem f172_42 : pm_fetch 172 42 = some (.iastore, 1) := rfl
theorem f172_43 : pm_fetch 172 43 = some (.aload_n 0, 1) := rfl
theorem f172_44 : pm_fetch 172 44 = some (.getfield 44, 3) := rfl
theorem f172_47 : pm_fetch 172 47 = some (.iload_n 1, 1) := rfl
theorem f172_48 : pm_fetch 172 48 = some (.iload_n 3, 1) := rfl
theorem f172_49 : pm_fetch 172 49 = some (.iastore, 1) := rfl
theorem f172_50 : pm_fetch 172 50 = some (.aload_n 0, 1) := rfl
theorem f172_51 : pm_fetch 172 51 = some (.invokevirtual 219, 3) := rfl
theorem f172_54 : pm_fetch 172 54 = some (.iconst 0, 1) := rfl
theorem f172_55 : pm_fetch 172 55 = some (.istore 4, 2) := rfl
theorem f172_57 : pm_fetch 172 57 = some (.iload 4, 2) := rfl
theorem f172_59 : pm_fetch 172 59 = some (.bipush 40, 2) := rfl
theorem f172_61 : pm_fetch 172 61 = some (.if_icmp .ge 51, 3) := rfl
theorem f172_64 : pm_fetch 172 64 = some (.aload_n 0, 1) := rfl
theorem f172_65 : pm_fetch 172 65 = some (.getfield 47, 3) := rfl
theorem f172_68 : pm_fetch 172 68 = some (.bipush 40, 2) := rfl
theorem f172_70 : pm_fetch 172 70 = some (.iload_n 1, 1) := rfl
theorem f172_71 : pm_fetch 172 71 = some (.imul, 1) := rfl
theorem f172_72 : pm_fetch 172 72 = some (.iload 4, 2) := rfl
theorem f172_74 : pm_fetch 172 74 = some (.iadd, 1) := rfl
theorem f172_75 : pm_fetch 172 75 = some (.iconst 0, 1) := rfl
theorem f172_76 : pm_fetch 172 76 = some (.iastore, 1) := rfl
theorem f172_77 : pm_fetch 172 77 = some (.iload 4, 2) := rfl
theorem f172_79 : pm_fetch 172 79 = some (.iload_n 3, 1) := rfl
theorem f172_80 : pm_fetch 172 80 = some (.if_icmp .ge 26, 3) := rfl
theorem f172_83 : pm_fetch 172 83 = some (.aload_n 0, 1) := rfl
theorem f172_84 : pm_fetch 172 84 = some (.invokevirtual 216, 3) := rfl
theorem f172_87 : pm_fetch 172 87 = some (.pop, 1) := rfl
theorem f172_88 : pm_fetch 172 88 = some (.aload_n 0, 1) := rfl
theorem f172_89 : pm_fetch 172 89 = some (.getfield 47, 3) := rfl
theorem f172_92 : pm_fetch 172 92 = some (.bipush 40, 2) := rfl
theorem f172_94 : pm_fetch 172 94 = some (.iload_n 1, 1) := rfl
theorem f172_95 : pm_fetch 172 95 = some (.imul, 1) := rfl
theorem f172_96 : pm_fetch 172 96 = some (.iload 4, 2) := rfl
theorem f172_98 : pm_fetch 172 98 = some (.iadd, 1) := rfl
theorem f172_99 : pm_fetch 172 99 = some (.aload_n 0, 1) := rfl
theorem f172_100 : pm_fetch 172 100 = some (.iload_n 2, 1) := rfl
theorem f172_101 : pm_fetch 172 101 = some (.iconst 0, 1) := rfl
theorem f172_102 : pm_fetch 172 102 = some (.invokevirtual 225, 3) := rfl
theorem f172_105 : pm_fetch 172 105 = some (.iastore, 1) := rfl
theorem f172_106 : pm_fetch 172 106 = some (.iinc 4 1, 3) := rfl
theorem f172_109 : pm_fetch 172 109 = some (.goto (-52), 3) := rfl
theorem f172_112 : pm_fetch 172 112 = some (.aload_n 0, 1) := rfl
theorem f172_113 : pm_fetch 172 113 = some (.invokevirtual 228, 3) := rfl
theorem f172_116 : pm_fetch 172 116 = some (.iload_n 3, 1) := rfl
theorem f172_117 : pm_fetch 172 117 = some (.ireturn, 1) := rfl
theorem f173_0 : pm_fetch 173 0 = some (.iload_n 1, 1) := rfl
theorem f173_1 : pm_fetch 173 1 = some (.i2l, 1) := rfl
theorem f173_2 : pm_fetch 173 2 = some (.lconst 1, 1) := rfl
theorem f173_3 : pm_fetch 173 3 = some (.ladd, 1) := rfl
theorem f173_4 : pm_fetch 173 4 = some (.lstore_n 2, 1) := rfl
theorem f173_5 : pm_fetch 173 5 = some (.iconst 0, 1) := rfl
theorem f173_6 : pm_fetch 173 6 = some (.istore 4, 2) := rfl
theorem f173_8 : pm_fetch 173 8 = some (.aload_n 0, 1) := rfl
theorem f173_9 : pm_fetch 173 9 = some (.invokevirtual 219, 3) := rfl
theorem f173_12 : pm_fetch 173 12 = some (.iconst 0, 1) := rfl
theorem f173_13 : pm_fetch 173 13 = some (.istore 5, 2) := rfl
theorem f173_15 : pm_fetch 173 15 = some (.iload 5, 2) := rfl
theorem f173_17 : pm_fetch 173 17 = some (.bipush 6, 2) := rfl
theorem f173_19 : pm_fetch 173 19 = some (.if_icmp .ge 87, 3) := rfl
theorem f173_22 : pm_fetch 173 22 = some (.lload_n 2, 1) := rfl
theorem f173_23 : pm_fetch 173 23 = some (.ldc2_w 250, 3) := rfl
theorem f173_26 : pm_fetch 173 26 = some (.lmul, 1) := rfl
theorem f173_27 : pm_fetch 173 27 = some (.ldc2_w 252, 3) := rfl
theorem f173_30 : pm_fetch 173 30 = some (.lrem, 1) := rfl
theorem f173_31 : pm_fetch 173 31 = some (.lstore_n 2, 1) := rfl
theorem f173_32 : pm_fetch 173 32 = some (.lload_n 2, 1) := rfl
theorem f173_33 : pm_fetch 173 33 = some (.ldc2_w 254, 3) := rfl
theorem f173_36 : pm_fetch 173 36 = some (.lrem, 1) := rfl
theorem f173_37 : pm_fetch 173 37 = some (.l2i, 1) := rfl
theorem f173_38 : pm_fetch 173 38 = some (.istore 6, 2) := rfl
theorem f173_40 : pm_fetch 173 40 = some (.lload_n 2, 1) := rfl
theorem f173_41 : pm_fetch 173 41 = some (.ldc2_w 250, 3) := rfl
theorem f173_44 : pm_fetch 173 44 = some (.lmul, 1) := rfl
theorem f173_45 : pm_fetch 173 45 = some (.ldc2_w 252, 3) := rfl
theorem f173_48 : pm_fetch 173 48 = some (.lrem, 1) := rfl
theorem f173_49 : pm_fetch 173 49 = some (.lstore_n 2, 1) := rfl
theorem f173_50 : pm_fetch 173 50 = some (.aload_n 0, 1) := rfl
theorem f173_51 : pm_fetch 173 51 = some (.iload 6, 2) := rfl
theorem f173_53 : pm_fetch 173 53 = some (.invokevirtual 197, 3) := rfl
theorem f173_56 : pm_fetch 173 56 = some (.ifCond .eq 34, 3) := rfl
theorem f173_59 : pm_fetch 173 59 = some (.aload_n 0, 1) := rfl
theorem f173_60 : pm_fetch 173 60 = some (.getfield 16, 3) := rfl
theorem f173_63 : pm_fetch 173 63 = some (.iconst 3, 1) := rfl
theorem f173_64 : pm_fetch 173 64 = some (.iload 6, 2) := rfl
theorem f173_66 : pm_fetch 173 66 = some (.imul, 1) := rfl
theorem f173_67 : pm_fetch 173 67 = some (.aload_n 0, 1) := rfl
theorem f173_68 : pm_fetch 173 68 = some (.getfield 16, 3) := rfl
theorem f173_71 : pm_fetch 173 71 = some (.iconst 3, 1) := rfl
theorem f173_72 : pm_fetch 173 72 = some (.iload 6, 2) := rfl
theorem f173_74 : pm_fetch 173 74 = some (.imul, 1) := rfl
theorem f173_75 : pm_fetch 173 75 = some (.iaload, 1) := rfl
theorem f173_76 : pm_fetch 173 76 = some (.lload_n 2, 1) := rfl
theorem f173_77 : pm_fetch 173 77 = some (.ldc2_w 256, 3) := rfl
theorem f173_80 : pm_fetch 173 80 = some (.lrem, 1) := rfl
theorem f173_81 : pm_fetch 173 81 = some (.l2i, 1) := rfl
theorem f173_82 : pm_fetch 173 82 = some (.iadd, 1) := rfl
theorem f173_83 : pm_fetch 173 83 = some (.iconst 0, 1) := rfl
theorem f173_84 : pm_fetch 173 84 = some (.bipush 39, 2) := rfl
theorem f173_86 : pm_fetch 173 86 = some (.invokestatic 86, 3) := rfl
theorem f173_89 : pm_fetch 173 89 = some (.iastore, 1) := rfl
theorem f173_90 : pm_fetch 173 90 = some (.iload 4, 2) := rfl
theorem f173_92 : pm_fetch 173 92 = some (.aload_n 0, 1) := rfl
theorem f173_93 : pm_fetch 173 93 = some (.iconst 1, 1) := rfl
theorem f173_94 : pm_fetch 173 94 = some (.invokevirtual 222, 3) := rfl
theorem f173_97 : pm_fetch 173 97 = some (.iadd, 1) := rfl
theorem f173_98 : pm_fetch 173 98 = some (.istore 4, 2) := rfl
theorem f173_100 : pm_fetch 173 100 = some (.iinc 5 1, 3) := rfl
theorem f173_103 : pm_fetch 173 103 = some (.goto (-88), 3) := rfl
theorem f173_106 : pm_fetch 173 106 = some (.aload_n 0, 1) := rfl
theorem f173_107 : pm_fetch 173 107 = some (.aload_n 0, 1) := rfl
theorem f173_108 : pm_fetch 173 108 = some (.invokevirtual 98, 3) := rfl
theorem f173_111 : pm_fetch 173 111 = some (.putfield 258, 3) := rfl
theorem f173_114 : pm_fetch 173 114 = some (.aload_n 0, 1) := rfl
theorem f173_115 : pm_fetch 173 115 = some (.invokevirtual 228, 3) := rfl
theorem f173_118 : pm_fetch 173 118 = some (.iload 4, 2) := rfl
theorem f173_120 : pm_fetch 173 120 = some (.ireturn, 1) := rfl
theorem f174_0 : pm_fetch 174 0 = some (.iload_n 1, 1) := rfl
theorem f174_1 : pm_fetch 174 1 = some (.iconst 0, 1) := rfl
theorem f174_2 : pm_fetch 174 2 = some (.ldc_w 261, 3) := rfl
theorem f174_5 : pm_fetch 174 5 = some (.invokestatic 79, 3) := rfl
theorem f174_8 : pm_fetch 174 8 = some (.ifCond .eq 12, 3) := rfl
theorem f174_11 : pm_fetch 174 11 = some (.iload_n 2, 1) := rfl
theorem f174_12 : pm_fetch 174 12 = some (.iconst 0, 1) := rfl
theorem f174_13 : pm_fetch 174 13 = some (.iconst 1, 1) := rfl
theorem f174_14 : pm_fetch 174 14 = some (.invokestatic 79, 3) := rfl
theorem f174_17 : pm_fetch 174 17 = some (.ifCond .ne 6, 3) := rfl
theorem f174_20 : pm_fetch 174 20 = some (.bipush (-2), 2) := rfl
theorem f174_22 : pm_fetch 174 22 = some (.ireturn, 1) := rfl
theorem f174_23 : pm_fetch 174 23 = some (.aload_n 0, 1) := rfl
theorem f174_24 : pm_fetch 174 24 = some (.iload_n 1, 1) := rfl
theorem f174_25 : pm_fetch 174 25 = some (.invokevirtual 262, 3) := rfl
theorem f174_28 : pm_fetch 174 28 = some (.istore_n 3, 1) := rfl
theorem f174_29 : pm_fetch 174 29 = some (.iload_n 2, 1) := rfl
theorem f174_30 : pm_fetch 174 30 = some (.ifCond .ne 7, 3) := rfl
theorem f174_33 : pm_fetch 174 33 = some (.iload_n 3, 1) := rfl
theorem f174_34 : pm_fetch 174 34 = some (.goto 7, 3) := rfl
theorem f174_37 : pm_fetch 174 37 = some (.aload_n 0, 1) := rfl
theorem f174_38 : pm_fetch 174 38 = some (.getfield 258, 3) := rfl
theorem f174_41 : pm_fetch 174 41 = some (.ireturn, 1) := rfl
theorem f175_0 : pm_fetch 175 0 = some (.iload_n 1, 1) := rfl
theorem f175_1 : pm_fetch 175 1 = some (.iconst 0, 1) := rfl
theorem f175_2 : pm_fetch 175 2 = some (.ldc_w 261, 3) := rfl
theorem f175_5 : pm_fetch 175 5 = some (.invokestatic 79, 3) := rfl
theorem f175_8 : pm_fetch 175 8 = some (.ifCond .eq 34, 3) := rfl
theorem f175_11 : pm_fetch 175 11 = some (.iload_n 2, 1) := rfl
theorem f175_12 : pm_fetch 175 12 = some (.iconst 1, 1) := rfl
theorem f175_13 : pm_fetch 175 13 = some (.bipush 40, 2) := rfl
theorem f175_15 : pm_fetch 175 15 = some (.invokestatic 79, 3) := rfl
theorem f175_18 : pm_fetch 175 18 = some (.ifCond .eq 24, 3) := rfl
theorem f175_21 : pm_fetch 175 21 = some (.iload_n 3, 1) := rfl
theorem f175_22 : pm_fetch 175 22 = some (.iconst 0, 1) := rfl
theorem f175_23 : pm_fetch 175 23 = some (.sipush 999, 3) := rfl
theorem f175_26 : pm_fetch 175 26 = some (.invokestatic 79, 3) := rfl
theorem f175_29 : pm_fetch 175 29 = some (.ifCond .eq 13, 3) := rfl
theorem f175_32 : pm_fetch 175 32 = some (.iload 4, 2) := rfl
theorem f175_34 : pm_fetch 175 34 = some (.iconst 0, 1) := rfl
theorem f175_35 : pm_fetch 175 35 = some (.iconst 1, 1) := rfl
theorem f175_36 : pm_fetch 175 36 = some (.invokestatic 79, 3) := rfl
theorem f175_39 : pm_fetch 175 39 = some (.ifCond .ne 7, 3) := rfl
theorem f175_42 : pm_fetch 175 42 = some (.ldc2_w 127, 3) := rfl
theorem f175_45 : pm_fetch 175 45 = some (.lreturn, 1) := rfl
theorem f175_46 : pm_fetch 175 46 = some (.lconst 0, 1) := rfl
theorem f175_47 : pm_fetch 175 47 = some (.lstore 5, 2) := rfl
theorem f175_49 : pm_fetch 175 49 = some (.iconst 0, 1) := rfl
theorem f175_50 : pm_fetch 175 50 = some (.istore 7, 2) := rfl
theorem f175_52 : pm_fetch 175 52 = some (.iload 7, 2) := rfl
theorem f175_54 : pm_fetch 175 54 = some (.iload_n 2, 1) := rfl
theorem f175_55 : pm_fetch 175 55 = some (.if_icmp .ge 31, 3) := rfl
theorem f175_58 : pm_fetch 175 58 = some (.lload 5, 2) := rfl
theorem f175_60 : pm_fetch 175 60 = some (.aload_n 0, 1) := rfl
theorem f175_61 : pm_fetch 175 61 = some (.iload_n 1, 1) := rfl
theorem f175_62 : pm_fetch 175 62 = some (.iload 7, 2) := rfl
theorem f175_64 : pm_fetch 175 64 = some (.iadd, 1) := rfl
theorem f175_65 : pm_fetch 175 65 = some (.invokevirtual 262, 3) := rfl
theorem f175_68 : pm_fetch 175 68 = some (.iload_n 3, 1) := rfl
theorem f175_69 : pm_fetch 175 69 = some (.if_icmp .lt 7, 3) := rfl
theorem f175_72 : pm_fetch 175 72 = some (.lconst 1, 1) := rfl
theorem f175_73 : pm_fetch 175 73 = some (.goto 4, 3) := rfl
theorem f175_76 : pm_fetch 175 76 = some (.lconst 0, 1) := rfl
theorem f175_77 : pm_fetch 175 77 = some (.ladd, 1) := rfl
theorem f175_78 : pm_fetch 175 78 = some (.lstore 5, 2) := rfl
theorem f175_80 : pm_fetch 175 80 = some (.iinc 7 1, 3) := rfl
theorem f175_83 : pm_fetch 175 83 = some (.goto (-31), 3) := rfl
theorem f175_86 : pm_fetch 175 86 = some (.lload 5, 2) := rfl
theorem f175_88 : pm_fetch 175 88 = some (.iload_n 2, 1) := rfl
theorem f175_89 : pm_fetch 175 89 = some (.i2l, 1) := rfl
theorem f175_90 : pm_fetch 175 90 = some (.iload 4, 2) := rfl
theorem f175_92 : pm_fetch 175 92 = some (.invokestatic 237, 3) := rfl
theorem f175_95 : pm_fetch 175 95 = some (.lreturn, 1) := rfl
theorem f176_0 : pm_fetch 176 0 = some (.aload_n 0, 1) := rfl
theorem f176_1 : pm_fetch 176 1 = some (.iconst 1, 1) := rfl
theorem f176_2 : pm_fetch 176 2 = some (.putfield 265, 3) := rfl
theorem f176_5 : pm_fetch 176 5 = some (.iconst 0, 1) := rfl
theorem f176_6 : pm_fetch 176 6 = some (.istore_n 1, 1) := rfl
theorem f176_7 : pm_fetch 176 7 = some (.iload_n 1, 1) := rfl
theorem f176_8 : pm_fetch 176 8 = some (.bipush 18, 2) := rfl
theorem f176_10 : pm_fetch 176 10 = some (.if_icmp .ge 21, 3) := rfl
theorem f176_13 : pm_fetch 176 13 = some (.aload_n 0, 1) := rfl
theorem f176_14 : pm_fetch 176 14 = some (.getfield 31, 3) := rfl
theorem f176_17 : pm_fetch 176 17 = some (.iload_n 1, 1) := rfl
theorem f176_18 : pm_fetch 176 18 = some (.aload_n 0, 1) := rfl
theorem f176_19 : pm_fetch 176 19 = some (.getfield 16, 3) := rfl
theorem f176_22 : pm_fetch 176 22 = some (.iload_n 1, 1) := rfl
theorem f176_23 : pm_fetch 176 23 = some (.iaload, 1) := rfl
theorem f176_24 : pm_fetch 176 24 = some (.iastore, 1) := rfl
theorem f176_25 : pm_fetch 176 25 = some (.iinc 1 1, 3) := rfl
theorem f176_28 : pm_fetch 176 28 = some (.goto (-21), 3) := rfl
theorem f176_31 : pm_fetch 176 31 = some (.iconst 0, 1) := rfl
theorem f176_32 : pm_fetch 176 32 = some (.istore_n 1, 1) := rfl
theorem f176_33 : pm_fetch 176 33 = some (.iload_n 1, 1) := rfl
theorem f176_34 : pm_fetch 176 34 = some (.bipush 6, 2) := rfl
theorem f176_36 : pm_fetch 176 36 = some (.if_icmp .ge 24, 3) := rfl
theorem f176_39 : pm_fetch 176 39 = some (.aload_n 0, 1) := rfl
theorem f176_40 : pm_fetch 176 40 = some (.getfield 31, 3) := rfl
theorem f176_43 : pm_fetch 176 43 = some (.bipush 18, 2) := rfl
theorem f176_45 : pm_fetch 176 45 = some (.iload_n 1, 1) := rfl
theorem f176_46 : pm_fetch 176 46 = some (.iadd, 1) := rfl
theorem f176_47 : pm_fetch 176 47 = some (.aload_n 0, 1) := rfl
theorem f176_48 : pm_fetch 176 48 = some (.getfield 19, 3) := rfl
theorem f176_51 : pm_fetch 176 51 = some (.iload_n 1, 1) := rfl
theorem f176_52 : pm_fetch 176 52 = some (.iaload, 1) := rfl
theorem f176_53 : pm_fetch 176 53 = some (.iastore, 1) := rfl
theorem f176_54 : pm_fetch 176 54 = some (.iinc 1 1, 3) := rfl
theorem f176_57 : pm_fetch 176 57 = some (.goto (-24), 3) := rfl
theorem f176_60 : pm_fetch 176 60 = some (.aload_n 0, 1) := rfl
theorem f176_61 : pm_fetch 176 61 = some (.getfield 34, 3) := rfl
theorem f176_64 : pm_fetch 176 64 = some (.iconst 0, 1) := rfl
theorem f176_65 : pm_fetch 176 65 = some (.aload_n 0, 1) := rfl
theorem f176_66 : pm_fetch 176 66 = some (.getfield 108, 3) := rfl
theorem f176_69 : pm_fetch 176 69 = some (.lastore, 1) := rfl
theorem f176_70 : pm_fetch 176 70 = some (.aload_n 0, 1) := rfl
theorem f176_71 : pm_fetch 176 71 = some (.getfield 34, 3) := rfl
theorem f176_74 : pm_fetch 176 74 = some (.iconst 1, 1) := rfl
theorem f176_75 : pm_fetch 176 75 = some (.aload_n 0, 1) := rfl
theorem f176_76 : pm_fetch 176 76 = some (.getfield 94, 3) := rfl
theorem f176_79 : pm_fetch 176 79 = some (.lastore, 1) := rfl
theorem f176_80 : pm_fetch 176 80 = some (.aload_n 0, 1) := rfl
theorem f176_81 : pm_fetch 176 81 = some (.getfield 38, 3) := rfl
theorem f176_84 : pm_fetch 176 84 = some (.iconst 0, 1) := rfl
theorem f176_85 : pm_fetch 176 85 = some (.aload_n 0, 1) := rfl
theorem f176_86 : pm_fetch 176 86 = some (.getfield 83, 3) := rfl
theorem f176_89 : pm_fetch 176 89 = some (.iastore, 1) := rfl
theorem f176_90 : pm_fetch 176 90 = some (.aload_n 0, 1) := rfl
theorem f176_91 : pm_fetch 176 91 = some (.getfield 38, 3) := rfl
theorem f176_94 : pm_fetch 176 94 = some (.iconst 1, 1) := rfl
theorem f176_95 : pm_fetch 176 95 = some (.aload_n 0, 1) := rfl
theorem f176_96 : pm_fetch 176 96 = some (.getfield 105, 3) := rfl
theorem f176_99 : pm_fetch 176 99 = some (.iastore, 1) := rfl
theorem f176_100 : pm_fetch 176 100 = some (.aload_n 0, 1) := rfl
theorem f176_101 : pm_fetch 176 101 = some (.getfield 38, 3) := rfl
theorem f176_104 : pm_fetch 176 104 = some (.iconst 2, 1) := rfl
theorem f176_105 : pm_fetch 176 105 = some (.aload_n 0, 1) := rfl
theorem f176_106 : pm_fetch 176 106 = some (.getfield 114, 3) := rfl
theorem f176_109 : pm_fetch 176 109 = some (.iastore, 1) := rfl
theorem f176_110 : pm_fetch 176 110 = some (.aload_n 0, 1) := rfl
theorem f176_111 : pm_fetch 176 111 = some (.getfield 83, 3) := rfl
theorem f176_114 : pm_fetch 176 114 = some (.ireturn, 1) := rfl
theorem f177_0 : pm_fetch 177 0 = some (.aload_n 0, 1) := rfl
theorem f177_1 : pm_fetch 177 1 = some (.getfield 265, 3) := rfl
theorem f177_4 : pm_fetch 177 4 = some (.ifCond .ne 6, 3) := rfl
theorem f177_7 : pm_fetch 177 7 = some (.bipush (-3), 2) := rfl
theorem f177_9 : pm_fetch 177 9 = some (.ireturn, 1) := rfl
theorem f177_10 : pm_fetch 177 10 = some (.iconst 0, 1) := rfl
theorem f177_11 : pm_fetch 177 11 = some (.istore_n 1, 1) := rfl
theorem f177_12 : pm_fetch 177 12 = some (.iload_n 1, 1) := rfl
theorem f177_13 : pm_fetch 177 13 = some (.bipush 18, 2) := rfl
theorem f177_15 : pm_fetch 177 15 = some (.if_icmp .ge 21, 3) := rfl
theorem f177_18 : pm_fetch 177 18 = some (.aload_n 0, 1) := rfl
theorem f177_19 : pm_fetch 177 19 = some (.getfield 16, 3) := rfl
theorem f177_22 : pm_fetch 177 22 = some (.iload_n 1, 1) := rfl
theorem f177_23 : pm_fetch 177 23 = some (.aload_n 0, 1) := rfl
theorem f177_24 : pm_fetch 177 24 = some (.getfield 31, 3) := rfl
theorem f177_27 : pm_fetch 177 27 = some (.iload_n 1, 1) := rfl
theorem f177_28 : pm_fetch 177 28 = some (.iaload, 1) := rfl
theorem f177_29 : pm_fetch 177 29 = some (.iastore, 1) := rfl
theorem f177_30 : pm_fetch 177 30 = some (.iinc 1 1, 3) := rfl
theorem f177_33 : pm_fetch 177 33 = some (.goto (-21), 3) := rfl
theorem f177_36 : pm_fetch 177 36 = some (.iconst 0, 1) := rfl
theorem f177_37 : pm_fetch 177 37 = some (.istore_n 1, 1) := rfl
theorem f177_38 : pm_fetch 177 38 = some (.iload_n 1, 1) := rfl
theorem f177_39 : pm_fetch 177 39 = some (.bipush 6, 2) := rfl
theorem f177_41 : pm_fetch 177 41 = some (.if_icmp .ge 24, 3) := rfl
theorem f177_44 : pm_fetch 177 44 = some (.aload_n 0, 1) := rfl
theorem f177_45 : pm_fetch 177 45 = some (.getfield 19, 3) := rfl
theorem f177_48 : pm_fetch 177 48 = some (.iload_n 1, 1) := rfl
theorem f177_49 : pm_fetch 177 49 = some (.aload_n 0, 1) := rfl
theorem f177_50 : pm_fetch 177 50 = some (.getfield 31, 3) := rfl
theorem f177_53 : pm_fetch 177 53 = some (.bipush 18, 2) := rfl
theorem f177_55 : pm_fetch 177 55 = some (.iload_n 1, 1) := rfl
theorem f177_56 : pm_fetch 177 56 = some (.iadd, 1) := rfl
theorem f177_57 : pm_fetch 177 57 = some (.iaload, 1) := rfl
theorem f177_58 : pm_fetch 177 58 = some (.iastore, 1) := rfl
theorem f177_59 : pm_fetch 177 59 = some (.iinc 1 1, 3) := rfl
theorem f177_62 : pm_fetch 177 62 = some (.goto (-24), 3) := rfl
theorem f177_65 : pm_fetch 177 65 = some (.aload_n 0, 1) := rfl
theorem f177_66 : pm_fetch 177 66 = some (.aload_n 0, 1) := rfl
theorem f177_67 : pm_fetch 177 67 = some (.getfield 34, 3) := rfl
theorem f177_70 : pm_fetch 177 70 = some (.iconst 0, 1) := rfl
theorem f177_71 : pm_fetch 177 71 = some (.laload, 1) := rfl
theorem f177_72 : pm_fetch 177 72 = some (.putfield 108, 3) := rfl
theorem f177_75 : pm_fetch 177 75 = some (.aload_n 0, 1) := rfl
theorem f177_76 : pm_fetch 177 76 = some (.aload_n 0, 1) := rfl
theorem f177_77 : pm_fetch 177 77 = some (.getfield 34, 3) := rfl
theorem f177_80 : pm_fetch 177 80 = some (.iconst 1, 1) := rfl
theorem f177_81 : pm_fetch 177 81 = some (.laload, 1) := rfl
theorem f177_82 : pm_fetch 177 82 = some (.putfield 94, 3) := rfl
theorem f177_85 : pm_fetch 177 85 = some (.aload_n 0, 1) := rfl
theorem f177_86 : pm_fetch 177 86 = some (.aload_n 0, 1) := rfl
theorem f177_87 : pm_fetch 177 87 = some (.getfield 38, 3) := rfl
theorem f177_90 : pm_fetch 177 90 = some (.iconst 0, 1) := rfl
theorem f177_91 : pm_fetch 177 91 = some (.iaload, 1) := rfl
theorem f177_92 : pm_fetch 177 92 = some (.putfield 83, 3) := rfl
theorem f177_95 : pm_fetch 177 95 = some (.aload_n 0, 1) := rfl
theorem f177_96 : pm_fetch 177 96 = some (.aload_n 0, 1) := rfl
theorem f177_97 : pm_fetch 177 97 = some (.getfield 38, 3) := rfl
theorem f177_100 : pm_fetch 177 100 = some (.iconst 1, 1) := rfl
theorem f177_101 : pm_fetch 177 101 = some (.iaload, 1) := rfl
theorem f177_102 : pm_fetch 177 102 = some (.putfield 105, 3) := rfl
theorem f177_105 : pm_fetch 177 105 = some (.aload_n 0, 1) := rfl
theorem f177_106 : pm_fetch 177 106 = some (.aload_n 0, 1) := rfl
theorem f177_107 : pm_fetch 177 107 = some (.getfield 38, 3) := rfl
theorem f177_110 : pm_fetch 177 110 = some (.iconst 2, 1) := rfl
theorem f177_111 : pm_fetch 177 111 = some (.iaload, 1) := rfl
theorem f177_112 : pm_fetch 177 112 = some (.putfield 114, 3) := rfl
theorem f177_115 : pm_fetch 177 115 = some (.aload_n 0, 1) := rfl
theorem f177_116 : pm_fetch 177 116 = some (.getfield 83, 3) := rfl
theorem f177_119 : pm_fetch 177 119 = some (.ireturn, 1) := rfl
theorem f178_0 : pm_fetch 178 0 = some (.iload_n 1, 1) := rfl
theorem f178_1 : pm_fetch 178 1 = some (.iconst 0, 1) := rfl
theorem f178_2 : pm_fetch 178 2 = some (.iconst 3, 1) := rfl
theorem f178_3 : pm_fetch 178 3 = some (.invokestatic 79, 3) := rfl
theorem f178_6 : pm_fetch 178 6 = some (.ifCond .eq 23, 3) := rfl
theorem f178_9 : pm_fetch 178 9 = some (.iload_n 2, 1) := rfl
theorem f178_10 : pm_fetch 178 10 = some (.iconst (-1), 1) := rfl
theorem f178_11 : pm_fetch 178 11 = some (.iconst 2, 1) := rfl
theorem f178_12 : pm_fetch 178 12 = some (.invokestatic 79, 3) := rfl
theorem f178_15 : pm_fetch 178 15 = some (.ifCond .eq 14, 3) := rfl
theorem f178_18 : pm_fetch 178 18 = some (.iload_n 2, 1) := rfl
theorem f178_19 : pm_fetch 178 19 = some (.iconst (-1), 1) := rfl
theorem f178_20 : pm_fetch 178 20 = some (.if_icmp .eq 12, 3) := rfl
theorem f178_23 : pm_fetch 178 23 = some (.iload_n 3, 1) := rfl
theorem f178_24 : pm_fetch 178 24 = some (.bipush 40, 2) := rfl
theorem f178_26 : pm_fetch 178 26 = some (.if_icmp .le 6, 3) := rfl
theorem f178_29 : pm_fetch 178 29 = some (.bipush (-2), 2) := rfl
theorem f178_31 : pm_fetch 178 31 = some (.ireturn, 1) := rfl
theorem f178_32 : pm_fetch 178 32 = some (.iload_n 2, 1) := rfl
theorem f178_33 : pm_fetch 178 33 = some (.iconst (-1), 1) := rfl
theorem f178_34 : pm_fetch 178 34 = some (.if_icmp .eq 10, 3) := rfl
theorem f178_37 : pm_fetch 178 37 = some (.iload_n 3, 1) := rfl
theorem f178_38 : pm_fetch 178 38 = some (.ifCond .ge 6, 3) := rfl
theorem f178_41 : pm_fetch 178 41 = some (.bipush (-14), 2) := rfl
theorem f178_43 : pm_fetch 178 43 = some (.ireturn, 1) := rfl
theorem f178_44 : pm_fetch 178 44 = some (.aload_n 0, 1) := rfl
theorem f178_45 : pm_fetch 178 45 = some (.getfield 41, 3) := rfl
theorem f178_48 : pm_fetch 178 48 = some (.iload_n 1, 1) := rfl
theorem f178_49 : pm_fetch 178 49 = some (.iload_n 2, 1) := rfl
theorem f178_50 : pm_fetch 178 50 = some (.iastore, 1) := rfl
theorem f178_51 : pm_fetch 178 51 = some (.aload_n 0, 1) := rfl
theorem f178_52 : pm_fetch 178 52 = some (.getfield 44, 3) := rfl
theorem f178_55 : pm_fetch 178 55 = some (.iload_n 1, 1) := rfl
theorem f178_56 : pm_fetch 178 56 = some (.iload_n 2, 1) := rfl
theorem f178_57 : pm_fetch 178 57 = some (.iconst (-1), 1) := rfl
theorem f178_58 : pm_fetch 178 58 = some (.if_icmp .ne 7, 3) := rfl
theorem f178_61 : pm_fetch 178 61 = some (.iconst 0, 1) := rfl
theorem f178_62 : pm_fetch 178 62 = some (.goto 4, 3) := rfl
theorem f178_65 : pm_fetch 178 65 = some (.iload_n 3, 1) := rfl
theorem f178_66 : pm_fetch 178 66 = some (.iastore, 1) := rfl
theorem f178_67 : pm_fetch 178 67 = some (.iconst 0, 1) := rfl
theorem f178_68 : pm_fetch 178 68 = some (.istore 4, 2) := rfl
theorem f178_70 : pm_fetch 178 70 = some (.iload 4, 2) := rfl
theorem f178_72 : pm_fetch 178 72 = some (.bipush 40, 2) := rfl
theorem f178_74 : pm_fetch 178 74 = some (.if_icmp .ge 22, 3) := rfl
theorem f178_77 : pm_fetch 178 77 = some (.aload_n 0, 1) := rfl
theorem f178_78 : pm_fetch 178 78 = some (.getfield 47, 3) := rfl
theorem f178_81 : pm_fetch 178 81 = some (.bipush 40, 2) := rfl
theorem f178_83 : pm_fetch 178 83 = some (.iload_n 1, 1) := rfl
theorem f178_84 : pm_fetch 178 84 = some (.imul, 1) := rfl
theorem f178_85 : pm_fetch 178 85 = some (.iload 4, 2) := rfl
theorem f178_87 : pm_fetch 178 87 = some (.iadd, 1) := rfl
theorem f178_88 : pm_fetch 178 88 = some (.iconst 0, 1) := rfl
theorem f178_89 : pm_fetch 178 89 = some (.iastore, 1) := rfl
theorem f178_90 : pm_fetch 178 90 = some (.iinc 4 1, 3) := rfl
theorem f178_93 : pm_fetch 178 93 = some (.goto (-23), 3) := rfl
theorem f178_96 : pm_fetch 178 96 = some (.iconst 1, 1) := rfl
theorem f178_97 : pm_fetch 178 97 = some (.ireturn, 1) := rfl
theorem f179_0 : pm_fetch 179 0 = some (.iload_n 1, 1) := rfl
theorem f179_1 : pm_fetch 179 1 = some (.iconst 0, 1) := rfl
theorem f179_2 : pm_fetch 179 2 = some (.iconst 3, 1) := rfl
theorem f179_3 : pm_fetch 179 3 = some (.invokestatic 79, 3) := rfl
theorem f179_6 : pm_fetch 179 6 = some (.ifCond .ne 6, 3) := rfl
theorem f179_9 : pm_fetch 179 9 = some (.bipush (-2), 2) := rfl
theorem f179_11 : pm_fetch 179 11 = some (.ireturn, 1) := rfl
theorem f179_12 : pm_fetch 179 12 = some (.aload_n 0, 1) := rfl
theorem f179_13 : pm_fetch 179 13 = some (.getfield 41, 3) := rfl
theorem f179_16 : pm_fetch 179 16 = some (.iload_n 1, 1) := rfl
theorem f179_17 : pm_fetch 179 17 = some (.iaload, 1) := rfl
theorem f179_18 : pm_fetch 179 18 = some (.iconst (-1), 1) := rfl
theorem f179_19 : pm_fetch 179 19 = some (.if_icmp .ne 6, 3) := rfl
theorem f179_22 : pm_fetch 179 22 = some (.bipush (-11), 2) := rfl
theorem f179_24 : pm_fetch 179 24 = some (.ireturn, 1) := rfl
theorem f179_25 : pm_fetch 179 25 = some (.iload_n 2, 1) := rfl
theorem f179_26 : pm_fetch 179 26 = some (.iconst 0, 1) := rfl
theorem f179_27 : pm_fetch 179 27 = some (.aload_n 0, 1) := rfl
theorem f179_28 : pm_fetch 179 28 = some (.getfield 44, 3) := rfl
theorem f179_31 : pm_fetch 179 31 = some (.iload_n 1, 1) := rfl
theorem f179_32 : pm_fetch 179 32 = some (.iaload, 1) := rfl
theorem f179_33 : pm_fetch 179 33 = some (.iconst 1, 1) := rfl
theorem f179_34 : pm_fetch 179 34 = some (.isub, 1) := rfl
theorem f179_35 : pm_fetch 179 35 = some (.invokestatic 79, 3) := rfl
theorem f179_38 : pm_fetch 179 38 = some (.ifCond .ne 6, 3) := rfl
theorem f179_41 : pm_fetch 179 41 = some (.bipush (-12), 2) := rfl
theorem f179_43 : pm_fetch 179 43 = some (.ireturn, 1) := rfl
theorem f179_44 : pm_fetch 179 44 = some (.aload_n 0, 1) := rfl
theorem f179_45 : pm_fetch 179 45 = some (.getfield 47, 3) := rfl
theorem f179_48 : pm_fetch 179 48 = some (.bipush 40, 2) := rfl
theorem f179_50 : pm_fetch 179 50 = some (.iload_n 1, 1) := rfl
theorem f179_51 : pm_fetch 179 51 = some (.imul, 1) := rfl
theorem f179_52 : pm_fetch 179 52 = some (.iload_n 2, 1) := rfl
theorem f179_53 : pm_fetch 179 53 = some (.iadd, 1) := rfl
theorem f179_54 : pm_fetch 179 54 = some (.aload_n 0, 1) := rfl
theorem f179_55 : pm_fetch 179 55 = some (.getfield 41, 3) := rfl
theorem f179_58 : pm_fetch 179 58 = some (.iload_n 1, 1) := rfl
theorem f179_59 : pm_fetch 179 59 = some (.iaload, 1) := rfl
theorem f179_60 : pm_fetch 179 60 = some (.ifCond .ne 8, 3) := rfl
theorem f179_63 : pm_fetch 179 63 = some (.iload_n 3, 1) := rfl
theorem f179_64 : pm_fetch 179 64 = some (.i2b, 1) := rfl
theorem f179_65 : pm_fetch 179 65 = some (.goto 19, 3) := rfl
theorem f179_68 : pm_fetch 179 68 = some (.aload_n 0, 1) := rfl
theorem f179_69 : pm_fetch 179 69 = some (.getfield 41, 3) := rfl
theorem f179_72 : pm_fetch 179 72 = some (.iload_n 1, 1) := rfl
theorem f179_73 : pm_fetch 179 73 = some (.iaload, 1) := rfl
theorem f179_74 : pm_fetch 179 74 = some (.iconst 1, 1) := rfl
theorem f179_75 : pm_fetch 179 75 = some (.if_icmp .ne 8, 3) := rfl
theorem f179_78 : pm_fetch 179 78 = some (.iload_n 3, 1) := rfl
theorem f179_79 : pm_fetch 179 79 = some (.i2s, 1) := rfl
theorem f179_80 : pm_fetch 179 80 = some (.goto 4, 3) := rfl
theorem f179_83 : pm_fetch 179 83 = some (.iload_n 3, 1) := rfl
theorem f179_84 : pm_fetch 179 84 = some (.iastore, 1) := rfl
theorem f179_85 : pm_fetch 179 85 = some (.iconst 1, 1) := rfl
theorem f179_86 : pm_fetch 179 86 = some (.ireturn, 1) := rfl
theorem f180_0 : pm_fetch 180 0 = some (.iload_n 1, 1) := rfl
theorem f180_1 : pm_fetch 180 1 = some (.iconst 0, 1) := rfl
theorem f180_2 : pm_fetch 180 2 = some (.iconst 3, 1) := rfl
theorem f180_3 : pm_fetch 180 3 = some (.invokestatic 79, 3) := rfl
theorem f180_6 : pm_fetch 180 6 = some (.ifCond .eq 12, 3) := rfl
theorem f180_9 : pm_fetch 180 9 = some (.iload_n 3, 1) := rfl
theorem f180_10 : pm_fetch 180 10 = some (.iconst 0, 1) := rfl
theorem f180_11 : pm_fetch 180 11 = some (.iconst 3, 1) := rfl
theorem f180_12 : pm_fetch 180 12 = some (.invokestatic 79, 3) := rfl
theorem f180_15 : pm_fetch 180 15 = some (.ifCond .ne 6, 3) := rfl
theorem f180_18 : pm_fetch 180 18 = some (.bipush (-2), 2) := rfl
theorem f180_20 : pm_fetch 180 20 = some (.ireturn, 1) := rfl
theorem f180_21 : pm_fetch 180 21 = some (.aload_n 0, 1) := rfl
theorem f180_22 : pm_fetch 180 22 = some (.getfield 41, 3) := rfl
theorem f180_25 : pm_fetch 180 25 = some (.iload_n 1, 1) := rfl
theorem f180_26 : pm_fetch 180 26 = some (.iaload, 1) := rfl
theorem f180_27 : pm_fetch 180 27 = some (.iconst (-1), 1) := rfl
theorem f180_28 : pm_fetch 180 28 = some (.if_icmp .eq 13, 3) := rfl
theorem f180_31 : pm_fetch 180 31 = some (.aload_n 0, 1) := rfl
theorem f180_32 : pm_fetch 180 32 = some (.getfield 41, 3) := rfl
theorem f180_35 : pm_fetch 180 35 = some (.iload_n 3, 1) := rfl
theorem f180_36 : pm_fetch 180 36 = some (.iaload, 1) := rfl
theorem f180_37 : pm_fetch 180 37 = some (.iconst (-1), 1) := rfl
theorem f180_38 : pm_fetch 180 38 = some (.if_icmp .ne 6, 3) := rfl
theorem f180_41 : pm_fetch 180 41 = some (.bipush (-11), 2) := rfl
theorem f180_43 : pm_fetch 180 43 = some (.ireturn, 1) := rfl
theorem f180_44 : pm_fetch 180 44 = some (.aload_n 0, 1) := rfl
theorem f180_45 : pm_fetch 180 45 = some (.getfield 41, 3) := rfl
theorem f180_48 : pm_fetch 180 48 = some (.iload_n 1, 1) := rfl
theorem f180_49 : pm_fetch 180 49 = some (.iaload, 1) := rfl
theorem f180_50 : pm_fetch 180 50 = some (.aload_n 0, 1) := rfl
theorem f180_51 : pm_fetch 180 51 = some (.getfield 41, 3) := rfl
theorem f180_54 : pm_fetch 180 54 = some (.iload_n 3, 1) := rfl
theorem f180_55 : pm_fetch 180 55 = some (.iaload, 1) := rfl
theorem f180_56 : pm_fetch 180 56 = some (.if_icmp .eq 6, 3) := rfl
theorem f180_59 : pm_fetch 180 59 = some (.bipush (-13), 2) := rfl
theorem f180_61 : pm_fetch 180 61 = some (.ireturn, 1) := rfl
theorem f180_62 : pm_fetch 180 62 = some (.iload 5, 2) := rfl
theorem f180_64 : pm_fetch 180 64 = some (.ifCond .lt 60, 3) := rfl
theorem f180_67 : pm_fetch 180 67 = some (.iload_n 2, 1) := rfl
theorem f180_68 : pm_fetch 180 68 = some (.ifCond .lt 56, 3) := rfl
theorem f180_71 : pm_fetch 180 71 = some (.iload 4, 2) := rfl
theorem f180_73 : pm_fetch 180 73 = some (.ifCond .lt 51, 3) := rfl
theorem f180_76 : pm_fetch 180 76 = some (.iload_n 2, 1) := rfl
theorem f180_77 : pm_fetch 180 77 = some (.aload_n 0, 1) := rfl
theorem f180_78 : pm_fetch 180 78 = some (.getfield 44, 3) := rfl
theorem f180_81 : pm_fetch 180 81 = some (.iload_n 1, 1) := rfl
theorem f180_82 : pm_fetch 180 82 = some (.iaload, 1) := rfl
theorem f180_83 : pm_fetch 180 83 = some (.if_icmp .gt 41, 3) := rfl
theorem f180_86 : pm_fetch 180 86 = some (.iload 4, 2) := rfl
theorem f180_88 : pm_fetch 180 88 = some (.aload_n 0, 1) := rfl
theorem f180_89 : pm_fetch 180 89 = some (.getfield 44, 3) := rfl
theorem f180_92 : pm_fetch 180 92 = some (.iload_n 3, 1) := rfl
theorem f180_93 : pm_fetch 180 93 = some (.iaload, 1) := rfl
theorem f180_94 : pm_fetch 180 94 = some (.if_icmp .gt 30, 3) := rfl
theorem f180_97 : pm_fetch 180 97 = some (.iload 5, 2) := rfl
theorem f180_99 : pm_fetch 180 99 = some (.aload_n 0, 1) := rfl
theorem f180_100 : pm_fetch 180 100 = some (.getfield 44, 3) := rfl
theorem f180_103 : pm_fetch 180 103 = some (.iload_n 1, 1) := rfl
theorem f180_104 : pm_fetch 180 104 = some (.iaload, 1) := rfl
theorem f180_105 : pm_fetch 180 105 = some (.iload_n 2, 1) := rfl
theorem f180_106 : pm_fetch 180 106 = some (.isub, 1) := rfl
theorem f180_107 : pm_fetch 180 107 = some (.if_icmp .gt 17, 3) := rfl
theorem f180_110 : pm_fetch 180 110 = some (.iload 5, 2) := rfl
theorem f180_112 : pm_fetch 180 112 = some (.aload_n 0, 1) := rfl
theorem f180_113 : pm_fetch 180 113 = some (.getfield 44, 3) := rfl
theorem f180_116 : pm_fetch 180 116 = some (.iload_n 3, 1) := rfl
theorem f180_117 : pm_fetch 180 117 = some (.iaload, 1) := rfl
theorem f180_118 : pm_fetch 180 118 = some (.iload 4, 2) := rfl
theorem f180_120 : pm_fetch 180 120 = some (.isub, 1) := rfl
theorem f180_121 : pm_fetch 180 121 = some (.if_icmp .le 6, 3) := rfl
theorem f180_124 : pm_fetch 180 124 = some (.bipush (-12), 2) := rfl
theorem f180_126 : pm_fetch 180 126 = some (.ireturn, 1) := rfl
theorem f180_127 : pm_fetch 180 127 = some (.bipush 40, 2) := rfl
theorem f180_129 : pm_fetch 180 129 = some (.iload_n 1, 1) := rfl
theorem f180_130 : pm_fetch 180 130 = some (.imul, 1) := rfl
theorem f180_131 : pm_fetch 180 131 = some (.iload_n 2, 1) := rfl
theorem f180_132 : pm_fetch 180 132 = some (.iadd, 1) := rfl
theorem f180_133 : pm_fetch 180 133 = some (.istore 6, 2) := rfl
theorem f180_135 : pm_fetch 180 135 = some (.bipush 40, 2) := rfl
theorem f180_137 : pm_fetch 180 137 = some (.iload_n 3, 1) := rfl
theorem f180_138 : pm_fetch 180 138 = some (.imul, 1) := rfl
theorem f180_139 : pm_fetch 180 139 = some (.iload 4, 2) := rfl
theorem f180_141 : pm_fetch 180 141 = some (.iadd, 1) := rfl
theorem f180_142 : pm_fetch 180 142 = some (.istore 7, 2) := rfl
theorem f180_144 : pm_fetch 180 144 = some (.iconst 0, 1) := rfl
theorem f180_145 : pm_fetch 180 145 = some (.istore 8, 2) := rfl
theorem f180_147 : pm_fetch 180 147 = some (.iload 8, 2) := rfl
theorem f180_149 : pm_fetch 180 149 = some (.iload 5, 2) := rfl
theorem f180_151 : pm_fetch 180 151 = some (.if_icmp .ge 50, 3) := rfl
theorem f180_154 : pm_fetch 180 154 = some (.iload 6, 2) := rfl
theorem f180_156 : pm_fetch 180 156 = some (.iload 7, 2) := rfl
theorem f180_158 : pm_fetch 180 158 = some (.if_icmp .ge 13, 3) := rfl
theorem f180_161 : pm_fetch 180 161 = some (.iload 5, 2) := rfl
theorem f180_163 : pm_fetch 180 163 = some (.iconst 1, 1) := rfl
theorem f180_164 : pm_fetch 180 164 = some (.isub, 1) := rfl
theorem f180_165 : pm_fetch 180 165 = some (.iload 8, 2) := rfl
theorem f180_167 : pm_fetch 180 167 = some (.isub, 1) := rfl
theorem f180_168 : pm_fetch 180 168 = some (.goto 5, 3) := rfl
theorem f180_171 : pm_fetch 180 171 = some (.iload 8, 2) := rfl
theorem f180_173 : pm_fetch 180 173 = some (.istore 9, 2) := rfl
theorem f180_175 : pm_fetch 180 175 = some (.aload_n 0, 1) := rfl
theorem f180_176 : pm_fetch 180 176 = some (.getfield 47, 3) := rfl
theorem f180_179 : pm_fetch 180 179 = some (.iload 7, 2) := rfl
theorem f180_181 : pm_fetch 180 181 = some (.iload 9, 2) := rfl
theorem f180_183 : pm_fetch 180 183 = some (.iadd, 1) := rfl
theorem f180_184 : pm_fetch 180 184 = some (.aload_n 0, 1) := rfl
theorem f180_185 : pm_fetch 180 185 = some (.getfield 47, 3) := rfl
theorem f180_188 : pm_fetch 180 188 = some (.iload 6, 2) := rfl
theorem f180_190 : pm_fetch 180 190 = some (.iload 9, 2) := rfl
theorem f180_192 : pm_fetch 180 192 = some (.iadd, 1) := rfl
theorem f180_193 : pm_fetch 180 193 = some (.iaload, 1) := rfl
theorem f180_194 : pm_fetch 180 194 = some (.iastore, 1) := rfl
theorem f180_195 : pm_fetch 180 195 = some (.iinc 8 1, 3) := rfl
theorem f180_198 : pm_fetch 180 198 = some (.goto (-51), 3) := rfl
theorem f180_201 : pm_fetch 180 201 = some (.iload 5, 2) := rfl
theorem f180_203 : pm_fetch 180 203 = some (.ireturn, 1) := rfl
theorem f181_0 : pm_fetch 181 0 = some (.iload_n 1, 1) := rfl
theorem f181_1 : pm_fetch 181 1 = some (.iconst 0, 1) := rfl
theorem f181_2 : pm_fetch 181 2 = some (.iconst 3, 1) := rfl
theorem f181_3 : pm_fetch 181 3 = some (.invokestatic 79, 3) := rfl
theorem f181_6 : pm_fetch 181 6 = some (.ifCond .eq 23, 3) := rfl
theorem f181_9 : pm_fetch 181 9 = some (.iload_n 2, 1) := rfl
theorem f181_10 : pm_fetch 181 10 = some (.iconst 0, 1) := rfl
theorem f181_11 : pm_fetch 181 11 = some (.iconst 2, 1) := rfl
theorem f181_12 : pm_fetch 181 12 = some (.invokestatic 79, 3) := rfl
theorem f181_15 : pm_fetch 181 15 = some (.ifCond .eq 14, 3) := rfl
theorem f181_18 : pm_fetch 181 18 = some (.iload 4, 2) := rfl
theorem f181_20 : pm_fetch 181 20 = some (.iconst 0, 1) := rfl
theorem f181_21 : pm_fetch 181 21 = some (.bipush 6, 2) := rfl
theorem f181_23 : pm_fetch 181 23 = some (.invokestatic 79, 3) := rfl
theorem f181_26 : pm_fetch 181 26 = some (.ifCond .ne 6, 3) := rfl
theorem f181_29 : pm_fetch 181 29 = some (.bipush (-2), 2) := rfl
theorem f181_31 : pm_fetch 181 31 = some (.ireturn, 1) := rfl
theorem f181_32 : pm_fetch 181 32 = some (.aload_n 0, 1) := rfl
theorem f181_33 : pm_fetch 181 33 = some (.getfield 41, 3) := rfl
theorem f181_36 : pm_fetch 181 36 = some (.iload_n 1, 1) := rfl
theorem f181_37 : pm_fetch 181 37 = some (.iaload, 1) := rfl
theorem f181_38 : pm_fetch 181 38 = some (.iconst (-1), 1) := rfl
theorem f181_39 : pm_fetch 181 39 = some (.if_icmp .ne 6, 3) := rfl
theorem f181_42 : pm_fetch 181 42 = some (.bipush (-11), 2) := rfl
theorem f181_44 : pm_fetch 181 44 = some (.ireturn, 1) := rfl
theorem f181_45 : pm_fetch 181 45 = some (.aload_n 0, 1) := rfl
theorem f181_46 : pm_fetch 181 46 = some (.getfield 41, 3) := rfl
theorem f181_49 : pm_fetch 181 49 = some (.iload_n 1, 1) := rfl
theorem f181_50 : pm_fetch 181 50 = some (.iaload, 1) := rfl
theorem f181_51 : pm_fetch 181 51 = some (.iload_n 2, 1) := rfl
theorem f181_52 : pm_fetch 181 52 = some (.if_icmp .eq 6, 3) := rfl
theorem f181_55 : pm_fetch 181 55 = some (.bipush (-13), 2) := rfl
theorem f181_57 : pm_fetch 181 57 = some (.ireturn, 1) := rfl
theorem f181_58 : pm_fetch 181 58 = some (.iconst 0, 1) := rfl
theorem f181_59 : pm_fetch 181 59 = some (.istore 5, 2) := rfl
theorem f181_61 : pm_fetch 181 61 = some (.iconst 0, 1) := rfl
theorem f181_62 : pm_fetch 181 62 = some (.istore 6, 2) := rfl
theorem f181_64 : pm_fetch 181 64 = some (.iload 6, 2) := rfl
theorem f181_66 : pm_fetch 181 66 = some (.iload 4, 2) := rfl
theorem f181_68 : pm_fetch 181 68 = some (.if_icmp .ge 85, 3) := rfl
theorem f181_71 : pm_fetch 181 71 = some (.iload_n 3, 1) := rfl
theorem f181_72 : pm_fetch 181 72 = some (.iconst 2, 1) := rfl
theorem f181_73 : pm_fetch 181 73 = some (.iload 6, 2) := rfl
theorem f181_75 : pm_fetch 181 75 = some (.imul, 1) := rfl
theorem f181_76 : pm_fetch 181 76 = some (.iadd, 1) := rfl
theorem f181_77 : pm_fetch 181 77 = some (.istore 7, 2) := rfl
theorem f181_79 : pm_fetch 181 79 = some (.iload_n 3, 1) := rfl
theorem f181_80 : pm_fetch 181 80 = some (.ifCond .lt 22, 3) := rfl
theorem f181_83 : pm_fetch 181 83 = some (.iload 7, 2) := rfl
theorem f181_85 : pm_fetch 181 85 = some (.iload_n 3, 1) := rfl
theorem f181_86 : pm_fetch 181 86 = some (.if_icmp .lt 16, 3) := rfl
theorem f181_89 : pm_fetch 181 89 = some (.iload 7, 2) := rfl
theorem f181_91 : pm_fetch 181 91 = some (.aload_n 0, 1) := rfl
theorem f181_92 : pm_fetch 181 92 = some (.getfield 44, 3) := rfl
theorem f181_95 : pm_fetch 181 95 = some (.iload_n 1, 1) := rfl
theorem f181_96 : pm_fetch 181 96 = some (.iaload, 1) := rfl
theorem f181_97 : pm_fetch 181 97 = some (.iconst 2, 1) := rfl
theorem f181_98 : pm_fetch 181 98 = some (.isub, 1) := rfl
theorem f181_99 : pm_fetch 181 99 = some (.if_icmp .le 6, 3) := rfl
theorem f181_102 : pm_fetch 181 102 = some (.bipush (-12), 2) := rfl
theorem f181_104 : pm_fetch 181 104 = some (.ireturn, 1) := rfl
theorem f181_105 : pm_fetch 181 105 = some (.bipush 40, 2) := rfl
theorem f181_107 : pm_fetch 181 107 = some (.iload_n 1, 1) := rfl
theorem f181_108 : pm_fetch 181 108 = some (.imul, 1) := rfl
theorem f181_109 : pm_fetch 181 109 = some (.iload 7, 2) := rfl
theorem f181_111 : pm_fetch 181 111 = some (.iadd, 1) := rfl
theorem f181_112 : pm_fetch 181 112 = some (.istore 8, 2) := rfl
theorem f181_114 : pm_fetch 181 114 = some (.iload 5, 2) := rfl
theorem f181_116 : pm_fetch 181 116 = some (.aload_n 0, 1) := rfl
theorem f181_117 : pm_fetch 181 117 = some (.aload_n 0, 1) := rfl
theorem f181_118 : pm_fetch 181 118 = some (.getfield 47, 3) := rfl
theorem f181_121 : pm_fetch 181 121 = some (.iload 8, 2) := rfl
theorem f181_123 : pm_fetch 181 123 = some (.iaload, 1) := rfl
theorem f181_124 : pm_fetch 181 124 = some (.aload_n 0, 1) := rfl
theorem f181_125 : pm_fetch 181 125 = some (.getfield 47, 3) := rfl
theorem f181_128 : pm_fetch 181 128 = some (.iload 8, 2) := rfl
theorem f181_130 : pm_fetch 181 130 = some (.iconst 1, 1) := rfl
theorem f181_131 : pm_fetch 181 131 = some (.iadd, 1) := rfl
theorem f181_132 : pm_fetch 181 132 = some (.iaload, 1) := rfl
theorem f181_133 : pm_fetch 181 133 = some (.invokevirtual 269, 3) := rfl
theorem f181_136 : pm_fetch 181 136 = some (.ifCond .lt 7, 3) := rfl
theorem f181_139 : pm_fetch 181 139 = some (.iconst 1, 1) := rfl
theorem f181_140 : pm_fetch 181 140 = some (.goto 4, 3) := rfl
theorem f181_143 : pm_fetch 181 143 = some (.iconst 0, 1) := rfl
theorem f181_144 : pm_fetch 181 144 = some (.iadd, 1) := rfl
theorem f181_145 : pm_fetch 181 145 = some (.istore 5, 2) := rfl
theorem f181_147 : pm_fetch 181 147 = some (.iinc 6 1, 3) := rfl
theorem f181_150 : pm_fetch 181 150 = some (.goto (-86), 3) := rfl
theorem f181_153 : pm_fetch 181 153 = some (.iload 5, 2) := rfl
theorem f181_155 : pm_fetch 181 155 = some (.ireturn, 1) := rfl
theorem f182_0 : pm_fetch 182 0 = some (.iload_n 1, 1) := rfl
theorem f182_1 : pm_fetch 182 1 = some (.ifCond .eq 28, 3) := rfl
theorem f182_4 : pm_fetch 182 4 = some (.iload_n 0, 1) := rfl
theorem f182_5 : pm_fetch 182 5 = some (.iload_n 1, 1) := rfl
theorem f182_6 : pm_fetch 182 6 = some (.if_icmp .eq 23, 3) := rfl
theorem f182_9 : pm_fetch 182 9 = some (.iload_n 1, 1) := rfl
theorem f182_10 : pm_fetch 182 10 = some (.iconst 1, 1) := rfl
theorem f182_11 : pm_fetch 182 11 = some (.if_icmp .ne 8, 3) := rfl
theorem f182_14 : pm_fetch 182 14 = some (.iload_n 0, 1) := rfl
theorem f182_15 : pm_fetch 182 15 = some (.iconst 3, 1) := rfl
theorem f182_16 : pm_fetch 182 16 = some (.if_icmp .eq 13, 3) := rfl
theorem f182_19 : pm_fetch 182 19 = some (.iload_n 1, 1) := rfl
theorem f182_20 : pm_fetch 182 20 = some (.iconst 2, 1) := rfl
theorem f182_21 : pm_fetch 182 21 = some (.if_icmp .ne 12, 3) := rfl
theorem f182_24 : pm_fetch 182 24 = some (.iload_n 0, 1) := rfl
theorem f182_25 : pm_fetch 182 25 = some (.iconst 4, 1) := rfl
theorem f182_26 : pm_fetch 182 26 = some (.if_icmp .ne 7, 3) := rfl
theorem f182_29 : pm_fetch 182 29 = some (.iconst 1, 1) := rfl
theorem f182_30 : pm_fetch 182 30 = some (.goto 4, 3) := rfl
theorem f182_33 : pm_fetch 182 33 = some (.iconst 0, 1) := rfl
theorem f182_34 : pm_fetch 182 34 = some (.ireturn, 1) := rfl
theorem f183_0 : pm_fetch 183 0 = some (.iload_n 2, 1) := rfl
theorem f183_1 : pm_fetch 183 1 = some (.iconst 0, 1) := rfl
theorem f183_2 : pm_fetch 183 2 = some (.bipush 6, 2) := rfl
theorem f183_4 : pm_fetch 183 4 = some (.invokestatic 79, 3) := rfl
theorem f183_7 : pm_fetch 183 7 = some (.ifCond .ne 6, 3) := rfl
theorem f183_10 : pm_fetch 183 10 = some (.bipush (-2), 2) := rfl
theorem f183_12 : pm_fetch 183 12 = some (.ireturn, 1) := rfl
theorem f183_13 : pm_fetch 183 13 = some (.iload_n 1, 1) := rfl
theorem f183_14 : pm_fetch 183 14 = some (.iconst 0, 1) := rfl
theorem f183_15 : pm_fetch 183 15 = some (.bipush 11, 2) := rfl
theorem f183_17 : pm_fetch 183 17 = some (.invokestatic 79, 3) := rfl
theorem f183_20 : pm_fetch 183 20 = some (.ifCond .ne 6, 3) := rfl
theorem f183_23 : pm_fetch 183 23 = some (.bipush (-12), 2) := rfl
theorem f183_25 : pm_fetch 183 25 = some (.ireturn, 1) := rfl
theorem f183_26 : pm_fetch 183 26 = some (.iload_n 1, 1) := rfl
theorem f183_27 : pm_fetch 183 27 = some (.bipush 6, 2) := rfl
theorem f183_29 : pm_fetch 183 29 = some (.irem, 1) := rfl
theorem f183_30 : pm_fetch 183 30 = some (.aload_n 0, 1) := rfl
theorem f183_31 : pm_fetch 183 31 = some (.getfield 83, 3) := rfl
theorem f183_34 : pm_fetch 183 34 = some (.if_icmp .lt 6, 3) := rfl
theorem f183_37 : pm_fetch 183 37 = some (.bipush (-11), 2) := rfl
theorem f183_39 : pm_fetch 183 39 = some (.ireturn, 1) := rfl
theorem f183_40 : pm_fetch 183 40 = some (.iload_n 1, 1) := rfl
theorem f183_41 : pm_fetch 183 41 = some (.bipush 6, 2) := rfl
theorem f183_43 : pm_fetch 183 43 = some (.if_icmp .lt 28, 3) := rfl
theorem f183_46 : pm_fetch 183 46 = some (.iload_n 2, 1) := rfl
theorem f183_47 : pm_fetch 183 47 = some (.bipush 6, 2) := rfl
theorem f183_49 : pm_fetch 183 49 = some (.if_icmp .ne 19, 3) := rfl
theorem f183_52 : pm_fetch 183 52 = some (.aload_n 0, 1) := rfl
theorem f183_53 : pm_fetch 183 53 = some (.getfield 16, 3) := rfl
theorem f183_56 : pm_fetch 183 56 = some (.iconst 3, 1) := rfl
theorem f183_57 : pm_fetch 183 57 = some (.iload_n 1, 1) := rfl
theorem f183_58 : pm_fetch 183 58 = some (.bipush 6, 2) := rfl
theorem f183_60 : pm_fetch 183 60 = some (.isub, 1) := rfl
theorem f183_61 : pm_fetch 183 61 = some (.imul, 1) := rfl
theorem f183_62 : pm_fetch 183 62 = some (.iconst 2, 1) := rfl
theorem f183_63 : pm_fetch 183 63 = some (.iadd, 1) := rfl
theorem f183_64 : pm_fetch 183 64 = some (.iaload, 1) := rfl
theorem f183_65 : pm_fetch 183 65 = some (.goto 5, 3) := rfl
theorem f183_68 : pm_fetch 183 68 = some (.bipush (-13), 2) := rfl
theorem f183_70 : pm_fetch 183 70 = some (.ireturn, 1) := rfl
theorem f183_71 : pm_fetch 183 71 = some (.iload_n 2, 1) := rfl
theorem f183_72 : pm_fetch 183 72 = some (.bipush 6, 2) := rfl
theorem f183_74 : pm_fetch 183 74 = some (.if_icmp .ge 20, 3) := rfl
theorem f183_77 : pm_fetch 183 77 = some (.aload_n 0, 1) := rfl
theorem f183_78 : pm_fetch 183 78 = some (.getfield 7, 3) := rfl
theorem f183_81 : pm_fetch 183 81 = some (.iload_n 1, 1) := rfl
theorem f183_82 : pm_fetch 183 82 = some (.iaload, 1) := rfl
theorem f183_83 : pm_fetch 183 83 = some (.iload_n 2, 1) := rfl
theorem f183_84 : pm_fetch 183 84 = some (.invokestatic 272, 3) := rfl
theorem f183_87 : pm_fetch 183 87 = some (.ifCond .eq 7, 3) := rfl
theorem f183_90 : pm_fetch 183 90 = some (.iload_n 1, 1) := rfl
theorem f183_91 : pm_fetch 183 91 = some (.goto 5, 3) := rfl
theorem f183_94 : pm_fetch 183 94 = some (.bipush (-13), 2) := rfl
theorem f183_96 : pm_fetch 183 96 = some (.ireturn, 1) := rfl
/-- DunesWalkedModel.in(III)Z -/
def M_in (h : pm_H) (a0 : Int32) (a1 : Int32) (a2 : Int32) : Option (pm_H × Int32) := if a0 < a1 then (some (h, 0)) else (if a2 < a0 then (some (h, 0)) else (some (h, 1)))
/-- DunesWalkedModel.within(III)I -/
def M_within (h : pm_H) (a0 : Int32) (a1 : Int32) (a2 : Int32) : Option (pm_H × Int32) := if a1 ≤ a0 then (if a0 ≤ a2 then (some (h, a0)) else (some (h, a2))) else (some (h, a1))
/-- DunesWalkedModel.isYard(I)Z -/
def M_isYard (h : pm_H) (a0 : Int32) : Option (pm_H × Int32) := bn2 (M_in h a0 0 39) fun h1q x2q => grd (decide (x2q = 0 ∨ x2q = 1)) <| some (h1q, x2q)
/-- DunesWalkedModel.isDune(I)Z -/
def M_isDune (h : pm_H) (t : Nat) (a1 : Int32) : Option (pm_H × Int32) := bnd (op_I h t 6 0) fun x1q => bn2 (M_in h a1 0 (x1q - 1)) fun h2q x3q => if x3q = 0 then (some (h2q, 0)) else (bnd (op_A h2q t 6 4) fun x5q => bnd x5q fun u6q => bnd (op_aI h2q u6q a1) fun x7q => if x7q = 0 then (some (h2q, 1)) else (some (h2q, 0)))
/-- DunesWalkedModel.bitsOf(J)I -/
def M_bitsOf_26 (k_4 : pm_H → Int64 → Int32 → Int32 → Option (pm_H × Int32)) (h : pm_H) (l0 : Int64) (l3 : Int32) (s0 : Int32) (s1 : Int32) : Option (pm_H × Int32) := nmd (s1 + s0) fun y1q => nmd (l3 + 1) fun y2q => k_4 h l0 y1q y2q
def M_bitsOf_4 : Nat → pm_H → Int64 → Int32 → Int32 → Option (pm_H × Int32)
  | 0, _, _, _, _ => none
  | n + 1, h, l0, l2, l3 => if 40 ≤ l3 then (some (h, l2)) else (if (lg_cmp ((l0 >>> ((l3 : Int32).toInt64 &&& 63)) &&& 1) 1) = 0 then (M_bitsOf_26 (M_bitsOf_4 n) h l0 l3 1 l2) else (M_bitsOf_26 (M_bitsOf_4 n) h l0 l3 0 l2))
def M_bitsOf (h : pm_H) (a0 : Int64) : Option (pm_H × Int32) := M_bitsOf_4 1000 h a0 0 0
/-- DunesWalkedModel.lies(I)J -/
def M_lies_31 : Nat → pm_H → Nat → Int32 → Int64 → Int32 → Option (pm_H × Int64)
  | 0, _, _, _, _, _ => none
  | n + 1, h, l0, l1, l2, l4 => bnd (op_A h l0 6 3) fun x1q => bnd x1q fun u2q => bnd (op_aI h u2q (3 * l1)) fun x3q => if x3q < l4 then (some (h, l2)) else (nmd (l2 ||| (1 <<< ((l4 : Int32).toInt64 &&& 63))) fun y5q => nmd (l4 + 1) fun y6q => M_lies_31 n h l0 l1 y5q y6q)
def M_lies (h : pm_H) (t : Nat) (a1 : Int32) : Option (pm_H × Int64) := bnd (op_A h t 6 3) fun x1q => bnd x1q fun u2q => bnd (op_aI h u2q (3 * a1)) fun x3q => bnd (op_A h t 6 3) fun x4q => bnd x4q fun u5q => bnd (op_aI h u5q ((3 * a1) + 1)) fun x6q => bn2 (M_within h ((x3q - x6q) + 1) 0 39) fun h7q x8q => M_lies_31 1000 h7q t a1 0 x8q
/-- DunesWalkedModel.sand()J -/
def M_sand_31 (k_4 : pm_H → Nat → Int64 → Int32 → Option (pm_H × Int64)) (h : pm_H) (l0 : Nat) (l3 : Int32) (s0 : Int64) (s1 : Int64) : Option (pm_H × Int64) := nmd (s1 ||| s0) fun y1q => nmd (l3 + 1) fun y2q => k_4 h l0 y1q y2q
def M_sand_4 : Nat → pm_H → Nat → Int64 → Int32 → Option (pm_H × Int64)
  | 0, _, _, _, _ => none
  | n + 1, h, l0, l1, l3 => bnd (op_I h l0 6 0) fun x1q => if x1q ≤ l3 then (some (h, l1)) else (bnd (op_A h l0 6 4) fun x3q => bnd x3q fun u4q => bnd (op_aI h u4q l3) fun x5q => if x5q = 0 then (grd (op_is h l0 6) <| bn2 (M_lies h l0 l3) fun h7q x8q => M_sand_31 (M_sand_4 n) h7q l0 l3 x8q l1) else (M_sand_31 (M_sand_4 n) h l0 l3 0 l1))
def M_sand (h : pm_H) (t : Nat) : Option (pm_H × Int64) := M_sand_4 1000 h t 0 0
/-- DunesWalkedModel.isOnClover(I)Z -/
def M_isOnClover (h : pm_H) (t : Nat) (a1 : Int32) : Option (pm_H × Int32) := grd (op_is h t 6) <| bn2 (M_lies h t a1) fun h1q x2q => bnd (op_J h1q t 6 6) fun x4q => if (lg_cmp (x2q &&& x4q) 0) = 0 then (some (h1q, 0)) else (some (h1q, 1))
/-- DunesWalkedModel.there()I -/
def M_there_4 : Nat → pm_H → Nat → Int32 → Int32 → Option (pm_H × Int32)
  | 0, _, _, _, _ => none
  | n + 1, h, l0, l1, l2 => bnd (op_I h l0 6 0) fun x1q => if x1q ≤ l2 then (some (h, l1)) else (bnd (op_A h l0 6 4) fun x3q => bnd x3q fun u4q => bnd (op_aI h u4q l2) fun x5q => nmd (l1 ||| ((1 - x5q) <<< (l2 &&& 31))) fun y6q => nmd (l2 + 1) fun y7q => M_there_4 n h l0 y6q y7q)
def M_there (h : pm_H) (t : Nat) : Option (pm_H × Int32) := M_there_4 1000 h t 0 0
/-- DunesWalkedModel.count(I)I -/
def M_count (h : pm_H) (t : Nat) (a1 : Int32) : Option (pm_H × Int32) := if a1 = 0 then (bnd (op_I h t 6 0) fun x2q => some (h, x2q)) else (if a1 = 1 then (grd (op_is h t 6) <| bn2 (M_there h t) fun h4q x5q => bn2 (M_bitsOf h4q (Int32.toInt64 x5q)) fun h7q x8q => some (h7q, x8q)) else (if a1 = 2 then (bnd (op_I h t 6 7) fun x10q => some (h, x10q)) else (if a1 = 3 then (bnd (op_J h t 6 5) fun x12q => bn2 (M_bitsOf h x12q) fun h13q x14q => some (h13q, x14q)) else (if a1 = 4 then (bnd (op_J h t 6 6) fun x16q => bn2 (M_bitsOf h x16q) fun h17q x18q => some (h17q, x18q)) else (if a1 = 5 then (bnd (op_I h t 6 12) fun x20q => some (h, x20q)) else (if a1 = 6 then (bnd (op_I h t 6 13) fun x22q => some (h, x22q)) else (if a1 = 7 then (bnd (op_I h t 6 9) fun x24q => some (h, x24q)) else (some (h, (-2))))))))))
/-- DunesWalkedModel.yard(III)I -/
def M_yard_93 (h : pm_H) (l1 : Int32) (l4 : Int64) : Option (pm_H × Int32) := if (lg_cmp ((l4 >>> ((l1 : Int32).toInt64 &&& 63)) &&& 1) 1) = 0 then (some (h, 1)) else (some (h, 0))
def M_yard_72 (h : pm_H) (l0 : Nat) (l1 : Int32) (l2 : Int32) (l4 : Int64) (s0 : Int64) : Option (pm_H × Int32) := if l2 = 0 then (bnd (op_S h l0 6 5 (.long s0)) fun h3q => M_yard_93 h3q l1 l4) else (bnd (op_S h l0 6 6 (.long s0)) fun h2q => M_yard_93 h2q l1 l4)
def M_yard_46 (h : pm_H) (l0 : Nat) (l1 : Int32) (l2 : Int32) (l3 : Int32) (s0 : Int64) : Option (pm_H × Int32) := if l3 = 1 then (M_yard_72 h l0 l1 l2 s0 (s0 ||| (1 <<< ((l1 : Int32).toInt64 &&& 63)))) else (M_yard_72 h l0 l1 l2 s0 (s0 &&& ((1 <<< ((l1 : Int32).toInt64 &&& 63)) ^^^ (-1))))
def M_yard (h : pm_H) (t : Nat) (a1 : Int32) (a2 : Int32) (a3 : Int32) : Option (pm_H × Int32) := bn2 (M_isYard h a1) fun h1q x2q => if x2q = 0 then (some (h1q, (-5))) else (bn2 (M_in h1q a2 0 1) fun h4q x5q => if x5q = 0 then (some (h4q, (-7))) else (bn2 (M_in h4q a3 0 1) fun h7q x8q => if x8q = 0 then (some (h7q, (-7))) else (if a2 = 0 then (bnd (op_J h7q t 6 5) fun x12q => M_yard_46 h7q t a1 a2 a3 x12q) else (bnd (op_J h7q t 6 6) fun x11q => M_yard_46 h7q t a1 a2 a3 x11q))))
/-- DunesWalkedModel.parish(I)J -/
def M_parish (h : pm_H) (t : Nat) (a1 : Int32) : Option (pm_H × Int64) := if a1 = 0 then (bnd (op_J h t 6 5) fun x2q => some (h, x2q)) else (if a1 = 1 then (bnd (op_J h t 6 6) fun x4q => some (h, x4q)) else (if a1 = 2 then (grd (op_is h t 6) <| bn2 (M_sand h t) fun h6q x7q => some (h6q, x7q)) else (if a1 = 3 then (grd (op_is h t 6) <| bn2 (M_sand h t) fun h10q x11q => bnd (op_J h10q t 6 5) fun x13q => some (h10q, (x11q &&& x13q))) else (some (h, (-4611686018427387904))))))
/-- DunesWalkedModel.isByte(I)Z -/
def M_isByte (h : pm_H) (a0 : Int32) : Option (pm_H × Int32) := bn2 (M_in h a0 0 255) fun h1q x2q => grd (decide (x2q = 0 ∨ x2q = 1)) <| some (h1q, x2q)
/-- DunesWalkedModel.feed(IIIIII)I -/
def M_feed_125 (k_68 : pm_H → Nat → Int32 → Int32 → Int32 → Int32 → Int32 → Int32 → Int32 → Option (pm_H × Int32)) (h : pm_H) (l0 : Nat) (l1 : Int32) (l2 : Int32) (l3 : Int32) (l4 : Int32) (l5 : Int32) (l6 : Int32) (l7 : Int32) (s0 : Int32) (s1 : Int32) (s2 : Option Nat) : Option (pm_H × Int32) := bnd s2 fun u1q => bnd (op_sI h u1q s1 s0) fun h2q => bnd (op_I h2q l0 6 9) fun x3q => bnd (op_S h2q l0 6 9 (.int (x3q + 1))) fun h4q => nmd (l7 + 1) fun y5q => k_68 h4q l0 l1 l2 l3 l4 l5 l6 y5q
def M_feed_68 : Nat → pm_H → Nat → Int32 → Int32 → Int32 → Int32 → Int32 → Int32 → Int32 → Option (pm_H × Int32)
  | 0, _, _, _, _, _, _, _, _, _ => none
  | n + 1, h, l0, l1, l2, l3, l4, l5, l6, l7 => if l1 ≤ l7 then (bnd (op_I h l0 6 9) fun x2q => some (h, x2q)) else (bnd (op_A h l0 6 8) fun x3q => bnd (op_I h l0 6 9) fun x4q => if l7 = 0 then (M_feed_125 (M_feed_68 n) h l0 l1 l2 l3 l4 l5 l6 l7 l2 x4q x3q) else (if l7 = 1 then (M_feed_125 (M_feed_68 n) h l0 l1 l2 l3 l4 l5 l6 l7 l3 x4q x3q) else (if l7 = 2 then (M_feed_125 (M_feed_68 n) h l0 l1 l2 l3 l4 l5 l6 l7 l4 x4q x3q) else (if l7 = 3 then (M_feed_125 (M_feed_68 n) h l0 l1 l2 l3 l4 l5 l6 l7 l5 x4q x3q) else (M_feed_125 (M_feed_68 n) h l0 l1 l2 l3 l4 l5 l6 l7 l6 x4q x3q)))))
def M_feed (h : pm_H) (t : Nat) (a1 : Int32) (a2 : Int32) (a3 : Int32) (a4 : Int32) (a5 : Int32) (a6 : Int32) : Option (pm_H × Int32) := bn2 (M_in h a1 1 5) fun h1q x2q => if x2q = 0 then (some (h1q, (-2))) else (bn2 (M_isByte h1q a2) fun h4q x5q => if x5q = 0 then (some (h4q, (-2))) else (bn2 (M_isByte h4q a3) fun h7q x8q => if x8q = 0 then (some (h7q, (-2))) else (bn2 (M_isByte h7q a4) fun h10q x11q => if x11q = 0 then (some (h10q, (-2))) else (bn2 (M_isByte h10q a5) fun h13q x14q => if x14q = 0 then (some (h13q, (-2))) else (bn2 (M_isByte h13q a6) fun h16q x17q => if x17q = 0 then (some (h16q, (-2))) else (bnd (op_I h16q t 6 9) fun x19q => if (x19q + a1) ≤ 160 then (M_feed_68 1000 h16q t a1 a2 a3 a4 a5 a6 0) else (some (h16q, (-4)))))))))
/-- DunesWalkedModel.wordFrom(II)I -/
def M_wordFrom_80 (k_2 : pm_H → Nat → Int32 → Int32 → Int32 → Option (pm_H × Int32)) (k_26 : pm_H → Nat → Int32 → Int32 → Int32 → Int32 → Int32 → Option (pm_H × Int32)) (h : pm_H) (l0 : Nat) (l1 : Int32) (l2 : Int32) (l3 : Int32) (l5 : Int32) (s0 : Int32) : Option (pm_H × Int32) := nmd (l5 + 1) fun y1q => k_26 h l0 l1 l2 l3 s0 y1q
def M_wordFrom_72 (k_2 : pm_H → Nat → Int32 → Int32 → Int32 → Option (pm_H × Int32)) (k_26 : pm_H → Nat → Int32 → Int32 → Int32 → Int32 → Int32 → Option (pm_H × Int32)) (h : pm_H) (l0 : Nat) (l1 : Int32) (l2 : Int32) (l3 : Int32) (l5 : Int32) (s0 : Int32) (s1 : Int32) : Option (pm_H × Int32) := if s1 = s0 then (M_wordFrom_80 k_2 k_26 h l0 l1 l2 l3 l5 1) else (M_wordFrom_80 k_2 k_26 h l0 l1 l2 l3 l5 0)
def M_wordFrom_88 (k_2 : pm_H → Nat → Int32 → Int32 → Int32 → Option (pm_H × Int32)) (h : pm_H) (l0 : Nat) (l1 : Int32) (l2 : Int32) (l3 : Int32) (l4 : Int32) : Option (pm_H × Int32) := if l4 = 0 then (nmd (l3 + 1) fun y2q => k_2 h l0 l1 l2 y2q) else (some (h, l3))
def M_wordFrom_26 (k_2 : pm_H → Nat → Int32 → Int32 → Int32 → Option (pm_H × Int32)) : Nat → pm_H → Nat → Int32 → Int32 → Int32 → Int32 → Int32 → Option (pm_H × Int32)
  | 0, _, _, _, _, _, _, _ => none
  | n + 1, h, l0, l1, l2, l3, l4, l5 => if 8 ≤ l5 then (M_wordFrom_88 k_2 h l0 l1 l2 l3 l4) else (if l4 = 0 then (M_wordFrom_88 k_2 h l0 l1 l2 l3 l4) else (bnd (op_A h l0 6 26) fun x3q => bnd x3q fun u4q => bnd (op_aI h u4q ((8 * l3) + l5)) fun x5q => if l2 ≤ (l1 + l5) then (M_wordFrom_72 k_2 (M_wordFrom_26 k_2 n) h l0 l1 l2 l3 l5 32 x5q) else (bnd (op_A h l0 6 8) fun x7q => bnd x7q fun u8q => bnd (op_aI h u8q (l1 + l5)) fun x9q => M_wordFrom_72 k_2 (M_wordFrom_26 k_2 n) h l0 l1 l2 l3 l5 x9q x5q)))
def M_wordFrom_21 (k_2 : pm_H → Nat → Int32 → Int32 → Int32 → Option (pm_H × Int32)) (h : pm_H) (l0 : Nat) (l1 : Int32) (l2 : Int32) (l3 : Int32) (s0 : Int32) : Option (pm_H × Int32) := M_wordFrom_26 k_2 1000 h l0 l1 l2 l3 s0 0
def M_wordFrom_2 : Nat → pm_H → Nat → Int32 → Int32 → Int32 → Option (pm_H × Int32)
  | 0, _, _, _, _, _ => none
  | n + 1, h, l0, l1, l2, l3 => if 12 ≤ l3 then (some (h, 12)) else (if 8 < (l2 - l1) then (M_wordFrom_21 (M_wordFrom_2 n) h l0 l1 l2 l3 0) else (M_wordFrom_21 (M_wordFrom_2 n) h l0 l1 l2 l3 1))
def M_wordFrom (h : pm_H) (t : Nat) (a1 : Int32) (a2 : Int32) : Option (pm_H × Int32) := M_wordFrom_2 1000 h t a1 a2 0
/-- DunesWalkedModel.next()V -/
def M_next_39 (k_0 : pm_H → Nat → Option (pm_H × Unit)) (h : pm_H) (l0 : Nat) : Option (pm_H × Unit) := bnd (op_I h l0 6 22) fun x1q => bnd (op_S h l0 6 22 (.int (x1q + 1))) fun h2q => k_0 h2q l0
def M_next_211 (h : pm_H) (s0 : Int32) (s1 : Nat) : Option (pm_H × Unit) := bnd (op_S h s1 6 25 (.int s0)) fun h1q => some (h1q, ())
def M_next_195 (h : pm_H) (l0 : Nat) (l2 : Int32) (s0 : Int32) (s1 : Nat) : Option (pm_H × Unit) := bnd (op_S h s1 6 24 (.int s0)) fun h1q => if 3 ≤ l2 then (M_next_211 h1q (l2 - 3) l0) else (M_next_211 h1q l2 l0)
def M_next_146 (h : pm_H) (l0 : Nat) : Option (pm_H × Unit) := bnd (op_I h l0 6 23) fun x1q => bnd (op_I h l0 6 22) fun x2q => grd (op_is h l0 6) <| bn2 (M_wordFrom h l0 x1q x2q) fun h3q x4q => if 3 ≤ x4q then (if 9 ≤ x4q then (if x4q = 12 then (M_next_195 h3q l0 x4q (-1) l0) else (M_next_195 h3q l0 x4q ((4 + x4q) - 9) l0)) else (M_next_195 h3q l0 x4q 2 l0)) else (M_next_195 h3q l0 x4q 3 l0)
def M_next_103 : Nat → pm_H → Nat → Option (pm_H × Unit)
  | 0, _, _ => none
  | n + 1, h, l0 => bnd (op_I h l0 6 22) fun x1q => bnd (op_I h l0 6 9) fun x2q => if x2q ≤ x1q then (M_next_146 h l0) else (bnd (op_A h l0 6 8) fun x4q => bnd (op_I h l0 6 22) fun x5q => bnd x4q fun u6q => bnd (op_aI h u6q x5q) fun x7q => bn2 (M_in h x7q 97 122) fun h8q x9q => if x9q = 0 then (M_next_146 h8q l0) else (bnd (op_I h8q l0 6 22) fun x11q => bnd (op_S h8q l0 6 22 (.int (x11q + 1))) fun h12q => M_next_103 n h12q l0))
def M_next_290 (k_230 : pm_H → Nat → Int32 → Option (pm_H × Unit)) (h : pm_H) (l0 : Nat) (l2 : Int32) (s0 : Int32) (s1 : Nat) : Option (pm_H × Unit) := bnd (op_S h s1 6 25 (.int s0)) fun h1q => nmd (l2 + 1) fun y2q => bnd (op_I h1q l0 6 22) fun x3q => bnd (op_S h1q l0 6 22 (.int (x3q + 1))) fun h4q => k_230 h4q l0 y2q
def M_next_320 (h : pm_H) (s0 : Int32) (s1 : Nat) : Option (pm_H × Unit) := bnd (op_S h s1 6 24 (.int s0)) fun h1q => some (h1q, ())
def M_next_309 (h : pm_H) (l0 : Nat) (l2 : Int32) : Option (pm_H × Unit) := if l2 ≤ 4 then (M_next_320 h 1 l0) else (M_next_320 h (-1) l0)
def M_next_230 : Nat → pm_H → Nat → Int32 → Option (pm_H × Unit)
  | 0, _, _, _ => none
  | n + 1, h, l0, l2 => bnd (op_I h l0 6 22) fun x1q => bnd (op_I h l0 6 9) fun x2q => if x2q ≤ x1q then (M_next_309 h l0 l2) else (bnd (op_A h l0 6 8) fun x4q => bnd (op_I h l0 6 22) fun x5q => bnd x4q fun u6q => bnd (op_aI h u6q x5q) fun x7q => bn2 (M_in h x7q 48 57) fun h8q x9q => if x9q = 0 then (M_next_309 h8q l0 l2) else (if 4 ≤ l2 then (M_next_290 (M_next_230 n) h8q l0 l2 0 l0) else (bnd (op_I h8q l0 6 25) fun x12q => bnd (op_A h8q l0 6 8) fun x13q => bnd (op_I h8q l0 6 22) fun x14q => bnd x13q fun u15q => bnd (op_aI h8q u15q x14q) fun x16q => M_next_290 (M_next_230 n) h8q l0 l2 (((10 * x12q) + x16q) - 48) l0)))
def M_next_390 (h : pm_H) (l0 : Nat) (s0 : Int32) (s1 : Nat) : Option (pm_H × Unit) := bnd (op_S h s1 6 24 (.int s0)) fun h1q => bnd (op_I h1q l0 6 22) fun x2q => bnd (op_S h1q l0 6 22 (.int (x2q + 1))) fun h3q => some (h3q, ())
def M_next_379 (h : pm_H) (l0 : Nat) (l1 : Int32) (s0 : Int32) : Option (pm_H × Unit) := if s0 = 0 then (M_next_390 h l0 (-1) l0) else (M_next_390 h l0 l1 l0)
def M_next_374 (h : pm_H) (l0 : Nat) (l1 : Int32) : Option (pm_H × Unit) := M_next_379 h l0 l1 1
def M_next_52 (h : pm_H) (l0 : Nat) : Option (pm_H × Unit) := bnd (op_I h l0 6 22) fun x1q => bnd (op_S h l0 6 23 (.int x1q)) fun h2q => bnd (op_S h2q l0 6 24 (.int 0)) fun h3q => bnd (op_S h3q l0 6 25 (.int 0)) fun h4q => bnd (op_I h4q l0 6 22) fun x5q => bnd (op_I h4q l0 6 9) fun x6q => if x5q = x6q then (some (h4q, ())) else (bnd (op_A h4q l0 6 8) fun x8q => bnd (op_I h4q l0 6 22) fun x9q => bnd x8q fun u10q => bnd (op_aI h4q u10q x9q) fun x11q => bn2 (M_in h4q x11q 97 122) fun h12q x13q => if x13q = 0 then (bn2 (M_in h12q x11q 48 57) fun h15q x16q => if x16q = 0 then (if x11q = 40 then (M_next_374 h15q l0 x11q) else (if x11q = 41 then (M_next_374 h15q l0 x11q) else (if x11q = 59 then (M_next_374 h15q l0 x11q) else (if x11q = 43 then (M_next_374 h15q l0 x11q) else (if x11q = 45 then (M_next_374 h15q l0 x11q) else (if x11q = 42 then (M_next_374 h15q l0 x11q) else (if x11q = 60 then (M_next_374 h15q l0 x11q) else (if x11q = 61 then (M_next_374 h15q l0 x11q) else (M_next_379 h15q l0 x11q 0))))))))) else (M_next_230 1000 h15q l0 0)) else (M_next_103 1000 h12q l0))
def M_next_0 : Nat → pm_H → Nat → Option (pm_H × Unit)
  | 0, _, _ => none
  | n + 1, h, l0 => bnd (op_I h l0 6 22) fun x1q => bnd (op_I h l0 6 9) fun x2q => if x2q ≤ x1q then (M_next_52 h l0) else (bnd (op_A h l0 6 8) fun x4q => bnd (op_I h l0 6 22) fun x5q => bnd x4q fun u6q => bnd (op_aI h u6q x5q) fun x7q => if x7q = 32 then (M_next_39 (M_next_0 n) h l0) else (bnd (op_A h l0 6 8) fun x9q => bnd (op_I h l0 6 22) fun x10q => bnd x9q fun u11q => bnd (op_aI h u11q x10q) fun x12q => if x12q = 10 then (M_next_39 (M_next_0 n) h l0) else (M_next_52 h l0)))
def M_next (h : pm_H) (t : Nat) : Option (pm_H × Unit) := M_next_0 1000 h t
/-- DunesWalkedModel.rank(I)I -/
def M_rank (h : pm_H) (a0 : Int32) : Option (pm_H × Int32) := if a0 = 0 then (some (h, 0)) else (if a0 = 11 then (some (h, 1)) else (if a0 = 12 then (some (h, 2)) else (if a0 = 13 then (some (h, 3)) else (if 15 < a0 then (if 17 < a0 then (if a0 = 18 then (some (h, 6)) else (some (h, 7))) else (some (h, 5))) else (some (h, 4))))))
/-- DunesWalkedModel.puts(I)V -/
def M_puts (h : pm_H) (t : Nat) (a1 : Int32) : Option (pm_H × Unit) := bnd (op_A h t 6 10) fun x1q => bnd (op_I h t 6 12) fun x2q => bnd (op_I h t 6 30) fun x3q => bnd x1q fun u4q => bnd (op_sI h u4q ((200 * x2q) + x3q) a1) fun h5q => bnd (op_I h5q t 6 30) fun x6q => bnd (op_S h5q t 6 30 (.int (x6q + 1))) fun h7q => some (h7q, ())
/-- DunesWalkedModel.unwinds(I)V -/
def M_unwinds_67 (k_0 : pm_H → Nat → Int32 → Option (pm_H × Unit)) (h : pm_H) (l0 : Nat) (l1 : Int32) (l2 : Int32) (s0 : Int32) (s1 : Int32) (s2 : Nat) : Option (pm_H × Unit) := bnd (op_S h s2 6 29 (.int (s1 - s0))) fun h1q => grd (op_is h1q l0 6) <| bn2 (M_puts h1q l0 l2) fun h2q _ => k_0 h2q l0 l1
def M_unwinds_62 (k_0 : pm_H → Nat → Int32 → Option (pm_H × Unit)) (h : pm_H) (l0 : Nat) (l1 : Int32) (l2 : Int32) (s0 : Int32) (s1 : Nat) : Option (pm_H × Unit) := M_unwinds_67 k_0 h l0 l1 l2 1 s0 s1
def M_unwinds_0 : Nat → pm_H → Nat → Int32 → Option (pm_H × Unit)
  | 0, _, _, _ => none
  | n + 1, h, l0, l1 => bnd (op_I h l0 6 28) fun x1q => if x1q ≤ 0 then (some (h, ())) else (bnd (op_A h l0 6 27) fun x3q => bnd (op_I h l0 6 28) fun x4q => bnd x3q fun u5q => bnd (op_aI h u5q (x4q - 1)) fun x6q => bn2 (M_rank h x6q) fun h7q x8q => if x8q < l1 then (some (h7q, ())) else (bnd (op_I h7q l0 6 28) fun x10q => bnd (op_S h7q l0 6 28 (.int (x10q - 1))) fun h11q => bnd (op_A h11q l0 6 27) fun x12q => bnd (op_I h11q l0 6 28) fun x13q => bnd x12q fun u14q => bnd (op_aI h11q u14q x13q) fun x15q => bnd (op_I h11q l0 6 29) fun x16q => if x15q = 13 then (M_unwinds_62 (M_unwinds_0 n) h11q l0 l1 x15q x16q l0) else (if x15q = 19 then (M_unwinds_62 (M_unwinds_0 n) h11q l0 l1 x15q x16q l0) else (M_unwinds_67 (M_unwinds_0 n) h11q l0 l1 x15q 0 x16q l0))))
def M_unwinds (h : pm_H) (t : Nat) (a1 : Int32) : Option (pm_H × Unit) := M_unwinds_0 1000 h t a1
/-- DunesWalkedModel.holds(I)V -/
def M_holds (h : pm_H) (t : Nat) (a1 : Int32) : Option (pm_H × Unit) := bnd (op_A h t 6 27) fun x1q => bnd (op_I h t 6 28) fun x2q => bnd x1q fun u3q => bnd (op_sI h u3q x2q a1) fun h4q => bnd (op_I h4q t 6 28) fun x5q => bnd (op_S h4q t 6 28 (.int (x5q + 1))) fun h6q => some (h6q, ())
/-- DunesWalkedModel.opensOne(I)Z -/
def M_opensOne (h : pm_H) (t : Nat) (a1 : Int32) : Option (pm_H × Int32) := bnd (op_I h t 6 29) fun x1q => if x1q = 5 then (some (h, 0)) else (bnd (op_I h t 6 29) fun x3q => bnd (op_S h t 6 29 (.int (x3q + 1))) fun h4q => grd (op_is h4q t 6) <| bn2 (M_holds h4q t a1) fun h5q _ => some (h5q, 1))
/-- DunesWalkedModel.between(I)Z -/
def M_between_55 (h : pm_H) (l0 : Nat) (l1 : Int32) : Option (pm_H × Int32) := grd (op_is h l0 6) <| bn2 (M_holds h l0 l1) fun h1q _ => some (h1q, 1)
def M_between_17 (h : pm_H) (l0 : Nat) (l1 : Int32) (s0 : Int32) (s1 : Nat) : Option (pm_H × Int32) := grd (op_is h s1 6) <| bn2 (M_unwinds h s1 s0) fun h1q _ => bn2 (M_rank h1q l1) fun h4q x5q => if x5q = 4 then (bnd (op_I h4q l0 6 28) fun x7q => if x7q ≤ 0 then (M_between_55 h4q l0 l1) else (bnd (op_A h4q l0 6 27) fun x9q => bnd (op_I h4q l0 6 28) fun x10q => bnd x9q fun u11q => bnd (op_aI h4q u11q (x10q - 1)) fun x12q => bn2 (M_rank h4q x12q) fun h13q x14q => if x14q = 4 then (some (h13q, 0)) else (M_between_55 h13q l0 l1))) else (M_between_55 h4q l0 l1)
def M_between (h : pm_H) (t : Nat) (a1 : Int32) : Option (pm_H × Int32) := bn2 (M_rank h a1) fun h1q x2q => if x2q = 4 then (M_between_17 h1q t a1 5 t) else (bn2 (M_rank h1q a1) fun h4q x5q => M_between_17 h4q t a1 x5q t)
/-- DunesWalkedModel.signOf()I -/
def M_signOf (h : pm_H) (t : Nat) : Option (pm_H × Int32) := bnd (op_I h t 6 24) fun x1q => if x1q = 4 then (some (h, 11)) else (bnd (op_I h t 6 24) fun x3q => if x3q = 5 then (some (h, 12)) else (bnd (op_I h t 6 24) fun x5q => if x5q = 60 then (some (h, 14)) else (bnd (op_I h t 6 24) fun x7q => if x7q = 61 then (some (h, 15)) else (bnd (op_I h t 6 24) fun x9q => if x9q = 43 then (some (h, 16)) else (bnd (op_I h t 6 24) fun x11q => if x11q = 45 then (some (h, 17)) else (bnd (op_I h t 6 24) fun x13q => if x13q = 42 then (some (h, 18)) else (some (h, (-1)))))))))
/-- DunesWalkedModel.eRead()Z -/
def M_eRead_61 (k_14 : pm_H → Nat → Int32 → Int32 → Option (pm_H × Int32)) (h : pm_H) (l0 : Nat) (l2 : Int32) (s0 : Int32) (s1 : Nat) : Option (pm_H × Int32) := grd (op_is h s1 6) <| bn2 (M_puts h s1 s0) fun h1q _ => grd (op_is h1q l0 6) <| bn2 (M_unwinds h1q l0 7) fun h4q _ => k_14 h4q l0 0 l2
def M_eRead_38 (k_14 : pm_H → Nat → Int32 → Int32 → Option (pm_H × Int32)) (h : pm_H) (l0 : Nat) (l2 : Int32) : Option (pm_H × Int32) := bnd (op_I h l0 6 24) fun x1q => if x1q = 1 then (bnd (op_I h l0 6 25) fun x4q => M_eRead_61 k_14 h l0 l2 (100000 + x4q) l0) else (bnd (op_I h l0 6 25) fun x3q => M_eRead_61 k_14 h l0 l2 x3q l0)
def M_eRead_99 (k_14 : pm_H → Nat → Int32 → Int32 → Option (pm_H × Int32)) (h : pm_H) (l0 : Nat) (l1 : Int32) : Option (pm_H × Int32) := bnd (op_I h l0 6 24) fun x1q => if x1q = 45 then (grd (op_is h l0 6) <| bn2 (M_opensOne h l0 19) fun h9q x10q => if x10q = 0 then (some (h9q, 0)) else (k_14 h9q l0 l1 0)) else (bnd (op_I h l0 6 24) fun x3q => if x3q = 40 then (grd (op_is h l0 6) <| bn2 (M_opensOne h l0 0) fun h5q x6q => if x6q = 0 then (some (h5q, 0)) else (k_14 h5q l0 l1 1)) else (some (h, 0)))
def M_eRead_262 (k_14 : pm_H → Nat → Int32 → Int32 → Option (pm_H × Int32)) (h : pm_H) (l0 : Nat) (l1 : Int32) (s0 : Int32) : Option (pm_H × Int32) := k_14 h l0 l1 s0
def M_eRead_14 : Nat → pm_H → Nat → Int32 → Int32 → Option (pm_H × Int32)
  | 0, _, _, _, _ => none
  | n + 1, h, l0, l1, l2 => grd (op_is h l0 6) <| bn2 (M_next h l0) fun h1q _ => if l1 = 0 then (bnd (op_I h1q l0 6 24) fun x5q => if x5q = 59 then (grd (op_is h1q l0 6) <| bn2 (M_unwinds h1q l0 1) fun h30q _ => bnd (op_I h30q l0 6 28) fun x33q => if x33q = 0 then (some (h30q, 1)) else (some (h30q, 0))) else (bnd (op_I h1q l0 6 24) fun x7q => if x7q = 41 then (grd (op_is h1q l0 6) <| bn2 (M_unwinds h1q l0 1) fun h18q _ => bnd (op_I h18q l0 6 28) fun x21q => if x21q = 0 then (some (h18q, 0)) else (bnd (op_I h18q l0 6 28) fun x23q => bnd (op_S h18q l0 6 28 (.int (x23q - 1))) fun h24q => bnd (op_I h24q l0 6 29) fun x25q => bnd (op_S h24q l0 6 29 (.int (x25q - 1))) fun h26q => grd (op_is h26q l0 6) <| bn2 (M_unwinds h26q l0 7) fun h27q _ => M_eRead_14 n h27q l0 l1 l2)) else (grd (op_is h1q l0 6) <| bn2 (M_signOf h1q l0) fun h9q x10q => if x10q = (-1) then (some (h9q, 0)) else (grd (op_is h9q l0 6) <| bn2 (M_between h9q l0 x10q) fun h13q x14q => if x14q = 0 then (some (h13q, 0)) else (if 12 < x10q then (M_eRead_262 (M_eRead_14 n) h13q l0 1 0) else (M_eRead_262 (M_eRead_14 n) h13q l0 1 1)))))) else (bnd (op_I h1q l0 6 24) fun x35q => if x35q = 1 then (M_eRead_38 (M_eRead_14 n) h1q l0 l2) else (bnd (op_I h1q l0 6 24) fun x37q => if x37q = 2 then (M_eRead_38 (M_eRead_14 n) h1q l0 l2) else (bnd (op_I h1q l0 6 24) fun x39q => if x39q = 6 then (if l2 = 0 then (M_eRead_99 (M_eRead_14 n) h1q l0 l1) else (grd (op_is h1q l0 6) <| bn2 (M_opensOne h1q l0 13) fun h42q x43q => if x43q = 0 then (some (h42q, 0)) else (M_eRead_14 n h42q l0 l1 l2))) else (M_eRead_99 (M_eRead_14 n) h1q l0 l1))))
def M_eRead (h : pm_H) (t : Nat) : Option (pm_H × Int32) := bnd (op_S h t 6 28 (.int 0)) fun h1q => bnd (op_S h1q t 6 29 (.int 0)) fun h2q => M_eRead_14 1000 h2q t 1 1
/-- DunesWalkedModel.text()I -/
def M_text_94 (k_26 : pm_H → Nat → Int32 → Int32 → Option (pm_H × Int32)) (h : pm_H) (l0 : Nat) (l2 : Int32) (s0 : Int32) : Option (pm_H × Int32) := nmd (l2 + 1) fun y1q => k_26 h l0 s0 y1q
def M_text_93 (k_26 : pm_H → Nat → Int32 → Int32 → Option (pm_H × Int32)) (h : pm_H) (l0 : Nat) (l2 : Int32) : Option (pm_H × Int32) := M_text_94 k_26 h l0 l2 0
def M_text_60 (k_26 : pm_H → Nat → Int32 → Int32 → Option (pm_H × Int32)) (h : pm_H) (l0 : Nat) (l2 : Int32) (s0 : Int32) : Option (pm_H × Int32) := bnd (op_A h l0 6 11) fun x1q => bnd (op_I h l0 6 12) fun x2q => bnd (op_I h l0 6 30) fun x3q => bnd x1q fun u4q => bnd (op_sI h u4q ((4 * x2q) + l2) x3q) fun h5q => if s0 = 0 then (M_text_93 k_26 h5q l0 l2) else (grd (op_is h5q l0 6) <| bn2 (M_eRead h5q l0) fun h7q x8q => if x8q = 0 then (M_text_93 k_26 h7q l0 l2) else (M_text_94 k_26 h7q l0 l2 1))
def M_text_59 (k_26 : pm_H → Nat → Int32 → Int32 → Option (pm_H × Int32)) (h : pm_H) (l0 : Nat) (l2 : Int32) : Option (pm_H × Int32) := M_text_60 k_26 h l0 l2 0
def M_text_122 (h : pm_H) (l0 : Nat) (l1 : Int32) : Option (pm_H × Int32) := bnd (op_A h l0 6 11) fun x1q => bnd (op_I h l0 6 12) fun x2q => bnd (op_I h l0 6 30) fun x3q => bnd x1q fun u4q => bnd (op_sI h u4q ((4 * x2q) + 3) x3q) fun h5q => bnd (op_S h5q l0 6 9 (.int 0)) fun h6q => if l1 = 0 then (bnd (op_I h6q l0 6 23) fun x11q => some (h6q, ((-100) - x11q))) else (bnd (op_I h6q l0 6 12) fun x8q => bnd (op_S h6q l0 6 12 (.int (x8q + 1))) fun h9q => bnd (op_I h9q l0 6 12) fun x10q => some (h9q, (x10q - 1)))
def M_text_121 (h : pm_H) (l0 : Nat) (s0 : Int32) : Option (pm_H × Int32) := M_text_122 h l0 s0
def M_text_101 (h : pm_H) (l0 : Nat) (l1 : Int32) : Option (pm_H × Int32) := if l1 = 0 then (M_text_122 h l0 l1) else (grd (op_is h l0 6) <| bn2 (M_next h l0) fun h2q _ => bnd (op_I h2q l0 6 24) fun x5q => if x5q = 0 then (M_text_121 h2q l0 1) else (M_text_121 h2q l0 0))
def M_text_26 : Nat → pm_H → Nat → Int32 → Int32 → Option (pm_H × Int32)
  | 0, _, _, _, _ => none
  | n + 1, h, l0, l1, l2 => if 3 ≤ l2 then (M_text_101 h l0 l1) else (if l1 = 0 then (M_text_101 h l0 l1) else (grd (op_is h l0 6) <| bn2 (M_next h l0) fun h3q _ => bnd (op_I h3q l0 6 24) fun x6q => if x6q = 3 then (bnd (op_I h3q l0 6 25) fun x8q => if x8q = l2 then (M_text_60 (M_text_26 n) h3q l0 l2 1) else (M_text_59 (M_text_26 n) h3q l0 l2)) else (M_text_59 (M_text_26 n) h3q l0 l2)))
def M_text (h : pm_H) (t : Nat) : Option (pm_H × Int32) := bnd (op_I h t 6 12) fun x1q => if x1q = 6 then (some (h, (-4))) else (bnd (op_S h t 6 22 (.int 0)) fun h3q => bnd (op_S h3q t 6 30 (.int 0)) fun h4q => M_text_26 1000 h4q t 1 0)
/-- DunesWalkedModel.two(III)I -/
def M_two_52 (h : pm_H) : Option (pm_H × Int32) := some (h, 1)
def M_two (h : pm_H) (a0 : Int32) (a1 : Int32) (a2 : Int32) : Option (pm_H × Int32) := if a0 = 11 then (if a1 = 0 then (if a2 = 0 then (some (h, 0)) else (M_two_52 h)) else (M_two_52 h)) else (if a0 = 12 then (if a1 = 0 then (some (h, 0)) else (if a2 = 0 then (some (h, 0)) else (some (h, 1)))) else (if a0 = 13 then (some (h, (a1 * a2))) else (if a0 = 14 then (if a2 ≤ a1 then (some (h, 0)) else (some (h, 1))) else (if a0 = 15 then (if a1 = a2 then (some (h, 1)) else (some (h, 0))) else (if a0 = 16 then (some (h, (a1 + a2))) else (if a0 = 17 then (some (h, (a1 - a2))) else (some (h, (a1 * a2)))))))))
/-- DunesWalkedModel.says(I)I -/
def M_says_191 (k_16 : pm_H → Nat → Int32 → Int32 → Int32 → Option (pm_H × Int32)) (h : pm_H) (l0 : Nat) (l1 : Int32) (l2 : Int32) (l3 : Int32) : Option (pm_H × Int32) := nmd (l3 + 1) fun y1q => k_16 h l0 l1 l2 y1q
def M_says_93 (k_16 : pm_H → Nat → Int32 → Int32 → Int32 → Option (pm_H × Int32)) (h : pm_H) (l0 : Nat) (l1 : Int32) (l2 : Int32) (l3 : Int32) (s0 : Int32) (s1 : Int32) (s2 : Option Nat) : Option (pm_H × Int32) := bnd s2 fun u1q => bnd (op_sI h u1q s1 s0) fun h2q => nmd (l2 + 1) fun y3q => M_says_191 k_16 h2q l0 l1 y3q l3
def M_says_66 (k_16 : pm_H → Nat → Int32 → Int32 → Int32 → Option (pm_H × Int32)) (h : pm_H) (l0 : Nat) (l1 : Int32) (l2 : Int32) (l3 : Int32) (l4 : Int32) : Option (pm_H × Int32) := bnd (op_A h l0 6 31) fun x1q => if 11 ≤ l4 then (M_says_93 k_16 h l0 l1 l2 l3 (l4 - 100000) l2 x1q) else (bnd (op_A h l0 6 32) fun x3q => bnd x3q fun u4q => bnd (op_aI h u4q l4) fun x5q => M_says_93 k_16 h l0 l1 l2 l3 x5q l2 x1q)
def M_says_130 (k_16 : pm_H → Nat → Int32 → Int32 → Int32 → Option (pm_H × Int32)) (h : pm_H) (l0 : Nat) (l1 : Int32) (l2 : Int32) (l3 : Int32) (s0 : Int32) (s1 : Int32) (s2 : Option Nat) : Option (pm_H × Int32) := bnd s2 fun u1q => bnd (op_sI h u1q s1 s0) fun h2q => M_says_191 k_16 h2q l0 l1 l2 l3
def M_says_16 : Nat → pm_H → Nat → Int32 → Int32 → Int32 → Option (pm_H × Int32)
  | 0, _, _, _, _, _ => none
  | n + 1, h, l0, l1, l2, l3 => bnd (op_A h l0 6 11) fun x1q => bnd (op_I h l0 6 13) fun x2q => bnd x1q fun u3q => bnd (op_aI h u3q (((4 * x2q) + l1) + 1)) fun x4q => if x4q ≤ l3 then (bnd (op_A h l0 6 31) fun x6q => bnd x6q fun u7q => bnd (op_aI h u7q 0) fun x8q => some (h, x8q)) else (bnd (op_A h l0 6 10) fun x9q => bnd (op_I h l0 6 13) fun x10q => bnd x9q fun u11q => bnd (op_aI h u11q ((200 * x10q) + l3)) fun x12q => if 100000 ≤ x12q then (M_says_66 (M_says_16 n) h l0 l1 l2 l3 x12q) else (if 11 ≤ x12q then (if x12q = 13 then (bnd (op_A h l0 6 31) fun x35q => bnd (op_A h l0 6 31) fun x36q => bnd x36q fun u37q => bnd (op_aI h u37q (l2 - 1)) fun x38q => if x38q = 0 then (M_says_130 (M_says_16 n) h l0 l1 l2 l3 1 (l2 - 1) x35q) else (M_says_130 (M_says_16 n) h l0 l1 l2 l3 0 (l2 - 1) x35q)) else (if x12q = 19 then (bnd (op_A h l0 6 31) fun x29q => bnd (op_A h l0 6 31) fun x30q => bnd x30q fun u31q => bnd (op_aI h u31q (l2 - 1)) fun x32q => bnd x29q fun u33q => bnd (op_sI h u33q (l2 - 1) (-x32q)) fun h34q => M_says_191 (M_says_16 n) h34q l0 l1 l2 l3) else (nmd (l2 + (-1)) fun y17q => bnd (op_A h l0 6 31) fun x18q => bnd (op_A h l0 6 31) fun x19q => bnd x19q fun u20q => bnd (op_aI h u20q (y17q - 1)) fun x21q => bnd (op_A h l0 6 31) fun x22q => bnd x22q fun u23q => bnd (op_aI h u23q y17q) fun x24q => bn2 (M_two h x12q x21q x24q) fun h25q x26q => bnd x18q fun u27q => bnd (op_sI h25q u27q (y17q - 1) x26q) fun h28q => M_says_191 (M_says_16 n) h28q l0 l1 y17q l3))) else (M_says_66 (M_says_16 n) h l0 l1 l2 l3 x12q)))
def M_says (h : pm_H) (t : Nat) (a1 : Int32) : Option (pm_H × Int32) := bnd (op_A h t 6 11) fun x1q => bnd (op_I h t 6 13) fun x2q => bnd x1q fun u3q => bnd (op_aI h u3q ((4 * x2q) + a1)) fun x4q => M_says_16 1000 h t a1 0 x4q
/-- DunesWalkedModel.force(I)I -/
def M_force (h : pm_H) (t : Nat) (a1 : Int32) : Option (pm_H × Int32) := bnd (op_I h t 6 12) fun x1q => bn2 (M_in h a1 0 (x1q - 1)) fun h2q x3q => if x3q = 0 then (some (h2q, (-2))) else (bnd (op_I h2q t 6 13) fun x5q => bnd (op_S h2q t 6 13 (.int a1)) fun h6q => some (h6q, x5q))
/-- DunesWalkedModel.asksOf(II)I -/
def M_asksOf_114 (h : pm_H) (s0 : Int32) (s1 : Int32) (s2 : Int32) : Option (pm_H × Int32) := bn2 (M_within h s2 s1 s0) fun h1q x2q => some (h1q, x2q)
def M_asksOf_103 (h : pm_H) (l1 : Int32) (s0 : Int32) (s1 : Int32) : Option (pm_H × Int32) := if l1 = 0 then (M_asksOf_114 h 9 s0 s1) else (M_asksOf_114 h 99 s0 s1)
def M_asksOf_64 (h : pm_H) (l0 : Nat) (l1 : Int32) (l2 : Int32) (s0 : Int32) (s1 : Int32) (s2 : Option Nat) : Option (pm_H × Int32) := bnd s2 fun u1q => bnd (op_sI h u1q s1 s0) fun h2q => bnd (op_A h2q l0 6 32) fun x3q => bnd (op_I h2q l0 6 7) fun x4q => bnd x3q fun u5q => bnd (op_sI h2q u5q 4 x4q) fun h6q => bnd (op_A h6q l0 6 32) fun x7q => bnd (op_A h6q l0 6 2) fun x8q => bnd x8q fun u9q => bnd (op_aI h6q u9q l2) fun x10q => bnd x7q fun u11q => bnd (op_sI h6q u11q 5 x10q) fun h12q => grd (op_is h12q l0 6) <| bn2 (M_says h12q l0 l1) fun h13q x14q => if l1 = 1 then (M_asksOf_103 h13q l1 (-99) x14q) else (M_asksOf_103 h13q l1 0 x14q)
def M_asksOf (h : pm_H) (t : Nat) (a1 : Int32) (a2 : Int32) : Option (pm_H × Int32) := bnd (op_A h t 6 32) fun x1q => bnd (op_A h t 6 3) fun x2q => bnd x2q fun u3q => bnd (op_aI h u3q ((3 * a2) + 2)) fun x4q => bnd x1q fun u5q => bnd (op_sI h u5q 0 x4q) fun h6q => bnd (op_A h6q t 6 32) fun x7q => bnd (op_A h6q t 6 3) fun x8q => bnd x8q fun u9q => bnd (op_aI h6q u9q (3 * a2)) fun x10q => bnd x7q fun u11q => bnd (op_sI h6q u11q 1 x10q) fun h12q => bnd (op_A h12q t 6 32) fun x13q => bnd (op_A h12q t 6 3) fun x14q => bnd x14q fun u15q => bnd (op_aI h12q u15q ((3 * a2) + 1)) fun x16q => bnd x13q fun u17q => bnd (op_sI h12q u17q 2 x16q) fun h18q => bnd (op_A h18q t 6 32) fun x19q => grd (op_is h18q t 6) <| bn2 (M_isOnClover h18q t a2) fun h20q x21q => if x21q = 0 then (M_asksOf_64 h20q t a1 a2 0 3 x19q) else (M_asksOf_64 h20q t a1 a2 1 3 x19q)
/-- DunesWalkedModel.asks(II)I -/
def M_asks (h : pm_H) (t : Nat) (a1 : Int32) (a2 : Int32) : Option (pm_H × Int32) := bn2 (M_in h a1 0 2) fun h1q x2q => if x2q = 0 then (some (h1q, (-1000))) else (grd (op_is h1q t 6) <| bn2 (M_isDune h1q t a2) fun h4q x5q => if x5q = 0 then (some (h4q, (-1000))) else (grd (op_is h4q t 6) <| bn2 (M_asksOf h4q t a1 a2) fun h8q x9q => some (h8q, x9q)))
/-- DunesWalkedModel.dune(II)I -/
def M_dune_35 (h : pm_H) (l0 : Nat) (l1 : Int32) (l2 : Int32) (s0 : Int32) : Option (pm_H × Int32) := if s0 = 0 then (some (h, (-2))) else (if ((l2 / 1000) - (l2 / 1000) / 10 * 10) = 0 then (some (h, (-2))) else (bnd (op_I h l0 6 0) fun x3q => if x3q = 6 then (some (h, (-4))) else (bnd (op_A h l0 6 1) fun x5q => bnd (op_I h l0 6 0) fun x6q => bnd x5q fun u7q => bnd (op_sI h u7q x6q (l1 / 10)) fun h8q => bnd (op_A h8q l0 6 2) fun x9q => bnd (op_I h8q l0 6 0) fun x10q => bnd x9q fun u11q => bnd (op_sI h8q u11q x10q (l1 - l1 / 10 * 10)) fun h12q => bnd (op_A h12q l0 6 3) fun x13q => bnd (op_I h12q l0 6 0) fun x14q => bnd x13q fun u15q => bnd (op_sI h12q u15q (3 * x14q) (l2 / 10000)) fun h16q => bnd (op_A h16q l0 6 3) fun x17q => bnd (op_I h16q l0 6 0) fun x18q => bnd x17q fun u19q => bnd (op_sI h16q u19q ((3 * x18q) + 1) ((l2 / 1000) - (l2 / 1000) / 10 * 10)) fun h20q => bnd (op_A h20q l0 6 3) fun x21q => bnd (op_I h20q l0 6 0) fun x22q => bnd x21q fun u23q => bnd (op_sI h20q u23q ((3 * x22q) + 2) (l2 - l2 / 1000 * 1000)) fun h24q => bnd (op_A h24q l0 6 4) fun x25q => bnd (op_I h24q l0 6 0) fun x26q => bnd x25q fun u27q => bnd (op_sI h24q u27q x26q 0) fun h28q => bnd (op_I h28q l0 6 0) fun x29q => bnd (op_S h28q l0 6 0 (.int (x29q + 1))) fun h30q => bnd (op_I h30q l0 6 0) fun x31q => some (h30q, (x31q - 1)))))
def M_dune_34 (h : pm_H) (l0 : Nat) (l1 : Int32) (l2 : Int32) : Option (pm_H × Int32) := M_dune_35 h l0 l1 l2 0
def M_dune (h : pm_H) (t : Nat) (a1 : Int32) (a2 : Int32) : Option (pm_H × Int32) := bn2 (M_in h a1 0 59) fun h1q x2q => if x2q = 0 then (M_dune_34 h1q t a1 a2) else (bn2 (M_in h1q a2 0 399099) fun h4q x5q => if x5q = 0 then (M_dune_34 h4q t a1 a2) else (if 100 ≤ (a2 - a2 / 1000 * 1000) then (M_dune_34 h4q t a1 a2) else (M_dune_35 h4q t a1 a2 1)))
/-- DunesWalkedModel.put(III)I -/
def M_put_52 (h : pm_H) (l0 : Nat) (l1 : Int32) (l2 : Int32) (l3 : Int32) (s0 : Int32) (s1 : Int32) (s2 : Int32) : Option (pm_H × Int32) := bn2 (M_in h s2 s1 s0) fun h1q x2q => if x2q = 0 then (some (h1q, (-7))) else (bnd (op_A h1q l0 6 3) fun x4q => bnd x4q fun u5q => bnd (op_aI h1q u5q ((3 * l1) + l2)) fun x6q => bnd (op_A h1q l0 6 3) fun x7q => bnd x7q fun u8q => bnd (op_sI h1q u8q ((3 * l1) + l2) l3) fun h9q => some (h9q, x6q))
def M_put_31 (h : pm_H) (l0 : Nat) (l1 : Int32) (l2 : Int32) (l3 : Int32) (s0 : Int32) (s1 : Int32) : Option (pm_H × Int32) := if l2 = 0 then (M_put_52 h l0 l1 l2 l3 39 s0 s1) else (if l2 = 1 then (M_put_52 h l0 l1 l2 l3 9 s0 s1) else (M_put_52 h l0 l1 l2 l3 99 s0 s1))
def M_put (h : pm_H) (t : Nat) (a1 : Int32) (a2 : Int32) (a3 : Int32) : Option (pm_H × Int32) := grd (op_is h t 6) <| bn2 (M_isDune h t a1) fun h1q x2q => if x2q = 0 then (some (h1q, (-5))) else (bn2 (M_in h1q a2 0 2) fun h5q x6q => if x6q = 0 then (some (h5q, (-7))) else (if a2 = 1 then (M_put_31 h5q t a1 a2 a3 1 a3) else (M_put_31 h5q t a1 a2 a3 0 a3)))
/-- DunesWalkedModel.walksOf(I)I -/
def M_walksOf_100 (h : pm_H) (l0 : Nat) (l1 : Int32) (l2 : Int32) : Option (pm_H × Int32) := bnd (op_A h l0 6 2) fun x1q => bnd x1q fun u2q => bnd (op_aI h u2q l1) fun x3q => if x3q ≤ l2 then (bnd (op_A h l0 6 2) fun x5q => bnd x5q fun u6q => bnd (op_aI h u6q l1) fun x7q => some (h, x7q)) else (some (h, l2))
def M_walksOf_63 (h : pm_H) (l0 : Nat) (l1 : Int32) (l2 : Int32) (s0 : Int32) : Option (pm_H × Int32) := bnd (op_A h l0 6 1) fun x1q => bnd x1q fun u2q => bnd (op_aI h u2q l1) fun x3q => if x3q = 1 then (M_walksOf_100 h l0 l1 l2) else (if x3q = 2 then (some (h, s0)) else (if x3q = 3 then (M_walksOf_100 h l0 l1 l2) else (if x3q = 4 then (some (h, (2 * s0))) else (some (h, l2)))))
def M_walksOf_32 (h : pm_H) (l0 : Nat) (l1 : Int32) : Option (pm_H × Int32) := grd (op_is h l0 6) <| bn2 (M_asksOf h l0 0 l1) fun h1q x2q => bnd (op_A h1q l0 6 3) fun x4q => bnd x4q fun u5q => bnd (op_aI h1q u5q ((3 * l1) + 2)) fun x6q => if x6q ≤ 50 then (M_walksOf_63 h1q l0 l1 x2q (x2q + 1)) else (M_walksOf_63 h1q l0 l1 x2q (x2q / 2))
def M_walksOf (h : pm_H) (t : Nat) (a1 : Int32) : Option (pm_H × Int32) := bnd (op_A h t 6 1) fun x1q => bnd x1q fun u2q => bnd (op_aI h u2q a1) fun x3q => if x3q = 5 then (some (h, 0)) else (bnd (op_A h t 6 1) fun x5q => bnd x5q fun u6q => bnd (op_aI h u6q a1) fun x7q => if x7q = 3 then (bnd (op_I h t 6 7) fun x9q => if (x9q - x9q / 2 * 2) = 1 then (some (h, 0)) else (M_walksOf_32 h t a1)) else (M_walksOf_32 h t a1))
/-- DunesWalkedModel.growsOf(I)I -/
def M_growsOf_76 (h : pm_H) (l2 : Int32) (l3 : Int32) : Option (pm_H × Int32) := if l2 = 0 then (some (h, l3)) else (some (h, (l3 / 2)))
def M_growsOf (h : pm_H) (t : Nat) (a1 : Int32) : Option (pm_H × Int32) := grd (op_is h t 6) <| bn2 (M_isOnClover h t a1) fun h1q x2q => bnd (op_A h1q t 6 1) fun x4q => bnd x4q fun u5q => bnd (op_aI h1q u5q a1) fun x6q => if x6q = 5 then (if x2q = 0 then (some (h1q, 0)) else (bnd (op_A h1q t 6 2) fun x22q => bnd x22q fun u23q => bnd (op_aI h1q u23q a1) fun x24q => some (h1q, (-x24q)))) else (grd (op_is h1q t 6) <| bn2 (M_asksOf h1q t 1 a1) fun h8q x9q => bnd (op_A h8q t 6 1) fun x11q => bnd x11q fun u12q => bnd (op_aI h8q u12q a1) fun x13q => if x13q = 1 then (M_growsOf_76 h8q x2q x9q) else (if x13q = 2 then (some (h8q, x9q)) else (if x13q = 3 then (M_growsOf_76 h8q x2q x9q) else (if x13q = 4 then (bnd (op_A h8q t 6 2) fun x18q => bnd x18q fun u19q => bnd (op_aI h8q u19q a1) fun x20q => some (h8q, (x9q - x20q))) else (some (h8q, x9q))))))
/-- DunesWalkedModel.needsOf(I)I -/
def M_needsOf_39 (h : pm_H) (l0 : Nat) (l1 : Int32) (l2 : Int32) : Option (pm_H × Int32) := bnd (op_A h l0 6 2) fun x1q => bnd x1q fun u2q => bnd (op_aI h u2q l1) fun x3q => some (h, (l2 + x3q))
def M_needsOf (h : pm_H) (t : Nat) (a1 : Int32) : Option (pm_H × Int32) := bnd (op_A h t 6 1) fun x1q => bnd x1q fun u2q => bnd (op_aI h u2q a1) fun x3q => if x3q = 3 then (some (h, 0)) else (grd (op_is h t 6) <| bn2 (M_asksOf h t 2 a1) fun h5q x6q => bnd (op_A h5q t 6 1) fun x8q => bnd x8q fun u9q => bnd (op_aI h5q u9q a1) fun x10q => if x10q = 2 then (M_needsOf_39 h5q t a1 x6q) else (bnd (op_A h5q t 6 1) fun x12q => bnd x12q fun u13q => bnd (op_aI h5q u13q a1) fun x14q => if x14q = 4 then (M_needsOf_39 h5q t a1 x6q) else (some (h5q, x6q))))
/-- DunesWalkedModel.told(II)I -/
def M_told_64 (h : pm_H) (l0 : Nat) (l1 : Int32) (l2 : Int32) : Option (pm_H × Int32) := bnd (op_A h l0 6 3) fun x1q => bnd x1q fun u2q => bnd (op_aI h u2q ((3 * l1) + l2)) fun x3q => some (h, x3q)
def M_told (h : pm_H) (t : Nat) (a1 : Int32) (a2 : Int32) : Option (pm_H × Int32) := grd (op_is h t 6) <| bn2 (M_isDune h t a1) fun h1q x2q => if x2q = 0 then (some (h1q, (-5))) else (if a2 = 0 then (M_told_64 h1q t a1 a2) else (if a2 = 1 then (M_told_64 h1q t a1 a2) else (if a2 = 2 then (M_told_64 h1q t a1 a2) else (if a2 = 3 then (bnd (op_A h1q t 6 1) fun x9q => bnd x9q fun u10q => bnd (op_aI h1q u10q a1) fun x11q => some (h1q, x11q)) else (if a2 = 4 then (bnd (op_A h1q t 6 2) fun x13q => bnd x13q fun u14q => bnd (op_aI h1q u14q a1) fun x15q => some (h1q, x15q)) else (if a2 = 5 then (grd (op_is h1q t 6) <| bn2 (M_isOnClover h1q t a1) fun h17q x18q => if x18q = 0 then (some (h17q, 0)) else (some (h17q, 1))) else (if a2 = 6 then (grd (op_is h1q t 6) <| bn2 (M_walksOf h1q t a1) fun h22q x23q => some (h22q, x23q)) else (if a2 = 7 then (grd (op_is h1q t 6) <| bn2 (M_needsOf h1q t a1) fun h26q x27q => some (h26q, x27q)) else (if a2 = 8 then (grd (op_is h1q t 6) <| bn2 (M_lies h1q t a1) fun h30q x31q => bnd (op_J h30q t 6 5) fun x33q => bn2 (M_bitsOf h30q (x31q &&& x33q)) fun h34q x35q => some (h34q, x35q)) else (some (h1q, (-7))))))))))))
/-- DunesWalkedModel.grows(I)I -/
def M_grows (h : pm_H) (t : Nat) (a1 : Int32) : Option (pm_H × Int32) := grd (op_is h t 6) <| bn2 (M_isDune h t a1) fun h1q x2q => if x2q = 0 then (some (h1q, (-1000))) else (grd (op_is h1q t 6) <| bn2 (M_growsOf h1q t a1) fun h5q x6q => some (h5q, x6q))
/-- DunesWalkedModel.turnOf(I)V -/
def M_turnOf_147 (k_30 : pm_H → Nat → Int32 → Int32 → Option (pm_H × Unit)) (h : pm_H) (l0 : Nat) (l1 : Int32) (l2 : Int32) : Option (pm_H × Unit) := nmd (l2 + 1) fun y1q => k_30 h l0 l1 y1q
def M_turnOf_57 (k_30 : pm_H → Nat → Int32 → Int32 → Option (pm_H × Unit)) (h : pm_H) (l0 : Nat) (l1 : Int32) (l2 : Int32) (s0 : Int32) : Option (pm_H × Unit) := if s0 = 0 then (M_turnOf_147 k_30 h l0 l1 l2) else (grd (op_is h l0 6) <| bn2 (M_lies h l0 l2) fun h2q x3q => grd (op_is h2q l0 6) <| bn2 (M_lies h2q l0 l1) fun h5q x6q => if (lg_cmp (x3q &&& x6q) 0) = 0 then (M_turnOf_147 k_30 h5q l0 l1 l2) else (bnd (op_A h5q l0 6 3) fun x9q => bnd x9q fun u10q => bnd (op_aI h5q u10q ((3 * l2) + 2)) fun x11q => bnd (op_A h5q l0 6 3) fun x12q => bnd x12q fun u13q => bnd (op_aI h5q u13q ((3 * l1) + 2)) fun x14q => if x14q < x11q then (M_turnOf_147 k_30 h5q l0 l1 l2) else (bnd (op_A h5q l0 6 4) fun x16q => bnd x16q fun u17q => bnd (op_sI h5q u17q l2 1) fun h18q => bnd (op_A h18q l0 6 3) fun x19q => bnd (op_A h18q l0 6 3) fun x20q => bnd x20q fun u21q => bnd (op_aI h18q u21q ((3 * l1) + 2)) fun x22q => bnd (op_A h18q l0 6 3) fun x23q => bnd x23q fun u24q => bnd (op_aI h18q u24q ((3 * l2) + 2)) fun x25q => bn2 (M_within h18q (x22q + (x25q / 2)) 0 99) fun h26q x27q => bnd x19q fun u28q => bnd (op_sI h26q u28q ((3 * l1) + 2) x27q) fun h29q => M_turnOf_147 k_30 h29q l0 l1 l2)))
def M_turnOf_56 (k_30 : pm_H → Nat → Int32 → Int32 → Option (pm_H × Unit)) (h : pm_H) (l0 : Nat) (l1 : Int32) (l2 : Int32) : Option (pm_H × Unit) := M_turnOf_57 k_30 h l0 l1 l2 0
def M_turnOf_30 : Nat → pm_H → Nat → Int32 → Int32 → Option (pm_H × Unit)
  | 0, _, _, _, _ => none
  | n + 1, h, l0, l1, l2 => bnd (op_I h l0 6 0) fun x1q => if x1q ≤ l2 then (bnd (op_A h l0 6 3) fun x3q => bnd (op_A h l0 6 3) fun x4q => bnd x4q fun u5q => bnd (op_aI h u5q ((3 * l1) + 2)) fun x6q => grd (op_is h l0 6) <| bn2 (M_growsOf h l0 l1) fun h7q x8q => bn2 (M_within h7q (x6q + x8q) 0 99) fun h10q x11q => bnd x3q fun u12q => bnd (op_sI h10q u12q ((3 * l1) + 2) x11q) fun h13q => bnd (op_A h13q l0 6 3) fun x14q => bnd x14q fun u15q => bnd (op_aI h13q u15q ((3 * l1) + 2)) fun x16q => grd (op_is h13q l0 6) <| bn2 (M_needsOf h13q l0 l1) fun h17q x18q => if x18q ≤ x16q then (some (h17q, ())) else (bnd (op_A h17q l0 6 4) fun x21q => bnd x21q fun u22q => bnd (op_sI h17q u22q l1 1) fun h23q => some (h23q, ()))) else (if l2 = l1 then (M_turnOf_56 (M_turnOf_30 n) h l0 l1 l2) else (bnd (op_A h l0 6 4) fun x25q => bnd x25q fun u26q => bnd (op_aI h u26q l2) fun x27q => if x27q = 0 then (M_turnOf_57 (M_turnOf_30 n) h l0 l1 l2 1) else (M_turnOf_56 (M_turnOf_30 n) h l0 l1 l2)))
def M_turnOf (h : pm_H) (t : Nat) (a1 : Int32) : Option (pm_H × Unit) := bnd (op_A h t 6 3) fun x1q => bnd (op_A h t 6 3) fun x2q => bnd x2q fun u3q => bnd (op_aI h u3q (3 * a1)) fun x4q => grd (op_is h t 6) <| bn2 (M_walksOf h t a1) fun h5q x6q => bn2 (M_within h5q (x4q + x6q) 0 39) fun h8q x9q => bnd x1q fun u10q => bnd (op_sI h8q u10q (3 * a1) x9q) fun h11q => M_turnOf_30 1000 h11q t a1 0
/-- DunesWalkedModel.yearOf()I -/
def M_yearOf_29 (k_7 : pm_H → Nat → Int32 → Int32 → Option (pm_H × Int32)) (h : pm_H) (l0 : Nat) (l1 : Int32) (l2 : Int32) : Option (pm_H × Int32) := nmd (l2 + 1) fun y1q => k_7 h l0 l1 y1q
def M_yearOf_7 : Nat → pm_H → Nat → Int32 → Int32 → Option (pm_H × Int32)
  | 0, _, _, _, _ => none
  | n + 1, h, l0, l1, l2 => bnd (op_I h l0 6 0) fun x1q => if x1q ≤ l2 then (bnd (op_I h l0 6 7) fun x3q => bnd (op_S h l0 6 7 (.int (x3q + 1))) fun h4q => grd (op_is h4q l0 6) <| bn2 (M_there h4q l0) fun h5q x6q => some (h5q, (l1 &&& (x6q ^^^ (-1))))) else (bnd (op_A h l0 6 4) fun x8q => bnd x8q fun u9q => bnd (op_aI h u9q l2) fun x10q => if x10q = 0 then (grd (op_is h l0 6) <| bn2 (M_turnOf h l0 l2) fun h12q _ => M_yearOf_29 (M_yearOf_7 n) h12q l0 l1 l2) else (M_yearOf_29 (M_yearOf_7 n) h l0 l1 l2))
def M_yearOf (h : pm_H) (t : Nat) : Option (pm_H × Int32) := grd (op_is h t 6) <| bn2 (M_there h t) fun h1q x2q => M_yearOf_7 1000 h1q t x2q 0
/-- DunesWalkedModel.year()I -/
def M_year (h : pm_H) (t : Nat) : Option (pm_H × Int32) := bnd (op_I h t 6 7) fun x1q => if x1q = 999 then (some (h, (-3))) else (grd (op_is h t 6) <| bn2 (M_yearOf h t) fun h3q x4q => some (h3q, x4q))
/-- DunesWalkedModel.keeps()V -/
def M_keeps_28 : Nat → pm_H → Nat → Int32 → Option (pm_H × Unit)
  | 0, _, _, _ => none
  | n + 1, h, l0, l1 => if 6 ≤ l1 then (bnd (op_A h l0 6 33) fun x2q => bnd (op_I h l0 6 7) fun x3q => bnd x2q fun u4q => bnd (op_sI h u4q 24 x3q) fun h5q => some (h5q, ())) else (bnd (op_A h l0 6 33) fun x6q => bnd (op_A h l0 6 4) fun x7q => bnd x7q fun u8q => bnd (op_aI h u8q l1) fun x9q => bnd x6q fun u10q => bnd (op_sI h u10q (18 + l1) x9q) fun h11q => nmd (l1 + 1) fun y12q => M_keeps_28 n h11q l0 y12q)
def M_keeps_2 : Nat → pm_H → Nat → Int32 → Option (pm_H × Unit)
  | 0, _, _, _ => none
  | n + 1, h, l0, l1 => if 18 ≤ l1 then (M_keeps_28 1000 h l0 0) else (bnd (op_A h l0 6 33) fun x2q => bnd (op_A h l0 6 3) fun x3q => bnd x3q fun u4q => bnd (op_aI h u4q l1) fun x5q => bnd x2q fun u6q => bnd (op_sI h u6q l1 x5q) fun h7q => nmd (l1 + 1) fun y8q => M_keeps_2 n h7q l0 y8q)
def M_keeps (h : pm_H) (t : Nat) : Option (pm_H × Unit) := M_keeps_2 1000 h t 0
/-- DunesWalkedModel.lays()V -/
def M_lays_28 : Nat → pm_H → Nat → Int32 → Option (pm_H × Unit)
  | 0, _, _, _ => none
  | n + 1, h, l0, l1 => if 6 ≤ l1 then (bnd (op_A h l0 6 33) fun x2q => bnd x2q fun u3q => bnd (op_aI h u3q 24) fun x4q => bnd (op_S h l0 6 7 (.int x4q)) fun h5q => some (h5q, ())) else (bnd (op_A h l0 6 4) fun x6q => bnd (op_A h l0 6 33) fun x7q => bnd x7q fun u8q => bnd (op_aI h u8q (18 + l1)) fun x9q => bnd x6q fun u10q => bnd (op_sI h u10q l1 x9q) fun h11q => nmd (l1 + 1) fun y12q => M_lays_28 n h11q l0 y12q)
def M_lays_2 : Nat → pm_H → Nat → Int32 → Option (pm_H × Unit)
  | 0, _, _, _ => none
  | n + 1, h, l0, l1 => if 18 ≤ l1 then (M_lays_28 1000 h l0 0) else (bnd (op_A h l0 6 3) fun x2q => bnd (op_A h l0 6 33) fun x3q => bnd x3q fun u4q => bnd (op_aI h u4q l1) fun x5q => bnd x2q fun u6q => bnd (op_sI h u6q l1 x5q) fun h7q => nmd (l1 + 1) fun y8q => M_lays_2 n h7q l0 y8q)
def M_lays (h : pm_H) (t : Nat) : Option (pm_H × Unit) := M_lays_2 1000 h t 0
/-- DunesWalkedModel.goes(I)I -/
def M_goes_4 : Nat → pm_H → Nat → Int32 → Int32 → Int32 → Option (pm_H × Int32)
  | 0, _, _, _, _, _ => none
  | n + 1, h, l0, l1, l2, l3 => if l1 ≤ l3 then (some (h, l2)) else (grd (op_is h l0 6) <| bn2 (M_yearOf h l0) fun h2q x3q => grd (op_is h2q l0 6) <| bn2 (M_sand h2q l0) fun h5q x6q => bnd (op_J h5q l0 6 5) fun x8q => bn2 (M_bitsOf h5q (x6q &&& x8q)) fun h9q x10q => nmd (l2 + x10q) fun y11q => nmd (l3 + 1) fun y12q => M_goes_4 n h9q l0 l1 y11q y12q)
def M_goes (h : pm_H) (t : Nat) (a1 : Int32) : Option (pm_H × Int32) := M_goes_4 1000 h t a1 0 0
/-- DunesWalkedModel.ofDune(II)I -/
def M_ofDune (h : pm_H) (t : Nat) (a1 : Int32) (a2 : Int32) : Option (pm_H × Int32) := bnd (op_A h t 6 4) fun x1q => bnd x1q fun u2q => bnd (op_aI h u2q a1) fun x3q => if x3q = 1 then (some (h, (-1))) else (bnd (op_A h t 6 3) fun x5q => bnd x5q fun u6q => bnd (op_aI h u6q ((3 * a1) + a2)) fun x7q => some (h, x7q))
/-- DunesWalkedModel.run(II)I -/
def M_run_164 (h : pm_H) (l0 : Nat) (l5 : Int32) : Option (pm_H × Int32) := grd (op_is h l0 6) <| bn2 (M_lays h l0) fun h1q _ => some (h1q, l5)
def M_run_162 (h : pm_H) (l0 : Nat) (s0 : Int32) : Option (pm_H × Int32) := M_run_164 h l0 s0
def M_run_36 (h : pm_H) (l0 : Nat) (l1 : Int32) (l2 : Int32) (s0 : Int32) : Option (pm_H × Int32) := bn2 (M_in h l1 0 40) fun h1q x2q => if x2q = 0 then (some (h1q, (-2))) else (if s0 = 0 then (some (h1q, (-2))) else (grd (op_is h1q l0 6) <| bn2 (M_keeps h1q l0) fun h5q _ => grd (op_is h5q l0 6) <| bn2 (M_goes h5q l0 l1) fun h8q x9q => if l2 = 0 then (grd (op_is h8q l0 6) <| bn2 (M_there h8q l0) fun h12q x13q => M_run_164 h12q l0 x13q) else (if l2 = 1 then (grd (op_is h8q l0 6) <| bn2 (M_sand h8q l0) fun h16q x17q => bnd (op_J h16q l0 6 5) fun x19q => bn2 (M_bitsOf h16q (x17q &&& x19q)) fun h20q x21q => M_run_164 h20q l0 x21q) else (if l2 = 2 then (M_run_164 h8q l0 x9q) else (if 20 ≤ l2 then (bn2 (M_within h8q (l2 - 20) 0 5) fun h24q x25q => grd (op_is h24q l0 6) <| bn2 (M_ofDune h24q l0 x25q 2) fun h26q x27q => M_run_162 h26q l0 x27q) else (bn2 (M_within h8q (l2 - 10) 0 5) fun h29q x30q => grd (op_is h29q l0 6) <| bn2 (M_ofDune h29q l0 x30q 0) fun h31q x32q => M_run_162 h31q l0 x32q))))))
def M_run_31 (h : pm_H) (l0 : Nat) (l1 : Int32) (l2 : Int32) : Option (pm_H × Int32) := M_run_36 h l0 l1 l2 1
def M_run (h : pm_H) (t : Nat) (a1 : Int32) (a2 : Int32) : Option (pm_H × Int32) := bn2 (M_in h a2 0 2) fun h1q x2q => if x2q = 0 then (grd (op_is h1q t 6) <| bn2 (M_isDune h1q t (a2 - 10)) fun h4q x5q => if x5q = 0 then (grd (op_is h4q t 6) <| bn2 (M_isDune h4q t (a2 - 20)) fun h8q x9q => if x9q = 0 then (M_run_36 h8q t a1 a2 0) else (M_run_31 h8q t a1 a2)) else (M_run_31 h4q t a1 a2)) else (M_run_31 h1q t a1 a2)
/-- DunesWalkedModel.firstOn(I)I -/
def M_firstOn_35 (k_2 : pm_H → Nat → Int32 → Int32 → Option (pm_H × Int32)) (h : pm_H) (l0 : Nat) (l1 : Int32) (l2 : Int32) : Option (pm_H × Int32) := nmd (l2 + 1) fun y1q => k_2 h l0 l1 y1q
def M_firstOn_2 : Nat → pm_H → Nat → Int32 → Int32 → Option (pm_H × Int32)
  | 0, _, _, _, _ => none
  | n + 1, h, l0, l1, l2 => bnd (op_I h l0 6 0) fun x1q => if x1q ≤ l2 then (some (h, (-1))) else (bnd (op_A h l0 6 4) fun x3q => bnd x3q fun u4q => bnd (op_aI h u4q l2) fun x5q => if x5q = 0 then (grd (op_is h l0 6) <| bn2 (M_lies h l0 l2) fun h7q x8q => if (lg_cmp ((x8q >>> ((l1 : Int32).toInt64 &&& 63)) &&& 1) 1) = 0 then (some (h7q, l2)) else (M_firstOn_35 (M_firstOn_2 n) h7q l0 l1 l2)) else (M_firstOn_35 (M_firstOn_2 n) h l0 l1 l2))
def M_firstOn (h : pm_H) (t : Nat) (a1 : Int32) : Option (pm_H × Int32) := M_firstOn_2 1000 h t a1 0
/-- DunesWalkedModel.comes(II)I -/
def M_comes_109 (k_40 : pm_H → Nat → Int32 → Int32 → Int32 → Int32 → Int32 → Int32 → Int32 → Option (pm_H × Int32)) (h : pm_H) (l0 : Nat) (l1 : Int32) (l2 : Int32) (l3 : Int32) (l4 : Int32) (l5 : Int32) (l6 : Int32) (l7 : Int32) : Option (pm_H × Int32) := grd (op_is h l0 6) <| bn2 (M_yearOf h l0) fun h1q x2q => nmd (l7 + 1) fun y4q => k_40 h1q l0 l1 l2 l3 l4 l5 l6 y4q
def M_comes_90 (k_40 : pm_H → Nat → Int32 → Int32 → Int32 → Int32 → Int32 → Int32 → Int32 → Option (pm_H × Int32)) (h : pm_H) (l0 : Nat) (l1 : Int32) (l2 : Int32) (l4 : Int32) (l5 : Int32) (l6 : Int32) (l7 : Int32) (s0 : Int32) : Option (pm_H × Int32) := nmd (l4 + 1) fun y1q => M_comes_109 k_40 h l0 l1 l2 s0 y1q l5 l6 l7
def M_comes_77 (k_40 : pm_H → Nat → Int32 → Int32 → Int32 → Int32 → Int32 → Int32 → Int32 → Option (pm_H × Int32)) (h : pm_H) (l0 : Nat) (l1 : Int32) (l2 : Int32) (l3 : Int32) (l4 : Int32) (l6 : Int32) (l7 : Int32) (s0 : Int32) : Option (pm_H × Int32) := if l3 = (-1) then (M_comes_90 k_40 h l0 l1 l2 l4 s0 l6 l7 l7) else (M_comes_90 k_40 h l0 l1 l2 l4 s0 l6 l7 l3)
def M_comes_107 (k_40 : pm_H → Nat → Int32 → Int32 → Int32 → Int32 → Int32 → Int32 → Int32 → Option (pm_H × Int32)) (h : pm_H) (l0 : Nat) (l1 : Int32) (l2 : Int32) (l3 : Int32) (l4 : Int32) (l5 : Int32) (l7 : Int32) (s0 : Int32) : Option (pm_H × Int32) := M_comes_109 k_40 h l0 l1 l2 l3 l4 l5 s0 l7
def M_comes_120 (h : pm_H) (l0 : Nat) (l2 : Int32) (l3 : Int32) (l4 : Int32) (l5 : Int32) : Option (pm_H × Int32) := grd (op_is h l0 6) <| bn2 (M_lays h l0) fun h1q _ => if l2 = 0 then (some (h1q, l3)) else (if l2 = 1 then (some (h1q, l4)) else (some (h1q, l5)))
def M_comes_40 : Nat → pm_H → Nat → Int32 → Int32 → Int32 → Int32 → Int32 → Int32 → Int32 → Option (pm_H × Int32)
  | 0, _, _, _, _, _, _, _, _, _ => none
  | n + 1, h, l0, l1, l2, l3, l4, l5, l6, l7 => if 40 < l7 then (M_comes_120 h l0 l2 l3 l4 l5) else (if l6 = 0 then (M_comes_120 h l0 l2 l3 l4 l5) else (grd (op_is h l0 6) <| bn2 (M_firstOn h l0 l1) fun h3q x4q => if x4q = (-1) then (if l3 = (-1) then (M_comes_107 (M_comes_40 n) h3q l0 l1 l2 l3 l4 l5 l7 1) else (M_comes_107 (M_comes_40 n) h3q l0 l1 l2 l3 l4 l5 l7 0)) else (if l3 = (-1) then (M_comes_77 (M_comes_40 n) h3q l0 l1 l2 l3 l4 l6 l7 x4q) else (M_comes_77 (M_comes_40 n) h3q l0 l1 l2 l3 l4 l6 l7 l5))))
def M_comes (h : pm_H) (t : Nat) (a1 : Int32) (a2 : Int32) : Option (pm_H × Int32) := bn2 (M_isYard h a1) fun h1q x2q => if x2q = 0 then (some (h1q, (-5))) else (bn2 (M_in h1q a2 0 2) fun h4q x5q => if x5q = 0 then (some (h4q, (-7))) else (grd (op_is h4q t 6) <| bn2 (M_keeps h4q t) fun h7q _ => M_comes_40 1000 h7q t a1 a2 (-1) 0 (-1) 1 0))
/-- DunesWalkedModel.ends(I)I -/
def M_ends_50 (k_19 : pm_H → Nat → Int32 → Int32 → Int32 → Option (pm_H × Int32)) (h : pm_H) (l0 : Nat) (l1 : Int32) (l3 : Int32) (s0 : Int32) : Option (pm_H × Int32) := nmd (l3 + 1) fun y1q => k_19 h l0 l1 s0 y1q
def M_ends_57 (h : pm_H) (l0 : Nat) (l2 : Int32) : Option (pm_H × Int32) := grd (op_is h l0 6) <| bn2 (M_lays h l0) fun h1q _ => some (h1q, l2)
def M_ends_19 : Nat → pm_H → Nat → Int32 → Int32 → Int32 → Option (pm_H × Int32)
  | 0, _, _, _, _, _ => none
  | n + 1, h, l0, l1, l2, l3 => if 40 < l3 then (M_ends_57 h l0 l2) else (if l2 = (-1) then (grd (op_is h l0 6) <| bn2 (M_yearOf h l0) fun h3q x4q => bnd (op_A h3q l0 6 4) fun x6q => bnd x6q fun u7q => bnd (op_aI h3q u7q l1) fun x8q => if x8q = 1 then (M_ends_50 (M_ends_19 n) h3q l0 l1 l3 l3) else (M_ends_50 (M_ends_19 n) h3q l0 l1 l3 (-1))) else (M_ends_57 h l0 l2))
def M_ends (h : pm_H) (t : Nat) (a1 : Int32) : Option (pm_H × Int32) := grd (op_is h t 6) <| bn2 (M_isDune h t a1) fun h1q x2q => if x2q = 0 then (some (h1q, (-5))) else (grd (op_is h1q t 6) <| bn2 (M_keeps h1q t) fun h5q _ => M_ends_19 1000 h5q t a1 (-1) 1)
/-- DunesWalkedModel.first(I)I -/
def M_first_102 (k_23 : pm_H → Nat → Int32 → Int32 → Int32 → Int32 → Option (pm_H × Int32)) (k_43 : pm_H → Nat → Int32 → Int32 → Int32 → Int32 → Int32 → Option (pm_H × Int32)) (h : pm_H) (l0 : Nat) (l1 : Int32) (l2 : Int32) (l4 : Int32) (l5 : Int32) (s0 : Int32) : Option (pm_H × Int32) := nmd (l5 + (-1)) fun y1q => k_43 h l0 l1 l2 s0 l4 y1q
def M_first_90 (k_23 : pm_H → Nat → Int32 → Int32 → Int32 → Int32 → Option (pm_H × Int32)) (k_43 : pm_H → Nat → Int32 → Int32 → Int32 → Int32 → Int32 → Option (pm_H × Int32)) (h : pm_H) (l0 : Nat) (l1 : Int32) (l3 : Int32) (l4 : Int32) (l5 : Int32) (l6 : Int32) (s0 : Int32) : Option (pm_H × Int32) := if l6 = 0 then (M_first_102 k_23 k_43 h l0 l1 s0 l4 l5 l3) else (M_first_102 k_23 k_43 h l0 l1 s0 l4 l5 l4)
def M_first_77 (k_23 : pm_H → Nat → Int32 → Int32 → Int32 → Int32 → Option (pm_H × Int32)) (k_43 : pm_H → Nat → Int32 → Int32 → Int32 → Int32 → Int32 → Option (pm_H × Int32)) (h : pm_H) (l0 : Nat) (l1 : Int32) (l2 : Int32) (l3 : Int32) (l4 : Int32) (l5 : Int32) (s0 : Int32) : Option (pm_H × Int32) := if s0 = 0 then (M_first_90 k_23 k_43 h l0 l1 l3 l4 l5 s0 l2) else (M_first_90 k_23 k_43 h l0 l1 l3 l4 l5 s0 l5)
def M_first_76 (k_23 : pm_H → Nat → Int32 → Int32 → Int32 → Int32 → Option (pm_H × Int32)) (k_43 : pm_H → Nat → Int32 → Int32 → Int32 → Int32 → Int32 → Option (pm_H × Int32)) (h : pm_H) (l0 : Nat) (l1 : Int32) (l2 : Int32) (l3 : Int32) (l4 : Int32) (l5 : Int32) : Option (pm_H × Int32) := M_first_77 k_23 k_43 h l0 l1 l2 l3 l4 l5 0
def M_first_43 (k_23 : pm_H → Nat → Int32 → Int32 → Int32 → Int32 → Option (pm_H × Int32)) : Nat → pm_H → Nat → Int32 → Int32 → Int32 → Int32 → Int32 → Option (pm_H × Int32)
  | 0, _, _, _, _, _, _, _ => none
  | n + 1, h, l0, l1, l2, l3, l4, l5 => if l5 < 0 then (grd (op_is h l0 6) <| bn2 (M_yearOf h l0) fun h2q x3q => nmd (l4 + 1) fun y5q => k_23 h2q l0 l1 l2 l3 y5q) else (bnd (op_A h l0 6 4) fun x6q => bnd x6q fun u7q => bnd (op_aI h u7q l5) fun x8q => if x8q = 0 then (bnd (op_A h l0 6 3) fun x10q => bnd x10q fun u11q => bnd (op_aI h u11q (3 * l5)) fun x12q => if x12q = 39 then (M_first_77 k_23 (M_first_43 k_23 n) h l0 l1 l2 l3 l4 l5 1) else (M_first_76 k_23 (M_first_43 k_23 n) h l0 l1 l2 l3 l4 l5)) else (M_first_76 k_23 (M_first_43 k_23 n) h l0 l1 l2 l3 l4 l5))
def M_first_120 (h : pm_H) (l0 : Nat) (l1 : Int32) (l2 : Int32) (l3 : Int32) : Option (pm_H × Int32) := grd (op_is h l0 6) <| bn2 (M_lays h l0) fun h1q _ => if l1 = 0 then (some (h1q, l2)) else (some (h1q, l3))
def M_first_23 : Nat → pm_H → Nat → Int32 → Int32 → Int32 → Int32 → Option (pm_H × Int32)
  | 0, _, _, _, _, _, _ => none
  | n + 1, h, l0, l1, l2, l3, l4 => if 40 < l4 then (M_first_120 h l0 l1 l2 l3) else (if l2 = (-1) then (bnd (op_I h l0 6 0) fun x3q => nmd (x3q - 1) fun y4q => M_first_43 (M_first_23 n) 1000 h l0 l1 l2 l3 l4 y4q) else (M_first_120 h l0 l1 l2 l3))
def M_first (h : pm_H) (t : Nat) (a1 : Int32) : Option (pm_H × Int32) := bn2 (M_in h a1 0 1) fun h1q x2q => if x2q = 0 then (some (h1q, (-2))) else (grd (op_is h1q t 6) <| bn2 (M_keeps h1q t) fun h4q _ => M_first_23 1000 h4q t a1 (-1) (-1) 0)
/-- DunesWalkedModel.buriedNow(I)I -/
def M_buriedNow (h : pm_H) (t : Nat) (a1 : Int32) : Option (pm_H × Int32) := grd (op_is h t 6) <| bn2 (M_keeps h t) fun h1q _ => grd (op_is h1q t 6) <| bn2 (M_goes h1q t a1) fun h4q x5q => grd (op_is h4q t 6) <| bn2 (M_lays h4q t) fun h7q _ => some (h7q, x5q)
/-- DunesWalkedModel.sow(II)I -/
def M_sow_107 (k_40 : pm_H → Nat → Int32 → Int32 → Int64 → Int32 → Int32 → Int32 → Option (pm_H × Int32)) (h : pm_H) (l0 : Nat) (l1 : Int32) (l2 : Int32) (l3 : Int64) (l5 : Int32) (l6 : Int32) (l7 : Int32) : Option (pm_H × Int32) := nmd (l7 + 1) fun y1q => k_40 h l0 l1 l2 l3 l5 l6 y1q
def M_sow_105 (k_40 : pm_H → Nat → Int32 → Int32 → Int64 → Int32 → Int32 → Int32 → Option (pm_H × Int32)) (h : pm_H) (l0 : Nat) (l1 : Int32) (l2 : Int32) (l3 : Int64) (l5 : Int32) (l7 : Int32) (s0 : Int32) : Option (pm_H × Int32) := M_sow_107 k_40 h l0 l1 l2 l3 l5 s0 l7
def M_sow_89 (k_40 : pm_H → Nat → Int32 → Int32 → Int64 → Int32 → Int32 → Int32 → Option (pm_H × Int32)) (h : pm_H) (l0 : Nat) (l1 : Int32) (l2 : Int32) (l3 : Int64) (l6 : Int32) (l7 : Int32) (l8 : Int32) (s0 : Int32) : Option (pm_H × Int32) := if l6 ≤ l8 then (M_sow_105 k_40 h l0 l1 l2 l3 s0 l7 l6) else (M_sow_105 k_40 h l0 l1 l2 l3 s0 l7 l8)
def M_sow_40 : Nat → pm_H → Nat → Int32 → Int32 → Int64 → Int32 → Int32 → Int32 → Option (pm_H × Int32)
  | 0, _, _, _, _, _, _, _, _ => none
  | n + 1, h, l0, l1, l2, l3, l5, l6, l7 => if 40 ≤ l7 then (bnd (op_S h l0 6 6 (.long l3)) fun h2q => if l2 = 0 then (some (h2q, l5)) else (some (h2q, l6))) else (if (lg_cmp ((l3 >>> ((l7 : Int32).toInt64 &&& 63)) &&& 1) 0) = 0 then (bnd (op_S h l0 6 6 (.long (l3 ||| (1 <<< ((l7 : Int32).toInt64 &&& 63))))) fun h5q => grd (op_is h5q l0 6) <| bn2 (M_buriedNow h5q l0 l1) fun h6q x7q => if l6 ≤ x7q then (M_sow_89 (M_sow_40 n) h6q l0 l1 l2 l3 l6 l7 x7q l5) else (M_sow_89 (M_sow_40 n) h6q l0 l1 l2 l3 l6 l7 x7q l7)) else (M_sow_107 (M_sow_40 n) h l0 l1 l2 l3 l5 l6 l7))
def M_sow (h : pm_H) (t : Nat) (a1 : Int32) (a2 : Int32) : Option (pm_H × Int32) := bn2 (M_in h a1 0 20) fun h1q x2q => if x2q = 0 then (some (h1q, (-2))) else (bn2 (M_in h1q a2 0 1) fun h4q x5q => if x5q = 0 then (some (h4q, (-2))) else (bnd (op_J h4q t 6 6) fun x7q => grd (op_is h4q t 6) <| bn2 (M_buriedNow h4q t a1) fun h8q x9q => M_sow_40 1000 h8q t a1 a2 x7q (-1) x9q 0))
/-- DunesWalkedModel.move(II)I -/
def M_move_100 (k_49 : pm_H → Nat → Int32 → Int32 → Int32 → Option (pm_H × Int32)) (k_68 : pm_H → Nat → Int32 → Int32 → Int32 → Int64 → Int32 → Option (pm_H × Int32)) (h : pm_H) (l0 : Nat) (l1 : Int32) (l2 : Int32) (l3 : Int32) (l4 : Int64) (l6 : Int32) (s0 : Int32) (s1 : Int32) (s2 : Int32) (s3 : Option Nat) : Option (pm_H × Int32) := bnd s3 fun u1q => bnd (op_sI h u1q s2 (s1 + s0)) fun h2q => nmd (l6 + 1) fun y3q => k_68 h2q l0 l1 l2 l3 l4 y3q
def M_move_68 (k_49 : pm_H → Nat → Int32 → Int32 → Int32 → Option (pm_H × Int32)) : Nat → pm_H → Nat → Int32 → Int32 → Int32 → Int64 → Int32 → Option (pm_H × Int32)
  | 0, _, _, _, _, _, _, _ => none
  | n + 1, h, l0, l1, l2, l3, l4, l6 => if 40 ≤ l6 then (nmd (l3 + 1) fun y2q => k_49 h l0 l1 l2 y2q) else (bnd (op_A h l0 6 34) fun x3q => bnd x3q fun u4q => bnd (op_aI h u4q l6) fun x5q => if (lg_cmp ((l4 >>> ((l6 : Int32).toInt64 &&& 63)) &&& 1) 1) = 0 then (M_move_100 k_49 (M_move_68 k_49 n) h l0 l1 l2 l3 l4 l6 1 x5q l6 (some u4q)) else (M_move_100 k_49 (M_move_68 k_49 n) h l0 l1 l2 l3 l4 l6 0 x5q l6 (some u4q)))
def M_move_156 (k_123 : pm_H → Nat → Int32 → Int32 → Int32 → Option (pm_H × Int32)) (h : pm_H) (l0 : Nat) (l2 : Int32) (l4 : Int32) (s0 : Int32) (s1 : Int32) : Option (pm_H × Int32) := nmd (s1 + s0) fun y1q => nmd (l4 + 1) fun y2q => k_123 h l0 l2 y1q y2q
def M_move_290 (k_173 : pm_H → Nat → Int32 → Int32 → Int32 → Int32 → Int32 → Option (pm_H × Int32)) (k_183 : pm_H → Nat → Int32 → Int32 → Int32 → Int32 → Int32 → Int32 → Option (pm_H × Int32)) (h : pm_H) (l0 : Nat) (l2 : Int32) (l3 : Int32) (l4 : Int32) (l6 : Int32) (l7 : Int32) (s0 : Int32) : Option (pm_H × Int32) := nmd (l7 + 1) fun y1q => k_183 h l0 l2 l3 l4 s0 l6 y1q
def M_move_288 (k_173 : pm_H → Nat → Int32 → Int32 → Int32 → Int32 → Int32 → Option (pm_H × Int32)) (k_183 : pm_H → Nat → Int32 → Int32 → Int32 → Int32 → Int32 → Int32 → Option (pm_H × Int32)) (h : pm_H) (l0 : Nat) (l2 : Int32) (l3 : Int32) (l4 : Int32) (l5 : Int32) (l6 : Int32) (l7 : Int32) : Option (pm_H × Int32) := M_move_290 k_173 k_183 h l0 l2 l3 l4 l6 l7 l5
def M_move_269 (k_173 : pm_H → Nat → Int32 → Int32 → Int32 → Int32 → Int32 → Option (pm_H × Int32)) (k_183 : pm_H → Nat → Int32 → Int32 → Int32 → Int32 → Int32 → Int32 → Option (pm_H × Int32)) (h : pm_H) (l0 : Nat) (l2 : Int32) (l3 : Int32) (l5 : Int32) (l6 : Int32) (l7 : Int32) (l8 : Int32) (l9 : Int32) (s0 : Int32) : Option (pm_H × Int32) := if l8 = 0 then (M_move_288 k_173 k_183 h l0 l2 l3 s0 l5 l6 l7) else (if l5 ≤ l9 then (M_move_288 k_173 k_183 h l0 l2 l3 s0 l5 l6 l7) else (M_move_290 k_173 k_183 h l0 l2 l3 s0 l6 l7 l9))
def M_move_267 (k_173 : pm_H → Nat → Int32 → Int32 → Int32 → Int32 → Int32 → Option (pm_H × Int32)) (k_183 : pm_H → Nat → Int32 → Int32 → Int32 → Int32 → Int32 → Int32 → Option (pm_H × Int32)) (h : pm_H) (l0 : Nat) (l2 : Int32) (l3 : Int32) (l4 : Int32) (l5 : Int32) (l6 : Int32) (l7 : Int32) (l8 : Int32) (l9 : Int32) : Option (pm_H × Int32) := M_move_269 k_173 k_183 h l0 l2 l3 l5 l6 l7 l8 l9 l4
def M_move_223 (k_173 : pm_H → Nat → Int32 → Int32 → Int32 → Int32 → Int32 → Option (pm_H × Int32)) (k_183 : pm_H → Nat → Int32 → Int32 → Int32 → Int32 → Int32 → Int32 → Option (pm_H × Int32)) (h : pm_H) (l0 : Nat) (l2 : Int32) (l3 : Int32) (l4 : Int32) (l5 : Int32) (l6 : Int32) (l7 : Int32) (s0 : Int32) : Option (pm_H × Int32) := bnd (op_A h l0 6 34) fun x1q => bnd x1q fun u2q => bnd (op_aI h u2q l6) fun x3q => bnd (op_A h l0 6 34) fun x4q => bnd x4q fun u5q => bnd (op_aI h u5q l7) fun x6q => nmd ((l3 - x3q) + x6q) fun y7q => if s0 = 0 then (M_move_267 k_173 k_183 h l0 l2 l3 l4 l5 l6 l7 s0 y7q) else (if l5 ≤ y7q then (M_move_267 k_173 k_183 h l0 l2 l3 l4 l5 l6 l7 s0 y7q) else (M_move_269 k_173 k_183 h l0 l2 l3 l5 l6 l7 s0 y7q ((100 * l6) + l7)))
def M_move_222 (k_173 : pm_H → Nat → Int32 → Int32 → Int32 → Int32 → Int32 → Option (pm_H × Int32)) (k_183 : pm_H → Nat → Int32 → Int32 → Int32 → Int32 → Int32 → Int32 → Option (pm_H × Int32)) (h : pm_H) (l0 : Nat) (l2 : Int32) (l3 : Int32) (l4 : Int32) (l5 : Int32) (l6 : Int32) (l7 : Int32) : Option (pm_H × Int32) := M_move_223 k_173 k_183 h l0 l2 l3 l4 l5 l6 l7 0
def M_move_183 (k_173 : pm_H → Nat → Int32 → Int32 → Int32 → Int32 → Int32 → Option (pm_H × Int32)) : Nat → pm_H → Nat → Int32 → Int32 → Int32 → Int32 → Int32 → Int32 → Option (pm_H × Int32)
  | 0, _, _, _, _, _, _, _, _ => none
  | n + 1, h, l0, l2, l3, l4, l5, l6, l7 => if 40 ≤ l7 then (nmd (l6 + 1) fun y2q => k_173 h l0 l2 l3 l4 l5 y2q) else (bnd (op_J h l0 6 5) fun x3q => if (lg_cmp ((x3q >>> ((l6 : Int32).toInt64 &&& 63)) &&& 1) 1) = 0 then (bnd (op_J h l0 6 5) fun x5q => if (lg_cmp ((x5q >>> ((l7 : Int32).toInt64 &&& 63)) &&& 1) 0) = 0 then (M_move_223 k_173 (M_move_183 k_173 n) h l0 l2 l3 l4 l5 l6 l7 1) else (M_move_222 k_173 (M_move_183 k_173 n) h l0 l2 l3 l4 l5 l6 l7)) else (M_move_222 k_173 (M_move_183 k_173 n) h l0 l2 l3 l4 l5 l6 l7))
def M_move_173 : Nat → pm_H → Nat → Int32 → Int32 → Int32 → Int32 → Int32 → Option (pm_H × Int32)
  | 0, _, _, _, _, _, _, _ => none
  | n + 1, h, l0, l2, l3, l4, l5, l6 => if 40 ≤ l6 then (if l2 = 0 then (some (h, l4)) else (some (h, l5))) else (M_move_183 (M_move_173 n) 1000 h l0 l2 l3 l4 l5 l6 0)
def M_move_123 : Nat → pm_H → Nat → Int32 → Int32 → Int32 → Option (pm_H × Int32)
  | 0, _, _, _, _, _ => none
  | n + 1, h, l0, l2, l3, l4 => if 40 ≤ l4 then (M_move_173 1000 h l0 l2 l3 (-1) l3 0) else (bnd (op_J h l0 6 5) fun x2q => if (lg_cmp ((x2q >>> ((l4 : Int32).toInt64 &&& 63)) &&& 1) 1) = 0 then (bnd (op_A h l0 6 34) fun x4q => bnd x4q fun u5q => bnd (op_aI h u5q l4) fun x6q => M_move_156 (M_move_123 n) h l0 l2 l4 x6q l3) else (M_move_156 (M_move_123 n) h l0 l2 l4 0 l3))
def M_move_49 : Nat → pm_H → Nat → Int32 → Int32 → Int32 → Option (pm_H × Int32)
  | 0, _, _, _, _, _ => none
  | n + 1, h, l0, l1, l2, l3 => if l1 ≤ l3 then (grd (op_is h l0 6) <| bn2 (M_lays h l0) fun h2q _ => M_move_123 1000 h2q l0 l2 0 0) else (grd (op_is h l0 6) <| bn2 (M_yearOf h l0) fun h5q x6q => grd (op_is h5q l0 6) <| bn2 (M_sand h5q l0) fun h8q x9q => M_move_68 (M_move_49 n) 1000 h8q l0 l1 l2 l3 x9q 0)
def M_move_24 : Nat → pm_H → Nat → Int32 → Int32 → Int32 → Option (pm_H × Int32)
  | 0, _, _, _, _, _ => none
  | n + 1, h, l0, l1, l2, l3 => if 40 ≤ l3 then (grd (op_is h l0 6) <| bn2 (M_keeps h l0) fun h2q _ => M_move_49 1000 h2q l0 l1 l2 0) else (bnd (op_A h l0 6 34) fun x5q => bnd x5q fun u6q => bnd (op_sI h u6q l3 0) fun h7q => nmd (l3 + 1) fun y8q => M_move_24 n h7q l0 l1 l2 y8q)
def M_move (h : pm_H) (t : Nat) (a1 : Int32) (a2 : Int32) : Option (pm_H × Int32) := bn2 (M_in h a1 0 20) fun h1q x2q => if x2q = 0 then (some (h1q, (-2))) else (bn2 (M_in h1q a2 0 1) fun h4q x5q => if x5q = 0 then (some (h4q, (-2))) else (M_move_24 1000 h4q t a1 a2 0))
/-- DunesWalkedModel.hold(II)I -/
def M_hold_106 (k_34 : pm_H → Nat → Int32 → Int32 → Int32 → Int32 → Int32 → Option (pm_H × Int32)) (h : pm_H) (l0 : Nat) (l1 : Int32) (l2 : Int32) (l3 : Int32) (l4 : Int32) (l5 : Int32) : Option (pm_H × Int32) := nmd (l5 + 1) fun y1q => k_34 h l0 l1 l2 l3 l4 y1q
def M_hold_104 (k_34 : pm_H → Nat → Int32 → Int32 → Int32 → Int32 → Int32 → Option (pm_H × Int32)) (h : pm_H) (l0 : Nat) (l1 : Int32) (l2 : Int32) (l3 : Int32) (l5 : Int32) (s0 : Int32) : Option (pm_H × Int32) := M_hold_106 k_34 h l0 l1 l2 l3 s0 l5
def M_hold_89 (k_34 : pm_H → Nat → Int32 → Int32 → Int32 → Int32 → Int32 → Option (pm_H × Int32)) (h : pm_H) (l0 : Nat) (l1 : Int32) (l2 : Int32) (l4 : Int32) (l5 : Int32) (l6 : Int32) (s0 : Int32) : Option (pm_H × Int32) := if l4 ≤ l6 then (M_hold_104 k_34 h l0 l1 l2 s0 l5 l4) else (M_hold_104 k_34 h l0 l1 l2 s0 l5 l6)
def M_hold_34 : Nat → pm_H → Nat → Int32 → Int32 → Int32 → Int32 → Int32 → Option (pm_H × Int32)
  | 0, _, _, _, _, _, _, _ => none
  | n + 1, h, l0, l1, l2, l3, l4, l5 => bnd (op_I h l0 6 0) fun x1q => if x1q ≤ l5 then (if l2 = 0 then (some (h, l3)) else (some (h, l4))) else (bnd (op_A h l0 6 4) fun x4q => bnd x4q fun u5q => bnd (op_aI h u5q l5) fun x6q => if x6q = 0 then (bnd (op_A h l0 6 4) fun x8q => bnd x8q fun u9q => bnd (op_sI h u9q l5 1) fun h10q => grd (op_is h10q l0 6) <| bn2 (M_buriedNow h10q l0 l1) fun h11q x12q => bnd (op_A h11q l0 6 4) fun x14q => bnd x14q fun u15q => bnd (op_sI h11q u15q l5 0) fun h16q => if l4 ≤ x12q then (M_hold_89 (M_hold_34 n) h16q l0 l1 l2 l4 l5 x12q l3) else (M_hold_89 (M_hold_34 n) h16q l0 l1 l2 l4 l5 x12q l5)) else (M_hold_106 (M_hold_34 n) h l0 l1 l2 l3 l4 l5))
def M_hold (h : pm_H) (t : Nat) (a1 : Int32) (a2 : Int32) : Option (pm_H × Int32) := bn2 (M_in h a1 0 40) fun h1q x2q => if x2q = 0 then (some (h1q, (-2))) else (bn2 (M_in h1q a2 0 1) fun h4q x5q => if x5q = 0 then (some (h4q, (-2))) else (grd (op_is h4q t 6) <| bn2 (M_buriedNow h4q t a1) fun h7q x8q => M_hold_34 1000 h7q t a1 a2 (-1) x8q 0))
/-- DunesWalkedModel.lowest(JJI)J -/
def M_lowest_16 : Nat → pm_H → Int64 → Int64 → Int32 → Int64 → Int64 → Option (pm_H × Int64)
  | 0, _, _, _, _, _, _ => none
  | n + 1, h, l0, l2, l4, l5, l7 => if (lg_cmp l7 0) = 0 then (if l4 = 0 then (grd (!decide (l5 = 0)) <| some (h, (l0 / l5))) else (grd (!decide (l5 = 0)) <| some (h, (l2 / l5)))) else (grd (!decide (l7 = 0)) <| nmd (l5 - l5 / l7 * l7) fun y6q => M_lowest_16 n h l0 l2 l4 l7 y6q)
def M_lowest (h : pm_H) (a0 : Int64) (a1 : Int64) (a2 : Int32) : Option (pm_H × Int64) := if (lg_cmp a0 0) = 0 then (some (h, (Int32.toInt64 a2))) else (M_lowest_16 1000 h a0 a1 a2 a0 a1)
/-- DunesWalkedModel.share(II)J -/
def M_share (h : pm_H) (t : Nat) (a1 : Int32) (a2 : Int32) : Option (pm_H × Int64) := bn2 (M_in h a1 0 40) fun h1q x2q => if x2q = 0 then (some (h1q, (-4611686018427387904))) else (bn2 (M_in h1q a2 0 1) fun h4q x5q => if x5q = 0 then (some (h4q, (-4611686018427387904))) else (bnd (op_J h4q t 6 5) fun x7q => if (lg_cmp x7q 0) = 0 then (some (h4q, (-4611686018427387904))) else (grd (op_is h4q t 6) <| bn2 (M_keeps h4q t) fun h9q _ => grd (op_is h9q t 6) <| bn2 (M_goes h9q t a1) fun h12q x13q => grd (op_is h12q t 6) <| bn2 (M_sand h12q t) fun h15q x16q => bnd (op_J h15q t 6 5) fun x18q => bn2 (M_bitsOf h15q (x16q &&& x18q)) fun h19q x20q => grd (op_is h19q t 6) <| bn2 (M_lays h19q t) fun h21q _ => bnd (op_J h21q t 6 5) fun x24q => bn2 (M_bitsOf h21q x24q) fun h25q x26q => bn2 (M_lowest h25q (Int32.toInt64 x20q) (Int32.toInt64 x26q) a2) fun h27q x28q => some (h27q, x28q))))
/-- DunesWalkedModel.sheetWrong(I)I -/
def M_sheetWrong (h : pm_H) (t : Nat) (a1 : Int32) : Option (pm_H × Int32) := bn2 (M_in h a1 0 3) fun h1q x2q => if x2q = 0 then (some (h1q, (-2))) else (bnd (op_A h1q t 6 18) fun x4q => bnd x4q fun u5q => bnd (op_aI h1q u5q a1) fun x6q => if x6q = (-1) then (some (h1q, (-11))) else (bnd (op_A h1q t 6 19) fun x8q => bnd x8q fun u9q => bnd (op_aI h1q u9q a1) fun x10q => if x10q ≤ 20 then (some (h1q, 0)) else (some (h1q, (-2)))))
/-- DunesWalkedModel.toldWrong(II)I -/
def M_toldWrong (h : pm_H) (t : Nat) (a1 : Int32) (a2 : Int32) : Option (pm_H × Int32) := grd (op_is h t 6) <| bn2 (M_sheetWrong h t a1) fun h1q x2q => if x2q = 0 then (grd (op_is h1q t 6) <| bn2 (M_isDune h1q t a2) fun h5q x6q => if x6q = 0 then (some (h5q, (-5))) else (some (h5q, 0))) else (some (h1q, x2q))
/-- DunesWalkedModel.unlike(II)I -/
def M_unlike_57 (k_9 : pm_H → Nat → Int32 → Int32 → Int32 → Int32 → Option (pm_H × Int32)) (h : pm_H) (l0 : Nat) (l1 : Int32) (l2 : Int32) (l4 : Int32) (s0 : Int32) : Option (pm_H × Int32) := nmd (l4 + 1) fun y1q => k_9 h l0 l1 l2 s0 y1q
def M_unlike_64 (h : pm_H) (l0 : Nat) (l3 : Int32) : Option (pm_H × Int32) := grd (op_is h l0 6) <| bn2 (M_lays h l0) fun h1q _ => some (h1q, l3)
def M_unlike_9 : Nat → pm_H → Nat → Int32 → Int32 → Int32 → Int32 → Option (pm_H × Int32)
  | 0, _, _, _, _, _, _ => none
  | n + 1, h, l0, l1, l2, l3, l4 => bnd (op_A h l0 6 19) fun x1q => bnd x1q fun u2q => bnd (op_aI h u2q l1) fun x3q => if x3q ≤ l4 then (M_unlike_64 h l0 l3) else (if l3 = (-1) then (grd (op_is h l0 6) <| bn2 (M_yearOf h l0) fun h6q x7q => bnd (op_A h6q l0 6 20) fun x9q => bnd x9q fun u10q => bnd (op_aI h6q u10q ((40 * l1) + l4)) fun x11q => grd (op_is h6q l0 6) <| bn2 (M_ofDune h6q l0 l2 0) fun h12q x13q => if x11q = x13q then (M_unlike_57 (M_unlike_9 n) h12q l0 l1 l2 l4 (-1)) else (M_unlike_57 (M_unlike_9 n) h12q l0 l1 l2 l4 l4)) else (M_unlike_64 h l0 l3))
def M_unlike (h : pm_H) (t : Nat) (a1 : Int32) (a2 : Int32) : Option (pm_H × Int32) := grd (op_is h t 6) <| bn2 (M_keeps h t) fun h1q _ => M_unlike_9 1000 h1q t a1 a2 (-1) 0
/-- DunesWalkedModel.judge(II)I -/
def M_judge (h : pm_H) (t : Nat) (a1 : Int32) (a2 : Int32) : Option (pm_H × Int32) := grd (op_is h t 6) <| bn2 (M_toldWrong h t a1 a2) fun h1q x2q => if x2q = 0 then (grd (op_is h1q t 6) <| bn2 (M_unlike h1q t a1 a2) fun h5q x6q => some (h5q, x6q)) else (some (h1q, x2q))
/-- DunesWalkedModel.kinds(III)I -/
def M_kinds_121 (k_50 : pm_H → Nat → Int32 → Int32 → Int32 → Int32 → Int32 → Int32 → Int32 → Option (pm_H × Int32)) (h : pm_H) (l0 : Nat) (l1 : Int32) (l2 : Int32) (l3 : Int32) (l5 : Int32) (l6 : Int32) (l8 : Int32) (s0 : Int32) (s1 : Int32) : Option (pm_H × Int32) := nmd (s1 ||| s0) fun y1q => nmd (l8 + 1) fun y2q => k_50 h l0 l1 l2 l3 l5 l6 y1q y2q
def M_kinds_100 (k_50 : pm_H → Nat → Int32 → Int32 → Int32 → Int32 → Int32 → Int32 → Int32 → Option (pm_H × Int32)) (h : pm_H) (l0 : Nat) (l1 : Int32) (l2 : Int32) (l3 : Int32) (l5 : Int32) (l6 : Int32) (l7 : Int32) (l8 : Int32) (s0 : Int32) (s1 : Int32) (s2 : Option Nat) : Option (pm_H × Int32) := bnd s2 fun u1q => bnd (op_sI h u1q s1 s0) fun h2q => grd (op_is h2q l0 6) <| bn2 (M_unlike h2q l0 l1 l2) fun h3q x4q => if x4q = (-1) then (M_kinds_121 k_50 h3q l0 l1 l2 l3 l5 l6 l8 (1 <<< (l8 &&& 31)) l7) else (M_kinds_121 k_50 h3q l0 l1 l2 l3 l5 l6 l8 0 l7)
def M_kinds_82 (k_50 : pm_H → Nat → Int32 → Int32 → Int32 → Int32 → Int32 → Int32 → Int32 → Option (pm_H × Int32)) (h : pm_H) (l0 : Nat) (l1 : Int32) (l2 : Int32) (l3 : Int32) (l5 : Int32) (l6 : Int32) (l7 : Int32) (l8 : Int32) (s0 : Int32) (s1 : Int32) (s2 : Option Nat) : Option (pm_H × Int32) := bnd s2 fun u1q => bnd (op_sI h u1q s1 s0) fun h2q => bnd (op_A h2q l0 6 2) fun x3q => if l3 = 1 then (M_kinds_100 k_50 h2q l0 l1 l2 l3 l5 l6 l7 l8 l8 l2 x3q) else (M_kinds_100 k_50 h2q l0 l1 l2 l3 l5 l6 l7 l8 l6 l2 x3q)
def M_kinds_63 (k_50 : pm_H → Nat → Int32 → Int32 → Int32 → Int32 → Int32 → Int32 → Int32 → Option (pm_H × Int32)) (h : pm_H) (l0 : Nat) (l1 : Int32) (l2 : Int32) (l3 : Int32) (l5 : Int32) (l6 : Int32) (l7 : Int32) (l8 : Int32) (s0 : Int32) (s1 : Int32) : Option (pm_H × Int32) := if s0 ≤ s1 then (bnd (op_A h l0 6 1) fun x2q => bnd x2q fun u3q => bnd (op_sI h u3q l2 l5) fun h4q => bnd (op_A h4q l0 6 2) fun x5q => bnd x5q fun u6q => bnd (op_sI h4q u6q l2 l6) fun h7q => some (h7q, l7)) else (bnd (op_A h l0 6 1) fun x8q => if l3 = 0 then (M_kinds_82 k_50 h l0 l1 l2 l3 l5 l6 l7 l8 l8 l2 x8q) else (M_kinds_82 k_50 h l0 l1 l2 l3 l5 l6 l7 l8 l5 l2 x8q))
def M_kinds_50 : Nat → pm_H → Nat → Int32 → Int32 → Int32 → Int32 → Int32 → Int32 → Int32 → Option (pm_H × Int32)
  | 0, _, _, _, _, _, _, _, _, _ => none
  | n + 1, h, l0, l1, l2, l3, l5, l6, l7, l8 => if l3 = 0 then (M_kinds_63 (M_kinds_50 n) h l0 l1 l2 l3 l5 l6 l7 l8 6 l8) else (M_kinds_63 (M_kinds_50 n) h l0 l1 l2 l3 l5 l6 l7 l8 10 l8)
def M_kinds (h : pm_H) (t : Nat) (a1 : Int32) (a2 : Int32) (a3 : Int32) : Option (pm_H × Int32) := grd (op_is h t 6) <| bn2 (M_toldWrong h t a1 a2) fun h1q x2q => if x2q = 0 then (bn2 (M_in h1q a3 0 1) fun h5q x6q => if x6q = 0 then (some (h5q, (-7))) else (bnd (op_A h5q t 6 1) fun x8q => bnd x8q fun u9q => bnd (op_aI h5q u9q a2) fun x10q => bnd (op_A h5q t 6 2) fun x11q => bnd x11q fun u12q => bnd (op_aI h5q u12q a2) fun x13q => M_kinds_50 1000 h5q t a1 a2 a3 x10q x13q 0 0)) else (some (h1q, x2q))
/-- DunesWalkedModel.states(IIII)I -/
def M_states_160 (k_91 : pm_H → Nat → Int32 → Int32 → Int32 → Int32 → Int32 → Int32 → Int32 → Int32 → Int32 → Option (pm_H × Int32)) (h : pm_H) (l0 : Nat) (l1 : Int32) (l2 : Int32) (l3 : Int32) (l4 : Int32) (l6 : Int32) (l7 : Int32) (l9 : Int32) (l10 : Int32) (s0 : Int32) : Option (pm_H × Int32) := nmd (l10 + 1) fun y1q => k_91 h l0 l1 l2 l3 l4 l6 l7 s0 l9 y1q
def M_states_158 (k_91 : pm_H → Nat → Int32 → Int32 → Int32 → Int32 → Int32 → Int32 → Int32 → Int32 → Int32 → Option (pm_H × Int32)) (h : pm_H) (l0 : Nat) (l1 : Int32) (l2 : Int32) (l3 : Int32) (l4 : Int32) (l6 : Int32) (l7 : Int32) (l8 : Int32) (l9 : Int32) (l10 : Int32) : Option (pm_H × Int32) := M_states_160 k_91 h l0 l1 l2 l3 l4 l6 l7 l9 l10 l8
def M_states_139 (k_91 : pm_H → Nat → Int32 → Int32 → Int32 → Int32 → Int32 → Int32 → Int32 → Int32 → Int32 → Option (pm_H × Int32)) (h : pm_H) (l0 : Nat) (l1 : Int32) (l2 : Int32) (l3 : Int32) (l4 : Int32) (l6 : Int32) (l8 : Int32) (l9 : Int32) (l10 : Int32) (l11 : Int32) (s0 : Int32) (s1 : Int32) : Option (pm_H × Int32) := nmd (s1 + s0) fun y1q => if l11 = 0 then (M_states_158 k_91 h l0 l1 l2 l3 l4 l6 y1q l8 l9 l10) else (if l8 = (-1) then (M_states_160 k_91 h l0 l1 l2 l3 l4 l6 y1q l9 l10 l10) else (M_states_158 k_91 h l0 l1 l2 l3 l4 l6 y1q l8 l9 l10))
def M_states_125 (k_91 : pm_H → Nat → Int32 → Int32 → Int32 → Int32 → Int32 → Int32 → Int32 → Int32 → Int32 → Option (pm_H × Int32)) (h : pm_H) (l0 : Nat) (l1 : Int32) (l2 : Int32) (l3 : Int32) (l4 : Int32) (l6 : Int32) (l7 : Int32) (l8 : Int32) (l9 : Int32) (l10 : Int32) (s0 : Int32) : Option (pm_H × Int32) := if s0 = 0 then (M_states_139 k_91 h l0 l1 l2 l3 l4 l6 l8 l9 l10 s0 0 l7) else (M_states_139 k_91 h l0 l1 l2 l3 l4 l6 l8 l9 l10 s0 1 l7)
def M_states_91 : Nat → pm_H → Nat → Int32 → Int32 → Int32 → Int32 → Int32 → Int32 → Int32 → Int32 → Int32 → Option (pm_H × Int32)
  | 0, _, _, _, _, _, _, _, _, _, _, _ => none
  | n + 1, h, l0, l1, l2, l3, l4, l6, l7, l8, l9, l10 => if l9 < l10 then (bnd (op_A h l0 6 3) fun x2q => bnd x2q fun u3q => bnd (op_sI h u3q ((3 * l2) + l3) l6) fun h4q => if l4 = 0 then (some (h4q, l7)) else (some (h4q, l8))) else (bnd (op_A h l0 6 3) fun x6q => bnd x6q fun u7q => bnd (op_sI h u7q ((3 * l2) + l3) l10) fun h8q => grd (op_is h8q l0 6) <| bn2 (M_unlike h8q l0 l1 l2) fun h9q x10q => if x10q = (-1) then (M_states_125 (M_states_91 n) h9q l0 l1 l2 l3 l4 l6 l7 l8 l9 l10 1) else (M_states_125 (M_states_91 n) h9q l0 l1 l2 l3 l4 l6 l7 l8 l9 l10 0))
def M_states_89 (h : pm_H) (l0 : Nat) (l1 : Int32) (l2 : Int32) (l3 : Int32) (l4 : Int32) (l6 : Int32) (l7 : Int32) (l8 : Int32) (l9 : Int32) (s0 : Int32) : Option (pm_H × Int32) := M_states_91 1000 h l0 l1 l2 l3 l4 l6 l7 l8 l9 s0
def M_states_77 (h : pm_H) (l0 : Nat) (l1 : Int32) (l2 : Int32) (l3 : Int32) (l4 : Int32) (l6 : Int32) (l7 : Int32) (l8 : Int32) (s0 : Int32) : Option (pm_H × Int32) := if l3 = 1 then (M_states_89 h l0 l1 l2 l3 l4 l6 l7 l8 s0 1) else (M_states_89 h l0 l1 l2 l3 l4 l6 l7 l8 s0 0)
def M_states (h : pm_H) (t : Nat) (a1 : Int32) (a2 : Int32) (a3 : Int32) (a4 : Int32) : Option (pm_H × Int32) := grd (op_is h t 6) <| bn2 (M_toldWrong h t a1 a2) fun h1q x2q => if x2q = 0 then (bn2 (M_in h1q a3 0 2) fun h5q x6q => if x6q = 0 then (some (h5q, (-7))) else (bn2 (M_in h5q a4 0 1) fun h8q x9q => if x9q = 0 then (some (h8q, (-7))) else (bnd (op_A h8q t 6 3) fun x11q => bnd x11q fun u12q => bnd (op_aI h8q u12q ((3 * a2) + a3)) fun x13q => if a3 = 0 then (M_states_77 h8q t a1 a2 a3 a4 x13q 0 (-1) 39) else (if a3 = 1 then (M_states_77 h8q t a1 a2 a3 a4 x13q 0 (-1) 9) else (M_states_77 h8q t a1 a2 a3 a4 x13q 0 (-1) 99))))) else (some (h1q, x2q))
/-- DunesWalkedModel.whose(I)I -/
def M_whose_58 (k_17 : pm_H → Nat → Int32 → Int32 → Int32 → Option (pm_H × Int32)) (h : pm_H) (l0 : Nat) (l1 : Int32) (l3 : Int32) (l4 : Int32) : Option (pm_H × Int32) := nmd (l4 + 1) fun y1q => k_17 h l0 l1 l3 y1q
def M_whose_56 (k_17 : pm_H → Nat → Int32 → Int32 → Int32 → Option (pm_H × Int32)) (h : pm_H) (l0 : Nat) (l1 : Int32) (l4 : Int32) (s0 : Int32) (s1 : Int32) : Option (pm_H × Int32) := nmd (s1 ||| s0) fun y1q => M_whose_58 k_17 h l0 l1 y1q l4
def M_whose_17 : Nat → pm_H → Nat → Int32 → Int32 → Int32 → Option (pm_H × Int32)
  | 0, _, _, _, _, _ => none
  | n + 1, h, l0, l1, l3, l4 => bnd (op_I h l0 6 0) fun x1q => if x1q ≤ l4 then (some (h, l3)) else (bnd (op_A h l0 6 4) fun x3q => bnd x3q fun u4q => bnd (op_aI h u4q l4) fun x5q => if x5q = 0 then (grd (op_is h l0 6) <| bn2 (M_unlike h l0 l1 l4) fun h7q x8q => if x8q = (-1) then (M_whose_56 (M_whose_17 n) h7q l0 l1 l4 (1 <<< (l4 &&& 31)) l3) else (M_whose_56 (M_whose_17 n) h7q l0 l1 l4 0 l3)) else (M_whose_58 (M_whose_17 n) h l0 l1 l3 l4))
def M_whose (h : pm_H) (t : Nat) (a1 : Int32) : Option (pm_H × Int32) := grd (op_is h t 6) <| bn2 (M_sheetWrong h t a1) fun h1q x2q => if x2q = 0 then (M_whose_17 1000 h1q t a1 0 0) else (some (h1q, x2q))
/-- DunesWalkedModel.laws(II)I -/
def M_laws_60 (k_25 : pm_H → Nat → Int32 → Int32 → Int32 → Int32 → Int32 → Option (pm_H × Int32)) (h : pm_H) (l0 : Nat) (l1 : Int32) (l2 : Int32) (l4 : Int32) (l6 : Int32) (s0 : Int32) (s1 : Int32) : Option (pm_H × Int32) := nmd (s1 ||| s0) fun y1q => nmd (l6 + 1) fun y2q => k_25 h l0 l1 l2 l4 y1q y2q
def M_laws_25 : Nat → pm_H → Nat → Int32 → Int32 → Int32 → Int32 → Int32 → Option (pm_H × Int32)
  | 0, _, _, _, _, _, _, _ => none
  | n + 1, h, l0, l1, l2, l4, l5, l6 => bnd (op_I h l0 6 12) fun x1q => if x1q ≤ l6 then (bnd (op_S h l0 6 13 (.int l4)) fun h3q => some (h3q, l5)) else (bnd (op_S h l0 6 13 (.int l6)) fun h4q => grd (op_is h4q l0 6) <| bn2 (M_unlike h4q l0 l1 l2) fun h5q x6q => if x6q = (-1) then (M_laws_60 (M_laws_25 n) h5q l0 l1 l2 l4 l6 (1 <<< (l6 &&& 31)) l5) else (M_laws_60 (M_laws_25 n) h5q l0 l1 l2 l4 l6 0 l5))
def M_laws (h : pm_H) (t : Nat) (a1 : Int32) (a2 : Int32) : Option (pm_H × Int32) := grd (op_is h t 6) <| bn2 (M_toldWrong h t a1 a2) fun h1q x2q => if x2q = 0 then (bnd (op_I h1q t 6 13) fun x5q => M_laws_25 1000 h1q t a1 a2 x5q 0 0) else (some (h1q, x2q))
/-- DunesWalkedModel.film(III)I -/
def M_film_106 (k_57 : pm_H → Nat → Int32 → Int32 → Int32 → Int32 → Option (pm_H × Int32)) (h : pm_H) (l0 : Nat) (l1 : Int32) (l2 : Int32) (l3 : Int32) (l4 : Int32) : Option (pm_H × Int32) := nmd (l4 + 1) fun y1q => k_57 h l0 l1 l2 l3 y1q
def M_film_57 : Nat → pm_H → Nat → Int32 → Int32 → Int32 → Int32 → Option (pm_H × Int32)
  | 0, _, _, _, _, _, _ => none
  | n + 1, h, l0, l1, l2, l3, l4 => if 40 ≤ l4 then (grd (op_is h l0 6) <| bn2 (M_lays h l0) fun h2q _ => some (h2q, l3)) else (bnd (op_A h l0 6 20) fun x5q => bnd x5q fun u6q => bnd (op_sI h u6q ((40 * l1) + l4) 0) fun h7q => if l3 ≤ l4 then (M_film_106 (M_film_57 n) h7q l0 l1 l2 l3 l4) else (grd (op_is h7q l0 6) <| bn2 (M_yearOf h7q l0) fun h9q x10q => bnd (op_A h9q l0 6 20) fun x12q => grd (op_is h9q l0 6) <| bn2 (M_ofDune h9q l0 l2 0) fun h13q x14q => bnd x12q fun u16q => bnd (op_sI h13q u16q ((40 * l1) + l4) x14q) fun h17q => M_film_106 (M_film_57 n) h17q l0 l1 l2 l3 l4))
def M_film (h : pm_H) (t : Nat) (a1 : Int32) (a2 : Int32) (a3 : Int32) : Option (pm_H × Int32) := bn2 (M_in h a1 0 3) fun h1q x2q => if x2q = 0 then (some (h1q, (-2))) else (grd (op_is h1q t 6) <| bn2 (M_isDune h1q t a2) fun h4q x5q => if x5q = 0 then (some (h4q, (-5))) else (bn2 (M_in h4q a3 0 20) fun h8q x9q => if x9q = 0 then (some (h8q, (-7))) else (bnd (op_A h8q t 6 18) fun x11q => bnd x11q fun u12q => bnd (op_sI h8q u12q a1 0) fun h13q => bnd (op_A h13q t 6 19) fun x14q => bnd x14q fun u15q => bnd (op_sI h13q u15q a1 a3) fun h16q => grd (op_is h16q t 6) <| bn2 (M_keeps h16q t) fun h17q _ => M_film_57 1000 h17q t a1 a2 a3 0)))
/-- DunesWalkedModel.winds(I)I -/
def M_winds_90 (k_15 : pm_H → Nat → Int64 → Int32 → Int32 → Option (pm_H × Int32)) (h : pm_H) (l0 : Nat) (l2 : Int64) (l4 : Int32) (l5 : Int32) : Option (pm_H × Int32) := grd (op_is h l0 6) <| bn2 (M_goes h l0 1) fun h1q x2q => nmd (l4 + x2q) fun y4q => nmd (l5 + 1) fun y5q => k_15 h1q l0 l2 y4q y5q
def M_winds_15 : Nat → pm_H → Nat → Int64 → Int32 → Int32 → Option (pm_H × Int32)
  | 0, _, _, _, _, _ => none
  | n + 1, h, l0, l2, l4, l5 => if 6 ≤ l5 then (grd (op_is h l0 6) <| bn2 (M_there h l0) fun h2q x3q => bnd (op_S h2q l0 6 35 (.int x3q)) fun h5q => grd (op_is h5q l0 6) <| bn2 (M_lays h5q l0) fun h6q _ => some (h6q, l4)) else (nmd ((l2 * 48271) - (l2 * 48271) / 2147483647 * 2147483647) fun y9q => nmd (Int64.toInt32 (y9q - y9q / 6 * 6)) fun y10q => nmd ((y9q * 48271) - (y9q * 48271) / 2147483647 * 2147483647) fun y11q => grd (op_is h l0 6) <| bn2 (M_isDune h l0 y10q) fun h12q x13q => if x13q = 0 then (M_winds_90 (M_winds_15 n) h12q l0 y11q l4 l5) else (bnd (op_A h12q l0 6 3) fun x16q => bnd (op_A h12q l0 6 3) fun x17q => bnd x17q fun u18q => bnd (op_aI h12q u18q (3 * y10q)) fun x19q => bn2 (M_within h12q (x19q + (Int64.toInt32 (y11q - y11q / 4 * 4))) 0 39) fun h20q x21q => bnd x16q fun u22q => bnd (op_sI h20q u22q (3 * y10q) x21q) fun h23q => M_winds_90 (M_winds_15 n) h23q l0 y11q l4 l5))
def M_winds (h : pm_H) (t : Nat) (a1 : Int32) : Option (pm_H × Int32) := nmd ((Int32.toInt64 a1) + 1) fun y1q => grd (op_is h t 6) <| bn2 (M_keeps h t) fun h2q _ => M_winds_15 1000 h2q t y1q 0 0
/-- DunesWalkedModel.drawn(II)I -/
def M_drawn (h : pm_H) (t : Nat) (a1 : Int32) (a2 : Int32) : Option (pm_H × Int32) := bn2 (M_in h a1 0 99999) fun h1q x2q => if x2q = 0 then (some (h1q, (-2))) else (bn2 (M_in h1q a2 0 1) fun h4q x5q => if x5q = 0 then (some (h4q, (-2))) else (grd (op_is h4q t 6) <| bn2 (M_winds h4q t a1) fun h7q x8q => if a2 = 0 then (some (h7q, x8q)) else (bnd (op_I h7q t 6 35) fun x11q => some (h7q, x11q))))
/-- DunesWalkedModel.odds(IIII)J -/
def M_odds_77 (k_52 : pm_H → Nat → Int32 → Int32 → Int32 → Int32 → Int64 → Int32 → Option (pm_H × Int64)) (h : pm_H) (l0 : Nat) (l1 : Int32) (l2 : Int32) (l3 : Int32) (l4 : Int32) (l7 : Int32) (s0 : Int64) (s1 : Int64) : Option (pm_H × Int64) := nmd (s1 + s0) fun y1q => nmd (l7 + 1) fun y2q => k_52 h l0 l1 l2 l3 l4 y1q y2q
def M_odds_52 : Nat → pm_H → Nat → Int32 → Int32 → Int32 → Int32 → Int64 → Int32 → Option (pm_H × Int64)
  | 0, _, _, _, _, _, _, _, _ => none
  | n + 1, h, l0, l1, l2, l3, l4, l5, l7 => if l2 ≤ l7 then (bn2 (M_lowest h l5 (Int32.toInt64 l2) l4) fun h2q x3q => some (h2q, x3q)) else (grd (op_is h l0 6) <| bn2 (M_winds h l0 (l1 + l7)) fun h4q x5q => if x5q < l3 then (M_odds_77 (M_odds_52 n) h4q l0 l1 l2 l3 l4 l7 0 l5) else (M_odds_77 (M_odds_52 n) h4q l0 l1 l2 l3 l4 l7 1 l5))
def M_odds (h : pm_H) (t : Nat) (a1 : Int32) (a2 : Int32) (a3 : Int32) (a4 : Int32) : Option (pm_H × Int64) := bn2 (M_in h a1 0 99999) fun h1q x2q => if x2q = 0 then (some (h1q, (-4611686018427387904))) else (bn2 (M_in h1q a2 1 40) fun h4q x5q => if x5q = 0 then (some (h4q, (-4611686018427387904))) else (bn2 (M_in h4q a3 0 999) fun h7q x8q => if x8q = 0 then (some (h7q, (-4611686018427387904))) else (bn2 (M_in h7q a4 0 1) fun h10q x11q => if x11q = 0 then (some (h10q, (-4611686018427387904))) else (M_odds_52 1000 h10q t a1 a2 a3 a4 0 0))))
/-- DunesWalkedModel.image()I -/
def M_image_33 : Nat → pm_H → Nat → Int32 → Option (pm_H × Int32)
  | 0, _, _, _ => none
  | n + 1, h, l0, l1 => if 6 ≤ l1 then (bnd (op_A h l0 6 16) fun x2q => bnd (op_J h l0 6 5) fun x3q => bnd x2q fun u4q => bnd (op_sJ h u4q 0 x3q) fun h5q => bnd (op_A h5q l0 6 16) fun x6q => bnd (op_J h5q l0 6 6) fun x7q => bnd x6q fun u8q => bnd (op_sJ h5q u8q 1 x7q) fun h9q => bnd (op_A h9q l0 6 17) fun x10q => bnd (op_I h9q l0 6 0) fun x11q => bnd x10q fun u12q => bnd (op_sI h9q u12q 0 x11q) fun h13q => bnd (op_A h13q l0 6 17) fun x14q => bnd (op_I h13q l0 6 7) fun x15q => bnd x14q fun u16q => bnd (op_sI h13q u16q 1 x15q) fun h17q => bnd (op_A h17q l0 6 17) fun x18q => bnd (op_I h17q l0 6 13) fun x19q => bnd x18q fun u20q => bnd (op_sI h17q u20q 2 x19q) fun h21q => bnd (op_I h21q l0 6 0) fun x22q => some (h21q, x22q)) else (bnd (op_A h l0 6 15) fun x23q => bnd (op_A h l0 6 4) fun x24q => bnd x24q fun u25q => bnd (op_aI h u25q l1) fun x26q => bnd x23q fun u27q => bnd (op_sI h u27q (18 + l1) x26q) fun h28q => nmd (l1 + 1) fun y29q => M_image_33 n h28q l0 y29q)
def M_image_7 : Nat → pm_H → Nat → Int32 → Option (pm_H × Int32)
  | 0, _, _, _ => none
  | n + 1, h, l0, l1 => if 18 ≤ l1 then (M_image_33 1000 h l0 0) else (bnd (op_A h l0 6 15) fun x2q => bnd (op_A h l0 6 3) fun x3q => bnd x3q fun u4q => bnd (op_aI h u4q l1) fun x5q => bnd x2q fun u6q => bnd (op_sI h u6q l1 x5q) fun h7q => nmd (l1 + 1) fun y8q => M_image_7 n h7q l0 y8q)
def M_image (h : pm_H) (t : Nat) : Option (pm_H × Int32) := bnd (op_S h t 6 14 (.int 1)) fun h1q => M_image_7 1000 h1q t 0
/-- DunesWalkedModel.back()I -/
def M_back_38 : Nat → pm_H → Nat → Int32 → Option (pm_H × Int32)
  | 0, _, _, _ => none
  | n + 1, h, l0, l1 => if 6 ≤ l1 then (bnd (op_A h l0 6 16) fun x2q => bnd x2q fun u3q => bnd (op_aJ h u3q 0) fun x4q => bnd (op_S h l0 6 5 (.long x4q)) fun h5q => bnd (op_A h5q l0 6 16) fun x6q => bnd x6q fun u7q => bnd (op_aJ h5q u7q 1) fun x8q => bnd (op_S h5q l0 6 6 (.long x8q)) fun h9q => bnd (op_A h9q l0 6 17) fun x10q => bnd x10q fun u11q => bnd (op_aI h9q u11q 0) fun x12q => bnd (op_S h9q l0 6 0 (.int x12q)) fun h13q => bnd (op_A h13q l0 6 17) fun x14q => bnd x14q fun u15q => bnd (op_aI h13q u15q 1) fun x16q => bnd (op_S h13q l0 6 7 (.int x16q)) fun h17q => bnd (op_A h17q l0 6 17) fun x18q => bnd x18q fun u19q => bnd (op_aI h17q u19q 2) fun x20q => bnd (op_S h17q l0 6 13 (.int x20q)) fun h21q => bnd (op_I h21q l0 6 0) fun x22q => some (h21q, x22q)) else (bnd (op_A h l0 6 4) fun x23q => bnd (op_A h l0 6 15) fun x24q => bnd x24q fun u25q => bnd (op_aI h u25q (18 + l1)) fun x26q => bnd x23q fun u27q => bnd (op_sI h u27q l1 x26q) fun h28q => nmd (l1 + 1) fun y29q => M_back_38 n h28q l0 y29q)
def M_back_12 : Nat → pm_H → Nat → Int32 → Option (pm_H × Int32)
  | 0, _, _, _ => none
  | n + 1, h, l0, l1 => if 18 ≤ l1 then (M_back_38 1000 h l0 0) else (bnd (op_A h l0 6 3) fun x2q => bnd (op_A h l0 6 15) fun x3q => bnd x3q fun u4q => bnd (op_aI h u4q l1) fun x5q => bnd x2q fun u6q => bnd (op_sI h u6q l1 x5q) fun h7q => nmd (l1 + 1) fun y8q => M_back_12 n h7q l0 y8q)
def M_back (h : pm_H) (t : Nat) : Option (pm_H × Int32) := bnd (op_I h t 6 14) fun x1q => if x1q = 0 then (some (h, (-3))) else (M_back_12 1000 h t 0)
/-- DunesWalkedModel.sheet(III)I -/
def M_sheet_70 : Nat → pm_H → Nat → Int32 → Int32 → Option (pm_H × Int32)
  | 0, _, _, _, _ => none
  | n + 1, h, l0, l1, l4 => if 40 ≤ l4 then (some (h, 1)) else (bnd (op_A h l0 6 20) fun x2q => bnd x2q fun u3q => bnd (op_sI h u3q ((40 * l1) + l4) 0) fun h4q => nmd (l4 + 1) fun y5q => M_sheet_70 n h4q l0 l1 y5q)
def M_sheet_66 (h : pm_H) (l0 : Nat) (l1 : Int32) (s0 : Int32) (s1 : Int32) (s2 : Option Nat) : Option (pm_H × Int32) := bnd s2 fun u1q => bnd (op_sI h u1q s1 s0) fun h2q => M_sheet_70 1000 h2q l0 l1 0
def M_sheet_44 (h : pm_H) (l0 : Nat) (l1 : Int32) (l2 : Int32) (l3 : Int32) : Option (pm_H × Int32) := bnd (op_A h l0 6 18) fun x1q => bnd x1q fun u2q => bnd (op_sI h u2q l1 l2) fun h3q => bnd (op_A h3q l0 6 19) fun x4q => if l2 = (-1) then (M_sheet_66 h3q l0 l1 0 l1 x4q) else (M_sheet_66 h3q l0 l1 l3 l1 x4q)
def M_sheet_32 (h : pm_H) (l0 : Nat) (l1 : Int32) (l2 : Int32) (l3 : Int32) : Option (pm_H × Int32) := if l2 = (-1) then (M_sheet_44 h l0 l1 l2 l3) else (if (0 : Int32) ≤ l3 then (M_sheet_44 h l0 l1 l2 l3) else (some (h, (-14))))
def M_sheet (h : pm_H) (t : Nat) (a1 : Int32) (a2 : Int32) (a3 : Int32) : Option (pm_H × Int32) := bn2 (M_in h a1 0 3) fun h1q x2q => if x2q = 0 then (some (h1q, (-2))) else (bn2 (M_in h1q a2 (-1) 2) fun h4q x5q => if x5q = 0 then (some (h4q, (-2))) else (if a2 = (-1) then (M_sheet_32 h4q t a1 a2 a3) else (if a3 ≤ 40 then (M_sheet_32 h4q t a1 a2 a3) else (some (h4q, (-2))))))
/-- DunesWalkedModel.cell(III)I -/
def M_cell_84 (h : pm_H) (s0 : Int32) (s1 : Int32) (s2 : Option Nat) : Option (pm_H × Int32) := bnd s2 fun u1q => bnd (op_sI h u1q s1 s0) fun h2q => some (h2q, 1)
def M_cell (h : pm_H) (t : Nat) (a1 : Int32) (a2 : Int32) (a3 : Int32) : Option (pm_H × Int32) := bn2 (M_in h a1 0 3) fun h1q x2q => if x2q = 0 then (some (h1q, (-2))) else (bnd (op_A h1q t 6 18) fun x4q => bnd x4q fun u5q => bnd (op_aI h1q u5q a1) fun x6q => if x6q = (-1) then (some (h1q, (-11))) else (bnd (op_A h1q t 6 19) fun x8q => bnd x8q fun u9q => bnd (op_aI h1q u9q a1) fun x10q => bn2 (M_in h1q a2 0 (x10q - 1)) fun h11q x12q => if x12q = 0 then (some (h11q, (-12))) else (bnd (op_A h11q t 6 20) fun x14q => bnd (op_A h11q t 6 18) fun x15q => bnd x15q fun u16q => bnd (op_aI h11q u16q a1) fun x17q => if x17q = 0 then (M_cell_84 h11q (Int8.toInt32 (Int32.toInt8 a3)) ((40 * a1) + a2) x14q) else (bnd (op_A h11q t 6 18) fun x19q => bnd x19q fun u20q => bnd (op_aI h11q u20q a1) fun x21q => if x21q = 1 then (M_cell_84 h11q (Int16.toInt32 (Int32.toInt16 a3)) ((40 * a1) + a2) x14q) else (M_cell_84 h11q a3 ((40 * a1) + a2) x14q)))))
/-- DunesWalkedModel.copy(IIIII)I -/
def M_copy_173 (k_147 : pm_H → Nat → Int32 → Int32 → Int32 → Int32 → Option (pm_H × Int32)) (h : pm_H) (l0 : Nat) (l5 : Int32) (l6 : Int32) (l7 : Int32) (l8 : Int32) (s0 : Int32) : Option (pm_H × Int32) := bnd (op_A h l0 6 20) fun x1q => bnd (op_A h l0 6 20) fun x2q => bnd x2q fun u3q => bnd (op_aI h u3q (l6 + s0)) fun x4q => bnd x1q fun u5q => bnd (op_sI h u5q (l7 + s0) x4q) fun h6q => nmd (l8 + 1) fun y7q => k_147 h6q l0 l5 l6 l7 y7q
def M_copy_147 : Nat → pm_H → Nat → Int32 → Int32 → Int32 → Int32 → Option (pm_H × Int32)
  | 0, _, _, _, _, _, _ => none
  | n + 1, h, l0, l5, l6, l7, l8 => if l5 ≤ l8 then (some (h, l5)) else (if l7 ≤ l6 then (M_copy_173 (M_copy_147 n) h l0 l5 l6 l7 l8 l8) else (M_copy_173 (M_copy_147 n) h l0 l5 l6 l7 l8 ((l5 - 1) - l8)))
def M_copy (h : pm_H) (t : Nat) (a1 : Int32) (a2 : Int32) (a3 : Int32) (a4 : Int32) (a5 : Int32) : Option (pm_H × Int32) := bn2 (M_in h a1 0 3) fun h1q x2q => if x2q = 0 then (some (h1q, (-2))) else (bn2 (M_in h1q a3 0 3) fun h4q x5q => if x5q = 0 then (some (h4q, (-2))) else (bnd (op_A h4q t 6 18) fun x7q => bnd x7q fun u8q => bnd (op_aI h4q u8q a1) fun x9q => if x9q = (-1) then (some (h4q, (-11))) else (bnd (op_A h4q t 6 18) fun x11q => bnd x11q fun u12q => bnd (op_aI h4q u12q a3) fun x13q => if x13q = (-1) then (some (h4q, (-11))) else (bnd (op_A h4q t 6 18) fun x15q => bnd x15q fun u16q => bnd (op_aI h4q u16q a1) fun x17q => bnd (op_A h4q t 6 18) fun x18q => bnd x18q fun u19q => bnd (op_aI h4q u19q a3) fun x20q => if x17q = x20q then (if a5 < 0 then (some (h4q, (-12))) else (if a2 < 0 then (some (h4q, (-12))) else (if a4 < 0 then (some (h4q, (-12))) else (bnd (op_A h4q t 6 19) fun x25q => bnd x25q fun u26q => bnd (op_aI h4q u26q a1) fun x27q => if x27q < a2 then (some (h4q, (-12))) else (bnd (op_A h4q t 6 19) fun x29q => bnd x29q fun u30q => bnd (op_aI h4q u30q a3) fun x31q => if x31q < a4 then (some (h4q, (-12))) else (bnd (op_A h4q t 6 19) fun x33q => bnd x33q fun u34q => bnd (op_aI h4q u34q a1) fun x35q => if (x35q - a2) < a5 then (some (h4q, (-12))) else (bnd (op_A h4q t 6 19) fun x37q => bnd x37q fun u38q => bnd (op_aI h4q u38q a3) fun x39q => if a5 ≤ (x39q - a4) then (nmd ((40 * a1) + a2) fun y41q => nmd ((40 * a3) + a4) fun y42q => M_copy_147 1000 h4q t a5 y41q y42q 0) else (some (h4q, (-12)))))))))) else (some (h4q, (-13)))))))
/-- DunesWalkedModel.dunesBy(IIII)I -/
def M_dunesBy_144 (k_64 : pm_H → Nat → Int32 → Int32 → Int32 → Int32 → Int32 → Option (pm_H × Int32)) (h : pm_H) (l0 : Nat) (l1 : Int32) (l3 : Int32) (l4 : Int32) (l6 : Int32) (s0 : Int32) (s1 : Int32) : Option (pm_H × Int32) := nmd (s1 + s0) fun y1q => nmd (l6 + 1) fun y2q => k_64 h l0 l1 l3 l4 y1q y2q
def M_dunesBy_64 : Nat → pm_H → Nat → Int32 → Int32 → Int32 → Int32 → Int32 → Option (pm_H × Int32)
  | 0, _, _, _, _, _, _, _ => none
  | n + 1, h, l0, l1, l3, l4, l5, l6 => if l4 ≤ l6 then (some (h, l5)) else (nmd (l3 + (2 * l6)) fun y2q => if l3 < 0 then (some (h, (-12))) else (if y2q < l3 then (some (h, (-12))) else (bnd (op_A h l0 6 19) fun x5q => bnd x5q fun u6q => bnd (op_aI h u6q l1) fun x7q => if y2q ≤ (x7q - 2) then (nmd ((40 * l1) + y2q) fun y9q => bnd (op_A h l0 6 20) fun x10q => bnd x10q fun u11q => bnd (op_aI h u11q y9q) fun x12q => bnd (op_A h l0 6 20) fun x13q => bnd x13q fun u14q => bnd (op_aI h u14q (y9q + 1)) fun x15q => grd (op_is h l0 6) <| bn2 (M_dune h l0 x12q x15q) fun h16q x17q => if x17q < 0 then (M_dunesBy_144 (M_dunesBy_64 n) h16q l0 l1 l3 l4 l6 0 l5) else (M_dunesBy_144 (M_dunesBy_64 n) h16q l0 l1 l3 l4 l6 1 l5)) else (some (h, (-12))))))
def M_dunesBy (h : pm_H) (t : Nat) (a1 : Int32) (a2 : Int32) (a3 : Int32) (a4 : Int32) : Option (pm_H × Int32) := bn2 (M_in h a1 0 3) fun h1q x2q => if x2q = 0 then (some (h1q, (-2))) else (bn2 (M_in h1q a2 0 2) fun h4q x5q => if x5q = 0 then (some (h4q, (-2))) else (bn2 (M_in h4q a4 0 6) fun h7q x8q => if x8q = 0 then (some (h7q, (-2))) else (bnd (op_A h7q t 6 18) fun x10q => bnd x10q fun u11q => bnd (op_aI h7q u11q a1) fun x12q => if x12q = (-1) then (some (h7q, (-11))) else (bnd (op_A h7q t 6 18) fun x14q => bnd x14q fun u15q => bnd (op_aI h7q u15q a1) fun x16q => if x16q = a2 then (M_dunesBy_64 1000 h7q t a1 a3 a4 0 0) else (some (h7q, (-13)))))))
/-- DunesWalkedModel.isUnder(II)Z -/
def M_isUnder_29 (h : pm_H) : Option (pm_H × Int32) := some (h, 1)
def M_isUnder_19 (h : pm_H) (l0 : Int32) (l1 : Int32) : Option (pm_H × Int32) := if l1 = 2 then (if l0 = 4 then (M_isUnder_29 h) else (some (h, 0))) else (some (h, 0))
def M_isUnder (h : pm_H) (a0 : Int32) (a1 : Int32) : Option (pm_H × Int32) := if a1 = 0 then (M_isUnder_29 h) else (if a0 = a1 then (M_isUnder_29 h) else (if a1 = 1 then (if a0 = 3 then (M_isUnder_29 h) else (M_isUnder_19 h a0 a1)) else (M_isUnder_19 h a0 a1)))
/-- DunesWalkedModel.taken(II)I -/
def M_taken (h : pm_H) (t : Nat) (a1 : Int32) (a2 : Int32) : Option (pm_H × Int32) := bn2 (M_in h a2 0 6) fun h1q x2q => if x2q = 0 then (some (h1q, (-2))) else (bn2 (M_in h1q a1 0 11) fun h4q x5q => if x5q = 0 then (some (h4q, (-12))) else (bnd (op_I h4q t 6 0) fun x7q => if (a1 - a1 / 6 * 6) < x7q then (if a1 < 6 then (if 6 ≤ a2 then (some (h4q, (-13))) else (bnd (op_A h4q t 6 1) fun x11q => bnd x11q fun u12q => bnd (op_aI h4q u12q a1) fun x13q => bn2 (M_isUnder h4q x13q a2) fun h14q x15q => if x15q = 0 then (some (h14q, (-13))) else (some (h14q, a1)))) else (if a2 = 6 then (bnd (op_A h4q t 6 3) fun x18q => bnd x18q fun u19q => bnd (op_aI h4q u19q ((3 * (a1 - 6)) + 2)) fun x20q => some (h4q, x20q)) else (some (h4q, (-13))))) else (some (h4q, (-11)))))
theorem P_M_in {d : Nat} {h h' : pm_H} {r : Int32} {a0 : Int32} {a1 : Int32} {a2 : Int32} (hB : M_in h a0 a1 a2 = some (h', r)) : pm_ev (d + 1) 109 [.int a0, .int a1, .int a2] h (some (.int r)) h' := by
  unfold M_in at hB
  refine pm_ev_mk (L := [.int a0, .int a1, .int a2]) pm_m_109 rfl (Nat.le_of_ble_eq_true rfl) rfl ?_
  refine r_iload_n f109_0 rfl ?_
  refine r_iload_n f109_1 rfl ?_
  by_cases c1q : a0 < a1
  · rw [if_pos c1q] at hB
    refine r_ic_t (t := 14) f109_2 (by decide) c1q ?_
    refine r_iconst f109_14 ci_0 ?_
    exact r_iret pm_m_109 .boolean f109_15 rfl rfl (bool_n (by decide)) (zI hB)
  · rw [if_neg c1q] at hB
    refine r_ic_f 14 f109_2 (by decide) c1q ?_
    refine r_iload_n f109_5 rfl ?_
    refine r_iload_n f109_6 rfl ?_
    by_cases c2q : a2 < a0
    · rw [if_pos c2q] at hB
      refine r_ic_t (t := 14) f109_7 (by decide) c2q ?_
      refine r_iconst f109_14 ci_0 ?_
      exact r_iret pm_m_109 .boolean f109_15 rfl rfl (bool_n (by decide)) (zI hB)
    · rw [if_neg c2q] at hB
      refine r_ic_f 14 f109_7 (by decide) c2q ?_
      refine r_iconst f109_10 ci_1 ?_
      refine r_goto (t := 15) f109_11 (by decide) ?_
      exact r_iret pm_m_109 .boolean f109_15 rfl rfl (bool_n (by decide)) (zI hB)
theorem P_M_within {d : Nat} {h h' : pm_H} {r : Int32} {a0 : Int32} {a1 : Int32} {a2 : Int32} (hB : M_within h a0 a1 a2 = some (h', r)) : pm_ev (d + 1) 110 [.int a0, .int a1, .int a2] h (some (.int r)) h' := by
  unfold M_within at hB
  refine pm_ev_mk (L := [.int a0, .int a1, .int a2]) pm_m_110 rfl (Nat.le_of_ble_eq_true rfl) rfl ?_
  refine r_iload_n f110_0 rfl ?_
  refine r_iload_n f110_1 rfl ?_
  by_cases c1q : a1 ≤ a0
  · rw [if_pos c1q] at hB
    refine r_ic_t (t := 9) f110_2 (by decide) c1q ?_
    refine r_iload_n f110_9 rfl ?_
    refine r_iload_n f110_10 rfl ?_
    by_cases c2q : a0 ≤ a2
    · rw [if_pos c2q] at hB
      refine r_ic_t (t := 18) f110_11 (by decide) c2q ?_
      refine r_iload_n f110_18 rfl ?_
      exact r_iret pm_m_110 .int f110_19 rfl rfl rfl (zI hB)
    · rw [if_neg c2q] at hB
      refine r_ic_f 18 f110_11 (by decide) c2q ?_
      refine r_iload_n f110_14 rfl ?_
      refine r_goto (t := 19) f110_15 (by decide) ?_
      exact r_iret pm_m_110 .int f110_19 rfl rfl rfl (zI hB)
  · rw [if_neg c1q] at hB
    refine r_ic_f 9 f110_2 (by decide) c1q ?_
    refine r_iload_n f110_5 rfl ?_
    refine r_goto (t := 19) f110_6 (by decide) ?_
    exact r_iret pm_m_110 .int f110_19 rfl rfl rfl (zI hB)
theorem P_M_isYard {d : Nat} {h h' : pm_H} {r : Int32} {a0 : Int32} (hB : M_isYard h a0 = some (h', r)) : pm_ev (d + 2) 111 [.int a0] h (some (.int r)) h' := by
  unfold M_isYard at hB
  refine pm_ev_mk (L := [.int a0]) pm_m_111 rfl (Nat.le_of_ble_eq_true rfl) rfl ?_
  refine r_iload_n f111_0 rfl ?_
  refine r_iconst f111_1 ci_0 ?_
  refine r_bipush f111_2 cb_39 ?_
  replace hB := bn2_some hB
  obtain ⟨h1q, x2q, eh1q, hB⟩ := hB
  refine r_statV (as := [.int a0, .int 0, .int 39]) (q := pm_m_109) f111_4 ca_6_79 rfl (by decide) rfl rfl (cs_len (Nat.le_of_ble_eq_true rfl)) (P_M_in (d := d + 0) eh1q) ?_
  replace hB := grd_some hB
  obtain ⟨q3q, hB⟩ := hB
  exact r_iret pm_m_111 .boolean f111_7 rfl rfl (bool_n (of_decide_eq_true q3q)) (zI hB)
theorem P_M_isDune {d : Nat} {h h' : pm_H} {r : Int32} {t : Nat} {a1 : Int32} (hB : M_isDune h t a1 = some (h', r)) : pm_ev (d + 2) 112 [.ref t, .int a1] h (some (.int r)) h' := by
  unfold M_isDune at hB
  refine pm_ev_mk (L := [.ref t, .int a1]) pm_m_112 rfl (Nat.le_of_ble_eq_true rfl) rfl ?_
  refine r_iload_n f112_0 rfl ?_
  refine r_iconst f112_1 ci_0 ?_
  refine r_aload_nN f112_2 rfl ?_
  replace hB := bnd_some hB
  obtain ⟨x1q, ex1q, hB⟩ := hB
  refine r_getI f112_3 fa_6_83 ex1q ?_
  refine r_iconst f112_6 ci_1 ?_
  refine r_isub f112_7 ?_
  replace hB := bn2_some hB
  obtain ⟨h2q, x3q, eh2q, hB⟩ := hB
  refine r_statV (as := [.int a1, .int 0, .int (x1q - 1)]) (q := pm_m_109) f112_8 ca_6_79 rfl (by decide) rfl rfl (cs_len (Nat.le_of_ble_eq_true rfl)) (P_M_in (d := d + 0) eh2q) ?_
  by_cases c4q : x3q = 0
  · rw [if_pos c4q] at hB
    refine r_if_f 16 f112_11 (by decide) (fun q => q c4q) ?_
    refine r_iconst f112_14 ci_0 ?_
    exact r_iret pm_m_112 .boolean f112_15 rfl rfl (bool_n (by decide)) (zI hB)
  · rw [if_neg c4q] at hB
    refine r_if_t (t := 16) f112_11 (by decide) c4q ?_
    refine r_aload_nN f112_16 rfl ?_
    replace hB := bnd_some hB
    obtain ⟨x5q, ex5q, hB⟩ := hB
    refine r_getA f112_17 fa_6_19 ex5q ?_
    refine r_iload_n f112_20 rfl ?_
    replace hB := bnd_some hB
    obtain ⟨u6q, rfl, hB⟩ := hB
    replace hB := bnd_some hB
    obtain ⟨x7q, ex7q, hB⟩ := hB
    refine r_aI f112_21 ex7q ?_
    by_cases c8q : x7q = 0
    · rw [if_pos c8q] at hB
      refine r_if_f 29 f112_22 (by decide) (fun q => q c8q) ?_
      refine r_iconst f112_25 ci_1 ?_
      refine r_goto (t := 30) f112_26 (by decide) ?_
      exact r_iret pm_m_112 .boolean f112_30 rfl rfl (bool_n (by decide)) (zI hB)
    · rw [if_neg c8q] at hB
      refine r_if_t (t := 29) f112_22 (by decide) c8q ?_
      refine r_iconst f112_29 ci_0 ?_
      exact r_iret pm_m_112 .boolean f112_30 rfl rfl (bool_n (by decide)) (zI hB)
theorem P_M_bitsOf_26 {d : Nat} {h' : pm_H} {r : Int32} (k_4 : pm_H → Int64 → Int32 → Int32 → Option (pm_H × Int32)) (hk_4 : ∀ (h : pm_H) (l0 : Int64) (l2 : Int32) (l3 : Int32), k_4 h l0 l2 l3 = some (h', r) → pm_run (pm_ev (d + 0)) 113 4 [.long l0, pm_J, .int l2, .int l3] [] h (fun r1 h1 => r1 = some (.int r) ∧ h1 = h')) (h : pm_H) (l0 : Int64) (l3 : Int32) (s0 : Int32) (s1 : Int32) (hB : M_bitsOf_26 k_4 h l0 l3 s0 s1 = some (h', r)) : pm_run (pm_ev (d + 0)) 113 26 [.long l0, pm_J, pm_J, .int l3] [.int s0, .int s1] h (fun r1 h1 => r1 = some (.int r) ∧ h1 = h') := by
  unfold M_bitsOf_26 at hB
  refine r_iadd f113_26 ?_
  obtain ⟨y1q, hy1q⟩ : ∃ z, z = (s1 + s0) := ⟨_, rfl⟩
  replace hB := nmd_at hy1q hB
  refine r_istore_n (L' := [.long l0, pm_J, .int y1q, .int l3]) (x := y1q) f113_27 hy1q (Nat.le_of_ble_eq_true rfl) rfl ?_
  obtain ⟨y2q, hy2q⟩ : ∃ z, z = l3 + 1 := ⟨_, rfl⟩
  replace hB := nmd_at hy2q hB
  refine r_iinc (L' := [.long l0, pm_J, .int y1q, .int y2q]) (x := y2q) f113_28 rfl (hy2q.trans (congrArg (l3 + ·) ci_1.symm)) rfl ?_
  refine r_goto (t := 4) f113_31 (by decide) ?_
  exact pm_weak (L' := [.long l0, pm_J, .int y1q, .int y2q]) ⟨.inr rfl, .inl rfl, .inr rfl, .inr rfl, trivial⟩ (hk_4 h l0 y1q y2q hB)
theorem P_M_bitsOf_4 {d : Nat} {h' : pm_H} {r : Int32} (n : Nat) : ∀ (h : pm_H) (l0 : Int64) (l2 : Int32) (l3 : Int32), M_bitsOf_4 n h l0 l2 l3 = some (h', r) → pm_run (pm_ev (d + 0)) 113 4 [.long l0, pm_J, .int l2, .int l3] [] h (fun r1 h1 => r1 = some (.int r) ∧ h1 = h') := by
  induction n with
  | zero => intro h l0 l2 l3 hB; cases hB
  | succ n ih =>
    intro h l0 l2 l3 hB
    unfold M_bitsOf_4 at hB
    refine r_iload_n f113_4 rfl ?_
    refine r_bipush f113_5 cb_40 ?_
    by_cases c1q : 40 ≤ l3
    · rw [if_pos c1q] at hB
      refine r_ic_t (t := 34) f113_7 (by decide) c1q ?_
      refine r_iload_n f113_34 rfl ?_
      exact r_iret pm_m_113 .int f113_35 rfl rfl rfl (zI hB)
    · rw [if_neg c1q] at hB
      refine r_ic_f 34 f113_7 (by decide) c1q ?_
      refine r_iload_n f113_10 rfl ?_
      refine r_lload_n f113_11 rfl ?_
      refine r_iload_n f113_12 rfl ?_
      refine r_lshr f113_13 ?_
      refine r_lconst f113_14 cl_1 ?_
      refine r_land f113_15 ?_
      refine r_lconst f113_16 cl_1 ?_
      refine r_lcmp f113_17 ?_
      by_cases c2q : (lg_cmp ((l0 >>> ((l3 : Int32).toInt64 &&& 63)) &&& 1) 1) = 0
      · rw [if_pos c2q] at hB
        refine r_if_f 25 f113_18 (by decide) (fun q => q c2q) ?_
        refine r_iconst f113_21 ci_1 ?_
        refine r_goto (t := 26) f113_22 (by decide) ?_
        exact pm_weak (L' := [.long l0, pm_J, pm_J, .int l3]) ⟨.inr rfl, .inl rfl, .inl rfl, .inr rfl, trivial⟩ (P_M_bitsOf_26 (d := d) (M_bitsOf_4 n) ih h l0 l3 1 l2 hB)
      · rw [if_neg c2q] at hB
        refine r_if_t (t := 25) f113_18 (by decide) c2q ?_
        refine r_iconst f113_25 ci_0 ?_
        exact pm_weak (L' := [.long l0, pm_J, pm_J, .int l3]) ⟨.inr rfl, .inl rfl, .inl rfl, .inr rfl, trivial⟩ (P_M_bitsOf_26 (d := d) (M_bitsOf_4 n) ih h l0 l3 0 l2 hB)
theorem P_M_bitsOf {d : Nat} {h h' : pm_H} {r : Int32} {a0 : Int64} (hB : M_bitsOf h a0 = some (h', r)) : pm_ev (d + 1) 113 [.long a0] h (some (.int r)) h' := by
  unfold M_bitsOf at hB
  refine pm_ev_mk (L := [.long a0, pm_J, pm_J, pm_J]) pm_m_113 rfl (Nat.le_of_ble_eq_true rfl) rfl ?_
  refine r_iconst f113_0 ci_0 ?_
  refine r_istore_n (L' := [.long a0, pm_J, .int 0, pm_J]) (x := 0) f113_1 rfl (Nat.le_of_ble_eq_true rfl) rfl ?_
  refine r_iconst f113_2 ci_0 ?_
  refine r_istore_n (L' := [.long a0, pm_J, .int 0, .int 0]) (x := 0) f113_3 rfl (Nat.le_of_ble_eq_true rfl) rfl ?_
  exact pm_weak (L' := [.long a0, pm_J, .int 0, .int 0]) ⟨.inr rfl, .inl rfl, .inr rfl, .inr rfl, trivial⟩ (P_M_bitsOf_4 (d := d) 1000 h a0 0 0 hB)
theorem P_M_lies_31 {d : Nat} {h' : pm_H} {r : Int64} (n : Nat) : ∀ (h : pm_H) (l0 : Nat) (l1 : Int32) (l2 : Int64) (l4 : Int32), M_lies_31 n h l0 l1 l2 l4 = some (h', r) → pm_run (pm_ev (d + 1)) 114 31 [.ref l0, .int l1, .long l2, pm_J, .int l4] [] h (fun r1 h1 => r1 = some (.long r) ∧ h1 = h') := by
  induction n with
  | zero => intro h l0 l1 l2 l4 hB; cases hB
  | succ n ih =>
    intro h l0 l1 l2 l4 hB
    unfold M_lies_31 at hB
    refine r_iload f114_31 rfl ?_
    refine r_aload_nN f114_33 rfl ?_
    replace hB := bnd_some hB
    obtain ⟨x1q, ex1q, hB⟩ := hB
    refine r_getA f114_34 fa_6_16 ex1q ?_
    refine r_iconst f114_37 ci_3 ?_
    refine r_iload_n f114_38 rfl ?_
    refine r_imul f114_39 ?_
    replace hB := bnd_some hB
    obtain ⟨u2q, rfl, hB⟩ := hB
    replace hB := bnd_some hB
    obtain ⟨x3q, ex3q, hB⟩ := hB
    refine r_aI f114_40 ex3q ?_
    by_cases c4q : x3q < l4
    · rw [if_pos c4q] at hB
      refine r_ic_t (t := 57) f114_41 (by decide) c4q ?_
      refine r_lload_n f114_57 rfl ?_
      exact r_lret pm_m_114 f114_58 rfl rfl (zJ hB)
    · rw [if_neg c4q] at hB
      refine r_ic_f 57 f114_41 (by decide) c4q ?_
      refine r_lload_n f114_44 rfl ?_
      refine r_lconst f114_45 cl_1 ?_
      refine r_iload f114_46 rfl ?_
      refine r_lshl f114_48 ?_
      refine r_lor f114_49 ?_
      obtain ⟨y5q, hy5q⟩ : ∃ z, z = (l2 ||| (1 <<< ((l4 : Int32).toInt64 &&& 63))) := ⟨_, rfl⟩
      replace hB := nmd_at hy5q hB
      refine r_lstore_n (L' := [.ref l0, .int l1, .long y5q, pm_J, .int l4]) (x := y5q) f114_50 hy5q (Nat.le_of_ble_eq_true rfl) rfl ?_
      obtain ⟨y6q, hy6q⟩ : ∃ z, z = l4 + 1 := ⟨_, rfl⟩
      replace hB := nmd_at hy6q hB
      refine r_iinc (L' := [.ref l0, .int l1, .long y5q, pm_J, .int y6q]) (x := y6q) f114_51 rfl (hy6q.trans (congrArg (l4 + ·) ci_1.symm)) rfl ?_
      refine r_goto (t := 31) f114_54 (by decide) ?_
      exact pm_weak (L' := [.ref l0, .int l1, .long y5q, pm_J, .int y6q]) ⟨.inr rfl, .inr rfl, .inr rfl, .inl rfl, .inr rfl, trivial⟩ (ih h l0 l1 y5q y6q hB)
theorem P_M_lies {d : Nat} {h h' : pm_H} {r : Int64} {t : Nat} {a1 : Int32} (hB : M_lies h t a1 = some (h', r)) : pm_ev (d + 2) 114 [.ref t, .int a1] h (some (.long r)) h' := by
  unfold M_lies at hB
  refine pm_ev_mk (L := [.ref t, .int a1, pm_J, pm_J, pm_J]) pm_m_114 rfl (Nat.le_of_ble_eq_true rfl) rfl ?_
  refine r_lconst f114_0 cl_0 ?_
  refine r_lstore_n (L' := [.ref t, .int a1, .long 0, pm_J, pm_J]) (x := 0) f114_1 rfl (Nat.le_of_ble_eq_true rfl) rfl ?_
  refine r_aload_nN f114_2 rfl ?_
  replace hB := bnd_some hB
  obtain ⟨x1q, ex1q, hB⟩ := hB
  refine r_getA f114_3 fa_6_16 ex1q ?_
  refine r_iconst f114_6 ci_3 ?_
  refine r_iload_n f114_7 rfl ?_
  refine r_imul f114_8 ?_
  replace hB := bnd_some hB
  obtain ⟨u2q, rfl, hB⟩ := hB
  replace hB := bnd_some hB
  obtain ⟨x3q, ex3q, hB⟩ := hB
  refine r_aI f114_9 ex3q ?_
  refine r_aload_nN f114_10 rfl ?_
  replace hB := bnd_some hB
  obtain ⟨x4q, ex4q, hB⟩ := hB
  refine r_getA f114_11 fa_6_16 ex4q ?_
  refine r_iconst f114_14 ci_3 ?_
  refine r_iload_n f114_15 rfl ?_
  refine r_imul f114_16 ?_
  refine r_iconst f114_17 ci_1 ?_
  refine r_iadd f114_18 ?_
  replace hB := bnd_some hB
  obtain ⟨u5q, rfl, hB⟩ := hB
  replace hB := bnd_some hB
  obtain ⟨x6q, ex6q, hB⟩ := hB
  refine r_aI f114_19 ex6q ?_
  refine r_isub f114_20 ?_
  refine r_iconst f114_21 ci_1 ?_
  refine r_iadd f114_22 ?_
  refine r_iconst f114_23 ci_0 ?_
  refine r_bipush f114_24 cb_39 ?_
  replace hB := bn2_some hB
  obtain ⟨h7q, x8q, eh7q, hB⟩ := hB
  refine r_statV (as := [.int ((x3q - x6q) + 1), .int 0, .int 39]) (q := pm_m_110) f114_26 ca_6_86 rfl (by decide) rfl rfl (cs_len (Nat.le_of_ble_eq_true rfl)) (P_M_within (d := d + 0) eh7q) ?_
  refine r_istore (L' := [.ref t, .int a1, .long 0, pm_J, .int x8q]) (x := x8q) f114_29 rfl (Nat.le_of_ble_eq_true rfl) rfl ?_
  exact pm_weak (L' := [.ref t, .int a1, .long 0, pm_J, .int x8q]) ⟨.inr rfl, .inr rfl, .inr rfl, .inl rfl, .inr rfl, trivial⟩ (P_M_lies_31 (d := d) 1000 h7q t a1 0 x8q hB)
theorem P_M_sand_31 {d : Nat} {h' : pm_H} {r : Int64} (k_4 : pm_H → Nat → Int64 → Int32 → Option (pm_H × Int64)) (hk_4 : ∀ (h : pm_H) (l0 : Nat) (l1 : Int64) (l3 : Int32), k_4 h l0 l1 l3 = some (h', r) → pm_run (pm_ev (d + 2)) 115 4 [.ref l0, .long l1, pm_J, .int l3] [] h (fun r1 h1 => r1 = some (.long r) ∧ h1 = h')) (h : pm_H) (l0 : Nat) (l3 : Int32) (s0 : Int64) (s1 : Int64) (hB : M_sand_31 k_4 h l0 l3 s0 s1 = some (h', r)) : pm_run (pm_ev (d + 2)) 115 31 [.ref l0, pm_J, pm_J, .int l3] [.long s0, .long s1] h (fun r1 h1 => r1 = some (.long r) ∧ h1 = h') := by
  unfold M_sand_31 at hB
  refine r_lor f115_31 ?_
  obtain ⟨y1q, hy1q⟩ : ∃ z, z = (s1 ||| s0) := ⟨_, rfl⟩
  replace hB := nmd_at hy1q hB
  refine r_lstore_n (L' := [.ref l0, .long y1q, pm_J, .int l3]) (x := y1q) f115_32 hy1q (Nat.le_of_ble_eq_true rfl) rfl ?_
  obtain ⟨y2q, hy2q⟩ : ∃ z, z = l3 + 1 := ⟨_, rfl⟩
  replace hB := nmd_at hy2q hB
  refine r_iinc (L' := [.ref l0, .long y1q, pm_J, .int y2q]) (x := y2q) f115_33 rfl (hy2q.trans (congrArg (l3 + ·) ci_1.symm)) rfl ?_
  refine r_goto (t := 4) f115_36 (by decide) ?_
  exact pm_weak (L' := [.ref l0, .long y1q, pm_J, .int y2q]) ⟨.inr rfl, .inr rfl, .inl rfl, .inr rfl, trivial⟩ (hk_4 h l0 y1q y2q hB)
theorem P_M_sand_4 {d : Nat} {h' : pm_H} {r : Int64} (n : Nat) : ∀ (h : pm_H) (l0 : Nat) (l1 : Int64) (l3 : Int32), M_sand_4 n h l0 l1 l3 = some (h', r) → pm_run (pm_ev (d + 2)) 115 4 [.ref l0, .long l1, pm_J, .int l3] [] h (fun r1 h1 => r1 = some (.long r) ∧ h1 = h') := by
  induction n with
  | zero => intro h l0 l1 l3 hB; cases hB
  | succ n ih =>
    intro h l0 l1 l3 hB
    unfold M_sand_4 at hB
    refine r_iload_n f115_4 rfl ?_
    refine r_aload_nN f115_5 rfl ?_
    replace hB := bnd_some hB
    obtain ⟨x1q, ex1q, hB⟩ := hB
    refine r_getI f115_6 fa_6_83 ex1q ?_
    by_cases c2q : x1q ≤ l3
    · rw [if_pos c2q] at hB
      refine r_ic_t (t := 39) f115_9 (by decide) c2q ?_
      refine r_lload_n f115_39 rfl ?_
      exact r_lret pm_m_115 f115_40 rfl rfl (zJ hB)
    · rw [if_neg c2q] at hB
      refine r_ic_f 39 f115_9 (by decide) c2q ?_
      refine r_lload_n f115_12 rfl ?_
      refine r_aload_nN f115_13 rfl ?_
      replace hB := bnd_some hB
      obtain ⟨x3q, ex3q, hB⟩ := hB
      refine r_getA f115_14 fa_6_19 ex3q ?_
      refine r_iload_n f115_17 rfl ?_
      replace hB := bnd_some hB
      obtain ⟨u4q, rfl, hB⟩ := hB
      replace hB := bnd_some hB
      obtain ⟨x5q, ex5q, hB⟩ := hB
      refine r_aI f115_18 ex5q ?_
      by_cases c6q : x5q = 0
      · rw [if_pos c6q] at hB
        refine r_if_f 30 f115_19 (by decide) (fun q => q c6q) ?_
        refine r_aload_nN f115_22 rfl ?_
        refine r_iload_n f115_23 rfl ?_
        replace hB := grd_some hB
        obtain ⟨g9q, hB⟩ := hB
        replace hB := bn2_some hB
        obtain ⟨h7q, x8q, eh7q, hB⟩ := hB
        refine r_virtV (as := [.int l3]) (q := pm_m_114) f115_24 ca_6_90 rfl rfl rfl (cs_len (Nat.le_of_ble_eq_true rfl)) g9q (P_M_lies (d := d + 0) eh7q) ?_
        refine r_goto (t := 31) f115_27 (by decide) ?_
        exact pm_weak (L' := [.ref l0, pm_J, pm_J, .int l3]) ⟨.inr rfl, .inl rfl, .inl rfl, .inr rfl, trivial⟩ (P_M_sand_31 (d := d) (M_sand_4 n) ih h7q l0 l3 x8q l1 hB)
      · rw [if_neg c6q] at hB
        refine r_if_t (t := 30) f115_19 (by decide) c6q ?_
        refine r_lconst f115_30 cl_0 ?_
        exact pm_weak (L' := [.ref l0, pm_J, pm_J, .int l3]) ⟨.inr rfl, .inl rfl, .inl rfl, .inr rfl, trivial⟩ (P_M_sand_31 (d := d) (M_sand_4 n) ih h l0 l3 0 l1 hB)
theorem P_M_sand {d : Nat} {h h' : pm_H} {r : Int64} {t : Nat} (hB : M_sand h t = some (h', r)) : pm_ev (d + 3) 115 [.ref t] h (some (.long r)) h' := by
  unfold M_sand at hB
  refine pm_ev_mk (L := [.ref t, pm_J, pm_J, pm_J]) pm_m_115 rfl (Nat.le_of_ble_eq_true rfl) rfl ?_
  refine r_lconst f115_0 cl_0 ?_
  refine r_lstore_n (L' := [.ref t, .long 0, pm_J, pm_J]) (x := 0) f115_1 rfl (Nat.le_of_ble_eq_true rfl) rfl ?_
  refine r_iconst f115_2 ci_0 ?_
  refine r_istore_n (L' := [.ref t, .long 0, pm_J, .int 0]) (x := 0) f115_3 rfl (Nat.le_of_ble_eq_true rfl) rfl ?_
  exact pm_weak (L' := [.ref t, .long 0, pm_J, .int 0]) ⟨.inr rfl, .inr rfl, .inl rfl, .inr rfl, trivial⟩ (P_M_sand_4 (d := d) 1000 h t 0 0 hB)
theorem P_M_isOnClover {d : Nat} {h h' : pm_H} {r : Int32} {t : Nat} {a1 : Int32} (hB : M_isOnClover h t a1 = some (h', r)) : pm_ev (d + 3) 116 [.ref t, .int a1] h (some (.int r)) h' := by
  unfold M_isOnClover at hB
  refine pm_ev_mk (L := [.ref t, .int a1]) pm_m_116 rfl (Nat.le_of_ble_eq_true rfl) rfl ?_
  refine r_aload_nN f116_0 rfl ?_
  refine r_iload_n f116_1 rfl ?_
  replace hB := grd_some hB
  obtain ⟨g3q, hB⟩ := hB
  replace hB := bn2_some hB
  obtain ⟨h1q, x2q, eh1q, hB⟩ := hB
  refine r_virtV (as := [.int a1]) (q := pm_m_114) f116_2 ca_6_90 rfl rfl rfl (cs_len (Nat.le_of_ble_eq_true rfl)) g3q (P_M_lies (d := d + 0) eh1q) ?_
  refine r_aload_nN f116_5 rfl ?_
  replace hB := bnd_some hB
  obtain ⟨x4q, ex4q, hB⟩ := hB
  refine r_getJ f116_6 fa_6_94 ex4q ?_
  refine r_land f116_9 ?_
  refine r_lconst f116_10 cl_0 ?_
  refine r_lcmp f116_11 ?_
  by_cases c5q : (lg_cmp (x2q &&& x4q) 0) = 0
  · rw [if_pos c5q] at hB
    refine r_if_t (t := 19) f116_12 (by decide) c5q ?_
    refine r_iconst f116_19 ci_0 ?_
    exact r_iret pm_m_116 .boolean f116_20 rfl rfl (bool_n (by decide)) (zI hB)
  · rw [if_neg c5q] at hB
    refine r_if_f 19 f116_12 (by decide) c5q ?_
    refine r_iconst f116_15 ci_1 ?_
    refine r_goto (t := 20) f116_16 (by decide) ?_
    exact r_iret pm_m_116 .boolean f116_20 rfl rfl (bool_n (by decide)) (zI hB)
theorem P_M_there_4 {d : Nat} {h' : pm_H} {r : Int32} (n : Nat) : ∀ (h : pm_H) (l0 : Nat) (l1 : Int32) (l2 : Int32), M_there_4 n h l0 l1 l2 = some (h', r) → pm_run (pm_ev (d + 0)) 117 4 [.ref l0, .int l1, .int l2] [] h (fun r1 h1 => r1 = some (.int r) ∧ h1 = h') := by
  induction n with
  | zero => intro h l0 l1 l2 hB; cases hB
  | succ n ih =>
    intro h l0 l1 l2 hB
    unfold M_there_4 at hB
    refine r_iload_n f117_4 rfl ?_
    refine r_aload_nN f117_5 rfl ?_
    replace hB := bnd_some hB
    obtain ⟨x1q, ex1q, hB⟩ := hB
    refine r_getI f117_6 fa_6_83 ex1q ?_
    by_cases c2q : x1q ≤ l2
    · rw [if_pos c2q] at hB
      refine r_ic_t (t := 31) f117_9 (by decide) c2q ?_
      refine r_iload_n f117_31 rfl ?_
      exact r_iret pm_m_117 .int f117_32 rfl rfl rfl (zI hB)
    · rw [if_neg c2q] at hB
      refine r_ic_f 31 f117_9 (by decide) c2q ?_
      refine r_iload_n f117_12 rfl ?_
      refine r_iconst f117_13 ci_1 ?_
      refine r_aload_nN f117_14 rfl ?_
      replace hB := bnd_some hB
      obtain ⟨x3q, ex3q, hB⟩ := hB
      refine r_getA f117_15 fa_6_19 ex3q ?_
      refine r_iload_n f117_18 rfl ?_
      replace hB := bnd_some hB
      obtain ⟨u4q, rfl, hB⟩ := hB
      replace hB := bnd_some hB
      obtain ⟨x5q, ex5q, hB⟩ := hB
      refine r_aI f117_19 ex5q ?_
      refine r_isub f117_20 ?_
      refine r_iload_n f117_21 rfl ?_
      refine r_ishl f117_22 ?_
      refine r_ior f117_23 ?_
      obtain ⟨y6q, hy6q⟩ : ∃ z, z = (l1 ||| ((1 - x5q) <<< (l2 &&& 31))) := ⟨_, rfl⟩
      replace hB := nmd_at hy6q hB
      refine r_istore_n (L' := [.ref l0, .int y6q, .int l2]) (x := y6q) f117_24 hy6q (Nat.le_of_ble_eq_true rfl) rfl ?_
      obtain ⟨y7q, hy7q⟩ : ∃ z, z = l2 + 1 := ⟨_, rfl⟩
      replace hB := nmd_at hy7q hB
      refine r_iinc (L' := [.ref l0, .int y6q, .int y7q]) (x := y7q) f117_25 rfl (hy7q.trans (congrArg (l2 + ·) ci_1.symm)) rfl ?_
      refine r_goto (t := 4) f117_28 (by decide) ?_
      exact pm_weak (L' := [.ref l0, .int y6q, .int y7q]) ⟨.inr rfl, .inr rfl, .inr rfl, trivial⟩ (ih h l0 y6q y7q hB)
theorem P_M_there {d : Nat} {h h' : pm_H} {r : Int32} {t : Nat} (hB : M_there h t = some (h', r)) : pm_ev (d + 1) 117 [.ref t] h (some (.int r)) h' := by
  unfold M_there at hB
  refine pm_ev_mk (L := [.ref t, pm_J, pm_J]) pm_m_117 rfl (Nat.le_of_ble_eq_true rfl) rfl ?_
  refine r_iconst f117_0 ci_0 ?_
  refine r_istore_n (L' := [.ref t, .int 0, pm_J]) (x := 0) f117_1 rfl (Nat.le_of_ble_eq_true rfl) rfl ?_
  refine r_iconst f117_2 ci_0 ?_
  refine r_istore_n (L' := [.ref t, .int 0, .int 0]) (x := 0) f117_3 rfl (Nat.le_of_ble_eq_true rfl) rfl ?_
  exact pm_weak (L' := [.ref t, .int 0, .int 0]) ⟨.inr rfl, .inr rfl, .inr rfl, trivial⟩ (P_M_there_4 (d := d) 1000 h t 0 0 hB)
theorem P_M_count {d : Nat} {h h' : pm_H} {r : Int32} {t : Nat} {a1 : Int32} (hB : M_count h t a1 = some (h', r)) : pm_ev (d + 2) 118 [.ref t, .int a1] h (some (.int r)) h' := by
  unfold M_count at hB
  refine pm_ev_mk (L := [.ref t, .int a1]) pm_m_118 rfl (Nat.le_of_ble_eq_true rfl) rfl ?_
  refine r_iload_n f118_0 rfl ?_
  by_cases c1q : a1 = 0
  · rw [if_pos c1q] at hB
    refine r_tsw (off := 47) (t := 48) f118_1 c1q (by decide) (by decide) (by decide) (by decide) ?_
    refine r_aload_nN f118_48 rfl ?_
    replace hB := bnd_some hB
    obtain ⟨x2q, ex2q, hB⟩ := hB
    refine r_getI f118_49 fa_6_83 ex2q ?_
    exact r_iret pm_m_118 .int f118_52 rfl rfl rfl (zI hB)
  rw [if_neg c1q] at hB
  by_cases c3q : a1 = 1
  · rw [if_pos c3q] at hB
    refine r_tsw (off := 52) (t := 53) f118_1 c3q (by decide) (by decide) (by decide) (by decide) ?_
    refine r_aload_nN f118_53 rfl ?_
    replace hB := grd_some hB
    obtain ⟨g6q, hB⟩ := hB
    replace hB := bn2_some hB
    obtain ⟨h4q, x5q, eh4q, hB⟩ := hB
    refine r_virtV (as := []) (q := pm_m_117) f118_54 ca_6_98 rfl rfl rfl (cs_len (Nat.le_of_ble_eq_true rfl)) g6q (P_M_there (d := d + 0) eh4q) ?_
    refine r_i2l f118_57 ?_
    replace hB := bn2_some hB
    obtain ⟨h7q, x8q, eh7q, hB⟩ := hB
    refine r_statV (as := [.long (Int32.toInt64 x5q)]) (q := pm_m_113) f118_58 ca_6_101 rfl (by decide) rfl rfl (cs_len (Nat.le_of_ble_eq_true rfl)) (P_M_bitsOf (d := d + 0) eh7q) ?_
    exact r_iret pm_m_118 .int f118_61 rfl rfl rfl (zI hB)
  rw [if_neg c3q] at hB
  by_cases c9q : a1 = 2
  · rw [if_pos c9q] at hB
    refine r_tsw (off := 61) (t := 62) f118_1 c9q (by decide) (by decide) (by decide) (by decide) ?_
    refine r_aload_nN f118_62 rfl ?_
    replace hB := bnd_some hB
    obtain ⟨x10q, ex10q, hB⟩ := hB
    refine r_getI f118_63 fa_6_105 ex10q ?_
    exact r_iret pm_m_118 .int f118_66 rfl rfl rfl (zI hB)
  rw [if_neg c9q] at hB
  by_cases c11q : a1 = 3
  · rw [if_pos c11q] at hB
    refine r_tsw (off := 66) (t := 67) f118_1 c11q (by decide) (by decide) (by decide) (by decide) ?_
    refine r_aload_nN f118_67 rfl ?_
    replace hB := bnd_some hB
    obtain ⟨x12q, ex12q, hB⟩ := hB
    refine r_getJ f118_68 fa_6_108 ex12q ?_
    replace hB := bn2_some hB
    obtain ⟨h13q, x14q, eh13q, hB⟩ := hB
    refine r_statV (as := [.long x12q]) (q := pm_m_113) f118_71 ca_6_101 rfl (by decide) rfl rfl (cs_len (Nat.le_of_ble_eq_true rfl)) (P_M_bitsOf (d := d + 0) eh13q) ?_
    exact r_iret pm_m_118 .int f118_74 rfl rfl rfl (zI hB)
  rw [if_neg c11q] at hB
  by_cases c15q : a1 = 4
  · rw [if_pos c15q] at hB
    refine r_tsw (off := 74) (t := 75) f118_1 c15q (by decide) (by decide) (by decide) (by decide) ?_
    refine r_aload_nN f118_75 rfl ?_
    replace hB := bnd_some hB
    obtain ⟨x16q, ex16q, hB⟩ := hB
    refine r_getJ f118_76 fa_6_94 ex16q ?_
    replace hB := bn2_some hB
    obtain ⟨h17q, x18q, eh17q, hB⟩ := hB
    refine r_statV (as := [.long x16q]) (q := pm_m_113) f118_79 ca_6_101 rfl (by decide) rfl rfl (cs_len (Nat.le_of_ble_eq_true rfl)) (P_M_bitsOf (d := d + 0) eh17q) ?_
    exact r_iret pm_m_118 .int f118_82 rfl rfl rfl (zI hB)
  rw [if_neg c15q] at hB
  by_cases c19q : a1 = 5
  · rw [if_pos c19q] at hB
    refine r_tsw (off := 82) (t := 83) f118_1 c19q (by decide) (by decide) (by decide) (by decide) ?_
    refine r_aload_nN f118_83 rfl ?_
    replace hB := bnd_some hB
    obtain ⟨x20q, ex20q, hB⟩ := hB
    refine r_getI f118_84 fa_6_111 ex20q ?_
    exact r_iret pm_m_118 .int f118_87 rfl rfl rfl (zI hB)
  rw [if_neg c19q] at hB
  by_cases c21q : a1 = 6
  · rw [if_pos c21q] at hB
    refine r_tsw (off := 87) (t := 88) f118_1 c21q (by decide) (by decide) (by decide) (by decide) ?_
    refine r_aload_nN f118_88 rfl ?_
    replace hB := bnd_some hB
    obtain ⟨x22q, ex22q, hB⟩ := hB
    refine r_getI f118_89 fa_6_114 ex22q ?_
    exact r_iret pm_m_118 .int f118_92 rfl rfl rfl (zI hB)
  rw [if_neg c21q] at hB
  by_cases c23q : a1 = 7
  · rw [if_pos c23q] at hB
    refine r_tsw (off := 92) (t := 93) f118_1 c23q (by decide) (by decide) (by decide) (by decide) ?_
    refine r_aload_nN f118_93 rfl ?_
    replace hB := bnd_some hB
    obtain ⟨x24q, ex24q, hB⟩ := hB
    refine r_getI f118_94 fa_6_71 ex24q ?_
    exact r_iret pm_m_118 .int f118_97 rfl rfl rfl (zI hB)
  rw [if_neg c23q] at hB
  refine r_tswD (t := 98) f118_1 (sw_out 8 (lt_s (lt_s (lt_s (lt_s (lt_s (lt_s (lt_s (lt_s (lt_0) (sw_ne c1q (by decide))) (sw_ne c3q (by decide))) (sw_ne c9q (by decide))) (sw_ne c11q (by decide))) (sw_ne c15q (by decide))) (sw_ne c19q (by decide))) (sw_ne c21q (by decide))) (sw_ne c23q (by decide))) (by decide)) (by decide) ?_
  refine r_bipush f118_98 cb_m2 ?_
  exact r_iret pm_m_118 .int f118_100 rfl rfl rfl (zI hB)
theorem P_M_yard_93 {d : Nat} {h' : pm_H} {r : Int32} (h : pm_H) (l1 : Int32) (l4 : Int64) (hB : M_yard_93 h l1 l4 = some (h', r)) : pm_run (pm_ev (d + 2)) 119 93 [pm_J, .int l1, pm_J, pm_J, .long l4, pm_J, pm_J, pm_J] [] h (fun r1 h1 => r1 = some (.int r) ∧ h1 = h') := by
  unfold M_yard_93 at hB
  refine r_lload f119_93 rfl ?_
  refine r_iload_n f119_95 rfl ?_
  refine r_lshr f119_96 ?_
  refine r_lconst f119_97 cl_1 ?_
  refine r_land f119_98 ?_
  refine r_lconst f119_99 cl_1 ?_
  refine r_lcmp f119_100 ?_
  by_cases c1q : (lg_cmp ((l4 >>> ((l1 : Int32).toInt64 &&& 63)) &&& 1) 1) = 0
  · rw [if_pos c1q] at hB
    refine r_if_f 108 f119_101 (by decide) (fun q => q c1q) ?_
    refine r_iconst f119_104 ci_1 ?_
    refine r_goto (t := 109) f119_105 (by decide) ?_
    exact r_iret pm_m_119 .int f119_109 rfl rfl rfl (zI hB)
  · rw [if_neg c1q] at hB
    refine r_if_t (t := 108) f119_101 (by decide) c1q ?_
    refine r_iconst f119_108 ci_0 ?_
    exact r_iret pm_m_119 .int f119_109 rfl rfl rfl (zI hB)
theorem P_M_yard_72 {d : Nat} {h' : pm_H} {r : Int32} (h : pm_H) (l0 : Nat) (l1 : Int32) (l2 : Int32) (l4 : Int64) (s0 : Int64) (hB : M_yard_72 h l0 l1 l2 l4 s0 = some (h', r)) : pm_run (pm_ev (d + 2)) 119 72 [.ref l0, .int l1, .int l2, pm_J, .long l4, pm_J, pm_J, pm_J] [.long s0] h (fun r1 h1 => r1 = some (.int r) ∧ h1 = h') := by
  unfold M_yard_72 at hB
  refine r_lstore (L' := [.ref l0, .int l1, .int l2, pm_J, .long l4, pm_J, .long s0, pm_J]) (x := s0) f119_72 rfl (Nat.le_of_ble_eq_true rfl) rfl ?_
  refine r_iload_n f119_74 rfl ?_
  by_cases c1q : l2 = 0
  · rw [if_pos c1q] at hB
    refine r_if_f 87 f119_75 (by decide) (fun q => q c1q) ?_
    refine r_aload_nN f119_78 rfl ?_
    refine r_lload f119_79 rfl ?_
    replace hB := bnd_some hB
    obtain ⟨h3q, eh3q, hB⟩ := hB
    refine r_put f119_81 fa_6_108 ty_6_5 rfl rfl (no_fin (nf_6_5)) eh3q ?_
    refine r_goto (t := 93) f119_84 (by decide) ?_
    exact pm_weak (L' := [pm_J, .int l1, pm_J, pm_J, .long l4, pm_J, pm_J, pm_J]) ⟨.inl rfl, .inr rfl, .inl rfl, .inl rfl, .inr rfl, .inl rfl, .inl rfl, .inl rfl, trivial⟩ (P_M_yard_93 (d := d) h3q l1 l4 hB)
  · rw [if_neg c1q] at hB
    refine r_if_t (t := 87) f119_75 (by decide) c1q ?_
    refine r_aload_nN f119_87 rfl ?_
    refine r_lload f119_88 rfl ?_
    replace hB := bnd_some hB
    obtain ⟨h2q, eh2q, hB⟩ := hB
    refine r_put f119_90 fa_6_94 ty_6_6 rfl rfl (no_fin (nf_6_6)) eh2q ?_
    exact pm_weak (L' := [pm_J, .int l1, pm_J, pm_J, .long l4, pm_J, pm_J, pm_J]) ⟨.inl rfl, .inr rfl, .inl rfl, .inl rfl, .inr rfl, .inl rfl, .inl rfl, .inl rfl, trivial⟩ (P_M_yard_93 (d := d) h2q l1 l4 hB)
theorem P_M_yard_46 {d : Nat} {h' : pm_H} {r : Int32} (h : pm_H) (l0 : Nat) (l1 : Int32) (l2 : Int32) (l3 : Int32) (s0 : Int64) (hB : M_yard_46 h l0 l1 l2 l3 s0 = some (h', r)) : pm_run (pm_ev (d + 2)) 119 46 [.ref l0, .int l1, .int l2, .int l3, pm_J, pm_J, pm_J, pm_J] [.long s0] h (fun r1 h1 => r1 = some (.int r) ∧ h1 = h') := by
  unfold M_yard_46 at hB
  refine r_lstore (L' := [.ref l0, .int l1, .int l2, .int l3, .long s0, pm_J, pm_J, pm_J]) (x := s0) f119_46 rfl (Nat.le_of_ble_eq_true rfl) rfl ?_
  refine r_iload_n f119_48 rfl ?_
  refine r_iconst f119_49 ci_1 ?_
  by_cases c1q : l3 = 1
  · rw [if_pos c1q] at hB
    refine r_ic_f 62 f119_50 (by decide) (fun q => q c1q) ?_
    refine r_lload f119_53 rfl ?_
    refine r_lconst f119_55 cl_1 ?_
    refine r_iload_n f119_56 rfl ?_
    refine r_lshl f119_57 ?_
    refine r_lor f119_58 ?_
    refine r_goto (t := 72) f119_59 (by decide) ?_
    exact pm_weak (L' := [.ref l0, .int l1, .int l2, pm_J, .long s0, pm_J, pm_J, pm_J]) ⟨.inr rfl, .inr rfl, .inr rfl, .inl rfl, .inr rfl, .inl rfl, .inl rfl, .inl rfl, trivial⟩ (P_M_yard_72 (d := d) h l0 l1 l2 s0 (s0 ||| (1 <<< ((l1 : Int32).toInt64 &&& 63))) hB)
  · rw [if_neg c1q] at hB
    refine r_ic_t (t := 62) f119_50 (by decide) c1q ?_
    refine r_lload f119_62 rfl ?_
    refine r_lconst f119_64 cl_1 ?_
    refine r_iload_n f119_65 rfl ?_
    refine r_lshl f119_66 ?_
    refine r_ldc2_w (v := (-1)) (p := 962) f119_67 rfl ?_
    refine r_lxor f119_70 ?_
    refine r_land f119_71 ?_
    exact pm_weak (L' := [.ref l0, .int l1, .int l2, pm_J, .long s0, pm_J, pm_J, pm_J]) ⟨.inr rfl, .inr rfl, .inr rfl, .inl rfl, .inr rfl, .inl rfl, .inl rfl, .inl rfl, trivial⟩ (P_M_yard_72 (d := d) h l0 l1 l2 s0 (s0 &&& ((1 <<< ((l1 : Int32).toInt64 &&& 63)) ^^^ (-1))) hB)
theorem P_M_yard {d : Nat} {h h' : pm_H} {r : Int32} {t : Nat} {a1 : Int32} {a2 : Int32} {a3 : Int32} (hB : M_yard h t a1 a2 a3 = some (h', r)) : pm_ev (d + 3) 119 [.ref t, .int a1, .int a2, .int a3] h (some (.int r)) h' := by
  unfold M_yard at hB
  refine pm_ev_mk (L := [.ref t, .int a1, .int a2, .int a3, pm_J, pm_J, pm_J, pm_J]) pm_m_119 rfl (Nat.le_of_ble_eq_true rfl) rfl ?_
  refine r_iload_n f119_0 rfl ?_
  replace hB := bn2_some hB
  obtain ⟨h1q, x2q, eh1q, hB⟩ := hB
  refine r_statV (as := [.int a1]) (q := pm_m_111) f119_1 ca_6_117 rfl (by decide) rfl rfl (cs_len (Nat.le_of_ble_eq_true rfl)) (P_M_isYard (d := d + 0) eh1q) ?_
  by_cases c3q : x2q = 0
  · rw [if_pos c3q] at hB
    refine r_if_f 10 f119_4 (by decide) (fun q => q c3q) ?_
    refine r_bipush f119_7 cb_m5 ?_
    exact r_iret pm_m_119 .int f119_9 rfl rfl rfl (zI hB)
  · rw [if_neg c3q] at hB
    refine r_if_t (t := 10) f119_4 (by decide) c3q ?_
    refine r_iload_n f119_10 rfl ?_
    refine r_iconst f119_11 ci_0 ?_
    refine r_iconst f119_12 ci_1 ?_
    replace hB := bn2_some hB
    obtain ⟨h4q, x5q, eh4q, hB⟩ := hB
    refine r_statV (as := [.int a2, .int 0, .int 1]) (q := pm_m_109) f119_13 ca_6_79 rfl (by decide) rfl rfl (cs_len (Nat.le_of_ble_eq_true rfl)) (P_M_in (d := d + 1) eh4q) ?_
    by_cases c6q : x5q = 0
    · rw [if_pos c6q] at hB
      refine r_if_t (t := 28) f119_16 (by decide) c6q ?_
      refine r_bipush f119_28 cb_m7 ?_
      exact r_iret pm_m_119 .int f119_30 rfl rfl rfl (zI hB)
    · rw [if_neg c6q] at hB
      refine r_if_f 28 f119_16 (by decide) c6q ?_
      refine r_iload_n f119_19 rfl ?_
      refine r_iconst f119_20 ci_0 ?_
      refine r_iconst f119_21 ci_1 ?_
      replace hB := bn2_some hB
      obtain ⟨h7q, x8q, eh7q, hB⟩ := hB
      refine r_statV (as := [.int a3, .int 0, .int 1]) (q := pm_m_109) f119_22 ca_6_79 rfl (by decide) rfl rfl (cs_len (Nat.le_of_ble_eq_true rfl)) (P_M_in (d := d + 1) eh7q) ?_
      by_cases c9q : x8q = 0
      · rw [if_pos c9q] at hB
        refine r_if_f 31 f119_25 (by decide) (fun q => q c9q) ?_
        refine r_bipush f119_28 cb_m7 ?_
        exact r_iret pm_m_119 .int f119_30 rfl rfl rfl (zI hB)
      · rw [if_neg c9q] at hB
        refine r_if_t (t := 31) f119_25 (by decide) c9q ?_
        refine r_iload_n f119_31 rfl ?_
        by_cases c10q : a2 = 0
        · rw [if_pos c10q] at hB
          refine r_if_f 42 f119_32 (by decide) (fun q => q c10q) ?_
          refine r_aload_nN f119_35 rfl ?_
          replace hB := bnd_some hB
          obtain ⟨x12q, ex12q, hB⟩ := hB
          refine r_getJ f119_36 fa_6_108 ex12q ?_
          refine r_goto (t := 46) f119_39 (by decide) ?_
          exact pm_weak (L' := [.ref t, .int a1, .int a2, .int a3, pm_J, pm_J, pm_J, pm_J]) ⟨.inr rfl, .inr rfl, .inr rfl, .inr rfl, .inl rfl, .inl rfl, .inl rfl, .inl rfl, trivial⟩ (P_M_yard_46 (d := d) h7q t a1 a2 a3 x12q hB)
        · rw [if_neg c10q] at hB
          refine r_if_t (t := 42) f119_32 (by decide) c10q ?_
          refine r_aload_nN f119_42 rfl ?_
          replace hB := bnd_some hB
          obtain ⟨x11q, ex11q, hB⟩ := hB
          refine r_getJ f119_43 fa_6_94 ex11q ?_
          exact pm_weak (L' := [.ref t, .int a1, .int a2, .int a3, pm_J, pm_J, pm_J, pm_J]) ⟨.inr rfl, .inr rfl, .inr rfl, .inr rfl, .inl rfl, .inl rfl, .inl rfl, .inl rfl, trivial⟩ (P_M_yard_46 (d := d) h7q t a1 a2 a3 x11q hB)
theorem P_M_parish {d : Nat} {h h' : pm_H} {r : Int64} {t : Nat} {a1 : Int32} (hB : M_parish h t a1 = some (h', r)) : pm_ev (d + 4) 120 [.ref t, .int a1] h (some (.long r)) h' := by
  unfold M_parish at hB
  refine pm_ev_mk (L := [.ref t, .int a1]) pm_m_120 rfl (Nat.le_of_ble_eq_true rfl) rfl ?_
  refine r_iload_n f120_0 rfl ?_
  by_cases c1q : a1 = 0
  · rw [if_pos c1q] at hB
    refine r_tsw (off := 31) (t := 32) f120_1 c1q (by decide) (by decide) (by decide) (by decide) ?_
    refine r_aload_nN f120_32 rfl ?_
    replace hB := bnd_some hB
    obtain ⟨x2q, ex2q, hB⟩ := hB
    refine r_getJ f120_33 fa_6_108 ex2q ?_
    exact r_lret pm_m_120 f120_36 rfl rfl (zJ hB)
  rw [if_neg c1q] at hB
  by_cases c3q : a1 = 1
  · rw [if_pos c3q] at hB
    refine r_tsw (off := 36) (t := 37) f120_1 c3q (by decide) (by decide) (by decide) (by decide) ?_
    refine r_aload_nN f120_37 rfl ?_
    replace hB := bnd_some hB
    obtain ⟨x4q, ex4q, hB⟩ := hB
    refine r_getJ f120_38 fa_6_94 ex4q ?_
    exact r_lret pm_m_120 f120_41 rfl rfl (zJ hB)
  rw [if_neg c3q] at hB
  by_cases c5q : a1 = 2
  · rw [if_pos c5q] at hB
    refine r_tsw (off := 41) (t := 42) f120_1 c5q (by decide) (by decide) (by decide) (by decide) ?_
    refine r_aload_nN f120_42 rfl ?_
    replace hB := grd_some hB
    obtain ⟨g8q, hB⟩ := hB
    replace hB := bn2_some hB
    obtain ⟨h6q, x7q, eh6q, hB⟩ := hB
    refine r_virtV (as := []) (q := pm_m_115) f120_43 ca_6_123 rfl rfl rfl (cs_len (Nat.le_of_ble_eq_true rfl)) g8q (P_M_sand (d := d + 0) eh6q) ?_
    exact r_lret pm_m_120 f120_46 rfl rfl (zJ hB)
  rw [if_neg c5q] at hB
  by_cases c9q : a1 = 3
  · rw [if_pos c9q] at hB
    refine r_tsw (off := 46) (t := 47) f120_1 c9q (by decide) (by decide) (by decide) (by decide) ?_
    refine r_aload_nN f120_47 rfl ?_
    replace hB := grd_some hB
    obtain ⟨g12q, hB⟩ := hB
    replace hB := bn2_some hB
    obtain ⟨h10q, x11q, eh10q, hB⟩ := hB
    refine r_virtV (as := []) (q := pm_m_115) f120_48 ca_6_123 rfl rfl rfl (cs_len (Nat.le_of_ble_eq_true rfl)) g12q (P_M_sand (d := d + 0) eh10q) ?_
    refine r_aload_nN f120_51 rfl ?_
    replace hB := bnd_some hB
    obtain ⟨x13q, ex13q, hB⟩ := hB
    refine r_getJ f120_52 fa_6_108 ex13q ?_
    refine r_land f120_55 ?_
    exact r_lret pm_m_120 f120_56 rfl rfl (zJ hB)
  rw [if_neg c9q] at hB
  refine r_tswD (t := 57) f120_1 (sw_out 4 (lt_s (lt_s (lt_s (lt_s (lt_0) (sw_ne c1q (by decide))) (sw_ne c3q (by decide))) (sw_ne c5q (by decide))) (sw_ne c9q (by decide))) (by decide)) (by decide) ?_
  refine r_ldc2_w (v := (-4611686018427387904)) (p := 978) f120_57 rfl ?_
  exact r_lret pm_m_120 f120_60 rfl rfl (zJ hB)
theorem P_M_isByte {d : Nat} {h h' : pm_H} {r : Int32} {a0 : Int32} (hB : M_isByte h a0 = some (h', r)) : pm_ev (d + 2) 121 [.int a0] h (some (.int r)) h' := by
  unfold M_isByte at hB
  refine pm_ev_mk (L := [.int a0]) pm_m_121 rfl (Nat.le_of_ble_eq_true rfl) rfl ?_
  refine r_iload_n f121_0 rfl ?_
  refine r_iconst f121_1 ci_0 ?_
  refine r_sipush f121_2 cs_255 ?_
  replace hB := bn2_some hB
  obtain ⟨h1q, x2q, eh1q, hB⟩ := hB
  refine r_statV (as := [.int a0, .int 0, .int 255]) (q := pm_m_109) f121_5 ca_6_79 rfl (by decide) rfl rfl (cs_len (Nat.le_of_ble_eq_true rfl)) (P_M_in (d := d + 0) eh1q) ?_
  replace hB := grd_some hB
  obtain ⟨q3q, hB⟩ := hB
  exact r_iret pm_m_121 .boolean f121_8 rfl rfl (bool_n (of_decide_eq_true q3q)) (zI hB)
theorem P_M_feed_125 {d : Nat} {h' : pm_H} {r : Int32} (k_68 : pm_H → Nat → Int32 → Int32 → Int32 → Int32 → Int32 → Int32 → Int32 → Option (pm_H × Int32)) (hk_68 : ∀ (h : pm_H) (l0 : Nat) (l1 : Int32) (l2 : Int32) (l3 : Int32) (l4 : Int32) (l5 : Int32) (l6 : Int32) (l7 : Int32), k_68 h l0 l1 l2 l3 l4 l5 l6 l7 = some (h', r) → pm_run (pm_ev (d + 2)) 122 68 [.ref l0, .int l1, .int l2, .int l3, .int l4, .int l5, .int l6, .int l7] [] h (fun r1 h1 => r1 = some (.int r) ∧ h1 = h')) (h : pm_H) (l0 : Nat) (l1 : Int32) (l2 : Int32) (l3 : Int32) (l4 : Int32) (l5 : Int32) (l6 : Int32) (l7 : Int32) (s0 : Int32) (s1 : Int32) (s2 : Option Nat) (hB : M_feed_125 k_68 h l0 l1 l2 l3 l4 l5 l6 l7 s0 s1 s2 = some (h', r)) : pm_run (pm_ev (d + 2)) 122 125 [.ref l0, .int l1, .int l2, .int l3, .int l4, .int l5, .int l6, .int l7] [.int s0, .int s1, va_rf s2] h (fun r1 h1 => r1 = some (.int r) ∧ h1 = h') := by
  unfold M_feed_125 at hB
  replace hB := bnd_some hB
  obtain ⟨u1q, rfl, hB⟩ := hB
  replace hB := bnd_some hB
  obtain ⟨h2q, eh2q, hB⟩ := hB
  refine r_sI f122_125 eh2q ?_
  refine r_aload_nN f122_126 rfl ?_
  refine r_dupN f122_127 ?_
  replace hB := bnd_some hB
  obtain ⟨x3q, ex3q, hB⟩ := hB
  refine r_getI f122_128 fa_6_71 ex3q ?_
  refine r_iconst f122_131 ci_1 ?_
  refine r_iadd f122_132 ?_
  replace hB := bnd_some hB
  obtain ⟨h4q, eh4q, hB⟩ := hB
  refine r_put f122_133 fa_6_71 ty_6_9 rfl rfl (no_fin (nf_6_9)) eh4q ?_
  obtain ⟨y5q, hy5q⟩ : ∃ z, z = l7 + 1 := ⟨_, rfl⟩
  replace hB := nmd_at hy5q hB
  refine r_iinc (L' := [.ref l0, .int l1, .int l2, .int l3, .int l4, .int l5, .int l6, .int y5q]) (x := y5q) f122_136 rfl (hy5q.trans (congrArg (l7 + ·) ci_1.symm)) rfl ?_
  refine r_goto (t := 68) f122_139 (by decide) ?_
  exact pm_weak (L' := [.ref l0, .int l1, .int l2, .int l3, .int l4, .int l5, .int l6, .int y5q]) ⟨.inr rfl, .inr rfl, .inr rfl, .inr rfl, .inr rfl, .inr rfl, .inr rfl, .inr rfl, trivial⟩ (hk_68 h4q l0 l1 l2 l3 l4 l5 l6 y5q hB)
theorem P_M_feed_68 {d : Nat} {h' : pm_H} {r : Int32} (n : Nat) : ∀ (h : pm_H) (l0 : Nat) (l1 : Int32) (l2 : Int32) (l3 : Int32) (l4 : Int32) (l5 : Int32) (l6 : Int32) (l7 : Int32), M_feed_68 n h l0 l1 l2 l3 l4 l5 l6 l7 = some (h', r) → pm_run (pm_ev (d + 2)) 122 68 [.ref l0, .int l1, .int l2, .int l3, .int l4, .int l5, .int l6, .int l7] [] h (fun r1 h1 => r1 = some (.int r) ∧ h1 = h') := by
  induction n with
  | zero => intro h l0 l1 l2 l3 l4 l5 l6 l7 hB; cases hB
  | succ n ih =>
    intro h l0 l1 l2 l3 l4 l5 l6 l7 hB
    unfold M_feed_68 at hB
    refine r_iload f122_68 rfl ?_
    refine r_iload_n f122_70 rfl ?_
    by_cases c1q : l1 ≤ l7
    · rw [if_pos c1q] at hB
      refine r_ic_t (t := 142) f122_71 (by decide) c1q ?_
      refine r_aload_nN f122_142 rfl ?_
      replace hB := bnd_some hB
      obtain ⟨x2q, ex2q, hB⟩ := hB
      refine r_getI f122_143 fa_6_71 ex2q ?_
      exact r_iret pm_m_122 .int f122_146 rfl rfl rfl (zI hB)
    · rw [if_neg c1q] at hB
      refine r_ic_f 142 f122_71 (by decide) c1q ?_
      refine r_aload_nN f122_74 rfl ?_
      replace hB := bnd_some hB
      obtain ⟨x3q, ex3q, hB⟩ := hB
      refine r_getA f122_75 fa_6_22 ex3q ?_
      refine r_aload_nN f122_78 rfl ?_
      replace hB := bnd_some hB
      obtain ⟨x4q, ex4q, hB⟩ := hB
      refine r_getI f122_79 fa_6_71 ex4q ?_
      refine r_iload f122_82 rfl ?_
      by_cases c5q : l7 = 0
      · rw [if_pos c5q] at hB
        refine r_if_f 91 f122_84 (by decide) (fun q => q c5q) ?_
        refine r_iload_n f122_87 rfl ?_
        refine r_goto (t := 125) f122_88 (by decide) ?_
        exact pm_weak (L' := [.ref l0, .int l1, .int l2, .int l3, .int l4, .int l5, .int l6, .int l7]) ⟨.inr rfl, .inr rfl, .inr rfl, .inr rfl, .inr rfl, .inr rfl, .inr rfl, .inr rfl, trivial⟩ (P_M_feed_125 (d := d) (M_feed_68 n) ih h l0 l1 l2 l3 l4 l5 l6 l7 l2 x4q x3q hB)
      · rw [if_neg c5q] at hB
        refine r_if_t (t := 91) f122_84 (by decide) c5q ?_
        refine r_iload f122_91 rfl ?_
        refine r_iconst f122_93 ci_1 ?_
        by_cases c6q : l7 = 1
        · rw [if_pos c6q] at hB
          refine r_ic_f 101 f122_94 (by decide) (fun q => q c6q) ?_
          refine r_iload_n f122_97 rfl ?_
          refine r_goto (t := 125) f122_98 (by decide) ?_
          exact pm_weak (L' := [.ref l0, .int l1, .int l2, .int l3, .int l4, .int l5, .int l6, .int l7]) ⟨.inr rfl, .inr rfl, .inr rfl, .inr rfl, .inr rfl, .inr rfl, .inr rfl, .inr rfl, trivial⟩ (P_M_feed_125 (d := d) (M_feed_68 n) ih h l0 l1 l2 l3 l4 l5 l6 l7 l3 x4q x3q hB)
        · rw [if_neg c6q] at hB
          refine r_ic_t (t := 101) f122_94 (by decide) c6q ?_
          refine r_iload f122_101 rfl ?_
          refine r_iconst f122_103 ci_2 ?_
          by_cases c7q : l7 = 2
          · rw [if_pos c7q] at hB
            refine r_ic_f 112 f122_104 (by decide) (fun q => q c7q) ?_
            refine r_iload f122_107 rfl ?_
            refine r_goto (t := 125) f122_109 (by decide) ?_
            exact pm_weak (L' := [.ref l0, .int l1, .int l2, .int l3, .int l4, .int l5, .int l6, .int l7]) ⟨.inr rfl, .inr rfl, .inr rfl, .inr rfl, .inr rfl, .inr rfl, .inr rfl, .inr rfl, trivial⟩ (P_M_feed_125 (d := d) (M_feed_68 n) ih h l0 l1 l2 l3 l4 l5 l6 l7 l4 x4q x3q hB)
          · rw [if_neg c7q] at hB
            refine r_ic_t (t := 112) f122_104 (by decide) c7q ?_
            refine r_iload f122_112 rfl ?_
            refine r_iconst f122_114 ci_3 ?_
            by_cases c8q : l7 = 3
            · rw [if_pos c8q] at hB
              refine r_ic_f 123 f122_115 (by decide) (fun q => q c8q) ?_
              refine r_iload f122_118 rfl ?_
              refine r_goto (t := 125) f122_120 (by decide) ?_
              exact pm_weak (L' := [.ref l0, .int l1, .int l2, .int l3, .int l4, .int l5, .int l6, .int l7]) ⟨.inr rfl, .inr rfl, .inr rfl, .inr rfl, .inr rfl, .inr rfl, .inr rfl, .inr rfl, trivial⟩ (P_M_feed_125 (d := d) (M_feed_68 n) ih h l0 l1 l2 l3 l4 l5 l6 l7 l5 x4q x3q hB)
            · rw [if_neg c8q] at hB
              refine r_ic_t (t := 123) f122_115 (by decide) c8q ?_
              refine r_iload f122_123 rfl ?_
              exact pm_weak (L' := [.ref l0, .int l1, .int l2, .int l3, .int l4, .int l5, .int l6, .int l7]) ⟨.inr rfl, .inr rfl, .inr rfl, .inr rfl, .inr rfl, .inr rfl, .inr rfl, .inr rfl, trivial⟩ (P_M_feed_125 (d := d) (M_feed_68 n) ih h l0 l1 l2 l3 l4 l5 l6 l7 l6 x4q x3q hB)
theorem P_M_feed {d : Nat} {h h' : pm_H} {r : Int32} {t : Nat} {a1 : Int32} {a2 : Int32} {a3 : Int32} {a4 : Int32} {a5 : Int32} {a6 : Int32} (hB : M_feed h t a1 a2 a3 a4 a5 a6 = some (h', r)) : pm_ev (d + 3) 122 [.ref t, .int a1, .int a2, .int a3, .int a4, .int a5, .int a6] h (some (.int r)) h' := by
  unfold M_feed at hB
  refine pm_ev_mk (L := [.ref t, .int a1, .int a2, .int a3, .int a4, .int a5, .int a6, pm_J]) pm_m_122 rfl (Nat.le_of_ble_eq_true rfl) rfl ?_
  refine r_iload_n f122_0 rfl ?_
  refine r_iconst f122_1 ci_1 ?_
  refine r_iconst f122_2 ci_5 ?_
  replace hB := bn2_some hB
  obtain ⟨h1q, x2q, eh1q, hB⟩ := hB
  refine r_statV (as := [.int a1, .int 1, .int 5]) (q := pm_m_109) f122_3 ca_6_79 rfl (by decide) rfl rfl (cs_len (Nat.le_of_ble_eq_true rfl)) (P_M_in (d := d + 1) eh1q) ?_
  by_cases c3q : x2q = 0
  · rw [if_pos c3q] at hB
    refine r_if_t (t := 47) f122_6 (by decide) c3q ?_
    refine r_bipush f122_47 cb_m2 ?_
    exact r_iret pm_m_122 .int f122_49 rfl rfl rfl (zI hB)
  · rw [if_neg c3q] at hB
    refine r_if_f 47 f122_6 (by decide) c3q ?_
    refine r_iload_n f122_9 rfl ?_
    replace hB := bn2_some hB
    obtain ⟨h4q, x5q, eh4q, hB⟩ := hB
    refine r_statV (as := [.int a2]) (q := pm_m_121) f122_10 ca_6_129 rfl (by decide) rfl rfl (cs_len (Nat.le_of_ble_eq_true rfl)) (P_M_isByte (d := d + 0) eh4q) ?_
    by_cases c6q : x5q = 0
    · rw [if_pos c6q] at hB
      refine r_if_t (t := 47) f122_13 (by decide) c6q ?_
      refine r_bipush f122_47 cb_m2 ?_
      exact r_iret pm_m_122 .int f122_49 rfl rfl rfl (zI hB)
    · rw [if_neg c6q] at hB
      refine r_if_f 47 f122_13 (by decide) c6q ?_
      refine r_iload_n f122_16 rfl ?_
      replace hB := bn2_some hB
      obtain ⟨h7q, x8q, eh7q, hB⟩ := hB
      refine r_statV (as := [.int a3]) (q := pm_m_121) f122_17 ca_6_129 rfl (by decide) rfl rfl (cs_len (Nat.le_of_ble_eq_true rfl)) (P_M_isByte (d := d + 0) eh7q) ?_
      by_cases c9q : x8q = 0
      · rw [if_pos c9q] at hB
        refine r_if_t (t := 47) f122_20 (by decide) c9q ?_
        refine r_bipush f122_47 cb_m2 ?_
        exact r_iret pm_m_122 .int f122_49 rfl rfl rfl (zI hB)
      · rw [if_neg c9q] at hB
        refine r_if_f 47 f122_20 (by decide) c9q ?_
        refine r_iload f122_23 rfl ?_
        replace hB := bn2_some hB
        obtain ⟨h10q, x11q, eh10q, hB⟩ := hB
        refine r_statV (as := [.int a4]) (q := pm_m_121) f122_25 ca_6_129 rfl (by decide) rfl rfl (cs_len (Nat.le_of_ble_eq_true rfl)) (P_M_isByte (d := d + 0) eh10q) ?_
        by_cases c12q : x11q = 0
        · rw [if_pos c12q] at hB
          refine r_if_t (t := 47) f122_28 (by decide) c12q ?_
          refine r_bipush f122_47 cb_m2 ?_
          exact r_iret pm_m_122 .int f122_49 rfl rfl rfl (zI hB)
        · rw [if_neg c12q] at hB
          refine r_if_f 47 f122_28 (by decide) c12q ?_
          refine r_iload f122_31 rfl ?_
          replace hB := bn2_some hB
          obtain ⟨h13q, x14q, eh13q, hB⟩ := hB
          refine r_statV (as := [.int a5]) (q := pm_m_121) f122_33 ca_6_129 rfl (by decide) rfl rfl (cs_len (Nat.le_of_ble_eq_true rfl)) (P_M_isByte (d := d + 0) eh13q) ?_
          by_cases c15q : x14q = 0
          · rw [if_pos c15q] at hB
            refine r_if_t (t := 47) f122_36 (by decide) c15q ?_
            refine r_bipush f122_47 cb_m2 ?_
            exact r_iret pm_m_122 .int f122_49 rfl rfl rfl (zI hB)
          · rw [if_neg c15q] at hB
            refine r_if_f 47 f122_36 (by decide) c15q ?_
            refine r_iload f122_39 rfl ?_
            replace hB := bn2_some hB
            obtain ⟨h16q, x17q, eh16q, hB⟩ := hB
            refine r_statV (as := [.int a6]) (q := pm_m_121) f122_41 ca_6_129 rfl (by decide) rfl rfl (cs_len (Nat.le_of_ble_eq_true rfl)) (P_M_isByte (d := d + 0) eh16q) ?_
            by_cases c18q : x17q = 0
            · rw [if_pos c18q] at hB
              refine r_if_f 50 f122_44 (by decide) (fun q => q c18q) ?_
              refine r_bipush f122_47 cb_m2 ?_
              exact r_iret pm_m_122 .int f122_49 rfl rfl rfl (zI hB)
            · rw [if_neg c18q] at hB
              refine r_if_t (t := 50) f122_44 (by decide) c18q ?_
              refine r_aload_nN f122_50 rfl ?_
              replace hB := bnd_some hB
              obtain ⟨x19q, ex19q, hB⟩ := hB
              refine r_getI f122_51 fa_6_71 ex19q ?_
              refine r_iload_n f122_54 rfl ?_
              refine r_iadd f122_55 ?_
              refine r_sipush f122_56 cs_160 ?_
              by_cases c20q : (x19q + a1) ≤ 160
              · rw [if_pos c20q] at hB
                refine r_ic_t (t := 65) f122_59 (by decide) c20q ?_
                refine r_iconst f122_65 ci_0 ?_
                refine r_istore (L' := [.ref t, .int a1, .int a2, .int a3, .int a4, .int a5, .int a6, .int 0]) (x := 0) f122_66 rfl (Nat.le_of_ble_eq_true rfl) rfl ?_
                exact pm_weak (L' := [.ref t, .int a1, .int a2, .int a3, .int a4, .int a5, .int a6, .int 0]) ⟨.inr rfl, .inr rfl, .inr rfl, .inr rfl, .inr rfl, .inr rfl, .inr rfl, .inr rfl, trivial⟩ (P_M_feed_68 (d := d) 1000 h16q t a1 a2 a3 a4 a5 a6 0 hB)
              · rw [if_neg c20q] at hB
                refine r_ic_f 65 f122_59 (by decide) c20q ?_
                refine r_bipush f122_62 cb_m4 ?_
                exact r_iret pm_m_122 .int f122_64 rfl rfl rfl (zI hB)
theorem P_M_wordFrom_80 {d : Nat} {h' : pm_H} {r : Int32} (k_2 : pm_H → Nat → Int32 → Int32 → Int32 → Option (pm_H × Int32)) (hk_2 : ∀ (h : pm_H) (l0 : Nat) (l1 : Int32) (l2 : Int32) (l3 : Int32), k_2 h l0 l1 l2 l3 = some (h', r) → pm_run (pm_ev (d + 0)) 123 2 [.ref l0, .int l1, .int l2, .int l3, pm_J, pm_J] [] h (fun r1 h1 => r1 = some (.int r) ∧ h1 = h')) (k_26 : pm_H → Nat → Int32 → Int32 → Int32 → Int32 → Int32 → Option (pm_H × Int32)) (hk_26 : ∀ (h : pm_H) (l0 : Nat) (l1 : Int32) (l2 : Int32) (l3 : Int32) (l4 : Int32) (l5 : Int32), k_26 h l0 l1 l2 l3 l4 l5 = some (h', r) → pm_run (pm_ev (d + 0)) 123 26 [.ref l0, .int l1, .int l2, .int l3, .int l4, .int l5] [] h (fun r1 h1 => r1 = some (.int r) ∧ h1 = h')) (h : pm_H) (l0 : Nat) (l1 : Int32) (l2 : Int32) (l3 : Int32) (l5 : Int32) (s0 : Int32) (hB : M_wordFrom_80 k_2 k_26 h l0 l1 l2 l3 l5 s0 = some (h', r)) : pm_run (pm_ev (d + 0)) 123 80 [.ref l0, .int l1, .int l2, .int l3, pm_J, .int l5] [.int s0] h (fun r1 h1 => r1 = some (.int r) ∧ h1 = h') := by
  unfold M_wordFrom_80 at hB
  refine r_istore (L' := [.ref l0, .int l1, .int l2, .int l3, .int s0, .int l5]) (x := s0) f123_80 rfl (Nat.le_of_ble_eq_true rfl) rfl ?_
  obtain ⟨y1q, hy1q⟩ : ∃ z, z = l5 + 1 := ⟨_, rfl⟩
  replace hB := nmd_at hy1q hB
  refine r_iinc (L' := [.ref l0, .int l1, .int l2, .int l3, .int s0, .int y1q]) (x := y1q) f123_82 rfl (hy1q.trans (congrArg (l5 + ·) ci_1.symm)) rfl ?_
  refine r_goto (t := 26) f123_85 (by decide) ?_
  exact pm_weak (L' := [.ref l0, .int l1, .int l2, .int l3, .int s0, .int y1q]) ⟨.inr rfl, .inr rfl, .inr rfl, .inr rfl, .inr rfl, .inr rfl, trivial⟩ (hk_26 h l0 l1 l2 l3 s0 y1q hB)
theorem P_M_wordFrom_72 {d : Nat} {h' : pm_H} {r : Int32} (k_2 : pm_H → Nat → Int32 → Int32 → Int32 → Option (pm_H × Int32)) (hk_2 : ∀ (h : pm_H) (l0 : Nat) (l1 : Int32) (l2 : Int32) (l3 : Int32), k_2 h l0 l1 l2 l3 = some (h', r) → pm_run (pm_ev (d + 0)) 123 2 [.ref l0, .int l1, .int l2, .int l3, pm_J, pm_J] [] h (fun r1 h1 => r1 = some (.int r) ∧ h1 = h')) (k_26 : pm_H → Nat → Int32 → Int32 → Int32 → Int32 → Int32 → Option (pm_H × Int32)) (hk_26 : ∀ (h : pm_H) (l0 : Nat) (l1 : Int32) (l2 : Int32) (l3 : Int32) (l4 : Int32) (l5 : Int32), k_26 h l0 l1 l2 l3 l4 l5 = some (h', r) → pm_run (pm_ev (d + 0)) 123 26 [.ref l0, .int l1, .int l2, .int l3, .int l4, .int l5] [] h (fun r1 h1 => r1 = some (.int r) ∧ h1 = h')) (h : pm_H) (l0 : Nat) (l1 : Int32) (l2 : Int32) (l3 : Int32) (l5 : Int32) (s0 : Int32) (s1 : Int32) (hB : M_wordFrom_72 k_2 k_26 h l0 l1 l2 l3 l5 s0 s1 = some (h', r)) : pm_run (pm_ev (d + 0)) 123 72 [.ref l0, .int l1, .int l2, .int l3, pm_J, .int l5] [.int s0, .int s1] h (fun r1 h1 => r1 = some (.int r) ∧ h1 = h') := by
  unfold M_wordFrom_72 at hB
  by_cases c1q : s1 = s0
  · rw [if_pos c1q] at hB
    refine r_ic_f 79 f123_72 (by decide) (fun q => q c1q) ?_
    refine r_iconst f123_75 ci_1 ?_
    refine r_goto (t := 80) f123_76 (by decide) ?_
    exact pm_weak (L' := [.ref l0, .int l1, .int l2, .int l3, pm_J, .int l5]) ⟨.inr rfl, .inr rfl, .inr rfl, .inr rfl, .inl rfl, .inr rfl, trivial⟩ (P_M_wordFrom_80 (d := d) k_2 hk_2 k_26 hk_26 h l0 l1 l2 l3 l5 1 hB)
  · rw [if_neg c1q] at hB
    refine r_ic_t (t := 79) f123_72 (by decide) c1q ?_
    refine r_iconst f123_79 ci_0 ?_
    exact pm_weak (L' := [.ref l0, .int l1, .int l2, .int l3, pm_J, .int l5]) ⟨.inr rfl, .inr rfl, .inr rfl, .inr rfl, .inl rfl, .inr rfl, trivial⟩ (P_M_wordFrom_80 (d := d) k_2 hk_2 k_26 hk_26 h l0 l1 l2 l3 l5 0 hB)
theorem P_M_wordFrom_88 {d : Nat} {h' : pm_H} {r : Int32} (k_2 : pm_H → Nat → Int32 → Int32 → Int32 → Option (pm_H × Int32)) (hk_2 : ∀ (h : pm_H) (l0 : Nat) (l1 : Int32) (l2 : Int32) (l3 : Int32), k_2 h l0 l1 l2 l3 = some (h', r) → pm_run (pm_ev (d + 0)) 123 2 [.ref l0, .int l1, .int l2, .int l3, pm_J, pm_J] [] h (fun r1 h1 => r1 = some (.int r) ∧ h1 = h')) (h : pm_H) (l0 : Nat) (l1 : Int32) (l2 : Int32) (l3 : Int32) (l4 : Int32) (hB : M_wordFrom_88 k_2 h l0 l1 l2 l3 l4 = some (h', r)) : pm_run (pm_ev (d + 0)) 123 88 [.ref l0, .int l1, .int l2, .int l3, .int l4, pm_J] [] h (fun r1 h1 => r1 = some (.int r) ∧ h1 = h') := by
  unfold M_wordFrom_88 at hB
  refine r_iload f123_88 rfl ?_
  by_cases c1q : l4 = 0
  · rw [if_pos c1q] at hB
    refine r_if_t (t := 95) f123_90 (by decide) c1q ?_
    obtain ⟨y2q, hy2q⟩ : ∃ z, z = l3 + 1 := ⟨_, rfl⟩
    replace hB := nmd_at hy2q hB
    refine r_iinc (L' := [.ref l0, .int l1, .int l2, .int y2q, .int l4, pm_J]) (x := y2q) f123_95 rfl (hy2q.trans (congrArg (l3 + ·) ci_1.symm)) rfl ?_
    refine r_goto (t := 2) f123_98 (by decide) ?_
    exact pm_weak (L' := [.ref l0, .int l1, .int l2, .int y2q, pm_J, pm_J]) ⟨.inr rfl, .inr rfl, .inr rfl, .inr rfl, .inl rfl, .inl rfl, trivial⟩ (hk_2 h l0 l1 l2 y2q hB)
  · rw [if_neg c1q] at hB
    refine r_if_f 95 f123_90 (by decide) c1q ?_
    refine r_iload_n f123_93 rfl ?_
    exact r_iret pm_m_123 .int f123_94 rfl rfl rfl (zI hB)
theorem P_M_wordFrom_26 {d : Nat} {h' : pm_H} {r : Int32} (k_2 : pm_H → Nat → Int32 → Int32 → Int32 → Option (pm_H × Int32)) (hk_2 : ∀ (h : pm_H) (l0 : Nat) (l1 : Int32) (l2 : Int32) (l3 : Int32), k_2 h l0 l1 l2 l3 = some (h', r) → pm_run (pm_ev (d + 0)) 123 2 [.ref l0, .int l1, .int l2, .int l3, pm_J, pm_J] [] h (fun r1 h1 => r1 = some (.int r) ∧ h1 = h')) (n : Nat) : ∀ (h : pm_H) (l0 : Nat) (l1 : Int32) (l2 : Int32) (l3 : Int32) (l4 : Int32) (l5 : Int32), M_wordFrom_26 k_2 n h l0 l1 l2 l3 l4 l5 = some (h', r) → pm_run (pm_ev (d + 0)) 123 26 [.ref l0, .int l1, .int l2, .int l3, .int l4, .int l5] [] h (fun r1 h1 => r1 = some (.int r) ∧ h1 = h') := by
  induction n with
  | zero => intro h l0 l1 l2 l3 l4 l5 hB; cases hB
  | succ n ih =>
    intro h l0 l1 l2 l3 l4 l5 hB
    unfold M_wordFrom_26 at hB
    refine r_iload f123_26 rfl ?_
    refine r_bipush f123_28 cb_8 ?_
    by_cases c1q : 8 ≤ l5
    · rw [if_pos c1q] at hB
      refine r_ic_t (t := 88) f123_30 (by decide) c1q ?_
      exact pm_weak (L' := [.ref l0, .int l1, .int l2, .int l3, .int l4, pm_J]) ⟨.inr rfl, .inr rfl, .inr rfl, .inr rfl, .inr rfl, .inl rfl, trivial⟩ (P_M_wordFrom_88 (d := d) k_2 hk_2 h l0 l1 l2 l3 l4 hB)
    · rw [if_neg c1q] at hB
      refine r_ic_f 88 f123_30 (by decide) c1q ?_
      refine r_iload f123_33 rfl ?_
      by_cases c2q : l4 = 0
      · rw [if_pos c2q] at hB
        refine r_if_t (t := 88) f123_35 (by decide) c2q ?_
        exact pm_weak (L' := [.ref l0, .int l1, .int l2, .int l3, .int l4, pm_J]) ⟨.inr rfl, .inr rfl, .inr rfl, .inr rfl, .inr rfl, .inl rfl, trivial⟩ (P_M_wordFrom_88 (d := d) k_2 hk_2 h l0 l1 l2 l3 l4 hB)
      · rw [if_neg c2q] at hB
        refine r_if_f 88 f123_35 (by decide) c2q ?_
        refine r_aload_nN f123_38 rfl ?_
        replace hB := bnd_some hB
        obtain ⟨x3q, ex3q, hB⟩ := hB
        refine r_getA f123_39 fa_6_53 ex3q ?_
        refine r_bipush f123_42 cb_8 ?_
        refine r_iload_n f123_44 rfl ?_
        refine r_imul f123_45 ?_
        refine r_iload f123_46 rfl ?_
        refine r_iadd f123_48 ?_
        replace hB := bnd_some hB
        obtain ⟨u4q, rfl, hB⟩ := hB
        replace hB := bnd_some hB
        obtain ⟨x5q, ex5q, hB⟩ := hB
        refine r_aI f123_49 ex5q ?_
        refine r_iload_n f123_50 rfl ?_
        refine r_iload f123_51 rfl ?_
        refine r_iadd f123_53 ?_
        refine r_iload_n f123_54 rfl ?_
        by_cases c6q : l2 ≤ (l1 + l5)
        · rw [if_pos c6q] at hB
          refine r_ic_t (t := 70) f123_55 (by decide) c6q ?_
          refine r_bipush f123_70 cb_32 ?_
          exact pm_weak (L' := [.ref l0, .int l1, .int l2, .int l3, pm_J, .int l5]) ⟨.inr rfl, .inr rfl, .inr rfl, .inr rfl, .inl rfl, .inr rfl, trivial⟩ (P_M_wordFrom_72 (d := d) k_2 hk_2 (M_wordFrom_26 k_2 n) ih h l0 l1 l2 l3 l5 32 x5q hB)
        · rw [if_neg c6q] at hB
          refine r_ic_f 70 f123_55 (by decide) c6q ?_
          refine r_aload_nN f123_58 rfl ?_
          replace hB := bnd_some hB
          obtain ⟨x7q, ex7q, hB⟩ := hB
          refine r_getA f123_59 fa_6_22 ex7q ?_
          refine r_iload_n f123_62 rfl ?_
          refine r_iload f123_63 rfl ?_
          refine r_iadd f123_65 ?_
          replace hB := bnd_some hB
          obtain ⟨u8q, rfl, hB⟩ := hB
          replace hB := bnd_some hB
          obtain ⟨x9q, ex9q, hB⟩ := hB
          refine r_aI f123_66 ex9q ?_
          refine r_goto (t := 72) f123_67 (by decide) ?_
          exact pm_weak (L' := [.ref l0, .int l1, .int l2, .int l3, pm_J, .int l5]) ⟨.inr rfl, .inr rfl, .inr rfl, .inr rfl, .inl rfl, .inr rfl, trivial⟩ (P_M_wordFrom_72 (d := d) k_2 hk_2 (M_wordFrom_26 k_2 n) ih h l0 l1 l2 l3 l5 x9q x5q hB)
theorem P_M_wordFrom_21 {d : Nat} {h' : pm_H} {r : Int32} (k_2 : pm_H → Nat → Int32 → Int32 → Int32 → Option (pm_H × Int32)) (hk_2 : ∀ (h : pm_H) (l0 : Nat) (l1 : Int32) (l2 : Int32) (l3 : Int32), k_2 h l0 l1 l2 l3 = some (h', r) → pm_run (pm_ev (d + 0)) 123 2 [.ref l0, .int l1, .int l2, .int l3, pm_J, pm_J] [] h (fun r1 h1 => r1 = some (.int r) ∧ h1 = h')) (h : pm_H) (l0 : Nat) (l1 : Int32) (l2 : Int32) (l3 : Int32) (s0 : Int32) (hB : M_wordFrom_21 k_2 h l0 l1 l2 l3 s0 = some (h', r)) : pm_run (pm_ev (d + 0)) 123 21 [.ref l0, .int l1, .int l2, .int l3, pm_J, pm_J] [.int s0] h (fun r1 h1 => r1 = some (.int r) ∧ h1 = h') := by
  unfold M_wordFrom_21 at hB
  refine r_istore (L' := [.ref l0, .int l1, .int l2, .int l3, .int s0, pm_J]) (x := s0) f123_21 rfl (Nat.le_of_ble_eq_true rfl) rfl ?_
  refine r_iconst f123_23 ci_0 ?_
  refine r_istore (L' := [.ref l0, .int l1, .int l2, .int l3, .int s0, .int 0]) (x := 0) f123_24 rfl (Nat.le_of_ble_eq_true rfl) rfl ?_
  exact pm_weak (L' := [.ref l0, .int l1, .int l2, .int l3, .int s0, .int 0]) ⟨.inr rfl, .inr rfl, .inr rfl, .inr rfl, .inr rfl, .inr rfl, trivial⟩ (P_M_wordFrom_26 (d := d) k_2 hk_2 1000 h l0 l1 l2 l3 s0 0 hB)
theorem P_M_wordFrom_2 {d : Nat} {h' : pm_H} {r : Int32} (n : Nat) : ∀ (h : pm_H) (l0 : Nat) (l1 : Int32) (l2 : Int32) (l3 : Int32), M_wordFrom_2 n h l0 l1 l2 l3 = some (h', r) → pm_run (pm_ev (d + 0)) 123 2 [.ref l0, .int l1, .int l2, .int l3, pm_J, pm_J] [] h (fun r1 h1 => r1 = some (.int r) ∧ h1 = h') := by
  induction n with
  | zero => intro h l0 l1 l2 l3 hB; cases hB
  | succ n ih =>
    intro h l0 l1 l2 l3 hB
    unfold M_wordFrom_2 at hB
    refine r_iload_n f123_2 rfl ?_
    refine r_bipush f123_3 cb_12 ?_
    by_cases c1q : 12 ≤ l3
    · rw [if_pos c1q] at hB
      refine r_ic_t (t := 101) f123_5 (by decide) c1q ?_
      refine r_bipush f123_101 cb_12 ?_
      exact r_iret pm_m_123 .int f123_103 rfl rfl rfl (zI hB)
    · rw [if_neg c1q] at hB
      refine r_ic_f 101 f123_5 (by decide) c1q ?_
      refine r_iload_n f123_8 rfl ?_
      refine r_iload_n f123_9 rfl ?_
      refine r_isub f123_10 ?_
      refine r_bipush f123_11 cb_8 ?_
      by_cases c2q : 8 < (l2 - l1)
      · rw [if_pos c2q] at hB
        refine r_ic_t (t := 20) f123_13 (by decide) c2q ?_
        refine r_iconst f123_20 ci_0 ?_
        exact pm_weak (L' := [.ref l0, .int l1, .int l2, .int l3, pm_J, pm_J]) ⟨.inr rfl, .inr rfl, .inr rfl, .inr rfl, .inl rfl, .inl rfl, trivial⟩ (P_M_wordFrom_21 (d := d) (M_wordFrom_2 n) ih h l0 l1 l2 l3 0 hB)
      · rw [if_neg c2q] at hB
        refine r_ic_f 20 f123_13 (by decide) c2q ?_
        refine r_iconst f123_16 ci_1 ?_
        refine r_goto (t := 21) f123_17 (by decide) ?_
        exact pm_weak (L' := [.ref l0, .int l1, .int l2, .int l3, pm_J, pm_J]) ⟨.inr rfl, .inr rfl, .inr rfl, .inr rfl, .inl rfl, .inl rfl, trivial⟩ (P_M_wordFrom_21 (d := d) (M_wordFrom_2 n) ih h l0 l1 l2 l3 1 hB)
theorem P_M_wordFrom {d : Nat} {h h' : pm_H} {r : Int32} {t : Nat} {a1 : Int32} {a2 : Int32} (hB : M_wordFrom h t a1 a2 = some (h', r)) : pm_ev (d + 1) 123 [.ref t, .int a1, .int a2] h (some (.int r)) h' := by
  unfold M_wordFrom at hB
  refine pm_ev_mk (L := [.ref t, .int a1, .int a2, pm_J, pm_J, pm_J]) pm_m_123 rfl (Nat.le_of_ble_eq_true rfl) rfl ?_
  refine r_iconst f123_0 ci_0 ?_
  refine r_istore_n (L' := [.ref t, .int a1, .int a2, .int 0, pm_J, pm_J]) (x := 0) f123_1 rfl (Nat.le_of_ble_eq_true rfl) rfl ?_
  exact pm_weak (L' := [.ref t, .int a1, .int a2, .int 0, pm_J, pm_J]) ⟨.inr rfl, .inr rfl, .inr rfl, .inr rfl, .inl rfl, .inl rfl, trivial⟩ (P_M_wordFrom_2 (d := d) 1000 h t a1 a2 0 hB)
theorem P_M_next_39 {d : Nat} {h' : pm_H} {r : Unit} (k_0 : pm_H → Nat → Option (pm_H × Unit)) (hk_0 : ∀ (h : pm_H) (l0 : Nat), k_0 h l0 = some (h', r) → pm_run (pm_ev (d + 1)) 124 0 [.ref l0, pm_J, pm_J] [] h (fun r1 h1 => r1 = none ∧ h1 = h')) (h : pm_H) (l0 : Nat) (hB : M_next_39 k_0 h l0 = some (h', r)) : pm_run (pm_ev (d + 1)) 124 39 [.ref l0, pm_J, pm_J] [] h (fun r1 h1 => r1 = none ∧ h1 = h') := by
  unfold M_next_39 at hB
  refine r_aload_nN f124_39 rfl ?_
  refine r_dupN f124_40 ?_
  replace hB := bnd_some hB
  obtain ⟨x1q, ex1q, hB⟩ := hB
  refine r_getI f124_41 fa_6_132 ex1q ?_
  refine r_iconst f124_44 ci_1 ?_
  refine r_iadd f124_45 ?_
  replace hB := bnd_some hB
  obtain ⟨h2q, eh2q, hB⟩ := hB
  refine r_put f124_46 fa_6_132 ty_6_22 rfl rfl (no_fin (nf_6_22)) eh2q ?_
  refine r_goto (t := 0) f124_49 (by decide) ?_
  exact pm_weak (L' := [.ref l0, pm_J, pm_J]) ⟨.inr rfl, .inl rfl, .inl rfl, trivial⟩ (hk_0 h2q l0 hB)
theorem P_M_next_211 {d : Nat} {h' : pm_H} {r : Unit} (h : pm_H) (s0 : Int32) (s1 : Nat) (hB : M_next_211 h s0 s1 = some (h', r)) : pm_run (pm_ev (d + 1)) 124 211 [pm_J, pm_J, pm_J] [.int s0, .ref s1] h (fun r1 h1 => r1 = none ∧ h1 = h') := by
  unfold M_next_211 at hB
  replace hB := bnd_some hB
  obtain ⟨h1q, eh1q, hB⟩ := hB
  refine r_put f124_211 fa_6_141 ty_6_25 rfl rfl (no_fin (nf_6_25)) eh1q ?_
  refine r_goto (t := 403) f124_214 (by decide) ?_
  exact r_vret pm_m_124 f124_403 rfl rfl (zV hB)
theorem P_M_next_195 {d : Nat} {h' : pm_H} {r : Unit} (h : pm_H) (l0 : Nat) (l2 : Int32) (s0 : Int32) (s1 : Nat) (hB : M_next_195 h l0 l2 s0 s1 = some (h', r)) : pm_run (pm_ev (d + 1)) 124 195 [.ref l0, pm_J, .int l2] [.int s0, .ref s1] h (fun r1 h1 => r1 = none ∧ h1 = h') := by
  unfold M_next_195 at hB
  replace hB := bnd_some hB
  obtain ⟨h1q, eh1q, hB⟩ := hB
  refine r_put f124_195 fa_6_138 ty_6_24 rfl rfl (no_fin (nf_6_24)) eh1q ?_
  refine r_aload_nN f124_198 rfl ?_
  refine r_iload_n f124_199 rfl ?_
  refine r_iconst f124_200 ci_3 ?_
  by_cases c2q : 3 ≤ l2
  · rw [if_pos c2q] at hB
    refine r_ic_t (t := 208) f124_201 (by decide) c2q ?_
    refine r_iload_n f124_208 rfl ?_
    refine r_iconst f124_209 ci_3 ?_
    refine r_isub f124_210 ?_
    exact pm_weak (L' := [pm_J, pm_J, pm_J]) ⟨.inl rfl, .inl rfl, .inl rfl, trivial⟩ (P_M_next_211 (d := d) h1q (l2 - 3) l0 hB)
  · rw [if_neg c2q] at hB
    refine r_ic_f 208 f124_201 (by decide) c2q ?_
    refine r_iload_n f124_204 rfl ?_
    refine r_goto (t := 211) f124_205 (by decide) ?_
    exact pm_weak (L' := [pm_J, pm_J, pm_J]) ⟨.inl rfl, .inl rfl, .inl rfl, trivial⟩ (P_M_next_211 (d := d) h1q l2 l0 hB)
theorem P_M_next_146 {d : Nat} {h' : pm_H} {r : Unit} (h : pm_H) (l0 : Nat) (hB : M_next_146 h l0 = some (h', r)) : pm_run (pm_ev (d + 1)) 124 146 [.ref l0, pm_J, pm_J] [] h (fun r1 h1 => r1 = none ∧ h1 = h') := by
  unfold M_next_146 at hB
  refine r_aload_nN f124_146 rfl ?_
  refine r_aload_nN f124_147 rfl ?_
  replace hB := bnd_some hB
  obtain ⟨x1q, ex1q, hB⟩ := hB
  refine r_getI f124_148 fa_6_135 ex1q ?_
  refine r_aload_nN f124_151 rfl ?_
  replace hB := bnd_some hB
  obtain ⟨x2q, ex2q, hB⟩ := hB
  refine r_getI f124_152 fa_6_132 ex2q ?_
  replace hB := grd_some hB
  obtain ⟨g5q, hB⟩ := hB
  replace hB := bn2_some hB
  obtain ⟨h3q, x4q, eh3q, hB⟩ := hB
  refine r_virtV (as := [.int x1q, .int x2q]) (q := pm_m_123) f124_155 ca_6_144 rfl rfl rfl (cs_len (Nat.le_of_ble_eq_true rfl)) g5q (P_M_wordFrom (d := d + 0) eh3q) ?_
  refine r_istore_n (L' := [.ref l0, pm_J, .int x4q]) (x := x4q) f124_158 rfl (Nat.le_of_ble_eq_true rfl) rfl ?_
  refine r_aload_nN f124_159 rfl ?_
  refine r_iload_n f124_160 rfl ?_
  refine r_iconst f124_161 ci_3 ?_
  by_cases c6q : 3 ≤ x4q
  · rw [if_pos c6q] at hB
    refine r_ic_t (t := 169) f124_162 (by decide) c6q ?_
    refine r_iload_n f124_169 rfl ?_
    refine r_bipush f124_170 cb_9 ?_
    by_cases c7q : 9 ≤ x4q
    · rw [if_pos c7q] at hB
      refine r_ic_t (t := 179) f124_172 (by decide) c7q ?_
      refine r_iload_n f124_179 rfl ?_
      refine r_bipush f124_180 cb_12 ?_
      by_cases c8q : x4q = 12
      · rw [if_pos c8q] at hB
        refine r_ic_f 189 f124_182 (by decide) (fun q => q c8q) ?_
        refine r_iconst f124_185 ci_m1 ?_
        refine r_goto (t := 195) f124_186 (by decide) ?_
        exact pm_weak (L' := [.ref l0, pm_J, .int x4q]) ⟨.inr rfl, .inl rfl, .inr rfl, trivial⟩ (P_M_next_195 (d := d) h3q l0 x4q (-1) l0 hB)
      · rw [if_neg c8q] at hB
        refine r_ic_t (t := 189) f124_182 (by decide) c8q ?_
        refine r_iconst f124_189 ci_4 ?_
        refine r_iload_n f124_190 rfl ?_
        refine r_iadd f124_191 ?_
        refine r_bipush f124_192 cb_9 ?_
        refine r_isub f124_194 ?_
        exact pm_weak (L' := [.ref l0, pm_J, .int x4q]) ⟨.inr rfl, .inl rfl, .inr rfl, trivial⟩ (P_M_next_195 (d := d) h3q l0 x4q ((4 + x4q) - 9) l0 hB)
    · rw [if_neg c7q] at hB
      refine r_ic_f 179 f124_172 (by decide) c7q ?_
      refine r_iconst f124_175 ci_2 ?_
      refine r_goto (t := 195) f124_176 (by decide) ?_
      exact pm_weak (L' := [.ref l0, pm_J, .int x4q]) ⟨.inr rfl, .inl rfl, .inr rfl, trivial⟩ (P_M_next_195 (d := d) h3q l0 x4q 2 l0 hB)
  · rw [if_neg c6q] at hB
    refine r_ic_f 169 f124_162 (by decide) c6q ?_
    refine r_iconst f124_165 ci_3 ?_
    refine r_goto (t := 195) f124_166 (by decide) ?_
    exact pm_weak (L' := [.ref l0, pm_J, .int x4q]) ⟨.inr rfl, .inl rfl, .inr rfl, trivial⟩ (P_M_next_195 (d := d) h3q l0 x4q 3 l0 hB)
theorem P_M_next_103 {d : Nat} {h' : pm_H} {r : Unit} (n : Nat) : ∀ (h : pm_H) (l0 : Nat), M_next_103 n h l0 = some (h', r) → pm_run (pm_ev (d + 1)) 124 103 [.ref l0, pm_J, pm_J] [] h (fun r1 h1 => r1 = none ∧ h1 = h') := by
  induction n with
  | zero => intro h l0 hB; cases hB
  | succ n ih =>
    intro h l0 hB
    unfold M_next_103 at hB
    refine r_aload_nN f124_103 rfl ?_
    replace hB := bnd_some hB
    obtain ⟨x1q, ex1q, hB⟩ := hB
    refine r_getI f124_104 fa_6_132 ex1q ?_
    refine r_aload_nN f124_107 rfl ?_
    replace hB := bnd_some hB
    obtain ⟨x2q, ex2q, hB⟩ := hB
    refine r_getI f124_108 fa_6_71 ex2q ?_
    by_cases c3q : x2q ≤ x1q
    · rw [if_pos c3q] at hB
      refine r_ic_t (t := 146) f124_111 (by decide) c3q ?_
      exact pm_weak (L' := [.ref l0, pm_J, pm_J]) ⟨.inr rfl, .inl rfl, .inl rfl, trivial⟩ (P_M_next_146 (d := d) h l0 hB)
    · rw [if_neg c3q] at hB
      refine r_ic_f 146 f124_111 (by decide) c3q ?_
      refine r_aload_nN f124_114 rfl ?_
      replace hB := bnd_some hB
      obtain ⟨x4q, ex4q, hB⟩ := hB
      refine r_getA f124_115 fa_6_22 ex4q ?_
      refine r_aload_nN f124_118 rfl ?_
      replace hB := bnd_some hB
      obtain ⟨x5q, ex5q, hB⟩ := hB
      refine r_getI f124_119 fa_6_132 ex5q ?_
      replace hB := bnd_some hB
      obtain ⟨u6q, rfl, hB⟩ := hB
      replace hB := bnd_some hB
      obtain ⟨x7q, ex7q, hB⟩ := hB
      refine r_aI f124_122 ex7q ?_
      refine r_bipush f124_123 cb_97 ?_
      refine r_bipush f124_125 cb_122 ?_
      replace hB := bn2_some hB
      obtain ⟨h8q, x9q, eh8q, hB⟩ := hB
      refine r_statV (as := [.int x7q, .int 97, .int 122]) (q := pm_m_109) f124_127 ca_6_79 rfl (by decide) rfl rfl (cs_len (Nat.le_of_ble_eq_true rfl)) (P_M_in (d := d + 0) eh8q) ?_
      by_cases c10q : x9q = 0
      · rw [if_pos c10q] at hB
        refine r_if_t (t := 146) f124_130 (by decide) c10q ?_
        exact pm_weak (L' := [.ref l0, pm_J, pm_J]) ⟨.inr rfl, .inl rfl, .inl rfl, trivial⟩ (P_M_next_146 (d := d) h8q l0 hB)
      · rw [if_neg c10q] at hB
        refine r_if_f 146 f124_130 (by decide) c10q ?_
        refine r_aload_nN f124_133 rfl ?_
        refine r_dupN f124_134 ?_
        replace hB := bnd_some hB
        obtain ⟨x11q, ex11q, hB⟩ := hB
        refine r_getI f124_135 fa_6_132 ex11q ?_
        refine r_iconst f124_138 ci_1 ?_
        refine r_iadd f124_139 ?_
        replace hB := bnd_some hB
        obtain ⟨h12q, eh12q, hB⟩ := hB
        refine r_put f124_140 fa_6_132 ty_6_22 rfl rfl (no_fin (nf_6_22)) eh12q ?_
        refine r_goto (t := 103) f124_143 (by decide) ?_
        exact pm_weak (L' := [.ref l0, pm_J, pm_J]) ⟨.inr rfl, .inl rfl, .inl rfl, trivial⟩ (ih h12q l0 hB)
theorem P_M_next_290 {d : Nat} {h' : pm_H} {r : Unit} (k_230 : pm_H → Nat → Int32 → Option (pm_H × Unit)) (hk_230 : ∀ (h : pm_H) (l0 : Nat) (l2 : Int32), k_230 h l0 l2 = some (h', r) → pm_run (pm_ev (d + 1)) 124 230 [.ref l0, pm_J, .int l2] [] h (fun r1 h1 => r1 = none ∧ h1 = h')) (h : pm_H) (l0 : Nat) (l2 : Int32) (s0 : Int32) (s1 : Nat) (hB : M_next_290 k_230 h l0 l2 s0 s1 = some (h', r)) : pm_run (pm_ev (d + 1)) 124 290 [.ref l0, pm_J, .int l2] [.int s0, .ref s1] h (fun r1 h1 => r1 = none ∧ h1 = h') := by
  unfold M_next_290 at hB
  replace hB := bnd_some hB
  obtain ⟨h1q, eh1q, hB⟩ := hB
  refine r_put f124_290 fa_6_141 ty_6_25 rfl rfl (no_fin (nf_6_25)) eh1q ?_
  obtain ⟨y2q, hy2q⟩ : ∃ z, z = l2 + 1 := ⟨_, rfl⟩
  replace hB := nmd_at hy2q hB
  refine r_iinc (L' := [.ref l0, pm_J, .int y2q]) (x := y2q) f124_293 rfl (hy2q.trans (congrArg (l2 + ·) ci_1.symm)) rfl ?_
  refine r_aload_nN f124_296 rfl ?_
  refine r_dupN f124_297 ?_
  replace hB := bnd_some hB
  obtain ⟨x3q, ex3q, hB⟩ := hB
  refine r_getI f124_298 fa_6_132 ex3q ?_
  refine r_iconst f124_301 ci_1 ?_
  refine r_iadd f124_302 ?_
  replace hB := bnd_some hB
  obtain ⟨h4q, eh4q, hB⟩ := hB
  refine r_put f124_303 fa_6_132 ty_6_22 rfl rfl (no_fin (nf_6_22)) eh4q ?_
  refine r_goto (t := 230) f124_306 (by decide) ?_
  exact pm_weak (L' := [.ref l0, pm_J, .int y2q]) ⟨.inr rfl, .inl rfl, .inr rfl, trivial⟩ (hk_230 h4q l0 y2q hB)
theorem P_M_next_320 {d : Nat} {h' : pm_H} {r : Unit} (h : pm_H) (s0 : Int32) (s1 : Nat) (hB : M_next_320 h s0 s1 = some (h', r)) : pm_run (pm_ev (d + 1)) 124 320 [pm_J, pm_J, pm_J] [.int s0, .ref s1] h (fun r1 h1 => r1 = none ∧ h1 = h') := by
  unfold M_next_320 at hB
  replace hB := bnd_some hB
  obtain ⟨h1q, eh1q, hB⟩ := hB
  refine r_put f124_320 fa_6_138 ty_6_24 rfl rfl (no_fin (nf_6_24)) eh1q ?_
  refine r_goto (t := 403) f124_323 (by decide) ?_
  exact r_vret pm_m_124 f124_403 rfl rfl (zV hB)
theorem P_M_next_309 {d : Nat} {h' : pm_H} {r : Unit} (h : pm_H) (l0 : Nat) (l2 : Int32) (hB : M_next_309 h l0 l2 = some (h', r)) : pm_run (pm_ev (d + 1)) 124 309 [.ref l0, pm_J, .int l2] [] h (fun r1 h1 => r1 = none ∧ h1 = h') := by
  unfold M_next_309 at hB
  refine r_aload_nN f124_309 rfl ?_
  refine r_iload_n f124_310 rfl ?_
  refine r_iconst f124_311 ci_4 ?_
  by_cases c1q : l2 ≤ 4
  · rw [if_pos c1q] at hB
    refine r_ic_t (t := 319) f124_312 (by decide) c1q ?_
    refine r_iconst f124_319 ci_1 ?_
    exact pm_weak (L' := [pm_J, pm_J, pm_J]) ⟨.inl rfl, .inl rfl, .inl rfl, trivial⟩ (P_M_next_320 (d := d) h 1 l0 hB)
  · rw [if_neg c1q] at hB
    refine r_ic_f 319 f124_312 (by decide) c1q ?_
    refine r_iconst f124_315 ci_m1 ?_
    refine r_goto (t := 320) f124_316 (by decide) ?_
    exact pm_weak (L' := [pm_J, pm_J, pm_J]) ⟨.inl rfl, .inl rfl, .inl rfl, trivial⟩ (P_M_next_320 (d := d) h (-1) l0 hB)
theorem P_M_next_230 {d : Nat} {h' : pm_H} {r : Unit} (n : Nat) : ∀ (h : pm_H) (l0 : Nat) (l2 : Int32), M_next_230 n h l0 l2 = some (h', r) → pm_run (pm_ev (d + 1)) 124 230 [.ref l0, pm_J, .int l2] [] h (fun r1 h1 => r1 = none ∧ h1 = h') := by
  induction n with
  | zero => intro h l0 l2 hB; cases hB
  | succ n ih =>
    intro h l0 l2 hB
    unfold M_next_230 at hB
    refine r_aload_nN f124_230 rfl ?_
    replace hB := bnd_some hB
    obtain ⟨x1q, ex1q, hB⟩ := hB
    refine r_getI f124_231 fa_6_132 ex1q ?_
    refine r_aload_nN f124_234 rfl ?_
    replace hB := bnd_some hB
    obtain ⟨x2q, ex2q, hB⟩ := hB
    refine r_getI f124_235 fa_6_71 ex2q ?_
    by_cases c3q : x2q ≤ x1q
    · rw [if_pos c3q] at hB
      refine r_ic_t (t := 309) f124_238 (by decide) c3q ?_
      exact pm_weak (L' := [.ref l0, pm_J, .int l2]) ⟨.inr rfl, .inl rfl, .inr rfl, trivial⟩ (P_M_next_309 (d := d) h l0 l2 hB)
    · rw [if_neg c3q] at hB
      refine r_ic_f 309 f124_238 (by decide) c3q ?_
      refine r_aload_nN f124_241 rfl ?_
      replace hB := bnd_some hB
      obtain ⟨x4q, ex4q, hB⟩ := hB
      refine r_getA f124_242 fa_6_22 ex4q ?_
      refine r_aload_nN f124_245 rfl ?_
      replace hB := bnd_some hB
      obtain ⟨x5q, ex5q, hB⟩ := hB
      refine r_getI f124_246 fa_6_132 ex5q ?_
      replace hB := bnd_some hB
      obtain ⟨u6q, rfl, hB⟩ := hB
      replace hB := bnd_some hB
      obtain ⟨x7q, ex7q, hB⟩ := hB
      refine r_aI f124_249 ex7q ?_
      refine r_bipush f124_250 cb_48 ?_
      refine r_bipush f124_252 cb_57 ?_
      replace hB := bn2_some hB
      obtain ⟨h8q, x9q, eh8q, hB⟩ := hB
      refine r_statV (as := [.int x7q, .int 48, .int 57]) (q := pm_m_109) f124_254 ca_6_79 rfl (by decide) rfl rfl (cs_len (Nat.le_of_ble_eq_true rfl)) (P_M_in (d := d + 0) eh8q) ?_
      by_cases c10q : x9q = 0
      · rw [if_pos c10q] at hB
        refine r_if_t (t := 309) f124_257 (by decide) c10q ?_
        exact pm_weak (L' := [.ref l0, pm_J, .int l2]) ⟨.inr rfl, .inl rfl, .inr rfl, trivial⟩ (P_M_next_309 (d := d) h8q l0 l2 hB)
      · rw [if_neg c10q] at hB
        refine r_if_f 309 f124_257 (by decide) c10q ?_
        refine r_aload_nN f124_260 rfl ?_
        refine r_iload_n f124_261 rfl ?_
        refine r_iconst f124_262 ci_4 ?_
        by_cases c11q : 4 ≤ l2
        · rw [if_pos c11q] at hB
          refine r_ic_t (t := 289) f124_263 (by decide) c11q ?_
          refine r_iconst f124_289 ci_0 ?_
          exact pm_weak (L' := [.ref l0, pm_J, .int l2]) ⟨.inr rfl, .inl rfl, .inr rfl, trivial⟩ (P_M_next_290 (d := d) (M_next_230 n) ih h8q l0 l2 0 l0 hB)
        · rw [if_neg c11q] at hB
          refine r_ic_f 289 f124_263 (by decide) c11q ?_
          refine r_bipush f124_266 cb_10 ?_
          refine r_aload_nN f124_268 rfl ?_
          replace hB := bnd_some hB
          obtain ⟨x12q, ex12q, hB⟩ := hB
          refine r_getI f124_269 fa_6_141 ex12q ?_
          refine r_imul f124_272 ?_
          refine r_aload_nN f124_273 rfl ?_
          replace hB := bnd_some hB
          obtain ⟨x13q, ex13q, hB⟩ := hB
          refine r_getA f124_274 fa_6_22 ex13q ?_
          refine r_aload_nN f124_277 rfl ?_
          replace hB := bnd_some hB
          obtain ⟨x14q, ex14q, hB⟩ := hB
          refine r_getI f124_278 fa_6_132 ex14q ?_
          replace hB := bnd_some hB
          obtain ⟨u15q, rfl, hB⟩ := hB
          replace hB := bnd_some hB
          obtain ⟨x16q, ex16q, hB⟩ := hB
          refine r_aI f124_281 ex16q ?_
          refine r_iadd f124_282 ?_
          refine r_bipush f124_283 cb_48 ?_
          refine r_isub f124_285 ?_
          refine r_goto (t := 290) f124_286 (by decide) ?_
          exact pm_weak (L' := [.ref l0, pm_J, .int l2]) ⟨.inr rfl, .inl rfl, .inr rfl, trivial⟩ (P_M_next_290 (d := d) (M_next_230 n) ih h8q l0 l2 (((10 * x12q) + x16q) - 48) l0 hB)
theorem P_M_next_390 {d : Nat} {h' : pm_H} {r : Unit} (h : pm_H) (l0 : Nat) (s0 : Int32) (s1 : Nat) (hB : M_next_390 h l0 s0 s1 = some (h', r)) : pm_run (pm_ev (d + 1)) 124 390 [.ref l0, pm_J, pm_J] [.int s0, .ref s1] h (fun r1 h1 => r1 = none ∧ h1 = h') := by
  unfold M_next_390 at hB
  replace hB := bnd_some hB
  obtain ⟨h1q, eh1q, hB⟩ := hB
  refine r_put f124_390 fa_6_138 ty_6_24 rfl rfl (no_fin (nf_6_24)) eh1q ?_
  refine r_aload_nN f124_393 rfl ?_
  refine r_dupN f124_394 ?_
  replace hB := bnd_some hB
  obtain ⟨x2q, ex2q, hB⟩ := hB
  refine r_getI f124_395 fa_6_132 ex2q ?_
  refine r_iconst f124_398 ci_1 ?_
  refine r_iadd f124_399 ?_
  replace hB := bnd_some hB
  obtain ⟨h3q, eh3q, hB⟩ := hB
  refine r_put f124_400 fa_6_132 ty_6_22 rfl rfl (no_fin (nf_6_22)) eh3q ?_
  exact r_vret pm_m_124 f124_403 rfl rfl (zV hB)
theorem P_M_next_379 {d : Nat} {h' : pm_H} {r : Unit} (h : pm_H) (l0 : Nat) (l1 : Int32) (s0 : Int32) (hB : M_next_379 h l0 l1 s0 = some (h', r)) : pm_run (pm_ev (d + 1)) 124 379 [.ref l0, .int l1, pm_J] [.int s0] h (fun r1 h1 => r1 = none ∧ h1 = h') := by
  unfold M_next_379 at hB
  refine r_istore_n (L' := [.ref l0, .int l1, .int s0]) (x := s0) f124_379 rfl (Nat.le_of_ble_eq_true rfl) rfl ?_
  refine r_aload_nN f124_380 rfl ?_
  refine r_iload_n f124_381 rfl ?_
  by_cases c1q : s0 = 0
  · rw [if_pos c1q] at hB
    refine r_if_t (t := 389) f124_382 (by decide) c1q ?_
    refine r_iconst f124_389 ci_m1 ?_
    exact pm_weak (L' := [.ref l0, pm_J, pm_J]) ⟨.inr rfl, .inl rfl, .inl rfl, trivial⟩ (P_M_next_390 (d := d) h l0 (-1) l0 hB)
  · rw [if_neg c1q] at hB
    refine r_if_f 389 f124_382 (by decide) c1q ?_
    refine r_iload_n f124_385 rfl ?_
    refine r_goto (t := 390) f124_386 (by decide) ?_
    exact pm_weak (L' := [.ref l0, pm_J, pm_J]) ⟨.inr rfl, .inl rfl, .inl rfl, trivial⟩ (P_M_next_390 (d := d) h l0 l1 l0 hB)
theorem P_M_next_374 {d : Nat} {h' : pm_H} {r : Unit} (h : pm_H) (l0 : Nat) (l1 : Int32) (hB : M_next_374 h l0 l1 = some (h', r)) : pm_run (pm_ev (d + 1)) 124 374 [.ref l0, .int l1, pm_J] [] h (fun r1 h1 => r1 = none ∧ h1 = h') := by
  unfold M_next_374 at hB
  refine r_iconst f124_374 ci_1 ?_
  refine r_goto (t := 379) f124_375 (by decide) ?_
  exact pm_weak (L' := [.ref l0, .int l1, pm_J]) ⟨.inr rfl, .inr rfl, .inl rfl, trivial⟩ (P_M_next_379 (d := d) h l0 l1 1 hB)
theorem P_M_next_52 {d : Nat} {h' : pm_H} {r : Unit} (h : pm_H) (l0 : Nat) (hB : M_next_52 h l0 = some (h', r)) : pm_run (pm_ev (d + 1)) 124 52 [.ref l0, pm_J, pm_J] [] h (fun r1 h1 => r1 = none ∧ h1 = h') := by
  unfold M_next_52 at hB
  refine r_aload_nN f124_52 rfl ?_
  refine r_aload_nN f124_53 rfl ?_
  replace hB := bnd_some hB
  obtain ⟨x1q, ex1q, hB⟩ := hB
  refine r_getI f124_54 fa_6_132 ex1q ?_
  replace hB := bnd_some hB
  obtain ⟨h2q, eh2q, hB⟩ := hB
  refine r_put f124_57 fa_6_135 ty_6_23 rfl rfl (no_fin (nf_6_23)) eh2q ?_
  refine r_aload_nN f124_60 rfl ?_
  refine r_iconst f124_61 ci_0 ?_
  replace hB := bnd_some hB
  obtain ⟨h3q, eh3q, hB⟩ := hB
  refine r_put f124_62 fa_6_138 ty_6_24 rfl rfl (no_fin (nf_6_24)) eh3q ?_
  refine r_aload_nN f124_65 rfl ?_
  refine r_iconst f124_66 ci_0 ?_
  replace hB := bnd_some hB
  obtain ⟨h4q, eh4q, hB⟩ := hB
  refine r_put f124_67 fa_6_141 ty_6_25 rfl rfl (no_fin (nf_6_25)) eh4q ?_
  refine r_aload_nN f124_70 rfl ?_
  replace hB := bnd_some hB
  obtain ⟨x5q, ex5q, hB⟩ := hB
  refine r_getI f124_71 fa_6_132 ex5q ?_
  refine r_aload_nN f124_74 rfl ?_
  replace hB := bnd_some hB
  obtain ⟨x6q, ex6q, hB⟩ := hB
  refine r_getI f124_75 fa_6_71 ex6q ?_
  by_cases c7q : x5q = x6q
  · rw [if_pos c7q] at hB
    refine r_ic_f 82 f124_78 (by decide) (fun q => q c7q) ?_
    exact r_vret pm_m_124 f124_81 rfl rfl (zV hB)
  · rw [if_neg c7q] at hB
    refine r_ic_t (t := 82) f124_78 (by decide) c7q ?_
    refine r_aload_nN f124_82 rfl ?_
    replace hB := bnd_some hB
    obtain ⟨x8q, ex8q, hB⟩ := hB
    refine r_getA f124_83 fa_6_22 ex8q ?_
    refine r_aload_nN f124_86 rfl ?_
    replace hB := bnd_some hB
    obtain ⟨x9q, ex9q, hB⟩ := hB
    refine r_getI f124_87 fa_6_132 ex9q ?_
    replace hB := bnd_some hB
    obtain ⟨u10q, rfl, hB⟩ := hB
    replace hB := bnd_some hB
    obtain ⟨x11q, ex11q, hB⟩ := hB
    refine r_aI f124_90 ex11q ?_
    refine r_istore_n (L' := [.ref l0, .int x11q, pm_J]) (x := x11q) f124_91 rfl (Nat.le_of_ble_eq_true rfl) rfl ?_
    refine r_iload_n f124_92 rfl ?_
    refine r_bipush f124_93 cb_97 ?_
    refine r_bipush f124_95 cb_122 ?_
    replace hB := bn2_some hB
    obtain ⟨h12q, x13q, eh12q, hB⟩ := hB
    refine r_statV (as := [.int x11q, .int 97, .int 122]) (q := pm_m_109) f124_97 ca_6_79 rfl (by decide) rfl rfl (cs_len (Nat.le_of_ble_eq_true rfl)) (P_M_in (d := d + 0) eh12q) ?_
    by_cases c14q : x13q = 0
    · rw [if_pos c14q] at hB
      refine r_if_t (t := 217) f124_100 (by decide) c14q ?_
      refine r_iload_n f124_217 rfl ?_
      refine r_bipush f124_218 cb_48 ?_
      refine r_bipush f124_220 cb_57 ?_
      replace hB := bn2_some hB
      obtain ⟨h15q, x16q, eh15q, hB⟩ := hB
      refine r_statV (as := [.int x11q, .int 48, .int 57]) (q := pm_m_109) f124_222 ca_6_79 rfl (by decide) rfl rfl (cs_len (Nat.le_of_ble_eq_true rfl)) (P_M_in (d := d + 0) eh15q) ?_
      by_cases c17q : x16q = 0
      · rw [if_pos c17q] at hB
        refine r_if_t (t := 326) f124_225 (by decide) c17q ?_
        refine r_iload_n f124_326 rfl ?_
        refine r_bipush f124_327 cb_40 ?_
        by_cases c18q : x11q = 40
        · rw [if_pos c18q] at hB
          refine r_ic_t (t := 374) f124_329 (by decide) c18q ?_
          exact pm_weak (L' := [.ref l0, .int x11q, pm_J]) ⟨.inr rfl, .inr rfl, .inl rfl, trivial⟩ (P_M_next_374 (d := d) h15q l0 x11q hB)
        · rw [if_neg c18q] at hB
          refine r_ic_f 374 f124_329 (by decide) c18q ?_
          refine r_iload_n f124_332 rfl ?_
          refine r_bipush f124_333 cb_41 ?_
          by_cases c19q : x11q = 41
          · rw [if_pos c19q] at hB
            refine r_ic_t (t := 374) f124_335 (by decide) c19q ?_
            exact pm_weak (L' := [.ref l0, .int x11q, pm_J]) ⟨.inr rfl, .inr rfl, .inl rfl, trivial⟩ (P_M_next_374 (d := d) h15q l0 x11q hB)
          · rw [if_neg c19q] at hB
            refine r_ic_f 374 f124_335 (by decide) c19q ?_
            refine r_iload_n f124_338 rfl ?_
            refine r_bipush f124_339 cb_59 ?_
            by_cases c20q : x11q = 59
            · rw [if_pos c20q] at hB
              refine r_ic_t (t := 374) f124_341 (by decide) c20q ?_
              exact pm_weak (L' := [.ref l0, .int x11q, pm_J]) ⟨.inr rfl, .inr rfl, .inl rfl, trivial⟩ (P_M_next_374 (d := d) h15q l0 x11q hB)
            · rw [if_neg c20q] at hB
              refine r_ic_f 374 f124_341 (by decide) c20q ?_
              refine r_iload_n f124_344 rfl ?_
              refine r_bipush f124_345 cb_43 ?_
              by_cases c21q : x11q = 43
              · rw [if_pos c21q] at hB
                refine r_ic_t (t := 374) f124_347 (by decide) c21q ?_
                exact pm_weak (L' := [.ref l0, .int x11q, pm_J]) ⟨.inr rfl, .inr rfl, .inl rfl, trivial⟩ (P_M_next_374 (d := d) h15q l0 x11q hB)
              · rw [if_neg c21q] at hB
                refine r_ic_f 374 f124_347 (by decide) c21q ?_
                refine r_iload_n f124_350 rfl ?_
                refine r_bipush f124_351 cb_45 ?_
                by_cases c22q : x11q = 45
                · rw [if_pos c22q] at hB
                  refine r_ic_t (t := 374) f124_353 (by decide) c22q ?_
                  exact pm_weak (L' := [.ref l0, .int x11q, pm_J]) ⟨.inr rfl, .inr rfl, .inl rfl, trivial⟩ (P_M_next_374 (d := d) h15q l0 x11q hB)
                · rw [if_neg c22q] at hB
                  refine r_ic_f 374 f124_353 (by decide) c22q ?_
                  refine r_iload_n f124_356 rfl ?_
                  refine r_bipush f124_357 cb_42 ?_
                  by_cases c23q : x11q = 42
                  · rw [if_pos c23q] at hB
                    refine r_ic_t (t := 374) f124_359 (by decide) c23q ?_
                    exact pm_weak (L' := [.ref l0, .int x11q, pm_J]) ⟨.inr rfl, .inr rfl, .inl rfl, trivial⟩ (P_M_next_374 (d := d) h15q l0 x11q hB)
                  · rw [if_neg c23q] at hB
                    refine r_ic_f 374 f124_359 (by decide) c23q ?_
                    refine r_iload_n f124_362 rfl ?_
                    refine r_bipush f124_363 cb_60 ?_
                    by_cases c24q : x11q = 60
                    · rw [if_pos c24q] at hB
                      refine r_ic_t (t := 374) f124_365 (by decide) c24q ?_
                      exact pm_weak (L' := [.ref l0, .int x11q, pm_J]) ⟨.inr rfl, .inr rfl, .inl rfl, trivial⟩ (P_M_next_374 (d := d) h15q l0 x11q hB)
                    · rw [if_neg c24q] at hB
                      refine r_ic_f 374 f124_365 (by decide) c24q ?_
                      refine r_iload_n f124_368 rfl ?_
                      refine r_bipush f124_369 cb_61 ?_
                      by_cases c25q : x11q = 61
                      · rw [if_pos c25q] at hB
                        refine r_ic_f 378 f124_371 (by decide) (fun q => q c25q) ?_
                        exact pm_weak (L' := [.ref l0, .int x11q, pm_J]) ⟨.inr rfl, .inr rfl, .inl rfl, trivial⟩ (P_M_next_374 (d := d) h15q l0 x11q hB)
                      · rw [if_neg c25q] at hB
                        refine r_ic_t (t := 378) f124_371 (by decide) c25q ?_
                        refine r_iconst f124_378 ci_0 ?_
                        exact pm_weak (L' := [.ref l0, .int x11q, pm_J]) ⟨.inr rfl, .inr rfl, .inl rfl, trivial⟩ (P_M_next_379 (d := d) h15q l0 x11q 0 hB)
      · rw [if_neg c17q] at hB
        refine r_if_f 326 f124_225 (by decide) c17q ?_
        refine r_iconst f124_228 ci_0 ?_
        refine r_istore_n (L' := [.ref l0, .int x11q, .int 0]) (x := 0) f124_229 rfl (Nat.le_of_ble_eq_true rfl) rfl ?_
        exact pm_weak (L' := [.ref l0, pm_J, .int 0]) ⟨.inr rfl, .inl rfl, .inr rfl, trivial⟩ (P_M_next_230 (d := d) 1000 h15q l0 0 hB)
    · rw [if_neg c14q] at hB
      refine r_if_f 217 f124_100 (by decide) c14q ?_
      exact pm_weak (L' := [.ref l0, pm_J, pm_J]) ⟨.inr rfl, .inl rfl, .inl rfl, trivial⟩ (P_M_next_103 (d := d) 1000 h12q l0 hB)
theorem P_M_next_0 {d : Nat} {h' : pm_H} {r : Unit} (n : Nat) : ∀ (h : pm_H) (l0 : Nat), M_next_0 n h l0 = some (h', r) → pm_run (pm_ev (d + 1)) 124 0 [.ref l0, pm_J, pm_J] [] h (fun r1 h1 => r1 = none ∧ h1 = h') := by
  induction n with
  | zero => intro h l0 hB; cases hB
  | succ n ih =>
    intro h l0 hB
    unfold M_next_0 at hB
    refine r_aload_nN f124_0 rfl ?_
    replace hB := bnd_some hB
    obtain ⟨x1q, ex1q, hB⟩ := hB
    refine r_getI f124_1 fa_6_132 ex1q ?_
    refine r_aload_nN f124_4 rfl ?_
    replace hB := bnd_some hB
    obtain ⟨x2q, ex2q, hB⟩ := hB
    refine r_getI f124_5 fa_6_71 ex2q ?_
    by_cases c3q : x2q ≤ x1q
    · rw [if_pos c3q] at hB
      refine r_ic_t (t := 52) f124_8 (by decide) c3q ?_
      exact pm_weak (L' := [.ref l0, pm_J, pm_J]) ⟨.inr rfl, .inl rfl, .inl rfl, trivial⟩ (P_M_next_52 (d := d) h l0 hB)
    · rw [if_neg c3q] at hB
      refine r_ic_f 52 f124_8 (by decide) c3q ?_
      refine r_aload_nN f124_11 rfl ?_
      replace hB := bnd_some hB
      obtain ⟨x4q, ex4q, hB⟩ := hB
      refine r_getA f124_12 fa_6_22 ex4q ?_
      refine r_aload_nN f124_15 rfl ?_
      replace hB := bnd_some hB
      obtain ⟨x5q, ex5q, hB⟩ := hB
      refine r_getI f124_16 fa_6_132 ex5q ?_
      replace hB := bnd_some hB
      obtain ⟨u6q, rfl, hB⟩ := hB
      replace hB := bnd_some hB
      obtain ⟨x7q, ex7q, hB⟩ := hB
      refine r_aI f124_19 ex7q ?_
      refine r_bipush f124_20 cb_32 ?_
      by_cases c8q : x7q = 32
      · rw [if_pos c8q] at hB
        refine r_ic_t (t := 39) f124_22 (by decide) c8q ?_
        exact pm_weak (L' := [.ref l0, pm_J, pm_J]) ⟨.inr rfl, .inl rfl, .inl rfl, trivial⟩ (P_M_next_39 (d := d) (M_next_0 n) ih h l0 hB)
      · rw [if_neg c8q] at hB
        refine r_ic_f 39 f124_22 (by decide) c8q ?_
        refine r_aload_nN f124_25 rfl ?_
        replace hB := bnd_some hB
        obtain ⟨x9q, ex9q, hB⟩ := hB
        refine r_getA f124_26 fa_6_22 ex9q ?_
        refine r_aload_nN f124_29 rfl ?_
        replace hB := bnd_some hB
        obtain ⟨x10q, ex10q, hB⟩ := hB
        refine r_getI f124_30 fa_6_132 ex10q ?_
        replace hB := bnd_some hB
        obtain ⟨u11q, rfl, hB⟩ := hB
        replace hB := bnd_some hB
        obtain ⟨x12q, ex12q, hB⟩ := hB
        refine r_aI f124_33 ex12q ?_
        refine r_bipush f124_34 cb_10 ?_
        by_cases c13q : x12q = 10
        · rw [if_pos c13q] at hB
          refine r_ic_f 52 f124_36 (by decide) (fun q => q c13q) ?_
          exact pm_weak (L' := [.ref l0, pm_J, pm_J]) ⟨.inr rfl, .inl rfl, .inl rfl, trivial⟩ (P_M_next_39 (d := d) (M_next_0 n) ih h l0 hB)
        · rw [if_neg c13q] at hB
          refine r_ic_t (t := 52) f124_36 (by decide) c13q ?_
          exact pm_weak (L' := [.ref l0, pm_J, pm_J]) ⟨.inr rfl, .inl rfl, .inl rfl, trivial⟩ (P_M_next_52 (d := d) h l0 hB)
theorem P_M_next {d : Nat} {h h' : pm_H} {r : Unit} {t : Nat} (hB : M_next h t = some (h', r)) : pm_ev (d + 2) 124 [.ref t] h none h' := by
  unfold M_next at hB
  refine pm_ev_mk (L := [.ref t, pm_J, pm_J]) pm_m_124 rfl (Nat.le_of_ble_eq_true rfl) rfl ?_
  exact pm_weak (L' := [.ref t, pm_J, pm_J]) ⟨.inr rfl, .inl rfl, .inl rfl, trivial⟩ (P_M_next_0 (d := d) 1000 h t hB)
theorem P_M_rank {d : Nat} {h h' : pm_H} {r : Int32} {a0 : Int32} (hB : M_rank h a0 = some (h', r)) : pm_ev (d + 1) 125 [.int a0] h (some (.int r)) h' := by
  unfold M_rank at hB
  refine pm_ev_mk (L := [.int a0]) pm_m_125 rfl (Nat.le_of_ble_eq_true rfl) rfl ?_
  refine r_iload_n f125_0 rfl ?_
  by_cases c1q : a0 = 0
  · rw [if_pos c1q] at hB
    refine r_if_f 8 f125_1 (by decide) (fun q => q c1q) ?_
    refine r_iconst f125_4 ci_0 ?_
    refine r_goto (t := 71) f125_5 (by decide) ?_
    exact r_iret pm_m_125 .int f125_71 rfl rfl rfl (zI hB)
  · rw [if_neg c1q] at hB
    refine r_if_t (t := 8) f125_1 (by decide) c1q ?_
    refine r_iload_n f125_8 rfl ?_
    refine r_bipush f125_9 cb_11 ?_
    by_cases c2q : a0 = 11
    · rw [if_pos c2q] at hB
      refine r_ic_f 18 f125_11 (by decide) (fun q => q c2q) ?_
      refine r_iconst f125_14 ci_1 ?_
      refine r_goto (t := 71) f125_15 (by decide) ?_
      exact r_iret pm_m_125 .int f125_71 rfl rfl rfl (zI hB)
    · rw [if_neg c2q] at hB
      refine r_ic_t (t := 18) f125_11 (by decide) c2q ?_
      refine r_iload_n f125_18 rfl ?_
      refine r_bipush f125_19 cb_12 ?_
      by_cases c3q : a0 = 12
      · rw [if_pos c3q] at hB
        refine r_ic_f 28 f125_21 (by decide) (fun q => q c3q) ?_
        refine r_iconst f125_24 ci_2 ?_
        refine r_goto (t := 71) f125_25 (by decide) ?_
        exact r_iret pm_m_125 .int f125_71 rfl rfl rfl (zI hB)
      · rw [if_neg c3q] at hB
        refine r_ic_t (t := 28) f125_21 (by decide) c3q ?_
        refine r_iload_n f125_28 rfl ?_
        refine r_bipush f125_29 cb_13 ?_
        by_cases c4q : a0 = 13
        · rw [if_pos c4q] at hB
          refine r_ic_f 38 f125_31 (by decide) (fun q => q c4q) ?_
          refine r_iconst f125_34 ci_3 ?_
          refine r_goto (t := 71) f125_35 (by decide) ?_
          exact r_iret pm_m_125 .int f125_71 rfl rfl rfl (zI hB)
        · rw [if_neg c4q] at hB
          refine r_ic_t (t := 38) f125_31 (by decide) c4q ?_
          refine r_iload_n f125_38 rfl ?_
          refine r_bipush f125_39 cb_15 ?_
          by_cases c5q : 15 < a0
          · rw [if_pos c5q] at hB
            refine r_ic_t (t := 48) f125_41 (by decide) c5q ?_
            refine r_iload_n f125_48 rfl ?_
            refine r_bipush f125_49 cb_17 ?_
            by_cases c6q : 17 < a0
            · rw [if_pos c6q] at hB
              refine r_ic_t (t := 58) f125_51 (by decide) c6q ?_
              refine r_iload_n f125_58 rfl ?_
              refine r_bipush f125_59 cb_18 ?_
              by_cases c7q : a0 = 18
              · rw [if_pos c7q] at hB
                refine r_ic_f 69 f125_61 (by decide) (fun q => q c7q) ?_
                refine r_bipush f125_64 cb_6 ?_
                refine r_goto (t := 71) f125_66 (by decide) ?_
                exact r_iret pm_m_125 .int f125_71 rfl rfl rfl (zI hB)
              · rw [if_neg c7q] at hB
                refine r_ic_t (t := 69) f125_61 (by decide) c7q ?_
                refine r_bipush f125_69 cb_7 ?_
                exact r_iret pm_m_125 .int f125_71 rfl rfl rfl (zI hB)
            · rw [if_neg c6q] at hB
              refine r_ic_f 58 f125_51 (by decide) c6q ?_
              refine r_iconst f125_54 ci_5 ?_
              refine r_goto (t := 71) f125_55 (by decide) ?_
              exact r_iret pm_m_125 .int f125_71 rfl rfl rfl (zI hB)
          · rw [if_neg c5q] at hB
            refine r_ic_f 48 f125_41 (by decide) c5q ?_
            refine r_iconst f125_44 ci_4 ?_
            refine r_goto (t := 71) f125_45 (by decide) ?_
            exact r_iret pm_m_125 .int f125_71 rfl rfl rfl (zI hB)
theorem P_M_puts {d : Nat} {h h' : pm_H} {r : Unit} {t : Nat} {a1 : Int32} (hB : M_puts h t a1 = some (h', r)) : pm_ev (d + 1) 126 [.ref t, .int a1] h none h' := by
  unfold M_puts at hB
  refine pm_ev_mk (L := [.ref t, .int a1]) pm_m_126 rfl (Nat.le_of_ble_eq_true rfl) rfl ?_
  refine r_aload_nN f126_0 rfl ?_
  replace hB := bnd_some hB
  obtain ⟨x1q, ex1q, hB⟩ := hB
  refine r_getA f126_1 fa_6_25 ex1q ?_
  refine r_sipush f126_4 cs_200 ?_
  refine r_aload_nN f126_7 rfl ?_
  replace hB := bnd_some hB
  obtain ⟨x2q, ex2q, hB⟩ := hB
  refine r_getI f126_8 fa_6_111 ex2q ?_
  refine r_imul f126_11 ?_
  refine r_aload_nN f126_12 rfl ?_
  replace hB := bnd_some hB
  obtain ⟨x3q, ex3q, hB⟩ := hB
  refine r_getI f126_13 fa_6_148 ex3q ?_
  refine r_iadd f126_16 ?_
  refine r_iload_n f126_17 rfl ?_
  replace hB := bnd_some hB
  obtain ⟨u4q, rfl, hB⟩ := hB
  replace hB := bnd_some hB
  obtain ⟨h5q, eh5q, hB⟩ := hB
  refine r_sI f126_18 eh5q ?_
  refine r_aload_nN f126_19 rfl ?_
  refine r_dupN f126_20 ?_
  replace hB := bnd_some hB
  obtain ⟨x6q, ex6q, hB⟩ := hB
  refine r_getI f126_21 fa_6_148 ex6q ?_
  refine r_iconst f126_24 ci_1 ?_
  refine r_iadd f126_25 ?_
  replace hB := bnd_some hB
  obtain ⟨h7q, eh7q, hB⟩ := hB
  refine r_put f126_26 fa_6_148 ty_6_30 rfl rfl (no_fin (nf_6_30)) eh7q ?_
  exact r_vret pm_m_126 f126_29 rfl rfl (zV hB)
theorem P_M_unwinds_67 {d : Nat} {h' : pm_H} {r : Unit} (k_0 : pm_H → Nat → Int32 → Option (pm_H × Unit)) (hk_0 : ∀ (h : pm_H) (l0 : Nat) (l1 : Int32), k_0 h l0 l1 = some (h', r) → pm_run (pm_ev (d + 1)) 127 0 [.ref l0, .int l1, pm_J] [] h (fun r1 h1 => r1 = none ∧ h1 = h')) (h : pm_H) (l0 : Nat) (l1 : Int32) (l2 : Int32) (s0 : Int32) (s1 : Int32) (s2 : Nat) (hB : M_unwinds_67 k_0 h l0 l1 l2 s0 s1 s2 = some (h', r)) : pm_run (pm_ev (d + 1)) 127 67 [.ref l0, .int l1, .int l2] [.int s0, .int s1, .ref s2] h (fun r1 h1 => r1 = none ∧ h1 = h') := by
  unfold M_unwinds_67 at hB
  refine r_isub f127_67 ?_
  replace hB := bnd_some hB
  obtain ⟨h1q, eh1q, hB⟩ := hB
  refine r_put f127_68 fa_6_158 ty_6_29 rfl rfl (no_fin (nf_6_29)) eh1q ?_
  refine r_aload_nN f127_71 rfl ?_
  refine r_iload_n f127_72 rfl ?_
  replace hB := grd_some hB
  obtain ⟨g4q, hB⟩ := hB
  replace hB := bn2_some hB
  obtain ⟨h2q, _, eh2q, hB⟩ := hB
  refine r_virtN (as := [.int l2]) (q := pm_m_126) f127_73 ca_6_161 rfl rfl rfl (cs_len (Nat.le_of_ble_eq_true rfl)) g4q (P_M_puts (d := d + 0) eh2q) ?_
  refine r_goto (t := 0) f127_76 (by decide) ?_
  exact pm_weak (L' := [.ref l0, .int l1, pm_J]) ⟨.inr rfl, .inr rfl, .inl rfl, trivial⟩ (hk_0 h2q l0 l1 hB)
theorem P_M_unwinds_62 {d : Nat} {h' : pm_H} {r : Unit} (k_0 : pm_H → Nat → Int32 → Option (pm_H × Unit)) (hk_0 : ∀ (h : pm_H) (l0 : Nat) (l1 : Int32), k_0 h l0 l1 = some (h', r) → pm_run (pm_ev (d + 1)) 127 0 [.ref l0, .int l1, pm_J] [] h (fun r1 h1 => r1 = none ∧ h1 = h')) (h : pm_H) (l0 : Nat) (l1 : Int32) (l2 : Int32) (s0 : Int32) (s1 : Nat) (hB : M_unwinds_62 k_0 h l0 l1 l2 s0 s1 = some (h', r)) : pm_run (pm_ev (d + 1)) 127 62 [.ref l0, .int l1, .int l2] [.int s0, .ref s1] h (fun r1 h1 => r1 = none ∧ h1 = h') := by
  unfold M_unwinds_62 at hB
  refine r_iconst f127_62 ci_1 ?_
  refine r_goto (t := 67) f127_63 (by decide) ?_
  exact pm_weak (L' := [.ref l0, .int l1, .int l2]) ⟨.inr rfl, .inr rfl, .inr rfl, trivial⟩ (P_M_unwinds_67 (d := d) k_0 hk_0 h l0 l1 l2 1 s0 s1 hB)
theorem P_M_unwinds_0 {d : Nat} {h' : pm_H} {r : Unit} (n : Nat) : ∀ (h : pm_H) (l0 : Nat) (l1 : Int32), M_unwinds_0 n h l0 l1 = some (h', r) → pm_run (pm_ev (d + 1)) 127 0 [.ref l0, .int l1, pm_J] [] h (fun r1 h1 => r1 = none ∧ h1 = h') := by
  induction n with
  | zero => intro h l0 l1 hB; cases hB
  | succ n ih =>
    intro h l0 l1 hB
    unfold M_unwinds_0 at hB
    refine r_aload_nN f127_0 rfl ?_
    replace hB := bnd_some hB
    obtain ⟨x1q, ex1q, hB⟩ := hB
    refine r_getI f127_1 fa_6_151 ex1q ?_
    by_cases c2q : x1q ≤ 0
    · rw [if_pos c2q] at hB
      refine r_if_t (t := 79) f127_4 (by decide) c2q ?_
      exact r_vret pm_m_127 f127_79 rfl rfl (zV hB)
    · rw [if_neg c2q] at hB
      refine r_if_f 79 f127_4 (by decide) c2q ?_
      refine r_aload_nN f127_7 rfl ?_
      replace hB := bnd_some hB
      obtain ⟨x3q, ex3q, hB⟩ := hB
      refine r_getA f127_8 fa_6_56 ex3q ?_
      refine r_aload_nN f127_11 rfl ?_
      replace hB := bnd_some hB
      obtain ⟨x4q, ex4q, hB⟩ := hB
      refine r_getI f127_12 fa_6_151 ex4q ?_
      refine r_iconst f127_15 ci_1 ?_
      refine r_isub f127_16 ?_
      replace hB := bnd_some hB
      obtain ⟨u5q, rfl, hB⟩ := hB
      replace hB := bnd_some hB
      obtain ⟨x6q, ex6q, hB⟩ := hB
      refine r_aI f127_17 ex6q ?_
      replace hB := bn2_some hB
      obtain ⟨h7q, x8q, eh7q, hB⟩ := hB
      refine r_statV (as := [.int x6q]) (q := pm_m_125) f127_18 ca_6_154 rfl (by decide) rfl rfl (cs_len (Nat.le_of_ble_eq_true rfl)) (P_M_rank (d := d + 0) eh7q) ?_
      refine r_iload_n f127_21 rfl ?_
      by_cases c9q : x8q < l1
      · rw [if_pos c9q] at hB
        refine r_ic_t (t := 79) f127_22 (by decide) c9q ?_
        exact r_vret pm_m_127 f127_79 rfl rfl (zV hB)
      · rw [if_neg c9q] at hB
        refine r_ic_f 79 f127_22 (by decide) c9q ?_
        refine r_aload_nN f127_25 rfl ?_
        refine r_dupN f127_26 ?_
        replace hB := bnd_some hB
        obtain ⟨x10q, ex10q, hB⟩ := hB
        refine r_getI f127_27 fa_6_151 ex10q ?_
        refine r_iconst f127_30 ci_1 ?_
        refine r_isub f127_31 ?_
        replace hB := bnd_some hB
        obtain ⟨h11q, eh11q, hB⟩ := hB
        refine r_put f127_32 fa_6_151 ty_6_28 rfl rfl (no_fin (nf_6_28)) eh11q ?_
        refine r_aload_nN f127_35 rfl ?_
        replace hB := bnd_some hB
        obtain ⟨x12q, ex12q, hB⟩ := hB
        refine r_getA f127_36 fa_6_56 ex12q ?_
        refine r_aload_nN f127_39 rfl ?_
        replace hB := bnd_some hB
        obtain ⟨x13q, ex13q, hB⟩ := hB
        refine r_getI f127_40 fa_6_151 ex13q ?_
        replace hB := bnd_some hB
        obtain ⟨u14q, rfl, hB⟩ := hB
        replace hB := bnd_some hB
        obtain ⟨x15q, ex15q, hB⟩ := hB
        refine r_aI f127_43 ex15q ?_
        refine r_istore_n (L' := [.ref l0, .int l1, .int x15q]) (x := x15q) f127_44 rfl (Nat.le_of_ble_eq_true rfl) rfl ?_
        refine r_aload_nN f127_45 rfl ?_
        refine r_dupN f127_46 ?_
        replace hB := bnd_some hB
        obtain ⟨x16q, ex16q, hB⟩ := hB
        refine r_getI f127_47 fa_6_158 ex16q ?_
        refine r_iload_n f127_50 rfl ?_
        refine r_bipush f127_51 cb_13 ?_
        by_cases c17q : x15q = 13
        · rw [if_pos c17q] at hB
          refine r_ic_t (t := 62) f127_53 (by decide) c17q ?_
          exact pm_weak (L' := [.ref l0, .int l1, .int x15q]) ⟨.inr rfl, .inr rfl, .inr rfl, trivial⟩ (P_M_unwinds_62 (d := d) (M_unwinds_0 n) ih h11q l0 l1 x15q x16q l0 hB)
        · rw [if_neg c17q] at hB
          refine r_ic_f 62 f127_53 (by decide) c17q ?_
          refine r_iload_n f127_56 rfl ?_
          refine r_bipush f127_57 cb_19 ?_
          by_cases c18q : x15q = 19
          · rw [if_pos c18q] at hB
            refine r_ic_f 66 f127_59 (by decide) (fun q => q c18q) ?_
            exact pm_weak (L' := [.ref l0, .int l1, .int x15q]) ⟨.inr rfl, .inr rfl, .inr rfl, trivial⟩ (P_M_unwinds_62 (d := d) (M_unwinds_0 n) ih h11q l0 l1 x15q x16q l0 hB)
          · rw [if_neg c18q] at hB
            refine r_ic_t (t := 66) f127_59 (by decide) c18q ?_
            refine r_iconst f127_66 ci_0 ?_
            exact pm_weak (L' := [.ref l0, .int l1, .int x15q]) ⟨.inr rfl, .inr rfl, .inr rfl, trivial⟩ (P_M_unwinds_67 (d := d) (M_unwinds_0 n) ih h11q l0 l1 x15q 0 x16q l0 hB)
theorem P_M_unwinds {d : Nat} {h h' : pm_H} {r : Unit} {t : Nat} {a1 : Int32} (hB : M_unwinds h t a1 = some (h', r)) : pm_ev (d + 2) 127 [.ref t, .int a1] h none h' := by
  unfold M_unwinds at hB
  refine pm_ev_mk (L := [.ref t, .int a1, pm_J]) pm_m_127 rfl (Nat.le_of_ble_eq_true rfl) rfl ?_
  exact pm_weak (L' := [.ref t, .int a1, pm_J]) ⟨.inr rfl, .inr rfl, .inl rfl, trivial⟩ (P_M_unwinds_0 (d := d) 1000 h t a1 hB)
theorem P_M_holds {d : Nat} {h h' : pm_H} {r : Unit} {t : Nat} {a1 : Int32} (hB : M_holds h t a1 = some (h', r)) : pm_ev (d + 1) 128 [.ref t, .int a1] h none h' := by
  unfold M_holds at hB
  refine pm_ev_mk (L := [.ref t, .int a1]) pm_m_128 rfl (Nat.le_of_ble_eq_true rfl) rfl ?_
  refine r_aload_nN f128_0 rfl ?_
  replace hB := bnd_some hB
  obtain ⟨x1q, ex1q, hB⟩ := hB
  refine r_getA f128_1 fa_6_56 ex1q ?_
  refine r_aload_nN f128_4 rfl ?_
  replace hB := bnd_some hB
  obtain ⟨x2q, ex2q, hB⟩ := hB
  refine r_getI f128_5 fa_6_151 ex2q ?_
  refine r_iload_n f128_8 rfl ?_
  replace hB := bnd_some hB
  obtain ⟨u3q, rfl, hB⟩ := hB
  replace hB := bnd_some hB
  obtain ⟨h4q, eh4q, hB⟩ := hB
  refine r_sI f128_9 eh4q ?_
  refine r_aload_nN f128_10 rfl ?_
  refine r_dupN f128_11 ?_
  replace hB := bnd_some hB
  obtain ⟨x5q, ex5q, hB⟩ := hB
  refine r_getI f128_12 fa_6_151 ex5q ?_
  refine r_iconst f128_15 ci_1 ?_
  refine r_iadd f128_16 ?_
  replace hB := bnd_some hB
  obtain ⟨h6q, eh6q, hB⟩ := hB
  refine r_put f128_17 fa_6_151 ty_6_28 rfl rfl (no_fin (nf_6_28)) eh6q ?_
  exact r_vret pm_m_128 f128_20 rfl rfl (zV hB)
theorem P_M_opensOne {d : Nat} {h h' : pm_H} {r : Int32} {t : Nat} {a1 : Int32} (hB : M_opensOne h t a1 = some (h', r)) : pm_ev (d + 2) 129 [.ref t, .int a1] h (some (.int r)) h' := by
  unfold M_opensOne at hB
  refine pm_ev_mk (L := [.ref t, .int a1]) pm_m_129 rfl (Nat.le_of_ble_eq_true rfl) rfl ?_
  refine r_aload_nN f129_0 rfl ?_
  replace hB := bnd_some hB
  obtain ⟨x1q, ex1q, hB⟩ := hB
  refine r_getI f129_1 fa_6_158 ex1q ?_
  refine r_iconst f129_4 ci_5 ?_
  by_cases c2q : x1q = 5
  · rw [if_pos c2q] at hB
    refine r_ic_f 10 f129_5 (by decide) (fun q => q c2q) ?_
    refine r_iconst f129_8 ci_0 ?_
    exact r_iret pm_m_129 .boolean f129_9 rfl rfl (bool_n (by decide)) (zI hB)
  · rw [if_neg c2q] at hB
    refine r_ic_t (t := 10) f129_5 (by decide) c2q ?_
    refine r_aload_nN f129_10 rfl ?_
    refine r_dupN f129_11 ?_
    replace hB := bnd_some hB
    obtain ⟨x3q, ex3q, hB⟩ := hB
    refine r_getI f129_12 fa_6_158 ex3q ?_
    refine r_iconst f129_15 ci_1 ?_
    refine r_iadd f129_16 ?_
    replace hB := bnd_some hB
    obtain ⟨h4q, eh4q, hB⟩ := hB
    refine r_put f129_17 fa_6_158 ty_6_29 rfl rfl (no_fin (nf_6_29)) eh4q ?_
    refine r_aload_nN f129_20 rfl ?_
    refine r_iload_n f129_21 rfl ?_
    replace hB := grd_some hB
    obtain ⟨g7q, hB⟩ := hB
    replace hB := bn2_some hB
    obtain ⟨h5q, _, eh5q, hB⟩ := hB
    refine r_virtN (as := [.int a1]) (q := pm_m_128) f129_22 ca_6_165 rfl rfl rfl (cs_len (Nat.le_of_ble_eq_true rfl)) g7q (P_M_holds (d := d + 0) eh5q) ?_
    refine r_iconst f129_25 ci_1 ?_
    exact r_iret pm_m_129 .boolean f129_26 rfl rfl (bool_n (by decide)) (zI hB)
theorem P_M_between_55 {d : Nat} {h' : pm_H} {r : Int32} (h : pm_H) (l0 : Nat) (l1 : Int32) (hB : M_between_55 h l0 l1 = some (h', r)) : pm_run (pm_ev (d + 2)) 130 55 [.ref l0, .int l1] [] h (fun r1 h1 => r1 = some (.int r) ∧ h1 = h') := by
  unfold M_between_55 at hB
  refine r_aload_nN f130_55 rfl ?_
  refine r_iload_n f130_56 rfl ?_
  replace hB := grd_some hB
  obtain ⟨g3q, hB⟩ := hB
  replace hB := bn2_some hB
  obtain ⟨h1q, _, eh1q, hB⟩ := hB
  refine r_virtN (as := [.int l1]) (q := pm_m_128) f130_57 ca_6_165 rfl rfl rfl (cs_len (Nat.le_of_ble_eq_true rfl)) g3q (P_M_holds (d := d + 1) eh1q) ?_
  refine r_iconst f130_60 ci_1 ?_
  exact r_iret pm_m_130 .boolean f130_61 rfl rfl (bool_n (by decide)) (zI hB)
theorem P_M_between_17 {d : Nat} {h' : pm_H} {r : Int32} (h : pm_H) (l0 : Nat) (l1 : Int32) (s0 : Int32) (s1 : Nat) (hB : M_between_17 h l0 l1 s0 s1 = some (h', r)) : pm_run (pm_ev (d + 2)) 130 17 [.ref l0, .int l1] [.int s0, .ref s1] h (fun r1 h1 => r1 = some (.int r) ∧ h1 = h') := by
  unfold M_between_17 at hB
  replace hB := grd_some hB
  obtain ⟨g3q, hB⟩ := hB
  replace hB := bn2_some hB
  obtain ⟨h1q, _, eh1q, hB⟩ := hB
  refine r_virtN (as := [.int s0]) (q := pm_m_127) f130_17 ca_6_168 rfl rfl rfl (cs_len (Nat.le_of_ble_eq_true rfl)) g3q (P_M_unwinds (d := d + 0) eh1q) ?_
  refine r_iload_n f130_20 rfl ?_
  replace hB := bn2_some hB
  obtain ⟨h4q, x5q, eh4q, hB⟩ := hB
  refine r_statV (as := [.int l1]) (q := pm_m_125) f130_21 ca_6_154 rfl (by decide) rfl rfl (cs_len (Nat.le_of_ble_eq_true rfl)) (P_M_rank (d := d + 1) eh4q) ?_
  refine r_iconst f130_24 ci_4 ?_
  by_cases c6q : x5q = 4
  · rw [if_pos c6q] at hB
    refine r_ic_f 55 f130_25 (by decide) (fun q => q c6q) ?_
    refine r_aload_nN f130_28 rfl ?_
    replace hB := bnd_some hB
    obtain ⟨x7q, ex7q, hB⟩ := hB
    refine r_getI f130_29 fa_6_151 ex7q ?_
    by_cases c8q : x7q ≤ 0
    · rw [if_pos c8q] at hB
      refine r_if_t (t := 55) f130_32 (by decide) c8q ?_
      exact pm_weak (L' := [.ref l0, .int l1]) ⟨.inr rfl, .inr rfl, trivial⟩ (P_M_between_55 (d := d) h4q l0 l1 hB)
    · rw [if_neg c8q] at hB
      refine r_if_f 55 f130_32 (by decide) c8q ?_
      refine r_aload_nN f130_35 rfl ?_
      replace hB := bnd_some hB
      obtain ⟨x9q, ex9q, hB⟩ := hB
      refine r_getA f130_36 fa_6_56 ex9q ?_
      refine r_aload_nN f130_39 rfl ?_
      replace hB := bnd_some hB
      obtain ⟨x10q, ex10q, hB⟩ := hB
      refine r_getI f130_40 fa_6_151 ex10q ?_
      refine r_iconst f130_43 ci_1 ?_
      refine r_isub f130_44 ?_
      replace hB := bnd_some hB
      obtain ⟨u11q, rfl, hB⟩ := hB
      replace hB := bnd_some hB
      obtain ⟨x12q, ex12q, hB⟩ := hB
      refine r_aI f130_45 ex12q ?_
      replace hB := bn2_some hB
      obtain ⟨h13q, x14q, eh13q, hB⟩ := hB
      refine r_statV (as := [.int x12q]) (q := pm_m_125) f130_46 ca_6_154 rfl (by decide) rfl rfl (cs_len (Nat.le_of_ble_eq_true rfl)) (P_M_rank (d := d + 1) eh13q) ?_
      refine r_iconst f130_49 ci_4 ?_
      by_cases c15q : x14q = 4
      · rw [if_pos c15q] at hB
        refine r_ic_f 55 f130_50 (by decide) (fun q => q c15q) ?_
        refine r_iconst f130_53 ci_0 ?_
        exact r_iret pm_m_130 .boolean f130_54 rfl rfl (bool_n (by decide)) (zI hB)
      · rw [if_neg c15q] at hB
        refine r_ic_t (t := 55) f130_50 (by decide) c15q ?_
        exact pm_weak (L' := [.ref l0, .int l1]) ⟨.inr rfl, .inr rfl, trivial⟩ (P_M_between_55 (d := d) h13q l0 l1 hB)
  · rw [if_neg c6q] at hB
    refine r_ic_t (t := 55) f130_25 (by decide) c6q ?_
    exact pm_weak (L' := [.ref l0, .int l1]) ⟨.inr rfl, .inr rfl, trivial⟩ (P_M_between_55 (d := d) h4q l0 l1 hB)
theorem P_M_between {d : Nat} {h h' : pm_H} {r : Int32} {t : Nat} {a1 : Int32} (hB : M_between h t a1 = some (h', r)) : pm_ev (d + 3) 130 [.ref t, .int a1] h (some (.int r)) h' := by
  unfold M_between at hB
  refine pm_ev_mk (L := [.ref t, .int a1]) pm_m_130 rfl (Nat.le_of_ble_eq_true rfl) rfl ?_
  refine r_aload_nN f130_0 rfl ?_
  refine r_iload_n f130_1 rfl ?_
  replace hB := bn2_some hB
  obtain ⟨h1q, x2q, eh1q, hB⟩ := hB
  refine r_statV (as := [.int a1]) (q := pm_m_125) f130_2 ca_6_154 rfl (by decide) rfl rfl (cs_len (Nat.le_of_ble_eq_true rfl)) (P_M_rank (d := d + 1) eh1q) ?_
  refine r_iconst f130_5 ci_4 ?_
  by_cases c3q : x2q = 4
  · rw [if_pos c3q] at hB
    refine r_ic_f 13 f130_6 (by decide) (fun q => q c3q) ?_
    refine r_iconst f130_9 ci_5 ?_
    refine r_goto (t := 17) f130_10 (by decide) ?_
    exact pm_weak (L' := [.ref t, .int a1]) ⟨.inr rfl, .inr rfl, trivial⟩ (P_M_between_17 (d := d) h1q t a1 5 t hB)
  · rw [if_neg c3q] at hB
    refine r_ic_t (t := 13) f130_6 (by decide) c3q ?_
    refine r_iload_n f130_13 rfl ?_
    replace hB := bn2_some hB
    obtain ⟨h4q, x5q, eh4q, hB⟩ := hB
    refine r_statV (as := [.int a1]) (q := pm_m_125) f130_14 ca_6_154 rfl (by decide) rfl rfl (cs_len (Nat.le_of_ble_eq_true rfl)) (P_M_rank (d := d + 1) eh4q) ?_
    exact pm_weak (L' := [.ref t, .int a1]) ⟨.inr rfl, .inr rfl, trivial⟩ (P_M_between_17 (d := d) h4q t a1 x5q t hB)
theorem P_M_signOf {d : Nat} {h h' : pm_H} {r : Int32} {t : Nat} (hB : M_signOf h t = some (h', r)) : pm_ev (d + 1) 131 [.ref t] h (some (.int r)) h' := by
  unfold M_signOf at hB
  refine pm_ev_mk (L := [.ref t]) pm_m_131 rfl (Nat.le_of_ble_eq_true rfl) rfl ?_
  refine r_aload_nN f131_0 rfl ?_
  replace hB := bnd_some hB
  obtain ⟨x1q, ex1q, hB⟩ := hB
  refine r_getI f131_1 fa_6_138 ex1q ?_
  refine r_iconst f131_4 ci_4 ?_
  by_cases c2q : x1q = 4
  · rw [if_pos c2q] at hB
    refine r_ic_f 13 f131_5 (by decide) (fun q => q c2q) ?_
    refine r_bipush f131_8 cb_11 ?_
    refine r_goto (t := 97) f131_10 (by decide) ?_
    exact r_iret pm_m_131 .int f131_97 rfl rfl rfl (zI hB)
  · rw [if_neg c2q] at hB
    refine r_ic_t (t := 13) f131_5 (by decide) c2q ?_
    refine r_aload_nN f131_13 rfl ?_
    replace hB := bnd_some hB
    obtain ⟨x3q, ex3q, hB⟩ := hB
    refine r_getI f131_14 fa_6_138 ex3q ?_
    refine r_iconst f131_17 ci_5 ?_
    by_cases c4q : x3q = 5
    · rw [if_pos c4q] at hB
      refine r_ic_f 26 f131_18 (by decide) (fun q => q c4q) ?_
      refine r_bipush f131_21 cb_12 ?_
      refine r_goto (t := 97) f131_23 (by decide) ?_
      exact r_iret pm_m_131 .int f131_97 rfl rfl rfl (zI hB)
    · rw [if_neg c4q] at hB
      refine r_ic_t (t := 26) f131_18 (by decide) c4q ?_
      refine r_aload_nN f131_26 rfl ?_
      replace hB := bnd_some hB
      obtain ⟨x5q, ex5q, hB⟩ := hB
      refine r_getI f131_27 fa_6_138 ex5q ?_
      refine r_bipush f131_30 cb_60 ?_
      by_cases c6q : x5q = 60
      · rw [if_pos c6q] at hB
        refine r_ic_f 40 f131_32 (by decide) (fun q => q c6q) ?_
        refine r_bipush f131_35 cb_14 ?_
        refine r_goto (t := 97) f131_37 (by decide) ?_
        exact r_iret pm_m_131 .int f131_97 rfl rfl rfl (zI hB)
      · rw [if_neg c6q] at hB
        refine r_ic_t (t := 40) f131_32 (by decide) c6q ?_
        refine r_aload_nN f131_40 rfl ?_
        replace hB := bnd_some hB
        obtain ⟨x7q, ex7q, hB⟩ := hB
        refine r_getI f131_41 fa_6_138 ex7q ?_
        refine r_bipush f131_44 cb_61 ?_
        by_cases c8q : x7q = 61
        · rw [if_pos c8q] at hB
          refine r_ic_f 54 f131_46 (by decide) (fun q => q c8q) ?_
          refine r_bipush f131_49 cb_15 ?_
          refine r_goto (t := 97) f131_51 (by decide) ?_
          exact r_iret pm_m_131 .int f131_97 rfl rfl rfl (zI hB)
        · rw [if_neg c8q] at hB
          refine r_ic_t (t := 54) f131_46 (by decide) c8q ?_
          refine r_aload_nN f131_54 rfl ?_
          replace hB := bnd_some hB
          obtain ⟨x9q, ex9q, hB⟩ := hB
          refine r_getI f131_55 fa_6_138 ex9q ?_
          refine r_bipush f131_58 cb_43 ?_
          by_cases c10q : x9q = 43
          · rw [if_pos c10q] at hB
            refine r_ic_f 68 f131_60 (by decide) (fun q => q c10q) ?_
            refine r_bipush f131_63 cb_16 ?_
            refine r_goto (t := 97) f131_65 (by decide) ?_
            exact r_iret pm_m_131 .int f131_97 rfl rfl rfl (zI hB)
          · rw [if_neg c10q] at hB
            refine r_ic_t (t := 68) f131_60 (by decide) c10q ?_
            refine r_aload_nN f131_68 rfl ?_
            replace hB := bnd_some hB
            obtain ⟨x11q, ex11q, hB⟩ := hB
            refine r_getI f131_69 fa_6_138 ex11q ?_
            refine r_bipush f131_72 cb_45 ?_
            by_cases c12q : x11q = 45
            · rw [if_pos c12q] at hB
              refine r_ic_f 82 f131_74 (by decide) (fun q => q c12q) ?_
              refine r_bipush f131_77 cb_17 ?_
              refine r_goto (t := 97) f131_79 (by decide) ?_
              exact r_iret pm_m_131 .int f131_97 rfl rfl rfl (zI hB)
            · rw [if_neg c12q] at hB
              refine r_ic_t (t := 82) f131_74 (by decide) c12q ?_
              refine r_aload_nN f131_82 rfl ?_
              replace hB := bnd_some hB
              obtain ⟨x13q, ex13q, hB⟩ := hB
              refine r_getI f131_83 fa_6_138 ex13q ?_
              refine r_bipush f131_86 cb_42 ?_
              by_cases c14q : x13q = 42
              · rw [if_pos c14q] at hB
                refine r_ic_f 96 f131_88 (by decide) (fun q => q c14q) ?_
                refine r_bipush f131_91 cb_18 ?_
                refine r_goto (t := 97) f131_93 (by decide) ?_
                exact r_iret pm_m_131 .int f131_97 rfl rfl rfl (zI hB)
              · rw [if_neg c14q] at hB
                refine r_ic_t (t := 96) f131_88 (by decide) c14q ?_
                refine r_iconst f131_96 ci_m1 ?_
                exact r_iret pm_m_131 .int f131_97 rfl rfl rfl (zI hB)
theorem P_M_eRead_61 {d : Nat} {h' : pm_H} {r : Int32} (k_14 : pm_H → Nat → Int32 → Int32 → Option (pm_H × Int32)) (hk_14 : ∀ (h : pm_H) (l0 : Nat) (l1 : Int32) (l2 : Int32), k_14 h l0 l1 l2 = some (h', r) → pm_run (pm_ev (d + 3)) 132 14 [.ref l0, .int l1, .int l2, pm_J] [] h (fun r1 h1 => r1 = some (.int r) ∧ h1 = h')) (h : pm_H) (l0 : Nat) (l2 : Int32) (s0 : Int32) (s1 : Nat) (hB : M_eRead_61 k_14 h l0 l2 s0 s1 = some (h', r)) : pm_run (pm_ev (d + 3)) 132 61 [.ref l0, pm_J, .int l2, pm_J] [.int s0, .ref s1] h (fun r1 h1 => r1 = some (.int r) ∧ h1 = h') := by
  unfold M_eRead_61 at hB
  replace hB := grd_some hB
  obtain ⟨g3q, hB⟩ := hB
  replace hB := bn2_some hB
  obtain ⟨h1q, _, eh1q, hB⟩ := hB
  refine r_virtN (as := [.int s0]) (q := pm_m_126) f132_61 ca_6_161 rfl rfl rfl (cs_len (Nat.le_of_ble_eq_true rfl)) g3q (P_M_puts (d := d + 2) eh1q) ?_
  refine r_aload_nN f132_64 rfl ?_
  refine r_bipush f132_65 cb_7 ?_
  replace hB := grd_some hB
  obtain ⟨g6q, hB⟩ := hB
  replace hB := bn2_some hB
  obtain ⟨h4q, _, eh4q, hB⟩ := hB
  refine r_virtN (as := [.int 7]) (q := pm_m_127) f132_67 ca_6_168 rfl rfl rfl (cs_len (Nat.le_of_ble_eq_true rfl)) g6q (P_M_unwinds (d := d + 1) eh4q) ?_
  refine r_iconst f132_70 ci_0 ?_
  refine r_istore_n (L' := [.ref l0, .int 0, .int l2, pm_J]) (x := 0) f132_71 rfl (Nat.le_of_ble_eq_true rfl) rfl ?_
  refine r_goto (t := 14) f132_72 (by decide) ?_
  exact pm_weak (L' := [.ref l0, .int 0, .int l2, pm_J]) ⟨.inr rfl, .inr rfl, .inr rfl, .inl rfl, trivial⟩ (hk_14 h4q l0 0 l2 hB)
theorem P_M_eRead_38 {d : Nat} {h' : pm_H} {r : Int32} (k_14 : pm_H → Nat → Int32 → Int32 → Option (pm_H × Int32)) (hk_14 : ∀ (h : pm_H) (l0 : Nat) (l1 : Int32) (l2 : Int32), k_14 h l0 l1 l2 = some (h', r) → pm_run (pm_ev (d + 3)) 132 14 [.ref l0, .int l1, .int l2, pm_J] [] h (fun r1 h1 => r1 = some (.int r) ∧ h1 = h')) (h : pm_H) (l0 : Nat) (l2 : Int32) (hB : M_eRead_38 k_14 h l0 l2 = some (h', r)) : pm_run (pm_ev (d + 3)) 132 38 [.ref l0, pm_J, .int l2, pm_J] [] h (fun r1 h1 => r1 = some (.int r) ∧ h1 = h') := by
  unfold M_eRead_38 at hB
  refine r_aload_nN f132_38 rfl ?_
  refine r_aload_nN f132_39 rfl ?_
  replace hB := bnd_some hB
  obtain ⟨x1q, ex1q, hB⟩ := hB
  refine r_getI f132_40 fa_6_138 ex1q ?_
  refine r_iconst f132_43 ci_1 ?_
  by_cases c2q : x1q = 1
  · rw [if_pos c2q] at hB
    refine r_ic_f 57 f132_44 (by decide) (fun q => q c2q) ?_
    refine r_ldc (v := 100000) (p := 806) f132_47 rfl ?_
    refine r_aload_nN f132_49 rfl ?_
    replace hB := bnd_some hB
    obtain ⟨x4q, ex4q, hB⟩ := hB
    refine r_getI f132_50 fa_6_141 ex4q ?_
    refine r_iadd f132_53 ?_
    refine r_goto (t := 61) f132_54 (by decide) ?_
    exact pm_weak (L' := [.ref l0, pm_J, .int l2, pm_J]) ⟨.inr rfl, .inl rfl, .inr rfl, .inl rfl, trivial⟩ (P_M_eRead_61 (d := d) k_14 hk_14 h l0 l2 (100000 + x4q) l0 hB)
  · rw [if_neg c2q] at hB
    refine r_ic_t (t := 57) f132_44 (by decide) c2q ?_
    refine r_aload_nN f132_57 rfl ?_
    replace hB := bnd_some hB
    obtain ⟨x3q, ex3q, hB⟩ := hB
    refine r_getI f132_58 fa_6_141 ex3q ?_
    exact pm_weak (L' := [.ref l0, pm_J, .int l2, pm_J]) ⟨.inr rfl, .inl rfl, .inr rfl, .inl rfl, trivial⟩ (P_M_eRead_61 (d := d) k_14 hk_14 h l0 l2 x3q l0 hB)
theorem P_M_eRead_99 {d : Nat} {h' : pm_H} {r : Int32} (k_14 : pm_H → Nat → Int32 → Int32 → Option (pm_H × Int32)) (hk_14 : ∀ (h : pm_H) (l0 : Nat) (l1 : Int32) (l2 : Int32), k_14 h l0 l1 l2 = some (h', r) → pm_run (pm_ev (d + 3)) 132 14 [.ref l0, .int l1, .int l2, pm_J] [] h (fun r1 h1 => r1 = some (.int r) ∧ h1 = h')) (h : pm_H) (l0 : Nat) (l1 : Int32) (hB : M_eRead_99 k_14 h l0 l1 = some (h', r)) : pm_run (pm_ev (d + 3)) 132 99 [.ref l0, .int l1, pm_J, pm_J] [] h (fun r1 h1 => r1 = some (.int r) ∧ h1 = h') := by
  unfold M_eRead_99 at hB
  refine r_aload_nN f132_99 rfl ?_
  replace hB := bnd_some hB
  obtain ⟨x1q, ex1q, hB⟩ := hB
  refine r_getI f132_100 fa_6_138 ex1q ?_
  refine r_bipush f132_103 cb_45 ?_
  by_cases c2q : x1q = 45
  · rw [if_pos c2q] at hB
    refine r_ic_f 124 f132_105 (by decide) (fun q => q c2q) ?_
    refine r_aload_nN f132_108 rfl ?_
    refine r_bipush f132_109 cb_19 ?_
    replace hB := grd_some hB
    obtain ⟨g11q, hB⟩ := hB
    replace hB := bn2_some hB
    obtain ⟨h9q, x10q, eh9q, hB⟩ := hB
    refine r_virtV (as := [.int 19]) (q := pm_m_129) f132_111 ca_6_175 rfl rfl rfl (cs_len (Nat.le_of_ble_eq_true rfl)) g11q (P_M_opensOne (d := d + 1) eh9q) ?_
    by_cases c12q : x10q = 0
    · rw [if_pos c12q] at hB
      refine r_if_f 119 f132_114 (by decide) (fun q => q c12q) ?_
      refine r_iconst f132_117 ci_0 ?_
      exact r_iret pm_m_132 .boolean f132_118 rfl rfl (bool_n (by decide)) (zI hB)
    · rw [if_neg c12q] at hB
      refine r_if_t (t := 119) f132_114 (by decide) c12q ?_
      refine r_iconst f132_119 ci_0 ?_
      refine r_istore_n (L' := [.ref l0, .int l1, .int 0, pm_J]) (x := 0) f132_120 rfl (Nat.le_of_ble_eq_true rfl) rfl ?_
      refine r_goto (t := 14) f132_121 (by decide) ?_
      exact pm_weak (L' := [.ref l0, .int l1, .int 0, pm_J]) ⟨.inr rfl, .inr rfl, .inr rfl, .inl rfl, trivial⟩ (hk_14 h9q l0 l1 0 hB)
  · rw [if_neg c2q] at hB
    refine r_ic_t (t := 124) f132_105 (by decide) c2q ?_
    refine r_aload_nN f132_124 rfl ?_
    replace hB := bnd_some hB
    obtain ⟨x3q, ex3q, hB⟩ := hB
    refine r_getI f132_125 fa_6_138 ex3q ?_
    refine r_bipush f132_128 cb_40 ?_
    by_cases c4q : x3q = 40
    · rw [if_pos c4q] at hB
      refine r_ic_f 148 f132_130 (by decide) (fun q => q c4q) ?_
      refine r_aload_nN f132_133 rfl ?_
      refine r_iconst f132_134 ci_0 ?_
      replace hB := grd_some hB
      obtain ⟨g7q, hB⟩ := hB
      replace hB := bn2_some hB
      obtain ⟨h5q, x6q, eh5q, hB⟩ := hB
      refine r_virtV (as := [.int 0]) (q := pm_m_129) f132_135 ca_6_175 rfl rfl rfl (cs_len (Nat.le_of_ble_eq_true rfl)) g7q (P_M_opensOne (d := d + 1) eh5q) ?_
      by_cases c8q : x6q = 0
      · rw [if_pos c8q] at hB
        refine r_if_f 143 f132_138 (by decide) (fun q => q c8q) ?_
        refine r_iconst f132_141 ci_0 ?_
        exact r_iret pm_m_132 .boolean f132_142 rfl rfl (bool_n (by decide)) (zI hB)
      · rw [if_neg c8q] at hB
        refine r_if_t (t := 143) f132_138 (by decide) c8q ?_
        refine r_iconst f132_143 ci_1 ?_
        refine r_istore_n (L' := [.ref l0, .int l1, .int 1, pm_J]) (x := 1) f132_144 rfl (Nat.le_of_ble_eq_true rfl) rfl ?_
        refine r_goto (t := 14) f132_145 (by decide) ?_
        exact pm_weak (L' := [.ref l0, .int l1, .int 1, pm_J]) ⟨.inr rfl, .inr rfl, .inr rfl, .inl rfl, trivial⟩ (hk_14 h5q l0 l1 1 hB)
    · rw [if_neg c4q] at hB
      refine r_ic_t (t := 148) f132_130 (by decide) c4q ?_
      refine r_iconst f132_148 ci_0 ?_
      exact r_iret pm_m_132 .boolean f132_149 rfl rfl (bool_n (by decide)) (zI hB)
theorem P_M_eRead_262 {d : Nat} {h' : pm_H} {r : Int32} (k_14 : pm_H → Nat → Int32 → Int32 → Option (pm_H × Int32)) (hk_14 : ∀ (h : pm_H) (l0 : Nat) (l1 : Int32) (l2 : Int32), k_14 h l0 l1 l2 = some (h', r) → pm_run (pm_ev (d + 3)) 132 14 [.ref l0, .int l1, .int l2, pm_J] [] h (fun r1 h1 => r1 = some (.int r) ∧ h1 = h')) (h : pm_H) (l0 : Nat) (l1 : Int32) (s0 : Int32) (hB : M_eRead_262 k_14 h l0 l1 s0 = some (h', r)) : pm_run (pm_ev (d + 3)) 132 262 [.ref l0, .int l1, pm_J, pm_J] [.int s0] h (fun r1 h1 => r1 = some (.int r) ∧ h1 = h') := by
  unfold M_eRead_262 at hB
  refine r_istore_n (L' := [.ref l0, .int l1, .int s0, pm_J]) (x := s0) f132_262 rfl (Nat.le_of_ble_eq_true rfl) rfl ?_
  refine r_goto (t := 14) f132_263 (by decide) ?_
  exact pm_weak (L' := [.ref l0, .int l1, .int s0, pm_J]) ⟨.inr rfl, .inr rfl, .inr rfl, .inl rfl, trivial⟩ (hk_14 h l0 l1 s0 hB)
theorem P_M_eRead_14 {d : Nat} {h' : pm_H} {r : Int32} (n : Nat) : ∀ (h : pm_H) (l0 : Nat) (l1 : Int32) (l2 : Int32), M_eRead_14 n h l0 l1 l2 = some (h', r) → pm_run (pm_ev (d + 3)) 132 14 [.ref l0, .int l1, .int l2, pm_J] [] h (fun r1 h1 => r1 = some (.int r) ∧ h1 = h') := by
  induction n with
  | zero => intro h l0 l1 l2 hB; cases hB
  | succ n ih =>
    intro h l0 l1 l2 hB
    unfold M_eRead_14 at hB
    refine r_aload_nN f132_14 rfl ?_
    replace hB := grd_some hB
    obtain ⟨g3q, hB⟩ := hB
    replace hB := bn2_some hB
    obtain ⟨h1q, _, eh1q, hB⟩ := hB
    refine r_virtN (as := []) (q := pm_m_124) f132_15 ca_6_171 rfl rfl rfl (cs_len (Nat.le_of_ble_eq_true rfl)) g3q (P_M_next (d := d + 1) eh1q) ?_
    refine r_iload_n f132_18 rfl ?_
    by_cases c4q : l1 = 0
    · rw [if_pos c4q] at hB
      refine r_if_t (t := 150) f132_19 (by decide) c4q ?_
      refine r_aload_nN f132_150 rfl ?_
      replace hB := bnd_some hB
      obtain ⟨x5q, ex5q, hB⟩ := hB
      refine r_getI f132_151 fa_6_138 ex5q ?_
      refine r_bipush f132_154 cb_59 ?_
      by_cases c6q : x5q = 59
      · rw [if_pos c6q] at hB
        refine r_ic_f 177 f132_156 (by decide) (fun q => q c6q) ?_
        refine r_aload_nN f132_159 rfl ?_
        refine r_iconst f132_160 ci_1 ?_
        replace hB := grd_some hB
        obtain ⟨g32q, hB⟩ := hB
        replace hB := bn2_some hB
        obtain ⟨h30q, _, eh30q, hB⟩ := hB
        refine r_virtN (as := [.int 1]) (q := pm_m_127) f132_161 ca_6_168 rfl rfl rfl (cs_len (Nat.le_of_ble_eq_true rfl)) g32q (P_M_unwinds (d := d + 1) eh30q) ?_
        refine r_aload_nN f132_164 rfl ?_
        replace hB := bnd_some hB
        obtain ⟨x33q, ex33q, hB⟩ := hB
        refine r_getI f132_165 fa_6_151 ex33q ?_
        by_cases c34q : x33q = 0
        · rw [if_pos c34q] at hB
          refine r_if_f 175 f132_168 (by decide) (fun q => q c34q) ?_
          refine r_iconst f132_171 ci_1 ?_
          refine r_goto (t := 176) f132_172 (by decide) ?_
          exact r_iret pm_m_132 .boolean f132_176 rfl rfl (bool_n (by decide)) (zI hB)
        · rw [if_neg c34q] at hB
          refine r_if_t (t := 175) f132_168 (by decide) c34q ?_
          refine r_iconst f132_175 ci_0 ?_
          exact r_iret pm_m_132 .boolean f132_176 rfl rfl (bool_n (by decide)) (zI hB)
      · rw [if_neg c6q] at hB
        refine r_ic_t (t := 177) f132_156 (by decide) c6q ?_
        refine r_aload_nN f132_177 rfl ?_
        replace hB := bnd_some hB
        obtain ⟨x7q, ex7q, hB⟩ := hB
        refine r_getI f132_178 fa_6_138 ex7q ?_
        refine r_bipush f132_181 cb_41 ?_
        by_cases c8q : x7q = 41
        · rw [if_pos c8q] at hB
          refine r_ic_f 229 f132_183 (by decide) (fun q => q c8q) ?_
          refine r_aload_nN f132_186 rfl ?_
          refine r_iconst f132_187 ci_1 ?_
          replace hB := grd_some hB
          obtain ⟨g20q, hB⟩ := hB
          replace hB := bn2_some hB
          obtain ⟨h18q, _, eh18q, hB⟩ := hB
          refine r_virtN (as := [.int 1]) (q := pm_m_127) f132_188 ca_6_168 rfl rfl rfl (cs_len (Nat.le_of_ble_eq_true rfl)) g20q (P_M_unwinds (d := d + 1) eh18q) ?_
          refine r_aload_nN f132_191 rfl ?_
          replace hB := bnd_some hB
          obtain ⟨x21q, ex21q, hB⟩ := hB
          refine r_getI f132_192 fa_6_151 ex21q ?_
          by_cases c22q : x21q = 0
          · rw [if_pos c22q] at hB
            refine r_if_f 200 f132_195 (by decide) (fun q => q c22q) ?_
            refine r_iconst f132_198 ci_0 ?_
            exact r_iret pm_m_132 .boolean f132_199 rfl rfl (bool_n (by decide)) (zI hB)
          · rw [if_neg c22q] at hB
            refine r_if_t (t := 200) f132_195 (by decide) c22q ?_
            refine r_aload_nN f132_200 rfl ?_
            refine r_dupN f132_201 ?_
            replace hB := bnd_some hB
            obtain ⟨x23q, ex23q, hB⟩ := hB
            refine r_getI f132_202 fa_6_151 ex23q ?_
            refine r_iconst f132_205 ci_1 ?_
            refine r_isub f132_206 ?_
            replace hB := bnd_some hB
            obtain ⟨h24q, eh24q, hB⟩ := hB
            refine r_put f132_207 fa_6_151 ty_6_28 rfl rfl (no_fin (nf_6_28)) eh24q ?_
            refine r_aload_nN f132_210 rfl ?_
            refine r_dupN f132_211 ?_
            replace hB := bnd_some hB
            obtain ⟨x25q, ex25q, hB⟩ := hB
            refine r_getI f132_212 fa_6_158 ex25q ?_
            refine r_iconst f132_215 ci_1 ?_
            refine r_isub f132_216 ?_
            replace hB := bnd_some hB
            obtain ⟨h26q, eh26q, hB⟩ := hB
            refine r_put f132_217 fa_6_158 ty_6_29 rfl rfl (no_fin (nf_6_29)) eh26q ?_
            refine r_aload_nN f132_220 rfl ?_
            refine r_bipush f132_221 cb_7 ?_
            replace hB := grd_some hB
            obtain ⟨g29q, hB⟩ := hB
            replace hB := bn2_some hB
            obtain ⟨h27q, _, eh27q, hB⟩ := hB
            refine r_virtN (as := [.int 7]) (q := pm_m_127) f132_223 ca_6_168 rfl rfl rfl (cs_len (Nat.le_of_ble_eq_true rfl)) g29q (P_M_unwinds (d := d + 1) eh27q) ?_
            refine r_goto (t := 14) f132_226 (by decide) ?_
            exact pm_weak (L' := [.ref l0, .int l1, .int l2, pm_J]) ⟨.inr rfl, .inr rfl, .inr rfl, .inl rfl, trivial⟩ (ih h27q l0 l1 l2 hB)
        · rw [if_neg c8q] at hB
          refine r_ic_t (t := 229) f132_183 (by decide) c8q ?_
          refine r_aload_nN f132_229 rfl ?_
          replace hB := grd_some hB
          obtain ⟨g11q, hB⟩ := hB
          replace hB := bn2_some hB
          obtain ⟨h9q, x10q, eh9q, hB⟩ := hB
          refine r_virtV (as := []) (q := pm_m_131) f132_230 ca_6_178 rfl rfl rfl (cs_len (Nat.le_of_ble_eq_true rfl)) g11q (P_M_signOf (d := d + 2) eh9q) ?_
          refine r_istore_n (L' := [.ref l0, .int l1, .int l2, .int x10q]) (x := x10q) f132_233 rfl (Nat.le_of_ble_eq_true rfl) rfl ?_
          refine r_iload_n f132_234 rfl ?_
          refine r_iconst f132_235 ci_m1 ?_
          by_cases c12q : x10q = (-1)
          · rw [if_pos c12q] at hB
            refine r_ic_t (t := 247) f132_236 (by decide) c12q ?_
            refine r_iconst f132_247 ci_0 ?_
            exact r_iret pm_m_132 .boolean f132_248 rfl rfl (bool_n (by decide)) (zI hB)
          · rw [if_neg c12q] at hB
            refine r_ic_f 247 f132_236 (by decide) c12q ?_
            refine r_aload_nN f132_239 rfl ?_
            refine r_iload_n f132_240 rfl ?_
            replace hB := grd_some hB
            obtain ⟨g15q, hB⟩ := hB
            replace hB := bn2_some hB
            obtain ⟨h13q, x14q, eh13q, hB⟩ := hB
            refine r_virtV (as := [.int x10q]) (q := pm_m_130) f132_241 ca_6_181 rfl rfl rfl (cs_len (Nat.le_of_ble_eq_true rfl)) g15q (P_M_between (d := d + 0) eh13q) ?_
            by_cases c16q : x14q = 0
            · rw [if_pos c16q] at hB
              refine r_if_f 249 f132_244 (by decide) (fun q => q c16q) ?_
              refine r_iconst f132_247 ci_0 ?_
              exact r_iret pm_m_132 .boolean f132_248 rfl rfl (bool_n (by decide)) (zI hB)
            · rw [if_neg c16q] at hB
              refine r_if_t (t := 249) f132_244 (by decide) c16q ?_
              refine r_iconst f132_249 ci_1 ?_
              refine r_istore_n (L' := [.ref l0, .int 1, .int l2, .int x10q]) (x := 1) f132_250 rfl (Nat.le_of_ble_eq_true rfl) rfl ?_
              refine r_iload_n f132_251 rfl ?_
              refine r_bipush f132_252 cb_12 ?_
              by_cases c17q : 12 < x10q
              · rw [if_pos c17q] at hB
                refine r_ic_t (t := 261) f132_254 (by decide) c17q ?_
                refine r_iconst f132_261 ci_0 ?_
                exact pm_weak (L' := [.ref l0, .int 1, pm_J, pm_J]) ⟨.inr rfl, .inr rfl, .inl rfl, .inl rfl, trivial⟩ (P_M_eRead_262 (d := d) (M_eRead_14 n) ih h13q l0 1 0 hB)
              · rw [if_neg c17q] at hB
                refine r_ic_f 261 f132_254 (by decide) c17q ?_
                refine r_iconst f132_257 ci_1 ?_
                refine r_goto (t := 262) f132_258 (by decide) ?_
                exact pm_weak (L' := [.ref l0, .int 1, pm_J, pm_J]) ⟨.inr rfl, .inr rfl, .inl rfl, .inl rfl, trivial⟩ (P_M_eRead_262 (d := d) (M_eRead_14 n) ih h13q l0 1 1 hB)
    · rw [if_neg c4q] at hB
      refine r_if_f 150 f132_19 (by decide) c4q ?_
      refine r_aload_nN f132_22 rfl ?_
      replace hB := bnd_some hB
      obtain ⟨x35q, ex35q, hB⟩ := hB
      refine r_getI f132_23 fa_6_138 ex35q ?_
      refine r_iconst f132_26 ci_1 ?_
      by_cases c36q : x35q = 1
      · rw [if_pos c36q] at hB
        refine r_ic_t (t := 38) f132_27 (by decide) c36q ?_
        exact pm_weak (L' := [.ref l0, pm_J, .int l2, pm_J]) ⟨.inr rfl, .inl rfl, .inr rfl, .inl rfl, trivial⟩ (P_M_eRead_38 (d := d) (M_eRead_14 n) ih h1q l0 l2 hB)
      · rw [if_neg c36q] at hB
        refine r_ic_f 38 f132_27 (by decide) c36q ?_
        refine r_aload_nN f132_30 rfl ?_
        replace hB := bnd_some hB
        obtain ⟨x37q, ex37q, hB⟩ := hB
        refine r_getI f132_31 fa_6_138 ex37q ?_
        refine r_iconst f132_34 ci_2 ?_
        by_cases c38q : x37q = 2
        · rw [if_pos c38q] at hB
          refine r_ic_f 75 f132_35 (by decide) (fun q => q c38q) ?_
          exact pm_weak (L' := [.ref l0, pm_J, .int l2, pm_J]) ⟨.inr rfl, .inl rfl, .inr rfl, .inl rfl, trivial⟩ (P_M_eRead_38 (d := d) (M_eRead_14 n) ih h1q l0 l2 hB)
        · rw [if_neg c38q] at hB
          refine r_ic_t (t := 75) f132_35 (by decide) c38q ?_
          refine r_aload_nN f132_75 rfl ?_
          replace hB := bnd_some hB
          obtain ⟨x39q, ex39q, hB⟩ := hB
          refine r_getI f132_76 fa_6_138 ex39q ?_
          refine r_bipush f132_79 cb_6 ?_
          by_cases c40q : x39q = 6
          · rw [if_pos c40q] at hB
            refine r_ic_f 99 f132_81 (by decide) (fun q => q c40q) ?_
            refine r_iload_n f132_84 rfl ?_
            by_cases c41q : l2 = 0
            · rw [if_pos c41q] at hB
              refine r_if_t (t := 99) f132_85 (by decide) c41q ?_
              exact pm_weak (L' := [.ref l0, .int l1, pm_J, pm_J]) ⟨.inr rfl, .inr rfl, .inl rfl, .inl rfl, trivial⟩ (P_M_eRead_99 (d := d) (M_eRead_14 n) ih h1q l0 l1 hB)
            · rw [if_neg c41q] at hB
              refine r_if_f 99 f132_85 (by decide) c41q ?_
              refine r_aload_nN f132_88 rfl ?_
              refine r_bipush f132_89 cb_13 ?_
              replace hB := grd_some hB
              obtain ⟨g44q, hB⟩ := hB
              replace hB := bn2_some hB
              obtain ⟨h42q, x43q, eh42q, hB⟩ := hB
              refine r_virtV (as := [.int 13]) (q := pm_m_129) f132_91 ca_6_175 rfl rfl rfl (cs_len (Nat.le_of_ble_eq_true rfl)) g44q (P_M_opensOne (d := d + 1) eh42q) ?_
              by_cases c45q : x43q = 0
              · rw [if_pos c45q] at hB
                refine r_if_f 14 f132_94 (by decide) (fun q => q c45q) ?_
                refine r_iconst f132_97 ci_0 ?_
                exact r_iret pm_m_132 .boolean f132_98 rfl rfl (bool_n (by decide)) (zI hB)
              · rw [if_neg c45q] at hB
                refine r_if_t (t := 14) f132_94 (by decide) c45q ?_
                exact pm_weak (L' := [.ref l0, .int l1, .int l2, pm_J]) ⟨.inr rfl, .inr rfl, .inr rfl, .inl rfl, trivial⟩ (ih h42q l0 l1 l2 hB)
          · rw [if_neg c40q] at hB
            refine r_ic_t (t := 99) f132_81 (by decide) c40q ?_
            exact pm_weak (L' := [.ref l0, .int l1, pm_J, pm_J]) ⟨.inr rfl, .inr rfl, .inl rfl, .inl rfl, trivial⟩ (P_M_eRead_99 (d := d) (M_eRead_14 n) ih h1q l0 l1 hB)
theorem P_M_eRead {d : Nat} {h h' : pm_H} {r : Int32} {t : Nat} (hB : M_eRead h t = some (h', r)) : pm_ev (d + 4) 132 [.ref t] h (some (.int r)) h' := by
  unfold M_eRead at hB
  refine pm_ev_mk (L := [.ref t, pm_J, pm_J, pm_J]) pm_m_132 rfl (Nat.le_of_ble_eq_true rfl) rfl ?_
  refine r_aload_nN f132_0 rfl ?_
  refine r_iconst f132_1 ci_0 ?_
  replace hB := bnd_some hB
  obtain ⟨h1q, eh1q, hB⟩ := hB
  refine r_put f132_2 fa_6_151 ty_6_28 rfl rfl (no_fin (nf_6_28)) eh1q ?_
  refine r_aload_nN f132_5 rfl ?_
  refine r_iconst f132_6 ci_0 ?_
  replace hB := bnd_some hB
  obtain ⟨h2q, eh2q, hB⟩ := hB
  refine r_put f132_7 fa_6_158 ty_6_29 rfl rfl (no_fin (nf_6_29)) eh2q ?_
  refine r_iconst f132_10 ci_1 ?_
  refine r_istore_n (L' := [.ref t, .int 1, pm_J, pm_J]) (x := 1) f132_11 rfl (Nat.le_of_ble_eq_true rfl) rfl ?_
  refine r_iconst f132_12 ci_1 ?_
  refine r_istore_n (L' := [.ref t, .int 1, .int 1, pm_J]) (x := 1) f132_13 rfl (Nat.le_of_ble_eq_true rfl) rfl ?_
  exact pm_weak (L' := [.ref t, .int 1, .int 1, pm_J]) ⟨.inr rfl, .inr rfl, .inr rfl, .inl rfl, trivial⟩ (P_M_eRead_14 (d := d) 1000 h2q t 1 1 hB)
theorem P_M_text_94 {d : Nat} {h' : pm_H} {r : Int32} (k_26 : pm_H → Nat → Int32 → Int32 → Option (pm_H × Int32)) (hk_26 : ∀ (h : pm_H) (l0 : Nat) (l1 : Int32) (l2 : Int32), k_26 h l0 l1 l2 = some (h', r) → pm_run (pm_ev (d + 4)) 133 26 [.ref l0, .int l1, .int l2] [] h (fun r1 h1 => r1 = some (.int r) ∧ h1 = h')) (h : pm_H) (l0 : Nat) (l2 : Int32) (s0 : Int32) (hB : M_text_94 k_26 h l0 l2 s0 = some (h', r)) : pm_run (pm_ev (d + 4)) 133 94 [.ref l0, pm_J, .int l2] [.int s0] h (fun r1 h1 => r1 = some (.int r) ∧ h1 = h') := by
  unfold M_text_94 at hB
  refine r_istore_n (L' := [.ref l0, .int s0, .int l2]) (x := s0) f133_94 rfl (Nat.le_of_ble_eq_true rfl) rfl ?_
  obtain ⟨y1q, hy1q⟩ : ∃ z, z = l2 + 1 := ⟨_, rfl⟩
  replace hB := nmd_at hy1q hB
  refine r_iinc (L' := [.ref l0, .int s0, .int y1q]) (x := y1q) f133_95 rfl (hy1q.trans (congrArg (l2 + ·) ci_1.symm)) rfl ?_
  refine r_goto (t := 26) f133_98 (by decide) ?_
  exact pm_weak (L' := [.ref l0, .int s0, .int y1q]) ⟨.inr rfl, .inr rfl, .inr rfl, trivial⟩ (hk_26 h l0 s0 y1q hB)
theorem P_M_text_93 {d : Nat} {h' : pm_H} {r : Int32} (k_26 : pm_H → Nat → Int32 → Int32 → Option (pm_H × Int32)) (hk_26 : ∀ (h : pm_H) (l0 : Nat) (l1 : Int32) (l2 : Int32), k_26 h l0 l1 l2 = some (h', r) → pm_run (pm_ev (d + 4)) 133 26 [.ref l0, .int l1, .int l2] [] h (fun r1 h1 => r1 = some (.int r) ∧ h1 = h')) (h : pm_H) (l0 : Nat) (l2 : Int32) (hB : M_text_93 k_26 h l0 l2 = some (h', r)) : pm_run (pm_ev (d + 4)) 133 93 [.ref l0, pm_J, .int l2] [] h (fun r1 h1 => r1 = some (.int r) ∧ h1 = h') := by
  unfold M_text_93 at hB
  refine r_iconst f133_93 ci_0 ?_
  exact pm_weak (L' := [.ref l0, pm_J, .int l2]) ⟨.inr rfl, .inl rfl, .inr rfl, trivial⟩ (P_M_text_94 (d := d) k_26 hk_26 h l0 l2 0 hB)
theorem P_M_text_60 {d : Nat} {h' : pm_H} {r : Int32} (k_26 : pm_H → Nat → Int32 → Int32 → Option (pm_H × Int32)) (hk_26 : ∀ (h : pm_H) (l0 : Nat) (l1 : Int32) (l2 : Int32), k_26 h l0 l1 l2 = some (h', r) → pm_run (pm_ev (d + 4)) 133 26 [.ref l0, .int l1, .int l2] [] h (fun r1 h1 => r1 = some (.int r) ∧ h1 = h')) (h : pm_H) (l0 : Nat) (l2 : Int32) (s0 : Int32) (hB : M_text_60 k_26 h l0 l2 s0 = some (h', r)) : pm_run (pm_ev (d + 4)) 133 60 [.ref l0, pm_J, .int l2] [.int s0] h (fun r1 h1 => r1 = some (.int r) ∧ h1 = h') := by
  unfold M_text_60 at hB
  refine r_istore_n (L' := [.ref l0, .int s0, .int l2]) (x := s0) f133_60 rfl (Nat.le_of_ble_eq_true rfl) rfl ?_
  refine r_aload_nN f133_61 rfl ?_
  replace hB := bnd_some hB
  obtain ⟨x1q, ex1q, hB⟩ := hB
  refine r_getA f133_62 fa_6_28 ex1q ?_
  refine r_iconst f133_65 ci_4 ?_
  refine r_aload_nN f133_66 rfl ?_
  replace hB := bnd_some hB
  obtain ⟨x2q, ex2q, hB⟩ := hB
  refine r_getI f133_67 fa_6_111 ex2q ?_
  refine r_imul f133_70 ?_
  refine r_iload_n f133_71 rfl ?_
  refine r_iadd f133_72 ?_
  refine r_aload_nN f133_73 rfl ?_
  replace hB := bnd_some hB
  obtain ⟨x3q, ex3q, hB⟩ := hB
  refine r_getI f133_74 fa_6_148 ex3q ?_
  replace hB := bnd_some hB
  obtain ⟨u4q, rfl, hB⟩ := hB
  replace hB := bnd_some hB
  obtain ⟨h5q, eh5q, hB⟩ := hB
  refine r_sI f133_77 eh5q ?_
  refine r_iload_n f133_78 rfl ?_
  by_cases c6q : s0 = 0
  · rw [if_pos c6q] at hB
    refine r_if_t (t := 93) f133_79 (by decide) c6q ?_
    exact pm_weak (L' := [.ref l0, pm_J, .int l2]) ⟨.inr rfl, .inl rfl, .inr rfl, trivial⟩ (P_M_text_93 (d := d) k_26 hk_26 h5q l0 l2 hB)
  · rw [if_neg c6q] at hB
    refine r_if_f 93 f133_79 (by decide) c6q ?_
    refine r_aload_nN f133_82 rfl ?_
    replace hB := grd_some hB
    obtain ⟨g9q, hB⟩ := hB
    replace hB := bn2_some hB
    obtain ⟨h7q, x8q, eh7q, hB⟩ := hB
    refine r_virtV (as := []) (q := pm_m_132) f133_83 ca_6_184 rfl rfl rfl (cs_len (Nat.le_of_ble_eq_true rfl)) g9q (P_M_eRead (d := d + 0) eh7q) ?_
    by_cases c10q : x8q = 0
    · rw [if_pos c10q] at hB
      refine r_if_t (t := 93) f133_86 (by decide) c10q ?_
      exact pm_weak (L' := [.ref l0, pm_J, .int l2]) ⟨.inr rfl, .inl rfl, .inr rfl, trivial⟩ (P_M_text_93 (d := d) k_26 hk_26 h7q l0 l2 hB)
    · rw [if_neg c10q] at hB
      refine r_if_f 93 f133_86 (by decide) c10q ?_
      refine r_iconst f133_89 ci_1 ?_
      refine r_goto (t := 94) f133_90 (by decide) ?_
      exact pm_weak (L' := [.ref l0, pm_J, .int l2]) ⟨.inr rfl, .inl rfl, .inr rfl, trivial⟩ (P_M_text_94 (d := d) k_26 hk_26 h7q l0 l2 1 hB)
theorem P_M_text_59 {d : Nat} {h' : pm_H} {r : Int32} (k_26 : pm_H → Nat → Int32 → Int32 → Option (pm_H × Int32)) (hk_26 : ∀ (h : pm_H) (l0 : Nat) (l1 : Int32) (l2 : Int32), k_26 h l0 l1 l2 = some (h', r) → pm_run (pm_ev (d + 4)) 133 26 [.ref l0, .int l1, .int l2] [] h (fun r1 h1 => r1 = some (.int r) ∧ h1 = h')) (h : pm_H) (l0 : Nat) (l2 : Int32) (hB : M_text_59 k_26 h l0 l2 = some (h', r)) : pm_run (pm_ev (d + 4)) 133 59 [.ref l0, pm_J, .int l2] [] h (fun r1 h1 => r1 = some (.int r) ∧ h1 = h') := by
  unfold M_text_59 at hB
  refine r_iconst f133_59 ci_0 ?_
  exact pm_weak (L' := [.ref l0, pm_J, .int l2]) ⟨.inr rfl, .inl rfl, .inr rfl, trivial⟩ (P_M_text_60 (d := d) k_26 hk_26 h l0 l2 0 hB)
theorem P_M_text_122 {d : Nat} {h' : pm_H} {r : Int32} (h : pm_H) (l0 : Nat) (l1 : Int32) (hB : M_text_122 h l0 l1 = some (h', r)) : pm_run (pm_ev (d + 4)) 133 122 [.ref l0, .int l1, pm_J] [] h (fun r1 h1 => r1 = some (.int r) ∧ h1 = h') := by
  unfold M_text_122 at hB
  refine r_aload_nN f133_122 rfl ?_
  replace hB := bnd_some hB
  obtain ⟨x1q, ex1q, hB⟩ := hB
  refine r_getA f133_123 fa_6_28 ex1q ?_
  refine r_iconst f133_126 ci_4 ?_
  refine r_aload_nN f133_127 rfl ?_
  replace hB := bnd_some hB
  obtain ⟨x2q, ex2q, hB⟩ := hB
  refine r_getI f133_128 fa_6_111 ex2q ?_
  refine r_imul f133_131 ?_
  refine r_iconst f133_132 ci_3 ?_
  refine r_iadd f133_133 ?_
  refine r_aload_nN f133_134 rfl ?_
  replace hB := bnd_some hB
  obtain ⟨x3q, ex3q, hB⟩ := hB
  refine r_getI f133_135 fa_6_148 ex3q ?_
  replace hB := bnd_some hB
  obtain ⟨u4q, rfl, hB⟩ := hB
  replace hB := bnd_some hB
  obtain ⟨h5q, eh5q, hB⟩ := hB
  refine r_sI f133_138 eh5q ?_
  refine r_aload_nN f133_139 rfl ?_
  refine r_iconst f133_140 ci_0 ?_
  replace hB := bnd_some hB
  obtain ⟨h6q, eh6q, hB⟩ := hB
  refine r_put f133_141 fa_6_71 ty_6_9 rfl rfl (no_fin (nf_6_9)) eh6q ?_
  refine r_iload_n f133_144 rfl ?_
  by_cases c7q : l1 = 0
  · rw [if_pos c7q] at hB
    refine r_if_f 156 f133_145 (by decide) (fun q => q c7q) ?_
    refine r_bipush f133_148 cb_m100 ?_
    refine r_aload_nN f133_150 rfl ?_
    replace hB := bnd_some hB
    obtain ⟨x11q, ex11q, hB⟩ := hB
    refine r_getI f133_151 fa_6_135 ex11q ?_
    refine r_isub f133_154 ?_
    exact r_iret pm_m_133 .int f133_155 rfl rfl rfl (zI hB)
  · rw [if_neg c7q] at hB
    refine r_if_t (t := 156) f133_145 (by decide) c7q ?_
    refine r_aload_nN f133_156 rfl ?_
    refine r_dupN f133_157 ?_
    replace hB := bnd_some hB
    obtain ⟨x8q, ex8q, hB⟩ := hB
    refine r_getI f133_158 fa_6_111 ex8q ?_
    refine r_iconst f133_161 ci_1 ?_
    refine r_iadd f133_162 ?_
    replace hB := bnd_some hB
    obtain ⟨h9q, eh9q, hB⟩ := hB
    refine r_put f133_163 fa_6_111 ty_6_12 rfl rfl (no_fin (nf_6_12)) eh9q ?_
    refine r_aload_nN f133_166 rfl ?_
    replace hB := bnd_some hB
    obtain ⟨x10q, ex10q, hB⟩ := hB
    refine r_getI f133_167 fa_6_111 ex10q ?_
    refine r_iconst f133_170 ci_1 ?_
    refine r_isub f133_171 ?_
    exact r_iret pm_m_133 .int f133_172 rfl rfl rfl (zI hB)
theorem P_M_text_121 {d : Nat} {h' : pm_H} {r : Int32} (h : pm_H) (l0 : Nat) (s0 : Int32) (hB : M_text_121 h l0 s0 = some (h', r)) : pm_run (pm_ev (d + 4)) 133 121 [.ref l0, pm_J, pm_J] [.int s0] h (fun r1 h1 => r1 = some (.int r) ∧ h1 = h') := by
  unfold M_text_121 at hB
  refine r_istore_n (L' := [.ref l0, .int s0, pm_J]) (x := s0) f133_121 rfl (Nat.le_of_ble_eq_true rfl) rfl ?_
  exact pm_weak (L' := [.ref l0, .int s0, pm_J]) ⟨.inr rfl, .inr rfl, .inl rfl, trivial⟩ (P_M_text_122 (d := d) h l0 s0 hB)
theorem P_M_text_101 {d : Nat} {h' : pm_H} {r : Int32} (h : pm_H) (l0 : Nat) (l1 : Int32) (hB : M_text_101 h l0 l1 = some (h', r)) : pm_run (pm_ev (d + 4)) 133 101 [.ref l0, .int l1, pm_J] [] h (fun r1 h1 => r1 = some (.int r) ∧ h1 = h') := by
  unfold M_text_101 at hB
  refine r_iload_n f133_101 rfl ?_
  by_cases c1q : l1 = 0
  · rw [if_pos c1q] at hB
    refine r_if_t (t := 122) f133_102 (by decide) c1q ?_
    exact pm_weak (L' := [.ref l0, .int l1, pm_J]) ⟨.inr rfl, .inr rfl, .inl rfl, trivial⟩ (P_M_text_122 (d := d) h l0 l1 hB)
  · rw [if_neg c1q] at hB
    refine r_if_f 122 f133_102 (by decide) c1q ?_
    refine r_aload_nN f133_105 rfl ?_
    replace hB := grd_some hB
    obtain ⟨g4q, hB⟩ := hB
    replace hB := bn2_some hB
    obtain ⟨h2q, _, eh2q, hB⟩ := hB
    refine r_virtN (as := []) (q := pm_m_124) f133_106 ca_6_171 rfl rfl rfl (cs_len (Nat.le_of_ble_eq_true rfl)) g4q (P_M_next (d := d + 2) eh2q) ?_
    refine r_aload_nN f133_109 rfl ?_
    replace hB := bnd_some hB
    obtain ⟨x5q, ex5q, hB⟩ := hB
    refine r_getI f133_110 fa_6_138 ex5q ?_
    by_cases c6q : x5q = 0
    · rw [if_pos c6q] at hB
      refine r_if_f 120 f133_113 (by decide) (fun q => q c6q) ?_
      refine r_iconst f133_116 ci_1 ?_
      refine r_goto (t := 121) f133_117 (by decide) ?_
      exact pm_weak (L' := [.ref l0, pm_J, pm_J]) ⟨.inr rfl, .inl rfl, .inl rfl, trivial⟩ (P_M_text_121 (d := d) h2q l0 1 hB)
    · rw [if_neg c6q] at hB
      refine r_if_t (t := 120) f133_113 (by decide) c6q ?_
      refine r_iconst f133_120 ci_0 ?_
      exact pm_weak (L' := [.ref l0, pm_J, pm_J]) ⟨.inr rfl, .inl rfl, .inl rfl, trivial⟩ (P_M_text_121 (d := d) h2q l0 0 hB)
theorem P_M_text_26 {d : Nat} {h' : pm_H} {r : Int32} (n : Nat) : ∀ (h : pm_H) (l0 : Nat) (l1 : Int32) (l2 : Int32), M_text_26 n h l0 l1 l2 = some (h', r) → pm_run (pm_ev (d + 4)) 133 26 [.ref l0, .int l1, .int l2] [] h (fun r1 h1 => r1 = some (.int r) ∧ h1 = h') := by
  induction n with
  | zero => intro h l0 l1 l2 hB; cases hB
  | succ n ih =>
    intro h l0 l1 l2 hB
    unfold M_text_26 at hB
    refine r_iload_n f133_26 rfl ?_
    refine r_iconst f133_27 ci_3 ?_
    by_cases c1q : 3 ≤ l2
    · rw [if_pos c1q] at hB
      refine r_ic_t (t := 101) f133_28 (by decide) c1q ?_
      exact pm_weak (L' := [.ref l0, .int l1, pm_J]) ⟨.inr rfl, .inr rfl, .inl rfl, trivial⟩ (P_M_text_101 (d := d) h l0 l1 hB)
    · rw [if_neg c1q] at hB
      refine r_ic_f 101 f133_28 (by decide) c1q ?_
      refine r_iload_n f133_31 rfl ?_
      by_cases c2q : l1 = 0
      · rw [if_pos c2q] at hB
        refine r_if_t (t := 101) f133_32 (by decide) c2q ?_
        exact pm_weak (L' := [.ref l0, .int l1, pm_J]) ⟨.inr rfl, .inr rfl, .inl rfl, trivial⟩ (P_M_text_101 (d := d) h l0 l1 hB)
      · rw [if_neg c2q] at hB
        refine r_if_f 101 f133_32 (by decide) c2q ?_
        refine r_aload_nN f133_35 rfl ?_
        replace hB := grd_some hB
        obtain ⟨g5q, hB⟩ := hB
        replace hB := bn2_some hB
        obtain ⟨h3q, _, eh3q, hB⟩ := hB
        refine r_virtN (as := []) (q := pm_m_124) f133_36 ca_6_171 rfl rfl rfl (cs_len (Nat.le_of_ble_eq_true rfl)) g5q (P_M_next (d := d + 2) eh3q) ?_
        refine r_aload_nN f133_39 rfl ?_
        replace hB := bnd_some hB
        obtain ⟨x6q, ex6q, hB⟩ := hB
        refine r_getI f133_40 fa_6_138 ex6q ?_
        refine r_iconst f133_43 ci_3 ?_
        by_cases c7q : x6q = 3
        · rw [if_pos c7q] at hB
          refine r_ic_f 59 f133_44 (by decide) (fun q => q c7q) ?_
          refine r_aload_nN f133_47 rfl ?_
          replace hB := bnd_some hB
          obtain ⟨x8q, ex8q, hB⟩ := hB
          refine r_getI f133_48 fa_6_141 ex8q ?_
          refine r_iload_n f133_51 rfl ?_
          by_cases c9q : x8q = l2
          · rw [if_pos c9q] at hB
            refine r_ic_f 59 f133_52 (by decide) (fun q => q c9q) ?_
            refine r_iconst f133_55 ci_1 ?_
            refine r_goto (t := 60) f133_56 (by decide) ?_
            exact pm_weak (L' := [.ref l0, pm_J, .int l2]) ⟨.inr rfl, .inl rfl, .inr rfl, trivial⟩ (P_M_text_60 (d := d) (M_text_26 n) ih h3q l0 l2 1 hB)
          · rw [if_neg c9q] at hB
            refine r_ic_t (t := 59) f133_52 (by decide) c9q ?_
            exact pm_weak (L' := [.ref l0, pm_J, .int l2]) ⟨.inr rfl, .inl rfl, .inr rfl, trivial⟩ (P_M_text_59 (d := d) (M_text_26 n) ih h3q l0 l2 hB)
        · rw [if_neg c7q] at hB
          refine r_ic_t (t := 59) f133_44 (by decide) c7q ?_
          exact pm_weak (L' := [.ref l0, pm_J, .int l2]) ⟨.inr rfl, .inl rfl, .inr rfl, trivial⟩ (P_M_text_59 (d := d) (M_text_26 n) ih h3q l0 l2 hB)
theorem P_M_text {d : Nat} {h h' : pm_H} {r : Int32} {t : Nat} (hB : M_text h t = some (h', r)) : pm_ev (d + 5) 133 [.ref t] h (some (.int r)) h' := by
  unfold M_text at hB
  refine pm_ev_mk (L := [.ref t, pm_J, pm_J]) pm_m_133 rfl (Nat.le_of_ble_eq_true rfl) rfl ?_
  refine r_aload_nN f133_0 rfl ?_
  replace hB := bnd_some hB
  obtain ⟨x1q, ex1q, hB⟩ := hB
  refine r_getI f133_1 fa_6_111 ex1q ?_
  refine r_bipush f133_4 cb_6 ?_
  by_cases c2q : x1q = 6
  · rw [if_pos c2q] at hB
    refine r_ic_f 12 f133_6 (by decide) (fun q => q c2q) ?_
    refine r_bipush f133_9 cb_m4 ?_
    exact r_iret pm_m_133 .int f133_11 rfl rfl rfl (zI hB)
  · rw [if_neg c2q] at hB
    refine r_ic_t (t := 12) f133_6 (by decide) c2q ?_
    refine r_aload_nN f133_12 rfl ?_
    refine r_iconst f133_13 ci_0 ?_
    replace hB := bnd_some hB
    obtain ⟨h3q, eh3q, hB⟩ := hB
    refine r_put f133_14 fa_6_132 ty_6_22 rfl rfl (no_fin (nf_6_22)) eh3q ?_
    refine r_aload_nN f133_17 rfl ?_
    refine r_iconst f133_18 ci_0 ?_
    replace hB := bnd_some hB
    obtain ⟨h4q, eh4q, hB⟩ := hB
    refine r_put f133_19 fa_6_148 ty_6_30 rfl rfl (no_fin (nf_6_30)) eh4q ?_
    refine r_iconst f133_22 ci_1 ?_
    refine r_istore_n (L' := [.ref t, .int 1, pm_J]) (x := 1) f133_23 rfl (Nat.le_of_ble_eq_true rfl) rfl ?_
    refine r_iconst f133_24 ci_0 ?_
    refine r_istore_n (L' := [.ref t, .int 1, .int 0]) (x := 0) f133_25 rfl (Nat.le_of_ble_eq_true rfl) rfl ?_
    exact pm_weak (L' := [.ref t, .int 1, .int 0]) ⟨.inr rfl, .inr rfl, .inr rfl, trivial⟩ (P_M_text_26 (d := d) 1000 h4q t 1 0 hB)
theorem P_M_two_52 {d : Nat} {h' : pm_H} {r : Int32} (h : pm_H) (hB : M_two_52 h = some (h', r)) : pm_run (pm_ev (d + 0)) 134 52 [pm_J, pm_J, pm_J] [] h (fun r1 h1 => r1 = some (.int r) ∧ h1 = h') := by
  unfold M_two_52 at hB
  refine r_iconst f134_52 ci_1 ?_
  refine r_goto (t := 57) f134_53 (by decide) ?_
  exact r_iret pm_m_134 .int f134_57 rfl rfl rfl (zI hB)
theorem P_M_two {d : Nat} {h h' : pm_H} {r : Int32} {a0 : Int32} {a1 : Int32} {a2 : Int32} (hB : M_two h a0 a1 a2 = some (h', r)) : pm_ev (d + 1) 134 [.int a0, .int a1, .int a2] h (some (.int r)) h' := by
  unfold M_two at hB
  refine pm_ev_mk (L := [.int a0, .int a1, .int a2]) pm_m_134 rfl (Nat.le_of_ble_eq_true rfl) rfl ?_
  refine r_iload_n f134_0 rfl ?_
  by_cases c1q : a0 = 11
  · rw [if_pos c1q] at hB
    refine r_tsw (off := 43) (t := 44) f134_1 c1q (by decide) (by decide) (by decide) (by decide) ?_
    refine r_iload_n f134_44 rfl ?_
    by_cases c2q : a1 = 0
    · rw [if_pos c2q] at hB
      refine r_if_f 52 f134_45 (by decide) (fun q => q c2q) ?_
      refine r_iload_n f134_48 rfl ?_
      by_cases c3q : a2 = 0
      · rw [if_pos c3q] at hB
        refine r_if_t (t := 56) f134_49 (by decide) c3q ?_
        refine r_iconst f134_56 ci_0 ?_
        exact r_iret pm_m_134 .int f134_57 rfl rfl rfl (zI hB)
      · rw [if_neg c3q] at hB
        refine r_if_f 56 f134_49 (by decide) c3q ?_
        exact pm_weak (L' := [pm_J, pm_J, pm_J]) ⟨.inl rfl, .inl rfl, .inl rfl, trivial⟩ (P_M_two_52 (d := d) h hB)
    · rw [if_neg c2q] at hB
      refine r_if_t (t := 52) f134_45 (by decide) c2q ?_
      exact pm_weak (L' := [pm_J, pm_J, pm_J]) ⟨.inl rfl, .inl rfl, .inl rfl, trivial⟩ (P_M_two_52 (d := d) h hB)
  rw [if_neg c1q] at hB
  by_cases c4q : a0 = 12
  · rw [if_pos c4q] at hB
    refine r_tsw (off := 57) (t := 58) f134_1 c4q (by decide) (by decide) (by decide) (by decide) ?_
    refine r_iload_n f134_58 rfl ?_
    by_cases c5q : a1 = 0
    · rw [if_pos c5q] at hB
      refine r_if_t (t := 70) f134_59 (by decide) c5q ?_
      refine r_iconst f134_70 ci_0 ?_
      exact r_iret pm_m_134 .int f134_71 rfl rfl rfl (zI hB)
    · rw [if_neg c5q] at hB
      refine r_if_f 70 f134_59 (by decide) c5q ?_
      refine r_iload_n f134_62 rfl ?_
      by_cases c6q : a2 = 0
      · rw [if_pos c6q] at hB
        refine r_if_t (t := 70) f134_63 (by decide) c6q ?_
        refine r_iconst f134_70 ci_0 ?_
        exact r_iret pm_m_134 .int f134_71 rfl rfl rfl (zI hB)
      · rw [if_neg c6q] at hB
        refine r_if_f 70 f134_63 (by decide) c6q ?_
        refine r_iconst f134_66 ci_1 ?_
        refine r_goto (t := 71) f134_67 (by decide) ?_
        exact r_iret pm_m_134 .int f134_71 rfl rfl rfl (zI hB)
  rw [if_neg c4q] at hB
  by_cases c7q : a0 = 13
  · rw [if_pos c7q] at hB
    refine r_tsw (off := 101) (t := 102) f134_1 c7q (by decide) (by decide) (by decide) (by decide) ?_
    refine r_iload_n f134_102 rfl ?_
    refine r_iload_n f134_103 rfl ?_
    refine r_imul f134_104 ?_
    exact r_iret pm_m_134 .int f134_105 rfl rfl rfl (zI hB)
  rw [if_neg c7q] at hB
  by_cases c8q : a0 = 14
  · rw [if_pos c8q] at hB
    refine r_tsw (off := 71) (t := 72) f134_1 c8q (by decide) (by decide) (by decide) (by decide) ?_
    refine r_iload_n f134_72 rfl ?_
    refine r_iload_n f134_73 rfl ?_
    by_cases c9q : a2 ≤ a1
    · rw [if_pos c9q] at hB
      refine r_ic_t (t := 81) f134_74 (by decide) c9q ?_
      refine r_iconst f134_81 ci_0 ?_
      exact r_iret pm_m_134 .int f134_82 rfl rfl rfl (zI hB)
    · rw [if_neg c9q] at hB
      refine r_ic_f 81 f134_74 (by decide) c9q ?_
      refine r_iconst f134_77 ci_1 ?_
      refine r_goto (t := 82) f134_78 (by decide) ?_
      exact r_iret pm_m_134 .int f134_82 rfl rfl rfl (zI hB)
  rw [if_neg c8q] at hB
  by_cases c10q : a0 = 15
  · rw [if_pos c10q] at hB
    refine r_tsw (off := 82) (t := 83) f134_1 c10q (by decide) (by decide) (by decide) (by decide) ?_
    refine r_iload_n f134_83 rfl ?_
    refine r_iload_n f134_84 rfl ?_
    by_cases c11q : a1 = a2
    · rw [if_pos c11q] at hB
      refine r_ic_f 92 f134_85 (by decide) (fun q => q c11q) ?_
      refine r_iconst f134_88 ci_1 ?_
      refine r_goto (t := 93) f134_89 (by decide) ?_
      exact r_iret pm_m_134 .int f134_93 rfl rfl rfl (zI hB)
    · rw [if_neg c11q] at hB
      refine r_ic_t (t := 92) f134_85 (by decide) c11q ?_
      refine r_iconst f134_92 ci_0 ?_
      exact r_iret pm_m_134 .int f134_93 rfl rfl rfl (zI hB)
  rw [if_neg c10q] at hB
  by_cases c12q : a0 = 16
  · rw [if_pos c12q] at hB
    refine r_tsw (off := 93) (t := 94) f134_1 c12q (by decide) (by decide) (by decide) (by decide) ?_
    refine r_iload_n f134_94 rfl ?_
    refine r_iload_n f134_95 rfl ?_
    refine r_iadd f134_96 ?_
    exact r_iret pm_m_134 .int f134_97 rfl rfl rfl (zI hB)
  rw [if_neg c12q] at hB
  by_cases c13q : a0 = 17
  · rw [if_pos c13q] at hB
    refine r_tsw (off := 97) (t := 98) f134_1 c13q (by decide) (by decide) (by decide) (by decide) ?_
    refine r_iload_n f134_98 rfl ?_
    refine r_iload_n f134_99 rfl ?_
    refine r_isub f134_100 ?_
    exact r_iret pm_m_134 .int f134_101 rfl rfl rfl (zI hB)
  rw [if_neg c13q] at hB
  refine r_tswD (t := 102) f134_1 (sw_out 7 (lt_s (lt_s (lt_s (lt_s (lt_s (lt_s (lt_s (lt_0) (sw_ne c1q (by decide))) (sw_ne c4q (by decide))) (sw_ne c7q (by decide))) (sw_ne c8q (by decide))) (sw_ne c10q (by decide))) (sw_ne c12q (by decide))) (sw_ne c13q (by decide))) (by decide)) (by decide) ?_
  refine r_iload_n f134_102 rfl ?_
  refine r_iload_n f134_103 rfl ?_
  refine r_imul f134_104 ?_
  exact r_iret pm_m_134 .int f134_105 rfl rfl rfl (zI hB)
theorem P_M_says_191 {d : Nat} {h' : pm_H} {r : Int32} (k_16 : pm_H → Nat → Int32 → Int32 → Int32 → Option (pm_H × Int32)) (hk_16 : ∀ (h : pm_H) (l0 : Nat) (l1 : Int32) (l2 : Int32) (l3 : Int32), k_16 h l0 l1 l2 l3 = some (h', r) → pm_run (pm_ev (d + 1)) 135 16 [.ref l0, .int l1, .int l2, .int l3, pm_J] [] h (fun r1 h1 => r1 = some (.int r) ∧ h1 = h')) (h : pm_H) (l0 : Nat) (l1 : Int32) (l2 : Int32) (l3 : Int32) (hB : M_says_191 k_16 h l0 l1 l2 l3 = some (h', r)) : pm_run (pm_ev (d + 1)) 135 191 [.ref l0, .int l1, .int l2, .int l3, pm_J] [] h (fun r1 h1 => r1 = some (.int r) ∧ h1 = h') := by
  unfold M_says_191 at hB
  obtain ⟨y1q, hy1q⟩ : ∃ z, z = l3 + 1 := ⟨_, rfl⟩
  replace hB := nmd_at hy1q hB
  refine r_iinc (L' := [.ref l0, .int l1, .int l2, .int y1q, pm_J]) (x := y1q) f135_191 rfl (hy1q.trans (congrArg (l3 + ·) ci_1.symm)) rfl ?_
  refine r_goto (t := 16) f135_194 (by decide) ?_
  exact pm_weak (L' := [.ref l0, .int l1, .int l2, .int y1q, pm_J]) ⟨.inr rfl, .inr rfl, .inr rfl, .inr rfl, .inl rfl, trivial⟩ (hk_16 h l0 l1 l2 y1q hB)
theorem P_M_says_93 {d : Nat} {h' : pm_H} {r : Int32} (k_16 : pm_H → Nat → Int32 → Int32 → Int32 → Option (pm_H × Int32)) (hk_16 : ∀ (h : pm_H) (l0 : Nat) (l1 : Int32) (l2 : Int32) (l3 : Int32), k_16 h l0 l1 l2 l3 = some (h', r) → pm_run (pm_ev (d + 1)) 135 16 [.ref l0, .int l1, .int l2, .int l3, pm_J] [] h (fun r1 h1 => r1 = some (.int r) ∧ h1 = h')) (h : pm_H) (l0 : Nat) (l1 : Int32) (l2 : Int32) (l3 : Int32) (s0 : Int32) (s1 : Int32) (s2 : Option Nat) (hB : M_says_93 k_16 h l0 l1 l2 l3 s0 s1 s2 = some (h', r)) : pm_run (pm_ev (d + 1)) 135 93 [.ref l0, .int l1, .int l2, .int l3, pm_J] [.int s0, .int s1, va_rf s2] h (fun r1 h1 => r1 = some (.int r) ∧ h1 = h') := by
  unfold M_says_93 at hB
  replace hB := bnd_some hB
  obtain ⟨u1q, rfl, hB⟩ := hB
  replace hB := bnd_some hB
  obtain ⟨h2q, eh2q, hB⟩ := hB
  refine r_sI f135_93 eh2q ?_
  obtain ⟨y3q, hy3q⟩ : ∃ z, z = l2 + 1 := ⟨_, rfl⟩
  replace hB := nmd_at hy3q hB
  refine r_iinc (L' := [.ref l0, .int l1, .int y3q, .int l3, pm_J]) (x := y3q) f135_94 rfl (hy3q.trans (congrArg (l2 + ·) ci_1.symm)) rfl ?_
  refine r_goto (t := 191) f135_97 (by decide) ?_
  exact pm_weak (L' := [.ref l0, .int l1, .int y3q, .int l3, pm_J]) ⟨.inr rfl, .inr rfl, .inr rfl, .inr rfl, .inl rfl, trivial⟩ (P_M_says_191 (d := d) k_16 hk_16 h2q l0 l1 y3q l3 hB)
theorem P_M_says_66 {d : Nat} {h' : pm_H} {r : Int32} (k_16 : pm_H → Nat → Int32 → Int32 → Int32 → Option (pm_H × Int32)) (hk_16 : ∀ (h : pm_H) (l0 : Nat) (l1 : Int32) (l2 : Int32) (l3 : Int32), k_16 h l0 l1 l2 l3 = some (h', r) → pm_run (pm_ev (d + 1)) 135 16 [.ref l0, .int l1, .int l2, .int l3, pm_J] [] h (fun r1 h1 => r1 = some (.int r) ∧ h1 = h')) (h : pm_H) (l0 : Nat) (l1 : Int32) (l2 : Int32) (l3 : Int32) (l4 : Int32) (hB : M_says_66 k_16 h l0 l1 l2 l3 l4 = some (h', r)) : pm_run (pm_ev (d + 1)) 135 66 [.ref l0, .int l1, .int l2, .int l3, .int l4] [] h (fun r1 h1 => r1 = some (.int r) ∧ h1 = h') := by
  unfold M_says_66 at hB
  refine r_aload_nN f135_66 rfl ?_
  replace hB := bnd_some hB
  obtain ⟨x1q, ex1q, hB⟩ := hB
  refine r_getA f135_67 fa_6_59 ex1q ?_
  refine r_iload_n f135_70 rfl ?_
  refine r_iload f135_71 rfl ?_
  refine r_bipush f135_73 cb_11 ?_
  by_cases c2q : 11 ≤ l4
  · rw [if_pos c2q] at hB
    refine r_ic_t (t := 88) f135_75 (by decide) c2q ?_
    refine r_iload f135_88 rfl ?_
    refine r_ldc (v := 100000) (p := 806) f135_90 rfl ?_
    refine r_isub f135_92 ?_
    exact pm_weak (L' := [.ref l0, .int l1, .int l2, .int l3, pm_J]) ⟨.inr rfl, .inr rfl, .inr rfl, .inr rfl, .inl rfl, trivial⟩ (P_M_says_93 (d := d) k_16 hk_16 h l0 l1 l2 l3 (l4 - 100000) l2 x1q hB)
  · rw [if_neg c2q] at hB
    refine r_ic_f 88 f135_75 (by decide) c2q ?_
    refine r_aload_nN f135_78 rfl ?_
    replace hB := bnd_some hB
    obtain ⟨x3q, ex3q, hB⟩ := hB
    refine r_getA f135_79 fa_6_62 ex3q ?_
    refine r_iload f135_82 rfl ?_
    replace hB := bnd_some hB
    obtain ⟨u4q, rfl, hB⟩ := hB
    replace hB := bnd_some hB
    obtain ⟨x5q, ex5q, hB⟩ := hB
    refine r_aI f135_84 ex5q ?_
    refine r_goto (t := 93) f135_85 (by decide) ?_
    exact pm_weak (L' := [.ref l0, .int l1, .int l2, .int l3, pm_J]) ⟨.inr rfl, .inr rfl, .inr rfl, .inr rfl, .inl rfl, trivial⟩ (P_M_says_93 (d := d) k_16 hk_16 h l0 l1 l2 l3 x5q l2 x1q hB)
theorem P_M_says_130 {d : Nat} {h' : pm_H} {r : Int32} (k_16 : pm_H → Nat → Int32 → Int32 → Int32 → Option (pm_H × Int32)) (hk_16 : ∀ (h : pm_H) (l0 : Nat) (l1 : Int32) (l2 : Int32) (l3 : Int32), k_16 h l0 l1 l2 l3 = some (h', r) → pm_run (pm_ev (d + 1)) 135 16 [.ref l0, .int l1, .int l2, .int l3, pm_J] [] h (fun r1 h1 => r1 = some (.int r) ∧ h1 = h')) (h : pm_H) (l0 : Nat) (l1 : Int32) (l2 : Int32) (l3 : Int32) (s0 : Int32) (s1 : Int32) (s2 : Option Nat) (hB : M_says_130 k_16 h l0 l1 l2 l3 s0 s1 s2 = some (h', r)) : pm_run (pm_ev (d + 1)) 135 130 [.ref l0, .int l1, .int l2, .int l3, pm_J] [.int s0, .int s1, va_rf s2] h (fun r1 h1 => r1 = some (.int r) ∧ h1 = h') := by
  unfold M_says_130 at hB
  replace hB := bnd_some hB
  obtain ⟨u1q, rfl, hB⟩ := hB
  replace hB := bnd_some hB
  obtain ⟨h2q, eh2q, hB⟩ := hB
  refine r_sI f135_130 eh2q ?_
  refine r_goto (t := 191) f135_131 (by decide) ?_
  exact pm_weak (L' := [.ref l0, .int l1, .int l2, .int l3, pm_J]) ⟨.inr rfl, .inr rfl, .inr rfl, .inr rfl, .inl rfl, trivial⟩ (P_M_says_191 (d := d) k_16 hk_16 h2q l0 l1 l2 l3 hB)
theorem P_M_says_16 {d : Nat} {h' : pm_H} {r : Int32} (n : Nat) : ∀ (h : pm_H) (l0 : Nat) (l1 : Int32) (l2 : Int32) (l3 : Int32), M_says_16 n h l0 l1 l2 l3 = some (h', r) → pm_run (pm_ev (d + 1)) 135 16 [.ref l0, .int l1, .int l2, .int l3, pm_J] [] h (fun r1 h1 => r1 = some (.int r) ∧ h1 = h') := by
  induction n with
  | zero => intro h l0 l1 l2 l3 hB; cases hB
  | succ n ih =>
    intro h l0 l1 l2 l3 hB
    unfold M_says_16 at hB
    refine r_iload_n f135_16 rfl ?_
    refine r_aload_nN f135_17 rfl ?_
    replace hB := bnd_some hB
    obtain ⟨x1q, ex1q, hB⟩ := hB
    refine r_getA f135_18 fa_6_28 ex1q ?_
    refine r_iconst f135_21 ci_4 ?_
    refine r_aload_nN f135_22 rfl ?_
    replace hB := bnd_some hB
    obtain ⟨x2q, ex2q, hB⟩ := hB
    refine r_getI f135_23 fa_6_114 ex2q ?_
    refine r_imul f135_26 ?_
    refine r_iload_n f135_27 rfl ?_
    refine r_iadd f135_28 ?_
    refine r_iconst f135_29 ci_1 ?_
    refine r_iadd f135_30 ?_
    replace hB := bnd_some hB
    obtain ⟨u3q, rfl, hB⟩ := hB
    replace hB := bnd_some hB
    obtain ⟨x4q, ex4q, hB⟩ := hB
    refine r_aI f135_31 ex4q ?_
    by_cases c5q : x4q ≤ l3
    · rw [if_pos c5q] at hB
      refine r_ic_t (t := 197) f135_32 (by decide) c5q ?_
      refine r_aload_nN f135_197 rfl ?_
      replace hB := bnd_some hB
      obtain ⟨x6q, ex6q, hB⟩ := hB
      refine r_getA f135_198 fa_6_59 ex6q ?_
      refine r_iconst f135_201 ci_0 ?_
      replace hB := bnd_some hB
      obtain ⟨u7q, rfl, hB⟩ := hB
      replace hB := bnd_some hB
      obtain ⟨x8q, ex8q, hB⟩ := hB
      refine r_aI f135_202 ex8q ?_
      exact r_iret pm_m_135 .int f135_203 rfl rfl rfl (zI hB)
    · rw [if_neg c5q] at hB
      refine r_ic_f 197 f135_32 (by decide) c5q ?_
      refine r_aload_nN f135_35 rfl ?_
      replace hB := bnd_some hB
      obtain ⟨x9q, ex9q, hB⟩ := hB
      refine r_getA f135_36 fa_6_25 ex9q ?_
      refine r_sipush f135_39 cs_200 ?_
      refine r_aload_nN f135_42 rfl ?_
      replace hB := bnd_some hB
      obtain ⟨x10q, ex10q, hB⟩ := hB
      refine r_getI f135_43 fa_6_114 ex10q ?_
      refine r_imul f135_46 ?_
      refine r_iload_n f135_47 rfl ?_
      refine r_iadd f135_48 ?_
      replace hB := bnd_some hB
      obtain ⟨u11q, rfl, hB⟩ := hB
      replace hB := bnd_some hB
      obtain ⟨x12q, ex12q, hB⟩ := hB
      refine r_aI f135_49 ex12q ?_
      refine r_istore (L' := [.ref l0, .int l1, .int l2, .int l3, .int x12q]) (x := x12q) f135_50 rfl (Nat.le_of_ble_eq_true rfl) rfl ?_
      refine r_iload f135_52 rfl ?_
      refine r_ldc (v := 100000) (p := 806) f135_54 rfl ?_
      by_cases c13q : 100000 ≤ x12q
      · rw [if_pos c13q] at hB
        refine r_ic_t (t := 66) f135_56 (by decide) c13q ?_
        exact pm_weak (L' := [.ref l0, .int l1, .int l2, .int l3, .int x12q]) ⟨.inr rfl, .inr rfl, .inr rfl, .inr rfl, .inr rfl, trivial⟩ (P_M_says_66 (d := d) (M_says_16 n) ih h l0 l1 l2 l3 x12q hB)
      · rw [if_neg c13q] at hB
        refine r_ic_f 66 f135_56 (by decide) c13q ?_
        refine r_iload f135_59 rfl ?_
        refine r_bipush f135_61 cb_11 ?_
        by_cases c14q : 11 ≤ x12q
        · rw [if_pos c14q] at hB
          refine r_ic_t (t := 100) f135_63 (by decide) c14q ?_
          refine r_iload f135_100 rfl ?_
          refine r_bipush f135_102 cb_13 ?_
          by_cases c15q : x12q = 13
          · rw [if_pos c15q] at hB
            refine r_ic_f 134 f135_104 (by decide) (fun q => q c15q) ?_
            refine r_aload_nN f135_107 rfl ?_
            replace hB := bnd_some hB
            obtain ⟨x35q, ex35q, hB⟩ := hB
            refine r_getA f135_108 fa_6_59 ex35q ?_
            refine r_iload_n f135_111 rfl ?_
            refine r_iconst f135_112 ci_1 ?_
            refine r_isub f135_113 ?_
            refine r_aload_nN f135_114 rfl ?_
            replace hB := bnd_some hB
            obtain ⟨x36q, ex36q, hB⟩ := hB
            refine r_getA f135_115 fa_6_59 ex36q ?_
            refine r_iload_n f135_118 rfl ?_
            refine r_iconst f135_119 ci_1 ?_
            refine r_isub f135_120 ?_
            replace hB := bnd_some hB
            obtain ⟨u37q, rfl, hB⟩ := hB
            replace hB := bnd_some hB
            obtain ⟨x38q, ex38q, hB⟩ := hB
            refine r_aI f135_121 ex38q ?_
            by_cases c39q : x38q = 0
            · rw [if_pos c39q] at hB
              refine r_if_f 129 f135_122 (by decide) (fun q => q c39q) ?_
              refine r_iconst f135_125 ci_1 ?_
              refine r_goto (t := 130) f135_126 (by decide) ?_
              exact pm_weak (L' := [.ref l0, .int l1, .int l2, .int l3, pm_J]) ⟨.inr rfl, .inr rfl, .inr rfl, .inr rfl, .inl rfl, trivial⟩ (P_M_says_130 (d := d) (M_says_16 n) ih h l0 l1 l2 l3 1 (l2 - 1) x35q hB)
            · rw [if_neg c39q] at hB
              refine r_if_t (t := 129) f135_122 (by decide) c39q ?_
              refine r_iconst f135_129 ci_0 ?_
              exact pm_weak (L' := [.ref l0, .int l1, .int l2, .int l3, pm_J]) ⟨.inr rfl, .inr rfl, .inr rfl, .inr rfl, .inl rfl, trivial⟩ (P_M_says_130 (d := d) (M_says_16 n) ih h l0 l1 l2 l3 0 (l2 - 1) x35q hB)
          · rw [if_neg c15q] at hB
            refine r_ic_t (t := 134) f135_104 (by decide) c15q ?_
            refine r_iload f135_134 rfl ?_
            refine r_bipush f135_136 cb_19 ?_
            by_cases c16q : x12q = 19
            · rw [if_pos c16q] at hB
              refine r_ic_f 161 f135_138 (by decide) (fun q => q c16q) ?_
              refine r_aload_nN f135_141 rfl ?_
              replace hB := bnd_some hB
              obtain ⟨x29q, ex29q, hB⟩ := hB
              refine r_getA f135_142 fa_6_59 ex29q ?_
              refine r_iload_n f135_145 rfl ?_
              refine r_iconst f135_146 ci_1 ?_
              refine r_isub f135_147 ?_
              refine r_aload_nN f135_148 rfl ?_
              replace hB := bnd_some hB
              obtain ⟨x30q, ex30q, hB⟩ := hB
              refine r_getA f135_149 fa_6_59 ex30q ?_
              refine r_iload_n f135_152 rfl ?_
              refine r_iconst f135_153 ci_1 ?_
              refine r_isub f135_154 ?_
              replace hB := bnd_some hB
              obtain ⟨u31q, rfl, hB⟩ := hB
              replace hB := bnd_some hB
              obtain ⟨x32q, ex32q, hB⟩ := hB
              refine r_aI f135_155 ex32q ?_
              refine r_ineg f135_156 ?_
              replace hB := bnd_some hB
              obtain ⟨u33q, rfl, hB⟩ := hB
              replace hB := bnd_some hB
              obtain ⟨h34q, eh34q, hB⟩ := hB
              refine r_sI f135_157 eh34q ?_
              refine r_goto (t := 191) f135_158 (by decide) ?_
              exact pm_weak (L' := [.ref l0, .int l1, .int l2, .int l3, pm_J]) ⟨.inr rfl, .inr rfl, .inr rfl, .inr rfl, .inl rfl, trivial⟩ (P_M_says_191 (d := d) (M_says_16 n) ih h34q l0 l1 l2 l3 hB)
            · rw [if_neg c16q] at hB
              refine r_ic_t (t := 161) f135_138 (by decide) c16q ?_
              obtain ⟨y17q, hy17q⟩ : ∃ z, z = l2 + (-1) := ⟨_, rfl⟩
              replace hB := nmd_at hy17q hB
              refine r_iinc (L' := [.ref l0, .int l1, .int y17q, .int l3, .int x12q]) (x := y17q) f135_161 rfl (hy17q.trans (congrArg (l2 + ·) ci_m1.symm)) rfl ?_
              refine r_aload_nN f135_164 rfl ?_
              replace hB := bnd_some hB
              obtain ⟨x18q, ex18q, hB⟩ := hB
              refine r_getA f135_165 fa_6_59 ex18q ?_
              refine r_iload_n f135_168 rfl ?_
              refine r_iconst f135_169 ci_1 ?_
              refine r_isub f135_170 ?_
              refine r_iload f135_171 rfl ?_
              refine r_aload_nN f135_173 rfl ?_
              replace hB := bnd_some hB
              obtain ⟨x19q, ex19q, hB⟩ := hB
              refine r_getA f135_174 fa_6_59 ex19q ?_
              refine r_iload_n f135_177 rfl ?_
              refine r_iconst f135_178 ci_1 ?_
              refine r_isub f135_179 ?_
              replace hB := bnd_some hB
              obtain ⟨u20q, rfl, hB⟩ := hB
              replace hB := bnd_some hB
              obtain ⟨x21q, ex21q, hB⟩ := hB
              refine r_aI f135_180 ex21q ?_
              refine r_aload_nN f135_181 rfl ?_
              replace hB := bnd_some hB
              obtain ⟨x22q, ex22q, hB⟩ := hB
              refine r_getA f135_182 fa_6_59 ex22q ?_
              refine r_iload_n f135_185 rfl ?_
              replace hB := bnd_some hB
              obtain ⟨u23q, rfl, hB⟩ := hB
              replace hB := bnd_some hB
              obtain ⟨x24q, ex24q, hB⟩ := hB
              refine r_aI f135_186 ex24q ?_
              replace hB := bn2_some hB
              obtain ⟨h25q, x26q, eh25q, hB⟩ := hB
              refine r_statV (as := [.int x12q, .int x21q, .int x24q]) (q := pm_m_134) f135_187 ca_6_188 rfl (by decide) rfl rfl (cs_len (Nat.le_of_ble_eq_true rfl)) (P_M_two (d := d + 0) eh25q) ?_
              replace hB := bnd_some hB
              obtain ⟨u27q, rfl, hB⟩ := hB
              replace hB := bnd_some hB
              obtain ⟨h28q, eh28q, hB⟩ := hB
              refine r_sI f135_190 eh28q ?_
              exact pm_weak (L' := [.ref l0, .int l1, .int y17q, .int l3, pm_J]) ⟨.inr rfl, .inr rfl, .inr rfl, .inr rfl, .inl rfl, trivial⟩ (P_M_says_191 (d := d) (M_says_16 n) ih h28q l0 l1 y17q l3 hB)
        · rw [if_neg c14q] at hB
          refine r_ic_f 100 f135_63 (by decide) c14q ?_
          exact pm_weak (L' := [.ref l0, .int l1, .int l2, .int l3, .int x12q]) ⟨.inr rfl, .inr rfl, .inr rfl, .inr rfl, .inr rfl, trivial⟩ (P_M_says_66 (d := d) (M_says_16 n) ih h l0 l1 l2 l3 x12q hB)
theorem P_M_says {d : Nat} {h h' : pm_H} {r : Int32} {t : Nat} {a1 : Int32} (hB : M_says h t a1 = some (h', r)) : pm_ev (d + 2) 135 [.ref t, .int a1] h (some (.int r)) h' := by
  unfold M_says at hB
  refine pm_ev_mk (L := [.ref t, .int a1, pm_J, pm_J, pm_J]) pm_m_135 rfl (Nat.le_of_ble_eq_true rfl) rfl ?_
  refine r_iconst f135_0 ci_0 ?_
  refine r_istore_n (L' := [.ref t, .int a1, .int 0, pm_J, pm_J]) (x := 0) f135_1 rfl (Nat.le_of_ble_eq_true rfl) rfl ?_
  refine r_aload_nN f135_2 rfl ?_
  replace hB := bnd_some hB
  obtain ⟨x1q, ex1q, hB⟩ := hB
  refine r_getA f135_3 fa_6_28 ex1q ?_
  refine r_iconst f135_6 ci_4 ?_
  refine r_aload_nN f135_7 rfl ?_
  replace hB := bnd_some hB
  obtain ⟨x2q, ex2q, hB⟩ := hB
  refine r_getI f135_8 fa_6_114 ex2q ?_
  refine r_imul f135_11 ?_
  refine r_iload_n f135_12 rfl ?_
  refine r_iadd f135_13 ?_
  replace hB := bnd_some hB
  obtain ⟨u3q, rfl, hB⟩ := hB
  replace hB := bnd_some hB
  obtain ⟨x4q, ex4q, hB⟩ := hB
  refine r_aI f135_14 ex4q ?_
  refine r_istore_n (L' := [.ref t, .int a1, .int 0, .int x4q, pm_J]) (x := x4q) f135_15 rfl (Nat.le_of_ble_eq_true rfl) rfl ?_
  exact pm_weak (L' := [.ref t, .int a1, .int 0, .int x4q, pm_J]) ⟨.inr rfl, .inr rfl, .inr rfl, .inr rfl, .inl rfl, trivial⟩ (P_M_says_16 (d := d) 1000 h t a1 0 x4q hB)
theorem P_M_force {d : Nat} {h h' : pm_H} {r : Int32} {t : Nat} {a1 : Int32} (hB : M_force h t a1 = some (h', r)) : pm_ev (d + 2) 136 [.ref t, .int a1] h (some (.int r)) h' := by
  unfold M_force at hB
  refine pm_ev_mk (L := [.ref t, .int a1, pm_J]) pm_m_136 rfl (Nat.le_of_ble_eq_true rfl) rfl ?_
  refine r_iload_n f136_0 rfl ?_
  refine r_iconst f136_1 ci_0 ?_
  refine r_aload_nN f136_2 rfl ?_
  replace hB := bnd_some hB
  obtain ⟨x1q, ex1q, hB⟩ := hB
  refine r_getI f136_3 fa_6_111 ex1q ?_
  refine r_iconst f136_6 ci_1 ?_
  refine r_isub f136_7 ?_
  replace hB := bn2_some hB
  obtain ⟨h2q, x3q, eh2q, hB⟩ := hB
  refine r_statV (as := [.int a1, .int 0, .int (x1q - 1)]) (q := pm_m_109) f136_8 ca_6_79 rfl (by decide) rfl rfl (cs_len (Nat.le_of_ble_eq_true rfl)) (P_M_in (d := d + 0) eh2q) ?_
  by_cases c4q : x3q = 0
  · rw [if_pos c4q] at hB
    refine r_if_f 17 f136_11 (by decide) (fun q => q c4q) ?_
    refine r_bipush f136_14 cb_m2 ?_
    exact r_iret pm_m_136 .int f136_16 rfl rfl rfl (zI hB)
  · rw [if_neg c4q] at hB
    refine r_if_t (t := 17) f136_11 (by decide) c4q ?_
    refine r_aload_nN f136_17 rfl ?_
    replace hB := bnd_some hB
    obtain ⟨x5q, ex5q, hB⟩ := hB
    refine r_getI f136_18 fa_6_114 ex5q ?_
    refine r_istore_n (L' := [.ref t, .int a1, .int x5q]) (x := x5q) f136_21 rfl (Nat.le_of_ble_eq_true rfl) rfl ?_
    refine r_aload_nN f136_22 rfl ?_
    refine r_iload_n f136_23 rfl ?_
    replace hB := bnd_some hB
    obtain ⟨h6q, eh6q, hB⟩ := hB
    refine r_put f136_24 fa_6_114 ty_6_13 rfl rfl (no_fin (nf_6_13)) eh6q ?_
    refine r_iload_n f136_27 rfl ?_
    exact r_iret pm_m_136 .int f136_28 rfl rfl rfl (zI hB)
theorem P_M_asksOf_114 {d : Nat} {h' : pm_H} {r : Int32} (h : pm_H) (s0 : Int32) (s1 : Int32) (s2 : Int32) (hB : M_asksOf_114 h s0 s1 s2 = some (h', r)) : pm_run (pm_ev (d + 3)) 137 114 [pm_J, pm_J, pm_J] [.int s0, .int s1, .int s2] h (fun r1 h1 => r1 = some (.int r) ∧ h1 = h') := by
  unfold M_asksOf_114 at hB
  replace hB := bn2_some hB
  obtain ⟨h1q, x2q, eh1q, hB⟩ := hB
  refine r_statV (as := [.int s2, .int s1, .int s0]) (q := pm_m_110) f137_114 ca_6_86 rfl (by decide) rfl rfl (cs_len (Nat.le_of_ble_eq_true rfl)) (P_M_within (d := d + 2) eh1q) ?_
  exact r_iret pm_m_137 .int f137_117 rfl rfl rfl (zI hB)
theorem P_M_asksOf_103 {d : Nat} {h' : pm_H} {r : Int32} (h : pm_H) (l1 : Int32) (s0 : Int32) (s1 : Int32) (hB : M_asksOf_103 h l1 s0 s1 = some (h', r)) : pm_run (pm_ev (d + 3)) 137 103 [pm_J, .int l1, pm_J] [.int s0, .int s1] h (fun r1 h1 => r1 = some (.int r) ∧ h1 = h') := by
  unfold M_asksOf_103 at hB
  refine r_iload_n f137_103 rfl ?_
  by_cases c1q : l1 = 0
  · rw [if_pos c1q] at hB
    refine r_if_f 112 f137_104 (by decide) (fun q => q c1q) ?_
    refine r_bipush f137_107 cb_9 ?_
    refine r_goto (t := 114) f137_109 (by decide) ?_
    exact pm_weak (L' := [pm_J, pm_J, pm_J]) ⟨.inl rfl, .inl rfl, .inl rfl, trivial⟩ (P_M_asksOf_114 (d := d) h 9 s0 s1 hB)
  · rw [if_neg c1q] at hB
    refine r_if_t (t := 112) f137_104 (by decide) c1q ?_
    refine r_bipush f137_112 cb_99 ?_
    exact pm_weak (L' := [pm_J, pm_J, pm_J]) ⟨.inl rfl, .inl rfl, .inl rfl, trivial⟩ (P_M_asksOf_114 (d := d) h 99 s0 s1 hB)
theorem P_M_asksOf_64 {d : Nat} {h' : pm_H} {r : Int32} (h : pm_H) (l0 : Nat) (l1 : Int32) (l2 : Int32) (s0 : Int32) (s1 : Int32) (s2 : Option Nat) (hB : M_asksOf_64 h l0 l1 l2 s0 s1 s2 = some (h', r)) : pm_run (pm_ev (d + 3)) 137 64 [.ref l0, .int l1, .int l2] [.int s0, .int s1, va_rf s2] h (fun r1 h1 => r1 = some (.int r) ∧ h1 = h') := by
  unfold M_asksOf_64 at hB
  replace hB := bnd_some hB
  obtain ⟨u1q, rfl, hB⟩ := hB
  replace hB := bnd_some hB
  obtain ⟨h2q, eh2q, hB⟩ := hB
  refine r_sI f137_64 eh2q ?_
  refine r_aload_nN f137_65 rfl ?_
  replace hB := bnd_some hB
  obtain ⟨x3q, ex3q, hB⟩ := hB
  refine r_getA f137_66 fa_6_62 ex3q ?_
  refine r_iconst f137_69 ci_4 ?_
  refine r_aload_nN f137_70 rfl ?_
  replace hB := bnd_some hB
  obtain ⟨x4q, ex4q, hB⟩ := hB
  refine r_getI f137_71 fa_6_105 ex4q ?_
  replace hB := bnd_some hB
  obtain ⟨u5q, rfl, hB⟩ := hB
  replace hB := bnd_some hB
  obtain ⟨h6q, eh6q, hB⟩ := hB
  refine r_sI f137_74 eh6q ?_
  refine r_aload_nN f137_75 rfl ?_
  replace hB := bnd_some hB
  obtain ⟨x7q, ex7q, hB⟩ := hB
  refine r_getA f137_76 fa_6_62 ex7q ?_
  refine r_iconst f137_79 ci_5 ?_
  refine r_aload_nN f137_80 rfl ?_
  replace hB := bnd_some hB
  obtain ⟨x8q, ex8q, hB⟩ := hB
  refine r_getA f137_81 fa_6_13 ex8q ?_
  refine r_iload_n f137_84 rfl ?_
  replace hB := bnd_some hB
  obtain ⟨u9q, rfl, hB⟩ := hB
  replace hB := bnd_some hB
  obtain ⟨x10q, ex10q, hB⟩ := hB
  refine r_aI f137_85 ex10q ?_
  replace hB := bnd_some hB
  obtain ⟨u11q, rfl, hB⟩ := hB
  replace hB := bnd_some hB
  obtain ⟨h12q, eh12q, hB⟩ := hB
  refine r_sI f137_86 eh12q ?_
  refine r_aload_nN f137_87 rfl ?_
  refine r_iload_n f137_88 rfl ?_
  replace hB := grd_some hB
  obtain ⟨g15q, hB⟩ := hB
  replace hB := bn2_some hB
  obtain ⟨h13q, x14q, eh13q, hB⟩ := hB
  refine r_virtV (as := [.int l1]) (q := pm_m_135) f137_89 ca_6_194 rfl rfl rfl (cs_len (Nat.le_of_ble_eq_true rfl)) g15q (P_M_says (d := d + 1) eh13q) ?_
  refine r_iload_n f137_92 rfl ?_
  refine r_iconst f137_93 ci_1 ?_
  by_cases c16q : l1 = 1
  · rw [if_pos c16q] at hB
    refine r_ic_f 102 f137_94 (by decide) (fun q => q c16q) ?_
    refine r_bipush f137_97 cb_m99 ?_
    refine r_goto (t := 103) f137_99 (by decide) ?_
    exact pm_weak (L' := [pm_J, .int l1, pm_J]) ⟨.inl rfl, .inr rfl, .inl rfl, trivial⟩ (P_M_asksOf_103 (d := d) h13q l1 (-99) x14q hB)
  · rw [if_neg c16q] at hB
    refine r_ic_t (t := 102) f137_94 (by decide) c16q ?_
    refine r_iconst f137_102 ci_0 ?_
    exact pm_weak (L' := [pm_J, .int l1, pm_J]) ⟨.inl rfl, .inr rfl, .inl rfl, trivial⟩ (P_M_asksOf_103 (d := d) h13q l1 0 x14q hB)
theorem P_M_asksOf {d : Nat} {h h' : pm_H} {r : Int32} {t : Nat} {a1 : Int32} {a2 : Int32} (hB : M_asksOf h t a1 a2 = some (h', r)) : pm_ev (d + 4) 137 [.ref t, .int a1, .int a2] h (some (.int r)) h' := by
  unfold M_asksOf at hB
  refine pm_ev_mk (L := [.ref t, .int a1, .int a2]) pm_m_137 rfl (Nat.le_of_ble_eq_true rfl) rfl ?_
  refine r_aload_nN f137_0 rfl ?_
  replace hB := bnd_some hB
  obtain ⟨x1q, ex1q, hB⟩ := hB
  refine r_getA f137_1 fa_6_62 ex1q ?_
  refine r_iconst f137_4 ci_0 ?_
  refine r_aload_nN f137_5 rfl ?_
  replace hB := bnd_some hB
  obtain ⟨x2q, ex2q, hB⟩ := hB
  refine r_getA f137_6 fa_6_16 ex2q ?_
  refine r_iconst f137_9 ci_3 ?_
  refine r_iload_n f137_10 rfl ?_
  refine r_imul f137_11 ?_
  refine r_iconst f137_12 ci_2 ?_
  refine r_iadd f137_13 ?_
  replace hB := bnd_some hB
  obtain ⟨u3q, rfl, hB⟩ := hB
  replace hB := bnd_some hB
  obtain ⟨x4q, ex4q, hB⟩ := hB
  refine r_aI f137_14 ex4q ?_
  replace hB := bnd_some hB
  obtain ⟨u5q, rfl, hB⟩ := hB
  replace hB := bnd_some hB
  obtain ⟨h6q, eh6q, hB⟩ := hB
  refine r_sI f137_15 eh6q ?_
  refine r_aload_nN f137_16 rfl ?_
  replace hB := bnd_some hB
  obtain ⟨x7q, ex7q, hB⟩ := hB
  refine r_getA f137_17 fa_6_62 ex7q ?_
  refine r_iconst f137_20 ci_1 ?_
  refine r_aload_nN f137_21 rfl ?_
  replace hB := bnd_some hB
  obtain ⟨x8q, ex8q, hB⟩ := hB
  refine r_getA f137_22 fa_6_16 ex8q ?_
  refine r_iconst f137_25 ci_3 ?_
  refine r_iload_n f137_26 rfl ?_
  refine r_imul f137_27 ?_
  replace hB := bnd_some hB
  obtain ⟨u9q, rfl, hB⟩ := hB
  replace hB := bnd_some hB
  obtain ⟨x10q, ex10q, hB⟩ := hB
  refine r_aI f137_28 ex10q ?_
  replace hB := bnd_some hB
  obtain ⟨u11q, rfl, hB⟩ := hB
  replace hB := bnd_some hB
  obtain ⟨h12q, eh12q, hB⟩ := hB
  refine r_sI f137_29 eh12q ?_
  refine r_aload_nN f137_30 rfl ?_
  replace hB := bnd_some hB
  obtain ⟨x13q, ex13q, hB⟩ := hB
  refine r_getA f137_31 fa_6_62 ex13q ?_
  refine r_iconst f137_34 ci_2 ?_
  refine r_aload_nN f137_35 rfl ?_
  replace hB := bnd_some hB
  obtain ⟨x14q, ex14q, hB⟩ := hB
  refine r_getA f137_36 fa_6_16 ex14q ?_
  refine r_iconst f137_39 ci_3 ?_
  refine r_iload_n f137_40 rfl ?_
  refine r_imul f137_41 ?_
  refine r_iconst f137_42 ci_1 ?_
  refine r_iadd f137_43 ?_
  replace hB := bnd_some hB
  obtain ⟨u15q, rfl, hB⟩ := hB
  replace hB := bnd_some hB
  obtain ⟨x16q, ex16q, hB⟩ := hB
  refine r_aI f137_44 ex16q ?_
  replace hB := bnd_some hB
  obtain ⟨u17q, rfl, hB⟩ := hB
  replace hB := bnd_some hB
  obtain ⟨h18q, eh18q, hB⟩ := hB
  refine r_sI f137_45 eh18q ?_
  refine r_aload_nN f137_46 rfl ?_
  replace hB := bnd_some hB
  obtain ⟨x19q, ex19q, hB⟩ := hB
  refine r_getA f137_47 fa_6_62 ex19q ?_
  refine r_iconst f137_50 ci_3 ?_
  refine r_aload_nN f137_51 rfl ?_
  refine r_iload_n f137_52 rfl ?_
  replace hB := grd_some hB
  obtain ⟨g22q, hB⟩ := hB
  replace hB := bn2_some hB
  obtain ⟨h20q, x21q, eh20q, hB⟩ := hB
  refine r_virtV (as := [.int a2]) (q := pm_m_116) f137_53 ca_6_191 rfl rfl rfl (cs_len (Nat.le_of_ble_eq_true rfl)) g22q (P_M_isOnClover (d := d + 0) eh20q) ?_
  by_cases c23q : x21q = 0
  · rw [if_pos c23q] at hB
    refine r_if_t (t := 63) f137_56 (by decide) c23q ?_
    refine r_iconst f137_63 ci_0 ?_
    exact pm_weak (L' := [.ref t, .int a1, .int a2]) ⟨.inr rfl, .inr rfl, .inr rfl, trivial⟩ (P_M_asksOf_64 (d := d) h20q t a1 a2 0 3 x19q hB)
  · rw [if_neg c23q] at hB
    refine r_if_f 63 f137_56 (by decide) c23q ?_
    refine r_iconst f137_59 ci_1 ?_
    refine r_goto (t := 64) f137_60 (by decide) ?_
    exact pm_weak (L' := [.ref t, .int a1, .int a2]) ⟨.inr rfl, .inr rfl, .inr rfl, trivial⟩ (P_M_asksOf_64 (d := d) h20q t a1 a2 1 3 x19q hB)
theorem P_M_asks {d : Nat} {h h' : pm_H} {r : Int32} {t : Nat} {a1 : Int32} {a2 : Int32} (hB : M_asks h t a1 a2 = some (h', r)) : pm_ev (d + 5) 138 [.ref t, .int a1, .int a2] h (some (.int r)) h' := by
  unfold M_asks at hB
  refine pm_ev_mk (L := [.ref t, .int a1, .int a2]) pm_m_138 rfl (Nat.le_of_ble_eq_true rfl) rfl ?_
  refine r_iload_n f138_0 rfl ?_
  refine r_iconst f138_1 ci_0 ?_
  refine r_iconst f138_2 ci_2 ?_
  replace hB := bn2_some hB
  obtain ⟨h1q, x2q, eh1q, hB⟩ := hB
  refine r_statV (as := [.int a1, .int 0, .int 2]) (q := pm_m_109) f138_3 ca_6_79 rfl (by decide) rfl rfl (cs_len (Nat.le_of_ble_eq_true rfl)) (P_M_in (d := d + 3) eh1q) ?_
  by_cases c3q : x2q = 0
  · rw [if_pos c3q] at hB
    refine r_if_t (t := 26) f138_6 (by decide) c3q ?_
    refine r_sipush f138_26 cs_m1000 ?_
    exact r_iret pm_m_138 .int f138_29 rfl rfl rfl (zI hB)
  · rw [if_neg c3q] at hB
    refine r_if_f 26 f138_6 (by decide) c3q ?_
    refine r_aload_nN f138_9 rfl ?_
    refine r_iload_n f138_10 rfl ?_
    replace hB := grd_some hB
    obtain ⟨g6q, hB⟩ := hB
    replace hB := bn2_some hB
    obtain ⟨h4q, x5q, eh4q, hB⟩ := hB
    refine r_virtV (as := [.int a2]) (q := pm_m_112) f138_11 ca_6_197 rfl rfl rfl (cs_len (Nat.le_of_ble_eq_true rfl)) g6q (P_M_isDune (d := d + 2) eh4q) ?_
    by_cases c7q : x5q = 0
    · rw [if_pos c7q] at hB
      refine r_if_t (t := 26) f138_14 (by decide) c7q ?_
      refine r_sipush f138_26 cs_m1000 ?_
      exact r_iret pm_m_138 .int f138_29 rfl rfl rfl (zI hB)
    · rw [if_neg c7q] at hB
      refine r_if_f 26 f138_14 (by decide) c7q ?_
      refine r_aload_nN f138_17 rfl ?_
      refine r_iload_n f138_18 rfl ?_
      refine r_iload_n f138_19 rfl ?_
      replace hB := grd_some hB
      obtain ⟨g10q, hB⟩ := hB
      replace hB := bn2_some hB
      obtain ⟨h8q, x9q, eh8q, hB⟩ := hB
      refine r_virtV (as := [.int a1, .int a2]) (q := pm_m_137) f138_20 ca_6_200 rfl rfl rfl (cs_len (Nat.le_of_ble_eq_true rfl)) g10q (P_M_asksOf (d := d + 0) eh8q) ?_
      refine r_goto (t := 29) f138_23 (by decide) ?_
      exact r_iret pm_m_138 .int f138_29 rfl rfl rfl (zI hB)
theorem P_M_dune_35 {d : Nat} {h' : pm_H} {r : Int32} (h : pm_H) (l0 : Nat) (l1 : Int32) (l2 : Int32) (s0 : Int32) (hB : M_dune_35 h l0 l1 l2 s0 = some (h', r)) : pm_run (pm_ev (d + 1)) 139 35 [.ref l0, .int l1, .int l2, pm_J] [.int s0] h (fun r1 h1 => r1 = some (.int r) ∧ h1 = h') := by
  unfold M_dune_35 at hB
  refine r_istore_n (L' := [.ref l0, .int l1, .int l2, .int s0]) (x := s0) f139_35 rfl (Nat.le_of_ble_eq_true rfl) rfl ?_
  refine r_iload_n f139_36 rfl ?_
  by_cases c1q : s0 = 0
  · rw [if_pos c1q] at hB
    refine r_if_t (t := 51) f139_37 (by decide) c1q ?_
    refine r_bipush f139_51 cb_m2 ?_
    exact r_iret pm_m_139 .int f139_53 rfl rfl rfl (zI hB)
  · rw [if_neg c1q] at hB
    refine r_if_f 51 f139_37 (by decide) c1q ?_
    refine r_iload_n f139_40 rfl ?_
    refine r_sipush f139_41 cs_1000 ?_
    refine r_idiv f139_44 nz_i_1000 ?_
    refine r_bipush f139_45 cb_10 ?_
    refine r_irem f139_47 nz_i_10 ?_
    by_cases c2q : ((l2 / 1000) - (l2 / 1000) / 10 * 10) = 0
    · rw [if_pos c2q] at hB
      refine r_if_f 54 f139_48 (by decide) (fun q => q c2q) ?_
      refine r_bipush f139_51 cb_m2 ?_
      exact r_iret pm_m_139 .int f139_53 rfl rfl rfl (zI hB)
    · rw [if_neg c2q] at hB
      refine r_if_t (t := 54) f139_48 (by decide) c2q ?_
      refine r_aload_nN f139_54 rfl ?_
      replace hB := bnd_some hB
      obtain ⟨x3q, ex3q, hB⟩ := hB
      refine r_getI f139_55 fa_6_83 ex3q ?_
      refine r_bipush f139_58 cb_6 ?_
      by_cases c4q : x3q = 6
      · rw [if_pos c4q] at hB
        refine r_ic_f 66 f139_60 (by decide) (fun q => q c4q) ?_
        refine r_bipush f139_63 cb_m4 ?_
        exact r_iret pm_m_139 .int f139_65 rfl rfl rfl (zI hB)
      · rw [if_neg c4q] at hB
        refine r_ic_t (t := 66) f139_60 (by decide) c4q ?_
        refine r_aload_nN f139_66 rfl ?_
        replace hB := bnd_some hB
        obtain ⟨x5q, ex5q, hB⟩ := hB
        refine r_getA f139_67 fa_6_7 ex5q ?_
        refine r_aload_nN f139_70 rfl ?_
        replace hB := bnd_some hB
        obtain ⟨x6q, ex6q, hB⟩ := hB
        refine r_getI f139_71 fa_6_83 ex6q ?_
        refine r_iload_n f139_74 rfl ?_
        refine r_bipush f139_75 cb_10 ?_
        refine r_idiv f139_77 nz_i_10 ?_
        replace hB := bnd_some hB
        obtain ⟨u7q, rfl, hB⟩ := hB
        replace hB := bnd_some hB
        obtain ⟨h8q, eh8q, hB⟩ := hB
        refine r_sI f139_78 eh8q ?_
        refine r_aload_nN f139_79 rfl ?_
        replace hB := bnd_some hB
        obtain ⟨x9q, ex9q, hB⟩ := hB
        refine r_getA f139_80 fa_6_13 ex9q ?_
        refine r_aload_nN f139_83 rfl ?_
        replace hB := bnd_some hB
        obtain ⟨x10q, ex10q, hB⟩ := hB
        refine r_getI f139_84 fa_6_83 ex10q ?_
        refine r_iload_n f139_87 rfl ?_
        refine r_bipush f139_88 cb_10 ?_
        refine r_irem f139_90 nz_i_10 ?_
        replace hB := bnd_some hB
        obtain ⟨u11q, rfl, hB⟩ := hB
        replace hB := bnd_some hB
        obtain ⟨h12q, eh12q, hB⟩ := hB
        refine r_sI f139_91 eh12q ?_
        refine r_aload_nN f139_92 rfl ?_
        replace hB := bnd_some hB
        obtain ⟨x13q, ex13q, hB⟩ := hB
        refine r_getA f139_93 fa_6_16 ex13q ?_
        refine r_iconst f139_96 ci_3 ?_
        refine r_aload_nN f139_97 rfl ?_
        replace hB := bnd_some hB
        obtain ⟨x14q, ex14q, hB⟩ := hB
        refine r_getI f139_98 fa_6_83 ex14q ?_
        refine r_imul f139_101 ?_
        refine r_iload_n f139_102 rfl ?_
        refine r_sipush f139_103 cs_10000 ?_
        refine r_idiv f139_106 nz_i_10000 ?_
        replace hB := bnd_some hB
        obtain ⟨u15q, rfl, hB⟩ := hB
        replace hB := bnd_some hB
        obtain ⟨h16q, eh16q, hB⟩ := hB
        refine r_sI f139_107 eh16q ?_
        refine r_aload_nN f139_108 rfl ?_
        replace hB := bnd_some hB
        obtain ⟨x17q, ex17q, hB⟩ := hB
        refine r_getA f139_109 fa_6_16 ex17q ?_
        refine r_iconst f139_112 ci_3 ?_
        refine r_aload_nN f139_113 rfl ?_
        replace hB := bnd_some hB
        obtain ⟨x18q, ex18q, hB⟩ := hB
        refine r_getI f139_114 fa_6_83 ex18q ?_
        refine r_imul f139_117 ?_
        refine r_iconst f139_118 ci_1 ?_
        refine r_iadd f139_119 ?_
        refine r_iload_n f139_120 rfl ?_
        refine r_sipush f139_121 cs_1000 ?_
        refine r_idiv f139_124 nz_i_1000 ?_
        refine r_bipush f139_125 cb_10 ?_
        refine r_irem f139_127 nz_i_10 ?_
        replace hB := bnd_some hB
        obtain ⟨u19q, rfl, hB⟩ := hB
        replace hB := bnd_some hB
        obtain ⟨h20q, eh20q, hB⟩ := hB
        refine r_sI f139_128 eh20q ?_
        refine r_aload_nN f139_129 rfl ?_
        replace hB := bnd_some hB
        obtain ⟨x21q, ex21q, hB⟩ := hB
        refine r_getA f139_130 fa_6_16 ex21q ?_
        refine r_iconst f139_133 ci_3 ?_
        refine r_aload_nN f139_134 rfl ?_
        replace hB := bnd_some hB
        obtain ⟨x22q, ex22q, hB⟩ := hB
        refine r_getI f139_135 fa_6_83 ex22q ?_
        refine r_imul f139_138 ?_
        refine r_iconst f139_139 ci_2 ?_
        refine r_iadd f139_140 ?_
        refine r_iload_n f139_141 rfl ?_
        refine r_sipush f139_142 cs_1000 ?_
        refine r_irem f139_145 nz_i_1000 ?_
        replace hB := bnd_some hB
        obtain ⟨u23q, rfl, hB⟩ := hB
        replace hB := bnd_some hB
        obtain ⟨h24q, eh24q, hB⟩ := hB
        refine r_sI f139_146 eh24q ?_
        refine r_aload_nN f139_147 rfl ?_
        replace hB := bnd_some hB
        obtain ⟨x25q, ex25q, hB⟩ := hB
        refine r_getA f139_148 fa_6_19 ex25q ?_
        refine r_aload_nN f139_151 rfl ?_
        replace hB := bnd_some hB
        obtain ⟨x26q, ex26q, hB⟩ := hB
        refine r_getI f139_152 fa_6_83 ex26q ?_
        refine r_iconst f139_155 ci_0 ?_
        replace hB := bnd_some hB
        obtain ⟨u27q, rfl, hB⟩ := hB
        replace hB := bnd_some hB
        obtain ⟨h28q, eh28q, hB⟩ := hB
        refine r_sI f139_156 eh28q ?_
        refine r_aload_nN f139_157 rfl ?_
        refine r_dupN f139_158 ?_
        replace hB := bnd_some hB
        obtain ⟨x29q, ex29q, hB⟩ := hB
        refine r_getI f139_159 fa_6_83 ex29q ?_
        refine r_iconst f139_162 ci_1 ?_
        refine r_iadd f139_163 ?_
        replace hB := bnd_some hB
        obtain ⟨h30q, eh30q, hB⟩ := hB
        refine r_put f139_164 fa_6_83 ty_6_0 rfl rfl (no_fin (nf_6_0)) eh30q ?_
        refine r_aload_nN f139_167 rfl ?_
        replace hB := bnd_some hB
        obtain ⟨x31q, ex31q, hB⟩ := hB
        refine r_getI f139_168 fa_6_83 ex31q ?_
        refine r_iconst f139_171 ci_1 ?_
        refine r_isub f139_172 ?_
        exact r_iret pm_m_139 .int f139_173 rfl rfl rfl (zI hB)
theorem P_M_dune_34 {d : Nat} {h' : pm_H} {r : Int32} (h : pm_H) (l0 : Nat) (l1 : Int32) (l2 : Int32) (hB : M_dune_34 h l0 l1 l2 = some (h', r)) : pm_run (pm_ev (d + 1)) 139 34 [.ref l0, .int l1, .int l2, pm_J] [] h (fun r1 h1 => r1 = some (.int r) ∧ h1 = h') := by
  unfold M_dune_34 at hB
  refine r_iconst f139_34 ci_0 ?_
  exact pm_weak (L' := [.ref l0, .int l1, .int l2, pm_J]) ⟨.inr rfl, .inr rfl, .inr rfl, .inl rfl, trivial⟩ (P_M_dune_35 (d := d) h l0 l1 l2 0 hB)
theorem P_M_dune {d : Nat} {h h' : pm_H} {r : Int32} {t : Nat} {a1 : Int32} {a2 : Int32} (hB : M_dune h t a1 a2 = some (h', r)) : pm_ev (d + 2) 139 [.ref t, .int a1, .int a2] h (some (.int r)) h' := by
  unfold M_dune at hB
  refine pm_ev_mk (L := [.ref t, .int a1, .int a2, pm_J]) pm_m_139 rfl (Nat.le_of_ble_eq_true rfl) rfl ?_
  refine r_iload_n f139_0 rfl ?_
  refine r_iconst f139_1 ci_0 ?_
  refine r_bipush f139_2 cb_59 ?_
  replace hB := bn2_some hB
  obtain ⟨h1q, x2q, eh1q, hB⟩ := hB
  refine r_statV (as := [.int a1, .int 0, .int 59]) (q := pm_m_109) f139_4 ca_6_79 rfl (by decide) rfl rfl (cs_len (Nat.le_of_ble_eq_true rfl)) (P_M_in (d := d + 0) eh1q) ?_
  by_cases c3q : x2q = 0
  · rw [if_pos c3q] at hB
    refine r_if_t (t := 34) f139_7 (by decide) c3q ?_
    exact pm_weak (L' := [.ref t, .int a1, .int a2, pm_J]) ⟨.inr rfl, .inr rfl, .inr rfl, .inl rfl, trivial⟩ (P_M_dune_34 (d := d) h1q t a1 a2 hB)
  · rw [if_neg c3q] at hB
    refine r_if_f 34 f139_7 (by decide) c3q ?_
    refine r_iload_n f139_10 rfl ?_
    refine r_iconst f139_11 ci_0 ?_
    refine r_ldc (v := 399099) (p := 1018) f139_12 rfl ?_
    replace hB := bn2_some hB
    obtain ⟨h4q, x5q, eh4q, hB⟩ := hB
    refine r_statV (as := [.int a2, .int 0, .int 399099]) (q := pm_m_109) f139_14 ca_6_79 rfl (by decide) rfl rfl (cs_len (Nat.le_of_ble_eq_true rfl)) (P_M_in (d := d + 0) eh4q) ?_
    by_cases c6q : x5q = 0
    · rw [if_pos c6q] at hB
      refine r_if_t (t := 34) f139_17 (by decide) c6q ?_
      exact pm_weak (L' := [.ref t, .int a1, .int a2, pm_J]) ⟨.inr rfl, .inr rfl, .inr rfl, .inl rfl, trivial⟩ (P_M_dune_34 (d := d) h4q t a1 a2 hB)
    · rw [if_neg c6q] at hB
      refine r_if_f 34 f139_17 (by decide) c6q ?_
      refine r_iload_n f139_20 rfl ?_
      refine r_sipush f139_21 cs_1000 ?_
      refine r_irem f139_24 nz_i_1000 ?_
      refine r_bipush f139_25 cb_100 ?_
      by_cases c7q : 100 ≤ (a2 - a2 / 1000 * 1000)
      · rw [if_pos c7q] at hB
        refine r_ic_t (t := 34) f139_27 (by decide) c7q ?_
        exact pm_weak (L' := [.ref t, .int a1, .int a2, pm_J]) ⟨.inr rfl, .inr rfl, .inr rfl, .inl rfl, trivial⟩ (P_M_dune_34 (d := d) h4q t a1 a2 hB)
      · rw [if_neg c7q] at hB
        refine r_ic_f 34 f139_27 (by decide) c7q ?_
        refine r_iconst f139_30 ci_1 ?_
        refine r_goto (t := 35) f139_31 (by decide) ?_
        exact pm_weak (L' := [.ref t, .int a1, .int a2, pm_J]) ⟨.inr rfl, .inr rfl, .inr rfl, .inl rfl, trivial⟩ (P_M_dune_35 (d := d) h4q t a1 a2 1 hB)
theorem P_M_put_52 {d : Nat} {h' : pm_H} {r : Int32} (h : pm_H) (l0 : Nat) (l1 : Int32) (l2 : Int32) (l3 : Int32) (s0 : Int32) (s1 : Int32) (s2 : Int32) (hB : M_put_52 h l0 l1 l2 l3 s0 s1 s2 = some (h', r)) : pm_run (pm_ev (d + 2)) 140 52 [.ref l0, .int l1, .int l2, .int l3, pm_J] [.int s0, .int s1, .int s2] h (fun r1 h1 => r1 = some (.int r) ∧ h1 = h') := by
  unfold M_put_52 at hB
  replace hB := bn2_some hB
  obtain ⟨h1q, x2q, eh1q, hB⟩ := hB
  refine r_statV (as := [.int s2, .int s1, .int s0]) (q := pm_m_109) f140_52 ca_6_79 rfl (by decide) rfl rfl (cs_len (Nat.le_of_ble_eq_true rfl)) (P_M_in (d := d + 1) eh1q) ?_
  by_cases c3q : x2q = 0
  · rw [if_pos c3q] at hB
    refine r_if_f 61 f140_55 (by decide) (fun q => q c3q) ?_
    refine r_bipush f140_58 cb_m7 ?_
    exact r_iret pm_m_140 .int f140_60 rfl rfl rfl (zI hB)
  · rw [if_neg c3q] at hB
    refine r_if_t (t := 61) f140_55 (by decide) c3q ?_
    refine r_aload_nN f140_61 rfl ?_
    replace hB := bnd_some hB
    obtain ⟨x4q, ex4q, hB⟩ := hB
    refine r_getA f140_62 fa_6_16 ex4q ?_
    refine r_iconst f140_65 ci_3 ?_
    refine r_iload_n f140_66 rfl ?_
    refine r_imul f140_67 ?_
    refine r_iload_n f140_68 rfl ?_
    refine r_iadd f140_69 ?_
    replace hB := bnd_some hB
    obtain ⟨u5q, rfl, hB⟩ := hB
    replace hB := bnd_some hB
    obtain ⟨x6q, ex6q, hB⟩ := hB
    refine r_aI f140_70 ex6q ?_
    refine r_istore (L' := [.ref l0, .int l1, .int l2, .int l3, .int x6q]) (x := x6q) f140_71 rfl (Nat.le_of_ble_eq_true rfl) rfl ?_
    refine r_aload_nN f140_73 rfl ?_
    replace hB := bnd_some hB
    obtain ⟨x7q, ex7q, hB⟩ := hB
    refine r_getA f140_74 fa_6_16 ex7q ?_
    refine r_iconst f140_77 ci_3 ?_
    refine r_iload_n f140_78 rfl ?_
    refine r_imul f140_79 ?_
    refine r_iload_n f140_80 rfl ?_
    refine r_iadd f140_81 ?_
    refine r_iload_n f140_82 rfl ?_
    replace hB := bnd_some hB
    obtain ⟨u8q, rfl, hB⟩ := hB
    replace hB := bnd_some hB
    obtain ⟨h9q, eh9q, hB⟩ := hB
    refine r_sI f140_83 eh9q ?_
    refine r_iload f140_84 rfl ?_
    exact r_iret pm_m_140 .int f140_86 rfl rfl rfl (zI hB)
theorem P_M_put_31 {d : Nat} {h' : pm_H} {r : Int32} (h : pm_H) (l0 : Nat) (l1 : Int32) (l2 : Int32) (l3 : Int32) (s0 : Int32) (s1 : Int32) (hB : M_put_31 h l0 l1 l2 l3 s0 s1 = some (h', r)) : pm_run (pm_ev (d + 2)) 140 31 [.ref l0, .int l1, .int l2, .int l3, pm_J] [.int s0, .int s1] h (fun r1 h1 => r1 = some (.int r) ∧ h1 = h') := by
  unfold M_put_31 at hB
  refine r_iload_n f140_31 rfl ?_
  by_cases c1q : l2 = 0
  · rw [if_pos c1q] at hB
    refine r_if_f 40 f140_32 (by decide) (fun q => q c1q) ?_
    refine r_bipush f140_35 cb_39 ?_
    refine r_goto (t := 52) f140_37 (by decide) ?_
    exact pm_weak (L' := [.ref l0, .int l1, .int l2, .int l3, pm_J]) ⟨.inr rfl, .inr rfl, .inr rfl, .inr rfl, .inl rfl, trivial⟩ (P_M_put_52 (d := d) h l0 l1 l2 l3 39 s0 s1 hB)
  · rw [if_neg c1q] at hB
    refine r_if_t (t := 40) f140_32 (by decide) c1q ?_
    refine r_iload_n f140_40 rfl ?_
    refine r_iconst f140_41 ci_1 ?_
    by_cases c2q : l2 = 1
    · rw [if_pos c2q] at hB
      refine r_ic_f 50 f140_42 (by decide) (fun q => q c2q) ?_
      refine r_bipush f140_45 cb_9 ?_
      refine r_goto (t := 52) f140_47 (by decide) ?_
      exact pm_weak (L' := [.ref l0, .int l1, .int l2, .int l3, pm_J]) ⟨.inr rfl, .inr rfl, .inr rfl, .inr rfl, .inl rfl, trivial⟩ (P_M_put_52 (d := d) h l0 l1 l2 l3 9 s0 s1 hB)
    · rw [if_neg c2q] at hB
      refine r_ic_t (t := 50) f140_42 (by decide) c2q ?_
      refine r_bipush f140_50 cb_99 ?_
      exact pm_weak (L' := [.ref l0, .int l1, .int l2, .int l3, pm_J]) ⟨.inr rfl, .inr rfl, .inr rfl, .inr rfl, .inl rfl, trivial⟩ (P_M_put_52 (d := d) h l0 l1 l2 l3 99 s0 s1 hB)
theorem P_M_put {d : Nat} {h h' : pm_H} {r : Int32} {t : Nat} {a1 : Int32} {a2 : Int32} {a3 : Int32} (hB : M_put h t a1 a2 a3 = some (h', r)) : pm_ev (d + 3) 140 [.ref t, .int a1, .int a2, .int a3] h (some (.int r)) h' := by
  unfold M_put at hB
  refine pm_ev_mk (L := [.ref t, .int a1, .int a2, .int a3, pm_J]) pm_m_140 rfl (Nat.le_of_ble_eq_true rfl) rfl ?_
  refine r_aload_nN f140_0 rfl ?_
  refine r_iload_n f140_1 rfl ?_
  replace hB := grd_some hB
  obtain ⟨g3q, hB⟩ := hB
  replace hB := bn2_some hB
  obtain ⟨h1q, x2q, eh1q, hB⟩ := hB
  refine r_virtV (as := [.int a1]) (q := pm_m_112) f140_2 ca_6_197 rfl rfl rfl (cs_len (Nat.le_of_ble_eq_true rfl)) g3q (P_M_isDune (d := d + 0) eh1q) ?_
  by_cases c4q : x2q = 0
  · rw [if_pos c4q] at hB
    refine r_if_f 11 f140_5 (by decide) (fun q => q c4q) ?_
    refine r_bipush f140_8 cb_m5 ?_
    exact r_iret pm_m_140 .int f140_10 rfl rfl rfl (zI hB)
  · rw [if_neg c4q] at hB
    refine r_if_t (t := 11) f140_5 (by decide) c4q ?_
    refine r_iload_n f140_11 rfl ?_
    refine r_iconst f140_12 ci_0 ?_
    refine r_iconst f140_13 ci_2 ?_
    replace hB := bn2_some hB
    obtain ⟨h5q, x6q, eh5q, hB⟩ := hB
    refine r_statV (as := [.int a2, .int 0, .int 2]) (q := pm_m_109) f140_14 ca_6_79 rfl (by decide) rfl rfl (cs_len (Nat.le_of_ble_eq_true rfl)) (P_M_in (d := d + 1) eh5q) ?_
    by_cases c7q : x6q = 0
    · rw [if_pos c7q] at hB
      refine r_if_t (t := 58) f140_17 (by decide) c7q ?_
      refine r_bipush f140_58 cb_m7 ?_
      exact r_iret pm_m_140 .int f140_60 rfl rfl rfl (zI hB)
    · rw [if_neg c7q] at hB
      refine r_if_f 58 f140_17 (by decide) c7q ?_
      refine r_iload_n f140_20 rfl ?_
      refine r_iload_n f140_21 rfl ?_
      refine r_iconst f140_22 ci_1 ?_
      by_cases c8q : a2 = 1
      · rw [if_pos c8q] at hB
        refine r_ic_f 30 f140_23 (by decide) (fun q => q c8q) ?_
        refine r_iconst f140_26 ci_1 ?_
        refine r_goto (t := 31) f140_27 (by decide) ?_
        exact pm_weak (L' := [.ref t, .int a1, .int a2, .int a3, pm_J]) ⟨.inr rfl, .inr rfl, .inr rfl, .inr rfl, .inl rfl, trivial⟩ (P_M_put_31 (d := d) h5q t a1 a2 a3 1 a3 hB)
      · rw [if_neg c8q] at hB
        refine r_ic_t (t := 30) f140_23 (by decide) c8q ?_
        refine r_iconst f140_30 ci_0 ?_
        exact pm_weak (L' := [.ref t, .int a1, .int a2, .int a3, pm_J]) ⟨.inr rfl, .inr rfl, .inr rfl, .inr rfl, .inl rfl, trivial⟩ (P_M_put_31 (d := d) h5q t a1 a2 a3 0 a3 hB)
theorem P_M_walksOf_100 {d : Nat} {h' : pm_H} {r : Int32} (h : pm_H) (l0 : Nat) (l1 : Int32) (l2 : Int32) (hB : M_walksOf_100 h l0 l1 l2 = some (h', r)) : pm_run (pm_ev (d + 4)) 141 100 [.ref l0, .int l1, .int l2, pm_J] [] h (fun r1 h1 => r1 = some (.int r) ∧ h1 = h') := by
  unfold M_walksOf_100 at hB
  refine r_iload_n f141_100 rfl ?_
  refine r_aload_nN f141_101 rfl ?_
  replace hB := bnd_some hB
  obtain ⟨x1q, ex1q, hB⟩ := hB
  refine r_getA f141_102 fa_6_13 ex1q ?_
  refine r_iload_n f141_105 rfl ?_
  replace hB := bnd_some hB
  obtain ⟨u2q, rfl, hB⟩ := hB
  replace hB := bnd_some hB
  obtain ⟨x3q, ex3q, hB⟩ := hB
  refine r_aI f141_106 ex3q ?_
  by_cases c4q : x3q ≤ l2
  · rw [if_pos c4q] at hB
    refine r_ic_t (t := 114) f141_107 (by decide) c4q ?_
    refine r_aload_nN f141_114 rfl ?_
    replace hB := bnd_some hB
    obtain ⟨x5q, ex5q, hB⟩ := hB
    refine r_getA f141_115 fa_6_13 ex5q ?_
    refine r_iload_n f141_118 rfl ?_
    replace hB := bnd_some hB
    obtain ⟨u6q, rfl, hB⟩ := hB
    replace hB := bnd_some hB
    obtain ⟨x7q, ex7q, hB⟩ := hB
    refine r_aI f141_119 ex7q ?_
    exact r_iret pm_m_141 .int f141_120 rfl rfl rfl (zI hB)
  · rw [if_neg c4q] at hB
    refine r_ic_f 114 f141_107 (by decide) c4q ?_
    refine r_iload_n f141_110 rfl ?_
    refine r_goto (t := 120) f141_111 (by decide) ?_
    exact r_iret pm_m_141 .int f141_120 rfl rfl rfl (zI hB)
theorem P_M_walksOf_63 {d : Nat} {h' : pm_H} {r : Int32} (h : pm_H) (l0 : Nat) (l1 : Int32) (l2 : Int32) (s0 : Int32) (hB : M_walksOf_63 h l0 l1 l2 s0 = some (h', r)) : pm_run (pm_ev (d + 4)) 141 63 [.ref l0, .int l1, .int l2, pm_J] [.int s0] h (fun r1 h1 => r1 = some (.int r) ∧ h1 = h') := by
  unfold M_walksOf_63 at hB
  refine r_istore_n (L' := [.ref l0, .int l1, .int l2, .int s0]) (x := s0) f141_63 rfl (Nat.le_of_ble_eq_true rfl) rfl ?_
  refine r_aload_nN f141_64 rfl ?_
  replace hB := bnd_some hB
  obtain ⟨x1q, ex1q, hB⟩ := hB
  refine r_getA f141_65 fa_6_7 ex1q ?_
  refine r_iload_n f141_68 rfl ?_
  replace hB := bnd_some hB
  obtain ⟨u2q, rfl, hB⟩ := hB
  replace hB := bnd_some hB
  obtain ⟨x3q, ex3q, hB⟩ := hB
  refine r_aI f141_69 ex3q ?_
  by_cases c4q : x3q = 1
  · rw [if_pos c4q] at hB
    refine r_tsw (off := 30) (t := 100) f141_70 c4q (by decide) (by decide) (by decide) (by decide) ?_
    exact pm_weak (L' := [.ref l0, .int l1, .int l2, pm_J]) ⟨.inr rfl, .inr rfl, .inr rfl, .inl rfl, trivial⟩ (P_M_walksOf_100 (d := d) h l0 l1 l2 hB)
  rw [if_neg c4q] at hB
  by_cases c5q : x3q = 2
  · rw [if_pos c5q] at hB
    refine r_tsw (off := 51) (t := 121) f141_70 c5q (by decide) (by decide) (by decide) (by decide) ?_
    refine r_iload_n f141_121 rfl ?_
    exact r_iret pm_m_141 .int f141_122 rfl rfl rfl (zI hB)
  rw [if_neg c5q] at hB
  by_cases c6q : x3q = 3
  · rw [if_pos c6q] at hB
    refine r_tsw (off := 30) (t := 100) f141_70 c6q (by decide) (by decide) (by decide) (by decide) ?_
    exact pm_weak (L' := [.ref l0, .int l1, .int l2, pm_J]) ⟨.inr rfl, .inr rfl, .inr rfl, .inl rfl, trivial⟩ (P_M_walksOf_100 (d := d) h l0 l1 l2 hB)
  rw [if_neg c6q] at hB
  by_cases c7q : x3q = 4
  · rw [if_pos c7q] at hB
    refine r_tsw (off := 53) (t := 123) f141_70 c7q (by decide) (by decide) (by decide) (by decide) ?_
    refine r_iconst f141_123 ci_2 ?_
    refine r_iload_n f141_124 rfl ?_
    refine r_imul f141_125 ?_
    exact r_iret pm_m_141 .int f141_126 rfl rfl rfl (zI hB)
  rw [if_neg c7q] at hB
  refine r_tswD (t := 127) f141_70 (sw_out 4 (lt_s (lt_s (lt_s (lt_s (lt_0) (sw_ne c4q (by decide))) (sw_ne c5q (by decide))) (sw_ne c6q (by decide))) (sw_ne c7q (by decide))) (by decide)) (by decide) ?_
  refine r_iload_n f141_127 rfl ?_
  exact r_iret pm_m_141 .int f141_128 rfl rfl rfl (zI hB)
theorem P_M_walksOf_32 {d : Nat} {h' : pm_H} {r : Int32} (h : pm_H) (l0 : Nat) (l1 : Int32) (hB : M_walksOf_32 h l0 l1 = some (h', r)) : pm_run (pm_ev (d + 4)) 141 32 [.ref l0, .int l1, pm_J, pm_J] [] h (fun r1 h1 => r1 = some (.int r) ∧ h1 = h') := by
  unfold M_walksOf_32 at hB
  refine r_aload_nN f141_32 rfl ?_
  refine r_iconst f141_33 ci_0 ?_
  refine r_iload_n f141_34 rfl ?_
  replace hB := grd_some hB
  obtain ⟨g3q, hB⟩ := hB
  replace hB := bn2_some hB
  obtain ⟨h1q, x2q, eh1q, hB⟩ := hB
  refine r_virtV (as := [.int 0, .int l1]) (q := pm_m_137) f141_35 ca_6_200 rfl rfl rfl (cs_len (Nat.le_of_ble_eq_true rfl)) g3q (P_M_asksOf (d := d + 0) eh1q) ?_
  refine r_istore_n (L' := [.ref l0, .int l1, .int x2q, pm_J]) (x := x2q) f141_38 rfl (Nat.le_of_ble_eq_true rfl) rfl ?_
  refine r_aload_nN f141_39 rfl ?_
  replace hB := bnd_some hB
  obtain ⟨x4q, ex4q, hB⟩ := hB
  refine r_getA f141_40 fa_6_16 ex4q ?_
  refine r_iconst f141_43 ci_3 ?_
  refine r_iload_n f141_44 rfl ?_
  refine r_imul f141_45 ?_
  refine r_iconst f141_46 ci_2 ?_
  refine r_iadd f141_47 ?_
  replace hB := bnd_some hB
  obtain ⟨u5q, rfl, hB⟩ := hB
  replace hB := bnd_some hB
  obtain ⟨x6q, ex6q, hB⟩ := hB
  refine r_aI f141_48 ex6q ?_
  refine r_bipush f141_49 cb_50 ?_
  by_cases c7q : x6q ≤ 50
  · rw [if_pos c7q] at hB
    refine r_ic_t (t := 60) f141_51 (by decide) c7q ?_
    refine r_iload_n f141_60 rfl ?_
    refine r_iconst f141_61 ci_1 ?_
    refine r_iadd f141_62 ?_
    exact pm_weak (L' := [.ref l0, .int l1, .int x2q, pm_J]) ⟨.inr rfl, .inr rfl, .inr rfl, .inl rfl, trivial⟩ (P_M_walksOf_63 (d := d) h1q l0 l1 x2q (x2q + 1) hB)
  · rw [if_neg c7q] at hB
    refine r_ic_f 60 f141_51 (by decide) c7q ?_
    refine r_iload_n f141_54 rfl ?_
    refine r_iconst f141_55 ci_2 ?_
    refine r_idiv f141_56 nz_i_2 ?_
    refine r_goto (t := 63) f141_57 (by decide) ?_
    exact pm_weak (L' := [.ref l0, .int l1, .int x2q, pm_J]) ⟨.inr rfl, .inr rfl, .inr rfl, .inl rfl, trivial⟩ (P_M_walksOf_63 (d := d) h1q l0 l1 x2q (x2q / 2) hB)
theorem P_M_walksOf {d : Nat} {h h' : pm_H} {r : Int32} {t : Nat} {a1 : Int32} (hB : M_walksOf h t a1 = some (h', r)) : pm_ev (d + 5) 141 [.ref t, .int a1] h (some (.int r)) h' := by
  unfold M_walksOf at hB
  refine pm_ev_mk (L := [.ref t, .int a1, pm_J, pm_J]) pm_m_141 rfl (Nat.le_of_ble_eq_true rfl) rfl ?_
  refine r_aload_nN f141_0 rfl ?_
  replace hB := bnd_some hB
  obtain ⟨x1q, ex1q, hB⟩ := hB
  refine r_getA f141_1 fa_6_7 ex1q ?_
  refine r_iload_n f141_4 rfl ?_
  replace hB := bnd_some hB
  obtain ⟨u2q, rfl, hB⟩ := hB
  replace hB := bnd_some hB
  obtain ⟨x3q, ex3q, hB⟩ := hB
  refine r_aI f141_5 ex3q ?_
  refine r_iconst f141_6 ci_5 ?_
  by_cases c4q : x3q = 5
  · rw [if_pos c4q] at hB
    refine r_ic_t (t := 30) f141_7 (by decide) c4q ?_
    refine r_iconst f141_30 ci_0 ?_
    exact r_iret pm_m_141 .int f141_31 rfl rfl rfl (zI hB)
  · rw [if_neg c4q] at hB
    refine r_ic_f 30 f141_7 (by decide) c4q ?_
    refine r_aload_nN f141_10 rfl ?_
    replace hB := bnd_some hB
    obtain ⟨x5q, ex5q, hB⟩ := hB
    refine r_getA f141_11 fa_6_7 ex5q ?_
    refine r_iload_n f141_14 rfl ?_
    replace hB := bnd_some hB
    obtain ⟨u6q, rfl, hB⟩ := hB
    replace hB := bnd_some hB
    obtain ⟨x7q, ex7q, hB⟩ := hB
    refine r_aI f141_15 ex7q ?_
    refine r_iconst f141_16 ci_3 ?_
    by_cases c8q : x7q = 3
    · rw [if_pos c8q] at hB
      refine r_ic_f 32 f141_17 (by decide) (fun q => q c8q) ?_
      refine r_aload_nN f141_20 rfl ?_
      replace hB := bnd_some hB
      obtain ⟨x9q, ex9q, hB⟩ := hB
      refine r_getI f141_21 fa_6_105 ex9q ?_
      refine r_iconst f141_24 ci_2 ?_
      refine r_irem f141_25 nz_i_2 ?_
      refine r_iconst f141_26 ci_1 ?_
      by_cases c10q : (x9q - x9q / 2 * 2) = 1
      · rw [if_pos c10q] at hB
        refine r_ic_f 32 f141_27 (by decide) (fun q => q c10q) ?_
        refine r_iconst f141_30 ci_0 ?_
        exact r_iret pm_m_141 .int f141_31 rfl rfl rfl (zI hB)
      · rw [if_neg c10q] at hB
        refine r_ic_t (t := 32) f141_27 (by decide) c10q ?_
        exact pm_weak (L' := [.ref t, .int a1, pm_J, pm_J]) ⟨.inr rfl, .inr rfl, .inl rfl, .inl rfl, trivial⟩ (P_M_walksOf_32 (d := d) h t a1 hB)
    · rw [if_neg c8q] at hB
      refine r_ic_t (t := 32) f141_17 (by decide) c8q ?_
      exact pm_weak (L' := [.ref t, .int a1, pm_J, pm_J]) ⟨.inr rfl, .inr rfl, .inl rfl, .inl rfl, trivial⟩ (P_M_walksOf_32 (d := d) h t a1 hB)
theorem P_M_growsOf_76 {d : Nat} {h' : pm_H} {r : Int32} (h : pm_H) (l2 : Int32) (l3 : Int32) (hB : M_growsOf_76 h l2 l3 = some (h', r)) : pm_run (pm_ev (d + 4)) 142 76 [pm_J, pm_J, .int l2, .int l3] [] h (fun r1 h1 => r1 = some (.int r) ∧ h1 = h') := by
  unfold M_growsOf_76 at hB
  refine r_iload_n f142_76 rfl ?_
  by_cases c1q : l2 = 0
  · rw [if_pos c1q] at hB
    refine r_if_t (t := 86) f142_77 (by decide) c1q ?_
    refine r_iload_n f142_86 rfl ?_
    exact r_iret pm_m_142 .int f142_87 rfl rfl rfl (zI hB)
  · rw [if_neg c1q] at hB
    refine r_if_f 86 f142_77 (by decide) c1q ?_
    refine r_iload_n f142_80 rfl ?_
    refine r_iconst f142_81 ci_2 ?_
    refine r_idiv f142_82 nz_i_2 ?_
    refine r_goto (t := 87) f142_83 (by decide) ?_
    exact r_iret pm_m_142 .int f142_87 rfl rfl rfl (zI hB)
theorem P_M_growsOf {d : Nat} {h h' : pm_H} {r : Int32} {t : Nat} {a1 : Int32} (hB : M_growsOf h t a1 = some (h', r)) : pm_ev (d + 5) 142 [.ref t, .int a1] h (some (.int r)) h' := by
  unfold M_growsOf at hB
  refine pm_ev_mk (L := [.ref t, .int a1, pm_J, pm_J]) pm_m_142 rfl (Nat.le_of_ble_eq_true rfl) rfl ?_
  refine r_aload_nN f142_0 rfl ?_
  refine r_iload_n f142_1 rfl ?_
  replace hB := grd_some hB
  obtain ⟨g3q, hB⟩ := hB
  replace hB := bn2_some hB
  obtain ⟨h1q, x2q, eh1q, hB⟩ := hB
  refine r_virtV (as := [.int a1]) (q := pm_m_116) f142_2 ca_6_191 rfl rfl rfl (cs_len (Nat.le_of_ble_eq_true rfl)) g3q (P_M_isOnClover (d := d + 1) eh1q) ?_
  refine r_istore_n (L' := [.ref t, .int a1, .int x2q, pm_J]) (x := x2q) f142_5 rfl (Nat.le_of_ble_eq_true rfl) rfl ?_
  refine r_aload_nN f142_6 rfl ?_
  replace hB := bnd_some hB
  obtain ⟨x4q, ex4q, hB⟩ := hB
  refine r_getA f142_7 fa_6_7 ex4q ?_
  refine r_iload_n f142_10 rfl ?_
  replace hB := bnd_some hB
  obtain ⟨u5q, rfl, hB⟩ := hB
  replace hB := bnd_some hB
  obtain ⟨x6q, ex6q, hB⟩ := hB
  refine r_aI f142_11 ex6q ?_
  refine r_iconst f142_12 ci_5 ?_
  by_cases c7q : x6q = 5
  · rw [if_pos c7q] at hB
    refine r_ic_f 32 f142_13 (by decide) (fun q => q c7q) ?_
    refine r_iload_n f142_16 rfl ?_
    by_cases c21q : x2q = 0
    · rw [if_pos c21q] at hB
      refine r_if_t (t := 30) f142_17 (by decide) c21q ?_
      refine r_iconst f142_30 ci_0 ?_
      exact r_iret pm_m_142 .int f142_31 rfl rfl rfl (zI hB)
    · rw [if_neg c21q] at hB
      refine r_if_f 30 f142_17 (by decide) c21q ?_
      refine r_aload_nN f142_20 rfl ?_
      replace hB := bnd_some hB
      obtain ⟨x22q, ex22q, hB⟩ := hB
      refine r_getA f142_21 fa_6_13 ex22q ?_
      refine r_iload_n f142_24 rfl ?_
      replace hB := bnd_some hB
      obtain ⟨u23q, rfl, hB⟩ := hB
      replace hB := bnd_some hB
      obtain ⟨x24q, ex24q, hB⟩ := hB
      refine r_aI f142_25 ex24q ?_
      refine r_ineg f142_26 ?_
      refine r_goto (t := 31) f142_27 (by decide) ?_
      exact r_iret pm_m_142 .int f142_31 rfl rfl rfl (zI hB)
  · rw [if_neg c7q] at hB
    refine r_ic_t (t := 32) f142_13 (by decide) c7q ?_
    refine r_aload_nN f142_32 rfl ?_
    refine r_iconst f142_33 ci_1 ?_
    refine r_iload_n f142_34 rfl ?_
    replace hB := grd_some hB
    obtain ⟨g10q, hB⟩ := hB
    replace hB := bn2_some hB
    obtain ⟨h8q, x9q, eh8q, hB⟩ := hB
    refine r_virtV (as := [.int 1, .int a1]) (q := pm_m_137) f142_35 ca_6_200 rfl rfl rfl (cs_len (Nat.le_of_ble_eq_true rfl)) g10q (P_M_asksOf (d := d + 0) eh8q) ?_
    refine r_istore_n (L' := [.ref t, .int a1, .int x2q, .int x9q]) (x := x9q) f142_38 rfl (Nat.le_of_ble_eq_true rfl) rfl ?_
    refine r_aload_nN f142_39 rfl ?_
    replace hB := bnd_some hB
    obtain ⟨x11q, ex11q, hB⟩ := hB
    refine r_getA f142_40 fa_6_7 ex11q ?_
    refine r_iload_n f142_43 rfl ?_
    replace hB := bnd_some hB
    obtain ⟨u12q, rfl, hB⟩ := hB
    replace hB := bnd_some hB
    obtain ⟨x13q, ex13q, hB⟩ := hB
    refine r_aI f142_44 ex13q ?_
    by_cases c14q : x13q = 1
    · rw [if_pos c14q] at hB
      refine r_tsw (off := 31) (t := 76) f142_45 c14q (by decide) (by decide) (by decide) (by decide) ?_
      exact pm_weak (L' := [pm_J, pm_J, .int x2q, .int x9q]) ⟨.inl rfl, .inl rfl, .inr rfl, .inr rfl, trivial⟩ (P_M_growsOf_76 (d := d) h8q x2q x9q hB)
    rw [if_neg c14q] at hB
    by_cases c15q : x13q = 2
    · rw [if_pos c15q] at hB
      refine r_tsw (off := 52) (t := 97) f142_45 c15q (by decide) (by decide) (by decide) (by decide) ?_
      refine r_iload_n f142_97 rfl ?_
      exact r_iret pm_m_142 .int f142_98 rfl rfl rfl (zI hB)
    rw [if_neg c15q] at hB
    by_cases c16q : x13q = 3
    · rw [if_pos c16q] at hB
      refine r_tsw (off := 31) (t := 76) f142_45 c16q (by decide) (by decide) (by decide) (by decide) ?_
      exact pm_weak (L' := [pm_J, pm_J, .int x2q, .int x9q]) ⟨.inl rfl, .inl rfl, .inr rfl, .inr rfl, trivial⟩ (P_M_growsOf_76 (d := d) h8q x2q x9q hB)
    rw [if_neg c16q] at hB
    by_cases c17q : x13q = 4
    · rw [if_pos c17q] at hB
      refine r_tsw (off := 43) (t := 88) f142_45 c17q (by decide) (by decide) (by decide) (by decide) ?_
      refine r_iload_n f142_88 rfl ?_
      refine r_aload_nN f142_89 rfl ?_
      replace hB := bnd_some hB
      obtain ⟨x18q, ex18q, hB⟩ := hB
      refine r_getA f142_90 fa_6_13 ex18q ?_
      refine r_iload_n f142_93 rfl ?_
      replace hB := bnd_some hB
      obtain ⟨u19q, rfl, hB⟩ := hB
      replace hB := bnd_some hB
      obtain ⟨x20q, ex20q, hB⟩ := hB
      refine r_aI f142_94 ex20q ?_
      refine r_isub f142_95 ?_
      exact r_iret pm_m_142 .int f142_96 rfl rfl rfl (zI hB)
    rw [if_neg c17q] at hB
    refine r_tswD (t := 97) f142_45 (sw_out 4 (lt_s (lt_s (lt_s (lt_s (lt_0) (sw_ne c14q (by decide))) (sw_ne c15q (by decide))) (sw_ne c16q (by decide))) (sw_ne c17q (by decide))) (by decide)) (by decide) ?_
    refine r_iload_n f142_97 rfl ?_
    exact r_iret pm_m_142 .int f142_98 rfl rfl rfl (zI hB)
theorem P_M_needsOf_39 {d : Nat} {h' : pm_H} {r : Int32} (h : pm_H) (l0 : Nat) (l1 : Int32) (l2 : Int32) (hB : M_needsOf_39 h l0 l1 l2 = some (h', r)) : pm_run (pm_ev (d + 4)) 143 39 [.ref l0, .int l1, .int l2] [] h (fun r1 h1 => r1 = some (.int r) ∧ h1 = h') := by
  unfold M_needsOf_39 at hB
  refine r_iload_n f143_39 rfl ?_
  refine r_aload_nN f143_40 rfl ?_
  replace hB := bnd_some hB
  obtain ⟨x1q, ex1q, hB⟩ := hB
  refine r_getA f143_41 fa_6_13 ex1q ?_
  refine r_iload_n f143_44 rfl ?_
  replace hB := bnd_some hB
  obtain ⟨u2q, rfl, hB⟩ := hB
  replace hB := bnd_some hB
  obtain ⟨x3q, ex3q, hB⟩ := hB
  refine r_aI f143_45 ex3q ?_
  refine r_iadd f143_46 ?_
  refine r_goto (t := 51) f143_47 (by decide) ?_
  exact r_iret pm_m_143 .int f143_51 rfl rfl rfl (zI hB)
theorem P_M_needsOf {d : Nat} {h h' : pm_H} {r : Int32} {t : Nat} {a1 : Int32} (hB : M_needsOf h t a1 = some (h', r)) : pm_ev (d + 5) 143 [.ref t, .int a1] h (some (.int r)) h' := by
  unfold M_needsOf at hB
  refine pm_ev_mk (L := [.ref t, .int a1, pm_J]) pm_m_143 rfl (Nat.le_of_ble_eq_true rfl) rfl ?_
  refine r_aload_nN f143_0 rfl ?_
  replace hB := bnd_some hB
  obtain ⟨x1q, ex1q, hB⟩ := hB
  refine r_getA f143_1 fa_6_7 ex1q ?_
  refine r_iload_n f143_4 rfl ?_
  replace hB := bnd_some hB
  obtain ⟨u2q, rfl, hB⟩ := hB
  replace hB := bnd_some hB
  obtain ⟨x3q, ex3q, hB⟩ := hB
  refine r_aI f143_5 ex3q ?_
  refine r_iconst f143_6 ci_3 ?_
  by_cases c4q : x3q = 3
  · rw [if_pos c4q] at hB
    refine r_ic_f 12 f143_7 (by decide) (fun q => q c4q) ?_
    refine r_iconst f143_10 ci_0 ?_
    exact r_iret pm_m_143 .int f143_11 rfl rfl rfl (zI hB)
  · rw [if_neg c4q] at hB
    refine r_ic_t (t := 12) f143_7 (by decide) c4q ?_
    refine r_aload_nN f143_12 rfl ?_
    refine r_iconst f143_13 ci_2 ?_
    refine r_iload_n f143_14 rfl ?_
    replace hB := grd_some hB
    obtain ⟨g7q, hB⟩ := hB
    replace hB := bn2_some hB
    obtain ⟨h5q, x6q, eh5q, hB⟩ := hB
    refine r_virtV (as := [.int 2, .int a1]) (q := pm_m_137) f143_15 ca_6_200 rfl rfl rfl (cs_len (Nat.le_of_ble_eq_true rfl)) g7q (P_M_asksOf (d := d + 0) eh5q) ?_
    refine r_istore_n (L' := [.ref t, .int a1, .int x6q]) (x := x6q) f143_18 rfl (Nat.le_of_ble_eq_true rfl) rfl ?_
    refine r_aload_nN f143_19 rfl ?_
    replace hB := bnd_some hB
    obtain ⟨x8q, ex8q, hB⟩ := hB
    refine r_getA f143_20 fa_6_7 ex8q ?_
    refine r_iload_n f143_23 rfl ?_
    replace hB := bnd_some hB
    obtain ⟨u9q, rfl, hB⟩ := hB
    replace hB := bnd_some hB
    obtain ⟨x10q, ex10q, hB⟩ := hB
    refine r_aI f143_24 ex10q ?_
    refine r_iconst f143_25 ci_2 ?_
    by_cases c11q : x10q = 2
    · rw [if_pos c11q] at hB
      refine r_ic_t (t := 39) f143_26 (by decide) c11q ?_
      exact pm_weak (L' := [.ref t, .int a1, .int x6q]) ⟨.inr rfl, .inr rfl, .inr rfl, trivial⟩ (P_M_needsOf_39 (d := d) h5q t a1 x6q hB)
    · rw [if_neg c11q] at hB
      refine r_ic_f 39 f143_26 (by decide) c11q ?_
      refine r_aload_nN f143_29 rfl ?_
      replace hB := bnd_some hB
      obtain ⟨x12q, ex12q, hB⟩ := hB
      refine r_getA f143_30 fa_6_7 ex12q ?_
      refine r_iload_n f143_33 rfl ?_
      replace hB := bnd_some hB
      obtain ⟨u13q, rfl, hB⟩ := hB
      replace hB := bnd_some hB
      obtain ⟨x14q, ex14q, hB⟩ := hB
      refine r_aI f143_34 ex14q ?_
      refine r_iconst f143_35 ci_4 ?_
      by_cases c15q : x14q = 4
      · rw [if_pos c15q] at hB
        refine r_ic_f 50 f143_36 (by decide) (fun q => q c15q) ?_
        exact pm_weak (L' := [.ref t, .int a1, .int x6q]) ⟨.inr rfl, .inr rfl, .inr rfl, trivial⟩ (P_M_needsOf_39 (d := d) h5q t a1 x6q hB)
      · rw [if_neg c15q] at hB
        refine r_ic_t (t := 50) f143_36 (by decide) c15q ?_
        refine r_iload_n f143_50 rfl ?_
        exact r_iret pm_m_143 .int f143_51 rfl rfl rfl (zI hB)
theorem P_M_told_64 {d : Nat} {h' : pm_H} {r : Int32} (h : pm_H) (l0 : Nat) (l1 : Int32) (l2 : Int32) (hB : M_told_64 h l0 l1 l2 = some (h', r)) : pm_run (pm_ev (d + 5)) 144 64 [.ref l0, .int l1, .int l2] [] h (fun r1 h1 => r1 = some (.int r) ∧ h1 = h') := by
  unfold M_told_64 at hB
  refine r_aload_nN f144_64 rfl ?_
  replace hB := bnd_some hB
  obtain ⟨x1q, ex1q, hB⟩ := hB
  refine r_getA f144_65 fa_6_16 ex1q ?_
  refine r_iconst f144_68 ci_3 ?_
  refine r_iload_n f144_69 rfl ?_
  refine r_imul f144_70 ?_
  refine r_iload_n f144_71 rfl ?_
  refine r_iadd f144_72 ?_
  replace hB := bnd_some hB
  obtain ⟨u2q, rfl, hB⟩ := hB
  replace hB := bnd_some hB
  obtain ⟨x3q, ex3q, hB⟩ := hB
  refine r_aI f144_73 ex3q ?_
  exact r_iret pm_m_144 .int f144_74 rfl rfl rfl (zI hB)
theorem P_M_told {d : Nat} {h h' : pm_H} {r : Int32} {t : Nat} {a1 : Int32} {a2 : Int32} (hB : M_told h t a1 a2 = some (h', r)) : pm_ev (d + 6) 144 [.ref t, .int a1, .int a2] h (some (.int r)) h' := by
  unfold M_told at hB
  refine pm_ev_mk (L := [.ref t, .int a1, .int a2]) pm_m_144 rfl (Nat.le_of_ble_eq_true rfl) rfl ?_
  refine r_aload_nN f144_0 rfl ?_
  refine r_iload_n f144_1 rfl ?_
  replace hB := grd_some hB
  obtain ⟨g3q, hB⟩ := hB
  replace hB := bn2_some hB
  obtain ⟨h1q, x2q, eh1q, hB⟩ := hB
  refine r_virtV (as := [.int a1]) (q := pm_m_112) f144_2 ca_6_197 rfl rfl rfl (cs_len (Nat.le_of_ble_eq_true rfl)) g3q (P_M_isDune (d := d + 3) eh1q) ?_
  by_cases c4q : x2q = 0
  · rw [if_pos c4q] at hB
    refine r_if_f 11 f144_5 (by decide) (fun q => q c4q) ?_
    refine r_bipush f144_8 cb_m5 ?_
    exact r_iret pm_m_144 .int f144_10 rfl rfl rfl (zI hB)
  · rw [if_neg c4q] at hB
    refine r_if_t (t := 11) f144_5 (by decide) c4q ?_
    refine r_iload_n f144_11 rfl ?_
    by_cases c5q : a2 = 0
    · rw [if_pos c5q] at hB
      refine r_tsw (off := 52) (t := 64) f144_12 c5q (by decide) (by decide) (by decide) (by decide) ?_
      exact pm_weak (L' := [.ref t, .int a1, .int a2]) ⟨.inr rfl, .inr rfl, .inr rfl, trivial⟩ (P_M_told_64 (d := d) h1q t a1 a2 hB)
    rw [if_neg c5q] at hB
    by_cases c6q : a2 = 1
    · rw [if_pos c6q] at hB
      refine r_tsw (off := 52) (t := 64) f144_12 c6q (by decide) (by decide) (by decide) (by decide) ?_
      exact pm_weak (L' := [.ref t, .int a1, .int a2]) ⟨.inr rfl, .inr rfl, .inr rfl, trivial⟩ (P_M_told_64 (d := d) h1q t a1 a2 hB)
    rw [if_neg c6q] at hB
    by_cases c7q : a2 = 2
    · rw [if_pos c7q] at hB
      refine r_tsw (off := 52) (t := 64) f144_12 c7q (by decide) (by decide) (by decide) (by decide) ?_
      exact pm_weak (L' := [.ref t, .int a1, .int a2]) ⟨.inr rfl, .inr rfl, .inr rfl, trivial⟩ (P_M_told_64 (d := d) h1q t a1 a2 hB)
    rw [if_neg c7q] at hB
    by_cases c8q : a2 = 3
    · rw [if_pos c8q] at hB
      refine r_tsw (off := 63) (t := 75) f144_12 c8q (by decide) (by decide) (by decide) (by decide) ?_
      refine r_aload_nN f144_75 rfl ?_
      replace hB := bnd_some hB
      obtain ⟨x9q, ex9q, hB⟩ := hB
      refine r_getA f144_76 fa_6_7 ex9q ?_
      refine r_iload_n f144_79 rfl ?_
      replace hB := bnd_some hB
      obtain ⟨u10q, rfl, hB⟩ := hB
      replace hB := bnd_some hB
      obtain ⟨x11q, ex11q, hB⟩ := hB
      refine r_aI f144_80 ex11q ?_
      exact r_iret pm_m_144 .int f144_81 rfl rfl rfl (zI hB)
    rw [if_neg c8q] at hB
    by_cases c12q : a2 = 4
    · rw [if_pos c12q] at hB
      refine r_tsw (off := 70) (t := 82) f144_12 c12q (by decide) (by decide) (by decide) (by decide) ?_
      refine r_aload_nN f144_82 rfl ?_
      replace hB := bnd_some hB
      obtain ⟨x13q, ex13q, hB⟩ := hB
      refine r_getA f144_83 fa_6_13 ex13q ?_
      refine r_iload_n f144_86 rfl ?_
      replace hB := bnd_some hB
      obtain ⟨u14q, rfl, hB⟩ := hB
      replace hB := bnd_some hB
      obtain ⟨x15q, ex15q, hB⟩ := hB
      refine r_aI f144_87 ex15q ?_
      exact r_iret pm_m_144 .int f144_88 rfl rfl rfl (zI hB)
    rw [if_neg c12q] at hB
    by_cases c16q : a2 = 5
    · rw [if_pos c16q] at hB
      refine r_tsw (off := 77) (t := 89) f144_12 c16q (by decide) (by decide) (by decide) (by decide) ?_
      refine r_aload_nN f144_89 rfl ?_
      refine r_iload_n f144_90 rfl ?_
      replace hB := grd_some hB
      obtain ⟨g19q, hB⟩ := hB
      replace hB := bn2_some hB
      obtain ⟨h17q, x18q, eh17q, hB⟩ := hB
      refine r_virtV (as := [.int a1]) (q := pm_m_116) f144_91 ca_6_191 rfl rfl rfl (cs_len (Nat.le_of_ble_eq_true rfl)) g19q (P_M_isOnClover (d := d + 2) eh17q) ?_
      by_cases c20q : x18q = 0
      · rw [if_pos c20q] at hB
        refine r_if_t (t := 101) f144_94 (by decide) c20q ?_
        refine r_iconst f144_101 ci_0 ?_
        exact r_iret pm_m_144 .int f144_102 rfl rfl rfl (zI hB)
      · rw [if_neg c20q] at hB
        refine r_if_f 101 f144_94 (by decide) c20q ?_
        refine r_iconst f144_97 ci_1 ?_
        refine r_goto (t := 102) f144_98 (by decide) ?_
        exact r_iret pm_m_144 .int f144_102 rfl rfl rfl (zI hB)
    rw [if_neg c16q] at hB
    by_cases c21q : a2 = 6
    · rw [if_pos c21q] at hB
      refine r_tsw (off := 91) (t := 103) f144_12 c21q (by decide) (by decide) (by decide) (by decide) ?_
      refine r_aload_nN f144_103 rfl ?_
      refine r_iload_n f144_104 rfl ?_
      replace hB := grd_some hB
      obtain ⟨g24q, hB⟩ := hB
      replace hB := bn2_some hB
      obtain ⟨h22q, x23q, eh22q, hB⟩ := hB
      refine r_virtV (as := [.int a1]) (q := pm_m_141) f144_105 ca_6_204 rfl rfl rfl (cs_len (Nat.le_of_ble_eq_true rfl)) g24q (P_M_walksOf (d := d + 0) eh22q) ?_
      exact r_iret pm_m_144 .int f144_108 rfl rfl rfl (zI hB)
    rw [if_neg c21q] at hB
    by_cases c25q : a2 = 7
    · rw [if_pos c25q] at hB
      refine r_tsw (off := 97) (t := 109) f144_12 c25q (by decide) (by decide) (by decide) (by decide) ?_
      refine r_aload_nN f144_109 rfl ?_
      refine r_iload_n f144_110 rfl ?_
      replace hB := grd_some hB
      obtain ⟨g28q, hB⟩ := hB
      replace hB := bn2_some hB
      obtain ⟨h26q, x27q, eh26q, hB⟩ := hB
      refine r_virtV (as := [.int a1]) (q := pm_m_143) f144_111 ca_6_207 rfl rfl rfl (cs_len (Nat.le_of_ble_eq_true rfl)) g28q (P_M_needsOf (d := d + 0) eh26q) ?_
      exact r_iret pm_m_144 .int f144_114 rfl rfl rfl (zI hB)
    rw [if_neg c25q] at hB
    by_cases c29q : a2 = 8
    · rw [if_pos c29q] at hB
      refine r_tsw (off := 103) (t := 115) f144_12 c29q (by decide) (by decide) (by decide) (by decide) ?_
      refine r_aload_nN f144_115 rfl ?_
      refine r_iload_n f144_116 rfl ?_
      replace hB := grd_some hB
      obtain ⟨g32q, hB⟩ := hB
      replace hB := bn2_some hB
      obtain ⟨h30q, x31q, eh30q, hB⟩ := hB
      refine r_virtV (as := [.int a1]) (q := pm_m_114) f144_117 ca_6_90 rfl rfl rfl (cs_len (Nat.le_of_ble_eq_true rfl)) g32q (P_M_lies (d := d + 3) eh30q) ?_
      refine r_aload_nN f144_120 rfl ?_
      replace hB := bnd_some hB
      obtain ⟨x33q, ex33q, hB⟩ := hB
      refine r_getJ f144_121 fa_6_108 ex33q ?_
      refine r_land f144_124 ?_
      replace hB := bn2_some hB
      obtain ⟨h34q, x35q, eh34q, hB⟩ := hB
      refine r_statV (as := [.long (x31q &&& x33q)]) (q := pm_m_113) f144_125 ca_6_101 rfl (by decide) rfl rfl (cs_len (Nat.le_of_ble_eq_true rfl)) (P_M_bitsOf (d := d + 4) eh34q) ?_
      exact r_iret pm_m_144 .int f144_128 rfl rfl rfl (zI hB)
    rw [if_neg c29q] at hB
    refine r_tswD (t := 129) f144_12 (sw_out 9 (lt_s (lt_s (lt_s (lt_s (lt_s (lt_s (lt_s (lt_s (lt_s (lt_0) (sw_ne c5q (by decide))) (sw_ne c6q (by decide))) (sw_ne c7q (by decide))) (sw_ne c8q (by decide))) (sw_ne c12q (by decide))) (sw_ne c16q (by decide))) (sw_ne c21q (by decide))) (sw_ne c25q (by decide))) (sw_ne c29q (by decide))) (by decide)) (by decide) ?_
    refine r_bipush f144_129 cb_m7 ?_
    exact r_iret pm_m_144 .int f144_131 rfl rfl rfl (zI hB)
theorem P_M_grows {d : Nat} {h h' : pm_H} {r : Int32} {t : Nat} {a1 : Int32} (hB : M_grows h t a1 = some (h', r)) : pm_ev (d + 6) 145 [.ref t, .int a1] h (some (.int r)) h' := by
  unfold M_grows at hB
  refine pm_ev_mk (L := [.ref t, .int a1]) pm_m_145 rfl (Nat.le_of_ble_eq_true rfl) rfl ?_
  refine r_aload_nN f145_0 rfl ?_
  refine r_iload_n f145_1 rfl ?_
  replace hB := grd_some hB
  obtain ⟨g3q, hB⟩ := hB
  replace hB := bn2_some hB
  obtain ⟨h1q, x2q, eh1q, hB⟩ := hB
  refine r_virtV (as := [.int a1]) (q := pm_m_112) f145_2 ca_6_197 rfl rfl rfl (cs_len (Nat.le_of_ble_eq_true rfl)) g3q (P_M_isDune (d := d + 3) eh1q) ?_
  by_cases c4q : x2q = 0
  · rw [if_pos c4q] at hB
    refine r_if_t (t := 16) f145_5 (by decide) c4q ?_
    refine r_sipush f145_16 cs_m1000 ?_
    exact r_iret pm_m_145 .int f145_19 rfl rfl rfl (zI hB)
  · rw [if_neg c4q] at hB
    refine r_if_f 16 f145_5 (by decide) c4q ?_
    refine r_aload_nN f145_8 rfl ?_
    refine r_iload_n f145_9 rfl ?_
    replace hB := grd_some hB
    obtain ⟨g7q, hB⟩ := hB
    replace hB := bn2_some hB
    obtain ⟨h5q, x6q, eh5q, hB⟩ := hB
    refine r_virtV (as := [.int a1]) (q := pm_m_142) f145_10 ca_6_210 rfl rfl rfl (cs_len (Nat.le_of_ble_eq_true rfl)) g7q (P_M_growsOf (d := d + 0) eh5q) ?_
    refine r_goto (t := 19) f145_13 (by decide) ?_
    exact r_iret pm_m_145 .int f145_19 rfl rfl rfl (zI hB)
theorem P_M_turnOf_147 {d : Nat} {h' : pm_H} {r : Unit} (k_30 : pm_H → Nat → Int32 → Int32 → Option (pm_H × Unit)) (hk_30 : ∀ (h : pm_H) (l0 : Nat) (l1 : Int32) (l2 : Int32), k_30 h l0 l1 l2 = some (h', r) → pm_run (pm_ev (d + 5)) 146 30 [.ref l0, .int l1, .int l2, pm_J] [] h (fun r1 h1 => r1 = none ∧ h1 = h')) (h : pm_H) (l0 : Nat) (l1 : Int32) (l2 : Int32) (hB : M_turnOf_147 k_30 h l0 l1 l2 = some (h', r)) : pm_run (pm_ev (d + 5)) 146 147 [.ref l0, .int l1, .int l2, pm_J] [] h (fun r1 h1 => r1 = none ∧ h1 = h') := by
  unfold M_turnOf_147 at hB
  obtain ⟨y1q, hy1q⟩ : ∃ z, z = l2 + 1 := ⟨_, rfl⟩
  replace hB := nmd_at hy1q hB
  refine r_iinc (L' := [.ref l0, .int l1, .int y1q, pm_J]) (x := y1q) f146_147 rfl (hy1q.trans (congrArg (l2 + ·) ci_1.symm)) rfl ?_
  refine r_goto (t := 30) f146_150 (by decide) ?_
  exact pm_weak (L' := [.ref l0, .int l1, .int y1q, pm_J]) ⟨.inr rfl, .inr rfl, .inr rfl, .inl rfl, trivial⟩ (hk_30 h l0 l1 y1q hB)
theorem P_M_turnOf_57 {d : Nat} {h' : pm_H} {r : Unit} (k_30 : pm_H → Nat → Int32 → Int32 → Option (pm_H × Unit)) (hk_30 : ∀ (h : pm_H) (l0 : Nat) (l1 : Int32) (l2 : Int32), k_30 h l0 l1 l2 = some (h', r) → pm_run (pm_ev (d + 5)) 146 30 [.ref l0, .int l1, .int l2, pm_J] [] h (fun r1 h1 => r1 = none ∧ h1 = h')) (h : pm_H) (l0 : Nat) (l1 : Int32) (l2 : Int32) (s0 : Int32) (hB : M_turnOf_57 k_30 h l0 l1 l2 s0 = some (h', r)) : pm_run (pm_ev (d + 5)) 146 57 [.ref l0, .int l1, .int l2, pm_J] [.int s0] h (fun r1 h1 => r1 = none ∧ h1 = h') := by
  unfold M_turnOf_57 at hB
  refine r_istore_n (L' := [.ref l0, .int l1, .int l2, .int s0]) (x := s0) f146_57 rfl (Nat.le_of_ble_eq_true rfl) rfl ?_
  refine r_iload_n f146_58 rfl ?_
  by_cases c1q : s0 = 0
  · rw [if_pos c1q] at hB
    refine r_if_t (t := 147) f146_59 (by decide) c1q ?_
    exact pm_weak (L' := [.ref l0, .int l1, .int l2, pm_J]) ⟨.inr rfl, .inr rfl, .inr rfl, .inl rfl, trivial⟩ (P_M_turnOf_147 (d := d) k_30 hk_30 h l0 l1 l2 hB)
  · rw [if_neg c1q] at hB
    refine r_if_f 147 f146_59 (by decide) c1q ?_
    refine r_aload_nN f146_62 rfl ?_
    refine r_iload_n f146_63 rfl ?_
    replace hB := grd_some hB
    obtain ⟨g4q, hB⟩ := hB
    replace hB := bn2_some hB
    obtain ⟨h2q, x3q, eh2q, hB⟩ := hB
    refine r_virtV (as := [.int l2]) (q := pm_m_114) f146_64 ca_6_90 rfl rfl rfl (cs_len (Nat.le_of_ble_eq_true rfl)) g4q (P_M_lies (d := d + 3) eh2q) ?_
    refine r_aload_nN f146_67 rfl ?_
    refine r_iload_n f146_68 rfl ?_
    replace hB := grd_some hB
    obtain ⟨g7q, hB⟩ := hB
    replace hB := bn2_some hB
    obtain ⟨h5q, x6q, eh5q, hB⟩ := hB
    refine r_virtV (as := [.int l1]) (q := pm_m_114) f146_69 ca_6_90 rfl rfl rfl (cs_len (Nat.le_of_ble_eq_true rfl)) g7q (P_M_lies (d := d + 3) eh5q) ?_
    refine r_land f146_72 ?_
    refine r_lconst f146_73 cl_0 ?_
    refine r_lcmp f146_74 ?_
    by_cases c8q : (lg_cmp (x3q &&& x6q) 0) = 0
    · rw [if_pos c8q] at hB
      refine r_if_t (t := 147) f146_75 (by decide) c8q ?_
      exact pm_weak (L' := [.ref l0, .int l1, .int l2, pm_J]) ⟨.inr rfl, .inr rfl, .inr rfl, .inl rfl, trivial⟩ (P_M_turnOf_147 (d := d) k_30 hk_30 h5q l0 l1 l2 hB)
    · rw [if_neg c8q] at hB
      refine r_if_f 147 f146_75 (by decide) c8q ?_
      refine r_aload_nN f146_78 rfl ?_
      replace hB := bnd_some hB
      obtain ⟨x9q, ex9q, hB⟩ := hB
      refine r_getA f146_79 fa_6_16 ex9q ?_
      refine r_iconst f146_82 ci_3 ?_
      refine r_iload_n f146_83 rfl ?_
      refine r_imul f146_84 ?_
      refine r_iconst f146_85 ci_2 ?_
      refine r_iadd f146_86 ?_
      replace hB := bnd_some hB
      obtain ⟨u10q, rfl, hB⟩ := hB
      replace hB := bnd_some hB
      obtain ⟨x11q, ex11q, hB⟩ := hB
      refine r_aI f146_87 ex11q ?_
      refine r_aload_nN f146_88 rfl ?_
      replace hB := bnd_some hB
      obtain ⟨x12q, ex12q, hB⟩ := hB
      refine r_getA f146_89 fa_6_16 ex12q ?_
      refine r_iconst f146_92 ci_3 ?_
      refine r_iload_n f146_93 rfl ?_
      refine r_imul f146_94 ?_
      refine r_iconst f146_95 ci_2 ?_
      refine r_iadd f146_96 ?_
      replace hB := bnd_some hB
      obtain ⟨u13q, rfl, hB⟩ := hB
      replace hB := bnd_some hB
      obtain ⟨x14q, ex14q, hB⟩ := hB
      refine r_aI f146_97 ex14q ?_
      by_cases c15q : x14q < x11q
      · rw [if_pos c15q] at hB
        refine r_ic_t (t := 147) f146_98 (by decide) c15q ?_
        exact pm_weak (L' := [.ref l0, .int l1, .int l2, pm_J]) ⟨.inr rfl, .inr rfl, .inr rfl, .inl rfl, trivial⟩ (P_M_turnOf_147 (d := d) k_30 hk_30 h5q l0 l1 l2 hB)
      · rw [if_neg c15q] at hB
        refine r_ic_f 147 f146_98 (by decide) c15q ?_
        refine r_aload_nN f146_101 rfl ?_
        replace hB := bnd_some hB
        obtain ⟨x16q, ex16q, hB⟩ := hB
        refine r_getA f146_102 fa_6_19 ex16q ?_
        refine r_iload_n f146_105 rfl ?_
        refine r_iconst f146_106 ci_1 ?_
        replace hB := bnd_some hB
        obtain ⟨u17q, rfl, hB⟩ := hB
        replace hB := bnd_some hB
        obtain ⟨h18q, eh18q, hB⟩ := hB
        refine r_sI f146_107 eh18q ?_
        refine r_aload_nN f146_108 rfl ?_
        replace hB := bnd_some hB
        obtain ⟨x19q, ex19q, hB⟩ := hB
        refine r_getA f146_109 fa_6_16 ex19q ?_
        refine r_iconst f146_112 ci_3 ?_
        refine r_iload_n f146_113 rfl ?_
        refine r_imul f146_114 ?_
        refine r_iconst f146_115 ci_2 ?_
        refine r_iadd f146_116 ?_
        refine r_aload_nN f146_117 rfl ?_
        replace hB := bnd_some hB
        obtain ⟨x20q, ex20q, hB⟩ := hB
        refine r_getA f146_118 fa_6_16 ex20q ?_
        refine r_iconst f146_121 ci_3 ?_
        refine r_iload_n f146_122 rfl ?_
        refine r_imul f146_123 ?_
        refine r_iconst f146_124 ci_2 ?_
        refine r_iadd f146_125 ?_
        replace hB := bnd_some hB
        obtain ⟨u21q, rfl, hB⟩ := hB
        replace hB := bnd_some hB
        obtain ⟨x22q, ex22q, hB⟩ := hB
        refine r_aI f146_126 ex22q ?_
        refine r_aload_nN f146_127 rfl ?_
        replace hB := bnd_some hB
        obtain ⟨x23q, ex23q, hB⟩ := hB
        refine r_getA f146_128 fa_6_16 ex23q ?_
        refine r_iconst f146_131 ci_3 ?_
        refine r_iload_n f146_132 rfl ?_
        refine r_imul f146_133 ?_
        refine r_iconst f146_134 ci_2 ?_
        refine r_iadd f146_135 ?_
        replace hB := bnd_some hB
        obtain ⟨u24q, rfl, hB⟩ := hB
        replace hB := bnd_some hB
        obtain ⟨x25q, ex25q, hB⟩ := hB
        refine r_aI f146_136 ex25q ?_
        refine r_iconst f146_137 ci_2 ?_
        refine r_idiv f146_138 nz_i_2 ?_
        refine r_iadd f146_139 ?_
        refine r_iconst f146_140 ci_0 ?_
        refine r_bipush f146_141 cb_99 ?_
        replace hB := bn2_some hB
        obtain ⟨h26q, x27q, eh26q, hB⟩ := hB
        refine r_statV (as := [.int (x22q + (x25q / 2)), .int 0, .int 99]) (q := pm_m_110) f146_143 ca_6_86 rfl (by decide) rfl rfl (cs_len (Nat.le_of_ble_eq_true rfl)) (P_M_within (d := d + 4) eh26q) ?_
        replace hB := bnd_some hB
        obtain ⟨u28q, rfl, hB⟩ := hB
        replace hB := bnd_some hB
        obtain ⟨h29q, eh29q, hB⟩ := hB
        refine r_sI f146_146 eh29q ?_
        exact pm_weak (L' := [.ref l0, .int l1, .int l2, pm_J]) ⟨.inr rfl, .inr rfl, .inr rfl, .inl rfl, trivial⟩ (P_M_turnOf_147 (d := d) k_30 hk_30 h29q l0 l1 l2 hB)
theorem P_M_turnOf_56 {d : Nat} {h' : pm_H} {r : Unit} (k_30 : pm_H → Nat → Int32 → Int32 → Option (pm_H × Unit)) (hk_30 : ∀ (h : pm_H) (l0 : Nat) (l1 : Int32) (l2 : Int32), k_30 h l0 l1 l2 = some (h', r) → pm_run (pm_ev (d + 5)) 146 30 [.ref l0, .int l1, .int l2, pm_J] [] h (fun r1 h1 => r1 = none ∧ h1 = h')) (h : pm_H) (l0 : Nat) (l1 : Int32) (l2 : Int32) (hB : M_turnOf_56 k_30 h l0 l1 l2 = some (h', r)) : pm_run (pm_ev (d + 5)) 146 56 [.ref l0, .int l1, .int l2, pm_J] [] h (fun r1 h1 => r1 = none ∧ h1 = h') := by
  unfold M_turnOf_56 at hB
  refine r_iconst f146_56 ci_0 ?_
  exact pm_weak (L' := [.ref l0, .int l1, .int l2, pm_J]) ⟨.inr rfl, .inr rfl, .inr rfl, .inl rfl, trivial⟩ (P_M_turnOf_57 (d := d) k_30 hk_30 h l0 l1 l2 0 hB)
theorem P_M_turnOf_30 {d : Nat} {h' : pm_H} {r : Unit} (n : Nat) : ∀ (h : pm_H) (l0 : Nat) (l1 : Int32) (l2 : Int32), M_turnOf_30 n h l0 l1 l2 = some (h', r) → pm_run (pm_ev (d + 5)) 146 30 [.ref l0, .int l1, .int l2, pm_J] [] h (fun r1 h1 => r1 = none ∧ h1 = h') := by
  induction n with
  | zero => intro h l0 l1 l2 hB; cases hB
  | succ n ih =>
    intro h l0 l1 l2 hB
    unfold M_turnOf_30 at hB
    refine r_iload_n f146_30 rfl ?_
    refine r_aload_nN f146_31 rfl ?_
    replace hB := bnd_some hB
    obtain ⟨x1q, ex1q, hB⟩ := hB
    refine r_getI f146_32 fa_6_83 ex1q ?_
    by_cases c2q : x1q ≤ l2
    · rw [if_pos c2q] at hB
      refine r_ic_t (t := 153) f146_35 (by decide) c2q ?_
      refine r_aload_nN f146_153 rfl ?_
      replace hB := bnd_some hB
      obtain ⟨x3q, ex3q, hB⟩ := hB
      refine r_getA f146_154 fa_6_16 ex3q ?_
      refine r_iconst f146_157 ci_3 ?_
      refine r_iload_n f146_158 rfl ?_
      refine r_imul f146_159 ?_
      refine r_iconst f146_160 ci_2 ?_
      refine r_iadd f146_161 ?_
      refine r_aload_nN f146_162 rfl ?_
      replace hB := bnd_some hB
      obtain ⟨x4q, ex4q, hB⟩ := hB
      refine r_getA f146_163 fa_6_16 ex4q ?_
      refine r_iconst f146_166 ci_3 ?_
      refine r_iload_n f146_167 rfl ?_
      refine r_imul f146_168 ?_
      refine r_iconst f146_169 ci_2 ?_
      refine r_iadd f146_170 ?_
      replace hB := bnd_some hB
      obtain ⟨u5q, rfl, hB⟩ := hB
      replace hB := bnd_some hB
      obtain ⟨x6q, ex6q, hB⟩ := hB
      refine r_aI f146_171 ex6q ?_
      refine r_aload_nN f146_172 rfl ?_
      refine r_iload_n f146_173 rfl ?_
      replace hB := grd_some hB
      obtain ⟨g9q, hB⟩ := hB
      replace hB := bn2_some hB
      obtain ⟨h7q, x8q, eh7q, hB⟩ := hB
      refine r_virtV (as := [.int l1]) (q := pm_m_142) f146_174 ca_6_210 rfl rfl rfl (cs_len (Nat.le_of_ble_eq_true rfl)) g9q (P_M_growsOf (d := d + 0) eh7q) ?_
      refine r_iadd f146_177 ?_
      refine r_iconst f146_178 ci_0 ?_
      refine r_bipush f146_179 cb_99 ?_
      replace hB := bn2_some hB
      obtain ⟨h10q, x11q, eh10q, hB⟩ := hB
      refine r_statV (as := [.int (x6q + x8q), .int 0, .int 99]) (q := pm_m_110) f146_181 ca_6_86 rfl (by decide) rfl rfl (cs_len (Nat.le_of_ble_eq_true rfl)) (P_M_within (d := d + 4) eh10q) ?_
      replace hB := bnd_some hB
      obtain ⟨u12q, rfl, hB⟩ := hB
      replace hB := bnd_some hB
      obtain ⟨h13q, eh13q, hB⟩ := hB
      refine r_sI f146_184 eh13q ?_
      refine r_aload_nN f146_185 rfl ?_
      replace hB := bnd_some hB
      obtain ⟨x14q, ex14q, hB⟩ := hB
      refine r_getA f146_186 fa_6_16 ex14q ?_
      refine r_iconst f146_189 ci_3 ?_
      refine r_iload_n f146_190 rfl ?_
      refine r_imul f146_191 ?_
      refine r_iconst f146_192 ci_2 ?_
      refine r_iadd f146_193 ?_
      replace hB := bnd_some hB
      obtain ⟨u15q, rfl, hB⟩ := hB
      replace hB := bnd_some hB
      obtain ⟨x16q, ex16q, hB⟩ := hB
      refine r_aI f146_194 ex16q ?_
      refine r_aload_nN f146_195 rfl ?_
      refine r_iload_n f146_196 rfl ?_
      replace hB := grd_some hB
      obtain ⟨g19q, hB⟩ := hB
      replace hB := bn2_some hB
      obtain ⟨h17q, x18q, eh17q, hB⟩ := hB
      refine r_virtV (as := [.int l1]) (q := pm_m_143) f146_197 ca_6_207 rfl rfl rfl (cs_len (Nat.le_of_ble_eq_true rfl)) g19q (P_M_needsOf (d := d + 0) eh17q) ?_
      by_cases c20q : x18q ≤ x16q
      · rw [if_pos c20q] at hB
        refine r_ic_t (t := 210) f146_200 (by decide) c20q ?_
        exact r_vret pm_m_146 f146_210 rfl rfl (zV hB)
      · rw [if_neg c20q] at hB
        refine r_ic_f 210 f146_200 (by decide) c20q ?_
        refine r_aload_nN f146_203 rfl ?_
        replace hB := bnd_some hB
        obtain ⟨x21q, ex21q, hB⟩ := hB
        refine r_getA f146_204 fa_6_19 ex21q ?_
        refine r_iload_n f146_207 rfl ?_
        refine r_iconst f146_208 ci_1 ?_
        replace hB := bnd_some hB
        obtain ⟨u22q, rfl, hB⟩ := hB
        replace hB := bnd_some hB
        obtain ⟨h23q, eh23q, hB⟩ := hB
        refine r_sI f146_209 eh23q ?_
        exact r_vret pm_m_146 f146_210 rfl rfl (zV hB)
    · rw [if_neg c2q] at hB
      refine r_ic_f 153 f146_35 (by decide) c2q ?_
      refine r_iload_n f146_38 rfl ?_
      refine r_iload_n f146_39 rfl ?_
      by_cases c24q : l2 = l1
      · rw [if_pos c24q] at hB
        refine r_ic_t (t := 56) f146_40 (by decide) c24q ?_
        exact pm_weak (L' := [.ref l0, .int l1, .int l2, pm_J]) ⟨.inr rfl, .inr rfl, .inr rfl, .inl rfl, trivial⟩ (P_M_turnOf_56 (d := d) (M_turnOf_30 n) ih h l0 l1 l2 hB)
      · rw [if_neg c24q] at hB
        refine r_ic_f 56 f146_40 (by decide) c24q ?_
        refine r_aload_nN f146_43 rfl ?_
        replace hB := bnd_some hB
        obtain ⟨x25q, ex25q, hB⟩ := hB
        refine r_getA f146_44 fa_6_19 ex25q ?_
        refine r_iload_n f146_47 rfl ?_
        replace hB := bnd_some hB
        obtain ⟨u26q, rfl, hB⟩ := hB
        replace hB := bnd_some hB
        obtain ⟨x27q, ex27q, hB⟩ := hB
        refine r_aI f146_48 ex27q ?_
        by_cases c28q : x27q = 0
        · rw [if_pos c28q] at hB
          refine r_if_f 56 f146_49 (by decide) (fun q => q c28q) ?_
          refine r_iconst f146_52 ci_1 ?_
          refine r_goto (t := 57) f146_53 (by decide) ?_
          exact pm_weak (L' := [.ref l0, .int l1, .int l2, pm_J]) ⟨.inr rfl, .inr rfl, .inr rfl, .inl rfl, trivial⟩ (P_M_turnOf_57 (d := d) (M_turnOf_30 n) ih h l0 l1 l2 1 hB)
        · rw [if_neg c28q] at hB
          refine r_if_t (t := 56) f146_49 (by decide) c28q ?_
          exact pm_weak (L' := [.ref l0, .int l1, .int l2, pm_J]) ⟨.inr rfl, .inr rfl, .inr rfl, .inl rfl, trivial⟩ (P_M_turnOf_56 (d := d) (M_turnOf_30 n) ih h l0 l1 l2 hB)
theorem P_M_turnOf {d : Nat} {h h' : pm_H} {r : Unit} {t : Nat} {a1 : Int32} (hB : M_turnOf h t a1 = some (h', r)) : pm_ev (d + 6) 146 [.ref t, .int a1] h none h' := by
  unfold M_turnOf at hB
  refine pm_ev_mk (L := [.ref t, .int a1, pm_J, pm_J]) pm_m_146 rfl (Nat.le_of_ble_eq_true rfl) rfl ?_
  refine r_aload_nN f146_0 rfl ?_
  replace hB := bnd_some hB
  obtain ⟨x1q, ex1q, hB⟩ := hB
  refine r_getA f146_1 fa_6_16 ex1q ?_
  refine r_iconst f146_4 ci_3 ?_
  refine r_iload_n f146_5 rfl ?_
  refine r_imul f146_6 ?_
  refine r_aload_nN f146_7 rfl ?_
  replace hB := bnd_some hB
  obtain ⟨x2q, ex2q, hB⟩ := hB
  refine r_getA f146_8 fa_6_16 ex2q ?_
  refine r_iconst f146_11 ci_3 ?_
  refine r_iload_n f146_12 rfl ?_
  refine r_imul f146_13 ?_
  replace hB := bnd_some hB
  obtain ⟨u3q, rfl, hB⟩ := hB
  replace hB := bnd_some hB
  obtain ⟨x4q, ex4q, hB⟩ := hB
  refine r_aI f146_14 ex4q ?_
  refine r_aload_nN f146_15 rfl ?_
  refine r_iload_n f146_16 rfl ?_
  replace hB := grd_some hB
  obtain ⟨g7q, hB⟩ := hB
  replace hB := bn2_some hB
  obtain ⟨h5q, x6q, eh5q, hB⟩ := hB
  refine r_virtV (as := [.int a1]) (q := pm_m_141) f146_17 ca_6_204 rfl rfl rfl (cs_len (Nat.le_of_ble_eq_true rfl)) g7q (P_M_walksOf (d := d + 0) eh5q) ?_
  refine r_iadd f146_20 ?_
  refine r_iconst f146_21 ci_0 ?_
  refine r_bipush f146_22 cb_39 ?_
  replace hB := bn2_some hB
  obtain ⟨h8q, x9q, eh8q, hB⟩ := hB
  refine r_statV (as := [.int (x4q + x6q), .int 0, .int 39]) (q := pm_m_110) f146_24 ca_6_86 rfl (by decide) rfl rfl (cs_len (Nat.le_of_ble_eq_true rfl)) (P_M_within (d := d + 4) eh8q) ?_
  replace hB := bnd_some hB
  obtain ⟨u10q, rfl, hB⟩ := hB
  replace hB := bnd_some hB
  obtain ⟨h11q, eh11q, hB⟩ := hB
  refine r_sI f146_27 eh11q ?_
  refine r_iconst f146_28 ci_0 ?_
  refine r_istore_n (L' := [.ref t, .int a1, .int 0, pm_J]) (x := 0) f146_29 rfl (Nat.le_of_ble_eq_true rfl) rfl ?_
  exact pm_weak (L' := [.ref t, .int a1, .int 0, pm_J]) ⟨.inr rfl, .inr rfl, .inr rfl, .inl rfl, trivial⟩ (P_M_turnOf_30 (d := d) 1000 h11q t a1 0 hB)
theorem P_M_yearOf_29 {d : Nat} {h' : pm_H} {r : Int32} (k_7 : pm_H → Nat → Int32 → Int32 → Option (pm_H × Int32)) (hk_7 : ∀ (h : pm_H) (l0 : Nat) (l1 : Int32) (l2 : Int32), k_7 h l0 l1 l2 = some (h', r) → pm_run (pm_ev (d + 6)) 147 7 [.ref l0, .int l1, .int l2] [] h (fun r1 h1 => r1 = some (.int r) ∧ h1 = h')) (h : pm_H) (l0 : Nat) (l1 : Int32) (l2 : Int32) (hB : M_yearOf_29 k_7 h l0 l1 l2 = some (h', r)) : pm_run (pm_ev (d + 6)) 147 29 [.ref l0, .int l1, .int l2] [] h (fun r1 h1 => r1 = some (.int r) ∧ h1 = h') := by
  unfold M_yearOf_29 at hB
  obtain ⟨y1q, hy1q⟩ : ∃ z, z = l2 + 1 := ⟨_, rfl⟩
  replace hB := nmd_at hy1q hB
  refine r_iinc (L' := [.ref l0, .int l1, .int y1q]) (x := y1q) f147_29 rfl (hy1q.trans (congrArg (l2 + ·) ci_1.symm)) rfl ?_
  refine r_goto (t := 7) f147_32 (by decide) ?_
  exact pm_weak (L' := [.ref l0, .int l1, .int y1q]) ⟨.inr rfl, .inr rfl, .inr rfl, trivial⟩ (hk_7 h l0 l1 y1q hB)
theorem P_M_yearOf_7 {d : Nat} {h' : pm_H} {r : Int32} (n : Nat) : ∀ (h : pm_H) (l0 : Nat) (l1 : Int32) (l2 : Int32), M_yearOf_7 n h l0 l1 l2 = some (h', r) → pm_run (pm_ev (d + 6)) 147 7 [.ref l0, .int l1, .int l2] [] h (fun r1 h1 => r1 = some (.int r) ∧ h1 = h') := by
  induction n with
  | zero => intro h l0 l1 l2 hB; cases hB
  | succ n ih =>
    intro h l0 l1 l2 hB
    unfold M_yearOf_7 at hB
    refine r_iload_n f147_7 rfl ?_
    refine r_aload_nN f147_8 rfl ?_
    replace hB := bnd_some hB
    obtain ⟨x1q, ex1q, hB⟩ := hB
    refine r_getI f147_9 fa_6_83 ex1q ?_
    by_cases c2q : x1q ≤ l2
    · rw [if_pos c2q] at hB
      refine r_ic_t (t := 35) f147_12 (by decide) c2q ?_
      refine r_aload_nN f147_35 rfl ?_
      refine r_dupN f147_36 ?_
      replace hB := bnd_some hB
      obtain ⟨x3q, ex3q, hB⟩ := hB
      refine r_getI f147_37 fa_6_105 ex3q ?_
      refine r_iconst f147_40 ci_1 ?_
      refine r_iadd f147_41 ?_
      replace hB := bnd_some hB
      obtain ⟨h4q, eh4q, hB⟩ := hB
      refine r_put f147_42 fa_6_105 ty_6_7 rfl rfl (no_fin (nf_6_7)) eh4q ?_
      refine r_iload_n f147_45 rfl ?_
      refine r_aload_nN f147_46 rfl ?_
      replace hB := grd_some hB
      obtain ⟨g7q, hB⟩ := hB
      replace hB := bn2_some hB
      obtain ⟨h5q, x6q, eh5q, hB⟩ := hB
      refine r_virtV (as := []) (q := pm_m_117) f147_47 ca_6_98 rfl rfl rfl (cs_len (Nat.le_of_ble_eq_true rfl)) g7q (P_M_there (d := d + 5) eh5q) ?_
      refine r_iconst f147_50 ci_m1 ?_
      refine r_ixor f147_51 ?_
      refine r_iand f147_52 ?_
      exact r_iret pm_m_147 .int f147_53 rfl rfl rfl (zI hB)
    · rw [if_neg c2q] at hB
      refine r_ic_f 35 f147_12 (by decide) c2q ?_
      refine r_aload_nN f147_15 rfl ?_
      replace hB := bnd_some hB
      obtain ⟨x8q, ex8q, hB⟩ := hB
      refine r_getA f147_16 fa_6_19 ex8q ?_
      refine r_iload_n f147_19 rfl ?_
      replace hB := bnd_some hB
      obtain ⟨u9q, rfl, hB⟩ := hB
      replace hB := bnd_some hB
      obtain ⟨x10q, ex10q, hB⟩ := hB
      refine r_aI f147_20 ex10q ?_
      by_cases c11q : x10q = 0
      · rw [if_pos c11q] at hB
        refine r_if_f 29 f147_21 (by decide) (fun q => q c11q) ?_
        refine r_aload_nN f147_24 rfl ?_
        refine r_iload_n f147_25 rfl ?_
        replace hB := grd_some hB
        obtain ⟨g14q, hB⟩ := hB
        replace hB := bn2_some hB
        obtain ⟨h12q, _, eh12q, hB⟩ := hB
        refine r_virtN (as := [.int l2]) (q := pm_m_146) f147_26 ca_6_213 rfl rfl rfl (cs_len (Nat.le_of_ble_eq_true rfl)) g14q (P_M_turnOf (d := d + 0) eh12q) ?_
        exact pm_weak (L' := [.ref l0, .int l1, .int l2]) ⟨.inr rfl, .inr rfl, .inr rfl, trivial⟩ (P_M_yearOf_29 (d := d) (M_yearOf_7 n) ih h12q l0 l1 l2 hB)
      · rw [if_neg c11q] at hB
        refine r_if_t (t := 29) f147_21 (by decide) c11q ?_
        exact pm_weak (L' := [.ref l0, .int l1, .int l2]) ⟨.inr rfl, .inr rfl, .inr rfl, trivial⟩ (P_M_yearOf_29 (d := d) (M_yearOf_7 n) ih h l0 l1 l2 hB)
theorem P_M_yearOf {d : Nat} {h h' : pm_H} {r : Int32} {t : Nat} (hB : M_yearOf h t = some (h', r)) : pm_ev (d + 7) 147 [.ref t] h (some (.int r)) h' := by
  unfold M_yearOf at hB
  refine pm_ev_mk (L := [.ref t, pm_J, pm_J]) pm_m_147 rfl (Nat.le_of_ble_eq_true rfl) rfl ?_
  refine r_aload_nN f147_0 rfl ?_
  replace hB := grd_some hB
  obtain ⟨g3q, hB⟩ := hB
  replace hB := bn2_some hB
  obtain ⟨h1q, x2q, eh1q, hB⟩ := hB
  refine r_virtV (as := []) (q := pm_m_117) f147_1 ca_6_98 rfl rfl rfl (cs_len (Nat.le_of_ble_eq_true rfl)) g3q (P_M_there (d := d + 5) eh1q) ?_
  refine r_istore_n (L' := [.ref t, .int x2q, pm_J]) (x := x2q) f147_4 rfl (Nat.le_of_ble_eq_true rfl) rfl ?_
  refine r_iconst f147_5 ci_0 ?_
  refine r_istore_n (L' := [.ref t, .int x2q, .int 0]) (x := 0) f147_6 rfl (Nat.le_of_ble_eq_true rfl) rfl ?_
  exact pm_weak (L' := [.ref t, .int x2q, .int 0]) ⟨.inr rfl, .inr rfl, .inr rfl, trivial⟩ (P_M_yearOf_7 (d := d) 1000 h1q t x2q 0 hB)
theorem P_M_year {d : Nat} {h h' : pm_H} {r : Int32} {t : Nat} (hB : M_year h t = some (h', r)) : pm_ev (d + 8) 148 [.ref t] h (some (.int r)) h' := by
  unfold M_year at hB
  refine pm_ev_mk (L := [.ref t]) pm_m_148 rfl (Nat.le_of_ble_eq_true rfl) rfl ?_
  refine r_aload_nN f148_0 rfl ?_
  replace hB := bnd_some hB
  obtain ⟨x1q, ex1q, hB⟩ := hB
  refine r_getI f148_1 fa_6_105 ex1q ?_
  refine r_sipush f148_4 cs_999 ?_
  by_cases c2q : x1q = 999
  · rw [if_pos c2q] at hB
    refine r_ic_f 15 f148_7 (by decide) (fun q => q c2q) ?_
    refine r_bipush f148_10 cb_m3 ?_
    refine r_goto (t := 19) f148_12 (by decide) ?_
    exact r_iret pm_m_148 .int f148_19 rfl rfl rfl (zI hB)
  · rw [if_neg c2q] at hB
    refine r_ic_t (t := 15) f148_7 (by decide) c2q ?_
    refine r_aload_nN f148_15 rfl ?_
    replace hB := grd_some hB
    obtain ⟨g5q, hB⟩ := hB
    replace hB := bn2_some hB
    obtain ⟨h3q, x4q, eh3q, hB⟩ := hB
    refine r_virtV (as := []) (q := pm_m_147) f148_16 ca_6_216 rfl rfl rfl (cs_len (Nat.le_of_ble_eq_true rfl)) g5q (P_M_yearOf (d := d + 0) eh3q) ?_
    exact r_iret pm_m_148 .int f148_19 rfl rfl rfl (zI hB)
theorem P_M_keeps_28 {d : Nat} {h' : pm_H} {r : Unit} (n : Nat) : ∀ (h : pm_H) (l0 : Nat) (l1 : Int32), M_keeps_28 n h l0 l1 = some (h', r) → pm_run (pm_ev (d + 0)) 149 28 [.ref l0, .int l1] [] h (fun r1 h1 => r1 = none ∧ h1 = h') := by
  induction n with
  | zero => intro h l0 l1 hB; cases hB
  | succ n ih =>
    intro h l0 l1 hB
    unfold M_keeps_28 at hB
    refine r_iload_n f149_28 rfl ?_
    refine r_bipush f149_29 cb_6 ?_
    by_cases c1q : 6 ≤ l1
    · rw [if_pos c1q] at hB
      refine r_ic_t (t := 55) f149_31 (by decide) c1q ?_
      refine r_aload_nN f149_55 rfl ?_
      replace hB := bnd_some hB
      obtain ⟨x2q, ex2q, hB⟩ := hB
      refine r_getA f149_56 fa_6_65 ex2q ?_
      refine r_bipush f149_59 cb_24 ?_
      refine r_aload_nN f149_61 rfl ?_
      replace hB := bnd_some hB
      obtain ⟨x3q, ex3q, hB⟩ := hB
      refine r_getI f149_62 fa_6_105 ex3q ?_
      replace hB := bnd_some hB
      obtain ⟨u4q, rfl, hB⟩ := hB
      replace hB := bnd_some hB
      obtain ⟨h5q, eh5q, hB⟩ := hB
      refine r_sI f149_65 eh5q ?_
      exact r_vret pm_m_149 f149_66 rfl rfl (zV hB)
    · rw [if_neg c1q] at hB
      refine r_ic_f 55 f149_31 (by decide) c1q ?_
      refine r_aload_nN f149_34 rfl ?_
      replace hB := bnd_some hB
      obtain ⟨x6q, ex6q, hB⟩ := hB
      refine r_getA f149_35 fa_6_65 ex6q ?_
      refine r_bipush f149_38 cb_18 ?_
      refine r_iload_n f149_40 rfl ?_
      refine r_iadd f149_41 ?_
      refine r_aload_nN f149_42 rfl ?_
      replace hB := bnd_some hB
      obtain ⟨x7q, ex7q, hB⟩ := hB
      refine r_getA f149_43 fa_6_19 ex7q ?_
      refine r_iload_n f149_46 rfl ?_
      replace hB := bnd_some hB
      obtain ⟨u8q, rfl, hB⟩ := hB
      replace hB := bnd_some hB
      obtain ⟨x9q, ex9q, hB⟩ := hB
      refine r_aI f149_47 ex9q ?_
      replace hB := bnd_some hB
      obtain ⟨u10q, rfl, hB⟩ := hB
      replace hB := bnd_some hB
      obtain ⟨h11q, eh11q, hB⟩ := hB
      refine r_sI f149_48 eh11q ?_
      obtain ⟨y12q, hy12q⟩ : ∃ z, z = l1 + 1 := ⟨_, rfl⟩
      replace hB := nmd_at hy12q hB
      refine r_iinc (L' := [.ref l0, .int y12q]) (x := y12q) f149_49 rfl (hy12q.trans (congrArg (l1 + ·) ci_1.symm)) rfl ?_
      refine r_goto (t := 28) f149_52 (by decide) ?_
      exact pm_weak (L' := [.ref l0, .int y12q]) ⟨.inr rfl, .inr rfl, trivial⟩ (ih h11q l0 y12q hB)
theorem P_M_keeps_2 {d : Nat} {h' : pm_H} {r : Unit} (n : Nat) : ∀ (h : pm_H) (l0 : Nat) (l1 : Int32), M_keeps_2 n h l0 l1 = some (h', r) → pm_run (pm_ev (d + 0)) 149 2 [.ref l0, .int l1] [] h (fun r1 h1 => r1 = none ∧ h1 = h') := by
  induction n with
  | zero => intro h l0 l1 hB; cases hB
  | succ n ih =>
    intro h l0 l1 hB
    unfold M_keeps_2 at hB
    refine r_iload_n f149_2 rfl ?_
    refine r_bipush f149_3 cb_18 ?_
    by_cases c1q : 18 ≤ l1
    · rw [if_pos c1q] at hB
      refine r_ic_t (t := 26) f149_5 (by decide) c1q ?_
      refine r_iconst f149_26 ci_0 ?_
      refine r_istore_n (L' := [.ref l0, .int 0]) (x := 0) f149_27 rfl (Nat.le_of_ble_eq_true rfl) rfl ?_
      exact pm_weak (L' := [.ref l0, .int 0]) ⟨.inr rfl, .inr rfl, trivial⟩ (P_M_keeps_28 (d := d) 1000 h l0 0 hB)
    · rw [if_neg c1q] at hB
      refine r_ic_f 26 f149_5 (by decide) c1q ?_
      refine r_aload_nN f149_8 rfl ?_
      replace hB := bnd_some hB
      obtain ⟨x2q, ex2q, hB⟩ := hB
      refine r_getA f149_9 fa_6_65 ex2q ?_
      refine r_iload_n f149_12 rfl ?_
      refine r_aload_nN f149_13 rfl ?_
      replace hB := bnd_some hB
      obtain ⟨x3q, ex3q, hB⟩ := hB
      refine r_getA f149_14 fa_6_16 ex3q ?_
      refine r_iload_n f149_17 rfl ?_
      replace hB := bnd_some hB
      obtain ⟨u4q, rfl, hB⟩ := hB
      replace hB := bnd_some hB
      obtain ⟨x5q, ex5q, hB⟩ := hB
      refine r_aI f149_18 ex5q ?_
      replace hB := bnd_some hB
      obtain ⟨u6q, rfl, hB⟩ := hB
      replace hB := bnd_some hB
      obtain ⟨h7q, eh7q, hB⟩ := hB
      refine r_sI f149_19 eh7q ?_
      obtain ⟨y8q, hy8q⟩ : ∃ z, z = l1 + 1 := ⟨_, rfl⟩
      replace hB := nmd_at hy8q hB
      refine r_iinc (L' := [.ref l0, .int y8q]) (x := y8q) f149_20 rfl (hy8q.trans (congrArg (l1 + ·) ci_1.symm)) rfl ?_
      refine r_goto (t := 2) f149_23 (by decide) ?_
      exact pm_weak (L' := [.ref l0, .int y8q]) ⟨.inr rfl, .inr rfl, trivial⟩ (ih h7q l0 y8q hB)
theorem P_M_keeps {d : Nat} {h h' : pm_H} {r : Unit} {t : Nat} (hB : M_keeps h t = some (h', r)) : pm_ev (d + 1) 149 [.ref t] h none h' := by
  unfold M_keeps at hB
  refine pm_ev_mk (L := [.ref t, pm_J]) pm_m_149 rfl (Nat.le_of_ble_eq_true rfl) rfl ?_
  refine r_iconst f149_0 ci_0 ?_
  refine r_istore_n (L' := [.ref t, .int 0]) (x := 0) f149_1 rfl (Nat.le_of_ble_eq_true rfl) rfl ?_
  exact pm_weak (L' := [.ref t, .int 0]) ⟨.inr rfl, .inr rfl, trivial⟩ (P_M_keeps_2 (d := d) 1000 h t 0 hB)
theorem P_M_lays_28 {d : Nat} {h' : pm_H} {r : Unit} (n : Nat) : ∀ (h : pm_H) (l0 : Nat) (l1 : Int32), M_lays_28 n h l0 l1 = some (h', r) → pm_run (pm_ev (d + 0)) 150 28 [.ref l0, .int l1] [] h (fun r1 h1 => r1 = none ∧ h1 = h') := by
  induction n with
  | zero => intro h l0 l1 hB; cases hB
  | succ n ih =>
    intro h l0 l1 hB
    unfold M_lays_28 at hB
    refine r_iload_n f150_28 rfl ?_
    refine r_bipush f150_29 cb_6 ?_
    by_cases c1q : 6 ≤ l1
    · rw [if_pos c1q] at hB
      refine r_ic_t (t := 55) f150_31 (by decide) c1q ?_
      refine r_aload_nN f150_55 rfl ?_
      refine r_aload_nN f150_56 rfl ?_
      replace hB := bnd_some hB
      obtain ⟨x2q, ex2q, hB⟩ := hB
      refine r_getA f150_57 fa_6_65 ex2q ?_
      refine r_bipush f150_60 cb_24 ?_
      replace hB := bnd_some hB
      obtain ⟨u3q, rfl, hB⟩ := hB
      replace hB := bnd_some hB
      obtain ⟨x4q, ex4q, hB⟩ := hB
      refine r_aI f150_62 ex4q ?_
      replace hB := bnd_some hB
      obtain ⟨h5q, eh5q, hB⟩ := hB
      refine r_put f150_63 fa_6_105 ty_6_7 rfl rfl (no_fin (nf_6_7)) eh5q ?_
      exact r_vret pm_m_150 f150_66 rfl rfl (zV hB)
    · rw [if_neg c1q] at hB
      refine r_ic_f 55 f150_31 (by decide) c1q ?_
      refine r_aload_nN f150_34 rfl ?_
      replace hB := bnd_some hB
      obtain ⟨x6q, ex6q, hB⟩ := hB
      refine r_getA f150_35 fa_6_19 ex6q ?_
      refine r_iload_n f150_38 rfl ?_
      refine r_aload_nN f150_39 rfl ?_
      replace hB := bnd_some hB
      obtain ⟨x7q, ex7q, hB⟩ := hB
      refine r_getA f150_40 fa_6_65 ex7q ?_
      refine r_bipush f150_43 cb_18 ?_
      refine r_iload_n f150_45 rfl ?_
      refine r_iadd f150_46 ?_
      replace hB := bnd_some hB
      obtain ⟨u8q, rfl, hB⟩ := hB
      replace hB := bnd_some hB
      obtain ⟨x9q, ex9q, hB⟩ := hB
      refine r_aI f150_47 ex9q ?_
      replace hB := bnd_some hB
      obtain ⟨u10q, rfl, hB⟩ := hB
      replace hB := bnd_some hB
      obtain ⟨h11q, eh11q, hB⟩ := hB
      refine r_sI f150_48 eh11q ?_
      obtain ⟨y12q, hy12q⟩ : ∃ z, z = l1 + 1 := ⟨_, rfl⟩
      replace hB := nmd_at hy12q hB
      refine r_iinc (L' := [.ref l0, .int y12q]) (x := y12q) f150_49 rfl (hy12q.trans (congrArg (l1 + ·) ci_1.symm)) rfl ?_
      refine r_goto (t := 28) f150_52 (by decide) ?_
      exact pm_weak (L' := [.ref l0, .int y12q]) ⟨.inr rfl, .inr rfl, trivial⟩ (ih h11q l0 y12q hB)
theorem P_M_lays_2 {d : Nat} {h' : pm_H} {r : Unit} (n : Nat) : ∀ (h : pm_H) (l0 : Nat) (l1 : Int32), M_lays_2 n h l0 l1 = some (h', r) → pm_run (pm_ev (d + 0)) 150 2 [.ref l0, .int l1] [] h (fun r1 h1 => r1 = none ∧ h1 = h') := by
  induction n with
  | zero => intro h l0 l1 hB; cases hB
  | succ n ih =>
    intro h l0 l1 hB
    unfold M_lays_2 at hB
    refine r_iload_n f150_2 rfl ?_
    refine r_bipush f150_3 cb_18 ?_
    by_cases c1q : 18 ≤ l1
    · rw [if_pos c1q] at hB
      refine r_ic_t (t := 26) f150_5 (by decide) c1q ?_
      refine r_iconst f150_26 ci_0 ?_
      refine r_istore_n (L' := [.ref l0, .int 0]) (x := 0) f150_27 rfl (Nat.le_of_ble_eq_true rfl) rfl ?_
      exact pm_weak (L' := [.ref l0, .int 0]) ⟨.inr rfl, .inr rfl, trivial⟩ (P_M_lays_28 (d := d) 1000 h l0 0 hB)
    · rw [if_neg c1q] at hB
      refine r_ic_f 26 f150_5 (by decide) c1q ?_
      refine r_aload_nN f150_8 rfl ?_
      replace hB := bnd_some hB
      obtain ⟨x2q, ex2q, hB⟩ := hB
      refine r_getA f150_9 fa_6_16 ex2q ?_
      refine r_iload_n f150_12 rfl ?_
      refine r_aload_nN f150_13 rfl ?_
      replace hB := bnd_some hB
      obtain ⟨x3q, ex3q, hB⟩ := hB
      refine r_getA f150_14 fa_6_65 ex3q ?_
      refine r_iload_n f150_17 rfl ?_
      replace hB := bnd_some hB
      obtain ⟨u4q, rfl, hB⟩ := hB
      replace hB := bnd_some hB
      obtain ⟨x5q, ex5q, hB⟩ := hB
      refine r_aI f150_18 ex5q ?_
      replace hB := bnd_some hB
      obtain ⟨u6q, rfl, hB⟩ := hB
      replace hB := bnd_some hB
      obtain ⟨h7q, eh7q, hB⟩ := hB
      refine r_sI f150_19 eh7q ?_
      obtain ⟨y8q, hy8q⟩ : ∃ z, z = l1 + 1 := ⟨_, rfl⟩
      replace hB := nmd_at hy8q hB
      refine r_iinc (L' := [.ref l0, .int y8q]) (x := y8q) f150_20 rfl (hy8q.trans (congrArg (l1 + ·) ci_1.symm)) rfl ?_
      refine r_goto (t := 2) f150_23 (by decide) ?_
      exact pm_weak (L' := [.ref l0, .int y8q]) ⟨.inr rfl, .inr rfl, trivial⟩ (ih h7q l0 y8q hB)
theorem P_M_lays {d : Nat} {h h' : pm_H} {r : Unit} {t : Nat} (hB : M_lays h t = some (h', r)) : pm_ev (d + 1) 150 [.ref t] h none h' := by
  unfold M_lays at hB
  refine pm_ev_mk (L := [.ref t, pm_J]) pm_m_150 rfl (Nat.le_of_ble_eq_true rfl) rfl ?_
  refine r_iconst f150_0 ci_0 ?_
  refine r_istore_n (L' := [.ref t, .int 0]) (x := 0) f150_1 rfl (Nat.le_of_ble_eq_true rfl) rfl ?_
  exact pm_weak (L' := [.ref t, .int 0]) ⟨.inr rfl, .inr rfl, trivial⟩ (P_M_lays_2 (d := d) 1000 h t 0 hB)
theorem P_M_goes_4 {d : Nat} {h' : pm_H} {r : Int32} (n : Nat) : ∀ (h : pm_H) (l0 : Nat) (l1 : Int32) (l2 : Int32) (l3 : Int32), M_goes_4 n h l0 l1 l2 l3 = some (h', r) → pm_run (pm_ev (d + 7)) 151 4 [.ref l0, .int l1, .int l2, .int l3] [] h (fun r1 h1 => r1 = some (.int r) ∧ h1 = h') := by
  induction n with
  | zero => intro h l0 l1 l2 l3 hB; cases hB
  | succ n ih =>
    intro h l0 l1 l2 l3 hB
    unfold M_goes_4 at hB
    refine r_iload_n f151_4 rfl ?_
    refine r_iload_n f151_5 rfl ?_
    by_cases c1q : l1 ≤ l3
    · rw [if_pos c1q] at hB
      refine r_ic_t (t := 35) f151_6 (by decide) c1q ?_
      refine r_iload_n f151_35 rfl ?_
      exact r_iret pm_m_151 .int f151_36 rfl rfl rfl (zI hB)
    · rw [if_neg c1q] at hB
      refine r_ic_f 35 f151_6 (by decide) c1q ?_
      refine r_aload_nN f151_9 rfl ?_
      replace hB := grd_some hB
      obtain ⟨g4q, hB⟩ := hB
      replace hB := bn2_some hB
      obtain ⟨h2q, x3q, eh2q, hB⟩ := hB
      refine r_virtV (as := []) (q := pm_m_147) f151_10 ca_6_216 rfl rfl rfl (cs_len (Nat.le_of_ble_eq_true rfl)) g4q (P_M_yearOf (d := d + 0) eh2q) ?_
      refine r_popI f151_13 ?_
      refine r_iload_n f151_14 rfl ?_
      refine r_aload_nN f151_15 rfl ?_
      replace hB := grd_some hB
      obtain ⟨g7q, hB⟩ := hB
      replace hB := bn2_some hB
      obtain ⟨h5q, x6q, eh5q, hB⟩ := hB
      refine r_virtV (as := []) (q := pm_m_115) f151_16 ca_6_123 rfl rfl rfl (cs_len (Nat.le_of_ble_eq_true rfl)) g7q (P_M_sand (d := d + 4) eh5q) ?_
      refine r_aload_nN f151_19 rfl ?_
      replace hB := bnd_some hB
      obtain ⟨x8q, ex8q, hB⟩ := hB
      refine r_getJ f151_20 fa_6_108 ex8q ?_
      refine r_land f151_23 ?_
      replace hB := bn2_some hB
      obtain ⟨h9q, x10q, eh9q, hB⟩ := hB
      refine r_statV (as := [.long (x6q &&& x8q)]) (q := pm_m_113) f151_24 ca_6_101 rfl (by decide) rfl rfl (cs_len (Nat.le_of_ble_eq_true rfl)) (P_M_bitsOf (d := d + 6) eh9q) ?_
      refine r_iadd f151_27 ?_
      obtain ⟨y11q, hy11q⟩ : ∃ z, z = (l2 + x10q) := ⟨_, rfl⟩
      replace hB := nmd_at hy11q hB
      refine r_istore_n (L' := [.ref l0, .int l1, .int y11q, .int l3]) (x := y11q) f151_28 hy11q (Nat.le_of_ble_eq_true rfl) rfl ?_
      obtain ⟨y12q, hy12q⟩ : ∃ z, z = l3 + 1 := ⟨_, rfl⟩
      replace hB := nmd_at hy12q hB
      refine r_iinc (L' := [.ref l0, .int l1, .int y11q, .int y12q]) (x := y12q) f151_29 rfl (hy12q.trans (congrArg (l3 + ·) ci_1.symm)) rfl ?_
      refine r_goto (t := 4) f151_32 (by decide) ?_
      exact pm_weak (L' := [.ref l0, .int l1, .int y11q, .int y12q]) ⟨.inr rfl, .inr rfl, .inr rfl, .inr rfl, trivial⟩ (ih h9q l0 l1 y11q y12q hB)
theorem P_M_goes {d : Nat} {h h' : pm_H} {r : Int32} {t : Nat} {a1 : Int32} (hB : M_goes h t a1 = some (h', r)) : pm_ev (d + 8) 151 [.ref t, .int a1] h (some (.int r)) h' := by
  unfold M_goes at hB
  refine pm_ev_mk (L := [.ref t, .int a1, pm_J, pm_J]) pm_m_151 rfl (Nat.le_of_ble_eq_true rfl) rfl ?_
  refine r_iconst f151_0 ci_0 ?_
  refine r_istore_n (L' := [.ref t, .int a1, .int 0, pm_J]) (x := 0) f151_1 rfl (Nat.le_of_ble_eq_true rfl) rfl ?_
  refine r_iconst f151_2 ci_0 ?_
  refine r_istore_n (L' := [.ref t, .int a1, .int 0, .int 0]) (x := 0) f151_3 rfl (Nat.le_of_ble_eq_true rfl) rfl ?_
  exact pm_weak (L' := [.ref t, .int a1, .int 0, .int 0]) ⟨.inr rfl, .inr rfl, .inr rfl, .inr rfl, trivial⟩ (P_M_goes_4 (d := d) 1000 h t a1 0 0 hB)
theorem P_M_ofDune {d : Nat} {h h' : pm_H} {r : Int32} {t : Nat} {a1 : Int32} {a2 : Int32} (hB : M_ofDune h t a1 a2 = some (h', r)) : pm_ev (d + 1) 152 [.ref t, .int a1, .int a2] h (some (.int r)) h' := by
  unfold M_ofDune at hB
  refine pm_ev_mk (L := [.ref t, .int a1, .int a2]) pm_m_152 rfl (Nat.le_of_ble_eq_true rfl) rfl ?_
  refine r_aload_nN f152_0 rfl ?_
  replace hB := bnd_some hB
  obtain ⟨x1q, ex1q, hB⟩ := hB
  refine r_getA f152_1 fa_6_19 ex1q ?_
  refine r_iload_n f152_4 rfl ?_
  replace hB := bnd_some hB
  obtain ⟨u2q, rfl, hB⟩ := hB
  replace hB := bnd_some hB
  obtain ⟨x3q, ex3q, hB⟩ := hB
  refine r_aI f152_5 ex3q ?_
  refine r_iconst f152_6 ci_1 ?_
  by_cases c4q : x3q = 1
  · rw [if_pos c4q] at hB
    refine r_ic_f 14 f152_7 (by decide) (fun q => q c4q) ?_
    refine r_iconst f152_10 ci_m1 ?_
    refine r_goto (t := 24) f152_11 (by decide) ?_
    exact r_iret pm_m_152 .int f152_24 rfl rfl rfl (zI hB)
  · rw [if_neg c4q] at hB
    refine r_ic_t (t := 14) f152_7 (by decide) c4q ?_
    refine r_aload_nN f152_14 rfl ?_
    replace hB := bnd_some hB
    obtain ⟨x5q, ex5q, hB⟩ := hB
    refine r_getA f152_15 fa_6_16 ex5q ?_
    refine r_iconst f152_18 ci_3 ?_
    refine r_iload_n f152_19 rfl ?_
    refine r_imul f152_20 ?_
    refine r_iload_n f152_21 rfl ?_
    refine r_iadd f152_22 ?_
    replace hB := bnd_some hB
    obtain ⟨u6q, rfl, hB⟩ := hB
    replace hB := bnd_some hB
    obtain ⟨x7q, ex7q, hB⟩ := hB
    refine r_aI f152_23 ex7q ?_
    exact r_iret pm_m_152 .int f152_24 rfl rfl rfl (zI hB)
theorem P_M_run_164 {d : Nat} {h' : pm_H} {r : Int32} (h : pm_H) (l0 : Nat) (l5 : Int32) (hB : M_run_164 h l0 l5 = some (h', r)) : pm_run (pm_ev (d + 8)) 153 164 [.ref l0, pm_J, pm_J, pm_J, pm_J, .int l5] [] h (fun r1 h1 => r1 = some (.int r) ∧ h1 = h') := by
  unfold M_run_164 at hB
  refine r_aload_nN f153_164 rfl ?_
  replace hB := grd_some hB
  obtain ⟨g3q, hB⟩ := hB
  replace hB := bn2_some hB
  obtain ⟨h1q, _, eh1q, hB⟩ := hB
  refine r_virtN (as := []) (q := pm_m_150) f153_165 ca_6_228 rfl rfl rfl (cs_len (Nat.le_of_ble_eq_true rfl)) g3q (P_M_lays (d := d + 7) eh1q) ?_
  refine r_iload f153_168 rfl ?_
  exact r_iret pm_m_153 .int f153_170 rfl rfl rfl (zI hB)
theorem P_M_run_162 {d : Nat} {h' : pm_H} {r : Int32} (h : pm_H) (l0 : Nat) (s0 : Int32) (hB : M_run_162 h l0 s0 = some (h', r)) : pm_run (pm_ev (d + 8)) 153 162 [.ref l0, pm_J, pm_J, pm_J, pm_J, pm_J] [.int s0] h (fun r1 h1 => r1 = some (.int r) ∧ h1 = h') := by
  unfold M_run_162 at hB
  refine r_istore (L' := [.ref l0, pm_J, pm_J, pm_J, pm_J, .int s0]) (x := s0) f153_162 rfl (Nat.le_of_ble_eq_true rfl) rfl ?_
  exact pm_weak (L' := [.ref l0, pm_J, pm_J, pm_J, pm_J, .int s0]) ⟨.inr rfl, .inl rfl, .inl rfl, .inl rfl, .inl rfl, .inr rfl, trivial⟩ (P_M_run_164 (d := d) h l0 s0 hB)
theorem P_M_run_36 {d : Nat} {h' : pm_H} {r : Int32} (h : pm_H) (l0 : Nat) (l1 : Int32) (l2 : Int32) (s0 : Int32) (hB : M_run_36 h l0 l1 l2 s0 = some (h', r)) : pm_run (pm_ev (d + 8)) 153 36 [.ref l0, .int l1, .int l2, pm_J, pm_J, pm_J] [.int s0] h (fun r1 h1 => r1 = some (.int r) ∧ h1 = h') := by
  unfold M_run_36 at hB
  refine r_istore_n (L' := [.ref l0, .int l1, .int l2, .int s0, pm_J, pm_J]) (x := s0) f153_36 rfl (Nat.le_of_ble_eq_true rfl) rfl ?_
  refine r_iload_n f153_37 rfl ?_
  refine r_iconst f153_38 ci_0 ?_
  refine r_bipush f153_39 cb_40 ?_
  replace hB := bn2_some hB
  obtain ⟨h1q, x2q, eh1q, hB⟩ := hB
  refine r_statV (as := [.int l1, .int 0, .int 40]) (q := pm_m_109) f153_41 ca_6_79 rfl (by decide) rfl rfl (cs_len (Nat.le_of_ble_eq_true rfl)) (P_M_in (d := d + 7) eh1q) ?_
  by_cases c3q : x2q = 0
  · rw [if_pos c3q] at hB
    refine r_if_t (t := 51) f153_44 (by decide) c3q ?_
    refine r_bipush f153_51 cb_m2 ?_
    exact r_iret pm_m_153 .int f153_53 rfl rfl rfl (zI hB)
  · rw [if_neg c3q] at hB
    refine r_if_f 51 f153_44 (by decide) c3q ?_
    refine r_iload_n f153_47 rfl ?_
    by_cases c4q : s0 = 0
    · rw [if_pos c4q] at hB
      refine r_if_f 54 f153_48 (by decide) (fun q => q c4q) ?_
      refine r_bipush f153_51 cb_m2 ?_
      exact r_iret pm_m_153 .int f153_53 rfl rfl rfl (zI hB)
    · rw [if_neg c4q] at hB
      refine r_if_t (t := 54) f153_48 (by decide) c4q ?_
      refine r_aload_nN f153_54 rfl ?_
      replace hB := grd_some hB
      obtain ⟨g7q, hB⟩ := hB
      replace hB := bn2_some hB
      obtain ⟨h5q, _, eh5q, hB⟩ := hB
      refine r_virtN (as := []) (q := pm_m_149) f153_55 ca_6_219 rfl rfl rfl (cs_len (Nat.le_of_ble_eq_true rfl)) g7q (P_M_keeps (d := d + 7) eh5q) ?_
      refine r_aload_nN f153_58 rfl ?_
      refine r_iload_n f153_59 rfl ?_
      replace hB := grd_some hB
      obtain ⟨g10q, hB⟩ := hB
      replace hB := bn2_some hB
      obtain ⟨h8q, x9q, eh8q, hB⟩ := hB
      refine r_virtV (as := [.int l1]) (q := pm_m_151) f153_60 ca_6_222 rfl rfl rfl (cs_len (Nat.le_of_ble_eq_true rfl)) g10q (P_M_goes (d := d + 0) eh8q) ?_
      refine r_istore (L' := [.ref l0, .int l1, .int l2, .int s0, .int x9q, pm_J]) (x := x9q) f153_63 rfl (Nat.le_of_ble_eq_true rfl) rfl ?_
      refine r_iload f153_65 rfl ?_
      refine r_istore (L' := [.ref l0, .int l1, .int l2, .int s0, .int x9q, .int x9q]) (x := x9q) f153_67 rfl (Nat.le_of_ble_eq_true rfl) rfl ?_
      refine r_iload_n f153_69 rfl ?_
      by_cases c11q : l2 = 0
      · rw [if_pos c11q] at hB
        refine r_tsw (off := 26) (t := 96) f153_70 c11q (by decide) (by decide) (by decide) (by decide) ?_
        refine r_aload_nN f153_96 rfl ?_
        replace hB := grd_some hB
        obtain ⟨g14q, hB⟩ := hB
        replace hB := bn2_some hB
        obtain ⟨h12q, x13q, eh12q, hB⟩ := hB
        refine r_virtV (as := []) (q := pm_m_117) f153_97 ca_6_98 rfl rfl rfl (cs_len (Nat.le_of_ble_eq_true rfl)) g14q (P_M_there (d := d + 7) eh12q) ?_
        refine r_istore (L' := [.ref l0, .int l1, .int l2, .int s0, .int x9q, .int x13q]) (x := x13q) f153_100 rfl (Nat.le_of_ble_eq_true rfl) rfl ?_
        refine r_goto (t := 164) f153_102 (by decide) ?_
        exact pm_weak (L' := [.ref l0, pm_J, pm_J, pm_J, pm_J, .int x13q]) ⟨.inr rfl, .inl rfl, .inl rfl, .inl rfl, .inl rfl, .inr rfl, trivial⟩ (P_M_run_164 (d := d) h12q l0 x13q hB)
      rw [if_neg c11q] at hB
      by_cases c15q : l2 = 1
      · rw [if_pos c15q] at hB
        refine r_tsw (off := 35) (t := 105) f153_70 c15q (by decide) (by decide) (by decide) (by decide) ?_
        refine r_aload_nN f153_105 rfl ?_
        replace hB := grd_some hB
        obtain ⟨g18q, hB⟩ := hB
        replace hB := bn2_some hB
        obtain ⟨h16q, x17q, eh16q, hB⟩ := hB
        refine r_virtV (as := []) (q := pm_m_115) f153_106 ca_6_123 rfl rfl rfl (cs_len (Nat.le_of_ble_eq_true rfl)) g18q (P_M_sand (d := d + 5) eh16q) ?_
        refine r_aload_nN f153_109 rfl ?_
        replace hB := bnd_some hB
        obtain ⟨x19q, ex19q, hB⟩ := hB
        refine r_getJ f153_110 fa_6_108 ex19q ?_
        refine r_land f153_113 ?_
        replace hB := bn2_some hB
        obtain ⟨h20q, x21q, eh20q, hB⟩ := hB
        refine r_statV (as := [.long (x17q &&& x19q)]) (q := pm_m_113) f153_114 ca_6_101 rfl (by decide) rfl rfl (cs_len (Nat.le_of_ble_eq_true rfl)) (P_M_bitsOf (d := d + 7) eh20q) ?_
        refine r_istore (L' := [.ref l0, .int l1, .int l2, .int s0, .int x9q, .int x21q]) (x := x21q) f153_117 rfl (Nat.le_of_ble_eq_true rfl) rfl ?_
        refine r_goto (t := 164) f153_119 (by decide) ?_
        exact pm_weak (L' := [.ref l0, pm_J, pm_J, pm_J, pm_J, .int x21q]) ⟨.inr rfl, .inl rfl, .inl rfl, .inl rfl, .inl rfl, .inr rfl, trivial⟩ (P_M_run_164 (d := d) h20q l0 x21q hB)
      rw [if_neg c15q] at hB
      by_cases c22q : l2 = 2
      · rw [if_pos c22q] at hB
        refine r_tsw (off := 52) (t := 122) f153_70 c22q (by decide) (by decide) (by decide) (by decide) ?_
        refine r_goto (t := 164) f153_122 (by decide) ?_
        exact pm_weak (L' := [.ref l0, pm_J, pm_J, pm_J, pm_J, .int x9q]) ⟨.inr rfl, .inl rfl, .inl rfl, .inl rfl, .inl rfl, .inr rfl, trivial⟩ (P_M_run_164 (d := d) h8q l0 x9q hB)
      rw [if_neg c22q] at hB
      refine r_tswD (t := 125) f153_70 (sw_out 3 (lt_s (lt_s (lt_s (lt_0) (sw_ne c11q (by decide))) (sw_ne c15q (by decide))) (sw_ne c22q (by decide))) (by decide)) (by decide) ?_
      refine r_iload_n f153_125 rfl ?_
      refine r_bipush f153_126 cb_20 ?_
      by_cases c23q : 20 ≤ l2
      · rw [if_pos c23q] at hB
        refine r_ic_t (t := 148) f153_128 (by decide) c23q ?_
        refine r_aload_nN f153_148 rfl ?_
        refine r_iload_n f153_149 rfl ?_
        refine r_bipush f153_150 cb_20 ?_
        refine r_isub f153_152 ?_
        refine r_iconst f153_153 ci_0 ?_
        refine r_iconst f153_154 ci_5 ?_
        replace hB := bn2_some hB
        obtain ⟨h24q, x25q, eh24q, hB⟩ := hB
        refine r_statV (as := [.int (l2 - 20), .int 0, .int 5]) (q := pm_m_110) f153_155 ca_6_86 rfl (by decide) rfl rfl (cs_len (Nat.le_of_ble_eq_true rfl)) (P_M_within (d := d + 7) eh24q) ?_
        refine r_iconst f153_158 ci_2 ?_
        replace hB := grd_some hB
        obtain ⟨g28q, hB⟩ := hB
        replace hB := bn2_some hB
        obtain ⟨h26q, x27q, eh26q, hB⟩ := hB
        refine r_virtV (as := [.int x25q, .int 2]) (q := pm_m_152) f153_159 ca_6_225 rfl rfl rfl (cs_len (Nat.le_of_ble_eq_true rfl)) g28q (P_M_ofDune (d := d + 7) eh26q) ?_
        exact pm_weak (L' := [.ref l0, pm_J, pm_J, pm_J, pm_J, pm_J]) ⟨.inr rfl, .inl rfl, .inl rfl, .inl rfl, .inl rfl, .inl rfl, trivial⟩ (P_M_run_162 (d := d) h26q l0 x27q hB)
      · rw [if_neg c23q] at hB
        refine r_ic_f 148 f153_128 (by decide) c23q ?_
        refine r_aload_nN f153_131 rfl ?_
        refine r_iload_n f153_132 rfl ?_
        refine r_bipush f153_133 cb_10 ?_
        refine r_isub f153_135 ?_
        refine r_iconst f153_136 ci_0 ?_
        refine r_iconst f153_137 ci_5 ?_
        replace hB := bn2_some hB
        obtain ⟨h29q, x30q, eh29q, hB⟩ := hB
        refine r_statV (as := [.int (l2 - 10), .int 0, .int 5]) (q := pm_m_110) f153_138 ca_6_86 rfl (by decide) rfl rfl (cs_len (Nat.le_of_ble_eq_true rfl)) (P_M_within (d := d + 7) eh29q) ?_
        refine r_iconst f153_141 ci_0 ?_
        replace hB := grd_some hB
        obtain ⟨g33q, hB⟩ := hB
        replace hB := bn2_some hB
        obtain ⟨h31q, x32q, eh31q, hB⟩ := hB
        refine r_virtV (as := [.int x30q, .int 0]) (q := pm_m_152) f153_142 ca_6_225 rfl rfl rfl (cs_len (Nat.le_of_ble_eq_true rfl)) g33q (P_M_ofDune (d := d + 7) eh31q) ?_
        refine r_goto (t := 162) f153_145 (by decide) ?_
        exact pm_weak (L' := [.ref l0, pm_J, pm_J, pm_J, pm_J, pm_J]) ⟨.inr rfl, .inl rfl, .inl rfl, .inl rfl, .inl rfl, .inl rfl, trivial⟩ (P_M_run_162 (d := d) h31q l0 x32q hB)
theorem P_M_run_31 {d : Nat} {h' : pm_H} {r : Int32} (h : pm_H) (l0 : Nat) (l1 : Int32) (l2 : Int32) (hB : M_run_31 h l0 l1 l2 = some (h', r)) : pm_run (pm_ev (d + 8)) 153 31 [.ref l0, .int l1, .int l2, pm_J, pm_J, pm_J] [] h (fun r1 h1 => r1 = some (.int r) ∧ h1 = h') := by
  unfold M_run_31 at hB
  refine r_iconst f153_31 ci_1 ?_
  refine r_goto (t := 36) f153_32 (by decide) ?_
  exact pm_weak (L' := [.ref l0, .int l1, .int l2, pm_J, pm_J, pm_J]) ⟨.inr rfl, .inr rfl, .inr rfl, .inl rfl, .inl rfl, .inl rfl, trivial⟩ (P_M_run_36 (d := d) h l0 l1 l2 1 hB)
theorem P_M_run {d : Nat} {h h' : pm_H} {r : Int32} {t : Nat} {a1 : Int32} {a2 : Int32} (hB : M_run h t a1 a2 = some (h', r)) : pm_ev (d + 9) 153 [.ref t, .int a1, .int a2] h (some (.int r)) h' := by
  unfold M_run at hB
  refine pm_ev_mk (L := [.ref t, .int a1, .int a2, pm_J, pm_J, pm_J]) pm_m_153 rfl (Nat.le_of_ble_eq_true rfl) rfl ?_
  refine r_iload_n f153_0 rfl ?_
  refine r_iconst f153_1 ci_0 ?_
  refine r_iconst f153_2 ci_2 ?_
  replace hB := bn2_some hB
  obtain ⟨h1q, x2q, eh1q, hB⟩ := hB
  refine r_statV (as := [.int a2, .int 0, .int 2]) (q := pm_m_109) f153_3 ca_6_79 rfl (by decide) rfl rfl (cs_len (Nat.le_of_ble_eq_true rfl)) (P_M_in (d := d + 7) eh1q) ?_
  by_cases c3q : x2q = 0
  · rw [if_pos c3q] at hB
    refine r_if_f 31 f153_6 (by decide) (fun q => q c3q) ?_
    refine r_aload_nN f153_9 rfl ?_
    refine r_iload_n f153_10 rfl ?_
    refine r_bipush f153_11 cb_10 ?_
    refine r_isub f153_13 ?_
    replace hB := grd_some hB
    obtain ⟨g6q, hB⟩ := hB
    replace hB := bn2_some hB
    obtain ⟨h4q, x5q, eh4q, hB⟩ := hB
    refine r_virtV (as := [.int (a2 - 10)]) (q := pm_m_112) f153_14 ca_6_197 rfl rfl rfl (cs_len (Nat.le_of_ble_eq_true rfl)) g6q (P_M_isDune (d := d + 6) eh4q) ?_
    by_cases c7q : x5q = 0
    · rw [if_pos c7q] at hB
      refine r_if_f 31 f153_17 (by decide) (fun q => q c7q) ?_
      refine r_aload_nN f153_20 rfl ?_
      refine r_iload_n f153_21 rfl ?_
      refine r_bipush f153_22 cb_20 ?_
      refine r_isub f153_24 ?_
      replace hB := grd_some hB
      obtain ⟨g10q, hB⟩ := hB
      replace hB := bn2_some hB
      obtain ⟨h8q, x9q, eh8q, hB⟩ := hB
      refine r_virtV (as := [.int (a2 - 20)]) (q := pm_m_112) f153_25 ca_6_197 rfl rfl rfl (cs_len (Nat.le_of_ble_eq_true rfl)) g10q (P_M_isDune (d := d + 6) eh8q) ?_
      by_cases c11q : x9q = 0
      · rw [if_pos c11q] at hB
        refine r_if_t (t := 35) f153_28 (by decide) c11q ?_
        refine r_iconst f153_35 ci_0 ?_
        exact pm_weak (L' := [.ref t, .int a1, .int a2, pm_J, pm_J, pm_J]) ⟨.inr rfl, .inr rfl, .inr rfl, .inl rfl, .inl rfl, .inl rfl, trivial⟩ (P_M_run_36 (d := d) h8q t a1 a2 0 hB)
      · rw [if_neg c11q] at hB
        refine r_if_f 35 f153_28 (by decide) c11q ?_
        exact pm_weak (L' := [.ref t, .int a1, .int a2, pm_J, pm_J, pm_J]) ⟨.inr rfl, .inr rfl, .inr rfl, .inl rfl, .inl rfl, .inl rfl, trivial⟩ (P_M_run_31 (d := d) h8q t a1 a2 hB)
    · rw [if_neg c7q] at hB
      refine r_if_t (t := 31) f153_17 (by decide) c7q ?_
      exact pm_weak (L' := [.ref t, .int a1, .int a2, pm_J, pm_J, pm_J]) ⟨.inr rfl, .inr rfl, .inr rfl, .inl rfl, .inl rfl, .inl rfl, trivial⟩ (P_M_run_31 (d := d) h4q t a1 a2 hB)
  · rw [if_neg c3q] at hB
    refine r_if_t (t := 31) f153_6 (by decide) c3q ?_
    exact pm_weak (L' := [.ref t, .int a1, .int a2, pm_J, pm_J, pm_J]) ⟨.inr rfl, .inr rfl, .inr rfl, .inl rfl, .inl rfl, .inl rfl, trivial⟩ (P_M_run_31 (d := d) h1q t a1 a2 hB)
theorem P_M_firstOn_35 {d : Nat} {h' : pm_H} {r : Int32} (k_2 : pm_H → Nat → Int32 → Int32 → Option (pm_H × Int32)) (hk_2 : ∀ (h : pm_H) (l0 : Nat) (l1 : Int32) (l2 : Int32), k_2 h l0 l1 l2 = some (h', r) → pm_run (pm_ev (d + 2)) 154 2 [.ref l0, .int l1, .int l2] [] h (fun r1 h1 => r1 = some (.int r) ∧ h1 = h')) (h : pm_H) (l0 : Nat) (l1 : Int32) (l2 : Int32) (hB : M_firstOn_35 k_2 h l0 l1 l2 = some (h', r)) : pm_run (pm_ev (d + 2)) 154 35 [.ref l0, .int l1, .int l2] [] h (fun r1 h1 => r1 = some (.int r) ∧ h1 = h') := by
  unfold M_firstOn_35 at hB
  obtain ⟨y1q, hy1q⟩ : ∃ z, z = l2 + 1 := ⟨_, rfl⟩
  replace hB := nmd_at hy1q hB
  refine r_iinc (L' := [.ref l0, .int l1, .int y1q]) (x := y1q) f154_35 rfl (hy1q.trans (congrArg (l2 + ·) ci_1.symm)) rfl ?_
  refine r_goto (t := 2) f154_38 (by decide) ?_
  exact pm_weak (L' := [.ref l0, .int l1, .int y1q]) ⟨.inr rfl, .inr rfl, .inr rfl, trivial⟩ (hk_2 h l0 l1 y1q hB)
theorem P_M_firstOn_2 {d : Nat} {h' : pm_H} {r : Int32} (n : Nat) : ∀ (h : pm_H) (l0 : Nat) (l1 : Int32) (l2 : Int32), M_firstOn_2 n h l0 l1 l2 = some (h', r) → pm_run (pm_ev (d + 2)) 154 2 [.ref l0, .int l1, .int l2] [] h (fun r1 h1 => r1 = some (.int r) ∧ h1 = h') := by
  induction n with
  | zero => intro h l0 l1 l2 hB; cases hB
  | succ n ih =>
    intro h l0 l1 l2 hB
    unfold M_firstOn_2 at hB
    refine r_iload_n f154_2 rfl ?_
    refine r_aload_nN f154_3 rfl ?_
    replace hB := bnd_some hB
    obtain ⟨x1q, ex1q, hB⟩ := hB
    refine r_getI f154_4 fa_6_83 ex1q ?_
    by_cases c2q : x1q ≤ l2
    · rw [if_pos c2q] at hB
      refine r_ic_t (t := 41) f154_7 (by decide) c2q ?_
      refine r_iconst f154_41 ci_m1 ?_
      exact r_iret pm_m_154 .int f154_42 rfl rfl rfl (zI hB)
    · rw [if_neg c2q] at hB
      refine r_ic_f 41 f154_7 (by decide) c2q ?_
      refine r_aload_nN f154_10 rfl ?_
      replace hB := bnd_some hB
      obtain ⟨x3q, ex3q, hB⟩ := hB
      refine r_getA f154_11 fa_6_19 ex3q ?_
      refine r_iload_n f154_14 rfl ?_
      replace hB := bnd_some hB
      obtain ⟨u4q, rfl, hB⟩ := hB
      replace hB := bnd_some hB
      obtain ⟨x5q, ex5q, hB⟩ := hB
      refine r_aI f154_15 ex5q ?_
      by_cases c6q : x5q = 0
      · rw [if_pos c6q] at hB
        refine r_if_f 35 f154_16 (by decide) (fun q => q c6q) ?_
        refine r_aload_nN f154_19 rfl ?_
        refine r_iload_n f154_20 rfl ?_
        replace hB := grd_some hB
        obtain ⟨g9q, hB⟩ := hB
        replace hB := bn2_some hB
        obtain ⟨h7q, x8q, eh7q, hB⟩ := hB
        refine r_virtV (as := [.int l2]) (q := pm_m_114) f154_21 ca_6_90 rfl rfl rfl (cs_len (Nat.le_of_ble_eq_true rfl)) g9q (P_M_lies (d := d + 0) eh7q) ?_
        refine r_iload_n f154_24 rfl ?_
        refine r_lshr f154_25 ?_
        refine r_lconst f154_26 cl_1 ?_
        refine r_land f154_27 ?_
        refine r_lconst f154_28 cl_1 ?_
        refine r_lcmp f154_29 ?_
        by_cases c10q : (lg_cmp ((x8q >>> ((l1 : Int32).toInt64 &&& 63)) &&& 1) 1) = 0
        · rw [if_pos c10q] at hB
          refine r_if_f 35 f154_30 (by decide) (fun q => q c10q) ?_
          refine r_iload_n f154_33 rfl ?_
          exact r_iret pm_m_154 .int f154_34 rfl rfl rfl (zI hB)
        · rw [if_neg c10q] at hB
          refine r_if_t (t := 35) f154_30 (by decide) c10q ?_
          exact pm_weak (L' := [.ref l0, .int l1, .int l2]) ⟨.inr rfl, .inr rfl, .inr rfl, trivial⟩ (P_M_firstOn_35 (d := d) (M_firstOn_2 n) ih h7q l0 l1 l2 hB)
      · rw [if_neg c6q] at hB
        refine r_if_t (t := 35) f154_16 (by decide) c6q ?_
        exact pm_weak (L' := [.ref l0, .int l1, .int l2]) ⟨.inr rfl, .inr rfl, .inr rfl, trivial⟩ (P_M_firstOn_35 (d := d) (M_firstOn_2 n) ih h l0 l1 l2 hB)
theorem P_M_firstOn {d : Nat} {h h' : pm_H} {r : Int32} {t : Nat} {a1 : Int32} (hB : M_firstOn h t a1 = some (h', r)) : pm_ev (d + 3) 154 [.ref t, .int a1] h (some (.int r)) h' := by
  unfold M_firstOn at hB
  refine pm_ev_mk (L := [.ref t, .int a1, pm_J]) pm_m_154 rfl (Nat.le_of_ble_eq_true rfl) rfl ?_
  refine r_iconst f154_0 ci_0 ?_
  refine r_istore_n (L' := [.ref t, .int a1, .int 0]) (x := 0) f154_1 rfl (Nat.le_of_ble_eq_true rfl) rfl ?_
  exact pm_weak (L' := [.ref t, .int a1, .int 0]) ⟨.inr rfl, .inr rfl, .inr rfl, trivial⟩ (P_M_firstOn_2 (d := d) 1000 h t a1 0 hB)
theorem P_M_comes_109 {d : Nat} {h' : pm_H} {r : Int32} (k_40 : pm_H → Nat → Int32 → Int32 → Int32 → Int32 → Int32 → Int32 → Int32 → Option (pm_H × Int32)) (hk_40 : ∀ (h : pm_H) (l0 : Nat) (l1 : Int32) (l2 : Int32) (l3 : Int32) (l4 : Int32) (l5 : Int32) (l6 : Int32) (l7 : Int32), k_40 h l0 l1 l2 l3 l4 l5 l6 l7 = some (h', r) → pm_run (pm_ev (d + 7)) 155 40 [.ref l0, .int l1, .int l2, .int l3, .int l4, .int l5, .int l6, .int l7, pm_J] [] h (fun r1 h1 => r1 = some (.int r) ∧ h1 = h')) (h : pm_H) (l0 : Nat) (l1 : Int32) (l2 : Int32) (l3 : Int32) (l4 : Int32) (l5 : Int32) (l6 : Int32) (l7 : Int32) (hB : M_comes_109 k_40 h l0 l1 l2 l3 l4 l5 l6 l7 = some (h', r)) : pm_run (pm_ev (d + 7)) 155 109 [.ref l0, .int l1, .int l2, .int l3, .int l4, .int l5, .int l6, .int l7, pm_J] [] h (fun r1 h1 => r1 = some (.int r) ∧ h1 = h') := by
  unfold M_comes_109 at hB
  refine r_aload_nN f155_109 rfl ?_
  replace hB := grd_some hB
  obtain ⟨g3q, hB⟩ := hB
  replace hB := bn2_some hB
  obtain ⟨h1q, x2q, eh1q, hB⟩ := hB
  refine r_virtV (as := []) (q := pm_m_147) f155_110 ca_6_216 rfl rfl rfl (cs_len (Nat.le_of_ble_eq_true rfl)) g3q (P_M_yearOf (d := d + 0) eh1q) ?_
  refine r_popI f155_113 ?_
  obtain ⟨y4q, hy4q⟩ : ∃ z, z = l7 + 1 := ⟨_, rfl⟩
  replace hB := nmd_at hy4q hB
  refine r_iinc (L' := [.ref l0, .int l1, .int l2, .int l3, .int l4, .int l5, .int l6, .int y4q, pm_J]) (x := y4q) f155_114 rfl (hy4q.trans (congrArg (l7 + ·) ci_1.symm)) rfl ?_
  refine r_goto (t := 40) f155_117 (by decide) ?_
  exact pm_weak (L' := [.ref l0, .int l1, .int l2, .int l3, .int l4, .int l5, .int l6, .int y4q, pm_J]) ⟨.inr rfl, .inr rfl, .inr rfl, .inr rfl, .inr rfl, .inr rfl, .inr rfl, .inr rfl, .inl rfl, trivial⟩ (hk_40 h1q l0 l1 l2 l3 l4 l5 l6 y4q hB)
theorem P_M_comes_90 {d : Nat} {h' : pm_H} {r : Int32} (k_40 : pm_H → Nat → Int32 → Int32 → Int32 → Int32 → Int32 → Int32 → Int32 → Option (pm_H × Int32)) (hk_40 : ∀ (h : pm_H) (l0 : Nat) (l1 : Int32) (l2 : Int32) (l3 : Int32) (l4 : Int32) (l5 : Int32) (l6 : Int32) (l7 : Int32), k_40 h l0 l1 l2 l3 l4 l5 l6 l7 = some (h', r) → pm_run (pm_ev (d + 7)) 155 40 [.ref l0, .int l1, .int l2, .int l3, .int l4, .int l5, .int l6, .int l7, pm_J] [] h (fun r1 h1 => r1 = some (.int r) ∧ h1 = h')) (h : pm_H) (l0 : Nat) (l1 : Int32) (l2 : Int32) (l4 : Int32) (l5 : Int32) (l6 : Int32) (l7 : Int32) (s0 : Int32) (hB : M_comes_90 k_40 h l0 l1 l2 l4 l5 l6 l7 s0 = some (h', r)) : pm_run (pm_ev (d + 7)) 155 90 [.ref l0, .int l1, .int l2, pm_J, .int l4, .int l5, .int l6, .int l7, pm_J] [.int s0] h (fun r1 h1 => r1 = some (.int r) ∧ h1 = h') := by
  unfold M_comes_90 at hB
  refine r_istore_n (L' := [.ref l0, .int l1, .int l2, .int s0, .int l4, .int l5, .int l6, .int l7, pm_J]) (x := s0) f155_90 rfl (Nat.le_of_ble_eq_true rfl) rfl ?_
  obtain ⟨y1q, hy1q⟩ : ∃ z, z = l4 + 1 := ⟨_, rfl⟩
  replace hB := nmd_at hy1q hB
  refine r_iinc (L' := [.ref l0, .int l1, .int l2, .int s0, .int y1q, .int l5, .int l6, .int l7, pm_J]) (x := y1q) f155_91 rfl (hy1q.trans (congrArg (l4 + ·) ci_1.symm)) rfl ?_
  refine r_goto (t := 109) f155_94 (by decide) ?_
  exact pm_weak (L' := [.ref l0, .int l1, .int l2, .int s0, .int y1q, .int l5, .int l6, .int l7, pm_J]) ⟨.inr rfl, .inr rfl, .inr rfl, .inr rfl, .inr rfl, .inr rfl, .inr rfl, .inr rfl, .inl rfl, trivial⟩ (P_M_comes_109 (d := d) k_40 hk_40 h l0 l1 l2 s0 y1q l5 l6 l7 hB)
theorem P_M_comes_77 {d : Nat} {h' : pm_H} {r : Int32} (k_40 : pm_H → Nat → Int32 → Int32 → Int32 → Int32 → Int32 → Int32 → Int32 → Option (pm_H × Int32)) (hk_40 : ∀ (h : pm_H) (l0 : Nat) (l1 : Int32) (l2 : Int32) (l3 : Int32) (l4 : Int32) (l5 : Int32) (l6 : Int32) (l7 : Int32), k_40 h l0 l1 l2 l3 l4 l5 l6 l7 = some (h', r) → pm_run (pm_ev (d + 7)) 155 40 [.ref l0, .int l1, .int l2, .int l3, .int l4, .int l5, .int l6, .int l7, pm_J] [] h (fun r1 h1 => r1 = some (.int r) ∧ h1 = h')) (h : pm_H) (l0 : Nat) (l1 : Int32) (l2 : Int32) (l3 : Int32) (l4 : Int32) (l6 : Int32) (l7 : Int32) (s0 : Int32) (hB : M_comes_77 k_40 h l0 l1 l2 l3 l4 l6 l7 s0 = some (h', r)) : pm_run (pm_ev (d + 7)) 155 77 [.ref l0, .int l1, .int l2, .int l3, .int l4, pm_J, .int l6, .int l7, pm_J] [.int s0] h (fun r1 h1 => r1 = some (.int r) ∧ h1 = h') := by
  unfold M_comes_77 at hB
  refine r_istore (L' := [.ref l0, .int l1, .int l2, .int l3, .int l4, .int s0, .int l6, .int l7, pm_J]) (x := s0) f155_77 rfl (Nat.le_of_ble_eq_true rfl) rfl ?_
  refine r_iload_n f155_79 rfl ?_
  refine r_iconst f155_80 ci_m1 ?_
  by_cases c1q : l3 = (-1)
  · rw [if_pos c1q] at hB
    refine r_ic_f 89 f155_81 (by decide) (fun q => q c1q) ?_
    refine r_iload f155_84 rfl ?_
    refine r_goto (t := 90) f155_86 (by decide) ?_
    exact pm_weak (L' := [.ref l0, .int l1, .int l2, pm_J, .int l4, .int s0, .int l6, .int l7, pm_J]) ⟨.inr rfl, .inr rfl, .inr rfl, .inl rfl, .inr rfl, .inr rfl, .inr rfl, .inr rfl, .inl rfl, trivial⟩ (P_M_comes_90 (d := d) k_40 hk_40 h l0 l1 l2 l4 s0 l6 l7 l7 hB)
  · rw [if_neg c1q] at hB
    refine r_ic_t (t := 89) f155_81 (by decide) c1q ?_
    refine r_iload_n f155_89 rfl ?_
    exact pm_weak (L' := [.ref l0, .int l1, .int l2, pm_J, .int l4, .int s0, .int l6, .int l7, pm_J]) ⟨.inr rfl, .inr rfl, .inr rfl, .inl rfl, .inr rfl, .inr rfl, .inr rfl, .inr rfl, .inl rfl, trivial⟩ (P_M_comes_90 (d := d) k_40 hk_40 h l0 l1 l2 l4 s0 l6 l7 l3 hB)
theorem P_M_comes_107 {d : Nat} {h' : pm_H} {r : Int32} (k_40 : pm_H → Nat → Int32 → Int32 → Int32 → Int32 → Int32 → Int32 → Int32 → Option (pm_H × Int32)) (hk_40 : ∀ (h : pm_H) (l0 : Nat) (l1 : Int32) (l2 : Int32) (l3 : Int32) (l4 : Int32) (l5 : Int32) (l6 : Int32) (l7 : Int32), k_40 h l0 l1 l2 l3 l4 l5 l6 l7 = some (h', r) → pm_run (pm_ev (d + 7)) 155 40 [.ref l0, .int l1, .int l2, .int l3, .int l4, .int l5, .int l6, .int l7, pm_J] [] h (fun r1 h1 => r1 = some (.int r) ∧ h1 = h')) (h : pm_H) (l0 : Nat) (l1 : Int32) (l2 : Int32) (l3 : Int32) (l4 : Int32) (l5 : Int32) (l7 : Int32) (s0 : Int32) (hB : M_comes_107 k_40 h l0 l1 l2 l3 l4 l5 l7 s0 = some (h', r)) : pm_run (pm_ev (d + 7)) 155 107 [.ref l0, .int l1, .int l2, .int l3, .int l4, .int l5, pm_J, .int l7, pm_J] [.int s0] h (fun r1 h1 => r1 = some (.int r) ∧ h1 = h') := by
  unfold M_comes_107 at hB
  refine r_istore (L' := [.ref l0, .int l1, .int l2, .int l3, .int l4, .int l5, .int s0, .int l7, pm_J]) (x := s0) f155_107 rfl (Nat.le_of_ble_eq_true rfl) rfl ?_
  exact pm_weak (L' := [.ref l0, .int l1, .int l2, .int l3, .int l4, .int l5, .int s0, .int l7, pm_J]) ⟨.inr rfl, .inr rfl, .inr rfl, .inr rfl, .inr rfl, .inr rfl, .inr rfl, .inr rfl, .inl rfl, trivial⟩ (P_M_comes_109 (d := d) k_40 hk_40 h l0 l1 l2 l3 l4 l5 s0 l7 hB)
theorem P_M_comes_120 {d : Nat} {h' : pm_H} {r : Int32} (h : pm_H) (l0 : Nat) (l2 : Int32) (l3 : Int32) (l4 : Int32) (l5 : Int32) (hB : M_comes_120 h l0 l2 l3 l4 l5 = some (h', r)) : pm_run (pm_ev (d + 7)) 155 120 [.ref l0, pm_J, .int l2, .int l3, .int l4, .int l5, pm_J, pm_J, pm_J] [] h (fun r1 h1 => r1 = some (.int r) ∧ h1 = h') := by
  unfold M_comes_120 at hB
  refine r_aload_nN f155_120 rfl ?_
  replace hB := grd_some hB
  obtain ⟨g3q, hB⟩ := hB
  replace hB := bn2_some hB
  obtain ⟨h1q, _, eh1q, hB⟩ := hB
  refine r_virtN (as := []) (q := pm_m_150) f155_121 ca_6_228 rfl rfl rfl (cs_len (Nat.le_of_ble_eq_true rfl)) g3q (P_M_lays (d := d + 6) eh1q) ?_
  refine r_iload_n f155_124 rfl ?_
  by_cases c4q : l2 = 0
  · rw [if_pos c4q] at hB
    refine r_if_f 132 f155_125 (by decide) (fun q => q c4q) ?_
    refine r_iload_n f155_128 rfl ?_
    refine r_goto (t := 144) f155_129 (by decide) ?_
    exact r_iret pm_m_155 .int f155_144 rfl rfl rfl (zI hB)
  · rw [if_neg c4q] at hB
    refine r_if_t (t := 132) f155_125 (by decide) c4q ?_
    refine r_iload_n f155_132 rfl ?_
    refine r_iconst f155_133 ci_1 ?_
    by_cases c5q : l2 = 1
    · rw [if_pos c5q] at hB
      refine r_ic_f 142 f155_134 (by decide) (fun q => q c5q) ?_
      refine r_iload f155_137 rfl ?_
      refine r_goto (t := 144) f155_139 (by decide) ?_
      exact r_iret pm_m_155 .int f155_144 rfl rfl rfl (zI hB)
    · rw [if_neg c5q] at hB
      refine r_ic_t (t := 142) f155_134 (by decide) c5q ?_
      refine r_iload f155_142 rfl ?_
      exact r_iret pm_m_155 .int f155_144 rfl rfl rfl (zI hB)
theorem P_M_comes_40 {d : Nat} {h' : pm_H} {r : Int32} (n : Nat) : ∀ (h : pm_H) (l0 : Nat) (l1 : Int32) (l2 : Int32) (l3 : Int32) (l4 : Int32) (l5 : Int32) (l6 : Int32) (l7 : Int32), M_comes_40 n h l0 l1 l2 l3 l4 l5 l6 l7 = some (h', r) → pm_run (pm_ev (d + 7)) 155 40 [.ref l0, .int l1, .int l2, .int l3, .int l4, .int l5, .int l6, .int l7, pm_J] [] h (fun r1 h1 => r1 = some (.int r) ∧ h1 = h') := by
  induction n with
  | zero => intro h l0 l1 l2 l3 l4 l5 l6 l7 hB; cases hB
  | succ n ih =>
    intro h l0 l1 l2 l3 l4 l5 l6 l7 hB
    unfold M_comes_40 at hB
    refine r_iload f155_40 rfl ?_
    refine r_bipush f155_42 cb_40 ?_
    by_cases c1q : 40 < l7
    · rw [if_pos c1q] at hB
      refine r_ic_t (t := 120) f155_44 (by decide) c1q ?_
      exact pm_weak (L' := [.ref l0, pm_J, .int l2, .int l3, .int l4, .int l5, pm_J, pm_J, pm_J]) ⟨.inr rfl, .inl rfl, .inr rfl, .inr rfl, .inr rfl, .inr rfl, .inl rfl, .inl rfl, .inl rfl, trivial⟩ (P_M_comes_120 (d := d) h l0 l2 l3 l4 l5 hB)
    · rw [if_neg c1q] at hB
      refine r_ic_f 120 f155_44 (by decide) c1q ?_
      refine r_iload f155_47 rfl ?_
      by_cases c2q : l6 = 0
      · rw [if_pos c2q] at hB
        refine r_if_t (t := 120) f155_49 (by decide) c2q ?_
        exact pm_weak (L' := [.ref l0, pm_J, .int l2, .int l3, .int l4, .int l5, pm_J, pm_J, pm_J]) ⟨.inr rfl, .inl rfl, .inr rfl, .inr rfl, .inr rfl, .inr rfl, .inl rfl, .inl rfl, .inl rfl, trivial⟩ (P_M_comes_120 (d := d) h l0 l2 l3 l4 l5 hB)
      · rw [if_neg c2q] at hB
        refine r_if_f 120 f155_49 (by decide) c2q ?_
        refine r_aload_nN f155_52 rfl ?_
        refine r_iload_n f155_53 rfl ?_
        replace hB := grd_some hB
        obtain ⟨g5q, hB⟩ := hB
        replace hB := bn2_some hB
        obtain ⟨h3q, x4q, eh3q, hB⟩ := hB
        refine r_virtV (as := [.int l1]) (q := pm_m_154) f155_54 ca_6_231 rfl rfl rfl (cs_len (Nat.le_of_ble_eq_true rfl)) g5q (P_M_firstOn (d := d + 4) eh3q) ?_
        refine r_istore (L' := [.ref l0, .int l1, .int l2, .int l3, .int l4, .int l5, .int l6, .int l7, .int x4q]) (x := x4q) f155_57 rfl (Nat.le_of_ble_eq_true rfl) rfl ?_
        refine r_iload f155_59 rfl ?_
        refine r_iconst f155_61 ci_m1 ?_
        by_cases c6q : x4q = (-1)
        · rw [if_pos c6q] at hB
          refine r_ic_t (t := 97) f155_62 (by decide) c6q ?_
          refine r_iload_n f155_97 rfl ?_
          refine r_iconst f155_98 ci_m1 ?_
          by_cases c7q : l3 = (-1)
          · rw [if_pos c7q] at hB
            refine r_ic_f 106 f155_99 (by decide) (fun q => q c7q) ?_
            refine r_iconst f155_102 ci_1 ?_
            refine r_goto (t := 107) f155_103 (by decide) ?_
            exact pm_weak (L' := [.ref l0, .int l1, .int l2, .int l3, .int l4, .int l5, pm_J, .int l7, pm_J]) ⟨.inr rfl, .inr rfl, .inr rfl, .inr rfl, .inr rfl, .inr rfl, .inl rfl, .inr rfl, .inl rfl, trivial⟩ (P_M_comes_107 (d := d) (M_comes_40 n) ih h3q l0 l1 l2 l3 l4 l5 l7 1 hB)
          · rw [if_neg c7q] at hB
            refine r_ic_t (t := 106) f155_99 (by decide) c7q ?_
            refine r_iconst f155_106 ci_0 ?_
            exact pm_weak (L' := [.ref l0, .int l1, .int l2, .int l3, .int l4, .int l5, pm_J, .int l7, pm_J]) ⟨.inr rfl, .inr rfl, .inr rfl, .inr rfl, .inr rfl, .inr rfl, .inl rfl, .inr rfl, .inl rfl, trivial⟩ (P_M_comes_107 (d := d) (M_comes_40 n) ih h3q l0 l1 l2 l3 l4 l5 l7 0 hB)
        · rw [if_neg c6q] at hB
          refine r_ic_f 97 f155_62 (by decide) c6q ?_
          refine r_iload_n f155_65 rfl ?_
          refine r_iconst f155_66 ci_m1 ?_
          by_cases c8q : l3 = (-1)
          · rw [if_pos c8q] at hB
            refine r_ic_f 75 f155_67 (by decide) (fun q => q c8q) ?_
            refine r_iload f155_70 rfl ?_
            refine r_goto (t := 77) f155_72 (by decide) ?_
            exact pm_weak (L' := [.ref l0, .int l1, .int l2, .int l3, .int l4, pm_J, .int l6, .int l7, pm_J]) ⟨.inr rfl, .inr rfl, .inr rfl, .inr rfl, .inr rfl, .inl rfl, .inr rfl, .inr rfl, .inl rfl, trivial⟩ (P_M_comes_77 (d := d) (M_comes_40 n) ih h3q l0 l1 l2 l3 l4 l6 l7 x4q hB)
          · rw [if_neg c8q] at hB
            refine r_ic_t (t := 75) f155_67 (by decide) c8q ?_
            refine r_iload f155_75 rfl ?_
            exact pm_weak (L' := [.ref l0, .int l1, .int l2, .int l3, .int l4, pm_J, .int l6, .int l7, pm_J]) ⟨.inr rfl, .inr rfl, .inr rfl, .inr rfl, .inr rfl, .inl rfl, .inr rfl, .inr rfl, .inl rfl, trivial⟩ (P_M_comes_77 (d := d) (M_comes_40 n) ih h3q l0 l1 l2 l3 l4 l6 l7 l5 hB)
theorem P_M_comes {d : Nat} {h h' : pm_H} {r : Int32} {t : Nat} {a1 : Int32} {a2 : Int32} (hB : M_comes h t a1 a2 = some (h', r)) : pm_ev (d + 8) 155 [.ref t, .int a1, .int a2] h (some (.int r)) h' := by
  unfold M_comes at hB
  refine pm_ev_mk (L := [.ref t, .int a1, .int a2, pm_J, pm_J, pm_J, pm_J, pm_J, pm_J]) pm_m_155 rfl (Nat.le_of_ble_eq_true rfl) rfl ?_
  refine r_iload_n f155_0 rfl ?_
  replace hB := bn2_some hB
  obtain ⟨h1q, x2q, eh1q, hB⟩ := hB
  refine r_statV (as := [.int a1]) (q := pm_m_111) f155_1 ca_6_117 rfl (by decide) rfl rfl (cs_len (Nat.le_of_ble_eq_true rfl)) (P_M_isYard (d := d + 5) eh1q) ?_
  by_cases c3q : x2q = 0
  · rw [if_pos c3q] at hB
    refine r_if_f 10 f155_4 (by decide) (fun q => q c3q) ?_
    refine r_bipush f155_7 cb_m5 ?_
    exact r_iret pm_m_155 .int f155_9 rfl rfl rfl (zI hB)
  · rw [if_neg c3q] at hB
    refine r_if_t (t := 10) f155_4 (by decide) c3q ?_
    refine r_iload_n f155_10 rfl ?_
    refine r_iconst f155_11 ci_0 ?_
    refine r_iconst f155_12 ci_2 ?_
    replace hB := bn2_some hB
    obtain ⟨h4q, x5q, eh4q, hB⟩ := hB
    refine r_statV (as := [.int a2, .int 0, .int 2]) (q := pm_m_109) f155_13 ca_6_79 rfl (by decide) rfl rfl (cs_len (Nat.le_of_ble_eq_true rfl)) (P_M_in (d := d + 6) eh4q) ?_
    by_cases c6q : x5q = 0
    · rw [if_pos c6q] at hB
      refine r_if_f 22 f155_16 (by decide) (fun q => q c6q) ?_
      refine r_bipush f155_19 cb_m7 ?_
      exact r_iret pm_m_155 .int f155_21 rfl rfl rfl (zI hB)
    · rw [if_neg c6q] at hB
      refine r_if_t (t := 22) f155_16 (by decide) c6q ?_
      refine r_iconst f155_22 ci_m1 ?_
      refine r_istore_n (L' := [.ref t, .int a1, .int a2, .int (-1), pm_J, pm_J, pm_J, pm_J, pm_J]) (x := (-1)) f155_23 rfl (Nat.le_of_ble_eq_true rfl) rfl ?_
      refine r_iconst f155_24 ci_0 ?_
      refine r_istore (L' := [.ref t, .int a1, .int a2, .int (-1), .int 0, pm_J, pm_J, pm_J, pm_J]) (x := 0) f155_25 rfl (Nat.le_of_ble_eq_true rfl) rfl ?_
      refine r_iconst f155_27 ci_m1 ?_
      refine r_istore (L' := [.ref t, .int a1, .int a2, .int (-1), .int 0, .int (-1), pm_J, pm_J, pm_J]) (x := (-1)) f155_28 rfl (Nat.le_of_ble_eq_true rfl) rfl ?_
      refine r_iconst f155_30 ci_1 ?_
      refine r_istore (L' := [.ref t, .int a1, .int a2, .int (-1), .int 0, .int (-1), .int 1, pm_J, pm_J]) (x := 1) f155_31 rfl (Nat.le_of_ble_eq_true rfl) rfl ?_
      refine r_aload_nN f155_33 rfl ?_
      replace hB := grd_some hB
      obtain ⟨g9q, hB⟩ := hB
      replace hB := bn2_some hB
      obtain ⟨h7q, _, eh7q, hB⟩ := hB
      refine r_virtN (as := []) (q := pm_m_149) f155_34 ca_6_219 rfl rfl rfl (cs_len (Nat.le_of_ble_eq_true rfl)) g9q (P_M_keeps (d := d + 6) eh7q) ?_
      refine r_iconst f155_37 ci_0 ?_
      refine r_istore (L' := [.ref t, .int a1, .int a2, .int (-1), .int 0, .int (-1), .int 1, .int 0, pm_J]) (x := 0) f155_38 rfl (Nat.le_of_ble_eq_true rfl) rfl ?_
      exact pm_weak (L' := [.ref t, .int a1, .int a2, .int (-1), .int 0, .int (-1), .int 1, .int 0, pm_J]) ⟨.inr rfl, .inr rfl, .inr rfl, .inr rfl, .inr rfl, .inr rfl, .inr rfl, .inr rfl, .inl rfl, trivial⟩ (P_M_comes_40 (d := d) 1000 h7q t a1 a2 (-1) 0 (-1) 1 0 hB)
theorem P_M_ends_50 {d : Nat} {h' : pm_H} {r : Int32} (k_19 : pm_H → Nat → Int32 → Int32 → Int32 → Option (pm_H × Int32)) (hk_19 : ∀ (h : pm_H) (l0 : Nat) (l1 : Int32) (l2 : Int32) (l3 : Int32), k_19 h l0 l1 l2 l3 = some (h', r) → pm_run (pm_ev (d + 7)) 156 19 [.ref l0, .int l1, .int l2, .int l3] [] h (fun r1 h1 => r1 = some (.int r) ∧ h1 = h')) (h : pm_H) (l0 : Nat) (l1 : Int32) (l3 : Int32) (s0 : Int32) (hB : M_ends_50 k_19 h l0 l1 l3 s0 = some (h', r)) : pm_run (pm_ev (d + 7)) 156 50 [.ref l0, .int l1, pm_J, .int l3] [.int s0] h (fun r1 h1 => r1 = some (.int r) ∧ h1 = h') := by
  unfold M_ends_50 at hB
  refine r_istore_n (L' := [.ref l0, .int l1, .int s0, .int l3]) (x := s0) f156_50 rfl (Nat.le_of_ble_eq_true rfl) rfl ?_
  obtain ⟨y1q, hy1q⟩ : ∃ z, z = l3 + 1 := ⟨_, rfl⟩
  replace hB := nmd_at hy1q hB
  refine r_iinc (L' := [.ref l0, .int l1, .int s0, .int y1q]) (x := y1q) f156_51 rfl (hy1q.trans (congrArg (l3 + ·) ci_1.symm)) rfl ?_
  refine r_goto (t := 19) f156_54 (by decide) ?_
  exact pm_weak (L' := [.ref l0, .int l1, .int s0, .int y1q]) ⟨.inr rfl, .inr rfl, .inr rfl, .inr rfl, trivial⟩ (hk_19 h l0 l1 s0 y1q hB)
theorem P_M_ends_57 {d : Nat} {h' : pm_H} {r : Int32} (h : pm_H) (l0 : Nat) (l2 : Int32) (hB : M_ends_57 h l0 l2 = some (h', r)) : pm_run (pm_ev (d + 7)) 156 57 [.ref l0, pm_J, .int l2, pm_J] [] h (fun r1 h1 => r1 = some (.int r) ∧ h1 = h') := by
  unfold M_ends_57 at hB
  refine r_aload_nN f156_57 rfl ?_
  replace hB := grd_some hB
  obtain ⟨g3q, hB⟩ := hB
  replace hB := bn2_some hB
  obtain ⟨h1q, _, eh1q, hB⟩ := hB
  refine r_virtN (as := []) (q := pm_m_150) f156_58 ca_6_228 rfl rfl rfl (cs_len (Nat.le_of_ble_eq_true rfl)) g3q (P_M_lays (d := d + 6) eh1q) ?_
  refine r_iload_n f156_61 rfl ?_
  exact r_iret pm_m_156 .int f156_62 rfl rfl rfl (zI hB)
theorem P_M_ends_19 {d : Nat} {h' : pm_H} {r : Int32} (n : Nat) : ∀ (h : pm_H) (l0 : Nat) (l1 : Int32) (l2 : Int32) (l3 : Int32), M_ends_19 n h l0 l1 l2 l3 = some (h', r) → pm_run (pm_ev (d + 7)) 156 19 [.ref l0, .int l1, .int l2, .int l3] [] h (fun r1 h1 => r1 = some (.int r) ∧ h1 = h') := by
  induction n with
  | zero => intro h l0 l1 l2 l3 hB; cases hB
  | succ n ih =>
    intro h l0 l1 l2 l3 hB
    unfold M_ends_19 at hB
    refine r_iload_n f156_19 rfl ?_
    refine r_bipush f156_20 cb_40 ?_
    by_cases c1q : 40 < l3
    · rw [if_pos c1q] at hB
      refine r_ic_t (t := 57) f156_22 (by decide) c1q ?_
      exact pm_weak (L' := [.ref l0, pm_J, .int l2, pm_J]) ⟨.inr rfl, .inl rfl, .inr rfl, .inl rfl, trivial⟩ (P_M_ends_57 (d := d) h l0 l2 hB)
    · rw [if_neg c1q] at hB
      refine r_ic_f 57 f156_22 (by decide) c1q ?_
      refine r_iload_n f156_25 rfl ?_
      refine r_iconst f156_26 ci_m1 ?_
      by_cases c2q : l2 = (-1)
      · rw [if_pos c2q] at hB
        refine r_ic_f 57 f156_27 (by decide) (fun q => q c2q) ?_
        refine r_aload_nN f156_30 rfl ?_
        replace hB := grd_some hB
        obtain ⟨g5q, hB⟩ := hB
        replace hB := bn2_some hB
        obtain ⟨h3q, x4q, eh3q, hB⟩ := hB
        refine r_virtV (as := []) (q := pm_m_147) f156_31 ca_6_216 rfl rfl rfl (cs_len (Nat.le_of_ble_eq_true rfl)) g5q (P_M_yearOf (d := d + 0) eh3q) ?_
        refine r_popI f156_34 ?_
        refine r_aload_nN f156_35 rfl ?_
        replace hB := bnd_some hB
        obtain ⟨x6q, ex6q, hB⟩ := hB
        refine r_getA f156_36 fa_6_19 ex6q ?_
        refine r_iload_n f156_39 rfl ?_
        replace hB := bnd_some hB
        obtain ⟨u7q, rfl, hB⟩ := hB
        replace hB := bnd_some hB
        obtain ⟨x8q, ex8q, hB⟩ := hB
        refine r_aI f156_40 ex8q ?_
        refine r_iconst f156_41 ci_1 ?_
        by_cases c9q : x8q = 1
        · rw [if_pos c9q] at hB
          refine r_ic_f 49 f156_42 (by decide) (fun q => q c9q) ?_
          refine r_iload_n f156_45 rfl ?_
          refine r_goto (t := 50) f156_46 (by decide) ?_
          exact pm_weak (L' := [.ref l0, .int l1, pm_J, .int l3]) ⟨.inr rfl, .inr rfl, .inl rfl, .inr rfl, trivial⟩ (P_M_ends_50 (d := d) (M_ends_19 n) ih h3q l0 l1 l3 l3 hB)
        · rw [if_neg c9q] at hB
          refine r_ic_t (t := 49) f156_42 (by decide) c9q ?_
          refine r_iconst f156_49 ci_m1 ?_
          exact pm_weak (L' := [.ref l0, .int l1, pm_J, .int l3]) ⟨.inr rfl, .inr rfl, .inl rfl, .inr rfl, trivial⟩ (P_M_ends_50 (d := d) (M_ends_19 n) ih h3q l0 l1 l3 (-1) hB)
      · rw [if_neg c2q] at hB
        refine r_ic_t (t := 57) f156_27 (by decide) c2q ?_
        exact pm_weak (L' := [.ref l0, pm_J, .int l2, pm_J]) ⟨.inr rfl, .inl rfl, .inr rfl, .inl rfl, trivial⟩ (P_M_ends_57 (d := d) h l0 l2 hB)
theorem P_M_ends {d : Nat} {h h' : pm_H} {r : Int32} {t : Nat} {a1 : Int32} (hB : M_ends h t a1 = some (h', r)) : pm_ev (d + 8) 156 [.ref t, .int a1] h (some (.int r)) h' := by
  unfold M_ends at hB
  refine pm_ev_mk (L := [.ref t, .int a1, pm_J, pm_J]) pm_m_156 rfl (Nat.le_of_ble_eq_true rfl) rfl ?_
  refine r_aload_nN f156_0 rfl ?_
  refine r_iload_n f156_1 rfl ?_
  replace hB := grd_some hB
  obtain ⟨g3q, hB⟩ := hB
  replace hB := bn2_some hB
  obtain ⟨h1q, x2q, eh1q, hB⟩ := hB
  refine r_virtV (as := [.int a1]) (q := pm_m_112) f156_2 ca_6_197 rfl rfl rfl (cs_len (Nat.le_of_ble_eq_true rfl)) g3q (P_M_isDune (d := d + 5) eh1q) ?_
  by_cases c4q : x2q = 0
  · rw [if_pos c4q] at hB
    refine r_if_f 11 f156_5 (by decide) (fun q => q c4q) ?_
    refine r_bipush f156_8 cb_m5 ?_
    exact r_iret pm_m_156 .int f156_10 rfl rfl rfl (zI hB)
  · rw [if_neg c4q] at hB
    refine r_if_t (t := 11) f156_5 (by decide) c4q ?_
    refine r_iconst f156_11 ci_m1 ?_
    refine r_istore_n (L' := [.ref t, .int a1, .int (-1), pm_J]) (x := (-1)) f156_12 rfl (Nat.le_of_ble_eq_true rfl) rfl ?_
    refine r_aload_nN f156_13 rfl ?_
    replace hB := grd_some hB
    obtain ⟨g7q, hB⟩ := hB
    replace hB := bn2_some hB
    obtain ⟨h5q, _, eh5q, hB⟩ := hB
    refine r_virtN (as := []) (q := pm_m_149) f156_14 ca_6_219 rfl rfl rfl (cs_len (Nat.le_of_ble_eq_true rfl)) g7q (P_M_keeps (d := d + 6) eh5q) ?_
    refine r_iconst f156_17 ci_1 ?_
    refine r_istore_n (L' := [.ref t, .int a1, .int (-1), .int 1]) (x := 1) f156_18 rfl (Nat.le_of_ble_eq_true rfl) rfl ?_
    exact pm_weak (L' := [.ref t, .int a1, .int (-1), .int 1]) ⟨.inr rfl, .inr rfl, .inr rfl, .inr rfl, trivial⟩ (P_M_ends_19 (d := d) 1000 h5q t a1 (-1) 1 hB)
theorem P_M_first_102 {d : Nat} {h' : pm_H} {r : Int32} (k_23 : pm_H → Nat → Int32 → Int32 → Int32 → Int32 → Option (pm_H × Int32)) (hk_23 : ∀ (h : pm_H) (l0 : Nat) (l1 : Int32) (l2 : Int32) (l3 : Int32) (l4 : Int32), k_23 h l0 l1 l2 l3 l4 = some (h', r) → pm_run (pm_ev (d + 7)) 157 23 [.ref l0, .int l1, .int l2, .int l3, .int l4, pm_J, pm_J] [] h (fun r1 h1 => r1 = some (.int r) ∧ h1 = h')) (k_43 : pm_H → Nat → Int32 → Int32 → Int32 → Int32 → Int32 → Option (pm_H × Int32)) (hk_43 : ∀ (h : pm_H) (l0 : Nat) (l1 : Int32) (l2 : Int32) (l3 : Int32) (l4 : Int32) (l5 : Int32), k_43 h l0 l1 l2 l3 l4 l5 = some (h', r) → pm_run (pm_ev (d + 7)) 157 43 [.ref l0, .int l1, .int l2, .int l3, .int l4, .int l5, pm_J] [] h (fun r1 h1 => r1 = some (.int r) ∧ h1 = h')) (h : pm_H) (l0 : Nat) (l1 : Int32) (l2 : Int32) (l4 : Int32) (l5 : Int32) (s0 : Int32) (hB : M_first_102 k_23 k_43 h l0 l1 l2 l4 l5 s0 = some (h', r)) : pm_run (pm_ev (d + 7)) 157 102 [.ref l0, .int l1, .int l2, pm_J, .int l4, .int l5, pm_J] [.int s0] h (fun r1 h1 => r1 = some (.int r) ∧ h1 = h') := by
  unfold M_first_102 at hB
  refine r_istore_n (L' := [.ref l0, .int l1, .int l2, .int s0, .int l4, .int l5, pm_J]) (x := s0) f157_102 rfl (Nat.le_of_ble_eq_true rfl) rfl ?_
  obtain ⟨y1q, hy1q⟩ : ∃ z, z = l5 + (-1) := ⟨_, rfl⟩
  replace hB := nmd_at hy1q hB
  refine r_iinc (L' := [.ref l0, .int l1, .int l2, .int s0, .int l4, .int y1q, pm_J]) (x := y1q) f157_103 rfl (hy1q.trans (congrArg (l5 + ·) ci_m1.symm)) rfl ?_
  refine r_goto (t := 43) f157_106 (by decide) ?_
  exact pm_weak (L' := [.ref l0, .int l1, .int l2, .int s0, .int l4, .int y1q, pm_J]) ⟨.inr rfl, .inr rfl, .inr rfl, .inr rfl, .inr rfl, .inr rfl, .inl rfl, trivial⟩ (hk_43 h l0 l1 l2 s0 l4 y1q hB)
theorem P_M_first_90 {d : Nat} {h' : pm_H} {r : Int32} (k_23 : pm_H → Nat → Int32 → Int32 → Int32 → Int32 → Option (pm_H × Int32)) (hk_23 : ∀ (h : pm_H) (l0 : Nat) (l1 : Int32) (l2 : Int32) (l3 : Int32) (l4 : Int32), k_23 h l0 l1 l2 l3 l4 = some (h', r) → pm_run (pm_ev (d + 7)) 157 23 [.ref l0, .int l1, .int l2, .int l3, .int l4, pm_J, pm_J] [] h (fun r1 h1 => r1 = some (.int r) ∧ h1 = h')) (k_43 : pm_H → Nat → Int32 → Int32 → Int32 → Int32 → Int32 → Option (pm_H × Int32)) (hk_43 : ∀ (h : pm_H) (l0 : Nat) (l1 : Int32) (l2 : Int32) (l3 : Int32) (l4 : Int32) (l5 : Int32), k_43 h l0 l1 l2 l3 l4 l5 = some (h', r) → pm_run (pm_ev (d + 7)) 157 43 [.ref l0, .int l1, .int l2, .int l3, .int l4, .int l5, pm_J] [] h (fun r1 h1 => r1 = some (.int r) ∧ h1 = h')) (h : pm_H) (l0 : Nat) (l1 : Int32) (l3 : Int32) (l4 : Int32) (l5 : Int32) (l6 : Int32) (s0 : Int32) (hB : M_first_90 k_23 k_43 h l0 l1 l3 l4 l5 l6 s0 = some (h', r)) : pm_run (pm_ev (d + 7)) 157 90 [.ref l0, .int l1, pm_J, .int l3, .int l4, .int l5, .int l6] [.int s0] h (fun r1 h1 => r1 = some (.int r) ∧ h1 = h') := by
  unfold M_first_90 at hB
  refine r_istore_n (L' := [.ref l0, .int l1, .int s0, .int l3, .int l4, .int l5, .int l6]) (x := s0) f157_90 rfl (Nat.le_of_ble_eq_true rfl) rfl ?_
  refine r_iload f157_91 rfl ?_
  by_cases c1q : l6 = 0
  · rw [if_pos c1q] at hB
    refine r_if_t (t := 101) f157_93 (by decide) c1q ?_
    refine r_iload_n f157_101 rfl ?_
    exact pm_weak (L' := [.ref l0, .int l1, .int s0, pm_J, .int l4, .int l5, pm_J]) ⟨.inr rfl, .inr rfl, .inr rfl, .inl rfl, .inr rfl, .inr rfl, .inl rfl, trivial⟩ (P_M_first_102 (d := d) k_23 hk_23 k_43 hk_43 h l0 l1 s0 l4 l5 l3 hB)
  · rw [if_neg c1q] at hB
    refine r_if_f 101 f157_93 (by decide) c1q ?_
    refine r_iload f157_96 rfl ?_
    refine r_goto (t := 102) f157_98 (by decide) ?_
    exact pm_weak (L' := [.ref l0, .int l1, .int s0, pm_J, .int l4, .int l5, pm_J]) ⟨.inr rfl, .inr rfl, .inr rfl, .inl rfl, .inr rfl, .inr rfl, .inl rfl, trivial⟩ (P_M_first_102 (d := d) k_23 hk_23 k_43 hk_43 h l0 l1 s0 l4 l5 l4 hB)
theorem P_M_first_77 {d : Nat} {h' : pm_H} {r : Int32} (k_23 : pm_H → Nat → Int32 → Int32 → Int32 → Int32 → Option (pm_H × Int32)) (hk_23 : ∀ (h : pm_H) (l0 : Nat) (l1 : Int32) (l2 : Int32) (l3 : Int32) (l4 : Int32), k_23 h l0 l1 l2 l3 l4 = some (h', r) → pm_run (pm_ev (d + 7)) 157 23 [.ref l0, .int l1, .int l2, .int l3, .int l4, pm_J, pm_J] [] h (fun r1 h1 => r1 = some (.int r) ∧ h1 = h')) (k_43 : pm_H → Nat → Int32 → Int32 → Int32 → Int32 → Int32 → Option (pm_H × Int32)) (hk_43 : ∀ (h : pm_H) (l0 : Nat) (l1 : Int32) (l2 : Int32) (l3 : Int32) (l4 : Int32) (l5 : Int32), k_43 h l0 l1 l2 l3 l4 l5 = some (h', r) → pm_run (pm_ev (d + 7)) 157 43 [.ref l0, .int l1, .int l2, .int l3, .int l4, .int l5, pm_J] [] h (fun r1 h1 => r1 = some (.int r) ∧ h1 = h')) (h : pm_H) (l0 : Nat) (l1 : Int32) (l2 : Int32) (l3 : Int32) (l4 : Int32) (l5 : Int32) (s0 : Int32) (hB : M_first_77 k_23 k_43 h l0 l1 l2 l3 l4 l5 s0 = some (h', r)) : pm_run (pm_ev (d + 7)) 157 77 [.ref l0, .int l1, .int l2, .int l3, .int l4, .int l5, pm_J] [.int s0] h (fun r1 h1 => r1 = some (.int r) ∧ h1 = h') := by
  unfold M_first_77 at hB
  refine r_istore (L' := [.ref l0, .int l1, .int l2, .int l3, .int l4, .int l5, .int s0]) (x := s0) f157_77 rfl (Nat.le_of_ble_eq_true rfl) rfl ?_
  refine r_iload f157_79 rfl ?_
  by_cases c1q : s0 = 0
  · rw [if_pos c1q] at hB
    refine r_if_t (t := 89) f157_81 (by decide) c1q ?_
    refine r_iload_n f157_89 rfl ?_
    exact pm_weak (L' := [.ref l0, .int l1, pm_J, .int l3, .int l4, .int l5, .int s0]) ⟨.inr rfl, .inr rfl, .inl rfl, .inr rfl, .inr rfl, .inr rfl, .inr rfl, trivial⟩ (P_M_first_90 (d := d) k_23 hk_23 k_43 hk_43 h l0 l1 l3 l4 l5 s0 l2 hB)
  · rw [if_neg c1q] at hB
    refine r_if_f 89 f157_81 (by decide) c1q ?_
    refine r_iload f157_84 rfl ?_
    refine r_goto (t := 90) f157_86 (by decide) ?_
    exact pm_weak (L' := [.ref l0, .int l1, pm_J, .int l3, .int l4, .int l5, .int s0]) ⟨.inr rfl, .inr rfl, .inl rfl, .inr rfl, .inr rfl, .inr rfl, .inr rfl, trivial⟩ (P_M_first_90 (d := d) k_23 hk_23 k_43 hk_43 h l0 l1 l3 l4 l5 s0 l5 hB)
theorem P_M_first_76 {d : Nat} {h' : pm_H} {r : Int32} (k_23 : pm_H → Nat → Int32 → Int32 → Int32 → Int32 → Option (pm_H × Int32)) (hk_23 : ∀ (h : pm_H) (l0 : Nat) (l1 : Int32) (l2 : Int32) (l3 : Int32) (l4 : Int32), k_23 h l0 l1 l2 l3 l4 = some (h', r) → pm_run (pm_ev (d + 7)) 157 23 [.ref l0, .int l1, .int l2, .int l3, .int l4, pm_J, pm_J] [] h (fun r1 h1 => r1 = some (.int r) ∧ h1 = h')) (k_43 : pm_H → Nat → Int32 → Int32 → Int32 → Int32 → Int32 → Option (pm_H × Int32)) (hk_43 : ∀ (h : pm_H) (l0 : Nat) (l1 : Int32) (l2 : Int32) (l3 : Int32) (l4 : Int32) (l5 : Int32), k_43 h l0 l1 l2 l3 l4 l5 = some (h', r) → pm_run (pm_ev (d + 7)) 157 43 [.ref l0, .int l1, .int l2, .int l3, .int l4, .int l5, pm_J] [] h (fun r1 h1 => r1 = some (.int r) ∧ h1 = h')) (h : pm_H) (l0 : Nat) (l1 : Int32) (l2 : Int32) (l3 : Int32) (l4 : Int32) (l5 : Int32) (hB : M_first_76 k_23 k_43 h l0 l1 l2 l3 l4 l5 = some (h', r)) : pm_run (pm_ev (d + 7)) 157 76 [.ref l0, .int l1, .int l2, .int l3, .int l4, .int l5, pm_J] [] h (fun r1 h1 => r1 = some (.int r) ∧ h1 = h') := by
  unfold M_first_76 at hB
  refine r_iconst f157_76 ci_0 ?_
  exact pm_weak (L' := [.ref l0, .int l1, .int l2, .int l3, .int l4, .int l5, pm_J]) ⟨.inr rfl, .inr rfl, .inr rfl, .inr rfl, .inr rfl, .inr rfl, .inl rfl, trivial⟩ (P_M_first_77 (d := d) k_23 hk_23 k_43 hk_43 h l0 l1 l2 l3 l4 l5 0 hB)
theorem P_M_first_43 {d : Nat} {h' : pm_H} {r : Int32} (k_23 : pm_H → Nat → Int32 → Int32 → Int32 → Int32 → Option (pm_H × Int32)) (hk_23 : ∀ (h : pm_H) (l0 : Nat) (l1 : Int32) (l2 : Int32) (l3 : Int32) (l4 : Int32), k_23 h l0 l1 l2 l3 l4 = some (h', r) → pm_run (pm_ev (d + 7)) 157 23 [.ref l0, .int l1, .int l2, .int l3, .int l4, pm_J, pm_J] [] h (fun r1 h1 => r1 = some (.int r) ∧ h1 = h')) (n : Nat) : ∀ (h : pm_H) (l0 : Nat) (l1 : Int32) (l2 : Int32) (l3 : Int32) (l4 : Int32) (l5 : Int32), M_first_43 k_23 n h l0 l1 l2 l3 l4 l5 = some (h', r) → pm_run (pm_ev (d + 7)) 157 43 [.ref l0, .int l1, .int l2, .int l3, .int l4, .int l5, pm_J] [] h (fun r1 h1 => r1 = some (.int r) ∧ h1 = h') := by
  induction n with
  | zero => intro h l0 l1 l2 l3 l4 l5 hB; cases hB
  | succ n ih =>
    intro h l0 l1 l2 l3 l4 l5 hB
    unfold M_first_43 at hB
    refine r_iload f157_43 rfl ?_
    by_cases c1q : l5 < 0
    · rw [if_pos c1q] at hB
      refine r_if_t (t := 109) f157_45 (by decide) c1q ?_
      refine r_aload_nN f157_109 rfl ?_
      replace hB := grd_some hB
      obtain ⟨g4q, hB⟩ := hB
      replace hB := bn2_some hB
      obtain ⟨h2q, x3q, eh2q, hB⟩ := hB
      refine r_virtV (as := []) (q := pm_m_147) f157_110 ca_6_216 rfl rfl rfl (cs_len (Nat.le_of_ble_eq_true rfl)) g4q (P_M_yearOf (d := d + 0) eh2q) ?_
      refine r_popI f157_113 ?_
      obtain ⟨y5q, hy5q⟩ : ∃ z, z = l4 + 1 := ⟨_, rfl⟩
      replace hB := nmd_at hy5q hB
      refine r_iinc (L' := [.ref l0, .int l1, .int l2, .int l3, .int y5q, .int l5, pm_J]) (x := y5q) f157_114 rfl (hy5q.trans (congrArg (l4 + ·) ci_1.symm)) rfl ?_
      refine r_goto (t := 23) f157_117 (by decide) ?_
      exact pm_weak (L' := [.ref l0, .int l1, .int l2, .int l3, .int y5q, pm_J, pm_J]) ⟨.inr rfl, .inr rfl, .inr rfl, .inr rfl, .inr rfl, .inl rfl, .inl rfl, trivial⟩ (hk_23 h2q l0 l1 l2 l3 y5q hB)
    · rw [if_neg c1q] at hB
      refine r_if_f 109 f157_45 (by decide) c1q ?_
      refine r_aload_nN f157_48 rfl ?_
      replace hB := bnd_some hB
      obtain ⟨x6q, ex6q, hB⟩ := hB
      refine r_getA f157_49 fa_6_19 ex6q ?_
      refine r_iload f157_52 rfl ?_
      replace hB := bnd_some hB
      obtain ⟨u7q, rfl, hB⟩ := hB
      replace hB := bnd_some hB
      obtain ⟨x8q, ex8q, hB⟩ := hB
      refine r_aI f157_54 ex8q ?_
      by_cases c9q : x8q = 0
      · rw [if_pos c9q] at hB
        refine r_if_f 76 f157_55 (by decide) (fun q => q c9q) ?_
        refine r_aload_nN f157_58 rfl ?_
        replace hB := bnd_some hB
        obtain ⟨x10q, ex10q, hB⟩ := hB
        refine r_getA f157_59 fa_6_16 ex10q ?_
        refine r_iconst f157_62 ci_3 ?_
        refine r_iload f157_63 rfl ?_
        refine r_imul f157_65 ?_
        replace hB := bnd_some hB
        obtain ⟨u11q, rfl, hB⟩ := hB
        replace hB := bnd_some hB
        obtain ⟨x12q, ex12q, hB⟩ := hB
        refine r_aI f157_66 ex12q ?_
        refine r_bipush f157_67 cb_39 ?_
        by_cases c13q : x12q = 39
        · rw [if_pos c13q] at hB
          refine r_ic_f 76 f157_69 (by decide) (fun q => q c13q) ?_
          refine r_iconst f157_72 ci_1 ?_
          refine r_goto (t := 77) f157_73 (by decide) ?_
          exact pm_weak (L' := [.ref l0, .int l1, .int l2, .int l3, .int l4, .int l5, pm_J]) ⟨.inr rfl, .inr rfl, .inr rfl, .inr rfl, .inr rfl, .inr rfl, .inl rfl, trivial⟩ (P_M_first_77 (d := d) k_23 hk_23 (M_first_43 k_23 n) ih h l0 l1 l2 l3 l4 l5 1 hB)
        · rw [if_neg c13q] at hB
          refine r_ic_t (t := 76) f157_69 (by decide) c13q ?_
          exact pm_weak (L' := [.ref l0, .int l1, .int l2, .int l3, .int l4, .int l5, pm_J]) ⟨.inr rfl, .inr rfl, .inr rfl, .inr rfl, .inr rfl, .inr rfl, .inl rfl, trivial⟩ (P_M_first_76 (d := d) k_23 hk_23 (M_first_43 k_23 n) ih h l0 l1 l2 l3 l4 l5 hB)
      · rw [if_neg c9q] at hB
        refine r_if_t (t := 76) f157_55 (by decide) c9q ?_
        exact pm_weak (L' := [.ref l0, .int l1, .int l2, .int l3, .int l4, .int l5, pm_J]) ⟨.inr rfl, .inr rfl, .inr rfl, .inr rfl, .inr rfl, .inr rfl, .inl rfl, trivial⟩ (P_M_first_76 (d := d) k_23 hk_23 (M_first_43 k_23 n) ih h l0 l1 l2 l3 l4 l5 hB)
theorem P_M_first_120 {d : Nat} {h' : pm_H} {r : Int32} (h : pm_H) (l0 : Nat) (l1 : Int32) (l2 : Int32) (l3 : Int32) (hB : M_first_120 h l0 l1 l2 l3 = some (h', r)) : pm_run (pm_ev (d + 7)) 157 120 [.ref l0, .int l1, .int l2, .int l3, pm_J, pm_J, pm_J] [] h (fun r1 h1 => r1 = some (.int r) ∧ h1 = h') := by
  unfold M_first_120 at hB
  refine r_aload_nN f157_120 rfl ?_
  replace hB := grd_some hB
  obtain ⟨g3q, hB⟩ := hB
  replace hB := bn2_some hB
  obtain ⟨h1q, _, eh1q, hB⟩ := hB
  refine r_virtN (as := []) (q := pm_m_150) f157_121 ca_6_228 rfl rfl rfl (cs_len (Nat.le_of_ble_eq_true rfl)) g3q (P_M_lays (d := d + 6) eh1q) ?_
  refine r_iload_n f157_124 rfl ?_
  by_cases c4q : l1 = 0
  · rw [if_pos c4q] at hB
    refine r_if_f 132 f157_125 (by decide) (fun q => q c4q) ?_
    refine r_iload_n f157_128 rfl ?_
    refine r_goto (t := 133) f157_129 (by decide) ?_
    exact r_iret pm_m_157 .int f157_133 rfl rfl rfl (zI hB)
  · rw [if_neg c4q] at hB
    refine r_if_t (t := 132) f157_125 (by decide) c4q ?_
    refine r_iload_n f157_132 rfl ?_
    exact r_iret pm_m_157 .int f157_133 rfl rfl rfl (zI hB)
theorem P_M_first_23 {d : Nat} {h' : pm_H} {r : Int32} (n : Nat) : ∀ (h : pm_H) (l0 : Nat) (l1 : Int32) (l2 : Int32) (l3 : Int32) (l4 : Int32), M_first_23 n h l0 l1 l2 l3 l4 = some (h', r) → pm_run (pm_ev (d + 7)) 157 23 [.ref l0, .int l1, .int l2, .int l3, .int l4, pm_J, pm_J] [] h (fun r1 h1 => r1 = some (.int r) ∧ h1 = h') := by
  induction n with
  | zero => intro h l0 l1 l2 l3 l4 hB; cases hB
  | succ n ih =>
    intro h l0 l1 l2 l3 l4 hB
    unfold M_first_23 at hB
    refine r_iload f157_23 rfl ?_
    refine r_bipush f157_25 cb_40 ?_
    by_cases c1q : 40 < l4
    · rw [if_pos c1q] at hB
      refine r_ic_t (t := 120) f157_27 (by decide) c1q ?_
      exact pm_weak (L' := [.ref l0, .int l1, .int l2, .int l3, pm_J, pm_J, pm_J]) ⟨.inr rfl, .inr rfl, .inr rfl, .inr rfl, .inl rfl, .inl rfl, .inl rfl, trivial⟩ (P_M_first_120 (d := d) h l0 l1 l2 l3 hB)
    · rw [if_neg c1q] at hB
      refine r_ic_f 120 f157_27 (by decide) c1q ?_
      refine r_iload_n f157_30 rfl ?_
      refine r_iconst f157_31 ci_m1 ?_
      by_cases c2q : l2 = (-1)
      · rw [if_pos c2q] at hB
        refine r_ic_f 120 f157_32 (by decide) (fun q => q c2q) ?_
        refine r_aload_nN f157_35 rfl ?_
        replace hB := bnd_some hB
        obtain ⟨x3q, ex3q, hB⟩ := hB
        refine r_getI f157_36 fa_6_83 ex3q ?_
        refine r_iconst f157_39 ci_1 ?_
        refine r_isub f157_40 ?_
        obtain ⟨y4q, hy4q⟩ : ∃ z, z = (x3q - 1) := ⟨_, rfl⟩
        replace hB := nmd_at hy4q hB
        refine r_istore (L' := [.ref l0, .int l1, .int l2, .int l3, .int l4, .int y4q, pm_J]) (x := y4q) f157_41 hy4q (Nat.le_of_ble_eq_true rfl) rfl ?_
        exact pm_weak (L' := [.ref l0, .int l1, .int l2, .int l3, .int l4, .int y4q, pm_J]) ⟨.inr rfl, .inr rfl, .inr rfl, .inr rfl, .inr rfl, .inr rfl, .inl rfl, trivial⟩ (P_M_first_43 (d := d) (M_first_23 n) ih 1000 h l0 l1 l2 l3 l4 y4q hB)
      · rw [if_neg c2q] at hB
        refine r_ic_t (t := 120) f157_32 (by decide) c2q ?_
        exact pm_weak (L' := [.ref l0, .int l1, .int l2, .int l3, pm_J, pm_J, pm_J]) ⟨.inr rfl, .inr rfl, .inr rfl, .inr rfl, .inl rfl, .inl rfl, .inl rfl, trivial⟩ (P_M_first_120 (d := d) h l0 l1 l2 l3 hB)
theorem P_M_first {d : Nat} {h h' : pm_H} {r : Int32} {t : Nat} {a1 : Int32} (hB : M_first h t a1 = some (h', r)) : pm_ev (d + 8) 157 [.ref t, .int a1] h (some (.int r)) h' := by
  unfold M_first at hB
  refine pm_ev_mk (L := [.ref t, .int a1, pm_J, pm_J, pm_J, pm_J, pm_J]) pm_m_157 rfl (Nat.le_of_ble_eq_true rfl) rfl ?_
  refine r_iload_n f157_0 rfl ?_
  refine r_iconst f157_1 ci_0 ?_
  refine r_iconst f157_2 ci_1 ?_
  replace hB := bn2_some hB
  obtain ⟨h1q, x2q, eh1q, hB⟩ := hB
  refine r_statV (as := [.int a1, .int 0, .int 1]) (q := pm_m_109) f157_3 ca_6_79 rfl (by decide) rfl rfl (cs_len (Nat.le_of_ble_eq_true rfl)) (P_M_in (d := d + 6) eh1q) ?_
  by_cases c3q : x2q = 0
  · rw [if_pos c3q] at hB
    refine r_if_f 12 f157_6 (by decide) (fun q => q c3q) ?_
    refine r_bipush f157_9 cb_m2 ?_
    exact r_iret pm_m_157 .int f157_11 rfl rfl rfl (zI hB)
  · rw [if_neg c3q] at hB
    refine r_if_t (t := 12) f157_6 (by decide) c3q ?_
    refine r_iconst f157_12 ci_m1 ?_
    refine r_istore_n (L' := [.ref t, .int a1, .int (-1), pm_J, pm_J, pm_J, pm_J]) (x := (-1)) f157_13 rfl (Nat.le_of_ble_eq_true rfl) rfl ?_
    refine r_iconst f157_14 ci_m1 ?_
    refine r_istore_n (L' := [.ref t, .int a1, .int (-1), .int (-1), pm_J, pm_J, pm_J]) (x := (-1)) f157_15 rfl (Nat.le_of_ble_eq_true rfl) rfl ?_
    refine r_aload_nN f157_16 rfl ?_
    replace hB := grd_some hB
    obtain ⟨g6q, hB⟩ := hB
    replace hB := bn2_some hB
    obtain ⟨h4q, _, eh4q, hB⟩ := hB
    refine r_virtN (as := []) (q := pm_m_149) f157_17 ca_6_219 rfl rfl rfl (cs_len (Nat.le_of_ble_eq_true rfl)) g6q (P_M_keeps (d := d + 6) eh4q) ?_
    refine r_iconst f157_20 ci_0 ?_
    refine r_istore (L' := [.ref t, .int a1, .int (-1), .int (-1), .int 0, pm_J, pm_J]) (x := 0) f157_21 rfl (Nat.le_of_ble_eq_true rfl) rfl ?_
    exact pm_weak (L' := [.ref t, .int a1, .int (-1), .int (-1), .int 0, pm_J, pm_J]) ⟨.inr rfl, .inr rfl, .inr rfl, .inr rfl, .inr rfl, .inl rfl, .inl rfl, trivial⟩ (P_M_first_23 (d := d) 1000 h4q t a1 (-1) (-1) 0 hB)
theorem P_M_buriedNow {d : Nat} {h h' : pm_H} {r : Int32} {t : Nat} {a1 : Int32} (hB : M_buriedNow h t a1 = some (h', r)) : pm_ev (d + 9) 158 [.ref t, .int a1] h (some (.int r)) h' := by
  unfold M_buriedNow at hB
  refine pm_ev_mk (L := [.ref t, .int a1, pm_J]) pm_m_158 rfl (Nat.le_of_ble_eq_true rfl) rfl ?_
  refine r_aload_nN f158_0 rfl ?_
  replace hB := grd_some hB
  obtain ⟨g3q, hB⟩ := hB
  replace hB := bn2_some hB
  obtain ⟨h1q, _, eh1q, hB⟩ := hB
  refine r_virtN (as := []) (q := pm_m_149) f158_1 ca_6_219 rfl rfl rfl (cs_len (Nat.le_of_ble_eq_true rfl)) g3q (P_M_keeps (d := d + 7) eh1q) ?_
  refine r_aload_nN f158_4 rfl ?_
  refine r_iload_n f158_5 rfl ?_
  replace hB := grd_some hB
  obtain ⟨g6q, hB⟩ := hB
  replace hB := bn2_some hB
  obtain ⟨h4q, x5q, eh4q, hB⟩ := hB
  refine r_virtV (as := [.int a1]) (q := pm_m_151) f158_6 ca_6_222 rfl rfl rfl (cs_len (Nat.le_of_ble_eq_true rfl)) g6q (P_M_goes (d := d + 0) eh4q) ?_
  refine r_istore_n (L' := [.ref t, .int a1, .int x5q]) (x := x5q) f158_9 rfl (Nat.le_of_ble_eq_true rfl) rfl ?_
  refine r_aload_nN f158_10 rfl ?_
  replace hB := grd_some hB
  obtain ⟨g9q, hB⟩ := hB
  replace hB := bn2_some hB
  obtain ⟨h7q, _, eh7q, hB⟩ := hB
  refine r_virtN (as := []) (q := pm_m_150) f158_11 ca_6_228 rfl rfl rfl (cs_len (Nat.le_of_ble_eq_true rfl)) g9q (P_M_lays (d := d + 7) eh7q) ?_
  refine r_iload_n f158_14 rfl ?_
  exact r_iret pm_m_158 .int f158_15 rfl rfl rfl (zI hB)
theorem P_M_sow_107 {d : Nat} {h' : pm_H} {r : Int32} (k_40 : pm_H → Nat → Int32 → Int32 → Int64 → Int32 → Int32 → Int32 → Option (pm_H × Int32)) (hk_40 : ∀ (h : pm_H) (l0 : Nat) (l1 : Int32) (l2 : Int32) (l3 : Int64) (l5 : Int32) (l6 : Int32) (l7 : Int32), k_40 h l0 l1 l2 l3 l5 l6 l7 = some (h', r) → pm_run (pm_ev (d + 9)) 159 40 [.ref l0, .int l1, .int l2, .long l3, pm_J, .int l5, .int l6, .int l7, pm_J] [] h (fun r1 h1 => r1 = some (.int r) ∧ h1 = h')) (h : pm_H) (l0 : Nat) (l1 : Int32) (l2 : Int32) (l3 : Int64) (l5 : Int32) (l6 : Int32) (l7 : Int32) (hB : M_sow_107 k_40 h l0 l1 l2 l3 l5 l6 l7 = some (h', r)) : pm_run (pm_ev (d + 9)) 159 107 [.ref l0, .int l1, .int l2, .long l3, pm_J, .int l5, .int l6, .int l7, pm_J] [] h (fun r1 h1 => r1 = some (.int r) ∧ h1 = h') := by
  unfold M_sow_107 at hB
  obtain ⟨y1q, hy1q⟩ : ∃ z, z = l7 + 1 := ⟨_, rfl⟩
  replace hB := nmd_at hy1q hB
  refine r_iinc (L' := [.ref l0, .int l1, .int l2, .long l3, pm_J, .int l5, .int l6, .int y1q, pm_J]) (x := y1q) f159_107 rfl (hy1q.trans (congrArg (l7 + ·) ci_1.symm)) rfl ?_
  refine r_goto (t := 40) f159_110 (by decide) ?_
  exact pm_weak (L' := [.ref l0, .int l1, .int l2, .long l3, pm_J, .int l5, .int l6, .int y1q, pm_J]) ⟨.inr rfl, .inr rfl, .inr rfl, .inr rfl, .inl rfl, .inr rfl, .inr rfl, .inr rfl, .inl rfl, trivial⟩ (hk_40 h l0 l1 l2 l3 l5 l6 y1q hB)
theorem P_M_sow_105 {d : Nat} {h' : pm_H} {r : Int32} (k_40 : pm_H → Nat → Int32 → Int32 → Int64 → Int32 → Int32 → Int32 → Option (pm_H × Int32)) (hk_40 : ∀ (h : pm_H) (l0 : Nat) (l1 : Int32) (l2 : Int32) (l3 : Int64) (l5 : Int32) (l6 : Int32) (l7 : Int32), k_40 h l0 l1 l2 l3 l5 l6 l7 = some (h', r) → pm_run (pm_ev (d + 9)) 159 40 [.ref l0, .int l1, .int l2, .long l3, pm_J, .int l5, .int l6, .int l7, pm_J] [] h (fun r1 h1 => r1 = some (.int r) ∧ h1 = h')) (h : pm_H) (l0 : Nat) (l1 : Int32) (l2 : Int32) (l3 : Int64) (l5 : Int32) (l7 : Int32) (s0 : Int32) (hB : M_sow_105 k_40 h l0 l1 l2 l3 l5 l7 s0 = some (h', r)) : pm_run (pm_ev (d + 9)) 159 105 [.ref l0, .int l1, .int l2, .long l3, pm_J, .int l5, pm_J, .int l7, pm_J] [.int s0] h (fun r1 h1 => r1 = some (.int r) ∧ h1 = h') := by
  unfold M_sow_105 at hB
  refine r_istore (L' := [.ref l0, .int l1, .int l2, .long l3, pm_J, .int l5, .int s0, .int l7, pm_J]) (x := s0) f159_105 rfl (Nat.le_of_ble_eq_true rfl) rfl ?_
  exact pm_weak (L' := [.ref l0, .int l1, .int l2, .long l3, pm_J, .int l5, .int s0, .int l7, pm_J]) ⟨.inr rfl, .inr rfl, .inr rfl, .inr rfl, .inl rfl, .inr rfl, .inr rfl, .inr rfl, .inl rfl, trivial⟩ (P_M_sow_107 (d := d) k_40 hk_40 h l0 l1 l2 l3 l5 s0 l7 hB)
theorem P_M_sow_89 {d : Nat} {h' : pm_H} {r : Int32} (k_40 : pm_H → Nat → Int32 → Int32 → Int64 → Int32 → Int32 → Int32 → Option (pm_H × Int32)) (hk_40 : ∀ (h : pm_H) (l0 : Nat) (l1 : Int32) (l2 : Int32) (l3 : Int64) (l5 : Int32) (l6 : Int32) (l7 : Int32), k_40 h l0 l1 l2 l3 l5 l6 l7 = some (h', r) → pm_run (pm_ev (d + 9)) 159 40 [.ref l0, .int l1, .int l2, .long l3, pm_J, .int l5, .int l6, .int l7, pm_J] [] h (fun r1 h1 => r1 = some (.int r) ∧ h1 = h')) (h : pm_H) (l0 : Nat) (l1 : Int32) (l2 : Int32) (l3 : Int64) (l6 : Int32) (l7 : Int32) (l8 : Int32) (s0 : Int32) (hB : M_sow_89 k_40 h l0 l1 l2 l3 l6 l7 l8 s0 = some (h', r)) : pm_run (pm_ev (d + 9)) 159 89 [.ref l0, .int l1, .int l2, .long l3, pm_J, pm_J, .int l6, .int l7, .int l8] [.int s0] h (fun r1 h1 => r1 = some (.int r) ∧ h1 = h') := by
  unfold M_sow_89 at hB
  refine r_istore (L' := [.ref l0, .int l1, .int l2, .long l3, pm_J, .int s0, .int l6, .int l7, .int l8]) (x := s0) f159_89 rfl (Nat.le_of_ble_eq_true rfl) rfl ?_
  refine r_iload f159_91 rfl ?_
  refine r_iload f159_93 rfl ?_
  by_cases c1q : l6 ≤ l8
  · rw [if_pos c1q] at hB
    refine r_ic_t (t := 103) f159_95 (by decide) c1q ?_
    refine r_iload f159_103 rfl ?_
    exact pm_weak (L' := [.ref l0, .int l1, .int l2, .long l3, pm_J, .int s0, pm_J, .int l7, pm_J]) ⟨.inr rfl, .inr rfl, .inr rfl, .inr rfl, .inl rfl, .inr rfl, .inl rfl, .inr rfl, .inl rfl, trivial⟩ (P_M_sow_105 (d := d) k_40 hk_40 h l0 l1 l2 l3 s0 l7 l6 hB)
  · rw [if_neg c1q] at hB
    refine r_ic_f 103 f159_95 (by decide) c1q ?_
    refine r_iload f159_98 rfl ?_
    refine r_goto (t := 105) f159_100 (by decide) ?_
    exact pm_weak (L' := [.ref l0, .int l1, .int l2, .long l3, pm_J, .int s0, pm_J, .int l7, pm_J]) ⟨.inr rfl, .inr rfl, .inr rfl, .inr rfl, .inl rfl, .inr rfl, .inl rfl, .inr rfl, .inl rfl, trivial⟩ (P_M_sow_105 (d := d) k_40 hk_40 h l0 l1 l2 l3 s0 l7 l8 hB)
theorem P_M_sow_40 {d : Nat} {h' : pm_H} {r : Int32} (n : Nat) : ∀ (h : pm_H) (l0 : Nat) (l1 : Int32) (l2 : Int32) (l3 : Int64) (l5 : Int32) (l6 : Int32) (l7 : Int32), M_sow_40 n h l0 l1 l2 l3 l5 l6 l7 = some (h', r) → pm_run (pm_ev (d + 9)) 159 40 [.ref l0, .int l1, .int l2, .long l3, pm_J, .int l5, .int l6, .int l7, pm_J] [] h (fun r1 h1 => r1 = some (.int r) ∧ h1 = h') := by
  induction n with
  | zero => intro h l0 l1 l2 l3 l5 l6 l7 hB; cases hB
  | succ n ih =>
    intro h l0 l1 l2 l3 l5 l6 l7 hB
    unfold M_sow_40 at hB
    refine r_iload f159_40 rfl ?_
    refine r_bipush f159_42 cb_40 ?_
    by_cases c1q : 40 ≤ l7
    · rw [if_pos c1q] at hB
      refine r_ic_t (t := 113) f159_44 (by decide) c1q ?_
      refine r_aload_nN f159_113 rfl ?_
      refine r_lload_n f159_114 rfl ?_
      replace hB := bnd_some hB
      obtain ⟨h2q, eh2q, hB⟩ := hB
      refine r_put f159_115 fa_6_94 ty_6_6 rfl rfl (no_fin (nf_6_6)) eh2q ?_
      refine r_iload_n f159_118 rfl ?_
      by_cases c3q : l2 = 0
      · rw [if_pos c3q] at hB
        refine r_if_f 127 f159_119 (by decide) (fun q => q c3q) ?_
        refine r_iload f159_122 rfl ?_
        refine r_goto (t := 129) f159_124 (by decide) ?_
        exact r_iret pm_m_159 .int f159_129 rfl rfl rfl (zI hB)
      · rw [if_neg c3q] at hB
        refine r_if_t (t := 127) f159_119 (by decide) c3q ?_
        refine r_iload f159_127 rfl ?_
        exact r_iret pm_m_159 .int f159_129 rfl rfl rfl (zI hB)
    · rw [if_neg c1q] at hB
      refine r_ic_f 113 f159_44 (by decide) c1q ?_
      refine r_lload_n f159_47 rfl ?_
      refine r_iload f159_48 rfl ?_
      refine r_lshr f159_50 ?_
      refine r_lconst f159_51 cl_1 ?_
      refine r_land f159_52 ?_
      refine r_lconst f159_53 cl_0 ?_
      refine r_lcmp f159_54 ?_
      by_cases c4q : (lg_cmp ((l3 >>> ((l7 : Int32).toInt64 &&& 63)) &&& 1) 0) = 0
      · rw [if_pos c4q] at hB
        refine r_if_f 107 f159_55 (by decide) (fun q => q c4q) ?_
        refine r_aload_nN f159_58 rfl ?_
        refine r_lload_n f159_59 rfl ?_
        refine r_lconst f159_60 cl_1 ?_
        refine r_iload f159_61 rfl ?_
        refine r_lshl f159_63 ?_
        refine r_lor f159_64 ?_
        replace hB := bnd_some hB
        obtain ⟨h5q, eh5q, hB⟩ := hB
        refine r_put f159_65 fa_6_94 ty_6_6 rfl rfl (no_fin (nf_6_6)) eh5q ?_
        refine r_aload_nN f159_68 rfl ?_
        refine r_iload_n f159_69 rfl ?_
        replace hB := grd_some hB
        obtain ⟨g8q, hB⟩ := hB
        replace hB := bn2_some hB
        obtain ⟨h6q, x7q, eh6q, hB⟩ := hB
        refine r_virtV (as := [.int l1]) (q := pm_m_158) f159_70 ca_6_234 rfl rfl rfl (cs_len (Nat.le_of_ble_eq_true rfl)) g8q (P_M_buriedNow (d := d + 0) eh6q) ?_
        refine r_istore (L' := [.ref l0, .int l1, .int l2, .long l3, pm_J, .int l5, .int l6, .int l7, .int x7q]) (x := x7q) f159_73 rfl (Nat.le_of_ble_eq_true rfl) rfl ?_
        refine r_iload f159_75 rfl ?_
        refine r_iload f159_77 rfl ?_
        by_cases c9q : l6 ≤ x7q
        · rw [if_pos c9q] at hB
          refine r_ic_t (t := 87) f159_79 (by decide) c9q ?_
          refine r_iload f159_87 rfl ?_
          exact pm_weak (L' := [.ref l0, .int l1, .int l2, .long l3, pm_J, pm_J, .int l6, .int l7, .int x7q]) ⟨.inr rfl, .inr rfl, .inr rfl, .inr rfl, .inl rfl, .inl rfl, .inr rfl, .inr rfl, .inr rfl, trivial⟩ (P_M_sow_89 (d := d) (M_sow_40 n) ih h6q l0 l1 l2 l3 l6 l7 x7q l5 hB)
        · rw [if_neg c9q] at hB
          refine r_ic_f 87 f159_79 (by decide) c9q ?_
          refine r_iload f159_82 rfl ?_
          refine r_goto (t := 89) f159_84 (by decide) ?_
          exact pm_weak (L' := [.ref l0, .int l1, .int l2, .long l3, pm_J, pm_J, .int l6, .int l7, .int x7q]) ⟨.inr rfl, .inr rfl, .inr rfl, .inr rfl, .inl rfl, .inl rfl, .inr rfl, .inr rfl, .inr rfl, trivial⟩ (P_M_sow_89 (d := d) (M_sow_40 n) ih h6q l0 l1 l2 l3 l6 l7 x7q l7 hB)
      · rw [if_neg c4q] at hB
        refine r_if_t (t := 107) f159_55 (by decide) c4q ?_
        exact pm_weak (L' := [.ref l0, .int l1, .int l2, .long l3, pm_J, .int l5, .int l6, .int l7, pm_J]) ⟨.inr rfl, .inr rfl, .inr rfl, .inr rfl, .inl rfl, .inr rfl, .inr rfl, .inr rfl, .inl rfl, trivial⟩ (P_M_sow_107 (d := d) (M_sow_40 n) ih h l0 l1 l2 l3 l5 l6 l7 hB)
theorem P_M_sow {d : Nat} {h h' : pm_H} {r : Int32} {t : Nat} {a1 : Int32} {a2 : Int32} (hB : M_sow h t a1 a2 = some (h', r)) : pm_ev (d + 10) 159 [.ref t, .int a1, .int a2] h (some (.int r)) h' := by
  unfold M_sow at hB
  refine pm_ev_mk (L := [.ref t, .int a1, .int a2, pm_J, pm_J, pm_J, pm_J, pm_J, pm_J]) pm_m_159 rfl (Nat.le_of_ble_eq_true rfl) rfl ?_
  refine r_iload_n f159_0 rfl ?_
  refine r_iconst f159_1 ci_0 ?_
  refine r_bipush f159_2 cb_20 ?_
  replace hB := bn2_some hB
  obtain ⟨h1q, x2q, eh1q, hB⟩ := hB
  refine r_statV (as := [.int a1, .int 0, .int 20]) (q := pm_m_109) f159_4 ca_6_79 rfl (by decide) rfl rfl (cs_len (Nat.le_of_ble_eq_true rfl)) (P_M_in (d := d + 8) eh1q) ?_
  by_cases c3q : x2q = 0
  · rw [if_pos c3q] at hB
    refine r_if_t (t := 19) f159_7 (by decide) c3q ?_
    refine r_bipush f159_19 cb_m2 ?_
    exact r_iret pm_m_159 .int f159_21 rfl rfl rfl (zI hB)
  · rw [if_neg c3q] at hB
    refine r_if_f 19 f159_7 (by decide) c3q ?_
    refine r_iload_n f159_10 rfl ?_
    refine r_iconst f159_11 ci_0 ?_
    refine r_iconst f159_12 ci_1 ?_
    replace hB := bn2_some hB
    obtain ⟨h4q, x5q, eh4q, hB⟩ := hB
    refine r_statV (as := [.int a2, .int 0, .int 1]) (q := pm_m_109) f159_13 ca_6_79 rfl (by decide) rfl rfl (cs_len (Nat.le_of_ble_eq_true rfl)) (P_M_in (d := d + 8) eh4q) ?_
    by_cases c6q : x5q = 0
    · rw [if_pos c6q] at hB
      refine r_if_f 22 f159_16 (by decide) (fun q => q c6q) ?_
      refine r_bipush f159_19 cb_m2 ?_
      exact r_iret pm_m_159 .int f159_21 rfl rfl rfl (zI hB)
    · rw [if_neg c6q] at hB
      refine r_if_t (t := 22) f159_16 (by decide) c6q ?_
      refine r_aload_nN f159_22 rfl ?_
      replace hB := bnd_some hB
      obtain ⟨x7q, ex7q, hB⟩ := hB
      refine r_getJ f159_23 fa_6_94 ex7q ?_
      refine r_lstore_n (L' := [.ref t, .int a1, .int a2, .long x7q, pm_J, pm_J, pm_J, pm_J, pm_J]) (x := x7q) f159_26 rfl (Nat.le_of_ble_eq_true rfl) rfl ?_
      refine r_iconst f159_27 ci_m1 ?_
      refine r_istore (L' := [.ref t, .int a1, .int a2, .long x7q, pm_J, .int (-1), pm_J, pm_J, pm_J]) (x := (-1)) f159_28 rfl (Nat.le_of_ble_eq_true rfl) rfl ?_
      refine r_aload_nN f159_30 rfl ?_
      refine r_iload_n f159_31 rfl ?_
      replace hB := grd_some hB
      obtain ⟨g10q, hB⟩ := hB
      replace hB := bn2_some hB
      obtain ⟨h8q, x9q, eh8q, hB⟩ := hB
      refine r_virtV (as := [.int a1]) (q := pm_m_158) f159_32 ca_6_234 rfl rfl rfl (cs_len (Nat.le_of_ble_eq_true rfl)) g10q (P_M_buriedNow (d := d + 0) eh8q) ?_
      refine r_istore (L' := [.ref t, .int a1, .int a2, .long x7q, pm_J, .int (-1), .int x9q, pm_J, pm_J]) (x := x9q) f159_35 rfl (Nat.le_of_ble_eq_true rfl) rfl ?_
      refine r_iconst f159_37 ci_0 ?_
      refine r_istore (L' := [.ref t, .int a1, .int a2, .long x7q, pm_J, .int (-1), .int x9q, .int 0, pm_J]) (x := 0) f159_38 rfl (Nat.le_of_ble_eq_true rfl) rfl ?_
      exact pm_weak (L' := [.ref t, .int a1, .int a2, .long x7q, pm_J, .int (-1), .int x9q, .int 0, pm_J]) ⟨.inr rfl, .inr rfl, .inr rfl, .inr rfl, .inl rfl, .inr rfl, .inr rfl, .inr rfl, .inl rfl, trivial⟩ (P_M_sow_40 (d := d) 1000 h8q t a1 a2 x7q (-1) x9q 0 hB)
theorem P_M_move_100 {d : Nat} {h' : pm_H} {r : Int32} (k_49 : pm_H → Nat → Int32 → Int32 → Int32 → Option (pm_H × Int32)) (hk_49 : ∀ (h : pm_H) (l0 : Nat) (l1 : Int32) (l2 : Int32) (l3 : Int32), k_49 h l0 l1 l2 l3 = some (h', r) → pm_run (pm_ev (d + 7)) 160 49 [.ref l0, .int l1, .int l2, .int l3, pm_J, pm_J, pm_J, pm_J, pm_J, pm_J] [] h (fun r1 h1 => r1 = some (.int r) ∧ h1 = h')) (k_68 : pm_H → Nat → Int32 → Int32 → Int32 → Int64 → Int32 → Option (pm_H × Int32)) (hk_68 : ∀ (h : pm_H) (l0 : Nat) (l1 : Int32) (l2 : Int32) (l3 : Int32) (l4 : Int64) (l6 : Int32), k_68 h l0 l1 l2 l3 l4 l6 = some (h', r) → pm_run (pm_ev (d + 7)) 160 68 [.ref l0, .int l1, .int l2, .int l3, .long l4, pm_J, .int l6, pm_J, pm_J, pm_J] [] h (fun r1 h1 => r1 = some (.int r) ∧ h1 = h')) (h : pm_H) (l0 : Nat) (l1 : Int32) (l2 : Int32) (l3 : Int32) (l4 : Int64) (l6 : Int32) (s0 : Int32) (s1 : Int32) (s2 : Int32) (s3 : Option Nat) (hB : M_move_100 k_49 k_68 h l0 l1 l2 l3 l4 l6 s0 s1 s2 s3 = some (h', r)) : pm_run (pm_ev (d + 7)) 160 100 [.ref l0, .int l1, .int l2, .int l3, .long l4, pm_J, .int l6, pm_J, pm_J, pm_J] [.int s0, .int s1, .int s2, va_rf s3] h (fun r1 h1 => r1 = some (.int r) ∧ h1 = h') := by
  unfold M_move_100 at hB
  refine r_iadd f160_100 ?_
  replace hB := bnd_some hB
  obtain ⟨u1q, rfl, hB⟩ := hB
  replace hB := bnd_some hB
  obtain ⟨h2q, eh2q, hB⟩ := hB
  refine r_sI f160_101 eh2q ?_
  obtain ⟨y3q, hy3q⟩ : ∃ z, z = l6 + 1 := ⟨_, rfl⟩
  replace hB := nmd_at hy3q hB
  refine r_iinc (L' := [.ref l0, .int l1, .int l2, .int l3, .long l4, pm_J, .int y3q, pm_J, pm_J, pm_J]) (x := y3q) f160_102 rfl (hy3q.trans (congrArg (l6 + ·) ci_1.symm)) rfl ?_
  refine r_goto (t := 68) f160_105 (by decide) ?_
  exact pm_weak (L' := [.ref l0, .int l1, .int l2, .int l3, .long l4, pm_J, .int y3q, pm_J, pm_J, pm_J]) ⟨.inr rfl, .inr rfl, .inr rfl, .inr rfl, .inr rfl, .inl rfl, .inr rfl, .inl rfl, .inl rfl, .inl rfl, trivial⟩ (hk_68 h2q l0 l1 l2 l3 l4 y3q hB)
theorem P_M_move_68 {d : Nat} {h' : pm_H} {r : Int32} (k_49 : pm_H → Nat → Int32 → Int32 → Int32 → Option (pm_H × Int32)) (hk_49 : ∀ (h : pm_H) (l0 : Nat) (l1 : Int32) (l2 : Int32) (l3 : Int32), k_49 h l0 l1 l2 l3 = some (h', r) → pm_run (pm_ev (d + 7)) 160 49 [.ref l0, .int l1, .int l2, .int l3, pm_J, pm_J, pm_J, pm_J, pm_J, pm_J] [] h (fun r1 h1 => r1 = some (.int r) ∧ h1 = h')) (n : Nat) : ∀ (h : pm_H) (l0 : Nat) (l1 : Int32) (l2 : Int32) (l3 : Int32) (l4 : Int64) (l6 : Int32), M_move_68 k_49 n h l0 l1 l2 l3 l4 l6 = some (h', r) → pm_run (pm_ev (d + 7)) 160 68 [.ref l0, .int l1, .int l2, .int l3, .long l4, pm_J, .int l6, pm_J, pm_J, pm_J] [] h (fun r1 h1 => r1 = some (.int r) ∧ h1 = h') := by
  induction n with
  | zero => intro h l0 l1 l2 l3 l4 l6 hB; cases hB
  | succ n ih =>
    intro h l0 l1 l2 l3 l4 l6 hB
    unfold M_move_68 at hB
    refine r_iload f160_68 rfl ?_
    refine r_bipush f160_70 cb_40 ?_
    by_cases c1q : 40 ≤ l6
    · rw [if_pos c1q] at hB
      refine r_ic_t (t := 108) f160_72 (by decide) c1q ?_
      obtain ⟨y2q, hy2q⟩ : ∃ z, z = l3 + 1 := ⟨_, rfl⟩
      replace hB := nmd_at hy2q hB
      refine r_iinc (L' := [.ref l0, .int l1, .int l2, .int y2q, .long l4, pm_J, .int l6, pm_J, pm_J, pm_J]) (x := y2q) f160_108 rfl (hy2q.trans (congrArg (l3 + ·) ci_1.symm)) rfl ?_
      refine r_goto (t := 49) f160_111 (by decide) ?_
      exact pm_weak (L' := [.ref l0, .int l1, .int l2, .int y2q, pm_J, pm_J, pm_J, pm_J, pm_J, pm_J]) ⟨.inr rfl, .inr rfl, .inr rfl, .inr rfl, .inl rfl, .inl rfl, .inl rfl, .inl rfl, .inl rfl, .inl rfl, trivial⟩ (hk_49 h l0 l1 l2 y2q hB)
    · rw [if_neg c1q] at hB
      refine r_ic_f 108 f160_72 (by decide) c1q ?_
      refine r_aload_nN f160_75 rfl ?_
      replace hB := bnd_some hB
      obtain ⟨x3q, ex3q, hB⟩ := hB
      refine r_getA f160_76 fa_6_68 ex3q ?_
      refine r_iload f160_79 rfl ?_
      replace hB := bnd_some hB
      obtain ⟨u4q, rfl, hB⟩ := hB
      refine r_dup2 (a := u4q) f160_81 ?_
      replace hB := bnd_some hB
      obtain ⟨x5q, ex5q, hB⟩ := hB
      refine r_aI f160_82 ex5q ?_
      refine r_lload f160_83 rfl ?_
      refine r_iload f160_85 rfl ?_
      refine r_lshr f160_87 ?_
      refine r_lconst f160_88 cl_1 ?_
      refine r_land f160_89 ?_
      refine r_lconst f160_90 cl_1 ?_
      refine r_lcmp f160_91 ?_
      by_cases c6q : (lg_cmp ((l4 >>> ((l6 : Int32).toInt64 &&& 63)) &&& 1) 1) = 0
      · rw [if_pos c6q] at hB
        refine r_if_f 99 f160_92 (by decide) (fun q => q c6q) ?_
        refine r_iconst f160_95 ci_1 ?_
        refine r_goto (t := 100) f160_96 (by decide) ?_
        exact pm_weak (L' := [.ref l0, .int l1, .int l2, .int l3, .long l4, pm_J, .int l6, pm_J, pm_J, pm_J]) ⟨.inr rfl, .inr rfl, .inr rfl, .inr rfl, .inr rfl, .inl rfl, .inr rfl, .inl rfl, .inl rfl, .inl rfl, trivial⟩ (P_M_move_100 (d := d) k_49 hk_49 (M_move_68 k_49 n) ih h l0 l1 l2 l3 l4 l6 1 x5q l6 (some u4q) hB)
      · rw [if_neg c6q] at hB
        refine r_if_t (t := 99) f160_92 (by decide) c6q ?_
        refine r_iconst f160_99 ci_0 ?_
        exact pm_weak (L' := [.ref l0, .int l1, .int l2, .int l3, .long l4, pm_J, .int l6, pm_J, pm_J, pm_J]) ⟨.inr rfl, .inr rfl, .inr rfl, .inr rfl, .inr rfl, .inl rfl, .inr rfl, .inl rfl, .inl rfl, .inl rfl, trivial⟩ (P_M_move_100 (d := d) k_49 hk_49 (M_move_68 k_49 n) ih h l0 l1 l2 l3 l4 l6 0 x5q l6 (some u4q) hB)
theorem P_M_move_156 {d : Nat} {h' : pm_H} {r : Int32} (k_123 : pm_H → Nat → Int32 → Int32 → Int32 → Option (pm_H × Int32)) (hk_123 : ∀ (h : pm_H) (l0 : Nat) (l2 : Int32) (l3 : Int32) (l4 : Int32), k_123 h l0 l2 l3 l4 = some (h', r) → pm_run (pm_ev (d + 7)) 160 123 [.ref l0, pm_J, .int l2, .int l3, .int l4, pm_J, pm_J, pm_J, pm_J, pm_J] [] h (fun r1 h1 => r1 = some (.int r) ∧ h1 = h')) (h : pm_H) (l0 : Nat) (l2 : Int32) (l4 : Int32) (s0 : Int32) (s1 : Int32) (hB : M_move_156 k_123 h l0 l2 l4 s0 s1 = some (h', r)) : pm_run (pm_ev (d + 7)) 160 156 [.ref l0, pm_J, .int l2, pm_J, .int l4, pm_J, pm_J, pm_J, pm_J, pm_J] [.int s0, .int s1] h (fun r1 h1 => r1 = some (.int r) ∧ h1 = h') := by
  unfold M_move_156 at hB
  refine r_iadd f160_156 ?_
  obtain ⟨y1q, hy1q⟩ : ∃ z, z = (s1 + s0) := ⟨_, rfl⟩
  replace hB := nmd_at hy1q hB
  refine r_istore_n (L' := [.ref l0, pm_J, .int l2, .int y1q, .int l4, pm_J, pm_J, pm_J, pm_J, pm_J]) (x := y1q) f160_157 hy1q (Nat.le_of_ble_eq_true rfl) rfl ?_
  obtain ⟨y2q, hy2q⟩ : ∃ z, z = l4 + 1 := ⟨_, rfl⟩
  replace hB := nmd_at hy2q hB
  refine r_iinc (L' := [.ref l0, pm_J, .int l2, .int y1q, .int y2q, pm_J, pm_J, pm_J, pm_J, pm_J]) (x := y2q) f160_158 rfl (hy2q.trans (congrArg (l4 + ·) ci_1.symm)) rfl ?_
  refine r_goto (t := 123) f160_161 (by decide) ?_
  exact pm_weak (L' := [.ref l0, pm_J, .int l2, .int y1q, .int y2q, pm_J, pm_J, pm_J, pm_J, pm_J]) ⟨.inr rfl, .inl rfl, .inr rfl, .inr rfl, .inr rfl, .inl rfl, .inl rfl, .inl rfl, .inl rfl, .inl rfl, trivial⟩ (hk_123 h l0 l2 y1q y2q hB)
theorem P_M_move_290 {d : Nat} {h' : pm_H} {r : Int32} (k_173 : pm_H → Nat → Int32 → Int32 → Int32 → Int32 → Int32 → Option (pm_H × Int32)) (hk_173 : ∀ (h : pm_H) (l0 : Nat) (l2 : Int32) (l3 : Int32) (l4 : Int32) (l5 : Int32) (l6 : Int32), k_173 h l0 l2 l3 l4 l5 l6 = some (h', r) → pm_run (pm_ev (d + 7)) 160 173 [.ref l0, pm_J, .int l2, .int l3, .int l4, .int l5, .int l6, pm_J, pm_J, pm_J] [] h (fun r1 h1 => r1 = some (.int r) ∧ h1 = h')) (k_183 : pm_H → Nat → Int32 → Int32 → Int32 → Int32 → Int32 → Int32 → Option (pm_H × Int32)) (hk_183 : ∀ (h : pm_H) (l0 : Nat) (l2 : Int32) (l3 : Int32) (l4 : Int32) (l5 : Int32) (l6 : Int32) (l7 : Int32), k_183 h l0 l2 l3 l4 l5 l6 l7 = some (h', r) → pm_run (pm_ev (d + 7)) 160 183 [.ref l0, pm_J, .int l2, .int l3, .int l4, .int l5, .int l6, .int l7, pm_J, pm_J] [] h (fun r1 h1 => r1 = some (.int r) ∧ h1 = h')) (h : pm_H) (l0 : Nat) (l2 : Int32) (l3 : Int32) (l4 : Int32) (l6 : Int32) (l7 : Int32) (s0 : Int32) (hB : M_move_290 k_173 k_183 h l0 l2 l3 l4 l6 l7 s0 = some (h', r)) : pm_run (pm_ev (d + 7)) 160 290 [.ref l0, pm_J, .int l2, .int l3, .int l4, pm_J, .int l6, .int l7, pm_J, pm_J] [.int s0] h (fun r1 h1 => r1 = some (.int r) ∧ h1 = h') := by
  unfold M_move_290 at hB
  refine r_istore (L' := [.ref l0, pm_J, .int l2, .int l3, .int l4, .int s0, .int l6, .int l7, pm_J, pm_J]) (x := s0) f160_290 rfl (Nat.le_of_ble_eq_true rfl) rfl ?_
  obtain ⟨y1q, hy1q⟩ : ∃ z, z = l7 + 1 := ⟨_, rfl⟩
  replace hB := nmd_at hy1q hB
  refine r_iinc (L' := [.ref l0, pm_J, .int l2, .int l3, .int l4, .int s0, .int l6, .int y1q, pm_J, pm_J]) (x := y1q) f160_292 rfl (hy1q.trans (congrArg (l7 + ·) ci_1.symm)) rfl ?_
  refine r_goto (t := 183) f160_295 (by decide) ?_
  exact pm_weak (L' := [.ref l0, pm_J, .int l2, .int l3, .int l4, .int s0, .int l6, .int y1q, pm_J, pm_J]) ⟨.inr rfl, .inl rfl, .inr rfl, .inr rfl, .inr rfl, .inr rfl, .inr rfl, .inr rfl, .inl rfl, .inl rfl, trivial⟩ (hk_183 h l0 l2 l3 l4 s0 l6 y1q hB)
theorem P_M_move_288 {d : Nat} {h' : pm_H} {r : Int32} (k_173 : pm_H → Nat → Int32 → Int32 → Int32 → Int32 → Int32 → Option (pm_H × Int32)) (hk_173 : ∀ (h : pm_H) (l0 : Nat) (l2 : Int32) (l3 : Int32) (l4 : Int32) (l5 : Int32) (l6 : Int32), k_173 h l0 l2 l3 l4 l5 l6 = some (h', r) → pm_run (pm_ev (d + 7)) 160 173 [.ref l0, pm_J, .int l2, .int l3, .int l4, .int l5, .int l6, pm_J, pm_J, pm_J] [] h (fun r1 h1 => r1 = some (.int r) ∧ h1 = h')) (k_183 : pm_H → Nat → Int32 → Int32 → Int32 → Int32 → Int32 → Int32 → Option (pm_H × Int32)) (hk_183 : ∀ (h : pm_H) (l0 : Nat) (l2 : Int32) (l3 : Int32) (l4 : Int32) (l5 : Int32) (l6 : Int32) (l7 : Int32), k_183 h l0 l2 l3 l4 l5 l6 l7 = some (h', r) → pm_run (pm_ev (d + 7)) 160 183 [.ref l0, pm_J, .int l2, .int l3, .int l4, .int l5, .int l6, .int l7, pm_J, pm_J] [] h (fun r1 h1 => r1 = some (.int r) ∧ h1 = h')) (h : pm_H) (l0 : Nat) (l2 : Int32) (l3 : Int32) (l4 : Int32) (l5 : Int32) (l6 : Int32) (l7 : Int32) (hB : M_move_288 k_173 k_183 h l0 l2 l3 l4 l5 l6 l7 = some (h', r)) : pm_run (pm_ev (d + 7)) 160 288 [.ref l0, pm_J, .int l2, .int l3, .int l4, .int l5, .int l6, .int l7, pm_J, pm_J] [] h (fun r1 h1 => r1 = some (.int r) ∧ h1 = h') := by
  unfold M_move_288 at hB
  refine r_iload f160_288 rfl ?_
  exact pm_weak (L' := [.ref l0, pm_J, .int l2, .int l3, .int l4, pm_J, .int l6, .int l7, pm_J, pm_J]) ⟨.inr rfl, .inl rfl, .inr rfl, .inr rfl, .inr rfl, .inl rfl, .inr rfl, .inr rfl, .inl rfl, .inl rfl, trivial⟩ (P_M_move_290 (d := d) k_173 hk_173 k_183 hk_183 h l0 l2 l3 l4 l6 l7 l5 hB)
theorem P_M_move_269 {d : Nat} {h' : pm_H} {r : Int32} (k_173 : pm_H → Nat → Int32 → Int32 → Int32 → Int32 → Int32 → Option (pm_H × Int32)) (hk_173 : ∀ (h : pm_H) (l0 : Nat) (l2 : Int32) (l3 : Int32) (l4 : Int32) (l5 : Int32) (l6 : Int32), k_173 h l0 l2 l3 l4 l5 l6 = some (h', r) → pm_run (pm_ev (d + 7)) 160 173 [.ref l0, pm_J, .int l2, .int l3, .int l4, .int l5, .int l6, pm_J, pm_J, pm_J] [] h (fun r1 h1 => r1 = some (.int r) ∧ h1 = h')) (k_183 : pm_H → Nat → Int32 → Int32 → Int32 → Int32 → Int32 → Int32 → Option (pm_H × Int32)) (hk_183 : ∀ (h : pm_H) (l0 : Nat) (l2 : Int32) (l3 : Int32) (l4 : Int32) (l5 : Int32) (l6 : Int32) (l7 : Int32), k_183 h l0 l2 l3 l4 l5 l6 l7 = some (h', r) → pm_run (pm_ev (d + 7)) 160 183 [.ref l0, pm_J, .int l2, .int l3, .int l4, .int l5, .int l6, .int l7, pm_J, pm_J] [] h (fun r1 h1 => r1 = some (.int r) ∧ h1 = h')) (h : pm_H) (l0 : Nat) (l2 : Int32) (l3 : Int32) (l5 : Int32) (l6 : Int32) (l7 : Int32) (l8 : Int32) (l9 : Int32) (s0 : Int32) (hB : M_move_269 k_173 k_183 h l0 l2 l3 l5 l6 l7 l8 l9 s0 = some (h', r)) : pm_run (pm_ev (d + 7)) 160 269 [.ref l0, pm_J, .int l2, .int l3, pm_J, .int l5, .int l6, .int l7, .int l8, .int l9] [.int s0] h (fun r1 h1 => r1 = some (.int r) ∧ h1 = h') := by
  unfold M_move_269 at hB
  refine r_istore (L' := [.ref l0, pm_J, .int l2, .int l3, .int s0, .int l5, .int l6, .int l7, .int l8, .int l9]) (x := s0) f160_269 rfl (Nat.le_of_ble_eq_true rfl) rfl ?_
  refine r_iload f160_271 rfl ?_
  by_cases c1q : l8 = 0
  · rw [if_pos c1q] at hB
    refine r_if_t (t := 288) f160_273 (by decide) c1q ?_
    exact pm_weak (L' := [.ref l0, pm_J, .int l2, .int l3, .int s0, .int l5, .int l6, .int l7, pm_J, pm_J]) ⟨.inr rfl, .inl rfl, .inr rfl, .inr rfl, .inr rfl, .inr rfl, .inr rfl, .inr rfl, .inl rfl, .inl rfl, trivial⟩ (P_M_move_288 (d := d) k_173 hk_173 k_183 hk_183 h l0 l2 l3 s0 l5 l6 l7 hB)
  · rw [if_neg c1q] at hB
    refine r_if_f 288 f160_273 (by decide) c1q ?_
    refine r_iload f160_276 rfl ?_
    refine r_iload f160_278 rfl ?_
    by_cases c2q : l5 ≤ l9
    · rw [if_pos c2q] at hB
      refine r_ic_t (t := 288) f160_280 (by decide) c2q ?_
      exact pm_weak (L' := [.ref l0, pm_J, .int l2, .int l3, .int s0, .int l5, .int l6, .int l7, pm_J, pm_J]) ⟨.inr rfl, .inl rfl, .inr rfl, .inr rfl, .inr rfl, .inr rfl, .inr rfl, .inr rfl, .inl rfl, .inl rfl, trivial⟩ (P_M_move_288 (d := d) k_173 hk_173 k_183 hk_183 h l0 l2 l3 s0 l5 l6 l7 hB)
    · rw [if_neg c2q] at hB
      refine r_ic_f 288 f160_280 (by decide) c2q ?_
      refine r_iload f160_283 rfl ?_
      refine r_goto (t := 290) f160_285 (by decide) ?_
      exact pm_weak (L' := [.ref l0, pm_J, .int l2, .int l3, .int s0, pm_J, .int l6, .int l7, pm_J, pm_J]) ⟨.inr rfl, .inl rfl, .inr rfl, .inr rfl, .inr rfl, .inl rfl, .inr rfl, .inr rfl, .inl rfl, .inl rfl, trivial⟩ (P_M_move_290 (d := d) k_173 hk_173 k_183 hk_183 h l0 l2 l3 s0 l6 l7 l9 hB)
theorem P_M_move_267 {d : Nat} {h' : pm_H} {r : Int32} (k_173 : pm_H → Nat → Int32 → Int32 → Int32 → Int32 → Int32 → Option (pm_H × Int32)) (hk_173 : ∀ (h : pm_H) (l0 : Nat) (l2 : Int32) (l3 : Int32) (l4 : Int32) (l5 : Int32) (l6 : Int32), k_173 h l0 l2 l3 l4 l5 l6 = some (h', r) → pm_run (pm_ev (d + 7)) 160 173 [.ref l0, pm_J, .int l2, .int l3, .int l4, .int l5, .int l6, pm_J, pm_J, pm_J] [] h (fun r1 h1 => r1 = some (.int r) ∧ h1 = h')) (k_183 : pm_H → Nat → Int32 → Int32 → Int32 → Int32 → Int32 → Int32 → Option (pm_H × Int32)) (hk_183 : ∀ (h : pm_H) (l0 : Nat) (l2 : Int32) (l3 : Int32) (l4 : Int32) (l5 : Int32) (l6 : Int32) (l7 : Int32), k_183 h l0 l2 l3 l4 l5 l6 l7 = some (h', r) → pm_run (pm_ev (d + 7)) 160 183 [.ref l0, pm_J, .int l2, .int l3, .int l4, .int l5, .int l6, .int l7, pm_J, pm_J] [] h (fun r1 h1 => r1 = some (.int r) ∧ h1 = h')) (h : pm_H) (l0 : Nat) (l2 : Int32) (l3 : Int32) (l4 : Int32) (l5 : Int32) (l6 : Int32) (l7 : Int32) (l8 : Int32) (l9 : Int32) (hB : M_move_267 k_173 k_183 h l0 l2 l3 l4 l5 l6 l7 l8 l9 = some (h', r)) : pm_run (pm_ev (d + 7)) 160 267 [.ref l0, pm_J, .int l2, .int l3, .int l4, .int l5, .int l6, .int l7, .int l8, .int l9] [] h (fun r1 h1 => r1 = some (.int r) ∧ h1 = h') := by
  unfold M_move_267 at hB
  refine r_iload f160_267 rfl ?_
  exact pm_weak (L' := [.ref l0, pm_J, .int l2, .int l3, pm_J, .int l5, .int l6, .int l7, .int l8, .int l9]) ⟨.inr rfl, .inl rfl, .inr rfl, .inr rfl, .inl rfl, .inr rfl, .inr rfl, .inr rfl, .inr rfl, .inr rfl, trivial⟩ (P_M_move_269 (d := d) k_173 hk_173 k_183 hk_183 h l0 l2 l3 l5 l6 l7 l8 l9 l4 hB)
theorem P_M_move_223 {d : Nat} {h' : pm_H} {r : Int32} (k_173 : pm_H → Nat → Int32 → Int32 → Int32 → Int32 → Int32 → Option (pm_H × Int32)) (hk_173 : ∀ (h : pm_H) (l0 : Nat) (l2 : Int32) (l3 : Int32) (l4 : Int32) (l5 : Int32) (l6 : Int32), k_173 h l0 l2 l3 l4 l5 l6 = some (h', r) → pm_run (pm_ev (d + 7)) 160 173 [.ref l0, pm_J, .int l2, .int l3, .int l4, .int l5, .int l6, pm_J, pm_J, pm_J] [] h (fun r1 h1 => r1 = some (.int r) ∧ h1 = h')) (k_183 : pm_H → Nat → Int32 → Int32 → Int32 → Int32 → Int32 → Int32 → Option (pm_H × Int32)) (hk_183 : ∀ (h : pm_H) (l0 : Nat) (l2 : Int32) (l3 : Int32) (l4 : Int32) (l5 : Int32) (l6 : Int32) (l7 : Int32), k_183 h l0 l2 l3 l4 l5 l6 l7 = some (h', r) → pm_run (pm_ev (d + 7)) 160 183 [.ref l0, pm_J, .int l2, .int l3, .int l4, .int l5, .int l6, .int l7, pm_J, pm_J] [] h (fun r1 h1 => r1 = some (.int r) ∧ h1 = h')) (h : pm_H) (l0 : Nat) (l2 : Int32) (l3 : Int32) (l4 : Int32) (l5 : Int32) (l6 : Int32) (l7 : Int32) (s0 : Int32) (hB : M_move_223 k_173 k_183 h l0 l2 l3 l4 l5 l6 l7 s0 = some (h', r)) : pm_run (pm_ev (d + 7)) 160 223 [.ref l0, pm_J, .int l2, .int l3, .int l4, .int l5, .int l6, .int l7, pm_J, pm_J] [.int s0] h (fun r1 h1 => r1 = some (.int r) ∧ h1 = h') := by
  unfold M_move_223 at hB
  refine r_istore (L' := [.ref l0, pm_J, .int l2, .int l3, .int l4, .int l5, .int l6, .int l7, .int s0, pm_J]) (x := s0) f160_223 rfl (Nat.le_of_ble_eq_true rfl) rfl ?_
  refine r_iload_n f160_225 rfl ?_
  refine r_aload_nN f160_226 rfl ?_
  replace hB := bnd_some hB
  obtain ⟨x1q, ex1q, hB⟩ := hB
  refine r_getA f160_227 fa_6_68 ex1q ?_
  refine r_iload f160_230 rfl ?_
  replace hB := bnd_some hB
  obtain ⟨u2q, rfl, hB⟩ := hB
  replace hB := bnd_some hB
  obtain ⟨x3q, ex3q, hB⟩ := hB
  refine r_aI f160_232 ex3q ?_
  refine r_isub f160_233 ?_
  refine r_aload_nN f160_234 rfl ?_
  replace hB := bnd_some hB
  obtain ⟨x4q, ex4q, hB⟩ := hB
  refine r_getA f160_235 fa_6_68 ex4q ?_
  refine r_iload f160_238 rfl ?_
  replace hB := bnd_some hB
  obtain ⟨u5q, rfl, hB⟩ := hB
  replace hB := bnd_some hB
  obtain ⟨x6q, ex6q, hB⟩ := hB
  refine r_aI f160_240 ex6q ?_
  refine r_iadd f160_241 ?_
  obtain ⟨y7q, hy7q⟩ : ∃ z, z = ((l3 - x3q) + x6q) := ⟨_, rfl⟩
  replace hB := nmd_at hy7q hB
  refine r_istore (L' := [.ref l0, pm_J, .int l2, .int l3, .int l4, .int l5, .int l6, .int l7, .int s0, .int y7q]) (x := y7q) f160_242 hy7q (Nat.le_of_ble_eq_true rfl) rfl ?_
  refine r_iload f160_244 rfl ?_
  by_cases c8q : s0 = 0
  · rw [if_pos c8q] at hB
    refine r_if_t (t := 267) f160_246 (by decide) c8q ?_
    exact pm_weak (L' := [.ref l0, pm_J, .int l2, .int l3, .int l4, .int l5, .int l6, .int l7, .int s0, .int y7q]) ⟨.inr rfl, .inl rfl, .inr rfl, .inr rfl, .inr rfl, .inr rfl, .inr rfl, .inr rfl, .inr rfl, .inr rfl, trivial⟩ (P_M_move_267 (d := d) k_173 hk_173 k_183 hk_183 h l0 l2 l3 l4 l5 l6 l7 s0 y7q hB)
  · rw [if_neg c8q] at hB
    refine r_if_f 267 f160_246 (by decide) c8q ?_
    refine r_iload f160_249 rfl ?_
    refine r_iload f160_251 rfl ?_
    by_cases c9q : l5 ≤ y7q
    · rw [if_pos c9q] at hB
      refine r_ic_t (t := 267) f160_253 (by decide) c9q ?_
      exact pm_weak (L' := [.ref l0, pm_J, .int l2, .int l3, .int l4, .int l5, .int l6, .int l7, .int s0, .int y7q]) ⟨.inr rfl, .inl rfl, .inr rfl, .inr rfl, .inr rfl, .inr rfl, .inr rfl, .inr rfl, .inr rfl, .inr rfl, trivial⟩ (P_M_move_267 (d := d) k_173 hk_173 k_183 hk_183 h l0 l2 l3 l4 l5 l6 l7 s0 y7q hB)
    · rw [if_neg c9q] at hB
      refine r_ic_f 267 f160_253 (by decide) c9q ?_
      refine r_bipush f160_256 cb_100 ?_
      refine r_iload f160_258 rfl ?_
      refine r_imul f160_260 ?_
      refine r_iload f160_261 rfl ?_
      refine r_iadd f160_263 ?_
      refine r_goto (t := 269) f160_264 (by decide) ?_
      exact pm_weak (L' := [.ref l0, pm_J, .int l2, .int l3, pm_J, .int l5, .int l6, .int l7, .int s0, .int y7q]) ⟨.inr rfl, .inl rfl, .inr rfl, .inr rfl, .inl rfl, .inr rfl, .inr rfl, .inr rfl, .inr rfl, .inr rfl, trivial⟩ (P_M_move_269 (d := d) k_173 hk_173 k_183 hk_183 h l0 l2 l3 l5 l6 l7 s0 y7q ((100 * l6) + l7) hB)
theorem P_M_move_222 {d : Nat} {h' : pm_H} {r : Int32} (k_173 : pm_H → Nat → Int32 → Int32 → Int32 → Int32 → Int32 → Option (pm_H × Int32)) (hk_173 : ∀ (h : pm_H) (l0 : Nat) (l2 : Int32) (l3 : Int32) (l4 : Int32) (l5 : Int32) (l6 : Int32), k_173 h l0 l2 l3 l4 l5 l6 = some (h', r) → pm_run (pm_ev (d + 7)) 160 173 [.ref l0, pm_J, .int l2, .int l3, .int l4, .int l5, .int l6, pm_J, pm_J, pm_J] [] h (fun r1 h1 => r1 = some (.int r) ∧ h1 = h')) (k_183 : pm_H → Nat → Int32 → Int32 → Int32 → Int32 → Int32 → Int32 → Option (pm_H × Int32)) (hk_183 : ∀ (h : pm_H) (l0 : Nat) (l2 : Int32) (l3 : Int32) (l4 : Int32) (l5 : Int32) (l6 : Int32) (l7 : Int32), k_183 h l0 l2 l3 l4 l5 l6 l7 = some (h', r) → pm_run (pm_ev (d + 7)) 160 183 [.ref l0, pm_J, .int l2, .int l3, .int l4, .int l5, .int l6, .int l7, pm_J, pm_J] [] h (fun r1 h1 => r1 = some (.int r) ∧ h1 = h')) (h : pm_H) (l0 : Nat) (l2 : Int32) (l3 : Int32) (l4 : Int32) (l5 : Int32) (l6 : Int32) (l7 : Int32) (hB : M_move_222 k_173 k_183 h l0 l2 l3 l4 l5 l6 l7 = some (h', r)) : pm_run (pm_ev (d + 7)) 160 222 [.ref l0, pm_J, .int l2, .int l3, .int l4, .int l5, .int l6, .int l7, pm_J, pm_J] [] h (fun r1 h1 => r1 = some (.int r) ∧ h1 = h') := by
  unfold M_move_222 at hB
  refine r_iconst f160_222 ci_0 ?_
  exact pm_weak (L' := [.ref l0, pm_J, .int l2, .int l3, .int l4, .int l5, .int l6, .int l7, pm_J, pm_J]) ⟨.inr rfl, .inl rfl, .inr rfl, .inr rfl, .inr rfl, .inr rfl, .inr rfl, .inr rfl, .inl rfl, .inl rfl, trivial⟩ (P_M_move_223 (d := d) k_173 hk_173 k_183 hk_183 h l0 l2 l3 l4 l5 l6 l7 0 hB)
theorem P_M_move_183 {d : Nat} {h' : pm_H} {r : Int32} (k_173 : pm_H → Nat → Int32 → Int32 → Int32 → Int32 → Int32 → Option (pm_H × Int32)) (hk_173 : ∀ (h : pm_H) (l0 : Nat) (l2 : Int32) (l3 : Int32) (l4 : Int32) (l5 : Int32) (l6 : Int32), k_173 h l0 l2 l3 l4 l5 l6 = some (h', r) → pm_run (pm_ev (d + 7)) 160 173 [.ref l0, pm_J, .int l2, .int l3, .int l4, .int l5, .int l6, pm_J, pm_J, pm_J] [] h (fun r1 h1 => r1 = some (.int r) ∧ h1 = h')) (n : Nat) : ∀ (h : pm_H) (l0 : Nat) (l2 : Int32) (l3 : Int32) (l4 : Int32) (l5 : Int32) (l6 : Int32) (l7 : Int32), M_move_183 k_173 n h l0 l2 l3 l4 l5 l6 l7 = some (h', r) → pm_run (pm_ev (d + 7)) 160 183 [.ref l0, pm_J, .int l2, .int l3, .int l4, .int l5, .int l6, .int l7, pm_J, pm_J] [] h (fun r1 h1 => r1 = some (.int r) ∧ h1 = h') := by
  induction n with
  | zero => intro h l0 l2 l3 l4 l5 l6 l7 hB; cases hB
  | succ n ih =>
    intro h l0 l2 l3 l4 l5 l6 l7 hB
    unfold M_move_183 at hB
    refine r_iload f160_183 rfl ?_
    refine r_bipush f160_185 cb_40 ?_
    by_cases c1q : 40 ≤ l7
    · rw [if_pos c1q] at hB
      refine r_ic_t (t := 298) f160_187 (by decide) c1q ?_
      obtain ⟨y2q, hy2q⟩ : ∃ z, z = l6 + 1 := ⟨_, rfl⟩
      replace hB := nmd_at hy2q hB
      refine r_iinc (L' := [.ref l0, pm_J, .int l2, .int l3, .int l4, .int l5, .int y2q, .int l7, pm_J, pm_J]) (x := y2q) f160_298 rfl (hy2q.trans (congrArg (l6 + ·) ci_1.symm)) rfl ?_
      refine r_goto (t := 173) f160_301 (by decide) ?_
      exact pm_weak (L' := [.ref l0, pm_J, .int l2, .int l3, .int l4, .int l5, .int y2q, pm_J, pm_J, pm_J]) ⟨.inr rfl, .inl rfl, .inr rfl, .inr rfl, .inr rfl, .inr rfl, .inr rfl, .inl rfl, .inl rfl, .inl rfl, trivial⟩ (hk_173 h l0 l2 l3 l4 l5 y2q hB)
    · rw [if_neg c1q] at hB
      refine r_ic_f 298 f160_187 (by decide) c1q ?_
      refine r_aload_nN f160_190 rfl ?_
      replace hB := bnd_some hB
      obtain ⟨x3q, ex3q, hB⟩ := hB
      refine r_getJ f160_191 fa_6_108 ex3q ?_
      refine r_iload f160_194 rfl ?_
      refine r_lshr f160_196 ?_
      refine r_lconst f160_197 cl_1 ?_
      refine r_land f160_198 ?_
      refine r_lconst f160_199 cl_1 ?_
      refine r_lcmp f160_200 ?_
      by_cases c4q : (lg_cmp ((x3q >>> ((l6 : Int32).toInt64 &&& 63)) &&& 1) 1) = 0
      · rw [if_pos c4q] at hB
        refine r_if_f 222 f160_201 (by decide) (fun q => q c4q) ?_
        refine r_aload_nN f160_204 rfl ?_
        replace hB := bnd_some hB
        obtain ⟨x5q, ex5q, hB⟩ := hB
        refine r_getJ f160_205 fa_6_108 ex5q ?_
        refine r_iload f160_208 rfl ?_
        refine r_lshr f160_210 ?_
        refine r_lconst f160_211 cl_1 ?_
        refine r_land f160_212 ?_
        refine r_lconst f160_213 cl_0 ?_
        refine r_lcmp f160_214 ?_
        by_cases c6q : (lg_cmp ((x5q >>> ((l7 : Int32).toInt64 &&& 63)) &&& 1) 0) = 0
        · rw [if_pos c6q] at hB
          refine r_if_f 222 f160_215 (by decide) (fun q => q c6q) ?_
          refine r_iconst f160_218 ci_1 ?_
          refine r_goto (t := 223) f160_219 (by decide) ?_
          exact pm_weak (L' := [.ref l0, pm_J, .int l2, .int l3, .int l4, .int l5, .int l6, .int l7, pm_J, pm_J]) ⟨.inr rfl, .inl rfl, .inr rfl, .inr rfl, .inr rfl, .inr rfl, .inr rfl, .inr rfl, .inl rfl, .inl rfl, trivial⟩ (P_M_move_223 (d := d) k_173 hk_173 (M_move_183 k_173 n) ih h l0 l2 l3 l4 l5 l6 l7 1 hB)
        · rw [if_neg c6q] at hB
          refine r_if_t (t := 222) f160_215 (by decide) c6q ?_
          exact pm_weak (L' := [.ref l0, pm_J, .int l2, .int l3, .int l4, .int l5, .int l6, .int l7, pm_J, pm_J]) ⟨.inr rfl, .inl rfl, .inr rfl, .inr rfl, .inr rfl, .inr rfl, .inr rfl, .inr rfl, .inl rfl, .inl rfl, trivial⟩ (P_M_move_222 (d := d) k_173 hk_173 (M_move_183 k_173 n) ih h l0 l2 l3 l4 l5 l6 l7 hB)
      · rw [if_neg c4q] at hB
        refine r_if_t (t := 222) f160_201 (by decide) c4q ?_
        exact pm_weak (L' := [.ref l0, pm_J, .int l2, .int l3, .int l4, .int l5, .int l6, .int l7, pm_J, pm_J]) ⟨.inr rfl, .inl rfl, .inr rfl, .inr rfl, .inr rfl, .inr rfl, .inr rfl, .inr rfl, .inl rfl, .inl rfl, trivial⟩ (P_M_move_222 (d := d) k_173 hk_173 (M_move_183 k_173 n) ih h l0 l2 l3 l4 l5 l6 l7 hB)
theorem P_M_move_173 {d : Nat} {h' : pm_H} {r : Int32} (n : Nat) : ∀ (h : pm_H) (l0 : Nat) (l2 : Int32) (l3 : Int32) (l4 : Int32) (l5 : Int32) (l6 : Int32), M_move_173 n h l0 l2 l3 l4 l5 l6 = some (h', r) → pm_run (pm_ev (d + 7)) 160 173 [.ref l0, pm_J, .int l2, .int l3, .int l4, .int l5, .int l6, pm_J, pm_J, pm_J] [] h (fun r1 h1 => r1 = some (.int r) ∧ h1 = h') := by
  induction n with
  | zero => intro h l0 l2 l3 l4 l5 l6 hB; cases hB
  | succ n ih =>
    intro h l0 l2 l3 l4 l5 l6 hB
    unfold M_move_173 at hB
    refine r_iload f160_173 rfl ?_
    refine r_bipush f160_175 cb_40 ?_
    by_cases c1q : 40 ≤ l6
    · rw [if_pos c1q] at hB
      refine r_ic_t (t := 304) f160_177 (by decide) c1q ?_
      refine r_iload_n f160_304 rfl ?_
      by_cases c2q : l2 = 0
      · rw [if_pos c2q] at hB
        refine r_if_f 313 f160_305 (by decide) (fun q => q c2q) ?_
        refine r_iload f160_308 rfl ?_
        refine r_goto (t := 315) f160_310 (by decide) ?_
        exact r_iret pm_m_160 .int f160_315 rfl rfl rfl (zI hB)
      · rw [if_neg c2q] at hB
        refine r_if_t (t := 313) f160_305 (by decide) c2q ?_
        refine r_iload f160_313 rfl ?_
        exact r_iret pm_m_160 .int f160_315 rfl rfl rfl (zI hB)
    · rw [if_neg c1q] at hB
      refine r_ic_f 304 f160_177 (by decide) c1q ?_
      refine r_iconst f160_180 ci_0 ?_
      refine r_istore (L' := [.ref l0, pm_J, .int l2, .int l3, .int l4, .int l5, .int l6, .int 0, pm_J, pm_J]) (x := 0) f160_181 rfl (Nat.le_of_ble_eq_true rfl) rfl ?_
      exact pm_weak (L' := [.ref l0, pm_J, .int l2, .int l3, .int l4, .int l5, .int l6, .int 0, pm_J, pm_J]) ⟨.inr rfl, .inl rfl, .inr rfl, .inr rfl, .inr rfl, .inr rfl, .inr rfl, .inr rfl, .inl rfl, .inl rfl, trivial⟩ (P_M_move_183 (d := d) (M_move_173 n) ih 1000 h l0 l2 l3 l4 l5 l6 0 hB)
theorem P_M_move_123 {d : Nat} {h' : pm_H} {r : Int32} (n : Nat) : ∀ (h : pm_H) (l0 : Nat) (l2 : Int32) (l3 : Int32) (l4 : Int32), M_move_123 n h l0 l2 l3 l4 = some (h', r) → pm_run (pm_ev (d + 7)) 160 123 [.ref l0, pm_J, .int l2, .int l3, .int l4, pm_J, pm_J, pm_J, pm_J, pm_J] [] h (fun r1 h1 => r1 = some (.int r) ∧ h1 = h') := by
  induction n with
  | zero => intro h l0 l2 l3 l4 hB; cases hB
  | succ n ih =>
    intro h l0 l2 l3 l4 hB
    unfold M_move_123 at hB
    refine r_iload f160_123 rfl ?_
    refine r_bipush f160_125 cb_40 ?_
    by_cases c1q : 40 ≤ l4
    · rw [if_pos c1q] at hB
      refine r_ic_t (t := 164) f160_127 (by decide) c1q ?_
      refine r_iconst f160_164 ci_m1 ?_
      refine r_istore (L' := [.ref l0, pm_J, .int l2, .int l3, .int (-1), pm_J, pm_J, pm_J, pm_J, pm_J]) (x := (-1)) f160_165 rfl (Nat.le_of_ble_eq_true rfl) rfl ?_
      refine r_iload_n f160_167 rfl ?_
      refine r_istore (L' := [.ref l0, pm_J, .int l2, .int l3, .int (-1), .int l3, pm_J, pm_J, pm_J, pm_J]) (x := l3) f160_168 rfl (Nat.le_of_ble_eq_true rfl) rfl ?_
      refine r_iconst f160_170 ci_0 ?_
      refine r_istore (L' := [.ref l0, pm_J, .int l2, .int l3, .int (-1), .int l3, .int 0, pm_J, pm_J, pm_J]) (x := 0) f160_171 rfl (Nat.le_of_ble_eq_true rfl) rfl ?_
      exact pm_weak (L' := [.ref l0, pm_J, .int l2, .int l3, .int (-1), .int l3, .int 0, pm_J, pm_J, pm_J]) ⟨.inr rfl, .inl rfl, .inr rfl, .inr rfl, .inr rfl, .inr rfl, .inr rfl, .inl rfl, .inl rfl, .inl rfl, trivial⟩ (P_M_move_173 (d := d) 1000 h l0 l2 l3 (-1) l3 0 hB)
    · rw [if_neg c1q] at hB
      refine r_ic_f 164 f160_127 (by decide) c1q ?_
      refine r_iload_n f160_130 rfl ?_
      refine r_aload_nN f160_131 rfl ?_
      replace hB := bnd_some hB
      obtain ⟨x2q, ex2q, hB⟩ := hB
      refine r_getJ f160_132 fa_6_108 ex2q ?_
      refine r_iload f160_135 rfl ?_
      refine r_lshr f160_137 ?_
      refine r_lconst f160_138 cl_1 ?_
      refine r_land f160_139 ?_
      refine r_lconst f160_140 cl_1 ?_
      refine r_lcmp f160_141 ?_
      by_cases c3q : (lg_cmp ((x2q >>> ((l4 : Int32).toInt64 &&& 63)) &&& 1) 1) = 0
      · rw [if_pos c3q] at hB
        refine r_if_f 155 f160_142 (by decide) (fun q => q c3q) ?_
        refine r_aload_nN f160_145 rfl ?_
        replace hB := bnd_some hB
        obtain ⟨x4q, ex4q, hB⟩ := hB
        refine r_getA f160_146 fa_6_68 ex4q ?_
        refine r_iload f160_149 rfl ?_
        replace hB := bnd_some hB
        obtain ⟨u5q, rfl, hB⟩ := hB
        replace hB := bnd_some hB
        obtain ⟨x6q, ex6q, hB⟩ := hB
        refine r_aI f160_151 ex6q ?_
        refine r_goto (t := 156) f160_152 (by decide) ?_
        exact pm_weak (L' := [.ref l0, pm_J, .int l2, pm_J, .int l4, pm_J, pm_J, pm_J, pm_J, pm_J]) ⟨.inr rfl, .inl rfl, .inr rfl, .inl rfl, .inr rfl, .inl rfl, .inl rfl, .inl rfl, .inl rfl, .inl rfl, trivial⟩ (P_M_move_156 (d := d) (M_move_123 n) ih h l0 l2 l4 x6q l3 hB)
      · rw [if_neg c3q] at hB
        refine r_if_t (t := 155) f160_142 (by decide) c3q ?_
        refine r_iconst f160_155 ci_0 ?_
        exact pm_weak (L' := [.ref l0, pm_J, .int l2, pm_J, .int l4, pm_J, pm_J, pm_J, pm_J, pm_J]) ⟨.inr rfl, .inl rfl, .inr rfl, .inl rfl, .inr rfl, .inl rfl, .inl rfl, .inl rfl, .inl rfl, .inl rfl, trivial⟩ (P_M_move_156 (d := d) (M_move_123 n) ih h l0 l2 l4 0 l3 hB)
theorem P_M_move_49 {d : Nat} {h' : pm_H} {r : Int32} (n : Nat) : ∀ (h : pm_H) (l0 : Nat) (l1 : Int32) (l2 : Int32) (l3 : Int32), M_move_49 n h l0 l1 l2 l3 = some (h', r) → pm_run (pm_ev (d + 7)) 160 49 [.ref l0, .int l1, .int l2, .int l3, pm_J, pm_J, pm_J, pm_J, pm_J, pm_J] [] h (fun r1 h1 => r1 = some (.int r) ∧ h1 = h') := by
  induction n with
  | zero => intro h l0 l1 l2 l3 hB; cases hB
  | succ n ih =>
    intro h l0 l1 l2 l3 hB
    unfold M_move_49 at hB
    refine r_iload_n f160_49 rfl ?_
    refine r_iload_n f160_50 rfl ?_
    by_cases c1q : l1 ≤ l3
    · rw [if_pos c1q] at hB
      refine r_ic_t (t := 114) f160_51 (by decide) c1q ?_
      refine r_aload_nN f160_114 rfl ?_
      replace hB := grd_some hB
      obtain ⟨g4q, hB⟩ := hB
      replace hB := bn2_some hB
      obtain ⟨h2q, _, eh2q, hB⟩ := hB
      refine r_virtN (as := []) (q := pm_m_150) f160_115 ca_6_228 rfl rfl rfl (cs_len (Nat.le_of_ble_eq_true rfl)) g4q (P_M_lays (d := d + 6) eh2q) ?_
      refine r_iconst f160_118 ci_0 ?_
      refine r_istore_n (L' := [.ref l0, .int l1, .int l2, .int 0, pm_J, pm_J, pm_J, pm_J, pm_J, pm_J]) (x := 0) f160_119 rfl (Nat.le_of_ble_eq_true rfl) rfl ?_
      refine r_iconst f160_120 ci_0 ?_
      refine r_istore (L' := [.ref l0, .int l1, .int l2, .int 0, .int 0, pm_J, pm_J, pm_J, pm_J, pm_J]) (x := 0) f160_121 rfl (Nat.le_of_ble_eq_true rfl) rfl ?_
      exact pm_weak (L' := [.ref l0, pm_J, .int l2, .int 0, .int 0, pm_J, pm_J, pm_J, pm_J, pm_J]) ⟨.inr rfl, .inl rfl, .inr rfl, .inr rfl, .inr rfl, .inl rfl, .inl rfl, .inl rfl, .inl rfl, .inl rfl, trivial⟩ (P_M_move_123 (d := d) 1000 h2q l0 l2 0 0 hB)
    · rw [if_neg c1q] at hB
      refine r_ic_f 114 f160_51 (by decide) c1q ?_
      refine r_aload_nN f160_54 rfl ?_
      replace hB := grd_some hB
      obtain ⟨g7q, hB⟩ := hB
      replace hB := bn2_some hB
      obtain ⟨h5q, x6q, eh5q, hB⟩ := hB
      refine r_virtV (as := []) (q := pm_m_147) f160_55 ca_6_216 rfl rfl rfl (cs_len (Nat.le_of_ble_eq_true rfl)) g7q (P_M_yearOf (d := d + 0) eh5q) ?_
      refine r_popI f160_58 ?_
      refine r_aload_nN f160_59 rfl ?_
      replace hB := grd_some hB
      obtain ⟨g10q, hB⟩ := hB
      replace hB := bn2_some hB
      obtain ⟨h8q, x9q, eh8q, hB⟩ := hB
      refine r_virtV (as := []) (q := pm_m_115) f160_60 ca_6_123 rfl rfl rfl (cs_len (Nat.le_of_ble_eq_true rfl)) g10q (P_M_sand (d := d + 4) eh8q) ?_
      refine r_lstore (L' := [.ref l0, .int l1, .int l2, .int l3, .long x9q, pm_J, pm_J, pm_J, pm_J, pm_J]) (x := x9q) f160_63 rfl (Nat.le_of_ble_eq_true rfl) rfl ?_
      refine r_iconst f160_65 ci_0 ?_
      refine r_istore (L' := [.ref l0, .int l1, .int l2, .int l3, .long x9q, pm_J, .int 0, pm_J, pm_J, pm_J]) (x := 0) f160_66 rfl (Nat.le_of_ble_eq_true rfl) rfl ?_
      exact pm_weak (L' := [.ref l0, .int l1, .int l2, .int l3, .long x9q, pm_J, .int 0, pm_J, pm_J, pm_J]) ⟨.inr rfl, .inr rfl, .inr rfl, .inr rfl, .inr rfl, .inl rfl, .inr rfl, .inl rfl, .inl rfl, .inl rfl, trivial⟩ (P_M_move_68 (d := d) (M_move_49 n) ih 1000 h8q l0 l1 l2 l3 x9q 0 hB)
theorem P_M_move_24 {d : Nat} {h' : pm_H} {r : Int32} (n : Nat) : ∀ (h : pm_H) (l0 : Nat) (l1 : Int32) (l2 : Int32) (l3 : Int32), M_move_24 n h l0 l1 l2 l3 = some (h', r) → pm_run (pm_ev (d + 7)) 160 24 [.ref l0, .int l1, .int l2, .int l3, pm_J, pm_J, pm_J, pm_J, pm_J, pm_J] [] h (fun r1 h1 => r1 = some (.int r) ∧ h1 = h') := by
  induction n with
  | zero => intro h l0 l1 l2 l3 hB; cases hB
  | succ n ih =>
    intro h l0 l1 l2 l3 hB
    unfold M_move_24 at hB
    refine r_iload_n f160_24 rfl ?_
    refine r_bipush f160_25 cb_40 ?_
    by_cases c1q : 40 ≤ l3
    · rw [if_pos c1q] at hB
      refine r_ic_t (t := 43) f160_27 (by decide) c1q ?_
      refine r_aload_nN f160_43 rfl ?_
      replace hB := grd_some hB
      obtain ⟨g4q, hB⟩ := hB
      replace hB := bn2_some hB
      obtain ⟨h2q, _, eh2q, hB⟩ := hB
      refine r_virtN (as := []) (q := pm_m_149) f160_44 ca_6_219 rfl rfl rfl (cs_len (Nat.le_of_ble_eq_true rfl)) g4q (P_M_keeps (d := d + 6) eh2q) ?_
      refine r_iconst f160_47 ci_0 ?_
      refine r_istore_n (L' := [.ref l0, .int l1, .int l2, .int 0, pm_J, pm_J, pm_J, pm_J, pm_J, pm_J]) (x := 0) f160_48 rfl (Nat.le_of_ble_eq_true rfl) rfl ?_
      exact pm_weak (L' := [.ref l0, .int l1, .int l2, .int 0, pm_J, pm_J, pm_J, pm_J, pm_J, pm_J]) ⟨.inr rfl, .inr rfl, .inr rfl, .inr rfl, .inl rfl, .inl rfl, .inl rfl, .inl rfl, .inl rfl, .inl rfl, trivial⟩ (P_M_move_49 (d := d) 1000 h2q l0 l1 l2 0 hB)
    · rw [if_neg c1q] at hB
      refine r_ic_f 43 f160_27 (by decide) c1q ?_
      refine r_aload_nN f160_30 rfl ?_
      replace hB := bnd_some hB
      obtain ⟨x5q, ex5q, hB⟩ := hB
      refine r_getA f160_31 fa_6_68 ex5q ?_
      refine r_iload_n f160_34 rfl ?_
      refine r_iconst f160_35 ci_0 ?_
      replace hB := bnd_some hB
      obtain ⟨u6q, rfl, hB⟩ := hB
      replace hB := bnd_some hB
      obtain ⟨h7q, eh7q, hB⟩ := hB
      refine r_sI f160_36 eh7q ?_
      obtain ⟨y8q, hy8q⟩ : ∃ z, z = l3 + 1 := ⟨_, rfl⟩
      replace hB := nmd_at hy8q hB
      refine r_iinc (L' := [.ref l0, .int l1, .int l2, .int y8q, pm_J, pm_J, pm_J, pm_J, pm_J, pm_J]) (x := y8q) f160_37 rfl (hy8q.trans (congrArg (l3 + ·) ci_1.symm)) rfl ?_
      refine r_goto (t := 24) f160_40 (by decide) ?_
      exact pm_weak (L' := [.ref l0, .int l1, .int l2, .int y8q, pm_J, pm_J, pm_J, pm_J, pm_J, pm_J]) ⟨.inr rfl, .inr rfl, .inr rfl, .inr rfl, .inl rfl, .inl rfl, .inl rfl, .inl rfl, .inl rfl, .inl rfl, trivial⟩ (ih h7q l0 l1 l2 y8q hB)
theorem P_M_move {d : Nat} {h h' : pm_H} {r : Int32} {t : Nat} {a1 : Int32} {a2 : Int32} (hB : M_move h t a1 a2 = some (h', r)) : pm_ev (d + 8) 160 [.ref t, .int a1, .int a2] h (some (.int r)) h' := by
  unfold M_move at hB
  refine pm_ev_mk (L := [.ref t, .int a1, .int a2, pm_J, pm_J, pm_J, pm_J, pm_J, pm_J, pm_J]) pm_m_160 rfl (Nat.le_of_ble_eq_true rfl) rfl ?_
  refine r_iload_n f160_0 rfl ?_
  refine r_iconst f160_1 ci_0 ?_
  refine r_bipush f160_2 cb_20 ?_
  replace hB := bn2_some hB
  obtain ⟨h1q, x2q, eh1q, hB⟩ := hB
  refine r_statV (as := [.int a1, .int 0, .int 20]) (q := pm_m_109) f160_4 ca_6_79 rfl (by decide) rfl rfl (cs_len (Nat.le_of_ble_eq_true rfl)) (P_M_in (d := d + 6) eh1q) ?_
  by_cases c3q : x2q = 0
  · rw [if_pos c3q] at hB
    refine r_if_t (t := 19) f160_7 (by decide) c3q ?_
    refine r_bipush f160_19 cb_m2 ?_
    exact r_iret pm_m_160 .int f160_21 rfl rfl rfl (zI hB)
  · rw [if_neg c3q] at hB
    refine r_if_f 19 f160_7 (by decide) c3q ?_
    refine r_iload_n f160_10 rfl ?_
    refine r_iconst f160_11 ci_0 ?_
    refine r_iconst f160_12 ci_1 ?_
    replace hB := bn2_some hB
    obtain ⟨h4q, x5q, eh4q, hB⟩ := hB
    refine r_statV (as := [.int a2, .int 0, .int 1]) (q := pm_m_109) f160_13 ca_6_79 rfl (by decide) rfl rfl (cs_len (Nat.le_of_ble_eq_true rfl)) (P_M_in (d := d + 6) eh4q) ?_
    by_cases c6q : x5q = 0
    · rw [if_pos c6q] at hB
      refine r_if_f 22 f160_16 (by decide) (fun q => q c6q) ?_
      refine r_bipush f160_19 cb_m2 ?_
      exact r_iret pm_m_160 .int f160_21 rfl rfl rfl (zI hB)
    · rw [if_neg c6q] at hB
      refine r_if_t (t := 22) f160_16 (by decide) c6q ?_
      refine r_iconst f160_22 ci_0 ?_
      refine r_istore_n (L' := [.ref t, .int a1, .int a2, .int 0, pm_J, pm_J, pm_J, pm_J, pm_J, pm_J]) (x := 0) f160_23 rfl (Nat.le_of_ble_eq_true rfl) rfl ?_
      exact pm_weak (L' := [.ref t, .int a1, .int a2, .int 0, pm_J, pm_J, pm_J, pm_J, pm_J, pm_J]) ⟨.inr rfl, .inr rfl, .inr rfl, .inr rfl, .inl rfl, .inl rfl, .inl rfl, .inl rfl, .inl rfl, .inl rfl, trivial⟩ (P_M_move_24 (d := d) 1000 h4q t a1 a2 0 hB)
theorem P_M_hold_106 {d : Nat} {h' : pm_H} {r : Int32} (k_34 : pm_H → Nat → Int32 → Int32 → Int32 → Int32 → Int32 → Option (pm_H × Int32)) (hk_34 : ∀ (h : pm_H) (l0 : Nat) (l1 : Int32) (l2 : Int32) (l3 : Int32) (l4 : Int32) (l5 : Int32), k_34 h l0 l1 l2 l3 l4 l5 = some (h', r) → pm_run (pm_ev (d + 9)) 161 34 [.ref l0, .int l1, .int l2, .int l3, .int l4, .int l5, pm_J] [] h (fun r1 h1 => r1 = some (.int r) ∧ h1 = h')) (h : pm_H) (l0 : Nat) (l1 : Int32) (l2 : Int32) (l3 : Int32) (l4 : Int32) (l5 : Int32) (hB : M_hold_106 k_34 h l0 l1 l2 l3 l4 l5 = some (h', r)) : pm_run (pm_ev (d + 9)) 161 106 [.ref l0, .int l1, .int l2, .int l3, .int l4, .int l5, pm_J] [] h (fun r1 h1 => r1 = some (.int r) ∧ h1 = h') := by
  unfold M_hold_106 at hB
  obtain ⟨y1q, hy1q⟩ : ∃ z, z = l5 + 1 := ⟨_, rfl⟩
  replace hB := nmd_at hy1q hB
  refine r_iinc (L' := [.ref l0, .int l1, .int l2, .int l3, .int l4, .int y1q, pm_J]) (x := y1q) f161_106 rfl (hy1q.trans (congrArg (l5 + ·) ci_1.symm)) rfl ?_
  refine r_goto (t := 34) f161_109 (by decide) ?_
  exact pm_weak (L' := [.ref l0, .int l1, .int l2, .int l3, .int l4, .int y1q, pm_J]) ⟨.inr rfl, .inr rfl, .inr rfl, .inr rfl, .inr rfl, .inr rfl, .inl rfl, trivial⟩ (hk_34 h l0 l1 l2 l3 l4 y1q hB)
theorem P_M_hold_104 {d : Nat} {h' : pm_H} {r : Int32} (k_34 : pm_H → Nat → Int32 → Int32 → Int32 → Int32 → Int32 → Option (pm_H × Int32)) (hk_34 : ∀ (h : pm_H) (l0 : Nat) (l1 : Int32) (l2 : Int32) (l3 : Int32) (l4 : Int32) (l5 : Int32), k_34 h l0 l1 l2 l3 l4 l5 = some (h', r) → pm_run (pm_ev (d + 9)) 161 34 [.ref l0, .int l1, .int l2, .int l3, .int l4, .int l5, pm_J] [] h (fun r1 h1 => r1 = some (.int r) ∧ h1 = h')) (h : pm_H) (l0 : Nat) (l1 : Int32) (l2 : Int32) (l3 : Int32) (l5 : Int32) (s0 : Int32) (hB : M_hold_104 k_34 h l0 l1 l2 l3 l5 s0 = some (h', r)) : pm_run (pm_ev (d + 9)) 161 104 [.ref l0, .int l1, .int l2, .int l3, pm_J, .int l5, pm_J] [.int s0] h (fun r1 h1 => r1 = some (.int r) ∧ h1 = h') := by
  unfold M_hold_104 at hB
  refine r_istore (L' := [.ref l0, .int l1, .int l2, .int l3, .int s0, .int l5, pm_J]) (x := s0) f161_104 rfl (Nat.le_of_ble_eq_true rfl) rfl ?_
  exact pm_weak (L' := [.ref l0, .int l1, .int l2, .int l3, .int s0, .int l5, pm_J]) ⟨.inr rfl, .inr rfl, .inr rfl, .inr rfl, .inr rfl, .inr rfl, .inl rfl, trivial⟩ (P_M_hold_106 (d := d) k_34 hk_34 h l0 l1 l2 l3 s0 l5 hB)
theorem P_M_hold_89 {d : Nat} {h' : pm_H} {r : Int32} (k_34 : pm_H → Nat → Int32 → Int32 → Int32 → Int32 → Int32 → Option (pm_H × Int32)) (hk_34 : ∀ (h : pm_H) (l0 : Nat) (l1 : Int32) (l2 : Int32) (l3 : Int32) (l4 : Int32) (l5 : Int32), k_34 h l0 l1 l2 l3 l4 l5 = some (h', r) → pm_run (pm_ev (d + 9)) 161 34 [.ref l0, .int l1, .int l2, .int l3, .int l4, .int l5, pm_J] [] h (fun r1 h1 => r1 = some (.int r) ∧ h1 = h')) (h : pm_H) (l0 : Nat) (l1 : Int32) (l2 : Int32) (l4 : Int32) (l5 : Int32) (l6 : Int32) (s0 : Int32) (hB : M_hold_89 k_34 h l0 l1 l2 l4 l5 l6 s0 = some (h', r)) : pm_run (pm_ev (d + 9)) 161 89 [.ref l0, .int l1, .int l2, pm_J, .int l4, .int l5, .int l6] [.int s0] h (fun r1 h1 => r1 = some (.int r) ∧ h1 = h') := by
  unfold M_hold_89 at hB
  refine r_istore_n (L' := [.ref l0, .int l1, .int l2, .int s0, .int l4, .int l5, .int l6]) (x := s0) f161_89 rfl (Nat.le_of_ble_eq_true rfl) rfl ?_
  refine r_iload f161_90 rfl ?_
  refine r_iload f161_92 rfl ?_
  by_cases c1q : l4 ≤ l6
  · rw [if_pos c1q] at hB
    refine r_ic_t (t := 102) f161_94 (by decide) c1q ?_
    refine r_iload f161_102 rfl ?_
    exact pm_weak (L' := [.ref l0, .int l1, .int l2, .int s0, pm_J, .int l5, pm_J]) ⟨.inr rfl, .inr rfl, .inr rfl, .inr rfl, .inl rfl, .inr rfl, .inl rfl, trivial⟩ (P_M_hold_104 (d := d) k_34 hk_34 h l0 l1 l2 s0 l5 l4 hB)
  · rw [if_neg c1q] at hB
    refine r_ic_f 102 f161_94 (by decide) c1q ?_
    refine r_iload f161_97 rfl ?_
    refine r_goto (t := 104) f161_99 (by decide) ?_
    exact pm_weak (L' := [.ref l0, .int l1, .int l2, .int s0, pm_J, .int l5, pm_J]) ⟨.inr rfl, .inr rfl, .inr rfl, .inr rfl, .inl rfl, .inr rfl, .inl rfl, trivial⟩ (P_M_hold_104 (d := d) k_34 hk_34 h l0 l1 l2 s0 l5 l6 hB)
theorem P_M_hold_34 {d : Nat} {h' : pm_H} {r : Int32} (n : Nat) : ∀ (h : pm_H) (l0 : Nat) (l1 : Int32) (l2 : Int32) (l3 : Int32) (l4 : Int32) (l5 : Int32), M_hold_34 n h l0 l1 l2 l3 l4 l5 = some (h', r) → pm_run (pm_ev (d + 9)) 161 34 [.ref l0, .int l1, .int l2, .int l3, .int l4, .int l5, pm_J] [] h (fun r1 h1 => r1 = some (.int r) ∧ h1 = h') := by
  induction n with
  | zero => intro h l0 l1 l2 l3 l4 l5 hB; cases hB
  | succ n ih =>
    intro h l0 l1 l2 l3 l4 l5 hB
    unfold M_hold_34 at hB
    refine r_iload f161_34 rfl ?_
    refine r_aload_nN f161_36 rfl ?_
    replace hB := bnd_some hB
    obtain ⟨x1q, ex1q, hB⟩ := hB
    refine r_getI f161_37 fa_6_83 ex1q ?_
    by_cases c2q : x1q ≤ l5
    · rw [if_pos c2q] at hB
      refine r_ic_t (t := 112) f161_40 (by decide) c2q ?_
      refine r_iload_n f161_112 rfl ?_
      by_cases c3q : l2 = 0
      · rw [if_pos c3q] at hB
        refine r_if_f 120 f161_113 (by decide) (fun q => q c3q) ?_
        refine r_iload_n f161_116 rfl ?_
        refine r_goto (t := 122) f161_117 (by decide) ?_
        exact r_iret pm_m_161 .int f161_122 rfl rfl rfl (zI hB)
      · rw [if_neg c3q] at hB
        refine r_if_t (t := 120) f161_113 (by decide) c3q ?_
        refine r_iload f161_120 rfl ?_
        exact r_iret pm_m_161 .int f161_122 rfl rfl rfl (zI hB)
    · rw [if_neg c2q] at hB
      refine r_ic_f 112 f161_40 (by decide) c2q ?_
      refine r_aload_nN f161_43 rfl ?_
      replace hB := bnd_some hB
      obtain ⟨x4q, ex4q, hB⟩ := hB
      refine r_getA f161_44 fa_6_19 ex4q ?_
      refine r_iload f161_47 rfl ?_
      replace hB := bnd_some hB
      obtain ⟨u5q, rfl, hB⟩ := hB
      replace hB := bnd_some hB
      obtain ⟨x6q, ex6q, hB⟩ := hB
      refine r_aI f161_49 ex6q ?_
      by_cases c7q : x6q = 0
      · rw [if_pos c7q] at hB
        refine r_if_f 106 f161_50 (by decide) (fun q => q c7q) ?_
        refine r_aload_nN f161_53 rfl ?_
        replace hB := bnd_some hB
        obtain ⟨x8q, ex8q, hB⟩ := hB
        refine r_getA f161_54 fa_6_19 ex8q ?_
        refine r_iload f161_57 rfl ?_
        refine r_iconst f161_59 ci_1 ?_
        replace hB := bnd_some hB
        obtain ⟨u9q, rfl, hB⟩ := hB
        replace hB := bnd_some hB
        obtain ⟨h10q, eh10q, hB⟩ := hB
        refine r_sI f161_60 eh10q ?_
        refine r_aload_nN f161_61 rfl ?_
        refine r_iload_n f161_62 rfl ?_
        replace hB := grd_some hB
        obtain ⟨g13q, hB⟩ := hB
        replace hB := bn2_some hB
        obtain ⟨h11q, x12q, eh11q, hB⟩ := hB
        refine r_virtV (as := [.int l1]) (q := pm_m_158) f161_63 ca_6_234 rfl rfl rfl (cs_len (Nat.le_of_ble_eq_true rfl)) g13q (P_M_buriedNow (d := d + 0) eh11q) ?_
        refine r_istore (L' := [.ref l0, .int l1, .int l2, .int l3, .int l4, .int l5, .int x12q]) (x := x12q) f161_66 rfl (Nat.le_of_ble_eq_true rfl) rfl ?_
        refine r_aload_nN f161_68 rfl ?_
        replace hB := bnd_some hB
        obtain ⟨x14q, ex14q, hB⟩ := hB
        refine r_getA f161_69 fa_6_19 ex14q ?_
        refine r_iload f161_72 rfl ?_
        refine r_iconst f161_74 ci_0 ?_
        replace hB := bnd_some hB
        obtain ⟨u15q, rfl, hB⟩ := hB
        replace hB := bnd_some hB
        obtain ⟨h16q, eh16q, hB⟩ := hB
        refine r_sI f161_75 eh16q ?_
        refine r_iload f161_76 rfl ?_
        refine r_iload f161_78 rfl ?_
        by_cases c17q : l4 ≤ x12q
        · rw [if_pos c17q] at hB
          refine r_ic_t (t := 88) f161_80 (by decide) c17q ?_
          refine r_iload_n f161_88 rfl ?_
          exact pm_weak (L' := [.ref l0, .int l1, .int l2, pm_J, .int l4, .int l5, .int x12q]) ⟨.inr rfl, .inr rfl, .inr rfl, .inl rfl, .inr rfl, .inr rfl, .inr rfl, trivial⟩ (P_M_hold_89 (d := d) (M_hold_34 n) ih h16q l0 l1 l2 l4 l5 x12q l3 hB)
        · rw [if_neg c17q] at hB
          refine r_ic_f 88 f161_80 (by decide) c17q ?_
          refine r_iload f161_83 rfl ?_
          refine r_goto (t := 89) f161_85 (by decide) ?_
          exact pm_weak (L' := [.ref l0, .int l1, .int l2, pm_J, .int l4, .int l5, .int x12q]) ⟨.inr rfl, .inr rfl, .inr rfl, .inl rfl, .inr rfl, .inr rfl, .inr rfl, trivial⟩ (P_M_hold_89 (d := d) (M_hold_34 n) ih h16q l0 l1 l2 l4 l5 x12q l5 hB)
      · rw [if_neg c7q] at hB
        refine r_if_t (t := 106) f161_50 (by decide) c7q ?_
        exact pm_weak (L' := [.ref l0, .int l1, .int l2, .int l3, .int l4, .int l5, pm_J]) ⟨.inr rfl, .inr rfl, .inr rfl, .inr rfl, .inr rfl, .inr rfl, .inl rfl, trivial⟩ (P_M_hold_106 (d := d) (M_hold_34 n) ih h l0 l1 l2 l3 l4 l5 hB)
theorem P_M_hold {d : Nat} {h h' : pm_H} {r : Int32} {t : Nat} {a1 : Int32} {a2 : Int32} (hB : M_hold h t a1 a2 = some (h', r)) : pm_ev (d + 10) 161 [.ref t, .int a1, .int a2] h (some (.int r)) h' := by
  unfold M_hold at hB
  refine pm_ev_mk (L := [.ref t, .int a1, .int a2, pm_J, pm_J, pm_J, pm_J]) pm_m_161 rfl (Nat.le_of_ble_eq_true rfl) rfl ?_
  refine r_iload_n f161_0 rfl ?_
  refine r_iconst f161_1 ci_0 ?_
  refine r_bipush f161_2 cb_40 ?_
  replace hB := bn2_some hB
  obtain ⟨h1q, x2q, eh1q, hB⟩ := hB
  refine r_statV (as := [.int a1, .int 0, .int 40]) (q := pm_m_109) f161_4 ca_6_79 rfl (by decide) rfl rfl (cs_len (Nat.le_of_ble_eq_true rfl)) (P_M_in (d := d + 8) eh1q) ?_
  by_cases c3q : x2q = 0
  · rw [if_pos c3q] at hB
    refine r_if_t (t := 19) f161_7 (by decide) c3q ?_
    refine r_bipush f161_19 cb_m2 ?_
    exact r_iret pm_m_161 .int f161_21 rfl rfl rfl (zI hB)
  · rw [if_neg c3q] at hB
    refine r_if_f 19 f161_7 (by decide) c3q ?_
    refine r_iload_n f161_10 rfl ?_
    refine r_iconst f161_11 ci_0 ?_
    refine r_iconst f161_12 ci_1 ?_
    replace hB := bn2_some hB
    obtain ⟨h4q, x5q, eh4q, hB⟩ := hB
    refine r_statV (as := [.int a2, .int 0, .int 1]) (q := pm_m_109) f161_13 ca_6_79 rfl (by decide) rfl rfl (cs_len (Nat.le_of_ble_eq_true rfl)) (P_M_in (d := d + 8) eh4q) ?_
    by_cases c6q : x5q = 0
    · rw [if_pos c6q] at hB
      refine r_if_f 22 f161_16 (by decide) (fun q => q c6q) ?_
      refine r_bipush f161_19 cb_m2 ?_
      exact r_iret pm_m_161 .int f161_21 rfl rfl rfl (zI hB)
    · rw [if_neg c6q] at hB
      refine r_if_t (t := 22) f161_16 (by decide) c6q ?_
      refine r_iconst f161_22 ci_m1 ?_
      refine r_istore_n (L' := [.ref t, .int a1, .int a2, .int (-1), pm_J, pm_J, pm_J]) (x := (-1)) f161_23 rfl (Nat.le_of_ble_eq_true rfl) rfl ?_
      refine r_aload_nN f161_24 rfl ?_
      refine r_iload_n f161_25 rfl ?_
      replace hB := grd_some hB
      obtain ⟨g9q, hB⟩ := hB
      replace hB := bn2_some hB
      obtain ⟨h7q, x8q, eh7q, hB⟩ := hB
      refine r_virtV (as := [.int a1]) (q := pm_m_158) f161_26 ca_6_234 rfl rfl rfl (cs_len (Nat.le_of_ble_eq_true rfl)) g9q (P_M_buriedNow (d := d + 0) eh7q) ?_
      refine r_istore (L' := [.ref t, .int a1, .int a2, .int (-1), .int x8q, pm_J, pm_J]) (x := x8q) f161_29 rfl (Nat.le_of_ble_eq_true rfl) rfl ?_
      refine r_iconst f161_31 ci_0 ?_
      refine r_istore (L' := [.ref t, .int a1, .int a2, .int (-1), .int x8q, .int 0, pm_J]) (x := 0) f161_32 rfl (Nat.le_of_ble_eq_true rfl) rfl ?_
      exact pm_weak (L' := [.ref t, .int a1, .int a2, .int (-1), .int x8q, .int 0, pm_J]) ⟨.inr rfl, .inr rfl, .inr rfl, .inr rfl, .inr rfl, .inr rfl, .inl rfl, trivial⟩ (P_M_hold_34 (d := d) 1000 h7q t a1 a2 (-1) x8q 0 hB)
theorem P_M_lowest_16 {d : Nat} {h' : pm_H} {r : Int64} (n : Nat) : ∀ (h : pm_H) (l0 : Int64) (l2 : Int64) (l4 : Int32) (l5 : Int64) (l7 : Int64), M_lowest_16 n h l0 l2 l4 l5 l7 = some (h', r) → pm_run (pm_ev (d + 0)) 162 16 [.long l0, pm_J, .long l2, pm_J, .int l4, .long l5, pm_J, .long l7, pm_J, pm_J, pm_J] [] h (fun r1 h1 => r1 = some (.long r) ∧ h1 = h') := by
  induction n with
  | zero => intro h l0 l2 l4 l5 l7 hB; cases hB
  | succ n ih =>
    intro h l0 l2 l4 l5 l7 hB
    unfold M_lowest_16 at hB
    refine r_lload f162_16 rfl ?_
    refine r_lconst f162_18 cl_0 ?_
    refine r_lcmp f162_19 ?_
    by_cases c1q : (lg_cmp l7 0) = 0
    · rw [if_pos c1q] at hB
      refine r_if_t (t := 41) f162_20 (by decide) c1q ?_
      refine r_iload f162_41 rfl ?_
      by_cases c2q : l4 = 0
      · rw [if_pos c2q] at hB
        refine r_if_f 50 f162_43 (by decide) (fun q => q c2q) ?_
        refine r_lload_n f162_46 rfl ?_
        refine r_goto (t := 51) f162_47 (by decide) ?_
        refine r_lload f162_51 rfl ?_
        replace hB := grd_some hB
        obtain ⟨z4q, hB⟩ := hB
        refine r_ldiv f162_53 (of_decide_eq_false (by simpa using z4q)) ?_
        exact r_lret pm_m_162 f162_54 rfl rfl (zJ hB)
      · rw [if_neg c2q] at hB
        refine r_if_t (t := 50) f162_43 (by decide) c2q ?_
        refine r_lload_n f162_50 rfl ?_
        refine r_lload f162_51 rfl ?_
        replace hB := grd_some hB
        obtain ⟨z3q, hB⟩ := hB
        refine r_ldiv f162_53 (of_decide_eq_false (by simpa using z3q)) ?_
        exact r_lret pm_m_162 f162_54 rfl rfl (zJ hB)
    · rw [if_neg c1q] at hB
      refine r_if_f 41 f162_20 (by decide) c1q ?_
      refine r_lload f162_23 rfl ?_
      refine r_lload f162_25 rfl ?_
      replace hB := grd_some hB
      obtain ⟨z5q, hB⟩ := hB
      refine r_lrem f162_27 (of_decide_eq_false (by simpa using z5q)) ?_
      obtain ⟨y6q, hy6q⟩ : ∃ z, z = (l5 - l5 / l7 * l7) := ⟨_, rfl⟩
      replace hB := nmd_at hy6q hB
      refine r_lstore (L' := [.long l0, pm_J, .long l2, pm_J, .int l4, .long l5, pm_J, .long l7, pm_J, .long y6q, pm_J]) (x := y6q) f162_28 hy6q (Nat.le_of_ble_eq_true rfl) rfl ?_
      refine r_lload f162_30 rfl ?_
      refine r_lstore (L' := [.long l0, pm_J, .long l2, pm_J, .int l4, .long l7, pm_J, .long l7, pm_J, .long y6q, pm_J]) (x := l7) f162_32 rfl (Nat.le_of_ble_eq_true rfl) rfl ?_
      refine r_lload f162_34 rfl ?_
      refine r_lstore (L' := [.long l0, pm_J, .long l2, pm_J, .int l4, .long l7, pm_J, .long y6q, pm_J, .long y6q, pm_J]) (x := y6q) f162_36 rfl (Nat.le_of_ble_eq_true rfl) rfl ?_
      refine r_goto (t := 16) f162_38 (by decide) ?_
      exact pm_weak (L' := [.long l0, pm_J, .long l2, pm_J, .int l4, .long l7, pm_J, .long y6q, pm_J, pm_J, pm_J]) ⟨.inr rfl, .inl rfl, .inr rfl, .inl rfl, .inr rfl, .inr rfl, .inl rfl, .inr rfl, .inl rfl, .inl rfl, .inl rfl, trivial⟩ (ih h l0 l2 l4 l7 y6q hB)
theorem P_M_lowest {d : Nat} {h h' : pm_H} {r : Int64} {a0 : Int64} {a1 : Int64} {a2 : Int32} (hB : M_lowest h a0 a1 a2 = some (h', r)) : pm_ev (d + 1) 162 [.long a0, .long a1, .int a2] h (some (.long r)) h' := by
  unfold M_lowest at hB
  refine pm_ev_mk (L := [.long a0, pm_J, .long a1, pm_J, .int a2, pm_J, pm_J, pm_J, pm_J, pm_J, pm_J]) pm_m_162 rfl (Nat.le_of_ble_eq_true rfl) rfl ?_
  refine r_lload_n f162_0 rfl ?_
  refine r_lconst f162_1 cl_0 ?_
  refine r_lcmp f162_2 ?_
  by_cases c1q : (lg_cmp a0 0) = 0
  · rw [if_pos c1q] at hB
    refine r_if_f 10 f162_3 (by decide) (fun q => q c1q) ?_
    refine r_iload f162_6 rfl ?_
    refine r_i2l f162_8 ?_
    exact r_lret pm_m_162 f162_9 rfl rfl (zJ hB)
  · rw [if_neg c1q] at hB
    refine r_if_t (t := 10) f162_3 (by decide) c1q ?_
    refine r_lload_n f162_10 rfl ?_
    refine r_lstore (L' := [.long a0, pm_J, .long a1, pm_J, .int a2, .long a0, pm_J, pm_J, pm_J, pm_J, pm_J]) (x := a0) f162_11 rfl (Nat.le_of_ble_eq_true rfl) rfl ?_
    refine r_lload_n f162_13 rfl ?_
    refine r_lstore (L' := [.long a0, pm_J, .long a1, pm_J, .int a2, .long a0, pm_J, .long a1, pm_J, pm_J, pm_J]) (x := a1) f162_14 rfl (Nat.le_of_ble_eq_true rfl) rfl ?_
    exact pm_weak (L' := [.long a0, pm_J, .long a1, pm_J, .int a2, .long a0, pm_J, .long a1, pm_J, pm_J, pm_J]) ⟨.inr rfl, .inl rfl, .inr rfl, .inl rfl, .inr rfl, .inr rfl, .inl rfl, .inr rfl, .inl rfl, .inl rfl, .inl rfl, trivial⟩ (P_M_lowest_16 (d := d) 1000 h a0 a1 a2 a0 a1 hB)
theorem P_M_share {d : Nat} {h h' : pm_H} {r : Int64} {t : Nat} {a1 : Int32} {a2 : Int32} (hB : M_share h t a1 a2 = some (h', r)) : pm_ev (d + 9) 163 [.ref t, .int a1, .int a2] h (some (.long r)) h' := by
  unfold M_share at hB
  refine pm_ev_mk (L := [.ref t, .int a1, .int a2, pm_J]) pm_m_163 rfl (Nat.le_of_ble_eq_true rfl) rfl ?_
  refine r_iload_n f163_0 rfl ?_
  refine r_iconst f163_1 ci_0 ?_
  refine r_bipush f163_2 cb_40 ?_
  replace hB := bn2_some hB
  obtain ⟨h1q, x2q, eh1q, hB⟩ := hB
  refine r_statV (as := [.int a1, .int 0, .int 40]) (q := pm_m_109) f163_4 ca_6_79 rfl (by decide) rfl rfl (cs_len (Nat.le_of_ble_eq_true rfl)) (P_M_in (d := d + 7) eh1q) ?_
  by_cases c3q : x2q = 0
  · rw [if_pos c3q] at hB
    refine r_if_t (t := 28) f163_7 (by decide) c3q ?_
    refine r_ldc2_w (v := (-4611686018427387904)) (p := 978) f163_28 rfl ?_
    exact r_lret pm_m_163 f163_31 rfl rfl (zJ hB)
  · rw [if_neg c3q] at hB
    refine r_if_f 28 f163_7 (by decide) c3q ?_
    refine r_iload_n f163_10 rfl ?_
    refine r_iconst f163_11 ci_0 ?_
    refine r_iconst f163_12 ci_1 ?_
    replace hB := bn2_some hB
    obtain ⟨h4q, x5q, eh4q, hB⟩ := hB
    refine r_statV (as := [.int a2, .int 0, .int 1]) (q := pm_m_109) f163_13 ca_6_79 rfl (by decide) rfl rfl (cs_len (Nat.le_of_ble_eq_true rfl)) (P_M_in (d := d + 7) eh4q) ?_
    by_cases c6q : x5q = 0
    · rw [if_pos c6q] at hB
      refine r_if_t (t := 28) f163_16 (by decide) c6q ?_
      refine r_ldc2_w (v := (-4611686018427387904)) (p := 978) f163_28 rfl ?_
      exact r_lret pm_m_163 f163_31 rfl rfl (zJ hB)
    · rw [if_neg c6q] at hB
      refine r_if_f 28 f163_16 (by decide) c6q ?_
      refine r_aload_nN f163_19 rfl ?_
      replace hB := bnd_some hB
      obtain ⟨x7q, ex7q, hB⟩ := hB
      refine r_getJ f163_20 fa_6_108 ex7q ?_
      refine r_lconst f163_23 cl_0 ?_
      refine r_lcmp f163_24 ?_
      by_cases c8q : (lg_cmp x7q 0) = 0
      · rw [if_pos c8q] at hB
        refine r_if_f 32 f163_25 (by decide) (fun q => q c8q) ?_
        refine r_ldc2_w (v := (-4611686018427387904)) (p := 978) f163_28 rfl ?_
        exact r_lret pm_m_163 f163_31 rfl rfl (zJ hB)
      · rw [if_neg c8q] at hB
        refine r_if_t (t := 32) f163_25 (by decide) c8q ?_
        refine r_aload_nN f163_32 rfl ?_
        replace hB := grd_some hB
        obtain ⟨g11q, hB⟩ := hB
        replace hB := bn2_some hB
        obtain ⟨h9q, _, eh9q, hB⟩ := hB
        refine r_virtN (as := []) (q := pm_m_149) f163_33 ca_6_219 rfl rfl rfl (cs_len (Nat.le_of_ble_eq_true rfl)) g11q (P_M_keeps (d := d + 7) eh9q) ?_
        refine r_aload_nN f163_36 rfl ?_
        refine r_iload_n f163_37 rfl ?_
        replace hB := grd_some hB
        obtain ⟨g14q, hB⟩ := hB
        replace hB := bn2_some hB
        obtain ⟨h12q, x13q, eh12q, hB⟩ := hB
        refine r_virtV (as := [.int a1]) (q := pm_m_151) f163_38 ca_6_222 rfl rfl rfl (cs_len (Nat.le_of_ble_eq_true rfl)) g14q (P_M_goes (d := d + 0) eh12q) ?_
        refine r_popI f163_41 ?_
        refine r_aload_nN f163_42 rfl ?_
        replace hB := grd_some hB
        obtain ⟨g17q, hB⟩ := hB
        replace hB := bn2_some hB
        obtain ⟨h15q, x16q, eh15q, hB⟩ := hB
        refine r_virtV (as := []) (q := pm_m_115) f163_43 ca_6_123 rfl rfl rfl (cs_len (Nat.le_of_ble_eq_true rfl)) g17q (P_M_sand (d := d + 5) eh15q) ?_
        refine r_aload_nN f163_46 rfl ?_
        replace hB := bnd_some hB
        obtain ⟨x18q, ex18q, hB⟩ := hB
        refine r_getJ f163_47 fa_6_108 ex18q ?_
        refine r_land f163_50 ?_
        replace hB := bn2_some hB
        obtain ⟨h19q, x20q, eh19q, hB⟩ := hB
        refine r_statV (as := [.long (x16q &&& x18q)]) (q := pm_m_113) f163_51 ca_6_101 rfl (by decide) rfl rfl (cs_len (Nat.le_of_ble_eq_true rfl)) (P_M_bitsOf (d := d + 7) eh19q) ?_
        refine r_istore_n (L' := [.ref t, .int a1, .int a2, .int x20q]) (x := x20q) f163_54 rfl (Nat.le_of_ble_eq_true rfl) rfl ?_
        refine r_aload_nN f163_55 rfl ?_
        replace hB := grd_some hB
        obtain ⟨g23q, hB⟩ := hB
        replace hB := bn2_some hB
        obtain ⟨h21q, _, eh21q, hB⟩ := hB
        refine r_virtN (as := []) (q := pm_m_150) f163_56 ca_6_228 rfl rfl rfl (cs_len (Nat.le_of_ble_eq_true rfl)) g23q (P_M_lays (d := d + 7) eh21q) ?_
        refine r_iload_n f163_59 rfl ?_
        refine r_i2l f163_60 ?_
        refine r_aload_nN f163_61 rfl ?_
        replace hB := bnd_some hB
        obtain ⟨x24q, ex24q, hB⟩ := hB
        refine r_getJ f163_62 fa_6_108 ex24q ?_
        replace hB := bn2_some hB
        obtain ⟨h25q, x26q, eh25q, hB⟩ := hB
        refine r_statV (as := [.long x24q]) (q := pm_m_113) f163_65 ca_6_101 rfl (by decide) rfl rfl (cs_len (Nat.le_of_ble_eq_true rfl)) (P_M_bitsOf (d := d + 7) eh25q) ?_
        refine r_i2l f163_68 ?_
        refine r_iload_n f163_69 rfl ?_
        replace hB := bn2_some hB
        obtain ⟨h27q, x28q, eh27q, hB⟩ := hB
        refine r_statV (as := [.long (Int32.toInt64 x20q), .long (Int32.toInt64 x26q), .int a2]) (q := pm_m_162) f163_70 ca_6_237 rfl (by decide) rfl rfl (cs_len (Nat.le_of_ble_eq_true rfl)) (P_M_lowest (d := d + 7) eh27q) ?_
        exact r_lret pm_m_163 f163_73 rfl rfl (zJ hB)
theorem P_M_sheetWrong {d : Nat} {h h' : pm_H} {r : Int32} {t : Nat} {a1 : Int32} (hB : M_sheetWrong h t a1 = some (h', r)) : pm_ev (d + 2) 164 [.ref t, .int a1] h (some (.int r)) h' := by
  unfold M_sheetWrong at hB
  refine pm_ev_mk (L := [.ref t, .int a1]) pm_m_164 rfl (Nat.le_of_ble_eq_true rfl) rfl ?_
  refine r_iload_n f164_0 rfl ?_
  refine r_iconst f164_1 ci_0 ?_
  refine r_iconst f164_2 ci_3 ?_
  replace hB := bn2_some hB
  obtain ⟨h1q, x2q, eh1q, hB⟩ := hB
  refine r_statV (as := [.int a1, .int 0, .int 3]) (q := pm_m_109) f164_3 ca_6_79 rfl (by decide) rfl rfl (cs_len (Nat.le_of_ble_eq_true rfl)) (P_M_in (d := d + 0) eh1q) ?_
  by_cases c3q : x2q = 0
  · rw [if_pos c3q] at hB
    refine r_if_f 12 f164_6 (by decide) (fun q => q c3q) ?_
    refine r_bipush f164_9 cb_m2 ?_
    exact r_iret pm_m_164 .int f164_11 rfl rfl rfl (zI hB)
  · rw [if_neg c3q] at hB
    refine r_if_t (t := 12) f164_6 (by decide) c3q ?_
    refine r_aload_nN f164_12 rfl ?_
    replace hB := bnd_some hB
    obtain ⟨x4q, ex4q, hB⟩ := hB
    refine r_getA f164_13 fa_6_41 ex4q ?_
    refine r_iload_n f164_16 rfl ?_
    replace hB := bnd_some hB
    obtain ⟨u5q, rfl, hB⟩ := hB
    replace hB := bnd_some hB
    obtain ⟨x6q, ex6q, hB⟩ := hB
    refine r_aI f164_17 ex6q ?_
    refine r_iconst f164_18 ci_m1 ?_
    by_cases c7q : x6q = (-1)
    · rw [if_pos c7q] at hB
      refine r_ic_f 25 f164_19 (by decide) (fun q => q c7q) ?_
      refine r_bipush f164_22 cb_m11 ?_
      exact r_iret pm_m_164 .int f164_24 rfl rfl rfl (zI hB)
    · rw [if_neg c7q] at hB
      refine r_ic_t (t := 25) f164_19 (by decide) c7q ?_
      refine r_aload_nN f164_25 rfl ?_
      replace hB := bnd_some hB
      obtain ⟨x8q, ex8q, hB⟩ := hB
      refine r_getA f164_26 fa_6_44 ex8q ?_
      refine r_iload_n f164_29 rfl ?_
      replace hB := bnd_some hB
      obtain ⟨u9q, rfl, hB⟩ := hB
      replace hB := bnd_some hB
      obtain ⟨x10q, ex10q, hB⟩ := hB
      refine r_aI f164_30 ex10q ?_
      refine r_bipush f164_31 cb_20 ?_
      by_cases c11q : x10q ≤ 20
      · rw [if_pos c11q] at hB
        refine r_ic_t (t := 41) f164_33 (by decide) c11q ?_
        refine r_iconst f164_41 ci_0 ?_
        exact r_iret pm_m_164 .int f164_42 rfl rfl rfl (zI hB)
      · rw [if_neg c11q] at hB
        refine r_ic_f 41 f164_33 (by decide) c11q ?_
        refine r_bipush f164_36 cb_m2 ?_
        refine r_goto (t := 42) f164_38 (by decide) ?_
        exact r_iret pm_m_164 .int f164_42 rfl rfl rfl (zI hB)
theorem P_M_toldWrong {d : Nat} {h h' : pm_H} {r : Int32} {t : Nat} {a1 : Int32} {a2 : Int32} (hB : M_toldWrong h t a1 a2 = some (h', r)) : pm_ev (d + 3) 165 [.ref t, .int a1, .int a2] h (some (.int r)) h' := by
  unfold M_toldWrong at hB
  refine pm_ev_mk (L := [.ref t, .int a1, .int a2, pm_J]) pm_m_165 rfl (Nat.le_of_ble_eq_true rfl) rfl ?_
  refine r_aload_nN f165_0 rfl ?_
  refine r_iload_n f165_1 rfl ?_
  replace hB := grd_some hB
  obtain ⟨g3q, hB⟩ := hB
  replace hB := bn2_some hB
  obtain ⟨h1q, x2q, eh1q, hB⟩ := hB
  refine r_virtV (as := [.int a1]) (q := pm_m_164) f165_2 ca_6_241 rfl rfl rfl (cs_len (Nat.le_of_ble_eq_true rfl)) g3q (P_M_sheetWrong (d := d + 0) eh1q) ?_
  refine r_istore_n (L' := [.ref t, .int a1, .int a2, .int x2q]) (x := x2q) f165_5 rfl (Nat.le_of_ble_eq_true rfl) rfl ?_
  refine r_iload_n f165_6 rfl ?_
  by_cases c4q : x2q = 0
  · rw [if_pos c4q] at hB
    refine r_if_t (t := 14) f165_7 (by decide) c4q ?_
    refine r_aload_nN f165_14 rfl ?_
    refine r_iload_n f165_15 rfl ?_
    replace hB := grd_some hB
    obtain ⟨g7q, hB⟩ := hB
    replace hB := bn2_some hB
    obtain ⟨h5q, x6q, eh5q, hB⟩ := hB
    refine r_virtV (as := [.int a2]) (q := pm_m_112) f165_16 ca_6_197 rfl rfl rfl (cs_len (Nat.le_of_ble_eq_true rfl)) g7q (P_M_isDune (d := d + 0) eh5q) ?_
    by_cases c8q : x6q = 0
    · rw [if_pos c8q] at hB
      refine r_if_t (t := 26) f165_19 (by decide) c8q ?_
      refine r_bipush f165_26 cb_m5 ?_
      exact r_iret pm_m_165 .int f165_28 rfl rfl rfl (zI hB)
    · rw [if_neg c8q] at hB
      refine r_if_f 26 f165_19 (by decide) c8q ?_
      refine r_iconst f165_22 ci_0 ?_
      refine r_goto (t := 28) f165_23 (by decide) ?_
      exact r_iret pm_m_165 .int f165_28 rfl rfl rfl (zI hB)
  · rw [if_neg c4q] at hB
    refine r_if_f 14 f165_7 (by decide) c4q ?_
    refine r_iload_n f165_10 rfl ?_
    refine r_goto (t := 28) f165_11 (by decide) ?_
    exact r_iret pm_m_165 .int f165_28 rfl rfl rfl (zI hB)
theorem P_M_unlike_57 {d : Nat} {h' : pm_H} {r : Int32} (k_9 : pm_H → Nat → Int32 → Int32 → Int32 → Int32 → Option (pm_H × Int32)) (hk_9 : ∀ (h : pm_H) (l0 : Nat) (l1 : Int32) (l2 : Int32) (l3 : Int32) (l4 : Int32), k_9 h l0 l1 l2 l3 l4 = some (h', r) → pm_run (pm_ev (d + 7)) 166 9 [.ref l0, .int l1, .int l2, .int l3, .int l4] [] h (fun r1 h1 => r1 = some (.int r) ∧ h1 = h')) (h : pm_H) (l0 : Nat) (l1 : Int32) (l2 : Int32) (l4 : Int32) (s0 : Int32) (hB : M_unlike_57 k_9 h l0 l1 l2 l4 s0 = some (h', r)) : pm_run (pm_ev (d + 7)) 166 57 [.ref l0, .int l1, .int l2, pm_J, .int l4] [.int s0] h (fun r1 h1 => r1 = some (.int r) ∧ h1 = h') := by
  unfold M_unlike_57 at hB
  refine r_istore_n (L' := [.ref l0, .int l1, .int l2, .int s0, .int l4]) (x := s0) f166_57 rfl (Nat.le_of_ble_eq_true rfl) rfl ?_
  obtain ⟨y1q, hy1q⟩ : ∃ z, z = l4 + 1 := ⟨_, rfl⟩
  replace hB := nmd_at hy1q hB
  refine r_iinc (L' := [.ref l0, .int l1, .int l2, .int s0, .int y1q]) (x := y1q) f166_58 rfl (hy1q.trans (congrArg (l4 + ·) ci_1.symm)) rfl ?_
  refine r_goto (t := 9) f166_61 (by decide) ?_
  exact pm_weak (L' := [.ref l0, .int l1, .int l2, .int s0, .int y1q]) ⟨.inr rfl, .inr rfl, .inr rfl, .inr rfl, .inr rfl, trivial⟩ (hk_9 h l0 l1 l2 s0 y1q hB)
theorem P_M_unlike_64 {d : Nat} {h' : pm_H} {r : Int32} (h : pm_H) (l0 : Nat) (l3 : Int32) (hB : M_unlike_64 h l0 l3 = some (h', r)) : pm_run (pm_ev (d + 7)) 166 64 [.ref l0, pm_J, pm_J, .int l3, pm_J] [] h (fun r1 h1 => r1 = some (.int r) ∧ h1 = h') := by
  unfold M_unlike_64 at hB
  refine r_aload_nN f166_64 rfl ?_
  replace hB := grd_some hB
  obtain ⟨g3q, hB⟩ := hB
  replace hB := bn2_some hB
  obtain ⟨h1q, _, eh1q, hB⟩ := hB
  refine r_virtN (as := []) (q := pm_m_150) f166_65 ca_6_228 rfl rfl rfl (cs_len (Nat.le_of_ble_eq_true rfl)) g3q (P_M_lays (d := d + 6) eh1q) ?_
  refine r_iload_n f166_68 rfl ?_
  exact r_iret pm_m_166 .int f166_69 rfl rfl rfl (zI hB)
theorem P_M_unlike_9 {d : Nat} {h' : pm_H} {r : Int32} (n : Nat) : ∀ (h : pm_H) (l0 : Nat) (l1 : Int32) (l2 : Int32) (l3 : Int32) (l4 : Int32), M_unlike_9 n h l0 l1 l2 l3 l4 = some (h', r) → pm_run (pm_ev (d + 7)) 166 9 [.ref l0, .int l1, .int l2, .int l3, .int l4] [] h (fun r1 h1 => r1 = some (.int r) ∧ h1 = h') := by
  induction n with
  | zero => intro h l0 l1 l2 l3 l4 hB; cases hB
  | succ n ih =>
    intro h l0 l1 l2 l3 l4 hB
    unfold M_unlike_9 at hB
    refine r_iload f166_9 rfl ?_
    refine r_aload_nN f166_11 rfl ?_
    replace hB := bnd_some hB
    obtain ⟨x1q, ex1q, hB⟩ := hB
    refine r_getA f166_12 fa_6_44 ex1q ?_
    refine r_iload_n f166_15 rfl ?_
    replace hB := bnd_some hB
    obtain ⟨u2q, rfl, hB⟩ := hB
    replace hB := bnd_some hB
    obtain ⟨x3q, ex3q, hB⟩ := hB
    refine r_aI f166_16 ex3q ?_
    by_cases c4q : x3q ≤ l4
    · rw [if_pos c4q] at hB
      refine r_ic_t (t := 64) f166_17 (by decide) c4q ?_
      exact pm_weak (L' := [.ref l0, pm_J, pm_J, .int l3, pm_J]) ⟨.inr rfl, .inl rfl, .inl rfl, .inr rfl, .inl rfl, trivial⟩ (P_M_unlike_64 (d := d) h l0 l3 hB)
    · rw [if_neg c4q] at hB
      refine r_ic_f 64 f166_17 (by decide) c4q ?_
      refine r_iload_n f166_20 rfl ?_
      refine r_iconst f166_21 ci_m1 ?_
      by_cases c5q : l3 = (-1)
      · rw [if_pos c5q] at hB
        refine r_ic_f 64 f166_22 (by decide) (fun q => q c5q) ?_
        refine r_aload_nN f166_25 rfl ?_
        replace hB := grd_some hB
        obtain ⟨g8q, hB⟩ := hB
        replace hB := bn2_some hB
        obtain ⟨h6q, x7q, eh6q, hB⟩ := hB
        refine r_virtV (as := []) (q := pm_m_147) f166_26 ca_6_216 rfl rfl rfl (cs_len (Nat.le_of_ble_eq_true rfl)) g8q (P_M_yearOf (d := d + 0) eh6q) ?_
        refine r_popI f166_29 ?_
        refine r_aload_nN f166_30 rfl ?_
        replace hB := bnd_some hB
        obtain ⟨x9q, ex9q, hB⟩ := hB
        refine r_getA f166_31 fa_6_47 ex9q ?_
        refine r_bipush f166_34 cb_40 ?_
        refine r_iload_n f166_36 rfl ?_
        refine r_imul f166_37 ?_
        refine r_iload f166_38 rfl ?_
        refine r_iadd f166_40 ?_
        replace hB := bnd_some hB
        obtain ⟨u10q, rfl, hB⟩ := hB
        replace hB := bnd_some hB
        obtain ⟨x11q, ex11q, hB⟩ := hB
        refine r_aI f166_41 ex11q ?_
        refine r_aload_nN f166_42 rfl ?_
        refine r_iload_n f166_43 rfl ?_
        refine r_iconst f166_44 ci_0 ?_
        replace hB := grd_some hB
        obtain ⟨g14q, hB⟩ := hB
        replace hB := bn2_some hB
        obtain ⟨h12q, x13q, eh12q, hB⟩ := hB
        refine r_virtV (as := [.int l2, .int 0]) (q := pm_m_152) f166_45 ca_6_225 rfl rfl rfl (cs_len (Nat.le_of_ble_eq_true rfl)) g14q (P_M_ofDune (d := d + 6) eh12q) ?_
        by_cases c15q : x11q = x13q
        · rw [if_pos c15q] at hB
          refine r_ic_f 55 f166_48 (by decide) (fun q => q c15q) ?_
          refine r_iconst f166_51 ci_m1 ?_
          refine r_goto (t := 57) f166_52 (by decide) ?_
          exact pm_weak (L' := [.ref l0, .int l1, .int l2, pm_J, .int l4]) ⟨.inr rfl, .inr rfl, .inr rfl, .inl rfl, .inr rfl, trivial⟩ (P_M_unlike_57 (d := d) (M_unlike_9 n) ih h12q l0 l1 l2 l4 (-1) hB)
        · rw [if_neg c15q] at hB
          refine r_ic_t (t := 55) f166_48 (by decide) c15q ?_
          refine r_iload f166_55 rfl ?_
          exact pm_weak (L' := [.ref l0, .int l1, .int l2, pm_J, .int l4]) ⟨.inr rfl, .inr rfl, .inr rfl, .inl rfl, .inr rfl, trivial⟩ (P_M_unlike_57 (d := d) (M_unlike_9 n) ih h12q l0 l1 l2 l4 l4 hB)
      · rw [if_neg c5q] at hB
        refine r_ic_t (t := 64) f166_22 (by decide) c5q ?_
        exact pm_weak (L' := [.ref l0, pm_J, pm_J, .int l3, pm_J]) ⟨.inr rfl, .inl rfl, .inl rfl, .inr rfl, .inl rfl, trivial⟩ (P_M_unlike_64 (d := d) h l0 l3 hB)
theorem P_M_unlike {d : Nat} {h h' : pm_H} {r : Int32} {t : Nat} {a1 : Int32} {a2 : Int32} (hB : M_unlike h t a1 a2 = some (h', r)) : pm_ev (d + 8) 166 [.ref t, .int a1, .int a2] h (some (.int r)) h' := by
  unfold M_unlike at hB
  refine pm_ev_mk (L := [.ref t, .int a1, .int a2, pm_J, pm_J]) pm_m_166 rfl (Nat.le_of_ble_eq_true rfl) rfl ?_
  refine r_iconst f166_0 ci_m1 ?_
  refine r_istore_n (L' := [.ref t, .int a1, .int a2, .int (-1), pm_J]) (x := (-1)) f166_1 rfl (Nat.le_of_ble_eq_true rfl) rfl ?_
  refine r_aload_nN f166_2 rfl ?_
  replace hB := grd_some hB
  obtain ⟨g3q, hB⟩ := hB
  replace hB := bn2_some hB
  obtain ⟨h1q, _, eh1q, hB⟩ := hB
  refine r_virtN (as := []) (q := pm_m_149) f166_3 ca_6_219 rfl rfl rfl (cs_len (Nat.le_of_ble_eq_true rfl)) g3q (P_M_keeps (d := d + 6) eh1q) ?_
  refine r_iconst f166_6 ci_0 ?_
  refine r_istore (L' := [.ref t, .int a1, .int a2, .int (-1), .int 0]) (x := 0) f166_7 rfl (Nat.le_of_ble_eq_true rfl) rfl ?_
  exact pm_weak (L' := [.ref t, .int a1, .int a2, .int (-1), .int 0]) ⟨.inr rfl, .inr rfl, .inr rfl, .inr rfl, .inr rfl, trivial⟩ (P_M_unlike_9 (d := d) 1000 h1q t a1 a2 (-1) 0 hB)
theorem P_M_judge {d : Nat} {h h' : pm_H} {r : Int32} {t : Nat} {a1 : Int32} {a2 : Int32} (hB : M_judge h t a1 a2 = some (h', r)) : pm_ev (d + 9) 167 [.ref t, .int a1, .int a2] h (some (.int r)) h' := by
  unfold M_judge at hB
  refine pm_ev_mk (L := [.ref t, .int a1, .int a2, pm_J]) pm_m_167 rfl (Nat.le_of_ble_eq_true rfl) rfl ?_
  refine r_aload_nN f167_0 rfl ?_
  refine r_iload_n f167_1 rfl ?_
  refine r_iload_n f167_2 rfl ?_
  replace hB := grd_some hB
  obtain ⟨g3q, hB⟩ := hB
  replace hB := bn2_some hB
  obtain ⟨h1q, x2q, eh1q, hB⟩ := hB
  refine r_virtV (as := [.int a1, .int a2]) (q := pm_m_165) f167_3 ca_6_244 rfl rfl rfl (cs_len (Nat.le_of_ble_eq_true rfl)) g3q (P_M_toldWrong (d := d + 5) eh1q) ?_
  refine r_istore_n (L' := [.ref t, .int a1, .int a2, .int x2q]) (x := x2q) f167_6 rfl (Nat.le_of_ble_eq_true rfl) rfl ?_
  refine r_iload_n f167_7 rfl ?_
  by_cases c4q : x2q = 0
  · rw [if_pos c4q] at hB
    refine r_if_f 20 f167_8 (by decide) (fun q => q c4q) ?_
    refine r_aload_nN f167_11 rfl ?_
    refine r_iload_n f167_12 rfl ?_
    refine r_iload_n f167_13 rfl ?_
    replace hB := grd_some hB
    obtain ⟨g7q, hB⟩ := hB
    replace hB := bn2_some hB
    obtain ⟨h5q, x6q, eh5q, hB⟩ := hB
    refine r_virtV (as := [.int a1, .int a2]) (q := pm_m_166) f167_14 ca_6_247 rfl rfl rfl (cs_len (Nat.le_of_ble_eq_true rfl)) g7q (P_M_unlike (d := d + 0) eh5q) ?_
    refine r_goto (t := 21) f167_17 (by decide) ?_
    exact r_iret pm_m_167 .int f167_21 rfl rfl rfl (zI hB)
  · rw [if_neg c4q] at hB
    refine r_if_t (t := 20) f167_8 (by decide) c4q ?_
    refine r_iload_n f167_20 rfl ?_
    exact r_iret pm_m_167 .int f167_21 rfl rfl rfl (zI hB)
theorem P_M_kinds_121 {d : Nat} {h' : pm_H} {r : Int32} (k_50 : pm_H → Nat → Int32 → Int32 → Int32 → Int32 → Int32 → Int32 → Int32 → Option (pm_H × Int32)) (hk_50 : ∀ (h : pm_H) (l0 : Nat) (l1 : Int32) (l2 : Int32) (l3 : Int32) (l5 : Int32) (l6 : Int32) (l7 : Int32) (l8 : Int32), k_50 h l0 l1 l2 l3 l5 l6 l7 l8 = some (h', r) → pm_run (pm_ev (d + 8)) 168 50 [.ref l0, .int l1, .int l2, .int l3, pm_J, .int l5, .int l6, .int l7, .int l8] [] h (fun r1 h1 => r1 = some (.int r) ∧ h1 = h')) (h : pm_H) (l0 : Nat) (l1 : Int32) (l2 : Int32) (l3 : Int32) (l5 : Int32) (l6 : Int32) (l8 : Int32) (s0 : Int32) (s1 : Int32) (hB : M_kinds_121 k_50 h l0 l1 l2 l3 l5 l6 l8 s0 s1 = some (h', r)) : pm_run (pm_ev (d + 8)) 168 121 [.ref l0, .int l1, .int l2, .int l3, pm_J, .int l5, .int l6, pm_J, .int l8] [.int s0, .int s1] h (fun r1 h1 => r1 = some (.int r) ∧ h1 = h') := by
  unfold M_kinds_121 at hB
  refine r_ior f168_121 ?_
  obtain ⟨y1q, hy1q⟩ : ∃ z, z = (s1 ||| s0) := ⟨_, rfl⟩
  replace hB := nmd_at hy1q hB
  refine r_istore (L' := [.ref l0, .int l1, .int l2, .int l3, pm_J, .int l5, .int l6, .int y1q, .int l8]) (x := y1q) f168_122 hy1q (Nat.le_of_ble_eq_true rfl) rfl ?_
  obtain ⟨y2q, hy2q⟩ : ∃ z, z = l8 + 1 := ⟨_, rfl⟩
  replace hB := nmd_at hy2q hB
  refine r_iinc (L' := [.ref l0, .int l1, .int l2, .int l3, pm_J, .int l5, .int l6, .int y1q, .int y2q]) (x := y2q) f168_124 rfl (hy2q.trans (congrArg (l8 + ·) ci_1.symm)) rfl ?_
  refine r_goto (t := 50) f168_127 (by decide) ?_
  exact pm_weak (L' := [.ref l0, .int l1, .int l2, .int l3, pm_J, .int l5, .int l6, .int y1q, .int y2q]) ⟨.inr rfl, .inr rfl, .inr rfl, .inr rfl, .inl rfl, .inr rfl, .inr rfl, .inr rfl, .inr rfl, trivial⟩ (hk_50 h l0 l1 l2 l3 l5 l6 y1q y2q hB)
theorem P_M_kinds_100 {d : Nat} {h' : pm_H} {r : Int32} (k_50 : pm_H → Nat → Int32 → Int32 → Int32 → Int32 → Int32 → Int32 → Int32 → Option (pm_H × Int32)) (hk_50 : ∀ (h : pm_H) (l0 : Nat) (l1 : Int32) (l2 : Int32) (l3 : Int32) (l5 : Int32) (l6 : Int32) (l7 : Int32) (l8 : Int32), k_50 h l0 l1 l2 l3 l5 l6 l7 l8 = some (h', r) → pm_run (pm_ev (d + 8)) 168 50 [.ref l0, .int l1, .int l2, .int l3, pm_J, .int l5, .int l6, .int l7, .int l8] [] h (fun r1 h1 => r1 = some (.int r) ∧ h1 = h')) (h : pm_H) (l0 : Nat) (l1 : Int32) (l2 : Int32) (l3 : Int32) (l5 : Int32) (l6 : Int32) (l7 : Int32) (l8 : Int32) (s0 : Int32) (s1 : Int32) (s2 : Option Nat) (hB : M_kinds_100 k_50 h l0 l1 l2 l3 l5 l6 l7 l8 s0 s1 s2 = some (h', r)) : pm_run (pm_ev (d + 8)) 168 100 [.ref l0, .int l1, .int l2, .int l3, pm_J, .int l5, .int l6, .int l7, .int l8] [.int s0, .int s1, va_rf s2] h (fun r1 h1 => r1 = some (.int r) ∧ h1 = h') := by
  unfold M_kinds_100 at hB
  replace hB := bnd_some hB
  obtain ⟨u1q, rfl, hB⟩ := hB
  replace hB := bnd_some hB
  obtain ⟨h2q, eh2q, hB⟩ := hB
  refine r_sI f168_100 eh2q ?_
  refine r_iload f168_101 rfl ?_
  refine r_aload_nN f168_103 rfl ?_
  refine r_iload_n f168_104 rfl ?_
  refine r_iload_n f168_105 rfl ?_
  replace hB := grd_some hB
  obtain ⟨g5q, hB⟩ := hB
  replace hB := bn2_some hB
  obtain ⟨h3q, x4q, eh3q, hB⟩ := hB
  refine r_virtV (as := [.int l1, .int l2]) (q := pm_m_166) f168_106 ca_6_247 rfl rfl rfl (cs_len (Nat.le_of_ble_eq_true rfl)) g5q (P_M_unlike (d := d + 0) eh3q) ?_
  refine r_iconst f168_109 ci_m1 ?_
  by_cases c6q : x4q = (-1)
  · rw [if_pos c6q] at hB
    refine r_ic_f 120 f168_110 (by decide) (fun q => q c6q) ?_
    refine r_iconst f168_113 ci_1 ?_
    refine r_iload f168_114 rfl ?_
    refine r_ishl f168_116 ?_
    refine r_goto (t := 121) f168_117 (by decide) ?_
    exact pm_weak (L' := [.ref l0, .int l1, .int l2, .int l3, pm_J, .int l5, .int l6, pm_J, .int l8]) ⟨.inr rfl, .inr rfl, .inr rfl, .inr rfl, .inl rfl, .inr rfl, .inr rfl, .inl rfl, .inr rfl, trivial⟩ (P_M_kinds_121 (d := d) k_50 hk_50 h3q l0 l1 l2 l3 l5 l6 l8 (1 <<< (l8 &&& 31)) l7 hB)
  · rw [if_neg c6q] at hB
    refine r_ic_t (t := 120) f168_110 (by decide) c6q ?_
    refine r_iconst f168_120 ci_0 ?_
    exact pm_weak (L' := [.ref l0, .int l1, .int l2, .int l3, pm_J, .int l5, .int l6, pm_J, .int l8]) ⟨.inr rfl, .inr rfl, .inr rfl, .inr rfl, .inl rfl, .inr rfl, .inr rfl, .inl rfl, .inr rfl, trivial⟩ (P_M_kinds_121 (d := d) k_50 hk_50 h3q l0 l1 l2 l3 l5 l6 l8 0 l7 hB)
theorem P_M_kinds_82 {d : Nat} {h' : pm_H} {r : Int32} (k_50 : pm_H → Nat → Int32 → Int32 → Int32 → Int32 → Int32 → Int32 → Int32 → Option (pm_H × Int32)) (hk_50 : ∀ (h : pm_H) (l0 : Nat) (l1 : Int32) (l2 : Int32) (l3 : Int32) (l5 : Int32) (l6 : Int32) (l7 : Int32) (l8 : Int32), k_50 h l0 l1 l2 l3 l5 l6 l7 l8 = some (h', r) → pm_run (pm_ev (d + 8)) 168 50 [.ref l0, .int l1, .int l2, .int l3, pm_J, .int l5, .int l6, .int l7, .int l8] [] h (fun r1 h1 => r1 = some (.int r) ∧ h1 = h')) (h : pm_H) (l0 : Nat) (l1 : Int32) (l2 : Int32) (l3 : Int32) (l5 : Int32) (l6 : Int32) (l7 : Int32) (l8 : Int32) (s0 : Int32) (s1 : Int32) (s2 : Option Nat) (hB : M_kinds_82 k_50 h l0 l1 l2 l3 l5 l6 l7 l8 s0 s1 s2 = some (h', r)) : pm_run (pm_ev (d + 8)) 168 82 [.ref l0, .int l1, .int l2, .int l3, pm_J, .int l5, .int l6, .int l7, .int l8] [.int s0, .int s1, va_rf s2] h (fun r1 h1 => r1 = some (.int r) ∧ h1 = h') := by
  unfold M_kinds_82 at hB
  replace hB := bnd_some hB
  obtain ⟨u1q, rfl, hB⟩ := hB
  replace hB := bnd_some hB
  obtain ⟨h2q, eh2q, hB⟩ := hB
  refine r_sI f168_82 eh2q ?_
  refine r_aload_nN f168_83 rfl ?_
  replace hB := bnd_some hB
  obtain ⟨x3q, ex3q, hB⟩ := hB
  refine r_getA f168_84 fa_6_13 ex3q ?_
  refine r_iload_n f168_87 rfl ?_
  refine r_iload_n f168_88 rfl ?_
  refine r_iconst f168_89 ci_1 ?_
  by_cases c4q : l3 = 1
  · rw [if_pos c4q] at hB
    refine r_ic_f 98 f168_90 (by decide) (fun q => q c4q) ?_
    refine r_iload f168_93 rfl ?_
    refine r_goto (t := 100) f168_95 (by decide) ?_
    exact pm_weak (L' := [.ref l0, .int l1, .int l2, .int l3, pm_J, .int l5, .int l6, .int l7, .int l8]) ⟨.inr rfl, .inr rfl, .inr rfl, .inr rfl, .inl rfl, .inr rfl, .inr rfl, .inr rfl, .inr rfl, trivial⟩ (P_M_kinds_100 (d := d) k_50 hk_50 h2q l0 l1 l2 l3 l5 l6 l7 l8 l8 l2 x3q hB)
  · rw [if_neg c4q] at hB
    refine r_ic_t (t := 98) f168_90 (by decide) c4q ?_
    refine r_iload f168_98 rfl ?_
    exact pm_weak (L' := [.ref l0, .int l1, .int l2, .int l3, pm_J, .int l5, .int l6, .int l7, .int l8]) ⟨.inr rfl, .inr rfl, .inr rfl, .inr rfl, .inl rfl, .inr rfl, .inr rfl, .inr rfl, .inr rfl, trivial⟩ (P_M_kinds_100 (d := d) k_50 hk_50 h2q l0 l1 l2 l3 l5 l6 l7 l8 l6 l2 x3q hB)
theorem P_M_kinds_63 {d : Nat} {h' : pm_H} {r : Int32} (k_50 : pm_H → Nat → Int32 → Int32 → Int32 → Int32 → Int32 → Int32 → Int32 → Option (pm_H × Int32)) (hk_50 : ∀ (h : pm_H) (l0 : Nat) (l1 : Int32) (l2 : Int32) (l3 : Int32) (l5 : Int32) (l6 : Int32) (l7 : Int32) (l8 : Int32), k_50 h l0 l1 l2 l3 l5 l6 l7 l8 = some (h', r) → pm_run (pm_ev (d + 8)) 168 50 [.ref l0, .int l1, .int l2, .int l3, pm_J, .int l5, .int l6, .int l7, .int l8] [] h (fun r1 h1 => r1 = some (.int r) ∧ h1 = h')) (h : pm_H) (l0 : Nat) (l1 : Int32) (l2 : Int32) (l3 : Int32) (l5 : Int32) (l6 : Int32) (l7 : Int32) (l8 : Int32) (s0 : Int32) (s1 : Int32) (hB : M_kinds_63 k_50 h l0 l1 l2 l3 l5 l6 l7 l8 s0 s1 = some (h', r)) : pm_run (pm_ev (d + 8)) 168 63 [.ref l0, .int l1, .int l2, .int l3, pm_J, .int l5, .int l6, .int l7, .int l8] [.int s0, .int s1] h (fun r1 h1 => r1 = some (.int r) ∧ h1 = h') := by
  unfold M_kinds_63 at hB
  by_cases c1q : s0 ≤ s1
  · rw [if_pos c1q] at hB
    refine r_ic_t (t := 130) f168_63 (by decide) c1q ?_
    refine r_aload_nN f168_130 rfl ?_
    replace hB := bnd_some hB
    obtain ⟨x2q, ex2q, hB⟩ := hB
    refine r_getA f168_131 fa_6_7 ex2q ?_
    refine r_iload_n f168_134 rfl ?_
    refine r_iload f168_135 rfl ?_
    replace hB := bnd_some hB
    obtain ⟨u3q, rfl, hB⟩ := hB
    replace hB := bnd_some hB
    obtain ⟨h4q, eh4q, hB⟩ := hB
    refine r_sI f168_137 eh4q ?_
    refine r_aload_nN f168_138 rfl ?_
    replace hB := bnd_some hB
    obtain ⟨x5q, ex5q, hB⟩ := hB
    refine r_getA f168_139 fa_6_13 ex5q ?_
    refine r_iload_n f168_142 rfl ?_
    refine r_iload f168_143 rfl ?_
    replace hB := bnd_some hB
    obtain ⟨u6q, rfl, hB⟩ := hB
    replace hB := bnd_some hB
    obtain ⟨h7q, eh7q, hB⟩ := hB
    refine r_sI f168_145 eh7q ?_
    refine r_iload f168_146 rfl ?_
    exact r_iret pm_m_168 .int f168_148 rfl rfl rfl (zI hB)
  · rw [if_neg c1q] at hB
    refine r_ic_f 130 f168_63 (by decide) c1q ?_
    refine r_aload_nN f168_66 rfl ?_
    replace hB := bnd_some hB
    obtain ⟨x8q, ex8q, hB⟩ := hB
    refine r_getA f168_67 fa_6_7 ex8q ?_
    refine r_iload_n f168_70 rfl ?_
    refine r_iload_n f168_71 rfl ?_
    by_cases c9q : l3 = 0
    · rw [if_pos c9q] at hB
      refine r_if_f 80 f168_72 (by decide) (fun q => q c9q) ?_
      refine r_iload f168_75 rfl ?_
      refine r_goto (t := 82) f168_77 (by decide) ?_
      exact pm_weak (L' := [.ref l0, .int l1, .int l2, .int l3, pm_J, .int l5, .int l6, .int l7, .int l8]) ⟨.inr rfl, .inr rfl, .inr rfl, .inr rfl, .inl rfl, .inr rfl, .inr rfl, .inr rfl, .inr rfl, trivial⟩ (P_M_kinds_82 (d := d) k_50 hk_50 h l0 l1 l2 l3 l5 l6 l7 l8 l8 l2 x8q hB)
    · rw [if_neg c9q] at hB
      refine r_if_t (t := 80) f168_72 (by decide) c9q ?_
      refine r_iload f168_80 rfl ?_
      exact pm_weak (L' := [.ref l0, .int l1, .int l2, .int l3, pm_J, .int l5, .int l6, .int l7, .int l8]) ⟨.inr rfl, .inr rfl, .inr rfl, .inr rfl, .inl rfl, .inr rfl, .inr rfl, .inr rfl, .inr rfl, trivial⟩ (P_M_kinds_82 (d := d) k_50 hk_50 h l0 l1 l2 l3 l5 l6 l7 l8 l5 l2 x8q hB)
theorem P_M_kinds_50 {d : Nat} {h' : pm_H} {r : Int32} (n : Nat) : ∀ (h : pm_H) (l0 : Nat) (l1 : Int32) (l2 : Int32) (l3 : Int32) (l5 : Int32) (l6 : Int32) (l7 : Int32) (l8 : Int32), M_kinds_50 n h l0 l1 l2 l3 l5 l6 l7 l8 = some (h', r) → pm_run (pm_ev (d + 8)) 168 50 [.ref l0, .int l1, .int l2, .int l3, pm_J, .int l5, .int l6, .int l7, .int l8] [] h (fun r1 h1 => r1 = some (.int r) ∧ h1 = h') := by
  induction n with
  | zero => intro h l0 l1 l2 l3 l5 l6 l7 l8 hB; cases hB
  | succ n ih =>
    intro h l0 l1 l2 l3 l5 l6 l7 l8 hB
    unfold M_kinds_50 at hB
    refine r_iload f168_50 rfl ?_
    refine r_iload_n f168_52 rfl ?_
    by_cases c1q : l3 = 0
    · rw [if_pos c1q] at hB
      refine r_if_f 61 f168_53 (by decide) (fun q => q c1q) ?_
      refine r_bipush f168_56 cb_6 ?_
      refine r_goto (t := 63) f168_58 (by decide) ?_
      exact pm_weak (L' := [.ref l0, .int l1, .int l2, .int l3, pm_J, .int l5, .int l6, .int l7, .int l8]) ⟨.inr rfl, .inr rfl, .inr rfl, .inr rfl, .inl rfl, .inr rfl, .inr rfl, .inr rfl, .inr rfl, trivial⟩ (P_M_kinds_63 (d := d) (M_kinds_50 n) ih h l0 l1 l2 l3 l5 l6 l7 l8 6 l8 hB)
    · rw [if_neg c1q] at hB
      refine r_if_t (t := 61) f168_53 (by decide) c1q ?_
      refine r_bipush f168_61 cb_10 ?_
      exact pm_weak (L' := [.ref l0, .int l1, .int l2, .int l3, pm_J, .int l5, .int l6, .int l7, .int l8]) ⟨.inr rfl, .inr rfl, .inr rfl, .inr rfl, .inl rfl, .inr rfl, .inr rfl, .inr rfl, .inr rfl, trivial⟩ (P_M_kinds_63 (d := d) (M_kinds_50 n) ih h l0 l1 l2 l3 l5 l6 l7 l8 10 l8 hB)
theorem P_M_kinds {d : Nat} {h h' : pm_H} {r : Int32} {t : Nat} {a1 : Int32} {a2 : Int32} {a3 : Int32} (hB : M_kinds h t a1 a2 a3 = some (h', r)) : pm_ev (d + 9) 168 [.ref t, .int a1, .int a2, .int a3] h (some (.int r)) h' := by
  unfold M_kinds at hB
  refine pm_ev_mk (L := [.ref t, .int a1, .int a2, .int a3, pm_J, pm_J, pm_J, pm_J, pm_J]) pm_m_168 rfl (Nat.le_of_ble_eq_true rfl) rfl ?_
  refine r_aload_nN f168_0 rfl ?_
  refine r_iload_n f168_1 rfl ?_
  refine r_iload_n f168_2 rfl ?_
  replace hB := grd_some hB
  obtain ⟨g3q, hB⟩ := hB
  replace hB := bn2_some hB
  obtain ⟨h1q, x2q, eh1q, hB⟩ := hB
  refine r_virtV (as := [.int a1, .int a2]) (q := pm_m_165) f168_3 ca_6_244 rfl rfl rfl (cs_len (Nat.le_of_ble_eq_true rfl)) g3q (P_M_toldWrong (d := d + 5) eh1q) ?_
  refine r_istore (L' := [.ref t, .int a1, .int a2, .int a3, .int x2q, pm_J, pm_J, pm_J, pm_J]) (x := x2q) f168_6 rfl (Nat.le_of_ble_eq_true rfl) rfl ?_
  refine r_iload f168_8 rfl ?_
  by_cases c4q : x2q = 0
  · rw [if_pos c4q] at hB
    refine r_if_t (t := 16) f168_10 (by decide) c4q ?_
    refine r_iload_n f168_16 rfl ?_
    refine r_iconst f168_17 ci_0 ?_
    refine r_iconst f168_18 ci_1 ?_
    replace hB := bn2_some hB
    obtain ⟨h5q, x6q, eh5q, hB⟩ := hB
    refine r_statV (as := [.int a3, .int 0, .int 1]) (q := pm_m_109) f168_19 ca_6_79 rfl (by decide) rfl rfl (cs_len (Nat.le_of_ble_eq_true rfl)) (P_M_in (d := d + 7) eh5q) ?_
    by_cases c7q : x6q = 0
    · rw [if_pos c7q] at hB
      refine r_if_f 28 f168_22 (by decide) (fun q => q c7q) ?_
      refine r_bipush f168_25 cb_m7 ?_
      exact r_iret pm_m_168 .int f168_27 rfl rfl rfl (zI hB)
    · rw [if_neg c7q] at hB
      refine r_if_t (t := 28) f168_22 (by decide) c7q ?_
      refine r_aload_nN f168_28 rfl ?_
      replace hB := bnd_some hB
      obtain ⟨x8q, ex8q, hB⟩ := hB
      refine r_getA f168_29 fa_6_7 ex8q ?_
      refine r_iload_n f168_32 rfl ?_
      replace hB := bnd_some hB
      obtain ⟨u9q, rfl, hB⟩ := hB
      replace hB := bnd_some hB
      obtain ⟨x10q, ex10q, hB⟩ := hB
      refine r_aI f168_33 ex10q ?_
      refine r_istore (L' := [.ref t, .int a1, .int a2, .int a3, .int x2q, .int x10q, pm_J, pm_J, pm_J]) (x := x10q) f168_34 rfl (Nat.le_of_ble_eq_true rfl) rfl ?_
      refine r_aload_nN f168_36 rfl ?_
      replace hB := bnd_some hB
      obtain ⟨x11q, ex11q, hB⟩ := hB
      refine r_getA f168_37 fa_6_13 ex11q ?_
      refine r_iload_n f168_40 rfl ?_
      replace hB := bnd_some hB
      obtain ⟨u12q, rfl, hB⟩ := hB
      replace hB := bnd_some hB
      obtain ⟨x13q, ex13q, hB⟩ := hB
      refine r_aI f168_41 ex13q ?_
      refine r_istore (L' := [.ref t, .int a1, .int a2, .int a3, .int x2q, .int x10q, .int x13q, pm_J, pm_J]) (x := x13q) f168_42 rfl (Nat.le_of_ble_eq_true rfl) rfl ?_
      refine r_iconst f168_44 ci_0 ?_
      refine r_istore (L' := [.ref t, .int a1, .int a2, .int a3, .int x2q, .int x10q, .int x13q, .int 0, pm_J]) (x := 0) f168_45 rfl (Nat.le_of_ble_eq_true rfl) rfl ?_
      refine r_iconst f168_47 ci_0 ?_
      refine r_istore (L' := [.ref t, .int a1, .int a2, .int a3, .int x2q, .int x10q, .int x13q, .int 0, .int 0]) (x := 0) f168_48 rfl (Nat.le_of_ble_eq_true rfl) rfl ?_
      exact pm_weak (L' := [.ref t, .int a1, .int a2, .int a3, pm_J, .int x10q, .int x13q, .int 0, .int 0]) ⟨.inr rfl, .inr rfl, .inr rfl, .inr rfl, .inl rfl, .inr rfl, .inr rfl, .inr rfl, .inr rfl, trivial⟩ (P_M_kinds_50 (d := d) 1000 h5q t a1 a2 a3 x10q x13q 0 0 hB)
  · rw [if_neg c4q] at hB
    refine r_if_f 16 f168_10 (by decide) c4q ?_
    refine r_iload f168_13 rfl ?_
    exact r_iret pm_m_168 .int f168_15 rfl rfl rfl (zI hB)
theorem P_M_states_160 {d : Nat} {h' : pm_H} {r : Int32} (k_91 : pm_H → Nat → Int32 → Int32 → Int32 → Int32 → Int32 → Int32 → Int32 → Int32 → Int32 → Option (pm_H × Int32)) (hk_91 : ∀ (h : pm_H) (l0 : Nat) (l1 : Int32) (l2 : Int32) (l3 : Int32) (l4 : Int32) (l6 : Int32) (l7 : Int32) (l8 : Int32) (l9 : Int32) (l10 : Int32), k_91 h l0 l1 l2 l3 l4 l6 l7 l8 l9 l10 = some (h', r) → pm_run (pm_ev (d + 8)) 169 91 [.ref l0, .int l1, .int l2, .int l3, .int l4, pm_J, .int l6, .int l7, .int l8, .int l9, .int l10, pm_J] [] h (fun r1 h1 => r1 = some (.int r) ∧ h1 = h')) (h : pm_H) (l0 : Nat) (l1 : Int32) (l2 : Int32) (l3 : Int32) (l4 : Int32) (l6 : Int32) (l7 : Int32) (l9 : Int32) (l10 : Int32) (s0 : Int32) (hB : M_states_160 k_91 h l0 l1 l2 l3 l4 l6 l7 l9 l10 s0 = some (h', r)) : pm_run (pm_ev (d + 8)) 169 160 [.ref l0, .int l1, .int l2, .int l3, .int l4, pm_J, .int l6, .int l7, pm_J, .int l9, .int l10, pm_J] [.int s0] h (fun r1 h1 => r1 = some (.int r) ∧ h1 = h') := by
  unfold M_states_160 at hB
  refine r_istore (L' := [.ref l0, .int l1, .int l2, .int l3, .int l4, pm_J, .int l6, .int l7, .int s0, .int l9, .int l10, pm_J]) (x := s0) f169_160 rfl (Nat.le_of_ble_eq_true rfl) rfl ?_
  obtain ⟨y1q, hy1q⟩ : ∃ z, z = l10 + 1 := ⟨_, rfl⟩
  replace hB := nmd_at hy1q hB
  refine r_iinc (L' := [.ref l0, .int l1, .int l2, .int l3, .int l4, pm_J, .int l6, .int l7, .int s0, .int l9, .int y1q, pm_J]) (x := y1q) f169_162 rfl (hy1q.trans (congrArg (l10 + ·) ci_1.symm)) rfl ?_
  refine r_goto (t := 91) f169_165 (by decide) ?_
  exact pm_weak (L' := [.ref l0, .int l1, .int l2, .int l3, .int l4, pm_J, .int l6, .int l7, .int s0, .int l9, .int y1q, pm_J]) ⟨.inr rfl, .inr rfl, .inr rfl, .inr rfl, .inr rfl, .inl rfl, .inr rfl, .inr rfl, .inr rfl, .inr rfl, .inr rfl, .inl rfl, trivial⟩ (hk_91 h l0 l1 l2 l3 l4 l6 l7 s0 l9 y1q hB)
theorem P_M_states_158 {d : Nat} {h' : pm_H} {r : Int32} (k_91 : pm_H → Nat → Int32 → Int32 → Int32 → Int32 → Int32 → Int32 → Int32 → Int32 → Int32 → Option (pm_H × Int32)) (hk_91 : ∀ (h : pm_H) (l0 : Nat) (l1 : Int32) (l2 : Int32) (l3 : Int32) (l4 : Int32) (l6 : Int32) (l7 : Int32) (l8 : Int32) (l9 : Int32) (l10 : Int32), k_91 h l0 l1 l2 l3 l4 l6 l7 l8 l9 l10 = some (h', r) → pm_run (pm_ev (d + 8)) 169 91 [.ref l0, .int l1, .int l2, .int l3, .int l4, pm_J, .int l6, .int l7, .int l8, .int l9, .int l10, pm_J] [] h (fun r1 h1 => r1 = some (.int r) ∧ h1 = h')) (h : pm_H) (l0 : Nat) (l1 : Int32) (l2 : Int32) (l3 : Int32) (l4 : Int32) (l6 : Int32) (l7 : Int32) (l8 : Int32) (l9 : Int32) (l10 : Int32) (hB : M_states_158 k_91 h l0 l1 l2 l3 l4 l6 l7 l8 l9 l10 = some (h', r)) : pm_run (pm_ev (d + 8)) 169 158 [.ref l0, .int l1, .int l2, .int l3, .int l4, pm_J, .int l6, .int l7, .int l8, .int l9, .int l10, pm_J] [] h (fun r1 h1 => r1 = some (.int r) ∧ h1 = h') := by
  unfold M_states_158 at hB
  refine r_iload f169_158 rfl ?_
  exact pm_weak (L' := [.ref l0, .int l1, .int l2, .int l3, .int l4, pm_J, .int l6, .int l7, pm_J, .int l9, .int l10, pm_J]) ⟨.inr rfl, .inr rfl, .inr rfl, .inr rfl, .inr rfl, .inl rfl, .inr rfl, .inr rfl, .inl rfl, .inr rfl, .inr rfl, .inl rfl, trivial⟩ (P_M_states_160 (d := d) k_91 hk_91 h l0 l1 l2 l3 l4 l6 l7 l9 l10 l8 hB)
theorem P_M_states_139 {d : Nat} {h' : pm_H} {r : Int32} (k_91 : pm_H → Nat → Int32 → Int32 → Int32 → Int32 → Int32 → Int32 → Int32 → Int32 → Int32 → Option (pm_H × Int32)) (hk_91 : ∀ (h : pm_H) (l0 : Nat) (l1 : Int32) (l2 : Int32) (l3 : Int32) (l4 : Int32) (l6 : Int32) (l7 : Int32) (l8 : Int32) (l9 : Int32) (l10 : Int32), k_91 h l0 l1 l2 l3 l4 l6 l7 l8 l9 l10 = some (h', r) → pm_run (pm_ev (d + 8)) 169 91 [.ref l0, .int l1, .int l2, .int l3, .int l4, pm_J, .int l6, .int l7, .int l8, .int l9, .int l10, pm_J] [] h (fun r1 h1 => r1 = some (.int r) ∧ h1 = h')) (h : pm_H) (l0 : Nat) (l1 : Int32) (l2 : Int32) (l3 : Int32) (l4 : Int32) (l6 : Int32) (l8 : Int32) (l9 : Int32) (l10 : Int32) (l11 : Int32) (s0 : Int32) (s1 : Int32) (hB : M_states_139 k_91 h l0 l1 l2 l3 l4 l6 l8 l9 l10 l11 s0 s1 = some (h', r)) : pm_run (pm_ev (d + 8)) 169 139 [.ref l0, .int l1, .int l2, .int l3, .int l4, pm_J, .int l6, pm_J, .int l8, .int l9, .int l10, .int l11] [.int s0, .int s1] h (fun r1 h1 => r1 = some (.int r) ∧ h1 = h') := by
  unfold M_states_139 at hB
  refine r_iadd f169_139 ?_
  obtain ⟨y1q, hy1q⟩ : ∃ z, z = (s1 + s0) := ⟨_, rfl⟩
  replace hB := nmd_at hy1q hB
  refine r_istore (L' := [.ref l0, .int l1, .int l2, .int l3, .int l4, pm_J, .int l6, .int y1q, .int l8, .int l9, .int l10, .int l11]) (x := y1q) f169_140 hy1q (Nat.le_of_ble_eq_true rfl) rfl ?_
  refine r_iload f169_142 rfl ?_
  by_cases c2q : l11 = 0
  · rw [if_pos c2q] at hB
    refine r_if_t (t := 158) f169_144 (by decide) c2q ?_
    exact pm_weak (L' := [.ref l0, .int l1, .int l2, .int l3, .int l4, pm_J, .int l6, .int y1q, .int l8, .int l9, .int l10, pm_J]) ⟨.inr rfl, .inr rfl, .inr rfl, .inr rfl, .inr rfl, .inl rfl, .inr rfl, .inr rfl, .inr rfl, .inr rfl, .inr rfl, .inl rfl, trivial⟩ (P_M_states_158 (d := d) k_91 hk_91 h l0 l1 l2 l3 l4 l6 y1q l8 l9 l10 hB)
  · rw [if_neg c2q] at hB
    refine r_if_f 158 f169_144 (by decide) c2q ?_
    refine r_iload f169_147 rfl ?_
    refine r_iconst f169_149 ci_m1 ?_
    by_cases c3q : l8 = (-1)
    · rw [if_pos c3q] at hB
      refine r_ic_f 158 f169_150 (by decide) (fun q => q c3q) ?_
      refine r_iload f169_153 rfl ?_
      refine r_goto (t := 160) f169_155 (by decide) ?_
      exact pm_weak (L' := [.ref l0, .int l1, .int l2, .int l3, .int l4, pm_J, .int l6, .int y1q, pm_J, .int l9, .int l10, pm_J]) ⟨.inr rfl, .inr rfl, .inr rfl, .inr rfl, .inr rfl, .inl rfl, .inr rfl, .inr rfl, .inl rfl, .inr rfl, .inr rfl, .inl rfl, trivial⟩ (P_M_states_160 (d := d) k_91 hk_91 h l0 l1 l2 l3 l4 l6 y1q l9 l10 l10 hB)
    · rw [if_neg c3q] at hB
      refine r_ic_t (t := 158) f169_150 (by decide) c3q ?_
      exact pm_weak (L' := [.ref l0, .int l1, .int l2, .int l3, .int l4, pm_J, .int l6, .int y1q, .int l8, .int l9, .int l10, pm_J]) ⟨.inr rfl, .inr rfl, .inr rfl, .inr rfl, .inr rfl, .inl rfl, .inr rfl, .inr rfl, .inr rfl, .inr rfl, .inr rfl, .inl rfl, trivial⟩ (P_M_states_158 (d := d) k_91 hk_91 h l0 l1 l2 l3 l4 l6 y1q l8 l9 l10 hB)
theorem P_M_states_125 {d : Nat} {h' : pm_H} {r : Int32} (k_91 : pm_H → Nat → Int32 → Int32 → Int32 → Int32 → Int32 → Int32 → Int32 → Int32 → Int32 → Option (pm_H × Int32)) (hk_91 : ∀ (h : pm_H) (l0 : Nat) (l1 : Int32) (l2 : Int32) (l3 : Int32) (l4 : Int32) (l6 : Int32) (l7 : Int32) (l8 : Int32) (l9 : Int32) (l10 : Int32), k_91 h l0 l1 l2 l3 l4 l6 l7 l8 l9 l10 = some (h', r) → pm_run (pm_ev (d + 8)) 169 91 [.ref l0, .int l1, .int l2, .int l3, .int l4, pm_J, .int l6, .int l7, .int l8, .int l9, .int l10, pm_J] [] h (fun r1 h1 => r1 = some (.int r) ∧ h1 = h')) (h : pm_H) (l0 : Nat) (l1 : Int32) (l2 : Int32) (l3 : Int32) (l4 : Int32) (l6 : Int32) (l7 : Int32) (l8 : Int32) (l9 : Int32) (l10 : Int32) (s0 : Int32) (hB : M_states_125 k_91 h l0 l1 l2 l3 l4 l6 l7 l8 l9 l10 s0 = some (h', r)) : pm_run (pm_ev (d + 8)) 169 125 [.ref l0, .int l1, .int l2, .int l3, .int l4, pm_J, .int l6, .int l7, .int l8, .int l9, .int l10, pm_J] [.int s0] h (fun r1 h1 => r1 = some (.int r) ∧ h1 = h') := by
  unfold M_states_125 at hB
  refine r_istore (L' := [.ref l0, .int l1, .int l2, .int l3, .int l4, pm_J, .int l6, .int l7, .int l8, .int l9, .int l10, .int s0]) (x := s0) f169_125 rfl (Nat.le_of_ble_eq_true rfl) rfl ?_
  refine r_iload f169_127 rfl ?_
  refine r_iload f169_129 rfl ?_
  by_cases c1q : s0 = 0
  · rw [if_pos c1q] at hB
    refine r_if_t (t := 138) f169_131 (by decide) c1q ?_
    refine r_iconst f169_138 ci_0 ?_
    exact pm_weak (L' := [.ref l0, .int l1, .int l2, .int l3, .int l4, pm_J, .int l6, pm_J, .int l8, .int l9, .int l10, .int s0]) ⟨.inr rfl, .inr rfl, .inr rfl, .inr rfl, .inr rfl, .inl rfl, .inr rfl, .inl rfl, .inr rfl, .inr rfl, .inr rfl, .inr rfl, trivial⟩ (P_M_states_139 (d := d) k_91 hk_91 h l0 l1 l2 l3 l4 l6 l8 l9 l10 s0 0 l7 hB)
  · rw [if_neg c1q] at hB
    refine r_if_f 138 f169_131 (by decide) c1q ?_
    refine r_iconst f169_134 ci_1 ?_
    refine r_goto (t := 139) f169_135 (by decide) ?_
    exact pm_weak (L' := [.ref l0, .int l1, .int l2, .int l3, .int l4, pm_J, .int l6, pm_J, .int l8, .int l9, .int l10, .int s0]) ⟨.inr rfl, .inr rfl, .inr rfl, .inr rfl, .inr rfl, .inl rfl, .inr rfl, .inl rfl, .inr rfl, .inr rfl, .inr rfl, .inr rfl, trivial⟩ (P_M_states_139 (d := d) k_91 hk_91 h l0 l1 l2 l3 l4 l6 l8 l9 l10 s0 1 l7 hB)
theorem P_M_states_91 {d : Nat} {h' : pm_H} {r : Int32} (n : Nat) : ∀ (h : pm_H) (l0 : Nat) (l1 : Int32) (l2 : Int32) (l3 : Int32) (l4 : Int32) (l6 : Int32) (l7 : Int32) (l8 : Int32) (l9 : Int32) (l10 : Int32), M_states_91 n h l0 l1 l2 l3 l4 l6 l7 l8 l9 l10 = some (h', r) → pm_run (pm_ev (d + 8)) 169 91 [.ref l0, .int l1, .int l2, .int l3, .int l4, pm_J, .int l6, .int l7, .int l8, .int l9, .int l10, pm_J] [] h (fun r1 h1 => r1 = some (.int r) ∧ h1 = h') := by
  induction n with
  | zero => intro h l0 l1 l2 l3 l4 l6 l7 l8 l9 l10 hB; cases hB
  | succ n ih =>
    intro h l0 l1 l2 l3 l4 l6 l7 l8 l9 l10 hB
    unfold M_states_91 at hB
    refine r_iload f169_91 rfl ?_
    refine r_iload f169_93 rfl ?_
    by_cases c1q : l9 < l10
    · rw [if_pos c1q] at hB
      refine r_ic_t (t := 168) f169_95 (by decide) c1q ?_
      refine r_aload_nN f169_168 rfl ?_
      replace hB := bnd_some hB
      obtain ⟨x2q, ex2q, hB⟩ := hB
      refine r_getA f169_169 fa_6_16 ex2q ?_
      refine r_iconst f169_172 ci_3 ?_
      refine r_iload_n f169_173 rfl ?_
      refine r_imul f169_174 ?_
      refine r_iload_n f169_175 rfl ?_
      refine r_iadd f169_176 ?_
      refine r_iload f169_177 rfl ?_
      replace hB := bnd_some hB
      obtain ⟨u3q, rfl, hB⟩ := hB
      replace hB := bnd_some hB
      obtain ⟨h4q, eh4q, hB⟩ := hB
      refine r_sI f169_179 eh4q ?_
      refine r_iload f169_180 rfl ?_
      by_cases c5q : l4 = 0
      · rw [if_pos c5q] at hB
        refine r_if_f 190 f169_182 (by decide) (fun q => q c5q) ?_
        refine r_iload f169_185 rfl ?_
        refine r_goto (t := 192) f169_187 (by decide) ?_
        exact r_iret pm_m_169 .int f169_192 rfl rfl rfl (zI hB)
      · rw [if_neg c5q] at hB
        refine r_if_t (t := 190) f169_182 (by decide) c5q ?_
        refine r_iload f169_190 rfl ?_
        exact r_iret pm_m_169 .int f169_192 rfl rfl rfl (zI hB)
    · rw [if_neg c1q] at hB
      refine r_ic_f 168 f169_95 (by decide) c1q ?_
      refine r_aload_nN f169_98 rfl ?_
      replace hB := bnd_some hB
      obtain ⟨x6q, ex6q, hB⟩ := hB
      refine r_getA f169_99 fa_6_16 ex6q ?_
      refine r_iconst f169_102 ci_3 ?_
      refine r_iload_n f169_103 rfl ?_
      refine r_imul f169_104 ?_
      refine r_iload_n f169_105 rfl ?_
      refine r_iadd f169_106 ?_
      refine r_iload f169_107 rfl ?_
      replace hB := bnd_some hB
      obtain ⟨u7q, rfl, hB⟩ := hB
      replace hB := bnd_some hB
      obtain ⟨h8q, eh8q, hB⟩ := hB
      refine r_sI f169_109 eh8q ?_
      refine r_aload_nN f169_110 rfl ?_
      refine r_iload_n f169_111 rfl ?_
      refine r_iload_n f169_112 rfl ?_
      replace hB := grd_some hB
      obtain ⟨g11q, hB⟩ := hB
      replace hB := bn2_some hB
      obtain ⟨h9q, x10q, eh9q, hB⟩ := hB
      refine r_virtV (as := [.int l1, .int l2]) (q := pm_m_166) f169_113 ca_6_247 rfl rfl rfl (cs_len (Nat.le_of_ble_eq_true rfl)) g11q (P_M_unlike (d := d + 0) eh9q) ?_
      refine r_iconst f169_116 ci_m1 ?_
      by_cases c12q : x10q = (-1)
      · rw [if_pos c12q] at hB
        refine r_ic_f 124 f169_117 (by decide) (fun q => q c12q) ?_
        refine r_iconst f169_120 ci_1 ?_
        refine r_goto (t := 125) f169_121 (by decide) ?_
        exact pm_weak (L' := [.ref l0, .int l1, .int l2, .int l3, .int l4, pm_J, .int l6, .int l7, .int l8, .int l9, .int l10, pm_J]) ⟨.inr rfl, .inr rfl, .inr rfl, .inr rfl, .inr rfl, .inl rfl, .inr rfl, .inr rfl, .inr rfl, .inr rfl, .inr rfl, .inl rfl, trivial⟩ (P_M_states_125 (d := d) (M_states_91 n) ih h9q l0 l1 l2 l3 l4 l6 l7 l8 l9 l10 1 hB)
      · rw [if_neg c12q] at hB
        refine r_ic_t (t := 124) f169_117 (by decide) c12q ?_
        refine r_iconst f169_124 ci_0 ?_
        exact pm_weak (L' := [.ref l0, .int l1, .int l2, .int l3, .int l4, pm_J, .int l6, .int l7, .int l8, .int l9, .int l10, pm_J]) ⟨.inr rfl, .inr rfl, .inr rfl, .inr rfl, .inr rfl, .inl rfl, .inr rfl, .inr rfl, .inr rfl, .inr rfl, .inr rfl, .inl rfl, trivial⟩ (P_M_states_125 (d := d) (M_states_91 n) ih h9q l0 l1 l2 l3 l4 l6 l7 l8 l9 l10 0 hB)
theorem P_M_states_89 {d : Nat} {h' : pm_H} {r : Int32} (h : pm_H) (l0 : Nat) (l1 : Int32) (l2 : Int32) (l3 : Int32) (l4 : Int32) (l6 : Int32) (l7 : Int32) (l8 : Int32) (l9 : Int32) (s0 : Int32) (hB : M_states_89 h l0 l1 l2 l3 l4 l6 l7 l8 l9 s0 = some (h', r)) : pm_run (pm_ev (d + 8)) 169 89 [.ref l0, .int l1, .int l2, .int l3, .int l4, pm_J, .int l6, .int l7, .int l8, .int l9, pm_J, pm_J] [.int s0] h (fun r1 h1 => r1 = some (.int r) ∧ h1 = h') := by
  unfold M_states_89 at hB
  refine r_istore (L' := [.ref l0, .int l1, .int l2, .int l3, .int l4, pm_J, .int l6, .int l7, .int l8, .int l9, .int s0, pm_J]) (x := s0) f169_89 rfl (Nat.le_of_ble_eq_true rfl) rfl ?_
  exact pm_weak (L' := [.ref l0, .int l1, .int l2, .int l3, .int l4, pm_J, .int l6, .int l7, .int l8, .int l9, .int s0, pm_J]) ⟨.inr rfl, .inr rfl, .inr rfl, .inr rfl, .inr rfl, .inl rfl, .inr rfl, .inr rfl, .inr rfl, .inr rfl, .inr rfl, .inl rfl, trivial⟩ (P_M_states_91 (d := d) 1000 h l0 l1 l2 l3 l4 l6 l7 l8 l9 s0 hB)
theorem P_M_states_77 {d : Nat} {h' : pm_H} {r : Int32} (h : pm_H) (l0 : Nat) (l1 : Int32) (l2 : Int32) (l3 : Int32) (l4 : Int32) (l6 : Int32) (l7 : Int32) (l8 : Int32) (s0 : Int32) (hB : M_states_77 h l0 l1 l2 l3 l4 l6 l7 l8 s0 = some (h', r)) : pm_run (pm_ev (d + 8)) 169 77 [.ref l0, .int l1, .int l2, .int l3, .int l4, pm_J, .int l6, .int l7, .int l8, pm_J, pm_J, pm_J] [.int s0] h (fun r1 h1 => r1 = some (.int r) ∧ h1 = h') := by
  unfold M_states_77 at hB
  refine r_istore (L' := [.ref l0, .int l1, .int l2, .int l3, .int l4, pm_J, .int l6, .int l7, .int l8, .int s0, pm_J, pm_J]) (x := s0) f169_77 rfl (Nat.le_of_ble_eq_true rfl) rfl ?_
  refine r_iload_n f169_79 rfl ?_
  refine r_iconst f169_80 ci_1 ?_
  by_cases c1q : l3 = 1
  · rw [if_pos c1q] at hB
    refine r_ic_f 88 f169_81 (by decide) (fun q => q c1q) ?_
    refine r_iconst f169_84 ci_1 ?_
    refine r_goto (t := 89) f169_85 (by decide) ?_
    exact pm_weak (L' := [.ref l0, .int l1, .int l2, .int l3, .int l4, pm_J, .int l6, .int l7, .int l8, .int s0, pm_J, pm_J]) ⟨.inr rfl, .inr rfl, .inr rfl, .inr rfl, .inr rfl, .inl rfl, .inr rfl, .inr rfl, .inr rfl, .inr rfl, .inl rfl, .inl rfl, trivial⟩ (P_M_states_89 (d := d) h l0 l1 l2 l3 l4 l6 l7 l8 s0 1 hB)
  · rw [if_neg c1q] at hB
    refine r_ic_t (t := 88) f169_81 (by decide) c1q ?_
    refine r_iconst f169_88 ci_0 ?_
    exact pm_weak (L' := [.ref l0, .int l1, .int l2, .int l3, .int l4, pm_J, .int l6, .int l7, .int l8, .int s0, pm_J, pm_J]) ⟨.inr rfl, .inr rfl, .inr rfl, .inr rfl, .inr rfl, .inl rfl, .inr rfl, .inr rfl, .inr rfl, .inr rfl, .inl rfl, .inl rfl, trivial⟩ (P_M_states_89 (d := d) h l0 l1 l2 l3 l4 l6 l7 l8 s0 0 hB)
theorem P_M_states {d : Nat} {h h' : pm_H} {r : Int32} {t : Nat} {a1 : Int32} {a2 : Int32} {a3 : Int32} {a4 : Int32} (hB : M_states h t a1 a2 a3 a4 = some (h', r)) : pm_ev (d + 9) 169 [.ref t, .int a1, .int a2, .int a3, .int a4] h (some (.int r)) h' := by
  unfold M_states at hB
  refine pm_ev_mk (L := [.ref t, .int a1, .int a2, .int a3, .int a4, pm_J, pm_J, pm_J, pm_J, pm_J, pm_J, pm_J]) pm_m_169 rfl (Nat.le_of_ble_eq_true rfl) rfl ?_
  refine r_aload_nN f169_0 rfl ?_
  refine r_iload_n f169_1 rfl ?_
  refine r_iload_n f169_2 rfl ?_
  replace hB := grd_some hB
  obtain ⟨g3q, hB⟩ := hB
  replace hB := bn2_some hB
  obtain ⟨h1q, x2q, eh1q, hB⟩ := hB
  refine r_virtV (as := [.int a1, .int a2]) (q := pm_m_165) f169_3 ca_6_244 rfl rfl rfl (cs_len (Nat.le_of_ble_eq_true rfl)) g3q (P_M_toldWrong (d := d + 5) eh1q) ?_
  refine r_istore (L' := [.ref t, .int a1, .int a2, .int a3, .int a4, .int x2q, pm_J, pm_J, pm_J, pm_J, pm_J, pm_J]) (x := x2q) f169_6 rfl (Nat.le_of_ble_eq_true rfl) rfl ?_
  refine r_iload f169_8 rfl ?_
  by_cases c4q : x2q = 0
  · rw [if_pos c4q] at hB
    refine r_if_t (t := 16) f169_10 (by decide) c4q ?_
    refine r_iload_n f169_16 rfl ?_
    refine r_iconst f169_17 ci_0 ?_
    refine r_iconst f169_18 ci_2 ?_
    replace hB := bn2_some hB
    obtain ⟨h5q, x6q, eh5q, hB⟩ := hB
    refine r_statV (as := [.int a3, .int 0, .int 2]) (q := pm_m_109) f169_19 ca_6_79 rfl (by decide) rfl rfl (cs_len (Nat.le_of_ble_eq_true rfl)) (P_M_in (d := d + 7) eh5q) ?_
    by_cases c7q : x6q = 0
    · rw [if_pos c7q] at hB
      refine r_if_t (t := 35) f169_22 (by decide) c7q ?_
      refine r_bipush f169_35 cb_m7 ?_
      exact r_iret pm_m_169 .int f169_37 rfl rfl rfl (zI hB)
    · rw [if_neg c7q] at hB
      refine r_if_f 35 f169_22 (by decide) c7q ?_
      refine r_iload f169_25 rfl ?_
      refine r_iconst f169_27 ci_0 ?_
      refine r_iconst f169_28 ci_1 ?_
      replace hB := bn2_some hB
      obtain ⟨h8q, x9q, eh8q, hB⟩ := hB
      refine r_statV (as := [.int a4, .int 0, .int 1]) (q := pm_m_109) f169_29 ca_6_79 rfl (by decide) rfl rfl (cs_len (Nat.le_of_ble_eq_true rfl)) (P_M_in (d := d + 7) eh8q) ?_
      by_cases c10q : x9q = 0
      · rw [if_pos c10q] at hB
        refine r_if_f 38 f169_32 (by decide) (fun q => q c10q) ?_
        refine r_bipush f169_35 cb_m7 ?_
        exact r_iret pm_m_169 .int f169_37 rfl rfl rfl (zI hB)
      · rw [if_neg c10q] at hB
        refine r_if_t (t := 38) f169_32 (by decide) c10q ?_
        refine r_aload_nN f169_38 rfl ?_
        replace hB := bnd_some hB
        obtain ⟨x11q, ex11q, hB⟩ := hB
        refine r_getA f169_39 fa_6_16 ex11q ?_
        refine r_iconst f169_42 ci_3 ?_
        refine r_iload_n f169_43 rfl ?_
        refine r_imul f169_44 ?_
        refine r_iload_n f169_45 rfl ?_
        refine r_iadd f169_46 ?_
        replace hB := bnd_some hB
        obtain ⟨u12q, rfl, hB⟩ := hB
        replace hB := bnd_some hB
        obtain ⟨x13q, ex13q, hB⟩ := hB
        refine r_aI f169_47 ex13q ?_
        refine r_istore (L' := [.ref t, .int a1, .int a2, .int a3, .int a4, .int x2q, .int x13q, pm_J, pm_J, pm_J, pm_J, pm_J]) (x := x13q) f169_48 rfl (Nat.le_of_ble_eq_true rfl) rfl ?_
        refine r_iconst f169_50 ci_0 ?_
        refine r_istore (L' := [.ref t, .int a1, .int a2, .int a3, .int a4, .int x2q, .int x13q, .int 0, pm_J, pm_J, pm_J, pm_J]) (x := 0) f169_51 rfl (Nat.le_of_ble_eq_true rfl) rfl ?_
        refine r_iconst f169_53 ci_m1 ?_
        refine r_istore (L' := [.ref t, .int a1, .int a2, .int a3, .int a4, .int x2q, .int x13q, .int 0, .int (-1), pm_J, pm_J, pm_J]) (x := (-1)) f169_54 rfl (Nat.le_of_ble_eq_true rfl) rfl ?_
        refine r_iload_n f169_56 rfl ?_
        by_cases c14q : a3 = 0
        · rw [if_pos c14q] at hB
          refine r_if_f 65 f169_57 (by decide) (fun q => q c14q) ?_
          refine r_bipush f169_60 cb_39 ?_
          refine r_goto (t := 77) f169_62 (by decide) ?_
          exact pm_weak (L' := [.ref t, .int a1, .int a2, .int a3, .int a4, pm_J, .int x13q, .int 0, .int (-1), pm_J, pm_J, pm_J]) ⟨.inr rfl, .inr rfl, .inr rfl, .inr rfl, .inr rfl, .inl rfl, .inr rfl, .inr rfl, .inr rfl, .inl rfl, .inl rfl, .inl rfl, trivial⟩ (P_M_states_77 (d := d) h8q t a1 a2 a3 a4 x13q 0 (-1) 39 hB)
        · rw [if_neg c14q] at hB
          refine r_if_t (t := 65) f169_57 (by decide) c14q ?_
          refine r_iload_n f169_65 rfl ?_
          refine r_iconst f169_66 ci_1 ?_
          by_cases c15q : a3 = 1
          · rw [if_pos c15q] at hB
            refine r_ic_f 75 f169_67 (by decide) (fun q => q c15q) ?_
            refine r_bipush f169_70 cb_9 ?_
            refine r_goto (t := 77) f169_72 (by decide) ?_
            exact pm_weak (L' := [.ref t, .int a1, .int a2, .int a3, .int a4, pm_J, .int x13q, .int 0, .int (-1), pm_J, pm_J, pm_J]) ⟨.inr rfl, .inr rfl, .inr rfl, .inr rfl, .inr rfl, .inl rfl, .inr rfl, .inr rfl, .inr rfl, .inl rfl, .inl rfl, .inl rfl, trivial⟩ (P_M_states_77 (d := d) h8q t a1 a2 a3 a4 x13q 0 (-1) 9 hB)
          · rw [if_neg c15q] at hB
            refine r_ic_t (t := 75) f169_67 (by decide) c15q ?_
            refine r_bipush f169_75 cb_99 ?_
            exact pm_weak (L' := [.ref t, .int a1, .int a2, .int a3, .int a4, pm_J, .int x13q, .int 0, .int (-1), pm_J, pm_J, pm_J]) ⟨.inr rfl, .inr rfl, .inr rfl, .inr rfl, .inr rfl, .inl rfl, .inr rfl, .inr rfl, .inr rfl, .inl rfl, .inl rfl, .inl rfl, trivial⟩ (P_M_states_77 (d := d) h8q t a1 a2 a3 a4 x13q 0 (-1) 99 hB)
  · rw [if_neg c4q] at hB
    refine r_if_f 16 f169_10 (by decide) c4q ?_
    refine r_iload f169_13 rfl ?_
    exact r_iret pm_m_169 .int f169_15 rfl rfl rfl (zI hB)
theorem P_M_whose_58 {d : Nat} {h' : pm_H} {r : Int32} (k_17 : pm_H → Nat → Int32 → Int32 → Int32 → Option (pm_H × Int32)) (hk_17 : ∀ (h : pm_H) (l0 : Nat) (l1 : Int32) (l3 : Int32) (l4 : Int32), k_17 h l0 l1 l3 l4 = some (h', r) → pm_run (pm_ev (d + 8)) 170 17 [.ref l0, .int l1, pm_J, .int l3, .int l4] [] h (fun r1 h1 => r1 = some (.int r) ∧ h1 = h')) (h : pm_H) (l0 : Nat) (l1 : Int32) (l3 : Int32) (l4 : Int32) (hB : M_whose_58 k_17 h l0 l1 l3 l4 = some (h', r)) : pm_run (pm_ev (d + 8)) 170 58 [.ref l0, .int l1, pm_J, .int l3, .int l4] [] h (fun r1 h1 => r1 = some (.int r) ∧ h1 = h') := by
  unfold M_whose_58 at hB
  obtain ⟨y1q, hy1q⟩ : ∃ z, z = l4 + 1 := ⟨_, rfl⟩
  replace hB := nmd_at hy1q hB
  refine r_iinc (L' := [.ref l0, .int l1, pm_J, .int l3, .int y1q]) (x := y1q) f170_58 rfl (hy1q.trans (congrArg (l4 + ·) ci_1.symm)) rfl ?_
  refine r_goto (t := 17) f170_61 (by decide) ?_
  exact pm_weak (L' := [.ref l0, .int l1, pm_J, .int l3, .int y1q]) ⟨.inr rfl, .inr rfl, .inl rfl, .inr rfl, .inr rfl, trivial⟩ (hk_17 h l0 l1 l3 y1q hB)
theorem P_M_whose_56 {d : Nat} {h' : pm_H} {r : Int32} (k_17 : pm_H → Nat → Int32 → Int32 → Int32 → Option (pm_H × Int32)) (hk_17 : ∀ (h : pm_H) (l0 : Nat) (l1 : Int32) (l3 : Int32) (l4 : Int32), k_17 h l0 l1 l3 l4 = some (h', r) → pm_run (pm_ev (d + 8)) 170 17 [.ref l0, .int l1, pm_J, .int l3, .int l4] [] h (fun r1 h1 => r1 = some (.int r) ∧ h1 = h')) (h : pm_H) (l0 : Nat) (l1 : Int32) (l4 : Int32) (s0 : Int32) (s1 : Int32) (hB : M_whose_56 k_17 h l0 l1 l4 s0 s1 = some (h', r)) : pm_run (pm_ev (d + 8)) 170 56 [.ref l0, .int l1, pm_J, pm_J, .int l4] [.int s0, .int s1] h (fun r1 h1 => r1 = some (.int r) ∧ h1 = h') := by
  unfold M_whose_56 at hB
  refine r_ior f170_56 ?_
  obtain ⟨y1q, hy1q⟩ : ∃ z, z = (s1 ||| s0) := ⟨_, rfl⟩
  replace hB := nmd_at hy1q hB
  refine r_istore_n (L' := [.ref l0, .int l1, pm_J, .int y1q, .int l4]) (x := y1q) f170_57 hy1q (Nat.le_of_ble_eq_true rfl) rfl ?_
  exact pm_weak (L' := [.ref l0, .int l1, pm_J, .int y1q, .int l4]) ⟨.inr rfl, .inr rfl, .inl rfl, .inr rfl, .inr rfl, trivial⟩ (P_M_whose_58 (d := d) k_17 hk_17 h l0 l1 y1q l4 hB)
theorem P_M_whose_17 {d : Nat} {h' : pm_H} {r : Int32} (n : Nat) : ∀ (h : pm_H) (l0 : Nat) (l1 : Int32) (l3 : Int32) (l4 : Int32), M_whose_17 n h l0 l1 l3 l4 = some (h', r) → pm_run (pm_ev (d + 8)) 170 17 [.ref l0, .int l1, pm_J, .int l3, .int l4] [] h (fun r1 h1 => r1 = some (.int r) ∧ h1 = h') := by
  induction n with
  | zero => intro h l0 l1 l3 l4 hB; cases hB
  | succ n ih =>
    intro h l0 l1 l3 l4 hB
    unfold M_whose_17 at hB
    refine r_iload f170_17 rfl ?_
    refine r_aload_nN f170_19 rfl ?_
    replace hB := bnd_some hB
    obtain ⟨x1q, ex1q, hB⟩ := hB
    refine r_getI f170_20 fa_6_83 ex1q ?_
    by_cases c2q : x1q ≤ l4
    · rw [if_pos c2q] at hB
      refine r_ic_t (t := 64) f170_23 (by decide) c2q ?_
      refine r_iload_n f170_64 rfl ?_
      exact r_iret pm_m_170 .int f170_65 rfl rfl rfl (zI hB)
    · rw [if_neg c2q] at hB
      refine r_ic_f 64 f170_23 (by decide) c2q ?_
      refine r_aload_nN f170_26 rfl ?_
      replace hB := bnd_some hB
      obtain ⟨x3q, ex3q, hB⟩ := hB
      refine r_getA f170_27 fa_6_19 ex3q ?_
      refine r_iload f170_30 rfl ?_
      replace hB := bnd_some hB
      obtain ⟨u4q, rfl, hB⟩ := hB
      replace hB := bnd_some hB
      obtain ⟨x5q, ex5q, hB⟩ := hB
      refine r_aI f170_32 ex5q ?_
      by_cases c6q : x5q = 0
      · rw [if_pos c6q] at hB
        refine r_if_f 58 f170_33 (by decide) (fun q => q c6q) ?_
        refine r_iload_n f170_36 rfl ?_
        refine r_aload_nN f170_37 rfl ?_
        refine r_iload_n f170_38 rfl ?_
        refine r_iload f170_39 rfl ?_
        replace hB := grd_some hB
        obtain ⟨g9q, hB⟩ := hB
        replace hB := bn2_some hB
        obtain ⟨h7q, x8q, eh7q, hB⟩ := hB
        refine r_virtV (as := [.int l1, .int l4]) (q := pm_m_166) f170_41 ca_6_247 rfl rfl rfl (cs_len (Nat.le_of_ble_eq_true rfl)) g9q (P_M_unlike (d := d + 0) eh7q) ?_
        refine r_iconst f170_44 ci_m1 ?_
        by_cases c10q : x8q = (-1)
        · rw [if_pos c10q] at hB
          refine r_ic_f 55 f170_45 (by decide) (fun q => q c10q) ?_
          refine r_iconst f170_48 ci_1 ?_
          refine r_iload f170_49 rfl ?_
          refine r_ishl f170_51 ?_
          refine r_goto (t := 56) f170_52 (by decide) ?_
          exact pm_weak (L' := [.ref l0, .int l1, pm_J, pm_J, .int l4]) ⟨.inr rfl, .inr rfl, .inl rfl, .inl rfl, .inr rfl, trivial⟩ (P_M_whose_56 (d := d) (M_whose_17 n) ih h7q l0 l1 l4 (1 <<< (l4 &&& 31)) l3 hB)
        · rw [if_neg c10q] at hB
          refine r_ic_t (t := 55) f170_45 (by decide) c10q ?_
          refine r_iconst f170_55 ci_0 ?_
          exact pm_weak (L' := [.ref l0, .int l1, pm_J, pm_J, .int l4]) ⟨.inr rfl, .inr rfl, .inl rfl, .inl rfl, .inr rfl, trivial⟩ (P_M_whose_56 (d := d) (M_whose_17 n) ih h7q l0 l1 l4 0 l3 hB)
      · rw [if_neg c6q] at hB
        refine r_if_t (t := 58) f170_33 (by decide) c6q ?_
        exact pm_weak (L' := [.ref l0, .int l1, pm_J, .int l3, .int l4]) ⟨.inr rfl, .inr rfl, .inl rfl, .inr rfl, .inr rfl, trivial⟩ (P_M_whose_58 (d := d) (M_whose_17 n) ih h l0 l1 l3 l4 hB)
theorem P_M_whose {d : Nat} {h h' : pm_H} {r : Int32} {t : Nat} {a1 : Int32} (hB : M_whose h t a1 = some (h', r)) : pm_ev (d + 9) 170 [.ref t, .int a1] h (some (.int r)) h' := by
  unfold M_whose at hB
  refine pm_ev_mk (L := [.ref t, .int a1, pm_J, pm_J, pm_J]) pm_m_170 rfl (Nat.le_of_ble_eq_true rfl) rfl ?_
  refine r_aload_nN f170_0 rfl ?_
  refine r_iload_n f170_1 rfl ?_
  replace hB := grd_some hB
  obtain ⟨g3q, hB⟩ := hB
  replace hB := bn2_some hB
  obtain ⟨h1q, x2q, eh1q, hB⟩ := hB
  refine r_virtV (as := [.int a1]) (q := pm_m_164) f170_2 ca_6_241 rfl rfl rfl (cs_len (Nat.le_of_ble_eq_true rfl)) g3q (P_M_sheetWrong (d := d + 6) eh1q) ?_
  refine r_istore_n (L' := [.ref t, .int a1, .int x2q, pm_J, pm_J]) (x := x2q) f170_5 rfl (Nat.le_of_ble_eq_true rfl) rfl ?_
  refine r_iload_n f170_6 rfl ?_
  by_cases c4q : x2q = 0
  · rw [if_pos c4q] at hB
    refine r_if_t (t := 12) f170_7 (by decide) c4q ?_
    refine r_iconst f170_12 ci_0 ?_
    refine r_istore_n (L' := [.ref t, .int a1, .int x2q, .int 0, pm_J]) (x := 0) f170_13 rfl (Nat.le_of_ble_eq_true rfl) rfl ?_
    refine r_iconst f170_14 ci_0 ?_
    refine r_istore (L' := [.ref t, .int a1, .int x2q, .int 0, .int 0]) (x := 0) f170_15 rfl (Nat.le_of_ble_eq_true rfl) rfl ?_
    exact pm_weak (L' := [.ref t, .int a1, pm_J, .int 0, .int 0]) ⟨.inr rfl, .inr rfl, .inl rfl, .inr rfl, .inr rfl, trivial⟩ (P_M_whose_17 (d := d) 1000 h1q t a1 0 0 hB)
  · rw [if_neg c4q] at hB
    refine r_if_f 12 f170_7 (by decide) c4q ?_
    refine r_iload_n f170_10 rfl ?_
    exact r_iret pm_m_170 .int f170_11 rfl rfl rfl (zI hB)
theorem P_M_laws_60 {d : Nat} {h' : pm_H} {r : Int32} (k_25 : pm_H → Nat → Int32 → Int32 → Int32 → Int32 → Int32 → Option (pm_H × Int32)) (hk_25 : ∀ (h : pm_H) (l0 : Nat) (l1 : Int32) (l2 : Int32) (l4 : Int32) (l5 : Int32) (l6 : Int32), k_25 h l0 l1 l2 l4 l5 l6 = some (h', r) → pm_run (pm_ev (d + 8)) 171 25 [.ref l0, .int l1, .int l2, pm_J, .int l4, .int l5, .int l6] [] h (fun r1 h1 => r1 = some (.int r) ∧ h1 = h')) (h : pm_H) (l0 : Nat) (l1 : Int32) (l2 : Int32) (l4 : Int32) (l6 : Int32) (s0 : Int32) (s1 : Int32) (hB : M_laws_60 k_25 h l0 l1 l2 l4 l6 s0 s1 = some (h', r)) : pm_run (pm_ev (d + 8)) 171 60 [.ref l0, .int l1, .int l2, pm_J, .int l4, pm_J, .int l6] [.int s0, .int s1] h (fun r1 h1 => r1 = some (.int r) ∧ h1 = h') := by
  unfold M_laws_60 at hB
  refine r_ior f171_60 ?_
  obtain ⟨y1q, hy1q⟩ : ∃ z, z = (s1 ||| s0) := ⟨_, rfl⟩
  replace hB := nmd_at hy1q hB
  refine r_istore (L' := [.ref l0, .int l1, .int l2, pm_J, .int l4, .int y1q, .int l6]) (x := y1q) f171_61 hy1q (Nat.le_of_ble_eq_true rfl) rfl ?_
  obtain ⟨y2q, hy2q⟩ : ∃ z, z = l6 + 1 := ⟨_, rfl⟩
  replace hB := nmd_at hy2q hB
  refine r_iinc (L' := [.ref l0, .int l1, .int l2, pm_J, .int l4, .int y1q, .int y2q]) (x := y2q) f171_63 rfl (hy2q.trans (congrArg (l6 + ·) ci_1.symm)) rfl ?_
  refine r_goto (t := 25) f171_66 (by decide) ?_
  exact pm_weak (L' := [.ref l0, .int l1, .int l2, pm_J, .int l4, .int y1q, .int y2q]) ⟨.inr rfl, .inr rfl, .inr rfl, .inl rfl, .inr rfl, .inr rfl, .inr rfl, trivial⟩ (hk_25 h l0 l1 l2 l4 y1q y2q hB)
theorem P_M_laws_25 {d : Nat} {h' : pm_H} {r : Int32} (n : Nat) : ∀ (h : pm_H) (l0 : Nat) (l1 : Int32) (l2 : Int32) (l4 : Int32) (l5 : Int32) (l6 : Int32), M_laws_25 n h l0 l1 l2 l4 l5 l6 = some (h', r) → pm_run (pm_ev (d + 8)) 171 25 [.ref l0, .int l1, .int l2, pm_J, .int l4, .int l5, .int l6] [] h (fun r1 h1 => r1 = some (.int r) ∧ h1 = h') := by
  induction n with
  | zero => intro h l0 l1 l2 l4 l5 l6 hB; cases hB
  | succ n ih =>
    intro h l0 l1 l2 l4 l5 l6 hB
    unfold M_laws_25 at hB
    refine r_iload f171_25 rfl ?_
    refine r_aload_nN f171_27 rfl ?_
    replace hB := bnd_some hB
    obtain ⟨x1q, ex1q, hB⟩ := hB
    refine r_getI f171_28 fa_6_111 ex1q ?_
    by_cases c2q : x1q ≤ l6
    · rw [if_pos c2q] at hB
      refine r_ic_t (t := 69) f171_31 (by decide) c2q ?_
      refine r_aload_nN f171_69 rfl ?_
      refine r_iload f171_70 rfl ?_
      replace hB := bnd_some hB
      obtain ⟨h3q, eh3q, hB⟩ := hB
      refine r_put f171_72 fa_6_114 ty_6_13 rfl rfl (no_fin (nf_6_13)) eh3q ?_
      refine r_iload f171_75 rfl ?_
      exact r_iret pm_m_171 .int f171_77 rfl rfl rfl (zI hB)
    · rw [if_neg c2q] at hB
      refine r_ic_f 69 f171_31 (by decide) c2q ?_
      refine r_aload_nN f171_34 rfl ?_
      refine r_iload f171_35 rfl ?_
      replace hB := bnd_some hB
      obtain ⟨h4q, eh4q, hB⟩ := hB
      refine r_put f171_37 fa_6_114 ty_6_13 rfl rfl (no_fin (nf_6_13)) eh4q ?_
      refine r_iload f171_40 rfl ?_
      refine r_aload_nN f171_42 rfl ?_
      refine r_iload_n f171_43 rfl ?_
      refine r_iload_n f171_44 rfl ?_
      replace hB := grd_some hB
      obtain ⟨g7q, hB⟩ := hB
      replace hB := bn2_some hB
      obtain ⟨h5q, x6q, eh5q, hB⟩ := hB
      refine r_virtV (as := [.int l1, .int l2]) (q := pm_m_166) f171_45 ca_6_247 rfl rfl rfl (cs_len (Nat.le_of_ble_eq_true rfl)) g7q (P_M_unlike (d := d + 0) eh5q) ?_
      refine r_iconst f171_48 ci_m1 ?_
      by_cases c8q : x6q = (-1)
      · rw [if_pos c8q] at hB
        refine r_ic_f 59 f171_49 (by decide) (fun q => q c8q) ?_
        refine r_iconst f171_52 ci_1 ?_
        refine r_iload f171_53 rfl ?_
        refine r_ishl f171_55 ?_
        refine r_goto (t := 60) f171_56 (by decide) ?_
        exact pm_weak (L' := [.ref l0, .int l1, .int l2, pm_J, .int l4, pm_J, .int l6]) ⟨.inr rfl, .inr rfl, .inr rfl, .inl rfl, .inr rfl, .inl rfl, .inr rfl, trivial⟩ (P_M_laws_60 (d := d) (M_laws_25 n) ih h5q l0 l1 l2 l4 l6 (1 <<< (l6 &&& 31)) l5 hB)
      · rw [if_neg c8q] at hB
        refine r_ic_t (t := 59) f171_49 (by decide) c8q ?_
        refine r_iconst f171_59 ci_0 ?_
        exact pm_weak (L' := [.ref l0, .int l1, .int l2, pm_J, .int l4, pm_J, .int l6]) ⟨.inr rfl, .inr rfl, .inr rfl, .inl rfl, .inr rfl, .inl rfl, .inr rfl, trivial⟩ (P_M_laws_60 (d := d) (M_laws_25 n) ih h5q l0 l1 l2 l4 l6 0 l5 hB)
theorem P_M_laws {d : Nat} {h h' : pm_H} {r : Int32} {t : Nat} {a1 : Int32} {a2 : Int32} (hB : M_laws h t a1 a2 = some (h', r)) : pm_ev (d + 9) 171 [.ref t, .int a1, .int a2] h (some (.int r)) h' := by
  unfold M_laws at hB
  refine pm_ev_mk (L := [.ref t, .int a1, .int a2, pm_J, pm_J, pm_J, pm_J]) pm_m_171 rfl (Nat.le_of_ble_eq_true rfl) rfl ?_
  refine r_aload_nN f171_0 rfl ?_
  refine r_iload_n f171_1 rfl ?_
  refine r_iload_n f171_2 rfl ?_
  replace hB := grd_some hB
  obtain ⟨g3q, hB⟩ := hB
  replace hB := bn2_some hB
  obtain ⟨h1q, x2q, eh1q, hB⟩ := hB
  refine r_virtV (as := [.int a1, .int a2]) (q := pm_m_165) f171_3 ca_6_244 rfl rfl rfl (cs_len (Nat.le_of_ble_eq_true rfl)) g3q (P_M_toldWrong (d := d + 5) eh1q) ?_
  refine r_istore_n (L' := [.ref t, .int a1, .int a2, .int x2q, pm_J, pm_J, pm_J]) (x := x2q) f171_6 rfl (Nat.le_of_ble_eq_true rfl) rfl ?_
  refine r_iload_n f171_7 rfl ?_
  by_cases c4q : x2q = 0
  · rw [if_pos c4q] at hB
    refine r_if_t (t := 13) f171_8 (by decide) c4q ?_
    refine r_aload_nN f171_13 rfl ?_
    replace hB := bnd_some hB
    obtain ⟨x5q, ex5q, hB⟩ := hB
    refine r_getI f171_14 fa_6_114 ex5q ?_
    refine r_istore (L' := [.ref t, .int a1, .int a2, .int x2q, .int x5q, pm_J, pm_J]) (x := x5q) f171_17 rfl (Nat.le_of_ble_eq_true rfl) rfl ?_
    refine r_iconst f171_19 ci_0 ?_
    refine r_istore (L' := [.ref t, .int a1, .int a2, .int x2q, .int x5q, .int 0, pm_J]) (x := 0) f171_20 rfl (Nat.le_of_ble_eq_true rfl) rfl ?_
    refine r_iconst f171_22 ci_0 ?_
    refine r_istore (L' := [.ref t, .int a1, .int a2, .int x2q, .int x5q, .int 0, .int 0]) (x := 0) f171_23 rfl (Nat.le_of_ble_eq_true rfl) rfl ?_
    exact pm_weak (L' := [.ref t, .int a1, .int a2, pm_J, .int x5q, .int 0, .int 0]) ⟨.inr rfl, .inr rfl, .inr rfl, .inl rfl, .inr rfl, .inr rfl, .inr rfl, trivial⟩ (P_M_laws_25 (d := d) 1000 h1q t a1 a2 x5q 0 0 hB)
  · rw [if_neg c4q] at hB
    refine r_if_f 13 f171_8 (by decide) c4q ?_
    refine r_iload_n f171_11 rfl ?_
    exact r_iret pm_m_171 .int f171_12 rfl rfl rfl (zI hB)
theorem P_M_film_106 {d : Nat} {h' : pm_H} {r : Int32} (k_57 : pm_H → Nat → Int32 → Int32 → Int32 → Int32 → Option (pm_H × Int32)) (hk_57 : ∀ (h : pm_H) (l0 : Nat) (l1 : Int32) (l2 : Int32) (l3 : Int32) (l4 : Int32), k_57 h l0 l1 l2 l3 l4 = some (h', r) → pm_run (pm_ev (d + 7)) 172 57 [.ref l0, .int l1, .int l2, .int l3, .int l4] [] h (fun r1 h1 => r1 = some (.int r) ∧ h1 = h')) (h : pm_H) (l0 : Nat) (l1 : Int32) (l2 : Int32) (l3 : Int32) (l4 : Int32) (hB : M_film_106 k_57 h l0 l1 l2 l3 l4 = some (h', r)) : pm_run (pm_ev (d + 7)) 172 106 [.ref l0, .int l1, .int l2, .int l3, .int l4] [] h (fun r1 h1 => r1 = some (.int r) ∧ h1 = h') := by
  unfold M_film_106 at hB
  obtain ⟨y1q, hy1q⟩ : ∃ z, z = l4 + 1 := ⟨_, rfl⟩
  replace hB := nmd_at hy1q hB
  refine r_iinc (L' := [.ref l0, .int l1, .int l2, .int l3, .int y1q]) (x := y1q) f172_106 rfl (hy1q.trans (congrArg (l4 + ·) ci_1.symm)) rfl ?_
  refine r_goto (t := 57) f172_109 (by decide) ?_
  exact pm_weak (L' := [.ref l0, .int l1, .int l2, .int l3, .int y1q]) ⟨.inr rfl, .inr rfl, .inr rfl, .inr rfl, .inr rfl, trivial⟩ (hk_57 h l0 l1 l2 l3 y1q hB)
theorem P_M_film_57 {d : Nat} {h' : pm_H} {r : Int32} (n : Nat) : ∀ (h : pm_H) (l0 : Nat) (l1 : Int32) (l2 : Int32) (l3 : Int32) (l4 : Int32), M_film_57 n h l0 l1 l2 l3 l4 = some (h', r) → pm_run (pm_ev (d + 7)) 172 57 [.ref l0, .int l1, .int l2, .int l3, .int l4] [] h (fun r1 h1 => r1 = some (.int r) ∧ h1 = h') := by
  induction n with
  | zero => intro h l0 l1 l2 l3 l4 hB; cases hB
  | succ n ih =>
    intro h l0 l1 l2 l3 l4 hB
    unfold M_film_57 at hB
    refine r_iload f172_57 rfl ?_
    refine r_bipush f172_59 cb_40 ?_
    by_cases c1q : 40 ≤ l4
    · rw [if_pos c1q] at hB
      refine r_ic_t (t := 112) f172_61 (by decide) c1q ?_
      refine r_aload_nN f172_112 rfl ?_
      replace hB := grd_some hB
      obtain ⟨g4q, hB⟩ := hB
      replace hB := bn2_some hB
      obtain ⟨h2q, _, eh2q, hB⟩ := hB
      refine r_virtN (as := []) (q := pm_m_150) f172_113 ca_6_228 rfl rfl rfl (cs_len (Nat.le_of_ble_eq_true rfl)) g4q (P_M_lays (d := d + 6) eh2q) ?_
      refine r_iload_n f172_116 rfl ?_
      exact r_iret pm_m_172 .int f172_117 rfl rfl rfl (zI hB)
    · rw [if_neg c1q] at hB
      refine r_ic_f 112 f172_61 (by decide) c1q ?_
      refine r_aload_nN f172_64 rfl ?_
      replace hB := bnd_some hB
      obtain ⟨x5q, ex5q, hB⟩ := hB
      refine r_getA f172_65 fa_6_47 ex5q ?_
      refine r_bipush f172_68 cb_40 ?_
      refine r_iload_n f172_70 rfl ?_
      refine r_imul f172_71 ?_
      refine r_iload f172_72 rfl ?_
      refine r_iadd f172_74 ?_
      refine r_iconst f172_75 ci_0 ?_
      replace hB := bnd_some hB
      obtain ⟨u6q, rfl, hB⟩ := hB
      replace hB := bnd_some hB
      obtain ⟨h7q, eh7q, hB⟩ := hB
      refine r_sI f172_76 eh7q ?_
      refine r_iload f172_77 rfl ?_
      refine r_iload_n f172_79 rfl ?_
      by_cases c8q : l3 ≤ l4
      · rw [if_pos c8q] at hB
        refine r_ic_t (t := 106) f172_80 (by decide) c8q ?_
        exact pm_weak (L' := [.ref l0, .int l1, .int l2, .int l3, .int l4]) ⟨.inr rfl, .inr rfl, .inr rfl, .inr rfl, .inr rfl, trivial⟩ (P_M_film_106 (d := d) (M_film_57 n) ih h7q l0 l1 l2 l3 l4 hB)
      · rw [if_neg c8q] at hB
        refine r_ic_f 106 f172_80 (by decide) c8q ?_
        refine r_aload_nN f172_83 rfl ?_
        replace hB := grd_some hB
        obtain ⟨g11q, hB⟩ := hB
        replace hB := bn2_some hB
        obtain ⟨h9q, x10q, eh9q, hB⟩ := hB
        refine r_virtV (as := []) (q := pm_m_147) f172_84 ca_6_216 rfl rfl rfl (cs_len (Nat.le_of_ble_eq_true rfl)) g11q (P_M_yearOf (d := d + 0) eh9q) ?_
        refine r_popI f172_87 ?_
        refine r_aload_nN f172_88 rfl ?_
        replace hB := bnd_some hB
        obtain ⟨x12q, ex12q, hB⟩ := hB
        refine r_getA f172_89 fa_6_47 ex12q ?_
        refine r_bipush f172_92 cb_40 ?_
        refine r_iload_n f172_94 rfl ?_
        refine r_imul f172_95 ?_
        refine r_iload f172_96 rfl ?_
        refine r_iadd f172_98 ?_
        refine r_aload_nN f172_99 rfl ?_
        refine r_iload_n f172_100 rfl ?_
        refine r_iconst f172_101 ci_0 ?_
        replace hB := grd_some hB
        obtain ⟨g15q, hB⟩ := hB
        replace hB := bn2_some hB
        obtain ⟨h13q, x14q, eh13q, hB⟩ := hB
        refine r_virtV (as := [.int l2, .int 0]) (q := pm_m_152) f172_102 ca_6_225 rfl rfl rfl (cs_len (Nat.le_of_ble_eq_true rfl)) g15q (P_M_ofDune (d := d + 6) eh13q) ?_
        replace hB := bnd_some hB
        obtain ⟨u16q, rfl, hB⟩ := hB
        replace hB := bnd_some hB
        obtain ⟨h17q, eh17q, hB⟩ := hB
        refine r_sI f172_105 eh17q ?_
        exact pm_weak (L' := [.ref l0, .int l1, .int l2, .int l3, .int l4]) ⟨.inr rfl, .inr rfl, .inr rfl, .inr rfl, .inr rfl, trivial⟩ (P_M_film_106 (d := d) (M_film_57 n) ih h17q l0 l1 l2 l3 l4 hB)
theorem P_M_film {d : Nat} {h h' : pm_H} {r : Int32} {t : Nat} {a1 : Int32} {a2 : Int32} {a3 : Int32} (hB : M_film h t a1 a2 a3 = some (h', r)) : pm_ev (d + 8) 172 [.ref t, .int a1, .int a2, .int a3] h (some (.int r)) h' := by
  unfold M_film at hB
  refine pm_ev_mk (L := [.ref t, .int a1, .int a2, .int a3, pm_J]) pm_m_172 rfl (Nat.le_of_ble_eq_true rfl) rfl ?_
  refine r_iload_n f172_0 rfl ?_
  refine r_iconst f172_1 ci_0 ?_
  refine r_iconst f172_2 ci_3 ?_
  replace hB := bn2_some hB
  obtain ⟨h1q, x2q, eh1q, hB⟩ := hB
  refine r_statV (as := [.int a1, .int 0, .int 3]) (q := pm_m_109) f172_3 ca_6_79 rfl (by decide) rfl rfl (cs_len (Nat.le_of_ble_eq_true rfl)) (P_M_in (d := d + 6) eh1q) ?_
  by_cases c3q : x2q = 0
  · rw [if_pos c3q] at hB
    refine r_if_f 12 f172_6 (by decide) (fun q => q c3q) ?_
    refine r_bipush f172_9 cb_m2 ?_
    exact r_iret pm_m_172 .int f172_11 rfl rfl rfl (zI hB)
  · rw [if_neg c3q] at hB
    refine r_if_t (t := 12) f172_6 (by decide) c3q ?_
    refine r_aload_nN f172_12 rfl ?_
    refine r_iload_n f172_13 rfl ?_
    replace hB := grd_some hB
    obtain ⟨g6q, hB⟩ := hB
    replace hB := bn2_some hB
    obtain ⟨h4q, x5q, eh4q, hB⟩ := hB
    refine r_virtV (as := [.int a2]) (q := pm_m_112) f172_14 ca_6_197 rfl rfl rfl (cs_len (Nat.le_of_ble_eq_true rfl)) g6q (P_M_isDune (d := d + 5) eh4q) ?_
    by_cases c7q : x5q = 0
    · rw [if_pos c7q] at hB
      refine r_if_f 23 f172_17 (by decide) (fun q => q c7q) ?_
      refine r_bipush f172_20 cb_m5 ?_
      exact r_iret pm_m_172 .int f172_22 rfl rfl rfl (zI hB)
    · rw [if_neg c7q] at hB
      refine r_if_t (t := 23) f172_17 (by decide) c7q ?_
      refine r_iload_n f172_23 rfl ?_
      refine r_iconst f172_24 ci_0 ?_
      refine r_bipush f172_25 cb_20 ?_
      replace hB := bn2_some hB
      obtain ⟨h8q, x9q, eh8q, hB⟩ := hB
      refine r_statV (as := [.int a3, .int 0, .int 20]) (q := pm_m_109) f172_27 ca_6_79 rfl (by decide) rfl rfl (cs_len (Nat.le_of_ble_eq_true rfl)) (P_M_in (d := d + 6) eh8q) ?_
      by_cases c10q : x9q = 0
      · rw [if_pos c10q] at hB
        refine r_if_f 36 f172_30 (by decide) (fun q => q c10q) ?_
        refine r_bipush f172_33 cb_m7 ?_
        exact r_iret pm_m_172 .int f172_35 rfl rfl rfl (zI hB)
      · rw [if_neg c10q] at hB
        refine r_if_t (t := 36) f172_30 (by decide) c10q ?_
        refine r_aload_nN f172_36 rfl ?_
        replace hB := bnd_some hB
        obtain ⟨x11q, ex11q, hB⟩ := hB
        refine r_getA f172_37 fa_6_41 ex11q ?_
        refine r_iload_n f172_40 rfl ?_
        refine r_iconst f172_41 ci_0 ?_
        replace hB := bnd_some hB
        obtain ⟨u12q, rfl, hB⟩ := hB
        replace hB := bnd_some hB
        obtain ⟨h13q, eh13q, hB⟩ := hB
        refine r_sI f172_42 eh13q ?_
        refine r_aload_nN f172_43 rfl ?_
        replace hB := bnd_some hB
        obtain ⟨x14q, ex14q, hB⟩ := hB
        refine r_getA f172_44 fa_6_44 ex14q ?_
        refine r_iload_n f172_47 rfl ?_
        refine r_iload_n f172_48 rfl ?_
        replace hB := bnd_some hB
        obtain ⟨u15q, rfl, hB⟩ := hB
        replace hB := bnd_some hB
        obtain ⟨h16q, eh16q, hB⟩ := hB
        refine r_sI f172_49 eh16q ?_
        refine r_aload_nN f172_50 rfl ?_
        replace hB := grd_some hB
        obtain ⟨g19q, hB⟩ := hB
        replace hB := bn2_some hB
        obtain ⟨h17q, _, eh17q, hB⟩ := hB
        refine r_virtN (as := []) (q := pm_m_149) f172_51 ca_6_219 rfl rfl rfl (cs_len (Nat.le_of_ble_eq_true rfl)) g19q (P_M_keeps (d := d + 6) eh17q) ?_
        refine r_iconst f172_54 ci_0 ?_
        refine r_istore (L' := [.ref t, .int a1, .int a2, .int a3, .int 0]) (x := 0) f172_55 rfl (Nat.le_of_ble_eq_true rfl) rfl ?_
        exact pm_weak (L' := [.ref t, .int a1, .int a2, .int a3, .int 0]) ⟨.inr rfl, .inr rfl, .inr rfl, .inr rfl, .inr rfl, trivial⟩ (P_M_film_57 (d := d) 1000 h17q t a1 a2 a3 0 hB)
theorem P_M_winds_90 {d : Nat} {h' : pm_H} {r : Int32} (k_15 : pm_H → Nat → Int64 → Int32 → Int32 → Option (pm_H × Int32)) (hk_15 : ∀ (h : pm_H) (l0 : Nat) (l2 : Int64) (l4 : Int32) (l5 : Int32), k_15 h l0 l2 l4 l5 = some (h', r) → pm_run (pm_ev (d + 8)) 173 15 [.ref l0, pm_J, .long l2, pm_J, .int l4, .int l5, pm_J] [] h (fun r1 h1 => r1 = some (.int r) ∧ h1 = h')) (h : pm_H) (l0 : Nat) (l2 : Int64) (l4 : Int32) (l5 : Int32) (hB : M_winds_90 k_15 h l0 l2 l4 l5 = some (h', r)) : pm_run (pm_ev (d + 8)) 173 90 [.ref l0, pm_J, .long l2, pm_J, .int l4, .int l5, pm_J] [] h (fun r1 h1 => r1 = some (.int r) ∧ h1 = h') := by
  unfold M_winds_90 at hB
  refine r_iload f173_90 rfl ?_
  refine r_aload_nN f173_92 rfl ?_
  refine r_iconst f173_93 ci_1 ?_
  replace hB := grd_some hB
  obtain ⟨g3q, hB⟩ := hB
  replace hB := bn2_some hB
  obtain ⟨h1q, x2q, eh1q, hB⟩ := hB
  refine r_virtV (as := [.int 1]) (q := pm_m_151) f173_94 ca_6_222 rfl rfl rfl (cs_len (Nat.le_of_ble_eq_true rfl)) g3q (P_M_goes (d := d + 0) eh1q) ?_
  refine r_iadd f173_97 ?_
  obtain ⟨y4q, hy4q⟩ : ∃ z, z = (l4 + x2q) := ⟨_, rfl⟩
  replace hB := nmd_at hy4q hB
  refine r_istore (L' := [.ref l0, pm_J, .long l2, pm_J, .int y4q, .int l5, pm_J]) (x := y4q) f173_98 hy4q (Nat.le_of_ble_eq_true rfl) rfl ?_
  obtain ⟨y5q, hy5q⟩ : ∃ z, z = l5 + 1 := ⟨_, rfl⟩
  replace hB := nmd_at hy5q hB
  refine r_iinc (L' := [.ref l0, pm_J, .long l2, pm_J, .int y4q, .int y5q, pm_J]) (x := y5q) f173_100 rfl (hy5q.trans (congrArg (l5 + ·) ci_1.symm)) rfl ?_
  refine r_goto (t := 15) f173_103 (by decide) ?_
  exact pm_weak (L' := [.ref l0, pm_J, .long l2, pm_J, .int y4q, .int y5q, pm_J]) ⟨.inr rfl, .inl rfl, .inr rfl, .inl rfl, .inr rfl, .inr rfl, .inl rfl, trivial⟩ (hk_15 h1q l0 l2 y4q y5q hB)
theorem P_M_winds_15 {d : Nat} {h' : pm_H} {r : Int32} (n : Nat) : ∀ (h : pm_H) (l0 : Nat) (l2 : Int64) (l4 : Int32) (l5 : Int32), M_winds_15 n h l0 l2 l4 l5 = some (h', r) → pm_run (pm_ev (d + 8)) 173 15 [.ref l0, pm_J, .long l2, pm_J, .int l4, .int l5, pm_J] [] h (fun r1 h1 => r1 = some (.int r) ∧ h1 = h') := by
  induction n with
  | zero => intro h l0 l2 l4 l5 hB; cases hB
  | succ n ih =>
    intro h l0 l2 l4 l5 hB
    unfold M_winds_15 at hB
    refine r_iload f173_15 rfl ?_
    refine r_bipush f173_17 cb_6 ?_
    by_cases c1q : 6 ≤ l5
    · rw [if_pos c1q] at hB
      refine r_ic_t (t := 106) f173_19 (by decide) c1q ?_
      refine r_aload_nN f173_106 rfl ?_
      refine r_aload_nN f173_107 rfl ?_
      replace hB := grd_some hB
      obtain ⟨g4q, hB⟩ := hB
      replace hB := bn2_some hB
      obtain ⟨h2q, x3q, eh2q, hB⟩ := hB
      refine r_virtV (as := []) (q := pm_m_117) f173_108 ca_6_98 rfl rfl rfl (cs_len (Nat.le_of_ble_eq_true rfl)) g4q (P_M_there (d := d + 7) eh2q) ?_
      replace hB := bnd_some hB
      obtain ⟨h5q, eh5q, hB⟩ := hB
      refine r_put f173_111 fa_6_258 ty_6_35 rfl rfl (no_fin (nf_6_35)) eh5q ?_
      refine r_aload_nN f173_114 rfl ?_
      replace hB := grd_some hB
      obtain ⟨g8q, hB⟩ := hB
      replace hB := bn2_some hB
      obtain ⟨h6q, _, eh6q, hB⟩ := hB
      refine r_virtN (as := []) (q := pm_m_150) f173_115 ca_6_228 rfl rfl rfl (cs_len (Nat.le_of_ble_eq_true rfl)) g8q (P_M_lays (d := d + 7) eh6q) ?_
      refine r_iload f173_118 rfl ?_
      exact r_iret pm_m_173 .int f173_120 rfl rfl rfl (zI hB)
    · rw [if_neg c1q] at hB
      refine r_ic_f 106 f173_19 (by decide) c1q ?_
      refine r_lload_n f173_22 rfl ?_
      refine r_ldc2_w (v := 48271) (p := 1159) f173_23 rfl ?_
      refine r_lmul f173_26 ?_
      refine r_ldc2_w (v := 2147483647) (p := 1160) f173_27 rfl ?_
      refine r_lrem f173_30 nz_l_2147483647 ?_
      obtain ⟨y9q, hy9q⟩ : ∃ z, z = ((l2 * 48271) - (l2 * 48271) / 2147483647 * 2147483647) := ⟨_, rfl⟩
      replace hB := nmd_at hy9q hB
      refine r_lstore_n (L' := [.ref l0, pm_J, .long y9q, pm_J, .int l4, .int l5, pm_J]) (x := y9q) f173_31 hy9q (Nat.le_of_ble_eq_true rfl) rfl ?_
      refine r_lload_n f173_32 rfl ?_
      refine r_ldc2_w (v := 6) (p := 1161) f173_33 rfl ?_
      refine r_lrem f173_36 nz_l_6 ?_
      refine r_l2i f173_37 ?_
      obtain ⟨y10q, hy10q⟩ : ∃ z, z = (Int64.toInt32 (y9q - y9q / 6 * 6)) := ⟨_, rfl⟩
      replace hB := nmd_at hy10q hB
      refine r_istore (L' := [.ref l0, pm_J, .long y9q, pm_J, .int l4, .int l5, .int y10q]) (x := y10q) f173_38 hy10q (Nat.le_of_ble_eq_true rfl) rfl ?_
      refine r_lload_n f173_40 rfl ?_
      refine r_ldc2_w (v := 48271) (p := 1159) f173_41 rfl ?_
      refine r_lmul f173_44 ?_
      refine r_ldc2_w (v := 2147483647) (p := 1160) f173_45 rfl ?_
      refine r_lrem f173_48 nz_l_2147483647 ?_
      obtain ⟨y11q, hy11q⟩ : ∃ z, z = ((y9q * 48271) - (y9q * 48271) / 2147483647 * 2147483647) := ⟨_, rfl⟩
      replace hB := nmd_at hy11q hB
      refine r_lstore_n (L' := [.ref l0, pm_J, .long y11q, pm_J, .int l4, .int l5, .int y10q]) (x := y11q) f173_49 hy11q (Nat.le_of_ble_eq_true rfl) rfl ?_
      refine r_aload_nN f173_50 rfl ?_
      refine r_iload f173_51 rfl ?_
      replace hB := grd_some hB
      obtain ⟨g14q, hB⟩ := hB
      replace hB := bn2_some hB
      obtain ⟨h12q, x13q, eh12q, hB⟩ := hB
      refine r_virtV (as := [.int y10q]) (q := pm_m_112) f173_53 ca_6_197 rfl rfl rfl (cs_len (Nat.le_of_ble_eq_true rfl)) g14q (P_M_isDune (d := d + 6) eh12q) ?_
      by_cases c15q : x13q = 0
      · rw [if_pos c15q] at hB
        refine r_if_t (t := 90) f173_56 (by decide) c15q ?_
        exact pm_weak (L' := [.ref l0, pm_J, .long y11q, pm_J, .int l4, .int l5, pm_J]) ⟨.inr rfl, .inl rfl, .inr rfl, .inl rfl, .inr rfl, .inr rfl, .inl rfl, trivial⟩ (P_M_winds_90 (d := d) (M_winds_15 n) ih h12q l0 y11q l4 l5 hB)
      · rw [if_neg c15q] at hB
        refine r_if_f 90 f173_56 (by decide) c15q ?_
        refine r_aload_nN f173_59 rfl ?_
        replace hB := bnd_some hB
        obtain ⟨x16q, ex16q, hB⟩ := hB
        refine r_getA f173_60 fa_6_16 ex16q ?_
        refine r_iconst f173_63 ci_3 ?_
        refine r_iload f173_64 rfl ?_
        refine r_imul f173_66 ?_
        refine r_aload_nN f173_67 rfl ?_
        replace hB := bnd_some hB
        obtain ⟨x17q, ex17q, hB⟩ := hB
        refine r_getA f173_68 fa_6_16 ex17q ?_
        refine r_iconst f173_71 ci_3 ?_
        refine r_iload f173_72 rfl ?_
        refine r_imul f173_74 ?_
        replace hB := bnd_some hB
        obtain ⟨u18q, rfl, hB⟩ := hB
        replace hB := bnd_some hB
        obtain ⟨x19q, ex19q, hB⟩ := hB
        refine r_aI f173_75 ex19q ?_
        refine r_lload_n f173_76 rfl ?_
        refine r_ldc2_w (v := 4) (p := 1162) f173_77 rfl ?_
        refine r_lrem f173_80 nz_l_4 ?_
        refine r_l2i f173_81 ?_
        refine r_iadd f173_82 ?_
        refine r_iconst f173_83 ci_0 ?_
        refine r_bipush f173_84 cb_39 ?_
        replace hB := bn2_some hB
        obtain ⟨h20q, x21q, eh20q, hB⟩ := hB
        refine r_statV (as := [.int (x19q + (Int64.toInt32 (y11q - y11q / 4 * 4))), .int 0, .int 39]) (q := pm_m_110) f173_86 ca_6_86 rfl (by decide) rfl rfl (cs_len (Nat.le_of_ble_eq_true rfl)) (P_M_within (d := d + 7) eh20q) ?_
        replace hB := bnd_some hB
        obtain ⟨u22q, rfl, hB⟩ := hB
        replace hB := bnd_some hB
        obtain ⟨h23q, eh23q, hB⟩ := hB
        refine r_sI f173_89 eh23q ?_
        exact pm_weak (L' := [.ref l0, pm_J, .long y11q, pm_J, .int l4, .int l5, pm_J]) ⟨.inr rfl, .inl rfl, .inr rfl, .inl rfl, .inr rfl, .inr rfl, .inl rfl, trivial⟩ (P_M_winds_90 (d := d) (M_winds_15 n) ih h23q l0 y11q l4 l5 hB)
theorem P_M_winds {d : Nat} {h h' : pm_H} {r : Int32} {t : Nat} {a1 : Int32} (hB : M_winds h t a1 = some (h', r)) : pm_ev (d + 9) 173 [.ref t, .int a1] h (some (.int r)) h' := by
  unfold M_winds at hB
  refine pm_ev_mk (L := [.ref t, .int a1, pm_J, pm_J, pm_J, pm_J, pm_J]) pm_m_173 rfl (Nat.le_of_ble_eq_true rfl) rfl ?_
  refine r_iload_n f173_0 rfl ?_
  refine r_i2l f173_1 ?_
  refine r_lconst f173_2 cl_1 ?_
  refine r_ladd f173_3 ?_
  obtain ⟨y1q, hy1q⟩ : ∃ z, z = ((Int32.toInt64 a1) + 1) := ⟨_, rfl⟩
  replace hB := nmd_at hy1q hB
  refine r_lstore_n (L' := [.ref t, .int a1, .long y1q, pm_J, pm_J, pm_J, pm_J]) (x := y1q) f173_4 hy1q (Nat.le_of_ble_eq_true rfl) rfl ?_
  refine r_iconst f173_5 ci_0 ?_
  refine r_istore (L' := [.ref t, .int a1, .long y1q, pm_J, .int 0, pm_J, pm_J]) (x := 0) f173_6 rfl (Nat.le_of_ble_eq_true rfl) rfl ?_
  refine r_aload_nN f173_8 rfl ?_
  replace hB := grd_some hB
  obtain ⟨g4q, hB⟩ := hB
  replace hB := bn2_some hB
  obtain ⟨h2q, _, eh2q, hB⟩ := hB
  refine r_virtN (as := []) (q := pm_m_149) f173_9 ca_6_219 rfl rfl rfl (cs_len (Nat.le_of_ble_eq_true rfl)) g4q (P_M_keeps (d := d + 7) eh2q) ?_
  refine r_iconst f173_12 ci_0 ?_
  refine r_istore (L' := [.ref t, .int a1, .long y1q, pm_J, .int 0, .int 0, pm_J]) (x := 0) f173_13 rfl (Nat.le_of_ble_eq_true rfl) rfl ?_
  exact pm_weak (L' := [.ref t, pm_J, .long y1q, pm_J, .int 0, .int 0, pm_J]) ⟨.inr rfl, .inl rfl, .inr rfl, .inl rfl, .inr rfl, .inr rfl, .inl rfl, trivial⟩ (P_M_winds_15 (d := d) 1000 h2q t y1q 0 0 hB)
theorem P_M_drawn {d : Nat} {h h' : pm_H} {r : Int32} {t : Nat} {a1 : Int32} {a2 : Int32} (hB : M_drawn h t a1 a2 = some (h', r)) : pm_ev (d + 10) 174 [.ref t, .int a1, .int a2] h (some (.int r)) h' := by
  unfold M_drawn at hB
  refine pm_ev_mk (L := [.ref t, .int a1, .int a2, pm_J]) pm_m_174 rfl (Nat.le_of_ble_eq_true rfl) rfl ?_
  refine r_iload_n f174_0 rfl ?_
  refine r_iconst f174_1 ci_0 ?_
  refine r_ldc_w (v := 99999) (p := 1154) f174_2 rfl ?_
  replace hB := bn2_some hB
  obtain ⟨h1q, x2q, eh1q, hB⟩ := hB
  refine r_statV (as := [.int a1, .int 0, .int 99999]) (q := pm_m_109) f174_5 ca_6_79 rfl (by decide) rfl rfl (cs_len (Nat.le_of_ble_eq_true rfl)) (P_M_in (d := d + 8) eh1q) ?_
  by_cases c3q : x2q = 0
  · rw [if_pos c3q] at hB
    refine r_if_t (t := 20) f174_8 (by decide) c3q ?_
    refine r_bipush f174_20 cb_m2 ?_
    exact r_iret pm_m_174 .int f174_22 rfl rfl rfl (zI hB)
  · rw [if_neg c3q] at hB
    refine r_if_f 20 f174_8 (by decide) c3q ?_
    refine r_iload_n f174_11 rfl ?_
    refine r_iconst f174_12 ci_0 ?_
    refine r_iconst f174_13 ci_1 ?_
    replace hB := bn2_some hB
    obtain ⟨h4q, x5q, eh4q, hB⟩ := hB
    refine r_statV (as := [.int a2, .int 0, .int 1]) (q := pm_m_109) f174_14 ca_6_79 rfl (by decide) rfl rfl (cs_len (Nat.le_of_ble_eq_true rfl)) (P_M_in (d := d + 8) eh4q) ?_
    by_cases c6q : x5q = 0
    · rw [if_pos c6q] at hB
      refine r_if_f 23 f174_17 (by decide) (fun q => q c6q) ?_
      refine r_bipush f174_20 cb_m2 ?_
      exact r_iret pm_m_174 .int f174_22 rfl rfl rfl (zI hB)
    · rw [if_neg c6q] at hB
      refine r_if_t (t := 23) f174_17 (by decide) c6q ?_
      refine r_aload_nN f174_23 rfl ?_
      refine r_iload_n f174_24 rfl ?_
      replace hB := grd_some hB
      obtain ⟨g9q, hB⟩ := hB
      replace hB := bn2_some hB
      obtain ⟨h7q, x8q, eh7q, hB⟩ := hB
      refine r_virtV (as := [.int a1]) (q := pm_m_173) f174_25 ca_6_262 rfl rfl rfl (cs_len (Nat.le_of_ble_eq_true rfl)) g9q (P_M_winds (d := d + 0) eh7q) ?_
      refine r_istore_n (L' := [.ref t, .int a1, .int a2, .int x8q]) (x := x8q) f174_28 rfl (Nat.le_of_ble_eq_true rfl) rfl ?_
      refine r_iload_n f174_29 rfl ?_
      by_cases c10q : a2 = 0
      · rw [if_pos c10q] at hB
        refine r_if_f 37 f174_30 (by decide) (fun q => q c10q) ?_
        refine r_iload_n f174_33 rfl ?_
        refine r_goto (t := 41) f174_34 (by decide) ?_
        exact r_iret pm_m_174 .int f174_41 rfl rfl rfl (zI hB)
      · rw [if_neg c10q] at hB
        refine r_if_t (t := 37) f174_30 (by decide) c10q ?_
        refine r_aload_nN f174_37 rfl ?_
        replace hB := bnd_some hB
        obtain ⟨x11q, ex11q, hB⟩ := hB
        refine r_getI f174_38 fa_6_258 ex11q ?_
        exact r_iret pm_m_174 .int f174_41 rfl rfl rfl (zI hB)
theorem P_M_odds_77 {d : Nat} {h' : pm_H} {r : Int64} (k_52 : pm_H → Nat → Int32 → Int32 → Int32 → Int32 → Int64 → Int32 → Option (pm_H × Int64)) (hk_52 : ∀ (h : pm_H) (l0 : Nat) (l1 : Int32) (l2 : Int32) (l3 : Int32) (l4 : Int32) (l5 : Int64) (l7 : Int32), k_52 h l0 l1 l2 l3 l4 l5 l7 = some (h', r) → pm_run (pm_ev (d + 9)) 175 52 [.ref l0, .int l1, .int l2, .int l3, .int l4, .long l5, pm_J, .int l7] [] h (fun r1 h1 => r1 = some (.long r) ∧ h1 = h')) (h : pm_H) (l0 : Nat) (l1 : Int32) (l2 : Int32) (l3 : Int32) (l4 : Int32) (l7 : Int32) (s0 : Int64) (s1 : Int64) (hB : M_odds_77 k_52 h l0 l1 l2 l3 l4 l7 s0 s1 = some (h', r)) : pm_run (pm_ev (d + 9)) 175 77 [.ref l0, .int l1, .int l2, .int l3, .int l4, pm_J, pm_J, .int l7] [.long s0, .long s1] h (fun r1 h1 => r1 = some (.long r) ∧ h1 = h') := by
  unfold M_odds_77 at hB
  refine r_ladd f175_77 ?_
  obtain ⟨y1q, hy1q⟩ : ∃ z, z = (s1 + s0) := ⟨_, rfl⟩
  replace hB := nmd_at hy1q hB
  refine r_lstore (L' := [.ref l0, .int l1, .int l2, .int l3, .int l4, .long y1q, pm_J, .int l7]) (x := y1q) f175_78 hy1q (Nat.le_of_ble_eq_true rfl) rfl ?_
  obtain ⟨y2q, hy2q⟩ : ∃ z, z = l7 + 1 := ⟨_, rfl⟩
  replace hB := nmd_at hy2q hB
  refine r_iinc (L' := [.ref l0, .int l1, .int l2, .int l3, .int l4, .long y1q, pm_J, .int y2q]) (x := y2q) f175_80 rfl (hy2q.trans (congrArg (l7 + ·) ci_1.symm)) rfl ?_
  refine r_goto (t := 52) f175_83 (by decide) ?_
  exact pm_weak (L' := [.ref l0, .int l1, .int l2, .int l3, .int l4, .long y1q, pm_J, .int y2q]) ⟨.inr rfl, .inr rfl, .inr rfl, .inr rfl, .inr rfl, .inr rfl, .inl rfl, .inr rfl, trivial⟩ (hk_52 h l0 l1 l2 l3 l4 y1q y2q hB)
theorem P_M_odds_52 {d : Nat} {h' : pm_H} {r : Int64} (n : Nat) : ∀ (h : pm_H) (l0 : Nat) (l1 : Int32) (l2 : Int32) (l3 : Int32) (l4 : Int32) (l5 : Int64) (l7 : Int32), M_odds_52 n h l0 l1 l2 l3 l4 l5 l7 = some (h', r) → pm_run (pm_ev (d + 9)) 175 52 [.ref l0, .int l1, .int l2, .int l3, .int l4, .long l5, pm_J, .int l7] [] h (fun r1 h1 => r1 = some (.long r) ∧ h1 = h') := by
  induction n with
  | zero => intro h l0 l1 l2 l3 l4 l5 l7 hB; cases hB
  | succ n ih =>
    intro h l0 l1 l2 l3 l4 l5 l7 hB
    unfold M_odds_52 at hB
    refine r_iload f175_52 rfl ?_
    refine r_iload_n f175_54 rfl ?_
    by_cases c1q : l2 ≤ l7
    · rw [if_pos c1q] at hB
      refine r_ic_t (t := 86) f175_55 (by decide) c1q ?_
      refine r_lload f175_86 rfl ?_
      refine r_iload_n f175_88 rfl ?_
      refine r_i2l f175_89 ?_
      refine r_iload f175_90 rfl ?_
      replace hB := bn2_some hB
      obtain ⟨h2q, x3q, eh2q, hB⟩ := hB
      refine r_statV (as := [.long l5, .long (Int32.toInt64 l2), .int l4]) (q := pm_m_162) f175_92 ca_6_237 rfl (by decide) rfl rfl (cs_len (Nat.le_of_ble_eq_true rfl)) (P_M_lowest (d := d + 8) eh2q) ?_
      exact r_lret pm_m_175 f175_95 rfl rfl (zJ hB)
    · rw [if_neg c1q] at hB
      refine r_ic_f 86 f175_55 (by decide) c1q ?_
      refine r_lload f175_58 rfl ?_
      refine r_aload_nN f175_60 rfl ?_
      refine r_iload_n f175_61 rfl ?_
      refine r_iload f175_62 rfl ?_
      refine r_iadd f175_64 ?_
      replace hB := grd_some hB
      obtain ⟨g6q, hB⟩ := hB
      replace hB := bn2_some hB
      obtain ⟨h4q, x5q, eh4q, hB⟩ := hB
      refine r_virtV (as := [.int (l1 + l7)]) (q := pm_m_173) f175_65 ca_6_262 rfl rfl rfl (cs_len (Nat.le_of_ble_eq_true rfl)) g6q (P_M_winds (d := d + 0) eh4q) ?_
      refine r_iload_n f175_68 rfl ?_
      by_cases c7q : x5q < l3
      · rw [if_pos c7q] at hB
        refine r_ic_t (t := 76) f175_69 (by decide) c7q ?_
        refine r_lconst f175_76 cl_0 ?_
        exact pm_weak (L' := [.ref l0, .int l1, .int l2, .int l3, .int l4, pm_J, pm_J, .int l7]) ⟨.inr rfl, .inr rfl, .inr rfl, .inr rfl, .inr rfl, .inl rfl, .inl rfl, .inr rfl, trivial⟩ (P_M_odds_77 (d := d) (M_odds_52 n) ih h4q l0 l1 l2 l3 l4 l7 0 l5 hB)
      · rw [if_neg c7q] at hB
        refine r_ic_f 76 f175_69 (by decide) c7q ?_
        refine r_lconst f175_72 cl_1 ?_
        refine r_goto (t := 77) f175_73 (by decide) ?_
        exact pm_weak (L' := [.ref l0, .int l1, .int l2, .int l3, .int l4, pm_J, pm_J, .int l7]) ⟨.inr rfl, .inr rfl, .inr rfl, .inr rfl, .inr rfl, .inl rfl, .inl rfl, .inr rfl, trivial⟩ (P_M_odds_77 (d := d) (M_odds_52 n) ih h4q l0 l1 l2 l3 l4 l7 1 l5 hB)
theorem P_M_odds {d : Nat} {h h' : pm_H} {r : Int64} {t : Nat} {a1 : Int32} {a2 : Int32} {a3 : Int32} {a4 : Int32} (hB : M_odds h t a1 a2 a3 a4 = some (h', r)) : pm_ev (d + 10) 175 [.ref t, .int a1, .int a2, .int a3, .int a4] h (some (.long r)) h' := by
  unfold M_odds at hB
  refine pm_ev_mk (L := [.ref t, .int a1, .int a2, .int a3, .int a4, pm_J, pm_J, pm_J]) pm_m_175 rfl (Nat.le_of_ble_eq_true rfl) rfl ?_
  refine r_iload_n f175_0 rfl ?_
  refine r_iconst f175_1 ci_0 ?_
  refine r_ldc_w (v := 99999) (p := 1154) f175_2 rfl ?_
  replace hB := bn2_some hB
  obtain ⟨h1q, x2q, eh1q, hB⟩ := hB
  refine r_statV (as := [.int a1, .int 0, .int 99999]) (q := pm_m_109) f175_5 ca_6_79 rfl (by decide) rfl rfl (cs_len (Nat.le_of_ble_eq_true rfl)) (P_M_in (d := d + 8) eh1q) ?_
  by_cases c3q : x2q = 0
  · rw [if_pos c3q] at hB
    refine r_if_t (t := 42) f175_8 (by decide) c3q ?_
    refine r_ldc2_w (v := (-4611686018427387904)) (p := 978) f175_42 rfl ?_
    exact r_lret pm_m_175 f175_45 rfl rfl (zJ hB)
  · rw [if_neg c3q] at hB
    refine r_if_f 42 f175_8 (by decide) c3q ?_
    refine r_iload_n f175_11 rfl ?_
    refine r_iconst f175_12 ci_1 ?_
    refine r_bipush f175_13 cb_40 ?_
    replace hB := bn2_some hB
    obtain ⟨h4q, x5q, eh4q, hB⟩ := hB
    refine r_statV (as := [.int a2, .int 1, .int 40]) (q := pm_m_109) f175_15 ca_6_79 rfl (by decide) rfl rfl (cs_len (Nat.le_of_ble_eq_true rfl)) (P_M_in (d := d + 8) eh4q) ?_
    by_cases c6q : x5q = 0
    · rw [if_pos c6q] at hB
      refine r_if_t (t := 42) f175_18 (by decide) c6q ?_
      refine r_ldc2_w (v := (-4611686018427387904)) (p := 978) f175_42 rfl ?_
      exact r_lret pm_m_175 f175_45 rfl rfl (zJ hB)
    · rw [if_neg c6q] at hB
      refine r_if_f 42 f175_18 (by decide) c6q ?_
      refine r_iload_n f175_21 rfl ?_
      refine r_iconst f175_22 ci_0 ?_
      refine r_sipush f175_23 cs_999 ?_
      replace hB := bn2_some hB
      obtain ⟨h7q, x8q, eh7q, hB⟩ := hB
      refine r_statV (as := [.int a3, .int 0, .int 999]) (q := pm_m_109) f175_26 ca_6_79 rfl (by decide) rfl rfl (cs_len (Nat.le_of_ble_eq_true rfl)) (P_M_in (d := d + 8) eh7q) ?_
      by_cases c9q : x8q = 0
      · rw [if_pos c9q] at hB
        refine r_if_t (t := 42) f175_29 (by decide) c9q ?_
        refine r_ldc2_w (v := (-4611686018427387904)) (p := 978) f175_42 rfl ?_
        exact r_lret pm_m_175 f175_45 rfl rfl (zJ hB)
      · rw [if_neg c9q] at hB
        refine r_if_f 42 f175_29 (by decide) c9q ?_
        refine r_iload f175_32 rfl ?_
        refine r_iconst f175_34 ci_0 ?_
        refine r_iconst f175_35 ci_1 ?_
        replace hB := bn2_some hB
        obtain ⟨h10q, x11q, eh10q, hB⟩ := hB
        refine r_statV (as := [.int a4, .int 0, .int 1]) (q := pm_m_109) f175_36 ca_6_79 rfl (by decide) rfl rfl (cs_len (Nat.le_of_ble_eq_true rfl)) (P_M_in (d := d + 8) eh10q) ?_
        by_cases c12q : x11q = 0
        · rw [if_pos c12q] at hB
          refine r_if_f 46 f175_39 (by decide) (fun q => q c12q) ?_
          refine r_ldc2_w (v := (-4611686018427387904)) (p := 978) f175_42 rfl ?_
          exact r_lret pm_m_175 f175_45 rfl rfl (zJ hB)
        · rw [if_neg c12q] at hB
          refine r_if_t (t := 46) f175_39 (by decide) c12q ?_
          refine r_lconst f175_46 cl_0 ?_
          refine r_lstore (L' := [.ref t, .int a1, .int a2, .int a3, .int a4, .long 0, pm_J, pm_J]) (x := 0) f175_47 rfl (Nat.le_of_ble_eq_true rfl) rfl ?_
          refine r_iconst f175_49 ci_0 ?_
          refine r_istore (L' := [.ref t, .int a1, .int a2, .int a3, .int a4, .long 0, pm_J, .int 0]) (x := 0) f175_50 rfl (Nat.le_of_ble_eq_true rfl) rfl ?_
          exact pm_weak (L' := [.ref t, .int a1, .int a2, .int a3, .int a4, .long 0, pm_J, .int 0]) ⟨.inr rfl, .inr rfl, .inr rfl, .inr rfl, .inr rfl, .inr rfl, .inl rfl, .inr rfl, trivial⟩ (P_M_odds_52 (d := d) 1000 h10q t a1 a2 a3 a4 0 0 hB)
theorem P_M_image_33 {d : Nat} {h' : pm_H} {r : Int32} (n : Nat) : ∀ (h : pm_H) (l0 : Nat) (l1 : Int32), M_image_33 n h l0 l1 = some (h', r) → pm_run (pm_ev (d + 0)) 176 33 [.ref l0, .int l1] [] h (fun r1 h1 => r1 = some (.int r) ∧ h1 = h') := by
  induction n with
  | zero => intro h l0 l1 hB; cases hB
  | succ n ih =>
    intro h l0 l1 hB
    unfold M_image_33 at hB
    refine r_iload_n f176_33 rfl ?_
    refine r_bipush f176_34 cb_6 ?_
    by_cases c1q : 6 ≤ l1
    · rw [if_pos c1q] at hB
      refine r_ic_t (t := 60) f176_36 (by decide) c1q ?_
      refine r_aload_nN f176_60 rfl ?_
      replace hB := bnd_some hB
      obtain ⟨x2q, ex2q, hB⟩ := hB
      refine r_getA f176_61 fa_6_34 ex2q ?_
      refine r_iconst f176_64 ci_0 ?_
      refine r_aload_nN f176_65 rfl ?_
      replace hB := bnd_some hB
      obtain ⟨x3q, ex3q, hB⟩ := hB
      refine r_getJ f176_66 fa_6_108 ex3q ?_
      replace hB := bnd_some hB
      obtain ⟨u4q, rfl, hB⟩ := hB
      replace hB := bnd_some hB
      obtain ⟨h5q, eh5q, hB⟩ := hB
      refine r_sJ f176_69 eh5q ?_
      refine r_aload_nN f176_70 rfl ?_
      replace hB := bnd_some hB
      obtain ⟨x6q, ex6q, hB⟩ := hB
      refine r_getA f176_71 fa_6_34 ex6q ?_
      refine r_iconst f176_74 ci_1 ?_
      refine r_aload_nN f176_75 rfl ?_
      replace hB := bnd_some hB
      obtain ⟨x7q, ex7q, hB⟩ := hB
      refine r_getJ f176_76 fa_6_94 ex7q ?_
      replace hB := bnd_some hB
      obtain ⟨u8q, rfl, hB⟩ := hB
      replace hB := bnd_some hB
      obtain ⟨h9q, eh9q, hB⟩ := hB
      refine r_sJ f176_79 eh9q ?_
      refine r_aload_nN f176_80 rfl ?_
      replace hB := bnd_some hB
      obtain ⟨x10q, ex10q, hB⟩ := hB
      refine r_getA f176_81 fa_6_38 ex10q ?_
      refine r_iconst f176_84 ci_0 ?_
      refine r_aload_nN f176_85 rfl ?_
      replace hB := bnd_some hB
      obtain ⟨x11q, ex11q, hB⟩ := hB
      refine r_getI f176_86 fa_6_83 ex11q ?_
      replace hB := bnd_some hB
      obtain ⟨u12q, rfl, hB⟩ := hB
      replace hB := bnd_some hB
      obtain ⟨h13q, eh13q, hB⟩ := hB
      refine r_sI f176_89 eh13q ?_
      refine r_aload_nN f176_90 rfl ?_
      replace hB := bnd_some hB
      obtain ⟨x14q, ex14q, hB⟩ := hB
      refine r_getA f176_91 fa_6_38 ex14q ?_
      refine r_iconst f176_94 ci_1 ?_
      refine r_aload_nN f176_95 rfl ?_
      replace hB := bnd_some hB
      obtain ⟨x15q, ex15q, hB⟩ := hB
      refine r_getI f176_96 fa_6_105 ex15q ?_
      replace hB := bnd_some hB
      obtain ⟨u16q, rfl, hB⟩ := hB
      replace hB := bnd_some hB
      obtain ⟨h17q, eh17q, hB⟩ := hB
      refine r_sI f176_99 eh17q ?_
      refine r_aload_nN f176_100 rfl ?_
      replace hB := bnd_some hB
      obtain ⟨x18q, ex18q, hB⟩ := hB
      refine r_getA f176_101 fa_6_38 ex18q ?_
      refine r_iconst f176_104 ci_2 ?_
      refine r_aload_nN f176_105 rfl ?_
      replace hB := bnd_some hB
      obtain ⟨x19q, ex19q, hB⟩ := hB
      refine r_getI f176_106 fa_6_114 ex19q ?_
      replace hB := bnd_some hB
      obtain ⟨u20q, rfl, hB⟩ := hB
      replace hB := bnd_some hB
      obtain ⟨h21q, eh21q, hB⟩ := hB
      refine r_sI f176_109 eh21q ?_
      refine r_aload_nN f176_110 rfl ?_
      replace hB := bnd_some hB
      obtain ⟨x22q, ex22q, hB⟩ := hB
      refine r_getI f176_111 fa_6_83 ex22q ?_
      exact r_iret pm_m_176 .int f176_114 rfl rfl rfl (zI hB)
    · rw [if_neg c1q] at hB
      refine r_ic_f 60 f176_36 (by decide) c1q ?_
      refine r_aload_nN f176_39 rfl ?_
      replace hB := bnd_some hB
      obtain ⟨x23q, ex23q, hB⟩ := hB
      refine r_getA f176_40 fa_6_31 ex23q ?_
      refine r_bipush f176_43 cb_18 ?_
      refine r_iload_n f176_45 rfl ?_
      refine r_iadd f176_46 ?_
      refine r_aload_nN f176_47 rfl ?_
      replace hB := bnd_some hB
      obtain ⟨x24q, ex24q, hB⟩ := hB
      refine r_getA f176_48 fa_6_19 ex24q ?_
      refine r_iload_n f176_51 rfl ?_
      replace hB := bnd_some hB
      obtain ⟨u25q, rfl, hB⟩ := hB
      replace hB := bnd_some hB
      obtain ⟨x26q, ex26q, hB⟩ := hB
      refine r_aI f176_52 ex26q ?_
      replace hB := bnd_some hB
      obtain ⟨u27q, rfl, hB⟩ := hB
      replace hB := bnd_some hB
      obtain ⟨h28q, eh28q, hB⟩ := hB
      refine r_sI f176_53 eh28q ?_
      obtain ⟨y29q, hy29q⟩ : ∃ z, z = l1 + 1 := ⟨_, rfl⟩
      replace hB := nmd_at hy29q hB
      refine r_iinc (L' := [.ref l0, .int y29q]) (x := y29q) f176_54 rfl (hy29q.trans (congrArg (l1 + ·) ci_1.symm)) rfl ?_
      refine r_goto (t := 33) f176_57 (by decide) ?_
      exact pm_weak (L' := [.ref l0, .int y29q]) ⟨.inr rfl, .inr rfl, trivial⟩ (ih h28q l0 y29q hB)
theorem P_M_image_7 {d : Nat} {h' : pm_H} {r : Int32} (n : Nat) : ∀ (h : pm_H) (l0 : Nat) (l1 : Int32), M_image_7 n h l0 l1 = some (h', r) → pm_run (pm_ev (d + 0)) 176 7 [.ref l0, .int l1] [] h (fun r1 h1 => r1 = some (.int r) ∧ h1 = h') := by
  induction n with
  | zero => intro h l0 l1 hB; cases hB
  | succ n ih =>
    intro h l0 l1 hB
    unfold M_image_7 at hB
    refine r_iload_n f176_7 rfl ?_
    refine r_bipush f176_8 cb_18 ?_
    by_cases c1q : 18 ≤ l1
    · rw [if_pos c1q] at hB
      refine r_ic_t (t := 31) f176_10 (by decide) c1q ?_
      refine r_iconst f176_31 ci_0 ?_
      refine r_istore_n (L' := [.ref l0, .int 0]) (x := 0) f176_32 rfl (Nat.le_of_ble_eq_true rfl) rfl ?_
      exact pm_weak (L' := [.ref l0, .int 0]) ⟨.inr rfl, .inr rfl, trivial⟩ (P_M_image_33 (d := d) 1000 h l0 0 hB)
    · rw [if_neg c1q] at hB
      refine r_ic_f 31 f176_10 (by decide) c1q ?_
      refine r_aload_nN f176_13 rfl ?_
      replace hB := bnd_some hB
      obtain ⟨x2q, ex2q, hB⟩ := hB
      refine r_getA f176_14 fa_6_31 ex2q ?_
      refine r_iload_n f176_17 rfl ?_
      refine r_aload_nN f176_18 rfl ?_
      replace hB := bnd_some hB
      obtain ⟨x3q, ex3q, hB⟩ := hB
      refine r_getA f176_19 fa_6_16 ex3q ?_
      refine r_iload_n f176_22 rfl ?_
      replace hB := bnd_some hB
      obtain ⟨u4q, rfl, hB⟩ := hB
      replace hB := bnd_some hB
      obtain ⟨x5q, ex5q, hB⟩ := hB
      refine r_aI f176_23 ex5q ?_
      replace hB := bnd_some hB
      obtain ⟨u6q, rfl, hB⟩ := hB
      replace hB := bnd_some hB
      obtain ⟨h7q, eh7q, hB⟩ := hB
      refine r_sI f176_24 eh7q ?_
      obtain ⟨y8q, hy8q⟩ : ∃ z, z = l1 + 1 := ⟨_, rfl⟩
      replace hB := nmd_at hy8q hB
      refine r_iinc (L' := [.ref l0, .int y8q]) (x := y8q) f176_25 rfl (hy8q.trans (congrArg (l1 + ·) ci_1.symm)) rfl ?_
      refine r_goto (t := 7) f176_28 (by decide) ?_
      exact pm_weak (L' := [.ref l0, .int y8q]) ⟨.inr rfl, .inr rfl, trivial⟩ (ih h7q l0 y8q hB)
theorem P_M_image {d : Nat} {h h' : pm_H} {r : Int32} {t : Nat} (hB : M_image h t = some (h', r)) : pm_ev (d + 1) 176 [.ref t] h (some (.int r)) h' := by
  unfold M_image at hB
  refine pm_ev_mk (L := [.ref t, pm_J]) pm_m_176 rfl (Nat.le_of_ble_eq_true rfl) rfl ?_
  refine r_aload_nN f176_0 rfl ?_
  refine r_iconst f176_1 ci_1 ?_
  replace hB := bnd_some hB
  obtain ⟨h1q, eh1q, hB⟩ := hB
  refine r_put f176_2 fa_6_265 ty_6_14 (bool_n (by decide)) (bool_f (by decide)) (no_fin (nf_6_14)) eh1q ?_
  refine r_iconst f176_5 ci_0 ?_
  refine r_istore_n (L' := [.ref t, .int 0]) (x := 0) f176_6 rfl (Nat.le_of_ble_eq_true rfl) rfl ?_
  exact pm_weak (L' := [.ref t, .int 0]) ⟨.inr rfl, .inr rfl, trivial⟩ (P_M_image_7 (d := d) 1000 h1q t 0 hB)
theorem P_M_back_38 {d : Nat} {h' : pm_H} {r : Int32} (n : Nat) : ∀ (h : pm_H) (l0 : Nat) (l1 : Int32), M_back_38 n h l0 l1 = some (h', r) → pm_run (pm_ev (d + 0)) 177 38 [.ref l0, .int l1] [] h (fun r1 h1 => r1 = some (.int r) ∧ h1 = h') := by
  induction n with
  | zero => intro h l0 l1 hB; cases hB
  | succ n ih =>
    intro h l0 l1 hB
    unfold M_back_38 at hB
    refine r_iload_n f177_38 rfl ?_
    refine r_bipush f177_39 cb_6 ?_
    by_cases c1q : 6 ≤ l1
    · rw [if_pos c1q] at hB
      refine r_ic_t (t := 65) f177_41 (by decide) c1q ?_
      refine r_aload_nN f177_65 rfl ?_
      refine r_aload_nN f177_66 rfl ?_
      replace hB := bnd_some hB
      obtain ⟨x2q, ex2q, hB⟩ := hB
      refine r_getA f177_67 fa_6_34 ex2q ?_
      refine r_iconst f177_70 ci_0 ?_
      replace hB := bnd_some hB
      obtain ⟨u3q, rfl, hB⟩ := hB
      replace hB := bnd_some hB
      obtain ⟨x4q, ex4q, hB⟩ := hB
      refine r_aJ f177_71 ex4q ?_
      replace hB := bnd_some hB
      obtain ⟨h5q, eh5q, hB⟩ := hB
      refine r_put f177_72 fa_6_108 ty_6_5 rfl rfl (no_fin (nf_6_5)) eh5q ?_
      refine r_aload_nN f177_75 rfl ?_
      refine r_aload_nN f177_76 rfl ?_
      replace hB := bnd_some hB
      obtain ⟨x6q, ex6q, hB⟩ := hB
      refine r_getA f177_77 fa_6_34 ex6q ?_
      refine r_iconst f177_80 ci_1 ?_
      replace hB := bnd_some hB
      obtain ⟨u7q, rfl, hB⟩ := hB
      replace hB := bnd_some hB
      obtain ⟨x8q, ex8q, hB⟩ := hB
      refine r_aJ f177_81 ex8q ?_
      replace hB := bnd_some hB
      obtain ⟨h9q, eh9q, hB⟩ := hB
      refine r_put f177_82 fa_6_94 ty_6_6 rfl rfl (no_fin (nf_6_6)) eh9q ?_
      refine r_aload_nN f177_85 rfl ?_
      refine r_aload_nN f177_86 rfl ?_
      replace hB := bnd_some hB
      obtain ⟨x10q, ex10q, hB⟩ := hB
      refine r_getA f177_87 fa_6_38 ex10q ?_
      refine r_iconst f177_90 ci_0 ?_
      replace hB := bnd_some hB
      obtain ⟨u11q, rfl, hB⟩ := hB
      replace hB := bnd_some hB
      obtain ⟨x12q, ex12q, hB⟩ := hB
      refine r_aI f177_91 ex12q ?_
      replace hB := bnd_some hB
      obtain ⟨h13q, eh13q, hB⟩ := hB
      refine r_put f177_92 fa_6_83 ty_6_0 rfl rfl (no_fin (nf_6_0)) eh13q ?_
      refine r_aload_nN f177_95 rfl ?_
      refine r_aload_nN f177_96 rfl ?_
      replace hB := bnd_some hB
      obtain ⟨x14q, ex14q, hB⟩ := hB
      refine r_getA f177_97 fa_6_38 ex14q ?_
      refine r_iconst f177_100 ci_1 ?_
      replace hB := bnd_some hB
      obtain ⟨u15q, rfl, hB⟩ := hB
      replace hB := bnd_some hB
      obtain ⟨x16q, ex16q, hB⟩ := hB
      refine r_aI f177_101 ex16q ?_
      replace hB := bnd_some hB
      obtain ⟨h17q, eh17q, hB⟩ := hB
      refine r_put f177_102 fa_6_105 ty_6_7 rfl rfl (no_fin (nf_6_7)) eh17q ?_
      refine r_aload_nN f177_105 rfl ?_
      refine r_aload_nN f177_106 rfl ?_
      replace hB := bnd_some hB
      obtain ⟨x18q, ex18q, hB⟩ := hB
      refine r_getA f177_107 fa_6_38 ex18q ?_
      refine r_iconst f177_110 ci_2 ?_
      replace hB := bnd_some hB
      obtain ⟨u19q, rfl, hB⟩ := hB
      replace hB := bnd_some hB
      obtain ⟨x20q, ex20q, hB⟩ := hB
      refine r_aI f177_111 ex20q ?_
      replace hB := bnd_some hB
      obtain ⟨h21q, eh21q, hB⟩ := hB
      refine r_put f177_112 fa_6_114 ty_6_13 rfl rfl (no_fin (nf_6_13)) eh21q ?_
      refine r_aload_nN f177_115 rfl ?_
      replace hB := bnd_some hB
      obtain ⟨x22q, ex22q, hB⟩ := hB
      refine r_getI f177_116 fa_6_83 ex22q ?_
      exact r_iret pm_m_177 .int f177_119 rfl rfl rfl (zI hB)
    · rw [if_neg c1q] at hB
      refine r_ic_f 65 f177_41 (by decide) c1q ?_
      refine r_aload_nN f177_44 rfl ?_
      replace hB := bnd_some hB
      obtain ⟨x23q, ex23q, hB⟩ := hB
      refine r_getA f177_45 fa_6_19 ex23q ?_
      refine r_iload_n f177_48 rfl ?_
      refine r_aload_nN f177_49 rfl ?_
      replace hB := bnd_some hB
      obtain ⟨x24q, ex24q, hB⟩ := hB
      refine r_getA f177_50 fa_6_31 ex24q ?_
      refine r_bipush f177_53 cb_18 ?_
      refine r_iload_n f177_55 rfl ?_
      refine r_iadd f177_56 ?_
      replace hB := bnd_some hB
      obtain ⟨u25q, rfl, hB⟩ := hB
      replace hB := bnd_some hB
      obtain ⟨x26q, ex26q, hB⟩ := hB
      refine r_aI f177_57 ex26q ?_
      replace hB := bnd_some hB
      obtain ⟨u27q, rfl, hB⟩ := hB
      replace hB := bnd_some hB
      obtain ⟨h28q, eh28q, hB⟩ := hB
      refine r_sI f177_58 eh28q ?_
      obtain ⟨y29q, hy29q⟩ : ∃ z, z = l1 + 1 := ⟨_, rfl⟩
      replace hB := nmd_at hy29q hB
      refine r_iinc (L' := [.ref l0, .int y29q]) (x := y29q) f177_59 rfl (hy29q.trans (congrArg (l1 + ·) ci_1.symm)) rfl ?_
      refine r_goto (t := 38) f177_62 (by decide) ?_
      exact pm_weak (L' := [.ref l0, .int y29q]) ⟨.inr rfl, .inr rfl, trivial⟩ (ih h28q l0 y29q hB)
theorem P_M_back_12 {d : Nat} {h' : pm_H} {r : Int32} (n : Nat) : ∀ (h : pm_H) (l0 : Nat) (l1 : Int32), M_back_12 n h l0 l1 = some (h', r) → pm_run (pm_ev (d + 0)) 177 12 [.ref l0, .int l1] [] h (fun r1 h1 => r1 = some (.int r) ∧ h1 = h') := by
  induction n with
  | zero => intro h l0 l1 hB; cases hB
  | succ n ih =>
    intro h l0 l1 hB
    unfold M_back_12 at hB
    refine r_iload_n f177_12 rfl ?_
    refine r_bipush f177_13 cb_18 ?_
    by_cases c1q : 18 ≤ l1
    · rw [if_pos c1q] at hB
      refine r_ic_t (t := 36) f177_15 (by decide) c1q ?_
      refine r_iconst f177_36 ci_0 ?_
      refine r_istore_n (L' := [.ref l0, .int 0]) (x := 0) f177_37 rfl (Nat.le_of_ble_eq_true rfl) rfl ?_
      exact pm_weak (L' := [.ref l0, .int 0]) ⟨.inr rfl, .inr rfl, trivial⟩ (P_M_back_38 (d := d) 1000 h l0 0 hB)
    · rw [if_neg c1q] at hB
      refine r_ic_f 36 f177_15 (by decide) c1q ?_
      refine r_aload_nN f177_18 rfl ?_
      replace hB := bnd_some hB
      obtain ⟨x2q, ex2q, hB⟩ := hB
      refine r_getA f177_19 fa_6_16 ex2q ?_
      refine r_iload_n f177_22 rfl ?_
      refine r_aload_nN f177_23 rfl ?_
      replace hB := bnd_some hB
      obtain ⟨x3q, ex3q, hB⟩ := hB
      refine r_getA f177_24 fa_6_31 ex3q ?_
      refine r_iload_n f177_27 rfl ?_
      replace hB := bnd_some hB
      obtain ⟨u4q, rfl, hB⟩ := hB
      replace hB := bnd_some hB
      obtain ⟨x5q, ex5q, hB⟩ := hB
      refine r_aI f177_28 ex5q ?_
      replace hB := bnd_some hB
      obtain ⟨u6q, rfl, hB⟩ := hB
      replace hB := bnd_some hB
      obtain ⟨h7q, eh7q, hB⟩ := hB
      refine r_sI f177_29 eh7q ?_
      obtain ⟨y8q, hy8q⟩ : ∃ z, z = l1 + 1 := ⟨_, rfl⟩
      replace hB := nmd_at hy8q hB
      refine r_iinc (L' := [.ref l0, .int y8q]) (x := y8q) f177_30 rfl (hy8q.trans (congrArg (l1 + ·) ci_1.symm)) rfl ?_
      refine r_goto (t := 12) f177_33 (by decide) ?_
      exact pm_weak (L' := [.ref l0, .int y8q]) ⟨.inr rfl, .inr rfl, trivial⟩ (ih h7q l0 y8q hB)
theorem P_M_back {d : Nat} {h h' : pm_H} {r : Int32} {t : Nat} (hB : M_back h t = some (h', r)) : pm_ev (d + 1) 177 [.ref t] h (some (.int r)) h' := by
  unfold M_back at hB
  refine pm_ev_mk (L := [.ref t, pm_J]) pm_m_177 rfl (Nat.le_of_ble_eq_true rfl) rfl ?_
  refine r_aload_nN f177_0 rfl ?_
  replace hB := bnd_some hB
  obtain ⟨x1q, ex1q, hB⟩ := hB
  refine r_getI f177_1 fa_6_265 ex1q ?_
  by_cases c2q : x1q = 0
  · rw [if_pos c2q] at hB
    refine r_if_f 10 f177_4 (by decide) (fun q => q c2q) ?_
    refine r_bipush f177_7 cb_m3 ?_
    exact r_iret pm_m_177 .int f177_9 rfl rfl rfl (zI hB)
  · rw [if_neg c2q] at hB
    refine r_if_t (t := 10) f177_4 (by decide) c2q ?_
    refine r_iconst f177_10 ci_0 ?_
    refine r_istore_n (L' := [.ref t, .int 0]) (x := 0) f177_11 rfl (Nat.le_of_ble_eq_true rfl) rfl ?_
    exact pm_weak (L' := [.ref t, .int 0]) ⟨.inr rfl, .inr rfl, trivial⟩ (P_M_back_12 (d := d) 1000 h t 0 hB)
theorem P_M_sheet_70 {d : Nat} {h' : pm_H} {r : Int32} (n : Nat) : ∀ (h : pm_H) (l0 : Nat) (l1 : Int32) (l4 : Int32), M_sheet_70 n h l0 l1 l4 = some (h', r) → pm_run (pm_ev (d + 1)) 178 70 [.ref l0, .int l1, pm_J, pm_J, .int l4] [] h (fun r1 h1 => r1 = some (.int r) ∧ h1 = h') := by
  induction n with
  | zero => intro h l0 l1 l4 hB; cases hB
  | succ n ih =>
    intro h l0 l1 l4 hB
    unfold M_sheet_70 at hB
    refine r_iload f178_70 rfl ?_
    refine r_bipush f178_72 cb_40 ?_
    by_cases c1q : 40 ≤ l4
    · rw [if_pos c1q] at hB
      refine r_ic_t (t := 96) f178_74 (by decide) c1q ?_
      refine r_iconst f178_96 ci_1 ?_
      exact r_iret pm_m_178 .int f178_97 rfl rfl rfl (zI hB)
    · rw [if_neg c1q] at hB
      refine r_ic_f 96 f178_74 (by decide) c1q ?_
      refine r_aload_nN f178_77 rfl ?_
      replace hB := bnd_some hB
      obtain ⟨x2q, ex2q, hB⟩ := hB
      refine r_getA f178_78 fa_6_47 ex2q ?_
      refine r_bipush f178_81 cb_40 ?_
      refine r_iload_n f178_83 rfl ?_
      refine r_imul f178_84 ?_
      refine r_iload f178_85 rfl ?_
      refine r_iadd f178_87 ?_
      refine r_iconst f178_88 ci_0 ?_
      replace hB := bnd_some hB
      obtain ⟨u3q, rfl, hB⟩ := hB
      replace hB := bnd_some hB
      obtain ⟨h4q, eh4q, hB⟩ := hB
      refine r_sI f178_89 eh4q ?_
      obtain ⟨y5q, hy5q⟩ : ∃ z, z = l4 + 1 := ⟨_, rfl⟩
      replace hB := nmd_at hy5q hB
      refine r_iinc (L' := [.ref l0, .int l1, pm_J, pm_J, .int y5q]) (x := y5q) f178_90 rfl (hy5q.trans (congrArg (l4 + ·) ci_1.symm)) rfl ?_
      refine r_goto (t := 70) f178_93 (by decide) ?_
      exact pm_weak (L' := [.ref l0, .int l1, pm_J, pm_J, .int y5q]) ⟨.inr rfl, .inr rfl, .inl rfl, .inl rfl, .inr rfl, trivial⟩ (ih h4q l0 l1 y5q hB)
theorem P_M_sheet_66 {d : Nat} {h' : pm_H} {r : Int32} (h : pm_H) (l0 : Nat) (l1 : Int32) (s0 : Int32) (s1 : Int32) (s2 : Option Nat) (hB : M_sheet_66 h l0 l1 s0 s1 s2 = some (h', r)) : pm_run (pm_ev (d + 1)) 178 66 [.ref l0, .int l1, pm_J, pm_J, pm_J] [.int s0, .int s1, va_rf s2] h (fun r1 h1 => r1 = some (.int r) ∧ h1 = h') := by
  unfold M_sheet_66 at hB
  replace hB := bnd_some hB
  obtain ⟨u1q, rfl, hB⟩ := hB
  replace hB := bnd_some hB
  obtain ⟨h2q, eh2q, hB⟩ := hB
  refine r_sI f178_66 eh2q ?_
  refine r_iconst f178_67 ci_0 ?_
  refine r_istore (L' := [.ref l0, .int l1, pm_J, pm_J, .int 0]) (x := 0) f178_68 rfl (Nat.le_of_ble_eq_true rfl) rfl ?_
  exact pm_weak (L' := [.ref l0, .int l1, pm_J, pm_J, .int 0]) ⟨.inr rfl, .inr rfl, .inl rfl, .inl rfl, .inr rfl, trivial⟩ (P_M_sheet_70 (d := d) 1000 h2q l0 l1 0 hB)
theorem P_M_sheet_44 {d : Nat} {h' : pm_H} {r : Int32} (h : pm_H) (l0 : Nat) (l1 : Int32) (l2 : Int32) (l3 : Int32) (hB : M_sheet_44 h l0 l1 l2 l3 = some (h', r)) : pm_run (pm_ev (d + 1)) 178 44 [.ref l0, .int l1, .int l2, .int l3, pm_J] [] h (fun r1 h1 => r1 = some (.int r) ∧ h1 = h') := by
  unfold M_sheet_44 at hB
  refine r_aload_nN f178_44 rfl ?_
  replace hB := bnd_some hB
  obtain ⟨x1q, ex1q, hB⟩ := hB
  refine r_getA f178_45 fa_6_41 ex1q ?_
  refine r_iload_n f178_48 rfl ?_
  refine r_iload_n f178_49 rfl ?_
  replace hB := bnd_some hB
  obtain ⟨u2q, rfl, hB⟩ := hB
  replace hB := bnd_some hB
  obtain ⟨h3q, eh3q, hB⟩ := hB
  refine r_sI f178_50 eh3q ?_
  refine r_aload_nN f178_51 rfl ?_
  replace hB := bnd_some hB
  obtain ⟨x4q, ex4q, hB⟩ := hB
  refine r_getA f178_52 fa_6_44 ex4q ?_
  refine r_iload_n f178_55 rfl ?_
  refine r_iload_n f178_56 rfl ?_
  refine r_iconst f178_57 ci_m1 ?_
  by_cases c5q : l2 = (-1)
  · rw [if_pos c5q] at hB
    refine r_ic_f 65 f178_58 (by decide) (fun q => q c5q) ?_
    refine r_iconst f178_61 ci_0 ?_
    refine r_goto (t := 66) f178_62 (by decide) ?_
    exact pm_weak (L' := [.ref l0, .int l1, pm_J, pm_J, pm_J]) ⟨.inr rfl, .inr rfl, .inl rfl, .inl rfl, .inl rfl, trivial⟩ (P_M_sheet_66 (d := d) h3q l0 l1 0 l1 x4q hB)
  · rw [if_neg c5q] at hB
    refine r_ic_t (t := 65) f178_58 (by decide) c5q ?_
    refine r_iload_n f178_65 rfl ?_
    exact pm_weak (L' := [.ref l0, .int l1, pm_J, pm_J, pm_J]) ⟨.inr rfl, .inr rfl, .inl rfl, .inl rfl, .inl rfl, trivial⟩ (P_M_sheet_66 (d := d) h3q l0 l1 l3 l1 x4q hB)
theorem P_M_sheet_32 {d : Nat} {h' : pm_H} {r : Int32} (h : pm_H) (l0 : Nat) (l1 : Int32) (l2 : Int32) (l3 : Int32) (hB : M_sheet_32 h l0 l1 l2 l3 = some (h', r)) : pm_run (pm_ev (d + 1)) 178 32 [.ref l0, .int l1, .int l2, .int l3, pm_J] [] h (fun r1 h1 => r1 = some (.int r) ∧ h1 = h') := by
  unfold M_sheet_32 at hB
  refine r_iload_n f178_32 rfl ?_
  refine r_iconst f178_33 ci_m1 ?_
  by_cases c1q : l2 = (-1)
  · rw [if_pos c1q] at hB
    refine r_ic_t (t := 44) f178_34 (by decide) c1q ?_
    exact pm_weak (L' := [.ref l0, .int l1, .int l2, .int l3, pm_J]) ⟨.inr rfl, .inr rfl, .inr rfl, .inr rfl, .inl rfl, trivial⟩ (P_M_sheet_44 (d := d) h l0 l1 l2 l3 hB)
  · rw [if_neg c1q] at hB
    refine r_ic_f 44 f178_34 (by decide) c1q ?_
    refine r_iload_n f178_37 rfl ?_
    by_cases c2q : (0 : Int32) ≤ l3
    · rw [if_pos c2q] at hB
      refine r_if_t (t := 44) f178_38 (by decide) c2q ?_
      exact pm_weak (L' := [.ref l0, .int l1, .int l2, .int l3, pm_J]) ⟨.inr rfl, .inr rfl, .inr rfl, .inr rfl, .inl rfl, trivial⟩ (P_M_sheet_44 (d := d) h l0 l1 l2 l3 hB)
    · rw [if_neg c2q] at hB
      refine r_if_f 44 f178_38 (by decide) c2q ?_
      refine r_bipush f178_41 cb_m14 ?_
      exact r_iret pm_m_178 .int f178_43 rfl rfl rfl (zI hB)
theorem P_M_sheet {d : Nat} {h h' : pm_H} {r : Int32} {t : Nat} {a1 : Int32} {a2 : Int32} {a3 : Int32} (hB : M_sheet h t a1 a2 a3 = some (h', r)) : pm_ev (d + 2) 178 [.ref t, .int a1, .int a2, .int a3] h (some (.int r)) h' := by
  unfold M_sheet at hB
  refine pm_ev_mk (L := [.ref t, .int a1, .int a2, .int a3, pm_J]) pm_m_178 rfl (Nat.le_of_ble_eq_true rfl) rfl ?_
  refine r_iload_n f178_0 rfl ?_
  refine r_iconst f178_1 ci_0 ?_
  refine r_iconst f178_2 ci_3 ?_
  replace hB := bn2_some hB
  obtain ⟨h1q, x2q, eh1q, hB⟩ := hB
  refine r_statV (as := [.int a1, .int 0, .int 3]) (q := pm_m_109) f178_3 ca_6_79 rfl (by decide) rfl rfl (cs_len (Nat.le_of_ble_eq_true rfl)) (P_M_in (d := d + 0) eh1q) ?_
  by_cases c3q : x2q = 0
  · rw [if_pos c3q] at hB
    refine r_if_t (t := 29) f178_6 (by decide) c3q ?_
    refine r_bipush f178_29 cb_m2 ?_
    exact r_iret pm_m_178 .int f178_31 rfl rfl rfl (zI hB)
  · rw [if_neg c3q] at hB
    refine r_if_f 29 f178_6 (by decide) c3q ?_
    refine r_iload_n f178_9 rfl ?_
    refine r_iconst f178_10 ci_m1 ?_
    refine r_iconst f178_11 ci_2 ?_
    replace hB := bn2_some hB
    obtain ⟨h4q, x5q, eh4q, hB⟩ := hB
    refine r_statV (as := [.int a2, .int (-1), .int 2]) (q := pm_m_109) f178_12 ca_6_79 rfl (by decide) rfl rfl (cs_len (Nat.le_of_ble_eq_true rfl)) (P_M_in (d := d + 0) eh4q) ?_
    by_cases c6q : x5q = 0
    · rw [if_pos c6q] at hB
      refine r_if_t (t := 29) f178_15 (by decide) c6q ?_
      refine r_bipush f178_29 cb_m2 ?_
      exact r_iret pm_m_178 .int f178_31 rfl rfl rfl (zI hB)
    · rw [if_neg c6q] at hB
      refine r_if_f 29 f178_15 (by decide) c6q ?_
      refine r_iload_n f178_18 rfl ?_
      refine r_iconst f178_19 ci_m1 ?_
      by_cases c7q : a2 = (-1)
      · rw [if_pos c7q] at hB
        refine r_ic_t (t := 32) f178_20 (by decide) c7q ?_
        exact pm_weak (L' := [.ref t, .int a1, .int a2, .int a3, pm_J]) ⟨.inr rfl, .inr rfl, .inr rfl, .inr rfl, .inl rfl, trivial⟩ (P_M_sheet_32 (d := d) h4q t a1 a2 a3 hB)
      · rw [if_neg c7q] at hB
        refine r_ic_f 32 f178_20 (by decide) c7q ?_
        refine r_iload_n f178_23 rfl ?_
        refine r_bipush f178_24 cb_40 ?_
        by_cases c8q : a3 ≤ 40
        · rw [if_pos c8q] at hB
          refine r_ic_t (t := 32) f178_26 (by decide) c8q ?_
          exact pm_weak (L' := [.ref t, .int a1, .int a2, .int a3, pm_J]) ⟨.inr rfl, .inr rfl, .inr rfl, .inr rfl, .inl rfl, trivial⟩ (P_M_sheet_32 (d := d) h4q t a1 a2 a3 hB)
        · rw [if_neg c8q] at hB
          refine r_ic_f 32 f178_26 (by decide) c8q ?_
          refine r_bipush f178_29 cb_m2 ?_
          exact r_iret pm_m_178 .int f178_31 rfl rfl rfl (zI hB)
theorem P_M_cell_84 {d : Nat} {h' : pm_H} {r : Int32} (h : pm_H) (s0 : Int32) (s1 : Int32) (s2 : Option Nat) (hB : M_cell_84 h s0 s1 s2 = some (h', r)) : pm_run (pm_ev (d + 1)) 179 84 [pm_J, pm_J, pm_J, pm_J] [.int s0, .int s1, va_rf s2] h (fun r1 h1 => r1 = some (.int r) ∧ h1 = h') := by
  unfold M_cell_84 at hB
  replace hB := bnd_some hB
  obtain ⟨u1q, rfl, hB⟩ := hB
  replace hB := bnd_some hB
  obtain ⟨h2q, eh2q, hB⟩ := hB
  refine r_sI f179_84 eh2q ?_
  refine r_iconst f179_85 ci_1 ?_
  exact r_iret pm_m_179 .int f179_86 rfl rfl rfl (zI hB)
theorem P_M_cell {d : Nat} {h h' : pm_H} {r : Int32} {t : Nat} {a1 : Int32} {a2 : Int32} {a3 : Int32} (hB : M_cell h t a1 a2 a3 = some (h', r)) : pm_ev (d + 2) 179 [.ref t, .int a1, .int a2, .int a3] h (some (.int r)) h' := by
  unfold M_cell at hB
  refine pm_ev_mk (L := [.ref t, .int a1, .int a2, .int a3]) pm_m_179 rfl (Nat.le_of_ble_eq_true rfl) rfl ?_
  refine r_iload_n f179_0 rfl ?_
  refine r_iconst f179_1 ci_0 ?_
  refine r_iconst f179_2 ci_3 ?_
  replace hB := bn2_some hB
  obtain ⟨h1q, x2q, eh1q, hB⟩ := hB
  refine r_statV (as := [.int a1, .int 0, .int 3]) (q := pm_m_109) f179_3 ca_6_79 rfl (by decide) rfl rfl (cs_len (Nat.le_of_ble_eq_true rfl)) (P_M_in (d := d + 0) eh1q) ?_
  by_cases c3q : x2q = 0
  · rw [if_pos c3q] at hB
    refine r_if_f 12 f179_6 (by decide) (fun q => q c3q) ?_
    refine r_bipush f179_9 cb_m2 ?_
    exact r_iret pm_m_179 .int f179_11 rfl rfl rfl (zI hB)
  · rw [if_neg c3q] at hB
    refine r_if_t (t := 12) f179_6 (by decide) c3q ?_
    refine r_aload_nN f179_12 rfl ?_
    replace hB := bnd_some hB
    obtain ⟨x4q, ex4q, hB⟩ := hB
    refine r_getA f179_13 fa_6_41 ex4q ?_
    refine r_iload_n f179_16 rfl ?_
    replace hB := bnd_some hB
    obtain ⟨u5q, rfl, hB⟩ := hB
    replace hB := bnd_some hB
    obtain ⟨x6q, ex6q, hB⟩ := hB
    refine r_aI f179_17 ex6q ?_
    refine r_iconst f179_18 ci_m1 ?_
    by_cases c7q : x6q = (-1)
    · rw [if_pos c7q] at hB
      refine r_ic_f 25 f179_19 (by decide) (fun q => q c7q) ?_
      refine r_bipush f179_22 cb_m11 ?_
      exact r_iret pm_m_179 .int f179_24 rfl rfl rfl (zI hB)
    · rw [if_neg c7q] at hB
      refine r_ic_t (t := 25) f179_19 (by decide) c7q ?_
      refine r_iload_n f179_25 rfl ?_
      refine r_iconst f179_26 ci_0 ?_
      refine r_aload_nN f179_27 rfl ?_
      replace hB := bnd_some hB
      obtain ⟨x8q, ex8q, hB⟩ := hB
      refine r_getA f179_28 fa_6_44 ex8q ?_
      refine r_iload_n f179_31 rfl ?_
      replace hB := bnd_some hB
      obtain ⟨u9q, rfl, hB⟩ := hB
      replace hB := bnd_some hB
      obtain ⟨x10q, ex10q, hB⟩ := hB
      refine r_aI f179_32 ex10q ?_
      refine r_iconst f179_33 ci_1 ?_
      refine r_isub f179_34 ?_
      replace hB := bn2_some hB
      obtain ⟨h11q, x12q, eh11q, hB⟩ := hB
      refine r_statV (as := [.int a2, .int 0, .int (x10q - 1)]) (q := pm_m_109) f179_35 ca_6_79 rfl (by decide) rfl rfl (cs_len (Nat.le_of_ble_eq_true rfl)) (P_M_in (d := d + 0) eh11q) ?_
      by_cases c13q : x12q = 0
      · rw [if_pos c13q] at hB
        refine r_if_f 44 f179_38 (by decide) (fun q => q c13q) ?_
        refine r_bipush f179_41 cb_m12 ?_
        exact r_iret pm_m_179 .int f179_43 rfl rfl rfl (zI hB)
      · rw [if_neg c13q] at hB
        refine r_if_t (t := 44) f179_38 (by decide) c13q ?_
        refine r_aload_nN f179_44 rfl ?_
        replace hB := bnd_some hB
        obtain ⟨x14q, ex14q, hB⟩ := hB
        refine r_getA f179_45 fa_6_47 ex14q ?_
        refine r_bipush f179_48 cb_40 ?_
        refine r_iload_n f179_50 rfl ?_
        refine r_imul f179_51 ?_
        refine r_iload_n f179_52 rfl ?_
        refine r_iadd f179_53 ?_
        refine r_aload_nN f179_54 rfl ?_
        replace hB := bnd_some hB
        obtain ⟨x15q, ex15q, hB⟩ := hB
        refine r_getA f179_55 fa_6_41 ex15q ?_
        refine r_iload_n f179_58 rfl ?_
        replace hB := bnd_some hB
        obtain ⟨u16q, rfl, hB⟩ := hB
        replace hB := bnd_some hB
        obtain ⟨x17q, ex17q, hB⟩ := hB
        refine r_aI f179_59 ex17q ?_
        by_cases c18q : x17q = 0
        · rw [if_pos c18q] at hB
          refine r_if_f 68 f179_60 (by decide) (fun q => q c18q) ?_
          refine r_iload_n f179_63 rfl ?_
          refine r_i2b f179_64 ?_
          refine r_goto (t := 84) f179_65 (by decide) ?_
          exact pm_weak (L' := [pm_J, pm_J, pm_J, pm_J]) ⟨.inl rfl, .inl rfl, .inl rfl, .inl rfl, trivial⟩ (P_M_cell_84 (d := d) h11q (Int8.toInt32 (Int32.toInt8 a3)) ((40 * a1) + a2) x14q hB)
        · rw [if_neg c18q] at hB
          refine r_if_t (t := 68) f179_60 (by decide) c18q ?_
          refine r_aload_nN f179_68 rfl ?_
          replace hB := bnd_some hB
          obtain ⟨x19q, ex19q, hB⟩ := hB
          refine r_getA f179_69 fa_6_41 ex19q ?_
          refine r_iload_n f179_72 rfl ?_
          replace hB := bnd_some hB
          obtain ⟨u20q, rfl, hB⟩ := hB
          replace hB := bnd_some hB
          obtain ⟨x21q, ex21q, hB⟩ := hB
          refine r_aI f179_73 ex21q ?_
          refine r_iconst f179_74 ci_1 ?_
          by_cases c22q : x21q = 1
          · rw [if_pos c22q] at hB
            refine r_ic_f 83 f179_75 (by decide) (fun q => q c22q) ?_
            refine r_iload_n f179_78 rfl ?_
            refine r_i2s f179_79 ?_
            refine r_goto (t := 84) f179_80 (by decide) ?_
            exact pm_weak (L' := [pm_J, pm_J, pm_J, pm_J]) ⟨.inl rfl, .inl rfl, .inl rfl, .inl rfl, trivial⟩ (P_M_cell_84 (d := d) h11q (Int16.toInt32 (Int32.toInt16 a3)) ((40 * a1) + a2) x14q hB)
          · rw [if_neg c22q] at hB
            refine r_ic_t (t := 83) f179_75 (by decide) c22q ?_
            refine r_iload_n f179_83 rfl ?_
            exact pm_weak (L' := [pm_J, pm_J, pm_J, pm_J]) ⟨.inl rfl, .inl rfl, .inl rfl, .inl rfl, trivial⟩ (P_M_cell_84 (d := d) h11q a3 ((40 * a1) + a2) x14q hB)
theorem P_M_copy_173 {d : Nat} {h' : pm_H} {r : Int32} (k_147 : pm_H → Nat → Int32 → Int32 → Int32 → Int32 → Option (pm_H × Int32)) (hk_147 : ∀ (h : pm_H) (l0 : Nat) (l5 : Int32) (l6 : Int32) (l7 : Int32) (l8 : Int32), k_147 h l0 l5 l6 l7 l8 = some (h', r) → pm_run (pm_ev (d + 1)) 180 147 [.ref l0, pm_J, pm_J, pm_J, pm_J, .int l5, .int l6, .int l7, .int l8, pm_J] [] h (fun r1 h1 => r1 = some (.int r) ∧ h1 = h')) (h : pm_H) (l0 : Nat) (l5 : Int32) (l6 : Int32) (l7 : Int32) (l8 : Int32) (s0 : Int32) (hB : M_copy_173 k_147 h l0 l5 l6 l7 l8 s0 = some (h', r)) : pm_run (pm_ev (d + 1)) 180 173 [.ref l0, pm_J, pm_J, pm_J, pm_J, .int l5, .int l6, .int l7, .int l8, pm_J] [.int s0] h (fun r1 h1 => r1 = some (.int r) ∧ h1 = h') := by
  unfold M_copy_173 at hB
  refine r_istore (L' := [.ref l0, pm_J, pm_J, pm_J, pm_J, .int l5, .int l6, .int l7, .int l8, .int s0]) (x := s0) f180_173 rfl (Nat.le_of_ble_eq_true rfl) rfl ?_
  refine r_aload_nN f180_175 rfl ?_
  replace hB := bnd_some hB
  obtain ⟨x1q, ex1q, hB⟩ := hB
  refine r_getA f180_176 fa_6_47 ex1q ?_
  refine r_iload f180_179 rfl ?_
  refine r_iload f180_181 rfl ?_
  refine r_iadd f180_183 ?_
  refine r_aload_nN f180_184 rfl ?_
  replace hB := bnd_some hB
  obtain ⟨x2q, ex2q, hB⟩ := hB
  refine r_getA f180_185 fa_6_47 ex2q ?_
  refine r_iload f180_188 rfl ?_
  refine r_iload f180_190 rfl ?_
  refine r_iadd f180_192 ?_
  replace hB := bnd_some hB
  obtain ⟨u3q, rfl, hB⟩ := hB
  replace hB := bnd_some hB
  obtain ⟨x4q, ex4q, hB⟩ := hB
  refine r_aI f180_193 ex4q ?_
  replace hB := bnd_some hB
  obtain ⟨u5q, rfl, hB⟩ := hB
  replace hB := bnd_some hB
  obtain ⟨h6q, eh6q, hB⟩ := hB
  refine r_sI f180_194 eh6q ?_
  obtain ⟨y7q, hy7q⟩ : ∃ z, z = l8 + 1 := ⟨_, rfl⟩
  replace hB := nmd_at hy7q hB
  refine r_iinc (L' := [.ref l0, pm_J, pm_J, pm_J, pm_J, .int l5, .int l6, .int l7, .int y7q, .int s0]) (x := y7q) f180_195 rfl (hy7q.trans (congrArg (l8 + ·) ci_1.symm)) rfl ?_
  refine r_goto (t := 147) f180_198 (by decide) ?_
  exact pm_weak (L' := [.ref l0, pm_J, pm_J, pm_J, pm_J, .int l5, .int l6, .int l7, .int y7q, pm_J]) ⟨.inr rfl, .inl rfl, .inl rfl, .inl rfl, .inl rfl, .inr rfl, .inr rfl, .inr rfl, .inr rfl, .inl rfl, trivial⟩ (hk_147 h6q l0 l5 l6 l7 y7q hB)
theorem P_M_copy_147 {d : Nat} {h' : pm_H} {r : Int32} (n : Nat) : ∀ (h : pm_H) (l0 : Nat) (l5 : Int32) (l6 : Int32) (l7 : Int32) (l8 : Int32), M_copy_147 n h l0 l5 l6 l7 l8 = some (h', r) → pm_run (pm_ev (d + 1)) 180 147 [.ref l0, pm_J, pm_J, pm_J, pm_J, .int l5, .int l6, .int l7, .int l8, pm_J] [] h (fun r1 h1 => r1 = some (.int r) ∧ h1 = h') := by
  induction n with
  | zero => intro h l0 l5 l6 l7 l8 hB; cases hB
  | succ n ih =>
    intro h l0 l5 l6 l7 l8 hB
    unfold M_copy_147 at hB
    refine r_iload f180_147 rfl ?_
    refine r_iload f180_149 rfl ?_
    by_cases c1q : l5 ≤ l8
    · rw [if_pos c1q] at hB
      refine r_ic_t (t := 201) f180_151 (by decide) c1q ?_
      refine r_iload f180_201 rfl ?_
      exact r_iret pm_m_180 .int f180_203 rfl rfl rfl (zI hB)
    · rw [if_neg c1q] at hB
      refine r_ic_f 201 f180_151 (by decide) c1q ?_
      refine r_iload f180_154 rfl ?_
      refine r_iload f180_156 rfl ?_
      by_cases c2q : l7 ≤ l6
      · rw [if_pos c2q] at hB
        refine r_ic_t (t := 171) f180_158 (by decide) c2q ?_
        refine r_iload f180_171 rfl ?_
        exact pm_weak (L' := [.ref l0, pm_J, pm_J, pm_J, pm_J, .int l5, .int l6, .int l7, .int l8, pm_J]) ⟨.inr rfl, .inl rfl, .inl rfl, .inl rfl, .inl rfl, .inr rfl, .inr rfl, .inr rfl, .inr rfl, .inl rfl, trivial⟩ (P_M_copy_173 (d := d) (M_copy_147 n) ih h l0 l5 l6 l7 l8 l8 hB)
      · rw [if_neg c2q] at hB
        refine r_ic_f 171 f180_158 (by decide) c2q ?_
        refine r_iload f180_161 rfl ?_
        refine r_iconst f180_163 ci_1 ?_
        refine r_isub f180_164 ?_
        refine r_iload f180_165 rfl ?_
        refine r_isub f180_167 ?_
        refine r_goto (t := 173) f180_168 (by decide) ?_
        exact pm_weak (L' := [.ref l0, pm_J, pm_J, pm_J, pm_J, .int l5, .int l6, .int l7, .int l8, pm_J]) ⟨.inr rfl, .inl rfl, .inl rfl, .inl rfl, .inl rfl, .inr rfl, .inr rfl, .inr rfl, .inr rfl, .inl rfl, trivial⟩ (P_M_copy_173 (d := d) (M_copy_147 n) ih h l0 l5 l6 l7 l8 ((l5 - 1) - l8) hB)
theorem P_M_copy {d : Nat} {h h' : pm_H} {r : Int32} {t : Nat} {a1 : Int32} {a2 : Int32} {a3 : Int32} {a4 : Int32} {a5 : Int32} (hB : M_copy h t a1 a2 a3 a4 a5 = some (h', r)) : pm_ev (d + 2) 180 [.ref t, .int a1, .int a2, .int a3, .int a4, .int a5] h (some (.int r)) h' := by
  unfold M_copy at hB
  refine pm_ev_mk (L := [.ref t, .int a1, .int a2, .int a3, .int a4, .int a5, pm_J, pm_J, pm_J, pm_J]) pm_m_180 rfl (Nat.le_of_ble_eq_true rfl) rfl ?_
  refine r_iload_n f180_0 rfl ?_
  refine r_iconst f180_1 ci_0 ?_
  refine r_iconst f180_2 ci_3 ?_
  replace hB := bn2_some hB
  obtain ⟨h1q, x2q, eh1q, hB⟩ := hB
  refine r_statV (as := [.int a1, .int 0, .int 3]) (q := pm_m_109) f180_3 ca_6_79 rfl (by decide) rfl rfl (cs_len (Nat.le_of_ble_eq_true rfl)) (P_M_in (d := d + 0) eh1q) ?_
  by_cases c3q : x2q = 0
  · rw [if_pos c3q] at hB
    refine r_if_t (t := 18) f180_6 (by decide) c3q ?_
    refine r_bipush f180_18 cb_m2 ?_
    exact r_iret pm_m_180 .int f180_20 rfl rfl rfl (zI hB)
  · rw [if_neg c3q] at hB
    refine r_if_f 18 f180_6 (by decide) c3q ?_
    refine r_iload_n f180_9 rfl ?_
    refine r_iconst f180_10 ci_0 ?_
    refine r_iconst f180_11 ci_3 ?_
    replace hB := bn2_some hB
    obtain ⟨h4q, x5q, eh4q, hB⟩ := hB
    refine r_statV (as := [.int a3, .int 0, .int 3]) (q := pm_m_109) f180_12 ca_6_79 rfl (by decide) rfl rfl (cs_len (Nat.le_of_ble_eq_true rfl)) (P_M_in (d := d + 0) eh4q) ?_
    by_cases c6q : x5q = 0
    · rw [if_pos c6q] at hB
      refine r_if_f 21 f180_15 (by decide) (fun q => q c6q) ?_
      refine r_bipush f180_18 cb_m2 ?_
      exact r_iret pm_m_180 .int f180_20 rfl rfl rfl (zI hB)
    · rw [if_neg c6q] at hB
      refine r_if_t (t := 21) f180_15 (by decide) c6q ?_
      refine r_aload_nN f180_21 rfl ?_
      replace hB := bnd_some hB
      obtain ⟨x7q, ex7q, hB⟩ := hB
      refine r_getA f180_22 fa_6_41 ex7q ?_
      refine r_iload_n f180_25 rfl ?_
      replace hB := bnd_some hB
      obtain ⟨u8q, rfl, hB⟩ := hB
      replace hB := bnd_some hB
      obtain ⟨x9q, ex9q, hB⟩ := hB
      refine r_aI f180_26 ex9q ?_
      refine r_iconst f180_27 ci_m1 ?_
      by_cases c10q : x9q = (-1)
      · rw [if_pos c10q] at hB
        refine r_ic_t (t := 41) f180_28 (by decide) c10q ?_
        refine r_bipush f180_41 cb_m11 ?_
        exact r_iret pm_m_180 .int f180_43 rfl rfl rfl (zI hB)
      · rw [if_neg c10q] at hB
        refine r_ic_f 41 f180_28 (by decide) c10q ?_
        refine r_aload_nN f180_31 rfl ?_
        replace hB := bnd_some hB
        obtain ⟨x11q, ex11q, hB⟩ := hB
        refine r_getA f180_32 fa_6_41 ex11q ?_
        refine r_iload_n f180_35 rfl ?_
        replace hB := bnd_some hB
        obtain ⟨u12q, rfl, hB⟩ := hB
        replace hB := bnd_some hB
        obtain ⟨x13q, ex13q, hB⟩ := hB
        refine r_aI f180_36 ex13q ?_
        refine r_iconst f180_37 ci_m1 ?_
        by_cases c14q : x13q = (-1)
        · rw [if_pos c14q] at hB
          refine r_ic_f 44 f180_38 (by decide) (fun q => q c14q) ?_
          refine r_bipush f180_41 cb_m11 ?_
          exact r_iret pm_m_180 .int f180_43 rfl rfl rfl (zI hB)
        · rw [if_neg c14q] at hB
          refine r_ic_t (t := 44) f180_38 (by decide) c14q ?_
          refine r_aload_nN f180_44 rfl ?_
          replace hB := bnd_some hB
          obtain ⟨x15q, ex15q, hB⟩ := hB
          refine r_getA f180_45 fa_6_41 ex15q ?_
          refine r_iload_n f180_48 rfl ?_
          replace hB := bnd_some hB
          obtain ⟨u16q, rfl, hB⟩ := hB
          replace hB := bnd_some hB
          obtain ⟨x17q, ex17q, hB⟩ := hB
          refine r_aI f180_49 ex17q ?_
          refine r_aload_nN f180_50 rfl ?_
          replace hB := bnd_some hB
          obtain ⟨x18q, ex18q, hB⟩ := hB
          refine r_getA f180_51 fa_6_41 ex18q ?_
          refine r_iload_n f180_54 rfl ?_
          replace hB := bnd_some hB
          obtain ⟨u19q, rfl, hB⟩ := hB
          replace hB := bnd_some hB
          obtain ⟨x20q, ex20q, hB⟩ := hB
          refine r_aI f180_55 ex20q ?_
          by_cases c21q : x17q = x20q
          · rw [if_pos c21q] at hB
            refine r_ic_t (t := 62) f180_56 (by decide) c21q ?_
            refine r_iload f180_62 rfl ?_
            by_cases c22q : a5 < 0
            · rw [if_pos c22q] at hB
              refine r_if_t (t := 124) f180_64 (by decide) c22q ?_
              refine r_bipush f180_124 cb_m12 ?_
              exact r_iret pm_m_180 .int f180_126 rfl rfl rfl (zI hB)
            · rw [if_neg c22q] at hB
              refine r_if_f 124 f180_64 (by decide) c22q ?_
              refine r_iload_n f180_67 rfl ?_
              by_cases c23q : a2 < 0
              · rw [if_pos c23q] at hB
                refine r_if_t (t := 124) f180_68 (by decide) c23q ?_
                refine r_bipush f180_124 cb_m12 ?_
                exact r_iret pm_m_180 .int f180_126 rfl rfl rfl (zI hB)
              · rw [if_neg c23q] at hB
                refine r_if_f 124 f180_68 (by decide) c23q ?_
                refine r_iload f180_71 rfl ?_
                by_cases c24q : a4 < 0
                · rw [if_pos c24q] at hB
                  refine r_if_t (t := 124) f180_73 (by decide) c24q ?_
                  refine r_bipush f180_124 cb_m12 ?_
                  exact r_iret pm_m_180 .int f180_126 rfl rfl rfl (zI hB)
                · rw [if_neg c24q] at hB
                  refine r_if_f 124 f180_73 (by decide) c24q ?_
                  refine r_iload_n f180_76 rfl ?_
                  refine r_aload_nN f180_77 rfl ?_
                  replace hB := bnd_some hB
                  obtain ⟨x25q, ex25q, hB⟩ := hB
                  refine r_getA f180_78 fa_6_44 ex25q ?_
                  refine r_iload_n f180_81 rfl ?_
                  replace hB := bnd_some hB
                  obtain ⟨u26q, rfl, hB⟩ := hB
                  replace hB := bnd_some hB
                  obtain ⟨x27q, ex27q, hB⟩ := hB
                  refine r_aI f180_82 ex27q ?_
                  by_cases c28q : x27q < a2
                  · rw [if_pos c28q] at hB
                    refine r_ic_t (t := 124) f180_83 (by decide) c28q ?_
                    refine r_bipush f180_124 cb_m12 ?_
                    exact r_iret pm_m_180 .int f180_126 rfl rfl rfl (zI hB)
                  · rw [if_neg c28q] at hB
                    refine r_ic_f 124 f180_83 (by decide) c28q ?_
                    refine r_iload f180_86 rfl ?_
                    refine r_aload_nN f180_88 rfl ?_
                    replace hB := bnd_some hB
                    obtain ⟨x29q, ex29q, hB⟩ := hB
                    refine r_getA f180_89 fa_6_44 ex29q ?_
                    refine r_iload_n f180_92 rfl ?_
                    replace hB := bnd_some hB
                    obtain ⟨u30q, rfl, hB⟩ := hB
                    replace hB := bnd_some hB
                    obtain ⟨x31q, ex31q, hB⟩ := hB
                    refine r_aI f180_93 ex31q ?_
                    by_cases c32q : x31q < a4
                    · rw [if_pos c32q] at hB
                      refine r_ic_t (t := 124) f180_94 (by decide) c32q ?_
                      refine r_bipush f180_124 cb_m12 ?_
                      exact r_iret pm_m_180 .int f180_126 rfl rfl rfl (zI hB)
                    · rw [if_neg c32q] at hB
                      refine r_ic_f 124 f180_94 (by decide) c32q ?_
                      refine r_iload f180_97 rfl ?_
                      refine r_aload_nN f180_99 rfl ?_
                      replace hB := bnd_some hB
                      obtain ⟨x33q, ex33q, hB⟩ := hB
                      refine r_getA f180_100 fa_6_44 ex33q ?_
                      refine r_iload_n f180_103 rfl ?_
                      replace hB := bnd_some hB
                      obtain ⟨u34q, rfl, hB⟩ := hB
                      replace hB := bnd_some hB
                      obtain ⟨x35q, ex35q, hB⟩ := hB
                      refine r_aI f180_104 ex35q ?_
                      refine r_iload_n f180_105 rfl ?_
                      refine r_isub f180_106 ?_
                      by_cases c36q : (x35q - a2) < a5
                      · rw [if_pos c36q] at hB
                        refine r_ic_t (t := 124) f180_107 (by decide) c36q ?_
                        refine r_bipush f180_124 cb_m12 ?_
                        exact r_iret pm_m_180 .int f180_126 rfl rfl rfl (zI hB)
                      · rw [if_neg c36q] at hB
                        refine r_ic_f 124 f180_107 (by decide) c36q ?_
                        refine r_iload f180_110 rfl ?_
                        refine r_aload_nN f180_112 rfl ?_
                        replace hB := bnd_some hB
                        obtain ⟨x37q, ex37q, hB⟩ := hB
                        refine r_getA f180_113 fa_6_44 ex37q ?_
                        refine r_iload_n f180_116 rfl ?_
                        replace hB := bnd_some hB
                        obtain ⟨u38q, rfl, hB⟩ := hB
                        replace hB := bnd_some hB
                        obtain ⟨x39q, ex39q, hB⟩ := hB
                        refine r_aI f180_117 ex39q ?_
                        refine r_iload f180_118 rfl ?_
                        refine r_isub f180_120 ?_
                        by_cases c40q : a5 ≤ (x39q - a4)
                        · rw [if_pos c40q] at hB
                          refine r_ic_t (t := 127) f180_121 (by decide) c40q ?_
                          refine r_bipush f180_127 cb_40 ?_
                          refine r_iload_n f180_129 rfl ?_
                          refine r_imul f180_130 ?_
                          refine r_iload_n f180_131 rfl ?_
                          refine r_iadd f180_132 ?_
                          obtain ⟨y41q, hy41q⟩ : ∃ z, z = ((40 * a1) + a2) := ⟨_, rfl⟩
                          replace hB := nmd_at hy41q hB
                          refine r_istore (L' := [.ref t, .int a1, .int a2, .int a3, .int a4, .int a5, .int y41q, pm_J, pm_J, pm_J]) (x := y41q) f180_133 hy41q (Nat.le_of_ble_eq_true rfl) rfl ?_
                          refine r_bipush f180_135 cb_40 ?_
                          refine r_iload_n f180_137 rfl ?_
                          refine r_imul f180_138 ?_
                          refine r_iload f180_139 rfl ?_
                          refine r_iadd f180_141 ?_
                          obtain ⟨y42q, hy42q⟩ : ∃ z, z = ((40 * a3) + a4) := ⟨_, rfl⟩
                          replace hB := nmd_at hy42q hB
                          refine r_istore (L' := [.ref t, .int a1, .int a2, .int a3, .int a4, .int a5, .int y41q, .int y42q, pm_J, pm_J]) (x := y42q) f180_142 hy42q (Nat.le_of_ble_eq_true rfl) rfl ?_
                          refine r_iconst f180_144 ci_0 ?_
                          refine r_istore (L' := [.ref t, .int a1, .int a2, .int a3, .int a4, .int a5, .int y41q, .int y42q, .int 0, pm_J]) (x := 0) f180_145 rfl (Nat.le_of_ble_eq_true rfl) rfl ?_
                          exact pm_weak (L' := [.ref t, pm_J, pm_J, pm_J, pm_J, .int a5, .int y41q, .int y42q, .int 0, pm_J]) ⟨.inr rfl, .inl rfl, .inl rfl, .inl rfl, .inl rfl, .inr rfl, .inr rfl, .inr rfl, .inr rfl, .inl rfl, trivial⟩ (P_M_copy_147 (d := d) 1000 h4q t a5 y41q y42q 0 hB)
                        · rw [if_neg c40q] at hB
                          refine r_ic_f 127 f180_121 (by decide) c40q ?_
                          refine r_bipush f180_124 cb_m12 ?_
                          exact r_iret pm_m_180 .int f180_126 rfl rfl rfl (zI hB)
          · rw [if_neg c21q] at hB
            refine r_ic_f 62 f180_56 (by decide) c21q ?_
            refine r_bipush f180_59 cb_m13 ?_
            exact r_iret pm_m_180 .int f180_61 rfl rfl rfl (zI hB)
theorem P_M_dunesBy_144 {d : Nat} {h' : pm_H} {r : Int32} (k_64 : pm_H → Nat → Int32 → Int32 → Int32 → Int32 → Int32 → Option (pm_H × Int32)) (hk_64 : ∀ (h : pm_H) (l0 : Nat) (l1 : Int32) (l3 : Int32) (l4 : Int32) (l5 : Int32) (l6 : Int32), k_64 h l0 l1 l3 l4 l5 l6 = some (h', r) → pm_run (pm_ev (d + 2)) 181 64 [.ref l0, .int l1, pm_J, .int l3, .int l4, .int l5, .int l6, pm_J, pm_J] [] h (fun r1 h1 => r1 = some (.int r) ∧ h1 = h')) (h : pm_H) (l0 : Nat) (l1 : Int32) (l3 : Int32) (l4 : Int32) (l6 : Int32) (s0 : Int32) (s1 : Int32) (hB : M_dunesBy_144 k_64 h l0 l1 l3 l4 l6 s0 s1 = some (h', r)) : pm_run (pm_ev (d + 2)) 181 144 [.ref l0, .int l1, pm_J, .int l3, .int l4, pm_J, .int l6, pm_J, pm_J] [.int s0, .int s1] h (fun r1 h1 => r1 = some (.int r) ∧ h1 = h') := by
  unfold M_dunesBy_144 at hB
  refine r_iadd f181_144 ?_
  obtain ⟨y1q, hy1q⟩ : ∃ z, z = (s1 + s0) := ⟨_, rfl⟩
  replace hB := nmd_at hy1q hB
  refine r_istore (L' := [.ref l0, .int l1, pm_J, .int l3, .int l4, .int y1q, .int l6, pm_J, pm_J]) (x := y1q) f181_145 hy1q (Nat.le_of_ble_eq_true rfl) rfl ?_
  obtain ⟨y2q, hy2q⟩ : ∃ z, z = l6 + 1 := ⟨_, rfl⟩
  replace hB := nmd_at hy2q hB
  refine r_iinc (L' := [.ref l0, .int l1, pm_J, .int l3, .int l4, .int y1q, .int y2q, pm_J, pm_J]) (x := y2q) f181_147 rfl (hy2q.trans (congrArg (l6 + ·) ci_1.symm)) rfl ?_
  refine r_goto (t := 64) f181_150 (by decide) ?_
  exact pm_weak (L' := [.ref l0, .int l1, pm_J, .int l3, .int l4, .int y1q, .int y2q, pm_J, pm_J]) ⟨.inr rfl, .inr rfl, .inl rfl, .inr rfl, .inr rfl, .inr rfl, .inr rfl, .inl rfl, .inl rfl, trivial⟩ (hk_64 h l0 l1 l3 l4 y1q y2q hB)
theorem P_M_dunesBy_64 {d : Nat} {h' : pm_H} {r : Int32} (n : Nat) : ∀ (h : pm_H) (l0 : Nat) (l1 : Int32) (l3 : Int32) (l4 : Int32) (l5 : Int32) (l6 : Int32), M_dunesBy_64 n h l0 l1 l3 l4 l5 l6 = some (h', r) → pm_run (pm_ev (d + 2)) 181 64 [.ref l0, .int l1, pm_J, .int l3, .int l4, .int l5, .int l6, pm_J, pm_J] [] h (fun r1 h1 => r1 = some (.int r) ∧ h1 = h') := by
  induction n with
  | zero => intro h l0 l1 l3 l4 l5 l6 hB; cases hB
  | succ n ih =>
    intro h l0 l1 l3 l4 l5 l6 hB
    unfold M_dunesBy_64 at hB
    refine r_iload f181_64 rfl ?_
    refine r_iload f181_66 rfl ?_
    by_cases c1q : l4 ≤ l6
    · rw [if_pos c1q] at hB
      refine r_ic_t (t := 153) f181_68 (by decide) c1q ?_
      refine r_iload f181_153 rfl ?_
      exact r_iret pm_m_181 .int f181_155 rfl rfl rfl (zI hB)
    · rw [if_neg c1q] at hB
      refine r_ic_f 153 f181_68 (by decide) c1q ?_
      refine r_iload_n f181_71 rfl ?_
      refine r_iconst f181_72 ci_2 ?_
      refine r_iload f181_73 rfl ?_
      refine r_imul f181_75 ?_
      refine r_iadd f181_76 ?_
      obtain ⟨y2q, hy2q⟩ : ∃ z, z = (l3 + (2 * l6)) := ⟨_, rfl⟩
      replace hB := nmd_at hy2q hB
      refine r_istore (L' := [.ref l0, .int l1, pm_J, .int l3, .int l4, .int l5, .int l6, .int y2q, pm_J]) (x := y2q) f181_77 hy2q (Nat.le_of_ble_eq_true rfl) rfl ?_
      refine r_iload_n f181_79 rfl ?_
      by_cases c3q : l3 < 0
      · rw [if_pos c3q] at hB
        refine r_if_t (t := 102) f181_80 (by decide) c3q ?_
        refine r_bipush f181_102 cb_m12 ?_
        exact r_iret pm_m_181 .int f181_104 rfl rfl rfl (zI hB)
      · rw [if_neg c3q] at hB
        refine r_if_f 102 f181_80 (by decide) c3q ?_
        refine r_iload f181_83 rfl ?_
        refine r_iload_n f181_85 rfl ?_
        by_cases c4q : y2q < l3
        · rw [if_pos c4q] at hB
          refine r_ic_t (t := 102) f181_86 (by decide) c4q ?_
          refine r_bipush f181_102 cb_m12 ?_
          exact r_iret pm_m_181 .int f181_104 rfl rfl rfl (zI hB)
        · rw [if_neg c4q] at hB
          refine r_ic_f 102 f181_86 (by decide) c4q ?_
          refine r_iload f181_89 rfl ?_
          refine r_aload_nN f181_91 rfl ?_
          replace hB := bnd_some hB
          obtain ⟨x5q, ex5q, hB⟩ := hB
          refine r_getA f181_92 fa_6_44 ex5q ?_
          refine r_iload_n f181_95 rfl ?_
          replace hB := bnd_some hB
          obtain ⟨u6q, rfl, hB⟩ := hB
          replace hB := bnd_some hB
          obtain ⟨x7q, ex7q, hB⟩ := hB
          refine r_aI f181_96 ex7q ?_
          refine r_iconst f181_97 ci_2 ?_
          refine r_isub f181_98 ?_
          by_cases c8q : y2q ≤ (x7q - 2)
          · rw [if_pos c8q] at hB
            refine r_ic_t (t := 105) f181_99 (by decide) c8q ?_
            refine r_bipush f181_105 cb_40 ?_
            refine r_iload_n f181_107 rfl ?_
            refine r_imul f181_108 ?_
            refine r_iload f181_109 rfl ?_
            refine r_iadd f181_111 ?_
            obtain ⟨y9q, hy9q⟩ : ∃ z, z = ((40 * l1) + y2q) := ⟨_, rfl⟩
            replace hB := nmd_at hy9q hB
            refine r_istore (L' := [.ref l0, .int l1, pm_J, .int l3, .int l4, .int l5, .int l6, .int y2q, .int y9q]) (x := y9q) f181_112 hy9q (Nat.le_of_ble_eq_true rfl) rfl ?_
            refine r_iload f181_114 rfl ?_
            refine r_aload_nN f181_116 rfl ?_
            refine r_aload_nN f181_117 rfl ?_
            replace hB := bnd_some hB
            obtain ⟨x10q, ex10q, hB⟩ := hB
            refine r_getA f181_118 fa_6_47 ex10q ?_
            refine r_iload f181_121 rfl ?_
            replace hB := bnd_some hB
            obtain ⟨u11q, rfl, hB⟩ := hB
            replace hB := bnd_some hB
            obtain ⟨x12q, ex12q, hB⟩ := hB
            refine r_aI f181_123 ex12q ?_
            refine r_aload_nN f181_124 rfl ?_
            replace hB := bnd_some hB
            obtain ⟨x13q, ex13q, hB⟩ := hB
            refine r_getA f181_125 fa_6_47 ex13q ?_
            refine r_iload f181_128 rfl ?_
            refine r_iconst f181_130 ci_1 ?_
            refine r_iadd f181_131 ?_
            replace hB := bnd_some hB
            obtain ⟨u14q, rfl, hB⟩ := hB
            replace hB := bnd_some hB
            obtain ⟨x15q, ex15q, hB⟩ := hB
            refine r_aI f181_132 ex15q ?_
            replace hB := grd_some hB
            obtain ⟨g18q, hB⟩ := hB
            replace hB := bn2_some hB
            obtain ⟨h16q, x17q, eh16q, hB⟩ := hB
            refine r_virtV (as := [.int x12q, .int x15q]) (q := pm_m_139) f181_133 ca_6_269 rfl rfl rfl (cs_len (Nat.le_of_ble_eq_true rfl)) g18q (P_M_dune (d := d + 0) eh16q) ?_
            by_cases c19q : x17q < 0
            · rw [if_pos c19q] at hB
              refine r_if_t (t := 143) f181_136 (by decide) c19q ?_
              refine r_iconst f181_143 ci_0 ?_
              exact pm_weak (L' := [.ref l0, .int l1, pm_J, .int l3, .int l4, pm_J, .int l6, pm_J, pm_J]) ⟨.inr rfl, .inr rfl, .inl rfl, .inr rfl, .inr rfl, .inl rfl, .inr rfl, .inl rfl, .inl rfl, trivial⟩ (P_M_dunesBy_144 (d := d) (M_dunesBy_64 n) ih h16q l0 l1 l3 l4 l6 0 l5 hB)
            · rw [if_neg c19q] at hB
              refine r_if_f 143 f181_136 (by decide) c19q ?_
              refine r_iconst f181_139 ci_1 ?_
              refine r_goto (t := 144) f181_140 (by decide) ?_
              exact pm_weak (L' := [.ref l0, .int l1, pm_J, .int l3, .int l4, pm_J, .int l6, pm_J, pm_J]) ⟨.inr rfl, .inr rfl, .inl rfl, .inr rfl, .inr rfl, .inl rfl, .inr rfl, .inl rfl, .inl rfl, trivial⟩ (P_M_dunesBy_144 (d := d) (M_dunesBy_64 n) ih h16q l0 l1 l3 l4 l6 1 l5 hB)
          · rw [if_neg c8q] at hB
            refine r_ic_f 105 f181_99 (by decide) c8q ?_
            refine r_bipush f181_102 cb_m12 ?_
            exact r_iret pm_m_181 .int f181_104 rfl rfl rfl (zI hB)
theorem P_M_dunesBy {d : Nat} {h h' : pm_H} {r : Int32} {t : Nat} {a1 : Int32} {a2 : Int32} {a3 : Int32} {a4 : Int32} (hB : M_dunesBy h t a1 a2 a3 a4 = some (h', r)) : pm_ev (d + 3) 181 [.ref t, .int a1, .int a2, .int a3, .int a4] h (some (.int r)) h' := by
  unfold M_dunesBy at hB
  refine pm_ev_mk (L := [.ref t, .int a1, .int a2, .int a3, .int a4, pm_J, pm_J, pm_J, pm_J]) pm_m_181 rfl (Nat.le_of_ble_eq_true rfl) rfl ?_
  refine r_iload_n f181_0 rfl ?_
  refine r_iconst f181_1 ci_0 ?_
  refine r_iconst f181_2 ci_3 ?_
  replace hB := bn2_some hB
  obtain ⟨h1q, x2q, eh1q, hB⟩ := hB
  refine r_statV (as := [.int a1, .int 0, .int 3]) (q := pm_m_109) f181_3 ca_6_79 rfl (by decide) rfl rfl (cs_len (Nat.le_of_ble_eq_true rfl)) (P_M_in (d := d + 1) eh1q) ?_
  by_cases c3q : x2q = 0
  · rw [if_pos c3q] at hB
    refine r_if_t (t := 29) f181_6 (by decide) c3q ?_
    refine r_bipush f181_29 cb_m2 ?_
    exact r_iret pm_m_181 .int f181_31 rfl rfl rfl (zI hB)
  · rw [if_neg c3q] at hB
    refine r_if_f 29 f181_6 (by decide) c3q ?_
    refine r_iload_n f181_9 rfl ?_
    refine r_iconst f181_10 ci_0 ?_
    refine r_iconst f181_11 ci_2 ?_
    replace hB := bn2_some hB
    obtain ⟨h4q, x5q, eh4q, hB⟩ := hB
    refine r_statV (as := [.int a2, .int 0, .int 2]) (q := pm_m_109) f181_12 ca_6_79 rfl (by decide) rfl rfl (cs_len (Nat.le_of_ble_eq_true rfl)) (P_M_in (d := d + 1) eh4q) ?_
    by_cases c6q : x5q = 0
    · rw [if_pos c6q] at hB
      refine r_if_t (t := 29) f181_15 (by decide) c6q ?_
      refine r_bipush f181_29 cb_m2 ?_
      exact r_iret pm_m_181 .int f181_31 rfl rfl rfl (zI hB)
    · rw [if_neg c6q] at hB
      refine r_if_f 29 f181_15 (by decide) c6q ?_
      refine r_iload f181_18 rfl ?_
      refine r_iconst f181_20 ci_0 ?_
      refine r_bipush f181_21 cb_6 ?_
      replace hB := bn2_some hB
      obtain ⟨h7q, x8q, eh7q, hB⟩ := hB
      refine r_statV (as := [.int a4, .int 0, .int 6]) (q := pm_m_109) f181_23 ca_6_79 rfl (by decide) rfl rfl (cs_len (Nat.le_of_ble_eq_true rfl)) (P_M_in (d := d + 1) eh7q) ?_
      by_cases c9q : x8q = 0
      · rw [if_pos c9q] at hB
        refine r_if_f 32 f181_26 (by decide) (fun q => q c9q) ?_
        refine r_bipush f181_29 cb_m2 ?_
        exact r_iret pm_m_181 .int f181_31 rfl rfl rfl (zI hB)
      · rw [if_neg c9q] at hB
        refine r_if_t (t := 32) f181_26 (by decide) c9q ?_
        refine r_aload_nN f181_32 rfl ?_
        replace hB := bnd_some hB
        obtain ⟨x10q, ex10q, hB⟩ := hB
        refine r_getA f181_33 fa_6_41 ex10q ?_
        refine r_iload_n f181_36 rfl ?_
        replace hB := bnd_some hB
        obtain ⟨u11q, rfl, hB⟩ := hB
        replace hB := bnd_some hB
        obtain ⟨x12q, ex12q, hB⟩ := hB
        refine r_aI f181_37 ex12q ?_
        refine r_iconst f181_38 ci_m1 ?_
        by_cases c13q : x12q = (-1)
        · rw [if_pos c13q] at hB
          refine r_ic_f 45 f181_39 (by decide) (fun q => q c13q) ?_
          refine r_bipush f181_42 cb_m11 ?_
          exact r_iret pm_m_181 .int f181_44 rfl rfl rfl (zI hB)
        · rw [if_neg c13q] at hB
          refine r_ic_t (t := 45) f181_39 (by decide) c13q ?_
          refine r_aload_nN f181_45 rfl ?_
          replace hB := bnd_some hB
          obtain ⟨x14q, ex14q, hB⟩ := hB
          refine r_getA f181_46 fa_6_41 ex14q ?_
          refine r_iload_n f181_49 rfl ?_
          replace hB := bnd_some hB
          obtain ⟨u15q, rfl, hB⟩ := hB
          replace hB := bnd_some hB
          obtain ⟨x16q, ex16q, hB⟩ := hB
          refine r_aI f181_50 ex16q ?_
          refine r_iload_n f181_51 rfl ?_
          by_cases c17q : x16q = a2
          · rw [if_pos c17q] at hB
            refine r_ic_t (t := 58) f181_52 (by decide) c17q ?_
            refine r_iconst f181_58 ci_0 ?_
            refine r_istore (L' := [.ref t, .int a1, .int a2, .int a3, .int a4, .int 0, pm_J, pm_J, pm_J]) (x := 0) f181_59 rfl (Nat.le_of_ble_eq_true rfl) rfl ?_
            refine r_iconst f181_61 ci_0 ?_
            refine r_istore (L' := [.ref t, .int a1, .int a2, .int a3, .int a4, .int 0, .int 0, pm_J, pm_J]) (x := 0) f181_62 rfl (Nat.le_of_ble_eq_true rfl) rfl ?_
            exact pm_weak (L' := [.ref t, .int a1, pm_J, .int a3, .int a4, .int 0, .int 0, pm_J, pm_J]) ⟨.inr rfl, .inr rfl, .inl rfl, .inr rfl, .inr rfl, .inr rfl, .inr rfl, .inl rfl, .inl rfl, trivial⟩ (P_M_dunesBy_64 (d := d) 1000 h7q t a1 a3 a4 0 0 hB)
          · rw [if_neg c17q] at hB
            refine r_ic_f 58 f181_52 (by decide) c17q ?_
            refine r_bipush f181_55 cb_m13 ?_
            exact r_iret pm_m_181 .int f181_57 rfl rfl rfl (zI hB)
theorem P_M_isUnder_29 {d : Nat} {h' : pm_H} {r : Int32} (h : pm_H) (hB : M_isUnder_29 h = some (h', r)) : pm_run (pm_ev (d + 0)) 182 29 [pm_J, pm_J] [] h (fun r1 h1 => r1 = some (.int r) ∧ h1 = h') := by
  unfold M_isUnder_29 at hB
  refine r_iconst f182_29 ci_1 ?_
  refine r_goto (t := 34) f182_30 (by decide) ?_
  exact r_iret pm_m_182 .boolean f182_34 rfl rfl (bool_n (by decide)) (zI hB)
theorem P_M_isUnder_19 {d : Nat} {h' : pm_H} {r : Int32} (h : pm_H) (l0 : Int32) (l1 : Int32) (hB : M_isUnder_19 h l0 l1 = some (h', r)) : pm_run (pm_ev (d + 0)) 182 19 [.int l0, .int l1] [] h (fun r1 h1 => r1 = some (.int r) ∧ h1 = h') := by
  unfold M_isUnder_19 at hB
  refine r_iload_n f182_19 rfl ?_
  refine r_iconst f182_20 ci_2 ?_
  by_cases c1q : l1 = 2
  · rw [if_pos c1q] at hB
    refine r_ic_f 33 f182_21 (by decide) (fun q => q c1q) ?_
    refine r_iload_n f182_24 rfl ?_
    refine r_iconst f182_25 ci_4 ?_
    by_cases c2q : l0 = 4
    · rw [if_pos c2q] at hB
      refine r_ic_f 33 f182_26 (by decide) (fun q => q c2q) ?_
      exact pm_weak (L' := [pm_J, pm_J]) ⟨.inl rfl, .inl rfl, trivial⟩ (P_M_isUnder_29 (d := d) h hB)
    · rw [if_neg c2q] at hB
      refine r_ic_t (t := 33) f182_26 (by decide) c2q ?_
      refine r_iconst f182_33 ci_0 ?_
      exact r_iret pm_m_182 .boolean f182_34 rfl rfl (bool_n (by decide)) (zI hB)
  · rw [if_neg c1q] at hB
    refine r_ic_t (t := 33) f182_21 (by decide) c1q ?_
    refine r_iconst f182_33 ci_0 ?_
    exact r_iret pm_m_182 .boolean f182_34 rfl rfl (bool_n (by decide)) (zI hB)
theorem P_M_isUnder {d : Nat} {h h' : pm_H} {r : Int32} {a0 : Int32} {a1 : Int32} (hB : M_isUnder h a0 a1 = some (h', r)) : pm_ev (d + 1) 182 [.int a0, .int a1] h (some (.int r)) h' := by
  unfold M_isUnder at hB
  refine pm_ev_mk (L := [.int a0, .int a1]) pm_m_182 rfl (Nat.le_of_ble_eq_true rfl) rfl ?_
  refine r_iload_n f182_0 rfl ?_
  by_cases c1q : a1 = 0
  · rw [if_pos c1q] at hB
    refine r_if_t (t := 29) f182_1 (by decide) c1q ?_
    exact pm_weak (L' := [pm_J, pm_J]) ⟨.inl rfl, .inl rfl, trivial⟩ (P_M_isUnder_29 (d := d) h hB)
  · rw [if_neg c1q] at hB
    refine r_if_f 29 f182_1 (by decide) c1q ?_
    refine r_iload_n f182_4 rfl ?_
    refine r_iload_n f182_5 rfl ?_
    by_cases c2q : a0 = a1
    · rw [if_pos c2q] at hB
      refine r_ic_t (t := 29) f182_6 (by decide) c2q ?_
      exact pm_weak (L' := [pm_J, pm_J]) ⟨.inl rfl, .inl rfl, trivial⟩ (P_M_isUnder_29 (d := d) h hB)
    · rw [if_neg c2q] at hB
      refine r_ic_f 29 f182_6 (by decide) c2q ?_
      refine r_iload_n f182_9 rfl ?_
      refine r_iconst f182_10 ci_1 ?_
      by_cases c3q : a1 = 1
      · rw [if_pos c3q] at hB
        refine r_ic_f 19 f182_11 (by decide) (fun q => q c3q) ?_
        refine r_iload_n f182_14 rfl ?_
        refine r_iconst f182_15 ci_3 ?_
        by_cases c4q : a0 = 3
        · rw [if_pos c4q] at hB
          refine r_ic_t (t := 29) f182_16 (by decide) c4q ?_
          exact pm_weak (L' := [pm_J, pm_J]) ⟨.inl rfl, .inl rfl, trivial⟩ (P_M_isUnder_29 (d := d) h hB)
        · rw [if_neg c4q] at hB
          refine r_ic_f 29 f182_16 (by decide) c4q ?_
          exact pm_weak (L' := [.int a0, .int a1]) ⟨.inr rfl, .inr rfl, trivial⟩ (P_M_isUnder_19 (d := d) h a0 a1 hB)
      · rw [if_neg c3q] at hB
        refine r_ic_t (t := 19) f182_11 (by decide) c3q ?_
        exact pm_weak (L' := [.int a0, .int a1]) ⟨.inr rfl, .inr rfl, trivial⟩ (P_M_isUnder_19 (d := d) h a0 a1 hB)
theorem P_M_taken {d : Nat} {h h' : pm_H} {r : Int32} {t : Nat} {a1 : Int32} {a2 : Int32} (hB : M_taken h t a1 a2 = some (h', r)) : pm_ev (d + 2) 183 [.ref t, .int a1, .int a2] h (some (.int r)) h' := by
  unfold M_taken at hB
  refine pm_ev_mk (L := [.ref t, .int a1, .int a2]) pm_m_183 rfl (Nat.le_of_ble_eq_true rfl) rfl ?_
  refine r_iload_n f183_0 rfl ?_
  refine r_iconst f183_1 ci_0 ?_
  refine r_bipush f183_2 cb_6 ?_
  replace hB := bn2_some hB
  obtain ⟨h1q, x2q, eh1q, hB⟩ := hB
  refine r_statV (as := [.int a2, .int 0, .int 6]) (q := pm_m_109) f183_4 ca_6_79 rfl (by decide) rfl rfl (cs_len (Nat.le_of_ble_eq_true rfl)) (P_M_in (d := d + 0) eh1q) ?_
  by_cases c3q : x2q = 0
  · rw [if_pos c3q] at hB
    refine r_if_f 13 f183_7 (by decide) (fun q => q c3q) ?_
    refine r_bipush f183_10 cb_m2 ?_
    exact r_iret pm_m_183 .int f183_12 rfl rfl rfl (zI hB)
  · rw [if_neg c3q] at hB
    refine r_if_t (t := 13) f183_7 (by decide) c3q ?_
    refine r_iload_n f183_13 rfl ?_
    refine r_iconst f183_14 ci_0 ?_
    refine r_bipush f183_15 cb_11 ?_
    replace hB := bn2_some hB
    obtain ⟨h4q, x5q, eh4q, hB⟩ := hB
    refine r_statV (as := [.int a1, .int 0, .int 11]) (q := pm_m_109) f183_17 ca_6_79 rfl (by decide) rfl rfl (cs_len (Nat.le_of_ble_eq_true rfl)) (P_M_in (d := d + 0) eh4q) ?_
    by_cases c6q : x5q = 0
    · rw [if_pos c6q] at hB
      refine r_if_f 26 f183_20 (by decide) (fun q => q c6q) ?_
      refine r_bipush f183_23 cb_m12 ?_
      exact r_iret pm_m_183 .int f183_25 rfl rfl rfl (zI hB)
    · rw [if_neg c6q] at hB
      refine r_if_t (t := 26) f183_20 (by decide) c6q ?_
      refine r_iload_n f183_26 rfl ?_
      refine r_bipush f183_27 cb_6 ?_
      refine r_irem f183_29 nz_i_6 ?_
      refine r_aload_nN f183_30 rfl ?_
      replace hB := bnd_some hB
      obtain ⟨x7q, ex7q, hB⟩ := hB
      refine r_getI f183_31 fa_6_83 ex7q ?_
      by_cases c8q : (a1 - a1 / 6 * 6) < x7q
      · rw [if_pos c8q] at hB
        refine r_ic_t (t := 40) f183_34 (by decide) c8q ?_
        refine r_iload_n f183_40 rfl ?_
        refine r_bipush f183_41 cb_6 ?_
        by_cases c9q : a1 < 6
        · rw [if_pos c9q] at hB
          refine r_ic_t (t := 71) f183_43 (by decide) c9q ?_
          refine r_iload_n f183_71 rfl ?_
          refine r_bipush f183_72 cb_6 ?_
          by_cases c10q : 6 ≤ a2
          · rw [if_pos c10q] at hB
            refine r_ic_t (t := 94) f183_74 (by decide) c10q ?_
            refine r_bipush f183_94 cb_m13 ?_
            exact r_iret pm_m_183 .int f183_96 rfl rfl rfl (zI hB)
          · rw [if_neg c10q] at hB
            refine r_ic_f 94 f183_74 (by decide) c10q ?_
            refine r_aload_nN f183_77 rfl ?_
            replace hB := bnd_some hB
            obtain ⟨x11q, ex11q, hB⟩ := hB
            refine r_getA f183_78 fa_6_7 ex11q ?_
            refine r_iload_n f183_81 rfl ?_
            replace hB := bnd_some hB
            obtain ⟨u12q, rfl, hB⟩ := hB
            replace hB := bnd_some hB
            obtain ⟨x13q, ex13q, hB⟩ := hB
            refine r_aI f183_82 ex13q ?_
            refine r_iload_n f183_83 rfl ?_
            replace hB := bn2_some hB
            obtain ⟨h14q, x15q, eh14q, hB⟩ := hB
            refine r_statV (as := [.int x13q, .int a2]) (q := pm_m_182) f183_84 ca_6_272 rfl (by decide) rfl rfl (cs_len (Nat.le_of_ble_eq_true rfl)) (P_M_isUnder (d := d + 0) eh14q) ?_
            by_cases c16q : x15q = 0
            · rw [if_pos c16q] at hB
              refine r_if_t (t := 94) f183_87 (by decide) c16q ?_
              refine r_bipush f183_94 cb_m13 ?_
              exact r_iret pm_m_183 .int f183_96 rfl rfl rfl (zI hB)
            · rw [if_neg c16q] at hB
              refine r_if_f 94 f183_87 (by decide) c16q ?_
              refine r_iload_n f183_90 rfl ?_
              refine r_goto (t := 96) f183_91 (by decide) ?_
              exact r_iret pm_m_183 .int f183_96 rfl rfl rfl (zI hB)
        · rw [if_neg c9q] at hB
          refine r_ic_f 71 f183_43 (by decide) c9q ?_
          refine r_iload_n f183_46 rfl ?_
          refine r_bipush f183_47 cb_6 ?_
          by_cases c17q : a2 = 6
          · rw [if_pos c17q] at hB
            refine r_ic_f 68 f183_49 (by decide) (fun q => q c17q) ?_
            refine r_aload_nN f183_52 rfl ?_
            replace hB := bnd_some hB
            obtain ⟨x18q, ex18q, hB⟩ := hB
            refine r_getA f183_53 fa_6_16 ex18q ?_
            refine r_iconst f183_56 ci_3 ?_
            refine r_iload_n f183_57 rfl ?_
            refine r_bipush f183_58 cb_6 ?_
            refine r_isub f183_60 ?_
            refine r_imul f183_61 ?_
            refine r_iconst f183_62 ci_2 ?_
            refine r_iadd f183_63 ?_
            replace hB := bnd_some hB
            obtain ⟨u19q, rfl, hB⟩ := hB
            replace hB := bnd_some hB
            obtain ⟨x20q, ex20q, hB⟩ := hB
            refine r_aI f183_64 ex20q ?_
            refine r_goto (t := 70) f183_65 (by decide) ?_
            exact r_iret pm_m_183 .int f183_70 rfl rfl rfl (zI hB)
          · rw [if_neg c17q] at hB
            refine r_ic_t (t := 68) f183_49 (by decide) c17q ?_
            refine r_bipush f183_68 cb_m13 ?_
            exact r_iret pm_m_183 .int f183_70 rfl rfl rfl (zI hB)
      · rw [if_neg c8q] at hB
        refine r_ic_f 40 f183_34 (by decide) c8q ?_
        refine r_bipush f183_37 cb_m11 ?_
        exact r_iret pm_m_183 .int f183_39 rfl rfl rfl (zI hB)
