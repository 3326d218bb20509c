theorem f51_0 : pm_fetch 51 0 = some (.iload_n 1, 1) := rfl
theorem f51_1 : pm_fetch 51 1 = some (.ifCond .lt 33, 3) := rfl
theorem f51_4 : pm_fetch 51 4 = some (.iload_n 1, 1) := rfl
theorem f51_5 : pm_fetch 51 5 = some (.aload_n 0, 1) := rfl
theorem f51_6 : pm_fetch 51 6 = some (.getfield 19, 3) := rfl
theorem f51_9 : pm_fetch 51 9 = some (.if_icmp .ge 25, 3) := rfl
theorem f51_12 : pm_fetch 51 12 = some (.iload_n 1, 1) := rfl
theorem f51_13 : pm_fetch 51 13 = some (.aload_n 0, 1) := rfl
theorem f51_14 : pm_fetch 51 14 = some (.getfield 9, 3) := rfl
theorem f51_17 : pm_fetch 51 17 = some (.arraylength, 1) := rfl
theorem f51_18 : pm_fetch 51 18 = some (.if_icmp .ge 16, 3) := rfl
theorem f51_21 : pm_fetch 51 21 = some (.aload_n 0, 1) := rfl
theorem f51_22 : pm_fetch 51 22 = some (.getfield 9, 3) := rfl
theorem f51_25 : pm_fetch 51 25 = some (.iload_n 1, 1) := rfl
theorem f51_26 : pm_fetch 51 26 = some (.baload, 1) := rfl
theorem f51_27 : pm_fetch 51 27 = some (.sipush 255, 3) := rfl
theorem f51_30 : pm_fetch 51 30 = some (.iand, 1) := rfl
theorem f51_31 : pm_fetch 51 31 = some (.goto 4, 3) := rfl
theorem f51_34 : pm_fetch 51 34 = some (.iconst (-1), 1) := rfl
theorem f51_35 : pm_fetch 51 35 = some (.ireturn, 1) := rfl
theorem f52_0 : pm_fetch 52 0 = some (.iload_n 0, 1) := rfl
theorem f52_1 : pm_fetch 52 1 = some (.bipush 32, 2) := rfl
theorem f52_3 : pm_fetch 52 3 = some (.if_icmp .eq 9, 3) := rfl
theorem f52_6 : pm_fetch 52 6 = some (.iload_n 0, 1) := rfl
theorem f52_7 : pm_fetch 52 7 = some (.bipush 10, 2) := rfl
theorem f52_9 : pm_fetch 52 9 = some (.if_icmp .ne 7, 3) := rfl
theorem f52_12 : pm_fetch 52 12 = some (.iconst 1, 1) := rfl
theorem f52_13 : pm_fetch 52 13 = some (.goto 4, 3) := rfl
theorem f52_16 : pm_fetch 52 16 = some (.iconst 0, 1) := rfl
theorem f52_17 : pm_fetch 52 17 = some (.ireturn, 1) := rfl
theorem f53_0 : pm_fetch 53 0 = some (.iload_n 0, 1) := rfl
theorem f53_1 : pm_fetch 53 1 = some (.bipush 48, 2) := rfl
theorem f53_3 : pm_fetch 53 3 = some (.if_icmp .lt 13, 3) := rfl
theorem f53_6 : pm_fetch 53 6 = some (.iload_n 0, 1) := rfl
theorem f53_7 : pm_fetch 53 7 = some (.bipush 57, 2) := rfl
theorem f53_9 : pm_fetch 53 9 = some (.if_icmp .gt 7, 3) := rfl
theorem f53_12 : pm_fetch 53 12 = some (.iconst 1, 1) := rfl
theorem f53_13 : pm_fetch 53 13 = some (.goto 4, 3) := rfl
theorem f53_16 : pm_fetch 53 16 = some (.iconst 0, 1) := rfl
theorem f53_17 : pm_fetch 53 17 = some (.ireturn, 1) := rfl
theorem f54_0 : pm_fetch 54 0 = some (.iload_n 0, 1) := rfl
theorem f54_1 : pm_fetch 54 1 = some (.bipush 97, 2) := rfl
theorem f54_3 : pm_fetch 54 3 = some (.if_icmp .lt 13, 3) := rfl
theorem f54_6 : pm_fetch 54 6 = some (.iload_n 0, 1) := rfl
theorem f54_7 : pm_fetch 54 7 = some (.bipush 122, 2) := rfl
theorem f54_9 : pm_fetch 54 9 = some (.if_icmp .gt 7, 3) := rfl
theorem f54_12 : pm_fetch 54 12 = some (.iconst 1, 1) := rfl
theorem f54_13 : pm_fetch 54 13 = some (.goto 4, 3) := rfl
theorem f54_16 : pm_fetch 54 16 = some (.iconst 0, 1) := rfl
theorem f54_17 : pm_fetch 54 17 = some (.ireturn, 1) := rfl
theorem f47_0 : pm_fetch 47 0 = some (.iconst 0, 1) := rfl
theorem f47_1 : pm_fetch 47 1 = some (.istore_n 1, 1) := rfl
theorem f47_2 : pm_fetch 47 2 = some (.aload_n 0, 1) := rfl
theorem f47_3 : pm_fetch 47 3 = some (.getfield 29, 3) := rfl
theorem f47_6 : pm_fetch 47 6 = some (.aload_n 0, 1) := rfl
theorem f47_7 : pm_fetch 47 7 = some (.getfield 19, 3) := rfl
theorem f47_10 : pm_fetch 47 10 = some (.if_icmp .ge 47, 3) := rfl
theorem f47_13 : pm_fetch 47 13 = some (.aload_n 0, 1) := rfl
theorem f47_14 : pm_fetch 47 14 = some (.aload_n 0, 1) := rfl
theorem f47_15 : pm_fetch 47 15 = some (.getfield 29, 3) := rfl
theorem f47_18 : pm_fetch 47 18 = some (.invokevirtual 83, 3) := rfl
theorem f47_21 : pm_fetch 47 21 = some (.invokestatic 91, 3) := rfl
theorem f47_24 : pm_fetch 47 24 = some (.ifCond .eq 33, 3) := rfl
theorem f47_27 : pm_fetch 47 27 = some (.iload_n 1, 1) := rfl
theorem f47_28 : pm_fetch 47 28 = some (.bipush 10, 2) := rfl
theorem f47_30 : pm_fetch 47 30 = some (.imul, 1) := rfl
theorem f47_31 : pm_fetch 47 31 = some (.aload_n 0, 1) := rfl
theorem f47_32 : pm_fetch 47 32 = some (.aload_n 0, 1) := rfl
theorem f47_33 : pm_fetch 47 33 = some (.getfield 29, 3) := rfl
theorem f47_36 : pm_fetch 47 36 = some (.invokevirtual 83, 3) := rfl
theorem f47_39 : pm_fetch 47 39 = some (.iadd, 1) := rfl
theorem f47_40 : pm_fetch 47 40 = some (.bipush 48, 2) := rfl
theorem f47_42 : pm_fetch 47 42 = some (.isub, 1) := rfl
theorem f47_43 : pm_fetch 47 43 = some (.istore_n 1, 1) := rfl
theorem f47_44 : pm_fetch 47 44 = some (.aload_n 0, 1) := rfl
theorem f47_45 : pm_fetch 47 45 = some (.dup, 1) := rfl
theorem f47_46 : pm_fetch 47 46 = some (.getfield 29, 3) := rfl
theorem f47_49 : pm_fetch 47 49 = some (.iconst 1, 1) := rfl
theorem f47_50 : pm_fetch 47 50 = some (.iadd, 1) := rfl
theorem f47_51 : pm_fetch 47 51 = some (.putfield 29, 3) := rfl
theorem f47_54 : pm_fetch 47 54 = some (.goto (-52), 3) := rfl
theorem f47_57 : pm_fetch 47 57 = some (.aload_n 0, 1) := rfl
theorem f47_58 : pm_fetch 47 58 = some (.aload_n 0, 1) := rfl
theorem f47_59 : pm_fetch 47 59 = some (.getfield 29, 3) := rfl
theorem f47_62 : pm_fetch 47 62 = some (.aload_n 0, 1) := rfl
theorem f47_63 : pm_fetch 47 63 = some (.getfield 80, 3) := rfl
theorem f47_66 : pm_fetch 47 66 = some (.isub, 1) := rfl
theorem f47_67 : pm_fetch 47 67 = some (.iconst 4, 1) := rfl
theorem f47_68 : pm_fetch 47 68 = some (.if_icmp .le 9, 3) := rfl
theorem f47_71 : pm_fetch 47 71 = some (.sipush 10022, 3) := rfl
theorem f47_74 : pm_fetch 47 74 = some (.goto 4, 3) := rfl
theorem f47_77 : pm_fetch 47 77 = some (.iload_n 1, 1) := rfl
theorem f47_78 : pm_fetch 47 78 = some (.putfield 59, 3) := rfl
theorem f47_81 : pm_fetch 47 81 = some (.return_, 1) := rfl
theorem f50_0 : pm_fetch 50 0 = some (.iload_n 0, 1) := rfl
theorem f50_1 : pm_fetch 50 1 = some (.tableswitch 135 40 61 #[103, 107, 123, 115, 135, 119, 135, 135, 135, 135, 135, 135, 135, 135, 135, 135, 135, 135, 135, 111, 127, 131], 103) := rfl
theorem f50_104 : pm_fetch 50 104 = some (.sipush 10018, 3) := rfl
theorem f50_107 : pm_fetch 50 107 = some (.ireturn, 1) := rfl
theorem f50_108 : pm_fetch 50 108 = some (.sipush 10019, 3) := rfl
theorem f50_111 : pm_fetch 50 111 = some (.ireturn, 1) := rfl
theorem f50_112 : pm_fetch 50 112 = some (.sipush 10020, 3) := rfl
theorem f50_115 : pm_fetch 50 115 = some (.ireturn, 1) := rfl
theorem f50_116 : pm_fetch 50 116 = some (.sipush 10010, 3) := rfl
theorem f50_119 : pm_fetch 50 119 = some (.ireturn, 1) := rfl
theorem f50_120 : pm_fetch 50 120 = some (.sipush 10011, 3) := rfl
theorem f50_123 : pm_fetch 50 123 = some (.ireturn, 1) := rfl
theorem f50_124 : pm_fetch 50 124 = some (.sipush 10012, 3) := rfl
theorem f50_127 : pm_fetch 50 127 = some (.ireturn, 1) := rfl
theorem f50_128 : pm_fetch 50 128 = some (.sipush 10008, 3) := rfl
theorem f50_131 : pm_fetch 50 131 = some (.ireturn, 1) := rfl
theorem f50_132 : pm_fetch 50 132 = some (.sipush 10009, 3) := rfl
theorem f50_135 : pm_fetch 50 135 = some (.ireturn, 1) := rfl
theorem f50_136 : pm_fetch 50 136 = some (.sipush 10022, 3) := rfl
theorem f50_139 : pm_fetch 50 139 = some (.ireturn, 1) := rfl
theorem f49_0 : pm_fetch 49 0 = some (.aload_n 0, 1) := rfl
theorem f49_1 : pm_fetch 49 1 = some (.getfield 29, 3) := rfl
theorem f49_4 : pm_fetch 49 4 = some (.aload_n 0, 1) := rfl
theorem f49_5 : pm_fetch 49 5 = some (.getfield 80, 3) := rfl
theorem f49_8 : pm_fetch 49 8 = some (.isub, 1) := rfl
theorem f49_9 : pm_fetch 49 9 = some (.aload_n 1, 1) := rfl
theorem f49_10 : pm_fetch 49 10 = some (.invokevirtual 134, 3) := rfl
theorem f49_13 : pm_fetch 49 13 = some (.if_icmp .ne 22, 3) := rfl
theorem f49_16 : pm_fetch 49 16 = some (.aload_n 0, 1) := rfl
theorem f49_17 : pm_fetch 49 17 = some (.getfield 80, 3) := rfl
theorem f49_20 : pm_fetch 49 20 = some (.ifCond .lt 15, 3) := rfl
theorem f49_23 : pm_fetch 49 23 = some (.aload_n 0, 1) := rfl
theorem f49_24 : pm_fetch 49 24 = some (.getfield 29, 3) := rfl
theorem f49_27 : pm_fetch 49 27 = some (.aload_n 0, 1) := rfl
theorem f49_28 : pm_fetch 49 28 = some (.getfield 9, 3) := rfl
theorem f49_31 : pm_fetch 49 31 = some (.arraylength, 1) := rfl
theorem f49_32 : pm_fetch 49 32 = some (.if_icmp .le 5, 3) := rfl
theorem f49_35 : pm_fetch 49 35 = some (.iconst 0, 1) := rfl
theorem f49_36 : pm_fetch 49 36 = some (.ireturn, 1) := rfl
theorem f49_37 : pm_fetch 49 37 = some (.iconst 0, 1) := rfl
theorem f49_38 : pm_fetch 49 38 = some (.istore_n 2, 1) := rfl
theorem f49_39 : pm_fetch 49 39 = some (.iload_n 2, 1) := rfl
theorem f49_40 : pm_fetch 49 40 = some (.aload_n 1, 1) := rfl
theorem f49_41 : pm_fetch 49 41 = some (.invokevirtual 134, 3) := rfl
theorem f49_44 : pm_fetch 49 44 = some (.if_icmp .ge 30, 3) := rfl
theorem f49_47 : pm_fetch 49 47 = some (.aload_n 0, 1) := rfl
theorem f49_48 : pm_fetch 49 48 = some (.getfield 9, 3) := rfl
theorem f49_51 : pm_fetch 49 51 = some (.aload_n 0, 1) := rfl
theorem f49_52 : pm_fetch 49 52 = some (.getfield 80, 3) := rfl
theorem f49_55 : pm_fetch 49 55 = some (.iload_n 2, 1) := rfl
theorem f49_56 : pm_fetch 49 56 = some (.iadd, 1) := rfl
theorem f49_57 : pm_fetch 49 57 = some (.baload, 1) := rfl
theorem f49_58 : pm_fetch 49 58 = some (.aload_n 1, 1) := rfl
theorem f49_59 : pm_fetch 49 59 = some (.iload_n 2, 1) := rfl
theorem f49_60 : pm_fetch 49 60 = some (.invokevirtual 140, 3) := rfl
theorem f49_63 : pm_fetch 49 63 = some (.if_icmp .eq 5, 3) := rfl
theorem f49_66 : pm_fetch 49 66 = some (.iconst 0, 1) := rfl
theorem f49_67 : pm_fetch 49 67 = some (.ireturn, 1) := rfl
theorem f49_68 : pm_fetch 49 68 = some (.iinc 2 1, 3) := rfl
theorem f49_71 : pm_fetch 49 71 = some (.goto (-32), 3) := rfl
theorem f49_74 : pm_fetch 49 74 = some (.iconst 1, 1) := rfl
theorem f49_75 : pm_fetch 49 75 = some (.ireturn, 1) := rfl
theorem f48_0 : pm_fetch 48 0 = some (.aload_n 0, 1) := rfl
theorem f48_1 : pm_fetch 48 1 = some (.getfield 29, 3) := rfl
theorem f48_4 : pm_fetch 48 4 = some (.aload_n 0, 1) := rfl
theorem f48_5 : pm_fetch 48 5 = some (.getfield 19, 3) := rfl
theorem f48_8 : pm_fetch 48 8 = some (.if_icmp .ge 30, 3) := rfl
theorem f48_11 : pm_fetch 48 11 = some (.aload_n 0, 1) := rfl
theorem f48_12 : pm_fetch 48 12 = some (.aload_n 0, 1) := rfl
theorem f48_13 : pm_fetch 48 13 = some (.getfield 29, 3) := rfl
theorem f48_16 : pm_fetch 48 16 = some (.invokevirtual 83, 3) := rfl
theorem f48_19 : pm_fetch 48 19 = some (.invokestatic 97, 3) := rfl
theorem f48_22 : pm_fetch 48 22 = some (.ifCond .eq 16, 3) := rfl
theorem f48_25 : pm_fetch 48 25 = some (.aload_n 0, 1) := rfl
theorem f48_26 : pm_fetch 48 26 = some (.dup, 1) := rfl
theorem f48_27 : pm_fetch 48 27 = some (.getfield 29, 3) := rfl
theorem f48_30 : pm_fetch 48 30 = some (.iconst 1, 1) := rfl
theorem f48_31 : pm_fetch 48 31 = some (.iadd, 1) := rfl
theorem f48_32 : pm_fetch 48 32 = some (.putfield 29, 3) := rfl
theorem f48_35 : pm_fetch 48 35 = some (.goto (-35), 3) := rfl
theorem f48_38 : pm_fetch 48 38 = some (.aload_n 0, 1) := rfl
theorem f48_39 : pm_fetch 48 39 = some (.aload_n 0, 1) := rfl
theorem f48_40 : pm_fetch 48 40 = some (.ldc 106, 2) := rfl
theorem f48_42 : pm_fetch 48 42 = some (.invokevirtual 108, 3) := rfl
theorem f48_45 : pm_fetch 48 45 = some (.ifCond .eq 9, 3) := rfl
theorem f48_48 : pm_fetch 48 48 = some (.sipush 10015, 3) := rfl
theorem f48_51 : pm_fetch 48 51 = some (.goto 171, 3) := rfl
theorem f48_54 : pm_fetch 48 54 = some (.aload_n 0, 1) := rfl
theorem f48_55 : pm_fetch 48 55 = some (.ldc 112, 2) := rfl
theorem f48_57 : pm_fetch 48 57 = some (.invokevirtual 108, 3) := rfl
theorem f48_60 : pm_fetch 48 60 = some (.ifCond .eq 9, 3) := rfl
theorem f48_63 : pm_fetch 48 63 = some (.sipush 10016, 3) := rfl
theorem f48_66 : pm_fetch 48 66 = some (.goto 156, 3) := rfl
theorem f48_69 : pm_fetch 48 69 = some (.aload_n 0, 1) := rfl
theorem f48_70 : pm_fetch 48 70 = some (.ldc 114, 2) := rfl
theorem f48_72 : pm_fetch 48 72 = some (.invokevirtual 108, 3) := rfl
theorem f48_75 : pm_fetch 48 75 = some (.ifCond .eq 9, 3) := rfl
theorem f48_78 : pm_fetch 48 78 = some (.sipush 10017, 3) := rfl
theorem f48_81 : pm_fetch 48 81 = some (.goto 141, 3) := rfl
theorem f48_84 : pm_fetch 48 84 = some (.aload_n 0, 1) := rfl
theorem f48_85 : pm_fetch 48 85 = some (.ldc 116, 2) := rfl
theorem f48_87 : pm_fetch 48 87 = some (.invokevirtual 108, 3) := rfl
theorem f48_90 : pm_fetch 48 90 = some (.ifCond .eq 9, 3) := rfl
theorem f48_93 : pm_fetch 48 93 = some (.sipush 10006, 3) := rfl
theorem f48_96 : pm_fetch 48 96 = some (.goto 126, 3) := rfl
theorem f48_99 : pm_fetch 48 99 = some (.aload_n 0, 1) := rfl
theorem f48_100 : pm_fetch 48 100 = some (.ldc 118, 2) := rfl
theorem f48_102 : pm_fetch 48 102 = some (.invokevirtual 108, 3) := rfl
theorem f48_105 : pm_fetch 48 105 = some (.ifCond .eq 9, 3) := rfl
theorem f48_108 : pm_fetch 48 108 = some (.sipush 10007, 3) := rfl
theorem f48_111 : pm_fetch 48 111 = some (.goto 111, 3) := rfl
theorem f48_114 : pm_fetch 48 114 = some (.aload_n 0, 1) := rfl
theorem f48_115 : pm_fetch 48 115 = some (.ldc 120, 2) := rfl
theorem f48_117 : pm_fetch 48 117 = some (.invokevirtual 108, 3) := rfl
theorem f48_120 : pm_fetch 48 120 = some (.ifCond .eq 9, 3) := rfl
theorem f48_123 : pm_fetch 48 123 = some (.sipush 10013, 3) := rfl
theorem f48_126 : pm_fetch 48 126 = some (.goto 96, 3) := rfl
theorem f48_129 : pm_fetch 48 129 = some (.aload_n 0, 1) := rfl
theorem f48_130 : pm_fetch 48 130 = some (.ldc 122, 2) := rfl
theorem f48_132 : pm_fetch 48 132 = some (.invokevirtual 108, 3) := rfl
theorem f48_135 : pm_fetch 48 135 = some (.ifCond .eq 9, 3) := rfl
theorem f48_138 : pm_fetch 48 138 = some (.sipush 10000, 3) := rfl
theorem f48_141 : pm_fetch 48 141 = some (.goto 81, 3) := rfl
theorem f48_144 : pm_fetch 48 144 = some (.aload_n 0, 1) := rfl
theorem f48_145 : pm_fetch 48 145 = some (.ldc 124, 2) := rfl
theorem f48_147 : pm_fetch 48 147 = some (.invokevirtual 108, 3) := rfl
theorem f48_150 : pm_fetch 48 150 = some (.ifCond .eq 9, 3) := rfl
theorem f48_153 : pm_fetch 48 153 = some (.sipush 10001, 3) := rfl
theorem f48_156 : pm_fetch 48 156 = some (.goto 66, 3) := rfl
theorem f48_159 : pm_fetch 48 159 = some (.aload_n 0, 1) := rfl
theorem f48_160 : pm_fetch 48 160 = some (.ldc 126, 2) := rfl
theorem f48_162 : pm_fetch 48 162 = some (.invokevirtual 108, 3) := rfl
theorem f48_165 : pm_fetch 48 165 = some (.ifCond .eq 9, 3) := rfl
theorem f48_168 : pm_fetch 48 168 = some (.sipush 10002, 3) := rfl
theorem f48_171 : pm_fetch 48 171 = some (.goto 51, 3) := rfl
theorem f48_174 : pm_fetch 48 174 = some (.aload_n 0, 1) := rfl
theorem f48_175 : pm_fetch 48 175 = some (.ldc 128, 2) := rfl
theorem f48_177 : pm_fetch 48 177 = some (.invokevirtual 108, 3) := rfl
theorem f48_180 : pm_fetch 48 180 = some (.ifCond .eq 9, 3) := rfl
theorem f48_183 : pm_fetch 48 183 = some (.sipush 10003, 3) := rfl
theorem f48_186 : pm_fetch 48 186 = some (.goto 36, 3) := rfl
theorem f48_189 : pm_fetch 48 189 = some (.aload_n 0, 1) := rfl
theorem f48_190 : pm_fetch 48 190 = some (.ldc 130, 2) := rfl
theorem f48_192 : pm_fetch 48 192 = some (.invokevirtual 108, 3) := rfl
theorem f48_195 : pm_fetch 48 195 = some (.ifCond .eq 9, 3) := rfl
theorem f48_198 : pm_fetch 48 198 = some (.sipush 10004, 3) := rfl
theorem f48_201 : pm_fetch 48 201 = some (.goto 21, 3) := rfl
theorem f48_204 : pm_fetch 48 204 = some (.aload_n 0, 1) := rfl
theorem f48_205 : pm_fetch 48 205 = some (.ldc 132, 2) := rfl
theorem f48_207 : pm_fetch 48 207 = some (.invokevirtual 108, 3) := rfl
theorem f48_210 : pm_fetch 48 210 = some (.ifCond .eq 9, 3) := rfl
theorem f48_213 : pm_fetch 48 213 = some (.sipush 10005, 3) := rfl
theorem f48_216 : pm_fetch 48 216 = some (.goto 6, 3) := rfl
theorem f48_219 : pm_fetch 48 219 = some (.sipush 10022, 3) := rfl
theorem f48_222 : pm_fetch 48 222 = some (.putfield 59, 3) := rfl
theorem f48_225 : pm_fetch 48 225 = some (.return_, 1) := rfl
theorem f46_0 : pm_fetch 46 0 = some (.aload_n 0, 1) := rfl
theorem f46_1 : pm_fetch 46 1 = some (.getfield 29, 3) := rfl
theorem f46_4 : pm_fetch 46 4 = some (.aload_n 0, 1) := rfl
theorem f46_5 : pm_fetch 46 5 = some (.getfield 19, 3) := rfl
theorem f46_8 : pm_fetch 46 8 = some (.if_icmp .ge 30, 3) := rfl
theorem f46_11 : pm_fetch 46 11 = some (.aload_n 0, 1) := rfl
theorem f46_12 : pm_fetch 46 12 = some (.aload_n 0, 1) := rfl
theorem f46_13 : pm_fetch 46 13 = some (.getfield 29, 3) := rfl
theorem f46_16 : pm_fetch 46 16 = some (.invokevirtual 83, 3) := rfl
theorem f46_19 : pm_fetch 46 19 = some (.invokestatic 87, 3) := rfl
theorem f46_22 : pm_fetch 46 22 = some (.ifCond .eq 16, 3) := rfl
theorem f46_25 : pm_fetch 46 25 = some (.aload_n 0, 1) := rfl
theorem f46_26 : pm_fetch 46 26 = some (.dup, 1) := rfl
theorem f46_27 : pm_fetch 46 27 = some (.getfield 29, 3) := rfl
theorem f46_30 : pm_fetch 46 30 = some (.iconst 1, 1) := rfl
theorem f46_31 : pm_fetch 46 31 = some (.iadd, 1) := rfl
theorem f46_32 : pm_fetch 46 32 = some (.putfield 29, 3) := rfl
theorem f46_35 : pm_fetch 46 35 = some (.goto (-35), 3) := rfl
theorem f46_38 : pm_fetch 46 38 = some (.aload_n 0, 1) := rfl
theorem f46_39 : pm_fetch 46 39 = some (.aload_n 0, 1) := rfl
theorem f46_40 : pm_fetch 46 40 = some (.getfield 29, 3) := rfl
theorem f46_43 : pm_fetch 46 43 = some (.putfield 80, 3) := rfl
theorem f46_46 : pm_fetch 46 46 = some (.aload_n 0, 1) := rfl
theorem f46_47 : pm_fetch 46 47 = some (.aload_n 0, 1) := rfl
theorem f46_48 : pm_fetch 46 48 = some (.getfield 80, 3) := rfl
theorem f46_51 : pm_fetch 46 51 = some (.invokevirtual 83, 3) := rfl
theorem f46_54 : pm_fetch 46 54 = some (.istore_n 1, 1) := rfl
theorem f46_55 : pm_fetch 46 55 = some (.iload_n 1, 1) := rfl
theorem f46_56 : pm_fetch 46 56 = some (.invokestatic 91, 3) := rfl
theorem f46_59 : pm_fetch 46 59 = some (.ifCond .eq 10, 3) := rfl
theorem f46_62 : pm_fetch 46 62 = some (.aload_n 0, 1) := rfl
theorem f46_63 : pm_fetch 46 63 = some (.invokevirtual 94, 3) := rfl
theorem f46_66 : pm_fetch 46 66 = some (.goto 52, 3) := rfl
theorem f46_69 : pm_fetch 46 69 = some (.iload_n 1, 1) := rfl
theorem f46_70 : pm_fetch 46 70 = some (.invokestatic 97, 3) := rfl
theorem f46_73 : pm_fetch 46 73 = some (.ifCond .eq 10, 3) := rfl
theorem f46_76 : pm_fetch 46 76 = some (.aload_n 0, 1) := rfl
theorem f46_77 : pm_fetch 46 77 = some (.invokevirtual 100, 3) := rfl
theorem f46_80 : pm_fetch 46 80 = some (.goto 38, 3) := rfl
theorem f46_83 : pm_fetch 46 83 = some (.aload_n 0, 1) := rfl
theorem f46_84 : pm_fetch 46 84 = some (.aload_n 0, 1) := rfl
theorem f46_85 : pm_fetch 46 85 = some (.getfield 80, 3) := rfl
theorem f46_88 : pm_fetch 46 88 = some (.aload_n 0, 1) := rfl
theorem f46_89 : pm_fetch 46 89 = some (.getfield 19, 3) := rfl
theorem f46_92 : pm_fetch 46 92 = some (.if_icmp .lt 9, 3) := rfl
theorem f46_95 : pm_fetch 46 95 = some (.sipush 10021, 3) := rfl
theorem f46_98 : pm_fetch 46 98 = some (.goto 7, 3) := rfl
theorem f46_101 : pm_fetch 46 101 = some (.iload_n 1, 1) := rfl
theorem f46_102 : pm_fetch 46 102 = some (.invokestatic 103, 3) := rfl
theorem f46_105 : pm_fetch 46 105 = some (.putfield 59, 3) := rfl
theorem f46_108 : pm_fetch 46 108 = some (.aload_n 0, 1) := rfl
theorem f46_109 : pm_fetch 46 109 = some (.aload_n 0, 1) := rfl
theorem f46_110 : pm_fetch 46 110 = some (.getfield 80, 3) := rfl
theorem f46_113 : pm_fetch 46 113 = some (.iconst 1, 1) := rfl
theorem f46_114 : pm_fetch 46 114 = some (.iadd, 1) := rfl
theorem f46_115 : pm_fetch 46 115 = some (.putfield 29, 3) := rfl
theorem f46_118 : pm_fetch 46 118 = some (.return_, 1) := rfl
theorem f44_0 : pm_fetch 44 0 = some (.aload_n 0, 1) := rfl
theorem f44_1 : pm_fetch 44 1 = some (.aload_n 0, 1) := rfl
theorem f44_2 : pm_fetch 44 2 = some (.getfield 80, 3) := rfl
theorem f44_5 : pm_fetch 44 5 = some (.putfield 23, 3) := rfl
theorem f44_8 : pm_fetch 44 8 = some (.aload_n 0, 1) := rfl
theorem f44_9 : pm_fetch 44 9 = some (.sipush 10022, 3) := rfl
theorem f44_12 : pm_fetch 44 12 = some (.putfield 59, 3) := rfl
theorem f44_15 : pm_fetch 44 15 = some (.return_, 1) := rfl
theorem f45_0 : pm_fetch 45 0 = some (.aload_n 0, 1) := rfl
theorem f45_1 : pm_fetch 45 1 = some (.getfield 26, 3) := rfl
theorem f45_4 : pm_fetch 45 4 = some (.aload_n 0, 1) := rfl
theorem f45_5 : pm_fetch 45 5 = some (.getfield 15, 3) := rfl
theorem f45_8 : pm_fetch 45 8 = some (.arraylength, 1) := rfl
theorem f45_9 : pm_fetch 45 9 = some (.if_icmp .ge 23, 3) := rfl
theorem f45_12 : pm_fetch 45 12 = some (.aload_n 0, 1) := rfl
theorem f45_13 : pm_fetch 45 13 = some (.getfield 15, 3) := rfl
theorem f45_16 : pm_fetch 45 16 = some (.aload_n 0, 1) := rfl
theorem f45_17 : pm_fetch 45 17 = some (.getfield 26, 3) := rfl
theorem f45_20 : pm_fetch 45 20 = some (.iload_n 1, 1) := rfl
theorem f45_21 : pm_fetch 45 21 = some (.iastore, 1) := rfl
theorem f45_22 : pm_fetch 45 22 = some (.aload_n 0, 1) := rfl
theorem f45_23 : pm_fetch 45 23 = some (.dup, 1) := rfl
theorem f45_24 : pm_fetch 45 24 = some (.getfield 26, 3) := rfl
theorem f45_27 : pm_fetch 45 27 = some (.iconst 1, 1) := rfl
theorem f45_28 : pm_fetch 45 28 = some (.iadd, 1) := rfl
theorem f45_29 : pm_fetch 45 29 = some (.putfield 26, 3) := rfl
theorem f45_32 : pm_fetch 45 32 = some (.return_, 1) := rfl
theorem f43_0 : pm_fetch 43 0 = some (.aload_n 0, 1) := rfl
theorem f43_1 : pm_fetch 43 1 = some (.getfield 59, 3) := rfl
theorem f43_4 : pm_fetch 43 4 = some (.iload_n 1, 1) := rfl
theorem f43_5 : pm_fetch 43 5 = some (.if_icmp .ne 10, 3) := rfl
theorem f43_8 : pm_fetch 43 8 = some (.aload_n 0, 1) := rfl
theorem f43_9 : pm_fetch 43 9 = some (.invokevirtual 32, 3) := rfl
theorem f43_12 : pm_fetch 43 12 = some (.goto 7, 3) := rfl
theorem f43_15 : pm_fetch 43 15 = some (.aload_n 0, 1) := rfl
theorem f43_16 : pm_fetch 43 16 = some (.invokevirtual 68, 3) := rfl
theorem f43_19 : pm_fetch 43 19 = some (.return_, 1) := rfl
theorem f34_0 : pm_fetch 34 0 = some (.aload_n 0, 1) := rfl
theorem f34_1 : pm_fetch 34 1 = some (.getfield 19, 3) := rfl
theorem f34_4 : pm_fetch 34 4 = some (.aload_n 0, 1) := rfl
theorem f34_5 : pm_fetch 34 5 = some (.getfield 9, 3) := rfl
theorem f34_8 : pm_fetch 34 8 = some (.arraylength, 1) := rfl
theorem f34_9 : pm_fetch 34 9 = some (.if_icmp .ge 24, 3) := rfl
theorem f34_12 : pm_fetch 34 12 = some (.aload_n 0, 1) := rfl
theorem f34_13 : pm_fetch 34 13 = some (.getfield 9, 3) := rfl
theorem f34_16 : pm_fetch 34 16 = some (.aload_n 0, 1) := rfl
theorem f34_17 : pm_fetch 34 17 = some (.getfield 19, 3) := rfl
theorem f34_20 : pm_fetch 34 20 = some (.iload_n 1, 1) := rfl
theorem f34_21 : pm_fetch 34 21 = some (.i2b, 1) := rfl
theorem f34_22 : pm_fetch 34 22 = some (.bastore, 1) := rfl
theorem f34_23 : pm_fetch 34 23 = some (.aload_n 0, 1) := rfl
theorem f34_24 : pm_fetch 34 24 = some (.dup, 1) := rfl
theorem f34_25 : pm_fetch 34 25 = some (.getfield 19, 3) := rfl
theorem f34_28 : pm_fetch 34 28 = some (.iconst 1, 1) := rfl
theorem f34_29 : pm_fetch 34 29 = some (.iadd, 1) := rfl
theorem f34_30 : pm_fetch 34 30 = some (.putfield 19, 3) := rfl
theorem f34_33 : pm_fetch 34 33 = some (.return_, 1) := rfl
theorem f33_0 : pm_fetch 33 0 = some (.aload_n 0, 1) := rfl
theorem f33_1 : pm_fetch 33 1 = some (.invokespecial 3, 3) := rfl
theorem f33_4 : pm_fetch 33 4 = some (.aload_n 0, 1) := rfl
theorem f33_5 : pm_fetch 33 5 = some (.sipush 160, 3) := rfl
theorem f33_8 : pm_fetch 33 8 = some (.newarray .byte, 2) := rfl
theorem f33_10 : pm_fetch 33 10 = some (.putfield 9, 3) := rfl
theorem f33_13 : pm_fetch 33 13 = some (.aload_n 0, 1) := rfl
theorem f33_14 : pm_fetch 33 14 = some (.sipush 160, 3) := rfl
theorem f33_17 : pm_fetch 33 17 = some (.newarray .int, 2) := rfl
theorem f33_19 : pm_fetch 33 19 = some (.putfield 15, 3) := rfl
theorem f33_22 : pm_fetch 33 22 = some (.return_, 1) := rfl
theorem f42_0 : pm_fetch 42 0 = some (.aload_n 0, 1) := rfl
theorem f42_1 : pm_fetch 42 1 = some (.getfield 59, 3) := rfl
theorem f42_4 : pm_fetch 42 4 = some (.sipush 10005, 3) := rfl
theorem f42_7 : pm_fetch 42 7 = some (.if_icmp .gt 18, 3) := rfl
theorem f42_10 : pm_fetch 42 10 = some (.aload_n 0, 1) := rfl
theorem f42_11 : pm_fetch 42 11 = some (.aload_n 0, 1) := rfl
theorem f42_12 : pm_fetch 42 12 = some (.getfield 59, 3) := rfl
theorem f42_15 : pm_fetch 42 15 = some (.invokevirtual 62, 3) := rfl
theorem f42_18 : pm_fetch 42 18 = some (.aload_n 0, 1) := rfl
theorem f42_19 : pm_fetch 42 19 = some (.invokevirtual 32, 3) := rfl
theorem f42_22 : pm_fetch 42 22 = some (.goto 79, 3) := rfl
theorem f42_25 : pm_fetch 42 25 = some (.aload_n 0, 1) := rfl
theorem f42_26 : pm_fetch 42 26 = some (.getfield 59, 3) := rfl
theorem f42_29 : pm_fetch 42 29 = some (.sipush 10011, 3) := rfl
theorem f42_32 : pm_fetch 42 32 = some (.if_icmp .ne 29, 3) := rfl
theorem f42_35 : pm_fetch 42 35 = some (.iload_n 1, 1) := rfl
theorem f42_36 : pm_fetch 42 36 = some (.iconst 5, 1) := rfl
theorem f42_37 : pm_fetch 42 37 = some (.if_icmp .ge 24, 3) := rfl
theorem f42_40 : pm_fetch 42 40 = some (.aload_n 0, 1) := rfl
theorem f42_41 : pm_fetch 42 41 = some (.invokevirtual 32, 3) := rfl
theorem f42_44 : pm_fetch 42 44 = some (.aload_n 0, 1) := rfl
theorem f42_45 : pm_fetch 42 45 = some (.iload_n 1, 1) := rfl
theorem f42_46 : pm_fetch 42 46 = some (.iconst 1, 1) := rfl
theorem f42_47 : pm_fetch 42 47 = some (.iadd, 1) := rfl
theorem f42_48 : pm_fetch 42 48 = some (.invokevirtual 77, 3) := rfl
theorem f42_51 : pm_fetch 42 51 = some (.aload_n 0, 1) := rfl
theorem f42_52 : pm_fetch 42 52 = some (.sipush 10014, 3) := rfl
theorem f42_55 : pm_fetch 42 55 = some (.invokevirtual 62, 3) := rfl
theorem f42_58 : pm_fetch 42 58 = some (.goto 43, 3) := rfl
theorem f42_61 : pm_fetch 42 61 = some (.aload_n 0, 1) := rfl
theorem f42_62 : pm_fetch 42 62 = some (.getfield 59, 3) := rfl
theorem f42_65 : pm_fetch 42 65 = some (.sipush 10018, 3) := rfl
theorem f42_68 : pm_fetch 42 68 = some (.if_icmp .ne 29, 3) := rfl
theorem f42_71 : pm_fetch 42 71 = some (.iload_n 1, 1) := rfl
theorem f42_72 : pm_fetch 42 72 = some (.iconst 5, 1) := rfl
theorem f42_73 : pm_fetch 42 73 = some (.if_icmp .ge 24, 3) := rfl
theorem f42_76 : pm_fetch 42 76 = some (.aload_n 0, 1) := rfl
theorem f42_77 : pm_fetch 42 77 = some (.invokevirtual 32, 3) := rfl
theorem f42_80 : pm_fetch 42 80 = some (.aload_n 0, 1) := rfl
theorem f42_81 : pm_fetch 42 81 = some (.iload_n 1, 1) := rfl
theorem f42_82 : pm_fetch 42 82 = some (.iconst 1, 1) := rfl
theorem f42_83 : pm_fetch 42 83 = some (.iadd, 1) := rfl
theorem f42_84 : pm_fetch 42 84 = some (.invokevirtual 53, 3) := rfl
theorem f42_87 : pm_fetch 42 87 = some (.aload_n 0, 1) := rfl
theorem f42_88 : pm_fetch 42 88 = some (.sipush 10019, 3) := rfl
theorem f42_91 : pm_fetch 42 91 = some (.invokevirtual 39, 3) := rfl
theorem f42_94 : pm_fetch 42 94 = some (.goto 7, 3) := rfl
theorem f42_97 : pm_fetch 42 97 = some (.aload_n 0, 1) := rfl
theorem f42_98 : pm_fetch 42 98 = some (.invokevirtual 68, 3) := rfl
theorem f42_101 : pm_fetch 42 101 = some (.return_, 1) := rfl
theorem f41_0 : pm_fetch 41 0 = some (.aload_n 0, 1) := rfl
theorem f41_1 : pm_fetch 41 1 = some (.iload_n 1, 1) := rfl
theorem f41_2 : pm_fetch 41 2 = some (.invokevirtual 77, 3) := rfl
theorem f41_5 : pm_fetch 41 5 = some (.iconst 0, 1) := rfl
theorem f41_6 : pm_fetch 41 6 = some (.istore_n 2, 1) := rfl
theorem f41_7 : pm_fetch 41 7 = some (.iload_n 2, 1) := rfl
theorem f41_8 : pm_fetch 41 8 = some (.sipush 160, 3) := rfl
theorem f41_11 : pm_fetch 41 11 = some (.if_icmp .ge 35, 3) := rfl
theorem f41_14 : pm_fetch 41 14 = some (.aload_n 0, 1) := rfl
theorem f41_15 : pm_fetch 41 15 = some (.getfield 59, 3) := rfl
theorem f41_18 : pm_fetch 41 18 = some (.sipush 10012, 3) := rfl
theorem f41_21 : pm_fetch 41 21 = some (.if_icmp .ne 25, 3) := rfl
theorem f41_24 : pm_fetch 41 24 = some (.aload_n 0, 1) := rfl
theorem f41_25 : pm_fetch 41 25 = some (.invokevirtual 32, 3) := rfl
theorem f41_28 : pm_fetch 41 28 = some (.aload_n 0, 1) := rfl
theorem f41_29 : pm_fetch 41 29 = some (.iload_n 1, 1) := rfl
theorem f41_30 : pm_fetch 41 30 = some (.invokevirtual 77, 3) := rfl
theorem f41_33 : pm_fetch 41 33 = some (.aload_n 0, 1) := rfl
theorem f41_34 : pm_fetch 41 34 = some (.sipush 10012, 3) := rfl
theorem f41_37 : pm_fetch 41 37 = some (.invokevirtual 62, 3) := rfl
theorem f41_40 : pm_fetch 41 40 = some (.iinc 2 1, 3) := rfl
theorem f41_43 : pm_fetch 41 43 = some (.goto (-36), 3) := rfl
theorem f41_46 : pm_fetch 41 46 = some (.return_, 1) := rfl
theorem f40_0 : pm_fetch 40 0 = some (.aload_n 0, 1) := rfl
theorem f40_1 : pm_fetch 40 1 = some (.iload_n 1, 1) := rfl
theorem f40_2 : pm_fetch 40 2 = some (.invokevirtual 74, 3) := rfl
theorem f40_5 : pm_fetch 40 5 = some (.iconst 0, 1) := rfl
theorem f40_6 : pm_fetch 40 6 = some (.istore_n 2, 1) := rfl
theorem f40_7 : pm_fetch 40 7 = some (.iload_n 2, 1) := rfl
theorem f40_8 : pm_fetch 40 8 = some (.sipush 160, 3) := rfl
theorem f40_11 : pm_fetch 40 11 = some (.if_icmp .ge 48, 3) := rfl
theorem f40_14 : pm_fetch 40 14 = some (.aload_n 0, 1) := rfl
theorem f40_15 : pm_fetch 40 15 = some (.getfield 59, 3) := rfl
theorem f40_18 : pm_fetch 40 18 = some (.sipush 10010, 3) := rfl
theorem f40_21 : pm_fetch 40 21 = some (.if_icmp .eq 13, 3) := rfl
theorem f40_24 : pm_fetch 40 24 = some (.aload_n 0, 1) := rfl
theorem f40_25 : pm_fetch 40 25 = some (.getfield 59, 3) := rfl
theorem f40_28 : pm_fetch 40 28 = some (.sipush 10011, 3) := rfl
theorem f40_31 : pm_fetch 40 31 = some (.if_icmp .ne 28, 3) := rfl
theorem f40_34 : pm_fetch 40 34 = some (.aload_n 0, 1) := rfl
theorem f40_35 : pm_fetch 40 35 = some (.getfield 59, 3) := rfl
theorem f40_38 : pm_fetch 40 38 = some (.istore_n 3, 1) := rfl
theorem f40_39 : pm_fetch 40 39 = some (.aload_n 0, 1) := rfl
theorem f40_40 : pm_fetch 40 40 = some (.invokevirtual 32, 3) := rfl
theorem f40_43 : pm_fetch 40 43 = some (.aload_n 0, 1) := rfl
theorem f40_44 : pm_fetch 40 44 = some (.iload_n 1, 1) := rfl
theorem f40_45 : pm_fetch 40 45 = some (.invokevirtual 74, 3) := rfl
theorem f40_48 : pm_fetch 40 48 = some (.aload_n 0, 1) := rfl
theorem f40_49 : pm_fetch 40 49 = some (.iload_n 3, 1) := rfl
theorem f40_50 : pm_fetch 40 50 = some (.invokevirtual 62, 3) := rfl
theorem f40_53 : pm_fetch 40 53 = some (.iinc 2 1, 3) := rfl
theorem f40_56 : pm_fetch 40 56 = some (.goto (-49), 3) := rfl
theorem f40_59 : pm_fetch 40 59 = some (.return_, 1) := rfl
theorem f39_0 : pm_fetch 39 0 = some (.aload_n 0, 1) := rfl
theorem f39_1 : pm_fetch 39 1 = some (.getfield 59, 3) := rfl
theorem f39_4 : pm_fetch 39 4 = some (.sipush 10013, 3) := rfl
theorem f39_7 : pm_fetch 39 7 = some (.if_icmp .ne 32, 3) := rfl
theorem f39_10 : pm_fetch 39 10 = some (.iload_n 1, 1) := rfl
theorem f39_11 : pm_fetch 39 11 = some (.iconst 5, 1) := rfl
theorem f39_12 : pm_fetch 39 12 = some (.if_icmp .lt 8, 3) := rfl
theorem f39_15 : pm_fetch 39 15 = some (.aload_n 0, 1) := rfl
theorem f39_16 : pm_fetch 39 16 = some (.invokevirtual 68, 3) := rfl
theorem f39_19 : pm_fetch 39 19 = some (.return_, 1) := rfl
theorem f39_20 : pm_fetch 39 20 = some (.aload_n 0, 1) := rfl
theorem f39_21 : pm_fetch 39 21 = some (.invokevirtual 32, 3) := rfl
theorem f39_24 : pm_fetch 39 24 = some (.aload_n 0, 1) := rfl
theorem f39_25 : pm_fetch 39 25 = some (.iload_n 1, 1) := rfl
theorem f39_26 : pm_fetch 39 26 = some (.iconst 1, 1) := rfl
theorem f39_27 : pm_fetch 39 27 = some (.iadd, 1) := rfl
theorem f39_28 : pm_fetch 39 28 = some (.invokevirtual 65, 3) := rfl
theorem f39_31 : pm_fetch 39 31 = some (.aload_n 0, 1) := rfl
theorem f39_32 : pm_fetch 39 32 = some (.sipush 10013, 3) := rfl
theorem f39_35 : pm_fetch 39 35 = some (.invokevirtual 62, 3) := rfl
theorem f39_38 : pm_fetch 39 38 = some (.return_, 1) := rfl
theorem f39_39 : pm_fetch 39 39 = some (.aload_n 0, 1) := rfl
theorem f39_40 : pm_fetch 39 40 = some (.iload_n 1, 1) := rfl
theorem f39_41 : pm_fetch 39 41 = some (.invokevirtual 71, 3) := rfl
theorem f39_44 : pm_fetch 39 44 = some (.aload_n 0, 1) := rfl
theorem f39_45 : pm_fetch 39 45 = some (.getfield 59, 3) := rfl
theorem f39_48 : pm_fetch 39 48 = some (.sipush 10008, 3) := rfl
theorem f39_51 : pm_fetch 39 51 = some (.if_icmp .eq 13, 3) := rfl
theorem f39_54 : pm_fetch 39 54 = some (.aload_n 0, 1) := rfl
theorem f39_55 : pm_fetch 39 55 = some (.getfield 59, 3) := rfl
theorem f39_58 : pm_fetch 39 58 = some (.sipush 10009, 3) := rfl
theorem f39_61 : pm_fetch 39 61 = some (.if_icmp .ne 22, 3) := rfl
theorem f39_64 : pm_fetch 39 64 = some (.aload_n 0, 1) := rfl
theorem f39_65 : pm_fetch 39 65 = some (.getfield 59, 3) := rfl
theorem f39_68 : pm_fetch 39 68 = some (.istore_n 2, 1) := rfl
theorem f39_69 : pm_fetch 39 69 = some (.aload_n 0, 1) := rfl
theorem f39_70 : pm_fetch 39 70 = some (.invokevirtual 32, 3) := rfl
theorem f39_73 : pm_fetch 39 73 = some (.aload_n 0, 1) := rfl
theorem f39_74 : pm_fetch 39 74 = some (.iload_n 1, 1) := rfl
theorem f39_75 : pm_fetch 39 75 = some (.invokevirtual 71, 3) := rfl
theorem f39_78 : pm_fetch 39 78 = some (.aload_n 0, 1) := rfl
theorem f39_79 : pm_fetch 39 79 = some (.iload_n 2, 1) := rfl
theorem f39_80 : pm_fetch 39 80 = some (.invokevirtual 62, 3) := rfl
theorem f39_83 : pm_fetch 39 83 = some (.return_, 1) := rfl
theorem f38_0 : pm_fetch 38 0 = some (.aload_n 0, 1) := rfl
theorem f38_1 : pm_fetch 38 1 = some (.iload_n 1, 1) := rfl
theorem f38_2 : pm_fetch 38 2 = some (.invokevirtual 65, 3) := rfl
theorem f38_5 : pm_fetch 38 5 = some (.iconst 0, 1) := rfl
theorem f38_6 : pm_fetch 38 6 = some (.istore_n 2, 1) := rfl
theorem f38_7 : pm_fetch 38 7 = some (.iload_n 2, 1) := rfl
theorem f38_8 : pm_fetch 38 8 = some (.sipush 160, 3) := rfl
theorem f38_11 : pm_fetch 38 11 = some (.if_icmp .ge 35, 3) := rfl
theorem f38_14 : pm_fetch 38 14 = some (.aload_n 0, 1) := rfl
theorem f38_15 : pm_fetch 38 15 = some (.getfield 59, 3) := rfl
theorem f38_18 : pm_fetch 38 18 = some (.sipush 10007, 3) := rfl
theorem f38_21 : pm_fetch 38 21 = some (.if_icmp .ne 25, 3) := rfl
theorem f38_24 : pm_fetch 38 24 = some (.aload_n 0, 1) := rfl
theorem f38_25 : pm_fetch 38 25 = some (.invokevirtual 32, 3) := rfl
theorem f38_28 : pm_fetch 38 28 = some (.aload_n 0, 1) := rfl
theorem f38_29 : pm_fetch 38 29 = some (.iload_n 1, 1) := rfl
theorem f38_30 : pm_fetch 38 30 = some (.invokevirtual 65, 3) := rfl
theorem f38_33 : pm_fetch 38 33 = some (.aload_n 0, 1) := rfl
theorem f38_34 : pm_fetch 38 34 = some (.sipush 10007, 3) := rfl
theorem f38_37 : pm_fetch 38 37 = some (.invokevirtual 62, 3) := rfl
theorem f38_40 : pm_fetch 38 40 = some (.iinc 2 1, 3) := rfl
theorem f38_43 : pm_fetch 38 43 = some (.goto (-36), 3) := rfl
theorem f38_46 : pm_fetch 38 46 = some (.return_, 1) := rfl
theorem f37_0 : pm_fetch 37 0 = some (.aload_n 0, 1) := rfl
theorem f37_1 : pm_fetch 37 1 = some (.iload_n 1, 1) := rfl
theorem f37_2 : pm_fetch 37 2 = some (.invokevirtual 56, 3) := rfl
theorem f37_5 : pm_fetch 37 5 = some (.iconst 0, 1) := rfl
theorem f37_6 : pm_fetch 37 6 = some (.istore_n 2, 1) := rfl
theorem f37_7 : pm_fetch 37 7 = some (.iload_n 2, 1) := rfl
theorem f37_8 : pm_fetch 37 8 = some (.sipush 160, 3) := rfl
theorem f37_11 : pm_fetch 37 11 = some (.if_icmp .ge 35, 3) := rfl
theorem f37_14 : pm_fetch 37 14 = some (.aload_n 0, 1) := rfl
theorem f37_15 : pm_fetch 37 15 = some (.getfield 59, 3) := rfl
theorem f37_18 : pm_fetch 37 18 = some (.sipush 10006, 3) := rfl
theorem f37_21 : pm_fetch 37 21 = some (.if_icmp .ne 25, 3) := rfl
theorem f37_24 : pm_fetch 37 24 = some (.aload_n 0, 1) := rfl
theorem f37_25 : pm_fetch 37 25 = some (.invokevirtual 32, 3) := rfl
theorem f37_28 : pm_fetch 37 28 = some (.aload_n 0, 1) := rfl
theorem f37_29 : pm_fetch 37 29 = some (.iload_n 1, 1) := rfl
theorem f37_30 : pm_fetch 37 30 = some (.invokevirtual 56, 3) := rfl
theorem f37_33 : pm_fetch 37 33 = some (.aload_n 0, 1) := rfl
theorem f37_34 : pm_fetch 37 34 = some (.sipush 10006, 3) := rfl
theorem f37_37 : pm_fetch 37 37 = some (.invokevirtual 62, 3) := rfl
theorem f37_40 : pm_fetch 37 40 = some (.iinc 2 1, 3) := rfl
theorem f37_43 : pm_fetch 37 43 = some (.goto (-36), 3) := rfl
theorem f37_46 : pm_fetch 37 46 = some (.return_, 1) := rfl
/-- DunesWalked$Tape.byteAt(I)I -/
def T_byteAt (h : pm_H) (t : Nat) (a1 : Int32) : Option (pm_H × Int32) := if a1 < 0 then (some (h, (-1))) else (bnd (op_I h t 4 1) fun x2q => if x2q ≤ a1 then (some (h, (-1))) else (bnd (op_A h t 4 0) fun x4q => bnd x4q fun u5q => bnd (op_ln h u5q) fun x6q => if x6q ≤ a1 then (some (h, (-1))) else (bnd (op_A h t 4 0) fun x8q => bnd x8q fun u9q => bnd (op_aB h u9q a1) fun x10q => some (h, (x10q &&& 255)))))
/-- DunesWalked$Tape.isBlank(I)Z -/
def T_isBlank_12 (h : pm_H) : Option (pm_H × Int32) := some (h, 1)
def T_isBlank (h : pm_H) (a0 : Int32) : Option (pm_H × Int32) := if a0 = 32 then (T_isBlank_12 h) else (if a0 = 10 then (T_isBlank_12 h) else (some (h, 0)))
/-- DunesWalked$Tape.isDigit(I)Z -/
def T_isDigit (h : pm_H) (a0 : Int32) : Option (pm_H × Int32) := if a0 < 48 then (some (h, 0)) else (if 57 < a0 then (some (h, 0)) else (some (h, 1)))
/-- DunesWalked$Tape.isLetter(I)Z -/
def T_isLetter (h : pm_H) (a0 : Int32) : Option (pm_H × Int32) := if a0 < 97 then (some (h, 0)) else (if 122 < a0 then (some (h, 0)) else (some (h, 1)))
/-- DunesWalked$Tape.readNumber()V -/
def T_readNumber_78 (h : pm_H) (s0 : Int32) (s1 : Nat) : Option (pm_H × Unit) := bnd (op_S h s1 4 4 (.int s0)) fun h1q => some (h1q, ())
def T_readNumber_57 (h : pm_H) (l0 : Nat) (l1 : Int32) : Option (pm_H × Unit) := bnd (op_I h l0 4 3) fun x1q => bnd (op_I h l0 4 2) fun x2q => if (x1q - x2q) ≤ 4 then (T_readNumber_78 h l1 l0) else (T_readNumber_78 h 10022 l0)
def T_readNumber_2 : Nat → pm_H → Nat → Int32 → Option (pm_H × Unit)
  | 0, _, _, _ => none
  | n + 1, h, l0, l1 => bnd (op_I h l0 4 3) fun x1q => bnd (op_I h l0 4 1) fun x2q => if x2q ≤ x1q then (T_readNumber_57 h l0 l1) else (bnd (op_I h l0 4 3) fun x4q => grd (op_is h l0 4) <| bn2 (T_byteAt h l0 x4q) fun h5q x6q => bn2 (T_isDigit h5q x6q) fun h8q x9q => if x9q = 0 then (T_readNumber_57 h8q l0 l1) else (bnd (op_I h8q l0 4 3) fun x11q => grd (op_is h8q l0 4) <| bn2 (T_byteAt h8q l0 x11q) fun h12q x13q => nmd (((l1 * 10) + x13q) - 48) fun y15q => bnd (op_I h12q l0 4 3) fun x16q => bnd (op_S h12q l0 4 3 (.int (x16q + 1))) fun h17q => T_readNumber_2 n h17q l0 y15q))
def T_readNumber (h : pm_H) (t : Nat) : Option (pm_H × Unit) := T_readNumber_2 1000 h t 0
/-- DunesWalked$Tape.sign(I)I -/
def T_sign (h : pm_H) (a0 : Int32) : Option (pm_H × Int32) := if a0 = 40 then (some (h, 10018)) else (if a0 = 41 then (some (h, 10019)) else (if a0 = 42 then (some (h, 10012)) else (if a0 = 43 then (some (h, 10010)) else (if a0 = 44 then (some (h, 10022)) else (if a0 = 45 then (some (h, 10011)) else (if a0 = 46 then (some (h, 10022)) else (if a0 = 47 then (some (h, 10022)) else (if a0 = 48 then (some (h, 10022)) else (if a0 = 49 then (some (h, 10022)) else (if a0 = 50 then (some (h, 10022)) else (if a0 = 51 then (some (h, 10022)) else (if a0 = 52 then (some (h, 10022)) else (if a0 = 53 then (some (h, 10022)) else (if a0 = 54 then (some (h, 10022)) else (if a0 = 55 then (some (h, 10022)) else (if a0 = 56 then (some (h, 10022)) else (if a0 = 57 then (some (h, 10022)) else (if a0 = 58 then (some (h, 10022)) else (if a0 = 59 then (some (h, 10020)) else (if a0 = 60 then (some (h, 10008)) else (if a0 = 61 then (some (h, 10009)) else (some (h, 10022)))))))))))))))))))))))
/-- DunesWalked$Tape.spells(Ljava/lang/String;)Z -/
def T_spells_39 : Nat → pm_H → Nat → Nat → Int32 → Option (pm_H × Int32)
  | 0, _, _, _, _ => none
  | n + 1, h, l0, l1, l2 => grd (decide (l1 < 12)) <| bn2 (Js_length h l1) fun h1q x2q => if x2q ≤ l2 then (some (h1q, 1)) else (bnd (op_A h1q l0 4 0) fun x5q => bnd (op_I h1q l0 4 2) fun x6q => bnd x5q fun u7q => bnd (op_aB h1q u7q (x6q + l2)) fun x8q => grd (decide (l1 < 12)) <| bn2 (Js_charAt h1q l1 l2) fun h9q x10q => if x8q = x10q then (nmd (l2 + 1) fun y13q => T_spells_39 n h9q l0 l1 y13q) else (some (h9q, 0)))
def T_spells (h : pm_H) (t : Nat) (a1 : Nat) : Option (pm_H × Int32) := bnd (op_I h t 4 3) fun x1q => bnd (op_I h t 4 2) fun x2q => grd (decide (a1 < 12)) <| bn2 (Js_length h a1) fun h3q x4q => if (x1q - x2q) = x4q then (bnd (op_I h3q t 4 2) fun x7q => if x7q < 0 then (some (h3q, 0)) else (bnd (op_I h3q t 4 3) fun x9q => bnd (op_A h3q t 4 0) fun x10q => bnd x10q fun u11q => bnd (op_ln h3q u11q) fun x12q => if x9q ≤ x12q then (T_spells_39 1000 h3q t a1 0) else (some (h3q, 0)))) else (some (h3q, 0))
/-- DunesWalked$Tape.readWord()V -/
def T_readWord_222 (h : pm_H) (s0 : Int32) (s1 : Nat) : Option (pm_H × Unit) := bnd (op_S h s1 4 4 (.int s0)) fun h1q => some (h1q, ())
def T_readWord_38 (h : pm_H) (l0 : Nat) : Option (pm_H × Unit) := grd (op_is h l0 4) <| bn2 (T_spells h l0 0) fun h1q x2q => if x2q = 0 then (grd (op_is h1q l0 4) <| bn2 (T_spells h1q l0 1) fun h5q x6q => if x6q = 0 then (grd (op_is h5q l0 4) <| bn2 (T_spells h5q l0 2) fun h9q x10q => if x10q = 0 then (grd (op_is h9q l0 4) <| bn2 (T_spells h9q l0 3) fun h13q x14q => if x14q = 0 then (grd (op_is h13q l0 4) <| bn2 (T_spells h13q l0 4) fun h17q x18q => if x18q = 0 then (grd (op_is h17q l0 4) <| bn2 (T_spells h17q l0 5) fun h21q x22q => if x22q = 0 then (grd (op_is h21q l0 4) <| bn2 (T_spells h21q l0 6) fun h25q x26q => if x26q = 0 then (grd (op_is h25q l0 4) <| bn2 (T_spells h25q l0 7) fun h29q x30q => if x30q = 0 then (grd (op_is h29q l0 4) <| bn2 (T_spells h29q l0 8) fun h33q x34q => if x34q = 0 then (grd (op_is h33q l0 4) <| bn2 (T_spells h33q l0 9) fun h37q x38q => if x38q = 0 then (grd (op_is h37q l0 4) <| bn2 (T_spells h37q l0 10) fun h41q x42q => if x42q = 0 then (grd (op_is h41q l0 4) <| bn2 (T_spells h41q l0 11) fun h45q x46q => if x46q = 0 then (T_readWord_222 h45q 10022 l0) else (T_readWord_222 h45q 10005 l0)) else (T_readWord_222 h41q 10004 l0)) else (T_readWord_222 h37q 10003 l0)) else (T_readWord_222 h33q 10002 l0)) else (T_readWord_222 h29q 10001 l0)) else (T_readWord_222 h25q 10000 l0)) else (T_readWord_222 h21q 10013 l0)) else (T_readWord_222 h17q 10007 l0)) else (T_readWord_222 h13q 10006 l0)) else (T_readWord_222 h9q 10017 l0)) else (T_readWord_222 h5q 10016 l0)) else (T_readWord_222 h1q 10015 l0)
def T_readWord_0 : Nat → pm_H → Nat → Option (pm_H × Unit)
  | 0, _, _ => none
  | n + 1, h, l0 => bnd (op_I h l0 4 3) fun x1q => bnd (op_I h l0 4 1) fun x2q => if x2q ≤ x1q then (T_readWord_38 h l0) else (bnd (op_I h l0 4 3) fun x4q => grd (op_is h l0 4) <| bn2 (T_byteAt h l0 x4q) fun h5q x6q => bn2 (T_isLetter h5q x6q) fun h8q x9q => if x9q = 0 then (T_readWord_38 h8q l0) else (bnd (op_I h8q l0 4 3) fun x11q => bnd (op_S h8q l0 4 3 (.int (x11q + 1))) fun h12q => T_readWord_0 n h12q l0))
def T_readWord (h : pm_H) (t : Nat) : Option (pm_H × Unit) := T_readWord_0 1000 h t
/-- DunesWalked$Tape.step()V -/
def T_step_105 (h : pm_H) (l0 : Nat) (s0 : Int32) (s1 : Nat) : Option (pm_H × Unit) := bnd (op_S h s1 4 4 (.int s0)) fun h1q => bnd (op_I h1q l0 4 2) fun x2q => bnd (op_S h1q l0 4 3 (.int (x2q + 1))) fun h3q => some (h3q, ())
def T_step_38 (h : pm_H) (l0 : Nat) : Option (pm_H × Unit) := bnd (op_I h l0 4 3) fun x1q => bnd (op_S h l0 4 2 (.int x1q)) fun h2q => bnd (op_I h2q l0 4 2) fun x3q => grd (op_is h2q l0 4) <| bn2 (T_byteAt h2q l0 x3q) fun h4q x5q => bn2 (T_isDigit h4q x5q) fun h7q x8q => if x8q = 0 then (bn2 (T_isLetter h7q x5q) fun h10q x11q => if x11q = 0 then (bnd (op_I h10q l0 4 2) fun x13q => bnd (op_I h10q l0 4 1) fun x14q => if x13q < x14q then (bn2 (T_sign h10q x5q) fun h16q x17q => T_step_105 h16q l0 x17q l0) else (T_step_105 h10q l0 10021 l0)) else (grd (op_is h10q l0 4) <| bn2 (T_readWord h10q l0) fun h18q _ => some (h18q, ()))) else (grd (op_is h7q l0 4) <| bn2 (T_readNumber h7q l0) fun h21q _ => some (h21q, ()))
def T_step_0 : Nat → pm_H → Nat → Option (pm_H × Unit)
  | 0, _, _ => none
  | n + 1, h, l0 => bnd (op_I h l0 4 3) fun x1q => bnd (op_I h l0 4 1) fun x2q => if x2q ≤ x1q then (T_step_38 h l0) else (bnd (op_I h l0 4 3) fun x4q => grd (op_is h l0 4) <| bn2 (T_byteAt h l0 x4q) fun h5q x6q => bn2 (T_isBlank h5q x6q) fun h8q x9q => if x9q = 0 then (T_step_38 h8q l0) else (bnd (op_I h8q l0 4 3) fun x11q => bnd (op_S h8q l0 4 3 (.int (x11q + 1))) fun h12q => T_step_0 n h12q l0))
def T_step (h : pm_H) (t : Nat) : Option (pm_H × Unit) := T_step_0 1000 h t
/-- DunesWalked$Tape.fail()V -/
def T_fail (h : pm_H) (t : Nat) : Option (pm_H × Unit) := bnd (op_I h t 4 2) fun x1q => bnd (op_S h t 4 5 (.int x1q)) fun h2q => bnd (op_S h2q t 4 4 (.int 10022)) fun h3q => some (h3q, ())
/-- DunesWalked$Tape.emit(I)V -/
def T_emit (h : pm_H) (t : Nat) (a1 : Int32) : Option (pm_H × Unit) := bnd (op_I h t 4 7) fun x1q => bnd (op_A h t 4 6) fun x2q => bnd x2q fun u3q => bnd (op_ln h u3q) fun x4q => if x4q ≤ x1q then (some (h, ())) else (bnd (op_A h t 4 6) fun x6q => bnd (op_I h t 4 7) fun x7q => bnd x6q fun u8q => bnd (op_sI h u8q x7q a1) fun h9q => bnd (op_I h9q t 4 7) fun x10q => bnd (op_S h9q t 4 7 (.int (x10q + 1))) fun h11q => some (h11q, ()))
/-- DunesWalked$Tape.expect(I)V -/
def T_expect (h : pm_H) (t : Nat) (a1 : Int32) : Option (pm_H × Unit) := bnd (op_I h t 4 4) fun x1q => if x1q = a1 then (grd (op_is h t 4) <| bn2 (T_step h t) fun h6q _ => some (h6q, ())) else (grd (op_is h t 4) <| bn2 (T_fail h t) fun h3q _ => some (h3q, ()))
/-- DunesWalked$Tape.append(I)V -/
def T_append (h : pm_H) (t : Nat) (a1 : Int32) : Option (pm_H × Unit) := bnd (op_I h t 4 1) fun x1q => bnd (op_A h t 4 0) fun x2q => bnd x2q fun u3q => bnd (op_ln h u3q) fun x4q => if x4q ≤ x1q then (some (h, ())) else (bnd (op_A h t 4 0) fun x6q => bnd (op_I h t 4 1) fun x7q => bnd x6q fun u8q => bnd (op_sB h u8q x7q (Int8.toInt32 (Int32.toInt8 a1))) fun h9q => bnd (op_I h9q t 4 1) fun x10q => bnd (op_S h9q t 4 1 (.int (x10q + 1))) fun h11q => some (h11q, ()))
/-- DunesWalked$Tape.<init>()V -/
def T_init (h : pm_H) (t : Nat) : Option (pm_H × Unit) := bnd (op_nB h 160) fun h1q => nmd (List.length h) fun b2q => bnd (op_S h1q t 4 0 (.ref b2q)) fun h3q => bnd (op_nI h3q 160) fun h4q => nmd (List.length h3q) fun b5q => bnd (op_S h4q t 4 6 (.ref b5q)) fun h6q => some (h6q, ())
/-- DunesWalked$Tape.one(I)V -/
def T_one_97 (r_T_either : pm_H → Nat → Int32 → Option (pm_H × Unit)) (r_T_one : pm_H → Nat → Int32 → Option (pm_H × Unit)) (h : pm_H) (l0 : Nat) : Option (pm_H × Unit) := grd (op_is h l0 4) <| bn2 (T_fail h l0) fun h1q _ => some (h1q, ())
def T_one_61 (r_T_either : pm_H → Nat → Int32 → Option (pm_H × Unit)) (r_T_one : pm_H → Nat → Int32 → Option (pm_H × Unit)) (h : pm_H) (l0 : Nat) (l1 : Int32) : Option (pm_H × Unit) := bnd (op_I h l0 4 4) fun x1q => if x1q = 10018 then (if 5 ≤ l1 then (T_one_97 r_T_either r_T_one h l0) else (grd (op_is h l0 4) <| bn2 (T_step h l0) fun h4q _ => grd (op_is h4q l0 4) <| bn2 (r_T_either h4q l0 (l1 + 1)) fun h7q _ => grd (op_is h7q l0 4) <| bn2 (T_expect h7q l0 10019) fun h10q _ => some (h10q, ()))) else (T_one_97 r_T_either r_T_one h l0)
def T_one (r_T_either : pm_H → Nat → Int32 → Option (pm_H × Unit)) (r_T_one : pm_H → Nat → Int32 → Option (pm_H × Unit)) (h : pm_H) (t : Nat) (a1 : Int32) : Option (pm_H × Unit) := bnd (op_I h t 4 4) fun x1q => if 10005 < x1q then (bnd (op_I h t 4 4) fun x3q => if x3q = 10011 then (if 5 ≤ a1 then (T_one_61 r_T_either r_T_one h t a1) else (grd (op_is h t 4) <| bn2 (T_step h t) fun h6q _ => grd (op_is h6q t 4) <| bn2 (r_T_one h6q t (a1 + 1)) fun h9q _ => grd (op_is h9q t 4) <| bn2 (T_emit h9q t 10014) fun h12q _ => some (h12q, ()))) else (T_one_61 r_T_either r_T_one h t a1)) else (bnd (op_I h t 4 4) fun x15q => grd (op_is h t 4) <| bn2 (T_emit h t x15q) fun h16q _ => grd (op_is h16q t 4) <| bn2 (T_step h16q t) fun h19q _ => some (h19q, ()))
/-- DunesWalked$Tape.term(I)V -/
def T_term_7 (r_T_one : pm_H → Nat → Int32 → Option (pm_H × Unit)) : Nat → pm_H → Nat → Int32 → Int32 → Option (pm_H × Unit)
  | 0, _, _, _, _ => none
  | n + 1, h, l0, l1, l2 => if 160 ≤ l2 then (some (h, ())) else (bnd (op_I h l0 4 4) fun x2q => if x2q = 10012 then (grd (op_is h l0 4) <| bn2 (T_step h l0) fun h4q _ => grd (op_is h4q l0 4) <| bn2 (r_T_one h4q l0 l1) fun h7q _ => grd (op_is h7q l0 4) <| bn2 (T_emit h7q l0 10012) fun h10q _ => nmd (l2 + 1) fun y13q => T_term_7 r_T_one n h10q l0 l1 y13q) else (some (h, ())))
def T_term (r_T_one : pm_H → Nat → Int32 → Option (pm_H × Unit)) (h : pm_H) (t : Nat) (a1 : Int32) : Option (pm_H × Unit) := grd (op_is h t 4) <| bn2 (r_T_one h t a1) fun h1q _ => T_term_7 r_T_one 1000 h1q t a1 0
/-- DunesWalked$Tape.sum(I)V -/
def T_sum_34 (r_T_term : pm_H → Nat → Int32 → Option (pm_H × Unit)) (k_7 : pm_H → Nat → Int32 → Int32 → Option (pm_H × Unit)) (h : pm_H) (l0 : Nat) (l1 : Int32) (l2 : Int32) : Option (pm_H × Unit) := bnd (op_I h l0 4 4) fun x1q => grd (op_is h l0 4) <| bn2 (T_step h l0) fun h2q _ => grd (op_is h2q l0 4) <| bn2 (r_T_term h2q l0 l1) fun h5q _ => grd (op_is h5q l0 4) <| bn2 (T_emit h5q l0 x1q) fun h8q _ => nmd (l2 + 1) fun y11q => k_7 h8q l0 l1 y11q
def T_sum_7 (r_T_term : pm_H → Nat → Int32 → Option (pm_H × Unit)) : Nat → pm_H → Nat → Int32 → Int32 → Option (pm_H × Unit)
  | 0, _, _, _, _ => none
  | n + 1, h, l0, l1, l2 => if 160 ≤ l2 then (some (h, ())) else (bnd (op_I h l0 4 4) fun x2q => if x2q = 10010 then (T_sum_34 r_T_term (T_sum_7 r_T_term n) h l0 l1 l2) else (bnd (op_I h l0 4 4) fun x4q => if x4q = 10011 then (T_sum_34 r_T_term (T_sum_7 r_T_term n) h l0 l1 l2) else (some (h, ()))))
def T_sum (r_T_term : pm_H → Nat → Int32 → Option (pm_H × Unit)) (h : pm_H) (t : Nat) (a1 : Int32) : Option (pm_H × Unit) := grd (op_is h t 4) <| bn2 (r_T_term h t a1) fun h1q _ => T_sum_7 r_T_term 1000 h1q t a1 0
/-- DunesWalked$Tape.denial(I)V -/
def T_denial_64 (r_T_denial : pm_H → Nat → Int32 → Option (pm_H × Unit)) (r_T_sum : pm_H → Nat → Int32 → Option (pm_H × Unit)) (h : pm_H) (l0 : Nat) (l1 : Int32) : Option (pm_H × Unit) := bnd (op_I h l0 4 4) fun x1q => grd (op_is h l0 4) <| bn2 (T_step h l0) fun h2q _ => grd (op_is h2q l0 4) <| bn2 (r_T_sum h2q l0 l1) fun h5q _ => grd (op_is h5q l0 4) <| bn2 (T_emit h5q l0 x1q) fun h8q _ => some (h8q, ())
def T_denial (r_T_denial : pm_H → Nat → Int32 → Option (pm_H × Unit)) (r_T_sum : pm_H → Nat → Int32 → Option (pm_H × Unit)) (h : pm_H) (t : Nat) (a1 : Int32) : Option (pm_H × Unit) := bnd (op_I h t 4 4) fun x1q => if x1q = 10013 then (if a1 < 5 then (grd (op_is h t 4) <| bn2 (T_step h t) fun h11q _ => grd (op_is h11q t 4) <| bn2 (r_T_denial h11q t (a1 + 1)) fun h14q _ => grd (op_is h14q t 4) <| bn2 (T_emit h14q t 10013) fun h17q _ => some (h17q, ())) else (grd (op_is h t 4) <| bn2 (T_fail h t) fun h20q _ => some (h20q, ()))) else (grd (op_is h t 4) <| bn2 (r_T_sum h t a1) fun h3q _ => bnd (op_I h3q t 4 4) fun x6q => if x6q = 10008 then (T_denial_64 r_T_denial r_T_sum h3q t a1) else (bnd (op_I h3q t 4 4) fun x8q => if x8q = 10009 then (T_denial_64 r_T_denial r_T_sum h3q t a1) else (some (h3q, ()))))
/-- DunesWalked$Tape.both(I)V -/
def T_both_7 (r_T_denial : pm_H → Nat → Int32 → Option (pm_H × Unit)) : Nat → pm_H → Nat → Int32 → Int32 → Option (pm_H × Unit)
  | 0, _, _, _, _ => none
  | n + 1, h, l0, l1, l2 => if 160 ≤ l2 then (some (h, ())) else (bnd (op_I h l0 4 4) fun x2q => if x2q = 10007 then (grd (op_is h l0 4) <| bn2 (T_step h l0) fun h4q _ => grd (op_is h4q l0 4) <| bn2 (r_T_denial h4q l0 l1) fun h7q _ => grd (op_is h7q l0 4) <| bn2 (T_emit h7q l0 10007) fun h10q _ => nmd (l2 + 1) fun y13q => T_both_7 r_T_denial n h10q l0 l1 y13q) else (some (h, ())))
def T_both (r_T_denial : pm_H → Nat → Int32 → Option (pm_H × Unit)) (h : pm_H) (t : Nat) (a1 : Int32) : Option (pm_H × Unit) := grd (op_is h t 4) <| bn2 (r_T_denial h t a1) fun h1q _ => T_both_7 r_T_denial 1000 h1q t a1 0
/-- DunesWalked$Tape.either(I)V -/
def T_either_7 (r_T_both : pm_H → Nat → Int32 → Option (pm_H × Unit)) : Nat → pm_H → Nat → Int32 → Int32 → Option (pm_H × Unit)
  | 0, _, _, _, _ => none
  | n + 1, h, l0, l1, l2 => if 160 ≤ l2 then (some (h, ())) else (bnd (op_I h l0 4 4) fun x2q => if x2q = 10006 then (grd (op_is h l0 4) <| bn2 (T_step h l0) fun h4q _ => grd (op_is h4q l0 4) <| bn2 (r_T_both h4q l0 l1) fun h7q _ => grd (op_is h7q l0 4) <| bn2 (T_emit h7q l0 10006) fun h10q _ => nmd (l2 + 1) fun y13q => T_either_7 r_T_both n h10q l0 l1 y13q) else (some (h, ())))
def T_either (r_T_both : pm_H → Nat → Int32 → Option (pm_H × Unit)) (h : pm_H) (t : Nat) (a1 : Int32) : Option (pm_H × Unit) := grd (op_is h t 4) <| bn2 (r_T_both h t a1) fun h1q _ => T_either_7 r_T_both 1000 h1q t a1 0
theorem P_T_byteAt {d : Nat} {h h' : pm_H} {r : Int32} {t : Nat} {a1 : Int32} (hB : T_byteAt h t a1 = some (h', r)) : pm_ev (d + 1) 51 [.ref t, .int a1] h (some (.int r)) h' := by
  unfold T_byteAt at hB
  refine pm_ev_mk (L := [.ref t, .int a1]) pm_m_51 rfl (Nat.le_of_ble_eq_true rfl) rfl ?_
  refine r_iload_n f51_0 rfl ?_
  by_cases c1q : a1 < 0
  · rw [if_pos c1q] at hB
    refine r_if_t (t := 34) f51_1 (by decide) c1q ?_
    refine r_iconst f51_34 ci_m1 ?_
    exact r_iret pm_m_51 .int f51_35 rfl rfl rfl (zI hB)
  · rw [if_neg c1q] at hB
    refine r_if_f 34 f51_1 (by decide) c1q ?_
    refine r_iload_n f51_4 rfl ?_
    refine r_aload_nN f51_5 rfl ?_
    replace hB := bnd_some hB
    obtain ⟨x2q, ex2q, hB⟩ := hB
    refine r_getI f51_6 fa_4_19 ex2q ?_
    by_cases c3q : x2q ≤ a1
    · rw [if_pos c3q] at hB
      refine r_ic_t (t := 34) f51_9 (by decide) c3q ?_
      refine r_iconst f51_34 ci_m1 ?_
      exact r_iret pm_m_51 .int f51_35 rfl rfl rfl (zI hB)
    · rw [if_neg c3q] at hB
      refine r_ic_f 34 f51_9 (by decide) c3q ?_
      refine r_iload_n f51_12 rfl ?_
      refine r_aload_nN f51_13 rfl ?_
      replace hB := bnd_some hB
      obtain ⟨x4q, ex4q, hB⟩ := hB
      refine r_getA f51_14 fa_4_9 ex4q ?_
      replace hB := bnd_some hB
      obtain ⟨u5q, rfl, hB⟩ := hB
      replace hB := bnd_some hB
      obtain ⟨x6q, ex6q, hB⟩ := hB
      refine r_ln f51_17 ex6q ?_
      by_cases c7q : x6q ≤ a1
      · rw [if_pos c7q] at hB
        refine r_ic_t (t := 34) f51_18 (by decide) c7q ?_
        refine r_iconst f51_34 ci_m1 ?_
        exact r_iret pm_m_51 .int f51_35 rfl rfl rfl (zI hB)
      · rw [if_neg c7q] at hB
        refine r_ic_f 34 f51_18 (by decide) c7q ?_
        refine r_aload_nN f51_21 rfl ?_
        replace hB := bnd_some hB
        obtain ⟨x8q, ex8q, hB⟩ := hB
        refine r_getA f51_22 fa_4_9 ex8q ?_
        refine r_iload_n f51_25 rfl ?_
        replace hB := bnd_some hB
        obtain ⟨u9q, rfl, hB⟩ := hB
        replace hB := bnd_some hB
        obtain ⟨x10q, ex10q, hB⟩ := hB
        refine r_aB f51_26 ex10q ?_
        refine r_sipush f51_27 cs_255 ?_
        refine r_iand f51_30 ?_
        refine r_goto (t := 35) f51_31 (by decide) ?_
        exact r_iret pm_m_51 .int f51_35 rfl rfl rfl (zI hB)
theorem P_T_isBlank_12 {d : Nat} {h' : pm_H} {r : Int32} (h : pm_H) (hB : T_isBlank_12 h = some (h', r)) : pm_run (pm_ev (d + 0)) 52 12 [pm_J] [] h (fun r1 h1 => r1 = some (.int r) ∧ h1 = h') := by
  unfold T_isBlank_12 at hB
  refine r_iconst f52_12 ci_1 ?_
  refine r_goto (t := 17) f52_13 (by decide) ?_
  exact r_iret pm_m_52 .boolean f52_17 rfl rfl (bool_n (by decide)) (zI hB)
theorem P_T_isBlank {d : Nat} {h h' : pm_H} {r : Int32} {a0 : Int32} (hB : T_isBlank h a0 = some (h', r)) : pm_ev (d + 1) 52 [.int a0] h (some (.int r)) h' := by
  unfold T_isBlank at hB
  refine pm_ev_mk (L := [.int a0]) pm_m_52 rfl (Nat.le_of_ble_eq_true rfl) rfl ?_
  refine r_iload_n f52_0 rfl ?_
  refine r_bipush f52_1 cb_32 ?_
  by_cases c1q : a0 = 32
  · rw [if_pos c1q] at hB
    refine r_ic_t (t := 12) f52_3 (by decide) c1q ?_
    exact pm_weak (L' := [pm_J]) ⟨.inl rfl, trivial⟩ (P_T_isBlank_12 (d := d) h hB)
  · rw [if_neg c1q] at hB
    refine r_ic_f 12 f52_3 (by decide) c1q ?_
    refine r_iload_n f52_6 rfl ?_
    refine r_bipush f52_7 cb_10 ?_
    by_cases c2q : a0 = 10
    · rw [if_pos c2q] at hB
      refine r_ic_f 16 f52_9 (by decide) (fun q => q c2q) ?_
      exact pm_weak (L' := [pm_J]) ⟨.inl rfl, trivial⟩ (P_T_isBlank_12 (d := d) h hB)
    · rw [if_neg c2q] at hB
      refine r_ic_t (t := 16) f52_9 (by decide) c2q ?_
      refine r_iconst f52_16 ci_0 ?_
      exact r_iret pm_m_52 .boolean f52_17 rfl rfl (bool_n (by decide)) (zI hB)
theorem P_T_isDigit {d : Nat} {h h' : pm_H} {r : Int32} {a0 : Int32} (hB : T_isDigit h a0 = some (h', r)) : pm_ev (d + 1) 53 [.int a0] h (some (.int r)) h' := by
  unfold T_isDigit at hB
  refine pm_ev_mk (L := [.int a0]) pm_m_53 rfl (Nat.le_of_ble_eq_true rfl) rfl ?_
  refine r_iload_n f53_0 rfl ?_
  refine r_bipush f53_1 cb_48 ?_
  by_cases c1q : a0 < 48
  · rw [if_pos c1q] at hB
    refine r_ic_t (t := 16) f53_3 (by decide) c1q ?_
    refine r_iconst f53_16 ci_0 ?_
    exact r_iret pm_m_53 .boolean f53_17 rfl rfl (bool_n (by decide)) (zI hB)
  · rw [if_neg c1q] at hB
    refine r_ic_f 16 f53_3 (by decide) c1q ?_
    refine r_iload_n f53_6 rfl ?_
    refine r_bipush f53_7 cb_57 ?_
    by_cases c2q : 57 < a0
    · rw [if_pos c2q] at hB
      refine r_ic_t (t := 16) f53_9 (by decide) c2q ?_
      refine r_iconst f53_16 ci_0 ?_
      exact r_iret pm_m_53 .boolean f53_17 rfl rfl (bool_n (by decide)) (zI hB)
    · rw [if_neg c2q] at hB
      refine r_ic_f 16 f53_9 (by decide) c2q ?_
      refine r_iconst f53_12 ci_1 ?_
      refine r_goto (t := 17) f53_13 (by decide) ?_
      exact r_iret pm_m_53 .boolean f53_17 rfl rfl (bool_n (by decide)) (zI hB)
theorem P_T_isLetter {d : Nat} {h h' : pm_H} {r : Int32} {a0 : Int32} (hB : T_isLetter h a0 = some (h', r)) : pm_ev (d + 1) 54 [.int a0] h (some (.int r)) h' := by
  unfold T_isLetter at hB
  refine pm_ev_mk (L := [.int a0]) pm_m_54 rfl (Nat.le_of_ble_eq_true rfl) rfl ?_
  refine r_iload_n f54_0 rfl ?_
  refine r_bipush f54_1 cb_97 ?_
  by_cases c1q : a0 < 97
  · rw [if_pos c1q] at hB
    refine r_ic_t (t := 16) f54_3 (by decide) c1q ?_
    refine r_iconst f54_16 ci_0 ?_
    exact r_iret pm_m_54 .boolean f54_17 rfl rfl (bool_n (by decide)) (zI hB)
  · rw [if_neg c1q] at hB
    refine r_ic_f 16 f54_3 (by decide) c1q ?_
    refine r_iload_n f54_6 rfl ?_
    refine r_bipush f54_7 cb_122 ?_
    by_cases c2q : 122 < a0
    · rw [if_pos c2q] at hB
      refine r_ic_t (t := 16) f54_9 (by decide) c2q ?_
      refine r_iconst f54_16 ci_0 ?_
      exact r_iret pm_m_54 .boolean f54_17 rfl rfl (bool_n (by decide)) (zI hB)
    · rw [if_neg c2q] at hB
      refine r_ic_f 16 f54_9 (by decide) c2q ?_
      refine r_iconst f54_12 ci_1 ?_
      refine r_goto (t := 17) f54_13 (by decide) ?_
      exact r_iret pm_m_54 .boolean f54_17 rfl rfl (bool_n (by decide)) (zI hB)
theorem P_T_readNumber_78 {d : Nat} {h' : pm_H} {r : Unit} (h : pm_H) (s0 : Int32) (s1 : Nat) (hB : T_readNumber_78 h s0 s1 = some (h', r)) : pm_run (pm_ev (d + 1)) 47 78 [pm_J, pm_J] [.int s0, .ref s1] h (fun r1 h1 => r1 = none ∧ h1 = h') := by
  unfold T_readNumber_78 at hB
  replace hB := bnd_some hB
  obtain ⟨h1q, eh1q, hB⟩ := hB
  refine r_put f47_78 fa_4_59 ty_4_4 rfl rfl (no_fin (nf_4_4)) eh1q ?_
  exact r_vret pm_m_47 f47_81 rfl rfl (zV hB)
theorem P_T_readNumber_57 {d : Nat} {h' : pm_H} {r : Unit} (h : pm_H) (l0 : Nat) (l1 : Int32) (hB : T_readNumber_57 h l0 l1 = some (h', r)) : pm_run (pm_ev (d + 1)) 47 57 [.ref l0, .int l1] [] h (fun r1 h1 => r1 = none ∧ h1 = h') := by
  unfold T_readNumber_57 at hB
  refine r_aload_nN f47_57 rfl ?_
  refine r_aload_nN f47_58 rfl ?_
  replace hB := bnd_some hB
  obtain ⟨x1q, ex1q, hB⟩ := hB
  refine r_getI f47_59 fa_4_29 ex1q ?_
  refine r_aload_nN f47_62 rfl ?_
  replace hB := bnd_some hB
  obtain ⟨x2q, ex2q, hB⟩ := hB
  refine r_getI f47_63 fa_4_80 ex2q ?_
  refine r_isub f47_66 ?_
  refine r_iconst f47_67 ci_4 ?_
  by_cases c3q : (x1q - x2q) ≤ 4
  · rw [if_pos c3q] at hB
    refine r_ic_t (t := 77) f47_68 (by decide) c3q ?_
    refine r_iload_n f47_77 rfl ?_
    exact pm_weak (L' := [pm_J, pm_J]) ⟨.inl rfl, .inl rfl, trivial⟩ (P_T_readNumber_78 (d := d) h l1 l0 hB)
  · rw [if_neg c3q] at hB
    refine r_ic_f 77 f47_68 (by decide) c3q ?_
    refine r_sipush f47_71 cs_10022 ?_
    refine r_goto (t := 78) f47_74 (by decide) ?_
    exact pm_weak (L' := [pm_J, pm_J]) ⟨.inl rfl, .inl rfl, trivial⟩ (P_T_readNumber_78 (d := d) h 10022 l0 hB)
theorem P_T_readNumber_2 {d : Nat} {h' : pm_H} {r : Unit} (n : Nat) : ∀ (h : pm_H) (l0 : Nat) (l1 : Int32), T_readNumber_2 n h l0 l1 = some (h', r) → pm_run (pm_ev (d + 1)) 47 2 [.ref l0, .int l1] [] h (fun r1 h1 => r1 = none ∧ h1 = h') := by
  induction n with
  | zero => intro h l0 l1 hB; cases hB
  | succ n ih =>
    intro h l0 l1 hB
    unfold T_readNumber_2 at hB
    refine r_aload_nN f47_2 rfl ?_
    replace hB := bnd_some hB
    obtain ⟨x1q, ex1q, hB⟩ := hB
    refine r_getI f47_3 fa_4_29 ex1q ?_
    refine r_aload_nN f47_6 rfl ?_
    replace hB := bnd_some hB
    obtain ⟨x2q, ex2q, hB⟩ := hB
    refine r_getI f47_7 fa_4_19 ex2q ?_
    by_cases c3q : x2q ≤ x1q
    · rw [if_pos c3q] at hB
      refine r_ic_t (t := 57) f47_10 (by decide) c3q ?_
      exact pm_weak (L' := [.ref l0, .int l1]) ⟨.inr rfl, .inr rfl, trivial⟩ (P_T_readNumber_57 (d := d) h l0 l1 hB)
    · rw [if_neg c3q] at hB
      refine r_ic_f 57 f47_10 (by decide) c3q ?_
      refine r_aload_nN f47_13 rfl ?_
      refine r_aload_nN f47_14 rfl ?_
      replace hB := bnd_some hB
      obtain ⟨x4q, ex4q, hB⟩ := hB
      refine r_getI f47_15 fa_4_29 ex4q ?_
      replace hB := grd_some hB
      obtain ⟨g7q, hB⟩ := hB
      replace hB := bn2_some hB
      obtain ⟨h5q, x6q, eh5q, hB⟩ := hB
      refine r_virtV (as := [.int x4q]) (q := pm_m_51) f47_18 ca_4_83 rfl rfl rfl (cs_len (Nat.le_of_ble_eq_true rfl)) g7q (P_T_byteAt (d := d + 0) eh5q) ?_
      replace hB := bn2_some hB
      obtain ⟨h8q, x9q, eh8q, hB⟩ := hB
      refine r_statV (as := [.int x6q]) (q := pm_m_53) f47_21 ca_4_91 rfl (by decide) rfl rfl (cs_len (Nat.le_of_ble_eq_true rfl)) (P_T_isDigit (d := d + 0) eh8q) ?_
      by_cases c10q : x9q = 0
      · rw [if_pos c10q] at hB
        refine r_if_t (t := 57) f47_24 (by decide) c10q ?_
        exact pm_weak (L' := [.ref l0, .int l1]) ⟨.inr rfl, .inr rfl, trivial⟩ (P_T_readNumber_57 (d := d) h8q l0 l1 hB)
      · rw [if_neg c10q] at hB
        refine r_if_f 57 f47_24 (by decide) c10q ?_
        refine r_iload_n f47_27 rfl ?_
        refine r_bipush f47_28 cb_10 ?_
        refine r_imul f47_30 ?_
        refine r_aload_nN f47_31 rfl ?_
        refine r_aload_nN f47_32 rfl ?_
        replace hB := bnd_some hB
        obtain ⟨x11q, ex11q, hB⟩ := hB
        refine r_getI f47_33 fa_4_29 ex11q ?_
        replace hB := grd_some hB
        obtain ⟨g14q, hB⟩ := hB
        replace hB := bn2_some hB
        obtain ⟨h12q, x13q, eh12q, hB⟩ := hB
        refine r_virtV (as := [.int x11q]) (q := pm_m_51) f47_36 ca_4_83 rfl rfl rfl (cs_len (Nat.le_of_ble_eq_true rfl)) g14q (P_T_byteAt (d := d + 0) eh12q) ?_
        refine r_iadd f47_39 ?_
        refine r_bipush f47_40 cb_48 ?_
        refine r_isub f47_42 ?_
        obtain ⟨y15q, hy15q⟩ : ∃ z, z = (((l1 * 10) + x13q) - 48) := ⟨_, rfl⟩
        replace hB := nmd_at hy15q hB
        refine r_istore_n (L' := [.ref l0, .int y15q]) (x := y15q) f47_43 hy15q (Nat.le_of_ble_eq_true rfl) rfl ?_
        refine r_aload_nN f47_44 rfl ?_
        refine r_dupN f47_45 ?_
        replace hB := bnd_some hB
        obtain ⟨x16q, ex16q, hB⟩ := hB
        refine r_getI f47_46 fa_4_29 ex16q ?_
        refine r_iconst f47_49 ci_1 ?_
        refine r_iadd f47_50 ?_
        replace hB := bnd_some hB
        obtain ⟨h17q, eh17q, hB⟩ := hB
        refine r_put f47_51 fa_4_29 ty_4_3 rfl rfl (no_fin (nf_4_3)) eh17q ?_
        refine r_goto (t := 2) f47_54 (by decide) ?_
        exact pm_weak (L' := [.ref l0, .int y15q]) ⟨.inr rfl, .inr rfl, trivial⟩ (ih h17q l0 y15q hB)
theorem P_T_readNumber {d : Nat} {h h' : pm_H} {r : Unit} {t : Nat} (hB : T_readNumber h t = some (h', r)) : pm_ev (d + 2) 47 [.ref t] h none h' := by
  unfold T_readNumber at hB
  refine pm_ev_mk (L := [.ref t, pm_J]) pm_m_47 rfl (Nat.le_of_ble_eq_true rfl) rfl ?_
  refine r_iconst f47_0 ci_0 ?_
  refine r_istore_n (L' := [.ref t, .int 0]) (x := 0) f47_1 rfl (Nat.le_of_ble_eq_true rfl) rfl ?_
  exact pm_weak (L' := [.ref t, .int 0]) ⟨.inr rfl, .inr rfl, trivial⟩ (P_T_readNumber_2 (d := d) 1000 h t 0 hB)
theorem P_T_sign {d : Nat} {h h' : pm_H} {r : Int32} {a0 : Int32} (hB : T_sign h a0 = some (h', r)) : pm_ev (d + 1) 50 [.int a0] h (some (.int r)) h' := by
  unfold T_sign at hB
  refine pm_ev_mk (L := [.int a0]) pm_m_50 rfl (Nat.le_of_ble_eq_true rfl) rfl ?_
  refine r_iload_n f50_0 rfl ?_
  by_cases c1q : a0 = 40
  · rw [if_pos c1q] at hB
    refine r_tsw (off := 103) (t := 104) f50_1 c1q (by decide) (by decide) (by decide) (by decide) ?_
    refine r_sipush f50_104 cs_10018 ?_
    exact r_iret pm_m_50 .int f50_107 rfl rfl rfl (zI hB)
  rw [if_neg c1q] at hB
  by_cases c2q : a0 = 41
  · rw [if_pos c2q] at hB
    refine r_tsw (off := 107) (t := 108) f50_1 c2q (by decide) (by decide) (by decide) (by decide) ?_
    refine r_sipush f50_108 cs_10019 ?_
    exact r_iret pm_m_50 .int f50_111 rfl rfl rfl (zI hB)
  rw [if_neg c2q] at hB
  by_cases c3q : a0 = 42
  · rw [if_pos c3q] at hB
    refine r_tsw (off := 123) (t := 124) f50_1 c3q (by decide) (by decide) (by decide) (by decide) ?_
    refine r_sipush f50_124 cs_10012 ?_
    exact r_iret pm_m_50 .int f50_127 rfl rfl rfl (zI hB)
  rw [if_neg c3q] at hB
  by_cases c4q : a0 = 43
  · rw [if_pos c4q] at hB
    refine r_tsw (off := 115) (t := 116) f50_1 c4q (by decide) (by decide) (by decide) (by decide) ?_
    refine r_sipush f50_116 cs_10010 ?_
    exact r_iret pm_m_50 .int f50_119 rfl rfl rfl (zI hB)
  rw [if_neg c4q] at hB
  by_cases c5q : a0 = 44
  · rw [if_pos c5q] at hB
    refine r_tsw (off := 135) (t := 136) f50_1 c5q (by decide) (by decide) (by decide) (by decide) ?_
    refine r_sipush f50_136 cs_10022 ?_
    exact r_iret pm_m_50 .int f50_139 rfl rfl rfl (zI hB)
  rw [if_neg c5q] at hB
  by_cases c6q : a0 = 45
  · rw [if_pos c6q] at hB
    refine r_tsw (off := 119) (t := 120) f50_1 c6q (by decide) (by decide) (by decide) (by decide) ?_
    refine r_sipush f50_120 cs_10011 ?_
    exact r_iret pm_m_50 .int f50_123 rfl rfl rfl (zI hB)
  rw [if_neg c6q] at hB
  by_cases c7q : a0 = 46
  · rw [if_pos c7q] at hB
    refine r_tsw (off := 135) (t := 136) f50_1 c7q (by decide) (by decide) (by decide) (by decide) ?_
    refine r_sipush f50_136 cs_10022 ?_
    exact r_iret pm_m_50 .int f50_139 rfl rfl rfl (zI hB)
  rw [if_neg c7q] at hB
  by_cases c8q : a0 = 47
  · rw [if_pos c8q] at hB
    refine r_tsw (off := 135) (t := 136) f50_1 c8q (by decide) (by decide) (by decide) (by decide) ?_
    refine r_sipush f50_136 cs_10022 ?_
    exact r_iret pm_m_50 .int f50_139 rfl rfl rfl (zI hB)
  rw [if_neg c8q] at hB
  by_cases c9q : a0 = 48
  · rw [if_pos c9q] at hB
    refine r_tsw (off := 135) (t := 136) f50_1 c9q (by decide) (by decide) (by decide) (by decide) ?_
    refine r_sipush f50_136 cs_10022 ?_
    exact r_iret pm_m_50 .int f50_139 rfl rfl rfl (zI hB)
  rw [if_neg c9q] at hB
  by_cases c10q : a0 = 49
  · rw [if_pos c10q] at hB
    refine r_tsw (off := 135) (t := 136) f50_1 c10q (by decide) (by decide) (by decide) (by decide) ?_
    refine r_sipush f50_136 cs_10022 ?_
    exact r_iret pm_m_50 .int f50_139 rfl rfl rfl (zI hB)
  rw [if_neg c10q] at hB
  by_cases c11q : a0 = 50
  · rw [if_pos c11q] at hB
    refine r_tsw (off := 135) (t := 136) f50_1 c11q (by decide) (by decide) (by decide) (by decide) ?_
    refine r_sipush f50_136 cs_10022 ?_
    exact r_iret pm_m_50 .int f50_139 rfl rfl rfl (zI hB)
  rw [if_neg c11q] at hB
  by_cases c12q : a0 = 51
  · rw [if_pos c12q] at hB
    refine r_tsw (off := 135) (t := 136) f50_1 c12q (by decide) (by decide) (by decide) (by decide) ?_
    refine r_sipush f50_136 cs_10022 ?_
    exact r_iret pm_m_50 .int f50_139 rfl rfl rfl (zI hB)
  rw [if_neg c12q] at hB
  by_cases c13q : a0 = 52
  · rw [if_pos c13q] at hB
    refine r_tsw (off := 135) (t := 136) f50_1 c13q (by decide) (by decide) (by decide) (by decide) ?_
    refine r_sipush f50_136 cs_10022 ?_
    exact r_iret pm_m_50 .int f50_139 rfl rfl rfl (zI hB)
  rw [if_neg c13q] at hB
  by_cases c14q : a0 = 53
  · rw [if_pos c14q] at hB
    refine r_tsw (off := 135) (t := 136) f50_1 c14q (by decide) (by decide) (by decide) (by decide) ?_
    refine r_sipush f50_136 cs_10022 ?_
    exact r_iret pm_m_50 .int f50_139 rfl rfl rfl (zI hB)
  rw [if_neg c14q] at hB
  by_cases c15q : a0 = 54
  · rw [if_pos c15q] at hB
    refine r_tsw (off := 135) (t := 136) f50_1 c15q (by decide) (by decide) (by decide) (by decide) ?_
    refine r_sipush f50_136 cs_10022 ?_
    exact r_iret pm_m_50 .int f50_139 rfl rfl rfl (zI hB)
  rw [if_neg c15q] at hB
  by_cases c16q : a0 = 55
  · rw [if_pos c16q] at hB
    refine r_tsw (off := 135) (t := 136) f50_1 c16q (by decide) (by decide) (by decide) (by decide) ?_
    refine r_sipush f50_136 cs_10022 ?_
    exact r_iret pm_m_50 .int f50_139 rfl rfl rfl (zI hB)
  rw [if_neg c16q] at hB
  by_cases c17q : a0 = 56
  · rw [if_pos c17q] at hB
    refine r_tsw (off := 135) (t := 136) f50_1 c17q (by decide) (by decide) (by decide) (by decide) ?_
    refine r_sipush f50_136 cs_10022 ?_
    exact r_iret pm_m_50 .int f50_139 rfl rfl rfl (zI hB)
  rw [if_neg c17q] at hB
  by_cases c18q : a0 = 57
  · rw [if_pos c18q] at hB
    refine r_tsw (off := 135) (t := 136) f50_1 c18q (by decide) (by decide) (by decide) (by decide) ?_
    refine r_sipush f50_136 cs_10022 ?_
    exact r_iret pm_m_50 .int f50_139 rfl rfl rfl (zI hB)
  rw [if_neg c18q] at hB
  by_cases c19q : a0 = 58
  · rw [if_pos c19q] at hB
    refine r_tsw (off := 135) (t := 136) f50_1 c19q (by decide) (by decide) (by decide) (by decide) ?_
    refine r_sipush f50_136 cs_10022 ?_
    exact r_iret pm_m_50 .int f50_139 rfl rfl rfl (zI hB)
  rw [if_neg c19q] at hB
  by_cases c20q : a0 = 59
  · rw [if_pos c20q] at hB
    refine r_tsw (off := 111) (t := 112) f50_1 c20q (by decide) (by decide) (by decide) (by decide) ?_
    refine r_sipush f50_112 cs_10020 ?_
    exact r_iret pm_m_50 .int f50_115 rfl rfl rfl (zI hB)
  rw [if_neg c20q] at hB
  by_cases c21q : a0 = 60
  · rw [if_pos c21q] at hB
    refine r_tsw (off := 127) (t := 128) f50_1 c21q (by decide) (by decide) (by decide) (by decide) ?_
    refine r_sipush f50_128 cs_10008 ?_
    exact r_iret pm_m_50 .int f50_131 rfl rfl rfl (zI hB)
  rw [if_neg c21q] at hB
  by_cases c22q : a0 = 61
  · rw [if_pos c22q] at hB
    refine r_tsw (off := 131) (t := 132) f50_1 c22q (by decide) (by decide) (by decide) (by decide) ?_
    refine r_sipush f50_132 cs_10009 ?_
    exact r_iret pm_m_50 .int f50_135 rfl rfl rfl (zI hB)
  rw [if_neg c22q] at hB
  refine r_tswD (t := 136) f50_1 (sw_out 22 (lt_s (lt_s (lt_s (lt_s (lt_s (lt_s (lt_s (lt_s (lt_s (lt_s (lt_s (lt_s (lt_s (lt_s (lt_s (lt_s (lt_s (lt_s (lt_s (lt_s (lt_s (lt_s (lt_0) (sw_ne c1q (by decide))) (sw_ne c2q (by decide))) (sw_ne c3q (by decide))) (sw_ne c4q (by decide))) (sw_ne c5q (by decide))) (sw_ne c6q (by decide))) (sw_ne c7q (by decide))) (sw_ne c8q (by decide))) (sw_ne c9q (by decide))) (sw_ne c10q (by decide))) (sw_ne c11q (by decide))) (sw_ne c12q (by decide))) (sw_ne c13q (by decide))) (sw_ne c14q (by decide))) (sw_ne c15q (by decide))) (sw_ne c16q (by decide))) (sw_ne c17q (by decide))) (sw_ne c18q (by decide))) (sw_ne c19q (by decide))) (sw_ne c20q (by decide))) (sw_ne c21q (by decide))) (sw_ne c22q (by decide))) (by decide)) (by decide) ?_
  refine r_sipush f50_136 cs_10022 ?_
  exact r_iret pm_m_50 .int f50_139 rfl rfl rfl (zI hB)
theorem P_T_spells_39 {d : Nat} {h' : pm_H} {r : Int32} (n : Nat) : ∀ (h : pm_H) (l0 : Nat) (l1 : Nat) (l2 : Int32), T_spells_39 n h l0 l1 l2 = some (h', r) → pm_run (pm_ev (d + 4)) 49 39 [.ref l0, .retAddr l1, .int l2] [] h (fun r1 h1 => r1 = some (.int r) ∧ h1 = h') := by
  induction n with
  | zero => intro h l0 l1 l2 hB; cases hB
  | succ n ih =>
    intro h l0 l1 l2 hB
    unfold T_spells_39 at hB
    refine r_iload_n f49_39 rfl ?_
    refine r_aload_nS f49_40 rfl ?_
    replace hB := grd_some hB
    obtain ⟨g3q, hB⟩ := hB
    replace hB := bn2_some hB
    obtain ⟨h1q, x2q, eh1q, hB⟩ := hB
    refine r_virSV (as := []) (q := pm_m_190) f49_41 ca_4_134 rfl rfl rfl (cs_len (Nat.le_of_ble_eq_true rfl)) (of_decide_eq_true g3q) (P_Js_length (d := d + 2) eh1q) ?_
    by_cases c4q : x2q ≤ l2
    · rw [if_pos c4q] at hB
      refine r_ic_t (t := 74) f49_44 (by decide) c4q ?_
      refine r_iconst f49_74 ci_1 ?_
      exact r_iret pm_m_49 .boolean f49_75 rfl rfl (bool_n (by decide)) (zI hB)
    · rw [if_neg c4q] at hB
      refine r_ic_f 74 f49_44 (by decide) c4q ?_
      refine r_aload_nN f49_47 rfl ?_
      replace hB := bnd_some hB
      obtain ⟨x5q, ex5q, hB⟩ := hB
      refine r_getA f49_48 fa_4_9 ex5q ?_
      refine r_aload_nN f49_51 rfl ?_
      replace hB := bnd_some hB
      obtain ⟨x6q, ex6q, hB⟩ := hB
      refine r_getI f49_52 fa_4_80 ex6q ?_
      refine r_iload_n f49_55 rfl ?_
      refine r_iadd f49_56 ?_
      replace hB := bnd_some hB
      obtain ⟨u7q, rfl, hB⟩ := hB
      replace hB := bnd_some hB
      obtain ⟨x8q, ex8q, hB⟩ := hB
      refine r_aB f49_57 ex8q ?_
      refine r_aload_nS f49_58 rfl ?_
      refine r_iload_n f49_59 rfl ?_
      replace hB := grd_some hB
      obtain ⟨g11q, hB⟩ := hB
      replace hB := bn2_some hB
      obtain ⟨h9q, x10q, eh9q, hB⟩ := hB
      refine r_virSV (as := [.int l2]) (q := pm_m_191) f49_60 ca_4_140 rfl rfl rfl (cs_len (Nat.le_of_ble_eq_true rfl)) (of_decide_eq_true g11q) (P_Js_charAt (d := d + 0) eh9q) ?_
      by_cases c12q : x8q = x10q
      · rw [if_pos c12q] at hB
        refine r_ic_t (t := 68) f49_63 (by decide) c12q ?_
        obtain ⟨y13q, hy13q⟩ : ∃ z, z = l2 + 1 := ⟨_, rfl⟩
        replace hB := nmd_at hy13q hB
        refine r_iinc (L' := [.ref l0, .retAddr l1, .int y13q]) (x := y13q) f49_68 rfl (hy13q.trans (congrArg (l2 + ·) ci_1.symm)) rfl ?_
        refine r_goto (t := 39) f49_71 (by decide) ?_
        exact pm_weak (L' := [.ref l0, .retAddr l1, .int y13q]) ⟨.inr rfl, .inr rfl, .inr rfl, trivial⟩ (ih h9q l0 l1 y13q hB)
      · rw [if_neg c12q] at hB
        refine r_ic_f 68 f49_63 (by decide) c12q ?_
        refine r_iconst f49_66 ci_0 ?_
        exact r_iret pm_m_49 .boolean f49_67 rfl rfl (bool_n (by decide)) (zI hB)
theorem P_T_spells {d : Nat} {h h' : pm_H} {r : Int32} {t : Nat} {a1 : Nat} (hB : T_spells h t a1 = some (h', r)) : pm_ev (d + 5) 49 [.ref t, .retAddr a1] h (some (.int r)) h' := by
  unfold T_spells at hB
  refine pm_ev_mk (L := [.ref t, .retAddr a1, pm_J]) pm_m_49 rfl (Nat.le_of_ble_eq_true rfl) rfl ?_
  refine r_aload_nN f49_0 rfl ?_
  replace hB := bnd_some hB
  obtain ⟨x1q, ex1q, hB⟩ := hB
  refine r_getI f49_1 fa_4_29 ex1q ?_
  refine r_aload_nN f49_4 rfl ?_
  replace hB := bnd_some hB
  obtain ⟨x2q, ex2q, hB⟩ := hB
  refine r_getI f49_5 fa_4_80 ex2q ?_
  refine r_isub f49_8 ?_
  refine r_aload_nS f49_9 rfl ?_
  replace hB := grd_some hB
  obtain ⟨g5q, hB⟩ := hB
  replace hB := bn2_some hB
  obtain ⟨h3q, x4q, eh3q, hB⟩ := hB
  refine r_virSV (as := []) (q := pm_m_190) f49_10 ca_4_134 rfl rfl rfl (cs_len (Nat.le_of_ble_eq_true rfl)) (of_decide_eq_true g5q) (P_Js_length (d := d + 2) eh3q) ?_
  by_cases c6q : (x1q - x2q) = x4q
  · rw [if_pos c6q] at hB
    refine r_ic_f 35 f49_13 (by decide) (fun q => q c6q) ?_
    refine r_aload_nN f49_16 rfl ?_
    replace hB := bnd_some hB
    obtain ⟨x7q, ex7q, hB⟩ := hB
    refine r_getI f49_17 fa_4_80 ex7q ?_
    by_cases c8q : x7q < 0
    · rw [if_pos c8q] at hB
      refine r_if_t (t := 35) f49_20 (by decide) c8q ?_
      refine r_iconst f49_35 ci_0 ?_
      exact r_iret pm_m_49 .boolean f49_36 rfl rfl (bool_n (by decide)) (zI hB)
    · rw [if_neg c8q] at hB
      refine r_if_f 35 f49_20 (by decide) c8q ?_
      refine r_aload_nN f49_23 rfl ?_
      replace hB := bnd_some hB
      obtain ⟨x9q, ex9q, hB⟩ := hB
      refine r_getI f49_24 fa_4_29 ex9q ?_
      refine r_aload_nN f49_27 rfl ?_
      replace hB := bnd_some hB
      obtain ⟨x10q, ex10q, hB⟩ := hB
      refine r_getA f49_28 fa_4_9 ex10q ?_
      replace hB := bnd_some hB
      obtain ⟨u11q, rfl, hB⟩ := hB
      replace hB := bnd_some hB
      obtain ⟨x12q, ex12q, hB⟩ := hB
      refine r_ln f49_31 ex12q ?_
      by_cases c13q : x9q ≤ x12q
      · rw [if_pos c13q] at hB
        refine r_ic_t (t := 37) f49_32 (by decide) c13q ?_
        refine r_iconst f49_37 ci_0 ?_
        refine r_istore_n (L' := [.ref t, .retAddr a1, .int 0]) (x := 0) f49_38 rfl (Nat.le_of_ble_eq_true rfl) rfl ?_
        exact pm_weak (L' := [.ref t, .retAddr a1, .int 0]) ⟨.inr rfl, .inr rfl, .inr rfl, trivial⟩ (P_T_spells_39 (d := d) 1000 h3q t a1 0 hB)
      · rw [if_neg c13q] at hB
        refine r_ic_f 37 f49_32 (by decide) c13q ?_
        refine r_iconst f49_35 ci_0 ?_
        exact r_iret pm_m_49 .boolean f49_36 rfl rfl (bool_n (by decide)) (zI hB)
  · rw [if_neg c6q] at hB
    refine r_ic_t (t := 35) f49_13 (by decide) c6q ?_
    refine r_iconst f49_35 ci_0 ?_
    exact r_iret pm_m_49 .boolean f49_36 rfl rfl (bool_n (by decide)) (zI hB)
theorem P_T_readWord_222 {d : Nat} {h' : pm_H} {r : Unit} (h : pm_H) (s0 : Int32) (s1 : Nat) (hB : T_readWord_222 h s0 s1 = some (h', r)) : pm_run (pm_ev (d + 5)) 48 222 [pm_J] [.int s0, .ref s1] h (fun r1 h1 => r1 = none ∧ h1 = h') := by
  unfold T_readWord_222 at hB
  replace hB := bnd_some hB
  obtain ⟨h1q, eh1q, hB⟩ := hB
  refine r_put f48_222 fa_4_59 ty_4_4 rfl rfl (no_fin (nf_4_4)) eh1q ?_
  exact r_vret pm_m_48 f48_225 rfl rfl (zV hB)
theorem P_T_readWord_38 {d : Nat} {h' : pm_H} {r : Unit} (h : pm_H) (l0 : Nat) (hB : T_readWord_38 h l0 = some (h', r)) : pm_run (pm_ev (d + 5)) 48 38 [.ref l0] [] h (fun r1 h1 => r1 = none ∧ h1 = h') := by
  unfold T_readWord_38 at hB
  refine r_aload_nN f48_38 rfl ?_
  refine r_aload_nN f48_39 rfl ?_
  refine r_ldcS (j := 0) f48_40 rfl ?_
  replace hB := grd_some hB
  obtain ⟨g3q, hB⟩ := hB
  replace hB := bn2_some hB
  obtain ⟨h1q, x2q, eh1q, hB⟩ := hB
  refine r_virtV (as := [.retAddr 0]) (q := pm_m_49) f48_42 ca_4_108 rfl rfl rfl (cs_len (Nat.le_of_ble_eq_true rfl)) g3q (P_T_spells (d := d + 0) eh1q) ?_
  by_cases c4q : x2q = 0
  · rw [if_pos c4q] at hB
    refine r_if_t (t := 54) f48_45 (by decide) c4q ?_
    refine r_aload_nN f48_54 rfl ?_
    refine r_ldcS (j := 1) f48_55 rfl ?_
    replace hB := grd_some hB
    obtain ⟨g7q, hB⟩ := hB
    replace hB := bn2_some hB
    obtain ⟨h5q, x6q, eh5q, hB⟩ := hB
    refine r_virtV (as := [.retAddr 1]) (q := pm_m_49) f48_57 ca_4_108 rfl rfl rfl (cs_len (Nat.le_of_ble_eq_true rfl)) g7q (P_T_spells (d := d + 0) eh5q) ?_
    by_cases c8q : x6q = 0
    · rw [if_pos c8q] at hB
      refine r_if_t (t := 69) f48_60 (by decide) c8q ?_
      refine r_aload_nN f48_69 rfl ?_
      refine r_ldcS (j := 2) f48_70 rfl ?_
      replace hB := grd_some hB
      obtain ⟨g11q, hB⟩ := hB
      replace hB := bn2_some hB
      obtain ⟨h9q, x10q, eh9q, hB⟩ := hB
      refine r_virtV (as := [.retAddr 2]) (q := pm_m_49) f48_72 ca_4_108 rfl rfl rfl (cs_len (Nat.le_of_ble_eq_true rfl)) g11q (P_T_spells (d := d + 0) eh9q) ?_
      by_cases c12q : x10q = 0
      · rw [if_pos c12q] at hB
        refine r_if_t (t := 84) f48_75 (by decide) c12q ?_
        refine r_aload_nN f48_84 rfl ?_
        refine r_ldcS (j := 3) f48_85 rfl ?_
        replace hB := grd_some hB
        obtain ⟨g15q, hB⟩ := hB
        replace hB := bn2_some hB
        obtain ⟨h13q, x14q, eh13q, hB⟩ := hB
        refine r_virtV (as := [.retAddr 3]) (q := pm_m_49) f48_87 ca_4_108 rfl rfl rfl (cs_len (Nat.le_of_ble_eq_true rfl)) g15q (P_T_spells (d := d + 0) eh13q) ?_
        by_cases c16q : x14q = 0
        · rw [if_pos c16q] at hB
          refine r_if_t (t := 99) f48_90 (by decide) c16q ?_
          refine r_aload_nN f48_99 rfl ?_
          refine r_ldcS (j := 4) f48_100 rfl ?_
          replace hB := grd_some hB
          obtain ⟨g19q, hB⟩ := hB
          replace hB := bn2_some hB
          obtain ⟨h17q, x18q, eh17q, hB⟩ := hB
          refine r_virtV (as := [.retAddr 4]) (q := pm_m_49) f48_102 ca_4_108 rfl rfl rfl (cs_len (Nat.le_of_ble_eq_true rfl)) g19q (P_T_spells (d := d + 0) eh17q) ?_
          by_cases c20q : x18q = 0
          · rw [if_pos c20q] at hB
            refine r_if_t (t := 114) f48_105 (by decide) c20q ?_
            refine r_aload_nN f48_114 rfl ?_
            refine r_ldcS (j := 5) f48_115 rfl ?_
            replace hB := grd_some hB
            obtain ⟨g23q, hB⟩ := hB
            replace hB := bn2_some hB
            obtain ⟨h21q, x22q, eh21q, hB⟩ := hB
            refine r_virtV (as := [.retAddr 5]) (q := pm_m_49) f48_117 ca_4_108 rfl rfl rfl (cs_len (Nat.le_of_ble_eq_true rfl)) g23q (P_T_spells (d := d + 0) eh21q) ?_
            by_cases c24q : x22q = 0
            · rw [if_pos c24q] at hB
              refine r_if_t (t := 129) f48_120 (by decide) c24q ?_
              refine r_aload_nN f48_129 rfl ?_
              refine r_ldcS (j := 6) f48_130 rfl ?_
              replace hB := grd_some hB
              obtain ⟨g27q, hB⟩ := hB
              replace hB := bn2_some hB
              obtain ⟨h25q, x26q, eh25q, hB⟩ := hB
              refine r_virtV (as := [.retAddr 6]) (q := pm_m_49) f48_132 ca_4_108 rfl rfl rfl (cs_len (Nat.le_of_ble_eq_true rfl)) g27q (P_T_spells (d := d + 0) eh25q) ?_
              by_cases c28q : x26q = 0
              · rw [if_pos c28q] at hB
                refine r_if_t (t := 144) f48_135 (by decide) c28q ?_
                refine r_aload_nN f48_144 rfl ?_
                refine r_ldcS (j := 7) f48_145 rfl ?_
                replace hB := grd_some hB
                obtain ⟨g31q, hB⟩ := hB
                replace hB := bn2_some hB
                obtain ⟨h29q, x30q, eh29q, hB⟩ := hB
                refine r_virtV (as := [.retAddr 7]) (q := pm_m_49) f48_147 ca_4_108 rfl rfl rfl (cs_len (Nat.le_of_ble_eq_true rfl)) g31q (P_T_spells (d := d + 0) eh29q) ?_
                by_cases c32q : x30q = 0
                · rw [if_pos c32q] at hB
                  refine r_if_t (t := 159) f48_150 (by decide) c32q ?_
                  refine r_aload_nN f48_159 rfl ?_
                  refine r_ldcS (j := 8) f48_160 rfl ?_
                  replace hB := grd_some hB
                  obtain ⟨g35q, hB⟩ := hB
                  replace hB := bn2_some hB
                  obtain ⟨h33q, x34q, eh33q, hB⟩ := hB
                  refine r_virtV (as := [.retAddr 8]) (q := pm_m_49) f48_162 ca_4_108 rfl rfl rfl (cs_len (Nat.le_of_ble_eq_true rfl)) g35q (P_T_spells (d := d + 0) eh33q) ?_
                  by_cases c36q : x34q = 0
                  · rw [if_pos c36q] at hB
                    refine r_if_t (t := 174) f48_165 (by decide) c36q ?_
                    refine r_aload_nN f48_174 rfl ?_
                    refine r_ldcS (j := 9) f48_175 rfl ?_
                    replace hB := grd_some hB
                    obtain ⟨g39q, hB⟩ := hB
                    replace hB := bn2_some hB
                    obtain ⟨h37q, x38q, eh37q, hB⟩ := hB
                    refine r_virtV (as := [.retAddr 9]) (q := pm_m_49) f48_177 ca_4_108 rfl rfl rfl (cs_len (Nat.le_of_ble_eq_true rfl)) g39q (P_T_spells (d := d + 0) eh37q) ?_
                    by_cases c40q : x38q = 0
                    · rw [if_pos c40q] at hB
                      refine r_if_t (t := 189) f48_180 (by decide) c40q ?_
                      refine r_aload_nN f48_189 rfl ?_
                      refine r_ldcS (j := 10) f48_190 rfl ?_
                      replace hB := grd_some hB
                      obtain ⟨g43q, hB⟩ := hB
                      replace hB := bn2_some hB
                      obtain ⟨h41q, x42q, eh41q, hB⟩ := hB
                      refine r_virtV (as := [.retAddr 10]) (q := pm_m_49) f48_192 ca_4_108 rfl rfl rfl (cs_len (Nat.le_of_ble_eq_true rfl)) g43q (P_T_spells (d := d + 0) eh41q) ?_
                      by_cases c44q : x42q = 0
                      · rw [if_pos c44q] at hB
                        refine r_if_t (t := 204) f48_195 (by decide) c44q ?_
                        refine r_aload_nN f48_204 rfl ?_
                        refine r_ldcS (j := 11) f48_205 rfl ?_
                        replace hB := grd_some hB
                        obtain ⟨g47q, hB⟩ := hB
                        replace hB := bn2_some hB
                        obtain ⟨h45q, x46q, eh45q, hB⟩ := hB
                        refine r_virtV (as := [.retAddr 11]) (q := pm_m_49) f48_207 ca_4_108 rfl rfl rfl (cs_len (Nat.le_of_ble_eq_true rfl)) g47q (P_T_spells (d := d + 0) eh45q) ?_
                        by_cases c48q : x46q = 0
                        · rw [if_pos c48q] at hB
                          refine r_if_t (t := 219) f48_210 (by decide) c48q ?_
                          refine r_sipush f48_219 cs_10022 ?_
                          exact pm_weak (L' := [pm_J]) ⟨.inl rfl, trivial⟩ (P_T_readWord_222 (d := d) h45q 10022 l0 hB)
                        · rw [if_neg c48q] at hB
                          refine r_if_f 219 f48_210 (by decide) c48q ?_
                          refine r_sipush f48_213 cs_10005 ?_
                          refine r_goto (t := 222) f48_216 (by decide) ?_
                          exact pm_weak (L' := [pm_J]) ⟨.inl rfl, trivial⟩ (P_T_readWord_222 (d := d) h45q 10005 l0 hB)
                      · rw [if_neg c44q] at hB
                        refine r_if_f 204 f48_195 (by decide) c44q ?_
                        refine r_sipush f48_198 cs_10004 ?_
                        refine r_goto (t := 222) f48_201 (by decide) ?_
                        exact pm_weak (L' := [pm_J]) ⟨.inl rfl, trivial⟩ (P_T_readWord_222 (d := d) h41q 10004 l0 hB)
                    · rw [if_neg c40q] at hB
                      refine r_if_f 189 f48_180 (by decide) c40q ?_
                      refine r_sipush f48_183 cs_10003 ?_
                      refine r_goto (t := 222) f48_186 (by decide) ?_
                      exact pm_weak (L' := [pm_J]) ⟨.inl rfl, trivial⟩ (P_T_readWord_222 (d := d) h37q 10003 l0 hB)
                  · rw [if_neg c36q] at hB
                    refine r_if_f 174 f48_165 (by decide) c36q ?_
                    refine r_sipush f48_168 cs_10002 ?_
                    refine r_goto (t := 222) f48_171 (by decide) ?_
                    exact pm_weak (L' := [pm_J]) ⟨.inl rfl, trivial⟩ (P_T_readWord_222 (d := d) h33q 10002 l0 hB)
                · rw [if_neg c32q] at hB
                  refine r_if_f 159 f48_150 (by decide) c32q ?_
                  refine r_sipush f48_153 cs_10001 ?_
                  refine r_goto (t := 222) f48_156 (by decide) ?_
                  exact pm_weak (L' := [pm_J]) ⟨.inl rfl, trivial⟩ (P_T_readWord_222 (d := d) h29q 10001 l0 hB)
              · rw [if_neg c28q] at hB
                refine r_if_f 144 f48_135 (by decide) c28q ?_
                refine r_sipush f48_138 cs_10000 ?_
                refine r_goto (t := 222) f48_141 (by decide) ?_
                exact pm_weak (L' := [pm_J]) ⟨.inl rfl, trivial⟩ (P_T_readWord_222 (d := d) h25q 10000 l0 hB)
            · rw [if_neg c24q] at hB
              refine r_if_f 129 f48_120 (by decide) c24q ?_
              refine r_sipush f48_123 cs_10013 ?_
              refine r_goto (t := 222) f48_126 (by decide) ?_
              exact pm_weak (L' := [pm_J]) ⟨.inl rfl, trivial⟩ (P_T_readWord_222 (d := d) h21q 10013 l0 hB)
          · rw [if_neg c20q] at hB
            refine r_if_f 114 f48_105 (by decide) c20q ?_
            refine r_sipush f48_108 cs_10007 ?_
            refine r_goto (t := 222) f48_111 (by decide) ?_
            exact pm_weak (L' := [pm_J]) ⟨.inl rfl, trivial⟩ (P_T_readWord_222 (d := d) h17q 10007 l0 hB)
        · rw [if_neg c16q] at hB
          refine r_if_f 99 f48_90 (by decide) c16q ?_
          refine r_sipush f48_93 cs_10006 ?_
          refine r_goto (t := 222) f48_96 (by decide) ?_
          exact pm_weak (L' := [pm_J]) ⟨.inl rfl, trivial⟩ (P_T_readWord_222 (d := d) h13q 10006 l0 hB)
      · rw [if_neg c12q] at hB
        refine r_if_f 84 f48_75 (by decide) c12q ?_
        refine r_sipush f48_78 cs_10017 ?_
        refine r_goto (t := 222) f48_81 (by decide) ?_
        exact pm_weak (L' := [pm_J]) ⟨.inl rfl, trivial⟩ (P_T_readWord_222 (d := d) h9q 10017 l0 hB)
    · rw [if_neg c8q] at hB
      refine r_if_f 69 f48_60 (by decide) c8q ?_
      refine r_sipush f48_63 cs_10016 ?_
      refine r_goto (t := 222) f48_66 (by decide) ?_
      exact pm_weak (L' := [pm_J]) ⟨.inl rfl, trivial⟩ (P_T_readWord_222 (d := d) h5q 10016 l0 hB)
  · rw [if_neg c4q] at hB
    refine r_if_f 54 f48_45 (by decide) c4q ?_
    refine r_sipush f48_48 cs_10015 ?_
    refine r_goto (t := 222) f48_51 (by decide) ?_
    exact pm_weak (L' := [pm_J]) ⟨.inl rfl, trivial⟩ (P_T_readWord_222 (d := d) h1q 10015 l0 hB)
theorem P_T_readWord_0 {d : Nat} {h' : pm_H} {r : Unit} (n : Nat) : ∀ (h : pm_H) (l0 : Nat), T_readWord_0 n h l0 = some (h', r) → pm_run (pm_ev (d + 5)) 48 0 [.ref l0] [] h (fun r1 h1 => r1 = none ∧ h1 = h') := by
  induction n with
  | zero => intro h l0 hB; cases hB
  | succ n ih =>
    intro h l0 hB
    unfold T_readWord_0 at hB
    refine r_aload_nN f48_0 rfl ?_
    replace hB := bnd_some hB
    obtain ⟨x1q, ex1q, hB⟩ := hB
    refine r_getI f48_1 fa_4_29 ex1q ?_
    refine r_aload_nN f48_4 rfl ?_
    replace hB := bnd_some hB
    obtain ⟨x2q, ex2q, hB⟩ := hB
    refine r_getI f48_5 fa_4_19 ex2q ?_
    by_cases c3q : x2q ≤ x1q
    · rw [if_pos c3q] at hB
      refine r_ic_t (t := 38) f48_8 (by decide) c3q ?_
      exact pm_weak (L' := [.ref l0]) ⟨.inr rfl, trivial⟩ (P_T_readWord_38 (d := d) h l0 hB)
    · rw [if_neg c3q] at hB
      refine r_ic_f 38 f48_8 (by decide) c3q ?_
      refine r_aload_nN f48_11 rfl ?_
      refine r_aload_nN f48_12 rfl ?_
      replace hB := bnd_some hB
      obtain ⟨x4q, ex4q, hB⟩ := hB
      refine r_getI f48_13 fa_4_29 ex4q ?_
      replace hB := grd_some hB
      obtain ⟨g7q, hB⟩ := hB
      replace hB := bn2_some hB
      obtain ⟨h5q, x6q, eh5q, hB⟩ := hB
      refine r_virtV (as := [.int x4q]) (q := pm_m_51) f48_16 ca_4_83 rfl rfl rfl (cs_len (Nat.le_of_ble_eq_true rfl)) g7q (P_T_byteAt (d := d + 4) eh5q) ?_
      replace hB := bn2_some hB
      obtain ⟨h8q, x9q, eh8q, hB⟩ := hB
      refine r_statV (as := [.int x6q]) (q := pm_m_54) f48_19 ca_4_97 rfl (by decide) rfl rfl (cs_len (Nat.le_of_ble_eq_true rfl)) (P_T_isLetter (d := d + 4) eh8q) ?_
      by_cases c10q : x9q = 0
      · rw [if_pos c10q] at hB
        refine r_if_t (t := 38) f48_22 (by decide) c10q ?_
        exact pm_weak (L' := [.ref l0]) ⟨.inr rfl, trivial⟩ (P_T_readWord_38 (d := d) h8q l0 hB)
      · rw [if_neg c10q] at hB
        refine r_if_f 38 f48_22 (by decide) c10q ?_
        refine r_aload_nN f48_25 rfl ?_
        refine r_dupN f48_26 ?_
        replace hB := bnd_some hB
        obtain ⟨x11q, ex11q, hB⟩ := hB
        refine r_getI f48_27 fa_4_29 ex11q ?_
        refine r_iconst f48_30 ci_1 ?_
        refine r_iadd f48_31 ?_
        replace hB := bnd_some hB
        obtain ⟨h12q, eh12q, hB⟩ := hB
        refine r_put f48_32 fa_4_29 ty_4_3 rfl rfl (no_fin (nf_4_3)) eh12q ?_
        refine r_goto (t := 0) f48_35 (by decide) ?_
        exact pm_weak (L' := [.ref l0]) ⟨.inr rfl, trivial⟩ (ih h12q l0 hB)
theorem P_T_readWord {d : Nat} {h h' : pm_H} {r : Unit} {t : Nat} (hB : T_readWord h t = some (h', r)) : pm_ev (d + 6) 48 [.ref t] h none h' := by
  unfold T_readWord at hB
  refine pm_ev_mk (L := [.ref t]) pm_m_48 rfl (Nat.le_of_ble_eq_true rfl) rfl ?_
  exact pm_weak (L' := [.ref t]) ⟨.inr rfl, trivial⟩ (P_T_readWord_0 (d := d) 1000 h t hB)
theorem P_T_step_105 {d : Nat} {h' : pm_H} {r : Unit} (h : pm_H) (l0 : Nat) (s0 : Int32) (s1 : Nat) (hB : T_step_105 h l0 s0 s1 = some (h', r)) : pm_run (pm_ev (d + 6)) 46 105 [.ref l0, pm_J] [.int s0, .ref s1] h (fun r1 h1 => r1 = none ∧ h1 = h') := by
  unfold T_step_105 at hB
  replace hB := bnd_some hB
  obtain ⟨h1q, eh1q, hB⟩ := hB
  refine r_put f46_105 fa_4_59 ty_4_4 rfl rfl (no_fin (nf_4_4)) eh1q ?_
  refine r_aload_nN f46_108 rfl ?_
  refine r_aload_nN f46_109 rfl ?_
  replace hB := bnd_some hB
  obtain ⟨x2q, ex2q, hB⟩ := hB
  refine r_getI f46_110 fa_4_80 ex2q ?_
  refine r_iconst f46_113 ci_1 ?_
  refine r_iadd f46_114 ?_
  replace hB := bnd_some hB
  obtain ⟨h3q, eh3q, hB⟩ := hB
  refine r_put f46_115 fa_4_29 ty_4_3 rfl rfl (no_fin (nf_4_3)) eh3q ?_
  exact r_vret pm_m_46 f46_118 rfl rfl (zV hB)
theorem P_T_step_38 {d : Nat} {h' : pm_H} {r : Unit} (h : pm_H) (l0 : Nat) (hB : T_step_38 h l0 = some (h', r)) : pm_run (pm_ev (d + 6)) 46 38 [.ref l0, pm_J] [] h (fun r1 h1 => r1 = none ∧ h1 = h') := by
  unfold T_step_38 at hB
  refine r_aload_nN f46_38 rfl ?_
  refine r_aload_nN f46_39 rfl ?_
  replace hB := bnd_some hB
  obtain ⟨x1q, ex1q, hB⟩ := hB
  refine r_getI f46_40 fa_4_29 ex1q ?_
  replace hB := bnd_some hB
  obtain ⟨h2q, eh2q, hB⟩ := hB
  refine r_put f46_43 fa_4_80 ty_4_2 rfl rfl (no_fin (nf_4_2)) eh2q ?_
  refine r_aload_nN f46_46 rfl ?_
  refine r_aload_nN f46_47 rfl ?_
  replace hB := bnd_some hB
  obtain ⟨x3q, ex3q, hB⟩ := hB
  refine r_getI f46_48 fa_4_80 ex3q ?_
  replace hB := grd_some hB
  obtain ⟨g6q, hB⟩ := hB
  replace hB := bn2_some hB
  obtain ⟨h4q, x5q, eh4q, hB⟩ := hB
  refine r_virtV (as := [.int x3q]) (q := pm_m_51) f46_51 ca_4_83 rfl rfl rfl (cs_len (Nat.le_of_ble_eq_true rfl)) g6q (P_T_byteAt (d := d + 5) eh4q) ?_
  refine r_istore_n (L' := [.ref l0, .int x5q]) (x := x5q) f46_54 rfl (Nat.le_of_ble_eq_true rfl) rfl ?_
  refine r_iload_n f46_55 rfl ?_
  replace hB := bn2_some hB
  obtain ⟨h7q, x8q, eh7q, hB⟩ := hB
  refine r_statV (as := [.int x5q]) (q := pm_m_53) f46_56 ca_4_91 rfl (by decide) rfl rfl (cs_len (Nat.le_of_ble_eq_true rfl)) (P_T_isDigit (d := d + 5) eh7q) ?_
  by_cases c9q : x8q = 0
  · rw [if_pos c9q] at hB
    refine r_if_t (t := 69) f46_59 (by decide) c9q ?_
    refine r_iload_n f46_69 rfl ?_
    replace hB := bn2_some hB
    obtain ⟨h10q, x11q, eh10q, hB⟩ := hB
    refine r_statV (as := [.int x5q]) (q := pm_m_54) f46_70 ca_4_97 rfl (by decide) rfl rfl (cs_len (Nat.le_of_ble_eq_true rfl)) (P_T_isLetter (d := d + 5) eh10q) ?_
    by_cases c12q : x11q = 0
    · rw [if_pos c12q] at hB
      refine r_if_t (t := 83) f46_73 (by decide) c12q ?_
      refine r_aload_nN f46_83 rfl ?_
      refine r_aload_nN f46_84 rfl ?_
      replace hB := bnd_some hB
      obtain ⟨x13q, ex13q, hB⟩ := hB
      refine r_getI f46_85 fa_4_80 ex13q ?_
      refine r_aload_nN f46_88 rfl ?_
      replace hB := bnd_some hB
      obtain ⟨x14q, ex14q, hB⟩ := hB
      refine r_getI f46_89 fa_4_19 ex14q ?_
      by_cases c15q : x13q < x14q
      · rw [if_pos c15q] at hB
        refine r_ic_t (t := 101) f46_92 (by decide) c15q ?_
        refine r_iload_n f46_101 rfl ?_
        replace hB := bn2_some hB
        obtain ⟨h16q, x17q, eh16q, hB⟩ := hB
        refine r_statV (as := [.int x5q]) (q := pm_m_50) f46_102 ca_4_103 rfl (by decide) rfl rfl (cs_len (Nat.le_of_ble_eq_true rfl)) (P_T_sign (d := d + 5) eh16q) ?_
        exact pm_weak (L' := [.ref l0, pm_J]) ⟨.inr rfl, .inl rfl, trivial⟩ (P_T_step_105 (d := d) h16q l0 x17q l0 hB)
      · rw [if_neg c15q] at hB
        refine r_ic_f 101 f46_92 (by decide) c15q ?_
        refine r_sipush f46_95 cs_10021 ?_
        refine r_goto (t := 105) f46_98 (by decide) ?_
        exact pm_weak (L' := [.ref l0, pm_J]) ⟨.inr rfl, .inl rfl, trivial⟩ (P_T_step_105 (d := d) h10q l0 10021 l0 hB)
    · rw [if_neg c12q] at hB
      refine r_if_f 83 f46_73 (by decide) c12q ?_
      refine r_aload_nN f46_76 rfl ?_
      replace hB := grd_some hB
      obtain ⟨g20q, hB⟩ := hB
      replace hB := bn2_some hB
      obtain ⟨h18q, _, eh18q, hB⟩ := hB
      refine r_virtN (as := []) (q := pm_m_48) f46_77 ca_4_100 rfl rfl rfl (cs_len (Nat.le_of_ble_eq_true rfl)) g20q (P_T_readWord (d := d + 0) eh18q) ?_
      refine r_goto (t := 118) f46_80 (by decide) ?_
      exact r_vret pm_m_46 f46_118 rfl rfl (zV hB)
  · rw [if_neg c9q] at hB
    refine r_if_f 69 f46_59 (by decide) c9q ?_
    refine r_aload_nN f46_62 rfl ?_
    replace hB := grd_some hB
    obtain ⟨g23q, hB⟩ := hB
    replace hB := bn2_some hB
    obtain ⟨h21q, _, eh21q, hB⟩ := hB
    refine r_virtN (as := []) (q := pm_m_47) f46_63 ca_4_94 rfl rfl rfl (cs_len (Nat.le_of_ble_eq_true rfl)) g23q (P_T_readNumber (d := d + 4) eh21q) ?_
    refine r_goto (t := 118) f46_66 (by decide) ?_
    exact r_vret pm_m_46 f46_118 rfl rfl (zV hB)
theorem P_T_step_0 {d : Nat} {h' : pm_H} {r : Unit} (n : Nat) : ∀ (h : pm_H) (l0 : Nat), T_step_0 n h l0 = some (h', r) → pm_run (pm_ev (d + 6)) 46 0 [.ref l0, pm_J] [] h (fun r1 h1 => r1 = none ∧ h1 = h') := by
  induction n with
  | zero => intro h l0 hB; cases hB
  | succ n ih =>
    intro h l0 hB
    unfold T_step_0 at hB
    refine r_aload_nN f46_0 rfl ?_
    replace hB := bnd_some hB
    obtain ⟨x1q, ex1q, hB⟩ := hB
    refine r_getI f46_1 fa_4_29 ex1q ?_
    refine r_aload_nN f46_4 rfl ?_
    replace hB := bnd_some hB
    obtain ⟨x2q, ex2q, hB⟩ := hB
    refine r_getI f46_5 fa_4_19 ex2q ?_
    by_cases c3q : x2q ≤ x1q
    · rw [if_pos c3q] at hB
      refine r_ic_t (t := 38) f46_8 (by decide) c3q ?_
      exact pm_weak (L' := [.ref l0, pm_J]) ⟨.inr rfl, .inl rfl, trivial⟩ (P_T_step_38 (d := d) h l0 hB)
    · rw [if_neg c3q] at hB
      refine r_ic_f 38 f46_8 (by decide) c3q ?_
      refine r_aload_nN f46_11 rfl ?_
      refine r_aload_nN f46_12 rfl ?_
      replace hB := bnd_some hB
      obtain ⟨x4q, ex4q, hB⟩ := hB
      refine r_getI f46_13 fa_4_29 ex4q ?_
      replace hB := grd_some hB
      obtain ⟨g7q, hB⟩ := hB
      replace hB := bn2_some hB
      obtain ⟨h5q, x6q, eh5q, hB⟩ := hB
      refine r_virtV (as := [.int x4q]) (q := pm_m_51) f46_16 ca_4_83 rfl rfl rfl (cs_len (Nat.le_of_ble_eq_true rfl)) g7q (P_T_byteAt (d := d + 5) eh5q) ?_
      replace hB := bn2_some hB
      obtain ⟨h8q, x9q, eh8q, hB⟩ := hB
      refine r_statV (as := [.int x6q]) (q := pm_m_52) f46_19 ca_4_87 rfl (by decide) rfl rfl (cs_len (Nat.le_of_ble_eq_true rfl)) (P_T_isBlank (d := d + 5) eh8q) ?_
      by_cases c10q : x9q = 0
      · rw [if_pos c10q] at hB
        refine r_if_t (t := 38) f46_22 (by decide) c10q ?_
        exact pm_weak (L' := [.ref l0, pm_J]) ⟨.inr rfl, .inl rfl, trivial⟩ (P_T_step_38 (d := d) h8q l0 hB)
      · rw [if_neg c10q] at hB
        refine r_if_f 38 f46_22 (by decide) c10q ?_
        refine r_aload_nN f46_25 rfl ?_
        refine r_dupN f46_26 ?_
        replace hB := bnd_some hB
        obtain ⟨x11q, ex11q, hB⟩ := hB
        refine r_getI f46_27 fa_4_29 ex11q ?_
        refine r_iconst f46_30 ci_1 ?_
        refine r_iadd f46_31 ?_
        replace hB := bnd_some hB
        obtain ⟨h12q, eh12q, hB⟩ := hB
        refine r_put f46_32 fa_4_29 ty_4_3 rfl rfl (no_fin (nf_4_3)) eh12q ?_
        refine r_goto (t := 0) f46_35 (by decide) ?_
        exact pm_weak (L' := [.ref l0, pm_J]) ⟨.inr rfl, .inl rfl, trivial⟩ (ih h12q l0 hB)
theorem P_T_step {d : Nat} {h h' : pm_H} {r : Unit} {t : Nat} (hB : T_step h t = some (h', r)) : pm_ev (d + 7) 46 [.ref t] h none h' := by
  unfold T_step at hB
  refine pm_ev_mk (L := [.ref t, pm_J]) pm_m_46 rfl (Nat.le_of_ble_eq_true rfl) rfl ?_
  exact pm_weak (L' := [.ref t, pm_J]) ⟨.inr rfl, .inl rfl, trivial⟩ (P_T_step_0 (d := d) 1000 h t hB)
theorem P_T_fail {d : Nat} {h h' : pm_H} {r : Unit} {t : Nat} (hB : T_fail h t = some (h', r)) : pm_ev (d + 1) 44 [.ref t] h none h' := by
  unfold T_fail at hB
  refine pm_ev_mk (L := [.ref t]) pm_m_44 rfl (Nat.le_of_ble_eq_true rfl) rfl ?_
  refine r_aload_nN f44_0 rfl ?_
  refine r_aload_nN f44_1 rfl ?_
  replace hB := bnd_some hB
  obtain ⟨x1q, ex1q, hB⟩ := hB
  refine r_getI f44_2 fa_4_80 ex1q ?_
  replace hB := bnd_some hB
  obtain ⟨h2q, eh2q, hB⟩ := hB
  refine r_put f44_5 fa_4_23 ty_4_5 rfl rfl (no_fin (nf_4_5)) eh2q ?_
  refine r_aload_nN f44_8 rfl ?_
  refine r_sipush f44_9 cs_10022 ?_
  replace hB := bnd_some hB
  obtain ⟨h3q, eh3q, hB⟩ := hB
  refine r_put f44_12 fa_4_59 ty_4_4 rfl rfl (no_fin (nf_4_4)) eh3q ?_
  exact r_vret pm_m_44 f44_15 rfl rfl (zV hB)
theorem P_T_emit {d : Nat} {h h' : pm_H} {r : Unit} {t : Nat} {a1 : Int32} (hB : T_emit h t a1 = some (h', r)) : pm_ev (d + 1) 45 [.ref t, .int a1] h none h' := by
  unfold T_emit at hB
  refine pm_ev_mk (L := [.ref t, .int a1]) pm_m_45 rfl (Nat.le_of_ble_eq_true rfl) rfl ?_
  refine r_aload_nN f45_0 rfl ?_
  replace hB := bnd_some hB
  obtain ⟨x1q, ex1q, hB⟩ := hB
  refine r_getI f45_1 fa_4_26 ex1q ?_
  refine r_aload_nN f45_4 rfl ?_
  replace hB := bnd_some hB
  obtain ⟨x2q, ex2q, hB⟩ := hB
  refine r_getA f45_5 fa_4_15 ex2q ?_
  replace hB := bnd_some hB
  obtain ⟨u3q, rfl, hB⟩ := hB
  replace hB := bnd_some hB
  obtain ⟨x4q, ex4q, hB⟩ := hB
  refine r_ln f45_8 ex4q ?_
  by_cases c5q : x4q ≤ x1q
  · rw [if_pos c5q] at hB
    refine r_ic_t (t := 32) f45_9 (by decide) c5q ?_
    exact r_vret pm_m_45 f45_32 rfl rfl (zV hB)
  · rw [if_neg c5q] at hB
    refine r_ic_f 32 f45_9 (by decide) c5q ?_
    refine r_aload_nN f45_12 rfl ?_
    replace hB := bnd_some hB
    obtain ⟨x6q, ex6q, hB⟩ := hB
    refine r_getA f45_13 fa_4_15 ex6q ?_
    refine r_aload_nN f45_16 rfl ?_
    replace hB := bnd_some hB
    obtain ⟨x7q, ex7q, hB⟩ := hB
    refine r_getI f45_17 fa_4_26 ex7q ?_
    refine r_iload_n f45_20 rfl ?_
    replace hB := bnd_some hB
    obtain ⟨u8q, rfl, hB⟩ := hB
    replace hB := bnd_some hB
    obtain ⟨h9q, eh9q, hB⟩ := hB
    refine r_sI f45_21 eh9q ?_
    refine r_aload_nN f45_22 rfl ?_
    refine r_dupN f45_23 ?_
    replace hB := bnd_some hB
    obtain ⟨x10q, ex10q, hB⟩ := hB
    refine r_getI f45_24 fa_4_26 ex10q ?_
    refine r_iconst f45_27 ci_1 ?_
    refine r_iadd f45_28 ?_
    replace hB := bnd_some hB
    obtain ⟨h11q, eh11q, hB⟩ := hB
    refine r_put f45_29 fa_4_26 ty_4_7 rfl rfl (no_fin (nf_4_7)) eh11q ?_
    exact r_vret pm_m_45 f45_32 rfl rfl (zV hB)
theorem P_T_expect {d : Nat} {h h' : pm_H} {r : Unit} {t : Nat} {a1 : Int32} (hB : T_expect h t a1 = some (h', r)) : pm_ev (d + 8) 43 [.ref t, .int a1] h none h' := by
  unfold T_expect at hB
  refine pm_ev_mk (L := [.ref t, .int a1]) pm_m_43 rfl (Nat.le_of_ble_eq_true rfl) rfl ?_
  refine r_aload_nN f43_0 rfl ?_
  replace hB := bnd_some hB
  obtain ⟨x1q, ex1q, hB⟩ := hB
  refine r_getI f43_1 fa_4_59 ex1q ?_
  refine r_iload_n f43_4 rfl ?_
  by_cases c2q : x1q = a1
  · rw [if_pos c2q] at hB
    refine r_ic_f 15 f43_5 (by decide) (fun q => q c2q) ?_
    refine r_aload_nN f43_8 rfl ?_
    replace hB := grd_some hB
    obtain ⟨g8q, hB⟩ := hB
    replace hB := bn2_some hB
    obtain ⟨h6q, _, eh6q, hB⟩ := hB
    refine r_virtN (as := []) (q := pm_m_46) f43_9 ca_4_32 rfl rfl rfl (cs_len (Nat.le_of_ble_eq_true rfl)) g8q (P_T_step (d := d + 0) eh6q) ?_
    refine r_goto (t := 19) f43_12 (by decide) ?_
    exact r_vret pm_m_43 f43_19 rfl rfl (zV hB)
  · rw [if_neg c2q] at hB
    refine r_ic_t (t := 15) f43_5 (by decide) c2q ?_
    refine r_aload_nN f43_15 rfl ?_
    replace hB := grd_some hB
    obtain ⟨g5q, hB⟩ := hB
    replace hB := bn2_some hB
    obtain ⟨h3q, _, eh3q, hB⟩ := hB
    refine r_virtN (as := []) (q := pm_m_44) f43_16 ca_4_68 rfl rfl rfl (cs_len (Nat.le_of_ble_eq_true rfl)) g5q (P_T_fail (d := d + 6) eh3q) ?_
    exact r_vret pm_m_43 f43_19 rfl rfl (zV hB)
theorem P_T_append {d : Nat} {h h' : pm_H} {r : Unit} {t : Nat} {a1 : Int32} (hB : T_append h t a1 = some (h', r)) : pm_ev (d + 1) 34 [.ref t, .int a1] h none h' := by
  unfold T_append at hB
  refine pm_ev_mk (L := [.ref t, .int a1]) pm_m_34 rfl (Nat.le_of_ble_eq_true rfl) rfl ?_
  refine r_aload_nN f34_0 rfl ?_
  replace hB := bnd_some hB
  obtain ⟨x1q, ex1q, hB⟩ := hB
  refine r_getI f34_1 fa_4_19 ex1q ?_
  refine r_aload_nN f34_4 rfl ?_
  replace hB := bnd_some hB
  obtain ⟨x2q, ex2q, hB⟩ := hB
  refine r_getA f34_5 fa_4_9 ex2q ?_
  replace hB := bnd_some hB
  obtain ⟨u3q, rfl, hB⟩ := hB
  replace hB := bnd_some hB
  obtain ⟨x4q, ex4q, hB⟩ := hB
  refine r_ln f34_8 ex4q ?_
  by_cases c5q : x4q ≤ x1q
  · rw [if_pos c5q] at hB
    refine r_ic_t (t := 33) f34_9 (by decide) c5q ?_
    exact r_vret pm_m_34 f34_33 rfl rfl (zV hB)
  · rw [if_neg c5q] at hB
    refine r_ic_f 33 f34_9 (by decide) c5q ?_
    refine r_aload_nN f34_12 rfl ?_
    replace hB := bnd_some hB
    obtain ⟨x6q, ex6q, hB⟩ := hB
    refine r_getA f34_13 fa_4_9 ex6q ?_
    refine r_aload_nN f34_16 rfl ?_
    replace hB := bnd_some hB
    obtain ⟨x7q, ex7q, hB⟩ := hB
    refine r_getI f34_17 fa_4_19 ex7q ?_
    refine r_iload_n f34_20 rfl ?_
    refine r_i2b f34_21 ?_
    replace hB := bnd_some hB
    obtain ⟨u8q, rfl, hB⟩ := hB
    replace hB := bnd_some hB
    obtain ⟨h9q, eh9q, hB⟩ := hB
    refine r_sB f34_22 eh9q ?_
    refine r_aload_nN f34_23 rfl ?_
    refine r_dupN f34_24 ?_
    replace hB := bnd_some hB
    obtain ⟨x10q, ex10q, hB⟩ := hB
    refine r_getI f34_25 fa_4_19 ex10q ?_
    refine r_iconst f34_28 ci_1 ?_
    refine r_iadd f34_29 ?_
    replace hB := bnd_some hB
    obtain ⟨h11q, eh11q, hB⟩ := hB
    refine r_put f34_30 fa_4_19 ty_4_1 rfl rfl (no_fin (nf_4_1)) eh11q ?_
    exact r_vret pm_m_34 f34_33 rfl rfl (zV hB)
theorem P_T_init {d : Nat} {h h' : pm_H} {r : Unit} {t : Nat} (hB : T_init h t = some (h', r)) : pm_ev (d + 1) 33 [.ref t] h none h' := by
  unfold T_init at hB
  refine pm_ev_mk (L := [.ref t]) pm_m_33 rfl (Nat.le_of_ble_eq_true rfl) rfl ?_
  refine r_aload_nN f33_0 rfl ?_
  refine r_obj f33_1 (e := 91) rfl (cs_len (Nat.le_of_ble_eq_true rfl)) ?_
  refine r_aload_nN f33_4 rfl ?_
  refine r_sipush f33_5 cs_160 ?_
  replace hB := bnd_some hB
  obtain ⟨h1q, eh1q, hB⟩ := hB
  refine r_nB f33_8 eh1q ?_
  obtain ⟨b2q, hb2q⟩ : ∃ z, z = List.length h := ⟨_, rfl⟩
  replace hB := nmd_at hb2q hB
  rw [← hb2q]
  replace hB := bnd_some hB
  obtain ⟨h3q, eh3q, hB⟩ := hB
  refine r_put f33_10 fa_4_9 ty_4_0 rfl rfl (fun _ => ⟨in_33, rfl⟩) eh3q ?_
  refine r_aload_nN f33_13 rfl ?_
  refine r_sipush f33_14 cs_160 ?_
  replace hB := bnd_some hB
  obtain ⟨h4q, eh4q, hB⟩ := hB
  refine r_nI f33_17 eh4q ?_
  obtain ⟨b5q, hb5q⟩ : ∃ z, z = List.length h3q := ⟨_, rfl⟩
  replace hB := nmd_at hb5q hB
  rw [← hb5q]
  replace hB := bnd_some hB
  obtain ⟨h6q, eh6q, hB⟩ := hB
  refine r_put f33_19 fa_4_15 ty_4_6 rfl rfl (fun _ => ⟨in_33, rfl⟩) eh6q ?_
  exact r_vret pm_m_33 f33_22 rfl rfl (zV hB)
theorem P_T_one_97 {d : Nat} {h' : pm_H} {r : Unit} (r_T_either : pm_H → Nat → Int32 → Option (pm_H × Unit)) (hr_T_either : ∀ (h : pm_H) (a0 : Nat) (a1 : Int32) (h' : pm_H), r_T_either h a0 a1 = some (h', ()) → pm_ev (d + 8) 37 [.ref a0, .int a1] h none h') (r_T_one : pm_H → Nat → Int32 → Option (pm_H × Unit)) (hr_T_one : ∀ (h : pm_H) (a0 : Nat) (a1 : Int32) (h' : pm_H), r_T_one h a0 a1 = some (h', ()) → pm_ev (d + 8) 42 [.ref a0, .int a1] h none h') (h : pm_H) (l0 : Nat) (hB : T_one_97 r_T_either r_T_one h l0 = some (h', r)) : pm_run (pm_ev (d + 8)) 42 97 [.ref l0, pm_J] [] h (fun r1 h1 => r1 = none ∧ h1 = h') := by
  unfold T_one_97 at hB
  refine r_aload_nN f42_97 rfl ?_
  replace hB := grd_some hB
  obtain ⟨g3q, hB⟩ := hB
  replace hB := bn2_some hB
  obtain ⟨h1q, _, eh1q, hB⟩ := hB
  refine r_virtN (as := []) (q := pm_m_44) f42_98 ca_4_68 rfl rfl rfl (cs_len (Nat.le_of_ble_eq_true rfl)) g3q (P_T_fail (d := d + 7) eh1q) ?_
  exact r_vret pm_m_42 f42_101 rfl rfl (zV hB)
theorem P_T_one_61 {d : Nat} {h' : pm_H} {r : Unit} (r_T_either : pm_H → Nat → Int32 → Option (pm_H × Unit)) (hr_T_either : ∀ (h : pm_H) (a0 : Nat) (a1 : Int32) (h' : pm_H), r_T_either h a0 a1 = some (h', ()) → pm_ev (d + 8) 37 [.ref a0, .int a1] h none h') (r_T_one : pm_H → Nat → Int32 → Option (pm_H × Unit)) (hr_T_one : ∀ (h : pm_H) (a0 : Nat) (a1 : Int32) (h' : pm_H), r_T_one h a0 a1 = some (h', ()) → pm_ev (d + 8) 42 [.ref a0, .int a1] h none h') (h : pm_H) (l0 : Nat) (l1 : Int32) (hB : T_one_61 r_T_either r_T_one h l0 l1 = some (h', r)) : pm_run (pm_ev (d + 8)) 42 61 [.ref l0, .int l1] [] h (fun r1 h1 => r1 = none ∧ h1 = h') := by
  unfold T_one_61 at hB
  refine r_aload_nN f42_61 rfl ?_
  replace hB := bnd_some hB
  obtain ⟨x1q, ex1q, hB⟩ := hB
  refine r_getI f42_62 fa_4_59 ex1q ?_
  refine r_sipush f42_65 cs_10018 ?_
  by_cases c2q : x1q = 10018
  · rw [if_pos c2q] at hB
    refine r_ic_f 97 f42_68 (by decide) (fun q => q c2q) ?_
    refine r_iload_n f42_71 rfl ?_
    refine r_iconst f42_72 ci_5 ?_
    by_cases c3q : 5 ≤ l1
    · rw [if_pos c3q] at hB
      refine r_ic_t (t := 97) f42_73 (by decide) c3q ?_
      exact pm_weak (L' := [.ref l0, pm_J]) ⟨.inr rfl, .inl rfl, trivial⟩ (P_T_one_97 (d := d) r_T_either hr_T_either r_T_one hr_T_one h l0 hB)
    · rw [if_neg c3q] at hB
      refine r_ic_f 97 f42_73 (by decide) c3q ?_
      refine r_aload_nN f42_76 rfl ?_
      replace hB := grd_some hB
      obtain ⟨g6q, hB⟩ := hB
      replace hB := bn2_some hB
      obtain ⟨h4q, _, eh4q, hB⟩ := hB
      refine r_virtN (as := []) (q := pm_m_46) f42_77 ca_4_32 rfl rfl rfl (cs_len (Nat.le_of_ble_eq_true rfl)) g6q (P_T_step (d := d + 1) eh4q) ?_
      refine r_aload_nN f42_80 rfl ?_
      refine r_iload_n f42_81 rfl ?_
      refine r_iconst f42_82 ci_1 ?_
      refine r_iadd f42_83 ?_
      replace hB := grd_some hB
      obtain ⟨g9q, hB⟩ := hB
      replace hB := bn2_some hB
      obtain ⟨h7q, _, eh7q, hB⟩ := hB
      refine r_virtN (as := [.int (l1 + 1)]) (q := pm_m_37) f42_84 ca_4_53 rfl rfl rfl (cs_len (Nat.le_of_ble_eq_true rfl)) g9q (hr_T_either _ _ _ _ eh7q) ?_
      refine r_aload_nN f42_87 rfl ?_
      refine r_sipush f42_88 cs_10019 ?_
      replace hB := grd_some hB
      obtain ⟨g12q, hB⟩ := hB
      replace hB := bn2_some hB
      obtain ⟨h10q, _, eh10q, hB⟩ := hB
      refine r_virtN (as := [.int 10019]) (q := pm_m_43) f42_91 ca_4_39 rfl rfl rfl (cs_len (Nat.le_of_ble_eq_true rfl)) g12q (P_T_expect (d := d + 0) eh10q) ?_
      refine r_goto (t := 101) f42_94 (by decide) ?_
      exact r_vret pm_m_42 f42_101 rfl rfl (zV hB)
  · rw [if_neg c2q] at hB
    refine r_ic_t (t := 97) f42_68 (by decide) c2q ?_
    exact pm_weak (L' := [.ref l0, pm_J]) ⟨.inr rfl, .inl rfl, trivial⟩ (P_T_one_97 (d := d) r_T_either hr_T_either r_T_one hr_T_one h l0 hB)
theorem P_T_one {d : Nat} {h h' : pm_H} {r : Unit} (r_T_either : pm_H → Nat → Int32 → Option (pm_H × Unit)) (hr_T_either : ∀ (h : pm_H) (a0 : Nat) (a1 : Int32) (h' : pm_H), r_T_either h a0 a1 = some (h', ()) → pm_ev (d + 8) 37 [.ref a0, .int a1] h none h') (r_T_one : pm_H → Nat → Int32 → Option (pm_H × Unit)) (hr_T_one : ∀ (h : pm_H) (a0 : Nat) (a1 : Int32) (h' : pm_H), r_T_one h a0 a1 = some (h', ()) → pm_ev (d + 8) 42 [.ref a0, .int a1] h none h') {t : Nat} {a1 : Int32} (hB : T_one r_T_either r_T_one h t a1 = some (h', r)) : pm_ev (d + 9) 42 [.ref t, .int a1] h none h' := by
  unfold T_one at hB
  refine pm_ev_mk (L := [.ref t, .int a1]) pm_m_42 rfl (Nat.le_of_ble_eq_true rfl) rfl ?_
  refine r_aload_nN f42_0 rfl ?_
  replace hB := bnd_some hB
  obtain ⟨x1q, ex1q, hB⟩ := hB
  refine r_getI f42_1 fa_4_59 ex1q ?_
  refine r_sipush f42_4 cs_10005 ?_
  by_cases c2q : 10005 < x1q
  · rw [if_pos c2q] at hB
    refine r_ic_t (t := 25) f42_7 (by decide) c2q ?_
    refine r_aload_nN f42_25 rfl ?_
    replace hB := bnd_some hB
    obtain ⟨x3q, ex3q, hB⟩ := hB
    refine r_getI f42_26 fa_4_59 ex3q ?_
    refine r_sipush f42_29 cs_10011 ?_
    by_cases c4q : x3q = 10011
    · rw [if_pos c4q] at hB
      refine r_ic_f 61 f42_32 (by decide) (fun q => q c4q) ?_
      refine r_iload_n f42_35 rfl ?_
      refine r_iconst f42_36 ci_5 ?_
      by_cases c5q : 5 ≤ a1
      · rw [if_pos c5q] at hB
        refine r_ic_t (t := 61) f42_37 (by decide) c5q ?_
        exact pm_weak (L' := [.ref t, .int a1]) ⟨.inr rfl, .inr rfl, trivial⟩ (P_T_one_61 (d := d) r_T_either hr_T_either r_T_one hr_T_one h t a1 hB)
      · rw [if_neg c5q] at hB
        refine r_ic_f 61 f42_37 (by decide) c5q ?_
        refine r_aload_nN f42_40 rfl ?_
        replace hB := grd_some hB
        obtain ⟨g8q, hB⟩ := hB
        replace hB := bn2_some hB
        obtain ⟨h6q, _, eh6q, hB⟩ := hB
        refine r_virtN (as := []) (q := pm_m_46) f42_41 ca_4_32 rfl rfl rfl (cs_len (Nat.le_of_ble_eq_true rfl)) g8q (P_T_step (d := d + 1) eh6q) ?_
        refine r_aload_nN f42_44 rfl ?_
        refine r_iload_n f42_45 rfl ?_
        refine r_iconst f42_46 ci_1 ?_
        refine r_iadd f42_47 ?_
        replace hB := grd_some hB
        obtain ⟨g11q, hB⟩ := hB
        replace hB := bn2_some hB
        obtain ⟨h9q, _, eh9q, hB⟩ := hB
        refine r_virtN (as := [.int (a1 + 1)]) (q := pm_m_42) f42_48 ca_4_77 rfl rfl rfl (cs_len (Nat.le_of_ble_eq_true rfl)) g11q (hr_T_one _ _ _ _ eh9q) ?_
        refine r_aload_nN f42_51 rfl ?_
        refine r_sipush f42_52 cs_10014 ?_
        replace hB := grd_some hB
        obtain ⟨g14q, hB⟩ := hB
        replace hB := bn2_some hB
        obtain ⟨h12q, _, eh12q, hB⟩ := hB
        refine r_virtN (as := [.int 10014]) (q := pm_m_45) f42_55 ca_4_62 rfl rfl rfl (cs_len (Nat.le_of_ble_eq_true rfl)) g14q (P_T_emit (d := d + 7) eh12q) ?_
        refine r_goto (t := 101) f42_58 (by decide) ?_
        exact r_vret pm_m_42 f42_101 rfl rfl (zV hB)
    · rw [if_neg c4q] at hB
      refine r_ic_t (t := 61) f42_32 (by decide) c4q ?_
      exact pm_weak (L' := [.ref t, .int a1]) ⟨.inr rfl, .inr rfl, trivial⟩ (P_T_one_61 (d := d) r_T_either hr_T_either r_T_one hr_T_one h t a1 hB)
  · rw [if_neg c2q] at hB
    refine r_ic_f 25 f42_7 (by decide) c2q ?_
    refine r_aload_nN f42_10 rfl ?_
    refine r_aload_nN f42_11 rfl ?_
    replace hB := bnd_some hB
    obtain ⟨x15q, ex15q, hB⟩ := hB
    refine r_getI f42_12 fa_4_59 ex15q ?_
    replace hB := grd_some hB
    obtain ⟨g18q, hB⟩ := hB
    replace hB := bn2_some hB
    obtain ⟨h16q, _, eh16q, hB⟩ := hB
    refine r_virtN (as := [.int x15q]) (q := pm_m_45) f42_15 ca_4_62 rfl rfl rfl (cs_len (Nat.le_of_ble_eq_true rfl)) g18q (P_T_emit (d := d + 7) eh16q) ?_
    refine r_aload_nN f42_18 rfl ?_
    replace hB := grd_some hB
    obtain ⟨g21q, hB⟩ := hB
    replace hB := bn2_some hB
    obtain ⟨h19q, _, eh19q, hB⟩ := hB
    refine r_virtN (as := []) (q := pm_m_46) f42_19 ca_4_32 rfl rfl rfl (cs_len (Nat.le_of_ble_eq_true rfl)) g21q (P_T_step (d := d + 1) eh19q) ?_
    refine r_goto (t := 101) f42_22 (by decide) ?_
    exact r_vret pm_m_42 f42_101 rfl rfl (zV hB)
theorem P_T_term_7 {d : Nat} {h' : pm_H} {r : Unit} (r_T_one : pm_H → Nat → Int32 → Option (pm_H × Unit)) (hr_T_one : ∀ (h : pm_H) (a0 : Nat) (a1 : Int32) (h' : pm_H), r_T_one h a0 a1 = some (h', ()) → pm_ev (d + 8) 42 [.ref a0, .int a1] h none h') (n : Nat) : ∀ (h : pm_H) (l0 : Nat) (l1 : Int32) (l2 : Int32), T_term_7 r_T_one n h l0 l1 l2 = some (h', r) → pm_run (pm_ev (d + 8)) 41 7 [.ref l0, .int l1, .int l2] [] h (fun r1 h1 => r1 = none ∧ h1 = h') := by
  induction n with
  | zero => intro h l0 l1 l2 hB; cases hB
  | succ n ih =>
    intro h l0 l1 l2 hB
    unfold T_term_7 at hB
    refine r_iload_n f41_7 rfl ?_
    refine r_sipush f41_8 cs_160 ?_
    by_cases c1q : 160 ≤ l2
    · rw [if_pos c1q] at hB
      refine r_ic_t (t := 46) f41_11 (by decide) c1q ?_
      exact r_vret pm_m_41 f41_46 rfl rfl (zV hB)
    · rw [if_neg c1q] at hB
      refine r_ic_f 46 f41_11 (by decide) c1q ?_
      refine r_aload_nN f41_14 rfl ?_
      replace hB := bnd_some hB
      obtain ⟨x2q, ex2q, hB⟩ := hB
      refine r_getI f41_15 fa_4_59 ex2q ?_
      refine r_sipush f41_18 cs_10012 ?_
      by_cases c3q : x2q = 10012
      · rw [if_pos c3q] at hB
        refine r_ic_f 46 f41_21 (by decide) (fun q => q c3q) ?_
        refine r_aload_nN f41_24 rfl ?_
        replace hB := grd_some hB
        obtain ⟨g6q, hB⟩ := hB
        replace hB := bn2_some hB
        obtain ⟨h4q, _, eh4q, hB⟩ := hB
        refine r_virtN (as := []) (q := pm_m_46) f41_25 ca_4_32 rfl rfl rfl (cs_len (Nat.le_of_ble_eq_true rfl)) g6q (P_T_step (d := d + 1) eh4q) ?_
        refine r_aload_nN f41_28 rfl ?_
        refine r_iload_n f41_29 rfl ?_
        replace hB := grd_some hB
        obtain ⟨g9q, hB⟩ := hB
        replace hB := bn2_some hB
        obtain ⟨h7q, _, eh7q, hB⟩ := hB
        refine r_virtN (as := [.int l1]) (q := pm_m_42) f41_30 ca_4_77 rfl rfl rfl (cs_len (Nat.le_of_ble_eq_true rfl)) g9q (hr_T_one _ _ _ _ eh7q) ?_
        refine r_aload_nN f41_33 rfl ?_
        refine r_sipush f41_34 cs_10012 ?_
        replace hB := grd_some hB
        obtain ⟨g12q, hB⟩ := hB
        replace hB := bn2_some hB
        obtain ⟨h10q, _, eh10q, hB⟩ := hB
        refine r_virtN (as := [.int 10012]) (q := pm_m_45) f41_37 ca_4_62 rfl rfl rfl (cs_len (Nat.le_of_ble_eq_true rfl)) g12q (P_T_emit (d := d + 7) eh10q) ?_
        obtain ⟨y13q, hy13q⟩ : ∃ z, z = l2 + 1 := ⟨_, rfl⟩
        replace hB := nmd_at hy13q hB
        refine r_iinc (L' := [.ref l0, .int l1, .int y13q]) (x := y13q) f41_40 rfl (hy13q.trans (congrArg (l2 + ·) ci_1.symm)) rfl ?_
        refine r_goto (t := 7) f41_43 (by decide) ?_
        exact pm_weak (L' := [.ref l0, .int l1, .int y13q]) ⟨.inr rfl, .inr rfl, .inr rfl, trivial⟩ (ih h10q l0 l1 y13q hB)
      · rw [if_neg c3q] at hB
        refine r_ic_t (t := 46) f41_21 (by decide) c3q ?_
        exact r_vret pm_m_41 f41_46 rfl rfl (zV hB)
theorem P_T_term {d : Nat} {h h' : pm_H} {r : Unit} (r_T_one : pm_H → Nat → Int32 → Option (pm_H × Unit)) (hr_T_one : ∀ (h : pm_H) (a0 : Nat) (a1 : Int32) (h' : pm_H), r_T_one h a0 a1 = some (h', ()) → pm_ev (d + 8) 42 [.ref a0, .int a1] h none h') {t : Nat} {a1 : Int32} (hB : T_term r_T_one h t a1 = some (h', r)) : pm_ev (d + 9) 41 [.ref t, .int a1] h none h' := by
  unfold T_term at hB
  refine pm_ev_mk (L := [.ref t, .int a1, pm_J]) pm_m_41 rfl (Nat.le_of_ble_eq_true rfl) rfl ?_
  refine r_aload_nN f41_0 rfl ?_
  refine r_iload_n f41_1 rfl ?_
  replace hB := grd_some hB
  obtain ⟨g3q, hB⟩ := hB
  replace hB := bn2_some hB
  obtain ⟨h1q, _, eh1q, hB⟩ := hB
  refine r_virtN (as := [.int a1]) (q := pm_m_42) f41_2 ca_4_77 rfl rfl rfl (cs_len (Nat.le_of_ble_eq_true rfl)) g3q (hr_T_one _ _ _ _ eh1q) ?_
  refine r_iconst f41_5 ci_0 ?_
  refine r_istore_n (L' := [.ref t, .int a1, .int 0]) (x := 0) f41_6 rfl (Nat.le_of_ble_eq_true rfl) rfl ?_
  exact pm_weak (L' := [.ref t, .int a1, .int 0]) ⟨.inr rfl, .inr rfl, .inr rfl, trivial⟩ (P_T_term_7 (d := d) r_T_one hr_T_one 1000 h1q t a1 0 hB)
theorem P_T_sum_34 {d : Nat} {h' : pm_H} {r : Unit} (r_T_term : pm_H → Nat → Int32 → Option (pm_H × Unit)) (hr_T_term : ∀ (h : pm_H) (a0 : Nat) (a1 : Int32) (h' : pm_H), r_T_term h a0 a1 = some (h', ()) → pm_ev (d + 8) 41 [.ref a0, .int a1] h none h') (k_7 : pm_H → Nat → Int32 → Int32 → Option (pm_H × Unit)) (hk_7 : ∀ (h : pm_H) (l0 : Nat) (l1 : Int32) (l2 : Int32), k_7 h l0 l1 l2 = some (h', r) → pm_run (pm_ev (d + 8)) 40 7 [.ref l0, .int l1, .int l2, pm_J] [] h (fun r1 h1 => r1 = none ∧ h1 = h')) (h : pm_H) (l0 : Nat) (l1 : Int32) (l2 : Int32) (hB : T_sum_34 r_T_term k_7 h l0 l1 l2 = some (h', r)) : pm_run (pm_ev (d + 8)) 40 34 [.ref l0, .int l1, .int l2, pm_J] [] h (fun r1 h1 => r1 = none ∧ h1 = h') := by
  unfold T_sum_34 at hB
  refine r_aload_nN f40_34 rfl ?_
  replace hB := bnd_some hB
  obtain ⟨x1q, ex1q, hB⟩ := hB
  refine r_getI f40_35 fa_4_59 ex1q ?_
  refine r_istore_n (L' := [.ref l0, .int l1, .int l2, .int x1q]) (x := x1q) f40_38 rfl (Nat.le_of_ble_eq_true rfl) rfl ?_
  refine r_aload_nN f40_39 rfl ?_
  replace hB := grd_some hB
  obtain ⟨g4q, hB⟩ := hB
  replace hB := bn2_some hB
  obtain ⟨h2q, _, eh2q, hB⟩ := hB
  refine r_virtN (as := []) (q := pm_m_46) f40_40 ca_4_32 rfl rfl rfl (cs_len (Nat.le_of_ble_eq_true rfl)) g4q (P_T_step (d := d + 1) eh2q) ?_
  refine r_aload_nN f40_43 rfl ?_
  refine r_iload_n f40_44 rfl ?_
  replace hB := grd_some hB
  obtain ⟨g7q, hB⟩ := hB
  replace hB := bn2_some hB
  obtain ⟨h5q, _, eh5q, hB⟩ := hB
  refine r_virtN (as := [.int l1]) (q := pm_m_41) f40_45 ca_4_74 rfl rfl rfl (cs_len (Nat.le_of_ble_eq_true rfl)) g7q (hr_T_term _ _ _ _ eh5q) ?_
  refine r_aload_nN f40_48 rfl ?_
  refine r_iload_n f40_49 rfl ?_
  replace hB := grd_some hB
  obtain ⟨g10q, hB⟩ := hB
  replace hB := bn2_some hB
  obtain ⟨h8q, _, eh8q, hB⟩ := hB
  refine r_virtN (as := [.int x1q]) (q := pm_m_45) f40_50 ca_4_62 rfl rfl rfl (cs_len (Nat.le_of_ble_eq_true rfl)) g10q (P_T_emit (d := d + 7) eh8q) ?_
  obtain ⟨y11q, hy11q⟩ : ∃ z, z = l2 + 1 := ⟨_, rfl⟩
  replace hB := nmd_at hy11q hB
  refine r_iinc (L' := [.ref l0, .int l1, .int y11q, .int x1q]) (x := y11q) f40_53 rfl (hy11q.trans (congrArg (l2 + ·) ci_1.symm)) rfl ?_
  refine r_goto (t := 7) f40_56 (by decide) ?_
  exact pm_weak (L' := [.ref l0, .int l1, .int y11q, pm_J]) ⟨.inr rfl, .inr rfl, .inr rfl, .inl rfl, trivial⟩ (hk_7 h8q l0 l1 y11q hB)
theorem P_T_sum_7 {d : Nat} {h' : pm_H} {r : Unit} (r_T_term : pm_H → Nat → Int32 → Option (pm_H × Unit)) (hr_T_term : ∀ (h : pm_H) (a0 : Nat) (a1 : Int32) (h' : pm_H), r_T_term h a0 a1 = some (h', ()) → pm_ev (d + 8) 41 [.ref a0, .int a1] h none h') (n : Nat) : ∀ (h : pm_H) (l0 : Nat) (l1 : Int32) (l2 : Int32), T_sum_7 r_T_term n h l0 l1 l2 = some (h', r) → pm_run (pm_ev (d + 8)) 40 7 [.ref l0, .int l1, .int l2, pm_J] [] h (fun r1 h1 => r1 = none ∧ h1 = h') := by
  induction n with
  | zero => intro h l0 l1 l2 hB; cases hB
  | succ n ih =>
    intro h l0 l1 l2 hB
    unfold T_sum_7 at hB
    refine r_iload_n f40_7 rfl ?_
    refine r_sipush f40_8 cs_160 ?_
    by_cases c1q : 160 ≤ l2
    · rw [if_pos c1q] at hB
      refine r_ic_t (t := 59) f40_11 (by decide) c1q ?_
      exact r_vret pm_m_40 f40_59 rfl rfl (zV hB)
    · rw [if_neg c1q] at hB
      refine r_ic_f 59 f40_11 (by decide) c1q ?_
      refine r_aload_nN f40_14 rfl ?_
      replace hB := bnd_some hB
      obtain ⟨x2q, ex2q, hB⟩ := hB
      refine r_getI f40_15 fa_4_59 ex2q ?_
      refine r_sipush f40_18 cs_10010 ?_
      by_cases c3q : x2q = 10010
      · rw [if_pos c3q] at hB
        refine r_ic_t (t := 34) f40_21 (by decide) c3q ?_
        exact pm_weak (L' := [.ref l0, .int l1, .int l2, pm_J]) ⟨.inr rfl, .inr rfl, .inr rfl, .inl rfl, trivial⟩ (P_T_sum_34 (d := d) r_T_term hr_T_term (T_sum_7 r_T_term n) ih h l0 l1 l2 hB)
      · rw [if_neg c3q] at hB
        refine r_ic_f 34 f40_21 (by decide) c3q ?_
        refine r_aload_nN f40_24 rfl ?_
        replace hB := bnd_some hB
        obtain ⟨x4q, ex4q, hB⟩ := hB
        refine r_getI f40_25 fa_4_59 ex4q ?_
        refine r_sipush f40_28 cs_10011 ?_
        by_cases c5q : x4q = 10011
        · rw [if_pos c5q] at hB
          refine r_ic_f 59 f40_31 (by decide) (fun q => q c5q) ?_
          exact pm_weak (L' := [.ref l0, .int l1, .int l2, pm_J]) ⟨.inr rfl, .inr rfl, .inr rfl, .inl rfl, trivial⟩ (P_T_sum_34 (d := d) r_T_term hr_T_term (T_sum_7 r_T_term n) ih h l0 l1 l2 hB)
        · rw [if_neg c5q] at hB
          refine r_ic_t (t := 59) f40_31 (by decide) c5q ?_
          exact r_vret pm_m_40 f40_59 rfl rfl (zV hB)
theorem P_T_sum {d : Nat} {h h' : pm_H} {r : Unit} (r_T_term : pm_H → Nat → Int32 → Option (pm_H × Unit)) (hr_T_term : ∀ (h : pm_H) (a0 : Nat) (a1 : Int32) (h' : pm_H), r_T_term h a0 a1 = some (h', ()) → pm_ev (d + 8) 41 [.ref a0, .int a1] h none h') {t : Nat} {a1 : Int32} (hB : T_sum r_T_term h t a1 = some (h', r)) : pm_ev (d + 9) 40 [.ref t, .int a1] h none h' := by
  unfold T_sum at hB
  refine pm_ev_mk (L := [.ref t, .int a1, pm_J, pm_J]) pm_m_40 rfl (Nat.le_of_ble_eq_true rfl) rfl ?_
  refine r_aload_nN f40_0 rfl ?_
  refine r_iload_n f40_1 rfl ?_
  replace hB := grd_some hB
  obtain ⟨g3q, hB⟩ := hB
  replace hB := bn2_some hB
  obtain ⟨h1q, _, eh1q, hB⟩ := hB
  refine r_virtN (as := [.int a1]) (q := pm_m_41) f40_2 ca_4_74 rfl rfl rfl (cs_len (Nat.le_of_ble_eq_true rfl)) g3q (hr_T_term _ _ _ _ eh1q) ?_
  refine r_iconst f40_5 ci_0 ?_
  refine r_istore_n (L' := [.ref t, .int a1, .int 0, pm_J]) (x := 0) f40_6 rfl (Nat.le_of_ble_eq_true rfl) rfl ?_
  exact pm_weak (L' := [.ref t, .int a1, .int 0, pm_J]) ⟨.inr rfl, .inr rfl, .inr rfl, .inl rfl, trivial⟩ (P_T_sum_7 (d := d) r_T_term hr_T_term 1000 h1q t a1 0 hB)
theorem P_T_denial_64 {d : Nat} {h' : pm_H} {r : Unit} (r_T_denial : pm_H → Nat → Int32 → Option (pm_H × Unit)) (hr_T_denial : ∀ (h : pm_H) (a0 : Nat) (a1 : Int32) (h' : pm_H), r_T_denial h a0 a1 = some (h', ()) → pm_ev (d + 8) 39 [.ref a0, .int a1] h none h') (r_T_sum : pm_H → Nat → Int32 → Option (pm_H × Unit)) (hr_T_sum : ∀ (h : pm_H) (a0 : Nat) (a1 : Int32) (h' : pm_H), r_T_sum h a0 a1 = some (h', ()) → pm_ev (d + 8) 40 [.ref a0, .int a1] h none h') (h : pm_H) (l0 : Nat) (l1 : Int32) (hB : T_denial_64 r_T_denial r_T_sum h l0 l1 = some (h', r)) : pm_run (pm_ev (d + 8)) 39 64 [.ref l0, .int l1, pm_J] [] h (fun r1 h1 => r1 = none ∧ h1 = h') := by
  unfold T_denial_64 at hB
  refine r_aload_nN f39_64 rfl ?_
  replace hB := bnd_some hB
  obtain ⟨x1q, ex1q, hB⟩ := hB
  refine r_getI f39_65 fa_4_59 ex1q ?_
  refine r_istore_n (L' := [.ref l0, .int l1, .int x1q]) (x := x1q) f39_68 rfl (Nat.le_of_ble_eq_true rfl) rfl ?_
  refine r_aload_nN f39_69 rfl ?_
  replace hB := grd_some hB
  obtain ⟨g4q, hB⟩ := hB
  replace hB := bn2_some hB
  obtain ⟨h2q, _, eh2q, hB⟩ := hB
  refine r_virtN (as := []) (q := pm_m_46) f39_70 ca_4_32 rfl rfl rfl (cs_len (Nat.le_of_ble_eq_true rfl)) g4q (P_T_step (d := d + 1) eh2q) ?_
  refine r_aload_nN f39_73 rfl ?_
  refine r_iload_n f39_74 rfl ?_
  replace hB := grd_some hB
  obtain ⟨g7q, hB⟩ := hB
  replace hB := bn2_some hB
  obtain ⟨h5q, _, eh5q, hB⟩ := hB
  refine r_virtN (as := [.int l1]) (q := pm_m_40) f39_75 ca_4_71 rfl rfl rfl (cs_len (Nat.le_of_ble_eq_true rfl)) g7q (hr_T_sum _ _ _ _ eh5q) ?_
  refine r_aload_nN f39_78 rfl ?_
  refine r_iload_n f39_79 rfl ?_
  replace hB := grd_some hB
  obtain ⟨g10q, hB⟩ := hB
  replace hB := bn2_some hB
  obtain ⟨h8q, _, eh8q, hB⟩ := hB
  refine r_virtN (as := [.int x1q]) (q := pm_m_45) f39_80 ca_4_62 rfl rfl rfl (cs_len (Nat.le_of_ble_eq_true rfl)) g10q (P_T_emit (d := d + 7) eh8q) ?_
  exact r_vret pm_m_39 f39_83 rfl rfl (zV hB)
theorem P_T_denial {d : Nat} {h h' : pm_H} {r : Unit} (r_T_denial : pm_H → Nat → Int32 → Option (pm_H × Unit)) (hr_T_denial : ∀ (h : pm_H) (a0 : Nat) (a1 : Int32) (h' : pm_H), r_T_denial h a0 a1 = some (h', ()) → pm_ev (d + 8) 39 [.ref a0, .int a1] h none h') (r_T_sum : pm_H → Nat → Int32 → Option (pm_H × Unit)) (hr_T_sum : ∀ (h : pm_H) (a0 : Nat) (a1 : Int32) (h' : pm_H), r_T_sum h a0 a1 = some (h', ()) → pm_ev (d + 8) 40 [.ref a0, .int a1] h none h') {t : Nat} {a1 : Int32} (hB : T_denial r_T_denial r_T_sum h t a1 = some (h', r)) : pm_ev (d + 9) 39 [.ref t, .int a1] h none h' := by
  unfold T_denial at hB
  refine pm_ev_mk (L := [.ref t, .int a1, pm_J]) pm_m_39 rfl (Nat.le_of_ble_eq_true rfl) rfl ?_
  refine r_aload_nN f39_0 rfl ?_
  replace hB := bnd_some hB
  obtain ⟨x1q, ex1q, hB⟩ := hB
  refine r_getI f39_1 fa_4_59 ex1q ?_
  refine r_sipush f39_4 cs_10013 ?_
  by_cases c2q : x1q = 10013
  · rw [if_pos c2q] at hB
    refine r_ic_f 39 f39_7 (by decide) (fun q => q c2q) ?_
    refine r_iload_n f39_10 rfl ?_
    refine r_iconst f39_11 ci_5 ?_
    by_cases c10q : a1 < 5
    · rw [if_pos c10q] at hB
      refine r_ic_t (t := 20) f39_12 (by decide) c10q ?_
      refine r_aload_nN f39_20 rfl ?_
      replace hB := grd_some hB
      obtain ⟨g13q, hB⟩ := hB
      replace hB := bn2_some hB
      obtain ⟨h11q, _, eh11q, hB⟩ := hB
      refine r_virtN (as := []) (q := pm_m_46) f39_21 ca_4_32 rfl rfl rfl (cs_len (Nat.le_of_ble_eq_true rfl)) g13q (P_T_step (d := d + 1) eh11q) ?_
      refine r_aload_nN f39_24 rfl ?_
      refine r_iload_n f39_25 rfl ?_
      refine r_iconst f39_26 ci_1 ?_
      refine r_iadd f39_27 ?_
      replace hB := grd_some hB
      obtain ⟨g16q, hB⟩ := hB
      replace hB := bn2_some hB
      obtain ⟨h14q, _, eh14q, hB⟩ := hB
      refine r_virtN (as := [.int (a1 + 1)]) (q := pm_m_39) f39_28 ca_4_65 rfl rfl rfl (cs_len (Nat.le_of_ble_eq_true rfl)) g16q (hr_T_denial _ _ _ _ eh14q) ?_
      refine r_aload_nN f39_31 rfl ?_
      refine r_sipush f39_32 cs_10013 ?_
      replace hB := grd_some hB
      obtain ⟨g19q, hB⟩ := hB
      replace hB := bn2_some hB
      obtain ⟨h17q, _, eh17q, hB⟩ := hB
      refine r_virtN (as := [.int 10013]) (q := pm_m_45) f39_35 ca_4_62 rfl rfl rfl (cs_len (Nat.le_of_ble_eq_true rfl)) g19q (P_T_emit (d := d + 7) eh17q) ?_
      exact r_vret pm_m_39 f39_38 rfl rfl (zV hB)
    · rw [if_neg c10q] at hB
      refine r_ic_f 20 f39_12 (by decide) c10q ?_
      refine r_aload_nN f39_15 rfl ?_
      replace hB := grd_some hB
      obtain ⟨g22q, hB⟩ := hB
      replace hB := bn2_some hB
      obtain ⟨h20q, _, eh20q, hB⟩ := hB
      refine r_virtN (as := []) (q := pm_m_44) f39_16 ca_4_68 rfl rfl rfl (cs_len (Nat.le_of_ble_eq_true rfl)) g22q (P_T_fail (d := d + 7) eh20q) ?_
      exact r_vret pm_m_39 f39_19 rfl rfl (zV hB)
  · rw [if_neg c2q] at hB
    refine r_ic_t (t := 39) f39_7 (by decide) c2q ?_
    refine r_aload_nN f39_39 rfl ?_
    refine r_iload_n f39_40 rfl ?_
    replace hB := grd_some hB
    obtain ⟨g5q, hB⟩ := hB
    replace hB := bn2_some hB
    obtain ⟨h3q, _, eh3q, hB⟩ := hB
    refine r_virtN (as := [.int a1]) (q := pm_m_40) f39_41 ca_4_71 rfl rfl rfl (cs_len (Nat.le_of_ble_eq_true rfl)) g5q (hr_T_sum _ _ _ _ eh3q) ?_
    refine r_aload_nN f39_44 rfl ?_
    replace hB := bnd_some hB
    obtain ⟨x6q, ex6q, hB⟩ := hB
    refine r_getI f39_45 fa_4_59 ex6q ?_
    refine r_sipush f39_48 cs_10008 ?_
    by_cases c7q : x6q = 10008
    · rw [if_pos c7q] at hB
      refine r_ic_t (t := 64) f39_51 (by decide) c7q ?_
      exact pm_weak (L' := [.ref t, .int a1, pm_J]) ⟨.inr rfl, .inr rfl, .inl rfl, trivial⟩ (P_T_denial_64 (d := d) r_T_denial hr_T_denial r_T_sum hr_T_sum h3q t a1 hB)
    · rw [if_neg c7q] at hB
      refine r_ic_f 64 f39_51 (by decide) c7q ?_
      refine r_aload_nN f39_54 rfl ?_
      replace hB := bnd_some hB
      obtain ⟨x8q, ex8q, hB⟩ := hB
      refine r_getI f39_55 fa_4_59 ex8q ?_
      refine r_sipush f39_58 cs_10009 ?_
      by_cases c9q : x8q = 10009
      · rw [if_pos c9q] at hB
        refine r_ic_f 83 f39_61 (by decide) (fun q => q c9q) ?_
        exact pm_weak (L' := [.ref t, .int a1, pm_J]) ⟨.inr rfl, .inr rfl, .inl rfl, trivial⟩ (P_T_denial_64 (d := d) r_T_denial hr_T_denial r_T_sum hr_T_sum h3q t a1 hB)
      · rw [if_neg c9q] at hB
        refine r_ic_t (t := 83) f39_61 (by decide) c9q ?_
        exact r_vret pm_m_39 f39_83 rfl rfl (zV hB)
theorem P_T_both_7 {d : Nat} {h' : pm_H} {r : Unit} (r_T_denial : pm_H → Nat → Int32 → Option (pm_H × Unit)) (hr_T_denial : ∀ (h : pm_H) (a0 : Nat) (a1 : Int32) (h' : pm_H), r_T_denial h a0 a1 = some (h', ()) → pm_ev (d + 8) 39 [.ref a0, .int a1] h none h') (n : Nat) : ∀ (h : pm_H) (l0 : Nat) (l1 : Int32) (l2 : Int32), T_both_7 r_T_denial n h l0 l1 l2 = some (h', r) → pm_run (pm_ev (d + 8)) 38 7 [.ref l0, .int l1, .int l2] [] h (fun r1 h1 => r1 = none ∧ h1 = h') := by
  induction n with
  | zero => intro h l0 l1 l2 hB; cases hB
  | succ n ih =>
    intro h l0 l1 l2 hB
    unfold T_both_7 at hB
    refine r_iload_n f38_7 rfl ?_
    refine r_sipush f38_8 cs_160 ?_
    by_cases c1q : 160 ≤ l2
    · rw [if_pos c1q] at hB
      refine r_ic_t (t := 46) f38_11 (by decide) c1q ?_
      exact r_vret pm_m_38 f38_46 rfl rfl (zV hB)
    · rw [if_neg c1q] at hB
      refine r_ic_f 46 f38_11 (by decide) c1q ?_
      refine r_aload_nN f38_14 rfl ?_
      replace hB := bnd_some hB
      obtain ⟨x2q, ex2q, hB⟩ := hB
      refine r_getI f38_15 fa_4_59 ex2q ?_
      refine r_sipush f38_18 cs_10007 ?_
      by_cases c3q : x2q = 10007
      · rw [if_pos c3q] at hB
        refine r_ic_f 46 f38_21 (by decide) (fun q => q c3q) ?_
        refine r_aload_nN f38_24 rfl ?_
        replace hB := grd_some hB
        obtain ⟨g6q, hB⟩ := hB
        replace hB := bn2_some hB
        obtain ⟨h4q, _, eh4q, hB⟩ := hB
        refine r_virtN (as := []) (q := pm_m_46) f38_25 ca_4_32 rfl rfl rfl (cs_len (Nat.le_of_ble_eq_true rfl)) g6q (P_T_step (d := d + 1) eh4q) ?_
        refine r_aload_nN f38_28 rfl ?_
        refine r_iload_n f38_29 rfl ?_
        replace hB := grd_some hB
        obtain ⟨g9q, hB⟩ := hB
        replace hB := bn2_some hB
        obtain ⟨h7q, _, eh7q, hB⟩ := hB
        refine r_virtN (as := [.int l1]) (q := pm_m_39) f38_30 ca_4_65 rfl rfl rfl (cs_len (Nat.le_of_ble_eq_true rfl)) g9q (hr_T_denial _ _ _ _ eh7q) ?_
        refine r_aload_nN f38_33 rfl ?_
        refine r_sipush f38_34 cs_10007 ?_
        replace hB := grd_some hB
        obtain ⟨g12q, hB⟩ := hB
        replace hB := bn2_some hB
        obtain ⟨h10q, _, eh10q, hB⟩ := hB
        refine r_virtN (as := [.int 10007]) (q := pm_m_45) f38_37 ca_4_62 rfl rfl rfl (cs_len (Nat.le_of_ble_eq_true rfl)) g12q (P_T_emit (d := d + 7) eh10q) ?_
        obtain ⟨y13q, hy13q⟩ : ∃ z, z = l2 + 1 := ⟨_, rfl⟩
        replace hB := nmd_at hy13q hB
        refine r_iinc (L' := [.ref l0, .int l1, .int y13q]) (x := y13q) f38_40 rfl (hy13q.trans (congrArg (l2 + ·) ci_1.symm)) rfl ?_
        refine r_goto (t := 7) f38_43 (by decide) ?_
        exact pm_weak (L' := [.ref l0, .int l1, .int y13q]) ⟨.inr rfl, .inr rfl, .inr rfl, trivial⟩ (ih h10q l0 l1 y13q hB)
      · rw [if_neg c3q] at hB
        refine r_ic_t (t := 46) f38_21 (by decide) c3q ?_
        exact r_vret pm_m_38 f38_46 rfl rfl (zV hB)
theorem P_T_both {d : Nat} {h h' : pm_H} {r : Unit} (r_T_denial : pm_H → Nat → Int32 → Option (pm_H × Unit)) (hr_T_denial : ∀ (h : pm_H) (a0 : Nat) (a1 : Int32) (h' : pm_H), r_T_denial h a0 a1 = some (h', ()) → pm_ev (d + 8) 39 [.ref a0, .int a1] h none h') {t : Nat} {a1 : Int32} (hB : T_both r_T_denial h t a1 = some (h', r)) : pm_ev (d + 9) 38 [.ref t, .int a1] h none h' := by
  unfold T_both at hB
  refine pm_ev_mk (L := [.ref t, .int a1, pm_J]) pm_m_38 rfl (Nat.le_of_ble_eq_true rfl) rfl ?_
  refine r_aload_nN f38_0 rfl ?_
  refine r_iload_n f38_1 rfl ?_
  replace hB := grd_some hB
  obtain ⟨g3q, hB⟩ := hB
  replace hB := bn2_some hB
  obtain ⟨h1q, _, eh1q, hB⟩ := hB
  refine r_virtN (as := [.int a1]) (q := pm_m_39) f38_2 ca_4_65 rfl rfl rfl (cs_len (Nat.le_of_ble_eq_true rfl)) g3q (hr_T_denial _ _ _ _ eh1q) ?_
  refine r_iconst f38_5 ci_0 ?_
  refine r_istore_n (L' := [.ref t, .int a1, .int 0]) (x := 0) f38_6 rfl (Nat.le_of_ble_eq_true rfl) rfl ?_
  exact pm_weak (L' := [.ref t, .int a1, .int 0]) ⟨.inr rfl, .inr rfl, .inr rfl, trivial⟩ (P_T_both_7 (d := d) r_T_denial hr_T_denial 1000 h1q t a1 0 hB)
theorem P_T_either_7 {d : Nat} {h' : pm_H} {r : Unit} (r_T_both : pm_H → Nat → Int32 → Option (pm_H × Unit)) (hr_T_both : ∀ (h : pm_H) (a0 : Nat) (a1 : Int32) (h' : pm_H), r_T_both h a0 a1 = some (h', ()) → pm_ev (d + 8) 38 [.ref a0, .int a1] h none h') (n : Nat) : ∀ (h : pm_H) (l0 : Nat) (l1 : Int32) (l2 : Int32), T_either_7 r_T_both n h l0 l1 l2 = some (h', r) → pm_run (pm_ev (d + 8)) 37 7 [.ref l0, .int l1, .int l2] [] h (fun r1 h1 => r1 = none ∧ h1 = h') := by
  induction n with
  | zero => intro h l0 l1 l2 hB; cases hB
  | succ n ih =>
    intro h l0 l1 l2 hB
    unfold T_either_7 at hB
    refine r_iload_n f37_7 rfl ?_
    refine r_sipush f37_8 cs_160 ?_
    by_cases c1q : 160 ≤ l2
    · rw [if_pos c1q] at hB
      refine r_ic_t (t := 46) f37_11 (by decide) c1q ?_
      exact r_vret pm_m_37 f37_46 rfl rfl (zV hB)
    · rw [if_neg c1q] at hB
      refine r_ic_f 46 f37_11 (by decide) c1q ?_
      refine r_aload_nN f37_14 rfl ?_
      replace hB := bnd_some hB
      obtain ⟨x2q, ex2q, hB⟩ := hB
      refine r_getI f37_15 fa_4_59 ex2q ?_
      refine r_sipush f37_18 cs_10006 ?_
      by_cases c3q : x2q = 10006
      · rw [if_pos c3q] at hB
        refine r_ic_f 46 f37_21 (by decide) (fun q => q c3q) ?_
        refine r_aload_nN f37_24 rfl ?_
        replace hB := grd_some hB
        obtain ⟨g6q, hB⟩ := hB
        replace hB := bn2_some hB
        obtain ⟨h4q, _, eh4q, hB⟩ := hB
        refine r_virtN (as := []) (q := pm_m_46) f37_25 ca_4_32 rfl rfl rfl (cs_len (Nat.le_of_ble_eq_true rfl)) g6q (P_T_step (d := d + 1) eh4q) ?_
        refine r_aload_nN f37_28 rfl ?_
        refine r_iload_n f37_29 rfl ?_
        replace hB := grd_some hB
        obtain ⟨g9q, hB⟩ := hB
        replace hB := bn2_some hB
        obtain ⟨h7q, _, eh7q, hB⟩ := hB
        refine r_virtN (as := [.int l1]) (q := pm_m_38) f37_30 ca_4_56 rfl rfl rfl (cs_len (Nat.le_of_ble_eq_true rfl)) g9q (hr_T_both _ _ _ _ eh7q) ?_
        refine r_aload_nN f37_33 rfl ?_
        refine r_sipush f37_34 cs_10006 ?_
        replace hB := grd_some hB
        obtain ⟨g12q, hB⟩ := hB
        replace hB := bn2_some hB
        obtain ⟨h10q, _, eh10q, hB⟩ := hB
        refine r_virtN (as := [.int 10006]) (q := pm_m_45) f37_37 ca_4_62 rfl rfl rfl (cs_len (Nat.le_of_ble_eq_true rfl)) g12q (P_T_emit (d := d + 7) eh10q) ?_
        obtain ⟨y13q, hy13q⟩ : ∃ z, z = l2 + 1 := ⟨_, rfl⟩
        replace hB := nmd_at hy13q hB
        refine r_iinc (L' := [.ref l0, .int l1, .int y13q]) (x := y13q) f37_40 rfl (hy13q.trans (congrArg (l2 + ·) ci_1.symm)) rfl ?_
        refine r_goto (t := 7) f37_43 (by decide) ?_
        exact pm_weak (L' := [.ref l0, .int l1, .int y13q]) ⟨.inr rfl, .inr rfl, .inr rfl, trivial⟩ (ih h10q l0 l1 y13q hB)
      · rw [if_neg c3q] at hB
        refine r_ic_t (t := 46) f37_21 (by decide) c3q ?_
        exact r_vret pm_m_37 f37_46 rfl rfl (zV hB)
theorem P_T_either {d : Nat} {h h' : pm_H} {r : Unit} (r_T_both : pm_H → Nat → Int32 → Option (pm_H × Unit)) (hr_T_both : ∀ (h : pm_H) (a0 : Nat) (a1 : Int32) (h' : pm_H), r_T_both h a0 a1 = some (h', ()) → pm_ev (d + 8) 38 [.ref a0, .int a1] h none h') {t : Nat} {a1 : Int32} (hB : T_either r_T_both h t a1 = some (h', r)) : pm_ev (d + 9) 37 [.ref t, .int a1] h none h' := by
  unfold T_either at hB
  refine pm_ev_mk (L := [.ref t, .int a1, pm_J]) pm_m_37 rfl (Nat.le_of_ble_eq_true rfl) rfl ?_
  refine r_aload_nN f37_0 rfl ?_
  refine r_iload_n f37_1 rfl ?_
  replace hB := grd_some hB
  obtain ⟨g3q, hB⟩ := hB
  replace hB := bn2_some hB
  obtain ⟨h1q, _, eh1q, hB⟩ := hB
  refine r_virtN (as := [.int a1]) (q := pm_m_38) f37_2 ca_4_56 rfl rfl rfl (cs_len (Nat.le_of_ble_eq_true rfl)) g3q (hr_T_both _ _ _ _ eh1q) ?_
  refine r_iconst f37_5 ci_0 ?_
  refine r_istore_n (L' := [.ref t, .int a1, .int 0]) (x := 0) f37_6 rfl (Nat.le_of_ble_eq_true rfl) rfl ?_
  exact pm_weak (L' := [.ref t, .int a1, .int 0]) ⟨.inr rfl, .inr rfl, .inr rfl, trivial⟩ (P_T_either_7 (d := d) r_T_both hr_T_both 1000 h1q t a1 0 hB)
