theorem f55_0 : pm_fetch 55 0 = some (.aload_n 0, 1) := rfl
theorem f55_1 : pm_fetch 55 1 = some (.invokespecial 1, 3) := rfl
theorem f55_4 : pm_fetch 55 4 = some (.aload_n 0, 1) := rfl
theorem f55_5 : pm_fetch 55 5 = some (.bipush 6, 2) := rfl
theorem f55_7 : pm_fetch 55 7 = some (.anewarray 9, 3) := rfl
theorem f55_10 : pm_fetch 55 10 = some (.putfield 11, 3) := rfl
theorem f55_13 : pm_fetch 55 13 = some (.aload_n 0, 1) := rfl
theorem f55_14 : pm_fetch 55 14 = some (.new 15, 3) := rfl
theorem f55_17 : pm_fetch 55 17 = some (.dup, 1) := rfl
theorem f55_18 : pm_fetch 55 18 = some (.invokespecial 17, 3) := rfl
theorem f55_21 : pm_fetch 55 21 = some (.putfield 18, 3) := rfl
theorem f55_24 : pm_fetch 55 24 = some (.aload_n 0, 1) := rfl
theorem f55_25 : pm_fetch 55 25 = some (.iconst 4, 1) := rfl
theorem f55_26 : pm_fetch 55 26 = some (.anewarray 22, 3) := rfl
theorem f55_29 : pm_fetch 55 29 = some (.putfield 24, 3) := rfl
theorem f55_32 : pm_fetch 55 32 = some (.aload_n 0, 1) := rfl
theorem f55_33 : pm_fetch 55 33 = some (.bipush 40, 2) := rfl
theorem f55_35 : pm_fetch 55 35 = some (.newarray .int, 2) := rfl
theorem f55_37 : pm_fetch 55 37 = some (.putfield 28, 3) := rfl
theorem f55_40 : pm_fetch 55 40 = some (.iconst 0, 1) := rfl
theorem f55_41 : pm_fetch 55 41 = some (.istore_n 1, 1) := rfl
theorem f55_42 : pm_fetch 55 42 = some (.iload_n 1, 1) := rfl
theorem f55_43 : pm_fetch 55 43 = some (.aload_n 0, 1) := rfl
theorem f55_44 : pm_fetch 55 44 = some (.getfield 24, 3) := rfl
theorem f55_47 : pm_fetch 55 47 = some (.arraylength, 1) := rfl
theorem f55_48 : pm_fetch 55 48 = some (.if_icmp .ge 22, 3) := rfl
theorem f55_51 : pm_fetch 55 51 = some (.aload_n 0, 1) := rfl
theorem f55_52 : pm_fetch 55 52 = some (.getfield 24, 3) := rfl
theorem f55_55 : pm_fetch 55 55 = some (.iload_n 1, 1) := rfl
theorem f55_56 : pm_fetch 55 56 = some (.new 22, 3) := rfl
theorem f55_59 : pm_fetch 55 59 = some (.dup, 1) := rfl
theorem f55_60 : pm_fetch 55 60 = some (.invokespecial 32, 3) := rfl
theorem f55_63 : pm_fetch 55 63 = some (.aastore, 1) := rfl
theorem f55_64 : pm_fetch 55 64 = some (.iinc 1 1, 3) := rfl
theorem f55_67 : pm_fetch 55 67 = some (.goto (-25), 3) := rfl
theorem f55_70 : pm_fetch 55 70 = some (.new 9, 3) := rfl
theorem f55_73 : pm_fetch 55 73 = some (.dup, 1) := rfl
theorem f55_74 : pm_fetch 55 74 = some (.iconst 0, 1) := rfl
theorem f55_75 : pm_fetch 55 75 = some (.iconst 1, 1) := rfl
theorem f55_76 : pm_fetch 55 76 = some (.newarray .int, 2) := rfl
theorem f55_78 : pm_fetch 55 78 = some (.dup, 1) := rfl
theorem f55_79 : pm_fetch 55 79 = some (.iconst 0, 1) := rfl
theorem f55_80 : pm_fetch 55 80 = some (.iconst 2, 1) := rfl
theorem f55_81 : pm_fetch 55 81 = some (.iastore, 1) := rfl
theorem f55_82 : pm_fetch 55 82 = some (.iconst 5, 1) := rfl
theorem f55_83 : pm_fetch 55 83 = some (.newarray .int, 2) := rfl
theorem f55_85 : pm_fetch 55 85 = some (.dup, 1) := rfl
theorem f55_86 : pm_fetch 55 86 = some (.iconst 0, 1) := rfl
theorem f55_87 : pm_fetch 55 87 = some (.iconst 1, 1) := rfl
theorem f55_88 : pm_fetch 55 88 = some (.iastore, 1) := rfl
theorem f55_89 : pm_fetch 55 89 = some (.dup, 1) := rfl
theorem f55_90 : pm_fetch 55 90 = some (.iconst 1, 1) := rfl
theorem f55_91 : pm_fetch 55 91 = some (.bipush 9, 2) := rfl
theorem f55_93 : pm_fetch 55 93 = some (.iastore, 1) := rfl
theorem f55_94 : pm_fetch 55 94 = some (.dup, 1) := rfl
theorem f55_95 : pm_fetch 55 95 = some (.iconst 2, 1) := rfl
theorem f55_96 : pm_fetch 55 96 = some (.sipush 10003, 3) := rfl
theorem f55_99 : pm_fetch 55 99 = some (.iastore, 1) := rfl
theorem f55_100 : pm_fetch 55 100 = some (.dup, 1) := rfl
theorem f55_101 : pm_fetch 55 101 = some (.iconst 3, 1) := rfl
theorem f55_102 : pm_fetch 55 102 = some (.sipush 10012, 3) := rfl
theorem f55_105 : pm_fetch 55 105 = some (.iastore, 1) := rfl
theorem f55_106 : pm_fetch 55 106 = some (.dup, 1) := rfl
theorem f55_107 : pm_fetch 55 107 = some (.iconst 4, 1) := rfl
theorem f55_108 : pm_fetch 55 108 = some (.sipush 10011, 3) := rfl
theorem f55_111 : pm_fetch 55 111 = some (.iastore, 1) := rfl
theorem f55_112 : pm_fetch 55 112 = some (.iconst 1, 1) := rfl
theorem f55_113 : pm_fetch 55 113 = some (.newarray .int, 2) := rfl
theorem f55_115 : pm_fetch 55 115 = some (.dup, 1) := rfl
theorem f55_116 : pm_fetch 55 116 = some (.iconst 0, 1) := rfl
theorem f55_117 : pm_fetch 55 117 = some (.iconst 1, 1) := rfl
theorem f55_118 : pm_fetch 55 118 = some (.iastore, 1) := rfl
theorem f55_119 : pm_fetch 55 119 = some (.invokespecial 33, 3) := rfl
theorem f55_122 : pm_fetch 55 122 = some (.astore_n 1, 1) := rfl
theorem f55_123 : pm_fetch 55 123 = some (.aload_n 0, 1) := rfl
theorem f55_124 : pm_fetch 55 124 = some (.getfield 11, 3) := rfl
theorem f55_127 : pm_fetch 55 127 = some (.iconst 0, 1) := rfl
theorem f55_128 : pm_fetch 55 128 = some (.aload_n 1, 1) := rfl
theorem f55_129 : pm_fetch 55 129 = some (.aastore, 1) := rfl
theorem f55_130 : pm_fetch 55 130 = some (.aload_n 0, 1) := rfl
theorem f55_131 : pm_fetch 55 131 = some (.iconst 1, 1) := rfl
theorem f55_132 : pm_fetch 55 132 = some (.putfield 36, 3) := rfl
theorem f55_135 : pm_fetch 55 135 = some (.aload_n 0, 1) := rfl
theorem f55_136 : pm_fetch 55 136 = some (.new 40, 3) := rfl
theorem f55_139 : pm_fetch 55 139 = some (.dup, 1) := rfl
theorem f55_140 : pm_fetch 55 140 = some (.aload_n 1, 1) := rfl
theorem f55_141 : pm_fetch 55 141 = some (.invokespecial 42, 3) := rfl
theorem f55_144 : pm_fetch 55 144 = some (.putfield 45, 3) := rfl
theorem f55_147 : pm_fetch 55 147 = some (.aload_n 0, 1) := rfl
theorem f55_148 : pm_fetch 55 148 = some (.new 40, 3) := rfl
theorem f55_151 : pm_fetch 55 151 = some (.dup, 1) := rfl
theorem f55_152 : pm_fetch 55 152 = some (.aload_n 1, 1) := rfl
theorem f55_153 : pm_fetch 55 153 = some (.invokespecial 42, 3) := rfl
theorem f55_156 : pm_fetch 55 156 = some (.putfield 49, 3) := rfl
theorem f55_159 : pm_fetch 55 159 = some (.return_, 1) := rfl
theorem f56_0 : pm_fetch 56 0 = some (.iload_n 1, 1) := rfl
theorem f56_1 : pm_fetch 56 1 = some (.tableswitch 120 0 7 #[47, 55, 66, 74, 85, 96, 101, 112], 47) := rfl
theorem f56_48 : pm_fetch 56 48 = some (.aload_n 0, 1) := rfl
theorem f56_49 : pm_fetch 56 49 = some (.getfield 45, 3) := rfl
theorem f56_52 : pm_fetch 56 52 = some (.getfield 52, 3) := rfl
theorem f56_55 : pm_fetch 56 55 = some (.ireturn, 1) := rfl
theorem f56_56 : pm_fetch 56 56 = some (.aload_n 0, 1) := rfl
theorem f56_57 : pm_fetch 56 57 = some (.getfield 45, 3) := rfl
theorem f56_60 : pm_fetch 56 60 = some (.invokevirtual 55, 3) := rfl
theorem f56_63 : pm_fetch 56 63 = some (.invokestatic 59, 3) := rfl
theorem f56_66 : pm_fetch 56 66 = some (.ireturn, 1) := rfl
theorem f56_67 : pm_fetch 56 67 = some (.aload_n 0, 1) := rfl
theorem f56_68 : pm_fetch 56 68 = some (.getfield 45, 3) := rfl
theorem f56_71 : pm_fetch 56 71 = some (.getfield 65, 3) := rfl
theorem f56_74 : pm_fetch 56 74 = some (.ireturn, 1) := rfl
theorem f56_75 : pm_fetch 56 75 = some (.aload_n 0, 1) := rfl
theorem f56_76 : pm_fetch 56 76 = some (.getfield 45, 3) := rfl
theorem f56_79 : pm_fetch 56 79 = some (.getfield 68, 3) := rfl
theorem f56_82 : pm_fetch 56 82 = some (.invokestatic 72, 3) := rfl
theorem f56_85 : pm_fetch 56 85 = some (.ireturn, 1) := rfl
theorem f56_86 : pm_fetch 56 86 = some (.aload_n 0, 1) := rfl
theorem f56_87 : pm_fetch 56 87 = some (.getfield 45, 3) := rfl
theorem f56_90 : pm_fetch 56 90 = some (.getfield 77, 3) := rfl
theorem f56_93 : pm_fetch 56 93 = some (.invokestatic 72, 3) := rfl
theorem f56_96 : pm_fetch 56 96 = some (.ireturn, 1) := rfl
theorem f56_97 : pm_fetch 56 97 = some (.aload_n 0, 1) := rfl
theorem f56_98 : pm_fetch 56 98 = some (.getfield 36, 3) := rfl
theorem f56_101 : pm_fetch 56 101 = some (.ireturn, 1) := rfl
theorem f56_102 : pm_fetch 56 102 = some (.aload_n 0, 1) := rfl
theorem f56_103 : pm_fetch 56 103 = some (.getfield 45, 3) := rfl
theorem f56_106 : pm_fetch 56 106 = some (.getfield 80, 3) := rfl
theorem f56_109 : pm_fetch 56 109 = some (.getfield 84, 3) := rfl
theorem f56_112 : pm_fetch 56 112 = some (.ireturn, 1) := rfl
theorem f56_113 : pm_fetch 56 113 = some (.aload_n 0, 1) := rfl
theorem f56_114 : pm_fetch 56 114 = some (.getfield 18, 3) := rfl
theorem f56_117 : pm_fetch 56 117 = some (.getfield 87, 3) := rfl
theorem f56_120 : pm_fetch 56 120 = some (.ireturn, 1) := rfl
theorem f56_121 : pm_fetch 56 121 = some (.bipush (-2), 2) := rfl
theorem f56_123 : pm_fetch 56 123 = some (.ireturn, 1) := rfl
theorem f92_0 : pm_fetch 92 0 = some (.iload_n 0, 1) := rfl
theorem f92_1 : pm_fetch 92 1 = some (.iload_n 1, 1) := rfl
theorem f92_2 : pm_fetch 92 2 = some (.if_icmp .lt 12, 3) := rfl
theorem f92_5 : pm_fetch 92 5 = some (.iload_n 0, 1) := rfl
theorem f92_6 : pm_fetch 92 6 = some (.iload_n 2, 1) := rfl
theorem f92_7 : pm_fetch 92 7 = some (.if_icmp .gt 7, 3) := rfl
theorem f92_10 : pm_fetch 92 10 = some (.iconst 1, 1) := rfl
theorem f92_11 : pm_fetch 92 11 = some (.goto 4, 3) := rfl
theorem f92_14 : pm_fetch 92 14 = some (.iconst 0, 1) := rfl
theorem f92_15 : pm_fetch 92 15 = some (.ireturn, 1) := rfl
theorem f57_0 : pm_fetch 57 0 = some (.iload_n 1, 1) := rfl
theorem f57_1 : pm_fetch 57 1 = some (.iconst 0, 1) := rfl
theorem f57_2 : pm_fetch 57 2 = some (.bipush 39, 2) := rfl
theorem f57_4 : pm_fetch 57 4 = some (.invokestatic 90, 3) := rfl
theorem f57_7 : pm_fetch 57 7 = some (.ifCond .ne 6, 3) := rfl
theorem f57_10 : pm_fetch 57 10 = some (.bipush (-5), 2) := rfl
theorem f57_12 : pm_fetch 57 12 = some (.ireturn, 1) := rfl
theorem f57_13 : pm_fetch 57 13 = some (.iload_n 2, 1) := rfl
theorem f57_14 : pm_fetch 57 14 = some (.iconst 0, 1) := rfl
theorem f57_15 : pm_fetch 57 15 = some (.iconst 1, 1) := rfl
theorem f57_16 : pm_fetch 57 16 = some (.invokestatic 90, 3) := rfl
theorem f57_19 : pm_fetch 57 19 = some (.ifCond .eq 12, 3) := rfl
theorem f57_22 : pm_fetch 57 22 = some (.iload_n 3, 1) := rfl
theorem f57_23 : pm_fetch 57 23 = some (.iconst 0, 1) := rfl
theorem f57_24 : pm_fetch 57 24 = some (.iconst 1, 1) := rfl
theorem f57_25 : pm_fetch 57 25 = some (.invokestatic 90, 3) := rfl
theorem f57_28 : pm_fetch 57 28 = some (.ifCond .ne 6, 3) := rfl
theorem f57_31 : pm_fetch 57 31 = some (.bipush (-7), 2) := rfl
theorem f57_33 : pm_fetch 57 33 = some (.ireturn, 1) := rfl
theorem f57_34 : pm_fetch 57 34 = some (.lconst 1, 1) := rfl
theorem f57_35 : pm_fetch 57 35 = some (.iload_n 1, 1) := rfl
theorem f57_36 : pm_fetch 57 36 = some (.lshl, 1) := rfl
theorem f57_37 : pm_fetch 57 37 = some (.lstore 4, 2) := rfl
theorem f57_39 : pm_fetch 57 39 = some (.iload_n 2, 1) := rfl
theorem f57_40 : pm_fetch 57 40 = some (.ifCond .ne 13, 3) := rfl
theorem f57_43 : pm_fetch 57 43 = some (.aload_n 0, 1) := rfl
theorem f57_44 : pm_fetch 57 44 = some (.getfield 45, 3) := rfl
theorem f57_47 : pm_fetch 57 47 = some (.getfield 68, 3) := rfl
theorem f57_50 : pm_fetch 57 50 = some (.goto 10, 3) := rfl
theorem f57_53 : pm_fetch 57 53 = some (.aload_n 0, 1) := rfl
theorem f57_54 : pm_fetch 57 54 = some (.getfield 45, 3) := rfl
theorem f57_57 : pm_fetch 57 57 = some (.getfield 77, 3) := rfl
theorem f57_60 : pm_fetch 57 60 = some (.lstore 6, 2) := rfl
theorem f57_62 : pm_fetch 57 62 = some (.iload_n 3, 1) := rfl
theorem f57_63 : pm_fetch 57 63 = some (.iconst 1, 1) := rfl
theorem f57_64 : pm_fetch 57 64 = some (.if_icmp .ne 11, 3) := rfl
theorem f57_67 : pm_fetch 57 67 = some (.lload 6, 2) := rfl
theorem f57_69 : pm_fetch 57 69 = some (.lload 4, 2) := rfl
theorem f57_71 : pm_fetch 57 71 = some (.lor, 1) := rfl
theorem f57_72 : pm_fetch 57 72 = some (.goto 12, 3) := rfl
theorem f57_75 : pm_fetch 57 75 = some (.lload 6, 2) := rfl
theorem f57_77 : pm_fetch 57 77 = some (.lload 4, 2) := rfl
theorem f57_79 : pm_fetch 57 79 = some (.ldc2_w 94, 3) := rfl
theorem f57_82 : pm_fetch 57 82 = some (.lxor, 1) := rfl
theorem f57_83 : pm_fetch 57 83 = some (.land, 1) := rfl
theorem f57_84 : pm_fetch 57 84 = some (.lstore 8, 2) := rfl
theorem f57_86 : pm_fetch 57 86 = some (.iload_n 2, 1) := rfl
theorem f57_87 : pm_fetch 57 87 = some (.ifCond .ne 15, 3) := rfl
theorem f57_90 : pm_fetch 57 90 = some (.aload_n 0, 1) := rfl
theorem f57_91 : pm_fetch 57 91 = some (.getfield 45, 3) := rfl
theorem f57_94 : pm_fetch 57 94 = some (.lload 8, 2) := rfl
theorem f57_96 : pm_fetch 57 96 = some (.putfield 68, 3) := rfl
theorem f57_99 : pm_fetch 57 99 = some (.goto 12, 3) := rfl
theorem f57_102 : pm_fetch 57 102 = some (.aload_n 0, 1) := rfl
theorem f57_103 : pm_fetch 57 103 = some (.getfield 45, 3) := rfl
theorem f57_106 : pm_fetch 57 106 = some (.lload 8, 2) := rfl
theorem f57_108 : pm_fetch 57 108 = some (.putfield 77, 3) := rfl
theorem f57_111 : pm_fetch 57 111 = some (.lload 6, 2) := rfl
theorem f57_113 : pm_fetch 57 113 = some (.lload 4, 2) := rfl
theorem f57_115 : pm_fetch 57 115 = some (.land, 1) := rfl
theorem f57_116 : pm_fetch 57 116 = some (.lconst 0, 1) := rfl
theorem f57_117 : pm_fetch 57 117 = some (.lcmp, 1) := rfl
theorem f57_118 : pm_fetch 57 118 = some (.ifCond .eq 7, 3) := rfl
theorem f57_121 : pm_fetch 57 121 = some (.iconst 1, 1) := rfl
theorem f57_122 : pm_fetch 57 122 = some (.goto 4, 3) := rfl
theorem f57_125 : pm_fetch 57 125 = some (.iconst 0, 1) := rfl
theorem f57_126 : pm_fetch 57 126 = some (.ireturn, 1) := rfl
theorem f58_0 : pm_fetch 58 0 = some (.iload_n 1, 1) := rfl
theorem f58_1 : pm_fetch 58 1 = some (.tableswitch 71 0 3 #[31, 39, 47, 55], 31) := rfl
theorem f58_32 : pm_fetch 58 32 = some (.aload_n 0, 1) := rfl
theorem f58_33 : pm_fetch 58 33 = some (.getfield 45, 3) := rfl
theorem f58_36 : pm_fetch 58 36 = some (.getfield 68, 3) := rfl
theorem f58_39 : pm_fetch 58 39 = some (.lreturn, 1) := rfl
theorem f58_40 : pm_fetch 58 40 = some (.aload_n 0, 1) := rfl
theorem f58_41 : pm_fetch 58 41 = some (.getfield 45, 3) := rfl
theorem f58_44 : pm_fetch 58 44 = some (.getfield 77, 3) := rfl
theorem f58_47 : pm_fetch 58 47 = some (.lreturn, 1) := rfl
theorem f58_48 : pm_fetch 58 48 = some (.aload_n 0, 1) := rfl
theorem f58_49 : pm_fetch 58 49 = some (.getfield 45, 3) := rfl
theorem f58_52 : pm_fetch 58 52 = some (.invokevirtual 96, 3) := rfl
theorem f58_55 : pm_fetch 58 55 = some (.lreturn, 1) := rfl
theorem f58_56 : pm_fetch 58 56 = some (.aload_n 0, 1) := rfl
theorem f58_57 : pm_fetch 58 57 = some (.getfield 45, 3) := rfl
theorem f58_60 : pm_fetch 58 60 = some (.getfield 68, 3) := rfl
theorem f58_63 : pm_fetch 58 63 = some (.aload_n 0, 1) := rfl
theorem f58_64 : pm_fetch 58 64 = some (.getfield 45, 3) := rfl
theorem f58_67 : pm_fetch 58 67 = some (.invokevirtual 96, 3) := rfl
theorem f58_70 : pm_fetch 58 70 = some (.land, 1) := rfl
theorem f58_71 : pm_fetch 58 71 = some (.lreturn, 1) := rfl
theorem f58_72 : pm_fetch 58 72 = some (.ldc2_w 100, 3) := rfl
theorem f58_75 : pm_fetch 58 75 = some (.lreturn, 1) := rfl
theorem f94_0 : pm_fetch 94 0 = some (.iload_n 0, 1) := rfl
theorem f94_1 : pm_fetch 94 1 = some (.iconst 0, 1) := rfl
theorem f94_2 : pm_fetch 94 2 = some (.sipush 255, 3) := rfl
theorem f94_5 : pm_fetch 94 5 = some (.invokestatic 90, 3) := rfl
theorem f94_8 : pm_fetch 94 8 = some (.ireturn, 1) := rfl
theorem f59_0 : pm_fetch 59 0 = some (.iload_n 1, 1) := rfl
theorem f59_1 : pm_fetch 59 1 = some (.iconst 1, 1) := rfl
theorem f59_2 : pm_fetch 59 2 = some (.iconst 5, 1) := rfl
theorem f59_3 : pm_fetch 59 3 = some (.invokestatic 90, 3) := rfl
theorem f59_6 : pm_fetch 59 6 = some (.ifCond .eq 41, 3) := rfl
theorem f59_9 : pm_fetch 59 9 = some (.iload_n 2, 1) := rfl
theorem f59_10 : pm_fetch 59 10 = some (.invokestatic 102, 3) := rfl
theorem f59_13 : pm_fetch 59 13 = some (.ifCond .eq 34, 3) := rfl
theorem f59_16 : pm_fetch 59 16 = some (.iload_n 3, 1) := rfl
theorem f59_17 : pm_fetch 59 17 = some (.invokestatic 102, 3) := rfl
theorem f59_20 : pm_fetch 59 20 = some (.ifCond .eq 27, 3) := rfl
theorem f59_23 : pm_fetch 59 23 = some (.iload 4, 2) := rfl
theorem f59_25 : pm_fetch 59 25 = some (.invokestatic 102, 3) := rfl
theorem f59_28 : pm_fetch 59 28 = some (.ifCond .eq 19, 3) := rfl
theorem f59_31 : pm_fetch 59 31 = some (.iload 5, 2) := rfl
theorem f59_33 : pm_fetch 59 33 = some (.invokestatic 102, 3) := rfl
theorem f59_36 : pm_fetch 59 36 = some (.ifCond .eq 11, 3) := rfl
theorem f59_39 : pm_fetch 59 39 = some (.iload 6, 2) := rfl
theorem f59_41 : pm_fetch 59 41 = some (.invokestatic 102, 3) := rfl
theorem f59_44 : pm_fetch 59 44 = some (.ifCond .ne 6, 3) := rfl
theorem f59_47 : pm_fetch 59 47 = some (.bipush (-2), 2) := rfl
theorem f59_49 : pm_fetch 59 49 = some (.ireturn, 1) := rfl
theorem f59_50 : pm_fetch 59 50 = some (.aload_n 0, 1) := rfl
theorem f59_51 : pm_fetch 59 51 = some (.getfield 18, 3) := rfl
theorem f59_54 : pm_fetch 59 54 = some (.getfield 87, 3) := rfl
theorem f59_57 : pm_fetch 59 57 = some (.iload_n 1, 1) := rfl
theorem f59_58 : pm_fetch 59 58 = some (.iadd, 1) := rfl
theorem f59_59 : pm_fetch 59 59 = some (.sipush 160, 3) := rfl
theorem f59_62 : pm_fetch 59 62 = some (.if_icmp .le 6, 3) := rfl
theorem f59_65 : pm_fetch 59 65 = some (.bipush (-4), 2) := rfl
theorem f59_67 : pm_fetch 59 67 = some (.ireturn, 1) := rfl
theorem f59_68 : pm_fetch 59 68 = some (.aload_n 0, 1) := rfl
theorem f59_69 : pm_fetch 59 69 = some (.getfield 18, 3) := rfl
theorem f59_72 : pm_fetch 59 72 = some (.iload_n 2, 1) := rfl
theorem f59_73 : pm_fetch 59 73 = some (.invokevirtual 106, 3) := rfl
theorem f59_76 : pm_fetch 59 76 = some (.iload_n 1, 1) := rfl
theorem f59_77 : pm_fetch 59 77 = some (.iconst 1, 1) := rfl
theorem f59_78 : pm_fetch 59 78 = some (.if_icmp .le 11, 3) := rfl
theorem f59_81 : pm_fetch 59 81 = some (.aload_n 0, 1) := rfl
theorem f59_82 : pm_fetch 59 82 = some (.getfield 18, 3) := rfl
theorem f59_85 : pm_fetch 59 85 = some (.iload_n 3, 1) := rfl
theorem f59_86 : pm_fetch 59 86 = some (.invokevirtual 106, 3) := rfl
theorem f59_89 : pm_fetch 59 89 = some (.iload_n 1, 1) := rfl
theorem f59_90 : pm_fetch 59 90 = some (.iconst 2, 1) := rfl
theorem f59_91 : pm_fetch 59 91 = some (.if_icmp .le 12, 3) := rfl
theorem f59_94 : pm_fetch 59 94 = some (.aload_n 0, 1) := rfl
theorem f59_95 : pm_fetch 59 95 = some (.getfield 18, 3) := rfl
theorem f59_98 : pm_fetch 59 98 = some (.iload 4, 2) := rfl
theorem f59_100 : pm_fetch 59 100 = some (.invokevirtual 106, 3) := rfl
theorem f59_103 : pm_fetch 59 103 = some (.iload_n 1, 1) := rfl
theorem f59_104 : pm_fetch 59 104 = some (.iconst 3, 1) := rfl
theorem f59_105 : pm_fetch 59 105 = some (.if_icmp .le 12, 3) := rfl
theorem f59_108 : pm_fetch 59 108 = some (.aload_n 0, 1) := rfl
theorem f59_109 : pm_fetch 59 109 = some (.getfield 18, 3) := rfl
theorem f59_112 : pm_fetch 59 112 = some (.iload 5, 2) := rfl
theorem f59_114 : pm_fetch 59 114 = some (.invokevirtual 106, 3) := rfl
theorem f59_117 : pm_fetch 59 117 = some (.iload_n 1, 1) := rfl
theorem f59_118 : pm_fetch 59 118 = some (.iconst 4, 1) := rfl
theorem f59_119 : pm_fetch 59 119 = some (.if_icmp .le 12, 3) := rfl
theorem f59_122 : pm_fetch 59 122 = some (.aload_n 0, 1) := rfl
theorem f59_123 : pm_fetch 59 123 = some (.getfield 18, 3) := rfl
theorem f59_126 : pm_fetch 59 126 = some (.iload 6, 2) := rfl
theorem f59_128 : pm_fetch 59 128 = some (.invokevirtual 106, 3) := rfl
theorem f59_131 : pm_fetch 59 131 = some (.aload_n 0, 1) := rfl
theorem f59_132 : pm_fetch 59 132 = some (.getfield 18, 3) := rfl
theorem f59_135 : pm_fetch 59 135 = some (.getfield 87, 3) := rfl
theorem f59_138 : pm_fetch 59 138 = some (.ireturn, 1) := rfl
theorem f60_0 : pm_fetch 60 0 = some (.aload_n 0, 1) := rfl
theorem f60_1 : pm_fetch 60 1 = some (.getfield 36, 3) := rfl
theorem f60_4 : pm_fetch 60 4 = some (.aload_n 0, 1) := rfl
theorem f60_5 : pm_fetch 60 5 = some (.getfield 11, 3) := rfl
theorem f60_8 : pm_fetch 60 8 = some (.arraylength, 1) := rfl
theorem f60_9 : pm_fetch 60 9 = some (.if_icmp .lt 6, 3) := rfl
theorem f60_12 : pm_fetch 60 12 = some (.bipush (-4), 2) := rfl
theorem f60_14 : pm_fetch 60 14 = some (.ireturn, 1) := rfl
theorem f60_15 : pm_fetch 60 15 = some (.aload_n 0, 1) := rfl
theorem f60_16 : pm_fetch 60 16 = some (.getfield 18, 3) := rfl
theorem f60_19 : pm_fetch 60 19 = some (.aload_n 0, 1) := rfl
theorem f60_20 : pm_fetch 60 20 = some (.getfield 36, 3) := rfl
theorem f60_23 : pm_fetch 60 23 = some (.invokevirtual 110, 3) := rfl
theorem f60_26 : pm_fetch 60 26 = some (.astore_n 1, 1) := rfl
theorem f60_27 : pm_fetch 60 27 = some (.aload_n 1, 1) := rfl
theorem f60_28 : pm_fetch 60 28 = some (.ifnonnull 14, 3) := rfl
theorem f60_31 : pm_fetch 60 31 = some (.bipush (-100), 2) := rfl
theorem f60_33 : pm_fetch 60 33 = some (.aload_n 0, 1) := rfl
theorem f60_34 : pm_fetch 60 34 = some (.getfield 18, 3) := rfl
theorem f60_37 : pm_fetch 60 37 = some (.getfield 114, 3) := rfl
theorem f60_40 : pm_fetch 60 40 = some (.isub, 1) := rfl
theorem f60_41 : pm_fetch 60 41 = some (.ireturn, 1) := rfl
theorem f60_42 : pm_fetch 60 42 = some (.aload_n 0, 1) := rfl
theorem f60_43 : pm_fetch 60 43 = some (.getfield 11, 3) := rfl
theorem f60_46 : pm_fetch 60 46 = some (.aload_n 0, 1) := rfl
theorem f60_47 : pm_fetch 60 47 = some (.getfield 36, 3) := rfl
theorem f60_50 : pm_fetch 60 50 = some (.aload_n 1, 1) := rfl
theorem f60_51 : pm_fetch 60 51 = some (.aastore, 1) := rfl
theorem f60_52 : pm_fetch 60 52 = some (.aload_n 0, 1) := rfl
theorem f60_53 : pm_fetch 60 53 = some (.dup, 1) := rfl
theorem f60_54 : pm_fetch 60 54 = some (.getfield 36, 3) := rfl
theorem f60_57 : pm_fetch 60 57 = some (.iconst 1, 1) := rfl
theorem f60_58 : pm_fetch 60 58 = some (.iadd, 1) := rfl
theorem f60_59 : pm_fetch 60 59 = some (.putfield 36, 3) := rfl
theorem f60_62 : pm_fetch 60 62 = some (.aload_n 1, 1) := rfl
theorem f60_63 : pm_fetch 60 63 = some (.getfield 84, 3) := rfl
theorem f60_66 : pm_fetch 60 66 = some (.ireturn, 1) := rfl
theorem f97_0 : pm_fetch 97 0 = some (.iload_n 1, 1) := rfl
theorem f97_1 : pm_fetch 97 1 = some (.ifCond .lt 29, 3) := rfl
theorem f97_4 : pm_fetch 97 4 = some (.iload_n 1, 1) := rfl
theorem f97_5 : pm_fetch 97 5 = some (.aload_n 0, 1) := rfl
theorem f97_6 : pm_fetch 97 6 = some (.getfield 36, 3) := rfl
theorem f97_9 : pm_fetch 97 9 = some (.if_icmp .ge 21, 3) := rfl
theorem f97_12 : pm_fetch 97 12 = some (.iload_n 1, 1) := rfl
theorem f97_13 : pm_fetch 97 13 = some (.aload_n 0, 1) := rfl
theorem f97_14 : pm_fetch 97 14 = some (.getfield 11, 3) := rfl
theorem f97_17 : pm_fetch 97 17 = some (.arraylength, 1) := rfl
theorem f97_18 : pm_fetch 97 18 = some (.if_icmp .ge 12, 3) := rfl
theorem f97_21 : pm_fetch 97 21 = some (.aload_n 0, 1) := rfl
theorem f97_22 : pm_fetch 97 22 = some (.getfield 11, 3) := rfl
theorem f97_25 : pm_fetch 97 25 = some (.iload_n 1, 1) := rfl
theorem f97_26 : pm_fetch 97 26 = some (.aaload, 1) := rfl
theorem f97_27 : pm_fetch 97 27 = some (.goto 4, 3) := rfl
theorem f97_30 : pm_fetch 97 30 = some (.aconst_null, 1) := rfl
theorem f97_31 : pm_fetch 97 31 = some (.areturn, 1) := rfl
theorem f61_0 : pm_fetch 61 0 = some (.aload_n 0, 1) := rfl
theorem f61_1 : pm_fetch 61 1 = some (.iload_n 1, 1) := rfl
theorem f61_2 : pm_fetch 61 2 = some (.invokevirtual 117, 3) := rfl
theorem f61_5 : pm_fetch 61 5 = some (.astore_n 2, 1) := rfl
theorem f61_6 : pm_fetch 61 6 = some (.aload_n 2, 1) := rfl
theorem f61_7 : pm_fetch 61 7 = some (.ifnonnull 6, 3) := rfl
theorem f61_10 : pm_fetch 61 10 = some (.bipush (-2), 2) := rfl
theorem f61_12 : pm_fetch 61 12 = some (.ireturn, 1) := rfl
theorem f61_13 : pm_fetch 61 13 = some (.aload_n 0, 1) := rfl
theorem f61_14 : pm_fetch 61 14 = some (.getfield 45, 3) := rfl
theorem f61_17 : pm_fetch 61 17 = some (.getfield 80, 3) := rfl
theorem f61_20 : pm_fetch 61 20 = some (.getfield 84, 3) := rfl
theorem f61_23 : pm_fetch 61 23 = some (.istore_n 3, 1) := rfl
theorem f61_24 : pm_fetch 61 24 = some (.aload_n 0, 1) := rfl
theorem f61_25 : pm_fetch 61 25 = some (.getfield 45, 3) := rfl
theorem f61_28 : pm_fetch 61 28 = some (.aload_n 2, 1) := rfl
theorem f61_29 : pm_fetch 61 29 = some (.putfield 80, 3) := rfl
theorem f61_32 : pm_fetch 61 32 = some (.iload_n 3, 1) := rfl
theorem f61_33 : pm_fetch 61 33 = some (.ireturn, 1) := rfl
theorem f62_0 : pm_fetch 62 0 = some (.aload_n 0, 1) := rfl
theorem f62_1 : pm_fetch 62 1 = some (.getfield 45, 3) := rfl
theorem f62_4 : pm_fetch 62 4 = some (.iload_n 2, 1) := rfl
theorem f62_5 : pm_fetch 62 5 = some (.invokevirtual 120, 3) := rfl
theorem f62_8 : pm_fetch 62 8 = some (.astore_n 3, 1) := rfl
theorem f62_9 : pm_fetch 62 9 = some (.iload_n 1, 1) := rfl
theorem f62_10 : pm_fetch 62 10 = some (.iconst 0, 1) := rfl
theorem f62_11 : pm_fetch 62 11 = some (.iconst 2, 1) := rfl
theorem f62_12 : pm_fetch 62 12 = some (.invokestatic 90, 3) := rfl
theorem f62_15 : pm_fetch 62 15 = some (.ifCond .eq 7, 3) := rfl
theorem f62_18 : pm_fetch 62 18 = some (.aload_n 3, 1) := rfl
theorem f62_19 : pm_fetch 62 19 = some (.ifnonnull 7, 3) := rfl
theorem f62_22 : pm_fetch 62 22 = some (.sipush (-1000), 3) := rfl
theorem f62_25 : pm_fetch 62 25 = some (.ireturn, 1) := rfl
theorem f62_26 : pm_fetch 62 26 = some (.aload_n 0, 1) := rfl
theorem f62_27 : pm_fetch 62 27 = some (.getfield 45, 3) := rfl
theorem f62_30 : pm_fetch 62 30 = some (.iload_n 1, 1) := rfl
theorem f62_31 : pm_fetch 62 31 = some (.aload_n 3, 1) := rfl
theorem f62_32 : pm_fetch 62 32 = some (.invokevirtual 124, 3) := rfl
theorem f62_35 : pm_fetch 62 35 = some (.ireturn, 1) := rfl
theorem f63_0 : pm_fetch 63 0 = some (.iload_n 1, 1) := rfl
theorem f63_1 : pm_fetch 63 1 = some (.iconst 0, 1) := rfl
theorem f63_2 : pm_fetch 63 2 = some (.bipush 59, 2) := rfl
theorem f63_4 : pm_fetch 63 4 = some (.invokestatic 90, 3) := rfl
theorem f63_7 : pm_fetch 63 7 = some (.ifCond .eq 13, 3) := rfl
theorem f63_10 : pm_fetch 63 10 = some (.iload_n 2, 1) := rfl
theorem f63_11 : pm_fetch 63 11 = some (.iconst 0, 1) := rfl
theorem f63_12 : pm_fetch 63 12 = some (.ldc 128, 2) := rfl
theorem f63_14 : pm_fetch 63 14 = some (.invokestatic 90, 3) := rfl
theorem f63_17 : pm_fetch 63 17 = some (.ifCond .ne 6, 3) := rfl
theorem f63_20 : pm_fetch 63 20 = some (.bipush (-2), 2) := rfl
theorem f63_22 : pm_fetch 63 22 = some (.ireturn, 1) := rfl
theorem f63_23 : pm_fetch 63 23 = some (.iload_n 2, 1) := rfl
theorem f63_24 : pm_fetch 63 24 = some (.sipush 1000, 3) := rfl
theorem f63_27 : pm_fetch 63 27 = some (.idiv, 1) := rfl
theorem f63_28 : pm_fetch 63 28 = some (.bipush 10, 2) := rfl
theorem f63_30 : pm_fetch 63 30 = some (.irem, 1) := rfl
theorem f63_31 : pm_fetch 63 31 = some (.istore_n 3, 1) := rfl
theorem f63_32 : pm_fetch 63 32 = some (.iload_n 2, 1) := rfl
theorem f63_33 : pm_fetch 63 33 = some (.sipush 1000, 3) := rfl
theorem f63_36 : pm_fetch 63 36 = some (.irem, 1) := rfl
theorem f63_37 : pm_fetch 63 37 = some (.istore 4, 2) := rfl
theorem f63_39 : pm_fetch 63 39 = some (.iload_n 3, 1) := rfl
theorem f63_40 : pm_fetch 63 40 = some (.ifCond .eq 10, 3) := rfl
theorem f63_43 : pm_fetch 63 43 = some (.iload 4, 2) := rfl
theorem f63_45 : pm_fetch 63 45 = some (.bipush 99, 2) := rfl
theorem f63_47 : pm_fetch 63 47 = some (.if_icmp .le 6, 3) := rfl
theorem f63_50 : pm_fetch 63 50 = some (.bipush (-2), 2) := rfl
theorem f63_52 : pm_fetch 63 52 = some (.ireturn, 1) := rfl
theorem f63_53 : pm_fetch 63 53 = some (.aload_n 0, 1) := rfl
theorem f63_54 : pm_fetch 63 54 = some (.getfield 45, 3) := rfl
theorem f63_57 : pm_fetch 63 57 = some (.getfield 52, 3) := rfl
theorem f63_60 : pm_fetch 63 60 = some (.aload_n 0, 1) := rfl
theorem f63_61 : pm_fetch 63 61 = some (.getfield 45, 3) := rfl
theorem f63_64 : pm_fetch 63 64 = some (.getfield 129, 3) := rfl
theorem f63_67 : pm_fetch 63 67 = some (.arraylength, 1) := rfl
theorem f63_68 : pm_fetch 63 68 = some (.if_icmp .lt 6, 3) := rfl
theorem f63_71 : pm_fetch 63 71 = some (.bipush (-4), 2) := rfl
theorem f63_73 : pm_fetch 63 73 = some (.ireturn, 1) := rfl
theorem f63_74 : pm_fetch 63 74 = some (.aload_n 0, 1) := rfl
theorem f63_75 : pm_fetch 63 75 = some (.getfield 45, 3) := rfl
theorem f63_78 : pm_fetch 63 78 = some (.getfield 129, 3) := rfl
theorem f63_81 : pm_fetch 63 81 = some (.aload_n 0, 1) := rfl
theorem f63_82 : pm_fetch 63 82 = some (.getfield 45, 3) := rfl
theorem f63_85 : pm_fetch 63 85 = some (.getfield 52, 3) := rfl
theorem f63_88 : pm_fetch 63 88 = some (.aaload, 1) := rfl
theorem f63_89 : pm_fetch 63 89 = some (.astore 5, 2) := rfl
theorem f63_91 : pm_fetch 63 91 = some (.aload 5, 2) := rfl
theorem f63_93 : pm_fetch 63 93 = some (.iload_n 1, 1) := rfl
theorem f63_94 : pm_fetch 63 94 = some (.bipush 10, 2) := rfl
theorem f63_96 : pm_fetch 63 96 = some (.idiv, 1) := rfl
theorem f63_97 : pm_fetch 63 97 = some (.putfield 133, 3) := rfl
theorem f63_100 : pm_fetch 63 100 = some (.aload 5, 2) := rfl
theorem f63_102 : pm_fetch 63 102 = some (.iload_n 1, 1) := rfl
theorem f63_103 : pm_fetch 63 103 = some (.bipush 10, 2) := rfl
theorem f63_105 : pm_fetch 63 105 = some (.irem, 1) := rfl
theorem f63_106 : pm_fetch 63 106 = some (.putfield 138, 3) := rfl
theorem f63_109 : pm_fetch 63 109 = some (.aload 5, 2) := rfl
theorem f63_111 : pm_fetch 63 111 = some (.iload_n 2, 1) := rfl
theorem f63_112 : pm_fetch 63 112 = some (.sipush 10000, 3) := rfl
theorem f63_115 : pm_fetch 63 115 = some (.idiv, 1) := rfl
theorem f63_116 : pm_fetch 63 116 = some (.putfield 141, 3) := rfl
theorem f63_119 : pm_fetch 63 119 = some (.aload 5, 2) := rfl
theorem f63_121 : pm_fetch 63 121 = some (.iload_n 3, 1) := rfl
theorem f63_122 : pm_fetch 63 122 = some (.putfield 144, 3) := rfl
theorem f63_125 : pm_fetch 63 125 = some (.aload 5, 2) := rfl
theorem f63_127 : pm_fetch 63 127 = some (.iload 4, 2) := rfl
theorem f63_129 : pm_fetch 63 129 = some (.putfield 145, 3) := rfl
theorem f63_132 : pm_fetch 63 132 = some (.aload 5, 2) := rfl
theorem f63_134 : pm_fetch 63 134 = some (.iconst 0, 1) := rfl
theorem f63_135 : pm_fetch 63 135 = some (.putfield 148, 3) := rfl
theorem f63_138 : pm_fetch 63 138 = some (.aload_n 0, 1) := rfl
theorem f63_139 : pm_fetch 63 139 = some (.getfield 45, 3) := rfl
theorem f63_142 : pm_fetch 63 142 = some (.dup, 1) := rfl
theorem f63_143 : pm_fetch 63 143 = some (.getfield 52, 3) := rfl
theorem f63_146 : pm_fetch 63 146 = some (.iconst 1, 1) := rfl
theorem f63_147 : pm_fetch 63 147 = some (.iadd, 1) := rfl
theorem f63_148 : pm_fetch 63 148 = some (.putfield 52, 3) := rfl
theorem f63_151 : pm_fetch 63 151 = some (.aload 5, 2) := rfl
theorem f63_153 : pm_fetch 63 153 = some (.getfield 152, 3) := rfl
theorem f63_156 : pm_fetch 63 156 = some (.ireturn, 1) := rfl
theorem f95_0 : pm_fetch 95 0 = some (.iload_n 0, 1) := rfl
theorem f95_1 : pm_fetch 95 1 = some (.iconst 1, 1) := rfl
theorem f95_2 : pm_fetch 95 2 = some (.if_icmp .ne 7, 3) := rfl
theorem f95_5 : pm_fetch 95 5 = some (.iconst 1, 1) := rfl
theorem f95_6 : pm_fetch 95 6 = some (.goto 4, 3) := rfl
theorem f95_9 : pm_fetch 95 9 = some (.iconst 0, 1) := rfl
theorem f95_10 : pm_fetch 95 10 = some (.ireturn, 1) := rfl
theorem f96_0 : pm_fetch 96 0 = some (.iload_n 0, 1) := rfl
theorem f96_1 : pm_fetch 96 1 = some (.ifCond .ne 8, 3) := rfl
theorem f96_4 : pm_fetch 96 4 = some (.bipush 39, 2) := rfl
theorem f96_6 : pm_fetch 96 6 = some (.goto 15, 3) := rfl
theorem f96_9 : pm_fetch 96 9 = some (.iload_n 0, 1) := rfl
theorem f96_10 : pm_fetch 96 10 = some (.iconst 1, 1) := rfl
theorem f96_11 : pm_fetch 96 11 = some (.if_icmp .ne 8, 3) := rfl
theorem f96_14 : pm_fetch 96 14 = some (.bipush 9, 2) := rfl
theorem f96_16 : pm_fetch 96 16 = some (.goto 5, 3) := rfl
theorem f96_19 : pm_fetch 96 19 = some (.bipush 99, 2) := rfl
theorem f96_21 : pm_fetch 96 21 = some (.ireturn, 1) := rfl
theorem f64_0 : pm_fetch 64 0 = some (.aload_n 0, 1) := rfl
theorem f64_1 : pm_fetch 64 1 = some (.getfield 45, 3) := rfl
theorem f64_4 : pm_fetch 64 4 = some (.iload_n 1, 1) := rfl
theorem f64_5 : pm_fetch 64 5 = some (.invokevirtual 120, 3) := rfl
theorem f64_8 : pm_fetch 64 8 = some (.astore 4, 2) := rfl
theorem f64_10 : pm_fetch 64 10 = some (.aload 4, 2) := rfl
theorem f64_12 : pm_fetch 64 12 = some (.ifnonnull 6, 3) := rfl
theorem f64_15 : pm_fetch 64 15 = some (.bipush (-5), 2) := rfl
theorem f64_17 : pm_fetch 64 17 = some (.ireturn, 1) := rfl
theorem f64_18 : pm_fetch 64 18 = some (.iload_n 2, 1) := rfl
theorem f64_19 : pm_fetch 64 19 = some (.iconst 0, 1) := rfl
theorem f64_20 : pm_fetch 64 20 = some (.iconst 2, 1) := rfl
theorem f64_21 : pm_fetch 64 21 = some (.invokestatic 90, 3) := rfl
theorem f64_24 : pm_fetch 64 24 = some (.ifCond .eq 18, 3) := rfl
theorem f64_27 : pm_fetch 64 27 = some (.iload_n 3, 1) := rfl
theorem f64_28 : pm_fetch 64 28 = some (.iload_n 2, 1) := rfl
theorem f64_29 : pm_fetch 64 29 = some (.invokestatic 153, 3) := rfl
theorem f64_32 : pm_fetch 64 32 = some (.iload_n 2, 1) := rfl
theorem f64_33 : pm_fetch 64 33 = some (.invokestatic 156, 3) := rfl
theorem f64_36 : pm_fetch 64 36 = some (.invokestatic 90, 3) := rfl
theorem f64_39 : pm_fetch 64 39 = some (.ifCond .ne 6, 3) := rfl
theorem f64_42 : pm_fetch 64 42 = some (.bipush (-7), 2) := rfl
theorem f64_44 : pm_fetch 64 44 = some (.ireturn, 1) := rfl
theorem f64_45 : pm_fetch 64 45 = some (.aload 4, 2) := rfl
theorem f64_47 : pm_fetch 64 47 = some (.iload_n 2, 1) := rfl
theorem f64_48 : pm_fetch 64 48 = some (.invokevirtual 159, 3) := rfl
theorem f64_51 : pm_fetch 64 51 = some (.istore 5, 2) := rfl
theorem f64_53 : pm_fetch 64 53 = some (.aload 4, 2) := rfl
theorem f64_55 : pm_fetch 64 55 = some (.iload_n 2, 1) := rfl
theorem f64_56 : pm_fetch 64 56 = some (.iload_n 3, 1) := rfl
theorem f64_57 : pm_fetch 64 57 = some (.invokevirtual 162, 3) := rfl
theorem f64_60 : pm_fetch 64 60 = some (.iload 5, 2) := rfl
theorem f64_62 : pm_fetch 64 62 = some (.ireturn, 1) := rfl
theorem f65_0 : pm_fetch 65 0 = some (.aload_n 0, 1) := rfl
theorem f65_1 : pm_fetch 65 1 = some (.getfield 45, 3) := rfl
theorem f65_4 : pm_fetch 65 4 = some (.iload_n 1, 1) := rfl
theorem f65_5 : pm_fetch 65 5 = some (.invokevirtual 120, 3) := rfl
theorem f65_8 : pm_fetch 65 8 = some (.astore_n 3, 1) := rfl
theorem f65_9 : pm_fetch 65 9 = some (.aload_n 3, 1) := rfl
theorem f65_10 : pm_fetch 65 10 = some (.ifnonnull 6, 3) := rfl
theorem f65_13 : pm_fetch 65 13 = some (.bipush (-5), 2) := rfl
theorem f65_15 : pm_fetch 65 15 = some (.ireturn, 1) := rfl
theorem f65_16 : pm_fetch 65 16 = some (.iload_n 2, 1) := rfl
theorem f65_17 : pm_fetch 65 17 = some (.tableswitch 108 0 8 #[51, 51, 51, 51, 51, 57, 74, 83, 92], 51) := rfl
theorem f65_68 : pm_fetch 65 68 = some (.aload_n 3, 1) := rfl
theorem f65_69 : pm_fetch 65 69 = some (.iload_n 2, 1) := rfl
theorem f65_70 : pm_fetch 65 70 = some (.invokevirtual 159, 3) := rfl
theorem f65_73 : pm_fetch 65 73 = some (.ireturn, 1) := rfl
theorem f65_74 : pm_fetch 65 74 = some (.aload_n 0, 1) := rfl
theorem f65_75 : pm_fetch 65 75 = some (.getfield 45, 3) := rfl
theorem f65_78 : pm_fetch 65 78 = some (.aload_n 3, 1) := rfl
theorem f65_79 : pm_fetch 65 79 = some (.invokevirtual 166, 3) := rfl
theorem f65_82 : pm_fetch 65 82 = some (.ifCond .eq 7, 3) := rfl
theorem f65_85 : pm_fetch 65 85 = some (.iconst 1, 1) := rfl
theorem f65_86 : pm_fetch 65 86 = some (.goto 4, 3) := rfl
theorem f65_89 : pm_fetch 65 89 = some (.iconst 0, 1) := rfl
theorem f65_90 : pm_fetch 65 90 = some (.ireturn, 1) := rfl
theorem f65_91 : pm_fetch 65 91 = some (.aload_n 0, 1) := rfl
theorem f65_92 : pm_fetch 65 92 = some (.getfield 45, 3) := rfl
theorem f65_95 : pm_fetch 65 95 = some (.aload_n 3, 1) := rfl
theorem f65_96 : pm_fetch 65 96 = some (.invokevirtual 170, 3) := rfl
theorem f65_99 : pm_fetch 65 99 = some (.ireturn, 1) := rfl
theorem f65_100 : pm_fetch 65 100 = some (.aload_n 0, 1) := rfl
theorem f65_101 : pm_fetch 65 101 = some (.getfield 45, 3) := rfl
theorem f65_104 : pm_fetch 65 104 = some (.aload_n 3, 1) := rfl
theorem f65_105 : pm_fetch 65 105 = some (.invokevirtual 174, 3) := rfl
theorem f65_108 : pm_fetch 65 108 = some (.ireturn, 1) := rfl
theorem f65_109 : pm_fetch 65 109 = some (.aload_n 0, 1) := rfl
theorem f65_110 : pm_fetch 65 110 = some (.getfield 45, 3) := rfl
theorem f65_113 : pm_fetch 65 113 = some (.getfield 68, 3) := rfl
theorem f65_116 : pm_fetch 65 116 = some (.aload_n 3, 1) := rfl
theorem f65_117 : pm_fetch 65 117 = some (.invokevirtual 177, 3) := rfl
theorem f65_120 : pm_fetch 65 120 = some (.land, 1) := rfl
theorem f65_121 : pm_fetch 65 121 = some (.invokestatic 72, 3) := rfl
theorem f65_124 : pm_fetch 65 124 = some (.ireturn, 1) := rfl
theorem f65_125 : pm_fetch 65 125 = some (.bipush (-7), 2) := rfl
theorem f65_127 : pm_fetch 65 127 = some (.ireturn, 1) := rfl
theorem f66_0 : pm_fetch 66 0 = some (.aload_n 0, 1) := rfl
theorem f66_1 : pm_fetch 66 1 = some (.getfield 45, 3) := rfl
theorem f66_4 : pm_fetch 66 4 = some (.iload_n 1, 1) := rfl
theorem f66_5 : pm_fetch 66 5 = some (.invokevirtual 120, 3) := rfl
theorem f66_8 : pm_fetch 66 8 = some (.astore_n 2, 1) := rfl
theorem f66_9 : pm_fetch 66 9 = some (.aload_n 2, 1) := rfl
theorem f66_10 : pm_fetch 66 10 = some (.ifnonnull 9, 3) := rfl
theorem f66_13 : pm_fetch 66 13 = some (.sipush (-1000), 3) := rfl
theorem f66_16 : pm_fetch 66 16 = some (.goto 11, 3) := rfl
theorem f66_19 : pm_fetch 66 19 = some (.aload_n 0, 1) := rfl
theorem f66_20 : pm_fetch 66 20 = some (.getfield 45, 3) := rfl
theorem f66_23 : pm_fetch 66 23 = some (.aload_n 2, 1) := rfl
theorem f66_24 : pm_fetch 66 24 = some (.invokevirtual 180, 3) := rfl
theorem f66_27 : pm_fetch 66 27 = some (.ireturn, 1) := rfl
theorem f67_0 : pm_fetch 67 0 = some (.aload_n 0, 1) := rfl
theorem f67_1 : pm_fetch 67 1 = some (.getfield 45, 3) := rfl
theorem f67_4 : pm_fetch 67 4 = some (.getfield 65, 3) := rfl
theorem f67_7 : pm_fetch 67 7 = some (.sipush 999, 3) := rfl
theorem f67_10 : pm_fetch 67 10 = some (.if_icmp .lt 6, 3) := rfl
theorem f67_13 : pm_fetch 67 13 = some (.bipush (-3), 2) := rfl
theorem f67_15 : pm_fetch 67 15 = some (.ireturn, 1) := rfl
theorem f67_16 : pm_fetch 67 16 = some (.aload_n 0, 1) := rfl
theorem f67_17 : pm_fetch 67 17 = some (.getfield 45, 3) := rfl
theorem f67_20 : pm_fetch 67 20 = some (.invokevirtual 55, 3) := rfl
theorem f67_23 : pm_fetch 67 23 = some (.istore_n 1, 1) := rfl
theorem f67_24 : pm_fetch 67 24 = some (.aload_n 0, 1) := rfl
theorem f67_25 : pm_fetch 67 25 = some (.getfield 45, 3) := rfl
theorem f67_28 : pm_fetch 67 28 = some (.invokevirtual 183, 3) := rfl
theorem f67_31 : pm_fetch 67 31 = some (.iload_n 1, 1) := rfl
theorem f67_32 : pm_fetch 67 32 = some (.aload_n 0, 1) := rfl
theorem f67_33 : pm_fetch 67 33 = some (.getfield 45, 3) := rfl
theorem f67_36 : pm_fetch 67 36 = some (.invokevirtual 55, 3) := rfl
theorem f67_39 : pm_fetch 67 39 = some (.iconst (-1), 1) := rfl
theorem f67_40 : pm_fetch 67 40 = some (.ixor, 1) := rfl
theorem f67_41 : pm_fetch 67 41 = some (.iand, 1) := rfl
theorem f67_42 : pm_fetch 67 42 = some (.ireturn, 1) := rfl
theorem f69_0 : pm_fetch 69 0 = some (.iload_n 1, 1) := rfl
theorem f69_1 : pm_fetch 69 1 = some (.bipush 20, 2) := rfl
theorem f69_3 : pm_fetch 69 3 = some (.if_icmp .ge 7, 3) := rfl
theorem f69_6 : pm_fetch 69 6 = some (.iconst 1, 1) := rfl
theorem f69_7 : pm_fetch 69 7 = some (.goto 4, 3) := rfl
theorem f69_10 : pm_fetch 69 10 = some (.iconst 0, 1) := rfl
theorem f69_11 : pm_fetch 69 11 = some (.istore_n 2, 1) := rfl
theorem f69_12 : pm_fetch 69 12 = some (.aload_n 0, 1) := rfl
theorem f69_13 : pm_fetch 69 13 = some (.getfield 49, 3) := rfl
theorem f69_16 : pm_fetch 69 16 = some (.iload_n 2, 1) := rfl
theorem f69_17 : pm_fetch 69 17 = some (.ifCond .eq 10, 3) := rfl
theorem f69_20 : pm_fetch 69 20 = some (.iload_n 1, 1) := rfl
theorem f69_21 : pm_fetch 69 21 = some (.bipush 10, 2) := rfl
theorem f69_23 : pm_fetch 69 23 = some (.isub, 1) := rfl
theorem f69_24 : pm_fetch 69 24 = some (.goto 7, 3) := rfl
theorem f69_27 : pm_fetch 69 27 = some (.iload_n 1, 1) := rfl
theorem f69_28 : pm_fetch 69 28 = some (.bipush 20, 2) := rfl
theorem f69_30 : pm_fetch 69 30 = some (.isub, 1) := rfl
theorem f69_31 : pm_fetch 69 31 = some (.invokevirtual 120, 3) := rfl
theorem f69_34 : pm_fetch 69 34 = some (.astore_n 3, 1) := rfl
theorem f69_35 : pm_fetch 69 35 = some (.aload_n 3, 1) := rfl
theorem f69_36 : pm_fetch 69 36 = some (.ifnonnull 5, 3) := rfl
theorem f69_39 : pm_fetch 69 39 = some (.iconst (-1), 1) := rfl
theorem f69_40 : pm_fetch 69 40 = some (.ireturn, 1) := rfl
theorem f69_41 : pm_fetch 69 41 = some (.iload_n 2, 1) := rfl
theorem f69_42 : pm_fetch 69 42 = some (.ifCond .eq 10, 3) := rfl
theorem f69_45 : pm_fetch 69 45 = some (.aload_n 3, 1) := rfl
theorem f69_46 : pm_fetch 69 46 = some (.getfield 141, 3) := rfl
theorem f69_49 : pm_fetch 69 49 = some (.goto 7, 3) := rfl
theorem f69_52 : pm_fetch 69 52 = some (.aload_n 3, 1) := rfl
theorem f69_53 : pm_fetch 69 53 = some (.getfield 145, 3) := rfl
theorem f69_56 : pm_fetch 69 56 = some (.ireturn, 1) := rfl
theorem f101_0 : pm_fetch 101 0 = some (.iconst 0, 1) := rfl
theorem f101_1 : pm_fetch 101 1 = some (.istore_n 2, 1) := rfl
theorem f101_2 : pm_fetch 101 2 = some (.iconst 0, 1) := rfl
theorem f101_3 : pm_fetch 101 3 = some (.istore_n 3, 1) := rfl
theorem f101_4 : pm_fetch 101 4 = some (.iload_n 3, 1) := rfl
theorem f101_5 : pm_fetch 101 5 = some (.iload_n 1, 1) := rfl
theorem f101_6 : pm_fetch 101 6 = some (.if_icmp .ge 26, 3) := rfl
theorem f101_9 : pm_fetch 101 9 = some (.aload_n 0, 1) := rfl
theorem f101_10 : pm_fetch 101 10 = some (.getfield 49, 3) := rfl
theorem f101_13 : pm_fetch 101 13 = some (.invokevirtual 183, 3) := rfl
theorem f101_16 : pm_fetch 101 16 = some (.iload_n 2, 1) := rfl
theorem f101_17 : pm_fetch 101 17 = some (.aload_n 0, 1) := rfl
theorem f101_18 : pm_fetch 101 18 = some (.getfield 49, 3) := rfl
theorem f101_21 : pm_fetch 101 21 = some (.invokevirtual 193, 3) := rfl
theorem f101_24 : pm_fetch 101 24 = some (.iadd, 1) := rfl
theorem f101_25 : pm_fetch 101 25 = some (.istore_n 2, 1) := rfl
theorem f101_26 : pm_fetch 101 26 = some (.iinc 3 1, 3) := rfl
theorem f101_29 : pm_fetch 101 29 = some (.goto (-25), 3) := rfl
theorem f101_32 : pm_fetch 101 32 = some (.iload_n 2, 1) := rfl
theorem f101_33 : pm_fetch 101 33 = some (.ireturn, 1) := rfl
theorem f68_0 : pm_fetch 68 0 = some (.aload_n 0, 1) := rfl
theorem f68_1 : pm_fetch 68 1 = some (.getfield 45, 3) := rfl
theorem f68_4 : pm_fetch 68 4 = some (.iload_n 2, 1) := rfl
theorem f68_5 : pm_fetch 68 5 = some (.bipush 10, 2) := rfl
theorem f68_7 : pm_fetch 68 7 = some (.isub, 1) := rfl
theorem f68_8 : pm_fetch 68 8 = some (.invokevirtual 120, 3) := rfl
theorem f68_11 : pm_fetch 68 11 = some (.ifnonnull 17, 3) := rfl
theorem f68_14 : pm_fetch 68 14 = some (.aload_n 0, 1) := rfl
theorem f68_15 : pm_fetch 68 15 = some (.getfield 45, 3) := rfl
theorem f68_18 : pm_fetch 68 18 = some (.iload_n 2, 1) := rfl
theorem f68_19 : pm_fetch 68 19 = some (.bipush 20, 2) := rfl
theorem f68_21 : pm_fetch 68 21 = some (.isub, 1) := rfl
theorem f68_22 : pm_fetch 68 22 = some (.invokevirtual 120, 3) := rfl
theorem f68_25 : pm_fetch 68 25 = some (.ifnull 7, 3) := rfl
theorem f68_28 : pm_fetch 68 28 = some (.iconst 1, 1) := rfl
theorem f68_29 : pm_fetch 68 29 = some (.goto 4, 3) := rfl
theorem f68_32 : pm_fetch 68 32 = some (.iconst 0, 1) := rfl
theorem f68_33 : pm_fetch 68 33 = some (.istore_n 3, 1) := rfl
theorem f68_34 : pm_fetch 68 34 = some (.iload_n 1, 1) := rfl
theorem f68_35 : pm_fetch 68 35 = some (.iconst 0, 1) := rfl
theorem f68_36 : pm_fetch 68 36 = some (.bipush 40, 2) := rfl
theorem f68_38 : pm_fetch 68 38 = some (.invokestatic 90, 3) := rfl
theorem f68_41 : pm_fetch 68 41 = some (.ifCond .eq 16, 3) := rfl
theorem f68_44 : pm_fetch 68 44 = some (.iload_n 2, 1) := rfl
theorem f68_45 : pm_fetch 68 45 = some (.iconst 0, 1) := rfl
theorem f68_46 : pm_fetch 68 46 = some (.iconst 2, 1) := rfl
theorem f68_47 : pm_fetch 68 47 = some (.invokestatic 90, 3) := rfl
theorem f68_50 : pm_fetch 68 50 = some (.ifCond .ne 10, 3) := rfl
theorem f68_53 : pm_fetch 68 53 = some (.iload_n 3, 1) := rfl
theorem f68_54 : pm_fetch 68 54 = some (.ifCond .ne 6, 3) := rfl
theorem f68_57 : pm_fetch 68 57 = some (.bipush (-2), 2) := rfl
theorem f68_59 : pm_fetch 68 59 = some (.ireturn, 1) := rfl
theorem f68_60 : pm_fetch 68 60 = some (.aload_n 0, 1) := rfl
theorem f68_61 : pm_fetch 68 61 = some (.getfield 49, 3) := rfl
theorem f68_64 : pm_fetch 68 64 = some (.aload_n 0, 1) := rfl
theorem f68_65 : pm_fetch 68 65 = some (.getfield 45, 3) := rfl
theorem f68_68 : pm_fetch 68 68 = some (.invokevirtual 186, 3) := rfl
theorem f68_71 : pm_fetch 68 71 = some (.aload_n 0, 1) := rfl
theorem f68_72 : pm_fetch 68 72 = some (.iload_n 1, 1) := rfl
theorem f68_73 : pm_fetch 68 73 = some (.invokevirtual 190, 3) := rfl
theorem f68_76 : pm_fetch 68 76 = some (.istore 4, 2) := rfl
theorem f68_78 : pm_fetch 68 78 = some (.iload_n 2, 1) := rfl
theorem f68_79 : pm_fetch 68 79 = some (.tableswitch 44 0 2 #[25, 33, 41], 25) := rfl
theorem f68_104 : pm_fetch 68 104 = some (.aload_n 0, 1) := rfl
theorem f68_105 : pm_fetch 68 105 = some (.getfield 49, 3) := rfl
theorem f68_108 : pm_fetch 68 108 = some (.invokevirtual 55, 3) := rfl
theorem f68_111 : pm_fetch 68 111 = some (.ireturn, 1) := rfl
theorem f68_112 : pm_fetch 68 112 = some (.aload_n 0, 1) := rfl
theorem f68_113 : pm_fetch 68 113 = some (.getfield 49, 3) := rfl
theorem f68_116 : pm_fetch 68 116 = some (.invokevirtual 193, 3) := rfl
theorem f68_119 : pm_fetch 68 119 = some (.ireturn, 1) := rfl
theorem f68_120 : pm_fetch 68 120 = some (.iload 4, 2) := rfl
theorem f68_122 : pm_fetch 68 122 = some (.ireturn, 1) := rfl
theorem f68_123 : pm_fetch 68 123 = some (.aload_n 0, 1) := rfl
theorem f68_124 : pm_fetch 68 124 = some (.iload_n 2, 1) := rfl
theorem f68_125 : pm_fetch 68 125 = some (.invokevirtual 196, 3) := rfl
theorem f68_128 : pm_fetch 68 128 = some (.ireturn, 1) := rfl
theorem f70_0 : pm_fetch 70 0 = some (.iload_n 1, 1) := rfl
theorem f70_1 : pm_fetch 70 1 = some (.iconst 0, 1) := rfl
theorem f70_2 : pm_fetch 70 2 = some (.bipush 39, 2) := rfl
theorem f70_4 : pm_fetch 70 4 = some (.invokestatic 90, 3) := rfl
theorem f70_7 : pm_fetch 70 7 = some (.ifCond .ne 6, 3) := rfl
theorem f70_10 : pm_fetch 70 10 = some (.bipush (-5), 2) := rfl
theorem f70_12 : pm_fetch 70 12 = some (.ireturn, 1) := rfl
theorem f70_13 : pm_fetch 70 13 = some (.iload_n 2, 1) := rfl
theorem f70_14 : pm_fetch 70 14 = some (.iconst 0, 1) := rfl
theorem f70_15 : pm_fetch 70 15 = some (.iconst 2, 1) := rfl
theorem f70_16 : pm_fetch 70 16 = some (.invokestatic 90, 3) := rfl
theorem f70_19 : pm_fetch 70 19 = some (.ifCond .ne 6, 3) := rfl
theorem f70_22 : pm_fetch 70 22 = some (.bipush (-7), 2) := rfl
theorem f70_24 : pm_fetch 70 24 = some (.ireturn, 1) := rfl
theorem f70_25 : pm_fetch 70 25 = some (.iconst (-1), 1) := rfl
theorem f70_26 : pm_fetch 70 26 = some (.istore_n 3, 1) := rfl
theorem f70_27 : pm_fetch 70 27 = some (.iconst 0, 1) := rfl
theorem f70_28 : pm_fetch 70 28 = some (.istore 4, 2) := rfl
theorem f70_30 : pm_fetch 70 30 = some (.iconst (-1), 1) := rfl
theorem f70_31 : pm_fetch 70 31 = some (.istore 5, 2) := rfl
theorem f70_33 : pm_fetch 70 33 = some (.aload_n 0, 1) := rfl
theorem f70_34 : pm_fetch 70 34 = some (.getfield 49, 3) := rfl
theorem f70_37 : pm_fetch 70 37 = some (.aload_n 0, 1) := rfl
theorem f70_38 : pm_fetch 70 38 = some (.getfield 45, 3) := rfl
theorem f70_41 : pm_fetch 70 41 = some (.invokevirtual 186, 3) := rfl
theorem f70_44 : pm_fetch 70 44 = some (.iconst 0, 1) := rfl
theorem f70_45 : pm_fetch 70 45 = some (.istore 6, 2) := rfl
theorem f70_47 : pm_fetch 70 47 = some (.iload 6, 2) := rfl
theorem f70_49 : pm_fetch 70 49 = some (.bipush 40, 2) := rfl
theorem f70_51 : pm_fetch 70 51 = some (.if_icmp .gt 66, 3) := rfl
theorem f70_54 : pm_fetch 70 54 = some (.aload_n 0, 1) := rfl
theorem f70_55 : pm_fetch 70 55 = some (.getfield 49, 3) := rfl
theorem f70_58 : pm_fetch 70 58 = some (.iload_n 1, 1) := rfl
theorem f70_59 : pm_fetch 70 59 = some (.invokevirtual 199, 3) := rfl
theorem f70_62 : pm_fetch 70 62 = some (.istore 7, 2) := rfl
theorem f70_64 : pm_fetch 70 64 = some (.iload_n 3, 1) := rfl
theorem f70_65 : pm_fetch 70 65 = some (.iconst (-1), 1) := rfl
theorem f70_66 : pm_fetch 70 66 = some (.if_icmp .ne 16, 3) := rfl
theorem f70_69 : pm_fetch 70 69 = some (.iload 7, 2) := rfl
theorem f70_71 : pm_fetch 70 71 = some (.iconst (-1), 1) := rfl
theorem f70_72 : pm_fetch 70 72 = some (.if_icmp .eq 10, 3) := rfl
theorem f70_75 : pm_fetch 70 75 = some (.iload 6, 2) := rfl
theorem f70_77 : pm_fetch 70 77 = some (.istore_n 3, 1) := rfl
theorem f70_78 : pm_fetch 70 78 = some (.iload 7, 2) := rfl
theorem f70_80 : pm_fetch 70 80 = some (.istore 5, 2) := rfl
theorem f70_82 : pm_fetch 70 82 = some (.iload_n 3, 1) := rfl
theorem f70_83 : pm_fetch 70 83 = some (.iconst (-1), 1) := rfl
theorem f70_84 : pm_fetch 70 84 = some (.if_icmp .eq 12, 3) := rfl
theorem f70_87 : pm_fetch 70 87 = some (.iload 7, 2) := rfl
theorem f70_89 : pm_fetch 70 89 = some (.iconst (-1), 1) := rfl
theorem f70_90 : pm_fetch 70 90 = some (.if_icmp .ne 6, 3) := rfl
theorem f70_93 : pm_fetch 70 93 = some (.goto 24, 3) := rfl
theorem f70_96 : pm_fetch 70 96 = some (.iload_n 3, 1) := rfl
theorem f70_97 : pm_fetch 70 97 = some (.iconst (-1), 1) := rfl
theorem f70_98 : pm_fetch 70 98 = some (.if_icmp .eq 6, 3) := rfl
theorem f70_101 : pm_fetch 70 101 = some (.iinc 4 1, 3) := rfl
theorem f70_104 : pm_fetch 70 104 = some (.aload_n 0, 1) := rfl
theorem f70_105 : pm_fetch 70 105 = some (.getfield 49, 3) := rfl
theorem f70_108 : pm_fetch 70 108 = some (.invokevirtual 183, 3) := rfl
theorem f70_111 : pm_fetch 70 111 = some (.iinc 6 1, 3) := rfl
theorem f70_114 : pm_fetch 70 114 = some (.goto (-67), 3) := rfl
theorem f70_117 : pm_fetch 70 117 = some (.iload_n 2, 1) := rfl
theorem f70_118 : pm_fetch 70 118 = some (.ifCond .ne 7, 3) := rfl
theorem f70_121 : pm_fetch 70 121 = some (.iload_n 3, 1) := rfl
theorem f70_122 : pm_fetch 70 122 = some (.goto 15, 3) := rfl
theorem f70_125 : pm_fetch 70 125 = some (.iload_n 2, 1) := rfl
theorem f70_126 : pm_fetch 70 126 = some (.iconst 1, 1) := rfl
theorem f70_127 : pm_fetch 70 127 = some (.if_icmp .ne 8, 3) := rfl
theorem f70_130 : pm_fetch 70 130 = some (.iload 4, 2) := rfl
theorem f70_132 : pm_fetch 70 132 = some (.goto 5, 3) := rfl
theorem f70_135 : pm_fetch 70 135 = some (.iload 5, 2) := rfl
theorem f70_137 : pm_fetch 70 137 = some (.ireturn, 1) := rfl
theorem f71_0 : pm_fetch 71 0 = some (.aload_n 0, 1) := rfl
theorem f71_1 : pm_fetch 71 1 = some (.getfield 45, 3) := rfl
theorem f71_4 : pm_fetch 71 4 = some (.iload_n 1, 1) := rfl
theorem f71_5 : pm_fetch 71 5 = some (.invokevirtual 120, 3) := rfl
theorem f71_8 : pm_fetch 71 8 = some (.ifnonnull 6, 3) := rfl
theorem f71_11 : pm_fetch 71 11 = some (.bipush (-5), 2) := rfl
theorem f71_13 : pm_fetch 71 13 = some (.ireturn, 1) := rfl
theorem f71_14 : pm_fetch 71 14 = some (.aload_n 0, 1) := rfl
theorem f71_15 : pm_fetch 71 15 = some (.getfield 49, 3) := rfl
theorem f71_18 : pm_fetch 71 18 = some (.aload_n 0, 1) := rfl
theorem f71_19 : pm_fetch 71 19 = some (.getfield 45, 3) := rfl
theorem f71_22 : pm_fetch 71 22 = some (.invokevirtual 186, 3) := rfl
theorem f71_25 : pm_fetch 71 25 = some (.iconst 1, 1) := rfl
theorem f71_26 : pm_fetch 71 26 = some (.istore_n 2, 1) := rfl
theorem f71_27 : pm_fetch 71 27 = some (.iload_n 2, 1) := rfl
theorem f71_28 : pm_fetch 71 28 = some (.bipush 40, 2) := rfl
theorem f71_30 : pm_fetch 71 30 = some (.if_icmp .gt 29, 3) := rfl
theorem f71_33 : pm_fetch 71 33 = some (.aload_n 0, 1) := rfl
theorem f71_34 : pm_fetch 71 34 = some (.getfield 49, 3) := rfl
theorem f71_37 : pm_fetch 71 37 = some (.invokevirtual 183, 3) := rfl
theorem f71_40 : pm_fetch 71 40 = some (.aload_n 0, 1) := rfl
theorem f71_41 : pm_fetch 71 41 = some (.getfield 49, 3) := rfl
theorem f71_44 : pm_fetch 71 44 = some (.iload_n 1, 1) := rfl
theorem f71_45 : pm_fetch 71 45 = some (.invokevirtual 120, 3) := rfl
theorem f71_48 : pm_fetch 71 48 = some (.ifnonnull 5, 3) := rfl
theorem f71_51 : pm_fetch 71 51 = some (.iload_n 2, 1) := rfl
theorem f71_52 : pm_fetch 71 52 = some (.ireturn, 1) := rfl
theorem f71_53 : pm_fetch 71 53 = some (.iinc 2 1, 3) := rfl
theorem f71_56 : pm_fetch 71 56 = some (.goto (-29), 3) := rfl
theorem f71_59 : pm_fetch 71 59 = some (.iconst (-1), 1) := rfl
theorem f71_60 : pm_fetch 71 60 = some (.ireturn, 1) := rfl
theorem f72_0 : pm_fetch 72 0 = some (.iload_n 1, 1) := rfl
theorem f72_1 : pm_fetch 72 1 = some (.iconst 0, 1) := rfl
theorem f72_2 : pm_fetch 72 2 = some (.iconst 1, 1) := rfl
theorem f72_3 : pm_fetch 72 3 = some (.invokestatic 90, 3) := rfl
theorem f72_6 : pm_fetch 72 6 = some (.ifCond .ne 6, 3) := rfl
theorem f72_9 : pm_fetch 72 9 = some (.bipush (-2), 2) := rfl
theorem f72_11 : pm_fetch 72 11 = some (.ireturn, 1) := rfl
theorem f72_12 : pm_fetch 72 12 = some (.aload_n 0, 1) := rfl
theorem f72_13 : pm_fetch 72 13 = some (.getfield 49, 3) := rfl
theorem f72_16 : pm_fetch 72 16 = some (.aload_n 0, 1) := rfl
theorem f72_17 : pm_fetch 72 17 = some (.getfield 45, 3) := rfl
theorem f72_20 : pm_fetch 72 20 = some (.invokevirtual 186, 3) := rfl
theorem f72_23 : pm_fetch 72 23 = some (.iconst 0, 1) := rfl
theorem f72_24 : pm_fetch 72 24 = some (.istore_n 2, 1) := rfl
theorem f72_25 : pm_fetch 72 25 = some (.iload_n 2, 1) := rfl
theorem f72_26 : pm_fetch 72 26 = some (.bipush 40, 2) := rfl
theorem f72_28 : pm_fetch 72 28 = some (.if_icmp .gt 74, 3) := rfl
theorem f72_31 : pm_fetch 72 31 = some (.aload_n 0, 1) := rfl
theorem f72_32 : pm_fetch 72 32 = some (.getfield 49, 3) := rfl
theorem f72_35 : pm_fetch 72 35 = some (.getfield 129, 3) := rfl
theorem f72_38 : pm_fetch 72 38 = some (.astore_n 3, 1) := rfl
theorem f72_39 : pm_fetch 72 39 = some (.aload_n 3, 1) := rfl
theorem f72_40 : pm_fetch 72 40 = some (.arraylength, 1) := rfl
theorem f72_41 : pm_fetch 72 41 = some (.istore 4, 2) := rfl
theorem f72_43 : pm_fetch 72 43 = some (.iconst 0, 1) := rfl
theorem f72_44 : pm_fetch 72 44 = some (.istore 5, 2) := rfl
theorem f72_46 : pm_fetch 72 46 = some (.iload 5, 2) := rfl
theorem f72_48 : pm_fetch 72 48 = some (.iload 4, 2) := rfl
theorem f72_50 : pm_fetch 72 50 = some (.if_icmp .ge 39, 3) := rfl
theorem f72_53 : pm_fetch 72 53 = some (.aload_n 3, 1) := rfl
theorem f72_54 : pm_fetch 72 54 = some (.iload 5, 2) := rfl
theorem f72_56 : pm_fetch 72 56 = some (.aaload, 1) := rfl
theorem f72_57 : pm_fetch 72 57 = some (.astore 6, 2) := rfl
theorem f72_59 : pm_fetch 72 59 = some (.aload 6, 2) := rfl
theorem f72_61 : pm_fetch 72 61 = some (.invokevirtual 202, 3) := rfl
theorem f72_64 : pm_fetch 72 64 = some (.bipush 39, 2) := rfl
theorem f72_66 : pm_fetch 72 66 = some (.if_icmp .ne 17, 3) := rfl
theorem f72_69 : pm_fetch 72 69 = some (.iload_n 1, 1) := rfl
theorem f72_70 : pm_fetch 72 70 = some (.ifCond .ne 11, 3) := rfl
theorem f72_73 : pm_fetch 72 73 = some (.aload 6, 2) := rfl
theorem f72_75 : pm_fetch 72 75 = some (.getfield 152, 3) := rfl
theorem f72_78 : pm_fetch 72 78 = some (.goto 4, 3) := rfl
theorem f72_81 : pm_fetch 72 81 = some (.iload_n 2, 1) := rfl
theorem f72_82 : pm_fetch 72 82 = some (.ireturn, 1) := rfl
theorem f72_83 : pm_fetch 72 83 = some (.iinc 5 1, 3) := rfl
theorem f72_86 : pm_fetch 72 86 = some (.goto (-40), 3) := rfl
theorem f72_89 : pm_fetch 72 89 = some (.aload_n 0, 1) := rfl
theorem f72_90 : pm_fetch 72 90 = some (.getfield 49, 3) := rfl
theorem f72_93 : pm_fetch 72 93 = some (.invokevirtual 183, 3) := rfl
theorem f72_96 : pm_fetch 72 96 = some (.iinc 2 1, 3) := rfl
theorem f72_99 : pm_fetch 72 99 = some (.goto (-74), 3) := rfl
theorem f72_102 : pm_fetch 72 102 = some (.iconst (-1), 1) := rfl
theorem f72_103 : pm_fetch 72 103 = some (.ireturn, 1) := rfl
theorem f73_0 : pm_fetch 73 0 = some (.iload_n 1, 1) := rfl
theorem f73_1 : pm_fetch 73 1 = some (.iconst 0, 1) := rfl
theorem f73_2 : pm_fetch 73 2 = some (.bipush 20, 2) := rfl
theorem f73_4 : pm_fetch 73 4 = some (.invokestatic 90, 3) := rfl
theorem f73_7 : pm_fetch 73 7 = some (.ifCond .eq 12, 3) := rfl
theorem f73_10 : pm_fetch 73 10 = some (.iload_n 2, 1) := rfl
theorem f73_11 : pm_fetch 73 11 = some (.iconst 0, 1) := rfl
theorem f73_12 : pm_fetch 73 12 = some (.iconst 1, 1) := rfl
theorem f73_13 : pm_fetch 73 13 = some (.invokestatic 90, 3) := rfl
theorem f73_16 : pm_fetch 73 16 = some (.ifCond .ne 6, 3) := rfl
theorem f73_19 : pm_fetch 73 19 = some (.bipush (-2), 2) := rfl
theorem f73_21 : pm_fetch 73 21 = some (.ireturn, 1) := rfl
theorem f73_22 : pm_fetch 73 22 = some (.aload_n 0, 1) := rfl
theorem f73_23 : pm_fetch 73 23 = some (.getfield 49, 3) := rfl
theorem f73_26 : pm_fetch 73 26 = some (.aload_n 0, 1) := rfl
theorem f73_27 : pm_fetch 73 27 = some (.getfield 45, 3) := rfl
theorem f73_30 : pm_fetch 73 30 = some (.invokevirtual 186, 3) := rfl
theorem f73_33 : pm_fetch 73 33 = some (.aload_n 0, 1) := rfl
theorem f73_34 : pm_fetch 73 34 = some (.iload_n 1, 1) := rfl
theorem f73_35 : pm_fetch 73 35 = some (.invokevirtual 190, 3) := rfl
theorem f73_38 : pm_fetch 73 38 = some (.istore_n 3, 1) := rfl
theorem f73_39 : pm_fetch 73 39 = some (.iconst (-1), 1) := rfl
theorem f73_40 : pm_fetch 73 40 = some (.istore 4, 2) := rfl
theorem f73_42 : pm_fetch 73 42 = some (.iconst 0, 1) := rfl
theorem f73_43 : pm_fetch 73 43 = some (.istore 5, 2) := rfl
theorem f73_45 : pm_fetch 73 45 = some (.iload 5, 2) := rfl
theorem f73_47 : pm_fetch 73 47 = some (.bipush 40, 2) := rfl
theorem f73_49 : pm_fetch 73 49 = some (.if_icmp .ge 78, 3) := rfl
theorem f73_52 : pm_fetch 73 52 = some (.lconst 1, 1) := rfl
theorem f73_53 : pm_fetch 73 53 = some (.iload 5, 2) := rfl
theorem f73_55 : pm_fetch 73 55 = some (.lshl, 1) := rfl
theorem f73_56 : pm_fetch 73 56 = some (.lstore 6, 2) := rfl
theorem f73_58 : pm_fetch 73 58 = some (.aload_n 0, 1) := rfl
theorem f73_59 : pm_fetch 73 59 = some (.getfield 45, 3) := rfl
theorem f73_62 : pm_fetch 73 62 = some (.getfield 77, 3) := rfl
theorem f73_65 : pm_fetch 73 65 = some (.lload 6, 2) := rfl
theorem f73_67 : pm_fetch 73 67 = some (.land, 1) := rfl
theorem f73_68 : pm_fetch 73 68 = some (.lconst 0, 1) := rfl
theorem f73_69 : pm_fetch 73 69 = some (.lcmp, 1) := rfl
theorem f73_70 : pm_fetch 73 70 = some (.ifCond .ne 51, 3) := rfl
theorem f73_73 : pm_fetch 73 73 = some (.aload_n 0, 1) := rfl
theorem f73_74 : pm_fetch 73 74 = some (.getfield 49, 3) := rfl
theorem f73_77 : pm_fetch 73 77 = some (.aload_n 0, 1) := rfl
theorem f73_78 : pm_fetch 73 78 = some (.getfield 45, 3) := rfl
theorem f73_81 : pm_fetch 73 81 = some (.invokevirtual 186, 3) := rfl
theorem f73_84 : pm_fetch 73 84 = some (.aload_n 0, 1) := rfl
theorem f73_85 : pm_fetch 73 85 = some (.getfield 49, 3) := rfl
theorem f73_88 : pm_fetch 73 88 = some (.aload_n 0, 1) := rfl
theorem f73_89 : pm_fetch 73 89 = some (.getfield 45, 3) := rfl
theorem f73_92 : pm_fetch 73 92 = some (.getfield 77, 3) := rfl
theorem f73_95 : pm_fetch 73 95 = some (.lload 6, 2) := rfl
theorem f73_97 : pm_fetch 73 97 = some (.lor, 1) := rfl
theorem f73_98 : pm_fetch 73 98 = some (.putfield 77, 3) := rfl
theorem f73_101 : pm_fetch 73 101 = some (.aload_n 0, 1) := rfl
theorem f73_102 : pm_fetch 73 102 = some (.iload_n 1, 1) := rfl
theorem f73_103 : pm_fetch 73 103 = some (.invokevirtual 190, 3) := rfl
theorem f73_106 : pm_fetch 73 106 = some (.istore 8, 2) := rfl
theorem f73_108 : pm_fetch 73 108 = some (.iload 8, 2) := rfl
theorem f73_110 : pm_fetch 73 110 = some (.iload_n 3, 1) := rfl
theorem f73_111 : pm_fetch 73 111 = some (.if_icmp .ge 10, 3) := rfl
theorem f73_114 : pm_fetch 73 114 = some (.iload 8, 2) := rfl
theorem f73_116 : pm_fetch 73 116 = some (.istore_n 3, 1) := rfl
theorem f73_117 : pm_fetch 73 117 = some (.iload 5, 2) := rfl
theorem f73_119 : pm_fetch 73 119 = some (.istore 4, 2) := rfl
theorem f73_121 : pm_fetch 73 121 = some (.iinc 5 1, 3) := rfl
theorem f73_124 : pm_fetch 73 124 = some (.goto (-79), 3) := rfl
theorem f73_127 : pm_fetch 73 127 = some (.iload_n 2, 1) := rfl
theorem f73_128 : pm_fetch 73 128 = some (.ifCond .ne 8, 3) := rfl
theorem f73_131 : pm_fetch 73 131 = some (.iload 4, 2) := rfl
theorem f73_133 : pm_fetch 73 133 = some (.goto 4, 3) := rfl
theorem f73_136 : pm_fetch 73 136 = some (.iload_n 3, 1) := rfl
theorem f73_137 : pm_fetch 73 137 = some (.ireturn, 1) := rfl
theorem f102_0 : pm_fetch 102 0 = some (.aload_n 0, 1) := rfl
theorem f102_1 : pm_fetch 102 1 = some (.getfield 28, 3) := rfl
theorem f102_4 : pm_fetch 102 4 = some (.iconst 0, 1) := rfl
theorem f102_5 : pm_fetch 102 5 = some (.invokestatic 276, 3) := rfl
theorem f102_8 : pm_fetch 102 8 = some (.aload_n 0, 1) := rfl
theorem f102_9 : pm_fetch 102 9 = some (.getfield 49, 3) := rfl
theorem f102_12 : pm_fetch 102 12 = some (.aload_n 0, 1) := rfl
theorem f102_13 : pm_fetch 102 13 = some (.getfield 45, 3) := rfl
theorem f102_16 : pm_fetch 102 16 = some (.invokevirtual 186, 3) := rfl
theorem f102_19 : pm_fetch 102 19 = some (.iconst 0, 1) := rfl
theorem f102_20 : pm_fetch 102 20 = some (.istore_n 2, 1) := rfl
theorem f102_21 : pm_fetch 102 21 = some (.iconst 0, 1) := rfl
theorem f102_22 : pm_fetch 102 22 = some (.istore_n 3, 1) := rfl
theorem f102_23 : pm_fetch 102 23 = some (.iload_n 3, 1) := rfl
theorem f102_24 : pm_fetch 102 24 = some (.iload_n 1, 1) := rfl
theorem f102_25 : pm_fetch 102 25 = some (.if_icmp .ge 63, 3) := rfl
theorem f102_28 : pm_fetch 102 28 = some (.iload_n 2, 1) := rfl
theorem f102_29 : pm_fetch 102 29 = some (.aload_n 0, 1) := rfl
theorem f102_30 : pm_fetch 102 30 = some (.iconst 1, 1) := rfl
theorem f102_31 : pm_fetch 102 31 = some (.invokevirtual 190, 3) := rfl
theorem f102_34 : pm_fetch 102 34 = some (.iadd, 1) := rfl
theorem f102_35 : pm_fetch 102 35 = some (.istore_n 2, 1) := rfl
theorem f102_36 : pm_fetch 102 36 = some (.aload_n 0, 1) := rfl
theorem f102_37 : pm_fetch 102 37 = some (.getfield 49, 3) := rfl
theorem f102_40 : pm_fetch 102 40 = some (.invokevirtual 96, 3) := rfl
theorem f102_43 : pm_fetch 102 43 = some (.lstore 4, 2) := rfl
theorem f102_45 : pm_fetch 102 45 = some (.iconst 0, 1) := rfl
theorem f102_46 : pm_fetch 102 46 = some (.istore 6, 2) := rfl
theorem f102_48 : pm_fetch 102 48 = some (.iload 6, 2) := rfl
theorem f102_50 : pm_fetch 102 50 = some (.aload_n 0, 1) := rfl
theorem f102_51 : pm_fetch 102 51 = some (.getfield 28, 3) := rfl
theorem f102_54 : pm_fetch 102 54 = some (.arraylength, 1) := rfl
theorem f102_55 : pm_fetch 102 55 = some (.if_icmp .ge 27, 3) := rfl
theorem f102_58 : pm_fetch 102 58 = some (.aload_n 0, 1) := rfl
theorem f102_59 : pm_fetch 102 59 = some (.getfield 28, 3) := rfl
theorem f102_62 : pm_fetch 102 62 = some (.iload 6, 2) := rfl
theorem f102_64 : pm_fetch 102 64 = some (.dup2, 1) := rfl
theorem f102_65 : pm_fetch 102 65 = some (.iaload, 1) := rfl
theorem f102_66 : pm_fetch 102 66 = some (.lload 4, 2) := rfl
theorem f102_68 : pm_fetch 102 68 = some (.iload 6, 2) := rfl
theorem f102_70 : pm_fetch 102 70 = some (.lshr, 1) := rfl
theorem f102_71 : pm_fetch 102 71 = some (.lconst 1, 1) := rfl
theorem f102_72 : pm_fetch 102 72 = some (.land, 1) := rfl
theorem f102_73 : pm_fetch 102 73 = some (.l2i, 1) := rfl
theorem f102_74 : pm_fetch 102 74 = some (.iadd, 1) := rfl
theorem f102_75 : pm_fetch 102 75 = some (.iastore, 1) := rfl
theorem f102_76 : pm_fetch 102 76 = some (.iinc 6 1, 3) := rfl
theorem f102_79 : pm_fetch 102 79 = some (.goto (-31), 3) := rfl
theorem f102_82 : pm_fetch 102 82 = some (.iinc 3 1, 3) := rfl
theorem f102_85 : pm_fetch 102 85 = some (.goto (-62), 3) := rfl
theorem f102_88 : pm_fetch 102 88 = some (.iload_n 2, 1) := rfl
theorem f102_89 : pm_fetch 102 89 = some (.ireturn, 1) := rfl
theorem f74_0 : pm_fetch 74 0 = some (.iload_n 1, 1) := rfl
theorem f74_1 : pm_fetch 74 1 = some (.iconst 0, 1) := rfl
theorem f74_2 : pm_fetch 74 2 = some (.bipush 20, 2) := rfl
theorem f74_4 : pm_fetch 74 4 = some (.invokestatic 90, 3) := rfl
theorem f74_7 : pm_fetch 74 7 = some (.ifCond .eq 12, 3) := rfl
theorem f74_10 : pm_fetch 74 10 = some (.iload_n 2, 1) := rfl
theorem f74_11 : pm_fetch 74 11 = some (.iconst 0, 1) := rfl
theorem f74_12 : pm_fetch 74 12 = some (.iconst 1, 1) := rfl
theorem f74_13 : pm_fetch 74 13 = some (.invokestatic 90, 3) := rfl
theorem f74_16 : pm_fetch 74 16 = some (.ifCond .ne 6, 3) := rfl
theorem f74_19 : pm_fetch 74 19 = some (.bipush (-2), 2) := rfl
theorem f74_21 : pm_fetch 74 21 = some (.ireturn, 1) := rfl
theorem f74_22 : pm_fetch 74 22 = some (.aload_n 0, 1) := rfl
theorem f74_23 : pm_fetch 74 23 = some (.iload_n 1, 1) := rfl
theorem f74_24 : pm_fetch 74 24 = some (.invokevirtual 205, 3) := rfl
theorem f74_27 : pm_fetch 74 27 = some (.istore_n 3, 1) := rfl
theorem f74_28 : pm_fetch 74 28 = some (.iload_n 3, 1) := rfl
theorem f74_29 : pm_fetch 74 29 = some (.istore 4, 2) := rfl
theorem f74_31 : pm_fetch 74 31 = some (.iconst (-1), 1) := rfl
theorem f74_32 : pm_fetch 74 32 = some (.istore 5, 2) := rfl
theorem f74_34 : pm_fetch 74 34 = some (.iconst 0, 1) := rfl
theorem f74_35 : pm_fetch 74 35 = some (.istore 6, 2) := rfl
theorem f74_37 : pm_fetch 74 37 = some (.iload 6, 2) := rfl
theorem f74_39 : pm_fetch 74 39 = some (.aload_n 0, 1) := rfl
theorem f74_40 : pm_fetch 74 40 = some (.getfield 28, 3) := rfl
theorem f74_43 : pm_fetch 74 43 = some (.arraylength, 1) := rfl
theorem f74_44 : pm_fetch 74 44 = some (.if_icmp .ge 104, 3) := rfl
theorem f74_47 : pm_fetch 74 47 = some (.iconst 0, 1) := rfl
theorem f74_48 : pm_fetch 74 48 = some (.istore 7, 2) := rfl
theorem f74_50 : pm_fetch 74 50 = some (.iload 7, 2) := rfl
theorem f74_52 : pm_fetch 74 52 = some (.aload_n 0, 1) := rfl
theorem f74_53 : pm_fetch 74 53 = some (.getfield 28, 3) := rfl
theorem f74_56 : pm_fetch 74 56 = some (.arraylength, 1) := rfl
theorem f74_57 : pm_fetch 74 57 = some (.if_icmp .ge 85, 3) := rfl
theorem f74_60 : pm_fetch 74 60 = some (.aload_n 0, 1) := rfl
theorem f74_61 : pm_fetch 74 61 = some (.getfield 45, 3) := rfl
theorem f74_64 : pm_fetch 74 64 = some (.iload 6, 2) := rfl
theorem f74_66 : pm_fetch 74 66 = some (.invokevirtual 208, 3) := rfl
theorem f74_69 : pm_fetch 74 69 = some (.ifCond .eq 19, 3) := rfl
theorem f74_72 : pm_fetch 74 72 = some (.aload_n 0, 1) := rfl
theorem f74_73 : pm_fetch 74 73 = some (.getfield 45, 3) := rfl
theorem f74_76 : pm_fetch 74 76 = some (.iload 7, 2) := rfl
theorem f74_78 : pm_fetch 74 78 = some (.invokevirtual 208, 3) := rfl
theorem f74_81 : pm_fetch 74 81 = some (.ifCond .ne 7, 3) := rfl
theorem f74_84 : pm_fetch 74 84 = some (.iconst 1, 1) := rfl
theorem f74_85 : pm_fetch 74 85 = some (.goto 4, 3) := rfl
theorem f74_88 : pm_fetch 74 88 = some (.iconst 0, 1) := rfl
theorem f74_89 : pm_fetch 74 89 = some (.istore 8, 2) := rfl
theorem f74_91 : pm_fetch 74 91 = some (.iload_n 3, 1) := rfl
theorem f74_92 : pm_fetch 74 92 = some (.aload_n 0, 1) := rfl
theorem f74_93 : pm_fetch 74 93 = some (.getfield 28, 3) := rfl
theorem f74_96 : pm_fetch 74 96 = some (.iload 6, 2) := rfl
theorem f74_98 : pm_fetch 74 98 = some (.iaload, 1) := rfl
theorem f74_99 : pm_fetch 74 99 = some (.isub, 1) := rfl
theorem f74_100 : pm_fetch 74 100 = some (.aload_n 0, 1) := rfl
theorem f74_101 : pm_fetch 74 101 = some (.getfield 28, 3) := rfl
theorem f74_104 : pm_fetch 74 104 = some (.iload 7, 2) := rfl
theorem f74_106 : pm_fetch 74 106 = some (.iaload, 1) := rfl
theorem f74_107 : pm_fetch 74 107 = some (.iadd, 1) := rfl
theorem f74_108 : pm_fetch 74 108 = some (.istore 9, 2) := rfl
theorem f74_110 : pm_fetch 74 110 = some (.iload 8, 2) := rfl
theorem f74_112 : pm_fetch 74 112 = some (.ifCond .eq 24, 3) := rfl
theorem f74_115 : pm_fetch 74 115 = some (.iload 9, 2) := rfl
theorem f74_117 : pm_fetch 74 117 = some (.iload 4, 2) := rfl
theorem f74_119 : pm_fetch 74 119 = some (.if_icmp .ge 17, 3) := rfl
theorem f74_122 : pm_fetch 74 122 = some (.iload 9, 2) := rfl
theorem f74_124 : pm_fetch 74 124 = some (.istore 4, 2) := rfl
theorem f74_126 : pm_fetch 74 126 = some (.bipush 100, 2) := rfl
theorem f74_128 : pm_fetch 74 128 = some (.iload 6, 2) := rfl
theorem f74_130 : pm_fetch 74 130 = some (.imul, 1) := rfl
theorem f74_131 : pm_fetch 74 131 = some (.iload 7, 2) := rfl
theorem f74_133 : pm_fetch 74 133 = some (.iadd, 1) := rfl
theorem f74_134 : pm_fetch 74 134 = some (.istore 5, 2) := rfl
theorem f74_136 : pm_fetch 74 136 = some (.iinc 7 1, 3) := rfl
theorem f74_139 : pm_fetch 74 139 = some (.goto (-89), 3) := rfl
theorem f74_142 : pm_fetch 74 142 = some (.iinc 6 1, 3) := rfl
theorem f74_145 : pm_fetch 74 145 = some (.goto (-108), 3) := rfl
theorem f74_148 : pm_fetch 74 148 = some (.iload_n 2, 1) := rfl
theorem f74_149 : pm_fetch 74 149 = some (.ifCond .ne 8, 3) := rfl
theorem f74_152 : pm_fetch 74 152 = some (.iload 5, 2) := rfl
theorem f74_154 : pm_fetch 74 154 = some (.goto 5, 3) := rfl
theorem f74_157 : pm_fetch 74 157 = some (.iload 4, 2) := rfl
theorem f74_159 : pm_fetch 74 159 = some (.ireturn, 1) := rfl
theorem f75_0 : pm_fetch 75 0 = some (.iload_n 1, 1) := rfl
theorem f75_1 : pm_fetch 75 1 = some (.iconst 0, 1) := rfl
theorem f75_2 : pm_fetch 75 2 = some (.bipush 40, 2) := rfl
theorem f75_4 : pm_fetch 75 4 = some (.invokestatic 90, 3) := rfl
theorem f75_7 : pm_fetch 75 7 = some (.ifCond .eq 12, 3) := rfl
theorem f75_10 : pm_fetch 75 10 = some (.iload_n 2, 1) := rfl
theorem f75_11 : pm_fetch 75 11 = some (.iconst 0, 1) := rfl
theorem f75_12 : pm_fetch 75 12 = some (.iconst 1, 1) := rfl
theorem f75_13 : pm_fetch 75 13 = some (.invokestatic 90, 3) := rfl
theorem f75_16 : pm_fetch 75 16 = some (.ifCond .ne 6, 3) := rfl
theorem f75_19 : pm_fetch 75 19 = some (.bipush (-2), 2) := rfl
theorem f75_21 : pm_fetch 75 21 = some (.ireturn, 1) := rfl
theorem f75_22 : pm_fetch 75 22 = some (.aload_n 0, 1) := rfl
theorem f75_23 : pm_fetch 75 23 = some (.getfield 49, 3) := rfl
theorem f75_26 : pm_fetch 75 26 = some (.aload_n 0, 1) := rfl
theorem f75_27 : pm_fetch 75 27 = some (.getfield 45, 3) := rfl
theorem f75_30 : pm_fetch 75 30 = some (.invokevirtual 186, 3) := rfl
theorem f75_33 : pm_fetch 75 33 = some (.aload_n 0, 1) := rfl
theorem f75_34 : pm_fetch 75 34 = some (.iload_n 1, 1) := rfl
theorem f75_35 : pm_fetch 75 35 = some (.invokevirtual 190, 3) := rfl
theorem f75_38 : pm_fetch 75 38 = some (.istore_n 3, 1) := rfl
theorem f75_39 : pm_fetch 75 39 = some (.iconst (-1), 1) := rfl
theorem f75_40 : pm_fetch 75 40 = some (.istore 4, 2) := rfl
theorem f75_42 : pm_fetch 75 42 = some (.iconst 0, 1) := rfl
theorem f75_43 : pm_fetch 75 43 = some (.istore 5, 2) := rfl
theorem f75_45 : pm_fetch 75 45 = some (.iload 5, 2) := rfl
theorem f75_47 : pm_fetch 75 47 = some (.aload_n 0, 1) := rfl
theorem f75_48 : pm_fetch 75 48 = some (.getfield 45, 3) := rfl
theorem f75_51 : pm_fetch 75 51 = some (.getfield 52, 3) := rfl
theorem f75_54 : pm_fetch 75 54 = some (.if_icmp .ge 62, 3) := rfl
theorem f75_57 : pm_fetch 75 57 = some (.aload_n 0, 1) := rfl
theorem f75_58 : pm_fetch 75 58 = some (.getfield 49, 3) := rfl
theorem f75_61 : pm_fetch 75 61 = some (.aload_n 0, 1) := rfl
theorem f75_62 : pm_fetch 75 62 = some (.getfield 45, 3) := rfl
theorem f75_65 : pm_fetch 75 65 = some (.invokevirtual 186, 3) := rfl
theorem f75_68 : pm_fetch 75 68 = some (.aload_n 0, 1) := rfl
theorem f75_69 : pm_fetch 75 69 = some (.getfield 49, 3) := rfl
theorem f75_72 : pm_fetch 75 72 = some (.iload 5, 2) := rfl
theorem f75_74 : pm_fetch 75 74 = some (.invokevirtual 120, 3) := rfl
theorem f75_77 : pm_fetch 75 77 = some (.astore 6, 2) := rfl
theorem f75_79 : pm_fetch 75 79 = some (.aload 6, 2) := rfl
theorem f75_81 : pm_fetch 75 81 = some (.ifnull 29, 3) := rfl
theorem f75_84 : pm_fetch 75 84 = some (.aload 6, 2) := rfl
theorem f75_86 : pm_fetch 75 86 = some (.iconst 1, 1) := rfl
theorem f75_87 : pm_fetch 75 87 = some (.putfield 148, 3) := rfl
theorem f75_90 : pm_fetch 75 90 = some (.aload_n 0, 1) := rfl
theorem f75_91 : pm_fetch 75 91 = some (.iload_n 1, 1) := rfl
theorem f75_92 : pm_fetch 75 92 = some (.invokevirtual 190, 3) := rfl
theorem f75_95 : pm_fetch 75 95 = some (.istore 7, 2) := rfl
theorem f75_97 : pm_fetch 75 97 = some (.iload 7, 2) := rfl
theorem f75_99 : pm_fetch 75 99 = some (.iload_n 3, 1) := rfl
theorem f75_100 : pm_fetch 75 100 = some (.if_icmp .ge 10, 3) := rfl
theorem f75_103 : pm_fetch 75 103 = some (.iload 7, 2) := rfl
theorem f75_105 : pm_fetch 75 105 = some (.istore_n 3, 1) := rfl
theorem f75_106 : pm_fetch 75 106 = some (.iload 5, 2) := rfl
theorem f75_108 : pm_fetch 75 108 = some (.istore 4, 2) := rfl
theorem f75_110 : pm_fetch 75 110 = some (.iinc 5 1, 3) := rfl
theorem f75_113 : pm_fetch 75 113 = some (.goto (-68), 3) := rfl
theorem f75_116 : pm_fetch 75 116 = some (.iload_n 2, 1) := rfl
theorem f75_117 : pm_fetch 75 117 = some (.ifCond .ne 8, 3) := rfl
theorem f75_120 : pm_fetch 75 120 = some (.iload 4, 2) := rfl
theorem f75_122 : pm_fetch 75 122 = some (.goto 4, 3) := rfl
theorem f75_125 : pm_fetch 75 125 = some (.iload_n 3, 1) := rfl
theorem f75_126 : pm_fetch 75 126 = some (.ireturn, 1) := rfl
theorem f107_0 : pm_fetch 107 0 = some (.iconst 1, 1) := rfl
theorem f107_1 : pm_fetch 107 1 = some (.istore_n 3, 1) := rfl
theorem f107_2 : pm_fetch 107 2 = some (.iconst 2, 1) := rfl
theorem f107_3 : pm_fetch 107 3 = some (.istore 4, 2) := rfl
theorem f107_5 : pm_fetch 107 5 = some (.iload 4, 2) := rfl
theorem f107_7 : pm_fetch 107 7 = some (.iload_n 1, 1) := rfl
theorem f107_8 : pm_fetch 107 8 = some (.if_icmp .gt 26, 3) := rfl
theorem f107_11 : pm_fetch 107 11 = some (.iload_n 0, 1) := rfl
theorem f107_12 : pm_fetch 107 12 = some (.iload 4, 2) := rfl
theorem f107_14 : pm_fetch 107 14 = some (.irem, 1) := rfl
theorem f107_15 : pm_fetch 107 15 = some (.ifCond .ne 13, 3) := rfl
theorem f107_18 : pm_fetch 107 18 = some (.iload_n 1, 1) := rfl
theorem f107_19 : pm_fetch 107 19 = some (.iload 4, 2) := rfl
theorem f107_21 : pm_fetch 107 21 = some (.irem, 1) := rfl
theorem f107_22 : pm_fetch 107 22 = some (.ifCond .ne 6, 3) := rfl
theorem f107_25 : pm_fetch 107 25 = some (.iload 4, 2) := rfl
theorem f107_27 : pm_fetch 107 27 = some (.istore_n 3, 1) := rfl
theorem f107_28 : pm_fetch 107 28 = some (.iinc 4 1, 3) := rfl
theorem f107_31 : pm_fetch 107 31 = some (.goto (-26), 3) := rfl
theorem f107_34 : pm_fetch 107 34 = some (.iload_n 2, 1) := rfl
theorem f107_35 : pm_fetch 107 35 = some (.ifCond .ne 7, 3) := rfl
theorem f107_38 : pm_fetch 107 38 = some (.iload_n 0, 1) := rfl
theorem f107_39 : pm_fetch 107 39 = some (.goto 4, 3) := rfl
theorem f107_42 : pm_fetch 107 42 = some (.iload_n 1, 1) := rfl
theorem f107_43 : pm_fetch 107 43 = some (.iload_n 3, 1) := rfl
theorem f107_44 : pm_fetch 107 44 = some (.idiv, 1) := rfl
theorem f107_45 : pm_fetch 107 45 = some (.i2l, 1) := rfl
theorem f107_46 : pm_fetch 107 46 = some (.lreturn, 1) := rfl
theorem f76_0 : pm_fetch 76 0 = some (.iload_n 1, 1) := rfl
theorem f76_1 : pm_fetch 76 1 = some (.iconst 0, 1) := rfl
theorem f76_2 : pm_fetch 76 2 = some (.bipush 40, 2) := rfl
theorem f76_4 : pm_fetch 76 4 = some (.invokestatic 90, 3) := rfl
theorem f76_7 : pm_fetch 76 7 = some (.ifCond .eq 24, 3) := rfl
theorem f76_10 : pm_fetch 76 10 = some (.iload_n 2, 1) := rfl
theorem f76_11 : pm_fetch 76 11 = some (.iconst 0, 1) := rfl
theorem f76_12 : pm_fetch 76 12 = some (.iconst 1, 1) := rfl
theorem f76_13 : pm_fetch 76 13 = some (.invokestatic 90, 3) := rfl
theorem f76_16 : pm_fetch 76 16 = some (.ifCond .eq 15, 3) := rfl
theorem f76_19 : pm_fetch 76 19 = some (.aload_n 0, 1) := rfl
theorem f76_20 : pm_fetch 76 20 = some (.getfield 45, 3) := rfl
theorem f76_23 : pm_fetch 76 23 = some (.getfield 68, 3) := rfl
theorem f76_26 : pm_fetch 76 26 = some (.lconst 0, 1) := rfl
theorem f76_27 : pm_fetch 76 27 = some (.lcmp, 1) := rfl
theorem f76_28 : pm_fetch 76 28 = some (.ifCond .ne 7, 3) := rfl
theorem f76_31 : pm_fetch 76 31 = some (.ldc2_w 100, 3) := rfl
theorem f76_34 : pm_fetch 76 34 = some (.lreturn, 1) := rfl
theorem f76_35 : pm_fetch 76 35 = some (.aload_n 0, 1) := rfl
theorem f76_36 : pm_fetch 76 36 = some (.getfield 49, 3) := rfl
theorem f76_39 : pm_fetch 76 39 = some (.aload_n 0, 1) := rfl
theorem f76_40 : pm_fetch 76 40 = some (.getfield 45, 3) := rfl
theorem f76_43 : pm_fetch 76 43 = some (.invokevirtual 186, 3) := rfl
theorem f76_46 : pm_fetch 76 46 = some (.aload_n 0, 1) := rfl
theorem f76_47 : pm_fetch 76 47 = some (.iload_n 1, 1) := rfl
theorem f76_48 : pm_fetch 76 48 = some (.invokevirtual 190, 3) := rfl
theorem f76_51 : pm_fetch 76 51 = some (.pop, 1) := rfl
theorem f76_52 : pm_fetch 76 52 = some (.aload_n 0, 1) := rfl
theorem f76_53 : pm_fetch 76 53 = some (.getfield 49, 3) := rfl
theorem f76_56 : pm_fetch 76 56 = some (.invokevirtual 193, 3) := rfl
theorem f76_59 : pm_fetch 76 59 = some (.aload_n 0, 1) := rfl
theorem f76_60 : pm_fetch 76 60 = some (.getfield 45, 3) := rfl
theorem f76_63 : pm_fetch 76 63 = some (.getfield 68, 3) := rfl
theorem f76_66 : pm_fetch 76 66 = some (.invokestatic 72, 3) := rfl
theorem f76_69 : pm_fetch 76 69 = some (.iload_n 2, 1) := rfl
theorem f76_70 : pm_fetch 76 70 = some (.invokestatic 211, 3) := rfl
theorem f76_73 : pm_fetch 76 73 = some (.lreturn, 1) := rfl
theorem f98_0 : pm_fetch 98 0 = some (.iload_n 1, 1) := rfl
theorem f98_1 : pm_fetch 98 1 = some (.ifCond .lt 21, 3) := rfl
theorem f98_4 : pm_fetch 98 4 = some (.iload_n 1, 1) := rfl
theorem f98_5 : pm_fetch 98 5 = some (.aload_n 0, 1) := rfl
theorem f98_6 : pm_fetch 98 6 = some (.getfield 24, 3) := rfl
theorem f98_9 : pm_fetch 98 9 = some (.arraylength, 1) := rfl
theorem f98_10 : pm_fetch 98 10 = some (.if_icmp .ge 12, 3) := rfl
theorem f98_13 : pm_fetch 98 13 = some (.aload_n 0, 1) := rfl
theorem f98_14 : pm_fetch 98 14 = some (.getfield 24, 3) := rfl
theorem f98_17 : pm_fetch 98 17 = some (.iload_n 1, 1) := rfl
theorem f98_18 : pm_fetch 98 18 = some (.aaload, 1) := rfl
theorem f98_19 : pm_fetch 98 19 = some (.goto 4, 3) := rfl
theorem f98_22 : pm_fetch 98 22 = some (.aconst_null, 1) := rfl
theorem f98_23 : pm_fetch 98 23 = some (.areturn, 1) := rfl
theorem f99_0 : pm_fetch 99 0 = some (.aload_n 0, 1) := rfl
theorem f99_1 : pm_fetch 99 1 = some (.ifnonnull 6, 3) := rfl
theorem f99_4 : pm_fetch 99 4 = some (.bipush (-2), 2) := rfl
theorem f99_6 : pm_fetch 99 6 = some (.ireturn, 1) := rfl
theorem f99_7 : pm_fetch 99 7 = some (.aload_n 0, 1) := rfl
theorem f99_8 : pm_fetch 99 8 = some (.getfield 252, 3) := rfl
theorem f99_11 : pm_fetch 99 11 = some (.iconst (-1), 1) := rfl
theorem f99_12 : pm_fetch 99 12 = some (.if_icmp .ne 6, 3) := rfl
theorem f99_15 : pm_fetch 99 15 = some (.bipush (-11), 2) := rfl
theorem f99_17 : pm_fetch 99 17 = some (.ireturn, 1) := rfl
theorem f99_18 : pm_fetch 99 18 = some (.aload_n 0, 1) := rfl
theorem f99_19 : pm_fetch 99 19 = some (.getfield 255, 3) := rfl
theorem f99_22 : pm_fetch 99 22 = some (.bipush 20, 2) := rfl
theorem f99_24 : pm_fetch 99 24 = some (.if_icmp .le 8, 3) := rfl
theorem f99_27 : pm_fetch 99 27 = some (.bipush (-2), 2) := rfl
theorem f99_29 : pm_fetch 99 29 = some (.goto 4, 3) := rfl
theorem f99_32 : pm_fetch 99 32 = some (.iconst 0, 1) := rfl
theorem f99_33 : pm_fetch 99 33 = some (.ireturn, 1) := rfl
theorem f100_0 : pm_fetch 100 0 = some (.aload_n 1, 1) := rfl
theorem f100_1 : pm_fetch 100 1 = some (.invokestatic 231, 3) := rfl
theorem f100_4 : pm_fetch 100 4 = some (.istore_n 3, 1) := rfl
theorem f100_5 : pm_fetch 100 5 = some (.iload_n 3, 1) := rfl
theorem f100_6 : pm_fetch 100 6 = some (.ifCond .ne 19, 3) := rfl
theorem f100_9 : pm_fetch 100 9 = some (.aload_n 0, 1) := rfl
theorem f100_10 : pm_fetch 100 10 = some (.getfield 45, 3) := rfl
theorem f100_13 : pm_fetch 100 13 = some (.iload_n 2, 1) := rfl
theorem f100_14 : pm_fetch 100 14 = some (.invokevirtual 120, 3) := rfl
theorem f100_17 : pm_fetch 100 17 = some (.ifnonnull 8, 3) := rfl
theorem f100_20 : pm_fetch 100 20 = some (.bipush (-5), 2) := rfl
theorem f100_22 : pm_fetch 100 22 = some (.goto 4, 3) := rfl
theorem f100_25 : pm_fetch 100 25 = some (.iload_n 3, 1) := rfl
theorem f100_26 : pm_fetch 100 26 = some (.ireturn, 1) := rfl
theorem f105_0 : pm_fetch 105 0 = some (.aload_n 1, 1) := rfl
theorem f105_1 : pm_fetch 105 1 = some (.ifnull 7, 3) := rfl
theorem f105_4 : pm_fetch 105 4 = some (.aload_n 2, 1) := rfl
theorem f105_5 : pm_fetch 105 5 = some (.ifnonnull 5, 3) := rfl
theorem f105_8 : pm_fetch 105 8 = some (.iconst (-1), 1) := rfl
theorem f105_9 : pm_fetch 105 9 = some (.ireturn, 1) := rfl
theorem f105_10 : pm_fetch 105 10 = some (.iconst 0, 1) := rfl
theorem f105_11 : pm_fetch 105 11 = some (.istore_n 3, 1) := rfl
theorem f105_12 : pm_fetch 105 12 = some (.iload_n 3, 1) := rfl
theorem f105_13 : pm_fetch 105 13 = some (.aload_n 1, 1) := rfl
theorem f105_14 : pm_fetch 105 14 = some (.getfield 255, 3) := rfl
theorem f105_17 : pm_fetch 105 17 = some (.if_icmp .ge 40, 3) := rfl
theorem f105_20 : pm_fetch 105 20 = some (.iload_n 3, 1) := rfl
theorem f105_21 : pm_fetch 105 21 = some (.aload_n 1, 1) := rfl
theorem f105_22 : pm_fetch 105 22 = some (.getfield 260, 3) := rfl
theorem f105_25 : pm_fetch 105 25 = some (.arraylength, 1) := rfl
theorem f105_26 : pm_fetch 105 26 = some (.if_icmp .ge 31, 3) := rfl
theorem f105_29 : pm_fetch 105 29 = some (.aload_n 0, 1) := rfl
theorem f105_30 : pm_fetch 105 30 = some (.getfield 49, 3) := rfl
theorem f105_33 : pm_fetch 105 33 = some (.invokevirtual 183, 3) := rfl
theorem f105_36 : pm_fetch 105 36 = some (.aload_n 1, 1) := rfl
theorem f105_37 : pm_fetch 105 37 = some (.getfield 260, 3) := rfl
theorem f105_40 : pm_fetch 105 40 = some (.iload_n 3, 1) := rfl
theorem f105_41 : pm_fetch 105 41 = some (.iaload, 1) := rfl
theorem f105_42 : pm_fetch 105 42 = some (.aload_n 2, 1) := rfl
theorem f105_43 : pm_fetch 105 43 = some (.invokevirtual 202, 3) := rfl
theorem f105_46 : pm_fetch 105 46 = some (.if_icmp .eq 5, 3) := rfl
theorem f105_49 : pm_fetch 105 49 = some (.iload_n 3, 1) := rfl
theorem f105_50 : pm_fetch 105 50 = some (.ireturn, 1) := rfl
theorem f105_51 : pm_fetch 105 51 = some (.iinc 3 1, 3) := rfl
theorem f105_54 : pm_fetch 105 54 = some (.goto (-42), 3) := rfl
theorem f105_57 : pm_fetch 105 57 = some (.iconst (-1), 1) := rfl
theorem f105_58 : pm_fetch 105 58 = some (.ireturn, 1) := rfl
theorem f77_0 : pm_fetch 77 0 = some (.aload_n 0, 1) := rfl
theorem f77_1 : pm_fetch 77 1 = some (.iload_n 1, 1) := rfl
theorem f77_2 : pm_fetch 77 2 = some (.invokevirtual 215, 3) := rfl
theorem f77_5 : pm_fetch 77 5 = some (.astore_n 3, 1) := rfl
theorem f77_6 : pm_fetch 77 6 = some (.aload_n 0, 1) := rfl
theorem f77_7 : pm_fetch 77 7 = some (.aload_n 3, 1) := rfl
theorem f77_8 : pm_fetch 77 8 = some (.iload_n 2, 1) := rfl
theorem f77_9 : pm_fetch 77 9 = some (.invokevirtual 219, 3) := rfl
theorem f77_12 : pm_fetch 77 12 = some (.istore 4, 2) := rfl
theorem f77_14 : pm_fetch 77 14 = some (.iload 4, 2) := rfl
theorem f77_16 : pm_fetch 77 16 = some (.ifCond .eq 6, 3) := rfl
theorem f77_19 : pm_fetch 77 19 = some (.iload 4, 2) := rfl
theorem f77_21 : pm_fetch 77 21 = some (.ireturn, 1) := rfl
theorem f77_22 : pm_fetch 77 22 = some (.aload_n 0, 1) := rfl
theorem f77_23 : pm_fetch 77 23 = some (.getfield 49, 3) := rfl
theorem f77_26 : pm_fetch 77 26 = some (.aload_n 0, 1) := rfl
theorem f77_27 : pm_fetch 77 27 = some (.getfield 45, 3) := rfl
theorem f77_30 : pm_fetch 77 30 = some (.invokevirtual 186, 3) := rfl
theorem f77_33 : pm_fetch 77 33 = some (.aload_n 0, 1) := rfl
theorem f77_34 : pm_fetch 77 34 = some (.aload_n 3, 1) := rfl
theorem f77_35 : pm_fetch 77 35 = some (.aload_n 0, 1) := rfl
theorem f77_36 : pm_fetch 77 36 = some (.getfield 49, 3) := rfl
theorem f77_39 : pm_fetch 77 39 = some (.iload_n 2, 1) := rfl
theorem f77_40 : pm_fetch 77 40 = some (.invokevirtual 120, 3) := rfl
theorem f77_43 : pm_fetch 77 43 = some (.invokevirtual 223, 3) := rfl
theorem f77_46 : pm_fetch 77 46 = some (.ireturn, 1) := rfl
theorem f103_0 : pm_fetch 103 0 = some (.aload_n 0, 1) := rfl
theorem f103_1 : pm_fetch 103 1 = some (.getfield 49, 3) := rfl
theorem f103_4 : pm_fetch 103 4 = some (.aload_n 0, 1) := rfl
theorem f103_5 : pm_fetch 103 5 = some (.getfield 45, 3) := rfl
theorem f103_8 : pm_fetch 103 8 = some (.invokevirtual 186, 3) := rfl
theorem f103_11 : pm_fetch 103 11 = some (.aload_n 0, 1) := rfl
theorem f103_12 : pm_fetch 103 12 = some (.getfield 49, 3) := rfl
theorem f103_15 : pm_fetch 103 15 = some (.iload_n 2, 1) := rfl
theorem f103_16 : pm_fetch 103 16 = some (.invokevirtual 120, 3) := rfl
theorem f103_19 : pm_fetch 103 19 = some (.astore 5, 2) := rfl
theorem f103_21 : pm_fetch 103 21 = some (.aload 5, 2) := rfl
theorem f103_23 : pm_fetch 103 23 = some (.ifnonnull 5, 3) := rfl
theorem f103_26 : pm_fetch 103 26 = some (.iconst 0, 1) := rfl
theorem f103_27 : pm_fetch 103 27 = some (.ireturn, 1) := rfl
theorem f103_28 : pm_fetch 103 28 = some (.aload 5, 2) := rfl
theorem f103_30 : pm_fetch 103 30 = some (.iload_n 3, 1) := rfl
theorem f103_31 : pm_fetch 103 31 = some (.iload 4, 2) := rfl
theorem f103_33 : pm_fetch 103 33 = some (.invokevirtual 162, 3) := rfl
theorem f103_36 : pm_fetch 103 36 = some (.aload_n 0, 1) := rfl
theorem f103_37 : pm_fetch 103 37 = some (.aload_n 1, 1) := rfl
theorem f103_38 : pm_fetch 103 38 = some (.aload 5, 2) := rfl
theorem f103_40 : pm_fetch 103 40 = some (.invokevirtual 223, 3) := rfl
theorem f103_43 : pm_fetch 103 43 = some (.iconst (-1), 1) := rfl
theorem f103_44 : pm_fetch 103 44 = some (.if_icmp .ne 7, 3) := rfl
theorem f103_47 : pm_fetch 103 47 = some (.iconst 1, 1) := rfl
theorem f103_48 : pm_fetch 103 48 = some (.goto 4, 3) := rfl
theorem f103_51 : pm_fetch 103 51 = some (.iconst 0, 1) := rfl
theorem f103_52 : pm_fetch 103 52 = some (.ireturn, 1) := rfl
theorem f78_0 : pm_fetch 78 0 = some (.aload_n 0, 1) := rfl
theorem f78_1 : pm_fetch 78 1 = some (.iload_n 1, 1) := rfl
theorem f78_2 : pm_fetch 78 2 = some (.invokevirtual 215, 3) := rfl
theorem f78_5 : pm_fetch 78 5 = some (.astore 4, 2) := rfl
theorem f78_7 : pm_fetch 78 7 = some (.aload_n 0, 1) := rfl
theorem f78_8 : pm_fetch 78 8 = some (.aload 4, 2) := rfl
theorem f78_10 : pm_fetch 78 10 = some (.iload_n 2, 1) := rfl
theorem f78_11 : pm_fetch 78 11 = some (.invokevirtual 219, 3) := rfl
theorem f78_14 : pm_fetch 78 14 = some (.istore 5, 2) := rfl
theorem f78_16 : pm_fetch 78 16 = some (.iload 5, 2) := rfl
theorem f78_18 : pm_fetch 78 18 = some (.ifCond .eq 6, 3) := rfl
theorem f78_21 : pm_fetch 78 21 = some (.iload 5, 2) := rfl
theorem f78_23 : pm_fetch 78 23 = some (.ireturn, 1) := rfl
theorem f78_24 : pm_fetch 78 24 = some (.iload_n 3, 1) := rfl
theorem f78_25 : pm_fetch 78 25 = some (.iconst 0, 1) := rfl
theorem f78_26 : pm_fetch 78 26 = some (.iconst 1, 1) := rfl
theorem f78_27 : pm_fetch 78 27 = some (.invokestatic 90, 3) := rfl
theorem f78_30 : pm_fetch 78 30 = some (.ifCond .ne 6, 3) := rfl
theorem f78_33 : pm_fetch 78 33 = some (.bipush (-7), 2) := rfl
theorem f78_35 : pm_fetch 78 35 = some (.ireturn, 1) := rfl
theorem f78_36 : pm_fetch 78 36 = some (.iconst 0, 1) := rfl
theorem f78_37 : pm_fetch 78 37 = some (.istore 6, 2) := rfl
theorem f78_39 : pm_fetch 78 39 = some (.iconst 0, 1) := rfl
theorem f78_40 : pm_fetch 78 40 = some (.istore 7, 2) := rfl
theorem f78_42 : pm_fetch 78 42 = some (.iload 7, 2) := rfl
theorem f78_44 : pm_fetch 78 44 = some (.iload_n 3, 1) := rfl
theorem f78_45 : pm_fetch 78 45 = some (.ifCond .ne 8, 3) := rfl
theorem f78_48 : pm_fetch 78 48 = some (.bipush 6, 2) := rfl
theorem f78_50 : pm_fetch 78 50 = some (.goto 5, 3) := rfl
theorem f78_53 : pm_fetch 78 53 = some (.bipush 10, 2) := rfl
theorem f78_55 : pm_fetch 78 55 = some (.if_icmp .ge 39, 3) := rfl
theorem f78_58 : pm_fetch 78 58 = some (.aload_n 0, 1) := rfl
theorem f78_59 : pm_fetch 78 59 = some (.aload 4, 2) := rfl
theorem f78_61 : pm_fetch 78 61 = some (.iload_n 2, 1) := rfl
theorem f78_62 : pm_fetch 78 62 = some (.iload_n 3, 1) := rfl
theorem f78_63 : pm_fetch 78 63 = some (.ifCond .ne 7, 3) := rfl
theorem f78_66 : pm_fetch 78 66 = some (.iconst 3, 1) := rfl
theorem f78_67 : pm_fetch 78 67 = some (.goto 4, 3) := rfl
theorem f78_70 : pm_fetch 78 70 = some (.iconst 4, 1) := rfl
theorem f78_71 : pm_fetch 78 71 = some (.iload 7, 2) := rfl
theorem f78_73 : pm_fetch 78 73 = some (.invokevirtual 227, 3) := rfl
theorem f78_76 : pm_fetch 78 76 = some (.ifCond .eq 12, 3) := rfl
theorem f78_79 : pm_fetch 78 79 = some (.iload 6, 2) := rfl
theorem f78_81 : pm_fetch 78 81 = some (.iconst 1, 1) := rfl
theorem f78_82 : pm_fetch 78 82 = some (.iload 7, 2) := rfl
theorem f78_84 : pm_fetch 78 84 = some (.ishl, 1) := rfl
theorem f78_85 : pm_fetch 78 85 = some (.ior, 1) := rfl
theorem f78_86 : pm_fetch 78 86 = some (.istore 6, 2) := rfl
theorem f78_88 : pm_fetch 78 88 = some (.iinc 7 1, 3) := rfl
theorem f78_91 : pm_fetch 78 91 = some (.goto (-49), 3) := rfl
theorem f78_94 : pm_fetch 78 94 = some (.iload 6, 2) := rfl
theorem f78_96 : pm_fetch 78 96 = some (.ireturn, 1) := rfl
theorem f79_0 : pm_fetch 79 0 = some (.aload_n 0, 1) := rfl
theorem f79_1 : pm_fetch 79 1 = some (.iload_n 1, 1) := rfl
theorem f79_2 : pm_fetch 79 2 = some (.invokevirtual 215, 3) := rfl
theorem f79_5 : pm_fetch 79 5 = some (.astore 5, 2) := rfl
theorem f79_7 : pm_fetch 79 7 = some (.aload_n 0, 1) := rfl
theorem f79_8 : pm_fetch 79 8 = some (.aload 5, 2) := rfl
theorem f79_10 : pm_fetch 79 10 = some (.iload_n 2, 1) := rfl
theorem f79_11 : pm_fetch 79 11 = some (.invokevirtual 219, 3) := rfl
theorem f79_14 : pm_fetch 79 14 = some (.istore 6, 2) := rfl
theorem f79_16 : pm_fetch 79 16 = some (.iload 6, 2) := rfl
theorem f79_18 : pm_fetch 79 18 = some (.ifCond .eq 6, 3) := rfl
theorem f79_21 : pm_fetch 79 21 = some (.iload 6, 2) := rfl
theorem f79_23 : pm_fetch 79 23 = some (.ireturn, 1) := rfl
theorem f79_24 : pm_fetch 79 24 = some (.iload_n 3, 1) := rfl
theorem f79_25 : pm_fetch 79 25 = some (.iconst 0, 1) := rfl
theorem f79_26 : pm_fetch 79 26 = some (.iconst 2, 1) := rfl
theorem f79_27 : pm_fetch 79 27 = some (.invokestatic 90, 3) := rfl
theorem f79_30 : pm_fetch 79 30 = some (.ifCond .eq 13, 3) := rfl
theorem f79_33 : pm_fetch 79 33 = some (.iload 4, 2) := rfl
theorem f79_35 : pm_fetch 79 35 = some (.iconst 0, 1) := rfl
theorem f79_36 : pm_fetch 79 36 = some (.iconst 1, 1) := rfl
theorem f79_37 : pm_fetch 79 37 = some (.invokestatic 90, 3) := rfl
theorem f79_40 : pm_fetch 79 40 = some (.ifCond .ne 6, 3) := rfl
theorem f79_43 : pm_fetch 79 43 = some (.bipush (-7), 2) := rfl
theorem f79_45 : pm_fetch 79 45 = some (.ireturn, 1) := rfl
theorem f79_46 : pm_fetch 79 46 = some (.iconst 0, 1) := rfl
theorem f79_47 : pm_fetch 79 47 = some (.istore 7, 2) := rfl
theorem f79_49 : pm_fetch 79 49 = some (.iconst (-1), 1) := rfl
theorem f79_50 : pm_fetch 79 50 = some (.istore 8, 2) := rfl
theorem f79_52 : pm_fetch 79 52 = some (.iload_n 3, 1) := rfl
theorem f79_53 : pm_fetch 79 53 = some (.invokestatic 153, 3) := rfl
theorem f79_56 : pm_fetch 79 56 = some (.istore 9, 2) := rfl
theorem f79_58 : pm_fetch 79 58 = some (.iload 9, 2) := rfl
theorem f79_60 : pm_fetch 79 60 = some (.iload_n 3, 1) := rfl
theorem f79_61 : pm_fetch 79 61 = some (.invokestatic 156, 3) := rfl
theorem f79_64 : pm_fetch 79 64 = some (.if_icmp .gt 40, 3) := rfl
theorem f79_67 : pm_fetch 79 67 = some (.aload_n 0, 1) := rfl
theorem f79_68 : pm_fetch 79 68 = some (.aload 5, 2) := rfl
theorem f79_70 : pm_fetch 79 70 = some (.iload_n 2, 1) := rfl
theorem f79_71 : pm_fetch 79 71 = some (.iload_n 3, 1) := rfl
theorem f79_72 : pm_fetch 79 72 = some (.iload 9, 2) := rfl
theorem f79_74 : pm_fetch 79 74 = some (.invokevirtual 227, 3) := rfl
theorem f79_77 : pm_fetch 79 77 = some (.ifCond .eq 21, 3) := rfl
theorem f79_80 : pm_fetch 79 80 = some (.iinc 7 1, 3) := rfl
theorem f79_83 : pm_fetch 79 83 = some (.iload 8, 2) := rfl
theorem f79_85 : pm_fetch 79 85 = some (.iconst (-1), 1) := rfl
theorem f79_86 : pm_fetch 79 86 = some (.if_icmp .ne 8, 3) := rfl
theorem f79_89 : pm_fetch 79 89 = some (.iload 9, 2) := rfl
theorem f79_91 : pm_fetch 79 91 = some (.goto 5, 3) := rfl
theorem f79_94 : pm_fetch 79 94 = some (.iload 8, 2) := rfl
theorem f79_96 : pm_fetch 79 96 = some (.istore 8, 2) := rfl
theorem f79_98 : pm_fetch 79 98 = some (.iinc 9 1, 3) := rfl
theorem f79_101 : pm_fetch 79 101 = some (.goto (-43), 3) := rfl
theorem f79_104 : pm_fetch 79 104 = some (.iload 4, 2) := rfl
theorem f79_106 : pm_fetch 79 106 = some (.ifCond .ne 8, 3) := rfl
theorem f79_109 : pm_fetch 79 109 = some (.iload 7, 2) := rfl
theorem f79_111 : pm_fetch 79 111 = some (.goto 5, 3) := rfl
theorem f79_114 : pm_fetch 79 114 = some (.iload 8, 2) := rfl
theorem f79_116 : pm_fetch 79 116 = some (.ireturn, 1) := rfl
theorem f80_0 : pm_fetch 80 0 = some (.aload_n 0, 1) := rfl
theorem f80_1 : pm_fetch 80 1 = some (.iload_n 1, 1) := rfl
theorem f80_2 : pm_fetch 80 2 = some (.invokevirtual 215, 3) := rfl
theorem f80_5 : pm_fetch 80 5 = some (.astore_n 2, 1) := rfl
theorem f80_6 : pm_fetch 80 6 = some (.aload_n 2, 1) := rfl
theorem f80_7 : pm_fetch 80 7 = some (.invokestatic 231, 3) := rfl
theorem f80_10 : pm_fetch 80 10 = some (.istore_n 3, 1) := rfl
theorem f80_11 : pm_fetch 80 11 = some (.iload_n 3, 1) := rfl
theorem f80_12 : pm_fetch 80 12 = some (.ifCond .eq 5, 3) := rfl
theorem f80_15 : pm_fetch 80 15 = some (.iload_n 3, 1) := rfl
theorem f80_16 : pm_fetch 80 16 = some (.ireturn, 1) := rfl
theorem f80_17 : pm_fetch 80 17 = some (.iconst 0, 1) := rfl
theorem f80_18 : pm_fetch 80 18 = some (.istore 4, 2) := rfl
theorem f80_20 : pm_fetch 80 20 = some (.iconst 0, 1) := rfl
theorem f80_21 : pm_fetch 80 21 = some (.istore 5, 2) := rfl
theorem f80_23 : pm_fetch 80 23 = some (.iload 5, 2) := rfl
theorem f80_25 : pm_fetch 80 25 = some (.aload_n 0, 1) := rfl
theorem f80_26 : pm_fetch 80 26 = some (.getfield 45, 3) := rfl
theorem f80_29 : pm_fetch 80 29 = some (.getfield 52, 3) := rfl
theorem f80_32 : pm_fetch 80 32 = some (.if_icmp .ge 56, 3) := rfl
theorem f80_35 : pm_fetch 80 35 = some (.aload_n 0, 1) := rfl
theorem f80_36 : pm_fetch 80 36 = some (.getfield 49, 3) := rfl
theorem f80_39 : pm_fetch 80 39 = some (.aload_n 0, 1) := rfl
theorem f80_40 : pm_fetch 80 40 = some (.getfield 45, 3) := rfl
theorem f80_43 : pm_fetch 80 43 = some (.invokevirtual 186, 3) := rfl
theorem f80_46 : pm_fetch 80 46 = some (.aload_n 0, 1) := rfl
theorem f80_47 : pm_fetch 80 47 = some (.getfield 49, 3) := rfl
theorem f80_50 : pm_fetch 80 50 = some (.iload 5, 2) := rfl
theorem f80_52 : pm_fetch 80 52 = some (.invokevirtual 120, 3) := rfl
theorem f80_55 : pm_fetch 80 55 = some (.astore 6, 2) := rfl
theorem f80_57 : pm_fetch 80 57 = some (.aload 6, 2) := rfl
theorem f80_59 : pm_fetch 80 59 = some (.ifnull 23, 3) := rfl
theorem f80_62 : pm_fetch 80 62 = some (.aload_n 0, 1) := rfl
theorem f80_63 : pm_fetch 80 63 = some (.aload_n 2, 1) := rfl
theorem f80_64 : pm_fetch 80 64 = some (.aload 6, 2) := rfl
theorem f80_66 : pm_fetch 80 66 = some (.invokevirtual 223, 3) := rfl
theorem f80_69 : pm_fetch 80 69 = some (.iconst (-1), 1) := rfl
theorem f80_70 : pm_fetch 80 70 = some (.if_icmp .ne 12, 3) := rfl
theorem f80_73 : pm_fetch 80 73 = some (.iload 4, 2) := rfl
theorem f80_75 : pm_fetch 80 75 = some (.iconst 1, 1) := rfl
theorem f80_76 : pm_fetch 80 76 = some (.iload 5, 2) := rfl
theorem f80_78 : pm_fetch 80 78 = some (.ishl, 1) := rfl
theorem f80_79 : pm_fetch 80 79 = some (.ior, 1) := rfl
theorem f80_80 : pm_fetch 80 80 = some (.istore 4, 2) := rfl
theorem f80_82 : pm_fetch 80 82 = some (.iinc 5 1, 3) := rfl
theorem f80_85 : pm_fetch 80 85 = some (.goto (-62), 3) := rfl
theorem f80_88 : pm_fetch 80 88 = some (.iload 4, 2) := rfl
theorem f80_90 : pm_fetch 80 90 = some (.ireturn, 1) := rfl
theorem f104_0 : pm_fetch 104 0 = some (.aload_n 3, 1) := rfl
theorem f104_1 : pm_fetch 104 1 = some (.ifnonnull 5, 3) := rfl
theorem f104_4 : pm_fetch 104 4 = some (.iconst 0, 1) := rfl
theorem f104_5 : pm_fetch 104 5 = some (.ireturn, 1) := rfl
theorem f104_6 : pm_fetch 104 6 = some (.aload_n 0, 1) := rfl
theorem f104_7 : pm_fetch 104 7 = some (.getfield 49, 3) := rfl
theorem f104_10 : pm_fetch 104 10 = some (.aload_n 0, 1) := rfl
theorem f104_11 : pm_fetch 104 11 = some (.getfield 45, 3) := rfl
theorem f104_14 : pm_fetch 104 14 = some (.invokevirtual 186, 3) := rfl
theorem f104_17 : pm_fetch 104 17 = some (.aload_n 0, 1) := rfl
theorem f104_18 : pm_fetch 104 18 = some (.getfield 49, 3) := rfl
theorem f104_21 : pm_fetch 104 21 = some (.aload_n 3, 1) := rfl
theorem f104_22 : pm_fetch 104 22 = some (.putfield 80, 3) := rfl
theorem f104_25 : pm_fetch 104 25 = some (.aload_n 0, 1) := rfl
theorem f104_26 : pm_fetch 104 26 = some (.aload_n 1, 1) := rfl
theorem f104_27 : pm_fetch 104 27 = some (.aload_n 0, 1) := rfl
theorem f104_28 : pm_fetch 104 28 = some (.getfield 49, 3) := rfl
theorem f104_31 : pm_fetch 104 31 = some (.iload_n 2, 1) := rfl
theorem f104_32 : pm_fetch 104 32 = some (.invokevirtual 120, 3) := rfl
theorem f104_35 : pm_fetch 104 35 = some (.invokevirtual 223, 3) := rfl
theorem f104_38 : pm_fetch 104 38 = some (.iconst (-1), 1) := rfl
theorem f104_39 : pm_fetch 104 39 = some (.if_icmp .ne 7, 3) := rfl
theorem f104_42 : pm_fetch 104 42 = some (.iconst 1, 1) := rfl
theorem f104_43 : pm_fetch 104 43 = some (.goto 4, 3) := rfl
theorem f104_46 : pm_fetch 104 46 = some (.iconst 0, 1) := rfl
theorem f104_47 : pm_fetch 104 47 = some (.ireturn, 1) := rfl
theorem f81_0 : pm_fetch 81 0 = some (.aload_n 0, 1) := rfl
theorem f81_1 : pm_fetch 81 1 = some (.iload_n 1, 1) := rfl
theorem f81_2 : pm_fetch 81 2 = some (.invokevirtual 215, 3) := rfl
theorem f81_5 : pm_fetch 81 5 = some (.astore_n 3, 1) := rfl
theorem f81_6 : pm_fetch 81 6 = some (.aload_n 0, 1) := rfl
theorem f81_7 : pm_fetch 81 7 = some (.aload_n 3, 1) := rfl
theorem f81_8 : pm_fetch 81 8 = some (.iload_n 2, 1) := rfl
theorem f81_9 : pm_fetch 81 9 = some (.invokevirtual 219, 3) := rfl
theorem f81_12 : pm_fetch 81 12 = some (.istore 4, 2) := rfl
theorem f81_14 : pm_fetch 81 14 = some (.iload 4, 2) := rfl
theorem f81_16 : pm_fetch 81 16 = some (.ifCond .eq 6, 3) := rfl
theorem f81_19 : pm_fetch 81 19 = some (.iload 4, 2) := rfl
theorem f81_21 : pm_fetch 81 21 = some (.ireturn, 1) := rfl
theorem f81_22 : pm_fetch 81 22 = some (.iconst 0, 1) := rfl
theorem f81_23 : pm_fetch 81 23 = some (.istore 5, 2) := rfl
theorem f81_25 : pm_fetch 81 25 = some (.iconst 0, 1) := rfl
theorem f81_26 : pm_fetch 81 26 = some (.istore 6, 2) := rfl
theorem f81_28 : pm_fetch 81 28 = some (.iload 6, 2) := rfl
theorem f81_30 : pm_fetch 81 30 = some (.aload_n 0, 1) := rfl
theorem f81_31 : pm_fetch 81 31 = some (.getfield 36, 3) := rfl
theorem f81_34 : pm_fetch 81 34 = some (.if_icmp .ge 33, 3) := rfl
theorem f81_37 : pm_fetch 81 37 = some (.aload_n 0, 1) := rfl
theorem f81_38 : pm_fetch 81 38 = some (.aload_n 3, 1) := rfl
theorem f81_39 : pm_fetch 81 39 = some (.iload_n 2, 1) := rfl
theorem f81_40 : pm_fetch 81 40 = some (.aload_n 0, 1) := rfl
theorem f81_41 : pm_fetch 81 41 = some (.iload 6, 2) := rfl
theorem f81_43 : pm_fetch 81 43 = some (.invokevirtual 117, 3) := rfl
theorem f81_46 : pm_fetch 81 46 = some (.invokevirtual 235, 3) := rfl
theorem f81_49 : pm_fetch 81 49 = some (.ifCond .eq 12, 3) := rfl
theorem f81_52 : pm_fetch 81 52 = some (.iload 5, 2) := rfl
theorem f81_54 : pm_fetch 81 54 = some (.iconst 1, 1) := rfl
theorem f81_55 : pm_fetch 81 55 = some (.iload 6, 2) := rfl
theorem f81_57 : pm_fetch 81 57 = some (.ishl, 1) := rfl
theorem f81_58 : pm_fetch 81 58 = some (.ior, 1) := rfl
theorem f81_59 : pm_fetch 81 59 = some (.istore 5, 2) := rfl
theorem f81_61 : pm_fetch 81 61 = some (.iinc 6 1, 3) := rfl
theorem f81_64 : pm_fetch 81 64 = some (.goto (-36), 3) := rfl
theorem f81_67 : pm_fetch 81 67 = some (.iload 5, 2) := rfl
theorem f81_69 : pm_fetch 81 69 = some (.ireturn, 1) := rfl
theorem f82_0 : pm_fetch 82 0 = some (.aload_n 0, 1) := rfl
theorem f82_1 : pm_fetch 82 1 = some (.iload_n 1, 1) := rfl
theorem f82_2 : pm_fetch 82 2 = some (.invokevirtual 215, 3) := rfl
theorem f82_5 : pm_fetch 82 5 = some (.astore 4, 2) := rfl
theorem f82_7 : pm_fetch 82 7 = some (.aload 4, 2) := rfl
theorem f82_9 : pm_fetch 82 9 = some (.ifnonnull 6, 3) := rfl
theorem f82_12 : pm_fetch 82 12 = some (.bipush (-2), 2) := rfl
theorem f82_14 : pm_fetch 82 14 = some (.ireturn, 1) := rfl
theorem f82_15 : pm_fetch 82 15 = some (.aload_n 0, 1) := rfl
theorem f82_16 : pm_fetch 82 16 = some (.getfield 45, 3) := rfl
theorem f82_19 : pm_fetch 82 19 = some (.iload_n 2, 1) := rfl
theorem f82_20 : pm_fetch 82 20 = some (.invokevirtual 120, 3) := rfl
theorem f82_23 : pm_fetch 82 23 = some (.ifnonnull 6, 3) := rfl
theorem f82_26 : pm_fetch 82 26 = some (.bipush (-5), 2) := rfl
theorem f82_28 : pm_fetch 82 28 = some (.ireturn, 1) := rfl
theorem f82_29 : pm_fetch 82 29 = some (.iload_n 3, 1) := rfl
theorem f82_30 : pm_fetch 82 30 = some (.iconst 0, 1) := rfl
theorem f82_31 : pm_fetch 82 31 = some (.bipush 20, 2) := rfl
theorem f82_33 : pm_fetch 82 33 = some (.invokestatic 90, 3) := rfl
theorem f82_36 : pm_fetch 82 36 = some (.ifCond .ne 6, 3) := rfl
theorem f82_39 : pm_fetch 82 39 = some (.bipush (-7), 2) := rfl
theorem f82_41 : pm_fetch 82 41 = some (.ireturn, 1) := rfl
theorem f82_42 : pm_fetch 82 42 = some (.aload 4, 2) := rfl
theorem f82_44 : pm_fetch 82 44 = some (.iconst 0, 1) := rfl
theorem f82_45 : pm_fetch 82 45 = some (.iload_n 3, 1) := rfl
theorem f82_46 : pm_fetch 82 46 = some (.invokevirtual 239, 3) := rfl
theorem f82_49 : pm_fetch 82 49 = some (.aload_n 0, 1) := rfl
theorem f82_50 : pm_fetch 82 50 = some (.getfield 49, 3) := rfl
theorem f82_53 : pm_fetch 82 53 = some (.aload_n 0, 1) := rfl
theorem f82_54 : pm_fetch 82 54 = some (.getfield 45, 3) := rfl
theorem f82_57 : pm_fetch 82 57 = some (.invokevirtual 186, 3) := rfl
theorem f82_60 : pm_fetch 82 60 = some (.aload_n 0, 1) := rfl
theorem f82_61 : pm_fetch 82 61 = some (.getfield 49, 3) := rfl
theorem f82_64 : pm_fetch 82 64 = some (.iload_n 2, 1) := rfl
theorem f82_65 : pm_fetch 82 65 = some (.invokevirtual 120, 3) := rfl
theorem f82_68 : pm_fetch 82 68 = some (.astore 5, 2) := rfl
theorem f82_70 : pm_fetch 82 70 = some (.iconst 0, 1) := rfl
theorem f82_71 : pm_fetch 82 71 = some (.istore 6, 2) := rfl
theorem f82_73 : pm_fetch 82 73 = some (.iload 6, 2) := rfl
theorem f82_75 : pm_fetch 82 75 = some (.iload_n 3, 1) := rfl
theorem f82_76 : pm_fetch 82 76 = some (.if_icmp .ge 33, 3) := rfl
theorem f82_79 : pm_fetch 82 79 = some (.aload 5, 2) := rfl
theorem f82_81 : pm_fetch 82 81 = some (.ifnull 28, 3) := rfl
theorem f82_84 : pm_fetch 82 84 = some (.aload_n 0, 1) := rfl
theorem f82_85 : pm_fetch 82 85 = some (.getfield 49, 3) := rfl
theorem f82_88 : pm_fetch 82 88 = some (.invokevirtual 183, 3) := rfl
theorem f82_91 : pm_fetch 82 91 = some (.aload 4, 2) := rfl
theorem f82_93 : pm_fetch 82 93 = some (.iload 6, 2) := rfl
theorem f82_95 : pm_fetch 82 95 = some (.aload 5, 2) := rfl
theorem f82_97 : pm_fetch 82 97 = some (.invokevirtual 202, 3) := rfl
theorem f82_100 : pm_fetch 82 100 = some (.invokevirtual 242, 3) := rfl
theorem f82_103 : pm_fetch 82 103 = some (.iinc 6 1, 3) := rfl
theorem f82_106 : pm_fetch 82 106 = some (.goto (-33), 3) := rfl
theorem f82_109 : pm_fetch 82 109 = some (.iload_n 3, 1) := rfl
theorem f82_110 : pm_fetch 82 110 = some (.ireturn, 1) := rfl
theorem f106_0 : pm_fetch 106 0 = some (.aload_n 0, 1) := rfl
theorem f106_1 : pm_fetch 106 1 = some (.getfield 49, 3) := rfl
theorem f106_4 : pm_fetch 106 4 = some (.aload_n 0, 1) := rfl
theorem f106_5 : pm_fetch 106 5 = some (.getfield 45, 3) := rfl
theorem f106_8 : pm_fetch 106 8 = some (.invokevirtual 186, 3) := rfl
theorem f106_11 : pm_fetch 106 11 = some (.iconst 0, 1) := rfl
theorem f106_12 : pm_fetch 106 12 = some (.istore_n 2, 1) := rfl
theorem f106_13 : pm_fetch 106 13 = some (.iload_n 1, 1) := rfl
theorem f106_14 : pm_fetch 106 14 = some (.i2l, 1) := rfl
theorem f106_15 : pm_fetch 106 15 = some (.lconst 1, 1) := rfl
theorem f106_16 : pm_fetch 106 16 = some (.ladd, 1) := rfl
theorem f106_17 : pm_fetch 106 17 = some (.lstore_n 3, 1) := rfl
theorem f106_18 : pm_fetch 106 18 = some (.iconst 0, 1) := rfl
theorem f106_19 : pm_fetch 106 19 = some (.istore 5, 2) := rfl
theorem f106_21 : pm_fetch 106 21 = some (.iload 5, 2) := rfl
theorem f106_23 : pm_fetch 106 23 = some (.bipush 6, 2) := rfl
theorem f106_25 : pm_fetch 106 25 = some (.if_icmp .ge 68, 3) := rfl
theorem f106_28 : pm_fetch 106 28 = some (.lload_n 3, 1) := rfl
theorem f106_29 : pm_fetch 106 29 = some (.ldc2_w 282, 3) := rfl
theorem f106_32 : pm_fetch 106 32 = some (.lmul, 1) := rfl
theorem f106_33 : pm_fetch 106 33 = some (.ldc2_w 284, 3) := rfl
theorem f106_36 : pm_fetch 106 36 = some (.lrem, 1) := rfl
theorem f106_37 : pm_fetch 106 37 = some (.lstore_n 3, 1) := rfl
theorem f106_38 : pm_fetch 106 38 = some (.aload_n 0, 1) := rfl
theorem f106_39 : pm_fetch 106 39 = some (.getfield 49, 3) := rfl
theorem f106_42 : pm_fetch 106 42 = some (.lload_n 3, 1) := rfl
theorem f106_43 : pm_fetch 106 43 = some (.ldc2_w 286, 3) := rfl
theorem f106_46 : pm_fetch 106 46 = some (.lrem, 1) := rfl
theorem f106_47 : pm_fetch 106 47 = some (.l2i, 1) := rfl
theorem f106_48 : pm_fetch 106 48 = some (.invokevirtual 120, 3) := rfl
theorem f106_51 : pm_fetch 106 51 = some (.astore 6, 2) := rfl
theorem f106_53 : pm_fetch 106 53 = some (.lload_n 3, 1) := rfl
theorem f106_54 : pm_fetch 106 54 = some (.ldc2_w 282, 3) := rfl
theorem f106_57 : pm_fetch 106 57 = some (.lmul, 1) := rfl
theorem f106_58 : pm_fetch 106 58 = some (.ldc2_w 284, 3) := rfl
theorem f106_61 : pm_fetch 106 61 = some (.lrem, 1) := rfl
theorem f106_62 : pm_fetch 106 62 = some (.lstore_n 3, 1) := rfl
theorem f106_63 : pm_fetch 106 63 = some (.aload 6, 2) := rfl
theorem f106_65 : pm_fetch 106 65 = some (.ifnull 14, 3) := rfl
theorem f106_68 : pm_fetch 106 68 = some (.aload 6, 2) := rfl
theorem f106_70 : pm_fetch 106 70 = some (.lload_n 3, 1) := rfl
theorem f106_71 : pm_fetch 106 71 = some (.ldc2_w 288, 3) := rfl
theorem f106_74 : pm_fetch 106 74 = some (.lrem, 1) := rfl
theorem f106_75 : pm_fetch 106 75 = some (.l2i, 1) := rfl
theorem f106_76 : pm_fetch 106 76 = some (.invokevirtual 290, 3) := rfl
theorem f106_79 : pm_fetch 106 79 = some (.iload_n 2, 1) := rfl
theorem f106_80 : pm_fetch 106 80 = some (.aload_n 0, 1) := rfl
theorem f106_81 : pm_fetch 106 81 = some (.iconst 1, 1) := rfl
theorem f106_82 : pm_fetch 106 82 = some (.invokevirtual 190, 3) := rfl
theorem f106_85 : pm_fetch 106 85 = some (.iadd, 1) := rfl
theorem f106_86 : pm_fetch 106 86 = some (.istore_n 2, 1) := rfl
theorem f106_87 : pm_fetch 106 87 = some (.iinc 5 1, 3) := rfl
theorem f106_90 : pm_fetch 106 90 = some (.goto (-69), 3) := rfl
theorem f106_93 : pm_fetch 106 93 = some (.iload_n 2, 1) := rfl
theorem f106_94 : pm_fetch 106 94 = some (.ireturn, 1) := rfl
theorem f83_0 : pm_fetch 83 0 = some (.iload_n 1, 1) := rfl
theorem f83_1 : pm_fetch 83 1 = some (.iconst 0, 1) := rfl
theorem f83_2 : pm_fetch 83 2 = some (.ldc 245, 2) := rfl
theorem f83_4 : pm_fetch 83 4 = some (.invokestatic 90, 3) := rfl
theorem f83_7 : pm_fetch 83 7 = some (.ifCond .eq 12, 3) := rfl
theorem f83_10 : pm_fetch 83 10 = some (.iload_n 2, 1) := rfl
theorem f83_11 : pm_fetch 83 11 = some (.iconst 0, 1) := rfl
theorem f83_12 : pm_fetch 83 12 = some (.iconst 1, 1) := rfl
theorem f83_13 : pm_fetch 83 13 = some (.invokestatic 90, 3) := rfl
theorem f83_16 : pm_fetch 83 16 = some (.ifCond .ne 6, 3) := rfl
theorem f83_19 : pm_fetch 83 19 = some (.bipush (-2), 2) := rfl
theorem f83_21 : pm_fetch 83 21 = some (.ireturn, 1) := rfl
theorem f83_22 : pm_fetch 83 22 = some (.aload_n 0, 1) := rfl
theorem f83_23 : pm_fetch 83 23 = some (.iload_n 1, 1) := rfl
theorem f83_24 : pm_fetch 83 24 = some (.invokevirtual 246, 3) := rfl
theorem f83_27 : pm_fetch 83 27 = some (.istore_n 3, 1) := rfl
theorem f83_28 : pm_fetch 83 28 = some (.iload_n 2, 1) := rfl
theorem f83_29 : pm_fetch 83 29 = some (.ifCond .ne 7, 3) := rfl
theorem f83_32 : pm_fetch 83 32 = some (.iload_n 3, 1) := rfl
theorem f83_33 : pm_fetch 83 33 = some (.goto 10, 3) := rfl
theorem f83_36 : pm_fetch 83 36 = some (.aload_n 0, 1) := rfl
theorem f83_37 : pm_fetch 83 37 = some (.getfield 49, 3) := rfl
theorem f83_40 : pm_fetch 83 40 = some (.invokevirtual 55, 3) := rfl
theorem f83_43 : pm_fetch 83 43 = some (.ireturn, 1) := rfl
theorem f84_0 : pm_fetch 84 0 = some (.iload_n 1, 1) := rfl
theorem f84_1 : pm_fetch 84 1 = some (.iconst 0, 1) := rfl
theorem f84_2 : pm_fetch 84 2 = some (.ldc 245, 2) := rfl
theorem f84_4 : pm_fetch 84 4 = some (.invokestatic 90, 3) := rfl
theorem f84_7 : pm_fetch 84 7 = some (.ifCond .eq 17, 3) := rfl
theorem f84_10 : pm_fetch 84 10 = some (.iload_n 2, 1) := rfl
theorem f84_11 : pm_fetch 84 11 = some (.iconst 1, 1) := rfl
theorem f84_12 : pm_fetch 84 12 = some (.bipush 40, 2) := rfl
theorem f84_14 : pm_fetch 84 14 = some (.invokestatic 90, 3) := rfl
theorem f84_17 : pm_fetch 84 17 = some (.ifCond .eq 7, 3) := rfl
theorem f84_20 : pm_fetch 84 20 = some (.iconst 1, 1) := rfl
theorem f84_21 : pm_fetch 84 21 = some (.goto 4, 3) := rfl
theorem f84_24 : pm_fetch 84 24 = some (.iconst 0, 1) := rfl
theorem f84_25 : pm_fetch 84 25 = some (.istore 5, 2) := rfl
theorem f84_27 : pm_fetch 84 27 = some (.iload 5, 2) := rfl
theorem f84_29 : pm_fetch 84 29 = some (.ifCond .eq 24, 3) := rfl
theorem f84_32 : pm_fetch 84 32 = some (.iload_n 3, 1) := rfl
theorem f84_33 : pm_fetch 84 33 = some (.iconst 0, 1) := rfl
theorem f84_34 : pm_fetch 84 34 = some (.sipush 999, 3) := rfl
theorem f84_37 : pm_fetch 84 37 = some (.invokestatic 90, 3) := rfl
theorem f84_40 : pm_fetch 84 40 = some (.ifCond .eq 13, 3) := rfl
theorem f84_43 : pm_fetch 84 43 = some (.iload 4, 2) := rfl
theorem f84_45 : pm_fetch 84 45 = some (.iconst 0, 1) := rfl
theorem f84_46 : pm_fetch 84 46 = some (.iconst 1, 1) := rfl
theorem f84_47 : pm_fetch 84 47 = some (.invokestatic 90, 3) := rfl
theorem f84_50 : pm_fetch 84 50 = some (.ifCond .ne 7, 3) := rfl
theorem f84_53 : pm_fetch 84 53 = some (.ldc2_w 100, 3) := rfl
theorem f84_56 : pm_fetch 84 56 = some (.lreturn, 1) := rfl
theorem f84_57 : pm_fetch 84 57 = some (.iconst 0, 1) := rfl
theorem f84_58 : pm_fetch 84 58 = some (.istore 6, 2) := rfl
theorem f84_60 : pm_fetch 84 60 = some (.iconst 0, 1) := rfl
theorem f84_61 : pm_fetch 84 61 = some (.istore 7, 2) := rfl
theorem f84_63 : pm_fetch 84 63 = some (.iload 7, 2) := rfl
theorem f84_65 : pm_fetch 84 65 = some (.iload_n 2, 1) := rfl
theorem f84_66 : pm_fetch 84 66 = some (.if_icmp .ge 24, 3) := rfl
theorem f84_69 : pm_fetch 84 69 = some (.aload_n 0, 1) := rfl
theorem f84_70 : pm_fetch 84 70 = some (.iload_n 1, 1) := rfl
theorem f84_71 : pm_fetch 84 71 = some (.iload 7, 2) := rfl
theorem f84_73 : pm_fetch 84 73 = some (.iadd, 1) := rfl
theorem f84_74 : pm_fetch 84 74 = some (.invokevirtual 246, 3) := rfl
theorem f84_77 : pm_fetch 84 77 = some (.iload_n 3, 1) := rfl
theorem f84_78 : pm_fetch 84 78 = some (.if_icmp .lt 6, 3) := rfl
theorem f84_81 : pm_fetch 84 81 = some (.iinc 6 1, 3) := rfl
theorem f84_84 : pm_fetch 84 84 = some (.iinc 7 1, 3) := rfl
theorem f84_87 : pm_fetch 84 87 = some (.goto (-24), 3) := rfl
theorem f84_90 : pm_fetch 84 90 = some (.iload 6, 2) := rfl
theorem f84_92 : pm_fetch 84 92 = some (.iload_n 2, 1) := rfl
theorem f84_93 : pm_fetch 84 93 = some (.iload 4, 2) := rfl
theorem f84_95 : pm_fetch 84 95 = some (.invokestatic 211, 3) := rfl
theorem f84_98 : pm_fetch 84 98 = some (.lreturn, 1) := rfl
theorem f85_0 : pm_fetch 85 0 = some (.aload_n 0, 1) := rfl
theorem f85_1 : pm_fetch 85 1 = some (.getfield 249, 3) := rfl
theorem f85_4 : pm_fetch 85 4 = some (.ifnonnull 21, 3) := rfl
theorem f85_7 : pm_fetch 85 7 = some (.aload_n 0, 1) := rfl
theorem f85_8 : pm_fetch 85 8 = some (.new 40, 3) := rfl
theorem f85_11 : pm_fetch 85 11 = some (.dup, 1) := rfl
theorem f85_12 : pm_fetch 85 12 = some (.aload_n 0, 1) := rfl
theorem f85_13 : pm_fetch 85 13 = some (.getfield 45, 3) := rfl
theorem f85_16 : pm_fetch 85 16 = some (.getfield 80, 3) := rfl
theorem f85_19 : pm_fetch 85 19 = some (.invokespecial 42, 3) := rfl
theorem f85_22 : pm_fetch 85 22 = some (.putfield 249, 3) := rfl
theorem f85_25 : pm_fetch 85 25 = some (.aload_n 0, 1) := rfl
theorem f85_26 : pm_fetch 85 26 = some (.getfield 249, 3) := rfl
theorem f85_29 : pm_fetch 85 29 = some (.aload_n 0, 1) := rfl
theorem f85_30 : pm_fetch 85 30 = some (.getfield 45, 3) := rfl
theorem f85_33 : pm_fetch 85 33 = some (.invokevirtual 186, 3) := rfl
theorem f85_36 : pm_fetch 85 36 = some (.aload_n 0, 1) := rfl
theorem f85_37 : pm_fetch 85 37 = some (.getfield 249, 3) := rfl
theorem f85_40 : pm_fetch 85 40 = some (.getfield 52, 3) := rfl
theorem f85_43 : pm_fetch 85 43 = some (.ireturn, 1) := rfl
theorem f86_0 : pm_fetch 86 0 = some (.aload_n 0, 1) := rfl
theorem f86_1 : pm_fetch 86 1 = some (.getfield 249, 3) := rfl
theorem f86_4 : pm_fetch 86 4 = some (.ifnonnull 6, 3) := rfl
theorem f86_7 : pm_fetch 86 7 = some (.bipush (-3), 2) := rfl
theorem f86_9 : pm_fetch 86 9 = some (.ireturn, 1) := rfl
theorem f86_10 : pm_fetch 86 10 = some (.aload_n 0, 1) := rfl
theorem f86_11 : pm_fetch 86 11 = some (.getfield 45, 3) := rfl
theorem f86_14 : pm_fetch 86 14 = some (.aload_n 0, 1) := rfl
theorem f86_15 : pm_fetch 86 15 = some (.getfield 249, 3) := rfl
theorem f86_18 : pm_fetch 86 18 = some (.invokevirtual 186, 3) := rfl
theorem f86_21 : pm_fetch 86 21 = some (.aload_n 0, 1) := rfl
theorem f86_22 : pm_fetch 86 22 = some (.getfield 45, 3) := rfl
theorem f86_25 : pm_fetch 86 25 = some (.getfield 52, 3) := rfl
theorem f86_28 : pm_fetch 86 28 = some (.ireturn, 1) := rfl
theorem f87_0 : pm_fetch 87 0 = some (.aload_n 0, 1) := rfl
theorem f87_1 : pm_fetch 87 1 = some (.iload_n 1, 1) := rfl
theorem f87_2 : pm_fetch 87 2 = some (.invokevirtual 215, 3) := rfl
theorem f87_5 : pm_fetch 87 5 = some (.astore 4, 2) := rfl
theorem f87_7 : pm_fetch 87 7 = some (.aload 4, 2) := rfl
theorem f87_9 : pm_fetch 87 9 = some (.ifnull 12, 3) := rfl
theorem f87_12 : pm_fetch 87 12 = some (.iload_n 2, 1) := rfl
theorem f87_13 : pm_fetch 87 13 = some (.iconst (-1), 1) := rfl
theorem f87_14 : pm_fetch 87 14 = some (.iconst 2, 1) := rfl
theorem f87_15 : pm_fetch 87 15 = some (.invokestatic 90, 3) := rfl
theorem f87_18 : pm_fetch 87 18 = some (.ifCond .ne 6, 3) := rfl
theorem f87_21 : pm_fetch 87 21 = some (.bipush (-2), 2) := rfl
theorem f87_23 : pm_fetch 87 23 = some (.ireturn, 1) := rfl
theorem f87_24 : pm_fetch 87 24 = some (.iload_n 2, 1) := rfl
theorem f87_25 : pm_fetch 87 25 = some (.iconst (-1), 1) := rfl
theorem f87_26 : pm_fetch 87 26 = some (.if_icmp .ne 12, 3) := rfl
theorem f87_29 : pm_fetch 87 29 = some (.aload 4, 2) := rfl
theorem f87_31 : pm_fetch 87 31 = some (.iconst (-1), 1) := rfl
theorem f87_32 : pm_fetch 87 32 = some (.iconst 0, 1) := rfl
theorem f87_33 : pm_fetch 87 33 = some (.invokevirtual 239, 3) := rfl
theorem f87_36 : pm_fetch 87 36 = some (.iconst 1, 1) := rfl
theorem f87_37 : pm_fetch 87 37 = some (.ireturn, 1) := rfl
theorem f87_38 : pm_fetch 87 38 = some (.iload_n 3, 1) := rfl
theorem f87_39 : pm_fetch 87 39 = some (.bipush 40, 2) := rfl
theorem f87_41 : pm_fetch 87 41 = some (.if_icmp .le 6, 3) := rfl
theorem f87_44 : pm_fetch 87 44 = some (.bipush (-2), 2) := rfl
theorem f87_46 : pm_fetch 87 46 = some (.ireturn, 1) := rfl
theorem f87_47 : pm_fetch 87 47 = some (.iload_n 3, 1) := rfl
theorem f87_48 : pm_fetch 87 48 = some (.ifCond .ge 6, 3) := rfl
theorem f87_51 : pm_fetch 87 51 = some (.bipush (-14), 2) := rfl
theorem f87_53 : pm_fetch 87 53 = some (.ireturn, 1) := rfl
theorem f87_54 : pm_fetch 87 54 = some (.aload 4, 2) := rfl
theorem f87_56 : pm_fetch 87 56 = some (.iload_n 2, 1) := rfl
theorem f87_57 : pm_fetch 87 57 = some (.iload_n 3, 1) := rfl
theorem f87_58 : pm_fetch 87 58 = some (.invokevirtual 239, 3) := rfl
theorem f87_61 : pm_fetch 87 61 = some (.iconst 1, 1) := rfl
theorem f87_62 : pm_fetch 87 62 = some (.ireturn, 1) := rfl
theorem f88_0 : pm_fetch 88 0 = some (.aload_n 0, 1) := rfl
theorem f88_1 : pm_fetch 88 1 = some (.iload_n 1, 1) := rfl
theorem f88_2 : pm_fetch 88 2 = some (.invokevirtual 215, 3) := rfl
theorem f88_5 : pm_fetch 88 5 = some (.astore 4, 2) := rfl
theorem f88_7 : pm_fetch 88 7 = some (.aload 4, 2) := rfl
theorem f88_9 : pm_fetch 88 9 = some (.ifnonnull 6, 3) := rfl
theorem f88_12 : pm_fetch 88 12 = some (.bipush (-2), 2) := rfl
theorem f88_14 : pm_fetch 88 14 = some (.ireturn, 1) := rfl
theorem f88_15 : pm_fetch 88 15 = some (.aload 4, 2) := rfl
theorem f88_17 : pm_fetch 88 17 = some (.getfield 252, 3) := rfl
theorem f88_20 : pm_fetch 88 20 = some (.iconst (-1), 1) := rfl
theorem f88_21 : pm_fetch 88 21 = some (.if_icmp .ne 6, 3) := rfl
theorem f88_24 : pm_fetch 88 24 = some (.bipush (-11), 2) := rfl
theorem f88_26 : pm_fetch 88 26 = some (.ireturn, 1) := rfl
theorem f88_27 : pm_fetch 88 27 = some (.iload_n 2, 1) := rfl
theorem f88_28 : pm_fetch 88 28 = some (.iconst 0, 1) := rfl
theorem f88_29 : pm_fetch 88 29 = some (.aload 4, 2) := rfl
theorem f88_31 : pm_fetch 88 31 = some (.getfield 255, 3) := rfl
theorem f88_34 : pm_fetch 88 34 = some (.iconst 1, 1) := rfl
theorem f88_35 : pm_fetch 88 35 = some (.isub, 1) := rfl
theorem f88_36 : pm_fetch 88 36 = some (.invokestatic 90, 3) := rfl
theorem f88_39 : pm_fetch 88 39 = some (.ifCond .ne 6, 3) := rfl
theorem f88_42 : pm_fetch 88 42 = some (.bipush (-12), 2) := rfl
theorem f88_44 : pm_fetch 88 44 = some (.ireturn, 1) := rfl
theorem f88_45 : pm_fetch 88 45 = some (.aload 4, 2) := rfl
theorem f88_47 : pm_fetch 88 47 = some (.iload_n 2, 1) := rfl
theorem f88_48 : pm_fetch 88 48 = some (.iload_n 3, 1) := rfl
theorem f88_49 : pm_fetch 88 49 = some (.invokevirtual 242, 3) := rfl
theorem f88_52 : pm_fetch 88 52 = some (.iconst 1, 1) := rfl
theorem f88_53 : pm_fetch 88 53 = some (.ireturn, 1) := rfl
theorem f89_0 : pm_fetch 89 0 = some (.aload_n 0, 1) := rfl
theorem f89_1 : pm_fetch 89 1 = some (.iload_n 1, 1) := rfl
theorem f89_2 : pm_fetch 89 2 = some (.invokevirtual 215, 3) := rfl
theorem f89_5 : pm_fetch 89 5 = some (.astore 6, 2) := rfl
theorem f89_7 : pm_fetch 89 7 = some (.aload_n 0, 1) := rfl
theorem f89_8 : pm_fetch 89 8 = some (.iload_n 3, 1) := rfl
theorem f89_9 : pm_fetch 89 9 = some (.invokevirtual 215, 3) := rfl
theorem f89_12 : pm_fetch 89 12 = some (.astore 7, 2) := rfl
theorem f89_14 : pm_fetch 89 14 = some (.aload 6, 2) := rfl
theorem f89_16 : pm_fetch 89 16 = some (.ifnull 8, 3) := rfl
theorem f89_19 : pm_fetch 89 19 = some (.aload 7, 2) := rfl
theorem f89_21 : pm_fetch 89 21 = some (.ifnonnull 6, 3) := rfl
theorem f89_24 : pm_fetch 89 24 = some (.bipush (-2), 2) := rfl
theorem f89_26 : pm_fetch 89 26 = some (.ireturn, 1) := rfl
theorem f89_27 : pm_fetch 89 27 = some (.aload 6, 2) := rfl
theorem f89_29 : pm_fetch 89 29 = some (.getfield 252, 3) := rfl
theorem f89_32 : pm_fetch 89 32 = some (.iconst (-1), 1) := rfl
theorem f89_33 : pm_fetch 89 33 = some (.if_icmp .eq 12, 3) := rfl
theorem f89_36 : pm_fetch 89 36 = some (.aload 7, 2) := rfl
theorem f89_38 : pm_fetch 89 38 = some (.getfield 252, 3) := rfl
theorem f89_41 : pm_fetch 89 41 = some (.iconst (-1), 1) := rfl
theorem f89_42 : pm_fetch 89 42 = some (.if_icmp .ne 6, 3) := rfl
theorem f89_45 : pm_fetch 89 45 = some (.bipush (-11), 2) := rfl
theorem f89_47 : pm_fetch 89 47 = some (.ireturn, 1) := rfl
theorem f89_48 : pm_fetch 89 48 = some (.aload 6, 2) := rfl
theorem f89_50 : pm_fetch 89 50 = some (.getfield 252, 3) := rfl
theorem f89_53 : pm_fetch 89 53 = some (.aload 7, 2) := rfl
theorem f89_55 : pm_fetch 89 55 = some (.getfield 252, 3) := rfl
theorem f89_58 : pm_fetch 89 58 = some (.if_icmp .eq 6, 3) := rfl
theorem f89_61 : pm_fetch 89 61 = some (.bipush (-13), 2) := rfl
theorem f89_63 : pm_fetch 89 63 = some (.ireturn, 1) := rfl
theorem f89_64 : pm_fetch 89 64 = some (.aload 6, 2) := rfl
theorem f89_66 : pm_fetch 89 66 = some (.iload_n 2, 1) := rfl
theorem f89_67 : pm_fetch 89 67 = some (.iload 5, 2) := rfl
theorem f89_69 : pm_fetch 89 69 = some (.invokevirtual 256, 3) := rfl
theorem f89_72 : pm_fetch 89 72 = some (.ifCond .eq 15, 3) := rfl
theorem f89_75 : pm_fetch 89 75 = some (.aload 7, 2) := rfl
theorem f89_77 : pm_fetch 89 77 = some (.iload 4, 2) := rfl
theorem f89_79 : pm_fetch 89 79 = some (.iload 5, 2) := rfl
theorem f89_81 : pm_fetch 89 81 = some (.invokevirtual 256, 3) := rfl
theorem f89_84 : pm_fetch 89 84 = some (.ifCond .ne 6, 3) := rfl
theorem f89_87 : pm_fetch 89 87 = some (.bipush (-12), 2) := rfl
theorem f89_89 : pm_fetch 89 89 = some (.ireturn, 1) := rfl
theorem f89_90 : pm_fetch 89 90 = some (.aload 6, 2) := rfl
theorem f89_92 : pm_fetch 89 92 = some (.getfield 260, 3) := rfl
theorem f89_95 : pm_fetch 89 95 = some (.iload_n 2, 1) := rfl
theorem f89_96 : pm_fetch 89 96 = some (.aload 7, 2) := rfl
theorem f89_98 : pm_fetch 89 98 = some (.getfield 260, 3) := rfl
theorem f89_101 : pm_fetch 89 101 = some (.iload 4, 2) := rfl
theorem f89_103 : pm_fetch 89 103 = some (.iload 5, 2) := rfl
theorem f89_105 : pm_fetch 89 105 = some (.invokestatic 263, 3) := rfl
theorem f89_108 : pm_fetch 89 108 = some (.iload 5, 2) := rfl
theorem f89_110 : pm_fetch 89 110 = some (.ireturn, 1) := rfl
theorem f90_0 : pm_fetch 90 0 = some (.aload_n 0, 1) := rfl
theorem f90_1 : pm_fetch 90 1 = some (.iload_n 1, 1) := rfl
theorem f90_2 : pm_fetch 90 2 = some (.invokevirtual 215, 3) := rfl
theorem f90_5 : pm_fetch 90 5 = some (.astore 5, 2) := rfl
theorem f90_7 : pm_fetch 90 7 = some (.aload 5, 2) := rfl
theorem f90_9 : pm_fetch 90 9 = some (.ifnull 23, 3) := rfl
theorem f90_12 : pm_fetch 90 12 = some (.iload_n 2, 1) := rfl
theorem f90_13 : pm_fetch 90 13 = some (.iconst 0, 1) := rfl
theorem f90_14 : pm_fetch 90 14 = some (.iconst 2, 1) := rfl
theorem f90_15 : pm_fetch 90 15 = some (.invokestatic 90, 3) := rfl
theorem f90_18 : pm_fetch 90 18 = some (.ifCond .eq 14, 3) := rfl
theorem f90_21 : pm_fetch 90 21 = some (.iload 4, 2) := rfl
theorem f90_23 : pm_fetch 90 23 = some (.iconst 0, 1) := rfl
theorem f90_24 : pm_fetch 90 24 = some (.bipush 6, 2) := rfl
theorem f90_26 : pm_fetch 90 26 = some (.invokestatic 90, 3) := rfl
theorem f90_29 : pm_fetch 90 29 = some (.ifCond .ne 6, 3) := rfl
theorem f90_32 : pm_fetch 90 32 = some (.bipush (-2), 2) := rfl
theorem f90_34 : pm_fetch 90 34 = some (.ireturn, 1) := rfl
theorem f90_35 : pm_fetch 90 35 = some (.aload 5, 2) := rfl
theorem f90_37 : pm_fetch 90 37 = some (.getfield 252, 3) := rfl
theorem f90_40 : pm_fetch 90 40 = some (.iconst (-1), 1) := rfl
theorem f90_41 : pm_fetch 90 41 = some (.if_icmp .ne 6, 3) := rfl
theorem f90_44 : pm_fetch 90 44 = some (.bipush (-11), 2) := rfl
theorem f90_46 : pm_fetch 90 46 = some (.ireturn, 1) := rfl
theorem f90_47 : pm_fetch 90 47 = some (.aload 5, 2) := rfl
theorem f90_49 : pm_fetch 90 49 = some (.getfield 252, 3) := rfl
theorem f90_52 : pm_fetch 90 52 = some (.iload_n 2, 1) := rfl
theorem f90_53 : pm_fetch 90 53 = some (.if_icmp .eq 6, 3) := rfl
theorem f90_56 : pm_fetch 90 56 = some (.bipush (-13), 2) := rfl
theorem f90_58 : pm_fetch 90 58 = some (.ireturn, 1) := rfl
theorem f90_59 : pm_fetch 90 59 = some (.iconst 0, 1) := rfl
theorem f90_60 : pm_fetch 90 60 = some (.istore 6, 2) := rfl
theorem f90_62 : pm_fetch 90 62 = some (.iconst 0, 1) := rfl
theorem f90_63 : pm_fetch 90 63 = some (.istore 7, 2) := rfl
theorem f90_65 : pm_fetch 90 65 = some (.iload 7, 2) := rfl
theorem f90_67 : pm_fetch 90 67 = some (.iload 4, 2) := rfl
theorem f90_69 : pm_fetch 90 69 = some (.if_icmp .ge 59, 3) := rfl
theorem f90_72 : pm_fetch 90 72 = some (.iload_n 3, 1) := rfl
theorem f90_73 : pm_fetch 90 73 = some (.iconst 2, 1) := rfl
theorem f90_74 : pm_fetch 90 74 = some (.iload 7, 2) := rfl
theorem f90_76 : pm_fetch 90 76 = some (.imul, 1) := rfl
theorem f90_77 : pm_fetch 90 77 = some (.iadd, 1) := rfl
theorem f90_78 : pm_fetch 90 78 = some (.istore 8, 2) := rfl
theorem f90_80 : pm_fetch 90 80 = some (.aload 5, 2) := rfl
theorem f90_82 : pm_fetch 90 82 = some (.iload 8, 2) := rfl
theorem f90_84 : pm_fetch 90 84 = some (.iconst 2, 1) := rfl
theorem f90_85 : pm_fetch 90 85 = some (.invokevirtual 256, 3) := rfl
theorem f90_88 : pm_fetch 90 88 = some (.ifCond .ne 6, 3) := rfl
theorem f90_91 : pm_fetch 90 91 = some (.bipush (-12), 2) := rfl
theorem f90_93 : pm_fetch 90 93 = some (.ireturn, 1) := rfl
theorem f90_94 : pm_fetch 90 94 = some (.aload_n 0, 1) := rfl
theorem f90_95 : pm_fetch 90 95 = some (.aload 5, 2) := rfl
theorem f90_97 : pm_fetch 90 97 = some (.getfield 260, 3) := rfl
theorem f90_100 : pm_fetch 90 100 = some (.iload 8, 2) := rfl
theorem f90_102 : pm_fetch 90 102 = some (.iaload, 1) := rfl
theorem f90_103 : pm_fetch 90 103 = some (.aload 5, 2) := rfl
theorem f90_105 : pm_fetch 90 105 = some (.getfield 260, 3) := rfl
theorem f90_108 : pm_fetch 90 108 = some (.iload 8, 2) := rfl
theorem f90_110 : pm_fetch 90 110 = some (.iconst 1, 1) := rfl
theorem f90_111 : pm_fetch 90 111 = some (.iadd, 1) := rfl
theorem f90_112 : pm_fetch 90 112 = some (.iaload, 1) := rfl
theorem f90_113 : pm_fetch 90 113 = some (.invokevirtual 269, 3) := rfl
theorem f90_116 : pm_fetch 90 116 = some (.ifCond .lt 6, 3) := rfl
theorem f90_119 : pm_fetch 90 119 = some (.iinc 6 1, 3) := rfl
theorem f90_122 : pm_fetch 90 122 = some (.iinc 7 1, 3) := rfl
theorem f90_125 : pm_fetch 90 125 = some (.goto (-60), 3) := rfl
theorem f90_128 : pm_fetch 90 128 = some (.iload 6, 2) := rfl
theorem f90_130 : pm_fetch 90 130 = some (.ireturn, 1) := rfl
theorem f91_0 : pm_fetch 91 0 = some (.iload_n 2, 1) := rfl
theorem f91_1 : pm_fetch 91 1 = some (.iconst 0, 1) := rfl
theorem f91_2 : pm_fetch 91 2 = some (.bipush 6, 2) := rfl
theorem f91_4 : pm_fetch 91 4 = some (.invokestatic 90, 3) := rfl
theorem f91_7 : pm_fetch 91 7 = some (.ifCond .ne 6, 3) := rfl
theorem f91_10 : pm_fetch 91 10 = some (.bipush (-2), 2) := rfl
theorem f91_12 : pm_fetch 91 12 = some (.ireturn, 1) := rfl
theorem f91_13 : pm_fetch 91 13 = some (.iload_n 1, 1) := rfl
theorem f91_14 : pm_fetch 91 14 = some (.iconst 0, 1) := rfl
theorem f91_15 : pm_fetch 91 15 = some (.bipush 11, 2) := rfl
theorem f91_17 : pm_fetch 91 17 = some (.invokestatic 90, 3) := rfl
theorem f91_20 : pm_fetch 91 20 = some (.ifCond .ne 6, 3) := rfl
theorem f91_23 : pm_fetch 91 23 = some (.bipush (-12), 2) := rfl
theorem f91_25 : pm_fetch 91 25 = some (.ireturn, 1) := rfl
theorem f91_26 : pm_fetch 91 26 = some (.iload_n 1, 1) := rfl
theorem f91_27 : pm_fetch 91 27 = some (.bipush 6, 2) := rfl
theorem f91_29 : pm_fetch 91 29 = some (.irem, 1) := rfl
theorem f91_30 : pm_fetch 91 30 = some (.istore_n 3, 1) := rfl
theorem f91_31 : pm_fetch 91 31 = some (.iload_n 3, 1) := rfl
theorem f91_32 : pm_fetch 91 32 = some (.aload_n 0, 1) := rfl
theorem f91_33 : pm_fetch 91 33 = some (.getfield 45, 3) := rfl
theorem f91_36 : pm_fetch 91 36 = some (.getfield 52, 3) := rfl
theorem f91_39 : pm_fetch 91 39 = some (.if_icmp .lt 6, 3) := rfl
theorem f91_42 : pm_fetch 91 42 = some (.bipush (-11), 2) := rfl
theorem f91_44 : pm_fetch 91 44 = some (.ireturn, 1) := rfl
theorem f91_45 : pm_fetch 91 45 = some (.aload_n 0, 1) := rfl
theorem f91_46 : pm_fetch 91 46 = some (.getfield 45, 3) := rfl
theorem f91_49 : pm_fetch 91 49 = some (.getfield 129, 3) := rfl
theorem f91_52 : pm_fetch 91 52 = some (.iload_n 3, 1) := rfl
theorem f91_53 : pm_fetch 91 53 = some (.aaload, 1) := rfl
theorem f91_54 : pm_fetch 91 54 = some (.astore 4, 2) := rfl
theorem f91_56 : pm_fetch 91 56 = some (.iload_n 1, 1) := rfl
theorem f91_57 : pm_fetch 91 57 = some (.bipush 6, 2) := rfl
theorem f91_59 : pm_fetch 91 59 = some (.if_icmp .lt 20, 3) := rfl
theorem f91_62 : pm_fetch 91 62 = some (.iload_n 2, 1) := rfl
theorem f91_63 : pm_fetch 91 63 = some (.bipush 6, 2) := rfl
theorem f91_65 : pm_fetch 91 65 = some (.if_icmp .ne 11, 3) := rfl
theorem f91_68 : pm_fetch 91 68 = some (.aload 4, 2) := rfl
theorem f91_70 : pm_fetch 91 70 = some (.getfield 145, 3) := rfl
theorem f91_73 : pm_fetch 91 73 = some (.goto 5, 3) := rfl
theorem f91_76 : pm_fetch 91 76 = some (.bipush (-13), 2) := rfl
theorem f91_78 : pm_fetch 91 78 = some (.ireturn, 1) := rfl
theorem f91_79 : pm_fetch 91 79 = some (.iload_n 2, 1) := rfl
theorem f91_80 : pm_fetch 91 80 = some (.bipush 6, 2) := rfl
theorem f91_82 : pm_fetch 91 82 = some (.if_icmp .eq 16, 3) := rfl
theorem f91_85 : pm_fetch 91 85 = some (.aload 4, 2) := rfl
theorem f91_87 : pm_fetch 91 87 = some (.iload_n 2, 1) := rfl
theorem f91_88 : pm_fetch 91 88 = some (.invokevirtual 273, 3) := rfl
theorem f91_91 : pm_fetch 91 91 = some (.ifCond .eq 7, 3) := rfl
theorem f91_94 : pm_fetch 91 94 = some (.iload_n 3, 1) := rfl
theorem f91_95 : pm_fetch 91 95 = some (.goto 5, 3) := rfl
theorem f91_98 : pm_fetch 91 98 = some (.bipush (-13), 2) := rfl
theorem f91_100 : pm_fetch 91 100 = some (.ireturn, 1) := rfl
/-- DunesWalked.<init>()V -/
def X_init_42 : Nat → pm_H → Nat → Int32 → Option (pm_H × Unit)
  | 0, _, _, _ => none
  | n + 1, h, l0, l1 => bnd (op_A h l0 5 6) fun x1q => bnd x1q fun u2q => bnd (op_ln h u2q) fun x3q => if x3q ≤ l1 then (nmd (List.length h) fun b6q => nmd (h ++ [.inr (2, pm_new 2)]) fun h5q => bnd (op_nI h5q 1) fun h7q => nmd (List.length h5q) fun b8q => bnd (op_sI h7q b8q 0 2) fun h9q => bnd (op_nI h9q 5) fun h10q => nmd (List.length h9q) fun b11q => bnd (op_sI h10q b11q 0 1) fun h12q => bnd (op_sI h12q b11q 1 9) fun h13q => bnd (op_sI h13q b11q 2 10003) fun h14q => bnd (op_sI h14q b11q 3 10012) fun h15q => bnd (op_sI h15q b11q 4 10011) fun h16q => bnd (op_nI h16q 1) fun h17q => nmd (List.length h16q) fun b18q => bnd (op_sI h17q b18q 0 1) fun h19q => bn2 (W_init h19q b6q 0 (some b8q) (some b11q) (some b18q)) fun h20q _ => bnd (op_A h20q l0 5 0) fun x22q => bnd x22q fun u23q => bnd (op_sA h20q u23q 2 0 b6q) fun h24q => bnd (op_S h24q l0 5 1 (.int 1)) fun h25q => nmd (List.length h25q) fun b27q => nmd (h25q ++ [.inr (1, pm_new 1)]) fun h26q => bn2 (L_init h26q b27q (some b6q)) fun h28q _ => bnd (op_S h28q l0 5 3 (.ref b27q)) fun h30q => nmd (List.length h30q) fun b32q => nmd (h30q ++ [.inr (1, pm_new 1)]) fun h31q => bn2 (L_init h31q b32q (some b6q)) fun h33q _ => bnd (op_S h33q l0 5 4 (.ref b32q)) fun h35q => some (h35q, ())) else (bnd (op_A h l0 5 6) fun x36q => nmd (List.length h) fun b38q => nmd (h ++ [.inr (3, pm_new 3)]) fun h37q => bn2 (S_init h37q b38q) fun h39q _ => bnd x36q fun u41q => bnd (op_sA h39q u41q 3 l1 b38q) fun h42q => nmd (l1 + 1) fun y43q => X_init_42 n h42q l0 y43q)
def X_init (h : pm_H) (t : Nat) : Option (pm_H × Unit) := bnd (op_nA h 2 6) fun h1q => nmd (List.length h) fun b2q => bnd (op_S h1q t 5 0 (.ref b2q)) fun h3q => nmd (List.length h3q) fun b5q => nmd (h3q ++ [.inr (4, pm_new 4)]) fun h4q => bn2 (T_init h4q b5q) fun h6q _ => bnd (op_S h6q t 5 2 (.ref b5q)) fun h8q => bnd (op_nA h8q 3 4) fun h9q => nmd (List.length h8q) fun b10q => bnd (op_S h9q t 5 6 (.ref b10q)) fun h11q => bnd (op_nI h11q 40) fun h12q => nmd (List.length h11q) fun b13q => bnd (op_S h12q t 5 7 (.ref b13q)) fun h14q => X_init_42 1000 h14q t 0
/-- DunesWalked.count(I)I -/
def X_count (h : pm_H) (t : Nat) (a1 : Int32) : Option (pm_H × Int32) := if a1 = 0 then (bnd (op_A h t 5 3) fun x2q => bnd x2q fun u3q => bnd (op_I h u3q 1 1) fun x4q => some (h, x4q)) else (if a1 = 1 then (bnd (op_A h t 5 3) fun x6q => bnd x6q fun u7q => grd (op_is h u7q 1) <| bn2 (L_living h u7q) fun h8q x9q => bn2 (Ji_bitCount h8q x9q) fun h11q x12q => some (h11q, x12q)) else (if a1 = 2 then (bnd (op_A h t 5 3) fun x14q => bnd x14q fun u15q => bnd (op_I h u15q 1 4) fun x16q => some (h, x16q)) else (if a1 = 3 then (bnd (op_A h t 5 3) fun x18q => bnd x18q fun u19q => bnd (op_J h u19q 1 2) fun x20q => bn2 (Jl_bitCount h x20q) fun h21q x22q => some (h21q, x22q)) else (if a1 = 4 then (bnd (op_A h t 5 3) fun x24q => bnd x24q fun u25q => bnd (op_J h u25q 1 3) fun x26q => bn2 (Jl_bitCount h x26q) fun h27q x28q => some (h27q, x28q)) else (if a1 = 5 then (bnd (op_I h t 5 1) fun x30q => some (h, x30q)) else (if a1 = 6 then (bnd (op_A h t 5 3) fun x32q => bnd x32q fun u33q => bnd (op_A h u33q 1 5) fun x34q => bnd x34q fun u35q => bnd (op_I h u35q 2 0) fun x36q => some (h, x36q)) else (if a1 = 7 then (bnd (op_A h t 5 2) fun x38q => bnd x38q fun u39q => bnd (op_I h u39q 4 1) fun x40q => some (h, x40q)) else (some (h, (-2))))))))))
/-- DunesWalked.within(III)Z -/
def X_within (h : pm_H) (a0 : Int32) (a1 : Int32) (a2 : Int32) : Option (pm_H × Int32) := if a0 < a1 then (some (h, 0)) else (if a2 < a0 then (some (h, 0)) else (some (h, 1)))
/-- DunesWalked.yard(III)I -/
def X_yard_111 (h : pm_H) (l4 : Int64) (l6 : Int64) : Option (pm_H × Int32) := if (lg_cmp (l6 &&& l4) 0) = 0 then (some (h, 0)) else (some (h, 1))
def X_yard_84 (h : pm_H) (l0 : Nat) (l2 : Int32) (l4 : Int64) (l6 : Int64) (s0 : Int64) : Option (pm_H × Int32) := if l2 = 0 then (bnd (op_A h l0 5 3) fun x5q => bnd x5q fun u6q => bnd (op_S h u6q 1 2 (.long s0)) fun h7q => X_yard_111 h7q l4 l6) else (bnd (op_A h l0 5 3) fun x2q => bnd x2q fun u3q => bnd (op_S h u3q 1 3 (.long s0)) fun h4q => X_yard_111 h4q l4 l6)
def X_yard_60 (h : pm_H) (l0 : Nat) (l2 : Int32) (l3 : Int32) (l4 : Int64) (s0 : Int64) : Option (pm_H × Int32) := if l3 = 1 then (X_yard_84 h l0 l2 l4 s0 (s0 ||| l4)) else (X_yard_84 h l0 l2 l4 s0 (s0 &&& (l4 ^^^ (-1))))
def X_yard (h : pm_H) (t : Nat) (a1 : Int32) (a2 : Int32) (a3 : Int32) : Option (pm_H × Int32) := bn2 (X_within h a1 0 39) fun h1q x2q => if x2q = 0 then (some (h1q, (-5))) else (bn2 (X_within h1q a2 0 1) fun h4q x5q => if x5q = 0 then (some (h4q, (-7))) else (bn2 (X_within h4q a3 0 1) fun h7q x8q => if x8q = 0 then (some (h7q, (-7))) else (nmd (1 <<< ((a1 : Int32).toInt64 &&& 63)) fun y10q => if a2 = 0 then (bnd (op_A h7q t 5 3) fun x15q => bnd x15q fun u16q => bnd (op_J h7q u16q 1 2) fun x17q => X_yard_60 h7q t a2 a3 y10q x17q) else (bnd (op_A h7q t 5 3) fun x12q => bnd x12q fun u13q => bnd (op_J h7q u13q 1 3) fun x14q => X_yard_60 h7q t a2 a3 y10q x14q))))
/-- DunesWalked.parish(I)J -/
def X_parish (h : pm_H) (t : Nat) (a1 : Int32) : Option (pm_H × Int64) := if a1 = 0 then (bnd (op_A h t 5 3) fun x2q => bnd x2q fun u3q => bnd (op_J h u3q 1 2) fun x4q => some (h, x4q)) else (if a1 = 1 then (bnd (op_A h t 5 3) fun x6q => bnd x6q fun u7q => bnd (op_J h u7q 1 3) fun x8q => some (h, x8q)) else (if a1 = 2 then (bnd (op_A h t 5 3) fun x10q => bnd x10q fun u11q => grd (op_is h u11q 1) <| bn2 (L_sand h u11q) fun h12q x13q => some (h12q, x13q)) else (if a1 = 3 then (bnd (op_A h t 5 3) fun x16q => bnd x16q fun u17q => bnd (op_J h u17q 1 2) fun x18q => bnd (op_A h t 5 3) fun x19q => bnd x19q fun u20q => grd (op_is h u20q 1) <| bn2 (L_sand h u20q) fun h21q x22q => some (h21q, (x18q &&& x22q))) else (some (h, (-4611686018427387904))))))
/-- DunesWalked.isByte(I)Z -/
def X_isByte (h : pm_H) (a0 : Int32) : Option (pm_H × Int32) := bn2 (X_within h a0 0 255) fun h1q x2q => grd (decide (x2q = 0 ∨ x2q = 1)) <| some (h1q, x2q)
/-- DunesWalked.feed(IIIIII)I -/
def X_feed_117 (h : pm_H) (l0 : Nat) (l1 : Int32) (l6 : Int32) : Option (pm_H × Int32) := if l1 ≤ 4 then (bnd (op_A h l0 5 2) fun x2q => bnd x2q fun u3q => bnd (op_I h u3q 4 1) fun x4q => some (h, x4q)) else (bnd (op_A h l0 5 2) fun x5q => bnd x5q fun u6q => grd (op_is h u6q 4) <| bn2 (T_append h u6q l6) fun h7q _ => bnd (op_A h7q l0 5 2) fun x10q => bnd x10q fun u11q => bnd (op_I h7q u11q 4 1) fun x12q => some (h7q, x12q))
def X_feed_103 (h : pm_H) (l0 : Nat) (l1 : Int32) (l5 : Int32) (l6 : Int32) : Option (pm_H × Int32) := if l1 ≤ 3 then (X_feed_117 h l0 l1 l6) else (bnd (op_A h l0 5 2) fun x2q => bnd x2q fun u3q => grd (op_is h u3q 4) <| bn2 (T_append h u3q l5) fun h4q _ => X_feed_117 h4q l0 l1 l6)
def X_feed_89 (h : pm_H) (l0 : Nat) (l1 : Int32) (l4 : Int32) (l5 : Int32) (l6 : Int32) : Option (pm_H × Int32) := if l1 ≤ 2 then (X_feed_103 h l0 l1 l5 l6) else (bnd (op_A h l0 5 2) fun x2q => bnd x2q fun u3q => grd (op_is h u3q 4) <| bn2 (T_append h u3q l4) fun h4q _ => X_feed_103 h4q l0 l1 l5 l6)
def X_feed (h : pm_H) (t : Nat) (a1 : Int32) (a2 : Int32) (a3 : Int32) (a4 : Int32) (a5 : Int32) (a6 : Int32) : Option (pm_H × Int32) := bn2 (X_within h a1 1 5) fun h1q x2q => if x2q = 0 then (some (h1q, (-2))) else (bn2 (X_isByte h1q a2) fun h4q x5q => if x5q = 0 then (some (h4q, (-2))) else (bn2 (X_isByte h4q a3) fun h7q x8q => if x8q = 0 then (some (h7q, (-2))) else (bn2 (X_isByte h7q a4) fun h10q x11q => if x11q = 0 then (some (h10q, (-2))) else (bn2 (X_isByte h10q a5) fun h13q x14q => if x14q = 0 then (some (h13q, (-2))) else (bn2 (X_isByte h13q a6) fun h16q x17q => if x17q = 0 then (some (h16q, (-2))) else (bnd (op_A h16q t 5 2) fun x19q => bnd x19q fun u20q => bnd (op_I h16q u20q 4 1) fun x21q => if (x21q + a1) ≤ 160 then (bnd (op_A h16q t 5 2) fun x23q => bnd x23q fun u24q => grd (op_is h16q u24q 4) <| bn2 (T_append h16q u24q a2) fun h25q _ => if a1 ≤ 1 then (X_feed_89 h25q t a1 a4 a5 a6) else (bnd (op_A h25q t 5 2) fun x29q => bnd x29q fun u30q => grd (op_is h25q u30q 4) <| bn2 (T_append h25q u30q a3) fun h31q _ => X_feed_89 h31q t a1 a4 a5 a6)) else (some (h16q, (-4)))))))))
/-- DunesWalked.text()I -/
def X_text (h : pm_H) (t : Nat) : Option (pm_H × Int32) := bnd (op_I h t 5 1) fun x1q => bnd (op_A h t 5 0) fun x2q => bnd x2q fun u3q => bnd (op_ln h u3q) fun x4q => if x1q < x4q then (bnd (op_A h t 5 2) fun x6q => bnd (op_I h t 5 1) fun x7q => bnd x6q fun u8q => grd (op_is h u8q 4) <| bn2 (T_toLaw h u8q x7q) fun h9q x10q => (match x10q with | none => bnd (op_A h9q t 5 2) fun x14q => bnd x14q fun u15q => bnd (op_I h9q u15q 4 5) fun x16q => some (h9q, ((-100) - x16q)) | some u13q => bnd (op_A h9q t 5 0) fun x17q => bnd (op_I h9q t 5 1) fun x18q => bnd x17q fun u19q => bnd (op_sA h9q u19q 2 x18q u13q) fun h20q => bnd (op_I h20q t 5 1) fun x21q => bnd (op_S h20q t 5 1 (.int (x21q + 1))) fun h22q => bnd (op_I h22q u13q 2 0) fun x23q => some (h22q, x23q))) else (some (h, (-4)))
/-- DunesWalked.lawAt(I)LDunesWalked$Law; -/
def X_lawAt (h : pm_H) (t : Nat) (a1 : Int32) : Option (pm_H × Option Nat) := if a1 < 0 then (some (h, none)) else (bnd (op_I h t 5 1) fun x2q => if x2q ≤ a1 then (some (h, none)) else (bnd (op_A h t 5 0) fun x4q => bnd x4q fun u5q => bnd (op_ln h u5q) fun x6q => if x6q ≤ a1 then (some (h, none)) else (bnd (op_A h t 5 0) fun x8q => bnd x8q fun u9q => bnd (op_aA h u9q 2 a1) fun x10q => some (h, x10q))))
/-- DunesWalked.force(I)I -/
def X_force (h : pm_H) (t : Nat) (a1 : Int32) : Option (pm_H × Int32) := grd (op_is h t 5) <| bn2 (X_lawAt h t a1) fun h1q x2q => (match x2q with | none => some (h1q, (-2)) | some u5q => bnd (op_A h1q t 5 3) fun x6q => bnd x6q fun u7q => bnd (op_A h1q u7q 1 5) fun x8q => bnd x8q fun u9q => bnd (op_I h1q u9q 2 0) fun x10q => bnd (op_A h1q t 5 3) fun x11q => bnd x11q fun u12q => bnd (op_S h1q u12q 1 5 (.ref u5q)) fun h13q => some (h13q, x10q))
/-- DunesWalked.asks(II)I -/
def X_asks (h : pm_H) (t : Nat) (a1 : Int32) (a2 : Int32) : Option (pm_H × Int32) := bnd (op_A h t 5 3) fun x1q => bnd x1q fun u2q => grd (op_is h u2q 1) <| bn2 (L_standing h u2q a2) fun h3q x4q => bn2 (X_within h3q a1 0 2) fun h6q x7q => if x7q = 0 then (some (h6q, (-1000))) else ((match x4q with | none => some (h6q, (-1000)) | some u10q => bnd (op_A h6q t 5 3) fun x11q => bnd x11q fun u12q => grd (op_is h6q u12q 1) <| bn2 (L_says h6q u12q a1 (some u10q)) fun h13q x14q => some (h13q, x14q)))
/-- DunesWalked.dune(II)I -/
def X_dune (h : pm_H) (t : Nat) (a1 : Int32) (a2 : Int32) : Option (pm_H × Int32) := bn2 (X_within h a1 0 59) fun h1q x2q => if x2q = 0 then (some (h1q, (-2))) else (bn2 (X_within h1q a2 0 399999) fun h4q x5q => if x5q = 0 then (some (h4q, (-2))) else (nmd ((a2 / 1000) - (a2 / 1000) / 10 * 10) fun y7q => nmd (a2 - a2 / 1000 * 1000) fun y8q => if y7q = 0 then (some (h4q, (-2))) else (if y8q ≤ 99 then (bnd (op_A h4q t 5 3) fun x11q => bnd x11q fun u12q => bnd (op_I h4q u12q 1 1) fun x13q => bnd (op_A h4q t 5 3) fun x14q => bnd x14q fun u15q => bnd (op_A h4q u15q 1 0) fun x16q => bnd x16q fun u17q => bnd (op_ln h4q u17q) fun x18q => if x13q < x18q then (bnd (op_A h4q t 5 3) fun x20q => bnd x20q fun u21q => bnd (op_A h4q u21q 1 0) fun x22q => bnd (op_A h4q t 5 3) fun x23q => bnd x23q fun u24q => bnd (op_I h4q u24q 1 1) fun x25q => bnd x22q fun u26q => bnd (op_aA h4q u26q 0 x25q) fun x27q => bnd x27q fun u28q => bnd (op_S h4q u28q 0 1 (.int (a1 / 10))) fun h29q => bnd (op_S h29q u28q 0 2 (.int (a1 - a1 / 10 * 10))) fun h30q => bnd (op_S h30q u28q 0 3 (.int (a2 / 10000))) fun h31q => bnd (op_S h31q u28q 0 4 (.int y7q)) fun h32q => bnd (op_S h32q u28q 0 5 (.int y8q)) fun h33q => bnd (op_S h33q u28q 0 6 (.int 0)) fun h34q => bnd (op_A h34q t 5 3) fun x35q => bnd x35q fun u36q => bnd (op_I h34q u36q 1 1) fun x37q => bnd (op_S h34q u36q 1 1 (.int (x37q + 1))) fun h38q => bnd (op_I h38q u28q 0 0) fun x39q => some (h38q, x39q)) else (some (h4q, (-4)))) else (some (h4q, (-2))))))
/-- DunesWalked.leastOf(I)I -/
def X_leastOf (h : pm_H) (a0 : Int32) : Option (pm_H × Int32) := if a0 = 1 then (some (h, 1)) else (some (h, 0))
/-- DunesWalked.mostOf(I)I -/
def X_mostOf (h : pm_H) (a0 : Int32) : Option (pm_H × Int32) := if a0 = 0 then (some (h, 39)) else (if a0 = 1 then (some (h, 9)) else (some (h, 99)))
/-- DunesWalked.put(III)I -/
def X_put (h : pm_H) (t : Nat) (a1 : Int32) (a2 : Int32) (a3 : Int32) : Option (pm_H × Int32) := bnd (op_A h t 5 3) fun x1q => bnd x1q fun u2q => grd (op_is h u2q 1) <| bn2 (L_standing h u2q a1) fun h3q x4q => (match x4q with | none => some (h3q, (-5)) | some u7q => bn2 (X_within h3q a2 0 2) fun h8q x9q => if x9q = 0 then (some (h8q, (-7))) else (bn2 (X_leastOf h8q a2) fun h11q x12q => bn2 (X_mostOf h11q a2) fun h13q x14q => bn2 (X_within h13q a3 x12q x14q) fun h15q x16q => if x16q = 0 then (some (h15q, (-7))) else (grd (op_is h15q u7q 0) <| bn2 (D_quality h15q u7q a2) fun h18q x19q => grd (op_is h18q u7q 0) <| bn2 (D_change h18q u7q a2 a3) fun h21q _ => some (h21q, x19q))))
/-- DunesWalked.told(II)I -/
def X_told_68 (h : pm_H) (l2 : Int32) (l3 : Option Nat) : Option (pm_H × Int32) := bnd l3 fun u1q => grd (op_is h u1q 0) <| bn2 (D_quality h u1q l2) fun h2q x3q => some (h2q, x3q)
def X_told (h : pm_H) (t : Nat) (a1 : Int32) (a2 : Int32) : Option (pm_H × Int32) := bnd (op_A h t 5 3) fun x1q => bnd x1q fun u2q => grd (op_is h u2q 1) <| bn2 (L_standing h u2q a1) fun h3q x4q => (match x4q with | none => some (h3q, (-5)) | some u7q => if a2 = 0 then (X_told_68 h3q a2 (some u7q)) else (if a2 = 1 then (X_told_68 h3q a2 (some u7q)) else (if a2 = 2 then (X_told_68 h3q a2 (some u7q)) else (if a2 = 3 then (X_told_68 h3q a2 (some u7q)) else (if a2 = 4 then (X_told_68 h3q a2 (some u7q)) else (if a2 = 5 then (bnd (op_A h3q t 5 3) fun x14q => bnd x14q fun u15q => grd (op_is h3q u15q 1) <| bn2 (L_onClover h3q u15q (some u7q)) fun h16q x17q => if x17q = 0 then (some (h16q, 0)) else (some (h16q, 1))) else (if a2 = 6 then (bnd (op_A h3q t 5 3) fun x21q => bnd x21q fun u22q => grd (op_is h3q u22q 1) <| bn2 (L_stride h3q u22q (some u7q)) fun h23q x24q => some (h23q, x24q)) else (if a2 = 7 then (bnd (op_A h3q t 5 3) fun x27q => bnd x27q fun u28q => grd (op_is h3q u28q 1) <| bn2 (L_need h3q u28q (some u7q)) fun h29q x30q => some (h29q, x30q)) else (if a2 = 8 then (bnd (op_A h3q t 5 3) fun x33q => bnd x33q fun u34q => bnd (op_J h3q u34q 1 2) fun x35q => grd (op_is h3q u7q 0) <| bn2 (D_yards h3q u7q) fun h36q x37q => bn2 (Jl_bitCount h36q (x35q &&& x37q)) fun h39q x40q => some (h39q, x40q)) else (some (h3q, (-7))))))))))))
/-- DunesWalked.grows(I)I -/
def X_grows (h : pm_H) (t : Nat) (a1 : Int32) : Option (pm_H × Int32) := bnd (op_A h t 5 3) fun x1q => bnd x1q fun u2q => grd (op_is h u2q 1) <| bn2 (L_standing h u2q a1) fun h3q x4q => (match x4q with | none => some (h3q, (-1000)) | some u7q => bnd (op_A h3q t 5 3) fun x8q => bnd x8q fun u9q => grd (op_is h3q u9q 1) <| bn2 (L_growth h3q u9q (some u7q)) fun h10q x11q => some (h10q, x11q))
/-- DunesWalked.year()I -/
def X_year (h : pm_H) (t : Nat) : Option (pm_H × Int32) := bnd (op_A h t 5 3) fun x1q => bnd x1q fun u2q => bnd (op_I h u2q 1 4) fun x3q => if x3q < 999 then (bnd (op_A h t 5 3) fun x5q => bnd x5q fun u6q => grd (op_is h u6q 1) <| bn2 (L_living h u6q) fun h7q x8q => bnd (op_A h7q t 5 3) fun x10q => bnd x10q fun u11q => grd (op_is h7q u11q 1) <| bn2 (L_pass h7q u11q) fun h12q _ => bnd (op_A h12q t 5 3) fun x15q => bnd x15q fun u16q => grd (op_is h12q u16q 1) <| bn2 (L_living h12q u16q) fun h17q x18q => some (h17q, (x8q &&& (x18q ^^^ (-1))))) else (some (h, (-3)))
/-- DunesWalked.ofDuneInThought(I)I -/
def X_ofDuneInThought_31 (h : pm_H) (l2 : Int32) (s0 : Int32) (s1 : Option Nat) : Option (pm_H × Int32) := bnd s1 fun u1q => grd (op_is h u1q 1) <| bn2 (L_standing h u1q s0) fun h2q x3q => (match x3q with | none => some (h2q, (-1)) | some u6q => if l2 = 0 then (bnd (op_I h2q u6q 0 5) fun x8q => some (h2q, x8q)) else (bnd (op_I h2q u6q 0 3) fun x9q => some (h2q, x9q)))
def X_ofDuneInThought_11 (h : pm_H) (l0 : Nat) (l1 : Int32) (s0 : Int32) : Option (pm_H × Int32) := bnd (op_A h l0 5 4) fun x1q => if s0 = 0 then (X_ofDuneInThought_31 h s0 (l1 - 20) x1q) else (X_ofDuneInThought_31 h s0 (l1 - 10) x1q)
def X_ofDuneInThought (h : pm_H) (t : Nat) (a1 : Int32) : Option (pm_H × Int32) := if 20 ≤ a1 then (X_ofDuneInThought_11 h t a1 0) else (X_ofDuneInThought_11 h t a1 1)
/-- DunesWalked.passInThought(I)I -/
def X_passInThought_4 : Nat → pm_H → Nat → Int32 → Int32 → Int32 → Option (pm_H × Int32)
  | 0, _, _, _, _, _ => none
  | n + 1, h, l0, l1, l2, l3 => if l1 ≤ l3 then (some (h, l2)) else (bnd (op_A h l0 5 4) fun x2q => bnd x2q fun u3q => grd (op_is h u3q 1) <| bn2 (L_pass h u3q) fun h4q _ => bnd (op_A h4q l0 5 4) fun x7q => bnd x7q fun u8q => grd (op_is h4q u8q 1) <| bn2 (L_buried h4q u8q) fun h9q x10q => nmd (l2 + x10q) fun y12q => nmd (l3 + 1) fun y13q => X_passInThought_4 n h9q l0 l1 y12q y13q)
def X_passInThought (h : pm_H) (t : Nat) (a1 : Int32) : Option (pm_H × Int32) := X_passInThought_4 1000 h t a1 0 0
/-- DunesWalked.run(II)I -/
def X_run_60 (h : pm_H) (l0 : Nat) (l1 : Int32) (l2 : Int32) : Option (pm_H × Int32) := bnd (op_A h l0 5 4) fun x1q => bnd (op_A h l0 5 3) fun x2q => bnd x1q fun u3q => grd (op_is h u3q 1) <| bn2 (L_become h u3q x2q) fun h4q _ => grd (op_is h4q l0 5) <| bn2 (X_passInThought h4q l0 l1) fun h7q x8q => if l2 = 0 then (bnd (op_A h7q l0 5 4) fun x11q => bnd x11q fun u12q => grd (op_is h7q u12q 1) <| bn2 (L_living h7q u12q) fun h13q x14q => some (h13q, x14q)) else (if l2 = 1 then (bnd (op_A h7q l0 5 4) fun x17q => bnd x17q fun u18q => grd (op_is h7q u18q 1) <| bn2 (L_buried h7q u18q) fun h19q x20q => some (h19q, x20q)) else (if l2 = 2 then (some (h7q, x8q)) else (grd (op_is h7q l0 5) <| bn2 (X_ofDuneInThought h7q l0 l2) fun h23q x24q => some (h23q, x24q))))
def X_run_33 (h : pm_H) (l0 : Nat) (l1 : Int32) (l2 : Int32) (s0 : Int32) : Option (pm_H × Int32) := bn2 (X_within h l1 0 40) fun h1q x2q => if x2q = 0 then (some (h1q, (-2))) else (bn2 (X_within h1q l2 0 2) fun h4q x5q => if x5q = 0 then (if s0 = 0 then (some (h4q, (-2))) else (X_run_60 h4q l0 l1 l2)) else (X_run_60 h4q l0 l1 l2))
def X_run_28 (h : pm_H) (l0 : Nat) (l1 : Int32) (l2 : Int32) : Option (pm_H × Int32) := X_run_33 h l0 l1 l2 1
def X_run (h : pm_H) (t : Nat) (a1 : Int32) (a2 : Int32) : Option (pm_H × Int32) := bnd (op_A h t 5 3) fun x1q => bnd x1q fun u2q => grd (op_is h u2q 1) <| bn2 (L_standing h u2q (a2 - 10)) fun h3q x4q => (match x4q with | none => bnd (op_A h3q t 5 3) fun x8q => bnd x8q fun u9q => grd (op_is h3q u9q 1) <| bn2 (L_standing h3q u9q (a2 - 20)) fun h10q x11q => (match x11q with | none => X_run_33 h10q t a1 a2 0 | some u14q => X_run_28 h10q t a1 a2) | some u7q => X_run_28 h3q t a1 a2)
/-- DunesWalked.comes(II)I -/
def X_comes_104 (k_47 : pm_H → Nat → Int32 → Int32 → Int32 → Int32 → Int32 → Int32 → Option (pm_H × Int32)) (h : pm_H) (l0 : Nat) (l1 : Int32) (l2 : Int32) (l3 : Int32) (l4 : Int32) (l5 : Int32) (l6 : Int32) : Option (pm_H × Int32) := bnd (op_A h l0 5 4) fun x1q => bnd x1q fun u2q => grd (op_is h u2q 1) <| bn2 (L_pass h u2q) fun h3q _ => nmd (l6 + 1) fun y6q => k_47 h3q l0 l1 l2 l3 l4 l5 y6q
def X_comes_96 (k_47 : pm_H → Nat → Int32 → Int32 → Int32 → Int32 → Int32 → Int32 → Option (pm_H × Int32)) (h : pm_H) (l0 : Nat) (l1 : Int32) (l2 : Int32) (l3 : Int32) (l4 : Int32) (l5 : Int32) (l6 : Int32) : Option (pm_H × Int32) := if l3 = (-1) then (X_comes_104 k_47 h l0 l1 l2 l3 l4 l5 l6) else (nmd (l4 + 1) fun y2q => X_comes_104 k_47 h l0 l1 l2 l3 y2q l5 l6)
def X_comes_117 (h : pm_H) (l2 : Int32) (l3 : Int32) (l4 : Int32) (l5 : Int32) : Option (pm_H × Int32) := if l2 = 0 then (some (h, l3)) else (if l2 = 1 then (some (h, l4)) else (some (h, l5)))
def X_comes_82 (k_47 : pm_H → Nat → Int32 → Int32 → Int32 → Int32 → Int32 → Int32 → Option (pm_H × Int32)) (h : pm_H) (l0 : Nat) (l1 : Int32) (l2 : Int32) (l3 : Int32) (l4 : Int32) (l5 : Int32) (l6 : Int32) (l7 : Int32) : Option (pm_H × Int32) := if l3 = (-1) then (X_comes_96 k_47 h l0 l1 l2 l3 l4 l5 l6) else (if l7 = (-1) then (X_comes_117 h l2 l3 l4 l5) else (X_comes_96 k_47 h l0 l1 l2 l3 l4 l5 l6))
def X_comes_47 : Nat → pm_H → Nat → Int32 → Int32 → Int32 → Int32 → Int32 → Int32 → Option (pm_H × Int32)
  | 0, _, _, _, _, _, _, _, _ => none
  | n + 1, h, l0, l1, l2, l3, l4, l5, l6 => if 40 < l6 then (X_comes_117 h l2 l3 l4 l5) else (bnd (op_A h l0 5 4) fun x2q => bnd x2q fun u3q => grd (op_is h u3q 1) <| bn2 (L_firstOver h u3q l1) fun h4q x5q => if l3 = (-1) then (if x5q = (-1) then (X_comes_82 (X_comes_47 n) h4q l0 l1 l2 l3 l4 l5 l6 x5q) else (X_comes_82 (X_comes_47 n) h4q l0 l1 l2 l6 l4 x5q l6 x5q)) else (X_comes_82 (X_comes_47 n) h4q l0 l1 l2 l3 l4 l5 l6 x5q))
def X_comes (h : pm_H) (t : Nat) (a1 : Int32) (a2 : Int32) : Option (pm_H × Int32) := bn2 (X_within h a1 0 39) fun h1q x2q => if x2q = 0 then (some (h1q, (-5))) else (bn2 (X_within h1q a2 0 2) fun h4q x5q => if x5q = 0 then (some (h4q, (-7))) else (bnd (op_A h4q t 5 4) fun x7q => bnd (op_A h4q t 5 3) fun x8q => bnd x7q fun u9q => grd (op_is h4q u9q 1) <| bn2 (L_become h4q u9q x8q) fun h10q _ => X_comes_47 1000 h10q t a1 a2 (-1) 0 (-1) 0))
/-- DunesWalked.ends(I)I -/
def X_ends_27 : Nat → pm_H → Nat → Int32 → Int32 → Option (pm_H × Int32)
  | 0, _, _, _, _ => none
  | n + 1, h, l0, l1, l2 => if 40 < l2 then (some (h, (-1))) else (bnd (op_A h l0 5 4) fun x2q => bnd x2q fun u3q => grd (op_is h u3q 1) <| bn2 (L_pass h u3q) fun h4q _ => bnd (op_A h4q l0 5 4) fun x7q => bnd x7q fun u8q => grd (op_is h4q u8q 1) <| bn2 (L_standing h4q u8q l1) fun h9q x10q => (match x10q with | none => some (h9q, l2) | some u13q => nmd (l2 + 1) fun y14q => X_ends_27 n h9q l0 l1 y14q))
def X_ends (h : pm_H) (t : Nat) (a1 : Int32) : Option (pm_H × Int32) := bnd (op_A h t 5 3) fun x1q => bnd x1q fun u2q => grd (op_is h u2q 1) <| bn2 (L_standing h u2q a1) fun h3q x4q => (match x4q with | none => some (h3q, (-5)) | some u7q => bnd (op_A h3q t 5 4) fun x8q => bnd (op_A h3q t 5 3) fun x9q => bnd x8q fun u10q => grd (op_is h3q u10q 1) <| bn2 (L_become h3q u10q x9q) fun h11q _ => X_ends_27 1000 h11q t a1 1)
/-- DunesWalked.first(I)I -/
def X_first_46 (k_25 : pm_H → Nat → Int32 → Int32 → Option (pm_H × Int32)) : Nat → pm_H → Nat → Int32 → Int32 → Option Nat → Int32 → Int32 → Option (pm_H × Int32)
  | 0, _, _, _, _, _, _, _ => none
  | n + 1, h, l0, l1, l2, l3, l4, l5 => if l4 ≤ l5 then (bnd (op_A h l0 5 4) fun x2q => bnd x2q fun u3q => grd (op_is h u3q 1) <| bn2 (L_pass h u3q) fun h4q _ => nmd (l2 + 1) fun y7q => k_25 h4q l0 l1 y7q) else (bnd l3 fun u8q => bnd (op_aA h u8q 0 l5) fun x9q => bnd x9q fun u10q => grd (op_is h u10q 0) <| bn2 (D_frontOrGone h u10q) fun h11q x12q => if x12q = 39 then (if l1 = 0 then (bnd (op_I h11q u10q 0 0) fun x17q => some (h11q, x17q)) else (some (h11q, l2))) else (nmd (l5 + 1) fun y15q => X_first_46 k_25 n h11q l0 l1 l2 (some u8q) l4 y15q))
def X_first_25 : Nat → pm_H → Nat → Int32 → Int32 → Option (pm_H × Int32)
  | 0, _, _, _, _ => none
  | n + 1, h, l0, l1, l2 => if 40 < l2 then (some (h, (-1))) else (bnd (op_A h l0 5 4) fun x2q => bnd x2q fun u3q => bnd (op_A h u3q 1 0) fun x4q => bnd x4q fun u5q => bnd (op_ln h u5q) fun x6q => X_first_46 (X_first_25 n) 1000 h l0 l1 l2 (some u5q) x6q 0)
def X_first (h : pm_H) (t : Nat) (a1 : Int32) : Option (pm_H × Int32) := bn2 (X_within h a1 0 1) fun h1q x2q => if x2q = 0 then (some (h1q, (-2))) else (bnd (op_A h1q t 5 4) fun x4q => bnd (op_A h1q t 5 3) fun x5q => bnd x4q fun u6q => grd (op_is h1q u6q 1) <| bn2 (L_become h1q u6q x5q) fun h7q _ => X_first_25 1000 h7q t a1 0)
/-- DunesWalked.sow(II)I -/
def X_sow_121 (k_45 : pm_H → Nat → Int32 → Int32 → Int32 → Int32 → Int32 → Option (pm_H × Int32)) (h : pm_H) (l0 : Nat) (l1 : Int32) (l2 : Int32) (l3 : Int32) (l4 : Int32) (l5 : Int32) : Option (pm_H × Int32) := nmd (l5 + 1) fun y1q => k_45 h l0 l1 l2 l3 l4 y1q
def X_sow_45 : Nat → pm_H → Nat → Int32 → Int32 → Int32 → Int32 → Int32 → Option (pm_H × Int32)
  | 0, _, _, _, _, _, _, _ => none
  | n + 1, h, l0, l1, l2, l3, l4, l5 => if 40 ≤ l5 then (if l2 = 0 then (some (h, l4)) else (some (h, l3))) else (nmd (1 <<< ((l5 : Int32).toInt64 &&& 63)) fun y3q => bnd (op_A h l0 5 3) fun x4q => bnd x4q fun u5q => bnd (op_J h u5q 1 3) fun x6q => if (lg_cmp (x6q &&& y3q) 0) = 0 then (bnd (op_A h l0 5 4) fun x8q => bnd (op_A h l0 5 3) fun x9q => bnd x8q fun u10q => grd (op_is h u10q 1) <| bn2 (L_become h u10q x9q) fun h11q _ => bnd (op_A h11q l0 5 4) fun x14q => bnd (op_A h11q l0 5 3) fun x15q => bnd x15q fun u16q => bnd (op_J h11q u16q 1 3) fun x17q => bnd x14q fun u18q => bnd (op_S h11q u18q 1 3 (.long (x17q ||| y3q))) fun h19q => grd (op_is h19q l0 5) <| bn2 (X_passInThought h19q l0 l1) fun h20q x21q => if l3 ≤ x21q then (X_sow_121 (X_sow_45 n) h20q l0 l1 l2 l3 l4 l5) else (X_sow_121 (X_sow_45 n) h20q l0 l1 l2 x21q l5 l5)) else (X_sow_121 (X_sow_45 n) h l0 l1 l2 l3 l4 l5))
def X_sow (h : pm_H) (t : Nat) (a1 : Int32) (a2 : Int32) : Option (pm_H × Int32) := bn2 (X_within h a1 0 20) fun h1q x2q => if x2q = 0 then (some (h1q, (-2))) else (bn2 (X_within h1q a2 0 1) fun h4q x5q => if x5q = 0 then (some (h4q, (-2))) else (bnd (op_A h4q t 5 4) fun x7q => bnd (op_A h4q t 5 3) fun x8q => bnd x7q fun u9q => grd (op_is h4q u9q 1) <| bn2 (L_become h4q u9q x8q) fun h10q _ => grd (op_is h10q t 5) <| bn2 (X_passInThought h10q t a1) fun h13q x14q => X_sow_45 1000 h13q t a1 a2 x14q (-1) 0))
/-- DunesWalked.countYearsUnder(I)I -/
def X_countYearsUnder_48 (k_23 : pm_H → Nat → Int32 → Int32 → Int32 → Option (pm_H × Int32)) : Nat → pm_H → Nat → Int32 → Int32 → Int32 → Int64 → Int32 → Option (pm_H × Int32)
  | 0, _, _, _, _, _, _, _ => none
  | n + 1, h, l0, l1, l2, l3, l4, l6 => bnd (op_A h l0 5 7) fun x1q => bnd x1q fun u2q => bnd (op_ln h u2q) fun x3q => if x3q ≤ l6 then (nmd (l3 + 1) fun y5q => k_23 h l0 l1 l2 y5q) else (bnd (op_A h l0 5 7) fun x6q => bnd x6q fun u7q => bnd (op_aI h u7q l6) fun x8q => bnd (op_sI h u7q l6 (x8q + (Int64.toInt32 ((l4 >>> ((l6 : Int32).toInt64 &&& 63)) &&& 1)))) fun h9q => nmd (l6 + 1) fun y10q => X_countYearsUnder_48 k_23 n h9q l0 l1 l2 l3 l4 y10q)
def X_countYearsUnder_23 : Nat → pm_H → Nat → Int32 → Int32 → Int32 → Option (pm_H × Int32)
  | 0, _, _, _, _, _ => none
  | n + 1, h, l0, l1, l2, l3 => if l1 ≤ l3 then (some (h, l2)) else (grd (op_is h l0 5) <| bn2 (X_passInThought h l0 1) fun h2q x3q => nmd (l2 + x3q) fun y5q => bnd (op_A h2q l0 5 4) fun x6q => bnd x6q fun u7q => grd (op_is h2q u7q 1) <| bn2 (L_sand h2q u7q) fun h8q x9q => X_countYearsUnder_48 (X_countYearsUnder_23 n) 1000 h8q l0 l1 y5q l3 x9q 0)
def X_countYearsUnder (h : pm_H) (t : Nat) (a1 : Int32) : Option (pm_H × Int32) := bnd (op_A h t 5 7) fun x1q => bn2 (Ja_fill h x1q 0) fun h2q _ => bnd (op_A h2q t 5 4) fun x4q => bnd (op_A h2q t 5 3) fun x5q => bnd x4q fun u6q => grd (op_is h2q u6q 1) <| bn2 (L_become h2q u6q x5q) fun h7q _ => X_countYearsUnder_23 1000 h7q t a1 0 0
/-- DunesWalked.move(II)I -/
def X_move_136 (k_37 : pm_H → Nat → Int32 → Int32 → Int32 → Int32 → Int32 → Option (pm_H × Int32)) (k_50 : pm_H → Nat → Int32 → Int32 → Int32 → Int32 → Int32 → Int32 → Option (pm_H × Int32)) (h : pm_H) (l0 : Nat) (l2 : Int32) (l3 : Int32) (l4 : Int32) (l5 : Int32) (l6 : Int32) (l7 : Int32) : Option (pm_H × Int32) := nmd (l7 + 1) fun y1q => k_50 h l0 l2 l3 l4 l5 l6 y1q
def X_move_89 (k_37 : pm_H → Nat → Int32 → Int32 → Int32 → Int32 → Int32 → Option (pm_H × Int32)) (k_50 : pm_H → Nat → Int32 → Int32 → Int32 → Int32 → Int32 → Int32 → Option (pm_H × Int32)) (h : pm_H) (l0 : Nat) (l2 : Int32) (l3 : Int32) (l4 : Int32) (l5 : Int32) (l6 : Int32) (l7 : Int32) (s0 : Int32) : Option (pm_H × Int32) := bnd (op_A h l0 5 7) fun x1q => bnd x1q fun u2q => bnd (op_aI h u2q l6) fun x3q => bnd (op_A h l0 5 7) fun x4q => bnd x4q fun u5q => bnd (op_aI h u5q l7) fun x6q => nmd ((l3 - x3q) + x6q) fun y7q => if s0 = 0 then (X_move_136 k_37 k_50 h l0 l2 l3 l4 l5 l6 l7) else (if l4 ≤ y7q then (X_move_136 k_37 k_50 h l0 l2 l3 l4 l5 l6 l7) else (nmd ((100 * l6) + l7) fun y10q => X_move_136 k_37 k_50 h l0 l2 l3 y7q y10q l6 l7))
def X_move_88 (k_37 : pm_H → Nat → Int32 → Int32 → Int32 → Int32 → Int32 → Option (pm_H × Int32)) (k_50 : pm_H → Nat → Int32 → Int32 → Int32 → Int32 → Int32 → Int32 → Option (pm_H × Int32)) (h : pm_H) (l0 : Nat) (l2 : Int32) (l3 : Int32) (l4 : Int32) (l5 : Int32) (l6 : Int32) (l7 : Int32) : Option (pm_H × Int32) := X_move_89 k_37 k_50 h l0 l2 l3 l4 l5 l6 l7 0
def X_move_50 (k_37 : pm_H → Nat → Int32 → Int32 → Int32 → Int32 → Int32 → Option (pm_H × Int32)) : Nat → pm_H → Nat → Int32 → Int32 → Int32 → Int32 → Int32 → Int32 → Option (pm_H × Int32)
  | 0, _, _, _, _, _, _, _, _ => none
  | n + 1, h, l0, l2, l3, l4, l5, l6, l7 => bnd (op_A h l0 5 7) fun x1q => bnd x1q fun u2q => bnd (op_ln h u2q) fun x3q => if x3q ≤ l7 then (nmd (l6 + 1) fun y5q => k_37 h l0 l2 l3 l4 l5 y5q) else (bnd (op_A h l0 5 3) fun x6q => bnd x6q fun u7q => grd (op_is h u7q 1) <| bn2 (L_hasHouse h u7q l6) fun h8q x9q => if x9q = 0 then (X_move_88 k_37 (X_move_50 k_37 n) h8q l0 l2 l3 l4 l5 l6 l7) else (bnd (op_A h8q l0 5 3) fun x12q => bnd x12q fun u13q => grd (op_is h8q u13q 1) <| bn2 (L_hasHouse h8q u13q l7) fun h14q x15q => if x15q = 0 then (X_move_89 k_37 (X_move_50 k_37 n) h14q l0 l2 l3 l4 l5 l6 l7 1) else (X_move_88 k_37 (X_move_50 k_37 n) h14q l0 l2 l3 l4 l5 l6 l7)))
def X_move_37 : Nat → pm_H → Nat → Int32 → Int32 → Int32 → Int32 → Int32 → Option (pm_H × Int32)
  | 0, _, _, _, _, _, _, _ => none
  | n + 1, h, l0, l2, l3, l4, l5, l6 => bnd (op_A h l0 5 7) fun x1q => bnd x1q fun u2q => bnd (op_ln h u2q) fun x3q => if x3q ≤ l6 then (if l2 = 0 then (some (h, l5)) else (some (h, l4))) else (X_move_50 (X_move_37 n) 1000 h l0 l2 l3 l4 l5 l6 0)
def X_move (h : pm_H) (t : Nat) (a1 : Int32) (a2 : Int32) : Option (pm_H × Int32) := bn2 (X_within h a1 0 20) fun h1q x2q => if x2q = 0 then (some (h1q, (-2))) else (bn2 (X_within h1q a2 0 1) fun h4q x5q => if x5q = 0 then (some (h4q, (-2))) else (grd (op_is h4q t 5) <| bn2 (X_countYearsUnder h4q t a1) fun h7q x8q => X_move_37 1000 h7q t a2 x8q x8q (-1) 0))
/-- DunesWalked.hold(II)I -/
def X_hold_110 (k_45 : pm_H → Nat → Int32 → Int32 → Int32 → Int32 → Int32 → Option (pm_H × Int32)) (h : pm_H) (l0 : Nat) (l1 : Int32) (l2 : Int32) (l3 : Int32) (l4 : Int32) (l5 : Int32) : Option (pm_H × Int32) := nmd (l5 + 1) fun y1q => k_45 h l0 l1 l2 l3 l4 y1q
def X_hold_45 : Nat → pm_H → Nat → Int32 → Int32 → Int32 → Int32 → Int32 → Option (pm_H × Int32)
  | 0, _, _, _, _, _, _, _ => none
  | n + 1, h, l0, l1, l2, l3, l4, l5 => bnd (op_A h l0 5 3) fun x1q => bnd x1q fun u2q => bnd (op_I h u2q 1 1) fun x3q => if x3q ≤ l5 then (if l2 = 0 then (some (h, l4)) else (some (h, l3))) else (bnd (op_A h l0 5 4) fun x6q => bnd (op_A h l0 5 3) fun x7q => bnd x6q fun u8q => grd (op_is h u8q 1) <| bn2 (L_become h u8q x7q) fun h9q _ => bnd (op_A h9q l0 5 4) fun x12q => bnd x12q fun u13q => grd (op_is h9q u13q 1) <| bn2 (L_standing h9q u13q l5) fun h14q x15q => (match x15q with | none => X_hold_110 (X_hold_45 n) h14q l0 l1 l2 l3 l4 l5 | some u18q => bnd (op_S h14q u18q 0 6 (.int 1)) fun h19q => grd (op_is h19q l0 5) <| bn2 (X_passInThought h19q l0 l1) fun h20q x21q => if l3 ≤ x21q then (X_hold_110 (X_hold_45 n) h20q l0 l1 l2 l3 l4 l5) else (X_hold_110 (X_hold_45 n) h20q l0 l1 l2 x21q l5 l5)))
def X_hold (h : pm_H) (t : Nat) (a1 : Int32) (a2 : Int32) : Option (pm_H × Int32) := bn2 (X_within h a1 0 40) fun h1q x2q => if x2q = 0 then (some (h1q, (-2))) else (bn2 (X_within h1q a2 0 1) fun h4q x5q => if x5q = 0 then (some (h4q, (-2))) else (bnd (op_A h4q t 5 4) fun x7q => bnd (op_A h4q t 5 3) fun x8q => bnd x7q fun u9q => grd (op_is h4q u9q 1) <| bn2 (L_become h4q u9q x8q) fun h10q _ => grd (op_is h10q t 5) <| bn2 (X_passInThought h10q t a1) fun h13q x14q => X_hold_45 1000 h13q t a1 a2 x14q (-1) 0))
/-- DunesWalked.inLowestTerms(III)J -/
def X_inLowestTerms_28 (k_5 : pm_H → Int32 → Int32 → Int32 → Int32 → Int32 → Option (pm_H × Int64)) (h : pm_H) (l0 : Int32) (l1 : Int32) (l2 : Int32) (l3 : Int32) (l4 : Int32) : Option (pm_H × Int64) := nmd (l4 + 1) fun y1q => k_5 h l0 l1 l2 l3 y1q
def X_inLowestTerms_5 : Nat → pm_H → Int32 → Int32 → Int32 → Int32 → Int32 → Option (pm_H × Int64)
  | 0, _, _, _, _, _, _ => none
  | n + 1, h, l0, l1, l2, l3, l4 => if l1 < l4 then (if l2 = 0 then (grd (!decide (l3 = 0)) <| some (h, (Int32.toInt64 (l0 / l3)))) else (grd (!decide (l3 = 0)) <| some (h, (Int32.toInt64 (l1 / l3))))) else (grd (!decide (l4 = 0)) <| if (l0 - l0 / l4 * l4) = 0 then (grd (!decide (l4 = 0)) <| if (l1 - l1 / l4 * l4) = 0 then (X_inLowestTerms_28 (X_inLowestTerms_5 n) h l0 l1 l2 l4 l4) else (X_inLowestTerms_28 (X_inLowestTerms_5 n) h l0 l1 l2 l3 l4)) else (X_inLowestTerms_28 (X_inLowestTerms_5 n) h l0 l1 l2 l3 l4))
def X_inLowestTerms (h : pm_H) (a0 : Int32) (a1 : Int32) (a2 : Int32) : Option (pm_H × Int64) := X_inLowestTerms_5 1000 h a0 a1 a2 1 2
/-- DunesWalked.share(II)J -/
def X_share (h : pm_H) (t : Nat) (a1 : Int32) (a2 : Int32) : Option (pm_H × Int64) := bn2 (X_within h a1 0 40) fun h1q x2q => if x2q = 0 then (some (h1q, (-4611686018427387904))) else (bn2 (X_within h1q a2 0 1) fun h4q x5q => if x5q = 0 then (some (h4q, (-4611686018427387904))) else (bnd (op_A h4q t 5 3) fun x7q => bnd x7q fun u8q => bnd (op_J h4q u8q 1 2) fun x9q => if (lg_cmp x9q 0) = 0 then (some (h4q, (-4611686018427387904))) else (bnd (op_A h4q t 5 4) fun x11q => bnd (op_A h4q t 5 3) fun x12q => bnd x11q fun u13q => grd (op_is h4q u13q 1) <| bn2 (L_become h4q u13q x12q) fun h14q _ => grd (op_is h14q t 5) <| bn2 (X_passInThought h14q t a1) fun h17q x18q => bnd (op_A h17q t 5 4) fun x20q => bnd x20q fun u21q => grd (op_is h17q u21q 1) <| bn2 (L_buried h17q u21q) fun h22q x23q => bnd (op_A h22q t 5 3) fun x25q => bnd x25q fun u26q => bnd (op_J h22q u26q 1 2) fun x27q => bn2 (Jl_bitCount h22q x27q) fun h28q x29q => bn2 (X_inLowestTerms h28q x23q x29q a2) fun h30q x31q => some (h30q, x31q))))
/-- DunesWalked.sheetAt(I)LDunesWalked$Sheet; -/
def X_sheetAt (h : pm_H) (t : Nat) (a1 : Int32) : Option (pm_H × Option Nat) := if a1 < 0 then (some (h, none)) else (bnd (op_A h t 5 6) fun x2q => bnd x2q fun u3q => bnd (op_ln h u3q) fun x4q => if x4q ≤ a1 then (some (h, none)) else (bnd (op_A h t 5 6) fun x6q => bnd x6q fun u7q => bnd (op_aA h u7q 3 a1) fun x8q => some (h, x8q)))
/-- DunesWalked.refusalOfSheet(LDunesWalked$Sheet;)I -/
def X_refusalOfSheet (h : pm_H) (a0 : Option Nat) : Option (pm_H × Int32) := (match a0 with | none => some (h, (-2)) | some u2q => bnd (op_I h u2q 3 0) fun x3q => if x3q = (-1) then (some (h, (-11))) else (bnd (op_I h u2q 3 1) fun x5q => if x5q ≤ 20 then (some (h, 0)) else (some (h, (-2)))))
/-- DunesWalked.refusalOf(LDunesWalked$Sheet;I)I -/
def X_refusalOf (h : pm_H) (t : Nat) (a1 : Option Nat) (a2 : Int32) : Option (pm_H × Int32) := bn2 (X_refusalOfSheet h a1) fun h1q x2q => if x2q = 0 then (bnd (op_A h1q t 5 3) fun x4q => bnd x4q fun u5q => grd (op_is h1q u5q 1) <| bn2 (L_standing h1q u5q a2) fun h6q x7q => (match x7q with | none => some (h6q, (-5)) | some u10q => some (h6q, x2q))) else (some (h1q, x2q))
/-- DunesWalked.firstOtherwise(LDunesWalked$Sheet;LDunesWalked$Dune;)I -/
def X_firstOtherwise_12 : Nat → pm_H → Nat → Option Nat → Option Nat → Int32 → Option (pm_H × Int32)
  | 0, _, _, _, _, _ => none
  | n + 1, h, l0, l1, l2, l3 => bnd l1 fun u1q => bnd (op_I h u1q 3 1) fun x2q => if x2q ≤ l3 then (some (h, (-1))) else (bnd (op_A h u1q 3 2) fun x4q => bnd x4q fun u5q => bnd (op_ln h u5q) fun x6q => if x6q ≤ l3 then (some (h, (-1))) else (bnd (op_A h l0 5 4) fun x8q => bnd x8q fun u9q => grd (op_is h u9q 1) <| bn2 (L_pass h u9q) fun h10q _ => bnd (op_A h10q u1q 3 2) fun x13q => bnd x13q fun u14q => bnd (op_aI h10q u14q l3) fun x15q => bnd l2 fun u16q => grd (op_is h10q u16q 0) <| bn2 (D_frontOrGone h10q u16q) fun h17q x18q => if x15q = x18q then (nmd (l3 + 1) fun y21q => X_firstOtherwise_12 n h17q l0 (some u1q) (some u16q) y21q) else (some (h17q, l3))))
def X_firstOtherwise (h : pm_H) (t : Nat) (a1 : Option Nat) (a2 : Option Nat) : Option (pm_H × Int32) := (match a1 with | none => some (h, (-1)) | some u2q => (match a2 with | none => some (h, (-1)) | some u4q => X_firstOtherwise_12 1000 h t (some u2q) (some u4q) 0))
/-- DunesWalked.judge(II)I -/
def X_judge (h : pm_H) (t : Nat) (a1 : Int32) (a2 : Int32) : Option (pm_H × Int32) := grd (op_is h t 5) <| bn2 (X_sheetAt h t a1) fun h1q x2q => grd (op_is h1q t 5) <| bn2 (X_refusalOf h1q t x2q a2) fun h4q x5q => if x5q = 0 then (bnd (op_A h4q t 5 4) fun x8q => bnd (op_A h4q t 5 3) fun x9q => bnd x8q fun u10q => grd (op_is h4q u10q 1) <| bn2 (L_become h4q u10q x9q) fun h11q _ => bnd (op_A h11q t 5 4) fun x14q => bnd x14q fun u15q => grd (op_is h11q u15q 1) <| bn2 (L_standing h11q u15q a2) fun h16q x17q => grd (op_is h16q t 5) <| bn2 (X_firstOtherwise h16q t x2q x17q) fun h19q x20q => some (h19q, x20q)) else (some (h4q, x5q))
/-- DunesWalked.fitsWith(LDunesWalked$Sheet;III)Z -/
def X_fitsWith (h : pm_H) (t : Nat) (a1 : Option Nat) (a2 : Int32) (a3 : Int32) (a4 : Int32) : Option (pm_H × Int32) := bnd (op_A h t 5 4) fun x1q => bnd (op_A h t 5 3) fun x2q => bnd x1q fun u3q => grd (op_is h u3q 1) <| bn2 (L_become h u3q x2q) fun h4q _ => bnd (op_A h4q t 5 4) fun x7q => bnd x7q fun u8q => grd (op_is h4q u8q 1) <| bn2 (L_standing h4q u8q a2) fun h9q x10q => (match x10q with | none => some (h9q, 0) | some u13q => grd (op_is h9q u13q 0) <| bn2 (D_change h9q u13q a3 a4) fun h14q _ => grd (op_is h14q t 5) <| bn2 (X_firstOtherwise h14q t a1 (some u13q)) fun h17q x18q => if x18q = (-1) then (some (h17q, 1)) else (some (h17q, 0)))
/-- DunesWalked.kinds(III)I -/
def X_kinds_88 (k_42 : pm_H → Nat → Int32 → Int32 → Option Nat → Int32 → Int32 → Option (pm_H × Int32)) (h : pm_H) (l0 : Nat) (l2 : Int32) (l3 : Int32) (l4 : Option Nat) (l6 : Int32) (l7 : Int32) : Option (pm_H × Int32) := nmd (l7 + 1) fun y1q => k_42 h l0 l2 l3 l4 l6 y1q
def X_kinds_71 (k_42 : pm_H → Nat → Int32 → Int32 → Option Nat → Int32 → Int32 → Option (pm_H × Int32)) (h : pm_H) (l0 : Nat) (l2 : Int32) (l3 : Int32) (l4 : Option Nat) (l6 : Int32) (l7 : Int32) (s0 : Int32) (s1 : Int32) (s2 : Option Nat) (s3 : Nat) : Option (pm_H × Int32) := grd (op_is h s3 5) <| bn2 (X_fitsWith h s3 s2 s1 s0 l7) fun h1q x2q => if x2q = 0 then (X_kinds_88 k_42 h1q l0 l2 l3 l4 l6 l7) else (nmd (l6 ||| (1 <<< (l7 &&& 31))) fun y5q => X_kinds_88 k_42 h1q l0 l2 l3 l4 y5q l7)
def X_kinds_55 (k_42 : pm_H → Nat → Int32 → Int32 → Option Nat → Int32 → Int32 → Option (pm_H × Int32)) (h : pm_H) (l0 : Nat) (l2 : Int32) (l3 : Int32) (l4 : Option Nat) (l6 : Int32) (l7 : Int32) (s0 : Int32) (s1 : Int32) : Option (pm_H × Int32) := if s0 ≤ s1 then (some (h, l6)) else (if l3 = 0 then (X_kinds_71 k_42 h l0 l2 l3 l4 l6 l7 3 l2 l4 l0) else (X_kinds_71 k_42 h l0 l2 l3 l4 l6 l7 4 l2 l4 l0))
def X_kinds_42 : Nat → pm_H → Nat → Int32 → Int32 → Option Nat → Int32 → Int32 → Option (pm_H × Int32)
  | 0, _, _, _, _, _, _, _ => none
  | n + 1, h, l0, l2, l3, l4, l6, l7 => if l3 = 0 then (X_kinds_55 (X_kinds_42 n) h l0 l2 l3 l4 l6 l7 6 l7) else (X_kinds_55 (X_kinds_42 n) h l0 l2 l3 l4 l6 l7 10 l7)
def X_kinds (h : pm_H) (t : Nat) (a1 : Int32) (a2 : Int32) (a3 : Int32) : Option (pm_H × Int32) := grd (op_is h t 5) <| bn2 (X_sheetAt h t a1) fun h1q x2q => grd (op_is h1q t 5) <| bn2 (X_refusalOf h1q t x2q a2) fun h4q x5q => if x5q = 0 then (bn2 (X_within h4q a3 0 1) fun h8q x9q => if x9q = 0 then (some (h8q, (-7))) else (X_kinds_42 1000 h8q t a2 a3 x2q 0 0)) else (some (h4q, x5q))
/-- DunesWalked.states(IIII)I -/
def X_states_98 (k_58 : pm_H → Nat → Int32 → Int32 → Int32 → Option Nat → Int32 → Int32 → Int32 → Option (pm_H × Int32)) (h : pm_H) (l0 : Nat) (l2 : Int32) (l3 : Int32) (l4 : Int32) (l5 : Option Nat) (l7 : Int32) (l8 : Int32) (l9 : Int32) : Option (pm_H × Int32) := nmd (l9 + 1) fun y1q => k_58 h l0 l2 l3 l4 l5 l7 l8 y1q
def X_states_96 (k_58 : pm_H → Nat → Int32 → Int32 → Int32 → Option Nat → Int32 → Int32 → Int32 → Option (pm_H × Int32)) (h : pm_H) (l0 : Nat) (l2 : Int32) (l3 : Int32) (l4 : Int32) (l5 : Option Nat) (l7 : Int32) (l9 : Int32) (s0 : Int32) : Option (pm_H × Int32) := X_states_98 k_58 h l0 l2 l3 l4 l5 l7 s0 l9
def X_states_58 : Nat → pm_H → Nat → Int32 → Int32 → Int32 → Option Nat → Int32 → Int32 → Int32 → Option (pm_H × Int32)
  | 0, _, _, _, _, _, _, _, _, _ => none
  | n + 1, h, l0, l2, l3, l4, l5, l7, l8, l9 => bn2 (X_mostOf h l3) fun h1q x2q => if x2q < l9 then (if l4 = 0 then (some (h1q, l7)) else (some (h1q, l8))) else (grd (op_is h1q l0 5) <| bn2 (X_fitsWith h1q l0 l5 l2 l3 l9) fun h5q x6q => if x6q = 0 then (X_states_98 (X_states_58 n) h5q l0 l2 l3 l4 l5 l7 l8 l9) else (nmd (l7 + 1) fun y9q => if l8 = (-1) then (X_states_96 (X_states_58 n) h5q l0 l2 l3 l4 l5 y9q l9 l9) else (X_states_96 (X_states_58 n) h5q l0 l2 l3 l4 l5 y9q l9 l8)))
def X_states (h : pm_H) (t : Nat) (a1 : Int32) (a2 : Int32) (a3 : Int32) (a4 : Int32) : Option (pm_H × Int32) := grd (op_is h t 5) <| bn2 (X_sheetAt h t a1) fun h1q x2q => grd (op_is h1q t 5) <| bn2 (X_refusalOf h1q t x2q a2) fun h4q x5q => if x5q = 0 then (bn2 (X_within h4q a3 0 2) fun h8q x9q => if x9q = 0 then (some (h8q, (-7))) else (bn2 (X_within h8q a4 0 1) fun h11q x12q => if x12q = 0 then (some (h11q, (-7))) else (bn2 (X_leastOf h11q a3) fun h14q x15q => X_states_58 1000 h14q t a2 a3 a4 x2q 0 (-1) x15q))) else (some (h4q, x5q))
/-- DunesWalked.whose(I)I -/
def X_whose_82 (k_23 : pm_H → Nat → Option Nat → Int32 → Int32 → Option (pm_H × Int32)) (h : pm_H) (l0 : Nat) (l2 : Option Nat) (l4 : Int32) (l5 : Int32) : Option (pm_H × Int32) := nmd (l5 + 1) fun y1q => k_23 h l0 l2 l4 y1q
def X_whose_23 : Nat → pm_H → Nat → Option Nat → Int32 → Int32 → Option (pm_H × Int32)
  | 0, _, _, _, _, _ => none
  | n + 1, h, l0, l2, l4, l5 => bnd (op_A h l0 5 3) fun x1q => bnd x1q fun u2q => bnd (op_I h u2q 1 1) fun x3q => if x3q ≤ l5 then (some (h, l4)) else (bnd (op_A h l0 5 4) fun x5q => bnd (op_A h l0 5 3) fun x6q => bnd x5q fun u7q => grd (op_is h u7q 1) <| bn2 (L_become h u7q x6q) fun h8q _ => bnd (op_A h8q l0 5 4) fun x11q => bnd x11q fun u12q => grd (op_is h8q u12q 1) <| bn2 (L_standing h8q u12q l5) fun h13q x14q => (match x14q with | none => X_whose_82 (X_whose_23 n) h13q l0 l2 l4 l5 | some u17q => grd (op_is h13q l0 5) <| bn2 (X_firstOtherwise h13q l0 l2 (some u17q)) fun h18q x19q => if x19q = (-1) then (nmd (l4 ||| (1 <<< (l5 &&& 31))) fun y22q => X_whose_82 (X_whose_23 n) h18q l0 l2 y22q l5) else (X_whose_82 (X_whose_23 n) h18q l0 l2 l4 l5)))
def X_whose (h : pm_H) (t : Nat) (a1 : Int32) : Option (pm_H × Int32) := grd (op_is h t 5) <| bn2 (X_sheetAt h t a1) fun h1q x2q => bn2 (X_refusalOfSheet h1q x2q) fun h4q x5q => if x5q = 0 then (X_whose_23 1000 h4q t x2q 0 0) else (some (h4q, x5q))
/-- DunesWalked.fitsUnder(LDunesWalked$Sheet;ILDunesWalked$Law;)Z -/
def X_fitsUnder (h : pm_H) (t : Nat) (a1 : Option Nat) (a2 : Int32) (a3 : Option Nat) : Option (pm_H × Int32) := (match a3 with | none => some (h, 0) | some u2q => bnd (op_A h t 5 4) fun x3q => bnd (op_A h t 5 3) fun x4q => bnd x3q fun u5q => grd (op_is h u5q 1) <| bn2 (L_become h u5q x4q) fun h6q _ => bnd (op_A h6q t 5 4) fun x9q => bnd x9q fun u10q => bnd (op_S h6q u10q 1 5 (.ref u2q)) fun h11q => bnd (op_A h11q t 5 4) fun x12q => bnd x12q fun u13q => grd (op_is h11q u13q 1) <| bn2 (L_standing h11q u13q a2) fun h14q x15q => grd (op_is h14q t 5) <| bn2 (X_firstOtherwise h14q t a1 x15q) fun h17q x18q => if x18q = (-1) then (some (h17q, 1)) else (some (h17q, 0)))
/-- DunesWalked.laws(II)I -/
def X_laws_61 (k_28 : pm_H → Nat → Int32 → Option Nat → Int32 → Int32 → Option (pm_H × Int32)) (h : pm_H) (l0 : Nat) (l2 : Int32) (l3 : Option Nat) (l5 : Int32) (l6 : Int32) : Option (pm_H × Int32) := nmd (l6 + 1) fun y1q => k_28 h l0 l2 l3 l5 y1q
def X_laws_28 : Nat → pm_H → Nat → Int32 → Option Nat → Int32 → Int32 → Option (pm_H × Int32)
  | 0, _, _, _, _, _, _ => none
  | n + 1, h, l0, l2, l3, l5, l6 => bnd (op_I h l0 5 1) fun x1q => if x1q ≤ l6 then (some (h, l5)) else (grd (op_is h l0 5) <| bn2 (X_lawAt h l0 l6) fun h3q x4q => grd (op_is h3q l0 5) <| bn2 (X_fitsUnder h3q l0 l3 l2 x4q) fun h6q x7q => if x7q = 0 then (X_laws_61 (X_laws_28 n) h6q l0 l2 l3 l5 l6) else (nmd (l5 ||| (1 <<< (l6 &&& 31))) fun y10q => X_laws_61 (X_laws_28 n) h6q l0 l2 l3 y10q l6))
def X_laws (h : pm_H) (t : Nat) (a1 : Int32) (a2 : Int32) : Option (pm_H × Int32) := grd (op_is h t 5) <| bn2 (X_sheetAt h t a1) fun h1q x2q => grd (op_is h1q t 5) <| bn2 (X_refusalOf h1q t x2q a2) fun h4q x5q => if x5q = 0 then (X_laws_28 1000 h4q t a2 x2q 0 0) else (some (h4q, x5q))
/-- DunesWalked.film(III)I -/
def X_film_73 : Nat → pm_H → Nat → Int32 → Option Nat → Option Nat → Int32 → Option (pm_H × Int32)
  | 0, _, _, _, _, _, _ => none
  | n + 1, h, l0, l3, l4, l5, l6 => if l3 ≤ l6 then (some (h, l3)) else ((match l5 with | none => some (h, l3) | some u3q => bnd (op_A h l0 5 4) fun x4q => bnd x4q fun u5q => grd (op_is h u5q 1) <| bn2 (L_pass h u5q) fun h6q _ => grd (op_is h6q u3q 0) <| bn2 (D_frontOrGone h6q u3q) fun h9q x10q => bnd l4 fun u12q => grd (op_is h9q u12q 3) <| bn2 (S_write h9q u12q l6 x10q) fun h13q _ => nmd (l6 + 1) fun y16q => X_film_73 n h13q l0 l3 (some u12q) (some u3q) y16q))
def X_film (h : pm_H) (t : Nat) (a1 : Int32) (a2 : Int32) (a3 : Int32) : Option (pm_H × Int32) := grd (op_is h t 5) <| bn2 (X_sheetAt h t a1) fun h1q x2q => (match x2q with | none => some (h1q, (-2)) | some u5q => bnd (op_A h1q t 5 3) fun x6q => bnd x6q fun u7q => grd (op_is h1q u7q 1) <| bn2 (L_standing h1q u7q a2) fun h8q x9q => (match x9q with | none => some (h8q, (-5)) | some u12q => bn2 (X_within h8q a3 0 20) fun h13q x14q => if x14q = 0 then (some (h13q, (-7))) else (grd (op_is h13q u5q 3) <| bn2 (S_becomeRow h13q u5q 0 a3) fun h16q _ => bnd (op_A h16q t 5 4) fun x19q => bnd (op_A h16q t 5 3) fun x20q => bnd x19q fun u21q => grd (op_is h16q u21q 1) <| bn2 (L_become h16q u21q x20q) fun h22q _ => bnd (op_A h22q t 5 4) fun x25q => bnd x25q fun u26q => grd (op_is h22q u26q 1) <| bn2 (L_standing h22q u26q a2) fun h27q x28q => X_film_73 1000 h27q t a3 (some u5q) x28q 0)))
/-- DunesWalked.blowInThought(I)I -/
def X_blowInThought_79 (k_21 : pm_H → Nat → Int32 → Int64 → Int32 → Option (pm_H × Int32)) (h : pm_H) (l0 : Nat) (l2 : Int32) (l3 : Int64) (l5 : Int32) : Option (pm_H × Int32) := grd (op_is h l0 5) <| bn2 (X_passInThought h l0 1) fun h1q x2q => nmd (l2 + x2q) fun y4q => nmd (l5 + 1) fun y5q => k_21 h1q l0 y4q l3 y5q
def X_blowInThought_21 : Nat → pm_H → Nat → Int32 → Int64 → Int32 → Option (pm_H × Int32)
  | 0, _, _, _, _, _ => none
  | n + 1, h, l0, l2, l3, l5 => if 6 ≤ l5 then (some (h, l2)) else (nmd ((l3 * 48271) - (l3 * 48271) / 2147483647 * 2147483647) fun y2q => bnd (op_A h l0 5 4) fun x3q => bnd x3q fun u4q => grd (op_is h u4q 1) <| bn2 (L_standing h u4q (Int64.toInt32 (y2q - y2q / 6 * 6))) fun h5q x6q => nmd ((y2q * 48271) - (y2q * 48271) / 2147483647 * 2147483647) fun y8q => (match x6q with | none => X_blowInThought_79 (X_blowInThought_21 n) h5q l0 l2 y8q l5 | some u10q => grd (op_is h5q u10q 0) <| bn2 (D_walk h5q u10q (Int64.toInt32 (y8q - y8q / 4 * 4))) fun h11q _ => X_blowInThought_79 (X_blowInThought_21 n) h11q l0 l2 y8q l5))
def X_blowInThought (h : pm_H) (t : Nat) (a1 : Int32) : Option (pm_H × Int32) := bnd (op_A h t 5 4) fun x1q => bnd (op_A h t 5 3) fun x2q => bnd x1q fun u3q => grd (op_is h u3q 1) <| bn2 (L_become h u3q x2q) fun h4q _ => nmd ((Int32.toInt64 a1) + 1) fun y7q => X_blowInThought_21 1000 h4q t 0 y7q 0
/-- DunesWalked.drawn(II)I -/
def X_drawn (h : pm_H) (t : Nat) (a1 : Int32) (a2 : Int32) : Option (pm_H × Int32) := bn2 (X_within h a1 0 99999) fun h1q x2q => if x2q = 0 then (some (h1q, (-2))) else (bn2 (X_within h1q a2 0 1) fun h4q x5q => if x5q = 0 then (some (h4q, (-2))) else (grd (op_is h4q t 5) <| bn2 (X_blowInThought h4q t a1) fun h7q x8q => if a2 = 0 then (some (h7q, x8q)) else (bnd (op_A h7q t 5 4) fun x11q => bnd x11q fun u12q => grd (op_is h7q u12q 1) <| bn2 (L_living h7q u12q) fun h13q x14q => some (h13q, x14q))))
/-- DunesWalked.odds(IIII)J -/
def X_odds_84 (k_63 : pm_H → Nat → Int32 → Int32 → Int32 → Int32 → Int32 → Int32 → Option (pm_H × Int64)) (h : pm_H) (l0 : Nat) (l1 : Int32) (l2 : Int32) (l3 : Int32) (l4 : Int32) (l6 : Int32) (l7 : Int32) : Option (pm_H × Int64) := nmd (l7 + 1) fun y1q => k_63 h l0 l1 l2 l3 l4 l6 y1q
def X_odds_63 : Nat → pm_H → Nat → Int32 → Int32 → Int32 → Int32 → Int32 → Int32 → Option (pm_H × Int64)
  | 0, _, _, _, _, _, _, _, _ => none
  | n + 1, h, l0, l1, l2, l3, l4, l6, l7 => if l2 ≤ l7 then (bn2 (X_inLowestTerms h l6 l2 l4) fun h2q x3q => some (h2q, x3q)) else (grd (op_is h l0 5) <| bn2 (X_blowInThought h l0 (l1 + l7)) fun h4q x5q => if x5q < l3 then (X_odds_84 (X_odds_63 n) h4q l0 l1 l2 l3 l4 l6 l7) else (nmd (l6 + 1) fun y8q => X_odds_84 (X_odds_63 n) h4q l0 l1 l2 l3 l4 y8q l7))
def X_odds_25 (h : pm_H) (l0 : Nat) (l1 : Int32) (l2 : Int32) (l3 : Int32) (l4 : Int32) (s0 : Int32) : Option (pm_H × Int64) := if s0 = 0 then (some (h, (-4611686018427387904))) else (bn2 (X_within h l3 0 999) fun h2q x3q => if x3q = 0 then (some (h2q, (-4611686018427387904))) else (bn2 (X_within h2q l4 0 1) fun h5q x6q => if x6q = 0 then (some (h5q, (-4611686018427387904))) else (X_odds_63 1000 h5q l0 l1 l2 l3 l4 0 0)))
def X_odds_24 (h : pm_H) (l0 : Nat) (l1 : Int32) (l2 : Int32) (l3 : Int32) (l4 : Int32) : Option (pm_H × Int64) := X_odds_25 h l0 l1 l2 l3 l4 0
def X_odds (h : pm_H) (t : Nat) (a1 : Int32) (a2 : Int32) (a3 : Int32) (a4 : Int32) : Option (pm_H × Int64) := bn2 (X_within h a1 0 99999) fun h1q x2q => if x2q = 0 then (X_odds_24 h1q t a1 a2 a3 a4) else (bn2 (X_within h1q a2 1 40) fun h4q x5q => if x5q = 0 then (X_odds_24 h4q t a1 a2 a3 a4) else (X_odds_25 h4q t a1 a2 a3 a4 1))
/-- DunesWalked.image()I -/
def X_image_25 (h : pm_H) (l0 : Nat) : Option (pm_H × Int32) := bnd (op_A h l0 5 5) fun x1q => bnd (op_A h l0 5 3) fun x2q => bnd x1q fun u3q => grd (op_is h u3q 1) <| bn2 (L_become h u3q x2q) fun h4q _ => bnd (op_A h4q l0 5 5) fun x7q => bnd x7q fun u8q => bnd (op_I h4q u8q 1 1) fun x9q => some (h4q, x9q)
def X_image (h : pm_H) (t : Nat) : Option (pm_H × Int32) := bnd (op_A h t 5 5) fun x1q => (match x1q with | none => nmd (List.length h) fun b5q => nmd (h ++ [.inr (1, pm_new 1)]) fun h4q => bnd (op_A h4q t 5 3) fun x6q => bnd x6q fun u7q => bnd (op_A h4q u7q 1 5) fun x8q => bn2 (L_init h4q b5q x8q) fun h9q _ => bnd (op_S h9q t 5 5 (.ref b5q)) fun h11q => X_image_25 h11q t | some u3q => X_image_25 h t)
/-- DunesWalked.back()I -/
def X_back (h : pm_H) (t : Nat) : Option (pm_H × Int32) := bnd (op_A h t 5 5) fun x1q => (match x1q with | none => some (h, (-3)) | some u3q => bnd (op_A h t 5 3) fun x4q => bnd (op_A h t 5 5) fun x5q => bnd x4q fun u6q => grd (op_is h u6q 1) <| bn2 (L_become h u6q x5q) fun h7q _ => bnd (op_A h7q t 5 3) fun x10q => bnd x10q fun u11q => bnd (op_I h7q u11q 1 1) fun x12q => some (h7q, x12q))
/-- DunesWalked.sheet(III)I -/
def X_sheet (h : pm_H) (t : Nat) (a1 : Int32) (a2 : Int32) (a3 : Int32) : Option (pm_H × Int32) := grd (op_is h t 5) <| bn2 (X_sheetAt h t a1) fun h1q x2q => (match x2q with | none => some (h1q, (-2)) | some u5q => bn2 (X_within h1q a2 (-1) 2) fun h6q x7q => if x7q = 0 then (some (h6q, (-2))) else (if a2 = (-1) then (grd (op_is h6q u5q 3) <| bn2 (S_becomeRow h6q u5q (-1) 0) fun h15q _ => some (h15q, 1)) else (if a3 ≤ 40 then (if (0 : Int32) ≤ a3 then (grd (op_is h6q u5q 3) <| bn2 (S_becomeRow h6q u5q a2 a3) fun h12q _ => some (h12q, 1)) else (some (h6q, (-14)))) else (some (h6q, (-2))))))
/-- DunesWalked.cell(III)I -/
def X_cell (h : pm_H) (t : Nat) (a1 : Int32) (a2 : Int32) (a3 : Int32) : Option (pm_H × Int32) := grd (op_is h t 5) <| bn2 (X_sheetAt h t a1) fun h1q x2q => (match x2q with | none => some (h1q, (-2)) | some u5q => bnd (op_I h1q u5q 3 0) fun x6q => if x6q = (-1) then (some (h1q, (-11))) else (bnd (op_I h1q u5q 3 1) fun x8q => bn2 (X_within h1q a2 0 (x8q - 1)) fun h9q x10q => if x10q = 0 then (some (h9q, (-12))) else (grd (op_is h9q u5q 3) <| bn2 (S_write h9q u5q a2 a3) fun h12q _ => some (h12q, 1))))
/-- DunesWalked.copy(IIIII)I -/
def X_copy (h : pm_H) (t : Nat) (a1 : Int32) (a2 : Int32) (a3 : Int32) (a4 : Int32) (a5 : Int32) : Option (pm_H × Int32) := grd (op_is h t 5) <| bn2 (X_sheetAt h t a1) fun h1q x2q => grd (op_is h1q t 5) <| bn2 (X_sheetAt h1q t a3) fun h4q x5q => (match x2q with | none => some (h4q, (-2)) | some u8q => (match x5q with | none => some (h4q, (-2)) | some u10q => bnd (op_I h4q u8q 3 0) fun x11q => if x11q = (-1) then (some (h4q, (-11))) else (bnd (op_I h4q u10q 3 0) fun x13q => if x13q = (-1) then (some (h4q, (-11))) else (bnd (op_I h4q u8q 3 0) fun x15q => bnd (op_I h4q u10q 3 0) fun x16q => if x15q = x16q then (grd (op_is h4q u8q 3) <| bn2 (S_hasPlaces h4q u8q a2 a5) fun h18q x19q => if x19q = 0 then (some (h18q, (-12))) else (grd (op_is h18q u10q 3) <| bn2 (S_hasPlaces h18q u10q a4 a5) fun h22q x23q => if x23q = 0 then (some (h22q, (-12))) else (bnd (op_A h22q u8q 3 2) fun x26q => bnd (op_A h22q u10q 3 2) fun x27q => bnd x26q fun u28q => bnd x27q fun u29q => bnd (op_cp h22q u28q a2 u29q a4 a5) fun h30q => some (h30q, a5)))) else (some (h4q, (-13)))))))
/-- DunesWalked.dunesBy(IIII)I -/
def X_dunesBy_122 (k_65 : pm_H → Nat → Int32 → Int32 → Option Nat → Int32 → Int32 → Option (pm_H × Int32)) (h : pm_H) (l0 : Nat) (l3 : Int32) (l4 : Int32) (l5 : Option Nat) (l6 : Int32) (l7 : Int32) : Option (pm_H × Int32) := nmd (l7 + 1) fun y1q => k_65 h l0 l3 l4 l5 l6 y1q
def X_dunesBy_65 : Nat → pm_H → Nat → Int32 → Int32 → Option Nat → Int32 → Int32 → Option (pm_H × Int32)
  | 0, _, _, _, _, _, _, _ => none
  | n + 1, h, l0, l3, l4, l5, l6, l7 => if l4 ≤ l7 then (some (h, l6)) else (nmd (l3 + (2 * l7)) fun y2q => bnd l5 fun u3q => grd (op_is h u3q 3) <| bn2 (S_hasPlaces h u3q y2q 2) fun h4q x5q => if x5q = 0 then (some (h4q, (-12))) else (bnd (op_A h4q u3q 3 2) fun x8q => bnd x8q fun u9q => bnd (op_aI h4q u9q y2q) fun x10q => bnd (op_A h4q u3q 3 2) fun x11q => bnd x11q fun u12q => bnd (op_aI h4q u12q (y2q + 1)) fun x13q => grd (op_is h4q l0 5) <| bn2 (X_dune h4q l0 x10q x13q) fun h14q x15q => if x15q < 0 then (X_dunesBy_122 (X_dunesBy_65 n) h14q l0 l3 l4 (some u3q) l6 l7) else (nmd (l6 + 1) fun y18q => X_dunesBy_122 (X_dunesBy_65 n) h14q l0 l3 l4 (some u3q) y18q l7)))
def X_dunesBy (h : pm_H) (t : Nat) (a1 : Int32) (a2 : Int32) (a3 : Int32) (a4 : Int32) : Option (pm_H × Int32) := grd (op_is h t 5) <| bn2 (X_sheetAt h t a1) fun h1q x2q => (match x2q with | none => some (h1q, (-2)) | some u5q => bn2 (X_within h1q a2 0 2) fun h6q x7q => if x7q = 0 then (some (h6q, (-2))) else (bn2 (X_within h6q a4 0 6) fun h9q x10q => if x10q = 0 then (some (h9q, (-2))) else (bnd (op_I h9q u5q 3 0) fun x12q => if x12q = (-1) then (some (h9q, (-11))) else (bnd (op_I h9q u5q 3 0) fun x14q => if x14q = a2 then (X_dunesBy_65 1000 h9q t a3 a4 (some u5q) 0 0) else (some (h9q, (-13)))))))
/-- DunesWalked.taken(II)I -/
def X_taken (h : pm_H) (t : Nat) (a1 : Int32) (a2 : Int32) : Option (pm_H × Int32) := bn2 (X_within h a2 0 6) fun h1q x2q => if x2q = 0 then (some (h1q, (-2))) else (bn2 (X_within h1q a1 0 11) fun h4q x5q => if x5q = 0 then (some (h4q, (-12))) else (nmd (a1 - a1 / 6 * 6) fun y7q => bnd (op_A h4q t 5 3) fun x8q => bnd x8q fun u9q => bnd (op_I h4q u9q 1 1) fun x10q => if y7q < x10q then (bnd (op_A h4q t 5 3) fun x12q => bnd x12q fun u13q => bnd (op_A h4q u13q 1 0) fun x14q => bnd x14q fun u15q => bnd (op_aA h4q u15q 0 y7q) fun x16q => if a1 < 6 then (if a2 = 6 then (some (h4q, (-13))) else (bnd x16q fun u19q => grd (op_is h4q u19q 0) <| bn2 (D_isOf h4q u19q a2) fun h20q x21q => if x21q = 0 then (some (h20q, (-13))) else (some (h20q, y7q)))) else (if a2 = 6 then (bnd x16q fun u25q => bnd (op_I h4q u25q 0 5) fun x26q => some (h4q, x26q)) else (some (h4q, (-13))))) else (some (h4q, (-11)))))
theorem P_X_init_42 {d : Nat} {h' : pm_H} {r : Unit} (n : Nat) : ∀ (h : pm_H) (l0 : Nat) (l1 : Int32), X_init_42 n h l0 l1 = some (h', r) → pm_run (pm_ev (d + 2)) 55 42 [.ref l0, .int l1] [] h (fun r1 h1 => r1 = none ∧ h1 = h') := by
  induction n with
  | zero => intro h l0 l1 hB; cases hB
  | succ n ih =>
    intro h l0 l1 hB
    unfold X_init_42 at hB
    refine r_iload_n f55_42 rfl ?_
    refine r_aload_nN f55_43 rfl ?_
    replace hB := bnd_some hB
    obtain ⟨x1q, ex1q, hB⟩ := hB
    refine r_getA f55_44 fa_5_24 ex1q ?_
    replace hB := bnd_some hB
    obtain ⟨u2q, rfl, hB⟩ := hB
    replace hB := bnd_some hB
    obtain ⟨x3q, ex3q, hB⟩ := hB
    refine r_ln f55_47 ex3q ?_
    by_cases c4q : x3q ≤ l1
    · rw [if_pos c4q] at hB
      refine r_ic_t (t := 70) f55_48 (by decide) c4q ?_
      refine r_new (ci := 2) f55_70 rfl ?_
      obtain ⟨b6q, hb6q⟩ : ∃ z, z = List.length h := ⟨_, rfl⟩
      replace hB := nmd_at hb6q hB
      obtain ⟨h5q, hh5q⟩ : ∃ z, z = h ++ [.inr (2, pm_new 2)] := ⟨_, rfl⟩
      replace hB := nmd_at hh5q hB
      rw [← hb6q, ← hh5q]
      refine r_dupN f55_73 ?_
      refine r_iconst f55_74 ci_0 ?_
      refine r_iconst f55_75 ci_1 ?_
      replace hB := bnd_some hB
      obtain ⟨h7q, eh7q, hB⟩ := hB
      refine r_nI f55_76 eh7q ?_
      obtain ⟨b8q, hb8q⟩ : ∃ z, z = List.length h5q := ⟨_, rfl⟩
      replace hB := nmd_at hb8q hB
      rw [← hb8q]
      refine r_dupN f55_78 ?_
      refine r_iconst f55_79 ci_0 ?_
      refine r_iconst f55_80 ci_2 ?_
      replace hB := bnd_some hB
      obtain ⟨h9q, eh9q, hB⟩ := hB
      refine r_sI f55_81 eh9q ?_
      refine r_iconst f55_82 ci_5 ?_
      replace hB := bnd_some hB
      obtain ⟨h10q, eh10q, hB⟩ := hB
      refine r_nI f55_83 eh10q ?_
      obtain ⟨b11q, hb11q⟩ : ∃ z, z = List.length h9q := ⟨_, rfl⟩
      replace hB := nmd_at hb11q hB
      rw [← hb11q]
      refine r_dupN f55_85 ?_
      refine r_iconst f55_86 ci_0 ?_
      refine r_iconst f55_87 ci_1 ?_
      replace hB := bnd_some hB
      obtain ⟨h12q, eh12q, hB⟩ := hB
      refine r_sI f55_88 eh12q ?_
      refine r_dupN f55_89 ?_
      refine r_iconst f55_90 ci_1 ?_
      refine r_bipush f55_91 cb_9 ?_
      replace hB := bnd_some hB
      obtain ⟨h13q, eh13q, hB⟩ := hB
      refine r_sI f55_93 eh13q ?_
      refine r_dupN f55_94 ?_
      refine r_iconst f55_95 ci_2 ?_
      refine r_sipush f55_96 cs_10003 ?_
      replace hB := bnd_some hB
      obtain ⟨h14q, eh14q, hB⟩ := hB
      refine r_sI f55_99 eh14q ?_
      refine r_dupN f55_100 ?_
      refine r_iconst f55_101 ci_3 ?_
      refine r_sipush f55_102 cs_10012 ?_
      replace hB := bnd_some hB
      obtain ⟨h15q, eh15q, hB⟩ := hB
      refine r_sI f55_105 eh15q ?_
      refine r_dupN f55_106 ?_
      refine r_iconst f55_107 ci_4 ?_
      refine r_sipush f55_108 cs_10011 ?_
      replace hB := bnd_some hB
      obtain ⟨h16q, eh16q, hB⟩ := hB
      refine r_sI f55_111 eh16q ?_
      refine r_iconst f55_112 ci_1 ?_
      replace hB := bnd_some hB
      obtain ⟨h17q, eh17q, hB⟩ := hB
      refine r_nI f55_113 eh17q ?_
      obtain ⟨b18q, hb18q⟩ : ∃ z, z = List.length h16q := ⟨_, rfl⟩
      replace hB := nmd_at hb18q hB
      rw [← hb18q]
      refine r_dupN f55_115 ?_
      refine r_iconst f55_116 ci_0 ?_
      refine r_iconst f55_117 ci_1 ?_
      replace hB := bnd_some hB
      obtain ⟨h19q, eh19q, hB⟩ := hB
      refine r_sI f55_118 eh19q ?_
      replace hB := bn2_some hB
      obtain ⟨h20q, _, eh20q, hB⟩ := hB
      refine r_ctor (as := [.int 0, .ref b8q, .ref b11q, .ref b18q]) (q := pm_m_28) f55_119 ca_5_33 rfl (by decide) rfl rfl (cs_len (Nat.le_of_ble_eq_true rfl)) (P_W_init (d := d + 1) eh20q) ?_
      refine r_astore_nN (L' := [.ref l0, .ref b6q]) f55_122 (Nat.le_of_ble_eq_true rfl) rfl ?_
      refine r_aload_nN f55_123 rfl ?_
      replace hB := bnd_some hB
      obtain ⟨x22q, ex22q, hB⟩ := hB
      refine r_getA f55_124 fa_5_11 ex22q ?_
      refine r_iconst f55_127 ci_0 ?_
      refine r_aload_nN f55_128 rfl ?_
      replace hB := bnd_some hB
      obtain ⟨u23q, rfl, hB⟩ := hB
      replace hB := bnd_some hB
      obtain ⟨h24q, eh24q, hB⟩ := hB
      refine r_sA 2 f55_129 et_2 eh24q ?_
      refine r_aload_nN f55_130 rfl ?_
      refine r_iconst f55_131 ci_1 ?_
      replace hB := bnd_some hB
      obtain ⟨h25q, eh25q, hB⟩ := hB
      refine r_put f55_132 fa_5_36 ty_5_1 rfl rfl (no_fin (nf_5_1)) eh25q ?_
      refine r_aload_nN f55_135 rfl ?_
      refine r_new (ci := 1) f55_136 rfl ?_
      obtain ⟨b27q, hb27q⟩ : ∃ z, z = List.length h25q := ⟨_, rfl⟩
      replace hB := nmd_at hb27q hB
      obtain ⟨h26q, hh26q⟩ : ∃ z, z = h25q ++ [.inr (1, pm_new 1)] := ⟨_, rfl⟩
      replace hB := nmd_at hh26q hB
      rw [← hb27q, ← hh26q]
      refine r_dupN f55_139 ?_
      refine r_aload_nN f55_140 rfl ?_
      replace hB := bn2_some hB
      obtain ⟨h28q, _, eh28q, hB⟩ := hB
      refine r_ctor (as := [.ref b6q]) (q := pm_m_9) f55_141 ca_5_42 rfl (by decide) rfl rfl (cs_len (Nat.le_of_ble_eq_true rfl)) (P_L_init (d := d + 0) eh28q) ?_
      replace hB := bnd_some hB
      obtain ⟨h30q, eh30q, hB⟩ := hB
      refine r_put f55_144 fa_5_45 ty_5_3 rfl rfl (fun _ => ⟨in_55, rfl⟩) eh30q ?_
      refine r_aload_nN f55_147 rfl ?_
      refine r_new (ci := 1) f55_148 rfl ?_
      obtain ⟨b32q, hb32q⟩ : ∃ z, z = List.length h30q := ⟨_, rfl⟩
      replace hB := nmd_at hb32q hB
      obtain ⟨h31q, hh31q⟩ : ∃ z, z = h30q ++ [.inr (1, pm_new 1)] := ⟨_, rfl⟩
      replace hB := nmd_at hh31q hB
      rw [← hb32q, ← hh31q]
      refine r_dupN f55_151 ?_
      refine r_aload_nN f55_152 rfl ?_
      replace hB := bn2_some hB
      obtain ⟨h33q, _, eh33q, hB⟩ := hB
      refine r_ctor (as := [.ref b6q]) (q := pm_m_9) f55_153 ca_5_42 rfl (by decide) rfl rfl (cs_len (Nat.le_of_ble_eq_true rfl)) (P_L_init (d := d + 0) eh33q) ?_
      replace hB := bnd_some hB
      obtain ⟨h35q, eh35q, hB⟩ := hB
      refine r_put f55_156 fa_5_49 ty_5_4 rfl rfl (fun _ => ⟨in_55, rfl⟩) eh35q ?_
      exact r_vret pm_m_55 f55_159 rfl rfl (zV hB)
    · rw [if_neg c4q] at hB
      refine r_ic_f 70 f55_48 (by decide) c4q ?_
      refine r_aload_nN f55_51 rfl ?_
      replace hB := bnd_some hB
      obtain ⟨x36q, ex36q, hB⟩ := hB
      refine r_getA f55_52 fa_5_24 ex36q ?_
      refine r_iload_n f55_55 rfl ?_
      refine r_new (ci := 3) f55_56 rfl ?_
      obtain ⟨b38q, hb38q⟩ : ∃ z, z = List.length h := ⟨_, rfl⟩
      replace hB := nmd_at hb38q hB
      obtain ⟨h37q, hh37q⟩ : ∃ z, z = h ++ [.inr (3, pm_new 3)] := ⟨_, rfl⟩
      replace hB := nmd_at hh37q hB
      rw [← hb38q, ← hh37q]
      refine r_dupN f55_59 ?_
      replace hB := bn2_some hB
      obtain ⟨h39q, _, eh39q, hB⟩ := hB
      refine r_ctor (as := []) (q := pm_m_29) f55_60 ca_5_32 rfl (by decide) rfl rfl (cs_len (Nat.le_of_ble_eq_true rfl)) (P_S_init (d := d + 1) eh39q) ?_
      replace hB := bnd_some hB
      obtain ⟨u41q, rfl, hB⟩ := hB
      replace hB := bnd_some hB
      obtain ⟨h42q, eh42q, hB⟩ := hB
      refine r_sA 3 f55_63 et_3 eh42q ?_
      obtain ⟨y43q, hy43q⟩ : ∃ z, z = l1 + 1 := ⟨_, rfl⟩
      replace hB := nmd_at hy43q hB
      refine r_iinc (L' := [.ref l0, .int y43q]) (x := y43q) f55_64 rfl (hy43q.trans (congrArg (l1 + ·) ci_1.symm)) rfl ?_
      refine r_goto (t := 42) f55_67 (by decide) ?_
      exact pm_weak (L' := [.ref l0, .int y43q]) ⟨.inr rfl, .inr rfl, trivial⟩ (ih h42q l0 y43q hB)
theorem P_X_init {d : Nat} {h h' : pm_H} {r : Unit} {t : Nat} (hB : X_init h t = some (h', r)) : pm_ev (d + 3) 55 [.ref t] h none h' := by
  unfold X_init at hB
  refine pm_ev_mk (L := [.ref t, pm_J]) pm_m_55 rfl (Nat.le_of_ble_eq_true rfl) rfl ?_
  refine r_aload_nN f55_0 rfl ?_
  refine r_obj f55_1 (e := 81) rfl (cs_len (Nat.le_of_ble_eq_true rfl)) ?_
  refine r_aload_nN f55_4 rfl ?_
  refine r_bipush f55_5 cb_6 ?_
  replace hB := bnd_some hB
  obtain ⟨h1q, eh1q, hB⟩ := hB
  refine r_nA (t := 2) f55_7 et_2 rfl eh1q ?_
  obtain ⟨b2q, hb2q⟩ : ∃ z, z = List.length h := ⟨_, rfl⟩
  replace hB := nmd_at hb2q hB
  rw [← hb2q]
  replace hB := bnd_some hB
  obtain ⟨h3q, eh3q, hB⟩ := hB
  refine r_put f55_10 fa_5_11 ty_5_0 rfl rfl (fun _ => ⟨in_55, rfl⟩) eh3q ?_
  refine r_aload_nN f55_13 rfl ?_
  refine r_new (ci := 4) f55_14 rfl ?_
  obtain ⟨b5q, hb5q⟩ : ∃ z, z = List.length h3q := ⟨_, rfl⟩
  replace hB := nmd_at hb5q hB
  obtain ⟨h4q, hh4q⟩ : ∃ z, z = h3q ++ [.inr (4, pm_new 4)] := ⟨_, rfl⟩
  replace hB := nmd_at hh4q hB
  rw [← hb5q, ← hh4q]
  refine r_dupN f55_17 ?_
  replace hB := bn2_some hB
  obtain ⟨h6q, _, eh6q, hB⟩ := hB
  refine r_ctor (as := []) (q := pm_m_33) f55_18 ca_5_17 rfl (by decide) rfl rfl (cs_len (Nat.le_of_ble_eq_true rfl)) (P_T_init (d := d + 1) eh6q) ?_
  replace hB := bnd_some hB
  obtain ⟨h8q, eh8q, hB⟩ := hB
  refine r_put f55_21 fa_5_18 ty_5_2 rfl rfl (fun _ => ⟨in_55, rfl⟩) eh8q ?_
  refine r_aload_nN f55_24 rfl ?_
  refine r_iconst f55_25 ci_4 ?_
  replace hB := bnd_some hB
  obtain ⟨h9q, eh9q, hB⟩ := hB
  refine r_nA (t := 3) f55_26 et_3 rfl eh9q ?_
  obtain ⟨b10q, hb10q⟩ : ∃ z, z = List.length h8q := ⟨_, rfl⟩
  replace hB := nmd_at hb10q hB
  rw [← hb10q]
  replace hB := bnd_some hB
  obtain ⟨h11q, eh11q, hB⟩ := hB
  refine r_put f55_29 fa_5_24 ty_5_6 rfl rfl (fun _ => ⟨in_55, rfl⟩) eh11q ?_
  refine r_aload_nN f55_32 rfl ?_
  refine r_bipush f55_33 cb_40 ?_
  replace hB := bnd_some hB
  obtain ⟨h12q, eh12q, hB⟩ := hB
  refine r_nI f55_35 eh12q ?_
  obtain ⟨b13q, hb13q⟩ : ∃ z, z = List.length h11q := ⟨_, rfl⟩
  replace hB := nmd_at hb13q hB
  rw [← hb13q]
  replace hB := bnd_some hB
  obtain ⟨h14q, eh14q, hB⟩ := hB
  refine r_put f55_37 fa_5_28 ty_5_7 rfl rfl (fun _ => ⟨in_55, rfl⟩) eh14q ?_
  refine r_iconst f55_40 ci_0 ?_
  refine r_istore_n (L' := [.ref t, .int 0]) (x := 0) f55_41 rfl (Nat.le_of_ble_eq_true rfl) rfl ?_
  exact pm_weak (L' := [.ref t, .int 0]) ⟨.inr rfl, .inr rfl, trivial⟩ (P_X_init_42 (d := d) 1000 h14q t 0 hB)
theorem P_X_count {d : Nat} {h h' : pm_H} {r : Int32} {t : Nat} {a1 : Int32} (hB : X_count h t a1 = some (h', r)) : pm_ev (d + 2) 56 [.ref t, .int a1] h (some (.int r)) h' := by
  unfold X_count at hB
  refine pm_ev_mk (L := [.ref t, .int a1]) pm_m_56 rfl (Nat.le_of_ble_eq_true rfl) rfl ?_
  refine r_iload_n f56_0 rfl ?_
  by_cases c1q : a1 = 0
  · rw [if_pos c1q] at hB
    refine r_tsw (off := 47) (t := 48) f56_1 c1q (by decide) (by decide) (by decide) (by decide) ?_
    refine r_aload_nN f56_48 rfl ?_
    replace hB := bnd_some hB
    obtain ⟨x2q, ex2q, hB⟩ := hB
    refine r_getA f56_49 fa_5_45 ex2q ?_
    replace hB := bnd_some hB
    obtain ⟨u3q, rfl, hB⟩ := hB
    replace hB := bnd_some hB
    obtain ⟨x4q, ex4q, hB⟩ := hB
    refine r_getI f56_52 fa_5_52 ex4q ?_
    exact r_iret pm_m_56 .int f56_55 rfl rfl rfl (zI hB)
  rw [if_neg c1q] at hB
  by_cases c5q : a1 = 1
  · rw [if_pos c5q] at hB
    refine r_tsw (off := 55) (t := 56) f56_1 c5q (by decide) (by decide) (by decide) (by decide) ?_
    refine r_aload_nN f56_56 rfl ?_
    replace hB := bnd_some hB
    obtain ⟨x6q, ex6q, hB⟩ := hB
    refine r_getA f56_57 fa_5_45 ex6q ?_
    replace hB := bnd_some hB
    obtain ⟨u7q, rfl, hB⟩ := hB
    replace hB := grd_some hB
    obtain ⟨g10q, hB⟩ := hB
    replace hB := bn2_some hB
    obtain ⟨h8q, x9q, eh8q, hB⟩ := hB
    refine r_virtV (as := []) (q := pm_m_12) f56_60 ca_5_55 rfl rfl rfl (cs_len (Nat.le_of_ble_eq_true rfl)) g10q (P_L_living (d := d + 0) eh8q) ?_
    replace hB := bn2_some hB
    obtain ⟨h11q, x12q, eh11q, hB⟩ := hB
    refine r_statV (as := [.int x9q]) (q := pm_m_184) f56_63 ca_5_59 rfl (by decide) rfl rfl (cs_len (Nat.le_of_ble_eq_true rfl)) (P_Ji_bitCount (d := d + 0) eh11q) ?_
    exact r_iret pm_m_56 .int f56_66 rfl rfl rfl (zI hB)
  rw [if_neg c5q] at hB
  by_cases c13q : a1 = 2
  · rw [if_pos c13q] at hB
    refine r_tsw (off := 66) (t := 67) f56_1 c13q (by decide) (by decide) (by decide) (by decide) ?_
    refine r_aload_nN f56_67 rfl ?_
    replace hB := bnd_some hB
    obtain ⟨x14q, ex14q, hB⟩ := hB
    refine r_getA f56_68 fa_5_45 ex14q ?_
    replace hB := bnd_some hB
    obtain ⟨u15q, rfl, hB⟩ := hB
    replace hB := bnd_some hB
    obtain ⟨x16q, ex16q, hB⟩ := hB
    refine r_getI f56_71 fa_5_65 ex16q ?_
    exact r_iret pm_m_56 .int f56_74 rfl rfl rfl (zI hB)
  rw [if_neg c13q] at hB
  by_cases c17q : a1 = 3
  · rw [if_pos c17q] at hB
    refine r_tsw (off := 74) (t := 75) f56_1 c17q (by decide) (by decide) (by decide) (by decide) ?_
    refine r_aload_nN f56_75 rfl ?_
    replace hB := bnd_some hB
    obtain ⟨x18q, ex18q, hB⟩ := hB
    refine r_getA f56_76 fa_5_45 ex18q ?_
    replace hB := bnd_some hB
    obtain ⟨u19q, rfl, hB⟩ := hB
    replace hB := bnd_some hB
    obtain ⟨x20q, ex20q, hB⟩ := hB
    refine r_getJ f56_79 fa_5_68 ex20q ?_
    replace hB := bn2_some hB
    obtain ⟨h21q, x22q, eh21q, hB⟩ := hB
    refine r_statV (as := [.long x20q]) (q := pm_m_185) f56_82 ca_5_72 rfl (by decide) rfl rfl (cs_len (Nat.le_of_ble_eq_true rfl)) (P_Jl_bitCount (d := d + 0) eh21q) ?_
    exact r_iret pm_m_56 .int f56_85 rfl rfl rfl (zI hB)
  rw [if_neg c17q] at hB
  by_cases c23q : a1 = 4
  · rw [if_pos c23q] at hB
    refine r_tsw (off := 85) (t := 86) f56_1 c23q (by decide) (by decide) (by decide) (by decide) ?_
    refine r_aload_nN f56_86 rfl ?_
    replace hB := bnd_some hB
    obtain ⟨x24q, ex24q, hB⟩ := hB
    refine r_getA f56_87 fa_5_45 ex24q ?_
    replace hB := bnd_some hB
    obtain ⟨u25q, rfl, hB⟩ := hB
    replace hB := bnd_some hB
    obtain ⟨x26q, ex26q, hB⟩ := hB
    refine r_getJ f56_90 fa_5_77 ex26q ?_
    replace hB := bn2_some hB
    obtain ⟨h27q, x28q, eh27q, hB⟩ := hB
    refine r_statV (as := [.long x26q]) (q := pm_m_185) f56_93 ca_5_72 rfl (by decide) rfl rfl (cs_len (Nat.le_of_ble_eq_true rfl)) (P_Jl_bitCount (d := d + 0) eh27q) ?_
    exact r_iret pm_m_56 .int f56_96 rfl rfl rfl (zI hB)
  rw [if_neg c23q] at hB
  by_cases c29q : a1 = 5
  · rw [if_pos c29q] at hB
    refine r_tsw (off := 96) (t := 97) f56_1 c29q (by decide) (by decide) (by decide) (by decide) ?_
    refine r_aload_nN f56_97 rfl ?_
    replace hB := bnd_some hB
    obtain ⟨x30q, ex30q, hB⟩ := hB
    refine r_getI f56_98 fa_5_36 ex30q ?_
    exact r_iret pm_m_56 .int f56_101 rfl rfl rfl (zI hB)
  rw [if_neg c29q] at hB
  by_cases c31q : a1 = 6
  · rw [if_pos c31q] at hB
    refine r_tsw (off := 101) (t := 102) f56_1 c31q (by decide) (by decide) (by decide) (by decide) ?_
    refine r_aload_nN f56_102 rfl ?_
    replace hB := bnd_some hB
    obtain ⟨x32q, ex32q, hB⟩ := hB
    refine r_getA f56_103 fa_5_45 ex32q ?_
    replace hB := bnd_some hB
    obtain ⟨u33q, rfl, hB⟩ := hB
    replace hB := bnd_some hB
    obtain ⟨x34q, ex34q, hB⟩ := hB
    refine r_getA f56_106 fa_5_80 ex34q ?_
    replace hB := bnd_some hB
    obtain ⟨u35q, rfl, hB⟩ := hB
    replace hB := bnd_some hB
    obtain ⟨x36q, ex36q, hB⟩ := hB
    refine r_getI f56_109 fa_5_84 ex36q ?_
    exact r_iret pm_m_56 .int f56_112 rfl rfl rfl (zI hB)
  rw [if_neg c31q] at hB
  by_cases c37q : a1 = 7
  · rw [if_pos c37q] at hB
    refine r_tsw (off := 112) (t := 113) f56_1 c37q (by decide) (by decide) (by decide) (by decide) ?_
    refine r_aload_nN f56_113 rfl ?_
    replace hB := bnd_some hB
    obtain ⟨x38q, ex38q, hB⟩ := hB
    refine r_getA f56_114 fa_5_18 ex38q ?_
    replace hB := bnd_some hB
    obtain ⟨u39q, rfl, hB⟩ := hB
    replace hB := bnd_some hB
    obtain ⟨x40q, ex40q, hB⟩ := hB
    refine r_getI f56_117 fa_5_87 ex40q ?_
    exact r_iret pm_m_56 .int f56_120 rfl rfl rfl (zI hB)
  rw [if_neg c37q] at hB
  refine r_tswD (t := 121) f56_1 (sw_out 8 (lt_s (lt_s (lt_s (lt_s (lt_s (lt_s (lt_s (lt_s (lt_0) (sw_ne c1q (by decide))) (sw_ne c5q (by decide))) (sw_ne c13q (by decide))) (sw_ne c17q (by decide))) (sw_ne c23q (by decide))) (sw_ne c29q (by decide))) (sw_ne c31q (by decide))) (sw_ne c37q (by decide))) (by decide)) (by decide) ?_
  refine r_bipush f56_121 cb_m2 ?_
  exact r_iret pm_m_56 .int f56_123 rfl rfl rfl (zI hB)
theorem P_X_within {d : Nat} {h h' : pm_H} {r : Int32} {a0 : Int32} {a1 : Int32} {a2 : Int32} (hB : X_within h a0 a1 a2 = some (h', r)) : pm_ev (d + 1) 92 [.int a0, .int a1, .int a2] h (some (.int r)) h' := by
  unfold X_within at hB
  refine pm_ev_mk (L := [.int a0, .int a1, .int a2]) pm_m_92 rfl (Nat.le_of_ble_eq_true rfl) rfl ?_
  refine r_iload_n f92_0 rfl ?_
  refine r_iload_n f92_1 rfl ?_
  by_cases c1q : a0 < a1
  · rw [if_pos c1q] at hB
    refine r_ic_t (t := 14) f92_2 (by decide) c1q ?_
    refine r_iconst f92_14 ci_0 ?_
    exact r_iret pm_m_92 .boolean f92_15 rfl rfl (bool_n (by decide)) (zI hB)
  · rw [if_neg c1q] at hB
    refine r_ic_f 14 f92_2 (by decide) c1q ?_
    refine r_iload_n f92_5 rfl ?_
    refine r_iload_n f92_6 rfl ?_
    by_cases c2q : a2 < a0
    · rw [if_pos c2q] at hB
      refine r_ic_t (t := 14) f92_7 (by decide) c2q ?_
      refine r_iconst f92_14 ci_0 ?_
      exact r_iret pm_m_92 .boolean f92_15 rfl rfl (bool_n (by decide)) (zI hB)
    · rw [if_neg c2q] at hB
      refine r_ic_f 14 f92_7 (by decide) c2q ?_
      refine r_iconst f92_10 ci_1 ?_
      refine r_goto (t := 15) f92_11 (by decide) ?_
      exact r_iret pm_m_92 .boolean f92_15 rfl rfl (bool_n (by decide)) (zI hB)
theorem P_X_yard_111 {d : Nat} {h' : pm_H} {r : Int32} (h : pm_H) (l4 : Int64) (l6 : Int64) (hB : X_yard_111 h l4 l6 = some (h', r)) : pm_run (pm_ev (d + 1)) 57 111 [pm_J, pm_J, pm_J, pm_J, .long l4, pm_J, .long l6, pm_J, pm_J, pm_J] [] h (fun r1 h1 => r1 = some (.int r) ∧ h1 = h') := by
  unfold X_yard_111 at hB
  refine r_lload f57_111 rfl ?_
  refine r_lload f57_113 rfl ?_
  refine r_land f57_115 ?_
  refine r_lconst f57_116 cl_0 ?_
  refine r_lcmp f57_117 ?_
  by_cases c1q : (lg_cmp (l6 &&& l4) 0) = 0
  · rw [if_pos c1q] at hB
    refine r_if_t (t := 125) f57_118 (by decide) c1q ?_
    refine r_iconst f57_125 ci_0 ?_
    exact r_iret pm_m_57 .int f57_126 rfl rfl rfl (zI hB)
  · rw [if_neg c1q] at hB
    refine r_if_f 125 f57_118 (by decide) c1q ?_
    refine r_iconst f57_121 ci_1 ?_
    refine r_goto (t := 126) f57_122 (by decide) ?_
    exact r_iret pm_m_57 .int f57_126 rfl rfl rfl (zI hB)
theorem P_X_yard_84 {d : Nat} {h' : pm_H} {r : Int32} (h : pm_H) (l0 : Nat) (l2 : Int32) (l4 : Int64) (l6 : Int64) (s0 : Int64) (hB : X_yard_84 h l0 l2 l4 l6 s0 = some (h', r)) : pm_run (pm_ev (d + 1)) 57 84 [.ref l0, pm_J, .int l2, pm_J, .long l4, pm_J, .long l6, pm_J, pm_J, pm_J] [.long s0] h (fun r1 h1 => r1 = some (.int r) ∧ h1 = h') := by
  unfold X_yard_84 at hB
  refine r_lstore (L' := [.ref l0, pm_J, .int l2, pm_J, .long l4, pm_J, .long l6, pm_J, .long s0, pm_J]) (x := s0) f57_84 rfl (Nat.le_of_ble_eq_true rfl) rfl ?_
  refine r_iload_n f57_86 rfl ?_
  by_cases c1q : l2 = 0
  · rw [if_pos c1q] at hB
    refine r_if_f 102 f57_87 (by decide) (fun q => q c1q) ?_
    refine r_aload_nN f57_90 rfl ?_
    replace hB := bnd_some hB
    obtain ⟨x5q, ex5q, hB⟩ := hB
    refine r_getA f57_91 fa_5_45 ex5q ?_
    refine r_lload f57_94 rfl ?_
    replace hB := bnd_some hB
    obtain ⟨u6q, rfl, hB⟩ := hB
    replace hB := bnd_some hB
    obtain ⟨h7q, eh7q, hB⟩ := hB
    refine r_put f57_96 fa_5_68 ty_1_2 rfl rfl (no_fin (nf_1_2)) eh7q ?_
    refine r_goto (t := 111) f57_99 (by decide) ?_
    exact pm_weak (L' := [pm_J, pm_J, pm_J, pm_J, .long l4, pm_J, .long l6, pm_J, pm_J, pm_J]) ⟨.inl rfl, .inl rfl, .inl rfl, .inl rfl, .inr rfl, .inl rfl, .inr rfl, .inl rfl, .inl rfl, .inl rfl, trivial⟩ (P_X_yard_111 (d := d) h7q l4 l6 hB)
  · rw [if_neg c1q] at hB
    refine r_if_t (t := 102) f57_87 (by decide) c1q ?_
    refine r_aload_nN f57_102 rfl ?_
    replace hB := bnd_some hB
    obtain ⟨x2q, ex2q, hB⟩ := hB
    refine r_getA f57_103 fa_5_45 ex2q ?_
    refine r_lload f57_106 rfl ?_
    replace hB := bnd_some hB
    obtain ⟨u3q, rfl, hB⟩ := hB
    replace hB := bnd_some hB
    obtain ⟨h4q, eh4q, hB⟩ := hB
    refine r_put f57_108 fa_5_77 ty_1_3 rfl rfl (no_fin (nf_1_3)) eh4q ?_
    exact pm_weak (L' := [pm_J, pm_J, pm_J, pm_J, .long l4, pm_J, .long l6, pm_J, pm_J, pm_J]) ⟨.inl rfl, .inl rfl, .inl rfl, .inl rfl, .inr rfl, .inl rfl, .inr rfl, .inl rfl, .inl rfl, .inl rfl, trivial⟩ (P_X_yard_111 (d := d) h4q l4 l6 hB)
theorem P_X_yard_60 {d : Nat} {h' : pm_H} {r : Int32} (h : pm_H) (l0 : Nat) (l2 : Int32) (l3 : Int32) (l4 : Int64) (s0 : Int64) (hB : X_yard_60 h l0 l2 l3 l4 s0 = some (h', r)) : pm_run (pm_ev (d + 1)) 57 60 [.ref l0, pm_J, .int l2, .int l3, .long l4, pm_J, pm_J, pm_J, pm_J, pm_J] [.long s0] h (fun r1 h1 => r1 = some (.int r) ∧ h1 = h') := by
  unfold X_yard_60 at hB
  refine r_lstore (L' := [.ref l0, pm_J, .int l2, .int l3, .long l4, pm_J, .long s0, pm_J, pm_J, pm_J]) (x := s0) f57_60 rfl (Nat.le_of_ble_eq_true rfl) rfl ?_
  refine r_iload_n f57_62 rfl ?_
  refine r_iconst f57_63 ci_1 ?_
  by_cases c1q : l3 = 1
  · rw [if_pos c1q] at hB
    refine r_ic_f 75 f57_64 (by decide) (fun q => q c1q) ?_
    refine r_lload f57_67 rfl ?_
    refine r_lload f57_69 rfl ?_
    refine r_lor f57_71 ?_
    refine r_goto (t := 84) f57_72 (by decide) ?_
    exact pm_weak (L' := [.ref l0, pm_J, .int l2, pm_J, .long l4, pm_J, .long s0, pm_J, pm_J, pm_J]) ⟨.inr rfl, .inl rfl, .inr rfl, .inl rfl, .inr rfl, .inl rfl, .inr rfl, .inl rfl, .inl rfl, .inl rfl, trivial⟩ (P_X_yard_84 (d := d) h l0 l2 l4 s0 (s0 ||| l4) hB)
  · rw [if_neg c1q] at hB
    refine r_ic_t (t := 75) f57_64 (by decide) c1q ?_
    refine r_lload f57_75 rfl ?_
    refine r_lload f57_77 rfl ?_
    refine r_ldc2_w (v := (-1)) (p := 292) f57_79 rfl ?_
    refine r_lxor f57_82 ?_
    refine r_land f57_83 ?_
    exact pm_weak (L' := [.ref l0, pm_J, .int l2, pm_J, .long l4, pm_J, .long s0, pm_J, pm_J, pm_J]) ⟨.inr rfl, .inl rfl, .inr rfl, .inl rfl, .inr rfl, .inl rfl, .inr rfl, .inl rfl, .inl rfl, .inl rfl, trivial⟩ (P_X_yard_84 (d := d) h l0 l2 l4 s0 (s0 &&& (l4 ^^^ (-1))) hB)
theorem P_X_yard {d : Nat} {h h' : pm_H} {r : Int32} {t : Nat} {a1 : Int32} {a2 : Int32} {a3 : Int32} (hB : X_yard h t a1 a2 a3 = some (h', r)) : pm_ev (d + 2) 57 [.ref t, .int a1, .int a2, .int a3] h (some (.int r)) h' := by
  unfold X_yard at hB
  refine pm_ev_mk (L := [.ref t, .int a1, .int a2, .int a3, pm_J, pm_J, pm_J, pm_J, pm_J, pm_J]) pm_m_57 rfl (Nat.le_of_ble_eq_true rfl) rfl ?_
  refine r_iload_n f57_0 rfl ?_
  refine r_iconst f57_1 ci_0 ?_
  refine r_bipush f57_2 cb_39 ?_
  replace hB := bn2_some hB
  obtain ⟨h1q, x2q, eh1q, hB⟩ := hB
  refine r_statV (as := [.int a1, .int 0, .int 39]) (q := pm_m_92) f57_4 ca_5_90 rfl (by decide) rfl rfl (cs_len (Nat.le_of_ble_eq_true rfl)) (P_X_within (d := d + 0) eh1q) ?_
  by_cases c3q : x2q = 0
  · rw [if_pos c3q] at hB
    refine r_if_f 13 f57_7 (by decide) (fun q => q c3q) ?_
    refine r_bipush f57_10 cb_m5 ?_
    exact r_iret pm_m_57 .int f57_12 rfl rfl rfl (zI hB)
  · rw [if_neg c3q] at hB
    refine r_if_t (t := 13) f57_7 (by decide) c3q ?_
    refine r_iload_n f57_13 rfl ?_
    refine r_iconst f57_14 ci_0 ?_
    refine r_iconst f57_15 ci_1 ?_
    replace hB := bn2_some hB
    obtain ⟨h4q, x5q, eh4q, hB⟩ := hB
    refine r_statV (as := [.int a2, .int 0, .int 1]) (q := pm_m_92) f57_16 ca_5_90 rfl (by decide) rfl rfl (cs_len (Nat.le_of_ble_eq_true rfl)) (P_X_within (d := d + 0) eh4q) ?_
    by_cases c6q : x5q = 0
    · rw [if_pos c6q] at hB
      refine r_if_t (t := 31) f57_19 (by decide) c6q ?_
      refine r_bipush f57_31 cb_m7 ?_
      exact r_iret pm_m_57 .int f57_33 rfl rfl rfl (zI hB)
    · rw [if_neg c6q] at hB
      refine r_if_f 31 f57_19 (by decide) c6q ?_
      refine r_iload_n f57_22 rfl ?_
      refine r_iconst f57_23 ci_0 ?_
      refine r_iconst f57_24 ci_1 ?_
      replace hB := bn2_some hB
      obtain ⟨h7q, x8q, eh7q, hB⟩ := hB
      refine r_statV (as := [.int a3, .int 0, .int 1]) (q := pm_m_92) f57_25 ca_5_90 rfl (by decide) rfl rfl (cs_len (Nat.le_of_ble_eq_true rfl)) (P_X_within (d := d + 0) eh7q) ?_
      by_cases c9q : x8q = 0
      · rw [if_pos c9q] at hB
        refine r_if_f 34 f57_28 (by decide) (fun q => q c9q) ?_
        refine r_bipush f57_31 cb_m7 ?_
        exact r_iret pm_m_57 .int f57_33 rfl rfl rfl (zI hB)
      · rw [if_neg c9q] at hB
        refine r_if_t (t := 34) f57_28 (by decide) c9q ?_
        refine r_lconst f57_34 cl_1 ?_
        refine r_iload_n f57_35 rfl ?_
        refine r_lshl f57_36 ?_
        obtain ⟨y10q, hy10q⟩ : ∃ z, z = (1 <<< ((a1 : Int32).toInt64 &&& 63)) := ⟨_, rfl⟩
        replace hB := nmd_at hy10q hB
        refine r_lstore (L' := [.ref t, .int a1, .int a2, .int a3, .long y10q, pm_J, pm_J, pm_J, pm_J, pm_J]) (x := y10q) f57_37 hy10q (Nat.le_of_ble_eq_true rfl) rfl ?_
        refine r_iload_n f57_39 rfl ?_
        by_cases c11q : a2 = 0
        · rw [if_pos c11q] at hB
          refine r_if_f 53 f57_40 (by decide) (fun q => q c11q) ?_
          refine r_aload_nN f57_43 rfl ?_
          replace hB := bnd_some hB
          obtain ⟨x15q, ex15q, hB⟩ := hB
          refine r_getA f57_44 fa_5_45 ex15q ?_
          replace hB := bnd_some hB
          obtain ⟨u16q, rfl, hB⟩ := hB
          replace hB := bnd_some hB
          obtain ⟨x17q, ex17q, hB⟩ := hB
          refine r_getJ f57_47 fa_5_68 ex17q ?_
          refine r_goto (t := 60) f57_50 (by decide) ?_
          exact pm_weak (L' := [.ref t, pm_J, .int a2, .int a3, .long y10q, pm_J, pm_J, pm_J, pm_J, pm_J]) ⟨.inr rfl, .inl rfl, .inr rfl, .inr rfl, .inr rfl, .inl rfl, .inl rfl, .inl rfl, .inl rfl, .inl rfl, trivial⟩ (P_X_yard_60 (d := d) h7q t a2 a3 y10q x17q hB)
        · rw [if_neg c11q] at hB
          refine r_if_t (t := 53) f57_40 (by decide) c11q ?_
          refine r_aload_nN f57_53 rfl ?_
          replace hB := bnd_some hB
          obtain ⟨x12q, ex12q, hB⟩ := hB
          refine r_getA f57_54 fa_5_45 ex12q ?_
          replace hB := bnd_some hB
          obtain ⟨u13q, rfl, hB⟩ := hB
          replace hB := bnd_some hB
          obtain ⟨x14q, ex14q, hB⟩ := hB
          refine r_getJ f57_57 fa_5_77 ex14q ?_
          exact pm_weak (L' := [.ref t, pm_J, .int a2, .int a3, .long y10q, pm_J, pm_J, pm_J, pm_J, pm_J]) ⟨.inr rfl, .inl rfl, .inr rfl, .inr rfl, .inr rfl, .inl rfl, .inl rfl, .inl rfl, .inl rfl, .inl rfl, trivial⟩ (P_X_yard_60 (d := d) h7q t a2 a3 y10q x14q hB)
theorem P_X_parish {d : Nat} {h h' : pm_H} {r : Int64} {t : Nat} {a1 : Int32} (hB : X_parish h t a1 = some (h', r)) : pm_ev (d + 3) 58 [.ref t, .int a1] h (some (.long r)) h' := by
  unfold X_parish at hB
  refine pm_ev_mk (L := [.ref t, .int a1]) pm_m_58 rfl (Nat.le_of_ble_eq_true rfl) rfl ?_
  refine r_iload_n f58_0 rfl ?_
  by_cases c1q : a1 = 0
  · rw [if_pos c1q] at hB
    refine r_tsw (off := 31) (t := 32) f58_1 c1q (by decide) (by decide) (by decide) (by decide) ?_
    refine r_aload_nN f58_32 rfl ?_
    replace hB := bnd_some hB
    obtain ⟨x2q, ex2q, hB⟩ := hB
    refine r_getA f58_33 fa_5_45 ex2q ?_
    replace hB := bnd_some hB
    obtain ⟨u3q, rfl, hB⟩ := hB
    replace hB := bnd_some hB
    obtain ⟨x4q, ex4q, hB⟩ := hB
    refine r_getJ f58_36 fa_5_68 ex4q ?_
    exact r_lret pm_m_58 f58_39 rfl rfl (zJ hB)
  rw [if_neg c1q] at hB
  by_cases c5q : a1 = 1
  · rw [if_pos c5q] at hB
    refine r_tsw (off := 39) (t := 40) f58_1 c5q (by decide) (by decide) (by decide) (by decide) ?_
    refine r_aload_nN f58_40 rfl ?_
    replace hB := bnd_some hB
    obtain ⟨x6q, ex6q, hB⟩ := hB
    refine r_getA f58_41 fa_5_45 ex6q ?_
    replace hB := bnd_some hB
    obtain ⟨u7q, rfl, hB⟩ := hB
    replace hB := bnd_some hB
    obtain ⟨x8q, ex8q, hB⟩ := hB
    refine r_getJ f58_44 fa_5_77 ex8q ?_
    exact r_lret pm_m_58 f58_47 rfl rfl (zJ hB)
  rw [if_neg c5q] at hB
  by_cases c9q : a1 = 2
  · rw [if_pos c9q] at hB
    refine r_tsw (off := 47) (t := 48) f58_1 c9q (by decide) (by decide) (by decide) (by decide) ?_
    refine r_aload_nN f58_48 rfl ?_
    replace hB := bnd_some hB
    obtain ⟨x10q, ex10q, hB⟩ := hB
    refine r_getA f58_49 fa_5_45 ex10q ?_
    replace hB := bnd_some hB
    obtain ⟨u11q, rfl, hB⟩ := hB
    replace hB := grd_some hB
    obtain ⟨g14q, hB⟩ := hB
    replace hB := bn2_some hB
    obtain ⟨h12q, x13q, eh12q, hB⟩ := hB
    refine r_virtV (as := []) (q := pm_m_13) f58_52 ca_5_96 rfl rfl rfl (cs_len (Nat.le_of_ble_eq_true rfl)) g14q (P_L_sand (d := d + 0) eh12q) ?_
    exact r_lret pm_m_58 f58_55 rfl rfl (zJ hB)
  rw [if_neg c9q] at hB
  by_cases c15q : a1 = 3
  · rw [if_pos c15q] at hB
    refine r_tsw (off := 55) (t := 56) f58_1 c15q (by decide) (by decide) (by decide) (by decide) ?_
    refine r_aload_nN f58_56 rfl ?_
    replace hB := bnd_some hB
    obtain ⟨x16q, ex16q, hB⟩ := hB
    refine r_getA f58_57 fa_5_45 ex16q ?_
    replace hB := bnd_some hB
    obtain ⟨u17q, rfl, hB⟩ := hB
    replace hB := bnd_some hB
    obtain ⟨x18q, ex18q, hB⟩ := hB
    refine r_getJ f58_60 fa_5_68 ex18q ?_
    refine r_aload_nN f58_63 rfl ?_
    replace hB := bnd_some hB
    obtain ⟨x19q, ex19q, hB⟩ := hB
    refine r_getA f58_64 fa_5_45 ex19q ?_
    replace hB := bnd_some hB
    obtain ⟨u20q, rfl, hB⟩ := hB
    replace hB := grd_some hB
    obtain ⟨g23q, hB⟩ := hB
    replace hB := bn2_some hB
    obtain ⟨h21q, x22q, eh21q, hB⟩ := hB
    refine r_virtV (as := []) (q := pm_m_13) f58_67 ca_5_96 rfl rfl rfl (cs_len (Nat.le_of_ble_eq_true rfl)) g23q (P_L_sand (d := d + 0) eh21q) ?_
    refine r_land f58_70 ?_
    exact r_lret pm_m_58 f58_71 rfl rfl (zJ hB)
  rw [if_neg c15q] at hB
  refine r_tswD (t := 72) f58_1 (sw_out 4 (lt_s (lt_s (lt_s (lt_s (lt_0) (sw_ne c1q (by decide))) (sw_ne c5q (by decide))) (sw_ne c9q (by decide))) (sw_ne c15q (by decide))) (by decide)) (by decide) ?_
  refine r_ldc2_w (v := (-4611686018427387904)) (p := 305) f58_72 rfl ?_
  exact r_lret pm_m_58 f58_75 rfl rfl (zJ hB)
theorem P_X_isByte {d : Nat} {h h' : pm_H} {r : Int32} {a0 : Int32} (hB : X_isByte h a0 = some (h', r)) : pm_ev (d + 2) 94 [.int a0] h (some (.int r)) h' := by
  unfold X_isByte at hB
  refine pm_ev_mk (L := [.int a0]) pm_m_94 rfl (Nat.le_of_ble_eq_true rfl) rfl ?_
  refine r_iload_n f94_0 rfl ?_
  refine r_iconst f94_1 ci_0 ?_
  refine r_sipush f94_2 cs_255 ?_
  replace hB := bn2_some hB
  obtain ⟨h1q, x2q, eh1q, hB⟩ := hB
  refine r_statV (as := [.int a0, .int 0, .int 255]) (q := pm_m_92) f94_5 ca_5_90 rfl (by decide) rfl rfl (cs_len (Nat.le_of_ble_eq_true rfl)) (P_X_within (d := d + 0) eh1q) ?_
  replace hB := grd_some hB
  obtain ⟨q3q, hB⟩ := hB
  exact r_iret pm_m_94 .boolean f94_8 rfl rfl (bool_n (of_decide_eq_true q3q)) (zI hB)
theorem P_X_feed_117 {d : Nat} {h' : pm_H} {r : Int32} (h : pm_H) (l0 : Nat) (l1 : Int32) (l6 : Int32) (hB : X_feed_117 h l0 l1 l6 = some (h', r)) : pm_run (pm_ev (d + 2)) 59 117 [.ref l0, .int l1, pm_J, pm_J, pm_J, pm_J, .int l6] [] h (fun r1 h1 => r1 = some (.int r) ∧ h1 = h') := by
  unfold X_feed_117 at hB
  refine r_iload_n f59_117 rfl ?_
  refine r_iconst f59_118 ci_4 ?_
  by_cases c1q : l1 ≤ 4
  · rw [if_pos c1q] at hB
    refine r_ic_t (t := 131) f59_119 (by decide) c1q ?_
    refine r_aload_nN f59_131 rfl ?_
    replace hB := bnd_some hB
    obtain ⟨x2q, ex2q, hB⟩ := hB
    refine r_getA f59_132 fa_5_18 ex2q ?_
    replace hB := bnd_some hB
    obtain ⟨u3q, rfl, hB⟩ := hB
    replace hB := bnd_some hB
    obtain ⟨x4q, ex4q, hB⟩ := hB
    refine r_getI f59_135 fa_5_87 ex4q ?_
    exact r_iret pm_m_59 .int f59_138 rfl rfl rfl (zI hB)
  · rw [if_neg c1q] at hB
    refine r_ic_f 131 f59_119 (by decide) c1q ?_
    refine r_aload_nN f59_122 rfl ?_
    replace hB := bnd_some hB
    obtain ⟨x5q, ex5q, hB⟩ := hB
    refine r_getA f59_123 fa_5_18 ex5q ?_
    refine r_iload f59_126 rfl ?_
    replace hB := bnd_some hB
    obtain ⟨u6q, rfl, hB⟩ := hB
    replace hB := grd_some hB
    obtain ⟨g9q, hB⟩ := hB
    replace hB := bn2_some hB
    obtain ⟨h7q, _, eh7q, hB⟩ := hB
    refine r_virtN (as := [.int l6]) (q := pm_m_34) f59_128 ca_5_106 rfl rfl rfl (cs_len (Nat.le_of_ble_eq_true rfl)) g9q (P_T_append (d := d + 1) eh7q) ?_
    refine r_aload_nN f59_131 rfl ?_
    replace hB := bnd_some hB
    obtain ⟨x10q, ex10q, hB⟩ := hB
    refine r_getA f59_132 fa_5_18 ex10q ?_
    replace hB := bnd_some hB
    obtain ⟨u11q, rfl, hB⟩ := hB
    replace hB := bnd_some hB
    obtain ⟨x12q, ex12q, hB⟩ := hB
    refine r_getI f59_135 fa_5_87 ex12q ?_
    exact r_iret pm_m_59 .int f59_138 rfl rfl rfl (zI hB)
theorem P_X_feed_103 {d : Nat} {h' : pm_H} {r : Int32} (h : pm_H) (l0 : Nat) (l1 : Int32) (l5 : Int32) (l6 : Int32) (hB : X_feed_103 h l0 l1 l5 l6 = some (h', r)) : pm_run (pm_ev (d + 2)) 59 103 [.ref l0, .int l1, pm_J, pm_J, pm_J, .int l5, .int l6] [] h (fun r1 h1 => r1 = some (.int r) ∧ h1 = h') := by
  unfold X_feed_103 at hB
  refine r_iload_n f59_103 rfl ?_
  refine r_iconst f59_104 ci_3 ?_
  by_cases c1q : l1 ≤ 3
  · rw [if_pos c1q] at hB
    refine r_ic_t (t := 117) f59_105 (by decide) c1q ?_
    exact pm_weak (L' := [.ref l0, .int l1, pm_J, pm_J, pm_J, pm_J, .int l6]) ⟨.inr rfl, .inr rfl, .inl rfl, .inl rfl, .inl rfl, .inl rfl, .inr rfl, trivial⟩ (P_X_feed_117 (d := d) h l0 l1 l6 hB)
  · rw [if_neg c1q] at hB
    refine r_ic_f 117 f59_105 (by decide) c1q ?_
    refine r_aload_nN f59_108 rfl ?_
    replace hB := bnd_some hB
    obtain ⟨x2q, ex2q, hB⟩ := hB
    refine r_getA f59_109 fa_5_18 ex2q ?_
    refine r_iload f59_112 rfl ?_
    replace hB := bnd_some hB
    obtain ⟨u3q, rfl, hB⟩ := hB
    replace hB := grd_some hB
    obtain ⟨g6q, hB⟩ := hB
    replace hB := bn2_some hB
    obtain ⟨h4q, _, eh4q, hB⟩ := hB
    refine r_virtN (as := [.int l5]) (q := pm_m_34) f59_114 ca_5_106 rfl rfl rfl (cs_len (Nat.le_of_ble_eq_true rfl)) g6q (P_T_append (d := d + 1) eh4q) ?_
    exact pm_weak (L' := [.ref l0, .int l1, pm_J, pm_J, pm_J, pm_J, .int l6]) ⟨.inr rfl, .inr rfl, .inl rfl, .inl rfl, .inl rfl, .inl rfl, .inr rfl, trivial⟩ (P_X_feed_117 (d := d) h4q l0 l1 l6 hB)
theorem P_X_feed_89 {d : Nat} {h' : pm_H} {r : Int32} (h : pm_H) (l0 : Nat) (l1 : Int32) (l4 : Int32) (l5 : Int32) (l6 : Int32) (hB : X_feed_89 h l0 l1 l4 l5 l6 = some (h', r)) : pm_run (pm_ev (d + 2)) 59 89 [.ref l0, .int l1, pm_J, pm_J, .int l4, .int l5, .int l6] [] h (fun r1 h1 => r1 = some (.int r) ∧ h1 = h') := by
  unfold X_feed_89 at hB
  refine r_iload_n f59_89 rfl ?_
  refine r_iconst f59_90 ci_2 ?_
  by_cases c1q : l1 ≤ 2
  · rw [if_pos c1q] at hB
    refine r_ic_t (t := 103) f59_91 (by decide) c1q ?_
    exact pm_weak (L' := [.ref l0, .int l1, pm_J, pm_J, pm_J, .int l5, .int l6]) ⟨.inr rfl, .inr rfl, .inl rfl, .inl rfl, .inl rfl, .inr rfl, .inr rfl, trivial⟩ (P_X_feed_103 (d := d) h l0 l1 l5 l6 hB)
  · rw [if_neg c1q] at hB
    refine r_ic_f 103 f59_91 (by decide) c1q ?_
    refine r_aload_nN f59_94 rfl ?_
    replace hB := bnd_some hB
    obtain ⟨x2q, ex2q, hB⟩ := hB
    refine r_getA f59_95 fa_5_18 ex2q ?_
    refine r_iload f59_98 rfl ?_
    replace hB := bnd_some hB
    obtain ⟨u3q, rfl, hB⟩ := hB
    replace hB := grd_some hB
    obtain ⟨g6q, hB⟩ := hB
    replace hB := bn2_some hB
    obtain ⟨h4q, _, eh4q, hB⟩ := hB
    refine r_virtN (as := [.int l4]) (q := pm_m_34) f59_100 ca_5_106 rfl rfl rfl (cs_len (Nat.le_of_ble_eq_true rfl)) g6q (P_T_append (d := d + 1) eh4q) ?_
    exact pm_weak (L' := [.ref l0, .int l1, pm_J, pm_J, pm_J, .int l5, .int l6]) ⟨.inr rfl, .inr rfl, .inl rfl, .inl rfl, .inl rfl, .inr rfl, .inr rfl, trivial⟩ (P_X_feed_103 (d := d) h4q l0 l1 l5 l6 hB)
theorem P_X_feed {d : Nat} {h h' : pm_H} {r : Int32} {t : Nat} {a1 : Int32} {a2 : Int32} {a3 : Int32} {a4 : Int32} {a5 : Int32} {a6 : Int32} (hB : X_feed h t a1 a2 a3 a4 a5 a6 = some (h', r)) : pm_ev (d + 3) 59 [.ref t, .int a1, .int a2, .int a3, .int a4, .int a5, .int a6] h (some (.int r)) h' := by
  unfold X_feed at hB
  refine pm_ev_mk (L := [.ref t, .int a1, .int a2, .int a3, .int a4, .int a5, .int a6]) pm_m_59 rfl (Nat.le_of_ble_eq_true rfl) rfl ?_
  refine r_iload_n f59_0 rfl ?_
  refine r_iconst f59_1 ci_1 ?_
  refine r_iconst f59_2 ci_5 ?_
  replace hB := bn2_some hB
  obtain ⟨h1q, x2q, eh1q, hB⟩ := hB
  refine r_statV (as := [.int a1, .int 1, .int 5]) (q := pm_m_92) f59_3 ca_5_90 rfl (by decide) rfl rfl (cs_len (Nat.le_of_ble_eq_true rfl)) (P_X_within (d := d + 1) eh1q) ?_
  by_cases c3q : x2q = 0
  · rw [if_pos c3q] at hB
    refine r_if_t (t := 47) f59_6 (by decide) c3q ?_
    refine r_bipush f59_47 cb_m2 ?_
    exact r_iret pm_m_59 .int f59_49 rfl rfl rfl (zI hB)
  · rw [if_neg c3q] at hB
    refine r_if_f 47 f59_6 (by decide) c3q ?_
    refine r_iload_n f59_9 rfl ?_
    replace hB := bn2_some hB
    obtain ⟨h4q, x5q, eh4q, hB⟩ := hB
    refine r_statV (as := [.int a2]) (q := pm_m_94) f59_10 ca_5_102 rfl (by decide) rfl rfl (cs_len (Nat.le_of_ble_eq_true rfl)) (P_X_isByte (d := d + 0) eh4q) ?_
    by_cases c6q : x5q = 0
    · rw [if_pos c6q] at hB
      refine r_if_t (t := 47) f59_13 (by decide) c6q ?_
      refine r_bipush f59_47 cb_m2 ?_
      exact r_iret pm_m_59 .int f59_49 rfl rfl rfl (zI hB)
    · rw [if_neg c6q] at hB
      refine r_if_f 47 f59_13 (by decide) c6q ?_
      refine r_iload_n f59_16 rfl ?_
      replace hB := bn2_some hB
      obtain ⟨h7q, x8q, eh7q, hB⟩ := hB
      refine r_statV (as := [.int a3]) (q := pm_m_94) f59_17 ca_5_102 rfl (by decide) rfl rfl (cs_len (Nat.le_of_ble_eq_true rfl)) (P_X_isByte (d := d + 0) eh7q) ?_
      by_cases c9q : x8q = 0
      · rw [if_pos c9q] at hB
        refine r_if_t (t := 47) f59_20 (by decide) c9q ?_
        refine r_bipush f59_47 cb_m2 ?_
        exact r_iret pm_m_59 .int f59_49 rfl rfl rfl (zI hB)
      · rw [if_neg c9q] at hB
        refine r_if_f 47 f59_20 (by decide) c9q ?_
        refine r_iload f59_23 rfl ?_
        replace hB := bn2_some hB
        obtain ⟨h10q, x11q, eh10q, hB⟩ := hB
        refine r_statV (as := [.int a4]) (q := pm_m_94) f59_25 ca_5_102 rfl (by decide) rfl rfl (cs_len (Nat.le_of_ble_eq_true rfl)) (P_X_isByte (d := d + 0) eh10q) ?_
        by_cases c12q : x11q = 0
        · rw [if_pos c12q] at hB
          refine r_if_t (t := 47) f59_28 (by decide) c12q ?_
          refine r_bipush f59_47 cb_m2 ?_
          exact r_iret pm_m_59 .int f59_49 rfl rfl rfl (zI hB)
        · rw [if_neg c12q] at hB
          refine r_if_f 47 f59_28 (by decide) c12q ?_
          refine r_iload f59_31 rfl ?_
          replace hB := bn2_some hB
          obtain ⟨h13q, x14q, eh13q, hB⟩ := hB
          refine r_statV (as := [.int a5]) (q := pm_m_94) f59_33 ca_5_102 rfl (by decide) rfl rfl (cs_len (Nat.le_of_ble_eq_true rfl)) (P_X_isByte (d := d + 0) eh13q) ?_
          by_cases c15q : x14q = 0
          · rw [if_pos c15q] at hB
            refine r_if_t (t := 47) f59_36 (by decide) c15q ?_
            refine r_bipush f59_47 cb_m2 ?_
            exact r_iret pm_m_59 .int f59_49 rfl rfl rfl (zI hB)
          · rw [if_neg c15q] at hB
            refine r_if_f 47 f59_36 (by decide) c15q ?_
            refine r_iload f59_39 rfl ?_
            replace hB := bn2_some hB
            obtain ⟨h16q, x17q, eh16q, hB⟩ := hB
            refine r_statV (as := [.int a6]) (q := pm_m_94) f59_41 ca_5_102 rfl (by decide) rfl rfl (cs_len (Nat.le_of_ble_eq_true rfl)) (P_X_isByte (d := d + 0) eh16q) ?_
            by_cases c18q : x17q = 0
            · rw [if_pos c18q] at hB
              refine r_if_f 50 f59_44 (by decide) (fun q => q c18q) ?_
              refine r_bipush f59_47 cb_m2 ?_
              exact r_iret pm_m_59 .int f59_49 rfl rfl rfl (zI hB)
            · rw [if_neg c18q] at hB
              refine r_if_t (t := 50) f59_44 (by decide) c18q ?_
              refine r_aload_nN f59_50 rfl ?_
              replace hB := bnd_some hB
              obtain ⟨x19q, ex19q, hB⟩ := hB
              refine r_getA f59_51 fa_5_18 ex19q ?_
              replace hB := bnd_some hB
              obtain ⟨u20q, rfl, hB⟩ := hB
              replace hB := bnd_some hB
              obtain ⟨x21q, ex21q, hB⟩ := hB
              refine r_getI f59_54 fa_5_87 ex21q ?_
              refine r_iload_n f59_57 rfl ?_
              refine r_iadd f59_58 ?_
              refine r_sipush f59_59 cs_160 ?_
              by_cases c22q : (x21q + a1) ≤ 160
              · rw [if_pos c22q] at hB
                refine r_ic_t (t := 68) f59_62 (by decide) c22q ?_
                refine r_aload_nN f59_68 rfl ?_
                replace hB := bnd_some hB
                obtain ⟨x23q, ex23q, hB⟩ := hB
                refine r_getA f59_69 fa_5_18 ex23q ?_
                refine r_iload_n f59_72 rfl ?_
                replace hB := bnd_some hB
                obtain ⟨u24q, rfl, hB⟩ := hB
                replace hB := grd_some hB
                obtain ⟨g27q, hB⟩ := hB
                replace hB := bn2_some hB
                obtain ⟨h25q, _, eh25q, hB⟩ := hB
                refine r_virtN (as := [.int a2]) (q := pm_m_34) f59_73 ca_5_106 rfl rfl rfl (cs_len (Nat.le_of_ble_eq_true rfl)) g27q (P_T_append (d := d + 1) eh25q) ?_
                refine r_iload_n f59_76 rfl ?_
                refine r_iconst f59_77 ci_1 ?_
                by_cases c28q : a1 ≤ 1
                · rw [if_pos c28q] at hB
                  refine r_ic_t (t := 89) f59_78 (by decide) c28q ?_
                  exact pm_weak (L' := [.ref t, .int a1, pm_J, pm_J, .int a4, .int a5, .int a6]) ⟨.inr rfl, .inr rfl, .inl rfl, .inl rfl, .inr rfl, .inr rfl, .inr rfl, trivial⟩ (P_X_feed_89 (d := d) h25q t a1 a4 a5 a6 hB)
                · rw [if_neg c28q] at hB
                  refine r_ic_f 89 f59_78 (by decide) c28q ?_
                  refine r_aload_nN f59_81 rfl ?_
                  replace hB := bnd_some hB
                  obtain ⟨x29q, ex29q, hB⟩ := hB
                  refine r_getA f59_82 fa_5_18 ex29q ?_
                  refine r_iload_n f59_85 rfl ?_
                  replace hB := bnd_some hB
                  obtain ⟨u30q, rfl, hB⟩ := hB
                  replace hB := grd_some hB
                  obtain ⟨g33q, hB⟩ := hB
                  replace hB := bn2_some hB
                  obtain ⟨h31q, _, eh31q, hB⟩ := hB
                  refine r_virtN (as := [.int a3]) (q := pm_m_34) f59_86 ca_5_106 rfl rfl rfl (cs_len (Nat.le_of_ble_eq_true rfl)) g33q (P_T_append (d := d + 1) eh31q) ?_
                  exact pm_weak (L' := [.ref t, .int a1, pm_J, pm_J, .int a4, .int a5, .int a6]) ⟨.inr rfl, .inr rfl, .inl rfl, .inl rfl, .inr rfl, .inr rfl, .inr rfl, trivial⟩ (P_X_feed_89 (d := d) h31q t a1 a4 a5 a6 hB)
              · rw [if_neg c22q] at hB
                refine r_ic_f 68 f59_62 (by decide) c22q ?_
                refine r_bipush f59_65 cb_m4 ?_
                exact r_iret pm_m_59 .int f59_67 rfl rfl rfl (zI hB)
theorem P_X_text {d : Nat} {h h' : pm_H} {r : Int32} {t : Nat} (hB : X_text h t = some (h', r)) : pm_ev (d + 67) 60 [.ref t] h (some (.int r)) h' := by
  unfold X_text at hB
  refine pm_ev_mk (L := [.ref t, pm_J]) pm_m_60 rfl (Nat.le_of_ble_eq_true rfl) rfl ?_
  refine r_aload_nN f60_0 rfl ?_
  replace hB := bnd_some hB
  obtain ⟨x1q, ex1q, hB⟩ := hB
  refine r_getI f60_1 fa_5_36 ex1q ?_
  refine r_aload_nN f60_4 rfl ?_
  replace hB := bnd_some hB
  obtain ⟨x2q, ex2q, hB⟩ := hB
  refine r_getA f60_5 fa_5_11 ex2q ?_
  replace hB := bnd_some hB
  obtain ⟨u3q, rfl, hB⟩ := hB
  replace hB := bnd_some hB
  obtain ⟨x4q, ex4q, hB⟩ := hB
  refine r_ln f60_8 ex4q ?_
  by_cases c5q : x1q < x4q
  · rw [if_pos c5q] at hB
    refine r_ic_t (t := 15) f60_9 (by decide) c5q ?_
    refine r_aload_nN f60_15 rfl ?_
    replace hB := bnd_some hB
    obtain ⟨x6q, ex6q, hB⟩ := hB
    refine r_getA f60_16 fa_5_18 ex6q ?_
    refine r_aload_nN f60_19 rfl ?_
    replace hB := bnd_some hB
    obtain ⟨x7q, ex7q, hB⟩ := hB
    refine r_getI f60_20 fa_5_36 ex7q ?_
    replace hB := bnd_some hB
    obtain ⟨u8q, rfl, hB⟩ := hB
    replace hB := grd_some hB
    obtain ⟨g11q, hB⟩ := hB
    replace hB := bn2_some hB
    obtain ⟨h9q, x10q, eh9q, hB⟩ := hB
    refine r_virtV (as := [.int x7q]) (q := pm_m_35) f60_23 ca_5_110 rfl rfl rfl (cs_len (Nat.le_of_ble_eq_true rfl)) g11q (P_T_toLaw (d := d + 0) eh9q) ?_
    refine r_astore_n (L' := [.ref t, va_rf x10q]) f60_26 (Nat.le_of_ble_eq_true rfl) rfl ?_
    refine r_aload_n f60_27 rfl ?_
    cases x10q with
    | none =>
      refine r_nn_f 42 f60_28 (by decide) rfl ?_
      refine r_bipush f60_31 cb_m100 ?_
      refine r_aload_nN f60_33 rfl ?_
      replace hB := bnd_some hB
      obtain ⟨x14q, ex14q, hB⟩ := hB
      refine r_getA f60_34 fa_5_18 ex14q ?_
      replace hB := bnd_some hB
      obtain ⟨u15q, rfl, hB⟩ := hB
      replace hB := bnd_some hB
      obtain ⟨x16q, ex16q, hB⟩ := hB
      refine r_getI f60_37 fa_5_114 ex16q ?_
      refine r_isub f60_40 ?_
      exact r_iret pm_m_60 .int f60_41 rfl rfl rfl (zI hB)
    | some u13q =>
      refine r_nn_t (t := 42) (r := some u13q) f60_28 (by decide) (by simp) ?_
      dsimp only at hB
      refine r_aload_nN f60_42 rfl ?_
      replace hB := bnd_some hB
      obtain ⟨x17q, ex17q, hB⟩ := hB
      refine r_getA f60_43 fa_5_11 ex17q ?_
      refine r_aload_nN f60_46 rfl ?_
      replace hB := bnd_some hB
      obtain ⟨x18q, ex18q, hB⟩ := hB
      refine r_getI f60_47 fa_5_36 ex18q ?_
      refine r_aload_nN f60_50 rfl ?_
      replace hB := bnd_some hB
      obtain ⟨u19q, rfl, hB⟩ := hB
      replace hB := bnd_some hB
      obtain ⟨h20q, eh20q, hB⟩ := hB
      refine r_sA 2 f60_51 et_2 eh20q ?_
      refine r_aload_nN f60_52 rfl ?_
      refine r_dupN f60_53 ?_
      replace hB := bnd_some hB
      obtain ⟨x21q, ex21q, hB⟩ := hB
      refine r_getI f60_54 fa_5_36 ex21q ?_
      refine r_iconst f60_57 ci_1 ?_
      refine r_iadd f60_58 ?_
      replace hB := bnd_some hB
      obtain ⟨h22q, eh22q, hB⟩ := hB
      refine r_put f60_59 fa_5_36 ty_5_1 rfl rfl (no_fin (nf_5_1)) eh22q ?_
      refine r_aload_nN f60_62 rfl ?_
      replace hB := bnd_some hB
      obtain ⟨x23q, ex23q, hB⟩ := hB
      refine r_getI f60_63 fa_5_84 ex23q ?_
      exact r_iret pm_m_60 .int f60_66 rfl rfl rfl (zI hB)
  · rw [if_neg c5q] at hB
    refine r_ic_f 15 f60_9 (by decide) c5q ?_
    refine r_bipush f60_12 cb_m4 ?_
    exact r_iret pm_m_60 .int f60_14 rfl rfl rfl (zI hB)
theorem P_X_lawAt {d : Nat} {h h' : pm_H} {r : Option Nat} {t : Nat} {a1 : Int32} (hB : X_lawAt h t a1 = some (h', r)) : pm_ev (d + 1) 97 [.ref t, .int a1] h (some (va_rf r)) h' := by
  unfold X_lawAt at hB
  refine pm_ev_mk (L := [.ref t, .int a1]) pm_m_97 rfl (Nat.le_of_ble_eq_true rfl) rfl ?_
  refine r_iload_n f97_0 rfl ?_
  by_cases c1q : a1 < 0
  · rw [if_pos c1q] at hB
    refine r_if_t (t := 30) f97_1 (by decide) c1q ?_
    refine r_null f97_30 ?_
    exact r_aret (r := none) pm_m_97 (.object "DunesWalked$Law") f97_31 rfl rfl (by exact Or.inl ⟨_, rfl⟩) (zA hB)
  · rw [if_neg c1q] at hB
    refine r_if_f 30 f97_1 (by decide) c1q ?_
    refine r_iload_n f97_4 rfl ?_
    refine r_aload_nN f97_5 rfl ?_
    replace hB := bnd_some hB
    obtain ⟨x2q, ex2q, hB⟩ := hB
    refine r_getI f97_6 fa_5_36 ex2q ?_
    by_cases c3q : x2q ≤ a1
    · rw [if_pos c3q] at hB
      refine r_ic_t (t := 30) f97_9 (by decide) c3q ?_
      refine r_null f97_30 ?_
      exact r_aret (r := none) pm_m_97 (.object "DunesWalked$Law") f97_31 rfl rfl (by exact Or.inl ⟨_, rfl⟩) (zA hB)
    · rw [if_neg c3q] at hB
      refine r_ic_f 30 f97_9 (by decide) c3q ?_
      refine r_iload_n f97_12 rfl ?_
      refine r_aload_nN f97_13 rfl ?_
      replace hB := bnd_some hB
      obtain ⟨x4q, ex4q, hB⟩ := hB
      refine r_getA f97_14 fa_5_11 ex4q ?_
      replace hB := bnd_some hB
      obtain ⟨u5q, rfl, hB⟩ := hB
      replace hB := bnd_some hB
      obtain ⟨x6q, ex6q, hB⟩ := hB
      refine r_ln f97_17 ex6q ?_
      by_cases c7q : x6q ≤ a1
      · rw [if_pos c7q] at hB
        refine r_ic_t (t := 30) f97_18 (by decide) c7q ?_
        refine r_null f97_30 ?_
        exact r_aret (r := none) pm_m_97 (.object "DunesWalked$Law") f97_31 rfl rfl (by exact Or.inl ⟨_, rfl⟩) (zA hB)
      · rw [if_neg c7q] at hB
        refine r_ic_f 30 f97_18 (by decide) c7q ?_
        refine r_aload_nN f97_21 rfl ?_
        replace hB := bnd_some hB
        obtain ⟨x8q, ex8q, hB⟩ := hB
        refine r_getA f97_22 fa_5_11 ex8q ?_
        refine r_iload_n f97_25 rfl ?_
        replace hB := bnd_some hB
        obtain ⟨u9q, rfl, hB⟩ := hB
        replace hB := bnd_some hB
        obtain ⟨x10q, ex10q, hB⟩ := hB
        refine r_aA 2 f97_26 et_2 ex10q ?_
        refine r_goto (t := 31) f97_27 (by decide) ?_
        exact r_aret (r := x10q) pm_m_97 (.object "DunesWalked$Law") f97_31 rfl rfl (by exact Or.inl ⟨_, rfl⟩) (zA hB)
theorem P_X_force {d : Nat} {h h' : pm_H} {r : Int32} {t : Nat} {a1 : Int32} (hB : X_force h t a1 = some (h', r)) : pm_ev (d + 2) 61 [.ref t, .int a1] h (some (.int r)) h' := by
  unfold X_force at hB
  refine pm_ev_mk (L := [.ref t, .int a1, pm_J, pm_J]) pm_m_61 rfl (Nat.le_of_ble_eq_true rfl) rfl ?_
  refine r_aload_nN f61_0 rfl ?_
  refine r_iload_n f61_1 rfl ?_
  replace hB := grd_some hB
  obtain ⟨g3q, hB⟩ := hB
  replace hB := bn2_some hB
  obtain ⟨h1q, x2q, eh1q, hB⟩ := hB
  refine r_virtV (as := [.int a1]) (q := pm_m_97) f61_2 ca_5_117 rfl rfl rfl (cs_len (Nat.le_of_ble_eq_true rfl)) g3q (P_X_lawAt (d := d + 0) eh1q) ?_
  refine r_astore_n (L' := [.ref t, .int a1, va_rf x2q, pm_J]) f61_5 (Nat.le_of_ble_eq_true rfl) rfl ?_
  refine r_aload_n f61_6 rfl ?_
  cases x2q with
  | none =>
    refine r_nn_f 13 f61_7 (by decide) rfl ?_
    refine r_bipush f61_10 cb_m2 ?_
    exact r_iret pm_m_61 .int f61_12 rfl rfl rfl (zI hB)
  | some u5q =>
    refine r_nn_t (t := 13) (r := some u5q) f61_7 (by decide) (by simp) ?_
    dsimp only at hB
    refine r_aload_nN f61_13 rfl ?_
    replace hB := bnd_some hB
    obtain ⟨x6q, ex6q, hB⟩ := hB
    refine r_getA f61_14 fa_5_45 ex6q ?_
    replace hB := bnd_some hB
    obtain ⟨u7q, rfl, hB⟩ := hB
    replace hB := bnd_some hB
    obtain ⟨x8q, ex8q, hB⟩ := hB
    refine r_getA f61_17 fa_5_80 ex8q ?_
    replace hB := bnd_some hB
    obtain ⟨u9q, rfl, hB⟩ := hB
    replace hB := bnd_some hB
    obtain ⟨x10q, ex10q, hB⟩ := hB
    refine r_getI f61_20 fa_5_84 ex10q ?_
    refine r_istore_n (L' := [.ref t, .int a1, .ref u5q, .int x10q]) (x := x10q) f61_23 rfl (Nat.le_of_ble_eq_true rfl) rfl ?_
    refine r_aload_nN f61_24 rfl ?_
    replace hB := bnd_some hB
    obtain ⟨x11q, ex11q, hB⟩ := hB
    refine r_getA f61_25 fa_5_45 ex11q ?_
    refine r_aload_nN f61_28 rfl ?_
    replace hB := bnd_some hB
    obtain ⟨u12q, rfl, hB⟩ := hB
    replace hB := bnd_some hB
    obtain ⟨h13q, eh13q, hB⟩ := hB
    refine r_put f61_29 fa_5_80 ty_1_5 rfl rfl (no_fin (nf_1_5)) eh13q ?_
    refine r_iload_n f61_32 rfl ?_
    exact r_iret pm_m_61 .int f61_33 rfl rfl rfl (zI hB)
theorem P_X_asks {d : Nat} {h h' : pm_H} {r : Int32} {t : Nat} {a1 : Int32} {a2 : Int32} (hB : X_asks h t a1 a2 = some (h', r)) : pm_ev (d + 4) 62 [.ref t, .int a1, .int a2] h (some (.int r)) h' := by
  unfold X_asks at hB
  refine pm_ev_mk (L := [.ref t, .int a1, .int a2, pm_J]) pm_m_62 rfl (Nat.le_of_ble_eq_true rfl) rfl ?_
  refine r_aload_nN f62_0 rfl ?_
  replace hB := bnd_some hB
  obtain ⟨x1q, ex1q, hB⟩ := hB
  refine r_getA f62_1 fa_5_45 ex1q ?_
  refine r_iload_n f62_4 rfl ?_
  replace hB := bnd_some hB
  obtain ⟨u2q, rfl, hB⟩ := hB
  replace hB := grd_some hB
  obtain ⟨g5q, hB⟩ := hB
  replace hB := bn2_some hB
  obtain ⟨h3q, x4q, eh3q, hB⟩ := hB
  refine r_virtV (as := [.int a2]) (q := pm_m_11) f62_5 ca_5_120 rfl rfl rfl (cs_len (Nat.le_of_ble_eq_true rfl)) g5q (P_L_standing (d := d + 2) eh3q) ?_
  refine r_astore_n (L' := [.ref t, .int a1, .int a2, va_rf x4q]) f62_8 (Nat.le_of_ble_eq_true rfl) rfl ?_
  refine r_iload_n f62_9 rfl ?_
  refine r_iconst f62_10 ci_0 ?_
  refine r_iconst f62_11 ci_2 ?_
  replace hB := bn2_some hB
  obtain ⟨h6q, x7q, eh6q, hB⟩ := hB
  refine r_statV (as := [.int a1, .int 0, .int 2]) (q := pm_m_92) f62_12 ca_5_90 rfl (by decide) rfl rfl (cs_len (Nat.le_of_ble_eq_true rfl)) (P_X_within (d := d + 2) eh6q) ?_
  by_cases c8q : x7q = 0
  · rw [if_pos c8q] at hB
    refine r_if_t (t := 22) f62_15 (by decide) c8q ?_
    refine r_sipush f62_22 cs_m1000 ?_
    exact r_iret pm_m_62 .int f62_25 rfl rfl rfl (zI hB)
  · rw [if_neg c8q] at hB
    refine r_if_f 22 f62_15 (by decide) c8q ?_
    refine r_aload_n f62_18 rfl ?_
    cases x4q with
    | none =>
      refine r_nn_f 26 f62_19 (by decide) rfl ?_
      refine r_sipush f62_22 cs_m1000 ?_
      exact r_iret pm_m_62 .int f62_25 rfl rfl rfl (zI hB)
    | some u10q =>
      refine r_nn_t (t := 26) (r := some u10q) f62_19 (by decide) (by simp) ?_
      dsimp only at hB
      refine r_aload_nN f62_26 rfl ?_
      replace hB := bnd_some hB
      obtain ⟨x11q, ex11q, hB⟩ := hB
      refine r_getA f62_27 fa_5_45 ex11q ?_
      refine r_iload_n f62_30 rfl ?_
      refine r_aload_nN f62_31 rfl ?_
      replace hB := bnd_some hB
      obtain ⟨u12q, rfl, hB⟩ := hB
      replace hB := grd_some hB
      obtain ⟨g15q, hB⟩ := hB
      replace hB := bn2_some hB
      obtain ⟨h13q, x14q, eh13q, hB⟩ := hB
      refine r_virtV (as := [.int a1, .ref u10q]) (q := pm_m_24) f62_32 ca_5_124 rfl rfl rfl (cs_len (Nat.le_of_ble_eq_true rfl)) g15q (P_L_says (d := d + 0) eh13q) ?_
      exact r_iret pm_m_62 .int f62_35 rfl rfl rfl (zI hB)
theorem P_X_dune {d : Nat} {h h' : pm_H} {r : Int32} {t : Nat} {a1 : Int32} {a2 : Int32} (hB : X_dune h t a1 a2 = some (h', r)) : pm_ev (d + 2) 63 [.ref t, .int a1, .int a2] h (some (.int r)) h' := by
  unfold X_dune at hB
  refine pm_ev_mk (L := [.ref t, .int a1, .int a2, pm_J, pm_J, pm_J]) pm_m_63 rfl (Nat.le_of_ble_eq_true rfl) rfl ?_
  refine r_iload_n f63_0 rfl ?_
  refine r_iconst f63_1 ci_0 ?_
  refine r_bipush f63_2 cb_59 ?_
  replace hB := bn2_some hB
  obtain ⟨h1q, x2q, eh1q, hB⟩ := hB
  refine r_statV (as := [.int a1, .int 0, .int 59]) (q := pm_m_92) f63_4 ca_5_90 rfl (by decide) rfl rfl (cs_len (Nat.le_of_ble_eq_true rfl)) (P_X_within (d := d + 0) eh1q) ?_
  by_cases c3q : x2q = 0
  · rw [if_pos c3q] at hB
    refine r_if_t (t := 20) f63_7 (by decide) c3q ?_
    refine r_bipush f63_20 cb_m2 ?_
    exact r_iret pm_m_63 .int f63_22 rfl rfl rfl (zI hB)
  · rw [if_neg c3q] at hB
    refine r_if_f 20 f63_7 (by decide) c3q ?_
    refine r_iload_n f63_10 rfl ?_
    refine r_iconst f63_11 ci_0 ?_
    refine r_ldc (v := 399999) (p := 523) f63_12 rfl ?_
    replace hB := bn2_some hB
    obtain ⟨h4q, x5q, eh4q, hB⟩ := hB
    refine r_statV (as := [.int a2, .int 0, .int 399999]) (q := pm_m_92) f63_14 ca_5_90 rfl (by decide) rfl rfl (cs_len (Nat.le_of_ble_eq_true rfl)) (P_X_within (d := d + 0) eh4q) ?_
    by_cases c6q : x5q = 0
    · rw [if_pos c6q] at hB
      refine r_if_f 23 f63_17 (by decide) (fun q => q c6q) ?_
      refine r_bipush f63_20 cb_m2 ?_
      exact r_iret pm_m_63 .int f63_22 rfl rfl rfl (zI hB)
    · rw [if_neg c6q] at hB
      refine r_if_t (t := 23) f63_17 (by decide) c6q ?_
      refine r_iload_n f63_23 rfl ?_
      refine r_sipush f63_24 cs_1000 ?_
      refine r_idiv f63_27 nz_i_1000 ?_
      refine r_bipush f63_28 cb_10 ?_
      refine r_irem f63_30 nz_i_10 ?_
      obtain ⟨y7q, hy7q⟩ : ∃ z, z = ((a2 / 1000) - (a2 / 1000) / 10 * 10) := ⟨_, rfl⟩
      replace hB := nmd_at hy7q hB
      refine r_istore_n (L' := [.ref t, .int a1, .int a2, .int y7q, pm_J, pm_J]) (x := y7q) f63_31 hy7q (Nat.le_of_ble_eq_true rfl) rfl ?_
      refine r_iload_n f63_32 rfl ?_
      refine r_sipush f63_33 cs_1000 ?_
      refine r_irem f63_36 nz_i_1000 ?_
      obtain ⟨y8q, hy8q⟩ : ∃ z, z = (a2 - a2 / 1000 * 1000) := ⟨_, rfl⟩
      replace hB := nmd_at hy8q hB
      refine r_istore (L' := [.ref t, .int a1, .int a2, .int y7q, .int y8q, pm_J]) (x := y8q) f63_37 hy8q (Nat.le_of_ble_eq_true rfl) rfl ?_
      refine r_iload_n f63_39 rfl ?_
      by_cases c9q : y7q = 0
      · rw [if_pos c9q] at hB
        refine r_if_t (t := 50) f63_40 (by decide) c9q ?_
        refine r_bipush f63_50 cb_m2 ?_
        exact r_iret pm_m_63 .int f63_52 rfl rfl rfl (zI hB)
      · rw [if_neg c9q] at hB
        refine r_if_f 50 f63_40 (by decide) c9q ?_
        refine r_iload f63_43 rfl ?_
        refine r_bipush f63_45 cb_99 ?_
        by_cases c10q : y8q ≤ 99
        · rw [if_pos c10q] at hB
          refine r_ic_t (t := 53) f63_47 (by decide) c10q ?_
          refine r_aload_nN f63_53 rfl ?_
          replace hB := bnd_some hB
          obtain ⟨x11q, ex11q, hB⟩ := hB
          refine r_getA f63_54 fa_5_45 ex11q ?_
          replace hB := bnd_some hB
          obtain ⟨u12q, rfl, hB⟩ := hB
          replace hB := bnd_some hB
          obtain ⟨x13q, ex13q, hB⟩ := hB
          refine r_getI f63_57 fa_5_52 ex13q ?_
          refine r_aload_nN f63_60 rfl ?_
          replace hB := bnd_some hB
          obtain ⟨x14q, ex14q, hB⟩ := hB
          refine r_getA f63_61 fa_5_45 ex14q ?_
          replace hB := bnd_some hB
          obtain ⟨u15q, rfl, hB⟩ := hB
          replace hB := bnd_some hB
          obtain ⟨x16q, ex16q, hB⟩ := hB
          refine r_getA f63_64 fa_5_129 ex16q ?_
          replace hB := bnd_some hB
          obtain ⟨u17q, rfl, hB⟩ := hB
          replace hB := bnd_some hB
          obtain ⟨x18q, ex18q, hB⟩ := hB
          refine r_ln f63_67 ex18q ?_
          by_cases c19q : x13q < x18q
          · rw [if_pos c19q] at hB
            refine r_ic_t (t := 74) f63_68 (by decide) c19q ?_
            refine r_aload_nN f63_74 rfl ?_
            replace hB := bnd_some hB
            obtain ⟨x20q, ex20q, hB⟩ := hB
            refine r_getA f63_75 fa_5_45 ex20q ?_
            replace hB := bnd_some hB
            obtain ⟨u21q, rfl, hB⟩ := hB
            replace hB := bnd_some hB
            obtain ⟨x22q, ex22q, hB⟩ := hB
            refine r_getA f63_78 fa_5_129 ex22q ?_
            refine r_aload_nN f63_81 rfl ?_
            replace hB := bnd_some hB
            obtain ⟨x23q, ex23q, hB⟩ := hB
            refine r_getA f63_82 fa_5_45 ex23q ?_
            replace hB := bnd_some hB
            obtain ⟨u24q, rfl, hB⟩ := hB
            replace hB := bnd_some hB
            obtain ⟨x25q, ex25q, hB⟩ := hB
            refine r_getI f63_85 fa_5_52 ex25q ?_
            replace hB := bnd_some hB
            obtain ⟨u26q, rfl, hB⟩ := hB
            replace hB := bnd_some hB
            obtain ⟨x27q, ex27q, hB⟩ := hB
            refine r_aA 0 f63_88 et_0 ex27q ?_
            refine r_astore (L' := [.ref t, .int a1, .int a2, .int y7q, .int y8q, va_rf x27q]) f63_89 (Nat.le_of_ble_eq_true rfl) rfl ?_
            refine r_aload f63_91 rfl ?_
            refine r_iload_n f63_93 rfl ?_
            refine r_bipush f63_94 cb_10 ?_
            refine r_idiv f63_96 nz_i_10 ?_
            replace hB := bnd_some hB
            obtain ⟨u28q, rfl, hB⟩ := hB
            replace hB := bnd_some hB
            obtain ⟨h29q, eh29q, hB⟩ := hB
            refine r_put f63_97 fa_5_133 ty_0_1 rfl rfl (no_fin (nf_0_1)) eh29q ?_
            refine r_aloadN f63_100 rfl ?_
            refine r_iload_n f63_102 rfl ?_
            refine r_bipush f63_103 cb_10 ?_
            refine r_irem f63_105 nz_i_10 ?_
            replace hB := bnd_some hB
            obtain ⟨h30q, eh30q, hB⟩ := hB
            refine r_put f63_106 fa_5_138 ty_0_2 rfl rfl (no_fin (nf_0_2)) eh30q ?_
            refine r_aloadN f63_109 rfl ?_
            refine r_iload_n f63_111 rfl ?_
            refine r_sipush f63_112 cs_10000 ?_
            refine r_idiv f63_115 nz_i_10000 ?_
            replace hB := bnd_some hB
            obtain ⟨h31q, eh31q, hB⟩ := hB
            refine r_put f63_116 fa_5_141 ty_0_3 rfl rfl (no_fin (nf_0_3)) eh31q ?_
            refine r_aloadN f63_119 rfl ?_
            refine r_iload_n f63_121 rfl ?_
            replace hB := bnd_some hB
            obtain ⟨h32q, eh32q, hB⟩ := hB
            refine r_put f63_122 fa_5_144 ty_0_4 rfl rfl (no_fin (nf_0_4)) eh32q ?_
            refine r_aloadN f63_125 rfl ?_
            refine r_iload f63_127 rfl ?_
            replace hB := bnd_some hB
            obtain ⟨h33q, eh33q, hB⟩ := hB
            refine r_put f63_129 fa_5_145 ty_0_5 rfl rfl (no_fin (nf_0_5)) eh33q ?_
            refine r_aloadN f63_132 rfl ?_
            refine r_iconst f63_134 ci_0 ?_
            replace hB := bnd_some hB
            obtain ⟨h34q, eh34q, hB⟩ := hB
            refine r_put f63_135 fa_5_148 ty_0_6 (bool_n (by decide)) (bool_f (by decide)) (no_fin (nf_0_6)) eh34q ?_
            refine r_aload_nN f63_138 rfl ?_
            replace hB := bnd_some hB
            obtain ⟨x35q, ex35q, hB⟩ := hB
            refine r_getA f63_139 fa_5_45 ex35q ?_
            refine r_dupA f63_142 ?_
            replace hB := bnd_some hB
            obtain ⟨u36q, rfl, hB⟩ := hB
            replace hB := bnd_some hB
            obtain ⟨x37q, ex37q, hB⟩ := hB
            refine r_getI f63_143 fa_5_52 ex37q ?_
            refine r_iconst f63_146 ci_1 ?_
            refine r_iadd f63_147 ?_
            replace hB := bnd_some hB
            obtain ⟨h38q, eh38q, hB⟩ := hB
            refine r_put f63_148 fa_5_52 ty_1_1 rfl rfl (no_fin (nf_1_1)) eh38q ?_
            refine r_aloadN f63_151 rfl ?_
            replace hB := bnd_some hB
            obtain ⟨x39q, ex39q, hB⟩ := hB
            refine r_getI f63_153 fa_5_152 ex39q ?_
            exact r_iret pm_m_63 .int f63_156 rfl rfl rfl (zI hB)
          · rw [if_neg c19q] at hB
            refine r_ic_f 74 f63_68 (by decide) c19q ?_
            refine r_bipush f63_71 cb_m4 ?_
            exact r_iret pm_m_63 .int f63_73 rfl rfl rfl (zI hB)
        · rw [if_neg c10q] at hB
          refine r_ic_f 53 f63_47 (by decide) c10q ?_
          refine r_bipush f63_50 cb_m2 ?_
          exact r_iret pm_m_63 .int f63_52 rfl rfl rfl (zI hB)
theorem P_X_leastOf {d : Nat} {h h' : pm_H} {r : Int32} {a0 : Int32} (hB : X_leastOf h a0 = some (h', r)) : pm_ev (d + 1) 95 [.int a0] h (some (.int r)) h' := by
  unfold X_leastOf at hB
  refine pm_ev_mk (L := [.int a0]) pm_m_95 rfl (Nat.le_of_ble_eq_true rfl) rfl ?_
  refine r_iload_n f95_0 rfl ?_
  refine r_iconst f95_1 ci_1 ?_
  by_cases c1q : a0 = 1
  · rw [if_pos c1q] at hB
    refine r_ic_f 9 f95_2 (by decide) (fun q => q c1q) ?_
    refine r_iconst f95_5 ci_1 ?_
    refine r_goto (t := 10) f95_6 (by decide) ?_
    exact r_iret pm_m_95 .int f95_10 rfl rfl rfl (zI hB)
  · rw [if_neg c1q] at hB
    refine r_ic_t (t := 9) f95_2 (by decide) c1q ?_
    refine r_iconst f95_9 ci_0 ?_
    exact r_iret pm_m_95 .int f95_10 rfl rfl rfl (zI hB)
theorem P_X_mostOf {d : Nat} {h h' : pm_H} {r : Int32} {a0 : Int32} (hB : X_mostOf h a0 = some (h', r)) : pm_ev (d + 1) 96 [.int a0] h (some (.int r)) h' := by
  unfold X_mostOf at hB
  refine pm_ev_mk (L := [.int a0]) pm_m_96 rfl (Nat.le_of_ble_eq_true rfl) rfl ?_
  refine r_iload_n f96_0 rfl ?_
  by_cases c1q : a0 = 0
  · rw [if_pos c1q] at hB
    refine r_if_f 9 f96_1 (by decide) (fun q => q c1q) ?_
    refine r_bipush f96_4 cb_39 ?_
    refine r_goto (t := 21) f96_6 (by decide) ?_
    exact r_iret pm_m_96 .int f96_21 rfl rfl rfl (zI hB)
  · rw [if_neg c1q] at hB
    refine r_if_t (t := 9) f96_1 (by decide) c1q ?_
    refine r_iload_n f96_9 rfl ?_
    refine r_iconst f96_10 ci_1 ?_
    by_cases c2q : a0 = 1
    · rw [if_pos c2q] at hB
      refine r_ic_f 19 f96_11 (by decide) (fun q => q c2q) ?_
      refine r_bipush f96_14 cb_9 ?_
      refine r_goto (t := 21) f96_16 (by decide) ?_
      exact r_iret pm_m_96 .int f96_21 rfl rfl rfl (zI hB)
    · rw [if_neg c2q] at hB
      refine r_ic_t (t := 19) f96_11 (by decide) c2q ?_
      refine r_bipush f96_19 cb_99 ?_
      exact r_iret pm_m_96 .int f96_21 rfl rfl rfl (zI hB)
theorem P_X_put {d : Nat} {h h' : pm_H} {r : Int32} {t : Nat} {a1 : Int32} {a2 : Int32} {a3 : Int32} (hB : X_put h t a1 a2 a3 = some (h', r)) : pm_ev (d + 2) 64 [.ref t, .int a1, .int a2, .int a3] h (some (.int r)) h' := by
  unfold X_put at hB
  refine pm_ev_mk (L := [.ref t, .int a1, .int a2, .int a3, pm_J, pm_J]) pm_m_64 rfl (Nat.le_of_ble_eq_true rfl) rfl ?_
  refine r_aload_nN f64_0 rfl ?_
  replace hB := bnd_some hB
  obtain ⟨x1q, ex1q, hB⟩ := hB
  refine r_getA f64_1 fa_5_45 ex1q ?_
  refine r_iload_n f64_4 rfl ?_
  replace hB := bnd_some hB
  obtain ⟨u2q, rfl, hB⟩ := hB
  replace hB := grd_some hB
  obtain ⟨g5q, hB⟩ := hB
  replace hB := bn2_some hB
  obtain ⟨h3q, x4q, eh3q, hB⟩ := hB
  refine r_virtV (as := [.int a1]) (q := pm_m_11) f64_5 ca_5_120 rfl rfl rfl (cs_len (Nat.le_of_ble_eq_true rfl)) g5q (P_L_standing (d := d + 0) eh3q) ?_
  refine r_astore (L' := [.ref t, .int a1, .int a2, .int a3, va_rf x4q, pm_J]) f64_8 (Nat.le_of_ble_eq_true rfl) rfl ?_
  refine r_aload f64_10 rfl ?_
  cases x4q with
  | none =>
    refine r_nn_f 18 f64_12 (by decide) rfl ?_
    refine r_bipush f64_15 cb_m5 ?_
    exact r_iret pm_m_64 .int f64_17 rfl rfl rfl (zI hB)
  | some u7q =>
    refine r_nn_t (t := 18) (r := some u7q) f64_12 (by decide) (by simp) ?_
    dsimp only at hB
    refine r_iload_n f64_18 rfl ?_
    refine r_iconst f64_19 ci_0 ?_
    refine r_iconst f64_20 ci_2 ?_
    replace hB := bn2_some hB
    obtain ⟨h8q, x9q, eh8q, hB⟩ := hB
    refine r_statV (as := [.int a2, .int 0, .int 2]) (q := pm_m_92) f64_21 ca_5_90 rfl (by decide) rfl rfl (cs_len (Nat.le_of_ble_eq_true rfl)) (P_X_within (d := d + 0) eh8q) ?_
    by_cases c10q : x9q = 0
    · rw [if_pos c10q] at hB
      refine r_if_t (t := 42) f64_24 (by decide) c10q ?_
      refine r_bipush f64_42 cb_m7 ?_
      exact r_iret pm_m_64 .int f64_44 rfl rfl rfl (zI hB)
    · rw [if_neg c10q] at hB
      refine r_if_f 42 f64_24 (by decide) c10q ?_
      refine r_iload_n f64_27 rfl ?_
      refine r_iload_n f64_28 rfl ?_
      replace hB := bn2_some hB
      obtain ⟨h11q, x12q, eh11q, hB⟩ := hB
      refine r_statV (as := [.int a2]) (q := pm_m_95) f64_29 ca_5_153 rfl (by decide) rfl rfl (cs_len (Nat.le_of_ble_eq_true rfl)) (P_X_leastOf (d := d + 0) eh11q) ?_
      refine r_iload_n f64_32 rfl ?_
      replace hB := bn2_some hB
      obtain ⟨h13q, x14q, eh13q, hB⟩ := hB
      refine r_statV (as := [.int a2]) (q := pm_m_96) f64_33 ca_5_156 rfl (by decide) rfl rfl (cs_len (Nat.le_of_ble_eq_true rfl)) (P_X_mostOf (d := d + 0) eh13q) ?_
      replace hB := bn2_some hB
      obtain ⟨h15q, x16q, eh15q, hB⟩ := hB
      refine r_statV (as := [.int a3, .int x12q, .int x14q]) (q := pm_m_92) f64_36 ca_5_90 rfl (by decide) rfl rfl (cs_len (Nat.le_of_ble_eq_true rfl)) (P_X_within (d := d + 0) eh15q) ?_
      by_cases c17q : x16q = 0
      · rw [if_pos c17q] at hB
        refine r_if_f 45 f64_39 (by decide) (fun q => q c17q) ?_
        refine r_bipush f64_42 cb_m7 ?_
        exact r_iret pm_m_64 .int f64_44 rfl rfl rfl (zI hB)
      · rw [if_neg c17q] at hB
        refine r_if_t (t := 45) f64_39 (by decide) c17q ?_
        refine r_aloadN f64_45 rfl ?_
        refine r_iload_n f64_47 rfl ?_
        replace hB := grd_some hB
        obtain ⟨g20q, hB⟩ := hB
        replace hB := bn2_some hB
        obtain ⟨h18q, x19q, eh18q, hB⟩ := hB
        refine r_virtV (as := [.int a2]) (q := pm_m_3) f64_48 ca_5_159 rfl rfl rfl (cs_len (Nat.le_of_ble_eq_true rfl)) g20q (P_D_quality (d := d + 0) eh18q) ?_
        refine r_istore (L' := [.ref t, .int a1, .int a2, .int a3, .ref u7q, .int x19q]) (x := x19q) f64_51 rfl (Nat.le_of_ble_eq_true rfl) rfl ?_
        refine r_aloadN f64_53 rfl ?_
        refine r_iload_n f64_55 rfl ?_
        refine r_iload_n f64_56 rfl ?_
        replace hB := grd_some hB
        obtain ⟨g23q, hB⟩ := hB
        replace hB := bn2_some hB
        obtain ⟨h21q, _, eh21q, hB⟩ := hB
        refine r_virtN (as := [.int a2, .int a3]) (q := pm_m_4) f64_57 ca_5_162 rfl rfl rfl (cs_len (Nat.le_of_ble_eq_true rfl)) g23q (P_D_change (d := d + 0) eh21q) ?_
        refine r_iload f64_60 rfl ?_
        exact r_iret pm_m_64 .int f64_62 rfl rfl rfl (zI hB)
theorem P_X_told_68 {d : Nat} {h' : pm_H} {r : Int32} (h : pm_H) (l2 : Int32) (l3 : Option Nat) (hB : X_told_68 h l2 l3 = some (h', r)) : pm_run (pm_ev (d + 4)) 65 68 [pm_J, pm_J, .int l2, va_rf l3] [] h (fun r1 h1 => r1 = some (.int r) ∧ h1 = h') := by
  unfold X_told_68 at hB
  refine r_aload_n f65_68 rfl ?_
  refine r_iload_n f65_69 rfl ?_
  replace hB := bnd_some hB
  obtain ⟨u1q, rfl, hB⟩ := hB
  replace hB := grd_some hB
  obtain ⟨g4q, hB⟩ := hB
  replace hB := bn2_some hB
  obtain ⟨h2q, x3q, eh2q, hB⟩ := hB
  refine r_virtV (as := [.int l2]) (q := pm_m_3) f65_70 ca_5_159 rfl rfl rfl (cs_len (Nat.le_of_ble_eq_true rfl)) g4q (P_D_quality (d := d + 3) eh2q) ?_
  exact r_iret pm_m_65 .int f65_73 rfl rfl rfl (zI hB)
theorem P_X_told {d : Nat} {h h' : pm_H} {r : Int32} {t : Nat} {a1 : Int32} {a2 : Int32} (hB : X_told h t a1 a2 = some (h', r)) : pm_ev (d + 5) 65 [.ref t, .int a1, .int a2] h (some (.int r)) h' := by
  unfold X_told at hB
  refine pm_ev_mk (L := [.ref t, .int a1, .int a2, pm_J]) pm_m_65 rfl (Nat.le_of_ble_eq_true rfl) rfl ?_
  refine r_aload_nN f65_0 rfl ?_
  replace hB := bnd_some hB
  obtain ⟨x1q, ex1q, hB⟩ := hB
  refine r_getA f65_1 fa_5_45 ex1q ?_
  refine r_iload_n f65_4 rfl ?_
  replace hB := bnd_some hB
  obtain ⟨u2q, rfl, hB⟩ := hB
  replace hB := grd_some hB
  obtain ⟨g5q, hB⟩ := hB
  replace hB := bn2_some hB
  obtain ⟨h3q, x4q, eh3q, hB⟩ := hB
  refine r_virtV (as := [.int a1]) (q := pm_m_11) f65_5 ca_5_120 rfl rfl rfl (cs_len (Nat.le_of_ble_eq_true rfl)) g5q (P_L_standing (d := d + 3) eh3q) ?_
  refine r_astore_n (L' := [.ref t, .int a1, .int a2, va_rf x4q]) f65_8 (Nat.le_of_ble_eq_true rfl) rfl ?_
  refine r_aload_n f65_9 rfl ?_
  cases x4q with
  | none =>
    refine r_nn_f 16 f65_10 (by decide) rfl ?_
    refine r_bipush f65_13 cb_m5 ?_
    exact r_iret pm_m_65 .int f65_15 rfl rfl rfl (zI hB)
  | some u7q =>
    refine r_nn_t (t := 16) (r := some u7q) f65_10 (by decide) (by simp) ?_
    dsimp only at hB
    refine r_iload_n f65_16 rfl ?_
    by_cases c8q : a2 = 0
    · rw [if_pos c8q] at hB
      refine r_tsw (off := 51) (t := 68) f65_17 c8q (by decide) (by decide) (by decide) (by decide) ?_
      exact pm_weak (L' := [pm_J, pm_J, .int a2, va_rf (some u7q)]) ⟨.inl rfl, .inl rfl, .inr rfl, .inr rfl, trivial⟩ (P_X_told_68 (d := d) h3q a2 (some u7q) hB)
    rw [if_neg c8q] at hB
    by_cases c9q : a2 = 1
    · rw [if_pos c9q] at hB
      refine r_tsw (off := 51) (t := 68) f65_17 c9q (by decide) (by decide) (by decide) (by decide) ?_
      exact pm_weak (L' := [pm_J, pm_J, .int a2, va_rf (some u7q)]) ⟨.inl rfl, .inl rfl, .inr rfl, .inr rfl, trivial⟩ (P_X_told_68 (d := d) h3q a2 (some u7q) hB)
    rw [if_neg c9q] at hB
    by_cases c10q : a2 = 2
    · rw [if_pos c10q] at hB
      refine r_tsw (off := 51) (t := 68) f65_17 c10q (by decide) (by decide) (by decide) (by decide) ?_
      exact pm_weak (L' := [pm_J, pm_J, .int a2, va_rf (some u7q)]) ⟨.inl rfl, .inl rfl, .inr rfl, .inr rfl, trivial⟩ (P_X_told_68 (d := d) h3q a2 (some u7q) hB)
    rw [if_neg c10q] at hB
    by_cases c11q : a2 = 3
    · rw [if_pos c11q] at hB
      refine r_tsw (off := 51) (t := 68) f65_17 c11q (by decide) (by decide) (by decide) (by decide) ?_
      exact pm_weak (L' := [pm_J, pm_J, .int a2, va_rf (some u7q)]) ⟨.inl rfl, .inl rfl, .inr rfl, .inr rfl, trivial⟩ (P_X_told_68 (d := d) h3q a2 (some u7q) hB)
    rw [if_neg c11q] at hB
    by_cases c12q : a2 = 4
    · rw [if_pos c12q] at hB
      refine r_tsw (off := 51) (t := 68) f65_17 c12q (by decide) (by decide) (by decide) (by decide) ?_
      exact pm_weak (L' := [pm_J, pm_J, .int a2, va_rf (some u7q)]) ⟨.inl rfl, .inl rfl, .inr rfl, .inr rfl, trivial⟩ (P_X_told_68 (d := d) h3q a2 (some u7q) hB)
    rw [if_neg c12q] at hB
    by_cases c13q : a2 = 5
    · rw [if_pos c13q] at hB
      refine r_tsw (off := 57) (t := 74) f65_17 c13q (by decide) (by decide) (by decide) (by decide) ?_
      refine r_aload_nN f65_74 rfl ?_
      replace hB := bnd_some hB
      obtain ⟨x14q, ex14q, hB⟩ := hB
      refine r_getA f65_75 fa_5_45 ex14q ?_
      refine r_aload_nN f65_78 rfl ?_
      replace hB := bnd_some hB
      obtain ⟨u15q, rfl, hB⟩ := hB
      replace hB := grd_some hB
      obtain ⟨g18q, hB⟩ := hB
      replace hB := bn2_some hB
      obtain ⟨h16q, x17q, eh16q, hB⟩ := hB
      refine r_virtV (as := [.ref u7q]) (q := pm_m_16) f65_79 ca_5_166 rfl rfl rfl (cs_len (Nat.le_of_ble_eq_true rfl)) g18q (P_L_onClover (d := d + 2) eh16q) ?_
      by_cases c19q : x17q = 0
      · rw [if_pos c19q] at hB
        refine r_if_t (t := 89) f65_82 (by decide) c19q ?_
        refine r_iconst f65_89 ci_0 ?_
        exact r_iret pm_m_65 .int f65_90 rfl rfl rfl (zI hB)
      · rw [if_neg c19q] at hB
        refine r_if_f 89 f65_82 (by decide) c19q ?_
        refine r_iconst f65_85 ci_1 ?_
        refine r_goto (t := 90) f65_86 (by decide) ?_
        exact r_iret pm_m_65 .int f65_90 rfl rfl rfl (zI hB)
    rw [if_neg c13q] at hB
    by_cases c20q : a2 = 6
    · rw [if_pos c20q] at hB
      refine r_tsw (off := 74) (t := 91) f65_17 c20q (by decide) (by decide) (by decide) (by decide) ?_
      refine r_aload_nN f65_91 rfl ?_
      replace hB := bnd_some hB
      obtain ⟨x21q, ex21q, hB⟩ := hB
      refine r_getA f65_92 fa_5_45 ex21q ?_
      refine r_aload_nN f65_95 rfl ?_
      replace hB := bnd_some hB
      obtain ⟨u22q, rfl, hB⟩ := hB
      replace hB := grd_some hB
      obtain ⟨g25q, hB⟩ := hB
      replace hB := bn2_some hB
      obtain ⟨h23q, x24q, eh23q, hB⟩ := hB
      refine r_virtV (as := [.ref u7q]) (q := pm_m_20) f65_96 ca_5_170 rfl rfl rfl (cs_len (Nat.le_of_ble_eq_true rfl)) g25q (P_L_stride (d := d + 0) eh23q) ?_
      exact r_iret pm_m_65 .int f65_99 rfl rfl rfl (zI hB)
    rw [if_neg c20q] at hB
    by_cases c26q : a2 = 7
    · rw [if_pos c26q] at hB
      refine r_tsw (off := 83) (t := 100) f65_17 c26q (by decide) (by decide) (by decide) (by decide) ?_
      refine r_aload_nN f65_100 rfl ?_
      replace hB := bnd_some hB
      obtain ⟨x27q, ex27q, hB⟩ := hB
      refine r_getA f65_101 fa_5_45 ex27q ?_
      refine r_aload_nN f65_104 rfl ?_
      replace hB := bnd_some hB
      obtain ⟨u28q, rfl, hB⟩ := hB
      replace hB := grd_some hB
      obtain ⟨g31q, hB⟩ := hB
      replace hB := bn2_some hB
      obtain ⟨h29q, x30q, eh29q, hB⟩ := hB
      refine r_virtV (as := [.ref u7q]) (q := pm_m_23) f65_105 ca_5_174 rfl rfl rfl (cs_len (Nat.le_of_ble_eq_true rfl)) g31q (P_L_need (d := d + 0) eh29q) ?_
      exact r_iret pm_m_65 .int f65_108 rfl rfl rfl (zI hB)
    rw [if_neg c26q] at hB
    by_cases c32q : a2 = 8
    · rw [if_pos c32q] at hB
      refine r_tsw (off := 92) (t := 109) f65_17 c32q (by decide) (by decide) (by decide) (by decide) ?_
      refine r_aload_nN f65_109 rfl ?_
      replace hB := bnd_some hB
      obtain ⟨x33q, ex33q, hB⟩ := hB
      refine r_getA f65_110 fa_5_45 ex33q ?_
      replace hB := bnd_some hB
      obtain ⟨u34q, rfl, hB⟩ := hB
      replace hB := bnd_some hB
      obtain ⟨x35q, ex35q, hB⟩ := hB
      refine r_getJ f65_113 fa_5_68 ex35q ?_
      refine r_aload_nN f65_116 rfl ?_
      replace hB := grd_some hB
      obtain ⟨g38q, hB⟩ := hB
      replace hB := bn2_some hB
      obtain ⟨h36q, x37q, eh36q, hB⟩ := hB
      refine r_virtV (as := []) (q := pm_m_2) f65_117 ca_5_177 rfl rfl rfl (cs_len (Nat.le_of_ble_eq_true rfl)) g38q (P_D_yards (d := d + 3) eh36q) ?_
      refine r_land f65_120 ?_
      replace hB := bn2_some hB
      obtain ⟨h39q, x40q, eh39q, hB⟩ := hB
      refine r_statV (as := [.long (x35q &&& x37q)]) (q := pm_m_185) f65_121 ca_5_72 rfl (by decide) rfl rfl (cs_len (Nat.le_of_ble_eq_true rfl)) (P_Jl_bitCount (d := d + 3) eh39q) ?_
      exact r_iret pm_m_65 .int f65_124 rfl rfl rfl (zI hB)
    rw [if_neg c32q] at hB
    refine r_tswD (t := 125) f65_17 (sw_out 9 (lt_s (lt_s (lt_s (lt_s (lt_s (lt_s (lt_s (lt_s (lt_s (lt_0) (sw_ne c8q (by decide))) (sw_ne c9q (by decide))) (sw_ne c10q (by decide))) (sw_ne c11q (by decide))) (sw_ne c12q (by decide))) (sw_ne c13q (by decide))) (sw_ne c20q (by decide))) (sw_ne c26q (by decide))) (sw_ne c32q (by decide))) (by decide)) (by decide) ?_
    refine r_bipush f65_125 cb_m7 ?_
    exact r_iret pm_m_65 .int f65_127 rfl rfl rfl (zI hB)
theorem P_X_grows {d : Nat} {h h' : pm_H} {r : Int32} {t : Nat} {a1 : Int32} (hB : X_grows h t a1 = some (h', r)) : pm_ev (d + 5) 66 [.ref t, .int a1] h (some (.int r)) h' := by
  unfold X_grows at hB
  refine pm_ev_mk (L := [.ref t, .int a1, pm_J]) pm_m_66 rfl (Nat.le_of_ble_eq_true rfl) rfl ?_
  refine r_aload_nN f66_0 rfl ?_
  replace hB := bnd_some hB
  obtain ⟨x1q, ex1q, hB⟩ := hB
  refine r_getA f66_1 fa_5_45 ex1q ?_
  refine r_iload_n f66_4 rfl ?_
  replace hB := bnd_some hB
  obtain ⟨u2q, rfl, hB⟩ := hB
  replace hB := grd_some hB
  obtain ⟨g5q, hB⟩ := hB
  replace hB := bn2_some hB
  obtain ⟨h3q, x4q, eh3q, hB⟩ := hB
  refine r_virtV (as := [.int a1]) (q := pm_m_11) f66_5 ca_5_120 rfl rfl rfl (cs_len (Nat.le_of_ble_eq_true rfl)) g5q (P_L_standing (d := d + 3) eh3q) ?_
  refine r_astore_n (L' := [.ref t, .int a1, va_rf x4q]) f66_8 (Nat.le_of_ble_eq_true rfl) rfl ?_
  refine r_aload_n f66_9 rfl ?_
  cases x4q with
  | none =>
    refine r_nn_f 19 f66_10 (by decide) rfl ?_
    refine r_sipush f66_13 cs_m1000 ?_
    refine r_goto (t := 27) f66_16 (by decide) ?_
    exact r_iret pm_m_66 .int f66_27 rfl rfl rfl (zI hB)
  | some u7q =>
    refine r_nn_t (t := 19) (r := some u7q) f66_10 (by decide) (by simp) ?_
    dsimp only at hB
    refine r_aload_nN f66_19 rfl ?_
    replace hB := bnd_some hB
    obtain ⟨x8q, ex8q, hB⟩ := hB
    refine r_getA f66_20 fa_5_45 ex8q ?_
    refine r_aload_nN f66_23 rfl ?_
    replace hB := bnd_some hB
    obtain ⟨u9q, rfl, hB⟩ := hB
    replace hB := grd_some hB
    obtain ⟨g12q, hB⟩ := hB
    replace hB := bn2_some hB
    obtain ⟨h10q, x11q, eh10q, hB⟩ := hB
    refine r_virtV (as := [.ref u7q]) (q := pm_m_22) f66_24 ca_5_180 rfl rfl rfl (cs_len (Nat.le_of_ble_eq_true rfl)) g12q (P_L_growth (d := d + 0) eh10q) ?_
    exact r_iret pm_m_66 .int f66_27 rfl rfl rfl (zI hB)
theorem P_X_year {d : Nat} {h h' : pm_H} {r : Int32} {t : Nat} (hB : X_year h t = some (h', r)) : pm_ev (d + 6) 67 [.ref t] h (some (.int r)) h' := by
  unfold X_year at hB
  refine pm_ev_mk (L := [.ref t, pm_J]) pm_m_67 rfl (Nat.le_of_ble_eq_true rfl) rfl ?_
  refine r_aload_nN f67_0 rfl ?_
  replace hB := bnd_some hB
  obtain ⟨x1q, ex1q, hB⟩ := hB
  refine r_getA f67_1 fa_5_45 ex1q ?_
  replace hB := bnd_some hB
  obtain ⟨u2q, rfl, hB⟩ := hB
  replace hB := bnd_some hB
  obtain ⟨x3q, ex3q, hB⟩ := hB
  refine r_getI f67_4 fa_5_65 ex3q ?_
  refine r_sipush f67_7 cs_999 ?_
  by_cases c4q : x3q < 999
  · rw [if_pos c4q] at hB
    refine r_ic_t (t := 16) f67_10 (by decide) c4q ?_
    refine r_aload_nN f67_16 rfl ?_
    replace hB := bnd_some hB
    obtain ⟨x5q, ex5q, hB⟩ := hB
    refine r_getA f67_17 fa_5_45 ex5q ?_
    replace hB := bnd_some hB
    obtain ⟨u6q, rfl, hB⟩ := hB
    replace hB := grd_some hB
    obtain ⟨g9q, hB⟩ := hB
    replace hB := bn2_some hB
    obtain ⟨h7q, x8q, eh7q, hB⟩ := hB
    refine r_virtV (as := []) (q := pm_m_12) f67_20 ca_5_55 rfl rfl rfl (cs_len (Nat.le_of_ble_eq_true rfl)) g9q (P_L_living (d := d + 4) eh7q) ?_
    refine r_istore_n (L' := [.ref t, .int x8q]) (x := x8q) f67_23 rfl (Nat.le_of_ble_eq_true rfl) rfl ?_
    refine r_aload_nN f67_24 rfl ?_
    replace hB := bnd_some hB
    obtain ⟨x10q, ex10q, hB⟩ := hB
    refine r_getA f67_25 fa_5_45 ex10q ?_
    replace hB := bnd_some hB
    obtain ⟨u11q, rfl, hB⟩ := hB
    replace hB := grd_some hB
    obtain ⟨g14q, hB⟩ := hB
    replace hB := bn2_some hB
    obtain ⟨h12q, _, eh12q, hB⟩ := hB
    refine r_virtN (as := []) (q := pm_m_18) f67_28 ca_5_183 rfl rfl rfl (cs_len (Nat.le_of_ble_eq_true rfl)) g14q (P_L_pass (d := d + 0) eh12q) ?_
    refine r_iload_n f67_31 rfl ?_
    refine r_aload_nN f67_32 rfl ?_
    replace hB := bnd_some hB
    obtain ⟨x15q, ex15q, hB⟩ := hB
    refine r_getA f67_33 fa_5_45 ex15q ?_
    replace hB := bnd_some hB
    obtain ⟨u16q, rfl, hB⟩ := hB
    replace hB := grd_some hB
    obtain ⟨g19q, hB⟩ := hB
    replace hB := bn2_some hB
    obtain ⟨h17q, x18q, eh17q, hB⟩ := hB
    refine r_virtV (as := []) (q := pm_m_12) f67_36 ca_5_55 rfl rfl rfl (cs_len (Nat.le_of_ble_eq_true rfl)) g19q (P_L_living (d := d + 4) eh17q) ?_
    refine r_iconst f67_39 ci_m1 ?_
    refine r_ixor f67_40 ?_
    refine r_iand f67_41 ?_
    exact r_iret pm_m_67 .int f67_42 rfl rfl rfl (zI hB)
  · rw [if_neg c4q] at hB
    refine r_ic_f 16 f67_10 (by decide) c4q ?_
    refine r_bipush f67_13 cb_m3 ?_
    exact r_iret pm_m_67 .int f67_15 rfl rfl rfl (zI hB)
theorem P_X_ofDuneInThought_31 {d : Nat} {h' : pm_H} {r : Int32} (h : pm_H) (l2 : Int32) (s0 : Int32) (s1 : Option Nat) (hB : X_ofDuneInThought_31 h l2 s0 s1 = some (h', r)) : pm_run (pm_ev (d + 1)) 69 31 [pm_J, pm_J, .int l2, pm_J] [.int s0, va_rf s1] h (fun r1 h1 => r1 = some (.int r) ∧ h1 = h') := by
  unfold X_ofDuneInThought_31 at hB
  replace hB := bnd_some hB
  obtain ⟨u1q, rfl, hB⟩ := hB
  replace hB := grd_some hB
  obtain ⟨g4q, hB⟩ := hB
  replace hB := bn2_some hB
  obtain ⟨h2q, x3q, eh2q, hB⟩ := hB
  refine r_virtV (as := [.int s0]) (q := pm_m_11) f69_31 ca_5_120 rfl rfl rfl (cs_len (Nat.le_of_ble_eq_true rfl)) g4q (P_L_standing (d := d + 0) eh2q) ?_
  refine r_astore_n (L' := [pm_J, pm_J, .int l2, va_rf x3q]) f69_34 (Nat.le_of_ble_eq_true rfl) rfl ?_
  refine r_aload_n f69_35 rfl ?_
  cases x3q with
  | none =>
    refine r_nn_f 41 f69_36 (by decide) rfl ?_
    refine r_iconst f69_39 ci_m1 ?_
    exact r_iret pm_m_69 .int f69_40 rfl rfl rfl (zI hB)
  | some u6q =>
    refine r_nn_t (t := 41) (r := some u6q) f69_36 (by decide) (by simp) ?_
    dsimp only at hB
    refine r_iload_n f69_41 rfl ?_
    by_cases c7q : l2 = 0
    · rw [if_pos c7q] at hB
      refine r_if_t (t := 52) f69_42 (by decide) c7q ?_
      refine r_aload_nN f69_52 rfl ?_
      replace hB := bnd_some hB
      obtain ⟨x8q, ex8q, hB⟩ := hB
      refine r_getI f69_53 fa_5_145 ex8q ?_
      exact r_iret pm_m_69 .int f69_56 rfl rfl rfl (zI hB)
    · rw [if_neg c7q] at hB
      refine r_if_f 52 f69_42 (by decide) c7q ?_
      refine r_aload_nN f69_45 rfl ?_
      replace hB := bnd_some hB
      obtain ⟨x9q, ex9q, hB⟩ := hB
      refine r_getI f69_46 fa_5_141 ex9q ?_
      refine r_goto (t := 56) f69_49 (by decide) ?_
      exact r_iret pm_m_69 .int f69_56 rfl rfl rfl (zI hB)
theorem P_X_ofDuneInThought_11 {d : Nat} {h' : pm_H} {r : Int32} (h : pm_H) (l0 : Nat) (l1 : Int32) (s0 : Int32) (hB : X_ofDuneInThought_11 h l0 l1 s0 = some (h', r)) : pm_run (pm_ev (d + 1)) 69 11 [.ref l0, .int l1, pm_J, pm_J] [.int s0] h (fun r1 h1 => r1 = some (.int r) ∧ h1 = h') := by
  unfold X_ofDuneInThought_11 at hB
  refine r_istore_n (L' := [.ref l0, .int l1, .int s0, pm_J]) (x := s0) f69_11 rfl (Nat.le_of_ble_eq_true rfl) rfl ?_
  refine r_aload_nN f69_12 rfl ?_
  replace hB := bnd_some hB
  obtain ⟨x1q, ex1q, hB⟩ := hB
  refine r_getA f69_13 fa_5_49 ex1q ?_
  refine r_iload_n f69_16 rfl ?_
  by_cases c2q : s0 = 0
  · rw [if_pos c2q] at hB
    refine r_if_t (t := 27) f69_17 (by decide) c2q ?_
    refine r_iload_n f69_27 rfl ?_
    refine r_bipush f69_28 cb_20 ?_
    refine r_isub f69_30 ?_
    exact pm_weak (L' := [pm_J, pm_J, .int s0, pm_J]) ⟨.inl rfl, .inl rfl, .inr rfl, .inl rfl, trivial⟩ (P_X_ofDuneInThought_31 (d := d) h s0 (l1 - 20) x1q hB)
  · rw [if_neg c2q] at hB
    refine r_if_f 27 f69_17 (by decide) c2q ?_
    refine r_iload_n f69_20 rfl ?_
    refine r_bipush f69_21 cb_10 ?_
    refine r_isub f69_23 ?_
    refine r_goto (t := 31) f69_24 (by decide) ?_
    exact pm_weak (L' := [pm_J, pm_J, .int s0, pm_J]) ⟨.inl rfl, .inl rfl, .inr rfl, .inl rfl, trivial⟩ (P_X_ofDuneInThought_31 (d := d) h s0 (l1 - 10) x1q hB)
theorem P_X_ofDuneInThought {d : Nat} {h h' : pm_H} {r : Int32} {t : Nat} {a1 : Int32} (hB : X_ofDuneInThought h t a1 = some (h', r)) : pm_ev (d + 2) 69 [.ref t, .int a1] h (some (.int r)) h' := by
  unfold X_ofDuneInThought at hB
  refine pm_ev_mk (L := [.ref t, .int a1, pm_J, pm_J]) pm_m_69 rfl (Nat.le_of_ble_eq_true rfl) rfl ?_
  refine r_iload_n f69_0 rfl ?_
  refine r_bipush f69_1 cb_20 ?_
  by_cases c1q : 20 ≤ a1
  · rw [if_pos c1q] at hB
    refine r_ic_t (t := 10) f69_3 (by decide) c1q ?_
    refine r_iconst f69_10 ci_0 ?_
    exact pm_weak (L' := [.ref t, .int a1, pm_J, pm_J]) ⟨.inr rfl, .inr rfl, .inl rfl, .inl rfl, trivial⟩ (P_X_ofDuneInThought_11 (d := d) h t a1 0 hB)
  · rw [if_neg c1q] at hB
    refine r_ic_f 10 f69_3 (by decide) c1q ?_
    refine r_iconst f69_6 ci_1 ?_
    refine r_goto (t := 11) f69_7 (by decide) ?_
    exact pm_weak (L' := [.ref t, .int a1, pm_J, pm_J]) ⟨.inr rfl, .inr rfl, .inl rfl, .inl rfl, trivial⟩ (P_X_ofDuneInThought_11 (d := d) h t a1 1 hB)
theorem P_X_passInThought_4 {d : Nat} {h' : pm_H} {r : Int32} (n : Nat) : ∀ (h : pm_H) (l0 : Nat) (l1 : Int32) (l2 : Int32) (l3 : Int32), X_passInThought_4 n h l0 l1 l2 l3 = some (h', r) → pm_run (pm_ev (d + 5)) 101 4 [.ref l0, .int l1, .int l2, .int l3] [] h (fun r1 h1 => r1 = some (.int r) ∧ h1 = h') := by
  induction n with
  | zero => intro h l0 l1 l2 l3 hB; cases hB
  | succ n ih =>
    intro h l0 l1 l2 l3 hB
    unfold X_passInThought_4 at hB
    refine r_iload_n f101_4 rfl ?_
    refine r_iload_n f101_5 rfl ?_
    by_cases c1q : l1 ≤ l3
    · rw [if_pos c1q] at hB
      refine r_ic_t (t := 32) f101_6 (by decide) c1q ?_
      refine r_iload_n f101_32 rfl ?_
      exact r_iret pm_m_101 .int f101_33 rfl rfl rfl (zI hB)
    · rw [if_neg c1q] at hB
      refine r_ic_f 32 f101_6 (by decide) c1q ?_
      refine r_aload_nN f101_9 rfl ?_
      replace hB := bnd_some hB
      obtain ⟨x2q, ex2q, hB⟩ := hB
      refine r_getA f101_10 fa_5_49 ex2q ?_
      replace hB := bnd_some hB
      obtain ⟨u3q, rfl, hB⟩ := hB
      replace hB := grd_some hB
      obtain ⟨g6q, hB⟩ := hB
      replace hB := bn2_some hB
      obtain ⟨h4q, _, eh4q, hB⟩ := hB
      refine r_virtN (as := []) (q := pm_m_18) f101_13 ca_5_183 rfl rfl rfl (cs_len (Nat.le_of_ble_eq_true rfl)) g6q (P_L_pass (d := d + 0) eh4q) ?_
      refine r_iload_n f101_16 rfl ?_
      refine r_aload_nN f101_17 rfl ?_
      replace hB := bnd_some hB
      obtain ⟨x7q, ex7q, hB⟩ := hB
      refine r_getA f101_18 fa_5_49 ex7q ?_
      replace hB := bnd_some hB
      obtain ⟨u8q, rfl, hB⟩ := hB
      replace hB := grd_some hB
      obtain ⟨g11q, hB⟩ := hB
      replace hB := bn2_some hB
      obtain ⟨h9q, x10q, eh9q, hB⟩ := hB
      refine r_virtV (as := []) (q := pm_m_14) f101_21 ca_5_193 rfl rfl rfl (cs_len (Nat.le_of_ble_eq_true rfl)) g11q (P_L_buried (d := d + 2) eh9q) ?_
      refine r_iadd f101_24 ?_
      obtain ⟨y12q, hy12q⟩ : ∃ z, z = (l2 + x10q) := ⟨_, rfl⟩
      replace hB := nmd_at hy12q hB
      refine r_istore_n (L' := [.ref l0, .int l1, .int y12q, .int l3]) (x := y12q) f101_25 hy12q (Nat.le_of_ble_eq_true rfl) rfl ?_
      obtain ⟨y13q, hy13q⟩ : ∃ z, z = l3 + 1 := ⟨_, rfl⟩
      replace hB := nmd_at hy13q hB
      refine r_iinc (L' := [.ref l0, .int l1, .int y12q, .int y13q]) (x := y13q) f101_26 rfl (hy13q.trans (congrArg (l3 + ·) ci_1.symm)) rfl ?_
      refine r_goto (t := 4) f101_29 (by decide) ?_
      exact pm_weak (L' := [.ref l0, .int l1, .int y12q, .int y13q]) ⟨.inr rfl, .inr rfl, .inr rfl, .inr rfl, trivial⟩ (ih h9q l0 l1 y12q y13q hB)
theorem P_X_passInThought {d : Nat} {h h' : pm_H} {r : Int32} {t : Nat} {a1 : Int32} (hB : X_passInThought h t a1 = some (h', r)) : pm_ev (d + 6) 101 [.ref t, .int a1] h (some (.int r)) h' := by
  unfold X_passInThought at hB
  refine pm_ev_mk (L := [.ref t, .int a1, pm_J, pm_J]) pm_m_101 rfl (Nat.le_of_ble_eq_true rfl) rfl ?_
  refine r_iconst f101_0 ci_0 ?_
  refine r_istore_n (L' := [.ref t, .int a1, .int 0, pm_J]) (x := 0) f101_1 rfl (Nat.le_of_ble_eq_true rfl) rfl ?_
  refine r_iconst f101_2 ci_0 ?_
  refine r_istore_n (L' := [.ref t, .int a1, .int 0, .int 0]) (x := 0) f101_3 rfl (Nat.le_of_ble_eq_true rfl) rfl ?_
  exact pm_weak (L' := [.ref t, .int a1, .int 0, .int 0]) ⟨.inr rfl, .inr rfl, .inr rfl, .inr rfl, trivial⟩ (P_X_passInThought_4 (d := d) 1000 h t a1 0 0 hB)
theorem P_X_run_60 {d : Nat} {h' : pm_H} {r : Int32} (h : pm_H) (l0 : Nat) (l1 : Int32) (l2 : Int32) (hB : X_run_60 h l0 l1 l2 = some (h', r)) : pm_run (pm_ev (d + 6)) 68 60 [.ref l0, .int l1, .int l2, pm_J, pm_J] [] h (fun r1 h1 => r1 = some (.int r) ∧ h1 = h') := by
  unfold X_run_60 at hB
  refine r_aload_nN f68_60 rfl ?_
  replace hB := bnd_some hB
  obtain ⟨x1q, ex1q, hB⟩ := hB
  refine r_getA f68_61 fa_5_49 ex1q ?_
  refine r_aload_nN f68_64 rfl ?_
  replace hB := bnd_some hB
  obtain ⟨x2q, ex2q, hB⟩ := hB
  refine r_getA f68_65 fa_5_45 ex2q ?_
  replace hB := bnd_some hB
  obtain ⟨u3q, rfl, hB⟩ := hB
  replace hB := grd_some hB
  obtain ⟨g6q, hB⟩ := hB
  replace hB := bn2_some hB
  obtain ⟨h4q, _, eh4q, hB⟩ := hB
  refine r_virtN (as := [va_rf x2q]) (q := pm_m_10) f68_68 ca_5_186 rfl rfl rfl (cs_len (Nat.le_of_ble_eq_true rfl)) g6q (P_L_become (d := d + 4) eh4q) ?_
  refine r_aload_nN f68_71 rfl ?_
  refine r_iload_n f68_72 rfl ?_
  replace hB := grd_some hB
  obtain ⟨g9q, hB⟩ := hB
  replace hB := bn2_some hB
  obtain ⟨h7q, x8q, eh7q, hB⟩ := hB
  refine r_virtV (as := [.int l1]) (q := pm_m_101) f68_73 ca_5_190 rfl rfl rfl (cs_len (Nat.le_of_ble_eq_true rfl)) g9q (P_X_passInThought (d := d + 0) eh7q) ?_
  refine r_istore (L' := [.ref l0, .int l1, .int l2, pm_J, .int x8q]) (x := x8q) f68_76 rfl (Nat.le_of_ble_eq_true rfl) rfl ?_
  refine r_iload_n f68_78 rfl ?_
  by_cases c10q : l2 = 0
  · rw [if_pos c10q] at hB
    refine r_tsw (off := 25) (t := 104) f68_79 c10q (by decide) (by decide) (by decide) (by decide) ?_
    refine r_aload_nN f68_104 rfl ?_
    replace hB := bnd_some hB
    obtain ⟨x11q, ex11q, hB⟩ := hB
    refine r_getA f68_105 fa_5_49 ex11q ?_
    replace hB := bnd_some hB
    obtain ⟨u12q, rfl, hB⟩ := hB
    replace hB := grd_some hB
    obtain ⟨g15q, hB⟩ := hB
    replace hB := bn2_some hB
    obtain ⟨h13q, x14q, eh13q, hB⟩ := hB
    refine r_virtV (as := []) (q := pm_m_12) f68_108 ca_5_55 rfl rfl rfl (cs_len (Nat.le_of_ble_eq_true rfl)) g15q (P_L_living (d := d + 5) eh13q) ?_
    exact r_iret pm_m_68 .int f68_111 rfl rfl rfl (zI hB)
  rw [if_neg c10q] at hB
  by_cases c16q : l2 = 1
  · rw [if_pos c16q] at hB
    refine r_tsw (off := 33) (t := 112) f68_79 c16q (by decide) (by decide) (by decide) (by decide) ?_
    refine r_aload_nN f68_112 rfl ?_
    replace hB := bnd_some hB
    obtain ⟨x17q, ex17q, hB⟩ := hB
    refine r_getA f68_113 fa_5_49 ex17q ?_
    replace hB := bnd_some hB
    obtain ⟨u18q, rfl, hB⟩ := hB
    replace hB := grd_some hB
    obtain ⟨g21q, hB⟩ := hB
    replace hB := bn2_some hB
    obtain ⟨h19q, x20q, eh19q, hB⟩ := hB
    refine r_virtV (as := []) (q := pm_m_14) f68_116 ca_5_193 rfl rfl rfl (cs_len (Nat.le_of_ble_eq_true rfl)) g21q (P_L_buried (d := d + 3) eh19q) ?_
    exact r_iret pm_m_68 .int f68_119 rfl rfl rfl (zI hB)
  rw [if_neg c16q] at hB
  by_cases c22q : l2 = 2
  · rw [if_pos c22q] at hB
    refine r_tsw (off := 41) (t := 120) f68_79 c22q (by decide) (by decide) (by decide) (by decide) ?_
    refine r_iload f68_120 rfl ?_
    exact r_iret pm_m_68 .int f68_122 rfl rfl rfl (zI hB)
  rw [if_neg c22q] at hB
  refine r_tswD (t := 123) f68_79 (sw_out 3 (lt_s (lt_s (lt_s (lt_0) (sw_ne c10q (by decide))) (sw_ne c16q (by decide))) (sw_ne c22q (by decide))) (by decide)) (by decide) ?_
  refine r_aload_nN f68_123 rfl ?_
  refine r_iload_n f68_124 rfl ?_
  replace hB := grd_some hB
  obtain ⟨g25q, hB⟩ := hB
  replace hB := bn2_some hB
  obtain ⟨h23q, x24q, eh23q, hB⟩ := hB
  refine r_virtV (as := [.int l2]) (q := pm_m_69) f68_125 ca_5_196 rfl rfl rfl (cs_len (Nat.le_of_ble_eq_true rfl)) g25q (P_X_ofDuneInThought (d := d + 4) eh23q) ?_
  exact r_iret pm_m_68 .int f68_128 rfl rfl rfl (zI hB)
theorem P_X_run_33 {d : Nat} {h' : pm_H} {r : Int32} (h : pm_H) (l0 : Nat) (l1 : Int32) (l2 : Int32) (s0 : Int32) (hB : X_run_33 h l0 l1 l2 s0 = some (h', r)) : pm_run (pm_ev (d + 6)) 68 33 [.ref l0, .int l1, .int l2, pm_J, pm_J] [.int s0] h (fun r1 h1 => r1 = some (.int r) ∧ h1 = h') := by
  unfold X_run_33 at hB
  refine r_istore_n (L' := [.ref l0, .int l1, .int l2, .int s0, pm_J]) (x := s0) f68_33 rfl (Nat.le_of_ble_eq_true rfl) rfl ?_
  refine r_iload_n f68_34 rfl ?_
  refine r_iconst f68_35 ci_0 ?_
  refine r_bipush f68_36 cb_40 ?_
  replace hB := bn2_some hB
  obtain ⟨h1q, x2q, eh1q, hB⟩ := hB
  refine r_statV (as := [.int l1, .int 0, .int 40]) (q := pm_m_92) f68_38 ca_5_90 rfl (by decide) rfl rfl (cs_len (Nat.le_of_ble_eq_true rfl)) (P_X_within (d := d + 5) eh1q) ?_
  by_cases c3q : x2q = 0
  · rw [if_pos c3q] at hB
    refine r_if_t (t := 57) f68_41 (by decide) c3q ?_
    refine r_bipush f68_57 cb_m2 ?_
    exact r_iret pm_m_68 .int f68_59 rfl rfl rfl (zI hB)
  · rw [if_neg c3q] at hB
    refine r_if_f 57 f68_41 (by decide) c3q ?_
    refine r_iload_n f68_44 rfl ?_
    refine r_iconst f68_45 ci_0 ?_
    refine r_iconst f68_46 ci_2 ?_
    replace hB := bn2_some hB
    obtain ⟨h4q, x5q, eh4q, hB⟩ := hB
    refine r_statV (as := [.int l2, .int 0, .int 2]) (q := pm_m_92) f68_47 ca_5_90 rfl (by decide) rfl rfl (cs_len (Nat.le_of_ble_eq_true rfl)) (P_X_within (d := d + 5) eh4q) ?_
    by_cases c6q : x5q = 0
    · rw [if_pos c6q] at hB
      refine r_if_f 60 f68_50 (by decide) (fun q => q c6q) ?_
      refine r_iload_n f68_53 rfl ?_
      by_cases c7q : s0 = 0
      · rw [if_pos c7q] at hB
        refine r_if_f 60 f68_54 (by decide) (fun q => q c7q) ?_
        refine r_bipush f68_57 cb_m2 ?_
        exact r_iret pm_m_68 .int f68_59 rfl rfl rfl (zI hB)
      · rw [if_neg c7q] at hB
        refine r_if_t (t := 60) f68_54 (by decide) c7q ?_
        exact pm_weak (L' := [.ref l0, .int l1, .int l2, pm_J, pm_J]) ⟨.inr rfl, .inr rfl, .inr rfl, .inl rfl, .inl rfl, trivial⟩ (P_X_run_60 (d := d) h4q l0 l1 l2 hB)
    · rw [if_neg c6q] at hB
      refine r_if_t (t := 60) f68_50 (by decide) c6q ?_
      exact pm_weak (L' := [.ref l0, .int l1, .int l2, pm_J, pm_J]) ⟨.inr rfl, .inr rfl, .inr rfl, .inl rfl, .inl rfl, trivial⟩ (P_X_run_60 (d := d) h4q l0 l1 l2 hB)
theorem P_X_run_28 {d : Nat} {h' : pm_H} {r : Int32} (h : pm_H) (l0 : Nat) (l1 : Int32) (l2 : Int32) (hB : X_run_28 h l0 l1 l2 = some (h', r)) : pm_run (pm_ev (d + 6)) 68 28 [.ref l0, .int l1, .int l2, pm_J, pm_J] [] h (fun r1 h1 => r1 = some (.int r) ∧ h1 = h') := by
  unfold X_run_28 at hB
  refine r_iconst f68_28 ci_1 ?_
  refine r_goto (t := 33) f68_29 (by decide) ?_
  exact pm_weak (L' := [.ref l0, .int l1, .int l2, pm_J, pm_J]) ⟨.inr rfl, .inr rfl, .inr rfl, .inl rfl, .inl rfl, trivial⟩ (P_X_run_33 (d := d) h l0 l1 l2 1 hB)
theorem P_X_run {d : Nat} {h h' : pm_H} {r : Int32} {t : Nat} {a1 : Int32} {a2 : Int32} (hB : X_run h t a1 a2 = some (h', r)) : pm_ev (d + 7) 68 [.ref t, .int a1, .int a2] h (some (.int r)) h' := by
  unfold X_run at hB
  refine pm_ev_mk (L := [.ref t, .int a1, .int a2, pm_J, pm_J]) pm_m_68 rfl (Nat.le_of_ble_eq_true rfl) rfl ?_
  refine r_aload_nN f68_0 rfl ?_
  replace hB := bnd_some hB
  obtain ⟨x1q, ex1q, hB⟩ := hB
  refine r_getA f68_1 fa_5_45 ex1q ?_
  refine r_iload_n f68_4 rfl ?_
  refine r_bipush f68_5 cb_10 ?_
  refine r_isub f68_7 ?_
  replace hB := bnd_some hB
  obtain ⟨u2q, rfl, hB⟩ := hB
  replace hB := grd_some hB
  obtain ⟨g5q, hB⟩ := hB
  replace hB := bn2_some hB
  obtain ⟨h3q, x4q, eh3q, hB⟩ := hB
  refine r_virtV (as := [.int (a2 - 10)]) (q := pm_m_11) f68_8 ca_5_120 rfl rfl rfl (cs_len (Nat.le_of_ble_eq_true rfl)) g5q (P_L_standing (d := d + 5) eh3q) ?_
  cases x4q with
  | none =>
    refine r_nn_f 28 f68_11 (by decide) rfl ?_
    refine r_aload_nN f68_14 rfl ?_
    replace hB := bnd_some hB
    obtain ⟨x8q, ex8q, hB⟩ := hB
    refine r_getA f68_15 fa_5_45 ex8q ?_
    refine r_iload_n f68_18 rfl ?_
    refine r_bipush f68_19 cb_20 ?_
    refine r_isub f68_21 ?_
    replace hB := bnd_some hB
    obtain ⟨u9q, rfl, hB⟩ := hB
    replace hB := grd_some hB
    obtain ⟨g12q, hB⟩ := hB
    replace hB := bn2_some hB
    obtain ⟨h10q, x11q, eh10q, hB⟩ := hB
    refine r_virtV (as := [.int (a2 - 20)]) (q := pm_m_11) f68_22 ca_5_120 rfl rfl rfl (cs_len (Nat.le_of_ble_eq_true rfl)) g12q (P_L_standing (d := d + 5) eh10q) ?_
    cases x11q with
    | none =>
      refine r_in_t (t := 32) f68_25 (by decide) rfl ?_
      refine r_iconst f68_32 ci_0 ?_
      exact pm_weak (L' := [.ref t, .int a1, .int a2, pm_J, pm_J]) ⟨.inr rfl, .inr rfl, .inr rfl, .inl rfl, .inl rfl, trivial⟩ (P_X_run_33 (d := d) h10q t a1 a2 0 hB)
    | some u14q =>
      refine r_in_f 32 (r := some u14q) f68_25 (by decide) (by simp) ?_
      dsimp only at hB
      exact pm_weak (L' := [.ref t, .int a1, .int a2, pm_J, pm_J]) ⟨.inr rfl, .inr rfl, .inr rfl, .inl rfl, .inl rfl, trivial⟩ (P_X_run_28 (d := d) h10q t a1 a2 hB)
  | some u7q =>
    refine r_nn_t (t := 28) (r := some u7q) f68_11 (by decide) (by simp) ?_
    dsimp only at hB
    exact pm_weak (L' := [.ref t, .int a1, .int a2, pm_J, pm_J]) ⟨.inr rfl, .inr rfl, .inr rfl, .inl rfl, .inl rfl, trivial⟩ (P_X_run_28 (d := d) h3q t a1 a2 hB)
theorem P_X_comes_104 {d : Nat} {h' : pm_H} {r : Int32} (k_47 : pm_H → Nat → Int32 → Int32 → Int32 → Int32 → Int32 → Int32 → Option (pm_H × Int32)) (hk_47 : ∀ (h : pm_H) (l0 : Nat) (l1 : Int32) (l2 : Int32) (l3 : Int32) (l4 : Int32) (l5 : Int32) (l6 : Int32), k_47 h l0 l1 l2 l3 l4 l5 l6 = some (h', r) → pm_run (pm_ev (d + 5)) 70 47 [.ref l0, .int l1, .int l2, .int l3, .int l4, .int l5, .int l6, pm_J] [] h (fun r1 h1 => r1 = some (.int r) ∧ h1 = h')) (h : pm_H) (l0 : Nat) (l1 : Int32) (l2 : Int32) (l3 : Int32) (l4 : Int32) (l5 : Int32) (l6 : Int32) (hB : X_comes_104 k_47 h l0 l1 l2 l3 l4 l5 l6 = some (h', r)) : pm_run (pm_ev (d + 5)) 70 104 [.ref l0, .int l1, .int l2, .int l3, .int l4, .int l5, .int l6, pm_J] [] h (fun r1 h1 => r1 = some (.int r) ∧ h1 = h') := by
  unfold X_comes_104 at hB
  refine r_aload_nN f70_104 rfl ?_
  replace hB := bnd_some hB
  obtain ⟨x1q, ex1q, hB⟩ := hB
  refine r_getA f70_105 fa_5_49 ex1q ?_
  replace hB := bnd_some hB
  obtain ⟨u2q, rfl, hB⟩ := hB
  replace hB := grd_some hB
  obtain ⟨g5q, hB⟩ := hB
  replace hB := bn2_some hB
  obtain ⟨h3q, _, eh3q, hB⟩ := hB
  refine r_virtN (as := []) (q := pm_m_18) f70_108 ca_5_183 rfl rfl rfl (cs_len (Nat.le_of_ble_eq_true rfl)) g5q (P_L_pass (d := d + 0) eh3q) ?_
  obtain ⟨y6q, hy6q⟩ : ∃ z, z = l6 + 1 := ⟨_, rfl⟩
  replace hB := nmd_at hy6q hB
  refine r_iinc (L' := [.ref l0, .int l1, .int l2, .int l3, .int l4, .int l5, .int y6q, pm_J]) (x := y6q) f70_111 rfl (hy6q.trans (congrArg (l6 + ·) ci_1.symm)) rfl ?_
  refine r_goto (t := 47) f70_114 (by decide) ?_
  exact pm_weak (L' := [.ref l0, .int l1, .int l2, .int l3, .int l4, .int l5, .int y6q, pm_J]) ⟨.inr rfl, .inr rfl, .inr rfl, .inr rfl, .inr rfl, .inr rfl, .inr rfl, .inl rfl, trivial⟩ (hk_47 h3q l0 l1 l2 l3 l4 l5 y6q hB)
theorem P_X_comes_96 {d : Nat} {h' : pm_H} {r : Int32} (k_47 : pm_H → Nat → Int32 → Int32 → Int32 → Int32 → Int32 → Int32 → Option (pm_H × Int32)) (hk_47 : ∀ (h : pm_H) (l0 : Nat) (l1 : Int32) (l2 : Int32) (l3 : Int32) (l4 : Int32) (l5 : Int32) (l6 : Int32), k_47 h l0 l1 l2 l3 l4 l5 l6 = some (h', r) → pm_run (pm_ev (d + 5)) 70 47 [.ref l0, .int l1, .int l2, .int l3, .int l4, .int l5, .int l6, pm_J] [] h (fun r1 h1 => r1 = some (.int r) ∧ h1 = h')) (h : pm_H) (l0 : Nat) (l1 : Int32) (l2 : Int32) (l3 : Int32) (l4 : Int32) (l5 : Int32) (l6 : Int32) (hB : X_comes_96 k_47 h l0 l1 l2 l3 l4 l5 l6 = some (h', r)) : pm_run (pm_ev (d + 5)) 70 96 [.ref l0, .int l1, .int l2, .int l3, .int l4, .int l5, .int l6, pm_J] [] h (fun r1 h1 => r1 = some (.int r) ∧ h1 = h') := by
  unfold X_comes_96 at hB
  refine r_iload_n f70_96 rfl ?_
  refine r_iconst f70_97 ci_m1 ?_
  by_cases c1q : l3 = (-1)
  · rw [if_pos c1q] at hB
    refine r_ic_t (t := 104) f70_98 (by decide) c1q ?_
    exact pm_weak (L' := [.ref l0, .int l1, .int l2, .int l3, .int l4, .int l5, .int l6, pm_J]) ⟨.inr rfl, .inr rfl, .inr rfl, .inr rfl, .inr rfl, .inr rfl, .inr rfl, .inl rfl, trivial⟩ (P_X_comes_104 (d := d) k_47 hk_47 h l0 l1 l2 l3 l4 l5 l6 hB)
  · rw [if_neg c1q] at hB
    refine r_ic_f 104 f70_98 (by decide) c1q ?_
    obtain ⟨y2q, hy2q⟩ : ∃ z, z = l4 + 1 := ⟨_, rfl⟩
    replace hB := nmd_at hy2q hB
    refine r_iinc (L' := [.ref l0, .int l1, .int l2, .int l3, .int y2q, .int l5, .int l6, pm_J]) (x := y2q) f70_101 rfl (hy2q.trans (congrArg (l4 + ·) ci_1.symm)) rfl ?_
    exact pm_weak (L' := [.ref l0, .int l1, .int l2, .int l3, .int y2q, .int l5, .int l6, pm_J]) ⟨.inr rfl, .inr rfl, .inr rfl, .inr rfl, .inr rfl, .inr rfl, .inr rfl, .inl rfl, trivial⟩ (P_X_comes_104 (d := d) k_47 hk_47 h l0 l1 l2 l3 y2q l5 l6 hB)
theorem P_X_comes_117 {d : Nat} {h' : pm_H} {r : Int32} (h : pm_H) (l2 : Int32) (l3 : Int32) (l4 : Int32) (l5 : Int32) (hB : X_comes_117 h l2 l3 l4 l5 = some (h', r)) : pm_run (pm_ev (d + 5)) 70 117 [pm_J, pm_J, .int l2, .int l3, .int l4, .int l5, pm_J, pm_J] [] h (fun r1 h1 => r1 = some (.int r) ∧ h1 = h') := by
  unfold X_comes_117 at hB
  refine r_iload_n f70_117 rfl ?_
  by_cases c1q : l2 = 0
  · rw [if_pos c1q] at hB
    refine r_if_f 125 f70_118 (by decide) (fun q => q c1q) ?_
    refine r_iload_n f70_121 rfl ?_
    refine r_goto (t := 137) f70_122 (by decide) ?_
    exact r_iret pm_m_70 .int f70_137 rfl rfl rfl (zI hB)
  · rw [if_neg c1q] at hB
    refine r_if_t (t := 125) f70_118 (by decide) c1q ?_
    refine r_iload_n f70_125 rfl ?_
    refine r_iconst f70_126 ci_1 ?_
    by_cases c2q : l2 = 1
    · rw [if_pos c2q] at hB
      refine r_ic_f 135 f70_127 (by decide) (fun q => q c2q) ?_
      refine r_iload f70_130 rfl ?_
      refine r_goto (t := 137) f70_132 (by decide) ?_
      exact r_iret pm_m_70 .int f70_137 rfl rfl rfl (zI hB)
    · rw [if_neg c2q] at hB
      refine r_ic_t (t := 135) f70_127 (by decide) c2q ?_
      refine r_iload f70_135 rfl ?_
      exact r_iret pm_m_70 .int f70_137 rfl rfl rfl (zI hB)
theorem P_X_comes_82 {d : Nat} {h' : pm_H} {r : Int32} (k_47 : pm_H → Nat → Int32 → Int32 → Int32 → Int32 → Int32 → Int32 → Option (pm_H × Int32)) (hk_47 : ∀ (h : pm_H) (l0 : Nat) (l1 : Int32) (l2 : Int32) (l3 : Int32) (l4 : Int32) (l5 : Int32) (l6 : Int32), k_47 h l0 l1 l2 l3 l4 l5 l6 = some (h', r) → pm_run (pm_ev (d + 5)) 70 47 [.ref l0, .int l1, .int l2, .int l3, .int l4, .int l5, .int l6, pm_J] [] h (fun r1 h1 => r1 = some (.int r) ∧ h1 = h')) (h : pm_H) (l0 : Nat) (l1 : Int32) (l2 : Int32) (l3 : Int32) (l4 : Int32) (l5 : Int32) (l6 : Int32) (l7 : Int32) (hB : X_comes_82 k_47 h l0 l1 l2 l3 l4 l5 l6 l7 = some (h', r)) : pm_run (pm_ev (d + 5)) 70 82 [.ref l0, .int l1, .int l2, .int l3, .int l4, .int l5, .int l6, .int l7] [] h (fun r1 h1 => r1 = some (.int r) ∧ h1 = h') := by
  unfold X_comes_82 at hB
  refine r_iload_n f70_82 rfl ?_
  refine r_iconst f70_83 ci_m1 ?_
  by_cases c1q : l3 = (-1)
  · rw [if_pos c1q] at hB
    refine r_ic_t (t := 96) f70_84 (by decide) c1q ?_
    exact pm_weak (L' := [.ref l0, .int l1, .int l2, .int l3, .int l4, .int l5, .int l6, pm_J]) ⟨.inr rfl, .inr rfl, .inr rfl, .inr rfl, .inr rfl, .inr rfl, .inr rfl, .inl rfl, trivial⟩ (P_X_comes_96 (d := d) k_47 hk_47 h l0 l1 l2 l3 l4 l5 l6 hB)
  · rw [if_neg c1q] at hB
    refine r_ic_f 96 f70_84 (by decide) c1q ?_
    refine r_iload f70_87 rfl ?_
    refine r_iconst f70_89 ci_m1 ?_
    by_cases c2q : l7 = (-1)
    · rw [if_pos c2q] at hB
      refine r_ic_f 96 f70_90 (by decide) (fun q => q c2q) ?_
      refine r_goto (t := 117) f70_93 (by decide) ?_
      exact pm_weak (L' := [pm_J, pm_J, .int l2, .int l3, .int l4, .int l5, pm_J, pm_J]) ⟨.inl rfl, .inl rfl, .inr rfl, .inr rfl, .inr rfl, .inr rfl, .inl rfl, .inl rfl, trivial⟩ (P_X_comes_117 (d := d) h l2 l3 l4 l5 hB)
    · rw [if_neg c2q] at hB
      refine r_ic_t (t := 96) f70_90 (by decide) c2q ?_
      exact pm_weak (L' := [.ref l0, .int l1, .int l2, .int l3, .int l4, .int l5, .int l6, pm_J]) ⟨.inr rfl, .inr rfl, .inr rfl, .inr rfl, .inr rfl, .inr rfl, .inr rfl, .inl rfl, trivial⟩ (P_X_comes_96 (d := d) k_47 hk_47 h l0 l1 l2 l3 l4 l5 l6 hB)
theorem P_X_comes_47 {d : Nat} {h' : pm_H} {r : Int32} (n : Nat) : ∀ (h : pm_H) (l0 : Nat) (l1 : Int32) (l2 : Int32) (l3 : Int32) (l4 : Int32) (l5 : Int32) (l6 : Int32), X_comes_47 n h l0 l1 l2 l3 l4 l5 l6 = some (h', r) → pm_run (pm_ev (d + 5)) 70 47 [.ref l0, .int l1, .int l2, .int l3, .int l4, .int l5, .int l6, pm_J] [] h (fun r1 h1 => r1 = some (.int r) ∧ h1 = h') := by
  induction n with
  | zero => intro h l0 l1 l2 l3 l4 l5 l6 hB; cases hB
  | succ n ih =>
    intro h l0 l1 l2 l3 l4 l5 l6 hB
    unfold X_comes_47 at hB
    refine r_iload f70_47 rfl ?_
    refine r_bipush f70_49 cb_40 ?_
    by_cases c1q : 40 < l6
    · rw [if_pos c1q] at hB
      refine r_ic_t (t := 117) f70_51 (by decide) c1q ?_
      exact pm_weak (L' := [pm_J, pm_J, .int l2, .int l3, .int l4, .int l5, pm_J, pm_J]) ⟨.inl rfl, .inl rfl, .inr rfl, .inr rfl, .inr rfl, .inr rfl, .inl rfl, .inl rfl, trivial⟩ (P_X_comes_117 (d := d) h l2 l3 l4 l5 hB)
    · rw [if_neg c1q] at hB
      refine r_ic_f 117 f70_51 (by decide) c1q ?_
      refine r_aload_nN f70_54 rfl ?_
      replace hB := bnd_some hB
      obtain ⟨x2q, ex2q, hB⟩ := hB
      refine r_getA f70_55 fa_5_49 ex2q ?_
      refine r_iload_n f70_58 rfl ?_
      replace hB := bnd_some hB
      obtain ⟨u3q, rfl, hB⟩ := hB
      replace hB := grd_some hB
      obtain ⟨g6q, hB⟩ := hB
      replace hB := bn2_some hB
      obtain ⟨h4q, x5q, eh4q, hB⟩ := hB
      refine r_virtV (as := [.int l1]) (q := pm_m_17) f70_59 ca_5_199 rfl rfl rfl (cs_len (Nat.le_of_ble_eq_true rfl)) g6q (P_L_firstOver (d := d + 3) eh4q) ?_
      refine r_istore (L' := [.ref l0, .int l1, .int l2, .int l3, .int l4, .int l5, .int l6, .int x5q]) (x := x5q) f70_62 rfl (Nat.le_of_ble_eq_true rfl) rfl ?_
      refine r_iload_n f70_64 rfl ?_
      refine r_iconst f70_65 ci_m1 ?_
      by_cases c7q : l3 = (-1)
      · rw [if_pos c7q] at hB
        refine r_ic_f 82 f70_66 (by decide) (fun q => q c7q) ?_
        refine r_iload f70_69 rfl ?_
        refine r_iconst f70_71 ci_m1 ?_
        by_cases c8q : x5q = (-1)
        · rw [if_pos c8q] at hB
          refine r_ic_t (t := 82) f70_72 (by decide) c8q ?_
          exact pm_weak (L' := [.ref l0, .int l1, .int l2, .int l3, .int l4, .int l5, .int l6, .int x5q]) ⟨.inr rfl, .inr rfl, .inr rfl, .inr rfl, .inr rfl, .inr rfl, .inr rfl, .inr rfl, trivial⟩ (P_X_comes_82 (d := d) (X_comes_47 n) ih h4q l0 l1 l2 l3 l4 l5 l6 x5q hB)
        · rw [if_neg c8q] at hB
          refine r_ic_f 82 f70_72 (by decide) c8q ?_
          refine r_iload f70_75 rfl ?_
          refine r_istore_n (L' := [.ref l0, .int l1, .int l2, .int l6, .int l4, .int l5, .int l6, .int x5q]) (x := l6) f70_77 rfl (Nat.le_of_ble_eq_true rfl) rfl ?_
          refine r_iload f70_78 rfl ?_
          refine r_istore (L' := [.ref l0, .int l1, .int l2, .int l6, .int l4, .int x5q, .int l6, .int x5q]) (x := x5q) f70_80 rfl (Nat.le_of_ble_eq_true rfl) rfl ?_
          exact pm_weak (L' := [.ref l0, .int l1, .int l2, .int l6, .int l4, .int x5q, .int l6, .int x5q]) ⟨.inr rfl, .inr rfl, .inr rfl, .inr rfl, .inr rfl, .inr rfl, .inr rfl, .inr rfl, trivial⟩ (P_X_comes_82 (d := d) (X_comes_47 n) ih h4q l0 l1 l2 l6 l4 x5q l6 x5q hB)
      · rw [if_neg c7q] at hB
        refine r_ic_t (t := 82) f70_66 (by decide) c7q ?_
        exact pm_weak (L' := [.ref l0, .int l1, .int l2, .int l3, .int l4, .int l5, .int l6, .int x5q]) ⟨.inr rfl, .inr rfl, .inr rfl, .inr rfl, .inr rfl, .inr rfl, .inr rfl, .inr rfl, trivial⟩ (P_X_comes_82 (d := d) (X_comes_47 n) ih h4q l0 l1 l2 l3 l4 l5 l6 x5q hB)
theorem P_X_comes {d : Nat} {h h' : pm_H} {r : Int32} {t : Nat} {a1 : Int32} {a2 : Int32} (hB : X_comes h t a1 a2 = some (h', r)) : pm_ev (d + 6) 70 [.ref t, .int a1, .int a2] h (some (.int r)) h' := by
  unfold X_comes at hB
  refine pm_ev_mk (L := [.ref t, .int a1, .int a2, pm_J, pm_J, pm_J, pm_J, pm_J]) pm_m_70 rfl (Nat.le_of_ble_eq_true rfl) rfl ?_
  refine r_iload_n f70_0 rfl ?_
  refine r_iconst f70_1 ci_0 ?_
  refine r_bipush f70_2 cb_39 ?_
  replace hB := bn2_some hB
  obtain ⟨h1q, x2q, eh1q, hB⟩ := hB
  refine r_statV (as := [.int a1, .int 0, .int 39]) (q := pm_m_92) f70_4 ca_5_90 rfl (by decide) rfl rfl (cs_len (Nat.le_of_ble_eq_true rfl)) (P_X_within (d := d + 4) eh1q) ?_
  by_cases c3q : x2q = 0
  · rw [if_pos c3q] at hB
    refine r_if_f 13 f70_7 (by decide) (fun q => q c3q) ?_
    refine r_bipush f70_10 cb_m5 ?_
    exact r_iret pm_m_70 .int f70_12 rfl rfl rfl (zI hB)
  · rw [if_neg c3q] at hB
    refine r_if_t (t := 13) f70_7 (by decide) c3q ?_
    refine r_iload_n f70_13 rfl ?_
    refine r_iconst f70_14 ci_0 ?_
    refine r_iconst f70_15 ci_2 ?_
    replace hB := bn2_some hB
    obtain ⟨h4q, x5q, eh4q, hB⟩ := hB
    refine r_statV (as := [.int a2, .int 0, .int 2]) (q := pm_m_92) f70_16 ca_5_90 rfl (by decide) rfl rfl (cs_len (Nat.le_of_ble_eq_true rfl)) (P_X_within (d := d + 4) eh4q) ?_
    by_cases c6q : x5q = 0
    · rw [if_pos c6q] at hB
      refine r_if_f 25 f70_19 (by decide) (fun q => q c6q) ?_
      refine r_bipush f70_22 cb_m7 ?_
      exact r_iret pm_m_70 .int f70_24 rfl rfl rfl (zI hB)
    · rw [if_neg c6q] at hB
      refine r_if_t (t := 25) f70_19 (by decide) c6q ?_
      refine r_iconst f70_25 ci_m1 ?_
      refine r_istore_n (L' := [.ref t, .int a1, .int a2, .int (-1), pm_J, pm_J, pm_J, pm_J]) (x := (-1)) f70_26 rfl (Nat.le_of_ble_eq_true rfl) rfl ?_
      refine r_iconst f70_27 ci_0 ?_
      refine r_istore (L' := [.ref t, .int a1, .int a2, .int (-1), .int 0, pm_J, pm_J, pm_J]) (x := 0) f70_28 rfl (Nat.le_of_ble_eq_true rfl) rfl ?_
      refine r_iconst f70_30 ci_m1 ?_
      refine r_istore (L' := [.ref t, .int a1, .int a2, .int (-1), .int 0, .int (-1), pm_J, pm_J]) (x := (-1)) f70_31 rfl (Nat.le_of_ble_eq_true rfl) rfl ?_
      refine r_aload_nN f70_33 rfl ?_
      replace hB := bnd_some hB
      obtain ⟨x7q, ex7q, hB⟩ := hB
      refine r_getA f70_34 fa_5_49 ex7q ?_
      refine r_aload_nN f70_37 rfl ?_
      replace hB := bnd_some hB
      obtain ⟨x8q, ex8q, hB⟩ := hB
      refine r_getA f70_38 fa_5_45 ex8q ?_
      replace hB := bnd_some hB
      obtain ⟨u9q, rfl, hB⟩ := hB
      replace hB := grd_some hB
      obtain ⟨g12q, hB⟩ := hB
      replace hB := bn2_some hB
      obtain ⟨h10q, _, eh10q, hB⟩ := hB
      refine r_virtN (as := [va_rf x8q]) (q := pm_m_10) f70_41 ca_5_186 rfl rfl rfl (cs_len (Nat.le_of_ble_eq_true rfl)) g12q (P_L_become (d := d + 3) eh10q) ?_
      refine r_iconst f70_44 ci_0 ?_
      refine r_istore (L' := [.ref t, .int a1, .int a2, .int (-1), .int 0, .int (-1), .int 0, pm_J]) (x := 0) f70_45 rfl (Nat.le_of_ble_eq_true rfl) rfl ?_
      exact pm_weak (L' := [.ref t, .int a1, .int a2, .int (-1), .int 0, .int (-1), .int 0, pm_J]) ⟨.inr rfl, .inr rfl, .inr rfl, .inr rfl, .inr rfl, .inr rfl, .inr rfl, .inl rfl, trivial⟩ (P_X_comes_47 (d := d) 1000 h10q t a1 a2 (-1) 0 (-1) 0 hB)
theorem P_X_ends_27 {d : Nat} {h' : pm_H} {r : Int32} (n : Nat) : ∀ (h : pm_H) (l0 : Nat) (l1 : Int32) (l2 : Int32), X_ends_27 n h l0 l1 l2 = some (h', r) → pm_run (pm_ev (d + 5)) 71 27 [.ref l0, .int l1, .int l2] [] h (fun r1 h1 => r1 = some (.int r) ∧ h1 = h') := by
  induction n with
  | zero => intro h l0 l1 l2 hB; cases hB
  | succ n ih =>
    intro h l0 l1 l2 hB
    unfold X_ends_27 at hB
    refine r_iload_n f71_27 rfl ?_
    refine r_bipush f71_28 cb_40 ?_
    by_cases c1q : 40 < l2
    · rw [if_pos c1q] at hB
      refine r_ic_t (t := 59) f71_30 (by decide) c1q ?_
      refine r_iconst f71_59 ci_m1 ?_
      exact r_iret pm_m_71 .int f71_60 rfl rfl rfl (zI hB)
    · rw [if_neg c1q] at hB
      refine r_ic_f 59 f71_30 (by decide) c1q ?_
      refine r_aload_nN f71_33 rfl ?_
      replace hB := bnd_some hB
      obtain ⟨x2q, ex2q, hB⟩ := hB
      refine r_getA f71_34 fa_5_49 ex2q ?_
      replace hB := bnd_some hB
      obtain ⟨u3q, rfl, hB⟩ := hB
      replace hB := grd_some hB
      obtain ⟨g6q, hB⟩ := hB
      replace hB := bn2_some hB
      obtain ⟨h4q, _, eh4q, hB⟩ := hB
      refine r_virtN (as := []) (q := pm_m_18) f71_37 ca_5_183 rfl rfl rfl (cs_len (Nat.le_of_ble_eq_true rfl)) g6q (P_L_pass (d := d + 0) eh4q) ?_
      refine r_aload_nN f71_40 rfl ?_
      replace hB := bnd_some hB
      obtain ⟨x7q, ex7q, hB⟩ := hB
      refine r_getA f71_41 fa_5_49 ex7q ?_
      refine r_iload_n f71_44 rfl ?_
      replace hB := bnd_some hB
      obtain ⟨u8q, rfl, hB⟩ := hB
      replace hB := grd_some hB
      obtain ⟨g11q, hB⟩ := hB
      replace hB := bn2_some hB
      obtain ⟨h9q, x10q, eh9q, hB⟩ := hB
      refine r_virtV (as := [.int l1]) (q := pm_m_11) f71_45 ca_5_120 rfl rfl rfl (cs_len (Nat.le_of_ble_eq_true rfl)) g11q (P_L_standing (d := d + 4) eh9q) ?_
      cases x10q with
      | none =>
        refine r_nn_f 53 f71_48 (by decide) rfl ?_
        refine r_iload_n f71_51 rfl ?_
        exact r_iret pm_m_71 .int f71_52 rfl rfl rfl (zI hB)
      | some u13q =>
        refine r_nn_t (t := 53) (r := some u13q) f71_48 (by decide) (by simp) ?_
        dsimp only at hB
        obtain ⟨y14q, hy14q⟩ : ∃ z, z = l2 + 1 := ⟨_, rfl⟩
        replace hB := nmd_at hy14q hB
        refine r_iinc (L' := [.ref l0, .int l1, .int y14q]) (x := y14q) f71_53 rfl (hy14q.trans (congrArg (l2 + ·) ci_1.symm)) rfl ?_
        refine r_goto (t := 27) f71_56 (by decide) ?_
        exact pm_weak (L' := [.ref l0, .int l1, .int y14q]) ⟨.inr rfl, .inr rfl, .inr rfl, trivial⟩ (ih h9q l0 l1 y14q hB)
theorem P_X_ends {d : Nat} {h h' : pm_H} {r : Int32} {t : Nat} {a1 : Int32} (hB : X_ends h t a1 = some (h', r)) : pm_ev (d + 6) 71 [.ref t, .int a1] h (some (.int r)) h' := by
  unfold X_ends at hB
  refine pm_ev_mk (L := [.ref t, .int a1, pm_J]) pm_m_71 rfl (Nat.le_of_ble_eq_true rfl) rfl ?_
  refine r_aload_nN f71_0 rfl ?_
  replace hB := bnd_some hB
  obtain ⟨x1q, ex1q, hB⟩ := hB
  refine r_getA f71_1 fa_5_45 ex1q ?_
  refine r_iload_n f71_4 rfl ?_
  replace hB := bnd_some hB
  obtain ⟨u2q, rfl, hB⟩ := hB
  replace hB := grd_some hB
  obtain ⟨g5q, hB⟩ := hB
  replace hB := bn2_some hB
  obtain ⟨h3q, x4q, eh3q, hB⟩ := hB
  refine r_virtV (as := [.int a1]) (q := pm_m_11) f71_5 ca_5_120 rfl rfl rfl (cs_len (Nat.le_of_ble_eq_true rfl)) g5q (P_L_standing (d := d + 4) eh3q) ?_
  cases x4q with
  | none =>
    refine r_nn_f 14 f71_8 (by decide) rfl ?_
    refine r_bipush f71_11 cb_m5 ?_
    exact r_iret pm_m_71 .int f71_13 rfl rfl rfl (zI hB)
  | some u7q =>
    refine r_nn_t (t := 14) (r := some u7q) f71_8 (by decide) (by simp) ?_
    dsimp only at hB
    refine r_aload_nN f71_14 rfl ?_
    replace hB := bnd_some hB
    obtain ⟨x8q, ex8q, hB⟩ := hB
    refine r_getA f71_15 fa_5_49 ex8q ?_
    refine r_aload_nN f71_18 rfl ?_
    replace hB := bnd_some hB
    obtain ⟨x9q, ex9q, hB⟩ := hB
    refine r_getA f71_19 fa_5_45 ex9q ?_
    replace hB := bnd_some hB
    obtain ⟨u10q, rfl, hB⟩ := hB
    replace hB := grd_some hB
    obtain ⟨g13q, hB⟩ := hB
    replace hB := bn2_some hB
    obtain ⟨h11q, _, eh11q, hB⟩ := hB
    refine r_virtN (as := [va_rf x9q]) (q := pm_m_10) f71_22 ca_5_186 rfl rfl rfl (cs_len (Nat.le_of_ble_eq_true rfl)) g13q (P_L_become (d := d + 3) eh11q) ?_
    refine r_iconst f71_25 ci_1 ?_
    refine r_istore_n (L' := [.ref t, .int a1, .int 1]) (x := 1) f71_26 rfl (Nat.le_of_ble_eq_true rfl) rfl ?_
    exact pm_weak (L' := [.ref t, .int a1, .int 1]) ⟨.inr rfl, .inr rfl, .inr rfl, trivial⟩ (P_X_ends_27 (d := d) 1000 h11q t a1 1 hB)
theorem P_X_first_46 {d : Nat} {h' : pm_H} {r : Int32} (k_25 : pm_H → Nat → Int32 → Int32 → Option (pm_H × Int32)) (hk_25 : ∀ (h : pm_H) (l0 : Nat) (l1 : Int32) (l2 : Int32), k_25 h l0 l1 l2 = some (h', r) → pm_run (pm_ev (d + 5)) 72 25 [.ref l0, .int l1, .int l2, pm_J, pm_J, pm_J, pm_J] [] h (fun r1 h1 => r1 = some (.int r) ∧ h1 = h')) (n : Nat) : ∀ (h : pm_H) (l0 : Nat) (l1 : Int32) (l2 : Int32) (l3 : Option Nat) (l4 : Int32) (l5 : Int32), X_first_46 k_25 n h l0 l1 l2 l3 l4 l5 = some (h', r) → pm_run (pm_ev (d + 5)) 72 46 [.ref l0, .int l1, .int l2, va_rf l3, .int l4, .int l5, pm_J] [] h (fun r1 h1 => r1 = some (.int r) ∧ h1 = h') := by
  induction n with
  | zero => intro h l0 l1 l2 l3 l4 l5 hB; cases hB
  | succ n ih =>
    intro h l0 l1 l2 l3 l4 l5 hB
    unfold X_first_46 at hB
    refine r_iload f72_46 rfl ?_
    refine r_iload f72_48 rfl ?_
    by_cases c1q : l4 ≤ l5
    · rw [if_pos c1q] at hB
      refine r_ic_t (t := 89) f72_50 (by decide) c1q ?_
      refine r_aload_nN f72_89 rfl ?_
      replace hB := bnd_some hB
      obtain ⟨x2q, ex2q, hB⟩ := hB
      refine r_getA f72_90 fa_5_49 ex2q ?_
      replace hB := bnd_some hB
      obtain ⟨u3q, rfl, hB⟩ := hB
      replace hB := grd_some hB
      obtain ⟨g6q, hB⟩ := hB
      replace hB := bn2_some hB
      obtain ⟨h4q, _, eh4q, hB⟩ := hB
      refine r_virtN (as := []) (q := pm_m_18) f72_93 ca_5_183 rfl rfl rfl (cs_len (Nat.le_of_ble_eq_true rfl)) g6q (P_L_pass (d := d + 0) eh4q) ?_
      obtain ⟨y7q, hy7q⟩ : ∃ z, z = l2 + 1 := ⟨_, rfl⟩
      replace hB := nmd_at hy7q hB
      refine r_iinc (L' := [.ref l0, .int l1, .int y7q, va_rf l3, .int l4, .int l5, pm_J]) (x := y7q) f72_96 rfl (hy7q.trans (congrArg (l2 + ·) ci_1.symm)) rfl ?_
      refine r_goto (t := 25) f72_99 (by decide) ?_
      exact pm_weak (L' := [.ref l0, .int l1, .int y7q, pm_J, pm_J, pm_J, pm_J]) ⟨.inr rfl, .inr rfl, .inr rfl, .inl rfl, .inl rfl, .inl rfl, .inl rfl, trivial⟩ (hk_25 h4q l0 l1 y7q hB)
    · rw [if_neg c1q] at hB
      refine r_ic_f 89 f72_50 (by decide) c1q ?_
      refine r_aload_n f72_53 rfl ?_
      refine r_iload f72_54 rfl ?_
      replace hB := bnd_some hB
      obtain ⟨u8q, rfl, hB⟩ := hB
      replace hB := bnd_some hB
      obtain ⟨x9q, ex9q, hB⟩ := hB
      refine r_aA 0 f72_56 et_0 ex9q ?_
      refine r_astore (L' := [.ref l0, .int l1, .int l2, .ref u8q, .int l4, .int l5, va_rf x9q]) f72_57 (Nat.le_of_ble_eq_true rfl) rfl ?_
      refine r_aload f72_59 rfl ?_
      replace hB := bnd_some hB
      obtain ⟨u10q, rfl, hB⟩ := hB
      replace hB := grd_some hB
      obtain ⟨g13q, hB⟩ := hB
      replace hB := bn2_some hB
      obtain ⟨h11q, x12q, eh11q, hB⟩ := hB
      refine r_virtV (as := []) (q := pm_m_5) f72_61 ca_5_202 rfl rfl rfl (cs_len (Nat.le_of_ble_eq_true rfl)) g13q (P_D_frontOrGone (d := d + 4) eh11q) ?_
      refine r_bipush f72_64 cb_39 ?_
      by_cases c14q : x12q = 39
      · rw [if_pos c14q] at hB
        refine r_ic_f 83 f72_66 (by decide) (fun q => q c14q) ?_
        refine r_iload_n f72_69 rfl ?_
        by_cases c16q : l1 = 0
        · rw [if_pos c16q] at hB
          refine r_if_f 81 f72_70 (by decide) (fun q => q c16q) ?_
          refine r_aloadN f72_73 rfl ?_
          replace hB := bnd_some hB
          obtain ⟨x17q, ex17q, hB⟩ := hB
          refine r_getI f72_75 fa_5_152 ex17q ?_
          refine r_goto (t := 82) f72_78 (by decide) ?_
          exact r_iret pm_m_72 .int f72_82 rfl rfl rfl (zI hB)
        · rw [if_neg c16q] at hB
          refine r_if_t (t := 81) f72_70 (by decide) c16q ?_
          refine r_iload_n f72_81 rfl ?_
          exact r_iret pm_m_72 .int f72_82 rfl rfl rfl (zI hB)
      · rw [if_neg c14q] at hB
        refine r_ic_t (t := 83) f72_66 (by decide) c14q ?_
        obtain ⟨y15q, hy15q⟩ : ∃ z, z = l5 + 1 := ⟨_, rfl⟩
        replace hB := nmd_at hy15q hB
        refine r_iinc (L' := [.ref l0, .int l1, .int l2, .ref u8q, .int l4, .int y15q, .ref u10q]) (x := y15q) f72_83 rfl (hy15q.trans (congrArg (l5 + ·) ci_1.symm)) rfl ?_
        refine r_goto (t := 46) f72_86 (by decide) ?_
        exact pm_weak (L' := [.ref l0, .int l1, .int l2, va_rf (some u8q), .int l4, .int y15q, pm_J]) ⟨.inr rfl, .inr rfl, .inr rfl, .inr rfl, .inr rfl, .inr rfl, .inl rfl, trivial⟩ (ih h11q l0 l1 l2 (some u8q) l4 y15q hB)
theorem P_X_first_25 {d : Nat} {h' : pm_H} {r : Int32} (n : Nat) : ∀ (h : pm_H) (l0 : Nat) (l1 : Int32) (l2 : Int32), X_first_25 n h l0 l1 l2 = some (h', r) → pm_run (pm_ev (d + 5)) 72 25 [.ref l0, .int l1, .int l2, pm_J, pm_J, pm_J, pm_J] [] h (fun r1 h1 => r1 = some (.int r) ∧ h1 = h') := by
  induction n with
  | zero => intro h l0 l1 l2 hB; cases hB
  | succ n ih =>
    intro h l0 l1 l2 hB
    unfold X_first_25 at hB
    refine r_iload_n f72_25 rfl ?_
    refine r_bipush f72_26 cb_40 ?_
    by_cases c1q : 40 < l2
    · rw [if_pos c1q] at hB
      refine r_ic_t (t := 102) f72_28 (by decide) c1q ?_
      refine r_iconst f72_102 ci_m1 ?_
      exact r_iret pm_m_72 .int f72_103 rfl rfl rfl (zI hB)
    · rw [if_neg c1q] at hB
      refine r_ic_f 102 f72_28 (by decide) c1q ?_
      refine r_aload_nN f72_31 rfl ?_
      replace hB := bnd_some hB
      obtain ⟨x2q, ex2q, hB⟩ := hB
      refine r_getA f72_32 fa_5_49 ex2q ?_
      replace hB := bnd_some hB
      obtain ⟨u3q, rfl, hB⟩ := hB
      replace hB := bnd_some hB
      obtain ⟨x4q, ex4q, hB⟩ := hB
      refine r_getA f72_35 fa_5_129 ex4q ?_
      refine r_astore_n (L' := [.ref l0, .int l1, .int l2, va_rf x4q, pm_J, pm_J, pm_J]) f72_38 (Nat.le_of_ble_eq_true rfl) rfl ?_
      refine r_aload_n f72_39 rfl ?_
      replace hB := bnd_some hB
      obtain ⟨u5q, rfl, hB⟩ := hB
      replace hB := bnd_some hB
      obtain ⟨x6q, ex6q, hB⟩ := hB
      refine r_ln f72_40 ex6q ?_
      refine r_istore (L' := [.ref l0, .int l1, .int l2, .ref u5q, .int x6q, pm_J, pm_J]) (x := x6q) f72_41 rfl (Nat.le_of_ble_eq_true rfl) rfl ?_
      refine r_iconst f72_43 ci_0 ?_
      refine r_istore (L' := [.ref l0, .int l1, .int l2, .ref u5q, .int x6q, .int 0, pm_J]) (x := 0) f72_44 rfl (Nat.le_of_ble_eq_true rfl) rfl ?_
      exact pm_weak (L' := [.ref l0, .int l1, .int l2, va_rf (some u5q), .int x6q, .int 0, pm_J]) ⟨.inr rfl, .inr rfl, .inr rfl, .inr rfl, .inr rfl, .inr rfl, .inl rfl, trivial⟩ (P_X_first_46 (d := d) (X_first_25 n) ih 1000 h l0 l1 l2 (some u5q) x6q 0 hB)
theorem P_X_first {d : Nat} {h h' : pm_H} {r : Int32} {t : Nat} {a1 : Int32} (hB : X_first h t a1 = some (h', r)) : pm_ev (d + 6) 72 [.ref t, .int a1] h (some (.int r)) h' := by
  unfold X_first at hB
  refine pm_ev_mk (L := [.ref t, .int a1, pm_J, pm_J, pm_J, pm_J, pm_J]) pm_m_72 rfl (Nat.le_of_ble_eq_true rfl) rfl ?_
  refine r_iload_n f72_0 rfl ?_
  refine r_iconst f72_1 ci_0 ?_
  refine r_iconst f72_2 ci_1 ?_
  replace hB := bn2_some hB
  obtain ⟨h1q, x2q, eh1q, hB⟩ := hB
  refine r_statV (as := [.int a1, .int 0, .int 1]) (q := pm_m_92) f72_3 ca_5_90 rfl (by decide) rfl rfl (cs_len (Nat.le_of_ble_eq_true rfl)) (P_X_within (d := d + 4) eh1q) ?_
  by_cases c3q : x2q = 0
  · rw [if_pos c3q] at hB
    refine r_if_f 12 f72_6 (by decide) (fun q => q c3q) ?_
    refine r_bipush f72_9 cb_m2 ?_
    exact r_iret pm_m_72 .int f72_11 rfl rfl rfl (zI hB)
  · rw [if_neg c3q] at hB
    refine r_if_t (t := 12) f72_6 (by decide) c3q ?_
    refine r_aload_nN f72_12 rfl ?_
    replace hB := bnd_some hB
    obtain ⟨x4q, ex4q, hB⟩ := hB
    refine r_getA f72_13 fa_5_49 ex4q ?_
    refine r_aload_nN f72_16 rfl ?_
    replace hB := bnd_some hB
    obtain ⟨x5q, ex5q, hB⟩ := hB
    refine r_getA f72_17 fa_5_45 ex5q ?_
    replace hB := bnd_some hB
    obtain ⟨u6q, rfl, hB⟩ := hB
    replace hB := grd_some hB
    obtain ⟨g9q, hB⟩ := hB
    replace hB := bn2_some hB
    obtain ⟨h7q, _, eh7q, hB⟩ := hB
    refine r_virtN (as := [va_rf x5q]) (q := pm_m_10) f72_20 ca_5_186 rfl rfl rfl (cs_len (Nat.le_of_ble_eq_true rfl)) g9q (P_L_become (d := d + 3) eh7q) ?_
    refine r_iconst f72_23 ci_0 ?_
    refine r_istore_n (L' := [.ref t, .int a1, .int 0, pm_J, pm_J, pm_J, pm_J]) (x := 0) f72_24 rfl (Nat.le_of_ble_eq_true rfl) rfl ?_
    exact pm_weak (L' := [.ref t, .int a1, .int 0, pm_J, pm_J, pm_J, pm_J]) ⟨.inr rfl, .inr rfl, .inr rfl, .inl rfl, .inl rfl, .inl rfl, .inl rfl, trivial⟩ (P_X_first_25 (d := d) 1000 h7q t a1 0 hB)
theorem P_X_sow_121 {d : Nat} {h' : pm_H} {r : Int32} (k_45 : pm_H → Nat → Int32 → Int32 → Int32 → Int32 → Int32 → Option (pm_H × Int32)) (hk_45 : ∀ (h : pm_H) (l0 : Nat) (l1 : Int32) (l2 : Int32) (l3 : Int32) (l4 : Int32) (l5 : Int32), k_45 h l0 l1 l2 l3 l4 l5 = some (h', r) → pm_run (pm_ev (d + 6)) 73 45 [.ref l0, .int l1, .int l2, .int l3, .int l4, .int l5, pm_J, pm_J, pm_J] [] h (fun r1 h1 => r1 = some (.int r) ∧ h1 = h')) (h : pm_H) (l0 : Nat) (l1 : Int32) (l2 : Int32) (l3 : Int32) (l4 : Int32) (l5 : Int32) (hB : X_sow_121 k_45 h l0 l1 l2 l3 l4 l5 = some (h', r)) : pm_run (pm_ev (d + 6)) 73 121 [.ref l0, .int l1, .int l2, .int l3, .int l4, .int l5, pm_J, pm_J, pm_J] [] h (fun r1 h1 => r1 = some (.int r) ∧ h1 = h') := by
  unfold X_sow_121 at hB
  obtain ⟨y1q, hy1q⟩ : ∃ z, z = l5 + 1 := ⟨_, rfl⟩
  replace hB := nmd_at hy1q hB
  refine r_iinc (L' := [.ref l0, .int l1, .int l2, .int l3, .int l4, .int y1q, pm_J, pm_J, pm_J]) (x := y1q) f73_121 rfl (hy1q.trans (congrArg (l5 + ·) ci_1.symm)) rfl ?_
  refine r_goto (t := 45) f73_124 (by decide) ?_
  exact pm_weak (L' := [.ref l0, .int l1, .int l2, .int l3, .int l4, .int y1q, pm_J, pm_J, pm_J]) ⟨.inr rfl, .inr rfl, .inr rfl, .inr rfl, .inr rfl, .inr rfl, .inl rfl, .inl rfl, .inl rfl, trivial⟩ (hk_45 h l0 l1 l2 l3 l4 y1q hB)
theorem P_X_sow_45 {d : Nat} {h' : pm_H} {r : Int32} (n : Nat) : ∀ (h : pm_H) (l0 : Nat) (l1 : Int32) (l2 : Int32) (l3 : Int32) (l4 : Int32) (l5 : Int32), X_sow_45 n h l0 l1 l2 l3 l4 l5 = some (h', r) → pm_run (pm_ev (d + 6)) 73 45 [.ref l0, .int l1, .int l2, .int l3, .int l4, .int l5, pm_J, pm_J, pm_J] [] h (fun r1 h1 => r1 = some (.int r) ∧ h1 = h') := by
  induction n with
  | zero => intro h l0 l1 l2 l3 l4 l5 hB; cases hB
  | succ n ih =>
    intro h l0 l1 l2 l3 l4 l5 hB
    unfold X_sow_45 at hB
    refine r_iload f73_45 rfl ?_
    refine r_bipush f73_47 cb_40 ?_
    by_cases c1q : 40 ≤ l5
    · rw [if_pos c1q] at hB
      refine r_ic_t (t := 127) f73_49 (by decide) c1q ?_
      refine r_iload_n f73_127 rfl ?_
      by_cases c2q : l2 = 0
      · rw [if_pos c2q] at hB
        refine r_if_f 136 f73_128 (by decide) (fun q => q c2q) ?_
        refine r_iload f73_131 rfl ?_
        refine r_goto (t := 137) f73_133 (by decide) ?_
        exact r_iret pm_m_73 .int f73_137 rfl rfl rfl (zI hB)
      · rw [if_neg c2q] at hB
        refine r_if_t (t := 136) f73_128 (by decide) c2q ?_
        refine r_iload_n f73_136 rfl ?_
        exact r_iret pm_m_73 .int f73_137 rfl rfl rfl (zI hB)
    · rw [if_neg c1q] at hB
      refine r_ic_f 127 f73_49 (by decide) c1q ?_
      refine r_lconst f73_52 cl_1 ?_
      refine r_iload f73_53 rfl ?_
      refine r_lshl f73_55 ?_
      obtain ⟨y3q, hy3q⟩ : ∃ z, z = (1 <<< ((l5 : Int32).toInt64 &&& 63)) := ⟨_, rfl⟩
      replace hB := nmd_at hy3q hB
      refine r_lstore (L' := [.ref l0, .int l1, .int l2, .int l3, .int l4, .int l5, .long y3q, pm_J, pm_J]) (x := y3q) f73_56 hy3q (Nat.le_of_ble_eq_true rfl) rfl ?_
      refine r_aload_nN f73_58 rfl ?_
      replace hB := bnd_some hB
      obtain ⟨x4q, ex4q, hB⟩ := hB
      refine r_getA f73_59 fa_5_45 ex4q ?_
      replace hB := bnd_some hB
      obtain ⟨u5q, rfl, hB⟩ := hB
      replace hB := bnd_some hB
      obtain ⟨x6q, ex6q, hB⟩ := hB
      refine r_getJ f73_62 fa_5_77 ex6q ?_
      refine r_lload f73_65 rfl ?_
      refine r_land f73_67 ?_
      refine r_lconst f73_68 cl_0 ?_
      refine r_lcmp f73_69 ?_
      by_cases c7q : (lg_cmp (x6q &&& y3q) 0) = 0
      · rw [if_pos c7q] at hB
        refine r_if_f 121 f73_70 (by decide) (fun q => q c7q) ?_
        refine r_aload_nN f73_73 rfl ?_
        replace hB := bnd_some hB
        obtain ⟨x8q, ex8q, hB⟩ := hB
        refine r_getA f73_74 fa_5_49 ex8q ?_
        refine r_aload_nN f73_77 rfl ?_
        replace hB := bnd_some hB
        obtain ⟨x9q, ex9q, hB⟩ := hB
        refine r_getA f73_78 fa_5_45 ex9q ?_
        replace hB := bnd_some hB
        obtain ⟨u10q, rfl, hB⟩ := hB
        replace hB := grd_some hB
        obtain ⟨g13q, hB⟩ := hB
        replace hB := bn2_some hB
        obtain ⟨h11q, _, eh11q, hB⟩ := hB
        refine r_virtN (as := [va_rf x9q]) (q := pm_m_10) f73_81 ca_5_186 rfl rfl rfl (cs_len (Nat.le_of_ble_eq_true rfl)) g13q (P_L_become (d := d + 4) eh11q) ?_
        refine r_aload_nN f73_84 rfl ?_
        replace hB := bnd_some hB
        obtain ⟨x14q, ex14q, hB⟩ := hB
        refine r_getA f73_85 fa_5_49 ex14q ?_
        refine r_aload_nN f73_88 rfl ?_
        replace hB := bnd_some hB
        obtain ⟨x15q, ex15q, hB⟩ := hB
        refine r_getA f73_89 fa_5_45 ex15q ?_
        replace hB := bnd_some hB
        obtain ⟨u16q, rfl, hB⟩ := hB
        replace hB := bnd_some hB
        obtain ⟨x17q, ex17q, hB⟩ := hB
        refine r_getJ f73_92 fa_5_77 ex17q ?_
        refine r_lload f73_95 rfl ?_
        refine r_lor f73_97 ?_
        replace hB := bnd_some hB
        obtain ⟨u18q, rfl, hB⟩ := hB
        replace hB := bnd_some hB
        obtain ⟨h19q, eh19q, hB⟩ := hB
        refine r_put f73_98 fa_5_77 ty_1_3 rfl rfl (no_fin (nf_1_3)) eh19q ?_
        refine r_aload_nN f73_101 rfl ?_
        refine r_iload_n f73_102 rfl ?_
        replace hB := grd_some hB
        obtain ⟨g22q, hB⟩ := hB
        replace hB := bn2_some hB
        obtain ⟨h20q, x21q, eh20q, hB⟩ := hB
        refine r_virtV (as := [.int l1]) (q := pm_m_101) f73_103 ca_5_190 rfl rfl rfl (cs_len (Nat.le_of_ble_eq_true rfl)) g22q (P_X_passInThought (d := d + 0) eh20q) ?_
        refine r_istore (L' := [.ref l0, .int l1, .int l2, .int l3, .int l4, .int l5, .long y3q, pm_J, .int x21q]) (x := x21q) f73_106 rfl (Nat.le_of_ble_eq_true rfl) rfl ?_
        refine r_iload f73_108 rfl ?_
        refine r_iload_n f73_110 rfl ?_
        by_cases c23q : l3 ≤ x21q
        · rw [if_pos c23q] at hB
          refine r_ic_t (t := 121) f73_111 (by decide) c23q ?_
          exact pm_weak (L' := [.ref l0, .int l1, .int l2, .int l3, .int l4, .int l5, pm_J, pm_J, pm_J]) ⟨.inr rfl, .inr rfl, .inr rfl, .inr rfl, .inr rfl, .inr rfl, .inl rfl, .inl rfl, .inl rfl, trivial⟩ (P_X_sow_121 (d := d) (X_sow_45 n) ih h20q l0 l1 l2 l3 l4 l5 hB)
        · rw [if_neg c23q] at hB
          refine r_ic_f 121 f73_111 (by decide) c23q ?_
          refine r_iload f73_114 rfl ?_
          refine r_istore_n (L' := [.ref l0, .int l1, .int l2, .int x21q, .int l4, .int l5, .long y3q, pm_J, .int x21q]) (x := x21q) f73_116 rfl (Nat.le_of_ble_eq_true rfl) rfl ?_
          refine r_iload f73_117 rfl ?_
          refine r_istore (L' := [.ref l0, .int l1, .int l2, .int x21q, .int l5, .int l5, .long y3q, pm_J, .int x21q]) (x := l5) f73_119 rfl (Nat.le_of_ble_eq_true rfl) rfl ?_
          exact pm_weak (L' := [.ref l0, .int l1, .int l2, .int x21q, .int l5, .int l5, pm_J, pm_J, pm_J]) ⟨.inr rfl, .inr rfl, .inr rfl, .inr rfl, .inr rfl, .inr rfl, .inl rfl, .inl rfl, .inl rfl, trivial⟩ (P_X_sow_121 (d := d) (X_sow_45 n) ih h20q l0 l1 l2 x21q l5 l5 hB)
      · rw [if_neg c7q] at hB
        refine r_if_t (t := 121) f73_70 (by decide) c7q ?_
        exact pm_weak (L' := [.ref l0, .int l1, .int l2, .int l3, .int l4, .int l5, pm_J, pm_J, pm_J]) ⟨.inr rfl, .inr rfl, .inr rfl, .inr rfl, .inr rfl, .inr rfl, .inl rfl, .inl rfl, .inl rfl, trivial⟩ (P_X_sow_121 (d := d) (X_sow_45 n) ih h l0 l1 l2 l3 l4 l5 hB)
theorem P_X_sow {d : Nat} {h h' : pm_H} {r : Int32} {t : Nat} {a1 : Int32} {a2 : Int32} (hB : X_sow h t a1 a2 = some (h', r)) : pm_ev (d + 7) 73 [.ref t, .int a1, .int a2] h (some (.int r)) h' := by
  unfold X_sow at hB
  refine pm_ev_mk (L := [.ref t, .int a1, .int a2, pm_J, pm_J, pm_J, pm_J, pm_J, pm_J]) pm_m_73 rfl (Nat.le_of_ble_eq_true rfl) rfl ?_
  refine r_iload_n f73_0 rfl ?_
  refine r_iconst f73_1 ci_0 ?_
  refine r_bipush f73_2 cb_20 ?_
  replace hB := bn2_some hB
  obtain ⟨h1q, x2q, eh1q, hB⟩ := hB
  refine r_statV (as := [.int a1, .int 0, .int 20]) (q := pm_m_92) f73_4 ca_5_90 rfl (by decide) rfl rfl (cs_len (Nat.le_of_ble_eq_true rfl)) (P_X_within (d := d + 5) eh1q) ?_
  by_cases c3q : x2q = 0
  · rw [if_pos c3q] at hB
    refine r_if_t (t := 19) f73_7 (by decide) c3q ?_
    refine r_bipush f73_19 cb_m2 ?_
    exact r_iret pm_m_73 .int f73_21 rfl rfl rfl (zI hB)
  · rw [if_neg c3q] at hB
    refine r_if_f 19 f73_7 (by decide) c3q ?_
    refine r_iload_n f73_10 rfl ?_
    refine r_iconst f73_11 ci_0 ?_
    refine r_iconst f73_12 ci_1 ?_
    replace hB := bn2_some hB
    obtain ⟨h4q, x5q, eh4q, hB⟩ := hB
    refine r_statV (as := [.int a2, .int 0, .int 1]) (q := pm_m_92) f73_13 ca_5_90 rfl (by decide) rfl rfl (cs_len (Nat.le_of_ble_eq_true rfl)) (P_X_within (d := d + 5) eh4q) ?_
    by_cases c6q : x5q = 0
    · rw [if_pos c6q] at hB
      refine r_if_f 22 f73_16 (by decide) (fun q => q c6q) ?_
      refine r_bipush f73_19 cb_m2 ?_
      exact r_iret pm_m_73 .int f73_21 rfl rfl rfl (zI hB)
    · rw [if_neg c6q] at hB
      refine r_if_t (t := 22) f73_16 (by decide) c6q ?_
      refine r_aload_nN f73_22 rfl ?_
      replace hB := bnd_some hB
      obtain ⟨x7q, ex7q, hB⟩ := hB
      refine r_getA f73_23 fa_5_49 ex7q ?_
      refine r_aload_nN f73_26 rfl ?_
      replace hB := bnd_some hB
      obtain ⟨x8q, ex8q, hB⟩ := hB
      refine r_getA f73_27 fa_5_45 ex8q ?_
      replace hB := bnd_some hB
      obtain ⟨u9q, rfl, hB⟩ := hB
      replace hB := grd_some hB
      obtain ⟨g12q, hB⟩ := hB
      replace hB := bn2_some hB
      obtain ⟨h10q, _, eh10q, hB⟩ := hB
      refine r_virtN (as := [va_rf x8q]) (q := pm_m_10) f73_30 ca_5_186 rfl rfl rfl (cs_len (Nat.le_of_ble_eq_true rfl)) g12q (P_L_become (d := d + 4) eh10q) ?_
      refine r_aload_nN f73_33 rfl ?_
      refine r_iload_n f73_34 rfl ?_
      replace hB := grd_some hB
      obtain ⟨g15q, hB⟩ := hB
      replace hB := bn2_some hB
      obtain ⟨h13q, x14q, eh13q, hB⟩ := hB
      refine r_virtV (as := [.int a1]) (q := pm_m_101) f73_35 ca_5_190 rfl rfl rfl (cs_len (Nat.le_of_ble_eq_true rfl)) g15q (P_X_passInThought (d := d + 0) eh13q) ?_
      refine r_istore_n (L' := [.ref t, .int a1, .int a2, .int x14q, pm_J, pm_J, pm_J, pm_J, pm_J]) (x := x14q) f73_38 rfl (Nat.le_of_ble_eq_true rfl) rfl ?_
      refine r_iconst f73_39 ci_m1 ?_
      refine r_istore (L' := [.ref t, .int a1, .int a2, .int x14q, .int (-1), pm_J, pm_J, pm_J, pm_J]) (x := (-1)) f73_40 rfl (Nat.le_of_ble_eq_true rfl) rfl ?_
      refine r_iconst f73_42 ci_0 ?_
      refine r_istore (L' := [.ref t, .int a1, .int a2, .int x14q, .int (-1), .int 0, pm_J, pm_J, pm_J]) (x := 0) f73_43 rfl (Nat.le_of_ble_eq_true rfl) rfl ?_
      exact pm_weak (L' := [.ref t, .int a1, .int a2, .int x14q, .int (-1), .int 0, pm_J, pm_J, pm_J]) ⟨.inr rfl, .inr rfl, .inr rfl, .inr rfl, .inr rfl, .inr rfl, .inl rfl, .inl rfl, .inl rfl, trivial⟩ (P_X_sow_45 (d := d) 1000 h13q t a1 a2 x14q (-1) 0 hB)
theorem P_X_countYearsUnder_48 {d : Nat} {h' : pm_H} {r : Int32} (k_23 : pm_H → Nat → Int32 → Int32 → Int32 → Option (pm_H × Int32)) (hk_23 : ∀ (h : pm_H) (l0 : Nat) (l1 : Int32) (l2 : Int32) (l3 : Int32), k_23 h l0 l1 l2 l3 = some (h', r) → pm_run (pm_ev (d + 6)) 102 23 [.ref l0, .int l1, .int l2, .int l3, pm_J, pm_J, pm_J] [] h (fun r1 h1 => r1 = some (.int r) ∧ h1 = h')) (n : Nat) : ∀ (h : pm_H) (l0 : Nat) (l1 : Int32) (l2 : Int32) (l3 : Int32) (l4 : Int64) (l6 : Int32), X_countYearsUnder_48 k_23 n h l0 l1 l2 l3 l4 l6 = some (h', r) → pm_run (pm_ev (d + 6)) 102 48 [.ref l0, .int l1, .int l2, .int l3, .long l4, pm_J, .int l6] [] h (fun r1 h1 => r1 = some (.int r) ∧ h1 = h') := by
  induction n with
  | zero => intro h l0 l1 l2 l3 l4 l6 hB; cases hB
  | succ n ih =>
    intro h l0 l1 l2 l3 l4 l6 hB
    unfold X_countYearsUnder_48 at hB
    refine r_iload f102_48 rfl ?_
    refine r_aload_nN f102_50 rfl ?_
    replace hB := bnd_some hB
    obtain ⟨x1q, ex1q, hB⟩ := hB
    refine r_getA f102_51 fa_5_28 ex1q ?_
    replace hB := bnd_some hB
    obtain ⟨u2q, rfl, hB⟩ := hB
    replace hB := bnd_some hB
    obtain ⟨x3q, ex3q, hB⟩ := hB
    refine r_ln f102_54 ex3q ?_
    by_cases c4q : x3q ≤ l6
    · rw [if_pos c4q] at hB
      refine r_ic_t (t := 82) f102_55 (by decide) c4q ?_
      obtain ⟨y5q, hy5q⟩ : ∃ z, z = l3 + 1 := ⟨_, rfl⟩
      replace hB := nmd_at hy5q hB
      refine r_iinc (L' := [.ref l0, .int l1, .int l2, .int y5q, .long l4, pm_J, .int l6]) (x := y5q) f102_82 rfl (hy5q.trans (congrArg (l3 + ·) ci_1.symm)) rfl ?_
      refine r_goto (t := 23) f102_85 (by decide) ?_
      exact pm_weak (L' := [.ref l0, .int l1, .int l2, .int y5q, pm_J, pm_J, pm_J]) ⟨.inr rfl, .inr rfl, .inr rfl, .inr rfl, .inl rfl, .inl rfl, .inl rfl, trivial⟩ (hk_23 h l0 l1 l2 y5q hB)
    · rw [if_neg c4q] at hB
      refine r_ic_f 82 f102_55 (by decide) c4q ?_
      refine r_aload_nN f102_58 rfl ?_
      replace hB := bnd_some hB
      obtain ⟨x6q, ex6q, hB⟩ := hB
      refine r_getA f102_59 fa_5_28 ex6q ?_
      refine r_iload f102_62 rfl ?_
      replace hB := bnd_some hB
      obtain ⟨u7q, rfl, hB⟩ := hB
      refine r_dup2 (a := u7q) f102_64 ?_
      replace hB := bnd_some hB
      obtain ⟨x8q, ex8q, hB⟩ := hB
      refine r_aI f102_65 ex8q ?_
      refine r_lload f102_66 rfl ?_
      refine r_iload f102_68 rfl ?_
      refine r_lshr f102_70 ?_
      refine r_lconst f102_71 cl_1 ?_
      refine r_land f102_72 ?_
      refine r_l2i f102_73 ?_
      refine r_iadd f102_74 ?_
      replace hB := bnd_some hB
      obtain ⟨h9q, eh9q, hB⟩ := hB
      refine r_sI f102_75 eh9q ?_
      obtain ⟨y10q, hy10q⟩ : ∃ z, z = l6 + 1 := ⟨_, rfl⟩
      replace hB := nmd_at hy10q hB
      refine r_iinc (L' := [.ref l0, .int l1, .int l2, .int l3, .long l4, pm_J, .int y10q]) (x := y10q) f102_76 rfl (hy10q.trans (congrArg (l6 + ·) ci_1.symm)) rfl ?_
      refine r_goto (t := 48) f102_79 (by decide) ?_
      exact pm_weak (L' := [.ref l0, .int l1, .int l2, .int l3, .long l4, pm_J, .int y10q]) ⟨.inr rfl, .inr rfl, .inr rfl, .inr rfl, .inr rfl, .inl rfl, .inr rfl, trivial⟩ (ih h9q l0 l1 l2 l3 l4 y10q hB)
theorem P_X_countYearsUnder_23 {d : Nat} {h' : pm_H} {r : Int32} (n : Nat) : ∀ (h : pm_H) (l0 : Nat) (l1 : Int32) (l2 : Int32) (l3 : Int32), X_countYearsUnder_23 n h l0 l1 l2 l3 = some (h', r) → pm_run (pm_ev (d + 6)) 102 23 [.ref l0, .int l1, .int l2, .int l3, pm_J, pm_J, pm_J] [] h (fun r1 h1 => r1 = some (.int r) ∧ h1 = h') := by
  induction n with
  | zero => intro h l0 l1 l2 l3 hB; cases hB
  | succ n ih =>
    intro h l0 l1 l2 l3 hB
    unfold X_countYearsUnder_23 at hB
    refine r_iload_n f102_23 rfl ?_
    refine r_iload_n f102_24 rfl ?_
    by_cases c1q : l1 ≤ l3
    · rw [if_pos c1q] at hB
      refine r_ic_t (t := 88) f102_25 (by decide) c1q ?_
      refine r_iload_n f102_88 rfl ?_
      exact r_iret pm_m_102 .int f102_89 rfl rfl rfl (zI hB)
    · rw [if_neg c1q] at hB
      refine r_ic_f 88 f102_25 (by decide) c1q ?_
      refine r_iload_n f102_28 rfl ?_
      refine r_aload_nN f102_29 rfl ?_
      refine r_iconst f102_30 ci_1 ?_
      replace hB := grd_some hB
      obtain ⟨g4q, hB⟩ := hB
      replace hB := bn2_some hB
      obtain ⟨h2q, x3q, eh2q, hB⟩ := hB
      refine r_virtV (as := [.int 1]) (q := pm_m_101) f102_31 ca_5_190 rfl rfl rfl (cs_len (Nat.le_of_ble_eq_true rfl)) g4q (P_X_passInThought (d := d + 0) eh2q) ?_
      refine r_iadd f102_34 ?_
      obtain ⟨y5q, hy5q⟩ : ∃ z, z = (l2 + x3q) := ⟨_, rfl⟩
      replace hB := nmd_at hy5q hB
      refine r_istore_n (L' := [.ref l0, .int l1, .int y5q, .int l3, pm_J, pm_J, pm_J]) (x := y5q) f102_35 hy5q (Nat.le_of_ble_eq_true rfl) rfl ?_
      refine r_aload_nN f102_36 rfl ?_
      replace hB := bnd_some hB
      obtain ⟨x6q, ex6q, hB⟩ := hB
      refine r_getA f102_37 fa_5_49 ex6q ?_
      replace hB := bnd_some hB
      obtain ⟨u7q, rfl, hB⟩ := hB
      replace hB := grd_some hB
      obtain ⟨g10q, hB⟩ := hB
      replace hB := bn2_some hB
      obtain ⟨h8q, x9q, eh8q, hB⟩ := hB
      refine r_virtV (as := []) (q := pm_m_13) f102_40 ca_5_96 rfl rfl rfl (cs_len (Nat.le_of_ble_eq_true rfl)) g10q (P_L_sand (d := d + 4) eh8q) ?_
      refine r_lstore (L' := [.ref l0, .int l1, .int y5q, .int l3, .long x9q, pm_J, pm_J]) (x := x9q) f102_43 rfl (Nat.le_of_ble_eq_true rfl) rfl ?_
      refine r_iconst f102_45 ci_0 ?_
      refine r_istore (L' := [.ref l0, .int l1, .int y5q, .int l3, .long x9q, pm_J, .int 0]) (x := 0) f102_46 rfl (Nat.le_of_ble_eq_true rfl) rfl ?_
      exact pm_weak (L' := [.ref l0, .int l1, .int y5q, .int l3, .long x9q, pm_J, .int 0]) ⟨.inr rfl, .inr rfl, .inr rfl, .inr rfl, .inr rfl, .inl rfl, .inr rfl, trivial⟩ (P_X_countYearsUnder_48 (d := d) (X_countYearsUnder_23 n) ih 1000 h8q l0 l1 y5q l3 x9q 0 hB)
theorem P_X_countYearsUnder {d : Nat} {h h' : pm_H} {r : Int32} {t : Nat} {a1 : Int32} (hB : X_countYearsUnder h t a1 = some (h', r)) : pm_ev (d + 7) 102 [.ref t, .int a1] h (some (.int r)) h' := by
  unfold X_countYearsUnder at hB
  refine pm_ev_mk (L := [.ref t, .int a1, pm_J, pm_J, pm_J, pm_J, pm_J]) pm_m_102 rfl (Nat.le_of_ble_eq_true rfl) rfl ?_
  refine r_aload_nN f102_0 rfl ?_
  replace hB := bnd_some hB
  obtain ⟨x1q, ex1q, hB⟩ := hB
  refine r_getA f102_1 fa_5_28 ex1q ?_
  refine r_iconst f102_4 ci_0 ?_
  replace hB := bn2_some hB
  obtain ⟨h2q, _, eh2q, hB⟩ := hB
  refine r_statN (as := [va_rf x1q, .int 0]) (q := pm_m_186) f102_5 ca_5_276 rfl (by decide) rfl rfl (cs_len (Nat.le_of_ble_eq_true rfl)) (P_Ja_fill (d := d + 5) eh2q) ?_
  refine r_aload_nN f102_8 rfl ?_
  replace hB := bnd_some hB
  obtain ⟨x4q, ex4q, hB⟩ := hB
  refine r_getA f102_9 fa_5_49 ex4q ?_
  refine r_aload_nN f102_12 rfl ?_
  replace hB := bnd_some hB
  obtain ⟨x5q, ex5q, hB⟩ := hB
  refine r_getA f102_13 fa_5_45 ex5q ?_
  replace hB := bnd_some hB
  obtain ⟨u6q, rfl, hB⟩ := hB
  replace hB := grd_some hB
  obtain ⟨g9q, hB⟩ := hB
  replace hB := bn2_some hB
  obtain ⟨h7q, _, eh7q, hB⟩ := hB
  refine r_virtN (as := [va_rf x5q]) (q := pm_m_10) f102_16 ca_5_186 rfl rfl rfl (cs_len (Nat.le_of_ble_eq_true rfl)) g9q (P_L_become (d := d + 4) eh7q) ?_
  refine r_iconst f102_19 ci_0 ?_
  refine r_istore_n (L' := [.ref t, .int a1, .int 0, pm_J, pm_J, pm_J, pm_J]) (x := 0) f102_20 rfl (Nat.le_of_ble_eq_true rfl) rfl ?_
  refine r_iconst f102_21 ci_0 ?_
  refine r_istore_n (L' := [.ref t, .int a1, .int 0, .int 0, pm_J, pm_J, pm_J]) (x := 0) f102_22 rfl (Nat.le_of_ble_eq_true rfl) rfl ?_
  exact pm_weak (L' := [.ref t, .int a1, .int 0, .int 0, pm_J, pm_J, pm_J]) ⟨.inr rfl, .inr rfl, .inr rfl, .inr rfl, .inl rfl, .inl rfl, .inl rfl, trivial⟩ (P_X_countYearsUnder_23 (d := d) 1000 h7q t a1 0 0 hB)
theorem P_X_move_136 {d : Nat} {h' : pm_H} {r : Int32} (k_37 : pm_H → Nat → Int32 → Int32 → Int32 → Int32 → Int32 → Option (pm_H × Int32)) (hk_37 : ∀ (h : pm_H) (l0 : Nat) (l2 : Int32) (l3 : Int32) (l4 : Int32) (l5 : Int32) (l6 : Int32), k_37 h l0 l2 l3 l4 l5 l6 = some (h', r) → pm_run (pm_ev (d + 7)) 74 37 [.ref l0, pm_J, .int l2, .int l3, .int l4, .int l5, .int l6, pm_J, pm_J, pm_J] [] h (fun r1 h1 => r1 = some (.int r) ∧ h1 = h')) (k_50 : pm_H → Nat → Int32 → Int32 → Int32 → Int32 → Int32 → Int32 → Option (pm_H × Int32)) (hk_50 : ∀ (h : pm_H) (l0 : Nat) (l2 : Int32) (l3 : Int32) (l4 : Int32) (l5 : Int32) (l6 : Int32) (l7 : Int32), k_50 h l0 l2 l3 l4 l5 l6 l7 = some (h', r) → pm_run (pm_ev (d + 7)) 74 50 [.ref l0, pm_J, .int l2, .int l3, .int l4, .int l5, .int l6, .int l7, pm_J, pm_J] [] h (fun r1 h1 => r1 = some (.int r) ∧ h1 = h')) (h : pm_H) (l0 : Nat) (l2 : Int32) (l3 : Int32) (l4 : Int32) (l5 : Int32) (l6 : Int32) (l7 : Int32) (hB : X_move_136 k_37 k_50 h l0 l2 l3 l4 l5 l6 l7 = some (h', r)) : pm_run (pm_ev (d + 7)) 74 136 [.ref l0, pm_J, .int l2, .int l3, .int l4, .int l5, .int l6, .int l7, pm_J, pm_J] [] h (fun r1 h1 => r1 = some (.int r) ∧ h1 = h') := by
  unfold X_move_136 at hB
  obtain ⟨y1q, hy1q⟩ : ∃ z, z = l7 + 1 := ⟨_, rfl⟩
  replace hB := nmd_at hy1q hB
  refine r_iinc (L' := [.ref l0, pm_J, .int l2, .int l3, .int l4, .int l5, .int l6, .int y1q, pm_J, pm_J]) (x := y1q) f74_136 rfl (hy1q.trans (congrArg (l7 + ·) ci_1.symm)) rfl ?_
  refine r_goto (t := 50) f74_139 (by decide) ?_
  exact pm_weak (L' := [.ref l0, pm_J, .int l2, .int l3, .int l4, .int l5, .int l6, .int y1q, pm_J, pm_J]) ⟨.inr rfl, .inl rfl, .inr rfl, .inr rfl, .inr rfl, .inr rfl, .inr rfl, .inr rfl, .inl rfl, .inl rfl, trivial⟩ (hk_50 h l0 l2 l3 l4 l5 l6 y1q hB)
theorem P_X_move_89 {d : Nat} {h' : pm_H} {r : Int32} (k_37 : pm_H → Nat → Int32 → Int32 → Int32 → Int32 → Int32 → Option (pm_H × Int32)) (hk_37 : ∀ (h : pm_H) (l0 : Nat) (l2 : Int32) (l3 : Int32) (l4 : Int32) (l5 : Int32) (l6 : Int32), k_37 h l0 l2 l3 l4 l5 l6 = some (h', r) → pm_run (pm_ev (d + 7)) 74 37 [.ref l0, pm_J, .int l2, .int l3, .int l4, .int l5, .int l6, pm_J, pm_J, pm_J] [] h (fun r1 h1 => r1 = some (.int r) ∧ h1 = h')) (k_50 : pm_H → Nat → Int32 → Int32 → Int32 → Int32 → Int32 → Int32 → Option (pm_H × Int32)) (hk_50 : ∀ (h : pm_H) (l0 : Nat) (l2 : Int32) (l3 : Int32) (l4 : Int32) (l5 : Int32) (l6 : Int32) (l7 : Int32), k_50 h l0 l2 l3 l4 l5 l6 l7 = some (h', r) → pm_run (pm_ev (d + 7)) 74 50 [.ref l0, pm_J, .int l2, .int l3, .int l4, .int l5, .int l6, .int l7, pm_J, pm_J] [] h (fun r1 h1 => r1 = some (.int r) ∧ h1 = h')) (h : pm_H) (l0 : Nat) (l2 : Int32) (l3 : Int32) (l4 : Int32) (l5 : Int32) (l6 : Int32) (l7 : Int32) (s0 : Int32) (hB : X_move_89 k_37 k_50 h l0 l2 l3 l4 l5 l6 l7 s0 = some (h', r)) : pm_run (pm_ev (d + 7)) 74 89 [.ref l0, pm_J, .int l2, .int l3, .int l4, .int l5, .int l6, .int l7, pm_J, pm_J] [.int s0] h (fun r1 h1 => r1 = some (.int r) ∧ h1 = h') := by
  unfold X_move_89 at hB
  refine r_istore (L' := [.ref l0, pm_J, .int l2, .int l3, .int l4, .int l5, .int l6, .int l7, .int s0, pm_J]) (x := s0) f74_89 rfl (Nat.le_of_ble_eq_true rfl) rfl ?_
  refine r_iload_n f74_91 rfl ?_
  refine r_aload_nN f74_92 rfl ?_
  replace hB := bnd_some hB
  obtain ⟨x1q, ex1q, hB⟩ := hB
  refine r_getA f74_93 fa_5_28 ex1q ?_
  refine r_iload f74_96 rfl ?_
  replace hB := bnd_some hB
  obtain ⟨u2q, rfl, hB⟩ := hB
  replace hB := bnd_some hB
  obtain ⟨x3q, ex3q, hB⟩ := hB
  refine r_aI f74_98 ex3q ?_
  refine r_isub f74_99 ?_
  refine r_aload_nN f74_100 rfl ?_
  replace hB := bnd_some hB
  obtain ⟨x4q, ex4q, hB⟩ := hB
  refine r_getA f74_101 fa_5_28 ex4q ?_
  refine r_iload f74_104 rfl ?_
  replace hB := bnd_some hB
  obtain ⟨u5q, rfl, hB⟩ := hB
  replace hB := bnd_some hB
  obtain ⟨x6q, ex6q, hB⟩ := hB
  refine r_aI f74_106 ex6q ?_
  refine r_iadd f74_107 ?_
  obtain ⟨y7q, hy7q⟩ : ∃ z, z = ((l3 - x3q) + x6q) := ⟨_, rfl⟩
  replace hB := nmd_at hy7q hB
  refine r_istore (L' := [.ref l0, pm_J, .int l2, .int l3, .int l4, .int l5, .int l6, .int l7, .int s0, .int y7q]) (x := y7q) f74_108 hy7q (Nat.le_of_ble_eq_true rfl) rfl ?_
  refine r_iload f74_110 rfl ?_
  by_cases c8q : s0 = 0
  · rw [if_pos c8q] at hB
    refine r_if_t (t := 136) f74_112 (by decide) c8q ?_
    exact pm_weak (L' := [.ref l0, pm_J, .int l2, .int l3, .int l4, .int l5, .int l6, .int l7, pm_J, pm_J]) ⟨.inr rfl, .inl rfl, .inr rfl, .inr rfl, .inr rfl, .inr rfl, .inr rfl, .inr rfl, .inl rfl, .inl rfl, trivial⟩ (P_X_move_136 (d := d) k_37 hk_37 k_50 hk_50 h l0 l2 l3 l4 l5 l6 l7 hB)
  · rw [if_neg c8q] at hB
    refine r_if_f 136 f74_112 (by decide) c8q ?_
    refine r_iload f74_115 rfl ?_
    refine r_iload f74_117 rfl ?_
    by_cases c9q : l4 ≤ y7q
    · rw [if_pos c9q] at hB
      refine r_ic_t (t := 136) f74_119 (by decide) c9q ?_
      exact pm_weak (L' := [.ref l0, pm_J, .int l2, .int l3, .int l4, .int l5, .int l6, .int l7, pm_J, pm_J]) ⟨.inr rfl, .inl rfl, .inr rfl, .inr rfl, .inr rfl, .inr rfl, .inr rfl, .inr rfl, .inl rfl, .inl rfl, trivial⟩ (P_X_move_136 (d := d) k_37 hk_37 k_50 hk_50 h l0 l2 l3 l4 l5 l6 l7 hB)
    · rw [if_neg c9q] at hB
      refine r_ic_f 136 f74_119 (by decide) c9q ?_
      refine r_iload f74_122 rfl ?_
      refine r_istore (L' := [.ref l0, pm_J, .int l2, .int l3, .int y7q, .int l5, .int l6, .int l7, .int s0, .int y7q]) (x := y7q) f74_124 rfl (Nat.le_of_ble_eq_true rfl) rfl ?_
      refine r_bipush f74_126 cb_100 ?_
      refine r_iload f74_128 rfl ?_
      refine r_imul f74_130 ?_
      refine r_iload f74_131 rfl ?_
      refine r_iadd f74_133 ?_
      obtain ⟨y10q, hy10q⟩ : ∃ z, z = ((100 * l6) + l7) := ⟨_, rfl⟩
      replace hB := nmd_at hy10q hB
      refine r_istore (L' := [.ref l0, pm_J, .int l2, .int l3, .int y7q, .int y10q, .int l6, .int l7, .int s0, .int y7q]) (x := y10q) f74_134 hy10q (Nat.le_of_ble_eq_true rfl) rfl ?_
      exact pm_weak (L' := [.ref l0, pm_J, .int l2, .int l3, .int y7q, .int y10q, .int l6, .int l7, pm_J, pm_J]) ⟨.inr rfl, .inl rfl, .inr rfl, .inr rfl, .inr rfl, .inr rfl, .inr rfl, .inr rfl, .inl rfl, .inl rfl, trivial⟩ (P_X_move_136 (d := d) k_37 hk_37 k_50 hk_50 h l0 l2 l3 y7q y10q l6 l7 hB)
theorem P_X_move_88 {d : Nat} {h' : pm_H} {r : Int32} (k_37 : pm_H → Nat → Int32 → Int32 → Int32 → Int32 → Int32 → Option (pm_H × Int32)) (hk_37 : ∀ (h : pm_H) (l0 : Nat) (l2 : Int32) (l3 : Int32) (l4 : Int32) (l5 : Int32) (l6 : Int32), k_37 h l0 l2 l3 l4 l5 l6 = some (h', r) → pm_run (pm_ev (d + 7)) 74 37 [.ref l0, pm_J, .int l2, .int l3, .int l4, .int l5, .int l6, pm_J, pm_J, pm_J] [] h (fun r1 h1 => r1 = some (.int r) ∧ h1 = h')) (k_50 : pm_H → Nat → Int32 → Int32 → Int32 → Int32 → Int32 → Int32 → Option (pm_H × Int32)) (hk_50 : ∀ (h : pm_H) (l0 : Nat) (l2 : Int32) (l3 : Int32) (l4 : Int32) (l5 : Int32) (l6 : Int32) (l7 : Int32), k_50 h l0 l2 l3 l4 l5 l6 l7 = some (h', r) → pm_run (pm_ev (d + 7)) 74 50 [.ref l0, pm_J, .int l2, .int l3, .int l4, .int l5, .int l6, .int l7, pm_J, pm_J] [] h (fun r1 h1 => r1 = some (.int r) ∧ h1 = h')) (h : pm_H) (l0 : Nat) (l2 : Int32) (l3 : Int32) (l4 : Int32) (l5 : Int32) (l6 : Int32) (l7 : Int32) (hB : X_move_88 k_37 k_50 h l0 l2 l3 l4 l5 l6 l7 = some (h', r)) : pm_run (pm_ev (d + 7)) 74 88 [.ref l0, pm_J, .int l2, .int l3, .int l4, .int l5, .int l6, .int l7, pm_J, pm_J] [] h (fun r1 h1 => r1 = some (.int r) ∧ h1 = h') := by
  unfold X_move_88 at hB
  refine r_iconst f74_88 ci_0 ?_
  exact pm_weak (L' := [.ref l0, pm_J, .int l2, .int l3, .int l4, .int l5, .int l6, .int l7, pm_J, pm_J]) ⟨.inr rfl, .inl rfl, .inr rfl, .inr rfl, .inr rfl, .inr rfl, .inr rfl, .inr rfl, .inl rfl, .inl rfl, trivial⟩ (P_X_move_89 (d := d) k_37 hk_37 k_50 hk_50 h l0 l2 l3 l4 l5 l6 l7 0 hB)
theorem P_X_move_50 {d : Nat} {h' : pm_H} {r : Int32} (k_37 : pm_H → Nat → Int32 → Int32 → Int32 → Int32 → Int32 → Option (pm_H × Int32)) (hk_37 : ∀ (h : pm_H) (l0 : Nat) (l2 : Int32) (l3 : Int32) (l4 : Int32) (l5 : Int32) (l6 : Int32), k_37 h l0 l2 l3 l4 l5 l6 = some (h', r) → pm_run (pm_ev (d + 7)) 74 37 [.ref l0, pm_J, .int l2, .int l3, .int l4, .int l5, .int l6, pm_J, pm_J, pm_J] [] h (fun r1 h1 => r1 = some (.int r) ∧ h1 = h')) (n : Nat) : ∀ (h : pm_H) (l0 : Nat) (l2 : Int32) (l3 : Int32) (l4 : Int32) (l5 : Int32) (l6 : Int32) (l7 : Int32), X_move_50 k_37 n h l0 l2 l3 l4 l5 l6 l7 = some (h', r) → pm_run (pm_ev (d + 7)) 74 50 [.ref l0, pm_J, .int l2, .int l3, .int l4, .int l5, .int l6, .int l7, pm_J, pm_J] [] h (fun r1 h1 => r1 = some (.int r) ∧ h1 = h') := by
  induction n with
  | zero => intro h l0 l2 l3 l4 l5 l6 l7 hB; cases hB
  | succ n ih =>
    intro h l0 l2 l3 l4 l5 l6 l7 hB
    unfold X_move_50 at hB
    refine r_iload f74_50 rfl ?_
    refine r_aload_nN f74_52 rfl ?_
    replace hB := bnd_some hB
    obtain ⟨x1q, ex1q, hB⟩ := hB
    refine r_getA f74_53 fa_5_28 ex1q ?_
    replace hB := bnd_some hB
    obtain ⟨u2q, rfl, hB⟩ := hB
    replace hB := bnd_some hB
    obtain ⟨x3q, ex3q, hB⟩ := hB
    refine r_ln f74_56 ex3q ?_
    by_cases c4q : x3q ≤ l7
    · rw [if_pos c4q] at hB
      refine r_ic_t (t := 142) f74_57 (by decide) c4q ?_
      obtain ⟨y5q, hy5q⟩ : ∃ z, z = l6 + 1 := ⟨_, rfl⟩
      replace hB := nmd_at hy5q hB
      refine r_iinc (L' := [.ref l0, pm_J, .int l2, .int l3, .int l4, .int l5, .int y5q, .int l7, pm_J, pm_J]) (x := y5q) f74_142 rfl (hy5q.trans (congrArg (l6 + ·) ci_1.symm)) rfl ?_
      refine r_goto (t := 37) f74_145 (by decide) ?_
      exact pm_weak (L' := [.ref l0, pm_J, .int l2, .int l3, .int l4, .int l5, .int y5q, pm_J, pm_J, pm_J]) ⟨.inr rfl, .inl rfl, .inr rfl, .inr rfl, .inr rfl, .inr rfl, .inr rfl, .inl rfl, .inl rfl, .inl rfl, trivial⟩ (hk_37 h l0 l2 l3 l4 l5 y5q hB)
    · rw [if_neg c4q] at hB
      refine r_ic_f 142 f74_57 (by decide) c4q ?_
      refine r_aload_nN f74_60 rfl ?_
      replace hB := bnd_some hB
      obtain ⟨x6q, ex6q, hB⟩ := hB
      refine r_getA f74_61 fa_5_45 ex6q ?_
      refine r_iload f74_64 rfl ?_
      replace hB := bnd_some hB
      obtain ⟨u7q, rfl, hB⟩ := hB
      replace hB := grd_some hB
      obtain ⟨g10q, hB⟩ := hB
      replace hB := bn2_some hB
      obtain ⟨h8q, x9q, eh8q, hB⟩ := hB
      refine r_virtV (as := [.int l6]) (q := pm_m_15) f74_66 ca_5_208 rfl rfl rfl (cs_len (Nat.le_of_ble_eq_true rfl)) g10q (P_L_hasHouse (d := d + 6) eh8q) ?_
      by_cases c11q : x9q = 0
      · rw [if_pos c11q] at hB
        refine r_if_t (t := 88) f74_69 (by decide) c11q ?_
        exact pm_weak (L' := [.ref l0, pm_J, .int l2, .int l3, .int l4, .int l5, .int l6, .int l7, pm_J, pm_J]) ⟨.inr rfl, .inl rfl, .inr rfl, .inr rfl, .inr rfl, .inr rfl, .inr rfl, .inr rfl, .inl rfl, .inl rfl, trivial⟩ (P_X_move_88 (d := d) k_37 hk_37 (X_move_50 k_37 n) ih h8q l0 l2 l3 l4 l5 l6 l7 hB)
      · rw [if_neg c11q] at hB
        refine r_if_f 88 f74_69 (by decide) c11q ?_
        refine r_aload_nN f74_72 rfl ?_
        replace hB := bnd_some hB
        obtain ⟨x12q, ex12q, hB⟩ := hB
        refine r_getA f74_73 fa_5_45 ex12q ?_
        refine r_iload f74_76 rfl ?_
        replace hB := bnd_some hB
        obtain ⟨u13q, rfl, hB⟩ := hB
        replace hB := grd_some hB
        obtain ⟨g16q, hB⟩ := hB
        replace hB := bn2_some hB
        obtain ⟨h14q, x15q, eh14q, hB⟩ := hB
        refine r_virtV (as := [.int l7]) (q := pm_m_15) f74_78 ca_5_208 rfl rfl rfl (cs_len (Nat.le_of_ble_eq_true rfl)) g16q (P_L_hasHouse (d := d + 6) eh14q) ?_
        by_cases c17q : x15q = 0
        · rw [if_pos c17q] at hB
          refine r_if_f 88 f74_81 (by decide) (fun q => q c17q) ?_
          refine r_iconst f74_84 ci_1 ?_
          refine r_goto (t := 89) f74_85 (by decide) ?_
          exact pm_weak (L' := [.ref l0, pm_J, .int l2, .int l3, .int l4, .int l5, .int l6, .int l7, pm_J, pm_J]) ⟨.inr rfl, .inl rfl, .inr rfl, .inr rfl, .inr rfl, .inr rfl, .inr rfl, .inr rfl, .inl rfl, .inl rfl, trivial⟩ (P_X_move_89 (d := d) k_37 hk_37 (X_move_50 k_37 n) ih h14q l0 l2 l3 l4 l5 l6 l7 1 hB)
        · rw [if_neg c17q] at hB
          refine r_if_t (t := 88) f74_81 (by decide) c17q ?_
          exact pm_weak (L' := [.ref l0, pm_J, .int l2, .int l3, .int l4, .int l5, .int l6, .int l7, pm_J, pm_J]) ⟨.inr rfl, .inl rfl, .inr rfl, .inr rfl, .inr rfl, .inr rfl, .inr rfl, .inr rfl, .inl rfl, .inl rfl, trivial⟩ (P_X_move_88 (d := d) k_37 hk_37 (X_move_50 k_37 n) ih h14q l0 l2 l3 l4 l5 l6 l7 hB)
theorem P_X_move_37 {d : Nat} {h' : pm_H} {r : Int32} (n : Nat) : ∀ (h : pm_H) (l0 : Nat) (l2 : Int32) (l3 : Int32) (l4 : Int32) (l5 : Int32) (l6 : Int32), X_move_37 n h l0 l2 l3 l4 l5 l6 = some (h', r) → pm_run (pm_ev (d + 7)) 74 37 [.ref l0, pm_J, .int l2, .int l3, .int l4, .int l5, .int l6, pm_J, pm_J, pm_J] [] h (fun r1 h1 => r1 = some (.int r) ∧ h1 = h') := by
  induction n with
  | zero => intro h l0 l2 l3 l4 l5 l6 hB; cases hB
  | succ n ih =>
    intro h l0 l2 l3 l4 l5 l6 hB
    unfold X_move_37 at hB
    refine r_iload f74_37 rfl ?_
    refine r_aload_nN f74_39 rfl ?_
    replace hB := bnd_some hB
    obtain ⟨x1q, ex1q, hB⟩ := hB
    refine r_getA f74_40 fa_5_28 ex1q ?_
    replace hB := bnd_some hB
    obtain ⟨u2q, rfl, hB⟩ := hB
    replace hB := bnd_some hB
    obtain ⟨x3q, ex3q, hB⟩ := hB
    refine r_ln f74_43 ex3q ?_
    by_cases c4q : x3q ≤ l6
    · rw [if_pos c4q] at hB
      refine r_ic_t (t := 148) f74_44 (by decide) c4q ?_
      refine r_iload_n f74_148 rfl ?_
      by_cases c5q : l2 = 0
      · rw [if_pos c5q] at hB
        refine r_if_f 157 f74_149 (by decide) (fun q => q c5q) ?_
        refine r_iload f74_152 rfl ?_
        refine r_goto (t := 159) f74_154 (by decide) ?_
        exact r_iret pm_m_74 .int f74_159 rfl rfl rfl (zI hB)
      · rw [if_neg c5q] at hB
        refine r_if_t (t := 157) f74_149 (by decide) c5q ?_
        refine r_iload f74_157 rfl ?_
        exact r_iret pm_m_74 .int f74_159 rfl rfl rfl (zI hB)
    · rw [if_neg c4q] at hB
      refine r_ic_f 148 f74_44 (by decide) c4q ?_
      refine r_iconst f74_47 ci_0 ?_
      refine r_istore (L' := [.ref l0, pm_J, .int l2, .int l3, .int l4, .int l5, .int l6, .int 0, pm_J, pm_J]) (x := 0) f74_48 rfl (Nat.le_of_ble_eq_true rfl) rfl ?_
      exact pm_weak (L' := [.ref l0, pm_J, .int l2, .int l3, .int l4, .int l5, .int l6, .int 0, pm_J, pm_J]) ⟨.inr rfl, .inl rfl, .inr rfl, .inr rfl, .inr rfl, .inr rfl, .inr rfl, .inr rfl, .inl rfl, .inl rfl, trivial⟩ (P_X_move_50 (d := d) (X_move_37 n) ih 1000 h l0 l2 l3 l4 l5 l6 0 hB)
theorem P_X_move {d : Nat} {h h' : pm_H} {r : Int32} {t : Nat} {a1 : Int32} {a2 : Int32} (hB : X_move h t a1 a2 = some (h', r)) : pm_ev (d + 8) 74 [.ref t, .int a1, .int a2] h (some (.int r)) h' := by
  unfold X_move at hB
  refine pm_ev_mk (L := [.ref t, .int a1, .int a2, pm_J, pm_J, pm_J, pm_J, pm_J, pm_J, pm_J]) pm_m_74 rfl (Nat.le_of_ble_eq_true rfl) rfl ?_
  refine r_iload_n f74_0 rfl ?_
  refine r_iconst f74_1 ci_0 ?_
  refine r_bipush f74_2 cb_20 ?_
  replace hB := bn2_some hB
  obtain ⟨h1q, x2q, eh1q, hB⟩ := hB
  refine r_statV (as := [.int a1, .int 0, .int 20]) (q := pm_m_92) f74_4 ca_5_90 rfl (by decide) rfl rfl (cs_len (Nat.le_of_ble_eq_true rfl)) (P_X_within (d := d + 6) eh1q) ?_
  by_cases c3q : x2q = 0
  · rw [if_pos c3q] at hB
    refine r_if_t (t := 19) f74_7 (by decide) c3q ?_
    refine r_bipush f74_19 cb_m2 ?_
    exact r_iret pm_m_74 .int f74_21 rfl rfl rfl (zI hB)
  · rw [if_neg c3q] at hB
    refine r_if_f 19 f74_7 (by decide) c3q ?_
    refine r_iload_n f74_10 rfl ?_
    refine r_iconst f74_11 ci_0 ?_
    refine r_iconst f74_12 ci_1 ?_
    replace hB := bn2_some hB
    obtain ⟨h4q, x5q, eh4q, hB⟩ := hB
    refine r_statV (as := [.int a2, .int 0, .int 1]) (q := pm_m_92) f74_13 ca_5_90 rfl (by decide) rfl rfl (cs_len (Nat.le_of_ble_eq_true rfl)) (P_X_within (d := d + 6) eh4q) ?_
    by_cases c6q : x5q = 0
    · rw [if_pos c6q] at hB
      refine r_if_f 22 f74_16 (by decide) (fun q => q c6q) ?_
      refine r_bipush f74_19 cb_m2 ?_
      exact r_iret pm_m_74 .int f74_21 rfl rfl rfl (zI hB)
    · rw [if_neg c6q] at hB
      refine r_if_t (t := 22) f74_16 (by decide) c6q ?_
      refine r_aload_nN f74_22 rfl ?_
      refine r_iload_n f74_23 rfl ?_
      replace hB := grd_some hB
      obtain ⟨g9q, hB⟩ := hB
      replace hB := bn2_some hB
      obtain ⟨h7q, x8q, eh7q, hB⟩ := hB
      refine r_virtV (as := [.int a1]) (q := pm_m_102) f74_24 ca_5_205 rfl rfl rfl (cs_len (Nat.le_of_ble_eq_true rfl)) g9q (P_X_countYearsUnder (d := d + 0) eh7q) ?_
      refine r_istore_n (L' := [.ref t, .int a1, .int a2, .int x8q, pm_J, pm_J, pm_J, pm_J, pm_J, pm_J]) (x := x8q) f74_27 rfl (Nat.le_of_ble_eq_true rfl) rfl ?_
      refine r_iload_n f74_28 rfl ?_
      refine r_istore (L' := [.ref t, .int a1, .int a2, .int x8q, .int x8q, pm_J, pm_J, pm_J, pm_J, pm_J]) (x := x8q) f74_29 rfl (Nat.le_of_ble_eq_true rfl) rfl ?_
      refine r_iconst f74_31 ci_m1 ?_
      refine r_istore (L' := [.ref t, .int a1, .int a2, .int x8q, .int x8q, .int (-1), pm_J, pm_J, pm_J, pm_J]) (x := (-1)) f74_32 rfl (Nat.le_of_ble_eq_true rfl) rfl ?_
      refine r_iconst f74_34 ci_0 ?_
      refine r_istore (L' := [.ref t, .int a1, .int a2, .int x8q, .int x8q, .int (-1), .int 0, pm_J, pm_J, pm_J]) (x := 0) f74_35 rfl (Nat.le_of_ble_eq_true rfl) rfl ?_
      exact pm_weak (L' := [.ref t, pm_J, .int a2, .int x8q, .int x8q, .int (-1), .int 0, pm_J, pm_J, pm_J]) ⟨.inr rfl, .inl rfl, .inr rfl, .inr rfl, .inr rfl, .inr rfl, .inr rfl, .inl rfl, .inl rfl, .inl rfl, trivial⟩ (P_X_move_37 (d := d) 1000 h7q t a2 x8q x8q (-1) 0 hB)
theorem P_X_hold_110 {d : Nat} {h' : pm_H} {r : Int32} (k_45 : pm_H → Nat → Int32 → Int32 → Int32 → Int32 → Int32 → Option (pm_H × Int32)) (hk_45 : ∀ (h : pm_H) (l0 : Nat) (l1 : Int32) (l2 : Int32) (l3 : Int32) (l4 : Int32) (l5 : Int32), k_45 h l0 l1 l2 l3 l4 l5 = some (h', r) → pm_run (pm_ev (d + 6)) 75 45 [.ref l0, .int l1, .int l2, .int l3, .int l4, .int l5, pm_J, pm_J] [] h (fun r1 h1 => r1 = some (.int r) ∧ h1 = h')) (h : pm_H) (l0 : Nat) (l1 : Int32) (l2 : Int32) (l3 : Int32) (l4 : Int32) (l5 : Int32) (hB : X_hold_110 k_45 h l0 l1 l2 l3 l4 l5 = some (h', r)) : pm_run (pm_ev (d + 6)) 75 110 [.ref l0, .int l1, .int l2, .int l3, .int l4, .int l5, pm_J, pm_J] [] h (fun r1 h1 => r1 = some (.int r) ∧ h1 = h') := by
  unfold X_hold_110 at hB
  obtain ⟨y1q, hy1q⟩ : ∃ z, z = l5 + 1 := ⟨_, rfl⟩
  replace hB := nmd_at hy1q hB
  refine r_iinc (L' := [.ref l0, .int l1, .int l2, .int l3, .int l4, .int y1q, pm_J, pm_J]) (x := y1q) f75_110 rfl (hy1q.trans (congrArg (l5 + ·) ci_1.symm)) rfl ?_
  refine r_goto (t := 45) f75_113 (by decide) ?_
  exact pm_weak (L' := [.ref l0, .int l1, .int l2, .int l3, .int l4, .int y1q, pm_J, pm_J]) ⟨.inr rfl, .inr rfl, .inr rfl, .inr rfl, .inr rfl, .inr rfl, .inl rfl, .inl rfl, trivial⟩ (hk_45 h l0 l1 l2 l3 l4 y1q hB)
theorem P_X_hold_45 {d : Nat} {h' : pm_H} {r : Int32} (n : Nat) : ∀ (h : pm_H) (l0 : Nat) (l1 : Int32) (l2 : Int32) (l3 : Int32) (l4 : Int32) (l5 : Int32), X_hold_45 n h l0 l1 l2 l3 l4 l5 = some (h', r) → pm_run (pm_ev (d + 6)) 75 45 [.ref l0, .int l1, .int l2, .int l3, .int l4, .int l5, pm_J, pm_J] [] h (fun r1 h1 => r1 = some (.int r) ∧ h1 = h') := by
  induction n with
  | zero => intro h l0 l1 l2 l3 l4 l5 hB; cases hB
  | succ n ih =>
    intro h l0 l1 l2 l3 l4 l5 hB
    unfold X_hold_45 at hB
    refine r_iload f75_45 rfl ?_
    refine r_aload_nN f75_47 rfl ?_
    replace hB := bnd_some hB
    obtain ⟨x1q, ex1q, hB⟩ := hB
    refine r_getA f75_48 fa_5_45 ex1q ?_
    replace hB := bnd_some hB
    obtain ⟨u2q, rfl, hB⟩ := hB
    replace hB := bnd_some hB
    obtain ⟨x3q, ex3q, hB⟩ := hB
    refine r_getI f75_51 fa_5_52 ex3q ?_
    by_cases c4q : x3q ≤ l5
    · rw [if_pos c4q] at hB
      refine r_ic_t (t := 116) f75_54 (by decide) c4q ?_
      refine r_iload_n f75_116 rfl ?_
      by_cases c5q : l2 = 0
      · rw [if_pos c5q] at hB
        refine r_if_f 125 f75_117 (by decide) (fun q => q c5q) ?_
        refine r_iload f75_120 rfl ?_
        refine r_goto (t := 126) f75_122 (by decide) ?_
        exact r_iret pm_m_75 .int f75_126 rfl rfl rfl (zI hB)
      · rw [if_neg c5q] at hB
        refine r_if_t (t := 125) f75_117 (by decide) c5q ?_
        refine r_iload_n f75_125 rfl ?_
        exact r_iret pm_m_75 .int f75_126 rfl rfl rfl (zI hB)
    · rw [if_neg c4q] at hB
      refine r_ic_f 116 f75_54 (by decide) c4q ?_
      refine r_aload_nN f75_57 rfl ?_
      replace hB := bnd_some hB
      obtain ⟨x6q, ex6q, hB⟩ := hB
      refine r_getA f75_58 fa_5_49 ex6q ?_
      refine r_aload_nN f75_61 rfl ?_
      replace hB := bnd_some hB
      obtain ⟨x7q, ex7q, hB⟩ := hB
      refine r_getA f75_62 fa_5_45 ex7q ?_
      replace hB := bnd_some hB
      obtain ⟨u8q, rfl, hB⟩ := hB
      replace hB := grd_some hB
      obtain ⟨g11q, hB⟩ := hB
      replace hB := bn2_some hB
      obtain ⟨h9q, _, eh9q, hB⟩ := hB
      refine r_virtN (as := [va_rf x7q]) (q := pm_m_10) f75_65 ca_5_186 rfl rfl rfl (cs_len (Nat.le_of_ble_eq_true rfl)) g11q (P_L_become (d := d + 4) eh9q) ?_
      refine r_aload_nN f75_68 rfl ?_
      replace hB := bnd_some hB
      obtain ⟨x12q, ex12q, hB⟩ := hB
      refine r_getA f75_69 fa_5_49 ex12q ?_
      refine r_iload f75_72 rfl ?_
      replace hB := bnd_some hB
      obtain ⟨u13q, rfl, hB⟩ := hB
      replace hB := grd_some hB
      obtain ⟨g16q, hB⟩ := hB
      replace hB := bn2_some hB
      obtain ⟨h14q, x15q, eh14q, hB⟩ := hB
      refine r_virtV (as := [.int l5]) (q := pm_m_11) f75_74 ca_5_120 rfl rfl rfl (cs_len (Nat.le_of_ble_eq_true rfl)) g16q (P_L_standing (d := d + 5) eh14q) ?_
      refine r_astore (L' := [.ref l0, .int l1, .int l2, .int l3, .int l4, .int l5, va_rf x15q, pm_J]) f75_77 (Nat.le_of_ble_eq_true rfl) rfl ?_
      refine r_aload f75_79 rfl ?_
      cases x15q with
      | none =>
        refine r_in_t (t := 110) f75_81 (by decide) rfl ?_
        exact pm_weak (L' := [.ref l0, .int l1, .int l2, .int l3, .int l4, .int l5, pm_J, pm_J]) ⟨.inr rfl, .inr rfl, .inr rfl, .inr rfl, .inr rfl, .inr rfl, .inl rfl, .inl rfl, trivial⟩ (P_X_hold_110 (d := d) (X_hold_45 n) ih h14q l0 l1 l2 l3 l4 l5 hB)
      | some u18q =>
        refine r_in_f 110 (r := some u18q) f75_81 (by decide) (by simp) ?_
        dsimp only at hB
        refine r_aloadN f75_84 rfl ?_
        refine r_iconst f75_86 ci_1 ?_
        replace hB := bnd_some hB
        obtain ⟨h19q, eh19q, hB⟩ := hB
        refine r_put f75_87 fa_5_148 ty_0_6 (bool_n (by decide)) (bool_f (by decide)) (no_fin (nf_0_6)) eh19q ?_
        refine r_aload_nN f75_90 rfl ?_
        refine r_iload_n f75_91 rfl ?_
        replace hB := grd_some hB
        obtain ⟨g22q, hB⟩ := hB
        replace hB := bn2_some hB
        obtain ⟨h20q, x21q, eh20q, hB⟩ := hB
        refine r_virtV (as := [.int l1]) (q := pm_m_101) f75_92 ca_5_190 rfl rfl rfl (cs_len (Nat.le_of_ble_eq_true rfl)) g22q (P_X_passInThought (d := d + 0) eh20q) ?_
        refine r_istore (L' := [.ref l0, .int l1, .int l2, .int l3, .int l4, .int l5, .ref u18q, .int x21q]) (x := x21q) f75_95 rfl (Nat.le_of_ble_eq_true rfl) rfl ?_
        refine r_iload f75_97 rfl ?_
        refine r_iload_n f75_99 rfl ?_
        by_cases c23q : l3 ≤ x21q
        · rw [if_pos c23q] at hB
          refine r_ic_t (t := 110) f75_100 (by decide) c23q ?_
          exact pm_weak (L' := [.ref l0, .int l1, .int l2, .int l3, .int l4, .int l5, pm_J, pm_J]) ⟨.inr rfl, .inr rfl, .inr rfl, .inr rfl, .inr rfl, .inr rfl, .inl rfl, .inl rfl, trivial⟩ (P_X_hold_110 (d := d) (X_hold_45 n) ih h20q l0 l1 l2 l3 l4 l5 hB)
        · rw [if_neg c23q] at hB
          refine r_ic_f 110 f75_100 (by decide) c23q ?_
          refine r_iload f75_103 rfl ?_
          refine r_istore_n (L' := [.ref l0, .int l1, .int l2, .int x21q, .int l4, .int l5, .ref u18q, .int x21q]) (x := x21q) f75_105 rfl (Nat.le_of_ble_eq_true rfl) rfl ?_
          refine r_iload f75_106 rfl ?_
          refine r_istore (L' := [.ref l0, .int l1, .int l2, .int x21q, .int l5, .int l5, .ref u18q, .int x21q]) (x := l5) f75_108 rfl (Nat.le_of_ble_eq_true rfl) rfl ?_
          exact pm_weak (L' := [.ref l0, .int l1, .int l2, .int x21q, .int l5, .int l5, pm_J, pm_J]) ⟨.inr rfl, .inr rfl, .inr rfl, .inr rfl, .inr rfl, .inr rfl, .inl rfl, .inl rfl, trivial⟩ (P_X_hold_110 (d := d) (X_hold_45 n) ih h20q l0 l1 l2 x21q l5 l5 hB)
theorem P_X_hold {d : Nat} {h h' : pm_H} {r : Int32} {t : Nat} {a1 : Int32} {a2 : Int32} (hB : X_hold h t a1 a2 = some (h', r)) : pm_ev (d + 7) 75 [.ref t, .int a1, .int a2] h (some (.int r)) h' := by
  unfold X_hold at hB
  refine pm_ev_mk (L := [.ref t, .int a1, .int a2, pm_J, pm_J, pm_J, pm_J, pm_J]) pm_m_75 rfl (Nat.le_of_ble_eq_true rfl) rfl ?_
  refine r_iload_n f75_0 rfl ?_
  refine r_iconst f75_1 ci_0 ?_
  refine r_bipush f75_2 cb_40 ?_
  replace hB := bn2_some hB
  obtain ⟨h1q, x2q, eh1q, hB⟩ := hB
  refine r_statV (as := [.int a1, .int 0, .int 40]) (q := pm_m_92) f75_4 ca_5_90 rfl (by decide) rfl rfl (cs_len (Nat.le_of_ble_eq_true rfl)) (P_X_within (d := d + 5) eh1q) ?_
  by_cases c3q : x2q = 0
  · rw [if_pos c3q] at hB
    refine r_if_t (t := 19) f75_7 (by decide) c3q ?_
    refine r_bipush f75_19 cb_m2 ?_
    exact r_iret pm_m_75 .int f75_21 rfl rfl rfl (zI hB)
  · rw [if_neg c3q] at hB
    refine r_if_f 19 f75_7 (by decide) c3q ?_
    refine r_iload_n f75_10 rfl ?_
    refine r_iconst f75_11 ci_0 ?_
    refine r_iconst f75_12 ci_1 ?_
    replace hB := bn2_some hB
    obtain ⟨h4q, x5q, eh4q, hB⟩ := hB
    refine r_statV (as := [.int a2, .int 0, .int 1]) (q := pm_m_92) f75_13 ca_5_90 rfl (by decide) rfl rfl (cs_len (Nat.le_of_ble_eq_true rfl)) (P_X_within (d := d + 5) eh4q) ?_
    by_cases c6q : x5q = 0
    · rw [if_pos c6q] at hB
      refine r_if_f 22 f75_16 (by decide) (fun q => q c6q) ?_
      refine r_bipush f75_19 cb_m2 ?_
      exact r_iret pm_m_75 .int f75_21 rfl rfl rfl (zI hB)
    · rw [if_neg c6q] at hB
      refine r_if_t (t := 22) f75_16 (by decide) c6q ?_
      refine r_aload_nN f75_22 rfl ?_
      replace hB := bnd_some hB
      obtain ⟨x7q, ex7q, hB⟩ := hB
      refine r_getA f75_23 fa_5_49 ex7q ?_
      refine r_aload_nN f75_26 rfl ?_
      replace hB := bnd_some hB
      obtain ⟨x8q, ex8q, hB⟩ := hB
      refine r_getA f75_27 fa_5_45 ex8q ?_
      replace hB := bnd_some hB
      obtain ⟨u9q, rfl, hB⟩ := hB
      replace hB := grd_some hB
      obtain ⟨g12q, hB⟩ := hB
      replace hB := bn2_some hB
      obtain ⟨h10q, _, eh10q, hB⟩ := hB
      refine r_virtN (as := [va_rf x8q]) (q := pm_m_10) f75_30 ca_5_186 rfl rfl rfl (cs_len (Nat.le_of_ble_eq_true rfl)) g12q (P_L_become (d := d + 4) eh10q) ?_
      refine r_aload_nN f75_33 rfl ?_
      refine r_iload_n f75_34 rfl ?_
      replace hB := grd_some hB
      obtain ⟨g15q, hB⟩ := hB
      replace hB := bn2_some hB
      obtain ⟨h13q, x14q, eh13q, hB⟩ := hB
      refine r_virtV (as := [.int a1]) (q := pm_m_101) f75_35 ca_5_190 rfl rfl rfl (cs_len (Nat.le_of_ble_eq_true rfl)) g15q (P_X_passInThought (d := d + 0) eh13q) ?_
      refine r_istore_n (L' := [.ref t, .int a1, .int a2, .int x14q, pm_J, pm_J, pm_J, pm_J]) (x := x14q) f75_38 rfl (Nat.le_of_ble_eq_true rfl) rfl ?_
      refine r_iconst f75_39 ci_m1 ?_
      refine r_istore (L' := [.ref t, .int a1, .int a2, .int x14q, .int (-1), pm_J, pm_J, pm_J]) (x := (-1)) f75_40 rfl (Nat.le_of_ble_eq_true rfl) rfl ?_
      refine r_iconst f75_42 ci_0 ?_
      refine r_istore (L' := [.ref t, .int a1, .int a2, .int x14q, .int (-1), .int 0, pm_J, pm_J]) (x := 0) f75_43 rfl (Nat.le_of_ble_eq_true rfl) rfl ?_
      exact pm_weak (L' := [.ref t, .int a1, .int a2, .int x14q, .int (-1), .int 0, pm_J, pm_J]) ⟨.inr rfl, .inr rfl, .inr rfl, .inr rfl, .inr rfl, .inr rfl, .inl rfl, .inl rfl, trivial⟩ (P_X_hold_45 (d := d) 1000 h13q t a1 a2 x14q (-1) 0 hB)
theorem P_X_inLowestTerms_28 {d : Nat} {h' : pm_H} {r : Int64} (k_5 : pm_H → Int32 → Int32 → Int32 → Int32 → Int32 → Option (pm_H × Int64)) (hk_5 : ∀ (h : pm_H) (l0 : Int32) (l1 : Int32) (l2 : Int32) (l3 : Int32) (l4 : Int32), k_5 h l0 l1 l2 l3 l4 = some (h', r) → pm_run (pm_ev (d + 0)) 107 5 [.int l0, .int l1, .int l2, .int l3, .int l4] [] h (fun r1 h1 => r1 = some (.long r) ∧ h1 = h')) (h : pm_H) (l0 : Int32) (l1 : Int32) (l2 : Int32) (l3 : Int32) (l4 : Int32) (hB : X_inLowestTerms_28 k_5 h l0 l1 l2 l3 l4 = some (h', r)) : pm_run (pm_ev (d + 0)) 107 28 [.int l0, .int l1, .int l2, .int l3, .int l4] [] h (fun r1 h1 => r1 = some (.long r) ∧ h1 = h') := by
  unfold X_inLowestTerms_28 at hB
  obtain ⟨y1q, hy1q⟩ : ∃ z, z = l4 + 1 := ⟨_, rfl⟩
  replace hB := nmd_at hy1q hB
  refine r_iinc (L' := [.int l0, .int l1, .int l2, .int l3, .int y1q]) (x := y1q) f107_28 rfl (hy1q.trans (congrArg (l4 + ·) ci_1.symm)) rfl ?_
  refine r_goto (t := 5) f107_31 (by decide) ?_
  exact pm_weak (L' := [.int l0, .int l1, .int l2, .int l3, .int y1q]) ⟨.inr rfl, .inr rfl, .inr rfl, .inr rfl, .inr rfl, trivial⟩ (hk_5 h l0 l1 l2 l3 y1q hB)
theorem P_X_inLowestTerms_5 {d : Nat} {h' : pm_H} {r : Int64} (n : Nat) : ∀ (h : pm_H) (l0 : Int32) (l1 : Int32) (l2 : Int32) (l3 : Int32) (l4 : Int32), X_inLowestTerms_5 n h l0 l1 l2 l3 l4 = some (h', r) → pm_run (pm_ev (d + 0)) 107 5 [.int l0, .int l1, .int l2, .int l3, .int l4] [] h (fun r1 h1 => r1 = some (.long r) ∧ h1 = h') := by
  induction n with
  | zero => intro h l0 l1 l2 l3 l4 hB; cases hB
  | succ n ih =>
    intro h l0 l1 l2 l3 l4 hB
    unfold X_inLowestTerms_5 at hB
    refine r_iload f107_5 rfl ?_
    refine r_iload_n f107_7 rfl ?_
    by_cases c1q : l1 < l4
    · rw [if_pos c1q] at hB
      refine r_ic_t (t := 34) f107_8 (by decide) c1q ?_
      refine r_iload_n f107_34 rfl ?_
      by_cases c2q : l2 = 0
      · rw [if_pos c2q] at hB
        refine r_if_f 42 f107_35 (by decide) (fun q => q c2q) ?_
        refine r_iload_n f107_38 rfl ?_
        refine r_goto (t := 43) f107_39 (by decide) ?_
        refine r_iload_n f107_43 rfl ?_
        replace hB := grd_some hB
        obtain ⟨z4q, hB⟩ := hB
        refine r_idiv f107_44 (of_decide_eq_false (by simpa using z4q)) ?_
        refine r_i2l f107_45 ?_
        exact r_lret pm_m_107 f107_46 rfl rfl (zJ hB)
      · rw [if_neg c2q] at hB
        refine r_if_t (t := 42) f107_35 (by decide) c2q ?_
        refine r_iload_n f107_42 rfl ?_
        refine r_iload_n f107_43 rfl ?_
        replace hB := grd_some hB
        obtain ⟨z3q, hB⟩ := hB
        refine r_idiv f107_44 (of_decide_eq_false (by simpa using z3q)) ?_
        refine r_i2l f107_45 ?_
        exact r_lret pm_m_107 f107_46 rfl rfl (zJ hB)
    · rw [if_neg c1q] at hB
      refine r_ic_f 34 f107_8 (by decide) c1q ?_
      refine r_iload_n f107_11 rfl ?_
      refine r_iload f107_12 rfl ?_
      replace hB := grd_some hB
      obtain ⟨z5q, hB⟩ := hB
      refine r_irem f107_14 (of_decide_eq_false (by simpa using z5q)) ?_
      by_cases c6q : (l0 - l0 / l4 * l4) = 0
      · rw [if_pos c6q] at hB
        refine r_if_f 28 f107_15 (by decide) (fun q => q c6q) ?_
        refine r_iload_n f107_18 rfl ?_
        refine r_iload f107_19 rfl ?_
        replace hB := grd_some hB
        obtain ⟨z7q, hB⟩ := hB
        refine r_irem f107_21 (of_decide_eq_false (by simpa using z7q)) ?_
        by_cases c8q : (l1 - l1 / l4 * l4) = 0
        · rw [if_pos c8q] at hB
          refine r_if_f 28 f107_22 (by decide) (fun q => q c8q) ?_
          refine r_iload f107_25 rfl ?_
          refine r_istore_n (L' := [.int l0, .int l1, .int l2, .int l4, .int l4]) (x := l4) f107_27 rfl (Nat.le_of_ble_eq_true rfl) rfl ?_
          exact pm_weak (L' := [.int l0, .int l1, .int l2, .int l4, .int l4]) ⟨.inr rfl, .inr rfl, .inr rfl, .inr rfl, .inr rfl, trivial⟩ (P_X_inLowestTerms_28 (d := d) (X_inLowestTerms_5 n) ih h l0 l1 l2 l4 l4 hB)
        · rw [if_neg c8q] at hB
          refine r_if_t (t := 28) f107_22 (by decide) c8q ?_
          exact pm_weak (L' := [.int l0, .int l1, .int l2, .int l3, .int l4]) ⟨.inr rfl, .inr rfl, .inr rfl, .inr rfl, .inr rfl, trivial⟩ (P_X_inLowestTerms_28 (d := d) (X_inLowestTerms_5 n) ih h l0 l1 l2 l3 l4 hB)
      · rw [if_neg c6q] at hB
        refine r_if_t (t := 28) f107_15 (by decide) c6q ?_
        exact pm_weak (L' := [.int l0, .int l1, .int l2, .int l3, .int l4]) ⟨.inr rfl, .inr rfl, .inr rfl, .inr rfl, .inr rfl, trivial⟩ (P_X_inLowestTerms_28 (d := d) (X_inLowestTerms_5 n) ih h l0 l1 l2 l3 l4 hB)
theorem P_X_inLowestTerms {d : Nat} {h h' : pm_H} {r : Int64} {a0 : Int32} {a1 : Int32} {a2 : Int32} (hB : X_inLowestTerms h a0 a1 a2 = some (h', r)) : pm_ev (d + 1) 107 [.int a0, .int a1, .int a2] h (some (.long r)) h' := by
  unfold X_inLowestTerms at hB
  refine pm_ev_mk (L := [.int a0, .int a1, .int a2, pm_J, pm_J]) pm_m_107 rfl (Nat.le_of_ble_eq_true rfl) rfl ?_
  refine r_iconst f107_0 ci_1 ?_
  refine r_istore_n (L' := [.int a0, .int a1, .int a2, .int 1, pm_J]) (x := 1) f107_1 rfl (Nat.le_of_ble_eq_true rfl) rfl ?_
  refine r_iconst f107_2 ci_2 ?_
  refine r_istore (L' := [.int a0, .int a1, .int a2, .int 1, .int 2]) (x := 2) f107_3 rfl (Nat.le_of_ble_eq_true rfl) rfl ?_
  exact pm_weak (L' := [.int a0, .int a1, .int a2, .int 1, .int 2]) ⟨.inr rfl, .inr rfl, .inr rfl, .inr rfl, .inr rfl, trivial⟩ (P_X_inLowestTerms_5 (d := d) 1000 h a0 a1 a2 1 2 hB)
theorem P_X_share {d : Nat} {h h' : pm_H} {r : Int64} {t : Nat} {a1 : Int32} {a2 : Int32} (hB : X_share h t a1 a2 = some (h', r)) : pm_ev (d + 7) 76 [.ref t, .int a1, .int a2] h (some (.long r)) h' := by
  unfold X_share at hB
  refine pm_ev_mk (L := [.ref t, .int a1, .int a2]) pm_m_76 rfl (Nat.le_of_ble_eq_true rfl) rfl ?_
  refine r_iload_n f76_0 rfl ?_
  refine r_iconst f76_1 ci_0 ?_
  refine r_bipush f76_2 cb_40 ?_
  replace hB := bn2_some hB
  obtain ⟨h1q, x2q, eh1q, hB⟩ := hB
  refine r_statV (as := [.int a1, .int 0, .int 40]) (q := pm_m_92) f76_4 ca_5_90 rfl (by decide) rfl rfl (cs_len (Nat.le_of_ble_eq_true rfl)) (P_X_within (d := d + 5) eh1q) ?_
  by_cases c3q : x2q = 0
  · rw [if_pos c3q] at hB
    refine r_if_t (t := 31) f76_7 (by decide) c3q ?_
    refine r_ldc2_w (v := (-4611686018427387904)) (p := 305) f76_31 rfl ?_
    exact r_lret pm_m_76 f76_34 rfl rfl (zJ hB)
  · rw [if_neg c3q] at hB
    refine r_if_f 31 f76_7 (by decide) c3q ?_
    refine r_iload_n f76_10 rfl ?_
    refine r_iconst f76_11 ci_0 ?_
    refine r_iconst f76_12 ci_1 ?_
    replace hB := bn2_some hB
    obtain ⟨h4q, x5q, eh4q, hB⟩ := hB
    refine r_statV (as := [.int a2, .int 0, .int 1]) (q := pm_m_92) f76_13 ca_5_90 rfl (by decide) rfl rfl (cs_len (Nat.le_of_ble_eq_true rfl)) (P_X_within (d := d + 5) eh4q) ?_
    by_cases c6q : x5q = 0
    · rw [if_pos c6q] at hB
      refine r_if_t (t := 31) f76_16 (by decide) c6q ?_
      refine r_ldc2_w (v := (-4611686018427387904)) (p := 305) f76_31 rfl ?_
      exact r_lret pm_m_76 f76_34 rfl rfl (zJ hB)
    · rw [if_neg c6q] at hB
      refine r_if_f 31 f76_16 (by decide) c6q ?_
      refine r_aload_nN f76_19 rfl ?_
      replace hB := bnd_some hB
      obtain ⟨x7q, ex7q, hB⟩ := hB
      refine r_getA f76_20 fa_5_45 ex7q ?_
      replace hB := bnd_some hB
      obtain ⟨u8q, rfl, hB⟩ := hB
      replace hB := bnd_some hB
      obtain ⟨x9q, ex9q, hB⟩ := hB
      refine r_getJ f76_23 fa_5_68 ex9q ?_
      refine r_lconst f76_26 cl_0 ?_
      refine r_lcmp f76_27 ?_
      by_cases c10q : (lg_cmp x9q 0) = 0
      · rw [if_pos c10q] at hB
        refine r_if_f 35 f76_28 (by decide) (fun q => q c10q) ?_
        refine r_ldc2_w (v := (-4611686018427387904)) (p := 305) f76_31 rfl ?_
        exact r_lret pm_m_76 f76_34 rfl rfl (zJ hB)
      · rw [if_neg c10q] at hB
        refine r_if_t (t := 35) f76_28 (by decide) c10q ?_
        refine r_aload_nN f76_35 rfl ?_
        replace hB := bnd_some hB
        obtain ⟨x11q, ex11q, hB⟩ := hB
        refine r_getA f76_36 fa_5_49 ex11q ?_
        refine r_aload_nN f76_39 rfl ?_
        replace hB := bnd_some hB
        obtain ⟨x12q, ex12q, hB⟩ := hB
        refine r_getA f76_40 fa_5_45 ex12q ?_
        replace hB := bnd_some hB
        obtain ⟨u13q, rfl, hB⟩ := hB
        replace hB := grd_some hB
        obtain ⟨g16q, hB⟩ := hB
        replace hB := bn2_some hB
        obtain ⟨h14q, _, eh14q, hB⟩ := hB
        refine r_virtN (as := [va_rf x12q]) (q := pm_m_10) f76_43 ca_5_186 rfl rfl rfl (cs_len (Nat.le_of_ble_eq_true rfl)) g16q (P_L_become (d := d + 4) eh14q) ?_
        refine r_aload_nN f76_46 rfl ?_
        refine r_iload_n f76_47 rfl ?_
        replace hB := grd_some hB
        obtain ⟨g19q, hB⟩ := hB
        replace hB := bn2_some hB
        obtain ⟨h17q, x18q, eh17q, hB⟩ := hB
        refine r_virtV (as := [.int a1]) (q := pm_m_101) f76_48 ca_5_190 rfl rfl rfl (cs_len (Nat.le_of_ble_eq_true rfl)) g19q (P_X_passInThought (d := d + 0) eh17q) ?_
        refine r_popI f76_51 ?_
        refine r_aload_nN f76_52 rfl ?_
        replace hB := bnd_some hB
        obtain ⟨x20q, ex20q, hB⟩ := hB
        refine r_getA f76_53 fa_5_49 ex20q ?_
        replace hB := bnd_some hB
        obtain ⟨u21q, rfl, hB⟩ := hB
        replace hB := grd_some hB
        obtain ⟨g24q, hB⟩ := hB
        replace hB := bn2_some hB
        obtain ⟨h22q, x23q, eh22q, hB⟩ := hB
        refine r_virtV (as := []) (q := pm_m_14) f76_56 ca_5_193 rfl rfl rfl (cs_len (Nat.le_of_ble_eq_true rfl)) g24q (P_L_buried (d := d + 3) eh22q) ?_
        refine r_aload_nN f76_59 rfl ?_
        replace hB := bnd_some hB
        obtain ⟨x25q, ex25q, hB⟩ := hB
        refine r_getA f76_60 fa_5_45 ex25q ?_
        replace hB := bnd_some hB
        obtain ⟨u26q, rfl, hB⟩ := hB
        replace hB := bnd_some hB
        obtain ⟨x27q, ex27q, hB⟩ := hB
        refine r_getJ f76_63 fa_5_68 ex27q ?_
        replace hB := bn2_some hB
        obtain ⟨h28q, x29q, eh28q, hB⟩ := hB
        refine r_statV (as := [.long x27q]) (q := pm_m_185) f76_66 ca_5_72 rfl (by decide) rfl rfl (cs_len (Nat.le_of_ble_eq_true rfl)) (P_Jl_bitCount (d := d + 5) eh28q) ?_
        refine r_iload_n f76_69 rfl ?_
        replace hB := bn2_some hB
        obtain ⟨h30q, x31q, eh30q, hB⟩ := hB
        refine r_statV (as := [.int x23q, .int x29q, .int a2]) (q := pm_m_107) f76_70 ca_5_211 rfl (by decide) rfl rfl (cs_len (Nat.le_of_ble_eq_true rfl)) (P_X_inLowestTerms (d := d + 5) eh30q) ?_
        exact r_lret pm_m_76 f76_73 rfl rfl (zJ hB)
theorem P_X_sheetAt {d : Nat} {h h' : pm_H} {r : Option Nat} {t : Nat} {a1 : Int32} (hB : X_sheetAt h t a1 = some (h', r)) : pm_ev (d + 1) 98 [.ref t, .int a1] h (some (va_rf r)) h' := by
  unfold X_sheetAt at hB
  refine pm_ev_mk (L := [.ref t, .int a1]) pm_m_98 rfl (Nat.le_of_ble_eq_true rfl) rfl ?_
  refine r_iload_n f98_0 rfl ?_
  by_cases c1q : a1 < 0
  · rw [if_pos c1q] at hB
    refine r_if_t (t := 22) f98_1 (by decide) c1q ?_
    refine r_null f98_22 ?_
    exact r_aret (r := none) pm_m_98 (.object "DunesWalked$Sheet") f98_23 rfl rfl (by exact Or.inl ⟨_, rfl⟩) (zA hB)
  · rw [if_neg c1q] at hB
    refine r_if_f 22 f98_1 (by decide) c1q ?_
    refine r_iload_n f98_4 rfl ?_
    refine r_aload_nN f98_5 rfl ?_
    replace hB := bnd_some hB
    obtain ⟨x2q, ex2q, hB⟩ := hB
    refine r_getA f98_6 fa_5_24 ex2q ?_
    replace hB := bnd_some hB
    obtain ⟨u3q, rfl, hB⟩ := hB
    replace hB := bnd_some hB
    obtain ⟨x4q, ex4q, hB⟩ := hB
    refine r_ln f98_9 ex4q ?_
    by_cases c5q : x4q ≤ a1
    · rw [if_pos c5q] at hB
      refine r_ic_t (t := 22) f98_10 (by decide) c5q ?_
      refine r_null f98_22 ?_
      exact r_aret (r := none) pm_m_98 (.object "DunesWalked$Sheet") f98_23 rfl rfl (by exact Or.inl ⟨_, rfl⟩) (zA hB)
    · rw [if_neg c5q] at hB
      refine r_ic_f 22 f98_10 (by decide) c5q ?_
      refine r_aload_nN f98_13 rfl ?_
      replace hB := bnd_some hB
      obtain ⟨x6q, ex6q, hB⟩ := hB
      refine r_getA f98_14 fa_5_24 ex6q ?_
      refine r_iload_n f98_17 rfl ?_
      replace hB := bnd_some hB
      obtain ⟨u7q, rfl, hB⟩ := hB
      replace hB := bnd_some hB
      obtain ⟨x8q, ex8q, hB⟩ := hB
      refine r_aA 3 f98_18 et_3 ex8q ?_
      refine r_goto (t := 23) f98_19 (by decide) ?_
      exact r_aret (r := x8q) pm_m_98 (.object "DunesWalked$Sheet") f98_23 rfl rfl (by exact Or.inl ⟨_, rfl⟩) (zA hB)
theorem P_X_refusalOfSheet {d : Nat} {h h' : pm_H} {r : Int32} {a0 : Option Nat} (hB : X_refusalOfSheet h a0 = some (h', r)) : pm_ev (d + 1) 99 [va_rf a0] h (some (.int r)) h' := by
  unfold X_refusalOfSheet at hB
  refine pm_ev_mk (L := [va_rf a0]) pm_m_99 rfl (by simp only [pm_ar, rf_ar]; exact Nat.le_of_ble_eq_true rfl) (by simp only [pm_in, pm_ar, rf_ar]; rfl) ?_
  refine r_aload_n f99_0 rfl ?_
  cases a0 with
  | none =>
    refine r_nn_f 7 f99_1 (by decide) rfl ?_
    refine r_bipush f99_4 cb_m2 ?_
    exact r_iret pm_m_99 .int f99_6 rfl rfl rfl (zI hB)
  | some u2q =>
    refine r_nn_t (t := 7) (r := some u2q) f99_1 (by decide) (by simp) ?_
    dsimp only at hB
    refine r_aload_nN f99_7 rfl ?_
    replace hB := bnd_some hB
    obtain ⟨x3q, ex3q, hB⟩ := hB
    refine r_getI f99_8 fa_5_252 ex3q ?_
    refine r_iconst f99_11 ci_m1 ?_
    by_cases c4q : x3q = (-1)
    · rw [if_pos c4q] at hB
      refine r_ic_f 18 f99_12 (by decide) (fun q => q c4q) ?_
      refine r_bipush f99_15 cb_m11 ?_
      exact r_iret pm_m_99 .int f99_17 rfl rfl rfl (zI hB)
    · rw [if_neg c4q] at hB
      refine r_ic_t (t := 18) f99_12 (by decide) c4q ?_
      refine r_aload_nN f99_18 rfl ?_
      replace hB := bnd_some hB
      obtain ⟨x5q, ex5q, hB⟩ := hB
      refine r_getI f99_19 fa_5_255 ex5q ?_
      refine r_bipush f99_22 cb_20 ?_
      by_cases c6q : x5q ≤ 20
      · rw [if_pos c6q] at hB
        refine r_ic_t (t := 32) f99_24 (by decide) c6q ?_
        refine r_iconst f99_32 ci_0 ?_
        exact r_iret pm_m_99 .int f99_33 rfl rfl rfl (zI hB)
      · rw [if_neg c6q] at hB
        refine r_ic_f 32 f99_24 (by decide) c6q ?_
        refine r_bipush f99_27 cb_m2 ?_
        refine r_goto (t := 33) f99_29 (by decide) ?_
        exact r_iret pm_m_99 .int f99_33 rfl rfl rfl (zI hB)
theorem P_X_refusalOf {d : Nat} {h h' : pm_H} {r : Int32} {t : Nat} {a1 : Option Nat} {a2 : Int32} (hB : X_refusalOf h t a1 a2 = some (h', r)) : pm_ev (d + 2) 100 [.ref t, va_rf a1, .int a2] h (some (.int r)) h' := by
  unfold X_refusalOf at hB
  refine pm_ev_mk (L := [.ref t, va_rf a1, .int a2, pm_J]) pm_m_100 rfl (by simp only [pm_ar, rf_ar]; exact Nat.le_of_ble_eq_true rfl) (by simp only [pm_in, pm_ar, rf_ar]; rfl) ?_
  refine r_aload_n f100_0 rfl ?_
  replace hB := bn2_some hB
  obtain ⟨h1q, x2q, eh1q, hB⟩ := hB
  refine r_statV (as := [va_rf a1]) (q := pm_m_99) f100_1 ca_5_231 rfl (by decide) rfl rfl (cs_len (Nat.le_of_ble_eq_true rfl)) (P_X_refusalOfSheet (d := d + 0) eh1q) ?_
  refine r_istore_n (L' := [.ref t, va_rf a1, .int a2, .int x2q]) (x := x2q) f100_4 rfl (Nat.le_of_ble_eq_true rfl) rfl ?_
  refine r_iload_n f100_5 rfl ?_
  by_cases c3q : x2q = 0
  · rw [if_pos c3q] at hB
    refine r_if_f 25 f100_6 (by decide) (fun q => q c3q) ?_
    refine r_aload_nN f100_9 rfl ?_
    replace hB := bnd_some hB
    obtain ⟨x4q, ex4q, hB⟩ := hB
    refine r_getA f100_10 fa_5_45 ex4q ?_
    refine r_iload_n f100_13 rfl ?_
    replace hB := bnd_some hB
    obtain ⟨u5q, rfl, hB⟩ := hB
    replace hB := grd_some hB
    obtain ⟨g8q, hB⟩ := hB
    replace hB := bn2_some hB
    obtain ⟨h6q, x7q, eh6q, hB⟩ := hB
    refine r_virtV (as := [.int a2]) (q := pm_m_11) f100_14 ca_5_120 rfl rfl rfl (cs_len (Nat.le_of_ble_eq_true rfl)) g8q (P_L_standing (d := d + 0) eh6q) ?_
    cases x7q with
    | none =>
      refine r_nn_f 25 f100_17 (by decide) rfl ?_
      refine r_bipush f100_20 cb_m5 ?_
      refine r_goto (t := 26) f100_22 (by decide) ?_
      exact r_iret pm_m_100 .int f100_26 rfl rfl rfl (zI hB)
    | some u10q =>
      refine r_nn_t (t := 25) (r := some u10q) f100_17 (by decide) (by simp) ?_
      dsimp only at hB
      refine r_iload_n f100_25 rfl ?_
      exact r_iret pm_m_100 .int f100_26 rfl rfl rfl (zI hB)
  · rw [if_neg c3q] at hB
    refine r_if_t (t := 25) f100_6 (by decide) c3q ?_
    refine r_iload_n f100_25 rfl ?_
    exact r_iret pm_m_100 .int f100_26 rfl rfl rfl (zI hB)
theorem P_X_firstOtherwise_12 {d : Nat} {h' : pm_H} {r : Int32} (n : Nat) : ∀ (h : pm_H) (l0 : Nat) (l1 : Option Nat) (l2 : Option Nat) (l3 : Int32), X_firstOtherwise_12 n h l0 l1 l2 l3 = some (h', r) → pm_run (pm_ev (d + 5)) 105 12 [.ref l0, va_rf l1, va_rf l2, .int l3] [] h (fun r1 h1 => r1 = some (.int r) ∧ h1 = h') := by
  induction n with
  | zero => intro h l0 l1 l2 l3 hB; cases hB
  | succ n ih =>
    intro h l0 l1 l2 l3 hB
    unfold X_firstOtherwise_12 at hB
    refine r_iload_n f105_12 rfl ?_
    refine r_aload_n f105_13 rfl ?_
    replace hB := bnd_some hB
    obtain ⟨u1q, rfl, hB⟩ := hB
    replace hB := bnd_some hB
    obtain ⟨x2q, ex2q, hB⟩ := hB
    refine r_getI f105_14 fa_5_255 ex2q ?_
    by_cases c3q : x2q ≤ l3
    · rw [if_pos c3q] at hB
      refine r_ic_t (t := 57) f105_17 (by decide) c3q ?_
      refine r_iconst f105_57 ci_m1 ?_
      exact r_iret pm_m_105 .int f105_58 rfl rfl rfl (zI hB)
    · rw [if_neg c3q] at hB
      refine r_ic_f 57 f105_17 (by decide) c3q ?_
      refine r_iload_n f105_20 rfl ?_
      refine r_aload_nN f105_21 rfl ?_
      replace hB := bnd_some hB
      obtain ⟨x4q, ex4q, hB⟩ := hB
      refine r_getA f105_22 fa_5_260 ex4q ?_
      replace hB := bnd_some hB
      obtain ⟨u5q, rfl, hB⟩ := hB
      replace hB := bnd_some hB
      obtain ⟨x6q, ex6q, hB⟩ := hB
      refine r_ln f105_25 ex6q ?_
      by_cases c7q : x6q ≤ l3
      · rw [if_pos c7q] at hB
        refine r_ic_t (t := 57) f105_26 (by decide) c7q ?_
        refine r_iconst f105_57 ci_m1 ?_
        exact r_iret pm_m_105 .int f105_58 rfl rfl rfl (zI hB)
      · rw [if_neg c7q] at hB
        refine r_ic_f 57 f105_26 (by decide) c7q ?_
        refine r_aload_nN f105_29 rfl ?_
        replace hB := bnd_some hB
        obtain ⟨x8q, ex8q, hB⟩ := hB
        refine r_getA f105_30 fa_5_49 ex8q ?_
        replace hB := bnd_some hB
        obtain ⟨u9q, rfl, hB⟩ := hB
        replace hB := grd_some hB
        obtain ⟨g12q, hB⟩ := hB
        replace hB := bn2_some hB
        obtain ⟨h10q, _, eh10q, hB⟩ := hB
        refine r_virtN (as := []) (q := pm_m_18) f105_33 ca_5_183 rfl rfl rfl (cs_len (Nat.le_of_ble_eq_true rfl)) g12q (P_L_pass (d := d + 0) eh10q) ?_
        refine r_aload_nN f105_36 rfl ?_
        replace hB := bnd_some hB
        obtain ⟨x13q, ex13q, hB⟩ := hB
        refine r_getA f105_37 fa_5_260 ex13q ?_
        refine r_iload_n f105_40 rfl ?_
        replace hB := bnd_some hB
        obtain ⟨u14q, rfl, hB⟩ := hB
        replace hB := bnd_some hB
        obtain ⟨x15q, ex15q, hB⟩ := hB
        refine r_aI f105_41 ex15q ?_
        refine r_aload_n f105_42 rfl ?_
        replace hB := bnd_some hB
        obtain ⟨u16q, rfl, hB⟩ := hB
        replace hB := grd_some hB
        obtain ⟨g19q, hB⟩ := hB
        replace hB := bn2_some hB
        obtain ⟨h17q, x18q, eh17q, hB⟩ := hB
        refine r_virtV (as := []) (q := pm_m_5) f105_43 ca_5_202 rfl rfl rfl (cs_len (Nat.le_of_ble_eq_true rfl)) g19q (P_D_frontOrGone (d := d + 4) eh17q) ?_
        by_cases c20q : x15q = x18q
        · rw [if_pos c20q] at hB
          refine r_ic_t (t := 51) f105_46 (by decide) c20q ?_
          obtain ⟨y21q, hy21q⟩ : ∃ z, z = l3 + 1 := ⟨_, rfl⟩
          replace hB := nmd_at hy21q hB
          refine r_iinc (L' := [.ref l0, .ref u1q, .ref u16q, .int y21q]) (x := y21q) f105_51 rfl (hy21q.trans (congrArg (l3 + ·) ci_1.symm)) rfl ?_
          refine r_goto (t := 12) f105_54 (by decide) ?_
          exact pm_weak (L' := [.ref l0, va_rf (some u1q), va_rf (some u16q), .int y21q]) ⟨.inr rfl, .inr rfl, .inr rfl, .inr rfl, trivial⟩ (ih h17q l0 (some u1q) (some u16q) y21q hB)
        · rw [if_neg c20q] at hB
          refine r_ic_f 51 f105_46 (by decide) c20q ?_
          refine r_iload_n f105_49 rfl ?_
          exact r_iret pm_m_105 .int f105_50 rfl rfl rfl (zI hB)
theorem P_X_firstOtherwise {d : Nat} {h h' : pm_H} {r : Int32} {t : Nat} {a1 : Option Nat} {a2 : Option Nat} (hB : X_firstOtherwise h t a1 a2 = some (h', r)) : pm_ev (d + 6) 105 [.ref t, va_rf a1, va_rf a2] h (some (.int r)) h' := by
  unfold X_firstOtherwise at hB
  refine pm_ev_mk (L := [.ref t, va_rf a1, va_rf a2, pm_J]) pm_m_105 rfl (by simp only [pm_ar, rf_ar]; exact Nat.le_of_ble_eq_true rfl) (by simp only [pm_in, pm_ar, rf_ar]; rfl) ?_
  refine r_aload_n f105_0 rfl ?_
  cases a1 with
  | none =>
    refine r_in_t (t := 8) f105_1 (by decide) rfl ?_
    refine r_iconst f105_8 ci_m1 ?_
    exact r_iret pm_m_105 .int f105_9 rfl rfl rfl (zI hB)
  | some u2q =>
    refine r_in_f 8 (r := some u2q) f105_1 (by decide) (by simp) ?_
    dsimp only at hB
    refine r_aload_n f105_4 rfl ?_
    cases a2 with
    | none =>
      refine r_nn_f 10 f105_5 (by decide) rfl ?_
      refine r_iconst f105_8 ci_m1 ?_
      exact r_iret pm_m_105 .int f105_9 rfl rfl rfl (zI hB)
    | some u4q =>
      refine r_nn_t (t := 10) (r := some u4q) f105_5 (by decide) (by simp) ?_
      dsimp only at hB
      refine r_iconst f105_10 ci_0 ?_
      refine r_istore_n (L' := [.ref t, .ref u2q, .ref u4q, .int 0]) (x := 0) f105_11 rfl (Nat.le_of_ble_eq_true rfl) rfl ?_
      exact pm_weak (L' := [.ref t, va_rf (some u2q), va_rf (some u4q), .int 0]) ⟨.inr rfl, .inr rfl, .inr rfl, .inr rfl, trivial⟩ (P_X_firstOtherwise_12 (d := d) 1000 h t (some u2q) (some u4q) 0 hB)
theorem P_X_judge {d : Nat} {h h' : pm_H} {r : Int32} {t : Nat} {a1 : Int32} {a2 : Int32} (hB : X_judge h t a1 a2 = some (h', r)) : pm_ev (d + 7) 77 [.ref t, .int a1, .int a2] h (some (.int r)) h' := by
  unfold X_judge at hB
  refine pm_ev_mk (L := [.ref t, .int a1, .int a2, pm_J, pm_J]) pm_m_77 rfl (Nat.le_of_ble_eq_true rfl) rfl ?_
  refine r_aload_nN f77_0 rfl ?_
  refine r_iload_n f77_1 rfl ?_
  replace hB := grd_some hB
  obtain ⟨g3q, hB⟩ := hB
  replace hB := bn2_some hB
  obtain ⟨h1q, x2q, eh1q, hB⟩ := hB
  refine r_virtV (as := [.int a1]) (q := pm_m_98) f77_2 ca_5_215 rfl rfl rfl (cs_len (Nat.le_of_ble_eq_true rfl)) g3q (P_X_sheetAt (d := d + 5) eh1q) ?_
  refine r_astore_n (L' := [.ref t, .int a1, .int a2, va_rf x2q, pm_J]) f77_5 (Nat.le_of_ble_eq_true rfl) rfl ?_
  refine r_aload_nN f77_6 rfl ?_
  refine r_aload_n f77_7 rfl ?_
  refine r_iload_n f77_8 rfl ?_
  replace hB := grd_some hB
  obtain ⟨g6q, hB⟩ := hB
  replace hB := bn2_some hB
  obtain ⟨h4q, x5q, eh4q, hB⟩ := hB
  refine r_virtV (as := [va_rf x2q, .int a2]) (q := pm_m_100) f77_9 ca_5_219 rfl rfl rfl (cs_len (Nat.le_of_ble_eq_true rfl)) g6q (P_X_refusalOf (d := d + 4) eh4q) ?_
  refine r_istore (L' := [.ref t, .int a1, .int a2, va_rf x2q, .int x5q]) (x := x5q) f77_12 rfl (Nat.le_of_ble_eq_true rfl) (st1_A 3 (r := x2q) rfl rfl rfl) ?_
  refine r_iload f77_14 rfl ?_
  by_cases c7q : x5q = 0
  · rw [if_pos c7q] at hB
    refine r_if_t (t := 22) f77_16 (by decide) c7q ?_
    refine r_aload_nN f77_22 rfl ?_
    replace hB := bnd_some hB
    obtain ⟨x8q, ex8q, hB⟩ := hB
    refine r_getA f77_23 fa_5_49 ex8q ?_
    refine r_aload_nN f77_26 rfl ?_
    replace hB := bnd_some hB
    obtain ⟨x9q, ex9q, hB⟩ := hB
    refine r_getA f77_27 fa_5_45 ex9q ?_
    replace hB := bnd_some hB
    obtain ⟨u10q, rfl, hB⟩ := hB
    replace hB := grd_some hB
    obtain ⟨g13q, hB⟩ := hB
    replace hB := bn2_some hB
    obtain ⟨h11q, _, eh11q, hB⟩ := hB
    refine r_virtN (as := [va_rf x9q]) (q := pm_m_10) f77_30 ca_5_186 rfl rfl rfl (cs_len (Nat.le_of_ble_eq_true rfl)) g13q (P_L_become (d := d + 4) eh11q) ?_
    refine r_aload_nN f77_33 rfl ?_
    refine r_aload_n f77_34 rfl ?_
    refine r_aload_nN f77_35 rfl ?_
    replace hB := bnd_some hB
    obtain ⟨x14q, ex14q, hB⟩ := hB
    refine r_getA f77_36 fa_5_49 ex14q ?_
    refine r_iload_n f77_39 rfl ?_
    replace hB := bnd_some hB
    obtain ⟨u15q, rfl, hB⟩ := hB
    replace hB := grd_some hB
    obtain ⟨g18q, hB⟩ := hB
    replace hB := bn2_some hB
    obtain ⟨h16q, x17q, eh16q, hB⟩ := hB
    refine r_virtV (as := [.int a2]) (q := pm_m_11) f77_40 ca_5_120 rfl rfl rfl (cs_len (Nat.le_of_ble_eq_true rfl)) g18q (P_L_standing (d := d + 5) eh16q) ?_
    replace hB := grd_some hB
    obtain ⟨g21q, hB⟩ := hB
    replace hB := bn2_some hB
    obtain ⟨h19q, x20q, eh19q, hB⟩ := hB
    refine r_virtV (as := [va_rf x2q, va_rf x17q]) (q := pm_m_105) f77_43 ca_5_223 rfl rfl rfl (cs_len (Nat.le_of_ble_eq_true rfl)) g21q (P_X_firstOtherwise (d := d + 0) eh19q) ?_
    exact r_iret pm_m_77 .int f77_46 rfl rfl rfl (zI hB)
  · rw [if_neg c7q] at hB
    refine r_if_f 22 f77_16 (by decide) c7q ?_
    refine r_iload f77_19 rfl ?_
    exact r_iret pm_m_77 .int f77_21 rfl rfl rfl (zI hB)
theorem P_X_fitsWith {d : Nat} {h h' : pm_H} {r : Int32} {t : Nat} {a1 : Option Nat} {a2 : Int32} {a3 : Int32} {a4 : Int32} (hB : X_fitsWith h t a1 a2 a3 a4 = some (h', r)) : pm_ev (d + 7) 103 [.ref t, va_rf a1, .int a2, .int a3, .int a4] h (some (.int r)) h' := by
  unfold X_fitsWith at hB
  refine pm_ev_mk (L := [.ref t, va_rf a1, .int a2, .int a3, .int a4, pm_J]) pm_m_103 rfl (by simp only [pm_ar, rf_ar]; exact Nat.le_of_ble_eq_true rfl) (by simp only [pm_in, pm_ar, rf_ar]; rfl) ?_
  refine r_aload_nN f103_0 rfl ?_
  replace hB := bnd_some hB
  obtain ⟨x1q, ex1q, hB⟩ := hB
  refine r_getA f103_1 fa_5_49 ex1q ?_
  refine r_aload_nN f103_4 rfl ?_
  replace hB := bnd_some hB
  obtain ⟨x2q, ex2q, hB⟩ := hB
  refine r_getA f103_5 fa_5_45 ex2q ?_
  replace hB := bnd_some hB
  obtain ⟨u3q, rfl, hB⟩ := hB
  replace hB := grd_some hB
  obtain ⟨g6q, hB⟩ := hB
  replace hB := bn2_some hB
  obtain ⟨h4q, _, eh4q, hB⟩ := hB
  refine r_virtN (as := [va_rf x2q]) (q := pm_m_10) f103_8 ca_5_186 rfl rfl rfl (cs_len (Nat.le_of_ble_eq_true rfl)) g6q (P_L_become (d := d + 4) eh4q) ?_
  refine r_aload_nN f103_11 rfl ?_
  replace hB := bnd_some hB
  obtain ⟨x7q, ex7q, hB⟩ := hB
  refine r_getA f103_12 fa_5_49 ex7q ?_
  refine r_iload_n f103_15 rfl ?_
  replace hB := bnd_some hB
  obtain ⟨u8q, rfl, hB⟩ := hB
  replace hB := grd_some hB
  obtain ⟨g11q, hB⟩ := hB
  replace hB := bn2_some hB
  obtain ⟨h9q, x10q, eh9q, hB⟩ := hB
  refine r_virtV (as := [.int a2]) (q := pm_m_11) f103_16 ca_5_120 rfl rfl rfl (cs_len (Nat.le_of_ble_eq_true rfl)) g11q (P_L_standing (d := d + 5) eh9q) ?_
  refine r_astore (L' := [.ref t, va_rf a1, .int a2, .int a3, .int a4, va_rf x10q]) f103_19 (Nat.le_of_ble_eq_true rfl) rfl ?_
  refine r_aload f103_21 rfl ?_
  cases x10q with
  | none =>
    refine r_nn_f 28 f103_23 (by decide) rfl ?_
    refine r_iconst f103_26 ci_0 ?_
    exact r_iret pm_m_103 .boolean f103_27 rfl rfl (bool_n (by decide)) (zI hB)
  | some u13q =>
    refine r_nn_t (t := 28) (r := some u13q) f103_23 (by decide) (by simp) ?_
    dsimp only at hB
    refine r_aloadN f103_28 rfl ?_
    refine r_iload_n f103_30 rfl ?_
    refine r_iload f103_31 rfl ?_
    replace hB := grd_some hB
    obtain ⟨g16q, hB⟩ := hB
    replace hB := bn2_some hB
    obtain ⟨h14q, _, eh14q, hB⟩ := hB
    refine r_virtN (as := [.int a3, .int a4]) (q := pm_m_4) f103_33 ca_5_162 rfl rfl rfl (cs_len (Nat.le_of_ble_eq_true rfl)) g16q (P_D_change (d := d + 5) eh14q) ?_
    refine r_aload_nN f103_36 rfl ?_
    refine r_aload_n f103_37 rfl ?_
    refine r_aloadN f103_38 rfl ?_
    replace hB := grd_some hB
    obtain ⟨g19q, hB⟩ := hB
    replace hB := bn2_some hB
    obtain ⟨h17q, x18q, eh17q, hB⟩ := hB
    refine r_virtV (as := [va_rf a1, .ref u13q]) (q := pm_m_105) f103_40 ca_5_223 rfl rfl rfl (cs_len (Nat.le_of_ble_eq_true rfl)) g19q (P_X_firstOtherwise (d := d + 0) eh17q) ?_
    refine r_iconst f103_43 ci_m1 ?_
    by_cases c20q : x18q = (-1)
    · rw [if_pos c20q] at hB
      refine r_ic_f 51 f103_44 (by decide) (fun q => q c20q) ?_
      refine r_iconst f103_47 ci_1 ?_
      refine r_goto (t := 52) f103_48 (by decide) ?_
      exact r_iret pm_m_103 .boolean f103_52 rfl rfl (bool_n (by decide)) (zI hB)
    · rw [if_neg c20q] at hB
      refine r_ic_t (t := 51) f103_44 (by decide) c20q ?_
      refine r_iconst f103_51 ci_0 ?_
      exact r_iret pm_m_103 .boolean f103_52 rfl rfl (bool_n (by decide)) (zI hB)
theorem P_X_kinds_88 {d : Nat} {h' : pm_H} {r : Int32} (k_42 : pm_H → Nat → Int32 → Int32 → Option Nat → Int32 → Int32 → Option (pm_H × Int32)) (hk_42 : ∀ (h : pm_H) (l0 : Nat) (l2 : Int32) (l3 : Int32) (l4 : Option Nat) (l6 : Int32) (l7 : Int32), k_42 h l0 l2 l3 l4 l6 l7 = some (h', r) → pm_run (pm_ev (d + 7)) 78 42 [.ref l0, pm_J, .int l2, .int l3, va_rf l4, pm_J, .int l6, .int l7] [] h (fun r1 h1 => r1 = some (.int r) ∧ h1 = h')) (h : pm_H) (l0 : Nat) (l2 : Int32) (l3 : Int32) (l4 : Option Nat) (l6 : Int32) (l7 : Int32) (hB : X_kinds_88 k_42 h l0 l2 l3 l4 l6 l7 = some (h', r)) : pm_run (pm_ev (d + 7)) 78 88 [.ref l0, pm_J, .int l2, .int l3, va_rf l4, pm_J, .int l6, .int l7] [] h (fun r1 h1 => r1 = some (.int r) ∧ h1 = h') := by
  unfold X_kinds_88 at hB
  obtain ⟨y1q, hy1q⟩ : ∃ z, z = l7 + 1 := ⟨_, rfl⟩
  replace hB := nmd_at hy1q hB
  refine r_iinc (L' := [.ref l0, pm_J, .int l2, .int l3, va_rf l4, pm_J, .int l6, .int y1q]) (x := y1q) f78_88 rfl (hy1q.trans (congrArg (l7 + ·) ci_1.symm)) rfl ?_
  refine r_goto (t := 42) f78_91 (by decide) ?_
  exact pm_weak (L' := [.ref l0, pm_J, .int l2, .int l3, va_rf l4, pm_J, .int l6, .int y1q]) ⟨.inr rfl, .inl rfl, .inr rfl, .inr rfl, .inr rfl, .inl rfl, .inr rfl, .inr rfl, trivial⟩ (hk_42 h l0 l2 l3 l4 l6 y1q hB)
theorem P_X_kinds_71 {d : Nat} {h' : pm_H} {r : Int32} (k_42 : pm_H → Nat → Int32 → Int32 → Option Nat → Int32 → Int32 → Option (pm_H × Int32)) (hk_42 : ∀ (h : pm_H) (l0 : Nat) (l2 : Int32) (l3 : Int32) (l4 : Option Nat) (l6 : Int32) (l7 : Int32), k_42 h l0 l2 l3 l4 l6 l7 = some (h', r) → pm_run (pm_ev (d + 7)) 78 42 [.ref l0, pm_J, .int l2, .int l3, va_rf l4, pm_J, .int l6, .int l7] [] h (fun r1 h1 => r1 = some (.int r) ∧ h1 = h')) (h : pm_H) (l0 : Nat) (l2 : Int32) (l3 : Int32) (l4 : Option Nat) (l6 : Int32) (l7 : Int32) (s0 : Int32) (s1 : Int32) (s2 : Option Nat) (s3 : Nat) (hB : X_kinds_71 k_42 h l0 l2 l3 l4 l6 l7 s0 s1 s2 s3 = some (h', r)) : pm_run (pm_ev (d + 7)) 78 71 [.ref l0, pm_J, .int l2, .int l3, va_rf l4, pm_J, .int l6, .int l7] [.int s0, .int s1, va_rf s2, .ref s3] h (fun r1 h1 => r1 = some (.int r) ∧ h1 = h') := by
  unfold X_kinds_71 at hB
  refine r_iload f78_71 rfl ?_
  replace hB := grd_some hB
  obtain ⟨g3q, hB⟩ := hB
  replace hB := bn2_some hB
  obtain ⟨h1q, x2q, eh1q, hB⟩ := hB
  refine r_virtV (as := [va_rf s2, .int s1, .int s0, .int l7]) (q := pm_m_103) f78_73 ca_5_227 rfl rfl rfl (cs_len (Nat.le_of_ble_eq_true rfl)) g3q (P_X_fitsWith (d := d + 0) eh1q) ?_
  by_cases c4q : x2q = 0
  · rw [if_pos c4q] at hB
    refine r_if_t (t := 88) f78_76 (by decide) c4q ?_
    exact pm_weak (L' := [.ref l0, pm_J, .int l2, .int l3, va_rf l4, pm_J, .int l6, .int l7]) ⟨.inr rfl, .inl rfl, .inr rfl, .inr rfl, .inr rfl, .inl rfl, .inr rfl, .inr rfl, trivial⟩ (P_X_kinds_88 (d := d) k_42 hk_42 h1q l0 l2 l3 l4 l6 l7 hB)
  · rw [if_neg c4q] at hB
    refine r_if_f 88 f78_76 (by decide) c4q ?_
    refine r_iload f78_79 rfl ?_
    refine r_iconst f78_81 ci_1 ?_
    refine r_iload f78_82 rfl ?_
    refine r_ishl f78_84 ?_
    refine r_ior f78_85 ?_
    obtain ⟨y5q, hy5q⟩ : ∃ z, z = (l6 ||| (1 <<< (l7 &&& 31))) := ⟨_, rfl⟩
    replace hB := nmd_at hy5q hB
    refine r_istore (L' := [.ref l0, pm_J, .int l2, .int l3, va_rf l4, pm_J, .int y5q, .int l7]) (x := y5q) f78_86 hy5q (Nat.le_of_ble_eq_true rfl) rfl ?_
    exact pm_weak (L' := [.ref l0, pm_J, .int l2, .int l3, va_rf l4, pm_J, .int y5q, .int l7]) ⟨.inr rfl, .inl rfl, .inr rfl, .inr rfl, .inr rfl, .inl rfl, .inr rfl, .inr rfl, trivial⟩ (P_X_kinds_88 (d := d) k_42 hk_42 h1q l0 l2 l3 l4 y5q l7 hB)
theorem P_X_kinds_55 {d : Nat} {h' : pm_H} {r : Int32} (k_42 : pm_H → Nat → Int32 → Int32 → Option Nat → Int32 → Int32 → Option (pm_H × Int32)) (hk_42 : ∀ (h : pm_H) (l0 : Nat) (l2 : Int32) (l3 : Int32) (l4 : Option Nat) (l6 : Int32) (l7 : Int32), k_42 h l0 l2 l3 l4 l6 l7 = some (h', r) → pm_run (pm_ev (d + 7)) 78 42 [.ref l0, pm_J, .int l2, .int l3, va_rf l4, pm_J, .int l6, .int l7] [] h (fun r1 h1 => r1 = some (.int r) ∧ h1 = h')) (h : pm_H) (l0 : Nat) (l2 : Int32) (l3 : Int32) (l4 : Option Nat) (l6 : Int32) (l7 : Int32) (s0 : Int32) (s1 : Int32) (hB : X_kinds_55 k_42 h l0 l2 l3 l4 l6 l7 s0 s1 = some (h', r)) : pm_run (pm_ev (d + 7)) 78 55 [.ref l0, pm_J, .int l2, .int l3, va_rf l4, pm_J, .int l6, .int l7] [.int s0, .int s1] h (fun r1 h1 => r1 = some (.int r) ∧ h1 = h') := by
  unfold X_kinds_55 at hB
  by_cases c1q : s0 ≤ s1
  · rw [if_pos c1q] at hB
    refine r_ic_t (t := 94) f78_55 (by decide) c1q ?_
    refine r_iload f78_94 rfl ?_
    exact r_iret pm_m_78 .int f78_96 rfl rfl rfl (zI hB)
  · rw [if_neg c1q] at hB
    refine r_ic_f 94 f78_55 (by decide) c1q ?_
    refine r_aload_nN f78_58 rfl ?_
    refine r_aload f78_59 rfl ?_
    refine r_iload_n f78_61 rfl ?_
    refine r_iload_n f78_62 rfl ?_
    by_cases c2q : l3 = 0
    · rw [if_pos c2q] at hB
      refine r_if_f 70 f78_63 (by decide) (fun q => q c2q) ?_
      refine r_iconst f78_66 ci_3 ?_
      refine r_goto (t := 71) f78_67 (by decide) ?_
      exact pm_weak (L' := [.ref l0, pm_J, .int l2, .int l3, va_rf l4, pm_J, .int l6, .int l7]) ⟨.inr rfl, .inl rfl, .inr rfl, .inr rfl, .inr rfl, .inl rfl, .inr rfl, .inr rfl, trivial⟩ (P_X_kinds_71 (d := d) k_42 hk_42 h l0 l2 l3 l4 l6 l7 3 l2 l4 l0 hB)
    · rw [if_neg c2q] at hB
      refine r_if_t (t := 70) f78_63 (by decide) c2q ?_
      refine r_iconst f78_70 ci_4 ?_
      exact pm_weak (L' := [.ref l0, pm_J, .int l2, .int l3, va_rf l4, pm_J, .int l6, .int l7]) ⟨.inr rfl, .inl rfl, .inr rfl, .inr rfl, .inr rfl, .inl rfl, .inr rfl, .inr rfl, trivial⟩ (P_X_kinds_71 (d := d) k_42 hk_42 h l0 l2 l3 l4 l6 l7 4 l2 l4 l0 hB)
theorem P_X_kinds_42 {d : Nat} {h' : pm_H} {r : Int32} (n : Nat) : ∀ (h : pm_H) (l0 : Nat) (l2 : Int32) (l3 : Int32) (l4 : Option Nat) (l6 : Int32) (l7 : Int32), X_kinds_42 n h l0 l2 l3 l4 l6 l7 = some (h', r) → pm_run (pm_ev (d + 7)) 78 42 [.ref l0, pm_J, .int l2, .int l3, va_rf l4, pm_J, .int l6, .int l7] [] h (fun r1 h1 => r1 = some (.int r) ∧ h1 = h') := by
  induction n with
  | zero => intro h l0 l2 l3 l4 l6 l7 hB; cases hB
  | succ n ih =>
    intro h l0 l2 l3 l4 l6 l7 hB
    unfold X_kinds_42 at hB
    refine r_iload f78_42 rfl ?_
    refine r_iload_n f78_44 rfl ?_
    by_cases c1q : l3 = 0
    · rw [if_pos c1q] at hB
      refine r_if_f 53 f78_45 (by decide) (fun q => q c1q) ?_
      refine r_bipush f78_48 cb_6 ?_
      refine r_goto (t := 55) f78_50 (by decide) ?_
      exact pm_weak (L' := [.ref l0, pm_J, .int l2, .int l3, va_rf l4, pm_J, .int l6, .int l7]) ⟨.inr rfl, .inl rfl, .inr rfl, .inr rfl, .inr rfl, .inl rfl, .inr rfl, .inr rfl, trivial⟩ (P_X_kinds_55 (d := d) (X_kinds_42 n) ih h l0 l2 l3 l4 l6 l7 6 l7 hB)
    · rw [if_neg c1q] at hB
      refine r_if_t (t := 53) f78_45 (by decide) c1q ?_
      refine r_bipush f78_53 cb_10 ?_
      exact pm_weak (L' := [.ref l0, pm_J, .int l2, .int l3, va_rf l4, pm_J, .int l6, .int l7]) ⟨.inr rfl, .inl rfl, .inr rfl, .inr rfl, .inr rfl, .inl rfl, .inr rfl, .inr rfl, trivial⟩ (P_X_kinds_55 (d := d) (X_kinds_42 n) ih h l0 l2 l3 l4 l6 l7 10 l7 hB)
theorem P_X_kinds {d : Nat} {h h' : pm_H} {r : Int32} {t : Nat} {a1 : Int32} {a2 : Int32} {a3 : Int32} (hB : X_kinds h t a1 a2 a3 = some (h', r)) : pm_ev (d + 8) 78 [.ref t, .int a1, .int a2, .int a3] h (some (.int r)) h' := by
  unfold X_kinds at hB
  refine pm_ev_mk (L := [.ref t, .int a1, .int a2, .int a3, pm_J, pm_J, pm_J, pm_J]) pm_m_78 rfl (Nat.le_of_ble_eq_true rfl) rfl ?_
  refine r_aload_nN f78_0 rfl ?_
  refine r_iload_n f78_1 rfl ?_
  replace hB := grd_some hB
  obtain ⟨g3q, hB⟩ := hB
  replace hB := bn2_some hB
  obtain ⟨h1q, x2q, eh1q, hB⟩ := hB
  refine r_virtV (as := [.int a1]) (q := pm_m_98) f78_2 ca_5_215 rfl rfl rfl (cs_len (Nat.le_of_ble_eq_true rfl)) g3q (P_X_sheetAt (d := d + 6) eh1q) ?_
  refine r_astore (L' := [.ref t, .int a1, .int a2, .int a3, va_rf x2q, pm_J, pm_J, pm_J]) f78_5 (Nat.le_of_ble_eq_true rfl) rfl ?_
  refine r_aload_nN f78_7 rfl ?_
  refine r_aload f78_8 rfl ?_
  refine r_iload_n f78_10 rfl ?_
  replace hB := grd_some hB
  obtain ⟨g6q, hB⟩ := hB
  replace hB := bn2_some hB
  obtain ⟨h4q, x5q, eh4q, hB⟩ := hB
  refine r_virtV (as := [va_rf x2q, .int a2]) (q := pm_m_100) f78_11 ca_5_219 rfl rfl rfl (cs_len (Nat.le_of_ble_eq_true rfl)) g6q (P_X_refusalOf (d := d + 5) eh4q) ?_
  refine r_istore (L' := [.ref t, .int a1, .int a2, .int a3, va_rf x2q, .int x5q, pm_J, pm_J]) (x := x5q) f78_14 rfl (Nat.le_of_ble_eq_true rfl) (st1_A 4 (r := x2q) rfl rfl rfl) ?_
  refine r_iload f78_16 rfl ?_
  by_cases c7q : x5q = 0
  · rw [if_pos c7q] at hB
    refine r_if_t (t := 24) f78_18 (by decide) c7q ?_
    refine r_iload_n f78_24 rfl ?_
    refine r_iconst f78_25 ci_0 ?_
    refine r_iconst f78_26 ci_1 ?_
    replace hB := bn2_some hB
    obtain ⟨h8q, x9q, eh8q, hB⟩ := hB
    refine r_statV (as := [.int a3, .int 0, .int 1]) (q := pm_m_92) f78_27 ca_5_90 rfl (by decide) rfl rfl (cs_len (Nat.le_of_ble_eq_true rfl)) (P_X_within (d := d + 6) eh8q) ?_
    by_cases c10q : x9q = 0
    · rw [if_pos c10q] at hB
      refine r_if_f 36 f78_30 (by decide) (fun q => q c10q) ?_
      refine r_bipush f78_33 cb_m7 ?_
      exact r_iret pm_m_78 .int f78_35 rfl rfl rfl (zI hB)
    · rw [if_neg c10q] at hB
      refine r_if_t (t := 36) f78_30 (by decide) c10q ?_
      refine r_iconst f78_36 ci_0 ?_
      refine r_istore (L' := [.ref t, .int a1, .int a2, .int a3, va_rf x2q, .int x5q, .int 0, pm_J]) (x := 0) f78_37 rfl (Nat.le_of_ble_eq_true rfl) rfl ?_
      refine r_iconst f78_39 ci_0 ?_
      refine r_istore (L' := [.ref t, .int a1, .int a2, .int a3, va_rf x2q, .int x5q, .int 0, .int 0]) (x := 0) f78_40 rfl (Nat.le_of_ble_eq_true rfl) rfl ?_
      exact pm_weak (L' := [.ref t, pm_J, .int a2, .int a3, va_rf x2q, pm_J, .int 0, .int 0]) ⟨.inr rfl, .inl rfl, .inr rfl, .inr rfl, .inr rfl, .inl rfl, .inr rfl, .inr rfl, trivial⟩ (P_X_kinds_42 (d := d) 1000 h8q t a2 a3 x2q 0 0 hB)
  · rw [if_neg c7q] at hB
    refine r_if_f 24 f78_18 (by decide) c7q ?_
    refine r_iload f78_21 rfl ?_
    exact r_iret pm_m_78 .int f78_23 rfl rfl rfl (zI hB)
theorem P_X_states_98 {d : Nat} {h' : pm_H} {r : Int32} (k_58 : pm_H → Nat → Int32 → Int32 → Int32 → Option Nat → Int32 → Int32 → Int32 → Option (pm_H × Int32)) (hk_58 : ∀ (h : pm_H) (l0 : Nat) (l2 : Int32) (l3 : Int32) (l4 : Int32) (l5 : Option Nat) (l7 : Int32) (l8 : Int32) (l9 : Int32), k_58 h l0 l2 l3 l4 l5 l7 l8 l9 = some (h', r) → pm_run (pm_ev (d + 7)) 79 58 [.ref l0, pm_J, .int l2, .int l3, .int l4, va_rf l5, pm_J, .int l7, .int l8, .int l9] [] h (fun r1 h1 => r1 = some (.int r) ∧ h1 = h')) (h : pm_H) (l0 : Nat) (l2 : Int32) (l3 : Int32) (l4 : Int32) (l5 : Option Nat) (l7 : Int32) (l8 : Int32) (l9 : Int32) (hB : X_states_98 k_58 h l0 l2 l3 l4 l5 l7 l8 l9 = some (h', r)) : pm_run (pm_ev (d + 7)) 79 98 [.ref l0, pm_J, .int l2, .int l3, .int l4, va_rf l5, pm_J, .int l7, .int l8, .int l9] [] h (fun r1 h1 => r1 = some (.int r) ∧ h1 = h') := by
  unfold X_states_98 at hB
  obtain ⟨y1q, hy1q⟩ : ∃ z, z = l9 + 1 := ⟨_, rfl⟩
  replace hB := nmd_at hy1q hB
  refine r_iinc (L' := [.ref l0, pm_J, .int l2, .int l3, .int l4, va_rf l5, pm_J, .int l7, .int l8, .int y1q]) (x := y1q) f79_98 rfl (hy1q.trans (congrArg (l9 + ·) ci_1.symm)) rfl ?_
  refine r_goto (t := 58) f79_101 (by decide) ?_
  exact pm_weak (L' := [.ref l0, pm_J, .int l2, .int l3, .int l4, va_rf l5, pm_J, .int l7, .int l8, .int y1q]) ⟨.inr rfl, .inl rfl, .inr rfl, .inr rfl, .inr rfl, .inr rfl, .inl rfl, .inr rfl, .inr rfl, .inr rfl, trivial⟩ (hk_58 h l0 l2 l3 l4 l5 l7 l8 y1q hB)
theorem P_X_states_96 {d : Nat} {h' : pm_H} {r : Int32} (k_58 : pm_H → Nat → Int32 → Int32 → Int32 → Option Nat → Int32 → Int32 → Int32 → Option (pm_H × Int32)) (hk_58 : ∀ (h : pm_H) (l0 : Nat) (l2 : Int32) (l3 : Int32) (l4 : Int32) (l5 : Option Nat) (l7 : Int32) (l8 : Int32) (l9 : Int32), k_58 h l0 l2 l3 l4 l5 l7 l8 l9 = some (h', r) → pm_run (pm_ev (d + 7)) 79 58 [.ref l0, pm_J, .int l2, .int l3, .int l4, va_rf l5, pm_J, .int l7, .int l8, .int l9] [] h (fun r1 h1 => r1 = some (.int r) ∧ h1 = h')) (h : pm_H) (l0 : Nat) (l2 : Int32) (l3 : Int32) (l4 : Int32) (l5 : Option Nat) (l7 : Int32) (l9 : Int32) (s0 : Int32) (hB : X_states_96 k_58 h l0 l2 l3 l4 l5 l7 l9 s0 = some (h', r)) : pm_run (pm_ev (d + 7)) 79 96 [.ref l0, pm_J, .int l2, .int l3, .int l4, va_rf l5, pm_J, .int l7, pm_J, .int l9] [.int s0] h (fun r1 h1 => r1 = some (.int r) ∧ h1 = h') := by
  unfold X_states_96 at hB
  refine r_istore (L' := [.ref l0, pm_J, .int l2, .int l3, .int l4, va_rf l5, pm_J, .int l7, .int s0, .int l9]) (x := s0) f79_96 rfl (Nat.le_of_ble_eq_true rfl) rfl ?_
  exact pm_weak (L' := [.ref l0, pm_J, .int l2, .int l3, .int l4, va_rf l5, pm_J, .int l7, .int s0, .int l9]) ⟨.inr rfl, .inl rfl, .inr rfl, .inr rfl, .inr rfl, .inr rfl, .inl rfl, .inr rfl, .inr rfl, .inr rfl, trivial⟩ (P_X_states_98 (d := d) k_58 hk_58 h l0 l2 l3 l4 l5 l7 s0 l9 hB)
theorem P_X_states_58 {d : Nat} {h' : pm_H} {r : Int32} (n : Nat) : ∀ (h : pm_H) (l0 : Nat) (l2 : Int32) (l3 : Int32) (l4 : Int32) (l5 : Option Nat) (l7 : Int32) (l8 : Int32) (l9 : Int32), X_states_58 n h l0 l2 l3 l4 l5 l7 l8 l9 = some (h', r) → pm_run (pm_ev (d + 7)) 79 58 [.ref l0, pm_J, .int l2, .int l3, .int l4, va_rf l5, pm_J, .int l7, .int l8, .int l9] [] h (fun r1 h1 => r1 = some (.int r) ∧ h1 = h') := by
  induction n with
  | zero => intro h l0 l2 l3 l4 l5 l7 l8 l9 hB; cases hB
  | succ n ih =>
    intro h l0 l2 l3 l4 l5 l7 l8 l9 hB
    unfold X_states_58 at hB
    refine r_iload f79_58 rfl ?_
    refine r_iload_n f79_60 rfl ?_
    replace hB := bn2_some hB
    obtain ⟨h1q, x2q, eh1q, hB⟩ := hB
    refine r_statV (as := [.int l3]) (q := pm_m_96) f79_61 ca_5_156 rfl (by decide) rfl rfl (cs_len (Nat.le_of_ble_eq_true rfl)) (P_X_mostOf (d := d + 6) eh1q) ?_
    by_cases c3q : x2q < l9
    · rw [if_pos c3q] at hB
      refine r_ic_t (t := 104) f79_64 (by decide) c3q ?_
      refine r_iload f79_104 rfl ?_
      by_cases c4q : l4 = 0
      · rw [if_pos c4q] at hB
        refine r_if_f 114 f79_106 (by decide) (fun q => q c4q) ?_
        refine r_iload f79_109 rfl ?_
        refine r_goto (t := 116) f79_111 (by decide) ?_
        exact r_iret pm_m_79 .int f79_116 rfl rfl rfl (zI hB)
      · rw [if_neg c4q] at hB
        refine r_if_t (t := 114) f79_106 (by decide) c4q ?_
        refine r_iload f79_114 rfl ?_
        exact r_iret pm_m_79 .int f79_116 rfl rfl rfl (zI hB)
    · rw [if_neg c3q] at hB
      refine r_ic_f 104 f79_64 (by decide) c3q ?_
      refine r_aload_nN f79_67 rfl ?_
      refine r_aload f79_68 rfl ?_
      refine r_iload_n f79_70 rfl ?_
      refine r_iload_n f79_71 rfl ?_
      refine r_iload f79_72 rfl ?_
      replace hB := grd_some hB
      obtain ⟨g7q, hB⟩ := hB
      replace hB := bn2_some hB
      obtain ⟨h5q, x6q, eh5q, hB⟩ := hB
      refine r_virtV (as := [va_rf l5, .int l2, .int l3, .int l9]) (q := pm_m_103) f79_74 ca_5_227 rfl rfl rfl (cs_len (Nat.le_of_ble_eq_true rfl)) g7q (P_X_fitsWith (d := d + 0) eh5q) ?_
      by_cases c8q : x6q = 0
      · rw [if_pos c8q] at hB
        refine r_if_t (t := 98) f79_77 (by decide) c8q ?_
        exact pm_weak (L' := [.ref l0, pm_J, .int l2, .int l3, .int l4, va_rf l5, pm_J, .int l7, .int l8, .int l9]) ⟨.inr rfl, .inl rfl, .inr rfl, .inr rfl, .inr rfl, .inr rfl, .inl rfl, .inr rfl, .inr rfl, .inr rfl, trivial⟩ (P_X_states_98 (d := d) (X_states_58 n) ih h5q l0 l2 l3 l4 l5 l7 l8 l9 hB)
      · rw [if_neg c8q] at hB
        refine r_if_f 98 f79_77 (by decide) c8q ?_
        obtain ⟨y9q, hy9q⟩ : ∃ z, z = l7 + 1 := ⟨_, rfl⟩
        replace hB := nmd_at hy9q hB
        refine r_iinc (L' := [.ref l0, pm_J, .int l2, .int l3, .int l4, va_rf l5, pm_J, .int y9q, .int l8, .int l9]) (x := y9q) f79_80 rfl (hy9q.trans (congrArg (l7 + ·) ci_1.symm)) rfl ?_
        refine r_iload f79_83 rfl ?_
        refine r_iconst f79_85 ci_m1 ?_
        by_cases c10q : l8 = (-1)
        · rw [if_pos c10q] at hB
          refine r_ic_f 94 f79_86 (by decide) (fun q => q c10q) ?_
          refine r_iload f79_89 rfl ?_
          refine r_goto (t := 96) f79_91 (by decide) ?_
          exact pm_weak (L' := [.ref l0, pm_J, .int l2, .int l3, .int l4, va_rf l5, pm_J, .int y9q, pm_J, .int l9]) ⟨.inr rfl, .inl rfl, .inr rfl, .inr rfl, .inr rfl, .inr rfl, .inl rfl, .inr rfl, .inl rfl, .inr rfl, trivial⟩ (P_X_states_96 (d := d) (X_states_58 n) ih h5q l0 l2 l3 l4 l5 y9q l9 l9 hB)
        · rw [if_neg c10q] at hB
          refine r_ic_t (t := 94) f79_86 (by decide) c10q ?_
          refine r_iload f79_94 rfl ?_
          exact pm_weak (L' := [.ref l0, pm_J, .int l2, .int l3, .int l4, va_rf l5, pm_J, .int y9q, pm_J, .int l9]) ⟨.inr rfl, .inl rfl, .inr rfl, .inr rfl, .inr rfl, .inr rfl, .inl rfl, .inr rfl, .inl rfl, .inr rfl, trivial⟩ (P_X_states_96 (d := d) (X_states_58 n) ih h5q l0 l2 l3 l4 l5 y9q l9 l8 hB)
theorem P_X_states {d : Nat} {h h' : pm_H} {r : Int32} {t : Nat} {a1 : Int32} {a2 : Int32} {a3 : Int32} {a4 : Int32} (hB : X_states h t a1 a2 a3 a4 = some (h', r)) : pm_ev (d + 8) 79 [.ref t, .int a1, .int a2, .int a3, .int a4] h (some (.int r)) h' := by
  unfold X_states at hB
  refine pm_ev_mk (L := [.ref t, .int a1, .int a2, .int a3, .int a4, pm_J, pm_J, pm_J, pm_J, pm_J]) pm_m_79 rfl (Nat.le_of_ble_eq_true rfl) rfl ?_
  refine r_aload_nN f79_0 rfl ?_
  refine r_iload_n f79_1 rfl ?_
  replace hB := grd_some hB
  obtain ⟨g3q, hB⟩ := hB
  replace hB := bn2_some hB
  obtain ⟨h1q, x2q, eh1q, hB⟩ := hB
  refine r_virtV (as := [.int a1]) (q := pm_m_98) f79_2 ca_5_215 rfl rfl rfl (cs_len (Nat.le_of_ble_eq_true rfl)) g3q (P_X_sheetAt (d := d + 6) eh1q) ?_
  refine r_astore (L' := [.ref t, .int a1, .int a2, .int a3, .int a4, va_rf x2q, pm_J, pm_J, pm_J, pm_J]) f79_5 (Nat.le_of_ble_eq_true rfl) rfl ?_
  refine r_aload_nN f79_7 rfl ?_
  refine r_aload f79_8 rfl ?_
  refine r_iload_n f79_10 rfl ?_
  replace hB := grd_some hB
  obtain ⟨g6q, hB⟩ := hB
  replace hB := bn2_some hB
  obtain ⟨h4q, x5q, eh4q, hB⟩ := hB
  refine r_virtV (as := [va_rf x2q, .int a2]) (q := pm_m_100) f79_11 ca_5_219 rfl rfl rfl (cs_len (Nat.le_of_ble_eq_true rfl)) g6q (P_X_refusalOf (d := d + 5) eh4q) ?_
  refine r_istore (L' := [.ref t, .int a1, .int a2, .int a3, .int a4, va_rf x2q, .int x5q, pm_J, pm_J, pm_J]) (x := x5q) f79_14 rfl (Nat.le_of_ble_eq_true rfl) (st1_A 5 (r := x2q) rfl rfl rfl) ?_
  refine r_iload f79_16 rfl ?_
  by_cases c7q : x5q = 0
  · rw [if_pos c7q] at hB
    refine r_if_t (t := 24) f79_18 (by decide) c7q ?_
    refine r_iload_n f79_24 rfl ?_
    refine r_iconst f79_25 ci_0 ?_
    refine r_iconst f79_26 ci_2 ?_
    replace hB := bn2_some hB
    obtain ⟨h8q, x9q, eh8q, hB⟩ := hB
    refine r_statV (as := [.int a3, .int 0, .int 2]) (q := pm_m_92) f79_27 ca_5_90 rfl (by decide) rfl rfl (cs_len (Nat.le_of_ble_eq_true rfl)) (P_X_within (d := d + 6) eh8q) ?_
    by_cases c10q : x9q = 0
    · rw [if_pos c10q] at hB
      refine r_if_t (t := 43) f79_30 (by decide) c10q ?_
      refine r_bipush f79_43 cb_m7 ?_
      exact r_iret pm_m_79 .int f79_45 rfl rfl rfl (zI hB)
    · rw [if_neg c10q] at hB
      refine r_if_f 43 f79_30 (by decide) c10q ?_
      refine r_iload f79_33 rfl ?_
      refine r_iconst f79_35 ci_0 ?_
      refine r_iconst f79_36 ci_1 ?_
      replace hB := bn2_some hB
      obtain ⟨h11q, x12q, eh11q, hB⟩ := hB
      refine r_statV (as := [.int a4, .int 0, .int 1]) (q := pm_m_92) f79_37 ca_5_90 rfl (by decide) rfl rfl (cs_len (Nat.le_of_ble_eq_true rfl)) (P_X_within (d := d + 6) eh11q) ?_
      by_cases c13q : x12q = 0
      · rw [if_pos c13q] at hB
        refine r_if_f 46 f79_40 (by decide) (fun q => q c13q) ?_
        refine r_bipush f79_43 cb_m7 ?_
        exact r_iret pm_m_79 .int f79_45 rfl rfl rfl (zI hB)
      · rw [if_neg c13q] at hB
        refine r_if_t (t := 46) f79_40 (by decide) c13q ?_
        refine r_iconst f79_46 ci_0 ?_
        refine r_istore (L' := [.ref t, .int a1, .int a2, .int a3, .int a4, va_rf x2q, .int x5q, .int 0, pm_J, pm_J]) (x := 0) f79_47 rfl (Nat.le_of_ble_eq_true rfl) rfl ?_
        refine r_iconst f79_49 ci_m1 ?_
        refine r_istore (L' := [.ref t, .int a1, .int a2, .int a3, .int a4, va_rf x2q, .int x5q, .int 0, .int (-1), pm_J]) (x := (-1)) f79_50 rfl (Nat.le_of_ble_eq_true rfl) rfl ?_
        refine r_iload_n f79_52 rfl ?_
        replace hB := bn2_some hB
        obtain ⟨h14q, x15q, eh14q, hB⟩ := hB
        refine r_statV (as := [.int a3]) (q := pm_m_95) f79_53 ca_5_153 rfl (by decide) rfl rfl (cs_len (Nat.le_of_ble_eq_true rfl)) (P_X_leastOf (d := d + 6) eh14q) ?_
        refine r_istore (L' := [.ref t, .int a1, .int a2, .int a3, .int a4, va_rf x2q, .int x5q, .int 0, .int (-1), .int x15q]) (x := x15q) f79_56 rfl (Nat.le_of_ble_eq_true rfl) rfl ?_
        exact pm_weak (L' := [.ref t, pm_J, .int a2, .int a3, .int a4, va_rf x2q, pm_J, .int 0, .int (-1), .int x15q]) ⟨.inr rfl, .inl rfl, .inr rfl, .inr rfl, .inr rfl, .inr rfl, .inl rfl, .inr rfl, .inr rfl, .inr rfl, trivial⟩ (P_X_states_58 (d := d) 1000 h14q t a2 a3 a4 x2q 0 (-1) x15q hB)
  · rw [if_neg c7q] at hB
    refine r_if_f 24 f79_18 (by decide) c7q ?_
    refine r_iload f79_21 rfl ?_
    exact r_iret pm_m_79 .int f79_23 rfl rfl rfl (zI hB)
theorem P_X_whose_82 {d : Nat} {h' : pm_H} {r : Int32} (k_23 : pm_H → Nat → Option Nat → Int32 → Int32 → Option (pm_H × Int32)) (hk_23 : ∀ (h : pm_H) (l0 : Nat) (l2 : Option Nat) (l4 : Int32) (l5 : Int32), k_23 h l0 l2 l4 l5 = some (h', r) → pm_run (pm_ev (d + 6)) 80 23 [.ref l0, pm_J, va_rf l2, pm_J, .int l4, .int l5, pm_J] [] h (fun r1 h1 => r1 = some (.int r) ∧ h1 = h')) (h : pm_H) (l0 : Nat) (l2 : Option Nat) (l4 : Int32) (l5 : Int32) (hB : X_whose_82 k_23 h l0 l2 l4 l5 = some (h', r)) : pm_run (pm_ev (d + 6)) 80 82 [.ref l0, pm_J, va_rf l2, pm_J, .int l4, .int l5, pm_J] [] h (fun r1 h1 => r1 = some (.int r) ∧ h1 = h') := by
  unfold X_whose_82 at hB
  obtain ⟨y1q, hy1q⟩ : ∃ z, z = l5 + 1 := ⟨_, rfl⟩
  replace hB := nmd_at hy1q hB
  refine r_iinc (L' := [.ref l0, pm_J, va_rf l2, pm_J, .int l4, .int y1q, pm_J]) (x := y1q) f80_82 rfl (hy1q.trans (congrArg (l5 + ·) ci_1.symm)) rfl ?_
  refine r_goto (t := 23) f80_85 (by decide) ?_
  exact pm_weak (L' := [.ref l0, pm_J, va_rf l2, pm_J, .int l4, .int y1q, pm_J]) ⟨.inr rfl, .inl rfl, .inr rfl, .inl rfl, .inr rfl, .inr rfl, .inl rfl, trivial⟩ (hk_23 h l0 l2 l4 y1q hB)
theorem P_X_whose_23 {d : Nat} {h' : pm_H} {r : Int32} (n : Nat) : ∀ (h : pm_H) (l0 : Nat) (l2 : Option Nat) (l4 : Int32) (l5 : Int32), X_whose_23 n h l0 l2 l4 l5 = some (h', r) → pm_run (pm_ev (d + 6)) 80 23 [.ref l0, pm_J, va_rf l2, pm_J, .int l4, .int l5, pm_J] [] h (fun r1 h1 => r1 = some (.int r) ∧ h1 = h') := by
  induction n with
  | zero => intro h l0 l2 l4 l5 hB; cases hB
  | succ n ih =>
    intro h l0 l2 l4 l5 hB
    unfold X_whose_23 at hB
    refine r_iload f80_23 rfl ?_
    refine r_aload_nN f80_25 rfl ?_
    replace hB := bnd_some hB
    obtain ⟨x1q, ex1q, hB⟩ := hB
    refine r_getA f80_26 fa_5_45 ex1q ?_
    replace hB := bnd_some hB
    obtain ⟨u2q, rfl, hB⟩ := hB
    replace hB := bnd_some hB
    obtain ⟨x3q, ex3q, hB⟩ := hB
    refine r_getI f80_29 fa_5_52 ex3q ?_
    by_cases c4q : x3q ≤ l5
    · rw [if_pos c4q] at hB
      refine r_ic_t (t := 88) f80_32 (by decide) c4q ?_
      refine r_iload f80_88 rfl ?_
      exact r_iret pm_m_80 .int f80_90 rfl rfl rfl (zI hB)
    · rw [if_neg c4q] at hB
      refine r_ic_f 88 f80_32 (by decide) c4q ?_
      refine r_aload_nN f80_35 rfl ?_
      replace hB := bnd_some hB
      obtain ⟨x5q, ex5q, hB⟩ := hB
      refine r_getA f80_36 fa_5_49 ex5q ?_
      refine r_aload_nN f80_39 rfl ?_
      replace hB := bnd_some hB
      obtain ⟨x6q, ex6q, hB⟩ := hB
      refine r_getA f80_40 fa_5_45 ex6q ?_
      replace hB := bnd_some hB
      obtain ⟨u7q, rfl, hB⟩ := hB
      replace hB := grd_some hB
      obtain ⟨g10q, hB⟩ := hB
      replace hB := bn2_some hB
      obtain ⟨h8q, _, eh8q, hB⟩ := hB
      refine r_virtN (as := [va_rf x6q]) (q := pm_m_10) f80_43 ca_5_186 rfl rfl rfl (cs_len (Nat.le_of_ble_eq_true rfl)) g10q (P_L_become (d := d + 4) eh8q) ?_
      refine r_aload_nN f80_46 rfl ?_
      replace hB := bnd_some hB
      obtain ⟨x11q, ex11q, hB⟩ := hB
      refine r_getA f80_47 fa_5_49 ex11q ?_
      refine r_iload f80_50 rfl ?_
      replace hB := bnd_some hB
      obtain ⟨u12q, rfl, hB⟩ := hB
      replace hB := grd_some hB
      obtain ⟨g15q, hB⟩ := hB
      replace hB := bn2_some hB
      obtain ⟨h13q, x14q, eh13q, hB⟩ := hB
      refine r_virtV (as := [.int l5]) (q := pm_m_11) f80_52 ca_5_120 rfl rfl rfl (cs_len (Nat.le_of_ble_eq_true rfl)) g15q (P_L_standing (d := d + 5) eh13q) ?_
      refine r_astore (L' := [.ref l0, pm_J, va_rf l2, pm_J, .int l4, .int l5, va_rf x14q]) f80_55 (Nat.le_of_ble_eq_true rfl) rfl ?_
      refine r_aload f80_57 rfl ?_
      cases x14q with
      | none =>
        refine r_in_t (t := 82) f80_59 (by decide) rfl ?_
        exact pm_weak (L' := [.ref l0, pm_J, va_rf l2, pm_J, .int l4, .int l5, pm_J]) ⟨.inr rfl, .inl rfl, .inr rfl, .inl rfl, .inr rfl, .inr rfl, .inl rfl, trivial⟩ (P_X_whose_82 (d := d) (X_whose_23 n) ih h13q l0 l2 l4 l5 hB)
      | some u17q =>
        refine r_in_f 82 (r := some u17q) f80_59 (by decide) (by simp) ?_
        dsimp only at hB
        refine r_aload_nN f80_62 rfl ?_
        refine r_aload_n f80_63 rfl ?_
        refine r_aloadN f80_64 rfl ?_
        replace hB := grd_some hB
        obtain ⟨g20q, hB⟩ := hB
        replace hB := bn2_some hB
        obtain ⟨h18q, x19q, eh18q, hB⟩ := hB
        refine r_virtV (as := [va_rf l2, .ref u17q]) (q := pm_m_105) f80_66 ca_5_223 rfl rfl rfl (cs_len (Nat.le_of_ble_eq_true rfl)) g20q (P_X_firstOtherwise (d := d + 0) eh18q) ?_
        refine r_iconst f80_69 ci_m1 ?_
        by_cases c21q : x19q = (-1)
        · rw [if_pos c21q] at hB
          refine r_ic_f 82 f80_70 (by decide) (fun q => q c21q) ?_
          refine r_iload f80_73 rfl ?_
          refine r_iconst f80_75 ci_1 ?_
          refine r_iload f80_76 rfl ?_
          refine r_ishl f80_78 ?_
          refine r_ior f80_79 ?_
          obtain ⟨y22q, hy22q⟩ : ∃ z, z = (l4 ||| (1 <<< (l5 &&& 31))) := ⟨_, rfl⟩
          replace hB := nmd_at hy22q hB
          refine r_istore (L' := [.ref l0, pm_J, va_rf l2, pm_J, .int y22q, .int l5, .ref u17q]) (x := y22q) f80_80 hy22q (Nat.le_of_ble_eq_true rfl) rfl ?_
          exact pm_weak (L' := [.ref l0, pm_J, va_rf l2, pm_J, .int y22q, .int l5, pm_J]) ⟨.inr rfl, .inl rfl, .inr rfl, .inl rfl, .inr rfl, .inr rfl, .inl rfl, trivial⟩ (P_X_whose_82 (d := d) (X_whose_23 n) ih h18q l0 l2 y22q l5 hB)
        · rw [if_neg c21q] at hB
          refine r_ic_t (t := 82) f80_70 (by decide) c21q ?_
          exact pm_weak (L' := [.ref l0, pm_J, va_rf l2, pm_J, .int l4, .int l5, pm_J]) ⟨.inr rfl, .inl rfl, .inr rfl, .inl rfl, .inr rfl, .inr rfl, .inl rfl, trivial⟩ (P_X_whose_82 (d := d) (X_whose_23 n) ih h18q l0 l2 l4 l5 hB)
theorem P_X_whose {d : Nat} {h h' : pm_H} {r : Int32} {t : Nat} {a1 : Int32} (hB : X_whose h t a1 = some (h', r)) : pm_ev (d + 7) 80 [.ref t, .int a1] h (some (.int r)) h' := by
  unfold X_whose at hB
  refine pm_ev_mk (L := [.ref t, .int a1, pm_J, pm_J, pm_J, pm_J, pm_J]) pm_m_80 rfl (Nat.le_of_ble_eq_true rfl) rfl ?_
  refine r_aload_nN f80_0 rfl ?_
  refine r_iload_n f80_1 rfl ?_
  replace hB := grd_some hB
  obtain ⟨g3q, hB⟩ := hB
  replace hB := bn2_some hB
  obtain ⟨h1q, x2q, eh1q, hB⟩ := hB
  refine r_virtV (as := [.int a1]) (q := pm_m_98) f80_2 ca_5_215 rfl rfl rfl (cs_len (Nat.le_of_ble_eq_true rfl)) g3q (P_X_sheetAt (d := d + 5) eh1q) ?_
  refine r_astore_n (L' := [.ref t, .int a1, va_rf x2q, pm_J, pm_J, pm_J, pm_J]) f80_5 (Nat.le_of_ble_eq_true rfl) rfl ?_
  refine r_aload_n f80_6 rfl ?_
  replace hB := bn2_some hB
  obtain ⟨h4q, x5q, eh4q, hB⟩ := hB
  refine r_statV (as := [va_rf x2q]) (q := pm_m_99) f80_7 ca_5_231 rfl (by decide) rfl rfl (cs_len (Nat.le_of_ble_eq_true rfl)) (P_X_refusalOfSheet (d := d + 5) eh4q) ?_
  refine r_istore_n (L' := [.ref t, .int a1, va_rf x2q, .int x5q, pm_J, pm_J, pm_J]) (x := x5q) f80_10 rfl (Nat.le_of_ble_eq_true rfl) (st1_A 2 (r := x2q) rfl rfl rfl) ?_
  refine r_iload_n f80_11 rfl ?_
  by_cases c6q : x5q = 0
  · rw [if_pos c6q] at hB
    refine r_if_t (t := 17) f80_12 (by decide) c6q ?_
    refine r_iconst f80_17 ci_0 ?_
    refine r_istore (L' := [.ref t, .int a1, va_rf x2q, .int x5q, .int 0, pm_J, pm_J]) (x := 0) f80_18 rfl (Nat.le_of_ble_eq_true rfl) rfl ?_
    refine r_iconst f80_20 ci_0 ?_
    refine r_istore (L' := [.ref t, .int a1, va_rf x2q, .int x5q, .int 0, .int 0, pm_J]) (x := 0) f80_21 rfl (Nat.le_of_ble_eq_true rfl) rfl ?_
    exact pm_weak (L' := [.ref t, pm_J, va_rf x2q, pm_J, .int 0, .int 0, pm_J]) ⟨.inr rfl, .inl rfl, .inr rfl, .inl rfl, .inr rfl, .inr rfl, .inl rfl, trivial⟩ (P_X_whose_23 (d := d) 1000 h4q t x2q 0 0 hB)
  · rw [if_neg c6q] at hB
    refine r_if_f 17 f80_12 (by decide) c6q ?_
    refine r_iload_n f80_15 rfl ?_
    exact r_iret pm_m_80 .int f80_16 rfl rfl rfl (zI hB)
theorem P_X_fitsUnder {d : Nat} {h h' : pm_H} {r : Int32} {t : Nat} {a1 : Option Nat} {a2 : Int32} {a3 : Option Nat} (hB : X_fitsUnder h t a1 a2 a3 = some (h', r)) : pm_ev (d + 7) 104 [.ref t, va_rf a1, .int a2, va_rf a3] h (some (.int r)) h' := by
  unfold X_fitsUnder at hB
  refine pm_ev_mk (L := [.ref t, va_rf a1, .int a2, va_rf a3]) pm_m_104 rfl (by simp only [pm_ar, rf_ar]; exact Nat.le_of_ble_eq_true rfl) (by simp only [pm_in, pm_ar, rf_ar]; rfl) ?_
  refine r_aload_n f104_0 rfl ?_
  cases a3 with
  | none =>
    refine r_nn_f 6 f104_1 (by decide) rfl ?_
    refine r_iconst f104_4 ci_0 ?_
    exact r_iret pm_m_104 .boolean f104_5 rfl rfl (bool_n (by decide)) (zI hB)
  | some u2q =>
    refine r_nn_t (t := 6) (r := some u2q) f104_1 (by decide) (by simp) ?_
    dsimp only at hB
    refine r_aload_nN f104_6 rfl ?_
    replace hB := bnd_some hB
    obtain ⟨x3q, ex3q, hB⟩ := hB
    refine r_getA f104_7 fa_5_49 ex3q ?_
    refine r_aload_nN f104_10 rfl ?_
    replace hB := bnd_some hB
    obtain ⟨x4q, ex4q, hB⟩ := hB
    refine r_getA f104_11 fa_5_45 ex4q ?_
    replace hB := bnd_some hB
    obtain ⟨u5q, rfl, hB⟩ := hB
    replace hB := grd_some hB
    obtain ⟨g8q, hB⟩ := hB
    replace hB := bn2_some hB
    obtain ⟨h6q, _, eh6q, hB⟩ := hB
    refine r_virtN (as := [va_rf x4q]) (q := pm_m_10) f104_14 ca_5_186 rfl rfl rfl (cs_len (Nat.le_of_ble_eq_true rfl)) g8q (P_L_become (d := d + 4) eh6q) ?_
    refine r_aload_nN f104_17 rfl ?_
    replace hB := bnd_some hB
    obtain ⟨x9q, ex9q, hB⟩ := hB
    refine r_getA f104_18 fa_5_49 ex9q ?_
    refine r_aload_nN f104_21 rfl ?_
    replace hB := bnd_some hB
    obtain ⟨u10q, rfl, hB⟩ := hB
    replace hB := bnd_some hB
    obtain ⟨h11q, eh11q, hB⟩ := hB
    refine r_put f104_22 fa_5_80 ty_1_5 rfl rfl (no_fin (nf_1_5)) eh11q ?_
    refine r_aload_nN f104_25 rfl ?_
    refine r_aload_n f104_26 rfl ?_
    refine r_aload_nN f104_27 rfl ?_
    replace hB := bnd_some hB
    obtain ⟨x12q, ex12q, hB⟩ := hB
    refine r_getA f104_28 fa_5_49 ex12q ?_
    refine r_iload_n f104_31 rfl ?_
    replace hB := bnd_some hB
    obtain ⟨u13q, rfl, hB⟩ := hB
    replace hB := grd_some hB
    obtain ⟨g16q, hB⟩ := hB
    replace hB := bn2_some hB
    obtain ⟨h14q, x15q, eh14q, hB⟩ := hB
    refine r_virtV (as := [.int a2]) (q := pm_m_11) f104_32 ca_5_120 rfl rfl rfl (cs_len (Nat.le_of_ble_eq_true rfl)) g16q (P_L_standing (d := d + 5) eh14q) ?_
    replace hB := grd_some hB
    obtain ⟨g19q, hB⟩ := hB
    replace hB := bn2_some hB
    obtain ⟨h17q, x18q, eh17q, hB⟩ := hB
    refine r_virtV (as := [va_rf a1, va_rf x15q]) (q := pm_m_105) f104_35 ca_5_223 rfl rfl rfl (cs_len (Nat.le_of_ble_eq_true rfl)) g19q (P_X_firstOtherwise (d := d + 0) eh17q) ?_
    refine r_iconst f104_38 ci_m1 ?_
    by_cases c20q : x18q = (-1)
    · rw [if_pos c20q] at hB
      refine r_ic_f 46 f104_39 (by decide) (fun q => q c20q) ?_
      refine r_iconst f104_42 ci_1 ?_
      refine r_goto (t := 47) f104_43 (by decide) ?_
      exact r_iret pm_m_104 .boolean f104_47 rfl rfl (bool_n (by decide)) (zI hB)
    · rw [if_neg c20q] at hB
      refine r_ic_t (t := 46) f104_39 (by decide) c20q ?_
      refine r_iconst f104_46 ci_0 ?_
      exact r_iret pm_m_104 .boolean f104_47 rfl rfl (bool_n (by decide)) (zI hB)
theorem P_X_laws_61 {d : Nat} {h' : pm_H} {r : Int32} (k_28 : pm_H → Nat → Int32 → Option Nat → Int32 → Int32 → Option (pm_H × Int32)) (hk_28 : ∀ (h : pm_H) (l0 : Nat) (l2 : Int32) (l3 : Option Nat) (l5 : Int32) (l6 : Int32), k_28 h l0 l2 l3 l5 l6 = some (h', r) → pm_run (pm_ev (d + 7)) 81 28 [.ref l0, pm_J, .int l2, va_rf l3, pm_J, .int l5, .int l6] [] h (fun r1 h1 => r1 = some (.int r) ∧ h1 = h')) (h : pm_H) (l0 : Nat) (l2 : Int32) (l3 : Option Nat) (l5 : Int32) (l6 : Int32) (hB : X_laws_61 k_28 h l0 l2 l3 l5 l6 = some (h', r)) : pm_run (pm_ev (d + 7)) 81 61 [.ref l0, pm_J, .int l2, va_rf l3, pm_J, .int l5, .int l6] [] h (fun r1 h1 => r1 = some (.int r) ∧ h1 = h') := by
  unfold X_laws_61 at hB
  obtain ⟨y1q, hy1q⟩ : ∃ z, z = l6 + 1 := ⟨_, rfl⟩
  replace hB := nmd_at hy1q hB
  refine r_iinc (L' := [.ref l0, pm_J, .int l2, va_rf l3, pm_J, .int l5, .int y1q]) (x := y1q) f81_61 rfl (hy1q.trans (congrArg (l6 + ·) ci_1.symm)) rfl ?_
  refine r_goto (t := 28) f81_64 (by decide) ?_
  exact pm_weak (L' := [.ref l0, pm_J, .int l2, va_rf l3, pm_J, .int l5, .int y1q]) ⟨.inr rfl, .inl rfl, .inr rfl, .inr rfl, .inl rfl, .inr rfl, .inr rfl, trivial⟩ (hk_28 h l0 l2 l3 l5 y1q hB)
theorem P_X_laws_28 {d : Nat} {h' : pm_H} {r : Int32} (n : Nat) : ∀ (h : pm_H) (l0 : Nat) (l2 : Int32) (l3 : Option Nat) (l5 : Int32) (l6 : Int32), X_laws_28 n h l0 l2 l3 l5 l6 = some (h', r) → pm_run (pm_ev (d + 7)) 81 28 [.ref l0, pm_J, .int l2, va_rf l3, pm_J, .int l5, .int l6] [] h (fun r1 h1 => r1 = some (.int r) ∧ h1 = h') := by
  induction n with
  | zero => intro h l0 l2 l3 l5 l6 hB; cases hB
  | succ n ih =>
    intro h l0 l2 l3 l5 l6 hB
    unfold X_laws_28 at hB
    refine r_iload f81_28 rfl ?_
    refine r_aload_nN f81_30 rfl ?_
    replace hB := bnd_some hB
    obtain ⟨x1q, ex1q, hB⟩ := hB
    refine r_getI f81_31 fa_5_36 ex1q ?_
    by_cases c2q : x1q ≤ l6
    · rw [if_pos c2q] at hB
      refine r_ic_t (t := 67) f81_34 (by decide) c2q ?_
      refine r_iload f81_67 rfl ?_
      exact r_iret pm_m_81 .int f81_69 rfl rfl rfl (zI hB)
    · rw [if_neg c2q] at hB
      refine r_ic_f 67 f81_34 (by decide) c2q ?_
      refine r_aload_nN f81_37 rfl ?_
      refine r_aload_n f81_38 rfl ?_
      refine r_iload_n f81_39 rfl ?_
      refine r_aload_nN f81_40 rfl ?_
      refine r_iload f81_41 rfl ?_
      replace hB := grd_some hB
      obtain ⟨g5q, hB⟩ := hB
      replace hB := bn2_some hB
      obtain ⟨h3q, x4q, eh3q, hB⟩ := hB
      refine r_virtV (as := [.int l6]) (q := pm_m_97) f81_43 ca_5_117 rfl rfl rfl (cs_len (Nat.le_of_ble_eq_true rfl)) g5q (P_X_lawAt (d := d + 6) eh3q) ?_
      replace hB := grd_some hB
      obtain ⟨g8q, hB⟩ := hB
      replace hB := bn2_some hB
      obtain ⟨h6q, x7q, eh6q, hB⟩ := hB
      refine r_virtV (as := [va_rf l3, .int l2, va_rf x4q]) (q := pm_m_104) f81_46 ca_5_235 rfl rfl rfl (cs_len (Nat.le_of_ble_eq_true rfl)) g8q (P_X_fitsUnder (d := d + 0) eh6q) ?_
      by_cases c9q : x7q = 0
      · rw [if_pos c9q] at hB
        refine r_if_t (t := 61) f81_49 (by decide) c9q ?_
        exact pm_weak (L' := [.ref l0, pm_J, .int l2, va_rf l3, pm_J, .int l5, .int l6]) ⟨.inr rfl, .inl rfl, .inr rfl, .inr rfl, .inl rfl, .inr rfl, .inr rfl, trivial⟩ (P_X_laws_61 (d := d) (X_laws_28 n) ih h6q l0 l2 l3 l5 l6 hB)
      · rw [if_neg c9q] at hB
        refine r_if_f 61 f81_49 (by decide) c9q ?_
        refine r_iload f81_52 rfl ?_
        refine r_iconst f81_54 ci_1 ?_
        refine r_iload f81_55 rfl ?_
        refine r_ishl f81_57 ?_
        refine r_ior f81_58 ?_
        obtain ⟨y10q, hy10q⟩ : ∃ z, z = (l5 ||| (1 <<< (l6 &&& 31))) := ⟨_, rfl⟩
        replace hB := nmd_at hy10q hB
        refine r_istore (L' := [.ref l0, pm_J, .int l2, va_rf l3, pm_J, .int y10q, .int l6]) (x := y10q) f81_59 hy10q (Nat.le_of_ble_eq_true rfl) rfl ?_
        exact pm_weak (L' := [.ref l0, pm_J, .int l2, va_rf l3, pm_J, .int y10q, .int l6]) ⟨.inr rfl, .inl rfl, .inr rfl, .inr rfl, .inl rfl, .inr rfl, .inr rfl, trivial⟩ (P_X_laws_61 (d := d) (X_laws_28 n) ih h6q l0 l2 l3 y10q l6 hB)
theorem P_X_laws {d : Nat} {h h' : pm_H} {r : Int32} {t : Nat} {a1 : Int32} {a2 : Int32} (hB : X_laws h t a1 a2 = some (h', r)) : pm_ev (d + 8) 81 [.ref t, .int a1, .int a2] h (some (.int r)) h' := by
  unfold X_laws at hB
  refine pm_ev_mk (L := [.ref t, .int a1, .int a2, pm_J, pm_J, pm_J, pm_J]) pm_m_81 rfl (Nat.le_of_ble_eq_true rfl) rfl ?_
  refine r_aload_nN f81_0 rfl ?_
  refine r_iload_n f81_1 rfl ?_
  replace hB := grd_some hB
  obtain ⟨g3q, hB⟩ := hB
  replace hB := bn2_some hB
  obtain ⟨h1q, x2q, eh1q, hB⟩ := hB
  refine r_virtV (as := [.int a1]) (q := pm_m_98) f81_2 ca_5_215 rfl rfl rfl (cs_len (Nat.le_of_ble_eq_true rfl)) g3q (P_X_sheetAt (d := d + 6) eh1q) ?_
  refine r_astore_n (L' := [.ref t, .int a1, .int a2, va_rf x2q, pm_J, pm_J, pm_J]) f81_5 (Nat.le_of_ble_eq_true rfl) rfl ?_
  refine r_aload_nN f81_6 rfl ?_
  refine r_aload_n f81_7 rfl ?_
  refine r_iload_n f81_8 rfl ?_
  replace hB := grd_some hB
  obtain ⟨g6q, hB⟩ := hB
  replace hB := bn2_some hB
  obtain ⟨h4q, x5q, eh4q, hB⟩ := hB
  refine r_virtV (as := [va_rf x2q, .int a2]) (q := pm_m_100) f81_9 ca_5_219 rfl rfl rfl (cs_len (Nat.le_of_ble_eq_true rfl)) g6q (P_X_refusalOf (d := d + 5) eh4q) ?_
  refine r_istore (L' := [.ref t, .int a1, .int a2, va_rf x2q, .int x5q, pm_J, pm_J]) (x := x5q) f81_12 rfl (Nat.le_of_ble_eq_true rfl) (st1_A 3 (r := x2q) rfl rfl rfl) ?_
  refine r_iload f81_14 rfl ?_
  by_cases c7q : x5q = 0
  · rw [if_pos c7q] at hB
    refine r_if_t (t := 22) f81_16 (by decide) c7q ?_
    refine r_iconst f81_22 ci_0 ?_
    refine r_istore (L' := [.ref t, .int a1, .int a2, va_rf x2q, .int x5q, .int 0, pm_J]) (x := 0) f81_23 rfl (Nat.le_of_ble_eq_true rfl) rfl ?_
    refine r_iconst f81_25 ci_0 ?_
    refine r_istore (L' := [.ref t, .int a1, .int a2, va_rf x2q, .int x5q, .int 0, .int 0]) (x := 0) f81_26 rfl (Nat.le_of_ble_eq_true rfl) rfl ?_
    exact pm_weak (L' := [.ref t, pm_J, .int a2, va_rf x2q, pm_J, .int 0, .int 0]) ⟨.inr rfl, .inl rfl, .inr rfl, .inr rfl, .inl rfl, .inr rfl, .inr rfl, trivial⟩ (P_X_laws_28 (d := d) 1000 h4q t a2 x2q 0 0 hB)
  · rw [if_neg c7q] at hB
    refine r_if_f 22 f81_16 (by decide) c7q ?_
    refine r_iload f81_19 rfl ?_
    exact r_iret pm_m_81 .int f81_21 rfl rfl rfl (zI hB)
theorem P_X_film_73 {d : Nat} {h' : pm_H} {r : Int32} (n : Nat) : ∀ (h : pm_H) (l0 : Nat) (l3 : Int32) (l4 : Option Nat) (l5 : Option Nat) (l6 : Int32), X_film_73 n h l0 l3 l4 l5 l6 = some (h', r) → pm_run (pm_ev (d + 5)) 82 73 [.ref l0, pm_J, pm_J, .int l3, va_rf l4, va_rf l5, .int l6] [] h (fun r1 h1 => r1 = some (.int r) ∧ h1 = h') := by
  induction n with
  | zero => intro h l0 l3 l4 l5 l6 hB; cases hB
  | succ n ih =>
    intro h l0 l3 l4 l5 l6 hB
    unfold X_film_73 at hB
    refine r_iload f82_73 rfl ?_
    refine r_iload_n f82_75 rfl ?_
    by_cases c1q : l3 ≤ l6
    · rw [if_pos c1q] at hB
      refine r_ic_t (t := 109) f82_76 (by decide) c1q ?_
      refine r_iload_n f82_109 rfl ?_
      exact r_iret pm_m_82 .int f82_110 rfl rfl rfl (zI hB)
    · rw [if_neg c1q] at hB
      refine r_ic_f 109 f82_76 (by decide) c1q ?_
      refine r_aload f82_79 rfl ?_
      cases l5 with
      | none =>
        refine r_in_t (t := 109) f82_81 (by decide) rfl ?_
        refine r_iload_n f82_109 rfl ?_
        exact r_iret pm_m_82 .int f82_110 rfl rfl rfl (zI hB)
      | some u3q =>
        refine r_in_f 109 (r := some u3q) f82_81 (by decide) (by simp) ?_
        dsimp only at hB
        refine r_aload_nN f82_84 rfl ?_
        replace hB := bnd_some hB
        obtain ⟨x4q, ex4q, hB⟩ := hB
        refine r_getA f82_85 fa_5_49 ex4q ?_
        replace hB := bnd_some hB
        obtain ⟨u5q, rfl, hB⟩ := hB
        replace hB := grd_some hB
        obtain ⟨g8q, hB⟩ := hB
        replace hB := bn2_some hB
        obtain ⟨h6q, _, eh6q, hB⟩ := hB
        refine r_virtN (as := []) (q := pm_m_18) f82_88 ca_5_183 rfl rfl rfl (cs_len (Nat.le_of_ble_eq_true rfl)) g8q (P_L_pass (d := d + 0) eh6q) ?_
        refine r_aload f82_91 rfl ?_
        refine r_iload f82_93 rfl ?_
        refine r_aloadN f82_95 rfl ?_
        replace hB := grd_some hB
        obtain ⟨g11q, hB⟩ := hB
        replace hB := bn2_some hB
        obtain ⟨h9q, x10q, eh9q, hB⟩ := hB
        refine r_virtV (as := []) (q := pm_m_5) f82_97 ca_5_202 rfl rfl rfl (cs_len (Nat.le_of_ble_eq_true rfl)) g11q (P_D_frontOrGone (d := d + 4) eh9q) ?_
        replace hB := bnd_some hB
        obtain ⟨u12q, rfl, hB⟩ := hB
        replace hB := grd_some hB
        obtain ⟨g15q, hB⟩ := hB
        replace hB := bn2_some hB
        obtain ⟨h13q, _, eh13q, hB⟩ := hB
        refine r_virtN (as := [.int l6, .int x10q]) (q := pm_m_31) f82_100 ca_5_242 rfl rfl rfl (cs_len (Nat.le_of_ble_eq_true rfl)) g15q (P_S_write (d := d + 4) eh13q) ?_
        obtain ⟨y16q, hy16q⟩ : ∃ z, z = l6 + 1 := ⟨_, rfl⟩
        replace hB := nmd_at hy16q hB
        refine r_iinc (L' := [.ref l0, pm_J, pm_J, .int l3, .ref u12q, .ref u3q, .int y16q]) (x := y16q) f82_103 rfl (hy16q.trans (congrArg (l6 + ·) ci_1.symm)) rfl ?_
        refine r_goto (t := 73) f82_106 (by decide) ?_
        exact pm_weak (L' := [.ref l0, pm_J, pm_J, .int l3, va_rf (some u12q), va_rf (some u3q), .int y16q]) ⟨.inr rfl, .inl rfl, .inl rfl, .inr rfl, .inr rfl, .inr rfl, .inr rfl, trivial⟩ (ih h13q l0 l3 (some u12q) (some u3q) y16q hB)
theorem P_X_film {d : Nat} {h h' : pm_H} {r : Int32} {t : Nat} {a1 : Int32} {a2 : Int32} {a3 : Int32} (hB : X_film h t a1 a2 a3 = some (h', r)) : pm_ev (d + 6) 82 [.ref t, .int a1, .int a2, .int a3] h (some (.int r)) h' := by
  unfold X_film at hB
  refine pm_ev_mk (L := [.ref t, .int a1, .int a2, .int a3, pm_J, pm_J, pm_J]) pm_m_82 rfl (Nat.le_of_ble_eq_true rfl) rfl ?_
  refine r_aload_nN f82_0 rfl ?_
  refine r_iload_n f82_1 rfl ?_
  replace hB := grd_some hB
  obtain ⟨g3q, hB⟩ := hB
  replace hB := bn2_some hB
  obtain ⟨h1q, x2q, eh1q, hB⟩ := hB
  refine r_virtV (as := [.int a1]) (q := pm_m_98) f82_2 ca_5_215 rfl rfl rfl (cs_len (Nat.le_of_ble_eq_true rfl)) g3q (P_X_sheetAt (d := d + 4) eh1q) ?_
  refine r_astore (L' := [.ref t, .int a1, .int a2, .int a3, va_rf x2q, pm_J, pm_J]) f82_5 (Nat.le_of_ble_eq_true rfl) rfl ?_
  refine r_aload f82_7 rfl ?_
  cases x2q with
  | none =>
    refine r_nn_f 15 f82_9 (by decide) rfl ?_
    refine r_bipush f82_12 cb_m2 ?_
    exact r_iret pm_m_82 .int f82_14 rfl rfl rfl (zI hB)
  | some u5q =>
    refine r_nn_t (t := 15) (r := some u5q) f82_9 (by decide) (by simp) ?_
    dsimp only at hB
    refine r_aload_nN f82_15 rfl ?_
    replace hB := bnd_some hB
    obtain ⟨x6q, ex6q, hB⟩ := hB
    refine r_getA f82_16 fa_5_45 ex6q ?_
    refine r_iload_n f82_19 rfl ?_
    replace hB := bnd_some hB
    obtain ⟨u7q, rfl, hB⟩ := hB
    replace hB := grd_some hB
    obtain ⟨g10q, hB⟩ := hB
    replace hB := bn2_some hB
    obtain ⟨h8q, x9q, eh8q, hB⟩ := hB
    refine r_virtV (as := [.int a2]) (q := pm_m_11) f82_20 ca_5_120 rfl rfl rfl (cs_len (Nat.le_of_ble_eq_true rfl)) g10q (P_L_standing (d := d + 4) eh8q) ?_
    cases x9q with
    | none =>
      refine r_nn_f 29 f82_23 (by decide) rfl ?_
      refine r_bipush f82_26 cb_m5 ?_
      exact r_iret pm_m_82 .int f82_28 rfl rfl rfl (zI hB)
    | some u12q =>
      refine r_nn_t (t := 29) (r := some u12q) f82_23 (by decide) (by simp) ?_
      dsimp only at hB
      refine r_iload_n f82_29 rfl ?_
      refine r_iconst f82_30 ci_0 ?_
      refine r_bipush f82_31 cb_20 ?_
      replace hB := bn2_some hB
      obtain ⟨h13q, x14q, eh13q, hB⟩ := hB
      refine r_statV (as := [.int a3, .int 0, .int 20]) (q := pm_m_92) f82_33 ca_5_90 rfl (by decide) rfl rfl (cs_len (Nat.le_of_ble_eq_true rfl)) (P_X_within (d := d + 4) eh13q) ?_
      by_cases c15q : x14q = 0
      · rw [if_pos c15q] at hB
        refine r_if_f 42 f82_36 (by decide) (fun q => q c15q) ?_
        refine r_bipush f82_39 cb_m7 ?_
        exact r_iret pm_m_82 .int f82_41 rfl rfl rfl (zI hB)
      · rw [if_neg c15q] at hB
        refine r_if_t (t := 42) f82_36 (by decide) c15q ?_
        refine r_aloadN f82_42 rfl ?_
        refine r_iconst f82_44 ci_0 ?_
        refine r_iload_n f82_45 rfl ?_
        replace hB := grd_some hB
        obtain ⟨g18q, hB⟩ := hB
        replace hB := bn2_some hB
        obtain ⟨h16q, _, eh16q, hB⟩ := hB
        refine r_virtN (as := [.int 0, .int a3]) (q := pm_m_30) f82_46 ca_5_239 rfl rfl rfl (cs_len (Nat.le_of_ble_eq_true rfl)) g18q (P_S_becomeRow (d := d + 3) eh16q) ?_
        refine r_aload_nN f82_49 rfl ?_
        replace hB := bnd_some hB
        obtain ⟨x19q, ex19q, hB⟩ := hB
        refine r_getA f82_50 fa_5_49 ex19q ?_
        refine r_aload_nN f82_53 rfl ?_
        replace hB := bnd_some hB
        obtain ⟨x20q, ex20q, hB⟩ := hB
        refine r_getA f82_54 fa_5_45 ex20q ?_
        replace hB := bnd_some hB
        obtain ⟨u21q, rfl, hB⟩ := hB
        replace hB := grd_some hB
        obtain ⟨g24q, hB⟩ := hB
        replace hB := bn2_some hB
        obtain ⟨h22q, _, eh22q, hB⟩ := hB
        refine r_virtN (as := [va_rf x20q]) (q := pm_m_10) f82_57 ca_5_186 rfl rfl rfl (cs_len (Nat.le_of_ble_eq_true rfl)) g24q (P_L_become (d := d + 3) eh22q) ?_
        refine r_aload_nN f82_60 rfl ?_
        replace hB := bnd_some hB
        obtain ⟨x25q, ex25q, hB⟩ := hB
        refine r_getA f82_61 fa_5_49 ex25q ?_
        refine r_iload_n f82_64 rfl ?_
        replace hB := bnd_some hB
        obtain ⟨u26q, rfl, hB⟩ := hB
        replace hB := grd_some hB
        obtain ⟨g29q, hB⟩ := hB
        replace hB := bn2_some hB
        obtain ⟨h27q, x28q, eh27q, hB⟩ := hB
        refine r_virtV (as := [.int a2]) (q := pm_m_11) f82_65 ca_5_120 rfl rfl rfl (cs_len (Nat.le_of_ble_eq_true rfl)) g29q (P_L_standing (d := d + 4) eh27q) ?_
        refine r_astore (L' := [.ref t, .int a1, .int a2, .int a3, .ref u5q, va_rf x28q, pm_J]) f82_68 (Nat.le_of_ble_eq_true rfl) rfl ?_
        refine r_iconst f82_70 ci_0 ?_
        refine r_istore (L' := [.ref t, .int a1, .int a2, .int a3, .ref u5q, va_rf x28q, .int 0]) (x := 0) f82_71 rfl (Nat.le_of_ble_eq_true rfl) (st1_A 5 (r := x28q) rfl rfl rfl) ?_
        exact pm_weak (L' := [.ref t, pm_J, pm_J, .int a3, va_rf (some u5q), va_rf x28q, .int 0]) ⟨.inr rfl, .inl rfl, .inl rfl, .inr rfl, .inr rfl, .inr rfl, .inr rfl, trivial⟩ (P_X_film_73 (d := d) 1000 h27q t a3 (some u5q) x28q 0 hB)
theorem P_X_blowInThought_79 {d : Nat} {h' : pm_H} {r : Int32} (k_21 : pm_H → Nat → Int32 → Int64 → Int32 → Option (pm_H × Int32)) (hk_21 : ∀ (h : pm_H) (l0 : Nat) (l2 : Int32) (l3 : Int64) (l5 : Int32), k_21 h l0 l2 l3 l5 = some (h', r) → pm_run (pm_ev (d + 6)) 106 21 [.ref l0, pm_J, .int l2, .long l3, pm_J, .int l5, pm_J] [] h (fun r1 h1 => r1 = some (.int r) ∧ h1 = h')) (h : pm_H) (l0 : Nat) (l2 : Int32) (l3 : Int64) (l5 : Int32) (hB : X_blowInThought_79 k_21 h l0 l2 l3 l5 = some (h', r)) : pm_run (pm_ev (d + 6)) 106 79 [.ref l0, pm_J, .int l2, .long l3, pm_J, .int l5, pm_J] [] h (fun r1 h1 => r1 = some (.int r) ∧ h1 = h') := by
  unfold X_blowInThought_79 at hB
  refine r_iload_n f106_79 rfl ?_
  refine r_aload_nN f106_80 rfl ?_
  refine r_iconst f106_81 ci_1 ?_
  replace hB := grd_some hB
  obtain ⟨g3q, hB⟩ := hB
  replace hB := bn2_some hB
  obtain ⟨h1q, x2q, eh1q, hB⟩ := hB
  refine r_virtV (as := [.int 1]) (q := pm_m_101) f106_82 ca_5_190 rfl rfl rfl (cs_len (Nat.le_of_ble_eq_true rfl)) g3q (P_X_passInThought (d := d + 0) eh1q) ?_
  refine r_iadd f106_85 ?_
  obtain ⟨y4q, hy4q⟩ : ∃ z, z = (l2 + x2q) := ⟨_, rfl⟩
  replace hB := nmd_at hy4q hB
  refine r_istore_n (L' := [.ref l0, pm_J, .int y4q, .long l3, pm_J, .int l5, pm_J]) (x := y4q) f106_86 hy4q (Nat.le_of_ble_eq_true rfl) rfl ?_
  obtain ⟨y5q, hy5q⟩ : ∃ z, z = l5 + 1 := ⟨_, rfl⟩
  replace hB := nmd_at hy5q hB
  refine r_iinc (L' := [.ref l0, pm_J, .int y4q, .long l3, pm_J, .int y5q, pm_J]) (x := y5q) f106_87 rfl (hy5q.trans (congrArg (l5 + ·) ci_1.symm)) rfl ?_
  refine r_goto (t := 21) f106_90 (by decide) ?_
  exact pm_weak (L' := [.ref l0, pm_J, .int y4q, .long l3, pm_J, .int y5q, pm_J]) ⟨.inr rfl, .inl rfl, .inr rfl, .inr rfl, .inl rfl, .inr rfl, .inl rfl, trivial⟩ (hk_21 h1q l0 y4q l3 y5q hB)
theorem P_X_blowInThought_21 {d : Nat} {h' : pm_H} {r : Int32} (n : Nat) : ∀ (h : pm_H) (l0 : Nat) (l2 : Int32) (l3 : Int64) (l5 : Int32), X_blowInThought_21 n h l0 l2 l3 l5 = some (h', r) → pm_run (pm_ev (d + 6)) 106 21 [.ref l0, pm_J, .int l2, .long l3, pm_J, .int l5, pm_J] [] h (fun r1 h1 => r1 = some (.int r) ∧ h1 = h') := by
  induction n with
  | zero => intro h l0 l2 l3 l5 hB; cases hB
  | succ n ih =>
    intro h l0 l2 l3 l5 hB
    unfold X_blowInThought_21 at hB
    refine r_iload f106_21 rfl ?_
    refine r_bipush f106_23 cb_6 ?_
    by_cases c1q : 6 ≤ l5
    · rw [if_pos c1q] at hB
      refine r_ic_t (t := 93) f106_25 (by decide) c1q ?_
      refine r_iload_n f106_93 rfl ?_
      exact r_iret pm_m_106 .int f106_94 rfl rfl rfl (zI hB)
    · rw [if_neg c1q] at hB
      refine r_ic_f 93 f106_25 (by decide) c1q ?_
      refine r_lload_n f106_28 rfl ?_
      refine r_ldc2_w (v := 48271) (p := 734) f106_29 rfl ?_
      refine r_lmul f106_32 ?_
      refine r_ldc2_w (v := 2147483647) (p := 735) f106_33 rfl ?_
      refine r_lrem f106_36 nz_l_2147483647 ?_
      obtain ⟨y2q, hy2q⟩ : ∃ z, z = ((l3 * 48271) - (l3 * 48271) / 2147483647 * 2147483647) := ⟨_, rfl⟩
      replace hB := nmd_at hy2q hB
      refine r_lstore_n (L' := [.ref l0, pm_J, .int l2, .long y2q, pm_J, .int l5, pm_J]) (x := y2q) f106_37 hy2q (Nat.le_of_ble_eq_true rfl) rfl ?_
      refine r_aload_nN f106_38 rfl ?_
      replace hB := bnd_some hB
      obtain ⟨x3q, ex3q, hB⟩ := hB
      refine r_getA f106_39 fa_5_49 ex3q ?_
      refine r_lload_n f106_42 rfl ?_
      refine r_ldc2_w (v := 6) (p := 736) f106_43 rfl ?_
      refine r_lrem f106_46 nz_l_6 ?_
      refine r_l2i f106_47 ?_
      replace hB := bnd_some hB
      obtain ⟨u4q, rfl, hB⟩ := hB
      replace hB := grd_some hB
      obtain ⟨g7q, hB⟩ := hB
      replace hB := bn2_some hB
      obtain ⟨h5q, x6q, eh5q, hB⟩ := hB
      refine r_virtV (as := [.int (Int64.toInt32 (y2q - y2q / 6 * 6))]) (q := pm_m_11) f106_48 ca_5_120 rfl rfl rfl (cs_len (Nat.le_of_ble_eq_true rfl)) g7q (P_L_standing (d := d + 5) eh5q) ?_
      refine r_astore (L' := [.ref l0, pm_J, .int l2, .long y2q, pm_J, .int l5, va_rf x6q]) f106_51 (Nat.le_of_ble_eq_true rfl) rfl ?_
      refine r_lload_n f106_53 rfl ?_
      refine r_ldc2_w (v := 48271) (p := 734) f106_54 rfl ?_
      refine r_lmul f106_57 ?_
      refine r_ldc2_w (v := 2147483647) (p := 735) f106_58 rfl ?_
      refine r_lrem f106_61 nz_l_2147483647 ?_
      obtain ⟨y8q, hy8q⟩ : ∃ z, z = ((y2q * 48271) - (y2q * 48271) / 2147483647 * 2147483647) := ⟨_, rfl⟩
      replace hB := nmd_at hy8q hB
      refine r_lstore_n (L' := [.ref l0, pm_J, .int l2, .long y8q, pm_J, .int l5, va_rf x6q]) (x := y8q) f106_62 hy8q (Nat.le_of_ble_eq_true rfl) rfl ?_
      refine r_aload f106_63 rfl ?_
      cases x6q with
      | none =>
        refine r_in_t (t := 79) f106_65 (by decide) rfl ?_
        exact pm_weak (L' := [.ref l0, pm_J, .int l2, .long y8q, pm_J, .int l5, pm_J]) ⟨.inr rfl, .inl rfl, .inr rfl, .inr rfl, .inl rfl, .inr rfl, .inl rfl, trivial⟩ (P_X_blowInThought_79 (d := d) (X_blowInThought_21 n) ih h5q l0 l2 y8q l5 hB)
      | some u10q =>
        refine r_in_f 79 (r := some u10q) f106_65 (by decide) (by simp) ?_
        dsimp only at hB
        refine r_aloadN f106_68 rfl ?_
        refine r_lload_n f106_70 rfl ?_
        refine r_ldc2_w (v := 4) (p := 737) f106_71 rfl ?_
        refine r_lrem f106_74 nz_l_4 ?_
        refine r_l2i f106_75 ?_
        replace hB := grd_some hB
        obtain ⟨g13q, hB⟩ := hB
        replace hB := bn2_some hB
        obtain ⟨h11q, _, eh11q, hB⟩ := hB
        refine r_virtN (as := [.int (Int64.toInt32 (y8q - y8q / 4 * 4))]) (q := pm_m_7) f106_76 ca_5_290 rfl rfl rfl (cs_len (Nat.le_of_ble_eq_true rfl)) g13q (P_D_walk (d := d + 4) eh11q) ?_
        exact pm_weak (L' := [.ref l0, pm_J, .int l2, .long y8q, pm_J, .int l5, pm_J]) ⟨.inr rfl, .inl rfl, .inr rfl, .inr rfl, .inl rfl, .inr rfl, .inl rfl, trivial⟩ (P_X_blowInThought_79 (d := d) (X_blowInThought_21 n) ih h11q l0 l2 y8q l5 hB)
theorem P_X_blowInThought {d : Nat} {h h' : pm_H} {r : Int32} {t : Nat} {a1 : Int32} (hB : X_blowInThought h t a1 = some (h', r)) : pm_ev (d + 7) 106 [.ref t, .int a1] h (some (.int r)) h' := by
  unfold X_blowInThought at hB
  refine pm_ev_mk (L := [.ref t, .int a1, pm_J, pm_J, pm_J, pm_J, pm_J]) pm_m_106 rfl (Nat.le_of_ble_eq_true rfl) rfl ?_
  refine r_aload_nN f106_0 rfl ?_
  replace hB := bnd_some hB
  obtain ⟨x1q, ex1q, hB⟩ := hB
  refine r_getA f106_1 fa_5_49 ex1q ?_
  refine r_aload_nN f106_4 rfl ?_
  replace hB := bnd_some hB
  obtain ⟨x2q, ex2q, hB⟩ := hB
  refine r_getA f106_5 fa_5_45 ex2q ?_
  replace hB := bnd_some hB
  obtain ⟨u3q, rfl, hB⟩ := hB
  replace hB := grd_some hB
  obtain ⟨g6q, hB⟩ := hB
  replace hB := bn2_some hB
  obtain ⟨h4q, _, eh4q, hB⟩ := hB
  refine r_virtN (as := [va_rf x2q]) (q := pm_m_10) f106_8 ca_5_186 rfl rfl rfl (cs_len (Nat.le_of_ble_eq_true rfl)) g6q (P_L_become (d := d + 4) eh4q) ?_
  refine r_iconst f106_11 ci_0 ?_
  refine r_istore_n (L' := [.ref t, .int a1, .int 0, pm_J, pm_J, pm_J, pm_J]) (x := 0) f106_12 rfl (Nat.le_of_ble_eq_true rfl) rfl ?_
  refine r_iload_n f106_13 rfl ?_
  refine r_i2l f106_14 ?_
  refine r_lconst f106_15 cl_1 ?_
  refine r_ladd f106_16 ?_
  obtain ⟨y7q, hy7q⟩ : ∃ z, z = ((Int32.toInt64 a1) + 1) := ⟨_, rfl⟩
  replace hB := nmd_at hy7q hB
  refine r_lstore_n (L' := [.ref t, .int a1, .int 0, .long y7q, pm_J, pm_J, pm_J]) (x := y7q) f106_17 hy7q (Nat.le_of_ble_eq_true rfl) rfl ?_
  refine r_iconst f106_18 ci_0 ?_
  refine r_istore (L' := [.ref t, .int a1, .int 0, .long y7q, pm_J, .int 0, pm_J]) (x := 0) f106_19 rfl (Nat.le_of_ble_eq_true rfl) rfl ?_
  exact pm_weak (L' := [.ref t, pm_J, .int 0, .long y7q, pm_J, .int 0, pm_J]) ⟨.inr rfl, .inl rfl, .inr rfl, .inr rfl, .inl rfl, .inr rfl, .inl rfl, trivial⟩ (P_X_blowInThought_21 (d := d) 1000 h4q t 0 y7q 0 hB)
theorem P_X_drawn {d : Nat} {h h' : pm_H} {r : Int32} {t : Nat} {a1 : Int32} {a2 : Int32} (hB : X_drawn h t a1 a2 = some (h', r)) : pm_ev (d + 8) 83 [.ref t, .int a1, .int a2] h (some (.int r)) h' := by
  unfold X_drawn at hB
  refine pm_ev_mk (L := [.ref t, .int a1, .int a2, pm_J]) pm_m_83 rfl (Nat.le_of_ble_eq_true rfl) rfl ?_
  refine r_iload_n f83_0 rfl ?_
  refine r_iconst f83_1 ci_0 ?_
  refine r_ldc (v := 99999) (p := 729) f83_2 rfl ?_
  replace hB := bn2_some hB
  obtain ⟨h1q, x2q, eh1q, hB⟩ := hB
  refine r_statV (as := [.int a1, .int 0, .int 99999]) (q := pm_m_92) f83_4 ca_5_90 rfl (by decide) rfl rfl (cs_len (Nat.le_of_ble_eq_true rfl)) (P_X_within (d := d + 6) eh1q) ?_
  by_cases c3q : x2q = 0
  · rw [if_pos c3q] at hB
    refine r_if_t (t := 19) f83_7 (by decide) c3q ?_
    refine r_bipush f83_19 cb_m2 ?_
    exact r_iret pm_m_83 .int f83_21 rfl rfl rfl (zI hB)
  · rw [if_neg c3q] at hB
    refine r_if_f 19 f83_7 (by decide) c3q ?_
    refine r_iload_n f83_10 rfl ?_
    refine r_iconst f83_11 ci_0 ?_
    refine r_iconst f83_12 ci_1 ?_
    replace hB := bn2_some hB
    obtain ⟨h4q, x5q, eh4q, hB⟩ := hB
    refine r_statV (as := [.int a2, .int 0, .int 1]) (q := pm_m_92) f83_13 ca_5_90 rfl (by decide) rfl rfl (cs_len (Nat.le_of_ble_eq_true rfl)) (P_X_within (d := d + 6) eh4q) ?_
    by_cases c6q : x5q = 0
    · rw [if_pos c6q] at hB
      refine r_if_f 22 f83_16 (by decide) (fun q => q c6q) ?_
      refine r_bipush f83_19 cb_m2 ?_
      exact r_iret pm_m_83 .int f83_21 rfl rfl rfl (zI hB)
    · rw [if_neg c6q] at hB
      refine r_if_t (t := 22) f83_16 (by decide) c6q ?_
      refine r_aload_nN f83_22 rfl ?_
      refine r_iload_n f83_23 rfl ?_
      replace hB := grd_some hB
      obtain ⟨g9q, hB⟩ := hB
      replace hB := bn2_some hB
      obtain ⟨h7q, x8q, eh7q, hB⟩ := hB
      refine r_virtV (as := [.int a1]) (q := pm_m_106) f83_24 ca_5_246 rfl rfl rfl (cs_len (Nat.le_of_ble_eq_true rfl)) g9q (P_X_blowInThought (d := d + 0) eh7q) ?_
      refine r_istore_n (L' := [.ref t, .int a1, .int a2, .int x8q]) (x := x8q) f83_27 rfl (Nat.le_of_ble_eq_true rfl) rfl ?_
      refine r_iload_n f83_28 rfl ?_
      by_cases c10q : a2 = 0
      · rw [if_pos c10q] at hB
        refine r_if_f 36 f83_29 (by decide) (fun q => q c10q) ?_
        refine r_iload_n f83_32 rfl ?_
        refine r_goto (t := 43) f83_33 (by decide) ?_
        exact r_iret pm_m_83 .int f83_43 rfl rfl rfl (zI hB)
      · rw [if_neg c10q] at hB
        refine r_if_t (t := 36) f83_29 (by decide) c10q ?_
        refine r_aload_nN f83_36 rfl ?_
        replace hB := bnd_some hB
        obtain ⟨x11q, ex11q, hB⟩ := hB
        refine r_getA f83_37 fa_5_49 ex11q ?_
        replace hB := bnd_some hB
        obtain ⟨u12q, rfl, hB⟩ := hB
        replace hB := grd_some hB
        obtain ⟨g15q, hB⟩ := hB
        replace hB := bn2_some hB
        obtain ⟨h13q, x14q, eh13q, hB⟩ := hB
        refine r_virtV (as := []) (q := pm_m_12) f83_40 ca_5_55 rfl rfl rfl (cs_len (Nat.le_of_ble_eq_true rfl)) g15q (P_L_living (d := d + 6) eh13q) ?_
        exact r_iret pm_m_83 .int f83_43 rfl rfl rfl (zI hB)
theorem P_X_odds_84 {d : Nat} {h' : pm_H} {r : Int64} (k_63 : pm_H → Nat → Int32 → Int32 → Int32 → Int32 → Int32 → Int32 → Option (pm_H × Int64)) (hk_63 : ∀ (h : pm_H) (l0 : Nat) (l1 : Int32) (l2 : Int32) (l3 : Int32) (l4 : Int32) (l6 : Int32) (l7 : Int32), k_63 h l0 l1 l2 l3 l4 l6 l7 = some (h', r) → pm_run (pm_ev (d + 7)) 84 63 [.ref l0, .int l1, .int l2, .int l3, .int l4, pm_J, .int l6, .int l7] [] h (fun r1 h1 => r1 = some (.long r) ∧ h1 = h')) (h : pm_H) (l0 : Nat) (l1 : Int32) (l2 : Int32) (l3 : Int32) (l4 : Int32) (l6 : Int32) (l7 : Int32) (hB : X_odds_84 k_63 h l0 l1 l2 l3 l4 l6 l7 = some (h', r)) : pm_run (pm_ev (d + 7)) 84 84 [.ref l0, .int l1, .int l2, .int l3, .int l4, pm_J, .int l6, .int l7] [] h (fun r1 h1 => r1 = some (.long r) ∧ h1 = h') := by
  unfold X_odds_84 at hB
  obtain ⟨y1q, hy1q⟩ : ∃ z, z = l7 + 1 := ⟨_, rfl⟩
  replace hB := nmd_at hy1q hB
  refine r_iinc (L' := [.ref l0, .int l1, .int l2, .int l3, .int l4, pm_J, .int l6, .int y1q]) (x := y1q) f84_84 rfl (hy1q.trans (congrArg (l7 + ·) ci_1.symm)) rfl ?_
  refine r_goto (t := 63) f84_87 (by decide) ?_
  exact pm_weak (L' := [.ref l0, .int l1, .int l2, .int l3, .int l4, pm_J, .int l6, .int y1q]) ⟨.inr rfl, .inr rfl, .inr rfl, .inr rfl, .inr rfl, .inl rfl, .inr rfl, .inr rfl, trivial⟩ (hk_63 h l0 l1 l2 l3 l4 l6 y1q hB)
theorem P_X_odds_63 {d : Nat} {h' : pm_H} {r : Int64} (n : Nat) : ∀ (h : pm_H) (l0 : Nat) (l1 : Int32) (l2 : Int32) (l3 : Int32) (l4 : Int32) (l6 : Int32) (l7 : Int32), X_odds_63 n h l0 l1 l2 l3 l4 l6 l7 = some (h', r) → pm_run (pm_ev (d + 7)) 84 63 [.ref l0, .int l1, .int l2, .int l3, .int l4, pm_J, .int l6, .int l7] [] h (fun r1 h1 => r1 = some (.long r) ∧ h1 = h') := by
  induction n with
  | zero => intro h l0 l1 l2 l3 l4 l6 l7 hB; cases hB
  | succ n ih =>
    intro h l0 l1 l2 l3 l4 l6 l7 hB
    unfold X_odds_63 at hB
    refine r_iload f84_63 rfl ?_
    refine r_iload_n f84_65 rfl ?_
    by_cases c1q : l2 ≤ l7
    · rw [if_pos c1q] at hB
      refine r_ic_t (t := 90) f84_66 (by decide) c1q ?_
      refine r_iload f84_90 rfl ?_
      refine r_iload_n f84_92 rfl ?_
      refine r_iload f84_93 rfl ?_
      replace hB := bn2_some hB
      obtain ⟨h2q, x3q, eh2q, hB⟩ := hB
      refine r_statV (as := [.int l6, .int l2, .int l4]) (q := pm_m_107) f84_95 ca_5_211 rfl (by decide) rfl rfl (cs_len (Nat.le_of_ble_eq_true rfl)) (P_X_inLowestTerms (d := d + 6) eh2q) ?_
      exact r_lret pm_m_84 f84_98 rfl rfl (zJ hB)
    · rw [if_neg c1q] at hB
      refine r_ic_f 90 f84_66 (by decide) c1q ?_
      refine r_aload_nN f84_69 rfl ?_
      refine r_iload_n f84_70 rfl ?_
      refine r_iload f84_71 rfl ?_
      refine r_iadd f84_73 ?_
      replace hB := grd_some hB
      obtain ⟨g6q, hB⟩ := hB
      replace hB := bn2_some hB
      obtain ⟨h4q, x5q, eh4q, hB⟩ := hB
      refine r_virtV (as := [.int (l1 + l7)]) (q := pm_m_106) f84_74 ca_5_246 rfl rfl rfl (cs_len (Nat.le_of_ble_eq_true rfl)) g6q (P_X_blowInThought (d := d + 0) eh4q) ?_
      refine r_iload_n f84_77 rfl ?_
      by_cases c7q : x5q < l3
      · rw [if_pos c7q] at hB
        refine r_ic_t (t := 84) f84_78 (by decide) c7q ?_
        exact pm_weak (L' := [.ref l0, .int l1, .int l2, .int l3, .int l4, pm_J, .int l6, .int l7]) ⟨.inr rfl, .inr rfl, .inr rfl, .inr rfl, .inr rfl, .inl rfl, .inr rfl, .inr rfl, trivial⟩ (P_X_odds_84 (d := d) (X_odds_63 n) ih h4q l0 l1 l2 l3 l4 l6 l7 hB)
      · rw [if_neg c7q] at hB
        refine r_ic_f 84 f84_78 (by decide) c7q ?_
        obtain ⟨y8q, hy8q⟩ : ∃ z, z = l6 + 1 := ⟨_, rfl⟩
        replace hB := nmd_at hy8q hB
        refine r_iinc (L' := [.ref l0, .int l1, .int l2, .int l3, .int l4, pm_J, .int y8q, .int l7]) (x := y8q) f84_81 rfl (hy8q.trans (congrArg (l6 + ·) ci_1.symm)) rfl ?_
        exact pm_weak (L' := [.ref l0, .int l1, .int l2, .int l3, .int l4, pm_J, .int y8q, .int l7]) ⟨.inr rfl, .inr rfl, .inr rfl, .inr rfl, .inr rfl, .inl rfl, .inr rfl, .inr rfl, trivial⟩ (P_X_odds_84 (d := d) (X_odds_63 n) ih h4q l0 l1 l2 l3 l4 y8q l7 hB)
theorem P_X_odds_25 {d : Nat} {h' : pm_H} {r : Int64} (h : pm_H) (l0 : Nat) (l1 : Int32) (l2 : Int32) (l3 : Int32) (l4 : Int32) (s0 : Int32) (hB : X_odds_25 h l0 l1 l2 l3 l4 s0 = some (h', r)) : pm_run (pm_ev (d + 7)) 84 25 [.ref l0, .int l1, .int l2, .int l3, .int l4, pm_J, pm_J, pm_J] [.int s0] h (fun r1 h1 => r1 = some (.long r) ∧ h1 = h') := by
  unfold X_odds_25 at hB
  refine r_istore (L' := [.ref l0, .int l1, .int l2, .int l3, .int l4, .int s0, pm_J, pm_J]) (x := s0) f84_25 rfl (Nat.le_of_ble_eq_true rfl) rfl ?_
  refine r_iload f84_27 rfl ?_
  by_cases c1q : s0 = 0
  · rw [if_pos c1q] at hB
    refine r_if_t (t := 53) f84_29 (by decide) c1q ?_
    refine r_ldc2_w (v := (-4611686018427387904)) (p := 305) f84_53 rfl ?_
    exact r_lret pm_m_84 f84_56 rfl rfl (zJ hB)
  · rw [if_neg c1q] at hB
    refine r_if_f 53 f84_29 (by decide) c1q ?_
    refine r_iload_n f84_32 rfl ?_
    refine r_iconst f84_33 ci_0 ?_
    refine r_sipush f84_34 cs_999 ?_
    replace hB := bn2_some hB
    obtain ⟨h2q, x3q, eh2q, hB⟩ := hB
    refine r_statV (as := [.int l3, .int 0, .int 999]) (q := pm_m_92) f84_37 ca_5_90 rfl (by decide) rfl rfl (cs_len (Nat.le_of_ble_eq_true rfl)) (P_X_within (d := d + 6) eh2q) ?_
    by_cases c4q : x3q = 0
    · rw [if_pos c4q] at hB
      refine r_if_t (t := 53) f84_40 (by decide) c4q ?_
      refine r_ldc2_w (v := (-4611686018427387904)) (p := 305) f84_53 rfl ?_
      exact r_lret pm_m_84 f84_56 rfl rfl (zJ hB)
    · rw [if_neg c4q] at hB
      refine r_if_f 53 f84_40 (by decide) c4q ?_
      refine r_iload f84_43 rfl ?_
      refine r_iconst f84_45 ci_0 ?_
      refine r_iconst f84_46 ci_1 ?_
      replace hB := bn2_some hB
      obtain ⟨h5q, x6q, eh5q, hB⟩ := hB
      refine r_statV (as := [.int l4, .int 0, .int 1]) (q := pm_m_92) f84_47 ca_5_90 rfl (by decide) rfl rfl (cs_len (Nat.le_of_ble_eq_true rfl)) (P_X_within (d := d + 6) eh5q) ?_
      by_cases c7q : x6q = 0
      · rw [if_pos c7q] at hB
        refine r_if_f 57 f84_50 (by decide) (fun q => q c7q) ?_
        refine r_ldc2_w (v := (-4611686018427387904)) (p := 305) f84_53 rfl ?_
        exact r_lret pm_m_84 f84_56 rfl rfl (zJ hB)
      · rw [if_neg c7q] at hB
        refine r_if_t (t := 57) f84_50 (by decide) c7q ?_
        refine r_iconst f84_57 ci_0 ?_
        refine r_istore (L' := [.ref l0, .int l1, .int l2, .int l3, .int l4, .int s0, .int 0, pm_J]) (x := 0) f84_58 rfl (Nat.le_of_ble_eq_true rfl) rfl ?_
        refine r_iconst f84_60 ci_0 ?_
        refine r_istore (L' := [.ref l0, .int l1, .int l2, .int l3, .int l4, .int s0, .int 0, .int 0]) (x := 0) f84_61 rfl (Nat.le_of_ble_eq_true rfl) rfl ?_
        exact pm_weak (L' := [.ref l0, .int l1, .int l2, .int l3, .int l4, pm_J, .int 0, .int 0]) ⟨.inr rfl, .inr rfl, .inr rfl, .inr rfl, .inr rfl, .inl rfl, .inr rfl, .inr rfl, trivial⟩ (P_X_odds_63 (d := d) 1000 h5q l0 l1 l2 l3 l4 0 0 hB)
theorem P_X_odds_24 {d : Nat} {h' : pm_H} {r : Int64} (h : pm_H) (l0 : Nat) (l1 : Int32) (l2 : Int32) (l3 : Int32) (l4 : Int32) (hB : X_odds_24 h l0 l1 l2 l3 l4 = some (h', r)) : pm_run (pm_ev (d + 7)) 84 24 [.ref l0, .int l1, .int l2, .int l3, .int l4, pm_J, pm_J, pm_J] [] h (fun r1 h1 => r1 = some (.long r) ∧ h1 = h') := by
  unfold X_odds_24 at hB
  refine r_iconst f84_24 ci_0 ?_
  exact pm_weak (L' := [.ref l0, .int l1, .int l2, .int l3, .int l4, pm_J, pm_J, pm_J]) ⟨.inr rfl, .inr rfl, .inr rfl, .inr rfl, .inr rfl, .inl rfl, .inl rfl, .inl rfl, trivial⟩ (P_X_odds_25 (d := d) h l0 l1 l2 l3 l4 0 hB)
theorem P_X_odds {d : Nat} {h h' : pm_H} {r : Int64} {t : Nat} {a1 : Int32} {a2 : Int32} {a3 : Int32} {a4 : Int32} (hB : X_odds h t a1 a2 a3 a4 = some (h', r)) : pm_ev (d + 8) 84 [.ref t, .int a1, .int a2, .int a3, .int a4] h (some (.long r)) h' := by
  unfold X_odds at hB
  refine pm_ev_mk (L := [.ref t, .int a1, .int a2, .int a3, .int a4, pm_J, pm_J, pm_J]) pm_m_84 rfl (Nat.le_of_ble_eq_true rfl) rfl ?_
  refine r_iload_n f84_0 rfl ?_
  refine r_iconst f84_1 ci_0 ?_
  refine r_ldc (v := 99999) (p := 729) f84_2 rfl ?_
  replace hB := bn2_some hB
  obtain ⟨h1q, x2q, eh1q, hB⟩ := hB
  refine r_statV (as := [.int a1, .int 0, .int 99999]) (q := pm_m_92) f84_4 ca_5_90 rfl (by decide) rfl rfl (cs_len (Nat.le_of_ble_eq_true rfl)) (P_X_within (d := d + 6) eh1q) ?_
  by_cases c3q : x2q = 0
  · rw [if_pos c3q] at hB
    refine r_if_t (t := 24) f84_7 (by decide) c3q ?_
    exact pm_weak (L' := [.ref t, .int a1, .int a2, .int a3, .int a4, pm_J, pm_J, pm_J]) ⟨.inr rfl, .inr rfl, .inr rfl, .inr rfl, .inr rfl, .inl rfl, .inl rfl, .inl rfl, trivial⟩ (P_X_odds_24 (d := d) h1q t a1 a2 a3 a4 hB)
  · rw [if_neg c3q] at hB
    refine r_if_f 24 f84_7 (by decide) c3q ?_
    refine r_iload_n f84_10 rfl ?_
    refine r_iconst f84_11 ci_1 ?_
    refine r_bipush f84_12 cb_40 ?_
    replace hB := bn2_some hB
    obtain ⟨h4q, x5q, eh4q, hB⟩ := hB
    refine r_statV (as := [.int a2, .int 1, .int 40]) (q := pm_m_92) f84_14 ca_5_90 rfl (by decide) rfl rfl (cs_len (Nat.le_of_ble_eq_true rfl)) (P_X_within (d := d + 6) eh4q) ?_
    by_cases c6q : x5q = 0
    · rw [if_pos c6q] at hB
      refine r_if_t (t := 24) f84_17 (by decide) c6q ?_
      exact pm_weak (L' := [.ref t, .int a1, .int a2, .int a3, .int a4, pm_J, pm_J, pm_J]) ⟨.inr rfl, .inr rfl, .inr rfl, .inr rfl, .inr rfl, .inl rfl, .inl rfl, .inl rfl, trivial⟩ (P_X_odds_24 (d := d) h4q t a1 a2 a3 a4 hB)
    · rw [if_neg c6q] at hB
      refine r_if_f 24 f84_17 (by decide) c6q ?_
      refine r_iconst f84_20 ci_1 ?_
      refine r_goto (t := 25) f84_21 (by decide) ?_
      exact pm_weak (L' := [.ref t, .int a1, .int a2, .int a3, .int a4, pm_J, pm_J, pm_J]) ⟨.inr rfl, .inr rfl, .inr rfl, .inr rfl, .inr rfl, .inl rfl, .inl rfl, .inl rfl, trivial⟩ (P_X_odds_25 (d := d) h4q t a1 a2 a3 a4 1 hB)
theorem P_X_image_25 {d : Nat} {h' : pm_H} {r : Int32} (h : pm_H) (l0 : Nat) (hB : X_image_25 h l0 = some (h', r)) : pm_run (pm_ev (d + 2)) 85 25 [.ref l0] [] h (fun r1 h1 => r1 = some (.int r) ∧ h1 = h') := by
  unfold X_image_25 at hB
  refine r_aload_nN f85_25 rfl ?_
  replace hB := bnd_some hB
  obtain ⟨x1q, ex1q, hB⟩ := hB
  refine r_getA f85_26 fa_5_249 ex1q ?_
  refine r_aload_nN f85_29 rfl ?_
  replace hB := bnd_some hB
  obtain ⟨x2q, ex2q, hB⟩ := hB
  refine r_getA f85_30 fa_5_45 ex2q ?_
  replace hB := bnd_some hB
  obtain ⟨u3q, rfl, hB⟩ := hB
  replace hB := grd_some hB
  obtain ⟨g6q, hB⟩ := hB
  replace hB := bn2_some hB
  obtain ⟨h4q, _, eh4q, hB⟩ := hB
  refine r_virtN (as := [va_rf x2q]) (q := pm_m_10) f85_33 ca_5_186 rfl rfl rfl (cs_len (Nat.le_of_ble_eq_true rfl)) g6q (P_L_become (d := d + 0) eh4q) ?_
  refine r_aload_nN f85_36 rfl ?_
  replace hB := bnd_some hB
  obtain ⟨x7q, ex7q, hB⟩ := hB
  refine r_getA f85_37 fa_5_249 ex7q ?_
  replace hB := bnd_some hB
  obtain ⟨u8q, rfl, hB⟩ := hB
  replace hB := bnd_some hB
  obtain ⟨x9q, ex9q, hB⟩ := hB
  refine r_getI f85_40 fa_5_52 ex9q ?_
  exact r_iret pm_m_85 .int f85_43 rfl rfl rfl (zI hB)
theorem P_X_image {d : Nat} {h h' : pm_H} {r : Int32} {t : Nat} (hB : X_image h t = some (h', r)) : pm_ev (d + 3) 85 [.ref t] h (some (.int r)) h' := by
  unfold X_image at hB
  refine pm_ev_mk (L := [.ref t]) pm_m_85 rfl (Nat.le_of_ble_eq_true rfl) rfl ?_
  refine r_aload_nN f85_0 rfl ?_
  replace hB := bnd_some hB
  obtain ⟨x1q, ex1q, hB⟩ := hB
  refine r_getA f85_1 fa_5_249 ex1q ?_
  cases x1q with
  | none =>
    refine r_nn_f 25 f85_4 (by decide) rfl ?_
    refine r_aload_nN f85_7 rfl ?_
    refine r_new (ci := 1) f85_8 rfl ?_
    obtain ⟨b5q, hb5q⟩ : ∃ z, z = List.length h := ⟨_, rfl⟩
    replace hB := nmd_at hb5q hB
    obtain ⟨h4q, hh4q⟩ : ∃ z, z = h ++ [.inr (1, pm_new 1)] := ⟨_, rfl⟩
    replace hB := nmd_at hh4q hB
    rw [← hb5q, ← hh4q]
    refine r_dupN f85_11 ?_
    refine r_aload_nN f85_12 rfl ?_
    replace hB := bnd_some hB
    obtain ⟨x6q, ex6q, hB⟩ := hB
    refine r_getA f85_13 fa_5_45 ex6q ?_
    replace hB := bnd_some hB
    obtain ⟨u7q, rfl, hB⟩ := hB
    replace hB := bnd_some hB
    obtain ⟨x8q, ex8q, hB⟩ := hB
    refine r_getA f85_16 fa_5_80 ex8q ?_
    replace hB := bn2_some hB
    obtain ⟨h9q, _, eh9q, hB⟩ := hB
    refine r_ctor (as := [va_rf x8q]) (q := pm_m_9) f85_19 ca_5_42 rfl (by decide) rfl rfl (cs_len (Nat.le_of_ble_eq_true rfl)) (P_L_init (d := d + 0) eh9q) ?_
    replace hB := bnd_some hB
    obtain ⟨h11q, eh11q, hB⟩ := hB
    refine r_put f85_22 fa_5_249 ty_5_5 rfl rfl (no_fin (nf_5_5)) eh11q ?_
    exact pm_weak (L' := [.ref t]) ⟨.inr rfl, trivial⟩ (P_X_image_25 (d := d) h11q t hB)
  | some u3q =>
    refine r_nn_t (t := 25) (r := some u3q) f85_4 (by decide) (by simp) ?_
    dsimp only at hB
    exact pm_weak (L' := [.ref t]) ⟨.inr rfl, trivial⟩ (P_X_image_25 (d := d) h t hB)
theorem P_X_back {d : Nat} {h h' : pm_H} {r : Int32} {t : Nat} (hB : X_back h t = some (h', r)) : pm_ev (d + 3) 86 [.ref t] h (some (.int r)) h' := by
  unfold X_back at hB
  refine pm_ev_mk (L := [.ref t]) pm_m_86 rfl (Nat.le_of_ble_eq_true rfl) rfl ?_
  refine r_aload_nN f86_0 rfl ?_
  replace hB := bnd_some hB
  obtain ⟨x1q, ex1q, hB⟩ := hB
  refine r_getA f86_1 fa_5_249 ex1q ?_
  cases x1q with
  | none =>
    refine r_nn_f 10 f86_4 (by decide) rfl ?_
    refine r_bipush f86_7 cb_m3 ?_
    exact r_iret pm_m_86 .int f86_9 rfl rfl rfl (zI hB)
  | some u3q =>
    refine r_nn_t (t := 10) (r := some u3q) f86_4 (by decide) (by simp) ?_
    dsimp only at hB
    refine r_aload_nN f86_10 rfl ?_
    replace hB := bnd_some hB
    obtain ⟨x4q, ex4q, hB⟩ := hB
    refine r_getA f86_11 fa_5_45 ex4q ?_
    refine r_aload_nN f86_14 rfl ?_
    replace hB := bnd_some hB
    obtain ⟨x5q, ex5q, hB⟩ := hB
    refine r_getA f86_15 fa_5_249 ex5q ?_
    replace hB := bnd_some hB
    obtain ⟨u6q, rfl, hB⟩ := hB
    replace hB := grd_some hB
    obtain ⟨g9q, hB⟩ := hB
    replace hB := bn2_some hB
    obtain ⟨h7q, _, eh7q, hB⟩ := hB
    refine r_virtN (as := [va_rf x5q]) (q := pm_m_10) f86_18 ca_5_186 rfl rfl rfl (cs_len (Nat.le_of_ble_eq_true rfl)) g9q (P_L_become (d := d + 0) eh7q) ?_
    refine r_aload_nN f86_21 rfl ?_
    replace hB := bnd_some hB
    obtain ⟨x10q, ex10q, hB⟩ := hB
    refine r_getA f86_22 fa_5_45 ex10q ?_
    replace hB := bnd_some hB
    obtain ⟨u11q, rfl, hB⟩ := hB
    replace hB := bnd_some hB
    obtain ⟨x12q, ex12q, hB⟩ := hB
    refine r_getI f86_25 fa_5_52 ex12q ?_
    exact r_iret pm_m_86 .int f86_28 rfl rfl rfl (zI hB)
theorem P_X_sheet {d : Nat} {h h' : pm_H} {r : Int32} {t : Nat} {a1 : Int32} {a2 : Int32} {a3 : Int32} (hB : X_sheet h t a1 a2 a3 = some (h', r)) : pm_ev (d + 3) 87 [.ref t, .int a1, .int a2, .int a3] h (some (.int r)) h' := by
  unfold X_sheet at hB
  refine pm_ev_mk (L := [.ref t, .int a1, .int a2, .int a3, pm_J]) pm_m_87 rfl (Nat.le_of_ble_eq_true rfl) rfl ?_
  refine r_aload_nN f87_0 rfl ?_
  refine r_iload_n f87_1 rfl ?_
  replace hB := grd_some hB
  obtain ⟨g3q, hB⟩ := hB
  replace hB := bn2_some hB
  obtain ⟨h1q, x2q, eh1q, hB⟩ := hB
  refine r_virtV (as := [.int a1]) (q := pm_m_98) f87_2 ca_5_215 rfl rfl rfl (cs_len (Nat.le_of_ble_eq_true rfl)) g3q (P_X_sheetAt (d := d + 1) eh1q) ?_
  refine r_astore (L' := [.ref t, .int a1, .int a2, .int a3, va_rf x2q]) f87_5 (Nat.le_of_ble_eq_true rfl) rfl ?_
  refine r_aload f87_7 rfl ?_
  cases x2q with
  | none =>
    refine r_in_t (t := 21) f87_9 (by decide) rfl ?_
    refine r_bipush f87_21 cb_m2 ?_
    exact r_iret pm_m_87 .int f87_23 rfl rfl rfl (zI hB)
  | some u5q =>
    refine r_in_f 21 (r := some u5q) f87_9 (by decide) (by simp) ?_
    dsimp only at hB
    refine r_iload_n f87_12 rfl ?_
    refine r_iconst f87_13 ci_m1 ?_
    refine r_iconst f87_14 ci_2 ?_
    replace hB := bn2_some hB
    obtain ⟨h6q, x7q, eh6q, hB⟩ := hB
    refine r_statV (as := [.int a2, .int (-1), .int 2]) (q := pm_m_92) f87_15 ca_5_90 rfl (by decide) rfl rfl (cs_len (Nat.le_of_ble_eq_true rfl)) (P_X_within (d := d + 1) eh6q) ?_
    by_cases c8q : x7q = 0
    · rw [if_pos c8q] at hB
      refine r_if_f 24 f87_18 (by decide) (fun q => q c8q) ?_
      refine r_bipush f87_21 cb_m2 ?_
      exact r_iret pm_m_87 .int f87_23 rfl rfl rfl (zI hB)
    · rw [if_neg c8q] at hB
      refine r_if_t (t := 24) f87_18 (by decide) c8q ?_
      refine r_iload_n f87_24 rfl ?_
      refine r_iconst f87_25 ci_m1 ?_
      by_cases c9q : a2 = (-1)
      · rw [if_pos c9q] at hB
        refine r_ic_f 38 f87_26 (by decide) (fun q => q c9q) ?_
        refine r_aloadN f87_29 rfl ?_
        refine r_iconst f87_31 ci_m1 ?_
        refine r_iconst f87_32 ci_0 ?_
        replace hB := grd_some hB
        obtain ⟨g17q, hB⟩ := hB
        replace hB := bn2_some hB
        obtain ⟨h15q, _, eh15q, hB⟩ := hB
        refine r_virtN (as := [.int (-1), .int 0]) (q := pm_m_30) f87_33 ca_5_239 rfl rfl rfl (cs_len (Nat.le_of_ble_eq_true rfl)) g17q (P_S_becomeRow (d := d + 0) eh15q) ?_
        refine r_iconst f87_36 ci_1 ?_
        exact r_iret pm_m_87 .int f87_37 rfl rfl rfl (zI hB)
      · rw [if_neg c9q] at hB
        refine r_ic_t (t := 38) f87_26 (by decide) c9q ?_
        refine r_iload_n f87_38 rfl ?_
        refine r_bipush f87_39 cb_40 ?_
        by_cases c10q : a3 ≤ 40
        · rw [if_pos c10q] at hB
          refine r_ic_t (t := 47) f87_41 (by decide) c10q ?_
          refine r_iload_n f87_47 rfl ?_
          by_cases c11q : (0 : Int32) ≤ a3
          · rw [if_pos c11q] at hB
            refine r_if_t (t := 54) f87_48 (by decide) c11q ?_
            refine r_aloadN f87_54 rfl ?_
            refine r_iload_n f87_56 rfl ?_
            refine r_iload_n f87_57 rfl ?_
            replace hB := grd_some hB
            obtain ⟨g14q, hB⟩ := hB
            replace hB := bn2_some hB
            obtain ⟨h12q, _, eh12q, hB⟩ := hB
            refine r_virtN (as := [.int a2, .int a3]) (q := pm_m_30) f87_58 ca_5_239 rfl rfl rfl (cs_len (Nat.le_of_ble_eq_true rfl)) g14q (P_S_becomeRow (d := d + 0) eh12q) ?_
            refine r_iconst f87_61 ci_1 ?_
            exact r_iret pm_m_87 .int f87_62 rfl rfl rfl (zI hB)
          · rw [if_neg c11q] at hB
            refine r_if_f 54 f87_48 (by decide) c11q ?_
            refine r_bipush f87_51 cb_m14 ?_
            exact r_iret pm_m_87 .int f87_53 rfl rfl rfl (zI hB)
        · rw [if_neg c10q] at hB
          refine r_ic_f 47 f87_41 (by decide) c10q ?_
          refine r_bipush f87_44 cb_m2 ?_
          exact r_iret pm_m_87 .int f87_46 rfl rfl rfl (zI hB)
theorem P_X_cell {d : Nat} {h h' : pm_H} {r : Int32} {t : Nat} {a1 : Int32} {a2 : Int32} {a3 : Int32} (hB : X_cell h t a1 a2 a3 = some (h', r)) : pm_ev (d + 2) 88 [.ref t, .int a1, .int a2, .int a3] h (some (.int r)) h' := by
  unfold X_cell at hB
  refine pm_ev_mk (L := [.ref t, .int a1, .int a2, .int a3, pm_J]) pm_m_88 rfl (Nat.le_of_ble_eq_true rfl) rfl ?_
  refine r_aload_nN f88_0 rfl ?_
  refine r_iload_n f88_1 rfl ?_
  replace hB := grd_some hB
  obtain ⟨g3q, hB⟩ := hB
  replace hB := bn2_some hB
  obtain ⟨h1q, x2q, eh1q, hB⟩ := hB
  refine r_virtV (as := [.int a1]) (q := pm_m_98) f88_2 ca_5_215 rfl rfl rfl (cs_len (Nat.le_of_ble_eq_true rfl)) g3q (P_X_sheetAt (d := d + 0) eh1q) ?_
  refine r_astore (L' := [.ref t, .int a1, .int a2, .int a3, va_rf x2q]) f88_5 (Nat.le_of_ble_eq_true rfl) rfl ?_
  refine r_aload f88_7 rfl ?_
  cases x2q with
  | none =>
    refine r_nn_f 15 f88_9 (by decide) rfl ?_
    refine r_bipush f88_12 cb_m2 ?_
    exact r_iret pm_m_88 .int f88_14 rfl rfl rfl (zI hB)
  | some u5q =>
    refine r_nn_t (t := 15) (r := some u5q) f88_9 (by decide) (by simp) ?_
    dsimp only at hB
    refine r_aloadN f88_15 rfl ?_
    replace hB := bnd_some hB
    obtain ⟨x6q, ex6q, hB⟩ := hB
    refine r_getI f88_17 fa_5_252 ex6q ?_
    refine r_iconst f88_20 ci_m1 ?_
    by_cases c7q : x6q = (-1)
    · rw [if_pos c7q] at hB
      refine r_ic_f 27 f88_21 (by decide) (fun q => q c7q) ?_
      refine r_bipush f88_24 cb_m11 ?_
      exact r_iret pm_m_88 .int f88_26 rfl rfl rfl (zI hB)
    · rw [if_neg c7q] at hB
      refine r_ic_t (t := 27) f88_21 (by decide) c7q ?_
      refine r_iload_n f88_27 rfl ?_
      refine r_iconst f88_28 ci_0 ?_
      refine r_aloadN f88_29 rfl ?_
      replace hB := bnd_some hB
      obtain ⟨x8q, ex8q, hB⟩ := hB
      refine r_getI f88_31 fa_5_255 ex8q ?_
      refine r_iconst f88_34 ci_1 ?_
      refine r_isub f88_35 ?_
      replace hB := bn2_some hB
      obtain ⟨h9q, x10q, eh9q, hB⟩ := hB
      refine r_statV (as := [.int a2, .int 0, .int (x8q - 1)]) (q := pm_m_92) f88_36 ca_5_90 rfl (by decide) rfl rfl (cs_len (Nat.le_of_ble_eq_true rfl)) (P_X_within (d := d + 0) eh9q) ?_
      by_cases c11q : x10q = 0
      · rw [if_pos c11q] at hB
        refine r_if_f 45 f88_39 (by decide) (fun q => q c11q) ?_
        refine r_bipush f88_42 cb_m12 ?_
        exact r_iret pm_m_88 .int f88_44 rfl rfl rfl (zI hB)
      · rw [if_neg c11q] at hB
        refine r_if_t (t := 45) f88_39 (by decide) c11q ?_
        refine r_aloadN f88_45 rfl ?_
        refine r_iload_n f88_47 rfl ?_
        refine r_iload_n f88_48 rfl ?_
        replace hB := grd_some hB
        obtain ⟨g14q, hB⟩ := hB
        replace hB := bn2_some hB
        obtain ⟨h12q, _, eh12q, hB⟩ := hB
        refine r_virtN (as := [.int a2, .int a3]) (q := pm_m_31) f88_49 ca_5_242 rfl rfl rfl (cs_len (Nat.le_of_ble_eq_true rfl)) g14q (P_S_write (d := d + 0) eh12q) ?_
        refine r_iconst f88_52 ci_1 ?_
        exact r_iret pm_m_88 .int f88_53 rfl rfl rfl (zI hB)
theorem P_X_copy {d : Nat} {h h' : pm_H} {r : Int32} {t : Nat} {a1 : Int32} {a2 : Int32} {a3 : Int32} {a4 : Int32} {a5 : Int32} (hB : X_copy h t a1 a2 a3 a4 a5 = some (h', r)) : pm_ev (d + 2) 89 [.ref t, .int a1, .int a2, .int a3, .int a4, .int a5] h (some (.int r)) h' := by
  unfold X_copy at hB
  refine pm_ev_mk (L := [.ref t, .int a1, .int a2, .int a3, .int a4, .int a5, pm_J, pm_J]) pm_m_89 rfl (Nat.le_of_ble_eq_true rfl) rfl ?_
  refine r_aload_nN f89_0 rfl ?_
  refine r_iload_n f89_1 rfl ?_
  replace hB := grd_some hB
  obtain ⟨g3q, hB⟩ := hB
  replace hB := bn2_some hB
  obtain ⟨h1q, x2q, eh1q, hB⟩ := hB
  refine r_virtV (as := [.int a1]) (q := pm_m_98) f89_2 ca_5_215 rfl rfl rfl (cs_len (Nat.le_of_ble_eq_true rfl)) g3q (P_X_sheetAt (d := d + 0) eh1q) ?_
  refine r_astore (L' := [.ref t, .int a1, .int a2, .int a3, .int a4, .int a5, va_rf x2q, pm_J]) f89_5 (Nat.le_of_ble_eq_true rfl) rfl ?_
  refine r_aload_nN f89_7 rfl ?_
  refine r_iload_n f89_8 rfl ?_
  replace hB := grd_some hB
  obtain ⟨g6q, hB⟩ := hB
  replace hB := bn2_some hB
  obtain ⟨h4q, x5q, eh4q, hB⟩ := hB
  refine r_virtV (as := [.int a3]) (q := pm_m_98) f89_9 ca_5_215 rfl rfl rfl (cs_len (Nat.le_of_ble_eq_true rfl)) g6q (P_X_sheetAt (d := d + 0) eh4q) ?_
  refine r_astore (L' := [.ref t, .int a1, .int a2, .int a3, .int a4, .int a5, va_rf x2q, va_rf x5q]) f89_12 (Nat.le_of_ble_eq_true rfl) (st1_A 6 (r := x2q) rfl rfl rfl) ?_
  refine r_aload f89_14 rfl ?_
  cases x2q with
  | none =>
    refine r_in_t (t := 24) f89_16 (by decide) rfl ?_
    refine r_bipush f89_24 cb_m2 ?_
    exact r_iret pm_m_89 .int f89_26 rfl rfl rfl (zI hB)
  | some u8q =>
    refine r_in_f 24 (r := some u8q) f89_16 (by decide) (by simp) ?_
    dsimp only at hB
    refine r_aload f89_19 rfl ?_
    cases x5q with
    | none =>
      refine r_nn_f 27 f89_21 (by decide) rfl ?_
      refine r_bipush f89_24 cb_m2 ?_
      exact r_iret pm_m_89 .int f89_26 rfl rfl rfl (zI hB)
    | some u10q =>
      refine r_nn_t (t := 27) (r := some u10q) f89_21 (by decide) (by simp) ?_
      dsimp only at hB
      refine r_aloadN f89_27 rfl ?_
      replace hB := bnd_some hB
      obtain ⟨x11q, ex11q, hB⟩ := hB
      refine r_getI f89_29 fa_5_252 ex11q ?_
      refine r_iconst f89_32 ci_m1 ?_
      by_cases c12q : x11q = (-1)
      · rw [if_pos c12q] at hB
        refine r_ic_t (t := 45) f89_33 (by decide) c12q ?_
        refine r_bipush f89_45 cb_m11 ?_
        exact r_iret pm_m_89 .int f89_47 rfl rfl rfl (zI hB)
      · rw [if_neg c12q] at hB
        refine r_ic_f 45 f89_33 (by decide) c12q ?_
        refine r_aloadN f89_36 rfl ?_
        replace hB := bnd_some hB
        obtain ⟨x13q, ex13q, hB⟩ := hB
        refine r_getI f89_38 fa_5_252 ex13q ?_
        refine r_iconst f89_41 ci_m1 ?_
        by_cases c14q : x13q = (-1)
        · rw [if_pos c14q] at hB
          refine r_ic_f 48 f89_42 (by decide) (fun q => q c14q) ?_
          refine r_bipush f89_45 cb_m11 ?_
          exact r_iret pm_m_89 .int f89_47 rfl rfl rfl (zI hB)
        · rw [if_neg c14q] at hB
          refine r_ic_t (t := 48) f89_42 (by decide) c14q ?_
          refine r_aloadN f89_48 rfl ?_
          replace hB := bnd_some hB
          obtain ⟨x15q, ex15q, hB⟩ := hB
          refine r_getI f89_50 fa_5_252 ex15q ?_
          refine r_aloadN f89_53 rfl ?_
          replace hB := bnd_some hB
          obtain ⟨x16q, ex16q, hB⟩ := hB
          refine r_getI f89_55 fa_5_252 ex16q ?_
          by_cases c17q : x15q = x16q
          · rw [if_pos c17q] at hB
            refine r_ic_t (t := 64) f89_58 (by decide) c17q ?_
            refine r_aloadN f89_64 rfl ?_
            refine r_iload_n f89_66 rfl ?_
            refine r_iload f89_67 rfl ?_
            replace hB := grd_some hB
            obtain ⟨g20q, hB⟩ := hB
            replace hB := bn2_some hB
            obtain ⟨h18q, x19q, eh18q, hB⟩ := hB
            refine r_virtV (as := [.int a2, .int a5]) (q := pm_m_32) f89_69 ca_5_256 rfl rfl rfl (cs_len (Nat.le_of_ble_eq_true rfl)) g20q (P_S_hasPlaces (d := d + 0) eh18q) ?_
            by_cases c21q : x19q = 0
            · rw [if_pos c21q] at hB
              refine r_if_t (t := 87) f89_72 (by decide) c21q ?_
              refine r_bipush f89_87 cb_m12 ?_
              exact r_iret pm_m_89 .int f89_89 rfl rfl rfl (zI hB)
            · rw [if_neg c21q] at hB
              refine r_if_f 87 f89_72 (by decide) c21q ?_
              refine r_aloadN f89_75 rfl ?_
              refine r_iload f89_77 rfl ?_
              refine r_iload f89_79 rfl ?_
              replace hB := grd_some hB
              obtain ⟨g24q, hB⟩ := hB
              replace hB := bn2_some hB
              obtain ⟨h22q, x23q, eh22q, hB⟩ := hB
              refine r_virtV (as := [.int a4, .int a5]) (q := pm_m_32) f89_81 ca_5_256 rfl rfl rfl (cs_len (Nat.le_of_ble_eq_true rfl)) g24q (P_S_hasPlaces (d := d + 0) eh22q) ?_
              by_cases c25q : x23q = 0
              · rw [if_pos c25q] at hB
                refine r_if_f 90 f89_84 (by decide) (fun q => q c25q) ?_
                refine r_bipush f89_87 cb_m12 ?_
                exact r_iret pm_m_89 .int f89_89 rfl rfl rfl (zI hB)
              · rw [if_neg c25q] at hB
                refine r_if_t (t := 90) f89_84 (by decide) c25q ?_
                refine r_aloadN f89_90 rfl ?_
                replace hB := bnd_some hB
                obtain ⟨x26q, ex26q, hB⟩ := hB
                refine r_getA f89_92 fa_5_260 ex26q ?_
                refine r_iload_n f89_95 rfl ?_
                refine r_aloadN f89_96 rfl ?_
                replace hB := bnd_some hB
                obtain ⟨x27q, ex27q, hB⟩ := hB
                refine r_getA f89_98 fa_5_260 ex27q ?_
                refine r_iload f89_101 rfl ?_
                refine r_iload f89_103 rfl ?_
                replace hB := bnd_some hB
                obtain ⟨u28q, rfl, hB⟩ := hB
                replace hB := bnd_some hB
                obtain ⟨u29q, rfl, hB⟩ := hB
                replace hB := bnd_some hB
                obtain ⟨h30q, eh30q, hB⟩ := hB
                refine r_cpy (e := 767) f89_105 rfl (cs_len (Nat.le_of_ble_eq_true rfl)) eh30q ?_
                refine r_iload f89_108 rfl ?_
                exact r_iret pm_m_89 .int f89_110 rfl rfl rfl (zI hB)
          · rw [if_neg c17q] at hB
            refine r_ic_f 64 f89_58 (by decide) c17q ?_
            refine r_bipush f89_61 cb_m13 ?_
            exact r_iret pm_m_89 .int f89_63 rfl rfl rfl (zI hB)
theorem P_X_dunesBy_122 {d : Nat} {h' : pm_H} {r : Int32} (k_65 : pm_H → Nat → Int32 → Int32 → Option Nat → Int32 → Int32 → Option (pm_H × Int32)) (hk_65 : ∀ (h : pm_H) (l0 : Nat) (l3 : Int32) (l4 : Int32) (l5 : Option Nat) (l6 : Int32) (l7 : Int32), k_65 h l0 l3 l4 l5 l6 l7 = some (h', r) → pm_run (pm_ev (d + 2)) 90 65 [.ref l0, pm_J, pm_J, .int l3, .int l4, va_rf l5, .int l6, .int l7, pm_J] [] h (fun r1 h1 => r1 = some (.int r) ∧ h1 = h')) (h : pm_H) (l0 : Nat) (l3 : Int32) (l4 : Int32) (l5 : Option Nat) (l6 : Int32) (l7 : Int32) (hB : X_dunesBy_122 k_65 h l0 l3 l4 l5 l6 l7 = some (h', r)) : pm_run (pm_ev (d + 2)) 90 122 [.ref l0, pm_J, pm_J, .int l3, .int l4, va_rf l5, .int l6, .int l7, pm_J] [] h (fun r1 h1 => r1 = some (.int r) ∧ h1 = h') := by
  unfold X_dunesBy_122 at hB
  obtain ⟨y1q, hy1q⟩ : ∃ z, z = l7 + 1 := ⟨_, rfl⟩
  replace hB := nmd_at hy1q hB
  refine r_iinc (L' := [.ref l0, pm_J, pm_J, .int l3, .int l4, va_rf l5, .int l6, .int y1q, pm_J]) (x := y1q) f90_122 rfl (hy1q.trans (congrArg (l7 + ·) ci_1.symm)) rfl ?_
  refine r_goto (t := 65) f90_125 (by decide) ?_
  exact pm_weak (L' := [.ref l0, pm_J, pm_J, .int l3, .int l4, va_rf l5, .int l6, .int y1q, pm_J]) ⟨.inr rfl, .inl rfl, .inl rfl, .inr rfl, .inr rfl, .inr rfl, .inr rfl, .inr rfl, .inl rfl, trivial⟩ (hk_65 h l0 l3 l4 l5 l6 y1q hB)
theorem P_X_dunesBy_65 {d : Nat} {h' : pm_H} {r : Int32} (n : Nat) : ∀ (h : pm_H) (l0 : Nat) (l3 : Int32) (l4 : Int32) (l5 : Option Nat) (l6 : Int32) (l7 : Int32), X_dunesBy_65 n h l0 l3 l4 l5 l6 l7 = some (h', r) → pm_run (pm_ev (d + 2)) 90 65 [.ref l0, pm_J, pm_J, .int l3, .int l4, va_rf l5, .int l6, .int l7, pm_J] [] h (fun r1 h1 => r1 = some (.int r) ∧ h1 = h') := by
  induction n with
  | zero => intro h l0 l3 l4 l5 l6 l7 hB; cases hB
  | succ n ih =>
    intro h l0 l3 l4 l5 l6 l7 hB
    unfold X_dunesBy_65 at hB
    refine r_iload f90_65 rfl ?_
    refine r_iload f90_67 rfl ?_
    by_cases c1q : l4 ≤ l7
    · rw [if_pos c1q] at hB
      refine r_ic_t (t := 128) f90_69 (by decide) c1q ?_
      refine r_iload f90_128 rfl ?_
      exact r_iret pm_m_90 .int f90_130 rfl rfl rfl (zI hB)
    · rw [if_neg c1q] at hB
      refine r_ic_f 128 f90_69 (by decide) c1q ?_
      refine r_iload_n f90_72 rfl ?_
      refine r_iconst f90_73 ci_2 ?_
      refine r_iload f90_74 rfl ?_
      refine r_imul f90_76 ?_
      refine r_iadd f90_77 ?_
      obtain ⟨y2q, hy2q⟩ : ∃ z, z = (l3 + (2 * l7)) := ⟨_, rfl⟩
      replace hB := nmd_at hy2q hB
      refine r_istore (L' := [.ref l0, pm_J, pm_J, .int l3, .int l4, va_rf l5, .int l6, .int l7, .int y2q]) (x := y2q) f90_78 hy2q (Nat.le_of_ble_eq_true rfl) rfl ?_
      refine r_aload f90_80 rfl ?_
      refine r_iload f90_82 rfl ?_
      refine r_iconst f90_84 ci_2 ?_
      replace hB := bnd_some hB
      obtain ⟨u3q, rfl, hB⟩ := hB
      replace hB := grd_some hB
      obtain ⟨g6q, hB⟩ := hB
      replace hB := bn2_some hB
      obtain ⟨h4q, x5q, eh4q, hB⟩ := hB
      refine r_virtV (as := [.int y2q, .int 2]) (q := pm_m_32) f90_85 ca_5_256 rfl rfl rfl (cs_len (Nat.le_of_ble_eq_true rfl)) g6q (P_S_hasPlaces (d := d + 1) eh4q) ?_
      by_cases c7q : x5q = 0
      · rw [if_pos c7q] at hB
        refine r_if_f 94 f90_88 (by decide) (fun q => q c7q) ?_
        refine r_bipush f90_91 cb_m12 ?_
        exact r_iret pm_m_90 .int f90_93 rfl rfl rfl (zI hB)
      · rw [if_neg c7q] at hB
        refine r_if_t (t := 94) f90_88 (by decide) c7q ?_
        refine r_aload_nN f90_94 rfl ?_
        refine r_aloadN f90_95 rfl ?_
        replace hB := bnd_some hB
        obtain ⟨x8q, ex8q, hB⟩ := hB
        refine r_getA f90_97 fa_5_260 ex8q ?_
        refine r_iload f90_100 rfl ?_
        replace hB := bnd_some hB
        obtain ⟨u9q, rfl, hB⟩ := hB
        replace hB := bnd_some hB
        obtain ⟨x10q, ex10q, hB⟩ := hB
        refine r_aI f90_102 ex10q ?_
        refine r_aloadN f90_103 rfl ?_
        replace hB := bnd_some hB
        obtain ⟨x11q, ex11q, hB⟩ := hB
        refine r_getA f90_105 fa_5_260 ex11q ?_
        refine r_iload f90_108 rfl ?_
        refine r_iconst f90_110 ci_1 ?_
        refine r_iadd f90_111 ?_
        replace hB := bnd_some hB
        obtain ⟨u12q, rfl, hB⟩ := hB
        replace hB := bnd_some hB
        obtain ⟨x13q, ex13q, hB⟩ := hB
        refine r_aI f90_112 ex13q ?_
        replace hB := grd_some hB
        obtain ⟨g16q, hB⟩ := hB
        replace hB := bn2_some hB
        obtain ⟨h14q, x15q, eh14q, hB⟩ := hB
        refine r_virtV (as := [.int x10q, .int x13q]) (q := pm_m_63) f90_113 ca_5_269 rfl rfl rfl (cs_len (Nat.le_of_ble_eq_true rfl)) g16q (P_X_dune (d := d + 0) eh14q) ?_
        by_cases c17q : x15q < 0
        · rw [if_pos c17q] at hB
          refine r_if_t (t := 122) f90_116 (by decide) c17q ?_
          exact pm_weak (L' := [.ref l0, pm_J, pm_J, .int l3, .int l4, va_rf (some u3q), .int l6, .int l7, pm_J]) ⟨.inr rfl, .inl rfl, .inl rfl, .inr rfl, .inr rfl, .inr rfl, .inr rfl, .inr rfl, .inl rfl, trivial⟩ (P_X_dunesBy_122 (d := d) (X_dunesBy_65 n) ih h14q l0 l3 l4 (some u3q) l6 l7 hB)
        · rw [if_neg c17q] at hB
          refine r_if_f 122 f90_116 (by decide) c17q ?_
          obtain ⟨y18q, hy18q⟩ : ∃ z, z = l6 + 1 := ⟨_, rfl⟩
          replace hB := nmd_at hy18q hB
          refine r_iinc (L' := [.ref l0, pm_J, pm_J, .int l3, .int l4, .ref u3q, .int y18q, .int l7, .int y2q]) (x := y18q) f90_119 rfl (hy18q.trans (congrArg (l6 + ·) ci_1.symm)) rfl ?_
          exact pm_weak (L' := [.ref l0, pm_J, pm_J, .int l3, .int l4, va_rf (some u3q), .int y18q, .int l7, pm_J]) ⟨.inr rfl, .inl rfl, .inl rfl, .inr rfl, .inr rfl, .inr rfl, .inr rfl, .inr rfl, .inl rfl, trivial⟩ (P_X_dunesBy_122 (d := d) (X_dunesBy_65 n) ih h14q l0 l3 l4 (some u3q) y18q l7 hB)
theorem P_X_dunesBy {d : Nat} {h h' : pm_H} {r : Int32} {t : Nat} {a1 : Int32} {a2 : Int32} {a3 : Int32} {a4 : Int32} (hB : X_dunesBy h t a1 a2 a3 a4 = some (h', r)) : pm_ev (d + 3) 90 [.ref t, .int a1, .int a2, .int a3, .int a4] h (some (.int r)) h' := by
  unfold X_dunesBy at hB
  refine pm_ev_mk (L := [.ref t, .int a1, .int a2, .int a3, .int a4, pm_J, pm_J, pm_J, pm_J]) pm_m_90 rfl (Nat.le_of_ble_eq_true rfl) rfl ?_
  refine r_aload_nN f90_0 rfl ?_
  refine r_iload_n f90_1 rfl ?_
  replace hB := grd_some hB
  obtain ⟨g3q, hB⟩ := hB
  replace hB := bn2_some hB
  obtain ⟨h1q, x2q, eh1q, hB⟩ := hB
  refine r_virtV (as := [.int a1]) (q := pm_m_98) f90_2 ca_5_215 rfl rfl rfl (cs_len (Nat.le_of_ble_eq_true rfl)) g3q (P_X_sheetAt (d := d + 1) eh1q) ?_
  refine r_astore (L' := [.ref t, .int a1, .int a2, .int a3, .int a4, va_rf x2q, pm_J, pm_J, pm_J]) f90_5 (Nat.le_of_ble_eq_true rfl) rfl ?_
  refine r_aload f90_7 rfl ?_
  cases x2q with
  | none =>
    refine r_in_t (t := 32) f90_9 (by decide) rfl ?_
    refine r_bipush f90_32 cb_m2 ?_
    exact r_iret pm_m_90 .int f90_34 rfl rfl rfl (zI hB)
  | some u5q =>
    refine r_in_f 32 (r := some u5q) f90_9 (by decide) (by simp) ?_
    dsimp only at hB
    refine r_iload_n f90_12 rfl ?_
    refine r_iconst f90_13 ci_0 ?_
    refine r_iconst f90_14 ci_2 ?_
    replace hB := bn2_some hB
    obtain ⟨h6q, x7q, eh6q, hB⟩ := hB
    refine r_statV (as := [.int a2, .int 0, .int 2]) (q := pm_m_92) f90_15 ca_5_90 rfl (by decide) rfl rfl (cs_len (Nat.le_of_ble_eq_true rfl)) (P_X_within (d := d + 1) eh6q) ?_
    by_cases c8q : x7q = 0
    · rw [if_pos c8q] at hB
      refine r_if_t (t := 32) f90_18 (by decide) c8q ?_
      refine r_bipush f90_32 cb_m2 ?_
      exact r_iret pm_m_90 .int f90_34 rfl rfl rfl (zI hB)
    · rw [if_neg c8q] at hB
      refine r_if_f 32 f90_18 (by decide) c8q ?_
      refine r_iload f90_21 rfl ?_
      refine r_iconst f90_23 ci_0 ?_
      refine r_bipush f90_24 cb_6 ?_
      replace hB := bn2_some hB
      obtain ⟨h9q, x10q, eh9q, hB⟩ := hB
      refine r_statV (as := [.int a4, .int 0, .int 6]) (q := pm_m_92) f90_26 ca_5_90 rfl (by decide) rfl rfl (cs_len (Nat.le_of_ble_eq_true rfl)) (P_X_within (d := d + 1) eh9q) ?_
      by_cases c11q : x10q = 0
      · rw [if_pos c11q] at hB
        refine r_if_f 35 f90_29 (by decide) (fun q => q c11q) ?_
        refine r_bipush f90_32 cb_m2 ?_
        exact r_iret pm_m_90 .int f90_34 rfl rfl rfl (zI hB)
      · rw [if_neg c11q] at hB
        refine r_if_t (t := 35) f90_29 (by decide) c11q ?_
        refine r_aloadN f90_35 rfl ?_
        replace hB := bnd_some hB
        obtain ⟨x12q, ex12q, hB⟩ := hB
        refine r_getI f90_37 fa_5_252 ex12q ?_
        refine r_iconst f90_40 ci_m1 ?_
        by_cases c13q : x12q = (-1)
        · rw [if_pos c13q] at hB
          refine r_ic_f 47 f90_41 (by decide) (fun q => q c13q) ?_
          refine r_bipush f90_44 cb_m11 ?_
          exact r_iret pm_m_90 .int f90_46 rfl rfl rfl (zI hB)
        · rw [if_neg c13q] at hB
          refine r_ic_t (t := 47) f90_41 (by decide) c13q ?_
          refine r_aloadN f90_47 rfl ?_
          replace hB := bnd_some hB
          obtain ⟨x14q, ex14q, hB⟩ := hB
          refine r_getI f90_49 fa_5_252 ex14q ?_
          refine r_iload_n f90_52 rfl ?_
          by_cases c15q : x14q = a2
          · rw [if_pos c15q] at hB
            refine r_ic_t (t := 59) f90_53 (by decide) c15q ?_
            refine r_iconst f90_59 ci_0 ?_
            refine r_istore (L' := [.ref t, .int a1, .int a2, .int a3, .int a4, .ref u5q, .int 0, pm_J, pm_J]) (x := 0) f90_60 rfl (Nat.le_of_ble_eq_true rfl) rfl ?_
            refine r_iconst f90_62 ci_0 ?_
            refine r_istore (L' := [.ref t, .int a1, .int a2, .int a3, .int a4, .ref u5q, .int 0, .int 0, pm_J]) (x := 0) f90_63 rfl (Nat.le_of_ble_eq_true rfl) rfl ?_
            exact pm_weak (L' := [.ref t, pm_J, pm_J, .int a3, .int a4, va_rf (some u5q), .int 0, .int 0, pm_J]) ⟨.inr rfl, .inl rfl, .inl rfl, .inr rfl, .inr rfl, .inr rfl, .inr rfl, .inr rfl, .inl rfl, trivial⟩ (P_X_dunesBy_65 (d := d) 1000 h9q t a3 a4 (some u5q) 0 0 hB)
          · rw [if_neg c15q] at hB
            refine r_ic_f 59 f90_53 (by decide) c15q ?_
            refine r_bipush f90_56 cb_m13 ?_
            exact r_iret pm_m_90 .int f90_58 rfl rfl rfl (zI hB)
theorem P_X_taken {d : Nat} {h h' : pm_H} {r : Int32} {t : Nat} {a1 : Int32} {a2 : Int32} (hB : X_taken h t a1 a2 = some (h', r)) : pm_ev (d + 2) 91 [.ref t, .int a1, .int a2] h (some (.int r)) h' := by
  unfold X_taken at hB
  refine pm_ev_mk (L := [.ref t, .int a1, .int a2, pm_J, pm_J]) pm_m_91 rfl (Nat.le_of_ble_eq_true rfl) rfl ?_
  refine r_iload_n f91_0 rfl ?_
  refine r_iconst f91_1 ci_0 ?_
  refine r_bipush f91_2 cb_6 ?_
  replace hB := bn2_some hB
  obtain ⟨h1q, x2q, eh1q, hB⟩ := hB
  refine r_statV (as := [.int a2, .int 0, .int 6]) (q := pm_m_92) f91_4 ca_5_90 rfl (by decide) rfl rfl (cs_len (Nat.le_of_ble_eq_true rfl)) (P_X_within (d := d + 0) eh1q) ?_
  by_cases c3q : x2q = 0
  · rw [if_pos c3q] at hB
    refine r_if_f 13 f91_7 (by decide) (fun q => q c3q) ?_
    refine r_bipush f91_10 cb_m2 ?_
    exact r_iret pm_m_91 .int f91_12 rfl rfl rfl (zI hB)
  · rw [if_neg c3q] at hB
    refine r_if_t (t := 13) f91_7 (by decide) c3q ?_
    refine r_iload_n f91_13 rfl ?_
    refine r_iconst f91_14 ci_0 ?_
    refine r_bipush f91_15 cb_11 ?_
    replace hB := bn2_some hB
    obtain ⟨h4q, x5q, eh4q, hB⟩ := hB
    refine r_statV (as := [.int a1, .int 0, .int 11]) (q := pm_m_92) f91_17 ca_5_90 rfl (by decide) rfl rfl (cs_len (Nat.le_of_ble_eq_true rfl)) (P_X_within (d := d + 0) eh4q) ?_
    by_cases c6q : x5q = 0
    · rw [if_pos c6q] at hB
      refine r_if_f 26 f91_20 (by decide) (fun q => q c6q) ?_
      refine r_bipush f91_23 cb_m12 ?_
      exact r_iret pm_m_91 .int f91_25 rfl rfl rfl (zI hB)
    · rw [if_neg c6q] at hB
      refine r_if_t (t := 26) f91_20 (by decide) c6q ?_
      refine r_iload_n f91_26 rfl ?_
      refine r_bipush f91_27 cb_6 ?_
      refine r_irem f91_29 nz_i_6 ?_
      obtain ⟨y7q, hy7q⟩ : ∃ z, z = (a1 - a1 / 6 * 6) := ⟨_, rfl⟩
      replace hB := nmd_at hy7q hB
      refine r_istore_n (L' := [.ref t, .int a1, .int a2, .int y7q, pm_J]) (x := y7q) f91_30 hy7q (Nat.le_of_ble_eq_true rfl) rfl ?_
      refine r_iload_n f91_31 rfl ?_
      refine r_aload_nN f91_32 rfl ?_
      replace hB := bnd_some hB
      obtain ⟨x8q, ex8q, hB⟩ := hB
      refine r_getA f91_33 fa_5_45 ex8q ?_
      replace hB := bnd_some hB
      obtain ⟨u9q, rfl, hB⟩ := hB
      replace hB := bnd_some hB
      obtain ⟨x10q, ex10q, hB⟩ := hB
      refine r_getI f91_36 fa_5_52 ex10q ?_
      by_cases c11q : y7q < x10q
      · rw [if_pos c11q] at hB
        refine r_ic_t (t := 45) f91_39 (by decide) c11q ?_
        refine r_aload_nN f91_45 rfl ?_
        replace hB := bnd_some hB
        obtain ⟨x12q, ex12q, hB⟩ := hB
        refine r_getA f91_46 fa_5_45 ex12q ?_
        replace hB := bnd_some hB
        obtain ⟨u13q, rfl, hB⟩ := hB
        replace hB := bnd_some hB
        obtain ⟨x14q, ex14q, hB⟩ := hB
        refine r_getA f91_49 fa_5_129 ex14q ?_
        refine r_iload_n f91_52 rfl ?_
        replace hB := bnd_some hB
        obtain ⟨u15q, rfl, hB⟩ := hB
        replace hB := bnd_some hB
        obtain ⟨x16q, ex16q, hB⟩ := hB
        refine r_aA 0 f91_53 et_0 ex16q ?_
        refine r_astore (L' := [.ref t, .int a1, .int a2, .int y7q, va_rf x16q]) f91_54 (Nat.le_of_ble_eq_true rfl) rfl ?_
        refine r_iload_n f91_56 rfl ?_
        refine r_bipush f91_57 cb_6 ?_
        by_cases c17q : a1 < 6
        · rw [if_pos c17q] at hB
          refine r_ic_t (t := 79) f91_59 (by decide) c17q ?_
          refine r_iload_n f91_79 rfl ?_
          refine r_bipush f91_80 cb_6 ?_
          by_cases c18q : a2 = 6
          · rw [if_pos c18q] at hB
            refine r_ic_t (t := 98) f91_82 (by decide) c18q ?_
            refine r_bipush f91_98 cb_m13 ?_
            exact r_iret pm_m_91 .int f91_100 rfl rfl rfl (zI hB)
          · rw [if_neg c18q] at hB
            refine r_ic_f 98 f91_82 (by decide) c18q ?_
            refine r_aload f91_85 rfl ?_
            refine r_iload_n f91_87 rfl ?_
            replace hB := bnd_some hB
            obtain ⟨u19q, rfl, hB⟩ := hB
            replace hB := grd_some hB
            obtain ⟨g22q, hB⟩ := hB
            replace hB := bn2_some hB
            obtain ⟨h20q, x21q, eh20q, hB⟩ := hB
            refine r_virtV (as := [.int a2]) (q := pm_m_6) f91_88 ca_5_273 rfl rfl rfl (cs_len (Nat.le_of_ble_eq_true rfl)) g22q (P_D_isOf (d := d + 0) eh20q) ?_
            by_cases c23q : x21q = 0
            · rw [if_pos c23q] at hB
              refine r_if_t (t := 98) f91_91 (by decide) c23q ?_
              refine r_bipush f91_98 cb_m13 ?_
              exact r_iret pm_m_91 .int f91_100 rfl rfl rfl (zI hB)
            · rw [if_neg c23q] at hB
              refine r_if_f 98 f91_91 (by decide) c23q ?_
              refine r_iload_n f91_94 rfl ?_
              refine r_goto (t := 100) f91_95 (by decide) ?_
              exact r_iret pm_m_91 .int f91_100 rfl rfl rfl (zI hB)
        · rw [if_neg c17q] at hB
          refine r_ic_f 79 f91_59 (by decide) c17q ?_
          refine r_iload_n f91_62 rfl ?_
          refine r_bipush f91_63 cb_6 ?_
          by_cases c24q : a2 = 6
          · rw [if_pos c24q] at hB
            refine r_ic_f 76 f91_65 (by decide) (fun q => q c24q) ?_
            refine r_aload f91_68 rfl ?_
            replace hB := bnd_some hB
            obtain ⟨u25q, rfl, hB⟩ := hB
            replace hB := bnd_some hB
            obtain ⟨x26q, ex26q, hB⟩ := hB
            refine r_getI f91_70 fa_5_145 ex26q ?_
            refine r_goto (t := 78) f91_73 (by decide) ?_
            exact r_iret pm_m_91 .int f91_78 rfl rfl rfl (zI hB)
          · rw [if_neg c24q] at hB
            refine r_ic_t (t := 76) f91_65 (by decide) c24q ?_
            refine r_bipush f91_76 cb_m13 ?_
            exact r_iret pm_m_91 .int f91_78 rfl rfl rfl (zI hB)
      · rw [if_neg c11q] at hB
        refine r_ic_f 45 f91_39 (by decide) c11q ?_
        refine r_bipush f91_42 cb_m11 ?_
        exact r_iret pm_m_91 .int f91_44 rfl rfl rfl (zI hB)
