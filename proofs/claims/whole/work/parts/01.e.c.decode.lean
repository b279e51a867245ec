theorem dX7_pass_29 : decode cX7_pass 29 = .ok (.iload_n 1, 1) := by decide +kernel
theorem dX7_pass_30 : decode cX7_pass 30 = .ok (.iadd, 1) := by decide +kernel
theorem dX7_pass_31 : decode cX7_pass 31 = .ok (.sipush 20000, 3) := by decide +kernel
theorem dX7_pass_34 : decode cX7_pass 34 = .ok (.if_icmp .le 9, 3) := by decide +kernel
theorem dX7_pass_37 : decode cX7_pass 37 = .ok (.aload_n 0, 1) := by decide +kernel
theorem dX7_pass_38 : decode cX7_pass 38 = .ok (.iconst 2, 1) := by decide +kernel
theorem dX7_pass_39 : decode cX7_pass 39 = .ok (.invokevirtual 28, 3) := by decide +kernel
theorem dX7_pass_42 : decode cX7_pass 42 = .ok (.ireturn, 1) := by decide +kernel
theorem dX7_pass_43 : decode cX7_pass 43 = .ok (.iconst 0, 1) := by decide +kernel
theorem dX7_pass_44 : decode cX7_pass 44 = .ok (.istore_n 2, 1) := by decide +kernel
theorem dX7_pass_45 : decode cX7_pass 45 = .ok (.iconst 0, 1) := by decide +kernel
theorem dX7_pass_46 : decode cX7_pass 46 = .ok (.istore_n 3, 1) := by decide +kernel
theorem dX7_pass_47 : decode cX7_pass 47 = .ok (.iload_n 3, 1) := by decide +kernel
theorem dX7_pass_48 : decode cX7_pass 48 = .ok (.iload_n 1, 1) := by decide +kernel
theorem dX7_pass_49 : decode cX7_pass 49 = .ok (.if_icmp .ge 19, 3) := by decide +kernel
theorem dX7_pass_52 : decode cX7_pass 52 = .ok (.iload_n 2, 1) := by decide +kernel
theorem dX7_pass_53 : decode cX7_pass 53 = .ok (.aload_n 0, 1) := by decide +kernel
theorem dX7_pass_54 : decode cX7_pass 54 = .ok (.getfield 10, 3) := by decide +kernel
theorem dX7_pass_57 : decode cX7_pass 57 = .ok (.invokevirtual 162, 3) := by decide +kernel
theorem dX7_pass_60 : decode cX7_pass 60 = .ok (.iadd, 1) := by decide +kernel
theorem dX7_pass_61 : decode cX7_pass 61 = .ok (.istore_n 2, 1) := by decide +kernel
theorem dX7_pass_62 : decode cX7_pass 62 = .ok (.iinc 3 1, 3) := by decide +kernel
theorem dX7_pass_65 : decode cX7_pass 65 = .ok (.goto (-18), 3) := by decide +kernel
theorem dX7_pass_68 : decode cX7_pass 68 = .ok (.iload_n 2, 1) := by decide +kernel
theorem dX7_pass_69 : decode cX7_pass 69 = .ok (.ireturn, 1) := by decide +kernel
theorem dX7_counted_0 : decode cX7_counted 0 = .ok (.iconst 0, 1) := by decide +kernel
theorem dX7_counted_1 : decode cX7_counted 1 = .ok (.istore_n 2, 1) := by decide +kernel
theorem dX7_counted_2 : decode cX7_counted 2 = .ok (.iconst 0, 1) := by decide +kernel
theorem dX7_counted_3 : decode cX7_counted 3 = .ok (.istore_n 3, 1) := by decide +kernel
theorem dX7_counted_4 : decode cX7_counted 4 = .ok (.iconst 0, 1) := by decide +kernel
theorem dX7_counted_5 : decode cX7_counted 5 = .ok (.istore 4, 2) := by decide +kernel
theorem dX7_counted_7 : decode cX7_counted 7 = .ok (.iload 4, 2) := by decide +kernel
theorem dX7_counted_9 : decode cX7_counted 9 = .ok (.aload_n 0, 1) := by decide +kernel
theorem dX7_counted_10 : decode cX7_counted 10 = .ok (.getfield 10, 3) := by decide +kernel
theorem dX7_counted_13 : decode cX7_counted 13 = .ok (.getfield 39, 3) := by decide +kernel
theorem dX7_counted_16 : decode cX7_counted 16 = .ok (.if_icmp .ge 30, 3) := by decide +kernel
theorem dX7_counted_19 : decode cX7_counted 19 = .ok (.iload_n 2, 1) := by decide +kernel
theorem dX7_counted_20 : decode cX7_counted 20 = .ok (.aload_n 0, 1) := by decide +kernel
theorem dX7_counted_21 : decode cX7_counted 21 = .ok (.getfield 10, 3) := by decide +kernel
theorem dX7_counted_24 : decode cX7_counted 24 = .ok (.getfield 45, 3) := by decide +kernel
theorem dX7_counted_27 : decode cX7_counted 27 = .ok (.iload 4, 2) := by decide +kernel
theorem dX7_counted_29 : decode cX7_counted 29 = .ok (.iaload, 1) := by decide +kernel
theorem dX7_counted_30 : decode cX7_counted 30 = .ok (.ifCond .ne 7, 3) := by decide +kernel
theorem dX7_counted_33 : decode cX7_counted 33 = .ok (.iconst 1, 1) := by decide +kernel
theorem dX7_counted_34 : decode cX7_counted 34 = .ok (.goto 4, 3) := by decide +kernel
theorem dX7_counted_37 : decode cX7_counted 37 = .ok (.iconst 0, 1) := by decide +kernel
theorem dX7_counted_38 : decode cX7_counted 38 = .ok (.iadd, 1) := by decide +kernel
theorem dX7_counted_39 : decode cX7_counted 39 = .ok (.istore_n 2, 1) := by decide +kernel
theorem dX7_counted_40 : decode cX7_counted 40 = .ok (.iinc 4 1, 3) := by decide +kernel
theorem dX7_counted_43 : decode cX7_counted 43 = .ok (.goto (-36), 3) := by decide +kernel
theorem dX7_counted_46 : decode cX7_counted 46 = .ok (.iconst 0, 1) := by decide +kernel
theorem dX7_counted_47 : decode cX7_counted 47 = .ok (.istore 4, 2) := by decide +kernel
theorem dX7_counted_49 : decode cX7_counted 49 = .ok (.iload 4, 2) := by decide +kernel
theorem dX7_counted_51 : decode cX7_counted 51 = .ok (.aload_n 0, 1) := by decide +kernel
theorem dX7_counted_52 : decode cX7_counted 52 = .ok (.getfield 10, 3) := by decide +kernel
theorem dX7_counted_55 : decode cX7_counted 55 = .ok (.getfield 32, 3) := by decide +kernel
theorem dX7_counted_58 : decode cX7_counted 58 = .ok (.if_icmp .ge 22, 3) := by decide +kernel
theorem dX7_counted_61 : decode cX7_counted 61 = .ok (.iload_n 3, 1) := by decide +kernel
theorem dX7_counted_62 : decode cX7_counted 62 = .ok (.aload_n 0, 1) := by decide +kernel
theorem dX7_counted_63 : decode cX7_counted 63 = .ok (.getfield 10, 3) := by decide +kernel
theorem dX7_counted_66 : decode cX7_counted 66 = .ok (.getfield 80, 3) := by decide +kernel
theorem dX7_counted_69 : decode cX7_counted 69 = .ok (.iload 4, 2) := by decide +kernel
theorem dX7_counted_71 : decode cX7_counted 71 = .ok (.iaload, 1) := by decide +kernel
theorem dX7_counted_72 : decode cX7_counted 72 = .ok (.iadd, 1) := by decide +kernel
theorem dX7_counted_73 : decode cX7_counted 73 = .ok (.istore_n 3, 1) := by decide +kernel
theorem dX7_counted_74 : decode cX7_counted 74 = .ok (.iinc 4 1, 3) := by decide +kernel
theorem dX7_counted_77 : decode cX7_counted 77 = .ok (.goto (-28), 3) := by decide +kernel
theorem dX7_counted_80 : decode cX7_counted 80 = .ok (.bipush 11, 2) := by decide +kernel
theorem dX7_counted_82 : decode cX7_counted 82 = .ok (.newarray .int, 2) := by decide +kernel
theorem dX7_counted_84 : decode cX7_counted 84 = .ok (.dup, 1) := by decide +kernel
theorem dX7_counted_85 : decode cX7_counted 85 = .ok (.iconst 0, 1) := by decide +kernel
theorem dX7_counted_86 : decode cX7_counted 86 = .ok (.aload_n 0, 1) := by decide +kernel
theorem dX7_counted_87 : decode cX7_counted 87 = .ok (.getfield 10, 3) := by decide +kernel
theorem dX7_counted_90 : decode cX7_counted 90 = .ok (.getfield 109, 3) := by decide +kernel
theorem dX7_counted_93 : decode cX7_counted 93 = .ok (.iastore, 1) := by decide +kernel
theorem dX7_counted_94 : decode cX7_counted 94 = .ok (.dup, 1) := by decide +kernel
theorem dX7_counted_95 : decode cX7_counted 95 = .ok (.iconst 1, 1) := by decide +kernel
theorem dX7_counted_96 : decode cX7_counted 96 = .ok (.aload_n 0, 1) := by decide +kernel
theorem dX7_counted_97 : decode cX7_counted 97 = .ok (.getfield 10, 3) := by decide +kernel
theorem dX7_counted_100 : decode cX7_counted 100 = .ok (.getfield 32, 3) := by decide +kernel
theorem dX7_counted_103 : decode cX7_counted 103 = .ok (.iastore, 1) := by decide +kernel
theorem dX7_counted_104 : decode cX7_counted 104 = .ok (.dup, 1) := by decide +kernel
theorem dX7_counted_105 : decode cX7_counted 105 = .ok (.iconst 2, 1) := by decide +kernel
theorem dX7_counted_106 : decode cX7_counted 106 = .ok (.aload_n 0, 1) := by decide +kernel
theorem dX7_counted_107 : decode cX7_counted 107 = .ok (.getfield 10, 3) := by decide +kernel
theorem dX7_counted_110 : decode cX7_counted 110 = .ok (.getfield 51, 3) := by decide +kernel
theorem dX7_counted_113 : decode cX7_counted 113 = .ok (.iastore, 1) := by decide +kernel
theorem dX7_counted_114 : decode cX7_counted 114 = .ok (.dup, 1) := by decide +kernel
theorem dX7_counted_115 : decode cX7_counted 115 = .ok (.iconst 3, 1) := by decide +kernel
theorem dX7_counted_116 : decode cX7_counted 116 = .ok (.aload_n 0, 1) := by decide +kernel
theorem dX7_counted_117 : decode cX7_counted 117 = .ok (.iconst (-1), 1) := by decide +kernel
theorem dX7_counted_118 : decode cX7_counted 118 = .ok (.invokevirtual 64, 3) := by decide +kernel
theorem dX7_counted_121 : decode cX7_counted 121 = .ok (.iastore, 1) := by decide +kernel
theorem dX7_counted_122 : decode cX7_counted 122 = .ok (.dup, 1) := by decide +kernel
theorem dX7_counted_123 : decode cX7_counted 123 = .ok (.iconst 4, 1) := by decide +kernel
theorem dX7_counted_124 : decode cX7_counted 124 = .ok (.aload_n 0, 1) := by decide +kernel
theorem dX7_counted_125 : decode cX7_counted 125 = .ok (.getfield 10, 3) := by decide +kernel
theorem dX7_counted_128 : decode cX7_counted 128 = .ok (.getfield 39, 3) := by decide +kernel
theorem dX7_counted_131 : decode cX7_counted 131 = .ok (.iastore, 1) := by decide +kernel
theorem dX7_counted_132 : decode cX7_counted 132 = .ok (.dup, 1) := by decide +kernel
theorem dX7_counted_133 : decode cX7_counted 133 = .ok (.iconst 5, 1) := by decide +kernel
theorem dX7_counted_134 : decode cX7_counted 134 = .ok (.iload_n 2, 1) := by decide +kernel
theorem dX7_counted_135 : decode cX7_counted 135 = .ok (.iastore, 1) := by decide +kernel
theorem dX7_counted_136 : decode cX7_counted 136 = .ok (.dup, 1) := by decide +kernel
theorem dX7_counted_137 : decode cX7_counted 137 = .ok (.bipush 6, 2) := by decide +kernel
theorem dX7_counted_139 : decode cX7_counted 139 = .ok (.aload_n 0, 1) := by decide +kernel
theorem dX7_counted_140 : decode cX7_counted 140 = .ok (.getfield 10, 3) := by decide +kernel
theorem dX7_counted_143 : decode cX7_counted 143 = .ok (.getfield 93, 3) := by decide +kernel
theorem dX7_counted_146 : decode cX7_counted 146 = .ok (.iastore, 1) := by decide +kernel
theorem dX7_counted_147 : decode cX7_counted 147 = .ok (.dup, 1) := by decide +kernel
theorem dX7_counted_148 : decode cX7_counted 148 = .ok (.bipush 7, 2) := by decide +kernel
theorem dX7_counted_150 : decode cX7_counted 150 = .ok (.aload_n 0, 1) := by decide +kernel
theorem dX7_counted_151 : decode cX7_counted 151 = .ok (.getfield 10, 3) := by decide +kernel
theorem dX7_counted_154 : decode cX7_counted 154 = .ok (.getfield 96, 3) := by decide +kernel
theorem dX7_counted_157 : decode cX7_counted 157 = .ok (.iastore, 1) := by decide +kernel
theorem dX7_counted_158 : decode cX7_counted 158 = .ok (.dup, 1) := by decide +kernel
theorem dX7_counted_159 : decode cX7_counted 159 = .ok (.bipush 8, 2) := by decide +kernel
theorem dX7_counted_161 : decode cX7_counted 161 = .ok (.aload_n 0, 1) := by decide +kernel
theorem dX7_counted_162 : decode cX7_counted 162 = .ok (.getfield 10, 3) := by decide +kernel
theorem dX7_counted_165 : decode cX7_counted 165 = .ok (.invokevirtual 89, 3) := by decide +kernel
theorem dX7_counted_168 : decode cX7_counted 168 = .ok (.iastore, 1) := by decide +kernel
theorem dX7_counted_169 : decode cX7_counted 169 = .ok (.dup, 1) := by decide +kernel
theorem dX7_counted_170 : decode cX7_counted 170 = .ok (.bipush 9, 2) := by decide +kernel
theorem dX7_counted_172 : decode cX7_counted 172 = .ok (.aload_n 0, 1) := by decide +kernel
theorem dX7_counted_173 : decode cX7_counted 173 = .ok (.getfield 10, 3) := by decide +kernel
theorem dX7_counted_176 : decode cX7_counted 176 = .ok (.getfield 165, 3) := by decide +kernel
theorem dX7_counted_179 : decode cX7_counted 179 = .ok (.iastore, 1) := by decide +kernel
theorem dX7_counted_180 : decode cX7_counted 180 = .ok (.dup, 1) := by decide +kernel
theorem dX7_counted_181 : decode cX7_counted 181 = .ok (.bipush 10, 2) := by decide +kernel
theorem dX7_counted_183 : decode cX7_counted 183 = .ok (.iload_n 3, 1) := by decide +kernel
theorem dX7_counted_184 : decode cX7_counted 184 = .ok (.iastore, 1) := by decide +kernel
theorem dX7_counted_185 : decode cX7_counted 185 = .ok (.astore 4, 2) := by decide +kernel
theorem dX7_counted_187 : decode cX7_counted 187 = .ok (.aload 4, 2) := by decide +kernel
theorem dX7_counted_189 : decode cX7_counted 189 = .ok (.iload_n 1, 1) := by decide +kernel
theorem dX7_counted_190 : decode cX7_counted 190 = .ok (.iaload, 1) := by decide +kernel
theorem dX7_counted_191 : decode cX7_counted 191 = .ok (.ireturn, 1) := by decide +kernel
theorem dX7_count_0 : decode cX7_count 0 = .ok (.aload_n 0, 1) := by decide +kernel
theorem dX7_count_1 : decode cX7_count 1 = .ok (.iconst 0, 1) := by decide +kernel
theorem dX7_count_2 : decode cX7_count 2 = .ok (.putfield 19, 3) := by decide +kernel
theorem dX7_count_5 : decode cX7_count 5 = .ok (.iload_n 1, 1) := by decide +kernel
theorem dX7_count_6 : decode cX7_count 6 = .ok (.iconst 0, 1) := by decide +kernel
theorem dX7_count_7 : decode cX7_count 7 = .ok (.bipush 10, 2) := by decide +kernel
theorem dX7_count_9 : decode cX7_count 9 = .ok (.invokestatic 24, 3) := by decide +kernel
theorem dX7_count_12 : decode cX7_count 12 = .ok (.ifCond .eq 11, 3) := by decide +kernel
theorem dX7_count_15 : decode cX7_count 15 = .ok (.aload_n 0, 1) := by decide +kernel
theorem dX7_count_16 : decode cX7_count 16 = .ok (.iload_n 1, 1) := by decide +kernel
theorem dX7_count_17 : decode cX7_count 17 = .ok (.invokevirtual 168, 3) := by decide +kernel
theorem dX7_count_20 : decode cX7_count 20 = .ok (.goto 8, 3) := by decide +kernel
theorem dX7_count_23 : decode cX7_count 23 = .ok (.aload_n 0, 1) := by decide +kernel
theorem dX7_count_24 : decode cX7_count 24 = .ok (.iconst 1, 1) := by decide +kernel
theorem dX7_count_25 : decode cX7_count 25 = .ok (.invokevirtual 28, 3) := by decide +kernel
theorem dX7_count_28 : decode cX7_count 28 = .ok (.ireturn, 1) := by decide +kernel
theorem dX7_foresee_0 : decode cX7_foresee 0 = .ok (.aload_n 0, 1) := by decide +kernel
theorem dX7_foresee_1 : decode cX7_foresee 1 = .ok (.iconst 0, 1) := by decide +kernel
theorem dX7_foresee_2 : decode cX7_foresee 2 = .ok (.putfield 19, 3) := by decide +kernel
theorem dX7_foresee_5 : decode cX7_foresee 5 = .ok (.iload_n 1, 1) := by decide +kernel
theorem dX7_foresee_6 : decode cX7_foresee 6 = .ok (.iconst 1, 1) := by decide +kernel
theorem dX7_foresee_7 : decode cX7_foresee 7 = .ok (.sipush 2400, 3) := by decide +kernel
theorem dX7_foresee_10 : decode cX7_foresee 10 = .ok (.invokestatic 24, 3) := by decide +kernel
theorem dX7_foresee_13 : decode cX7_foresee 13 = .ok (.ifCond .ne 9, 3) := by decide +kernel
theorem dX7_foresee_16 : decode cX7_foresee 16 = .ok (.aload_n 0, 1) := by decide +kernel
theorem dX7_foresee_17 : decode cX7_foresee 17 = .ok (.iconst 1, 1) := by decide +kernel
theorem dX7_foresee_18 : decode cX7_foresee 18 = .ok (.invokevirtual 28, 3) := by decide +kernel
theorem dX7_foresee_21 : decode cX7_foresee 21 = .ok (.ireturn, 1) := by decide +kernel
theorem dX7_foresee_22 : decode cX7_foresee 22 = .ok (.iload_n 2, 1) := by decide +kernel
theorem dX7_foresee_23 : decode cX7_foresee 23 = .ok (.iconst 0, 1) := by decide +kernel
theorem dX7_foresee_24 : decode cX7_foresee 24 = .ok (.iconst 3, 1) := by decide +kernel
theorem dX7_foresee_25 : decode cX7_foresee 25 = .ok (.invokestatic 24, 3) := by decide +kernel
theorem dX7_foresee_28 : decode cX7_foresee 28 = .ok (.ifCond .ne 9, 3) := by decide +kernel
theorem dX7_foresee_31 : decode cX7_foresee 31 = .ok (.aload_n 0, 1) := by decide +kernel
theorem dX7_foresee_32 : decode cX7_foresee 32 = .ok (.iconst 2, 1) := by decide +kernel
theorem dX7_foresee_33 : decode cX7_foresee 33 = .ok (.invokevirtual 28, 3) := by decide +kernel
theorem dX7_foresee_36 : decode cX7_foresee 36 = .ok (.ireturn, 1) := by decide +kernel
theorem dX7_foresee_37 : decode cX7_foresee 37 = .ok (.aload_n 0, 1) := by decide +kernel
theorem dX7_foresee_38 : decode cX7_foresee 38 = .ok (.getfield 10, 3) := by decide +kernel
theorem dX7_foresee_41 : decode cX7_foresee 41 = .ok (.getfield 109, 3) := by decide +kernel
theorem dX7_foresee_44 : decode cX7_foresee 44 = .ok (.iload_n 1, 1) := by decide +kernel
theorem dX7_foresee_45 : decode cX7_foresee 45 = .ok (.iadd, 1) := by decide +kernel
theorem dX7_foresee_46 : decode cX7_foresee 46 = .ok (.sipush 20000, 3) := by decide +kernel
theorem dX7_foresee_49 : decode cX7_foresee 49 = .ok (.if_icmp .le 9, 3) := by decide +kernel
theorem dX7_foresee_52 : decode cX7_foresee 52 = .ok (.aload_n 0, 1) := by decide +kernel
theorem dX7_foresee_53 : decode cX7_foresee 53 = .ok (.iconst 3, 1) := by decide +kernel
theorem dX7_foresee_54 : decode cX7_foresee 54 = .ok (.invokevirtual 28, 3) := by decide +kernel
theorem dX7_foresee_57 : decode cX7_foresee 57 = .ok (.ireturn, 1) := by decide +kernel
theorem dX7_foresee_58 : decode cX7_foresee 58 = .ok (.aload_n 0, 1) := by decide +kernel
theorem dX7_foresee_59 : decode cX7_foresee 59 = .ok (.getfield 16, 3) := by decide +kernel
theorem dX7_foresee_62 : decode cX7_foresee 62 = .ok (.aload_n 0, 1) := by decide +kernel
theorem dX7_foresee_63 : decode cX7_foresee 63 = .ok (.getfield 10, 3) := by decide +kernel
theorem dX7_foresee_66 : decode cX7_foresee 66 = .ok (.invokevirtual 171, 3) := by decide +kernel
theorem dX7_foresee_69 : decode cX7_foresee 69 = .ok (.iconst (-1), 1) := by decide +kernel
theorem dX7_foresee_70 : decode cX7_foresee 70 = .ok (.istore_n 3, 1) := by decide +kernel
theorem dX7_foresee_71 : decode cX7_foresee 71 = .ok (.iconst (-1), 1) := by decide +kernel
theorem dX7_foresee_72 : decode cX7_foresee 72 = .ok (.istore 4, 2) := by decide +kernel
theorem dX7_foresee_74 : decode cX7_foresee 74 = .ok (.iconst 0, 1) := by decide +kernel
theorem dX7_foresee_75 : decode cX7_foresee 75 = .ok (.istore 5, 2) := by decide +kernel
theorem dX7_foresee_77 : decode cX7_foresee 77 = .ok (.iconst 0, 1) := by decide +kernel
theorem dX7_foresee_78 : decode cX7_foresee 78 = .ok (.istore 6, 2) := by decide +kernel
theorem dX7_foresee_80 : decode cX7_foresee 80 = .ok (.iload 6, 2) := by decide +kernel
theorem dX7_foresee_82 : decode cX7_foresee 82 = .ok (.iload_n 1, 1) := by decide +kernel
theorem dX7_foresee_83 : decode cX7_foresee 83 = .ok (.if_icmp .ge 92, 3) := by decide +kernel
theorem dX7_foresee_86 : decode cX7_foresee 86 = .ok (.iload 5, 2) := by decide +kernel
theorem dX7_foresee_88 : decode cX7_foresee 88 = .ok (.aload_n 0, 1) := by decide +kernel
theorem dX7_foresee_89 : decode cX7_foresee 89 = .ok (.getfield 16, 3) := by decide +kernel
theorem dX7_foresee_92 : decode cX7_foresee 92 = .ok (.invokevirtual 162, 3) := by decide +kernel
theorem dX7_foresee_95 : decode cX7_foresee 95 = .ok (.iadd, 1) := by decide +kernel
theorem dX7_foresee_96 : decode cX7_foresee 96 = .ok (.istore 5, 2) := by decide +kernel
theorem dX7_foresee_98 : decode cX7_foresee 98 = .ok (.iload 5, 2) := by decide +kernel
theorem dX7_foresee_100 : decode cX7_foresee 100 = .ok (.ifCond .eq 69, 3) := by decide +kernel
theorem dX7_foresee_103 : decode cX7_foresee 103 = .ok (.iload_n 3, 1) := by decide +kernel
theorem dX7_foresee_104 : decode cX7_foresee 104 = .ok (.iconst (-1), 1) := by decide +kernel
theorem dX7_foresee_105 : decode cX7_foresee 105 = .ok (.if_icmp .eq 6, 3) := by decide +kernel
theorem dX7_foresee_108 : decode cX7_foresee 108 = .ok (.goto 61, 3) := by decide +kernel
theorem dX7_foresee_111 : decode cX7_foresee 111 = .ok (.aload_n 0, 1) := by decide +kernel
theorem dX7_foresee_112 : decode cX7_foresee 112 = .ok (.getfield 16, 3) := by decide +kernel
theorem dX7_foresee_115 : decode cX7_foresee 115 = .ok (.getfield 109, 3) := by decide +kernel
theorem dX7_foresee_118 : decode cX7_foresee 118 = .ok (.istore 4, 2) := by decide +kernel
theorem dX7_foresee_120 : decode cX7_foresee 120 = .ok (.aload_n 0, 1) := by decide +kernel
theorem dX7_foresee_121 : decode cX7_foresee 121 = .ok (.getfield 10, 3) := by decide +kernel
theorem dX7_foresee_124 : decode cX7_foresee 124 = .ok (.getfield 51, 3) := by decide +kernel
theorem dX7_foresee_127 : decode cX7_foresee 127 = .ok (.iconst 1, 1) := by decide +kernel
theorem dX7_foresee_128 : decode cX7_foresee 128 = .ok (.isub, 1) := by decide +kernel
theorem dX7_foresee_129 : decode cX7_foresee 129 = .ok (.istore 7, 2) := by decide +kernel
theorem dX7_foresee_131 : decode cX7_foresee 131 = .ok (.iload 7, 2) := by decide +kernel
theorem dX7_foresee_133 : decode cX7_foresee 133 = .ok (.ifCond .lt 36, 3) := by decide +kernel
theorem dX7_foresee_136 : decode cX7_foresee 136 = .ok (.aload_n 0, 1) := by decide +kernel
theorem dX7_foresee_137 : decode cX7_foresee 137 = .ok (.getfield 10, 3) := by decide +kernel
theorem dX7_foresee_140 : decode cX7_foresee 140 = .ok (.iload 7, 2) := by decide +kernel
theorem dX7_foresee_142 : decode cX7_foresee 142 = .ok (.invokevirtual 54, 3) := by decide +kernel
theorem dX7_foresee_145 : decode cX7_foresee 145 = .ok (.ifCond .eq 18, 3) := by decide +kernel
theorem dX7_foresee_148 : decode cX7_foresee 148 = .ok (.aload_n 0, 1) := by decide +kernel
theorem dX7_foresee_149 : decode cX7_foresee 149 = .ok (.getfield 16, 3) := by decide +kernel
theorem dX7_foresee_152 : decode cX7_foresee 152 = .ok (.iload 7, 2) := by decide +kernel
theorem dX7_foresee_154 : decode cX7_foresee 154 = .ok (.invokevirtual 54, 3) := by decide +kernel
theorem dX7_foresee_157 : decode cX7_foresee 157 = .ok (.ifCond .ne 6, 3) := by decide +kernel
theorem dX7_foresee_160 : decode cX7_foresee 160 = .ok (.iload 7, 2) := by decide +kernel
theorem dX7_foresee_162 : decode cX7_foresee 162 = .ok (.istore_n 3, 1) := by decide +kernel
theorem dX7_foresee_163 : decode cX7_foresee 163 = .ok (.iinc 7 (-1), 3) := by decide +kernel
theorem dX7_foresee_166 : decode cX7_foresee 166 = .ok (.goto (-35), 3) := by decide +kernel
theorem dX7_foresee_169 : decode cX7_foresee 169 = .ok (.iinc 6 1, 3) := by decide +kernel
theorem dX7_foresee_172 : decode cX7_foresee 172 = .ok (.goto (-92), 3) := by decide +kernel
theorem dX7_foresee_175 : decode cX7_foresee 175 = .ok (.iload_n 2, 1) := by decide +kernel
theorem dX7_foresee_176 : decode cX7_foresee 176 = .ok (.ifCond .ne 7, 3) := by decide +kernel
theorem dX7_foresee_179 : decode cX7_foresee 179 = .ok (.iload_n 3, 1) := by decide +kernel
theorem dX7_foresee_180 : decode cX7_foresee 180 = .ok (.goto 38, 3) := by decide +kernel
theorem dX7_foresee_183 : decode cX7_foresee 183 = .ok (.iload_n 2, 1) := by decide +kernel
theorem dX7_foresee_184 : decode cX7_foresee 184 = .ok (.iconst 1, 1) := by decide +kernel
theorem dX7_foresee_185 : decode cX7_foresee 185 = .ok (.if_icmp .ne 8, 3) := by decide +kernel
theorem dX7_foresee_188 : decode cX7_foresee 188 = .ok (.iload 4, 2) := by decide +kernel
theorem dX7_foresee_190 : decode cX7_foresee 190 = .ok (.goto 28, 3) := by decide +kernel
theorem dX7_foresee_193 : decode cX7_foresee 193 = .ok (.iload_n 2, 1) := by decide +kernel
theorem dX7_foresee_194 : decode cX7_foresee 194 = .ok (.iconst 2, 1) := by decide +kernel
theorem dX7_foresee_195 : decode cX7_foresee 195 = .ok (.if_icmp .ne 8, 3) := by decide +kernel
theorem dX7_foresee_198 : decode cX7_foresee 198 = .ok (.iload 5, 2) := by decide +kernel
theorem dX7_foresee_200 : decode cX7_foresee 200 = .ok (.goto 18, 3) := by decide +kernel
theorem dX7_foresee_203 : decode cX7_foresee 203 = .ok (.aload_n 0, 1) := by decide +kernel
theorem dX7_foresee_204 : decode cX7_foresee 204 = .ok (.getfield 16, 3) := by decide +kernel
theorem dX7_foresee_207 : decode cX7_foresee 207 = .ok (.invokevirtual 175, 3) := by decide +kernel
theorem dX7_foresee_210 : decode cX7_foresee 210 = .ok (.aload_n 0, 1) := by decide +kernel
theorem dX7_foresee_211 : decode cX7_foresee 211 = .ok (.getfield 10, 3) := by decide +kernel
theorem dX7_foresee_214 : decode cX7_foresee 214 = .ok (.invokevirtual 175, 3) := by decide +kernel
theorem dX7_foresee_217 : decode cX7_foresee 217 = .ok (.isub, 1) := by decide +kernel
theorem dX7_foresee_218 : decode cX7_foresee 218 = .ok (.ireturn, 1) := by decide +kernel
theorem dX7_isAhead_0 : decode cX7_isAhead 0 = .ok (.aload_n 0, 1) := by decide +kernel
theorem dX7_isAhead_1 : decode cX7_isAhead 1 = .ok (.getfield 10, 3) := by decide +kernel
theorem dX7_isAhead_4 : decode cX7_isAhead 4 = .ok (.getfield 67, 3) := by decide +kernel
theorem dX7_isAhead_7 : decode cX7_isAhead 7 = .ok (.iload_n 1, 1) := by decide +kernel
theorem dX7_isAhead_8 : decode cX7_isAhead 8 = .ok (.iaload, 1) := by decide +kernel
theorem dX7_isAhead_9 : decode cX7_isAhead 9 = .ok (.aload_n 0, 1) := by decide +kernel
theorem dX7_isAhead_10 : decode cX7_isAhead 10 = .ok (.getfield 10, 3) := by decide +kernel
theorem dX7_isAhead_13 : decode cX7_isAhead 13 = .ok (.getfield 70, 3) := by decide +kernel
theorem dX7_isAhead_16 : decode cX7_isAhead 16 = .ok (.iload_n 1, 1) := by decide +kernel
theorem dX7_isAhead_17 : decode cX7_isAhead 17 = .ok (.iaload, 1) := by decide +kernel
theorem dX7_isAhead_18 : decode cX7_isAhead 18 = .ok (.isub, 1) := by decide +kernel
theorem dX7_isAhead_19 : decode cX7_isAhead 19 = .ok (.istore_n 3, 1) := by decide +kernel
theorem dX7_isAhead_20 : decode cX7_isAhead 20 = .ok (.aload_n 0, 1) := by decide +kernel
theorem dX7_isAhead_21 : decode cX7_isAhead 21 = .ok (.getfield 10, 3) := by decide +kernel
theorem dX7_isAhead_24 : decode cX7_isAhead 24 = .ok (.getfield 67, 3) := by decide +kernel
theorem dX7_isAhead_27 : decode cX7_isAhead 27 = .ok (.iload_n 2, 1) := by decide +kernel
theorem dX7_isAhead_28 : decode cX7_isAhead 28 = .ok (.iaload, 1) := by decide +kernel
theorem dX7_isAhead_29 : decode cX7_isAhead 29 = .ok (.aload_n 0, 1) := by decide +kernel
theorem dX7_isAhead_30 : decode cX7_isAhead 30 = .ok (.getfield 10, 3) := by decide +kernel
theorem dX7_isAhead_33 : decode cX7_isAhead 33 = .ok (.getfield 70, 3) := by decide +kernel
theorem dX7_isAhead_36 : decode cX7_isAhead 36 = .ok (.iload_n 2, 1) := by decide +kernel
theorem dX7_isAhead_37 : decode cX7_isAhead 37 = .ok (.iaload, 1) := by decide +kernel
theorem dX7_isAhead_38 : decode cX7_isAhead 38 = .ok (.isub, 1) := by decide +kernel
theorem dX7_isAhead_39 : decode cX7_isAhead 39 = .ok (.istore 4, 2) := by decide +kernel
theorem dX7_isAhead_41 : decode cX7_isAhead 41 = .ok (.iload_n 3, 1) := by decide +kernel
theorem dX7_isAhead_42 : decode cX7_isAhead 42 = .ok (.iload 4, 2) := by decide +kernel
theorem dX7_isAhead_44 : decode cX7_isAhead 44 = .ok (.if_icmp .eq 15, 3) := by decide +kernel
theorem dX7_isAhead_47 : decode cX7_isAhead 47 = .ok (.iload_n 3, 1) := by decide +kernel
theorem dX7_isAhead_48 : decode cX7_isAhead 48 = .ok (.iload 4, 2) := by decide +kernel
theorem dX7_isAhead_50 : decode cX7_isAhead 50 = .ok (.if_icmp .le 7, 3) := by decide +kernel
theorem dX7_isAhead_53 : decode cX7_isAhead 53 = .ok (.iconst 1, 1) := by decide +kernel
theorem dX7_isAhead_54 : decode cX7_isAhead 54 = .ok (.goto 4, 3) := by decide +kernel
theorem dX7_isAhead_57 : decode cX7_isAhead 57 = .ok (.iconst 0, 1) := by decide +kernel
theorem dX7_isAhead_58 : decode cX7_isAhead 58 = .ok (.ireturn, 1) := by decide +kernel
theorem dX7_isAhead_59 : decode cX7_isAhead 59 = .ok (.aload_n 0, 1) := by decide +kernel
theorem dX7_isAhead_60 : decode cX7_isAhead 60 = .ok (.getfield 10, 3) := by decide +kernel
theorem dX7_isAhead_63 : decode cX7_isAhead 63 = .ok (.getfield 35, 3) := by decide +kernel
theorem dX7_isAhead_66 : decode cX7_isAhead 66 = .ok (.iload_n 1, 1) := by decide +kernel
theorem dX7_isAhead_67 : decode cX7_isAhead 67 = .ok (.iaload, 1) := by decide +kernel
theorem dX7_isAhead_68 : decode cX7_isAhead 68 = .ok (.aload_n 0, 1) := by decide +kernel
theorem dX7_isAhead_69 : decode cX7_isAhead 69 = .ok (.getfield 10, 3) := by decide +kernel
theorem dX7_isAhead_72 : decode cX7_isAhead 72 = .ok (.getfield 35, 3) := by decide +kernel
theorem dX7_isAhead_75 : decode cX7_isAhead 75 = .ok (.iload_n 2, 1) := by decide +kernel
theorem dX7_isAhead_76 : decode cX7_isAhead 76 = .ok (.iaload, 1) := by decide +kernel
theorem dX7_isAhead_77 : decode cX7_isAhead 77 = .ok (.if_icmp .gt 29, 3) := by decide +kernel
theorem dX7_isAhead_80 : decode cX7_isAhead 80 = .ok (.aload_n 0, 1) := by decide +kernel
theorem dX7_isAhead_81 : decode cX7_isAhead 81 = .ok (.getfield 10, 3) := by decide +kernel
theorem dX7_isAhead_84 : decode cX7_isAhead 84 = .ok (.getfield 35, 3) := by decide +kernel
theorem dX7_isAhead_87 : decode cX7_isAhead 87 = .ok (.iload_n 1, 1) := by decide +kernel
theorem dX7_isAhead_88 : decode cX7_isAhead 88 = .ok (.iaload, 1) := by decide +kernel
theorem dX7_isAhead_89 : decode cX7_isAhead 89 = .ok (.aload_n 0, 1) := by decide +kernel
theorem dX7_isAhead_90 : decode cX7_isAhead 90 = .ok (.getfield 10, 3) := by decide +kernel
theorem dX7_isAhead_93 : decode cX7_isAhead 93 = .ok (.getfield 35, 3) := by decide +kernel
theorem dX7_isAhead_96 : decode cX7_isAhead 96 = .ok (.iload_n 2, 1) := by decide +kernel
theorem dX7_isAhead_97 : decode cX7_isAhead 97 = .ok (.iaload, 1) := by decide +kernel
theorem dX7_isAhead_98 : decode cX7_isAhead 98 = .ok (.if_icmp .ne 12, 3) := by decide +kernel
theorem dX7_isAhead_101 : decode cX7_isAhead 101 = .ok (.iload_n 1, 1) := by decide +kernel
theorem dX7_isAhead_102 : decode cX7_isAhead 102 = .ok (.iload_n 2, 1) := by decide +kernel
theorem dX7_isAhead_103 : decode cX7_isAhead 103 = .ok (.if_icmp .ge 7, 3) := by decide +kernel
theorem dX7_isAhead_106 : decode cX7_isAhead 106 = .ok (.iconst 1, 1) := by decide +kernel
theorem dX7_isAhead_107 : decode cX7_isAhead 107 = .ok (.goto 4, 3) := by decide +kernel
theorem dX7_isAhead_110 : decode cX7_isAhead 110 = .ok (.iconst 0, 1) := by decide +kernel
theorem dX7_isAhead_111 : decode cX7_isAhead 111 = .ok (.ireturn, 1) := by decide +kernel
theorem dX7_leader_0 : decode cX7_leader 0 = .ok (.aload_n 0, 1) := by decide +kernel
theorem dX7_leader_1 : decode cX7_leader 1 = .ok (.iconst 0, 1) := by decide +kernel
theorem dX7_leader_2 : decode cX7_leader 2 = .ok (.putfield 19, 3) := by decide +kernel
theorem dX7_leader_5 : decode cX7_leader 5 = .ok (.iload_n 1, 1) := by decide +kernel
theorem dX7_leader_6 : decode cX7_leader 6 = .ok (.iconst 0, 1) := by decide +kernel
theorem dX7_leader_7 : decode cX7_leader 7 = .ok (.aload_n 0, 1) := by decide +kernel
theorem dX7_leader_8 : decode cX7_leader 8 = .ok (.getfield 10, 3) := by decide +kernel
theorem dX7_leader_11 : decode cX7_leader 11 = .ok (.getfield 32, 3) := by decide +kernel
theorem dX7_leader_14 : decode cX7_leader 14 = .ok (.iconst 1, 1) := by decide +kernel
theorem dX7_leader_15 : decode cX7_leader 15 = .ok (.isub, 1) := by decide +kernel
theorem dX7_leader_16 : decode cX7_leader 16 = .ok (.invokestatic 24, 3) := by decide +kernel
theorem dX7_leader_19 : decode cX7_leader 19 = .ok (.ifCond .ne 9, 3) := by decide +kernel
theorem dX7_leader_22 : decode cX7_leader 22 = .ok (.aload_n 0, 1) := by decide +kernel
theorem dX7_leader_23 : decode cX7_leader 23 = .ok (.iconst 1, 1) := by decide +kernel
theorem dX7_leader_24 : decode cX7_leader 24 = .ok (.invokevirtual 28, 3) := by decide +kernel
theorem dX7_leader_27 : decode cX7_leader 27 = .ok (.ireturn, 1) := by decide +kernel
theorem dX7_leader_28 : decode cX7_leader 28 = .ok (.iconst (-1), 1) := by decide +kernel
theorem dX7_leader_29 : decode cX7_leader 29 = .ok (.istore_n 2, 1) := by decide +kernel
theorem dX7_leader_30 : decode cX7_leader 30 = .ok (.iconst 0, 1) := by decide +kernel
theorem dX7_leader_31 : decode cX7_leader 31 = .ok (.istore_n 3, 1) := by decide +kernel
theorem dX7_leader_32 : decode cX7_leader 32 = .ok (.iload_n 3, 1) := by decide +kernel
theorem dX7_leader_33 : decode cX7_leader 33 = .ok (.aload_n 0, 1) := by decide +kernel
theorem dX7_leader_34 : decode cX7_leader 34 = .ok (.getfield 10, 3) := by decide +kernel
theorem dX7_leader_37 : decode cX7_leader 37 = .ok (.getfield 32, 3) := by decide +kernel
theorem dX7_leader_40 : decode cX7_leader 40 = .ok (.if_icmp .ge 67, 3) := by decide +kernel
theorem dX7_leader_43 : decode cX7_leader 43 = .ok (.iconst 0, 1) := by decide +kernel
theorem dX7_leader_44 : decode cX7_leader 44 = .ok (.istore 4, 2) := by decide +kernel
theorem dX7_leader_46 : decode cX7_leader 46 = .ok (.iconst 0, 1) := by decide +kernel
theorem dX7_leader_47 : decode cX7_leader 47 = .ok (.istore 5, 2) := by decide +kernel
theorem dX7_leader_49 : decode cX7_leader 49 = .ok (.iload 5, 2) := by decide +kernel
theorem dX7_leader_51 : decode cX7_leader 51 = .ok (.aload_n 0, 1) := by decide +kernel
theorem dX7_leader_52 : decode cX7_leader 52 = .ok (.getfield 10, 3) := by decide +kernel
theorem dX7_leader_55 : decode cX7_leader 55 = .ok (.getfield 32, 3) := by decide +kernel
theorem dX7_leader_58 : decode cX7_leader 58 = .ok (.if_icmp .ge 35, 3) := by decide +kernel
theorem dX7_leader_61 : decode cX7_leader 61 = .ok (.iload 4, 2) := by decide +kernel
theorem dX7_leader_63 : decode cX7_leader 63 = .ok (.iload 5, 2) := by decide +kernel
theorem dX7_leader_65 : decode cX7_leader 65 = .ok (.iload_n 3, 1) := by decide +kernel
theorem dX7_leader_66 : decode cX7_leader 66 = .ok (.if_icmp .eq 17, 3) := by decide +kernel
theorem dX7_leader_69 : decode cX7_leader 69 = .ok (.aload_n 0, 1) := by decide +kernel
theorem dX7_leader_70 : decode cX7_leader 70 = .ok (.iload 5, 2) := by decide +kernel
theorem dX7_leader_72 : decode cX7_leader 72 = .ok (.iload_n 3, 1) := by decide +kernel
theorem dX7_leader_73 : decode cX7_leader 73 = .ok (.invokevirtual 178, 3) := by decide +kernel
theorem dX7_leader_76 : decode cX7_leader 76 = .ok (.ifCond .eq 7, 3) := by decide +kernel
theorem dX7_leader_79 : decode cX7_leader 79 = .ok (.iconst 1, 1) := by decide +kernel
theorem dX7_leader_80 : decode cX7_leader 80 = .ok (.goto 4, 3) := by decide +kernel
theorem dX7_leader_83 : decode cX7_leader 83 = .ok (.iconst 0, 1) := by decide +kernel
theorem dX7_leader_84 : decode cX7_leader 84 = .ok (.iadd, 1) := by decide +kernel
theorem dX7_leader_85 : decode cX7_leader 85 = .ok (.istore 4, 2) := by decide +kernel
theorem dX7_leader_87 : decode cX7_leader 87 = .ok (.iinc 5 1, 3) := by decide +kernel
theorem dX7_leader_90 : decode cX7_leader 90 = .ok (.goto (-41), 3) := by decide +kernel
theorem dX7_leader_93 : decode cX7_leader 93 = .ok (.iload 4, 2) := by decide +kernel
theorem dX7_leader_95 : decode cX7_leader 95 = .ok (.iload_n 1, 1) := by decide +kernel
theorem dX7_leader_96 : decode cX7_leader 96 = .ok (.if_icmp .ne 5, 3) := by decide +kernel
theorem dX7_leader_99 : decode cX7_leader 99 = .ok (.iload_n 3, 1) := by decide +kernel
theorem dX7_leader_100 : decode cX7_leader 100 = .ok (.istore_n 2, 1) := by decide +kernel
theorem dX7_leader_101 : decode cX7_leader 101 = .ok (.iinc 3 1, 3) := by decide +kernel
theorem dX7_leader_104 : decode cX7_leader 104 = .ok (.goto (-72), 3) := by decide +kernel
theorem dX7_leader_107 : decode cX7_leader 107 = .ok (.iload_n 2, 1) := by decide +kernel
theorem dX7_leader_108 : decode cX7_leader 108 = .ok (.ireturn, 1) := by decide +kernel
theorem dX7_needs_0 : decode cX7_needs 0 = .ok (.aload_n 0, 1) := by decide +kernel
theorem dX7_needs_1 : decode cX7_needs 1 = .ok (.iconst 0, 1) := by decide +kernel
theorem dX7_needs_2 : decode cX7_needs 2 = .ok (.putfield 19, 3) := by decide +kernel
theorem dX7_needs_5 : decode cX7_needs 5 = .ok (.aload_n 0, 1) := by decide +kernel
theorem dX7_needs_6 : decode cX7_needs 6 = .ok (.iload_n 1, 1) := by decide +kernel
theorem dX7_needs_7 : decode cX7_needs 7 = .ok (.invokevirtual 83, 3) := by decide +kernel
theorem dX7_needs_10 : decode cX7_needs 10 = .ok (.ifCond .ne 9, 3) := by decide +kernel
theorem dX7_needs_13 : decode cX7_needs 13 = .ok (.aload_n 0, 1) := by decide +kernel
theorem dX7_needs_14 : decode cX7_needs 14 = .ok (.iconst 1, 1) := by decide +kernel
theorem dX7_needs_15 : decode cX7_needs 15 = .ok (.invokevirtual 28, 3) := by decide +kernel
theorem dX7_needs_18 : decode cX7_needs 18 = .ok (.ireturn, 1) := by decide +kernel
theorem dX7_needs_19 : decode cX7_needs 19 = .ok (.iload_n 2, 1) := by decide +kernel
theorem dX7_needs_20 : decode cX7_needs 20 = .ok (.iconst 1, 1) := by decide +kernel
theorem dX7_needs_21 : decode cX7_needs 21 = .ok (.sipush 600, 3) := by decide +kernel
theorem dX7_needs_24 : decode cX7_needs 24 = .ok (.invokestatic 24, 3) := by decide +kernel
theorem dX7_needs_27 : decode cX7_needs 27 = .ok (.ifCond .ne 9, 3) := by decide +kernel
theorem dX7_needs_30 : decode cX7_needs 30 = .ok (.aload_n 0, 1) := by decide +kernel
theorem dX7_needs_31 : decode cX7_needs 31 = .ok (.iconst 2, 1) := by decide +kernel
theorem dX7_needs_32 : decode cX7_needs 32 = .ok (.invokevirtual 28, 3) := by decide +kernel
theorem dX7_needs_35 : decode cX7_needs 35 = .ok (.ireturn, 1) := by decide +kernel
theorem dX7_needs_36 : decode cX7_needs 36 = .ok (.iconst 0, 1) := by decide +kernel
theorem dX7_needs_37 : decode cX7_needs 37 = .ok (.istore_n 3, 1) := by decide +kernel
theorem dX7_needs_38 : decode cX7_needs 38 = .ok (.iconst 0, 1) := by decide +kernel
theorem dX7_needs_39 : decode cX7_needs 39 = .ok (.istore 4, 2) := by decide +kernel
theorem dX7_needs_41 : decode cX7_needs 41 = .ok (.iload 4, 2) := by decide +kernel
theorem dX7_needs_43 : decode cX7_needs 43 = .ok (.aload_n 0, 1) := by decide +kernel
theorem dX7_needs_44 : decode cX7_needs 44 = .ok (.getfield 10, 3) := by decide +kernel
theorem dX7_needs_47 : decode cX7_needs 47 = .ok (.getfield 51, 3) := by decide +kernel
theorem dX7_needs_50 : decode cX7_needs 50 = .ok (.if_icmp .ge 110, 3) := by decide +kernel
theorem dX7_needs_53 : decode cX7_needs 53 = .ok (.iconst 2, 1) := by decide +kernel
theorem dX7_needs_54 : decode cX7_needs 54 = .ok (.iload 4, 2) := by decide +kernel
theorem dX7_needs_56 : decode cX7_needs 56 = .ok (.imul, 1) := by decide +kernel
theorem dX7_needs_57 : decode cX7_needs 57 = .ok (.aload_n 0, 1) := by decide +kernel
theorem dX7_needs_58 : decode cX7_needs 58 = .ok (.getfield 10, 3) := by decide +kernel
theorem dX7_needs_61 : decode cX7_needs 61 = .ok (.getfield 138, 3) := by decide +kernel
theorem dX7_needs_64 : decode cX7_needs 64 = .ok (.iload 4, 2) := by decide +kernel
theorem dX7_needs_66 : decode cX7_needs 66 = .ok (.iaload, 1) := by decide +kernel
theorem dX7_needs_67 : decode cX7_needs 67 = .ok (.iadd, 1) := by decide +kernel
theorem dX7_needs_68 : decode cX7_needs 68 = .ok (.istore 5, 2) := by decide +kernel
theorem dX7_needs_70 : decode cX7_needs 70 = .ok (.aload_n 0, 1) := by decide +kernel
theorem dX7_needs_71 : decode cX7_needs 71 = .ok (.getfield 10, 3) := by decide +kernel
theorem dX7_needs_74 : decode cX7_needs 74 = .ok (.iload 4, 2) := by decide +kernel
theorem dX7_needs_76 : decode cX7_needs 76 = .ok (.invokevirtual 54, 3) := by decide +kernel
theorem dX7_needs_79 : decode cX7_needs 79 = .ok (.ifCond .eq 75, 3) := by decide +kernel
theorem dX7_needs_82 : decode cX7_needs 82 = .ok (.aload_n 0, 1) := by decide +kernel
theorem dX7_needs_83 : decode cX7_needs 83 = .ok (.getfield 10, 3) := by decide +kernel
theorem dX7_needs_86 : decode cX7_needs 86 = .ok (.getfield 58, 3) := by decide +kernel
theorem dX7_needs_89 : decode cX7_needs 89 = .ok (.iload 5, 2) := by decide +kernel
theorem dX7_needs_91 : decode cX7_needs 91 = .ok (.iaload, 1) := by decide +kernel
theorem dX7_needs_92 : decode cX7_needs 92 = .ok (.iload_n 1, 1) := by decide +kernel
theorem dX7_needs_93 : decode cX7_needs 93 = .ok (.if_icmp .eq 6, 3) := by decide +kernel
theorem dX7_needs_96 : decode cX7_needs 96 = .ok (.goto 58, 3) := by decide +kernel
theorem dX7_needs_99 : decode cX7_needs 99 = .ok (.iconst 0, 1) := by decide +kernel
theorem dX7_needs_100 : decode cX7_needs 100 = .ok (.iload_n 2, 1) := by decide +kernel
theorem dX7_needs_101 : decode cX7_needs 101 = .ok (.aload_n 0, 1) := by decide +kernel
theorem dX7_needs_102 : decode cX7_needs 102 = .ok (.getfield 10, 3) := by decide +kernel
theorem dX7_needs_105 : decode cX7_needs 105 = .ok (.getfield 141, 3) := by decide +kernel
theorem dX7_needs_108 : decode cX7_needs 108 = .ok (.iload 4, 2) := by decide +kernel
theorem dX7_needs_110 : decode cX7_needs 110 = .ok (.iaload, 1) := by decide +kernel
theorem dX7_needs_111 : decode cX7_needs 111 = .ok (.iload_n 2, 1) := by decide +kernel
theorem dX7_needs_112 : decode cX7_needs 112 = .ok (.iadd, 1) := by decide +kernel
theorem dX7_needs_113 : decode cX7_needs 113 = .ok (.aload_n 0, 1) := by decide +kernel
theorem dX7_needs_114 : decode cX7_needs 114 = .ok (.getfield 10, 3) := by decide +kernel
theorem dX7_needs_117 : decode cX7_needs 117 = .ok (.getfield 129, 3) := by decide +kernel
theorem dX7_needs_120 : decode cX7_needs 120 = .ok (.iload 4, 2) := by decide +kernel
theorem dX7_needs_122 : decode cX7_needs 122 = .ok (.iaload, 1) := by decide +kernel
theorem dX7_needs_123 : decode cX7_needs 123 = .ok (.isub, 1) := by decide +kernel
theorem dX7_needs_124 : decode cX7_needs 124 = .ok (.invokestatic 115, 3) := by decide +kernel
theorem dX7_needs_127 : decode cX7_needs 127 = .ok (.invokestatic 182, 3) := by decide +kernel
theorem dX7_needs_130 : decode cX7_needs 130 = .ok (.istore 6, 2) := by decide +kernel
theorem dX7_needs_132 : decode cX7_needs 132 = .ok (.iload_n 3, 1) := by decide +kernel
theorem dX7_needs_133 : decode cX7_needs 133 = .ok (.iconst 0, 1) := by decide +kernel
theorem dX7_needs_134 : decode cX7_needs 134 = .ok (.iload 6, 2) := by decide +kernel
theorem dX7_needs_136 : decode cX7_needs 136 = .ok (.iconst 1, 1) := by decide +kernel
theorem dX7_needs_137 : decode cX7_needs 137 = .ok (.iadd, 1) := by decide +kernel
theorem dX7_needs_138 : decode cX7_needs 138 = .ok (.aload_n 0, 1) := by decide +kernel
theorem dX7_needs_139 : decode cX7_needs 139 = .ok (.getfield 10, 3) := by decide +kernel
theorem dX7_needs_142 : decode cX7_needs 142 = .ok (.getfield 123, 3) := by decide +kernel
theorem dX7_needs_145 : decode cX7_needs 145 = .ok (.iload 5, 2) := by decide +kernel
theorem dX7_needs_147 : decode cX7_needs 147 = .ok (.iaload, 1) := by decide +kernel
theorem dX7_needs_148 : decode cX7_needs 148 = .ok (.isub, 1) := by decide +kernel
theorem dX7_needs_149 : decode cX7_needs 149 = .ok (.invokestatic 182, 3) := by decide +kernel
theorem dX7_needs_152 : decode cX7_needs 152 = .ok (.iadd, 1) := by decide +kernel
theorem dX7_needs_153 : decode cX7_needs 153 = .ok (.istore_n 3, 1) := by decide +kernel
theorem dX7_needs_154 : decode cX7_needs 154 = .ok (.iinc 4 1, 3) := by decide +kernel
theorem dX7_needs_157 : decode cX7_needs 157 = .ok (.goto (-116), 3) := by decide +kernel
theorem dX7_needs_160 : decode cX7_needs 160 = .ok (.iload_n 3, 1) := by decide +kernel
theorem dX7_needs_161 : decode cX7_needs 161 = .ok (.ireturn, 1) := by decide +kernel
theorem dX7_mean_0 : decode cX7_mean 0 = .ok (.aload_n 0, 1) := by decide +kernel
theorem dX7_mean_1 : decode cX7_mean 1 = .ok (.iconst 0, 1) := by decide +kernel
theorem dX7_mean_2 : decode cX7_mean 2 = .ok (.putfield 19, 3) := by decide +kernel
theorem dX7_mean_5 : decode cX7_mean 5 = .ok (.lconst 0, 1) := by decide +kernel
theorem dX7_mean_6 : decode cX7_mean 6 = .ok (.lstore_n 1, 1) := by decide +kernel
theorem dX7_mean_7 : decode cX7_mean 7 = .ok (.iconst 0, 1) := by decide +kernel
theorem dX7_mean_8 : decode cX7_mean 8 = .ok (.istore_n 3, 1) := by decide +kernel
theorem dX7_mean_9 : decode cX7_mean 9 = .ok (.iload_n 3, 1) := by decide +kernel
theorem dX7_mean_10 : decode cX7_mean 10 = .ok (.iconst 2, 1) := by decide +kernel
theorem dX7_mean_11 : decode cX7_mean 11 = .ok (.aload_n 0, 1) := by decide +kernel
theorem dX7_mean_12 : decode cX7_mean 12 = .ok (.getfield 10, 3) := by decide +kernel
theorem dX7_mean_15 : decode cX7_mean 15 = .ok (.getfield 51, 3) := by decide +kernel
theorem dX7_mean_18 : decode cX7_mean 18 = .ok (.imul, 1) := by decide +kernel
theorem dX7_mean_19 : decode cX7_mean 19 = .ok (.if_icmp .ge 39, 3) := by decide +kernel
theorem dX7_mean_22 : decode cX7_mean 22 = .ok (.lload_n 1, 1) := by decide +kernel
theorem dX7_mean_23 : decode cX7_mean 23 = .ok (.aload_n 0, 1) := by decide +kernel
theorem dX7_mean_24 : decode cX7_mean 24 = .ok (.getfield 10, 3) := by decide +kernel
theorem dX7_mean_27 : decode cX7_mean 27 = .ok (.iload_n 3, 1) := by decide +kernel
theorem dX7_mean_28 : decode cX7_mean 28 = .ok (.iconst 2, 1) := by decide +kernel
theorem dX7_mean_29 : decode cX7_mean 29 = .ok (.idiv, 1) := by decide +kernel
theorem dX7_mean_30 : decode cX7_mean 30 = .ok (.invokevirtual 54, 3) := by decide +kernel
theorem dX7_mean_33 : decode cX7_mean 33 = .ok (.ifCond .eq 16, 3) := by decide +kernel
theorem dX7_mean_36 : decode cX7_mean 36 = .ok (.aload_n 0, 1) := by decide +kernel
theorem dX7_mean_37 : decode cX7_mean 37 = .ok (.getfield 10, 3) := by decide +kernel
theorem dX7_mean_40 : decode cX7_mean 40 = .ok (.getfield 123, 3) := by decide +kernel
theorem dX7_mean_43 : decode cX7_mean 43 = .ok (.iload_n 3, 1) := by decide +kernel
theorem dX7_mean_44 : decode cX7_mean 44 = .ok (.iaload, 1) := by decide +kernel
theorem dX7_mean_45 : decode cX7_mean 45 = .ok (.i2l, 1) := by decide +kernel
theorem dX7_mean_46 : decode cX7_mean 46 = .ok (.goto 4, 3) := by decide +kernel
theorem dX7_mean_49 : decode cX7_mean 49 = .ok (.lconst 0, 1) := by decide +kernel
theorem dX7_mean_50 : decode cX7_mean 50 = .ok (.ladd, 1) := by decide +kernel
theorem dX7_mean_51 : decode cX7_mean 51 = .ok (.lstore_n 1, 1) := by decide +kernel
theorem dX7_mean_52 : decode cX7_mean 52 = .ok (.iinc 3 1, 3) := by decide +kernel
theorem dX7_mean_55 : decode cX7_mean 55 = .ok (.goto (-46), 3) := by decide +kernel
theorem dX7_mean_58 : decode cX7_mean 58 = .ok (.aload_n 0, 1) := by decide +kernel
theorem dX7_mean_59 : decode cX7_mean 59 = .ok (.iconst (-1), 1) := by decide +kernel
theorem dX7_mean_60 : decode cX7_mean 60 = .ok (.invokevirtual 64, 3) := by decide +kernel
theorem dX7_mean_63 : decode cX7_mean 63 = .ok (.ifCond .ne 7, 3) := by decide +kernel
theorem dX7_mean_66 : decode cX7_mean 66 = .ok (.dconst 0, 1) := by decide +kernel
theorem dX7_mean_67 : decode cX7_mean 67 = .ok (.goto 14, 3) := by decide +kernel
theorem dX7_mean_70 : decode cX7_mean 70 = .ok (.lload_n 1, 1) := by decide +kernel
theorem dX7_mean_71 : decode cX7_mean 71 = .ok (.l2d, 1) := by decide +kernel
theorem dX7_mean_72 : decode cX7_mean 72 = .ok (.iconst 2, 1) := by decide +kernel
theorem dX7_mean_73 : decode cX7_mean 73 = .ok (.aload_n 0, 1) := by decide +kernel
theorem dX7_mean_74 : decode cX7_mean 74 = .ok (.iconst (-1), 1) := by decide +kernel
theorem dX7_mean_75 : decode cX7_mean 75 = .ok (.invokevirtual 64, 3) := by decide +kernel
theorem dX7_mean_78 : decode cX7_mean 78 = .ok (.imul, 1) := by decide +kernel
theorem dX7_mean_79 : decode cX7_mean 79 = .ok (.i2d, 1) := by decide +kernel
theorem dX7_mean_80 : decode cX7_mean 80 = .ok (.ddiv, 1) := by decide +kernel
theorem dX7_mean_81 : decode cX7_mean 81 = .ok (.dreturn, 1) := by decide +kernel
theorem dX7_digest_0 : decode cX7_digest 0 = .ok (.aload_n 0, 1) := by decide +kernel
theorem dX7_digest_1 : decode cX7_digest 1 = .ok (.iconst 0, 1) := by decide +kernel
theorem dX7_digest_2 : decode cX7_digest 2 = .ok (.putfield 19, 3) := by decide +kernel
theorem dX7_digest_5 : decode cX7_digest 5 = .ok (.ldc2_w 185, 3) := by decide +kernel
theorem dX7_digest_8 : decode cX7_digest 8 = .ok (.lstore_n 1, 1) := by decide +kernel
theorem dX7_digest_9 : decode cX7_digest 9 = .ok (.iconst 0, 1) := by decide +kernel
theorem dX7_digest_10 : decode cX7_digest 10 = .ok (.istore_n 3, 1) := by decide +kernel
theorem dX7_digest_11 : decode cX7_digest 11 = .ok (.iload_n 3, 1) := by decide +kernel
theorem dX7_digest_12 : decode cX7_digest 12 = .ok (.bipush 11, 2) := by decide +kernel
theorem dX7_digest_14 : decode cX7_digest 14 = .ok (.if_icmp .ge 22, 3) := by decide +kernel
theorem dX7_digest_17 : decode cX7_digest 17 = .ok (.lload_n 1, 1) := by decide +kernel
theorem dX7_digest_18 : decode cX7_digest 18 = .ok (.ldc2_w 187, 3) := by decide +kernel
theorem dX7_digest_21 : decode cX7_digest 21 = .ok (.lmul, 1) := by decide +kernel
theorem dX7_digest_22 : decode cX7_digest 22 = .ok (.aload_n 0, 1) := by decide +kernel
theorem dX7_digest_23 : decode cX7_digest 23 = .ok (.iload_n 3, 1) := by decide +kernel
theorem dX7_digest_24 : decode cX7_digest 24 = .ok (.invokevirtual 168, 3) := by decide +kernel
theorem dX7_digest_27 : decode cX7_digest 27 = .ok (.i2l, 1) := by decide +kernel
theorem dX7_digest_28 : decode cX7_digest 28 = .ok (.ladd, 1) := by decide +kernel
theorem dX7_digest_29 : decode cX7_digest 29 = .ok (.lstore_n 1, 1) := by decide +kernel
theorem dX7_digest_30 : decode cX7_digest 30 = .ok (.iinc 3 1, 3) := by decide +kernel
theorem dX7_digest_33 : decode cX7_digest 33 = .ok (.goto (-22), 3) := by decide +kernel
theorem dX7_digest_36 : decode cX7_digest 36 = .ok (.iconst 0, 1) := by decide +kernel
theorem dX7_digest_37 : decode cX7_digest 37 = .ok (.istore_n 3, 1) := by decide +kernel
theorem dX7_digest_38 : decode cX7_digest 38 = .ok (.iload_n 3, 1) := by decide +kernel
theorem dX7_digest_39 : decode cX7_digest 39 = .ok (.aload_n 0, 1) := by decide +kernel
theorem dX7_digest_40 : decode cX7_digest 40 = .ok (.getfield 10, 3) := by decide +kernel
theorem dX7_digest_43 : decode cX7_digest 43 = .ok (.getfield 32, 3) := by decide +kernel
theorem dX7_digest_46 : decode cX7_digest 46 = .ok (.if_icmp .ge 40, 3) := by decide +kernel
theorem dX7_digest_49 : decode cX7_digest 49 = .ok (.iconst 0, 1) := by decide +kernel
theorem dX7_digest_50 : decode cX7_digest 50 = .ok (.istore 4, 2) := by decide +kernel
theorem dX7_digest_52 : decode cX7_digest 52 = .ok (.iload 4, 2) := by decide +kernel
theorem dX7_digest_54 : decode cX7_digest 54 = .ok (.bipush 8, 2) := by decide +kernel
theorem dX7_digest_56 : decode cX7_digest 56 = .ok (.if_icmp .ge 24, 3) := by decide +kernel
theorem dX7_digest_59 : decode cX7_digest 59 = .ok (.lload_n 1, 1) := by decide +kernel
theorem dX7_digest_60 : decode cX7_digest 60 = .ok (.ldc2_w 187, 3) := by decide +kernel
theorem dX7_digest_63 : decode cX7_digest 63 = .ok (.lmul, 1) := by decide +kernel
theorem dX7_digest_64 : decode cX7_digest 64 = .ok (.aload_n 0, 1) := by decide +kernel
theorem dX7_digest_65 : decode cX7_digest 65 = .ok (.iload_n 3, 1) := by decide +kernel
theorem dX7_digest_66 : decode cX7_digest 66 = .ok (.iload 4, 2) := by decide +kernel
theorem dX7_digest_68 : decode cX7_digest 68 = .ok (.invokevirtual 86, 3) := by decide +kernel
theorem dX7_digest_71 : decode cX7_digest 71 = .ok (.i2l, 1) := by decide +kernel
theorem dX7_digest_72 : decode cX7_digest 72 = .ok (.ladd, 1) := by decide +kernel
theorem dX7_digest_73 : decode cX7_digest 73 = .ok (.lstore_n 1, 1) := by decide +kernel
theorem dX7_digest_74 : decode cX7_digest 74 = .ok (.iinc 4 1, 3) := by decide +kernel
theorem dX7_digest_77 : decode cX7_digest 77 = .ok (.goto (-25), 3) := by decide +kernel
theorem dX7_digest_80 : decode cX7_digest 80 = .ok (.iinc 3 1, 3) := by decide +kernel
theorem dX7_digest_83 : decode cX7_digest 83 = .ok (.goto (-45), 3) := by decide +kernel
theorem dX7_digest_86 : decode cX7_digest 86 = .ok (.iconst 0, 1) := by decide +kernel
theorem dX7_digest_87 : decode cX7_digest 87 = .ok (.istore_n 3, 1) := by decide +kernel
theorem dX7_digest_88 : decode cX7_digest 88 = .ok (.iload_n 3, 1) := by decide +kernel
theorem dX7_digest_89 : decode cX7_digest 89 = .ok (.aload_n 0, 1) := by decide +kernel
theorem dX7_digest_90 : decode cX7_digest 90 = .ok (.getfield 10, 3) := by decide +kernel
theorem dX7_digest_93 : decode cX7_digest 93 = .ok (.getfield 39, 3) := by decide +kernel
theorem dX7_digest_96 : decode cX7_digest 96 = .ok (.if_icmp .ge 39, 3) := by decide +kernel
theorem dX7_digest_99 : decode cX7_digest 99 = .ok (.iconst 0, 1) := by decide +kernel
theorem dX7_digest_100 : decode cX7_digest 100 = .ok (.istore 4, 2) := by decide +kernel
theorem dX7_digest_102 : decode cX7_digest 102 = .ok (.iload 4, 2) := by decide +kernel
theorem dX7_digest_104 : decode cX7_digest 104 = .ok (.iconst 5, 1) := by decide +kernel
theorem dX7_digest_105 : decode cX7_digest 105 = .ok (.if_icmp .ge 24, 3) := by decide +kernel
theorem dX7_digest_108 : decode cX7_digest 108 = .ok (.lload_n 1, 1) := by decide +kernel
theorem dX7_digest_109 : decode cX7_digest 109 = .ok (.ldc2_w 187, 3) := by decide +kernel
theorem dX7_digest_112 : decode cX7_digest 112 = .ok (.lmul, 1) := by decide +kernel
theorem dX7_digest_113 : decode cX7_digest 113 = .ok (.aload_n 0, 1) := by decide +kernel
theorem dX7_digest_114 : decode cX7_digest 114 = .ok (.iload_n 3, 1) := by decide +kernel
theorem dX7_digest_115 : decode cX7_digest 115 = .ok (.iload 4, 2) := by decide +kernel
theorem dX7_digest_117 : decode cX7_digest 117 = .ok (.invokevirtual 120, 3) := by decide +kernel
theorem dX7_digest_120 : decode cX7_digest 120 = .ok (.i2l, 1) := by decide +kernel
theorem dX7_digest_121 : decode cX7_digest 121 = .ok (.ladd, 1) := by decide +kernel
theorem dX7_digest_122 : decode cX7_digest 122 = .ok (.lstore_n 1, 1) := by decide +kernel
theorem dX7_digest_123 : decode cX7_digest 123 = .ok (.iinc 4 1, 3) := by decide +kernel
theorem dX7_digest_126 : decode cX7_digest 126 = .ok (.goto (-24), 3) := by decide +kernel
theorem dX7_digest_129 : decode cX7_digest 129 = .ok (.iinc 3 1, 3) := by decide +kernel
theorem dX7_digest_132 : decode cX7_digest 132 = .ok (.goto (-44), 3) := by decide +kernel
theorem dX7_digest_135 : decode cX7_digest 135 = .ok (.iconst 0, 1) := by decide +kernel
theorem dX7_digest_136 : decode cX7_digest 136 = .ok (.istore_n 3, 1) := by decide +kernel
theorem dX7_digest_137 : decode cX7_digest 137 = .ok (.iload_n 3, 1) := by decide +kernel
theorem dX7_digest_138 : decode cX7_digest 138 = .ok (.aload_n 0, 1) := by decide +kernel
theorem dX7_digest_139 : decode cX7_digest 139 = .ok (.getfield 10, 3) := by decide +kernel
theorem dX7_digest_142 : decode cX7_digest 142 = .ok (.getfield 51, 3) := by decide +kernel
theorem dX7_digest_145 : decode cX7_digest 145 = .ok (.if_icmp .ge 40, 3) := by decide +kernel
theorem dX7_digest_148 : decode cX7_digest 148 = .ok (.iconst 0, 1) := by decide +kernel
theorem dX7_digest_149 : decode cX7_digest 149 = .ok (.istore 4, 2) := by decide +kernel
theorem dX7_digest_151 : decode cX7_digest 151 = .ok (.iload 4, 2) := by decide +kernel
theorem dX7_digest_153 : decode cX7_digest 153 = .ok (.bipush 11, 2) := by decide +kernel
theorem dX7_digest_155 : decode cX7_digest 155 = .ok (.if_icmp .ge 24, 3) := by decide +kernel
theorem dX7_digest_158 : decode cX7_digest 158 = .ok (.lload_n 1, 1) := by decide +kernel
theorem dX7_digest_159 : decode cX7_digest 159 = .ok (.ldc2_w 187, 3) := by decide +kernel
theorem dX7_digest_162 : decode cX7_digest 162 = .ok (.lmul, 1) := by decide +kernel
theorem dX7_digest_163 : decode cX7_digest 163 = .ok (.aload_n 0, 1) := by decide +kernel
theorem dX7_digest_164 : decode cX7_digest 164 = .ok (.iload_n 3, 1) := by decide +kernel
theorem dX7_digest_165 : decode cX7_digest 165 = .ok (.iload 4, 2) := by decide +kernel
theorem dX7_digest_167 : decode cX7_digest 167 = .ok (.invokevirtual 159, 3) := by decide +kernel
theorem dX7_digest_170 : decode cX7_digest 170 = .ok (.i2l, 1) := by decide +kernel
theorem dX7_digest_171 : decode cX7_digest 171 = .ok (.ladd, 1) := by decide +kernel
theorem dX7_digest_172 : decode cX7_digest 172 = .ok (.lstore_n 1, 1) := by decide +kernel
theorem dX7_digest_173 : decode cX7_digest 173 = .ok (.iinc 4 1, 3) := by decide +kernel
theorem dX7_digest_176 : decode cX7_digest 176 = .ok (.goto (-25), 3) := by decide +kernel
theorem dX7_digest_179 : decode cX7_digest 179 = .ok (.iinc 3 1, 3) := by decide +kernel
theorem dX7_digest_182 : decode cX7_digest 182 = .ok (.goto (-45), 3) := by decide +kernel
theorem dX7_digest_185 : decode cX7_digest 185 = .ok (.lload_n 1, 1) := by decide +kernel
theorem dX7_digest_186 : decode cX7_digest 186 = .ok (.lreturn, 1) := by decide +kernel
