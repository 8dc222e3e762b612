theorem dX7_explain_68 : decode cX7_explain 68 = .ok (.iload 7, 2) := by decide +kernel
theorem dX7_explain_70 : decode cX7_explain 70 = .ok (.ifCond .eq 7, 3) := by decide +kernel
theorem dX7_explain_73 : decode cX7_explain 73 = .ok (.iconst 0, 1) := by decide +kernel
theorem dX7_explain_74 : decode cX7_explain 74 = .ok (.goto 4, 3) := by decide +kernel
theorem dX7_explain_77 : decode cX7_explain 77 = .ok (.iconst 2, 1) := by decide +kernel
theorem dX7_explain_78 : decode cX7_explain 78 = .ok (.invokevirtual 88, 3) := by decide +kernel
theorem dX7_explain_81 : decode cX7_explain 81 = .ok (.ifCond .ne 5, 3) := by decide +kernel
theorem dX7_explain_84 : decode cX7_explain 84 = .ok (.iconst 0, 1) := by decide +kernel
theorem dX7_explain_85 : decode cX7_explain 85 = .ok (.ireturn, 1) := by decide +kernel
theorem dX7_explain_86 : decode cX7_explain 86 = .ok (.iconst 0, 1) := by decide +kernel
theorem dX7_explain_87 : decode cX7_explain 87 = .ok (.istore 8, 2) := by decide +kernel
theorem dX7_explain_89 : decode cX7_explain 89 = .ok (.iconst (-1), 1) := by decide +kernel
theorem dX7_explain_90 : decode cX7_explain 90 = .ok (.istore 9, 2) := by decide +kernel
theorem dX7_explain_92 : decode cX7_explain 92 = .ok (.iconst 0, 1) := by decide +kernel
theorem dX7_explain_93 : decode cX7_explain 93 = .ok (.istore 10, 2) := by decide +kernel
theorem dX7_explain_95 : decode cX7_explain 95 = .ok (.iconst 0, 1) := by decide +kernel
theorem dX7_explain_96 : decode cX7_explain 96 = .ok (.istore 11, 2) := by decide +kernel
theorem dX7_explain_98 : decode cX7_explain 98 = .ok (.iload 11, 2) := by decide +kernel
theorem dX7_explain_100 : decode cX7_explain 100 = .ok (.bipush 18, 2) := by decide +kernel
theorem dX7_explain_102 : decode cX7_explain 102 = .ok (.if_icmp .ge 75, 3) := by decide +kernel
theorem dX7_explain_105 : decode cX7_explain 105 = .ok (.aload_n 0, 1) := by decide +kernel
theorem dX7_explain_106 : decode cX7_explain 106 = .ok (.iload_n 1, 1) := by decide +kernel
theorem dX7_explain_107 : decode cX7_explain 107 = .ok (.iload_n 2, 1) := by decide +kernel
theorem dX7_explain_108 : decode cX7_explain 108 = .ok (.iload 11, 2) := by decide +kernel
theorem dX7_explain_110 : decode cX7_explain 110 = .ok (.iload_n 3, 1) := by decide +kernel
theorem dX7_explain_111 : decode cX7_explain 111 = .ok (.iload 4, 2) := by decide +kernel
theorem dX7_explain_113 : decode cX7_explain 113 = .ok (.invokevirtual 159, 3) := by decide +kernel
theorem dX7_explain_116 : decode cX7_explain 116 = .ok (.ifCond .eq 55, 3) := by decide +kernel
theorem dX7_explain_119 : decode cX7_explain 119 = .ok (.aload_n 0, 1) := by decide +kernel
theorem dX7_explain_120 : decode cX7_explain 120 = .ok (.getfield 138, 3) := by decide +kernel
theorem dX7_explain_123 : decode cX7_explain 123 = .ok (.iload 5, 2) := by decide +kernel
theorem dX7_explain_125 : decode cX7_explain 125 = .ok (.if_icmp .le 13, 3) := by decide +kernel
theorem dX7_explain_128 : decode cX7_explain 128 = .ok (.aload_n 0, 1) := by decide +kernel
theorem dX7_explain_129 : decode cX7_explain 129 = .ok (.getfield 138, 3) := by decide +kernel
theorem dX7_explain_132 : decode cX7_explain 132 = .ok (.iload 5, 2) := by decide +kernel
theorem dX7_explain_134 : decode cX7_explain 134 = .ok (.isub, 1) := by decide +kernel
theorem dX7_explain_135 : decode cX7_explain 135 = .ok (.goto 10, 3) := by decide +kernel
theorem dX7_explain_138 : decode cX7_explain 138 = .ok (.iload 5, 2) := by decide +kernel
theorem dX7_explain_140 : decode cX7_explain 140 = .ok (.aload_n 0, 1) := by decide +kernel
theorem dX7_explain_141 : decode cX7_explain 141 = .ok (.getfield 138, 3) := by decide +kernel
theorem dX7_explain_144 : decode cX7_explain 144 = .ok (.isub, 1) := by decide +kernel
theorem dX7_explain_145 : decode cX7_explain 145 = .ok (.istore 12, 2) := by decide +kernel
theorem dX7_explain_147 : decode cX7_explain 147 = .ok (.iload 9, 2) := by decide +kernel
theorem dX7_explain_149 : decode cX7_explain 149 = .ok (.iconst (-1), 1) := by decide +kernel
theorem dX7_explain_150 : decode cX7_explain 150 = .ok (.if_icmp .eq 10, 3) := by decide +kernel
theorem dX7_explain_153 : decode cX7_explain 153 = .ok (.iload 12, 2) := by decide +kernel
theorem dX7_explain_155 : decode cX7_explain 155 = .ok (.iload 10, 2) := by decide +kernel
theorem dX7_explain_157 : decode cX7_explain 157 = .ok (.if_icmp .ge 11, 3) := by decide +kernel
theorem dX7_explain_160 : decode cX7_explain 160 = .ok (.iload 8, 2) := by decide +kernel
theorem dX7_explain_162 : decode cX7_explain 162 = .ok (.istore 9, 2) := by decide +kernel
theorem dX7_explain_164 : decode cX7_explain 164 = .ok (.iload 12, 2) := by decide +kernel
theorem dX7_explain_166 : decode cX7_explain 166 = .ok (.istore 10, 2) := by decide +kernel
theorem dX7_explain_168 : decode cX7_explain 168 = .ok (.iinc 8 1, 3) := by decide +kernel
theorem dX7_explain_171 : decode cX7_explain 171 = .ok (.iinc 11 1, 3) := by decide +kernel
theorem dX7_explain_174 : decode cX7_explain 174 = .ok (.goto (-76), 3) := by decide +kernel
theorem dX7_explain_177 : decode cX7_explain 177 = .ok (.iload 9, 2) := by decide +kernel
theorem dX7_explain_179 : decode cX7_explain 179 = .ok (.ireturn, 1) := by decide +kernel
theorem dX7_usable_0 : decode cX7_usable 0 = .ok (.iload_n 1, 1) := by decide +kernel
theorem dX7_usable_1 : decode cX7_usable 1 = .ok (.invokestatic 101, 3) := by decide +kernel
theorem dX7_usable_4 : decode cX7_usable 4 = .ok (.ifCond .eq 14, 3) := by decide +kernel
theorem dX7_usable_7 : decode cX7_usable 7 = .ok (.iload_n 2, 1) := by decide +kernel
theorem dX7_usable_8 : decode cX7_usable 8 = .ok (.invokestatic 101, 3) := by decide +kernel
theorem dX7_usable_11 : decode cX7_usable 11 = .ok (.ifCond .eq 7, 3) := by decide +kernel
theorem dX7_usable_14 : decode cX7_usable 14 = .ok (.iconst 1, 1) := by decide +kernel
theorem dX7_usable_15 : decode cX7_usable 15 = .ok (.goto 4, 3) := by decide +kernel
theorem dX7_usable_18 : decode cX7_usable 18 = .ok (.iconst 0, 1) := by decide +kernel
theorem dX7_usable_19 : decode cX7_usable 19 = .ok (.istore 5, 2) := by decide +kernel
theorem dX7_usable_21 : decode cX7_usable 21 = .ok (.aload_n 0, 1) := by decide +kernel
theorem dX7_usable_22 : decode cX7_usable 22 = .ok (.iload 5, 2) := by decide +kernel
theorem dX7_usable_24 : decode cX7_usable 24 = .ok (.ifCond .ne 7, 3) := by decide +kernel
theorem dX7_usable_27 : decode cX7_usable 27 = .ok (.iconst 1, 1) := by decide +kernel
theorem dX7_usable_28 : decode cX7_usable 28 = .ok (.goto 18, 3) := by decide +kernel
theorem dX7_usable_31 : decode cX7_usable 31 = .ok (.iload_n 3, 1) := by decide +kernel
theorem dX7_usable_32 : decode cX7_usable 32 = .ok (.iconst 0, 1) := by decide +kernel
theorem dX7_usable_33 : decode cX7_usable 33 = .ok (.bipush 100, 2) := by decide +kernel
theorem dX7_usable_35 : decode cX7_usable 35 = .ok (.invokestatic 81, 3) := by decide +kernel
theorem dX7_usable_38 : decode cX7_usable 38 = .ok (.ifCond .eq 7, 3) := by decide +kernel
theorem dX7_usable_41 : decode cX7_usable 41 = .ok (.iconst 0, 1) := by decide +kernel
theorem dX7_usable_42 : decode cX7_usable 42 = .ok (.goto 4, 3) := by decide +kernel
theorem dX7_usable_45 : decode cX7_usable 45 = .ok (.iconst 2, 1) := by decide +kernel
theorem dX7_usable_46 : decode cX7_usable 46 = .ok (.invokevirtual 88, 3) := by decide +kernel
theorem dX7_usable_49 : decode cX7_usable 49 = .ok (.ifCond .ne 5, 3) := by decide +kernel
theorem dX7_usable_52 : decode cX7_usable 52 = .ok (.iconst 0, 1) := by decide +kernel
theorem dX7_usable_53 : decode cX7_usable 53 = .ok (.ireturn, 1) := by decide +kernel
theorem dX7_usable_54 : decode cX7_usable 54 = .ok (.iconst (-1), 1) := by decide +kernel
theorem dX7_usable_55 : decode cX7_usable 55 = .ok (.istore 6, 2) := by decide +kernel
theorem dX7_usable_57 : decode cX7_usable 57 = .ok (.iconst 1, 1) := by decide +kernel
theorem dX7_usable_58 : decode cX7_usable 58 = .ok (.istore 7, 2) := by decide +kernel
theorem dX7_usable_60 : decode cX7_usable 60 = .ok (.iload 7, 2) := by decide +kernel
theorem dX7_usable_62 : decode cX7_usable 62 = .ok (.bipush 30, 2) := by decide +kernel
theorem dX7_usable_64 : decode cX7_usable 64 = .ok (.if_icmp .gt 47, 3) := by decide +kernel
theorem dX7_usable_67 : decode cX7_usable 67 = .ok (.iload 4, 2) := by decide +kernel
theorem dX7_usable_69 : decode cX7_usable 69 = .ok (.ifCond .ne 9, 3) := by decide +kernel
theorem dX7_usable_72 : decode cX7_usable 72 = .ok (.iload 6, 2) := by decide +kernel
theorem dX7_usable_74 : decode cX7_usable 74 = .ok (.iconst (-1), 1) := by decide +kernel
theorem dX7_usable_75 : decode cX7_usable 75 = .ok (.if_icmp .ne 36, 3) := by decide +kernel
theorem dX7_usable_78 : decode cX7_usable 78 = .ok (.aload_n 0, 1) := by decide +kernel
theorem dX7_usable_79 : decode cX7_usable 79 = .ok (.iload_n 1, 1) := by decide +kernel
theorem dX7_usable_80 : decode cX7_usable 80 = .ok (.iload_n 2, 1) := by decide +kernel
theorem dX7_usable_81 : decode cX7_usable 81 = .ok (.bipush 10, 2) := by decide +kernel
theorem dX7_usable_83 : decode cX7_usable 83 = .ok (.iload 7, 2) := by decide +kernel
theorem dX7_usable_85 : decode cX7_usable 85 = .ok (.imul, 1) := by decide +kernel
theorem dX7_usable_86 : decode cX7_usable 86 = .ok (.iload_n 3, 1) := by decide +kernel
theorem dX7_usable_87 : decode cX7_usable 87 = .ok (.invokevirtual 163, 3) := by decide +kernel
theorem dX7_usable_90 : decode cX7_usable 90 = .ok (.ifCond .le 11, 3) := by decide +kernel
theorem dX7_usable_93 : decode cX7_usable 93 = .ok (.bipush 10, 2) := by decide +kernel
theorem dX7_usable_95 : decode cX7_usable 95 = .ok (.iload 7, 2) := by decide +kernel
theorem dX7_usable_97 : decode cX7_usable 97 = .ok (.imul, 1) := by decide +kernel
theorem dX7_usable_98 : decode cX7_usable 98 = .ok (.goto 5, 3) := by decide +kernel
theorem dX7_usable_101 : decode cX7_usable 101 = .ok (.iload 6, 2) := by decide +kernel
theorem dX7_usable_103 : decode cX7_usable 103 = .ok (.istore 6, 2) := by decide +kernel
theorem dX7_usable_105 : decode cX7_usable 105 = .ok (.iinc 7 1, 3) := by decide +kernel
theorem dX7_usable_108 : decode cX7_usable 108 = .ok (.goto (-48), 3) := by decide +kernel
theorem dX7_usable_111 : decode cX7_usable 111 = .ok (.iload 6, 2) := by decide +kernel
theorem dX7_usable_113 : decode cX7_usable 113 = .ok (.ireturn, 1) := by decide +kernel
theorem dX7_skipped_0 : decode cX7_skipped 0 = .ok (.iload_n 1, 1) := by decide +kernel
theorem dX7_skipped_1 : decode cX7_skipped 1 = .ok (.invokestatic 101, 3) := by decide +kernel
theorem dX7_skipped_4 : decode cX7_skipped 4 = .ok (.istore 4, 2) := by decide +kernel
theorem dX7_skipped_6 : decode cX7_skipped 6 = .ok (.aload_n 0, 1) := by decide +kernel
theorem dX7_skipped_7 : decode cX7_skipped 7 = .ok (.iload 4, 2) := by decide +kernel
theorem dX7_skipped_9 : decode cX7_skipped 9 = .ok (.ifCond .ne 7, 3) := by decide +kernel
theorem dX7_skipped_12 : decode cX7_skipped 12 = .ok (.iconst 1, 1) := by decide +kernel
theorem dX7_skipped_13 : decode cX7_skipped 13 = .ok (.goto 15, 3) := by decide +kernel
theorem dX7_skipped_16 : decode cX7_skipped 16 = .ok (.iload_n 3, 1) := by decide +kernel
theorem dX7_skipped_17 : decode cX7_skipped 17 = .ok (.invokestatic 152, 3) := by decide +kernel
theorem dX7_skipped_20 : decode cX7_skipped 20 = .ok (.ifCond .eq 7, 3) := by decide +kernel
theorem dX7_skipped_23 : decode cX7_skipped 23 = .ok (.iconst 0, 1) := by decide +kernel
theorem dX7_skipped_24 : decode cX7_skipped 24 = .ok (.goto 4, 3) := by decide +kernel
theorem dX7_skipped_27 : decode cX7_skipped 27 = .ok (.iconst 2, 1) := by decide +kernel
theorem dX7_skipped_28 : decode cX7_skipped 28 = .ok (.invokevirtual 88, 3) := by decide +kernel
theorem dX7_skipped_31 : decode cX7_skipped 31 = .ok (.ifCond .ne 5, 3) := by decide +kernel
theorem dX7_skipped_34 : decode cX7_skipped 34 = .ok (.iconst 0, 1) := by decide +kernel
theorem dX7_skipped_35 : decode cX7_skipped 35 = .ok (.ireturn, 1) := by decide +kernel
theorem dX7_skipped_36 : decode cX7_skipped 36 = .ok (.iconst (-1), 1) := by decide +kernel
theorem dX7_skipped_37 : decode cX7_skipped 37 = .ok (.istore 5, 2) := by decide +kernel
theorem dX7_skipped_39 : decode cX7_skipped 39 = .ok (.iconst 1, 1) := by decide +kernel
theorem dX7_skipped_40 : decode cX7_skipped 40 = .ok (.istore 6, 2) := by decide +kernel
theorem dX7_skipped_42 : decode cX7_skipped 42 = .ok (.iload 6, 2) := by decide +kernel
theorem dX7_skipped_44 : decode cX7_skipped 44 = .ok (.bipush 10, 2) := by decide +kernel
theorem dX7_skipped_46 : decode cX7_skipped 46 = .ok (.if_icmp .ge 56, 3) := by decide +kernel
theorem dX7_skipped_49 : decode cX7_skipped 49 = .ok (.aload_n 0, 1) := by decide +kernel
theorem dX7_skipped_50 : decode cX7_skipped 50 = .ok (.iload_n 1, 1) := by decide +kernel
theorem dX7_skipped_51 : decode cX7_skipped 51 = .ok (.iload_n 2, 1) := by decide +kernel
theorem dX7_skipped_52 : decode cX7_skipped 52 = .ok (.iload 6, 2) := by decide +kernel
theorem dX7_skipped_54 : decode cX7_skipped 54 = .ok (.iload_n 3, 1) := by decide +kernel
theorem dX7_skipped_55 : decode cX7_skipped 55 = .ok (.invokevirtual 141, 3) := by decide +kernel
theorem dX7_skipped_58 : decode cX7_skipped 58 = .ok (.istore 7, 2) := by decide +kernel
theorem dX7_skipped_60 : decode cX7_skipped 60 = .ok (.iload 7, 2) := by decide +kernel
theorem dX7_skipped_62 : decode cX7_skipped 62 = .ok (.iload 6, 2) := by decide +kernel
theorem dX7_skipped_64 : decode cX7_skipped 64 = .ok (.invokestatic 145, 3) := by decide +kernel
theorem dX7_skipped_67 : decode cX7_skipped 67 = .ok (.istore 8, 2) := by decide +kernel
theorem dX7_skipped_69 : decode cX7_skipped 69 = .ok (.iload 7, 2) := by decide +kernel
theorem dX7_skipped_71 : decode cX7_skipped 71 = .ok (.ifCond .eq 21, 3) := by decide +kernel
theorem dX7_skipped_74 : decode cX7_skipped 74 = .ok (.iload 5, 2) := by decide +kernel
theorem dX7_skipped_76 : decode cX7_skipped 76 = .ok (.iconst (-1), 1) := by decide +kernel
theorem dX7_skipped_77 : decode cX7_skipped 77 = .ok (.if_icmp .eq 10, 3) := by decide +kernel
theorem dX7_skipped_80 : decode cX7_skipped 80 = .ok (.iload 8, 2) := by decide +kernel
theorem dX7_skipped_82 : decode cX7_skipped 82 = .ok (.iload 5, 2) := by decide +kernel
theorem dX7_skipped_84 : decode cX7_skipped 84 = .ok (.if_icmp .ge 8, 3) := by decide +kernel
theorem dX7_skipped_87 : decode cX7_skipped 87 = .ok (.iload 8, 2) := by decide +kernel
theorem dX7_skipped_89 : decode cX7_skipped 89 = .ok (.goto 5, 3) := by decide +kernel
theorem dX7_skipped_92 : decode cX7_skipped 92 = .ok (.iload 5, 2) := by decide +kernel
theorem dX7_skipped_94 : decode cX7_skipped 94 = .ok (.istore 5, 2) := by decide +kernel
theorem dX7_skipped_96 : decode cX7_skipped 96 = .ok (.iinc 6 1, 3) := by decide +kernel
theorem dX7_skipped_99 : decode cX7_skipped 99 = .ok (.goto (-57), 3) := by decide +kernel
theorem dX7_skipped_102 : decode cX7_skipped 102 = .ok (.iload 5, 2) := by decide +kernel
theorem dX7_skipped_104 : decode cX7_skipped 104 = .ok (.iconst (-1), 1) := by decide +kernel
theorem dX7_skipped_105 : decode cX7_skipped 105 = .ok (.if_icmp .ne 7, 3) := by decide +kernel
theorem dX7_skipped_108 : decode cX7_skipped 108 = .ok (.iconst (-1), 1) := by decide +kernel
theorem dX7_skipped_109 : decode cX7_skipped 109 = .ok (.goto 16, 3) := by decide +kernel
theorem dX7_skipped_112 : decode cX7_skipped 112 = .ok (.iload 5, 2) := by decide +kernel
theorem dX7_skipped_114 : decode cX7_skipped 114 = .ok (.ifCond .le 10, 3) := by decide +kernel
theorem dX7_skipped_117 : decode cX7_skipped 117 = .ok (.iload 5, 2) := by decide +kernel
theorem dX7_skipped_119 : decode cX7_skipped 119 = .ok (.iconst 1, 1) := by decide +kernel
theorem dX7_skipped_120 : decode cX7_skipped 120 = .ok (.isub, 1) := by decide +kernel
theorem dX7_skipped_121 : decode cX7_skipped 121 = .ok (.goto 4, 3) := by decide +kernel
theorem dX7_skipped_124 : decode cX7_skipped 124 = .ok (.iconst 0, 1) := by decide +kernel
theorem dX7_skipped_125 : decode cX7_skipped 125 = .ok (.ireturn, 1) := by decide +kernel
theorem dX7_begins_0 : decode cX7_begins 0 = .ok (.iload_n 3, 1) := by decide +kernel
theorem dX7_begins_1 : decode cX7_begins 1 = .ok (.bipush 9, 2) := by decide +kernel
theorem dX7_begins_3 : decode cX7_begins 3 = .ok (.irem, 1) := by decide +kernel
theorem dX7_begins_4 : decode cX7_begins 4 = .ok (.iconst 1, 1) := by decide +kernel
theorem dX7_begins_5 : decode cX7_begins 5 = .ok (.iadd, 1) := by decide +kernel
theorem dX7_begins_6 : decode cX7_begins 6 = .ok (.istore 4, 2) := by decide +kernel
theorem dX7_begins_8 : decode cX7_begins 8 = .ok (.iload_n 1, 1) := by decide +kernel
theorem dX7_begins_9 : decode cX7_begins 9 = .ok (.ifCond .ne 13, 3) := by decide +kernel
theorem dX7_begins_12 : decode cX7_begins 12 = .ok (.bipush 10, 2) := by decide +kernel
theorem dX7_begins_14 : decode cX7_begins 14 = .ok (.iconst 2, 1) := by decide +kernel
theorem dX7_begins_15 : decode cX7_begins 15 = .ok (.iload 4, 2) := by decide +kernel
theorem dX7_begins_17 : decode cX7_begins 17 = .ok (.imul, 1) := by decide +kernel
theorem dX7_begins_18 : decode cX7_begins 18 = .ok (.isub, 1) := by decide +kernel
theorem dX7_begins_19 : decode cX7_begins 19 = .ok (.goto 19, 3) := by decide +kernel
theorem dX7_begins_22 : decode cX7_begins 22 = .ok (.iload_n 1, 1) := by decide +kernel
theorem dX7_begins_23 : decode cX7_begins 23 = .ok (.iconst 1, 1) := by decide +kernel
theorem dX7_begins_24 : decode cX7_begins 24 = .ok (.if_icmp .ne 13, 3) := by decide +kernel
theorem dX7_begins_27 : decode cX7_begins 27 = .ok (.iconst 2, 1) := by decide +kernel
theorem dX7_begins_28 : decode cX7_begins 28 = .ok (.iload 4, 2) := by decide +kernel
theorem dX7_begins_30 : decode cX7_begins 30 = .ok (.imul, 1) := by decide +kernel
theorem dX7_begins_31 : decode cX7_begins 31 = .ok (.bipush 10, 2) := by decide +kernel
theorem dX7_begins_33 : decode cX7_begins 33 = .ok (.isub, 1) := by decide +kernel
theorem dX7_begins_34 : decode cX7_begins 34 = .ok (.goto 4, 3) := by decide +kernel
theorem dX7_begins_37 : decode cX7_begins 37 = .ok (.iconst 0, 1) := by decide +kernel
theorem dX7_begins_38 : decode cX7_begins 38 = .ok (.istore 5, 2) := by decide +kernel
theorem dX7_begins_40 : decode cX7_begins 40 = .ok (.iload_n 2, 1) := by decide +kernel
theorem dX7_begins_41 : decode cX7_begins 41 = .ok (.iconst 2, 1) := by decide +kernel
theorem dX7_begins_42 : decode cX7_begins 42 = .ok (.if_icmp .ne 7, 3) := by decide +kernel
theorem dX7_begins_45 : decode cX7_begins 45 = .ok (.iconst 3, 1) := by decide +kernel
theorem dX7_begins_46 : decode cX7_begins 46 = .ok (.goto 17, 3) := by decide +kernel
theorem dX7_begins_49 : decode cX7_begins 49 = .ok (.iload_n 2, 1) := by decide +kernel
theorem dX7_begins_50 : decode cX7_begins 50 = .ok (.iload_n 3, 1) := by decide +kernel
theorem dX7_begins_51 : decode cX7_begins 51 = .ok (.bipush 9, 2) := by decide +kernel
theorem dX7_begins_53 : decode cX7_begins 53 = .ok (.idiv, 1) := by decide +kernel
theorem dX7_begins_54 : decode cX7_begins 54 = .ok (.if_icmp .ne 7, 3) := by decide +kernel
theorem dX7_begins_57 : decode cX7_begins 57 = .ok (.iconst 0, 1) := by decide +kernel
theorem dX7_begins_58 : decode cX7_begins 58 = .ok (.goto 5, 3) := by decide +kernel
theorem dX7_begins_61 : decode cX7_begins 61 = .ok (.bipush 20, 2) := by decide +kernel
theorem dX7_begins_63 : decode cX7_begins 63 = .ok (.istore 6, 2) := by decide +kernel
theorem dX7_begins_65 : decode cX7_begins 65 = .ok (.iload_n 0, 1) := by decide +kernel
theorem dX7_begins_66 : decode cX7_begins 66 = .ok (.iload 5, 2) := by decide +kernel
theorem dX7_begins_68 : decode cX7_begins 68 = .ok (.iadd, 1) := by decide +kernel
theorem dX7_begins_69 : decode cX7_begins 69 = .ok (.iload 6, 2) := by decide +kernel
theorem dX7_begins_71 : decode cX7_begins 71 = .ok (.isub, 1) := by decide +kernel
theorem dX7_begins_72 : decode cX7_begins 72 = .ok (.ireturn, 1) := by decide +kernel
theorem dX7_signalOf_0 : decode cX7_signalOf 0 = .ok (.sipush (-1000), 3) := by decide +kernel
theorem dX7_signalOf_3 : decode cX7_signalOf 3 = .ok (.istore 7, 2) := by decide +kernel
theorem dX7_signalOf_5 : decode cX7_signalOf 5 = .ok (.iconst 0, 1) := by decide +kernel
theorem dX7_signalOf_6 : decode cX7_signalOf 6 = .ok (.istore 8, 2) := by decide +kernel
theorem dX7_signalOf_8 : decode cX7_signalOf 8 = .ok (.iload 8, 2) := by decide +kernel
theorem dX7_signalOf_10 : decode cX7_signalOf 10 = .ok (.bipush 18, 2) := by decide +kernel
theorem dX7_signalOf_12 : decode cX7_signalOf 12 = .ok (.if_icmp .ge 61, 3) := by decide +kernel
theorem dX7_signalOf_15 : decode cX7_signalOf 15 = .ok (.iload_n 2, 1) := by decide +kernel
theorem dX7_signalOf_16 : decode cX7_signalOf 16 = .ok (.iload_n 3, 1) := by decide +kernel
theorem dX7_signalOf_17 : decode cX7_signalOf 17 = .ok (.iload 4, 2) := by decide +kernel
theorem dX7_signalOf_19 : decode cX7_signalOf 19 = .ok (.iload 8, 2) := by decide +kernel
theorem dX7_signalOf_21 : decode cX7_signalOf 21 = .ok (.invokestatic 167, 3) := by decide +kernel
theorem dX7_signalOf_24 : decode cX7_signalOf 24 = .ok (.istore 9, 2) := by decide +kernel
theorem dX7_signalOf_26 : decode cX7_signalOf 26 = .ok (.iload 9, 2) := by decide +kernel
theorem dX7_signalOf_28 : decode cX7_signalOf 28 = .ok (.ifCond .lt 35, 3) := by decide +kernel
theorem dX7_signalOf_31 : decode cX7_signalOf 31 = .ok (.aload_n 0, 1) := by decide +kernel
theorem dX7_signalOf_32 : decode cX7_signalOf 32 = .ok (.iload_n 1, 1) := by decide +kernel
theorem dX7_signalOf_33 : decode cX7_signalOf 33 = .ok (.iload 5, 2) := by decide +kernel
theorem dX7_signalOf_35 : decode cX7_signalOf 35 = .ok (.iload 8, 2) := by decide +kernel
theorem dX7_signalOf_37 : decode cX7_signalOf 37 = .ok (.iload 6, 2) := by decide +kernel
theorem dX7_signalOf_39 : decode cX7_signalOf 39 = .ok (.iload 9, 2) := by decide +kernel
theorem dX7_signalOf_41 : decode cX7_signalOf 41 = .ok (.invokevirtual 159, 3) := by decide +kernel
theorem dX7_signalOf_44 : decode cX7_signalOf 44 = .ok (.ifCond .eq 19, 3) := by decide +kernel
theorem dX7_signalOf_47 : decode cX7_signalOf 47 = .ok (.aload_n 0, 1) := by decide +kernel
theorem dX7_signalOf_48 : decode cX7_signalOf 48 = .ok (.getfield 135, 3) := by decide +kernel
theorem dX7_signalOf_51 : decode cX7_signalOf 51 = .ok (.iload 7, 2) := by decide +kernel
theorem dX7_signalOf_53 : decode cX7_signalOf 53 = .ok (.if_icmp .le 10, 3) := by decide +kernel
theorem dX7_signalOf_56 : decode cX7_signalOf 56 = .ok (.aload_n 0, 1) := by decide +kernel
theorem dX7_signalOf_57 : decode cX7_signalOf 57 = .ok (.getfield 135, 3) := by decide +kernel
theorem dX7_signalOf_60 : decode cX7_signalOf 60 = .ok (.goto 5, 3) := by decide +kernel
theorem dX7_signalOf_63 : decode cX7_signalOf 63 = .ok (.iload 7, 2) := by decide +kernel
theorem dX7_signalOf_65 : decode cX7_signalOf 65 = .ok (.istore 7, 2) := by decide +kernel
theorem dX7_signalOf_67 : decode cX7_signalOf 67 = .ok (.iinc 8 1, 3) := by decide +kernel
theorem dX7_signalOf_70 : decode cX7_signalOf 70 = .ok (.goto (-62), 3) := by decide +kernel
theorem dX7_signalOf_73 : decode cX7_signalOf 73 = .ok (.iload 7, 2) := by decide +kernel
theorem dX7_signalOf_75 : decode cX7_signalOf 75 = .ok (.sipush (-1000), 3) := by decide +kernel
theorem dX7_signalOf_78 : decode cX7_signalOf 78 = .ok (.if_icmp .ne 9, 3) := by decide +kernel
theorem dX7_signalOf_81 : decode cX7_signalOf 81 = .ok (.sipush (-1000), 3) := by decide +kernel
theorem dX7_signalOf_84 : decode cX7_signalOf 84 = .ok (.goto 29, 3) := by decide +kernel
theorem dX7_signalOf_87 : decode cX7_signalOf 87 = .ok (.iload 7, 2) := by decide +kernel
theorem dX7_signalOf_89 : decode cX7_signalOf 89 = .ok (.aload_n 0, 1) := by decide +kernel
theorem dX7_signalOf_90 : decode cX7_signalOf 90 = .ok (.getfield 24, 3) := by decide +kernel
theorem dX7_signalOf_93 : decode cX7_signalOf 93 = .ok (.iload 5, 2) := by decide +kernel
theorem dX7_signalOf_95 : decode cX7_signalOf 95 = .ok (.iaload, 1) := by decide +kernel
theorem dX7_signalOf_96 : decode cX7_signalOf 96 = .ok (.isub, 1) := by decide +kernel
theorem dX7_signalOf_97 : decode cX7_signalOf 97 = .ok (.aload_n 0, 1) := by decide +kernel
theorem dX7_signalOf_98 : decode cX7_signalOf 98 = .ok (.iload 5, 2) := by decide +kernel
theorem dX7_signalOf_100 : decode cX7_signalOf 100 = .ok (.iconst 0, 1) := by decide +kernel
theorem dX7_signalOf_101 : decode cX7_signalOf 101 = .ok (.invokevirtual 110, 3) := by decide +kernel
theorem dX7_signalOf_104 : decode cX7_signalOf 104 = .ok (.ifCond .le 7, 3) := by decide +kernel
theorem dX7_signalOf_107 : decode cX7_signalOf 107 = .ok (.iconst 0, 1) := by decide +kernel
theorem dX7_signalOf_108 : decode cX7_signalOf 108 = .ok (.goto 4, 3) := by decide +kernel
theorem dX7_signalOf_111 : decode cX7_signalOf 111 = .ok (.iconst 3, 1) := by decide +kernel
theorem dX7_signalOf_112 : decode cX7_signalOf 112 = .ok (.isub, 1) := by decide +kernel
theorem dX7_signalOf_113 : decode cX7_signalOf 113 = .ok (.ireturn, 1) := by decide +kernel
theorem dX7_signalBy_0 : decode cX7_signalBy 0 = .ok (.aload_n 0, 1) := by decide +kernel
theorem dX7_signalBy_1 : decode cX7_signalBy 1 = .ok (.aload_n 0, 1) := by decide +kernel
theorem dX7_signalBy_2 : decode cX7_signalBy 2 = .ok (.getfield 27, 3) := by decide +kernel
theorem dX7_signalBy_5 : decode cX7_signalBy 5 = .ok (.iload_n 1, 1) := by decide +kernel
theorem dX7_signalBy_6 : decode cX7_signalBy 6 = .ok (.iaload, 1) := by decide +kernel
theorem dX7_signalBy_7 : decode cX7_signalBy 7 = .ok (.aload_n 0, 1) := by decide +kernel
theorem dX7_signalBy_8 : decode cX7_signalBy 8 = .ok (.getfield 30, 3) := by decide +kernel
theorem dX7_signalBy_11 : decode cX7_signalBy 11 = .ok (.iload_n 1, 1) := by decide +kernel
theorem dX7_signalBy_12 : decode cX7_signalBy 12 = .ok (.iaload, 1) := by decide +kernel
theorem dX7_signalBy_13 : decode cX7_signalBy 13 = .ok (.aload_n 0, 1) := by decide +kernel
theorem dX7_signalBy_14 : decode cX7_signalBy 14 = .ok (.getfield 33, 3) := by decide +kernel
theorem dX7_signalBy_17 : decode cX7_signalBy 17 = .ok (.iload_n 1, 1) := by decide +kernel
theorem dX7_signalBy_18 : decode cX7_signalBy 18 = .ok (.iaload, 1) := by decide +kernel
theorem dX7_signalBy_19 : decode cX7_signalBy 19 = .ok (.aload_n 0, 1) := by decide +kernel
theorem dX7_signalBy_20 : decode cX7_signalBy 20 = .ok (.getfield 36, 3) := by decide +kernel
theorem dX7_signalBy_23 : decode cX7_signalBy 23 = .ok (.iload_n 1, 1) := by decide +kernel
theorem dX7_signalBy_24 : decode cX7_signalBy 24 = .ok (.iaload, 1) := by decide +kernel
theorem dX7_signalBy_25 : decode cX7_signalBy 25 = .ok (.aload_n 0, 1) := by decide +kernel
theorem dX7_signalBy_26 : decode cX7_signalBy 26 = .ok (.getfield 27, 3) := by decide +kernel
theorem dX7_signalBy_29 : decode cX7_signalBy 29 = .ok (.iload_n 2, 1) := by decide +kernel
theorem dX7_signalBy_30 : decode cX7_signalBy 30 = .ok (.iaload, 1) := by decide +kernel
theorem dX7_signalBy_31 : decode cX7_signalBy 31 = .ok (.iload_n 3, 1) := by decide +kernel
theorem dX7_signalBy_32 : decode cX7_signalBy 32 = .ok (.invokevirtual 170, 3) := by decide +kernel
theorem dX7_signalBy_35 : decode cX7_signalBy 35 = .ok (.ireturn, 1) := by decide +kernel
theorem dX7_station_0 : decode cX7_station 0 = .ok (.iload_n 1, 1) := by decide +kernel
theorem dX7_station_1 : decode cX7_station 1 = .ok (.invokestatic 101, 3) := by decide +kernel
theorem dX7_station_4 : decode cX7_station 4 = .ok (.istore 5, 2) := by decide +kernel
theorem dX7_station_6 : decode cX7_station 6 = .ok (.iload_n 2, 1) := by decide +kernel
theorem dX7_station_7 : decode cX7_station 7 = .ok (.iconst 1, 1) := by decide +kernel
theorem dX7_station_8 : decode cX7_station 8 = .ok (.bipush 80, 2) := by decide +kernel
theorem dX7_station_10 : decode cX7_station 10 = .ok (.invokestatic 81, 3) := by decide +kernel
theorem dX7_station_13 : decode cX7_station 13 = .ok (.ifCond .eq 26, 3) := by decide +kernel
theorem dX7_station_16 : decode cX7_station 16 = .ok (.iload_n 3, 1) := by decide +kernel
theorem dX7_station_17 : decode cX7_station 17 = .ok (.iconst 0, 1) := by decide +kernel
theorem dX7_station_18 : decode cX7_station 18 = .ok (.iconst 2, 1) := by decide +kernel
theorem dX7_station_19 : decode cX7_station 19 = .ok (.invokestatic 81, 3) := by decide +kernel
theorem dX7_station_22 : decode cX7_station 22 = .ok (.ifCond .eq 17, 3) := by decide +kernel
theorem dX7_station_25 : decode cX7_station 25 = .ok (.iload 4, 2) := by decide +kernel
theorem dX7_station_27 : decode cX7_station 27 = .ok (.iconst 0, 1) := by decide +kernel
theorem dX7_station_28 : decode cX7_station 28 = .ok (.iconst 2, 1) := by decide +kernel
theorem dX7_station_29 : decode cX7_station 29 = .ok (.invokestatic 81, 3) := by decide +kernel
theorem dX7_station_32 : decode cX7_station 32 = .ok (.ifCond .eq 7, 3) := by decide +kernel
theorem dX7_station_35 : decode cX7_station 35 = .ok (.iconst 1, 1) := by decide +kernel
theorem dX7_station_36 : decode cX7_station 36 = .ok (.goto 4, 3) := by decide +kernel
theorem dX7_station_39 : decode cX7_station 39 = .ok (.iconst 0, 1) := by decide +kernel
theorem dX7_station_40 : decode cX7_station 40 = .ok (.istore 6, 2) := by decide +kernel
theorem dX7_station_42 : decode cX7_station 42 = .ok (.aload_n 0, 1) := by decide +kernel
theorem dX7_station_43 : decode cX7_station 43 = .ok (.iload 5, 2) := by decide +kernel
theorem dX7_station_45 : decode cX7_station 45 = .ok (.ifCond .ne 7, 3) := by decide +kernel
theorem dX7_station_48 : decode cX7_station 48 = .ok (.iconst 1, 1) := by decide +kernel
theorem dX7_station_49 : decode cX7_station 49 = .ok (.goto 26, 3) := by decide +kernel
theorem dX7_station_52 : decode cX7_station 52 = .ok (.iload 6, 2) := by decide +kernel
theorem dX7_station_54 : decode cX7_station 54 = .ok (.ifCond .ne 7, 3) := by decide +kernel
theorem dX7_station_57 : decode cX7_station 57 = .ok (.iconst 2, 1) := by decide +kernel
theorem dX7_station_58 : decode cX7_station 58 = .ok (.goto 17, 3) := by decide +kernel
theorem dX7_station_61 : decode cX7_station 61 = .ok (.aload_n 0, 1) := by decide +kernel
theorem dX7_station_62 : decode cX7_station 62 = .ok (.getfield 85, 3) := by decide +kernel
theorem dX7_station_65 : decode cX7_station 65 = .ok (.bipush 12, 2) := by decide +kernel
theorem dX7_station_67 : decode cX7_station 67 = .ok (.if_icmp .ne 7, 3) := by decide +kernel
theorem dX7_station_70 : decode cX7_station 70 = .ok (.iconst 3, 1) := by decide +kernel
theorem dX7_station_71 : decode cX7_station 71 = .ok (.goto 4, 3) := by decide +kernel
theorem dX7_station_74 : decode cX7_station 74 = .ok (.iconst 0, 1) := by decide +kernel
theorem dX7_station_75 : decode cX7_station 75 = .ok (.invokevirtual 88, 3) := by decide +kernel
theorem dX7_station_78 : decode cX7_station 78 = .ok (.ifCond .ne 5, 3) := by decide +kernel
theorem dX7_station_81 : decode cX7_station 81 = .ok (.iconst 0, 1) := by decide +kernel
theorem dX7_station_82 : decode cX7_station 82 = .ok (.ireturn, 1) := by decide +kernel
theorem dX7_station_83 : decode cX7_station 83 = .ok (.aload_n 0, 1) := by decide +kernel
theorem dX7_station_84 : decode cX7_station 84 = .ok (.getfield 27, 3) := by decide +kernel
theorem dX7_station_87 : decode cX7_station 87 = .ok (.aload_n 0, 1) := by decide +kernel
theorem dX7_station_88 : decode cX7_station 88 = .ok (.getfield 85, 3) := by decide +kernel
theorem dX7_station_91 : decode cX7_station 91 = .ok (.iload_n 1, 1) := by decide +kernel
theorem dX7_station_92 : decode cX7_station 92 = .ok (.iastore, 1) := by decide +kernel
theorem dX7_station_93 : decode cX7_station 93 = .ok (.aload_n 0, 1) := by decide +kernel
theorem dX7_station_94 : decode cX7_station 94 = .ok (.getfield 30, 3) := by decide +kernel
theorem dX7_station_97 : decode cX7_station 97 = .ok (.aload_n 0, 1) := by decide +kernel
theorem dX7_station_98 : decode cX7_station 98 = .ok (.getfield 85, 3) := by decide +kernel
theorem dX7_station_101 : decode cX7_station 101 = .ok (.iload_n 2, 1) := by decide +kernel
theorem dX7_station_102 : decode cX7_station 102 = .ok (.iastore, 1) := by decide +kernel
theorem dX7_station_103 : decode cX7_station 103 = .ok (.aload_n 0, 1) := by decide +kernel
theorem dX7_station_104 : decode cX7_station 104 = .ok (.getfield 33, 3) := by decide +kernel
theorem dX7_station_107 : decode cX7_station 107 = .ok (.aload_n 0, 1) := by decide +kernel
theorem dX7_station_108 : decode cX7_station 108 = .ok (.getfield 85, 3) := by decide +kernel
theorem dX7_station_111 : decode cX7_station 111 = .ok (.iload_n 3, 1) := by decide +kernel
theorem dX7_station_112 : decode cX7_station 112 = .ok (.iastore, 1) := by decide +kernel
theorem dX7_station_113 : decode cX7_station 113 = .ok (.aload_n 0, 1) := by decide +kernel
theorem dX7_station_114 : decode cX7_station 114 = .ok (.getfield 36, 3) := by decide +kernel
theorem dX7_station_117 : decode cX7_station 117 = .ok (.aload_n 0, 1) := by decide +kernel
theorem dX7_station_118 : decode cX7_station 118 = .ok (.getfield 85, 3) := by decide +kernel
theorem dX7_station_121 : decode cX7_station 121 = .ok (.iload 4, 2) := by decide +kernel
theorem dX7_station_123 : decode cX7_station 123 = .ok (.iastore, 1) := by decide +kernel
theorem dX7_station_124 : decode cX7_station 124 = .ok (.aload_n 0, 1) := by decide +kernel
theorem dX7_station_125 : decode cX7_station 125 = .ok (.dup, 1) := by decide +kernel
theorem dX7_station_126 : decode cX7_station 126 = .ok (.getfield 85, 3) := by decide +kernel
theorem dX7_station_129 : decode cX7_station 129 = .ok (.iconst 1, 1) := by decide +kernel
theorem dX7_station_130 : decode cX7_station 130 = .ok (.iadd, 1) := by decide +kernel
theorem dX7_station_131 : decode cX7_station 131 = .ok (.putfield 85, 3) := by decide +kernel
theorem dX7_station_134 : decode cX7_station 134 = .ok (.aload_n 0, 1) := by decide +kernel
theorem dX7_station_135 : decode cX7_station 135 = .ok (.getfield 85, 3) := by decide +kernel
theorem dX7_station_138 : decode cX7_station 138 = .ok (.iconst 1, 1) := by decide +kernel
theorem dX7_station_139 : decode cX7_station 139 = .ok (.isub, 1) := by decide +kernel
theorem dX7_station_140 : decode cX7_station 140 = .ok (.ireturn, 1) := by decide +kernel
theorem dX7_beacon_0 : decode cX7_beacon 0 = .ok (.iload_n 1, 1) := by decide +kernel
theorem dX7_beacon_1 : decode cX7_beacon 1 = .ok (.invokestatic 101, 3) := by decide +kernel
theorem dX7_beacon_4 : decode cX7_beacon 4 = .ok (.istore 4, 2) := by decide +kernel
theorem dX7_beacon_6 : decode cX7_beacon 6 = .ok (.iload_n 2, 1) := by decide +kernel
theorem dX7_beacon_7 : decode cX7_beacon 7 = .ok (.invokestatic 152, 3) := by decide +kernel
theorem dX7_beacon_10 : decode cX7_beacon 10 = .ok (.ifCond .eq 17, 3) := by decide +kernel
theorem dX7_beacon_13 : decode cX7_beacon 13 = .ok (.iload_n 3, 1) := by decide +kernel
theorem dX7_beacon_14 : decode cX7_beacon 14 = .ok (.iconst 1, 1) := by decide +kernel
theorem dX7_beacon_15 : decode cX7_beacon 15 = .ok (.bipush 80, 2) := by decide +kernel
theorem dX7_beacon_17 : decode cX7_beacon 17 = .ok (.invokestatic 81, 3) := by decide +kernel
theorem dX7_beacon_20 : decode cX7_beacon 20 = .ok (.ifCond .eq 7, 3) := by decide +kernel
theorem dX7_beacon_23 : decode cX7_beacon 23 = .ok (.iconst 1, 1) := by decide +kernel
theorem dX7_beacon_24 : decode cX7_beacon 24 = .ok (.goto 4, 3) := by decide +kernel
theorem dX7_beacon_27 : decode cX7_beacon 27 = .ok (.iconst 0, 1) := by decide +kernel
theorem dX7_beacon_28 : decode cX7_beacon 28 = .ok (.istore 5, 2) := by decide +kernel
theorem dX7_beacon_30 : decode cX7_beacon 30 = .ok (.aload_n 0, 1) := by decide +kernel
theorem dX7_beacon_31 : decode cX7_beacon 31 = .ok (.iload 4, 2) := by decide +kernel
theorem dX7_beacon_33 : decode cX7_beacon 33 = .ok (.ifCond .ne 7, 3) := by decide +kernel
theorem dX7_beacon_36 : decode cX7_beacon 36 = .ok (.iconst 1, 1) := by decide +kernel
theorem dX7_beacon_37 : decode cX7_beacon 37 = .ok (.goto 26, 3) := by decide +kernel
theorem dX7_beacon_40 : decode cX7_beacon 40 = .ok (.iload 5, 2) := by decide +kernel
theorem dX7_beacon_42 : decode cX7_beacon 42 = .ok (.ifCond .ne 7, 3) := by decide +kernel
theorem dX7_beacon_45 : decode cX7_beacon 45 = .ok (.iconst 2, 1) := by decide +kernel
theorem dX7_beacon_46 : decode cX7_beacon 46 = .ok (.goto 17, 3) := by decide +kernel
theorem dX7_beacon_49 : decode cX7_beacon 49 = .ok (.aload_n 0, 1) := by decide +kernel
theorem dX7_beacon_50 : decode cX7_beacon 50 = .ok (.getfield 174, 3) := by decide +kernel
theorem dX7_beacon_53 : decode cX7_beacon 53 = .ok (.bipush 6, 2) := by decide +kernel
theorem dX7_beacon_55 : decode cX7_beacon 55 = .ok (.if_icmp .ne 7, 3) := by decide +kernel
theorem dX7_beacon_58 : decode cX7_beacon 58 = .ok (.iconst 3, 1) := by decide +kernel
theorem dX7_beacon_59 : decode cX7_beacon 59 = .ok (.goto 4, 3) := by decide +kernel
theorem dX7_beacon_62 : decode cX7_beacon 62 = .ok (.iconst 0, 1) := by decide +kernel
theorem dX7_beacon_63 : decode cX7_beacon 63 = .ok (.invokevirtual 88, 3) := by decide +kernel
theorem dX7_beacon_66 : decode cX7_beacon 66 = .ok (.ifCond .ne 5, 3) := by decide +kernel
theorem dX7_beacon_69 : decode cX7_beacon 69 = .ok (.iconst 0, 1) := by decide +kernel
theorem dX7_beacon_70 : decode cX7_beacon 70 = .ok (.ireturn, 1) := by decide +kernel
theorem dX7_beacon_71 : decode cX7_beacon 71 = .ok (.aload_n 0, 1) := by decide +kernel
theorem dX7_beacon_72 : decode cX7_beacon 72 = .ok (.getfield 39, 3) := by decide +kernel
theorem dX7_beacon_75 : decode cX7_beacon 75 = .ok (.aload_n 0, 1) := by decide +kernel
theorem dX7_beacon_76 : decode cX7_beacon 76 = .ok (.getfield 174, 3) := by decide +kernel
theorem dX7_beacon_79 : decode cX7_beacon 79 = .ok (.iload_n 1, 1) := by decide +kernel
theorem dX7_beacon_80 : decode cX7_beacon 80 = .ok (.iastore, 1) := by decide +kernel
theorem dX7_beacon_81 : decode cX7_beacon 81 = .ok (.aload_n 0, 1) := by decide +kernel
theorem dX7_beacon_82 : decode cX7_beacon 82 = .ok (.getfield 42, 3) := by decide +kernel
theorem dX7_beacon_85 : decode cX7_beacon 85 = .ok (.aload_n 0, 1) := by decide +kernel
theorem dX7_beacon_86 : decode cX7_beacon 86 = .ok (.getfield 174, 3) := by decide +kernel
theorem dX7_beacon_89 : decode cX7_beacon 89 = .ok (.iload_n 2, 1) := by decide +kernel
theorem dX7_beacon_90 : decode cX7_beacon 90 = .ok (.iastore, 1) := by decide +kernel
theorem dX7_beacon_91 : decode cX7_beacon 91 = .ok (.aload_n 0, 1) := by decide +kernel
theorem dX7_beacon_92 : decode cX7_beacon 92 = .ok (.getfield 45, 3) := by decide +kernel
theorem dX7_beacon_95 : decode cX7_beacon 95 = .ok (.aload_n 0, 1) := by decide +kernel
theorem dX7_beacon_96 : decode cX7_beacon 96 = .ok (.getfield 174, 3) := by decide +kernel
theorem dX7_beacon_99 : decode cX7_beacon 99 = .ok (.iload_n 3, 1) := by decide +kernel
theorem dX7_beacon_100 : decode cX7_beacon 100 = .ok (.iastore, 1) := by decide +kernel
theorem dX7_beacon_101 : decode cX7_beacon 101 = .ok (.aload_n 0, 1) := by decide +kernel
theorem dX7_beacon_102 : decode cX7_beacon 102 = .ok (.dup, 1) := by decide +kernel
theorem dX7_beacon_103 : decode cX7_beacon 103 = .ok (.getfield 174, 3) := by decide +kernel
theorem dX7_beacon_106 : decode cX7_beacon 106 = .ok (.iconst 1, 1) := by decide +kernel
theorem dX7_beacon_107 : decode cX7_beacon 107 = .ok (.iadd, 1) := by decide +kernel
theorem dX7_beacon_108 : decode cX7_beacon 108 = .ok (.putfield 174, 3) := by decide +kernel
theorem dX7_beacon_111 : decode cX7_beacon 111 = .ok (.aload_n 0, 1) := by decide +kernel
theorem dX7_beacon_112 : decode cX7_beacon 112 = .ok (.getfield 174, 3) := by decide +kernel
theorem dX7_beacon_115 : decode cX7_beacon 115 = .ok (.iconst 1, 1) := by decide +kernel
theorem dX7_beacon_116 : decode cX7_beacon 116 = .ok (.isub, 1) := by decide +kernel
theorem dX7_beacon_117 : decode cX7_beacon 117 = .ok (.ireturn, 1) := by decide +kernel
theorem dX7_call_0 : decode cX7_call 0 = .ok (.aload_n 0, 1) := by decide +kernel
theorem dX7_call_1 : decode cX7_call 1 = .ok (.iload_n 1, 1) := by decide +kernel
theorem dX7_call_2 : decode cX7_call 2 = .ok (.invokevirtual 177, 3) := by decide +kernel
theorem dX7_call_5 : decode cX7_call 5 = .ok (.ifCond .eq 15, 3) := by decide +kernel
theorem dX7_call_8 : decode cX7_call 8 = .ok (.aload_n 0, 1) := by decide +kernel
theorem dX7_call_9 : decode cX7_call 9 = .ok (.iload_n 2, 1) := by decide +kernel
theorem dX7_call_10 : decode cX7_call 10 = .ok (.invokevirtual 177, 3) := by decide +kernel
theorem dX7_call_13 : decode cX7_call 13 = .ok (.ifCond .eq 7, 3) := by decide +kernel
theorem dX7_call_16 : decode cX7_call 16 = .ok (.iconst 1, 1) := by decide +kernel
theorem dX7_call_17 : decode cX7_call 17 = .ok (.goto 4, 3) := by decide +kernel
theorem dX7_call_20 : decode cX7_call 20 = .ok (.iconst 0, 1) := by decide +kernel
theorem dX7_call_21 : decode cX7_call 21 = .ok (.istore 5, 2) := by decide +kernel
theorem dX7_call_23 : decode cX7_call 23 = .ok (.iload_n 3, 1) := by decide +kernel
theorem dX7_call_24 : decode cX7_call 24 = .ok (.invokestatic 152, 3) := by decide +kernel
theorem dX7_call_27 : decode cX7_call 27 = .ok (.ifCond .eq 22, 3) := by decide +kernel
theorem dX7_call_30 : decode cX7_call 30 = .ok (.iload 4, 2) := by decide +kernel
theorem dX7_call_32 : decode cX7_call 32 = .ok (.iconst 0, 1) := by decide +kernel
theorem dX7_call_33 : decode cX7_call 33 = .ok (.iconst 2, 1) := by decide +kernel
theorem dX7_call_34 : decode cX7_call 34 = .ok (.invokestatic 81, 3) := by decide +kernel
theorem dX7_call_37 : decode cX7_call 37 = .ok (.ifCond .eq 12, 3) := by decide +kernel
theorem dX7_call_40 : decode cX7_call 40 = .ok (.iload_n 1, 1) := by decide +kernel
theorem dX7_call_41 : decode cX7_call 41 = .ok (.iload_n 2, 1) := by decide +kernel
theorem dX7_call_42 : decode cX7_call 42 = .ok (.if_icmp .eq 7, 3) := by decide +kernel
theorem dX7_call_45 : decode cX7_call 45 = .ok (.iconst 1, 1) := by decide +kernel
theorem dX7_call_46 : decode cX7_call 46 = .ok (.goto 4, 3) := by decide +kernel
theorem dX7_call_49 : decode cX7_call 49 = .ok (.iconst 0, 1) := by decide +kernel
theorem dX7_call_50 : decode cX7_call 50 = .ok (.istore 6, 2) := by decide +kernel
theorem dX7_call_52 : decode cX7_call 52 = .ok (.aload_n 0, 1) := by decide +kernel
theorem dX7_call_53 : decode cX7_call 53 = .ok (.iload 5, 2) := by decide +kernel
theorem dX7_call_55 : decode cX7_call 55 = .ok (.ifCond .ne 7, 3) := by decide +kernel
theorem dX7_call_58 : decode cX7_call 58 = .ok (.iconst 1, 1) := by decide +kernel
theorem dX7_call_59 : decode cX7_call 59 = .ok (.goto 26, 3) := by decide +kernel
theorem dX7_call_62 : decode cX7_call 62 = .ok (.iload 6, 2) := by decide +kernel
theorem dX7_call_64 : decode cX7_call 64 = .ok (.ifCond .ne 7, 3) := by decide +kernel
theorem dX7_call_67 : decode cX7_call 67 = .ok (.iconst 2, 1) := by decide +kernel
theorem dX7_call_68 : decode cX7_call 68 = .ok (.goto 17, 3) := by decide +kernel
theorem dX7_call_71 : decode cX7_call 71 = .ok (.aload_n 0, 1) := by decide +kernel
theorem dX7_call_72 : decode cX7_call 72 = .ok (.getfield 180, 3) := by decide +kernel
theorem dX7_call_75 : decode cX7_call 75 = .ok (.bipush 60, 2) := by decide +kernel
theorem dX7_call_77 : decode cX7_call 77 = .ok (.if_icmp .ne 7, 3) := by decide +kernel
theorem dX7_call_80 : decode cX7_call 80 = .ok (.iconst 3, 1) := by decide +kernel
theorem dX7_call_81 : decode cX7_call 81 = .ok (.goto 4, 3) := by decide +kernel
theorem dX7_call_84 : decode cX7_call 84 = .ok (.iconst 0, 1) := by decide +kernel
theorem dX7_call_85 : decode cX7_call 85 = .ok (.invokevirtual 88, 3) := by decide +kernel
theorem dX7_call_88 : decode cX7_call 88 = .ok (.ifCond .ne 5, 3) := by decide +kernel
theorem dX7_call_91 : decode cX7_call 91 = .ok (.iconst 0, 1) := by decide +kernel
theorem dX7_call_92 : decode cX7_call 92 = .ok (.ireturn, 1) := by decide +kernel
theorem dX7_call_93 : decode cX7_call 93 = .ok (.iload 4, 2) := by decide +kernel
theorem dX7_call_95 : decode cX7_call 95 = .ok (.ifCond .ne 8, 3) := by decide +kernel
theorem dX7_call_98 : decode cX7_call 98 = .ok (.bipush 10, 2) := by decide +kernel
theorem dX7_call_100 : decode cX7_call 100 = .ok (.goto 15, 3) := by decide +kernel
theorem dX7_call_103 : decode cX7_call 103 = .ok (.iload 4, 2) := by decide +kernel
theorem dX7_call_105 : decode cX7_call 105 = .ok (.iconst 1, 1) := by decide +kernel
theorem dX7_call_106 : decode cX7_call 106 = .ok (.if_icmp .ne 7, 3) := by decide +kernel
theorem dX7_call_109 : decode cX7_call 109 = .ok (.iconst 4, 1) := by decide +kernel
theorem dX7_call_110 : decode cX7_call 110 = .ok (.goto 5, 3) := by decide +kernel
theorem dX7_call_113 : decode cX7_call 113 = .ok (.bipush (-2), 2) := by decide +kernel
theorem dX7_call_115 : decode cX7_call 115 = .ok (.istore 7, 2) := by decide +kernel
theorem dX7_call_117 : decode cX7_call 117 = .ok (.aload_n 0, 1) := by decide +kernel
theorem dX7_call_118 : decode cX7_call 118 = .ok (.iload_n 1, 1) := by decide +kernel
theorem dX7_call_119 : decode cX7_call 119 = .ok (.iload_n 2, 1) := by decide +kernel
theorem dX7_call_120 : decode cX7_call 120 = .ok (.iload_n 3, 1) := by decide +kernel
theorem dX7_call_121 : decode cX7_call 121 = .ok (.invokevirtual 183, 3) := by decide +kernel
theorem dX7_call_124 : decode cX7_call 124 = .ok (.iload 7, 2) := by decide +kernel
theorem dX7_call_126 : decode cX7_call 126 = .ok (.if_icmp .lt 19, 3) := by decide +kernel
theorem dX7_call_129 : decode cX7_call 129 = .ok (.aload_n 0, 1) := by decide +kernel
theorem dX7_call_130 : decode cX7_call 130 = .ok (.iload_n 2, 1) := by decide +kernel
theorem dX7_call_131 : decode cX7_call 131 = .ok (.iload_n 1, 1) := by decide +kernel
theorem dX7_call_132 : decode cX7_call 132 = .ok (.iload_n 3, 1) := by decide +kernel
theorem dX7_call_133 : decode cX7_call 133 = .ok (.invokevirtual 183, 3) := by decide +kernel
theorem dX7_call_136 : decode cX7_call 136 = .ok (.iload 7, 2) := by decide +kernel
theorem dX7_call_138 : decode cX7_call 138 = .ok (.if_icmp .lt 7, 3) := by decide +kernel
theorem dX7_call_141 : decode cX7_call 141 = .ok (.iconst 1, 1) := by decide +kernel
theorem dX7_call_142 : decode cX7_call 142 = .ok (.goto 4, 3) := by decide +kernel
theorem dX7_call_145 : decode cX7_call 145 = .ok (.iconst 0, 1) := by decide +kernel
theorem dX7_call_146 : decode cX7_call 146 = .ok (.istore 8, 2) := by decide +kernel
theorem dX7_call_148 : decode cX7_call 148 = .ok (.iload 8, 2) := by decide +kernel
theorem dX7_call_150 : decode cX7_call 150 = .ok (.ifCond .eq 67, 3) := by decide +kernel
theorem dX7_call_153 : decode cX7_call 153 = .ok (.aload_n 0, 1) := by decide +kernel
theorem dX7_call_154 : decode cX7_call 154 = .ok (.getfield 48, 3) := by decide +kernel
theorem dX7_call_157 : decode cX7_call 157 = .ok (.aload_n 0, 1) := by decide +kernel
theorem dX7_call_158 : decode cX7_call 158 = .ok (.getfield 180, 3) := by decide +kernel
theorem dX7_call_161 : decode cX7_call 161 = .ok (.iload_n 1, 1) := by decide +kernel
theorem dX7_call_162 : decode cX7_call 162 = .ok (.iastore, 1) := by decide +kernel
theorem dX7_call_163 : decode cX7_call 163 = .ok (.aload_n 0, 1) := by decide +kernel
theorem dX7_call_164 : decode cX7_call 164 = .ok (.getfield 51, 3) := by decide +kernel
theorem dX7_call_167 : decode cX7_call 167 = .ok (.aload_n 0, 1) := by decide +kernel
theorem dX7_call_168 : decode cX7_call 168 = .ok (.getfield 180, 3) := by decide +kernel
theorem dX7_call_171 : decode cX7_call 171 = .ok (.iload_n 2, 1) := by decide +kernel
theorem dX7_call_172 : decode cX7_call 172 = .ok (.iastore, 1) := by decide +kernel
theorem dX7_call_173 : decode cX7_call 173 = .ok (.aload_n 0, 1) := by decide +kernel
theorem dX7_call_174 : decode cX7_call 174 = .ok (.getfield 54, 3) := by decide +kernel
theorem dX7_call_177 : decode cX7_call 177 = .ok (.aload_n 0, 1) := by decide +kernel
theorem dX7_call_178 : decode cX7_call 178 = .ok (.getfield 180, 3) := by decide +kernel
theorem dX7_call_181 : decode cX7_call 181 = .ok (.iload_n 3, 1) := by decide +kernel
theorem dX7_call_182 : decode cX7_call 182 = .ok (.iastore, 1) := by decide +kernel
theorem dX7_call_183 : decode cX7_call 183 = .ok (.aload_n 0, 1) := by decide +kernel
theorem dX7_call_184 : decode cX7_call 184 = .ok (.getfield 57, 3) := by decide +kernel
theorem dX7_call_187 : decode cX7_call 187 = .ok (.aload_n 0, 1) := by decide +kernel
theorem dX7_call_188 : decode cX7_call 188 = .ok (.getfield 180, 3) := by decide +kernel
theorem dX7_call_191 : decode cX7_call 191 = .ok (.iload 4, 2) := by decide +kernel
theorem dX7_call_193 : decode cX7_call 193 = .ok (.iastore, 1) := by decide +kernel
theorem dX7_call_194 : decode cX7_call 194 = .ok (.aload_n 0, 1) := by decide +kernel
theorem dX7_call_195 : decode cX7_call 195 = .ok (.getfield 60, 3) := by decide +kernel
theorem dX7_call_198 : decode cX7_call 198 = .ok (.aload_n 0, 1) := by decide +kernel
theorem dX7_call_199 : decode cX7_call 199 = .ok (.getfield 180, 3) := by decide +kernel
theorem dX7_call_202 : decode cX7_call 202 = .ok (.aload_n 0, 1) := by decide +kernel
theorem dX7_call_203 : decode cX7_call 203 = .ok (.getfield 104, 3) := by decide +kernel
theorem dX7_call_206 : decode cX7_call 206 = .ok (.iastore, 1) := by decide +kernel
theorem dX7_call_207 : decode cX7_call 207 = .ok (.aload_n 0, 1) := by decide +kernel
theorem dX7_call_208 : decode cX7_call 208 = .ok (.dup, 1) := by decide +kernel
theorem dX7_call_209 : decode cX7_call 209 = .ok (.getfield 180, 3) := by decide +kernel
theorem dX7_call_212 : decode cX7_call 212 = .ok (.iconst 1, 1) := by decide +kernel
theorem dX7_call_213 : decode cX7_call 213 = .ok (.iadd, 1) := by decide +kernel
theorem dX7_call_214 : decode cX7_call 214 = .ok (.putfield 180, 3) := by decide +kernel
theorem dX7_call_217 : decode cX7_call 217 = .ok (.iload 8, 2) := by decide +kernel
theorem dX7_call_219 : decode cX7_call 219 = .ok (.ireturn, 1) := by decide +kernel
theorem dX7_log_0 : decode cX7_log 0 = .ok (.aload_n 0, 1) := by decide +kernel
theorem dX7_log_1 : decode cX7_log 1 = .ok (.iload_n 1, 1) := by decide +kernel
theorem dX7_log_2 : decode cX7_log 2 = .ok (.invokevirtual 177, 3) := by decide +kernel
theorem dX7_log_5 : decode cX7_log 5 = .ok (.ifCond .eq 15, 3) := by decide +kernel
theorem dX7_log_8 : decode cX7_log 8 = .ok (.aload_n 0, 1) := by decide +kernel
theorem dX7_log_9 : decode cX7_log 9 = .ok (.iload_n 2, 1) := by decide +kernel
theorem dX7_log_10 : decode cX7_log 10 = .ok (.invokevirtual 177, 3) := by decide +kernel
theorem dX7_log_13 : decode cX7_log 13 = .ok (.ifCond .eq 7, 3) := by decide +kernel
theorem dX7_log_16 : decode cX7_log 16 = .ok (.iconst 1, 1) := by decide +kernel
theorem dX7_log_17 : decode cX7_log 17 = .ok (.goto 4, 3) := by decide +kernel
theorem dX7_log_20 : decode cX7_log 20 = .ok (.iconst 0, 1) := by decide +kernel
theorem dX7_log_21 : decode cX7_log 21 = .ok (.istore 4, 2) := by decide +kernel
theorem dX7_log_23 : decode cX7_log 23 = .ok (.iload_n 3, 1) := by decide +kernel
theorem dX7_log_24 : decode cX7_log 24 = .ok (.invokestatic 152, 3) := by decide +kernel
theorem dX7_log_27 : decode cX7_log 27 = .ok (.ifCond .eq 12, 3) := by decide +kernel
theorem dX7_log_30 : decode cX7_log 30 = .ok (.iload_n 1, 1) := by decide +kernel
theorem dX7_log_31 : decode cX7_log 31 = .ok (.iload_n 2, 1) := by decide +kernel
theorem dX7_log_32 : decode cX7_log 32 = .ok (.if_icmp .eq 7, 3) := by decide +kernel
theorem dX7_log_35 : decode cX7_log 35 = .ok (.iconst 1, 1) := by decide +kernel
theorem dX7_log_36 : decode cX7_log 36 = .ok (.goto 4, 3) := by decide +kernel
theorem dX7_log_39 : decode cX7_log 39 = .ok (.iconst 0, 1) := by decide +kernel
theorem dX7_log_40 : decode cX7_log 40 = .ok (.istore 5, 2) := by decide +kernel
theorem dX7_log_42 : decode cX7_log 42 = .ok (.aload_n 0, 1) := by decide +kernel
theorem dX7_log_43 : decode cX7_log 43 = .ok (.iload 4, 2) := by decide +kernel
theorem dX7_log_45 : decode cX7_log 45 = .ok (.ifCond .ne 7, 3) := by decide +kernel
theorem dX7_log_48 : decode cX7_log 48 = .ok (.iconst 1, 1) := by decide +kernel
theorem dX7_log_49 : decode cX7_log 49 = .ok (.goto 26, 3) := by decide +kernel
theorem dX7_log_52 : decode cX7_log 52 = .ok (.iload 5, 2) := by decide +kernel
theorem dX7_log_54 : decode cX7_log 54 = .ok (.ifCond .ne 7, 3) := by decide +kernel
theorem dX7_log_57 : decode cX7_log 57 = .ok (.iconst 2, 1) := by decide +kernel
theorem dX7_log_58 : decode cX7_log 58 = .ok (.goto 17, 3) := by decide +kernel
theorem dX7_log_61 : decode cX7_log 61 = .ok (.aload_n 0, 1) := by decide +kernel
theorem dX7_log_62 : decode cX7_log 62 = .ok (.getfield 187, 3) := by decide +kernel
theorem dX7_log_65 : decode cX7_log 65 = .ok (.bipush 80, 2) := by decide +kernel
theorem dX7_log_67 : decode cX7_log 67 = .ok (.if_icmp .ne 7, 3) := by decide +kernel
theorem dX7_log_70 : decode cX7_log 70 = .ok (.iconst 3, 1) := by decide +kernel
theorem dX7_log_71 : decode cX7_log 71 = .ok (.goto 4, 3) := by decide +kernel
theorem dX7_log_74 : decode cX7_log 74 = .ok (.iconst 0, 1) := by decide +kernel
theorem dX7_log_75 : decode cX7_log 75 = .ok (.invokevirtual 88, 3) := by decide +kernel
theorem dX7_log_78 : decode cX7_log 78 = .ok (.ifCond .ne 5, 3) := by decide +kernel
theorem dX7_log_81 : decode cX7_log 81 = .ok (.iconst 0, 1) := by decide +kernel
theorem dX7_log_82 : decode cX7_log 82 = .ok (.ireturn, 1) := by decide +kernel
theorem dX7_log_83 : decode cX7_log 83 = .ok (.iconst (-1), 1) := by decide +kernel
theorem dX7_log_84 : decode cX7_log 84 = .ok (.istore 6, 2) := by decide +kernel
theorem dX7_log_86 : decode cX7_log 86 = .ok (.aload_n 0, 1) := by decide +kernel
theorem dX7_log_87 : decode cX7_log 87 = .ok (.getfield 187, 3) := by decide +kernel
theorem dX7_log_90 : decode cX7_log 90 = .ok (.iconst 1, 1) := by decide +kernel
theorem dX7_log_91 : decode cX7_log 91 = .ok (.isub, 1) := by decide +kernel
theorem dX7_log_92 : decode cX7_log 92 = .ok (.istore 7, 2) := by decide +kernel
theorem dX7_log_94 : decode cX7_log 94 = .ok (.iload 7, 2) := by decide +kernel
theorem dX7_log_96 : decode cX7_log 96 = .ok (.ifCond .lt 90, 3) := by decide +kernel
theorem dX7_log_99 : decode cX7_log 99 = .ok (.aload_n 0, 1) := by decide +kernel
theorem dX7_log_100 : decode cX7_log 100 = .ok (.getfield 75, 3) := by decide +kernel
theorem dX7_log_103 : decode cX7_log 103 = .ok (.iload 7, 2) := by decide +kernel
theorem dX7_log_105 : decode cX7_log 105 = .ok (.iaload, 1) := by decide +kernel
theorem dX7_log_106 : decode cX7_log 106 = .ok (.iconst (-1), 1) := by decide +kernel
theorem dX7_log_107 : decode cX7_log 107 = .ok (.if_icmp .ne 56, 3) := by decide +kernel
theorem dX7_log_110 : decode cX7_log 110 = .ok (.aload_n 0, 1) := by decide +kernel
theorem dX7_log_111 : decode cX7_log 111 = .ok (.getfield 63, 3) := by decide +kernel
theorem dX7_log_114 : decode cX7_log 114 = .ok (.iload 7, 2) := by decide +kernel
theorem dX7_log_116 : decode cX7_log 116 = .ok (.iaload, 1) := by decide +kernel
theorem dX7_log_117 : decode cX7_log 117 = .ok (.iload_n 2, 1) := by decide +kernel
theorem dX7_log_118 : decode cX7_log 118 = .ok (.if_icmp .ne 45, 3) := by decide +kernel
theorem dX7_log_121 : decode cX7_log 121 = .ok (.aload_n 0, 1) := by decide +kernel
theorem dX7_log_122 : decode cX7_log 122 = .ok (.getfield 66, 3) := by decide +kernel
theorem dX7_log_125 : decode cX7_log 125 = .ok (.iload 7, 2) := by decide +kernel
theorem dX7_log_127 : decode cX7_log 127 = .ok (.iaload, 1) := by decide +kernel
theorem dX7_log_128 : decode cX7_log 128 = .ok (.iload_n 1, 1) := by decide +kernel
theorem dX7_log_129 : decode cX7_log 129 = .ok (.if_icmp .ne 34, 3) := by decide +kernel
theorem dX7_log_132 : decode cX7_log 132 = .ok (.aload_n 0, 1) := by decide +kernel
theorem dX7_log_133 : decode cX7_log 133 = .ok (.getfield 69, 3) := by decide +kernel
theorem dX7_log_136 : decode cX7_log 136 = .ok (.iload 7, 2) := by decide +kernel
theorem dX7_log_138 : decode cX7_log 138 = .ok (.iaload, 1) := by decide +kernel
theorem dX7_log_139 : decode cX7_log 139 = .ok (.iload_n 3, 1) := by decide +kernel
theorem dX7_log_140 : decode cX7_log 140 = .ok (.if_icmp .ne 23, 3) := by decide +kernel
theorem dX7_log_143 : decode cX7_log 143 = .ok (.aload_n 0, 1) := by decide +kernel
theorem dX7_log_144 : decode cX7_log 144 = .ok (.getfield 104, 3) := by decide +kernel
theorem dX7_log_147 : decode cX7_log 147 = .ok (.aload_n 0, 1) := by decide +kernel
theorem dX7_log_148 : decode cX7_log 148 = .ok (.getfield 72, 3) := by decide +kernel
theorem dX7_log_151 : decode cX7_log 151 = .ok (.iload 7, 2) := by decide +kernel
theorem dX7_log_153 : decode cX7_log 153 = .ok (.iaload, 1) := by decide +kernel
theorem dX7_log_154 : decode cX7_log 154 = .ok (.isub, 1) := by decide +kernel
theorem dX7_log_155 : decode cX7_log 155 = .ok (.iconst 2, 1) := by decide +kernel
theorem dX7_log_156 : decode cX7_log 156 = .ok (.if_icmp .ge 7, 3) := by decide +kernel
theorem dX7_log_159 : decode cX7_log 159 = .ok (.iconst 1, 1) := by decide +kernel
theorem dX7_log_160 : decode cX7_log 160 = .ok (.goto 4, 3) := by decide +kernel
theorem dX7_log_163 : decode cX7_log 163 = .ok (.iconst 0, 1) := by decide +kernel
theorem dX7_log_164 : decode cX7_log 164 = .ok (.istore 8, 2) := by decide +kernel
theorem dX7_log_166 : decode cX7_log 166 = .ok (.iload 8, 2) := by decide +kernel
theorem dX7_log_168 : decode cX7_log 168 = .ok (.ifCond .eq 8, 3) := by decide +kernel
theorem dX7_log_171 : decode cX7_log 171 = .ok (.iload 7, 2) := by decide +kernel
theorem dX7_log_173 : decode cX7_log 173 = .ok (.goto 5, 3) := by decide +kernel
theorem dX7_log_176 : decode cX7_log 176 = .ok (.iload 6, 2) := by decide +kernel
theorem dX7_log_178 : decode cX7_log 178 = .ok (.istore 6, 2) := by decide +kernel
theorem dX7_log_180 : decode cX7_log 180 = .ok (.iinc 7 (-1), 3) := by decide +kernel
theorem dX7_log_183 : decode cX7_log 183 = .ok (.goto (-89), 3) := by decide +kernel
theorem dX7_log_186 : decode cX7_log 186 = .ok (.aload_n 0, 1) := by decide +kernel
theorem dX7_log_187 : decode cX7_log 187 = .ok (.getfield 63, 3) := by decide +kernel
theorem dX7_log_190 : decode cX7_log 190 = .ok (.aload_n 0, 1) := by decide +kernel
theorem dX7_log_191 : decode cX7_log 191 = .ok (.getfield 187, 3) := by decide +kernel
theorem dX7_log_194 : decode cX7_log 194 = .ok (.iload_n 1, 1) := by decide +kernel
theorem dX7_log_195 : decode cX7_log 195 = .ok (.iastore, 1) := by decide +kernel
theorem dX7_log_196 : decode cX7_log 196 = .ok (.aload_n 0, 1) := by decide +kernel
theorem dX7_log_197 : decode cX7_log 197 = .ok (.getfield 66, 3) := by decide +kernel
theorem dX7_log_200 : decode cX7_log 200 = .ok (.aload_n 0, 1) := by decide +kernel
theorem dX7_log_201 : decode cX7_log 201 = .ok (.getfield 187, 3) := by decide +kernel
theorem dX7_log_204 : decode cX7_log 204 = .ok (.iload_n 2, 1) := by decide +kernel
theorem dX7_log_205 : decode cX7_log 205 = .ok (.iastore, 1) := by decide +kernel
theorem dX7_log_206 : decode cX7_log 206 = .ok (.aload_n 0, 1) := by decide +kernel
theorem dX7_log_207 : decode cX7_log 207 = .ok (.getfield 69, 3) := by decide +kernel
theorem dX7_log_210 : decode cX7_log 210 = .ok (.aload_n 0, 1) := by decide +kernel
theorem dX7_log_211 : decode cX7_log 211 = .ok (.getfield 187, 3) := by decide +kernel
theorem dX7_log_214 : decode cX7_log 214 = .ok (.iload_n 3, 1) := by decide +kernel
theorem dX7_log_215 : decode cX7_log 215 = .ok (.iastore, 1) := by decide +kernel
theorem dX7_log_216 : decode cX7_log 216 = .ok (.aload_n 0, 1) := by decide +kernel
theorem dX7_log_217 : decode cX7_log 217 = .ok (.getfield 72, 3) := by decide +kernel
theorem dX7_log_220 : decode cX7_log 220 = .ok (.aload_n 0, 1) := by decide +kernel
theorem dX7_log_221 : decode cX7_log 221 = .ok (.getfield 187, 3) := by decide +kernel
theorem dX7_log_224 : decode cX7_log 224 = .ok (.aload_n 0, 1) := by decide +kernel
theorem dX7_log_225 : decode cX7_log 225 = .ok (.getfield 104, 3) := by decide +kernel
theorem dX7_log_228 : decode cX7_log 228 = .ok (.iastore, 1) := by decide +kernel
theorem dX7_log_229 : decode cX7_log 229 = .ok (.aload_n 0, 1) := by decide +kernel
theorem dX7_log_230 : decode cX7_log 230 = .ok (.getfield 75, 3) := by decide +kernel
theorem dX7_log_233 : decode cX7_log 233 = .ok (.aload_n 0, 1) := by decide +kernel
theorem dX7_log_234 : decode cX7_log 234 = .ok (.getfield 187, 3) := by decide +kernel
theorem dX7_log_237 : decode cX7_log 237 = .ok (.iload 6, 2) := by decide +kernel
theorem dX7_log_239 : decode cX7_log 239 = .ok (.iastore, 1) := by decide +kernel
theorem dX7_log_240 : decode cX7_log 240 = .ok (.iload 6, 2) := by decide +kernel
theorem dX7_log_242 : decode cX7_log 242 = .ok (.iconst (-1), 1) := by decide +kernel
theorem dX7_log_243 : decode cX7_log 243 = .ok (.if_icmp .eq 14, 3) := by decide +kernel
theorem dX7_log_246 : decode cX7_log 246 = .ok (.aload_n 0, 1) := by decide +kernel
theorem dX7_log_247 : decode cX7_log 247 = .ok (.getfield 75, 3) := by decide +kernel
theorem dX7_log_250 : decode cX7_log 250 = .ok (.iload 6, 2) := by decide +kernel
theorem dX7_log_252 : decode cX7_log 252 = .ok (.aload_n 0, 1) := by decide +kernel
theorem dX7_log_253 : decode cX7_log 253 = .ok (.getfield 187, 3) := by decide +kernel
theorem dX7_log_256 : decode cX7_log 256 = .ok (.iastore, 1) := by decide +kernel
theorem dX7_log_257 : decode cX7_log 257 = .ok (.aload_n 0, 1) := by decide +kernel
theorem dX7_log_258 : decode cX7_log 258 = .ok (.dup, 1) := by decide +kernel
theorem dX7_log_259 : decode cX7_log 259 = .ok (.getfield 187, 3) := by decide +kernel
theorem dX7_log_262 : decode cX7_log 262 = .ok (.iconst 1, 1) := by decide +kernel
theorem dX7_log_263 : decode cX7_log 263 = .ok (.iadd, 1) := by decide +kernel
theorem dX7_log_264 : decode cX7_log 264 = .ok (.putfield 187, 3) := by decide +kernel
theorem dX7_log_267 : decode cX7_log 267 = .ok (.aload_n 0, 1) := by decide +kernel
theorem dX7_log_268 : decode cX7_log 268 = .ok (.getfield 187, 3) := by decide +kernel
theorem dX7_log_271 : decode cX7_log 271 = .ok (.iconst 1, 1) := by decide +kernel
theorem dX7_log_272 : decode cX7_log 272 = .ok (.isub, 1) := by decide +kernel
theorem dX7_log_273 : decode cX7_log 273 = .ok (.ireturn, 1) := by decide +kernel
theorem dX7_listen_0 : decode cX7_listen 0 = .ok (.aload_n 0, 1) := by decide +kernel
theorem dX7_listen_1 : decode cX7_listen 1 = .ok (.iload_n 1, 1) := by decide +kernel
theorem dX7_listen_2 : decode cX7_listen 2 = .ok (.invokestatic 101, 3) := by decide +kernel
theorem dX7_listen_5 : decode cX7_listen 5 = .ok (.ifCond .eq 7, 3) := by decide +kernel
theorem dX7_listen_8 : decode cX7_listen 8 = .ok (.iconst 0, 1) := by decide +kernel
theorem dX7_listen_9 : decode cX7_listen 9 = .ok (.goto 4, 3) := by decide +kernel
theorem dX7_listen_12 : decode cX7_listen 12 = .ok (.iconst 1, 1) := by decide +kernel
theorem dX7_listen_13 : decode cX7_listen 13 = .ok (.invokevirtual 88, 3) := by decide +kernel
theorem dX7_listen_16 : decode cX7_listen 16 = .ok (.ifCond .ne 5, 3) := by decide +kernel
theorem dX7_listen_19 : decode cX7_listen 19 = .ok (.iconst 0, 1) := by decide +kernel
theorem dX7_listen_20 : decode cX7_listen 20 = .ok (.ireturn, 1) := by decide +kernel
theorem dX7_listen_21 : decode cX7_listen 21 = .ok (.iconst 0, 1) := by decide +kernel
theorem dX7_listen_22 : decode cX7_listen 22 = .ok (.istore_n 2, 1) := by decide +kernel
theorem dX7_listen_23 : decode cX7_listen 23 = .ok (.iconst 0, 1) := by decide +kernel
theorem dX7_listen_24 : decode cX7_listen 24 = .ok (.istore_n 3, 1) := by decide +kernel
theorem dX7_listen_25 : decode cX7_listen 25 = .ok (.iload_n 3, 1) := by decide +kernel
theorem dX7_listen_26 : decode cX7_listen 26 = .ok (.aload_n 0, 1) := by decide +kernel
theorem dX7_listen_27 : decode cX7_listen 27 = .ok (.getfield 174, 3) := by decide +kernel
theorem dX7_listen_30 : decode cX7_listen 30 = .ok (.if_icmp .ge 135, 3) := by decide +kernel
theorem dX7_listen_33 : decode cX7_listen 33 = .ok (.aload_n 0, 1) := by decide +kernel
theorem dX7_listen_34 : decode cX7_listen 34 = .ok (.aload_n 0, 1) := by decide +kernel
theorem dX7_listen_35 : decode cX7_listen 35 = .ok (.getfield 39, 3) := by decide +kernel
theorem dX7_listen_38 : decode cX7_listen 38 = .ok (.iload_n 3, 1) := by decide +kernel
theorem dX7_listen_39 : decode cX7_listen 39 = .ok (.iaload, 1) := by decide +kernel
theorem dX7_listen_40 : decode cX7_listen 40 = .ok (.aload_n 0, 1) := by decide +kernel
theorem dX7_listen_41 : decode cX7_listen 41 = .ok (.getfield 45, 3) := by decide +kernel
theorem dX7_listen_44 : decode cX7_listen 44 = .ok (.iload_n 3, 1) := by decide +kernel
theorem dX7_listen_45 : decode cX7_listen 45 = .ok (.iaload, 1) := by decide +kernel
theorem dX7_listen_46 : decode cX7_listen 46 = .ok (.iconst 2, 1) := by decide +kernel
theorem dX7_listen_47 : decode cX7_listen 47 = .ok (.iconst 2, 1) := by decide +kernel
theorem dX7_listen_48 : decode cX7_listen 48 = .ok (.iload_n 1, 1) := by decide +kernel
theorem dX7_listen_49 : decode cX7_listen 49 = .ok (.aload_n 0, 1) := by decide +kernel
theorem dX7_listen_50 : decode cX7_listen 50 = .ok (.getfield 42, 3) := by decide +kernel
theorem dX7_listen_53 : decode cX7_listen 53 = .ok (.iload_n 3, 1) := by decide +kernel
theorem dX7_listen_54 : decode cX7_listen 54 = .ok (.iaload, 1) := by decide +kernel
theorem dX7_listen_55 : decode cX7_listen 55 = .ok (.invokevirtual 170, 3) := by decide +kernel
theorem dX7_listen_58 : decode cX7_listen 58 = .ok (.ifCond .lt 7, 3) := by decide +kernel
theorem dX7_listen_61 : decode cX7_listen 61 = .ok (.iconst 1, 1) := by decide +kernel
theorem dX7_listen_62 : decode cX7_listen 62 = .ok (.goto 4, 3) := by decide +kernel
theorem dX7_listen_65 : decode cX7_listen 65 = .ok (.iconst 0, 1) := by decide +kernel
theorem dX7_listen_66 : decode cX7_listen 66 = .ok (.istore 4, 2) := by decide +kernel
theorem dX7_listen_68 : decode cX7_listen 68 = .ok (.aload_n 0, 1) := by decide +kernel
theorem dX7_listen_69 : decode cX7_listen 69 = .ok (.iconst 1, 1) := by decide +kernel
theorem dX7_listen_70 : decode cX7_listen 70 = .ok (.putfield 114, 3) := by decide +kernel
theorem dX7_listen_73 : decode cX7_listen 73 = .ok (.aload_n 0, 1) := by decide +kernel
theorem dX7_listen_74 : decode cX7_listen 74 = .ok (.aload_n 0, 1) := by decide +kernel
theorem dX7_listen_75 : decode cX7_listen 75 = .ok (.getfield 39, 3) := by decide +kernel
theorem dX7_listen_78 : decode cX7_listen 78 = .ok (.iload_n 3, 1) := by decide +kernel
theorem dX7_listen_79 : decode cX7_listen 79 = .ok (.iaload, 1) := by decide +kernel
theorem dX7_listen_80 : decode cX7_listen 80 = .ok (.aload_n 0, 1) := by decide +kernel
theorem dX7_listen_81 : decode cX7_listen 81 = .ok (.getfield 45, 3) := by decide +kernel
theorem dX7_listen_84 : decode cX7_listen 84 = .ok (.iload_n 3, 1) := by decide +kernel
theorem dX7_listen_85 : decode cX7_listen 85 = .ok (.iaload, 1) := by decide +kernel
theorem dX7_listen_86 : decode cX7_listen 86 = .ok (.iconst 2, 1) := by decide +kernel
theorem dX7_listen_87 : decode cX7_listen 87 = .ok (.iconst 2, 1) := by decide +kernel
theorem dX7_listen_88 : decode cX7_listen 88 = .ok (.iload_n 1, 1) := by decide +kernel
theorem dX7_listen_89 : decode cX7_listen 89 = .ok (.aload_n 0, 1) := by decide +kernel
theorem dX7_listen_90 : decode cX7_listen 90 = .ok (.getfield 42, 3) := by decide +kernel
theorem dX7_listen_93 : decode cX7_listen 93 = .ok (.iload_n 3, 1) := by decide +kernel
theorem dX7_listen_94 : decode cX7_listen 94 = .ok (.iaload, 1) := by decide +kernel
theorem dX7_listen_95 : decode cX7_listen 95 = .ok (.invokevirtual 170, 3) := by decide +kernel
theorem dX7_listen_98 : decode cX7_listen 98 = .ok (.ifCond .lt 7, 3) := by decide +kernel
theorem dX7_listen_101 : decode cX7_listen 101 = .ok (.iconst 1, 1) := by decide +kernel
theorem dX7_listen_102 : decode cX7_listen 102 = .ok (.goto 4, 3) := by decide +kernel
theorem dX7_listen_105 : decode cX7_listen 105 = .ok (.iconst 0, 1) := by decide +kernel
theorem dX7_listen_106 : decode cX7_listen 106 = .ok (.istore 5, 2) := by decide +kernel
theorem dX7_listen_108 : decode cX7_listen 108 = .ok (.aload_n 0, 1) := by decide +kernel
theorem dX7_listen_109 : decode cX7_listen 109 = .ok (.iconst 0, 1) := by decide +kernel
theorem dX7_listen_110 : decode cX7_listen 110 = .ok (.putfield 114, 3) := by decide +kernel
theorem dX7_listen_113 : decode cX7_listen 113 = .ok (.aload_n 0, 1) := by decide +kernel
theorem dX7_listen_114 : decode cX7_listen 114 = .ok (.dup, 1) := by decide +kernel
theorem dX7_listen_115 : decode cX7_listen 115 = .ok (.getfield 190, 3) := by decide +kernel
theorem dX7_listen_118 : decode cX7_listen 118 = .ok (.iconst 1, 1) := by decide +kernel
theorem dX7_listen_119 : decode cX7_listen 119 = .ok (.iadd, 1) := by decide +kernel
theorem dX7_listen_120 : decode cX7_listen 120 = .ok (.putfield 190, 3) := by decide +kernel
theorem dX7_listen_123 : decode cX7_listen 123 = .ok (.aload_n 0, 1) := by decide +kernel
theorem dX7_listen_124 : decode cX7_listen 124 = .ok (.dup, 1) := by decide +kernel
theorem dX7_listen_125 : decode cX7_listen 125 = .ok (.getfield 193, 3) := by decide +kernel
theorem dX7_listen_128 : decode cX7_listen 128 = .ok (.iload 4, 2) := by decide +kernel
theorem dX7_listen_130 : decode cX7_listen 130 = .ok (.iload 5, 2) := by decide +kernel
theorem dX7_listen_132 : decode cX7_listen 132 = .ok (.if_icmp .ne 7, 3) := by decide +kernel
theorem dX7_listen_135 : decode cX7_listen 135 = .ok (.iconst 1, 1) := by decide +kernel
theorem dX7_listen_136 : decode cX7_listen 136 = .ok (.goto 4, 3) := by decide +kernel
theorem dX7_listen_139 : decode cX7_listen 139 = .ok (.iconst 0, 1) := by decide +kernel
theorem dX7_listen_140 : decode cX7_listen 140 = .ok (.iadd, 1) := by decide +kernel
theorem dX7_listen_141 : decode cX7_listen 141 = .ok (.putfield 193, 3) := by decide +kernel
theorem dX7_listen_144 : decode cX7_listen 144 = .ok (.iload_n 2, 1) := by decide +kernel
theorem dX7_listen_145 : decode cX7_listen 145 = .ok (.iload 4, 2) := by decide +kernel
theorem dX7_listen_147 : decode cX7_listen 147 = .ok (.ifCond .eq 9, 3) := by decide +kernel
theorem dX7_listen_150 : decode cX7_listen 150 = .ok (.iconst 1, 1) := by decide +kernel
theorem dX7_listen_151 : decode cX7_listen 151 = .ok (.iload_n 3, 1) := by decide +kernel
theorem dX7_listen_152 : decode cX7_listen 152 = .ok (.ishl, 1) := by decide +kernel
theorem dX7_listen_153 : decode cX7_listen 153 = .ok (.goto 4, 3) := by decide +kernel
theorem dX7_listen_156 : decode cX7_listen 156 = .ok (.iconst 0, 1) := by decide +kernel
theorem dX7_listen_157 : decode cX7_listen 157 = .ok (.ior, 1) := by decide +kernel
theorem dX7_listen_158 : decode cX7_listen 158 = .ok (.istore_n 2, 1) := by decide +kernel
theorem dX7_listen_159 : decode cX7_listen 159 = .ok (.iinc 3 1, 3) := by decide +kernel
theorem dX7_listen_162 : decode cX7_listen 162 = .ok (.goto (-137), 3) := by decide +kernel
theorem dX7_listen_165 : decode cX7_listen 165 = .ok (.iload_n 2, 1) := by decide +kernel
theorem dX7_listen_166 : decode cX7_listen 166 = .ok (.ireturn, 1) := by decide +kernel
theorem dX7_hour_0 : decode cX7_hour 0 = .ok (.aload_n 0, 1) := by decide +kernel
theorem dX7_hour_1 : decode cX7_hour 1 = .ok (.iconst 0, 1) := by decide +kernel
theorem dX7_hour_2 : decode cX7_hour 2 = .ok (.putfield 78, 3) := by decide +kernel
theorem dX7_hour_5 : decode cX7_hour 5 = .ok (.aload_n 0, 1) := by decide +kernel
theorem dX7_hour_6 : decode cX7_hour 6 = .ok (.getfield 104, 3) := by decide +kernel
theorem dX7_hour_9 : decode cX7_hour 9 = .ok (.ireturn, 1) := by decide +kernel
theorem dX7_light_0 : decode cX7_light 0 = .ok (.iload_n 1, 1) := by decide +kernel
theorem dX7_light_1 : decode cX7_light 1 = .ok (.invokestatic 101, 3) := by decide +kernel
theorem dX7_light_4 : decode cX7_light 4 = .ok (.istore_n 3, 1) := by decide +kernel
theorem dX7_light_5 : decode cX7_light 5 = .ok (.aload_n 0, 1) := by decide +kernel
theorem dX7_light_6 : decode cX7_light 6 = .ok (.iload_n 3, 1) := by decide +kernel
theorem dX7_light_7 : decode cX7_light 7 = .ok (.ifCond .ne 7, 3) := by decide +kernel
theorem dX7_light_10 : decode cX7_light 10 = .ok (.iconst 1, 1) := by decide +kernel
theorem dX7_light_11 : decode cX7_light 11 = .ok (.goto 18, 3) := by decide +kernel
theorem dX7_light_14 : decode cX7_light 14 = .ok (.iload_n 2, 1) := by decide +kernel
theorem dX7_light_15 : decode cX7_light 15 = .ok (.iconst 0, 1) := by decide +kernel
theorem dX7_light_16 : decode cX7_light 16 = .ok (.bipush 24, 2) := by decide +kernel
theorem dX7_light_18 : decode cX7_light 18 = .ok (.invokestatic 81, 3) := by decide +kernel
theorem dX7_light_21 : decode cX7_light 21 = .ok (.ifCond .eq 7, 3) := by decide +kernel
theorem dX7_light_24 : decode cX7_light 24 = .ok (.iconst 0, 1) := by decide +kernel
theorem dX7_light_25 : decode cX7_light 25 = .ok (.goto 4, 3) := by decide +kernel
theorem dX7_light_28 : decode cX7_light 28 = .ok (.iconst 2, 1) := by decide +kernel
theorem dX7_light_29 : decode cX7_light 29 = .ok (.invokevirtual 88, 3) := by decide +kernel
theorem dX7_light_32 : decode cX7_light 32 = .ok (.ifCond .eq 12, 3) := by decide +kernel
theorem dX7_light_35 : decode cX7_light 35 = .ok (.aload_n 0, 1) := by decide +kernel
theorem dX7_light_36 : decode cX7_light 36 = .ok (.iload_n 1, 1) := by decide +kernel
theorem dX7_light_37 : decode cX7_light 37 = .ok (.iload_n 2, 1) := by decide +kernel
theorem dX7_light_38 : decode cX7_light 38 = .ok (.invokevirtual 110, 3) := by decide +kernel
theorem dX7_light_41 : decode cX7_light 41 = .ok (.goto 4, 3) := by decide +kernel
theorem dX7_light_44 : decode cX7_light 44 = .ok (.iconst 0, 1) := by decide +kernel
theorem dX7_light_45 : decode cX7_light 45 = .ok (.ireturn, 1) := by decide +kernel
theorem dX7_density_0 : decode cX7_density 0 = .ok (.iload_n 1, 1) := by decide +kernel
theorem dX7_density_1 : decode cX7_density 1 = .ok (.invokestatic 101, 3) := by decide +kernel
theorem dX7_density_4 : decode cX7_density 4 = .ok (.istore_n 3, 1) := by decide +kernel
theorem dX7_density_5 : decode cX7_density 5 = .ok (.aload_n 0, 1) := by decide +kernel
theorem dX7_density_6 : decode cX7_density 6 = .ok (.iload_n 3, 1) := by decide +kernel
theorem dX7_density_7 : decode cX7_density 7 = .ok (.ifCond .ne 7, 3) := by decide +kernel
theorem dX7_density_10 : decode cX7_density 10 = .ok (.iconst 1, 1) := by decide +kernel
theorem dX7_density_11 : decode cX7_density 11 = .ok (.goto 17, 3) := by decide +kernel
theorem dX7_density_14 : decode cX7_density 14 = .ok (.iload_n 2, 1) := by decide +kernel
theorem dX7_density_15 : decode cX7_density 15 = .ok (.iconst 0, 1) := by decide +kernel
theorem dX7_density_16 : decode cX7_density 16 = .ok (.iconst 2, 1) := by decide +kernel
theorem dX7_density_17 : decode cX7_density 17 = .ok (.invokestatic 81, 3) := by decide +kernel
theorem dX7_density_20 : decode cX7_density 20 = .ok (.ifCond .eq 7, 3) := by decide +kernel
theorem dX7_density_23 : decode cX7_density 23 = .ok (.iconst 0, 1) := by decide +kernel
theorem dX7_density_24 : decode cX7_density 24 = .ok (.goto 4, 3) := by decide +kernel
theorem dX7_density_27 : decode cX7_density 27 = .ok (.iconst 2, 1) := by decide +kernel
theorem dX7_density_28 : decode cX7_density 28 = .ok (.invokevirtual 88, 3) := by decide +kernel
theorem dX7_density_31 : decode cX7_density 31 = .ok (.ifCond .eq 12, 3) := by decide +kernel
theorem dX7_density_34 : decode cX7_density 34 = .ok (.aload_n 0, 1) := by decide +kernel
theorem dX7_density_35 : decode cX7_density 35 = .ok (.iload_n 1, 1) := by decide +kernel
theorem dX7_density_36 : decode cX7_density 36 = .ok (.iload_n 2, 1) := by decide +kernel
theorem dX7_density_37 : decode cX7_density 37 = .ok (.invokevirtual 118, 3) := by decide +kernel
theorem dX7_density_40 : decode cX7_density 40 = .ok (.goto 4, 3) := by decide +kernel
theorem dX7_density_43 : decode cX7_density 43 = .ok (.iconst 0, 1) := by decide +kernel
theorem dX7_density_44 : decode cX7_density 44 = .ok (.ireturn, 1) := by decide +kernel
theorem dX7_signal_0 : decode cX7_signal 0 = .ok (.aload_n 0, 1) := by decide +kernel
theorem dX7_signal_1 : decode cX7_signal 1 = .ok (.iload_n 1, 1) := by decide +kernel
theorem dX7_signal_2 : decode cX7_signal 2 = .ok (.invokevirtual 177, 3) := by decide +kernel
theorem dX7_signal_5 : decode cX7_signal 5 = .ok (.ifCond .eq 15, 3) := by decide +kernel
theorem dX7_signal_8 : decode cX7_signal 8 = .ok (.aload_n 0, 1) := by decide +kernel
theorem dX7_signal_9 : decode cX7_signal 9 = .ok (.iload_n 2, 1) := by decide +kernel
theorem dX7_signal_10 : decode cX7_signal 10 = .ok (.invokevirtual 177, 3) := by decide +kernel
theorem dX7_signal_13 : decode cX7_signal 13 = .ok (.ifCond .eq 7, 3) := by decide +kernel
theorem dX7_signal_16 : decode cX7_signal 16 = .ok (.iconst 1, 1) := by decide +kernel
theorem dX7_signal_17 : decode cX7_signal 17 = .ok (.goto 4, 3) := by decide +kernel
theorem dX7_signal_20 : decode cX7_signal 20 = .ok (.iconst 0, 1) := by decide +kernel
theorem dX7_signal_21 : decode cX7_signal 21 = .ok (.istore 4, 2) := by decide +kernel
theorem dX7_signal_23 : decode cX7_signal 23 = .ok (.aload_n 0, 1) := by decide +kernel
theorem dX7_signal_24 : decode cX7_signal 24 = .ok (.iload 4, 2) := by decide +kernel
theorem dX7_signal_26 : decode cX7_signal 26 = .ok (.ifCond .ne 7, 3) := by decide +kernel
theorem dX7_signal_29 : decode cX7_signal 29 = .ok (.iconst 1, 1) := by decide +kernel
theorem dX7_signal_30 : decode cX7_signal 30 = .ok (.goto 20, 3) := by decide +kernel
theorem dX7_signal_33 : decode cX7_signal 33 = .ok (.iload_n 3, 1) := by decide +kernel
theorem dX7_signal_34 : decode cX7_signal 34 = .ok (.invokestatic 152, 3) := by decide +kernel
theorem dX7_signal_37 : decode cX7_signal 37 = .ok (.ifCond .eq 12, 3) := by decide +kernel
theorem dX7_signal_40 : decode cX7_signal 40 = .ok (.iload_n 1, 1) := by decide +kernel
theorem dX7_signal_41 : decode cX7_signal 41 = .ok (.iload_n 2, 1) := by decide +kernel
theorem dX7_signal_42 : decode cX7_signal 42 = .ok (.if_icmp .eq 7, 3) := by decide +kernel
theorem dX7_signal_45 : decode cX7_signal 45 = .ok (.iconst 0, 1) := by decide +kernel
theorem dX7_signal_46 : decode cX7_signal 46 = .ok (.goto 4, 3) := by decide +kernel
theorem dX7_signal_49 : decode cX7_signal 49 = .ok (.iconst 2, 1) := by decide +kernel
theorem dX7_signal_50 : decode cX7_signal 50 = .ok (.invokevirtual 88, 3) := by decide +kernel
theorem dX7_signal_53 : decode cX7_signal 53 = .ok (.ifCond .eq 13, 3) := by decide +kernel
theorem dX7_signal_56 : decode cX7_signal 56 = .ok (.aload_n 0, 1) := by decide +kernel
theorem dX7_signal_57 : decode cX7_signal 57 = .ok (.iload_n 1, 1) := by decide +kernel
theorem dX7_signal_58 : decode cX7_signal 58 = .ok (.iload_n 2, 1) := by decide +kernel
theorem dX7_signal_59 : decode cX7_signal 59 = .ok (.iload_n 3, 1) := by decide +kernel
theorem dX7_signal_60 : decode cX7_signal 60 = .ok (.invokevirtual 183, 3) := by decide +kernel
theorem dX7_signal_63 : decode cX7_signal 63 = .ok (.goto 4, 3) := by decide +kernel
theorem dX7_signal_66 : decode cX7_signal 66 = .ok (.iconst 0, 1) := by decide +kernel
theorem dX7_signal_67 : decode cX7_signal 67 = .ok (.ireturn, 1) := by decide +kernel
theorem dX7_contactOf_0 : decode cX7_contactOf 0 = .ok (.iload_n 1, 1) := by decide +kernel
theorem dX7_contactOf_1 : decode cX7_contactOf 1 = .ok (.iconst 0, 1) := by decide +kernel
theorem dX7_contactOf_2 : decode cX7_contactOf 2 = .ok (.aload_n 0, 1) := by decide +kernel
theorem dX7_contactOf_3 : decode cX7_contactOf 3 = .ok (.getfield 180, 3) := by decide +kernel
theorem dX7_contactOf_6 : decode cX7_contactOf 6 = .ok (.iconst 1, 1) := by decide +kernel
theorem dX7_contactOf_7 : decode cX7_contactOf 7 = .ok (.isub, 1) := by decide +kernel
theorem dX7_contactOf_8 : decode cX7_contactOf 8 = .ok (.invokestatic 81, 3) := by decide +kernel
theorem dX7_contactOf_11 : decode cX7_contactOf 11 = .ok (.istore_n 3, 1) := by decide +kernel
theorem dX7_contactOf_12 : decode cX7_contactOf 12 = .ok (.aload_n 0, 1) := by decide +kernel
theorem dX7_contactOf_13 : decode cX7_contactOf 13 = .ok (.iload_n 3, 1) := by decide +kernel
theorem dX7_contactOf_14 : decode cX7_contactOf 14 = .ok (.ifCond .ne 7, 3) := by decide +kernel
theorem dX7_contactOf_17 : decode cX7_contactOf 17 = .ok (.iconst 1, 1) := by decide +kernel
theorem dX7_contactOf_18 : decode cX7_contactOf 18 = .ok (.goto 17, 3) := by decide +kernel
theorem dX7_contactOf_21 : decode cX7_contactOf 21 = .ok (.iload_n 2, 1) := by decide +kernel
theorem dX7_contactOf_22 : decode cX7_contactOf 22 = .ok (.iconst 0, 1) := by decide +kernel
theorem dX7_contactOf_23 : decode cX7_contactOf 23 = .ok (.iconst 4, 1) := by decide +kernel
theorem dX7_contactOf_24 : decode cX7_contactOf 24 = .ok (.invokestatic 81, 3) := by decide +kernel
theorem dX7_contactOf_27 : decode cX7_contactOf 27 = .ok (.ifCond .eq 7, 3) := by decide +kernel
theorem dX7_contactOf_30 : decode cX7_contactOf 30 = .ok (.iconst 0, 1) := by decide +kernel
theorem dX7_contactOf_31 : decode cX7_contactOf 31 = .ok (.goto 4, 3) := by decide +kernel
theorem dX7_contactOf_34 : decode cX7_contactOf 34 = .ok (.iconst 2, 1) := by decide +kernel
theorem dX7_contactOf_35 : decode cX7_contactOf 35 = .ok (.invokevirtual 88, 3) := by decide +kernel
theorem dX7_contactOf_38 : decode cX7_contactOf 38 = .ok (.ifCond .ne 5, 3) := by decide +kernel
theorem dX7_contactOf_41 : decode cX7_contactOf 41 = .ok (.iconst 0, 1) := by decide +kernel
theorem dX7_contactOf_42 : decode cX7_contactOf 42 = .ok (.ireturn, 1) := by decide +kernel
theorem dX7_contactOf_43 : decode cX7_contactOf 43 = .ok (.iload_n 2, 1) := by decide +kernel
theorem dX7_contactOf_44 : decode cX7_contactOf 44 = .ok (.ifCond .ne 12, 3) := by decide +kernel
theorem dX7_contactOf_47 : decode cX7_contactOf 47 = .ok (.aload_n 0, 1) := by decide +kernel
theorem dX7_contactOf_48 : decode cX7_contactOf 48 = .ok (.getfield 48, 3) := by decide +kernel
theorem dX7_contactOf_51 : decode cX7_contactOf 51 = .ok (.iload_n 1, 1) := by decide +kernel
theorem dX7_contactOf_52 : decode cX7_contactOf 52 = .ok (.iaload, 1) := by decide +kernel
theorem dX7_contactOf_53 : decode cX7_contactOf 53 = .ok (.goto 51, 3) := by decide +kernel
theorem dX7_contactOf_56 : decode cX7_contactOf 56 = .ok (.iload_n 2, 1) := by decide +kernel
theorem dX7_contactOf_57 : decode cX7_contactOf 57 = .ok (.iconst 1, 1) := by decide +kernel
theorem dX7_contactOf_58 : decode cX7_contactOf 58 = .ok (.if_icmp .ne 12, 3) := by decide +kernel
theorem dX7_contactOf_61 : decode cX7_contactOf 61 = .ok (.aload_n 0, 1) := by decide +kernel
theorem dX7_contactOf_62 : decode cX7_contactOf 62 = .ok (.getfield 51, 3) := by decide +kernel
theorem dX7_contactOf_65 : decode cX7_contactOf 65 = .ok (.iload_n 1, 1) := by decide +kernel
theorem dX7_contactOf_66 : decode cX7_contactOf 66 = .ok (.iaload, 1) := by decide +kernel
theorem dX7_contactOf_67 : decode cX7_contactOf 67 = .ok (.goto 37, 3) := by decide +kernel
theorem dX7_contactOf_70 : decode cX7_contactOf 70 = .ok (.iload_n 2, 1) := by decide +kernel
theorem dX7_contactOf_71 : decode cX7_contactOf 71 = .ok (.iconst 2, 1) := by decide +kernel
theorem dX7_contactOf_72 : decode cX7_contactOf 72 = .ok (.if_icmp .ne 12, 3) := by decide +kernel
theorem dX7_contactOf_75 : decode cX7_contactOf 75 = .ok (.aload_n 0, 1) := by decide +kernel
theorem dX7_contactOf_76 : decode cX7_contactOf 76 = .ok (.getfield 54, 3) := by decide +kernel
theorem dX7_contactOf_79 : decode cX7_contactOf 79 = .ok (.iload_n 1, 1) := by decide +kernel
theorem dX7_contactOf_80 : decode cX7_contactOf 80 = .ok (.iaload, 1) := by decide +kernel
theorem dX7_contactOf_81 : decode cX7_contactOf 81 = .ok (.goto 23, 3) := by decide +kernel
theorem dX7_contactOf_84 : decode cX7_contactOf 84 = .ok (.iload_n 2, 1) := by decide +kernel
theorem dX7_contactOf_85 : decode cX7_contactOf 85 = .ok (.iconst 3, 1) := by decide +kernel
theorem dX7_contactOf_86 : decode cX7_contactOf 86 = .ok (.if_icmp .ne 12, 3) := by decide +kernel
theorem dX7_contactOf_89 : decode cX7_contactOf 89 = .ok (.aload_n 0, 1) := by decide +kernel
theorem dX7_contactOf_90 : decode cX7_contactOf 90 = .ok (.getfield 57, 3) := by decide +kernel
theorem dX7_contactOf_93 : decode cX7_contactOf 93 = .ok (.iload_n 1, 1) := by decide +kernel
theorem dX7_contactOf_94 : decode cX7_contactOf 94 = .ok (.iaload, 1) := by decide +kernel
theorem dX7_contactOf_95 : decode cX7_contactOf 95 = .ok (.goto 9, 3) := by decide +kernel
theorem dX7_contactOf_98 : decode cX7_contactOf 98 = .ok (.aload_n 0, 1) := by decide +kernel
theorem dX7_contactOf_99 : decode cX7_contactOf 99 = .ok (.getfield 60, 3) := by decide +kernel
theorem dX7_contactOf_102 : decode cX7_contactOf 102 = .ok (.iload_n 1, 1) := by decide +kernel
theorem dX7_contactOf_103 : decode cX7_contactOf 103 = .ok (.iaload, 1) := by decide +kernel
theorem dX7_contactOf_104 : decode cX7_contactOf 104 = .ok (.ireturn, 1) := by decide +kernel
theorem dX7_counts_0 : decode cX7_counts 0 = .ok (.iconst 0, 1) := by decide +kernel
theorem dX7_counts_1 : decode cX7_counts 1 = .ok (.istore_n 2, 1) := by decide +kernel
theorem dX7_counts_2 : decode cX7_counts 2 = .ok (.iconst 0, 1) := by decide +kernel
theorem dX7_counts_3 : decode cX7_counts 3 = .ok (.istore_n 3, 1) := by decide +kernel
theorem dX7_counts_4 : decode cX7_counts 4 = .ok (.iload_n 3, 1) := by decide +kernel
theorem dX7_counts_5 : decode cX7_counts 5 = .ok (.aload_n 0, 1) := by decide +kernel
theorem dX7_counts_6 : decode cX7_counts 6 = .ok (.getfield 180, 3) := by decide +kernel
theorem dX7_counts_9 : decode cX7_counts 9 = .ok (.if_icmp .ge 163, 3) := by decide +kernel
theorem dX7_counts_12 : decode cX7_counts 12 = .ok (.aload_n 0, 1) := by decide +kernel
theorem dX7_counts_13 : decode cX7_counts 13 = .ok (.getfield 75, 3) := by decide +kernel
theorem dX7_counts_16 : decode cX7_counts 16 = .ok (.iload_n 1, 1) := by decide +kernel
theorem dX7_counts_17 : decode cX7_counts 17 = .ok (.iaload, 1) := by decide +kernel
theorem dX7_counts_18 : decode cX7_counts 18 = .ok (.iconst (-1), 1) := by decide +kernel
theorem dX7_counts_19 : decode cX7_counts 19 = .ok (.if_icmp .eq 153, 3) := by decide +kernel
theorem dX7_counts_22 : decode cX7_counts 22 = .ok (.aload_n 0, 1) := by decide +kernel
theorem dX7_counts_23 : decode cX7_counts 23 = .ok (.getfield 48, 3) := by decide +kernel
theorem dX7_counts_26 : decode cX7_counts 26 = .ok (.iload_n 3, 1) := by decide +kernel
theorem dX7_counts_27 : decode cX7_counts 27 = .ok (.iaload, 1) := by decide +kernel
theorem dX7_counts_28 : decode cX7_counts 28 = .ok (.aload_n 0, 1) := by decide +kernel
theorem dX7_counts_29 : decode cX7_counts 29 = .ok (.getfield 63, 3) := by decide +kernel
theorem dX7_counts_32 : decode cX7_counts 32 = .ok (.iload_n 1, 1) := by decide +kernel
theorem dX7_counts_33 : decode cX7_counts 33 = .ok (.iaload, 1) := by decide +kernel
theorem dX7_counts_34 : decode cX7_counts 34 = .ok (.if_icmp .ne 18, 3) := by decide +kernel
theorem dX7_counts_37 : decode cX7_counts 37 = .ok (.aload_n 0, 1) := by decide +kernel
theorem dX7_counts_38 : decode cX7_counts 38 = .ok (.getfield 51, 3) := by decide +kernel
theorem dX7_counts_41 : decode cX7_counts 41 = .ok (.iload_n 3, 1) := by decide +kernel
theorem dX7_counts_42 : decode cX7_counts 42 = .ok (.iaload, 1) := by decide +kernel
theorem dX7_counts_43 : decode cX7_counts 43 = .ok (.aload_n 0, 1) := by decide +kernel
theorem dX7_counts_44 : decode cX7_counts 44 = .ok (.getfield 66, 3) := by decide +kernel
theorem dX7_counts_47 : decode cX7_counts 47 = .ok (.iload_n 1, 1) := by decide +kernel
theorem dX7_counts_48 : decode cX7_counts 48 = .ok (.iaload, 1) := by decide +kernel
theorem dX7_counts_49 : decode cX7_counts 49 = .ok (.if_icmp .eq 33, 3) := by decide +kernel
theorem dX7_counts_52 : decode cX7_counts 52 = .ok (.aload_n 0, 1) := by decide +kernel
theorem dX7_counts_53 : decode cX7_counts 53 = .ok (.getfield 48, 3) := by decide +kernel
theorem dX7_counts_56 : decode cX7_counts 56 = .ok (.iload_n 3, 1) := by decide +kernel
theorem dX7_counts_57 : decode cX7_counts 57 = .ok (.iaload, 1) := by decide +kernel
theorem dX7_counts_58 : decode cX7_counts 58 = .ok (.aload_n 0, 1) := by decide +kernel
theorem dX7_counts_59 : decode cX7_counts 59 = .ok (.getfield 66, 3) := by decide +kernel
theorem dX7_counts_62 : decode cX7_counts 62 = .ok (.iload_n 1, 1) := by decide +kernel
theorem dX7_counts_63 : decode cX7_counts 63 = .ok (.iaload, 1) := by decide +kernel
theorem dX7_counts_64 : decode cX7_counts 64 = .ok (.if_icmp .ne 22, 3) := by decide +kernel
theorem dX7_counts_67 : decode cX7_counts 67 = .ok (.aload_n 0, 1) := by decide +kernel
theorem dX7_counts_68 : decode cX7_counts 68 = .ok (.getfield 51, 3) := by decide +kernel
theorem dX7_counts_71 : decode cX7_counts 71 = .ok (.iload_n 3, 1) := by decide +kernel
theorem dX7_counts_72 : decode cX7_counts 72 = .ok (.iaload, 1) := by decide +kernel
theorem dX7_counts_73 : decode cX7_counts 73 = .ok (.aload_n 0, 1) := by decide +kernel
theorem dX7_counts_74 : decode cX7_counts 74 = .ok (.getfield 63, 3) := by decide +kernel
theorem dX7_counts_77 : decode cX7_counts 77 = .ok (.iload_n 1, 1) := by decide +kernel
theorem dX7_counts_78 : decode cX7_counts 78 = .ok (.iaload, 1) := by decide +kernel
theorem dX7_counts_79 : decode cX7_counts 79 = .ok (.if_icmp .ne 7, 3) := by decide +kernel
theorem dX7_counts_82 : decode cX7_counts 82 = .ok (.iconst 1, 1) := by decide +kernel
theorem dX7_counts_83 : decode cX7_counts 83 = .ok (.goto 4, 3) := by decide +kernel
theorem dX7_counts_86 : decode cX7_counts 86 = .ok (.iconst 0, 1) := by decide +kernel
theorem dX7_counts_87 : decode cX7_counts 87 = .ok (.istore 4, 2) := by decide +kernel
theorem dX7_counts_89 : decode cX7_counts 89 = .ok (.aload_n 0, 1) := by decide +kernel
theorem dX7_counts_90 : decode cX7_counts 90 = .ok (.getfield 60, 3) := by decide +kernel
theorem dX7_counts_93 : decode cX7_counts 93 = .ok (.iload_n 3, 1) := by decide +kernel
theorem dX7_counts_94 : decode cX7_counts 94 = .ok (.iaload, 1) := by decide +kernel
theorem dX7_counts_95 : decode cX7_counts 95 = .ok (.aload_n 0, 1) := by decide +kernel
theorem dX7_counts_96 : decode cX7_counts 96 = .ok (.getfield 72, 3) := by decide +kernel
theorem dX7_counts_99 : decode cX7_counts 99 = .ok (.iload_n 1, 1) := by decide +kernel
theorem dX7_counts_100 : decode cX7_counts 100 = .ok (.iaload, 1) := by decide +kernel
theorem dX7_counts_101 : decode cX7_counts 101 = .ok (.if_icmp .eq 23, 3) := by decide +kernel
theorem dX7_counts_104 : decode cX7_counts 104 = .ok (.aload_n 0, 1) := by decide +kernel
theorem dX7_counts_105 : decode cX7_counts 105 = .ok (.getfield 60, 3) := by decide +kernel
theorem dX7_counts_108 : decode cX7_counts 108 = .ok (.iload_n 3, 1) := by decide +kernel
theorem dX7_counts_109 : decode cX7_counts 109 = .ok (.iaload, 1) := by decide +kernel
theorem dX7_counts_110 : decode cX7_counts 110 = .ok (.aload_n 0, 1) := by decide +kernel
theorem dX7_counts_111 : decode cX7_counts 111 = .ok (.getfield 72, 3) := by decide +kernel
theorem dX7_counts_114 : decode cX7_counts 114 = .ok (.aload_n 0, 1) := by decide +kernel
theorem dX7_counts_115 : decode cX7_counts 115 = .ok (.getfield 75, 3) := by decide +kernel
theorem dX7_counts_118 : decode cX7_counts 118 = .ok (.iload_n 1, 1) := by decide +kernel
theorem dX7_counts_119 : decode cX7_counts 119 = .ok (.iaload, 1) := by decide +kernel
theorem dX7_counts_120 : decode cX7_counts 120 = .ok (.iaload, 1) := by decide +kernel
theorem dX7_counts_121 : decode cX7_counts 121 = .ok (.if_icmp .ne 7, 3) := by decide +kernel
theorem dX7_counts_124 : decode cX7_counts 124 = .ok (.iconst 1, 1) := by decide +kernel
theorem dX7_counts_125 : decode cX7_counts 125 = .ok (.goto 4, 3) := by decide +kernel
theorem dX7_counts_128 : decode cX7_counts 128 = .ok (.iconst 0, 1) := by decide +kernel
theorem dX7_counts_129 : decode cX7_counts 129 = .ok (.istore 5, 2) := by decide +kernel
theorem dX7_counts_131 : decode cX7_counts 131 = .ok (.iload_n 2, 1) := by decide +kernel
theorem dX7_counts_132 : decode cX7_counts 132 = .ok (.ifCond .ne 28, 3) := by decide +kernel
theorem dX7_counts_135 : decode cX7_counts 135 = .ok (.iload 4, 2) := by decide +kernel
theorem dX7_counts_137 : decode cX7_counts 137 = .ok (.ifCond .eq 27, 3) := by decide +kernel
theorem dX7_counts_140 : decode cX7_counts 140 = .ok (.iload 5, 2) := by decide +kernel
theorem dX7_counts_142 : decode cX7_counts 142 = .ok (.ifCond .eq 22, 3) := by decide +kernel
theorem dX7_counts_145 : decode cX7_counts 145 = .ok (.aload_n 0, 1) := by decide +kernel
theorem dX7_counts_146 : decode cX7_counts 146 = .ok (.getfield 54, 3) := by decide +kernel
theorem dX7_counts_149 : decode cX7_counts 149 = .ok (.iload_n 3, 1) := by decide +kernel
theorem dX7_counts_150 : decode cX7_counts 150 = .ok (.iaload, 1) := by decide +kernel
theorem dX7_counts_151 : decode cX7_counts 151 = .ok (.aload_n 0, 1) := by decide +kernel
theorem dX7_counts_152 : decode cX7_counts 152 = .ok (.getfield 69, 3) := by decide +kernel
theorem dX7_counts_155 : decode cX7_counts 155 = .ok (.iload_n 1, 1) := by decide +kernel
theorem dX7_counts_156 : decode cX7_counts 156 = .ok (.iaload, 1) := by decide +kernel
theorem dX7_counts_157 : decode cX7_counts 157 = .ok (.if_icmp .ne 7, 3) := by decide +kernel
theorem dX7_counts_160 : decode cX7_counts 160 = .ok (.iconst 1, 1) := by decide +kernel
theorem dX7_counts_161 : decode cX7_counts 161 = .ok (.goto 4, 3) := by decide +kernel
theorem dX7_counts_164 : decode cX7_counts 164 = .ok (.iconst 0, 1) := by decide +kernel
theorem dX7_counts_165 : decode cX7_counts 165 = .ok (.istore_n 2, 1) := by decide +kernel
theorem dX7_counts_166 : decode cX7_counts 166 = .ok (.iinc 3 1, 3) := by decide +kernel
theorem dX7_counts_169 : decode cX7_counts 169 = .ok (.goto (-165), 3) := by decide +kernel
theorem dX7_counts_172 : decode cX7_counts 172 = .ok (.iload_n 2, 1) := by decide +kernel
theorem dX7_counts_173 : decode cX7_counts 173 = .ok (.ireturn, 1) := by decide +kernel
theorem dX7_entryOf_0 : decode cX7_entryOf 0 = .ok (.iload_n 1, 1) := by decide +kernel
theorem dX7_entryOf_1 : decode cX7_entryOf 1 = .ok (.iconst 0, 1) := by decide +kernel
theorem dX7_entryOf_2 : decode cX7_entryOf 2 = .ok (.aload_n 0, 1) := by decide +kernel
theorem dX7_entryOf_3 : decode cX7_entryOf 3 = .ok (.getfield 187, 3) := by decide +kernel
theorem dX7_entryOf_6 : decode cX7_entryOf 6 = .ok (.iconst 1, 1) := by decide +kernel
theorem dX7_entryOf_7 : decode cX7_entryOf 7 = .ok (.isub, 1) := by decide +kernel
theorem dX7_entryOf_8 : decode cX7_entryOf 8 = .ok (.invokestatic 81, 3) := by decide +kernel
theorem dX7_entryOf_11 : decode cX7_entryOf 11 = .ok (.istore_n 3, 1) := by decide +kernel
theorem dX7_entryOf_12 : decode cX7_entryOf 12 = .ok (.aload_n 0, 1) := by decide +kernel
theorem dX7_entryOf_13 : decode cX7_entryOf 13 = .ok (.iload_n 3, 1) := by decide +kernel
theorem dX7_entryOf_14 : decode cX7_entryOf 14 = .ok (.ifCond .ne 7, 3) := by decide +kernel
theorem dX7_entryOf_17 : decode cX7_entryOf 17 = .ok (.iconst 1, 1) := by decide +kernel
theorem dX7_entryOf_18 : decode cX7_entryOf 18 = .ok (.goto 17, 3) := by decide +kernel
theorem dX7_entryOf_21 : decode cX7_entryOf 21 = .ok (.iload_n 2, 1) := by decide +kernel
theorem dX7_entryOf_22 : decode cX7_entryOf 22 = .ok (.iconst 0, 1) := by decide +kernel
theorem dX7_entryOf_23 : decode cX7_entryOf 23 = .ok (.iconst 5, 1) := by decide +kernel
theorem dX7_entryOf_24 : decode cX7_entryOf 24 = .ok (.invokestatic 81, 3) := by decide +kernel
theorem dX7_entryOf_27 : decode cX7_entryOf 27 = .ok (.ifCond .eq 7, 3) := by decide +kernel
theorem dX7_entryOf_30 : decode cX7_entryOf 30 = .ok (.iconst 0, 1) := by decide +kernel
theorem dX7_entryOf_31 : decode cX7_entryOf 31 = .ok (.goto 4, 3) := by decide +kernel
theorem dX7_entryOf_34 : decode cX7_entryOf 34 = .ok (.iconst 2, 1) := by decide +kernel
theorem dX7_entryOf_35 : decode cX7_entryOf 35 = .ok (.invokevirtual 88, 3) := by decide +kernel
theorem dX7_entryOf_38 : decode cX7_entryOf 38 = .ok (.ifCond .ne 5, 3) := by decide +kernel
theorem dX7_entryOf_41 : decode cX7_entryOf 41 = .ok (.iconst 0, 1) := by decide +kernel
theorem dX7_entryOf_42 : decode cX7_entryOf 42 = .ok (.ireturn, 1) := by decide +kernel
theorem dX7_entryOf_43 : decode cX7_entryOf 43 = .ok (.iload_n 2, 1) := by decide +kernel
theorem dX7_entryOf_44 : decode cX7_entryOf 44 = .ok (.tableswitch 71 0 4 #[36, 43, 50, 57, 64], 36) := by decide +kernel
theorem dX7_entryOf_80 : decode cX7_entryOf 80 = .ok (.aload_n 0, 1) := by decide +kernel
theorem dX7_entryOf_81 : decode cX7_entryOf 81 = .ok (.getfield 63, 3) := by decide +kernel
theorem dX7_entryOf_84 : decode cX7_entryOf 84 = .ok (.iload_n 1, 1) := by decide +kernel
theorem dX7_entryOf_85 : decode cX7_entryOf 85 = .ok (.iaload, 1) := by decide +kernel
theorem dX7_entryOf_86 : decode cX7_entryOf 86 = .ok (.ireturn, 1) := by decide +kernel
theorem dX7_entryOf_87 : decode cX7_entryOf 87 = .ok (.aload_n 0, 1) := by decide +kernel
theorem dX7_entryOf_88 : decode cX7_entryOf 88 = .ok (.getfield 66, 3) := by decide +kernel
theorem dX7_entryOf_91 : decode cX7_entryOf 91 = .ok (.iload_n 1, 1) := by decide +kernel
theorem dX7_entryOf_92 : decode cX7_entryOf 92 = .ok (.iaload, 1) := by decide +kernel
theorem dX7_entryOf_93 : decode cX7_entryOf 93 = .ok (.ireturn, 1) := by decide +kernel
theorem dX7_entryOf_94 : decode cX7_entryOf 94 = .ok (.aload_n 0, 1) := by decide +kernel
theorem dX7_entryOf_95 : decode cX7_entryOf 95 = .ok (.getfield 69, 3) := by decide +kernel
theorem dX7_entryOf_98 : decode cX7_entryOf 98 = .ok (.iload_n 1, 1) := by decide +kernel
theorem dX7_entryOf_99 : decode cX7_entryOf 99 = .ok (.iaload, 1) := by decide +kernel
theorem dX7_entryOf_100 : decode cX7_entryOf 100 = .ok (.ireturn, 1) := by decide +kernel
theorem dX7_entryOf_101 : decode cX7_entryOf 101 = .ok (.aload_n 0, 1) := by decide +kernel
theorem dX7_entryOf_102 : decode cX7_entryOf 102 = .ok (.getfield 72, 3) := by decide +kernel
theorem dX7_entryOf_105 : decode cX7_entryOf 105 = .ok (.iload_n 1, 1) := by decide +kernel
theorem dX7_entryOf_106 : decode cX7_entryOf 106 = .ok (.iaload, 1) := by decide +kernel
theorem dX7_entryOf_107 : decode cX7_entryOf 107 = .ok (.ireturn, 1) := by decide +kernel
theorem dX7_entryOf_108 : decode cX7_entryOf 108 = .ok (.aload_n 0, 1) := by decide +kernel
theorem dX7_entryOf_109 : decode cX7_entryOf 109 = .ok (.getfield 75, 3) := by decide +kernel
theorem dX7_entryOf_112 : decode cX7_entryOf 112 = .ok (.iload_n 1, 1) := by decide +kernel
theorem dX7_entryOf_113 : decode cX7_entryOf 113 = .ok (.iaload, 1) := by decide +kernel
theorem dX7_entryOf_114 : decode cX7_entryOf 114 = .ok (.ireturn, 1) := by decide +kernel
theorem dX7_entryOf_115 : decode cX7_entryOf 115 = .ok (.aload_n 0, 1) := by decide +kernel
theorem dX7_entryOf_116 : decode cX7_entryOf 116 = .ok (.iload_n 1, 1) := by decide +kernel
theorem dX7_entryOf_117 : decode cX7_entryOf 117 = .ok (.invokevirtual 196, 3) := by decide +kernel
theorem dX7_entryOf_120 : decode cX7_entryOf 120 = .ok (.ifCond .eq 7, 3) := by decide +kernel
theorem dX7_entryOf_123 : decode cX7_entryOf 123 = .ok (.iconst 1, 1) := by decide +kernel
theorem dX7_entryOf_124 : decode cX7_entryOf 124 = .ok (.goto 4, 3) := by decide +kernel
theorem dX7_entryOf_127 : decode cX7_entryOf 127 = .ok (.iconst 0, 1) := by decide +kernel
theorem dX7_entryOf_128 : decode cX7_entryOf 128 = .ok (.ireturn, 1) := by decide +kernel
theorem dX7_score_0 : decode cX7_score 0 = .ok (.aload_n 0, 1) := by decide +kernel
theorem dX7_score_1 : decode cX7_score 1 = .ok (.aload_n 0, 1) := by decide +kernel
theorem dX7_score_2 : decode cX7_score 2 = .ok (.iload_n 1, 1) := by decide +kernel
theorem dX7_score_3 : decode cX7_score 3 = .ok (.invokevirtual 177, 3) := by decide +kernel
theorem dX7_score_6 : decode cX7_score 6 = .ok (.ifCond .eq 7, 3) := by decide +kernel
theorem dX7_score_9 : decode cX7_score 9 = .ok (.iconst 0, 1) := by decide +kernel
theorem dX7_score_10 : decode cX7_score 10 = .ok (.goto 4, 3) := by decide +kernel
theorem dX7_score_13 : decode cX7_score 13 = .ok (.iconst 1, 1) := by decide +kernel
theorem dX7_score_14 : decode cX7_score 14 = .ok (.invokevirtual 88, 3) := by decide +kernel
theorem dX7_score_17 : decode cX7_score 17 = .ok (.ifCond .ne 5, 3) := by decide +kernel
theorem dX7_score_20 : decode cX7_score 20 = .ok (.iconst 0, 1) := by decide +kernel
theorem dX7_score_21 : decode cX7_score 21 = .ok (.ireturn, 1) := by decide +kernel
theorem dX7_score_22 : decode cX7_score 22 = .ok (.iconst 0, 1) := by decide +kernel
theorem dX7_score_23 : decode cX7_score 23 = .ok (.istore_n 2, 1) := by decide +kernel
theorem dX7_score_24 : decode cX7_score 24 = .ok (.iconst 0, 1) := by decide +kernel
theorem dX7_score_25 : decode cX7_score 25 = .ok (.istore_n 3, 1) := by decide +kernel
theorem dX7_score_26 : decode cX7_score 26 = .ok (.iconst 0, 1) := by decide +kernel
theorem dX7_score_27 : decode cX7_score 27 = .ok (.istore 4, 2) := by decide +kernel
theorem dX7_score_29 : decode cX7_score 29 = .ok (.iconst 0, 1) := by decide +kernel
theorem dX7_score_30 : decode cX7_score 30 = .ok (.istore 5, 2) := by decide +kernel
theorem dX7_score_32 : decode cX7_score 32 = .ok (.iload 5, 2) := by decide +kernel
theorem dX7_score_34 : decode cX7_score 34 = .ok (.aload_n 0, 1) := by decide +kernel
theorem dX7_score_35 : decode cX7_score 35 = .ok (.getfield 187, 3) := by decide +kernel
theorem dX7_score_38 : decode cX7_score 38 = .ok (.if_icmp .ge 126, 3) := by decide +kernel
theorem dX7_score_41 : decode cX7_score 41 = .ok (.aload_n 0, 1) := by decide +kernel
theorem dX7_score_42 : decode cX7_score 42 = .ok (.getfield 63, 3) := by decide +kernel
theorem dX7_score_45 : decode cX7_score 45 = .ok (.iload 5, 2) := by decide +kernel
theorem dX7_score_47 : decode cX7_score 47 = .ok (.iaload, 1) := by decide +kernel
theorem dX7_score_48 : decode cX7_score 48 = .ok (.iload_n 1, 1) := by decide +kernel
theorem dX7_score_49 : decode cX7_score 49 = .ok (.if_icmp .ne 61, 3) := by decide +kernel
theorem dX7_score_52 : decode cX7_score 52 = .ok (.aload_n 0, 1) := by decide +kernel
theorem dX7_score_53 : decode cX7_score 53 = .ok (.iload 5, 2) := by decide +kernel
theorem dX7_score_55 : decode cX7_score 55 = .ok (.invokevirtual 196, 3) := by decide +kernel
theorem dX7_score_58 : decode cX7_score 58 = .ok (.ifCond .eq 52, 3) := by decide +kernel
theorem dX7_score_61 : decode cX7_score 61 = .ok (.iload_n 2, 1) := by decide +kernel
theorem dX7_score_62 : decode cX7_score 62 = .ok (.iconst 1, 1) := by decide +kernel
theorem dX7_score_63 : decode cX7_score 63 = .ok (.aload_n 0, 1) := by decide +kernel
theorem dX7_score_64 : decode cX7_score 64 = .ok (.getfield 27, 3) := by decide +kernel
theorem dX7_score_67 : decode cX7_score 67 = .ok (.iload_n 1, 1) := by decide +kernel
theorem dX7_score_68 : decode cX7_score 68 = .ok (.iaload, 1) := by decide +kernel
theorem dX7_score_69 : decode cX7_score 69 = .ok (.aload_n 0, 1) := by decide +kernel
theorem dX7_score_70 : decode cX7_score 70 = .ok (.getfield 27, 3) := by decide +kernel
theorem dX7_score_73 : decode cX7_score 73 = .ok (.aload_n 0, 1) := by decide +kernel
theorem dX7_score_74 : decode cX7_score 74 = .ok (.getfield 66, 3) := by decide +kernel
theorem dX7_score_77 : decode cX7_score 77 = .ok (.iload 5, 2) := by decide +kernel
theorem dX7_score_79 : decode cX7_score 79 = .ok (.iaload, 1) := by decide +kernel
theorem dX7_score_80 : decode cX7_score 80 = .ok (.iaload, 1) := by decide +kernel
theorem dX7_score_81 : decode cX7_score 81 = .ok (.invokestatic 199, 3) := by decide +kernel
theorem dX7_score_84 : decode cX7_score 84 = .ok (.bipush 6, 2) := by decide +kernel
theorem dX7_score_86 : decode cX7_score 86 = .ok (.idiv, 1) := by decide +kernel
theorem dX7_score_87 : decode cX7_score 87 = .ok (.iadd, 1) := by decide +kernel
theorem dX7_score_88 : decode cX7_score 88 = .ok (.iadd, 1) := by decide +kernel
theorem dX7_score_89 : decode cX7_score 89 = .ok (.istore_n 2, 1) := by decide +kernel
theorem dX7_score_90 : decode cX7_score 90 = .ok (.iload_n 3, 1) := by decide +kernel
theorem dX7_score_91 : decode cX7_score 91 = .ok (.iconst 1, 1) := by decide +kernel
theorem dX7_score_92 : decode cX7_score 92 = .ok (.aload_n 0, 1) := by decide +kernel
theorem dX7_score_93 : decode cX7_score 93 = .ok (.getfield 27, 3) := by decide +kernel
theorem dX7_score_96 : decode cX7_score 96 = .ok (.aload_n 0, 1) := by decide +kernel
theorem dX7_score_97 : decode cX7_score 97 = .ok (.getfield 66, 3) := by decide +kernel
theorem dX7_score_100 : decode cX7_score 100 = .ok (.iload 5, 2) := by decide +kernel
theorem dX7_score_102 : decode cX7_score 102 = .ok (.iaload, 1) := by decide +kernel
theorem dX7_score_103 : decode cX7_score 103 = .ok (.iaload, 1) := by decide +kernel
theorem dX7_score_104 : decode cX7_score 104 = .ok (.bipush 6, 2) := by decide +kernel
theorem dX7_score_106 : decode cX7_score 106 = .ok (.idiv, 1) := by decide +kernel
theorem dX7_score_107 : decode cX7_score 107 = .ok (.ishl, 1) := by decide +kernel
theorem dX7_score_108 : decode cX7_score 108 = .ok (.ior, 1) := by decide +kernel
theorem dX7_score_109 : decode cX7_score 109 = .ok (.istore_n 3, 1) := by decide +kernel
theorem dX7_score_110 : decode cX7_score 110 = .ok (.iload 4, 2) := by decide +kernel
theorem dX7_score_112 : decode cX7_score 112 = .ok (.aload_n 0, 1) := by decide +kernel
theorem dX7_score_113 : decode cX7_score 113 = .ok (.getfield 63, 3) := by decide +kernel
theorem dX7_score_116 : decode cX7_score 116 = .ok (.iload 5, 2) := by decide +kernel
theorem dX7_score_118 : decode cX7_score 118 = .ok (.iaload, 1) := by decide +kernel
theorem dX7_score_119 : decode cX7_score 119 = .ok (.iload_n 1, 1) := by decide +kernel
theorem dX7_score_120 : decode cX7_score 120 = .ok (.if_icmp .ne 34, 3) := by decide +kernel
theorem dX7_score_123 : decode cX7_score 123 = .ok (.aload_n 0, 1) := by decide +kernel
theorem dX7_score_124 : decode cX7_score 124 = .ok (.getfield 75, 3) := by decide +kernel
theorem dX7_score_127 : decode cX7_score 127 = .ok (.iload 5, 2) := by decide +kernel
theorem dX7_score_129 : decode cX7_score 129 = .ok (.iaload, 1) := by decide +kernel
theorem dX7_score_130 : decode cX7_score 130 = .ok (.iconst (-1), 1) := by decide +kernel
theorem dX7_score_131 : decode cX7_score 131 = .ok (.if_icmp .ne 23, 3) := by decide +kernel
theorem dX7_score_134 : decode cX7_score 134 = .ok (.aload_n 0, 1) := by decide +kernel
theorem dX7_score_135 : decode cX7_score 135 = .ok (.getfield 104, 3) := by decide +kernel
theorem dX7_score_138 : decode cX7_score 138 = .ok (.aload_n 0, 1) := by decide +kernel
theorem dX7_score_139 : decode cX7_score 139 = .ok (.getfield 72, 3) := by decide +kernel
theorem dX7_score_142 : decode cX7_score 142 = .ok (.iload 5, 2) := by decide +kernel
theorem dX7_score_144 : decode cX7_score 144 = .ok (.iaload, 1) := by decide +kernel
theorem dX7_score_145 : decode cX7_score 145 = .ok (.isub, 1) := by decide +kernel
theorem dX7_score_146 : decode cX7_score 146 = .ok (.iconst 2, 1) := by decide +kernel
theorem dX7_score_147 : decode cX7_score 147 = .ok (.if_icmp .lt 7, 3) := by decide +kernel
theorem dX7_score_150 : decode cX7_score 150 = .ok (.iconst 1, 1) := by decide +kernel
theorem dX7_score_151 : decode cX7_score 151 = .ok (.goto 4, 3) := by decide +kernel
theorem dX7_score_154 : decode cX7_score 154 = .ok (.iconst 0, 1) := by decide +kernel
theorem dX7_score_155 : decode cX7_score 155 = .ok (.iadd, 1) := by decide +kernel
theorem dX7_score_156 : decode cX7_score 156 = .ok (.istore 4, 2) := by decide +kernel
theorem dX7_score_158 : decode cX7_score 158 = .ok (.iinc 5 1, 3) := by decide +kernel
theorem dX7_score_161 : decode cX7_score 161 = .ok (.goto (-129), 3) := by decide +kernel
theorem dX7_score_164 : decode cX7_score 164 = .ok (.iconst 0, 1) := by decide +kernel
theorem dX7_score_165 : decode cX7_score 165 = .ok (.istore 5, 2) := by decide +kernel
theorem dX7_score_167 : decode cX7_score 167 = .ok (.iconst 0, 1) := by decide +kernel
theorem dX7_score_168 : decode cX7_score 168 = .ok (.istore 6, 2) := by decide +kernel
theorem dX7_score_170 : decode cX7_score 170 = .ok (.iload 6, 2) := by decide +kernel
theorem dX7_score_172 : decode cX7_score 172 = .ok (.bipush 8, 2) := by decide +kernel
theorem dX7_score_174 : decode cX7_score 174 = .ok (.if_icmp .ge 20, 3) := by decide +kernel
theorem dX7_score_177 : decode cX7_score 177 = .ok (.iload 5, 2) := by decide +kernel
theorem dX7_score_179 : decode cX7_score 179 = .ok (.iload_n 3, 1) := by decide +kernel
theorem dX7_score_180 : decode cX7_score 180 = .ok (.iload 6, 2) := by decide +kernel
theorem dX7_score_182 : decode cX7_score 182 = .ok (.ishr, 1) := by decide +kernel
theorem dX7_score_183 : decode cX7_score 183 = .ok (.iconst 1, 1) := by decide +kernel
theorem dX7_score_184 : decode cX7_score 184 = .ok (.iand, 1) := by decide +kernel
theorem dX7_score_185 : decode cX7_score 185 = .ok (.iadd, 1) := by decide +kernel
theorem dX7_score_186 : decode cX7_score 186 = .ok (.istore 5, 2) := by decide +kernel
theorem dX7_score_188 : decode cX7_score 188 = .ok (.iinc 6 1, 3) := by decide +kernel
theorem dX7_score_191 : decode cX7_score 191 = .ok (.goto (-21), 3) := by decide +kernel
theorem dX7_score_194 : decode cX7_score 194 = .ok (.iload_n 2, 1) := by decide +kernel
theorem dX7_score_195 : decode cX7_score 195 = .ok (.iload 5, 2) := by decide +kernel
theorem dX7_score_197 : decode cX7_score 197 = .ok (.imul, 1) := by decide +kernel
theorem dX7_score_198 : decode cX7_score 198 = .ok (.iconst 3, 1) := by decide +kernel
theorem dX7_score_199 : decode cX7_score 199 = .ok (.iload 4, 2) := by decide +kernel
theorem dX7_score_201 : decode cX7_score 201 = .ok (.imul, 1) := by decide +kernel
theorem dX7_score_202 : decode cX7_score 202 = .ok (.isub, 1) := by decide +kernel
theorem dX7_score_203 : decode cX7_score 203 = .ok (.ireturn, 1) := by decide +kernel
theorem dX7_forecasts_0 : decode cX7_forecasts 0 = .ok (.aload_n 0, 1) := by decide +kernel
theorem dX7_forecasts_1 : decode cX7_forecasts 1 = .ok (.iconst 0, 1) := by decide +kernel
theorem dX7_forecasts_2 : decode cX7_forecasts 2 = .ok (.putfield 78, 3) := by decide +kernel
theorem dX7_forecasts_5 : decode cX7_forecasts 5 = .ok (.iload_n 1, 1) := by decide +kernel
theorem dX7_forecasts_6 : decode cX7_forecasts 6 = .ok (.ifCond .eq 10, 3) := by decide +kernel
theorem dX7_forecasts_9 : decode cX7_forecasts 9 = .ok (.aload_n 0, 1) := by decide +kernel
theorem dX7_forecasts_10 : decode cX7_forecasts 10 = .ok (.getfield 193, 3) := by decide +kernel
theorem dX7_forecasts_13 : decode cX7_forecasts 13 = .ok (.goto 7, 3) := by decide +kernel
theorem dX7_forecasts_16 : decode cX7_forecasts 16 = .ok (.aload_n 0, 1) := by decide +kernel
theorem dX7_forecasts_17 : decode cX7_forecasts 17 = .ok (.getfield 190, 3) := by decide +kernel
theorem dX7_forecasts_20 : decode cX7_forecasts 20 = .ok (.ireturn, 1) := by decide +kernel
theorem dX7_count_0 : decode cX7_count 0 = .ok (.aload_n 0, 1) := by decide +kernel
theorem dX7_count_1 : decode cX7_count 1 = .ok (.iload_n 1, 1) := by decide +kernel
theorem dX7_count_2 : decode cX7_count 2 = .ok (.iconst 0, 1) := by decide +kernel
theorem dX7_count_3 : decode cX7_count 3 = .ok (.iconst 4, 1) := by decide +kernel
theorem dX7_count_4 : decode cX7_count 4 = .ok (.invokestatic 81, 3) := by decide +kernel
theorem dX7_count_7 : decode cX7_count 7 = .ok (.ifCond .eq 7, 3) := by decide +kernel
theorem dX7_count_10 : decode cX7_count 10 = .ok (.iconst 0, 1) := by decide +kernel
theorem dX7_count_11 : decode cX7_count 11 = .ok (.goto 4, 3) := by decide +kernel
theorem dX7_count_14 : decode cX7_count 14 = .ok (.iconst 1, 1) := by decide +kernel
theorem dX7_count_15 : decode cX7_count 15 = .ok (.invokevirtual 88, 3) := by decide +kernel
theorem dX7_count_18 : decode cX7_count 18 = .ok (.ifCond .ne 5, 3) := by decide +kernel
theorem dX7_count_21 : decode cX7_count 21 = .ok (.iconst 0, 1) := by decide +kernel
theorem dX7_count_22 : decode cX7_count 22 = .ok (.ireturn, 1) := by decide +kernel
theorem dX7_count_23 : decode cX7_count 23 = .ok (.iconst 0, 1) := by decide +kernel
theorem dX7_count_24 : decode cX7_count 24 = .ok (.istore_n 2, 1) := by decide +kernel
theorem dX7_count_25 : decode cX7_count 25 = .ok (.iconst 0, 1) := by decide +kernel
theorem dX7_count_26 : decode cX7_count 26 = .ok (.istore_n 3, 1) := by decide +kernel
theorem dX7_count_27 : decode cX7_count 27 = .ok (.iload_n 3, 1) := by decide +kernel
theorem dX7_count_28 : decode cX7_count 28 = .ok (.aload_n 0, 1) := by decide +kernel
theorem dX7_count_29 : decode cX7_count 29 = .ok (.getfield 187, 3) := by decide +kernel
theorem dX7_count_32 : decode cX7_count 32 = .ok (.if_icmp .ge 27, 3) := by decide +kernel
theorem dX7_count_35 : decode cX7_count 35 = .ok (.iload_n 2, 1) := by decide +kernel
theorem dX7_count_36 : decode cX7_count 36 = .ok (.aload_n 0, 1) := by decide +kernel
theorem dX7_count_37 : decode cX7_count 37 = .ok (.getfield 75, 3) := by decide +kernel
theorem dX7_count_40 : decode cX7_count 40 = .ok (.iload_n 3, 1) := by decide +kernel
theorem dX7_count_41 : decode cX7_count 41 = .ok (.iaload, 1) := by decide +kernel
theorem dX7_count_42 : decode cX7_count 42 = .ok (.iconst (-1), 1) := by decide +kernel
theorem dX7_count_43 : decode cX7_count 43 = .ok (.if_icmp .eq 7, 3) := by decide +kernel
theorem dX7_count_46 : decode cX7_count 46 = .ok (.iconst 1, 1) := by decide +kernel
theorem dX7_count_47 : decode cX7_count 47 = .ok (.goto 4, 3) := by decide +kernel
theorem dX7_count_50 : decode cX7_count 50 = .ok (.iconst 0, 1) := by decide +kernel
theorem dX7_count_51 : decode cX7_count 51 = .ok (.iadd, 1) := by decide +kernel
theorem dX7_count_52 : decode cX7_count 52 = .ok (.istore_n 2, 1) := by decide +kernel
theorem dX7_count_53 : decode cX7_count 53 = .ok (.iinc 3 1, 3) := by decide +kernel
theorem dX7_count_56 : decode cX7_count 56 = .ok (.goto (-29), 3) := by decide +kernel
theorem dX7_count_59 : decode cX7_count 59 = .ok (.iload_n 1, 1) := by decide +kernel
theorem dX7_count_60 : decode cX7_count 60 = .ok (.ifCond .ne 10, 3) := by decide +kernel
theorem dX7_count_63 : decode cX7_count 63 = .ok (.aload_n 0, 1) := by decide +kernel
theorem dX7_count_64 : decode cX7_count 64 = .ok (.getfield 85, 3) := by decide +kernel
theorem dX7_count_67 : decode cX7_count 67 = .ok (.goto 40, 3) := by decide +kernel
theorem dX7_count_70 : decode cX7_count 70 = .ok (.iload_n 1, 1) := by decide +kernel
theorem dX7_count_71 : decode cX7_count 71 = .ok (.iconst 1, 1) := by decide +kernel
theorem dX7_count_72 : decode cX7_count 72 = .ok (.if_icmp .ne 10, 3) := by decide +kernel
theorem dX7_count_75 : decode cX7_count 75 = .ok (.aload_n 0, 1) := by decide +kernel
theorem dX7_count_76 : decode cX7_count 76 = .ok (.getfield 174, 3) := by decide +kernel
theorem dX7_count_79 : decode cX7_count 79 = .ok (.goto 28, 3) := by decide +kernel
theorem dX7_count_82 : decode cX7_count 82 = .ok (.iload_n 1, 1) := by decide +kernel
theorem dX7_count_83 : decode cX7_count 83 = .ok (.iconst 2, 1) := by decide +kernel
theorem dX7_count_84 : decode cX7_count 84 = .ok (.if_icmp .ne 10, 3) := by decide +kernel
theorem dX7_count_87 : decode cX7_count 87 = .ok (.aload_n 0, 1) := by decide +kernel
theorem dX7_count_88 : decode cX7_count 88 = .ok (.getfield 180, 3) := by decide +kernel
theorem dX7_count_91 : decode cX7_count 91 = .ok (.goto 16, 3) := by decide +kernel
theorem dX7_count_94 : decode cX7_count 94 = .ok (.iload_n 1, 1) := by decide +kernel
theorem dX7_count_95 : decode cX7_count 95 = .ok (.iconst 3, 1) := by decide +kernel
theorem dX7_count_96 : decode cX7_count 96 = .ok (.if_icmp .ne 10, 3) := by decide +kernel
theorem dX7_count_99 : decode cX7_count 99 = .ok (.aload_n 0, 1) := by decide +kernel
theorem dX7_count_100 : decode cX7_count 100 = .ok (.getfield 187, 3) := by decide +kernel
theorem dX7_count_103 : decode cX7_count 103 = .ok (.goto 4, 3) := by decide +kernel
theorem dX7_count_106 : decode cX7_count 106 = .ok (.iload_n 2, 1) := by decide +kernel
theorem dX7_count_107 : decode cX7_count 107 = .ok (.ireturn, 1) := by decide +kernel
theorem dJ6_bitCount_0f7a4_0 : decode cJ6_bitCount_0f7a4 0 = .ok (.iload_n 0, 1) := by decide +kernel
theorem dJ6_bitCount_0f7a4_1 : decode cJ6_bitCount_0f7a4 1 = .ok (.iload_n 0, 1) := by decide +kernel
theorem dJ6_bitCount_0f7a4_2 : decode cJ6_bitCount_0f7a4 2 = .ok (.iconst 1, 1) := by decide +kernel
theorem dJ6_bitCount_0f7a4_3 : decode cJ6_bitCount_0f7a4 3 = .ok (.iushr, 1) := by decide +kernel
theorem dJ6_bitCount_0f7a4_4 : decode cJ6_bitCount_0f7a4 4 = .ok (.ldc_w 265, 3) := by decide +kernel
theorem dJ6_bitCount_0f7a4_7 : decode cJ6_bitCount_0f7a4 7 = .ok (.iand, 1) := by decide +kernel
theorem dJ6_bitCount_0f7a4_8 : decode cJ6_bitCount_0f7a4 8 = .ok (.isub, 1) := by decide +kernel
theorem dJ6_bitCount_0f7a4_9 : decode cJ6_bitCount_0f7a4 9 = .ok (.istore_n 0, 1) := by decide +kernel
theorem dJ6_bitCount_0f7a4_10 : decode cJ6_bitCount_0f7a4 10 = .ok (.iload_n 0, 1) := by decide +kernel
theorem dJ6_bitCount_0f7a4_11 : decode cJ6_bitCount_0f7a4 11 = .ok (.ldc_w 266, 3) := by decide +kernel
theorem dJ6_bitCount_0f7a4_14 : decode cJ6_bitCount_0f7a4 14 = .ok (.iand, 1) := by decide +kernel
theorem dJ6_bitCount_0f7a4_15 : decode cJ6_bitCount_0f7a4 15 = .ok (.iload_n 0, 1) := by decide +kernel
theorem dJ6_bitCount_0f7a4_16 : decode cJ6_bitCount_0f7a4 16 = .ok (.iconst 2, 1) := by decide +kernel
theorem dJ6_bitCount_0f7a4_17 : decode cJ6_bitCount_0f7a4 17 = .ok (.iushr, 1) := by decide +kernel
theorem dJ6_bitCount_0f7a4_18 : decode cJ6_bitCount_0f7a4 18 = .ok (.ldc_w 266, 3) := by decide +kernel
theorem dJ6_bitCount_0f7a4_21 : decode cJ6_bitCount_0f7a4 21 = .ok (.iand, 1) := by decide +kernel
theorem dJ6_bitCount_0f7a4_22 : decode cJ6_bitCount_0f7a4 22 = .ok (.iadd, 1) := by decide +kernel
theorem dJ6_bitCount_0f7a4_23 : decode cJ6_bitCount_0f7a4 23 = .ok (.istore_n 0, 1) := by decide +kernel
theorem dJ6_bitCount_0f7a4_24 : decode cJ6_bitCount_0f7a4 24 = .ok (.iload_n 0, 1) := by decide +kernel
theorem dJ6_bitCount_0f7a4_25 : decode cJ6_bitCount_0f7a4 25 = .ok (.iload_n 0, 1) := by decide +kernel
theorem dJ6_bitCount_0f7a4_26 : decode cJ6_bitCount_0f7a4 26 = .ok (.iconst 4, 1) := by decide +kernel
theorem dJ6_bitCount_0f7a4_27 : decode cJ6_bitCount_0f7a4 27 = .ok (.iushr, 1) := by decide +kernel
theorem dJ6_bitCount_0f7a4_28 : decode cJ6_bitCount_0f7a4 28 = .ok (.iadd, 1) := by decide +kernel
theorem dJ6_bitCount_0f7a4_29 : decode cJ6_bitCount_0f7a4 29 = .ok (.ldc_w 267, 3) := by decide +kernel
theorem dJ6_bitCount_0f7a4_32 : decode cJ6_bitCount_0f7a4 32 = .ok (.iand, 1) := by decide +kernel
theorem dJ6_bitCount_0f7a4_33 : decode cJ6_bitCount_0f7a4 33 = .ok (.istore_n 0, 1) := by decide +kernel
theorem dJ6_bitCount_0f7a4_34 : decode cJ6_bitCount_0f7a4 34 = .ok (.iload_n 0, 1) := by decide +kernel
theorem dJ6_bitCount_0f7a4_35 : decode cJ6_bitCount_0f7a4 35 = .ok (.iload_n 0, 1) := by decide +kernel
theorem dJ6_bitCount_0f7a4_36 : decode cJ6_bitCount_0f7a4 36 = .ok (.bipush 8, 2) := by decide +kernel
theorem dJ6_bitCount_0f7a4_38 : decode cJ6_bitCount_0f7a4 38 = .ok (.iushr, 1) := by decide +kernel
theorem dJ6_bitCount_0f7a4_39 : decode cJ6_bitCount_0f7a4 39 = .ok (.iadd, 1) := by decide +kernel
theorem dJ6_bitCount_0f7a4_40 : decode cJ6_bitCount_0f7a4 40 = .ok (.istore_n 0, 1) := by decide +kernel
theorem dJ6_bitCount_0f7a4_41 : decode cJ6_bitCount_0f7a4 41 = .ok (.iload_n 0, 1) := by decide +kernel
theorem dJ6_bitCount_0f7a4_42 : decode cJ6_bitCount_0f7a4 42 = .ok (.iload_n 0, 1) := by decide +kernel
theorem dJ6_bitCount_0f7a4_43 : decode cJ6_bitCount_0f7a4 43 = .ok (.bipush 16, 2) := by decide +kernel
theorem dJ6_bitCount_0f7a4_45 : decode cJ6_bitCount_0f7a4 45 = .ok (.iushr, 1) := by decide +kernel
theorem dJ6_bitCount_0f7a4_46 : decode cJ6_bitCount_0f7a4 46 = .ok (.iadd, 1) := by decide +kernel
theorem dJ6_bitCount_0f7a4_47 : decode cJ6_bitCount_0f7a4 47 = .ok (.istore_n 0, 1) := by decide +kernel
theorem dJ6_bitCount_0f7a4_48 : decode cJ6_bitCount_0f7a4 48 = .ok (.iload_n 0, 1) := by decide +kernel
theorem dJ6_bitCount_0f7a4_49 : decode cJ6_bitCount_0f7a4 49 = .ok (.bipush 63, 2) := by decide +kernel
theorem dJ6_bitCount_0f7a4_51 : decode cJ6_bitCount_0f7a4 51 = .ok (.iand, 1) := by decide +kernel
theorem dJ6_bitCount_0f7a4_52 : decode cJ6_bitCount_0f7a4 52 = .ok (.ireturn, 1) := by decide +kernel
theorem dJ9_abs_0f7a4_0 : decode cJ9_abs_0f7a4 0 = .ok (.iload_n 0, 1) := by decide +kernel
theorem dJ9_abs_0f7a4_1 : decode cJ9_abs_0f7a4 1 = .ok (.ifCond .ge 8, 3) := by decide +kernel
theorem dJ9_abs_0f7a4_4 : decode cJ9_abs_0f7a4 4 = .ok (.iload_n 0, 1) := by decide +kernel
theorem dJ9_abs_0f7a4_5 : decode cJ9_abs_0f7a4 5 = .ok (.ineg, 1) := by decide +kernel
theorem dJ9_abs_0f7a4_6 : decode cJ9_abs_0f7a4 6 = .ok (.goto 4, 3) := by decide +kernel
theorem dJ9_abs_0f7a4_9 : decode cJ9_abs_0f7a4 9 = .ok (.iload_n 0, 1) := by decide +kernel
theorem dJ9_abs_0f7a4_10 : decode cJ9_abs_0f7a4 10 = .ok (.ireturn, 1) := by decide +kernel
theorem dJ9_max_7cf53_0 : decode cJ9_max_7cf53 0 = .ok (.iload_n 0, 1) := by decide +kernel
theorem dJ9_max_7cf53_1 : decode cJ9_max_7cf53 1 = .ok (.iload_n 1, 1) := by decide +kernel
theorem dJ9_max_7cf53_2 : decode cJ9_max_7cf53 2 = .ok (.if_icmp .lt 7, 3) := by decide +kernel
theorem dJ9_max_7cf53_5 : decode cJ9_max_7cf53 5 = .ok (.iload_n 0, 1) := by decide +kernel
theorem dJ9_max_7cf53_6 : decode cJ9_max_7cf53 6 = .ok (.goto 4, 3) := by decide +kernel
theorem dJ9_max_7cf53_9 : decode cJ9_max_7cf53 9 = .ok (.iload_n 1, 1) := by decide +kernel
theorem dJ9_max_7cf53_10 : decode cJ9_max_7cf53 10 = .ok (.ireturn, 1) := by decide +kernel
theorem dJ9_min_7cf53_0 : decode cJ9_min_7cf53 0 = .ok (.iload_n 0, 1) := by decide +kernel
theorem dJ9_min_7cf53_1 : decode cJ9_min_7cf53 1 = .ok (.iload_n 1, 1) := by decide +kernel
theorem dJ9_min_7cf53_2 : decode cJ9_min_7cf53 2 = .ok (.if_icmp .gt 7, 3) := by decide +kernel
theorem dJ9_min_7cf53_5 : decode cJ9_min_7cf53 5 = .ok (.iload_n 0, 1) := by decide +kernel
theorem dJ9_min_7cf53_6 : decode cJ9_min_7cf53 6 = .ok (.goto 4, 3) := by decide +kernel
theorem dJ9_min_7cf53_9 : decode cJ9_min_7cf53 9 = .ok (.iload_n 1, 1) := by decide +kernel
theorem dJ9_min_7cf53_10 : decode cJ9_min_7cf53 10 = .ok (.ireturn, 1) := by decide +kernel
theorem dL_sun_0 : decode cL_sun 0 = .ok (.aload_n 2, 1) := by decide +kernel
theorem dL_sun_1 : decode cL_sun 1 = .ok (.iconst 0, 1) := by decide +kernel
theorem dL_sun_2 : decode cL_sun 2 = .ok (.aload_n 0, 1) := by decide +kernel
theorem dL_sun_3 : decode cL_sun 3 = .ok (.iload_n 1, 1) := by decide +kernel
theorem dL_sun_4 : decode cL_sun 4 = .ok (.invokevirtual 7, 3) := by decide +kernel
theorem dL_sun_7 : decode cL_sun 7 = .ok (.i2l, 1) := by decide +kernel
theorem dL_sun_8 : decode cL_sun 8 = .ok (.lastore, 1) := by decide +kernel
theorem dL_sun_9 : decode cL_sun 9 = .ok (.goto 6, 3) := by decide +kernel
theorem dL_sun_12 : decode cL_sun 12 = .ok (.astore_n 3, 1) := by decide +kernel
theorem dL_sun_13 : decode cL_sun 13 = .ok (.iconst 1, 1) := by decide +kernel
theorem dL_sun_14 : decode cL_sun 14 = .ok (.ireturn, 1) := by decide +kernel
theorem dL_sun_15 : decode cL_sun 15 = .ok (.iconst 0, 1) := by decide +kernel
theorem dL_sun_16 : decode cL_sun 16 = .ok (.ireturn, 1) := by decide +kernel
theorem dL_storm_0 : decode cL_storm 0 = .ok (.aload_n 0, 1) := by decide +kernel
theorem dL_storm_1 : decode cL_storm 1 = .ok (.iload_n 1, 1) := by decide +kernel
theorem dL_storm_2 : decode cL_storm 2 = .ok (.iload_n 2, 1) := by decide +kernel
theorem dL_storm_3 : decode cL_storm 3 = .ok (.invokevirtual 15, 3) := by decide +kernel
theorem dL_storm_6 : decode cL_storm 6 = .ok (.goto 6, 3) := by decide +kernel
theorem dL_storm_9 : decode cL_storm 9 = .ok (.astore_n 3, 1) := by decide +kernel
theorem dL_storm_10 : decode cL_storm 10 = .ok (.iconst 1, 1) := by decide +kernel
theorem dL_storm_11 : decode cL_storm 11 = .ok (.ireturn, 1) := by decide +kernel
theorem dL_storm_12 : decode cL_storm 12 = .ok (.iconst 0, 1) := by decide +kernel
theorem dL_storm_13 : decode cL_storm 13 = .ok (.ireturn, 1) := by decide +kernel
theorem dL_flare_0 : decode cL_flare 0 = .ok (.aload_n 2, 1) := by decide +kernel
theorem dL_flare_1 : decode cL_flare 1 = .ok (.iconst 0, 1) := by decide +kernel
theorem dL_flare_2 : decode cL_flare 2 = .ok (.aload_n 0, 1) := by decide +kernel
theorem dL_flare_3 : decode cL_flare 3 = .ok (.iload_n 1, 1) := by decide +kernel
theorem dL_flare_4 : decode cL_flare 4 = .ok (.invokevirtual 19, 3) := by decide +kernel
theorem dL_flare_7 : decode cL_flare 7 = .ok (.i2l, 1) := by decide +kernel
theorem dL_flare_8 : decode cL_flare 8 = .ok (.lastore, 1) := by decide +kernel
theorem dL_flare_9 : decode cL_flare 9 = .ok (.goto 6, 3) := by decide +kernel
theorem dL_flare_12 : decode cL_flare 12 = .ok (.astore_n 3, 1) := by decide +kernel
theorem dL_flare_13 : decode cL_flare 13 = .ok (.iconst 1, 1) := by decide +kernel
theorem dL_flare_14 : decode cL_flare 14 = .ok (.ireturn, 1) := by decide +kernel
theorem dL_flare_15 : decode cL_flare 15 = .ok (.iconst 0, 1) := by decide +kernel
theorem dL_flare_16 : decode cL_flare 16 = .ok (.ireturn, 1) := by decide +kernel
theorem dL_cloud_0 : decode cL_cloud 0 = .ok (.aload_n 0, 1) := by decide +kernel
theorem dL_cloud_1 : decode cL_cloud 1 = .ok (.iload_n 1, 1) := by decide +kernel
theorem dL_cloud_2 : decode cL_cloud 2 = .ok (.iload_n 2, 1) := by decide +kernel
theorem dL_cloud_3 : decode cL_cloud 3 = .ok (.iload_n 3, 1) := by decide +kernel
theorem dL_cloud_4 : decode cL_cloud 4 = .ok (.invokevirtual 22, 3) := by decide +kernel
theorem dL_cloud_7 : decode cL_cloud 7 = .ok (.goto 11, 3) := by decide +kernel
theorem dL_cloud_10 : decode cL_cloud 10 = .ok (.astore 4, 2) := by decide +kernel
theorem dL_cloud_12 : decode cL_cloud 12 = .ok (.iconst 1, 1) := by decide +kernel
theorem dL_cloud_13 : decode cL_cloud 13 = .ok (.ireturn, 1) := by decide +kernel
theorem dL_cloud_14 : decode cL_cloud 14 = .ok (.astore 4, 2) := by decide +kernel
theorem dL_cloud_16 : decode cL_cloud 16 = .ok (.iconst 2, 1) := by decide +kernel
theorem dL_cloud_17 : decode cL_cloud 17 = .ok (.ireturn, 1) := by decide +kernel
theorem dL_cloud_18 : decode cL_cloud 18 = .ok (.iconst 0, 1) := by decide +kernel
theorem dL_cloud_19 : decode cL_cloud 19 = .ok (.ireturn, 1) := by decide +kernel
theorem dL_sea_0 : decode cL_sea 0 = .ok (.aload_n 3, 1) := by decide +kernel
theorem dL_sea_1 : decode cL_sea 1 = .ok (.iconst 0, 1) := by decide +kernel
theorem dL_sea_2 : decode cL_sea 2 = .ok (.aload_n 0, 1) := by decide +kernel
theorem dL_sea_3 : decode cL_sea 3 = .ok (.iload_n 1, 1) := by decide +kernel
theorem dL_sea_4 : decode cL_sea 4 = .ok (.iload_n 2, 1) := by decide +kernel
theorem dL_sea_5 : decode cL_sea 5 = .ok (.invokevirtual 28, 3) := by decide +kernel
theorem dL_sea_8 : decode cL_sea 8 = .ok (.ifCond .eq 7, 3) := by decide +kernel
theorem dL_sea_11 : decode cL_sea 11 = .ok (.lconst 1, 1) := by decide +kernel
theorem dL_sea_12 : decode cL_sea 12 = .ok (.goto 4, 3) := by decide +kernel
theorem dL_sea_15 : decode cL_sea 15 = .ok (.lconst 0, 1) := by decide +kernel
theorem dL_sea_16 : decode cL_sea 16 = .ok (.lastore, 1) := by decide +kernel
theorem dL_sea_17 : decode cL_sea 17 = .ok (.goto 7, 3) := by decide +kernel
theorem dL_sea_20 : decode cL_sea 20 = .ok (.astore 4, 2) := by decide +kernel
theorem dL_sea_22 : decode cL_sea 22 = .ok (.iconst 1, 1) := by decide +kernel
theorem dL_sea_23 : decode cL_sea 23 = .ok (.ireturn, 1) := by decide +kernel
theorem dL_sea_24 : decode cL_sea 24 = .ok (.iconst 0, 1) := by decide +kernel
theorem dL_sea_25 : decode cL_sea 25 = .ok (.ireturn, 1) := by decide +kernel
theorem dL_noise_0 : decode cL_noise 0 = .ok (.aload_n 3, 1) := by decide +kernel
theorem dL_noise_1 : decode cL_noise 1 = .ok (.iconst 0, 1) := by decide +kernel
theorem dL_noise_2 : decode cL_noise 2 = .ok (.aload_n 0, 1) := by decide +kernel
theorem dL_noise_3 : decode cL_noise 3 = .ok (.iload_n 1, 1) := by decide +kernel
theorem dL_noise_4 : decode cL_noise 4 = .ok (.iload_n 2, 1) := by decide +kernel
theorem dL_noise_5 : decode cL_noise 5 = .ok (.invokevirtual 32, 3) := by decide +kernel
theorem dL_noise_8 : decode cL_noise 8 = .ok (.i2l, 1) := by decide +kernel
theorem dL_noise_9 : decode cL_noise 9 = .ok (.lastore, 1) := by decide +kernel
theorem dL_noise_10 : decode cL_noise 10 = .ok (.goto 11, 3) := by decide +kernel
theorem dL_noise_13 : decode cL_noise 13 = .ok (.astore 4, 2) := by decide +kernel
theorem dL_noise_15 : decode cL_noise 15 = .ok (.iconst 1, 1) := by decide +kernel
theorem dL_noise_16 : decode cL_noise 16 = .ok (.ireturn, 1) := by decide +kernel
theorem dL_noise_17 : decode cL_noise 17 = .ok (.astore 4, 2) := by decide +kernel
theorem dL_noise_19 : decode cL_noise 19 = .ok (.iconst 2, 1) := by decide +kernel
theorem dL_noise_20 : decode cL_noise 20 = .ok (.ireturn, 1) := by decide +kernel
theorem dL_noise_21 : decode cL_noise 21 = .ok (.iconst 0, 1) := by decide +kernel
theorem dL_noise_22 : decode cL_noise 22 = .ok (.ireturn, 1) := by decide +kernel
theorem dL_pass_0 : decode cL_pass 0 = .ok (.aload_n 2, 1) := by decide +kernel
theorem dL_pass_1 : decode cL_pass 1 = .ok (.iconst 0, 1) := by decide +kernel
theorem dL_pass_2 : decode cL_pass 2 = .ok (.aload_n 0, 1) := by decide +kernel
theorem dL_pass_3 : decode cL_pass 3 = .ok (.iload_n 1, 1) := by decide +kernel
theorem dL_pass_4 : decode cL_pass 4 = .ok (.invokevirtual 36, 3) := by decide +kernel
theorem dL_pass_7 : decode cL_pass 7 = .ok (.i2l, 1) := by decide +kernel
theorem dL_pass_8 : decode cL_pass 8 = .ok (.lastore, 1) := by decide +kernel
theorem dL_pass_9 : decode cL_pass 9 = .ok (.goto 9, 3) := by decide +kernel
theorem dL_pass_12 : decode cL_pass 12 = .ok (.astore_n 3, 1) := by decide +kernel
theorem dL_pass_13 : decode cL_pass 13 = .ok (.iconst 1, 1) := by decide +kernel
theorem dL_pass_14 : decode cL_pass 14 = .ok (.ireturn, 1) := by decide +kernel
theorem dL_pass_15 : decode cL_pass 15 = .ok (.astore_n 3, 1) := by decide +kernel
theorem dL_pass_16 : decode cL_pass 16 = .ok (.iconst 2, 1) := by decide +kernel
theorem dL_pass_17 : decode cL_pass 17 = .ok (.ireturn, 1) := by decide +kernel
theorem dL_pass_18 : decode cL_pass 18 = .ok (.iconst 0, 1) := by decide +kernel
theorem dL_pass_19 : decode cL_pass 19 = .ok (.ireturn, 1) := by decide +kernel
theorem dL_station_0 : decode cL_station 0 = .ok (.aload 5, 2) := by decide +kernel
theorem dL_station_2 : decode cL_station 2 = .ok (.iconst 0, 1) := by decide +kernel
theorem dL_station_3 : decode cL_station 3 = .ok (.aload_n 0, 1) := by decide +kernel
theorem dL_station_4 : decode cL_station 4 = .ok (.iload_n 1, 1) := by decide +kernel
theorem dL_station_5 : decode cL_station 5 = .ok (.iload_n 2, 1) := by decide +kernel
theorem dL_station_6 : decode cL_station 6 = .ok (.iload_n 3, 1) := by decide +kernel
theorem dL_station_7 : decode cL_station 7 = .ok (.iload 4, 2) := by decide +kernel
theorem dL_station_9 : decode cL_station 9 = .ok (.invokevirtual 41, 3) := by decide +kernel
theorem dL_station_12 : decode cL_station 12 = .ok (.i2l, 1) := by decide +kernel
theorem dL_station_13 : decode cL_station 13 = .ok (.lastore, 1) := by decide +kernel
theorem dL_station_14 : decode cL_station 14 = .ok (.goto 15, 3) := by decide +kernel
theorem dL_station_17 : decode cL_station 17 = .ok (.astore 6, 2) := by decide +kernel
theorem dL_station_19 : decode cL_station 19 = .ok (.iconst 1, 1) := by decide +kernel
theorem dL_station_20 : decode cL_station 20 = .ok (.ireturn, 1) := by decide +kernel
theorem dL_station_21 : decode cL_station 21 = .ok (.astore 6, 2) := by decide +kernel
theorem dL_station_23 : decode cL_station 23 = .ok (.iconst 2, 1) := by decide +kernel
theorem dL_station_24 : decode cL_station 24 = .ok (.ireturn, 1) := by decide +kernel
theorem dL_station_25 : decode cL_station 25 = .ok (.astore 6, 2) := by decide +kernel
theorem dL_station_27 : decode cL_station 27 = .ok (.iconst 3, 1) := by decide +kernel
theorem dL_station_28 : decode cL_station 28 = .ok (.ireturn, 1) := by decide +kernel
theorem dL_station_29 : decode cL_station 29 = .ok (.iconst 0, 1) := by decide +kernel
theorem dL_station_30 : decode cL_station 30 = .ok (.ireturn, 1) := by decide +kernel
theorem dL_beacon_0 : decode cL_beacon 0 = .ok (.aload 4, 2) := by decide +kernel
theorem dL_beacon_2 : decode cL_beacon 2 = .ok (.iconst 0, 1) := by decide +kernel
theorem dL_beacon_3 : decode cL_beacon 3 = .ok (.aload_n 0, 1) := by decide +kernel
theorem dL_beacon_4 : decode cL_beacon 4 = .ok (.iload_n 1, 1) := by decide +kernel
theorem dL_beacon_5 : decode cL_beacon 5 = .ok (.iload_n 2, 1) := by decide +kernel
theorem dL_beacon_6 : decode cL_beacon 6 = .ok (.iload_n 3, 1) := by decide +kernel
theorem dL_beacon_7 : decode cL_beacon 7 = .ok (.invokevirtual 45, 3) := by decide +kernel
theorem dL_beacon_10 : decode cL_beacon 10 = .ok (.i2l, 1) := by decide +kernel
theorem dL_beacon_11 : decode cL_beacon 11 = .ok (.lastore, 1) := by decide +kernel
theorem dL_beacon_12 : decode cL_beacon 12 = .ok (.goto 15, 3) := by decide +kernel
theorem dL_beacon_15 : decode cL_beacon 15 = .ok (.astore 5, 2) := by decide +kernel
theorem dL_beacon_17 : decode cL_beacon 17 = .ok (.iconst 1, 1) := by decide +kernel
theorem dL_beacon_18 : decode cL_beacon 18 = .ok (.ireturn, 1) := by decide +kernel
theorem dL_beacon_19 : decode cL_beacon 19 = .ok (.astore 5, 2) := by decide +kernel
theorem dL_beacon_21 : decode cL_beacon 21 = .ok (.iconst 2, 1) := by decide +kernel
theorem dL_beacon_22 : decode cL_beacon 22 = .ok (.ireturn, 1) := by decide +kernel
theorem dL_beacon_23 : decode cL_beacon 23 = .ok (.astore 5, 2) := by decide +kernel
theorem dL_beacon_25 : decode cL_beacon 25 = .ok (.iconst 3, 1) := by decide +kernel
theorem dL_beacon_26 : decode cL_beacon 26 = .ok (.ireturn, 1) := by decide +kernel
theorem dL_beacon_27 : decode cL_beacon 27 = .ok (.iconst 0, 1) := by decide +kernel
theorem dL_beacon_28 : decode cL_beacon 28 = .ok (.ireturn, 1) := by decide +kernel
theorem dL_call_0 : decode cL_call 0 = .ok (.aload 5, 2) := by decide +kernel
theorem dL_call_2 : decode cL_call 2 = .ok (.iconst 0, 1) := by decide +kernel
theorem dL_call_3 : decode cL_call 3 = .ok (.aload_n 0, 1) := by decide +kernel
theorem dL_call_4 : decode cL_call 4 = .ok (.iload_n 1, 1) := by decide +kernel
theorem dL_call_5 : decode cL_call 5 = .ok (.iload_n 2, 1) := by decide +kernel
theorem dL_call_6 : decode cL_call 6 = .ok (.iload_n 3, 1) := by decide +kernel
theorem dL_call_7 : decode cL_call 7 = .ok (.iload 4, 2) := by decide +kernel
theorem dL_call_9 : decode cL_call 9 = .ok (.invokevirtual 49, 3) := by decide +kernel
theorem dL_call_12 : decode cL_call 12 = .ok (.ifCond .eq 7, 3) := by decide +kernel
theorem dL_call_15 : decode cL_call 15 = .ok (.lconst 1, 1) := by decide +kernel
theorem dL_call_16 : decode cL_call 16 = .ok (.goto 4, 3) := by decide +kernel
theorem dL_call_19 : decode cL_call 19 = .ok (.lconst 0, 1) := by decide +kernel
theorem dL_call_20 : decode cL_call 20 = .ok (.lastore, 1) := by decide +kernel
theorem dL_call_21 : decode cL_call 21 = .ok (.goto 15, 3) := by decide +kernel
theorem dL_call_24 : decode cL_call 24 = .ok (.astore 6, 2) := by decide +kernel
theorem dL_call_26 : decode cL_call 26 = .ok (.iconst 1, 1) := by decide +kernel
theorem dL_call_27 : decode cL_call 27 = .ok (.ireturn, 1) := by decide +kernel
theorem dL_call_28 : decode cL_call 28 = .ok (.astore 6, 2) := by decide +kernel
theorem dL_call_30 : decode cL_call 30 = .ok (.iconst 2, 1) := by decide +kernel
theorem dL_call_31 : decode cL_call 31 = .ok (.ireturn, 1) := by decide +kernel
theorem dL_call_32 : decode cL_call 32 = .ok (.astore 6, 2) := by decide +kernel
theorem dL_call_34 : decode cL_call 34 = .ok (.iconst 3, 1) := by decide +kernel
theorem dL_call_35 : decode cL_call 35 = .ok (.ireturn, 1) := by decide +kernel
theorem dL_call_36 : decode cL_call 36 = .ok (.iconst 0, 1) := by decide +kernel
theorem dL_call_37 : decode cL_call 37 = .ok (.ireturn, 1) := by decide +kernel
theorem dL_log_0 : decode cL_log 0 = .ok (.aload 4, 2) := by decide +kernel
theorem dL_log_2 : decode cL_log 2 = .ok (.iconst 0, 1) := by decide +kernel
theorem dL_log_3 : decode cL_log 3 = .ok (.aload_n 0, 1) := by decide +kernel
theorem dL_log_4 : decode cL_log 4 = .ok (.iload_n 1, 1) := by decide +kernel
theorem dL_log_5 : decode cL_log 5 = .ok (.iload_n 2, 1) := by decide +kernel
theorem dL_log_6 : decode cL_log 6 = .ok (.iload_n 3, 1) := by decide +kernel
theorem dL_log_7 : decode cL_log 7 = .ok (.invokevirtual 53, 3) := by decide +kernel
theorem dL_log_10 : decode cL_log 10 = .ok (.i2l, 1) := by decide +kernel
theorem dL_log_11 : decode cL_log 11 = .ok (.lastore, 1) := by decide +kernel
theorem dL_log_12 : decode cL_log 12 = .ok (.goto 15, 3) := by decide +kernel
theorem dL_log_15 : decode cL_log 15 = .ok (.astore 5, 2) := by decide +kernel
theorem dL_log_17 : decode cL_log 17 = .ok (.iconst 1, 1) := by decide +kernel
theorem dL_log_18 : decode cL_log 18 = .ok (.ireturn, 1) := by decide +kernel
theorem dL_log_19 : decode cL_log 19 = .ok (.astore 5, 2) := by decide +kernel
theorem dL_log_21 : decode cL_log 21 = .ok (.iconst 2, 1) := by decide +kernel
theorem dL_log_22 : decode cL_log 22 = .ok (.ireturn, 1) := by decide +kernel
theorem dL_log_23 : decode cL_log 23 = .ok (.astore 5, 2) := by decide +kernel
theorem dL_log_25 : decode cL_log 25 = .ok (.iconst 3, 1) := by decide +kernel
theorem dL_log_26 : decode cL_log 26 = .ok (.ireturn, 1) := by decide +kernel
theorem dL_log_27 : decode cL_log 27 = .ok (.iconst 0, 1) := by decide +kernel
theorem dL_log_28 : decode cL_log 28 = .ok (.ireturn, 1) := by decide +kernel
theorem dL_listen_0 : decode cL_listen 0 = .ok (.aload_n 2, 1) := by decide +kernel
theorem dL_listen_1 : decode cL_listen 1 = .ok (.iconst 0, 1) := by decide +kernel
theorem dL_listen_2 : decode cL_listen 2 = .ok (.aload_n 0, 1) := by decide +kernel
theorem dL_listen_3 : decode cL_listen 3 = .ok (.iload_n 1, 1) := by decide +kernel
theorem dL_listen_4 : decode cL_listen 4 = .ok (.invokevirtual 56, 3) := by decide +kernel
theorem dL_listen_7 : decode cL_listen 7 = .ok (.i2l, 1) := by decide +kernel
theorem dL_listen_8 : decode cL_listen 8 = .ok (.lastore, 1) := by decide +kernel
theorem dL_listen_9 : decode cL_listen 9 = .ok (.goto 6, 3) := by decide +kernel
theorem dL_listen_12 : decode cL_listen 12 = .ok (.astore_n 3, 1) := by decide +kernel
theorem dL_listen_13 : decode cL_listen 13 = .ok (.iconst 1, 1) := by decide +kernel
theorem dL_listen_14 : decode cL_listen 14 = .ok (.ireturn, 1) := by decide +kernel
theorem dL_listen_15 : decode cL_listen 15 = .ok (.iconst 0, 1) := by decide +kernel
theorem dL_listen_16 : decode cL_listen 16 = .ok (.ireturn, 1) := by decide +kernel
theorem dL_light_0 : decode cL_light 0 = .ok (.aload_n 3, 1) := by decide +kernel
theorem dL_light_1 : decode cL_light 1 = .ok (.iconst 0, 1) := by decide +kernel
theorem dL_light_2 : decode cL_light 2 = .ok (.aload_n 0, 1) := by decide +kernel
theorem dL_light_3 : decode cL_light 3 = .ok (.iload_n 1, 1) := by decide +kernel
theorem dL_light_4 : decode cL_light 4 = .ok (.iload_n 2, 1) := by decide +kernel
theorem dL_light_5 : decode cL_light 5 = .ok (.invokevirtual 59, 3) := by decide +kernel
theorem dL_light_8 : decode cL_light 8 = .ok (.i2l, 1) := by decide +kernel
theorem dL_light_9 : decode cL_light 9 = .ok (.lastore, 1) := by decide +kernel
theorem dL_light_10 : decode cL_light 10 = .ok (.goto 11, 3) := by decide +kernel
theorem dL_light_13 : decode cL_light 13 = .ok (.astore 4, 2) := by decide +kernel
theorem dL_light_15 : decode cL_light 15 = .ok (.iconst 1, 1) := by decide +kernel
theorem dL_light_16 : decode cL_light 16 = .ok (.ireturn, 1) := by decide +kernel
theorem dL_light_17 : decode cL_light 17 = .ok (.astore 4, 2) := by decide +kernel
theorem dL_light_19 : decode cL_light 19 = .ok (.iconst 2, 1) := by decide +kernel
theorem dL_light_20 : decode cL_light 20 = .ok (.ireturn, 1) := by decide +kernel
theorem dL_light_21 : decode cL_light 21 = .ok (.iconst 0, 1) := by decide +kernel
theorem dL_light_22 : decode cL_light 22 = .ok (.ireturn, 1) := by decide +kernel
theorem dL_density_0 : decode cL_density 0 = .ok (.aload_n 3, 1) := by decide +kernel
theorem dL_density_1 : decode cL_density 1 = .ok (.iconst 0, 1) := by decide +kernel
theorem dL_density_2 : decode cL_density 2 = .ok (.aload_n 0, 1) := by decide +kernel
theorem dL_density_3 : decode cL_density 3 = .ok (.iload_n 1, 1) := by decide +kernel
theorem dL_density_4 : decode cL_density 4 = .ok (.iload_n 2, 1) := by decide +kernel
theorem dL_density_5 : decode cL_density 5 = .ok (.invokevirtual 62, 3) := by decide +kernel
theorem dL_density_8 : decode cL_density 8 = .ok (.i2l, 1) := by decide +kernel
theorem dL_density_9 : decode cL_density 9 = .ok (.lastore, 1) := by decide +kernel
theorem dL_density_10 : decode cL_density 10 = .ok (.goto 11, 3) := by decide +kernel
theorem dL_density_13 : decode cL_density 13 = .ok (.astore 4, 2) := by decide +kernel
theorem dL_density_15 : decode cL_density 15 = .ok (.iconst 1, 1) := by decide +kernel
theorem dL_density_16 : decode cL_density 16 = .ok (.ireturn, 1) := by decide +kernel
theorem dL_density_17 : decode cL_density 17 = .ok (.astore 4, 2) := by decide +kernel
theorem dL_density_19 : decode cL_density 19 = .ok (.iconst 2, 1) := by decide +kernel
theorem dL_density_20 : decode cL_density 20 = .ok (.ireturn, 1) := by decide +kernel
theorem dL_density_21 : decode cL_density 21 = .ok (.iconst 0, 1) := by decide +kernel
theorem dL_density_22 : decode cL_density 22 = .ok (.ireturn, 1) := by decide +kernel
theorem dL_landing_0 : decode cL_landing 0 = .ok (.aload 6, 2) := by decide +kernel
theorem dL_landing_2 : decode cL_landing 2 = .ok (.iconst 0, 1) := by decide +kernel
theorem dL_landing_3 : decode cL_landing 3 = .ok (.aload_n 0, 1) := by decide +kernel
theorem dL_landing_4 : decode cL_landing 4 = .ok (.iload_n 1, 1) := by decide +kernel
theorem dL_landing_5 : decode cL_landing 5 = .ok (.iload_n 2, 1) := by decide +kernel
theorem dL_landing_6 : decode cL_landing 6 = .ok (.iload_n 3, 1) := by decide +kernel
theorem dL_landing_7 : decode cL_landing 7 = .ok (.iload 4, 2) := by decide +kernel
theorem dL_landing_9 : decode cL_landing 9 = .ok (.iload 5, 2) := by decide +kernel
theorem dL_landing_11 : decode cL_landing 11 = .ok (.invokevirtual 65, 3) := by decide +kernel
theorem dL_landing_14 : decode cL_landing 14 = .ok (.i2l, 1) := by decide +kernel
theorem dL_landing_15 : decode cL_landing 15 = .ok (.lastore, 1) := by decide +kernel
theorem dL_landing_16 : decode cL_landing 16 = .ok (.goto 11, 3) := by decide +kernel
theorem dL_landing_19 : decode cL_landing 19 = .ok (.astore 7, 2) := by decide +kernel
theorem dL_landing_21 : decode cL_landing 21 = .ok (.iconst 1, 1) := by decide +kernel
theorem dL_landing_22 : decode cL_landing 22 = .ok (.ireturn, 1) := by decide +kernel
theorem dL_landing_23 : decode cL_landing 23 = .ok (.astore 7, 2) := by decide +kernel
theorem dL_landing_25 : decode cL_landing 25 = .ok (.iconst 2, 1) := by decide +kernel
theorem dL_landing_26 : decode cL_landing 26 = .ok (.ireturn, 1) := by decide +kernel
theorem dL_landing_27 : decode cL_landing 27 = .ok (.iconst 0, 1) := by decide +kernel
theorem dL_landing_28 : decode cL_landing 28 = .ok (.ireturn, 1) := by decide +kernel
theorem dL_landingAnew_0 : decode cL_landingAnew 0 = .ok (.aload 6, 2) := by decide +kernel
theorem dL_landingAnew_2 : decode cL_landingAnew 2 = .ok (.iconst 0, 1) := by decide +kernel
theorem dL_landingAnew_3 : decode cL_landingAnew 3 = .ok (.aload_n 0, 1) := by decide +kernel
theorem dL_landingAnew_4 : decode cL_landingAnew 4 = .ok (.iload_n 1, 1) := by decide +kernel
theorem dL_landingAnew_5 : decode cL_landingAnew 5 = .ok (.iload_n 2, 1) := by decide +kernel
theorem dL_landingAnew_6 : decode cL_landingAnew 6 = .ok (.iload_n 3, 1) := by decide +kernel
theorem dL_landingAnew_7 : decode cL_landingAnew 7 = .ok (.iload 4, 2) := by decide +kernel
theorem dL_landingAnew_9 : decode cL_landingAnew 9 = .ok (.iload 5, 2) := by decide +kernel
