theorem dX7_init_0 : decode cX7_init 0 = .ok (.aload_n 0, 1) := by decide +kernel
theorem dX7_init_1 : decode cX7_init 1 = .ok (.invokespecial 1, 3) := by decide +kernel
theorem dX7_init_4 : decode cX7_init 4 = .ok (.aload_n 0, 1) := by decide +kernel
theorem dX7_init_5 : decode cX7_init 5 = .ok (.bipush 53, 2) := by decide +kernel
theorem dX7_init_7 : decode cX7_init 7 = .ok (.newarray .int, 2) := by decide +kernel
theorem dX7_init_9 : decode cX7_init 9 = .ok (.putfield 7, 3) := by decide +kernel
theorem dX7_init_12 : decode cX7_init 12 = .ok (.aload_n 0, 1) := by decide +kernel
theorem dX7_init_13 : decode cX7_init 13 = .ok (.bipush 53, 2) := by decide +kernel
theorem dX7_init_15 : decode cX7_init 15 = .ok (.newarray .int, 2) := by decide +kernel
theorem dX7_init_17 : decode cX7_init 17 = .ok (.putfield 13, 3) := by decide +kernel
theorem dX7_init_20 : decode cX7_init 20 = .ok (.aload_n 0, 1) := by decide +kernel
theorem dX7_init_21 : decode cX7_init 21 = .ok (.bipush 53, 2) := by decide +kernel
theorem dX7_init_23 : decode cX7_init 23 = .ok (.newarray .int, 2) := by decide +kernel
theorem dX7_init_25 : decode cX7_init 25 = .ok (.putfield 16, 3) := by decide +kernel
theorem dX7_init_28 : decode cX7_init 28 = .ok (.aload_n 0, 1) := by decide +kernel
theorem dX7_init_29 : decode cX7_init 29 = .ok (.bipush 53, 2) := by decide +kernel
theorem dX7_init_31 : decode cX7_init 31 = .ok (.newarray .int, 2) := by decide +kernel
theorem dX7_init_33 : decode cX7_init 33 = .ok (.putfield 19, 3) := by decide +kernel
theorem dX7_init_36 : decode cX7_init 36 = .ok (.aload_n 0, 1) := by decide +kernel
theorem dX7_init_37 : decode cX7_init 37 = .ok (.sipush 200, 3) := by decide +kernel
theorem dX7_init_40 : decode cX7_init 40 = .ok (.newarray .int, 2) := by decide +kernel
theorem dX7_init_42 : decode cX7_init 42 = .ok (.putfield 22, 3) := by decide +kernel
theorem dX7_init_45 : decode cX7_init 45 = .ok (.aload_n 0, 1) := by decide +kernel
theorem dX7_init_46 : decode cX7_init 46 = .ok (.bipush 64, 2) := by decide +kernel
theorem dX7_init_48 : decode cX7_init 48 = .ok (.newarray .int, 2) := by decide +kernel
theorem dX7_init_50 : decode cX7_init 50 = .ok (.putfield 25, 3) := by decide +kernel
theorem dX7_init_53 : decode cX7_init 53 = .ok (.aload_n 0, 1) := by decide +kernel
theorem dX7_init_54 : decode cX7_init 54 = .ok (.bipush 30, 2) := by decide +kernel
theorem dX7_init_56 : decode cX7_init 56 = .ok (.newarray .int, 2) := by decide +kernel
theorem dX7_init_58 : decode cX7_init 58 = .ok (.putfield 28, 3) := by decide +kernel
theorem dX7_init_61 : decode cX7_init 61 = .ok (.aload_n 0, 1) := by decide +kernel
theorem dX7_init_62 : decode cX7_init 62 = .ok (.bipush 30, 2) := by decide +kernel
theorem dX7_init_64 : decode cX7_init 64 = .ok (.newarray .int, 2) := by decide +kernel
theorem dX7_init_66 : decode cX7_init 66 = .ok (.putfield 31, 3) := by decide +kernel
theorem dX7_init_69 : decode cX7_init 69 = .ok (.aload_n 0, 1) := by decide +kernel
theorem dX7_init_70 : decode cX7_init 70 = .ok (.iconst 4, 1) := by decide +kernel
theorem dX7_init_71 : decode cX7_init 71 = .ok (.newarray .int, 2) := by decide +kernel
theorem dX7_init_73 : decode cX7_init 73 = .ok (.dup, 1) := by decide +kernel
theorem dX7_init_74 : decode cX7_init 74 = .ok (.iconst 0, 1) := by decide +kernel
theorem dX7_init_75 : decode cX7_init 75 = .ok (.iconst (-1), 1) := by decide +kernel
theorem dX7_init_76 : decode cX7_init 76 = .ok (.iastore, 1) := by decide +kernel
theorem dX7_init_77 : decode cX7_init 77 = .ok (.dup, 1) := by decide +kernel
theorem dX7_init_78 : decode cX7_init 78 = .ok (.iconst 1, 1) := by decide +kernel
theorem dX7_init_79 : decode cX7_init 79 = .ok (.iconst (-1), 1) := by decide +kernel
theorem dX7_init_80 : decode cX7_init 80 = .ok (.iastore, 1) := by decide +kernel
theorem dX7_init_81 : decode cX7_init 81 = .ok (.dup, 1) := by decide +kernel
theorem dX7_init_82 : decode cX7_init 82 = .ok (.iconst 2, 1) := by decide +kernel
theorem dX7_init_83 : decode cX7_init 83 = .ok (.iconst (-1), 1) := by decide +kernel
theorem dX7_init_84 : decode cX7_init 84 = .ok (.iastore, 1) := by decide +kernel
theorem dX7_init_85 : decode cX7_init 85 = .ok (.dup, 1) := by decide +kernel
theorem dX7_init_86 : decode cX7_init 86 = .ok (.iconst 3, 1) := by decide +kernel
theorem dX7_init_87 : decode cX7_init 87 = .ok (.iconst (-1), 1) := by decide +kernel
theorem dX7_init_88 : decode cX7_init 88 = .ok (.iastore, 1) := by decide +kernel
theorem dX7_init_89 : decode cX7_init 89 = .ok (.putfield 34, 3) := by decide +kernel
theorem dX7_init_92 : decode cX7_init 92 = .ok (.aload_n 0, 1) := by decide +kernel
theorem dX7_init_93 : decode cX7_init 93 = .ok (.iconst 4, 1) := by decide +kernel
theorem dX7_init_94 : decode cX7_init 94 = .ok (.newarray .int, 2) := by decide +kernel
theorem dX7_init_96 : decode cX7_init 96 = .ok (.putfield 37, 3) := by decide +kernel
theorem dX7_init_99 : decode cX7_init 99 = .ok (.aload_n 0, 1) := by decide +kernel
theorem dX7_init_100 : decode cX7_init 100 = .ok (.sipush 160, 3) := by decide +kernel
theorem dX7_init_103 : decode cX7_init 103 = .ok (.newarray .long, 2) := by decide +kernel
theorem dX7_init_105 : decode cX7_init 105 = .ok (.putfield 40, 3) := by decide +kernel
theorem dX7_init_108 : decode cX7_init 108 = .ok (.aload_n 0, 1) := by decide +kernel
theorem dX7_init_109 : decode cX7_init 109 = .ok (.iconst 4, 1) := by decide +kernel
theorem dX7_init_110 : decode cX7_init 110 = .ok (.newarray .int, 2) := by decide +kernel
theorem dX7_init_112 : decode cX7_init 112 = .ok (.dup, 1) := by decide +kernel
theorem dX7_init_113 : decode cX7_init 113 = .ok (.iconst 0, 1) := by decide +kernel
theorem dX7_init_114 : decode cX7_init 114 = .ok (.iconst (-1), 1) := by decide +kernel
theorem dX7_init_115 : decode cX7_init 115 = .ok (.iastore, 1) := by decide +kernel
theorem dX7_init_116 : decode cX7_init 116 = .ok (.dup, 1) := by decide +kernel
theorem dX7_init_117 : decode cX7_init 117 = .ok (.iconst 1, 1) := by decide +kernel
theorem dX7_init_118 : decode cX7_init 118 = .ok (.iconst (-1), 1) := by decide +kernel
theorem dX7_init_119 : decode cX7_init 119 = .ok (.iastore, 1) := by decide +kernel
theorem dX7_init_120 : decode cX7_init 120 = .ok (.dup, 1) := by decide +kernel
theorem dX7_init_121 : decode cX7_init 121 = .ok (.iconst 2, 1) := by decide +kernel
theorem dX7_init_122 : decode cX7_init 122 = .ok (.iconst (-1), 1) := by decide +kernel
theorem dX7_init_123 : decode cX7_init 123 = .ok (.iastore, 1) := by decide +kernel
theorem dX7_init_124 : decode cX7_init 124 = .ok (.dup, 1) := by decide +kernel
theorem dX7_init_125 : decode cX7_init 125 = .ok (.iconst 3, 1) := by decide +kernel
theorem dX7_init_126 : decode cX7_init 126 = .ok (.iconst (-1), 1) := by decide +kernel
theorem dX7_init_127 : decode cX7_init 127 = .ok (.iastore, 1) := by decide +kernel
theorem dX7_init_128 : decode cX7_init 128 = .ok (.putfield 44, 3) := by decide +kernel
theorem dX7_init_131 : decode cX7_init 131 = .ok (.aload_n 0, 1) := by decide +kernel
theorem dX7_init_132 : decode cX7_init 132 = .ok (.iconst 4, 1) := by decide +kernel
theorem dX7_init_133 : decode cX7_init 133 = .ok (.newarray .int, 2) := by decide +kernel
theorem dX7_init_135 : decode cX7_init 135 = .ok (.putfield 47, 3) := by decide +kernel
theorem dX7_init_138 : decode cX7_init 138 = .ok (.aload_n 0, 1) := by decide +kernel
theorem dX7_init_139 : decode cX7_init 139 = .ok (.iconst 4, 1) := by decide +kernel
theorem dX7_init_140 : decode cX7_init 140 = .ok (.newarray .int, 2) := by decide +kernel
theorem dX7_init_142 : decode cX7_init 142 = .ok (.putfield 50, 3) := by decide +kernel
theorem dX7_init_145 : decode cX7_init 145 = .ok (.aload_n 0, 1) := by decide +kernel
theorem dX7_init_146 : decode cX7_init 146 = .ok (.bipush 30, 2) := by decide +kernel
theorem dX7_init_148 : decode cX7_init 148 = .ok (.newarray .int, 2) := by decide +kernel
theorem dX7_init_150 : decode cX7_init 150 = .ok (.putfield 53, 3) := by decide +kernel
theorem dX7_init_153 : decode cX7_init 153 = .ok (.aload_n 0, 1) := by decide +kernel
theorem dX7_init_154 : decode cX7_init 154 = .ok (.getfield 7, 3) := by decide +kernel
theorem dX7_init_157 : decode cX7_init 157 = .ok (.invokestatic 56, 3) := by decide +kernel
theorem dX7_init_160 : decode cX7_init 160 = .ok (.aload_n 0, 1) := by decide +kernel
theorem dX7_init_161 : decode cX7_init 161 = .ok (.getfield 7, 3) := by decide +kernel
theorem dX7_init_164 : decode cX7_init 164 = .ok (.bipush 6, 2) := by decide +kernel
theorem dX7_init_166 : decode cX7_init 166 = .ok (.iconst 1, 1) := by decide +kernel
theorem dX7_init_167 : decode cX7_init 167 = .ok (.iastore, 1) := by decide +kernel
theorem dX7_init_168 : decode cX7_init 168 = .ok (.return_, 1) := by decide +kernel
theorem dX7_begins_0 : decode cX7_begins 0 = .ok (.iconst 0, 1) := by decide +kernel
theorem dX7_begins_1 : decode cX7_begins 1 = .ok (.istore_n 1, 1) := by decide +kernel
theorem dX7_begins_2 : decode cX7_begins 2 = .ok (.iload_n 1, 1) := by decide +kernel
theorem dX7_begins_3 : decode cX7_begins 3 = .ok (.bipush 53, 2) := by decide +kernel
theorem dX7_begins_5 : decode cX7_begins 5 = .ok (.if_icmp .ge 13, 3) := by decide +kernel
theorem dX7_begins_8 : decode cX7_begins 8 = .ok (.aload_n 0, 1) := by decide +kernel
theorem dX7_begins_9 : decode cX7_begins 9 = .ok (.iload_n 1, 1) := by decide +kernel
theorem dX7_begins_10 : decode cX7_begins 10 = .ok (.iconst 0, 1) := by decide +kernel
theorem dX7_begins_11 : decode cX7_begins 11 = .ok (.iastore, 1) := by decide +kernel
theorem dX7_begins_12 : decode cX7_begins 12 = .ok (.iinc 1 1, 3) := by decide +kernel
theorem dX7_begins_15 : decode cX7_begins 15 = .ok (.goto (-13), 3) := by decide +kernel
theorem dX7_begins_18 : decode cX7_begins 18 = .ok (.aload_n 0, 1) := by decide +kernel
theorem dX7_begins_19 : decode cX7_begins 19 = .ok (.iconst 0, 1) := by decide +kernel
theorem dX7_begins_20 : decode cX7_begins 20 = .ok (.iconst 4, 1) := by decide +kernel
theorem dX7_begins_21 : decode cX7_begins 21 = .ok (.iastore, 1) := by decide +kernel
theorem dX7_begins_22 : decode cX7_begins 22 = .ok (.aload_n 0, 1) := by decide +kernel
theorem dX7_begins_23 : decode cX7_begins 23 = .ok (.iconst 1, 1) := by decide +kernel
theorem dX7_begins_24 : decode cX7_begins 24 = .ok (.iconst 1, 1) := by decide +kernel
theorem dX7_begins_25 : decode cX7_begins 25 = .ok (.iastore, 1) := by decide +kernel
theorem dX7_begins_26 : decode cX7_begins 26 = .ok (.aload_n 0, 1) := by decide +kernel
theorem dX7_begins_27 : decode cX7_begins 27 = .ok (.iconst 2, 1) := by decide +kernel
theorem dX7_begins_28 : decode cX7_begins 28 = .ok (.iconst 2, 1) := by decide +kernel
theorem dX7_begins_29 : decode cX7_begins 29 = .ok (.iastore, 1) := by decide +kernel
theorem dX7_begins_30 : decode cX7_begins 30 = .ok (.aload_n 0, 1) := by decide +kernel
theorem dX7_begins_31 : decode cX7_begins 31 = .ok (.iconst 3, 1) := by decide +kernel
theorem dX7_begins_32 : decode cX7_begins 32 = .ok (.bipush 20, 2) := by decide +kernel
theorem dX7_begins_34 : decode cX7_begins 34 = .ok (.iastore, 1) := by decide +kernel
theorem dX7_begins_35 : decode cX7_begins 35 = .ok (.iconst 0, 1) := by decide +kernel
theorem dX7_begins_36 : decode cX7_begins 36 = .ok (.istore_n 1, 1) := by decide +kernel
theorem dX7_begins_37 : decode cX7_begins 37 = .ok (.iload_n 1, 1) := by decide +kernel
theorem dX7_begins_38 : decode cX7_begins 38 = .ok (.iconst 5, 1) := by decide +kernel
theorem dX7_begins_39 : decode cX7_begins 39 = .ok (.if_icmp .ge 17, 3) := by decide +kernel
theorem dX7_begins_42 : decode cX7_begins 42 = .ok (.aload_n 0, 1) := by decide +kernel
theorem dX7_begins_43 : decode cX7_begins 43 = .ok (.bipush 7, 2) := by decide +kernel
theorem dX7_begins_45 : decode cX7_begins 45 = .ok (.iload_n 1, 1) := by decide +kernel
theorem dX7_begins_46 : decode cX7_begins 46 = .ok (.iadd, 1) := by decide +kernel
theorem dX7_begins_47 : decode cX7_begins 47 = .ok (.bipush 30, 2) := by decide +kernel
theorem dX7_begins_49 : decode cX7_begins 49 = .ok (.iastore, 1) := by decide +kernel
theorem dX7_begins_50 : decode cX7_begins 50 = .ok (.iinc 1 1, 3) := by decide +kernel
theorem dX7_begins_53 : decode cX7_begins 53 = .ok (.goto (-16), 3) := by decide +kernel
theorem dX7_begins_56 : decode cX7_begins 56 = .ok (.return_, 1) := by decide +kernel
theorem dX7_in_0 : decode cX7_in 0 = .ok (.iload_n 0, 1) := by decide +kernel
theorem dX7_in_1 : decode cX7_in 1 = .ok (.iload_n 1, 1) := by decide +kernel
theorem dX7_in_2 : decode cX7_in 2 = .ok (.if_icmp .lt 12, 3) := by decide +kernel
theorem dX7_in_5 : decode cX7_in 5 = .ok (.iload_n 0, 1) := by decide +kernel
theorem dX7_in_6 : decode cX7_in 6 = .ok (.iload_n 2, 1) := by decide +kernel
theorem dX7_in_7 : decode cX7_in 7 = .ok (.if_icmp .gt 7, 3) := by decide +kernel
theorem dX7_in_10 : decode cX7_in 10 = .ok (.iconst 1, 1) := by decide +kernel
theorem dX7_in_11 : decode cX7_in 11 = .ok (.goto 4, 3) := by decide +kernel
theorem dX7_in_14 : decode cX7_in 14 = .ok (.iconst 0, 1) := by decide +kernel
theorem dX7_in_15 : decode cX7_in 15 = .ok (.ireturn, 1) := by decide +kernel
theorem dX7_held_0 : decode cX7_held 0 = .ok (.iload_n 0, 1) := by decide +kernel
theorem dX7_held_1 : decode cX7_held 1 = .ok (.iload_n 1, 1) := by decide +kernel
theorem dX7_held_2 : decode cX7_held 2 = .ok (.if_icmp .ge 7, 3) := by decide +kernel
theorem dX7_held_5 : decode cX7_held 5 = .ok (.iload_n 1, 1) := by decide +kernel
theorem dX7_held_6 : decode cX7_held 6 = .ok (.goto 13, 3) := by decide +kernel
theorem dX7_held_9 : decode cX7_held 9 = .ok (.iload_n 0, 1) := by decide +kernel
theorem dX7_held_10 : decode cX7_held 10 = .ok (.iload_n 2, 1) := by decide +kernel
theorem dX7_held_11 : decode cX7_held 11 = .ok (.if_icmp .le 7, 3) := by decide +kernel
theorem dX7_held_14 : decode cX7_held 14 = .ok (.iload_n 2, 1) := by decide +kernel
theorem dX7_held_15 : decode cX7_held 15 = .ok (.goto 4, 3) := by decide +kernel
theorem dX7_held_18 : decode cX7_held 18 = .ok (.iload_n 0, 1) := by decide +kernel
theorem dX7_held_19 : decode cX7_held 19 = .ok (.ireturn, 1) := by decide +kernel
theorem dX7_moveAll_0 : decode cX7_moveAll 0 = .ok (.iconst 0, 1) := by decide +kernel
theorem dX7_moveAll_1 : decode cX7_moveAll 1 = .ok (.istore_n 2, 1) := by decide +kernel
theorem dX7_moveAll_2 : decode cX7_moveAll 2 = .ok (.iload_n 2, 1) := by decide +kernel
theorem dX7_moveAll_3 : decode cX7_moveAll 3 = .ok (.bipush 53, 2) := by decide +kernel
theorem dX7_moveAll_5 : decode cX7_moveAll 5 = .ok (.if_icmp .ge 15, 3) := by decide +kernel
theorem dX7_moveAll_8 : decode cX7_moveAll 8 = .ok (.aload_n 1, 1) := by decide +kernel
theorem dX7_moveAll_9 : decode cX7_moveAll 9 = .ok (.iload_n 2, 1) := by decide +kernel
theorem dX7_moveAll_10 : decode cX7_moveAll 10 = .ok (.aload_n 0, 1) := by decide +kernel
theorem dX7_moveAll_11 : decode cX7_moveAll 11 = .ok (.iload_n 2, 1) := by decide +kernel
theorem dX7_moveAll_12 : decode cX7_moveAll 12 = .ok (.iaload, 1) := by decide +kernel
theorem dX7_moveAll_13 : decode cX7_moveAll 13 = .ok (.iastore, 1) := by decide +kernel
theorem dX7_moveAll_14 : decode cX7_moveAll 14 = .ok (.iinc 2 1, 3) := by decide +kernel
theorem dX7_moveAll_17 : decode cX7_moveAll 17 = .ok (.goto (-15), 3) := by decide +kernel
theorem dX7_moveAll_20 : decode cX7_moveAll 20 = .ok (.return_, 1) := by decide +kernel
theorem dX7_isPeg_0 : decode cX7_isPeg 0 = .ok (.iload_n 0, 1) := by decide +kernel
theorem dX7_isPeg_1 : decode cX7_isPeg 1 = .ok (.iconst 0, 1) := by decide +kernel
theorem dX7_isPeg_2 : decode cX7_isPeg 2 = .ok (.iconst 5, 1) := by decide +kernel
theorem dX7_isPeg_3 : decode cX7_isPeg 3 = .ok (.invokestatic 60, 3) := by decide +kernel
theorem dX7_isPeg_6 : decode cX7_isPeg 6 = .ok (.ireturn, 1) := by decide +kernel
theorem dX7_isPlace_0 : decode cX7_isPlace 0 = .ok (.iload_n 0, 1) := by decide +kernel
theorem dX7_isPlace_1 : decode cX7_isPlace 1 = .ok (.iconst 0, 1) := by decide +kernel
theorem dX7_isPlace_2 : decode cX7_isPlace 2 = .ok (.bipush 11, 2) := by decide +kernel
theorem dX7_isPlace_4 : decode cX7_isPlace 4 = .ok (.invokestatic 60, 3) := by decide +kernel
theorem dX7_isPlace_7 : decode cX7_isPlace 7 = .ok (.ireturn, 1) := by decide +kernel
theorem dX7_isOne_0 : decode cX7_isOne 0 = .ok (.iload_n 1, 1) := by decide +kernel
theorem dX7_isOne_1 : decode cX7_isOne 1 = .ok (.iconst 0, 1) := by decide +kernel
theorem dX7_isOne_2 : decode cX7_isOne 2 = .ok (.aload_n 0, 1) := by decide +kernel
theorem dX7_isOne_3 : decode cX7_isOne 3 = .ok (.getfield 7, 3) := by decide +kernel
theorem dX7_isOne_6 : decode cX7_isOne 6 = .ok (.iconst 5, 1) := by decide +kernel
theorem dX7_isOne_7 : decode cX7_isOne 7 = .ok (.iaload, 1) := by decide +kernel
theorem dX7_isOne_8 : decode cX7_isOne 8 = .ok (.iconst 1, 1) := by decide +kernel
theorem dX7_isOne_9 : decode cX7_isOne 9 = .ok (.isub, 1) := by decide +kernel
theorem dX7_isOne_10 : decode cX7_isOne 10 = .ok (.invokestatic 60, 3) := by decide +kernel
theorem dX7_isOne_13 : decode cX7_isOne 13 = .ok (.ireturn, 1) := by decide +kernel
theorem dX7_its_0 : decode cX7_its 0 = .ok (.aload_n 0, 1) := by decide +kernel
theorem dX7_its_1 : decode cX7_its 1 = .ok (.getfield 7, 3) := by decide +kernel
theorem dX7_its_4 : decode cX7_its 4 = .ok (.bipush 13, 2) := by decide +kernel
theorem dX7_its_6 : decode cX7_its 6 = .ok (.iconst 5, 1) := by decide +kernel
theorem dX7_its_7 : decode cX7_its 7 = .ok (.iload_n 1, 1) := by decide +kernel
theorem dX7_its_8 : decode cX7_its 8 = .ok (.imul, 1) := by decide +kernel
theorem dX7_its_9 : decode cX7_its 9 = .ok (.iadd, 1) := by decide +kernel
theorem dX7_its_10 : decode cX7_its 10 = .ok (.iload_n 2, 1) := by decide +kernel
theorem dX7_its_11 : decode cX7_its 11 = .ok (.iadd, 1) := by decide +kernel
theorem dX7_its_12 : decode cX7_its 12 = .ok (.iaload, 1) := by decide +kernel
theorem dX7_its_13 : decode cX7_its 13 = .ok (.ireturn, 1) := by decide +kernel
theorem dX7_sets_0 : decode cX7_sets 0 = .ok (.aload_n 0, 1) := by decide +kernel
theorem dX7_sets_1 : decode cX7_sets 1 = .ok (.getfield 7, 3) := by decide +kernel
theorem dX7_sets_4 : decode cX7_sets 4 = .ok (.bipush 13, 2) := by decide +kernel
theorem dX7_sets_6 : decode cX7_sets 6 = .ok (.iconst 5, 1) := by decide +kernel
theorem dX7_sets_7 : decode cX7_sets 7 = .ok (.iload_n 1, 1) := by decide +kernel
theorem dX7_sets_8 : decode cX7_sets 8 = .ok (.imul, 1) := by decide +kernel
theorem dX7_sets_9 : decode cX7_sets 9 = .ok (.iadd, 1) := by decide +kernel
theorem dX7_sets_10 : decode cX7_sets 10 = .ok (.iload_n 2, 1) := by decide +kernel
theorem dX7_sets_11 : decode cX7_sets 11 = .ok (.iadd, 1) := by decide +kernel
theorem dX7_sets_12 : decode cX7_sets 12 = .ok (.iload_n 3, 1) := by decide +kernel
theorem dX7_sets_13 : decode cX7_sets 13 = .ok (.iastore, 1) := by decide +kernel
theorem dX7_sets_14 : decode cX7_sets 14 = .ok (.return_, 1) := by decide +kernel
theorem dX7_becomes_0 : decode cX7_becomes 0 = .ok (.aload_n 0, 1) := by decide +kernel
theorem dX7_becomes_1 : decode cX7_becomes 1 = .ok (.getfield 7, 3) := by decide +kernel
theorem dX7_becomes_4 : decode cX7_becomes 4 = .ok (.iload_n 1, 1) := by decide +kernel
theorem dX7_becomes_5 : decode cX7_becomes 5 = .ok (.iaload, 1) := by decide +kernel
theorem dX7_becomes_6 : decode cX7_becomes 6 = .ok (.istore_n 3, 1) := by decide +kernel
theorem dX7_becomes_7 : decode cX7_becomes 7 = .ok (.aload_n 0, 1) := by decide +kernel
theorem dX7_becomes_8 : decode cX7_becomes 8 = .ok (.getfield 7, 3) := by decide +kernel
theorem dX7_becomes_11 : decode cX7_becomes 11 = .ok (.iload_n 1, 1) := by decide +kernel
theorem dX7_becomes_12 : decode cX7_becomes 12 = .ok (.iload_n 2, 1) := by decide +kernel
theorem dX7_becomes_13 : decode cX7_becomes 13 = .ok (.iastore, 1) := by decide +kernel
theorem dX7_becomes_14 : decode cX7_becomes 14 = .ok (.iload_n 3, 1) := by decide +kernel
theorem dX7_becomes_15 : decode cX7_becomes 15 = .ok (.ireturn, 1) := by decide +kernel
theorem dX7_ones_0 : decode cX7_ones 0 = .ok (.iconst 0, 1) := by decide +kernel
theorem dX7_ones_1 : decode cX7_ones 1 = .ok (.istore_n 1, 1) := by decide +kernel
theorem dX7_ones_2 : decode cX7_ones 2 = .ok (.iload_n 0, 1) := by decide +kernel
theorem dX7_ones_3 : decode cX7_ones 3 = .ok (.istore_n 2, 1) := by decide +kernel
theorem dX7_ones_4 : decode cX7_ones 4 = .ok (.iload_n 2, 1) := by decide +kernel
theorem dX7_ones_5 : decode cX7_ones 5 = .ok (.ifCond .eq 15, 3) := by decide +kernel
theorem dX7_ones_8 : decode cX7_ones 8 = .ok (.iinc 1 1, 3) := by decide +kernel
theorem dX7_ones_11 : decode cX7_ones 11 = .ok (.iload_n 2, 1) := by decide +kernel
theorem dX7_ones_12 : decode cX7_ones 12 = .ok (.iload_n 2, 1) := by decide +kernel
theorem dX7_ones_13 : decode cX7_ones 13 = .ok (.iconst 1, 1) := by decide +kernel
theorem dX7_ones_14 : decode cX7_ones 14 = .ok (.isub, 1) := by decide +kernel
theorem dX7_ones_15 : decode cX7_ones 15 = .ok (.iand, 1) := by decide +kernel
theorem dX7_ones_16 : decode cX7_ones 16 = .ok (.istore_n 2, 1) := by decide +kernel
theorem dX7_ones_17 : decode cX7_ones 17 = .ok (.goto (-13), 3) := by decide +kernel
theorem dX7_ones_20 : decode cX7_ones 20 = .ok (.iload_n 1, 1) := by decide +kernel
theorem dX7_ones_21 : decode cX7_ones 21 = .ok (.ireturn, 1) := by decide +kernel
theorem dX7_feed_0 : decode cX7_feed 0 = .ok (.iload_n 3, 1) := by decide +kernel
theorem dX7_feed_1 : decode cX7_feed 1 = .ok (.iconst 1, 1) := by decide +kernel
theorem dX7_feed_2 : decode cX7_feed 2 = .ok (.bipush 8, 2) := by decide +kernel
theorem dX7_feed_4 : decode cX7_feed 4 = .ok (.invokestatic 60, 3) := by decide +kernel
theorem dX7_feed_7 : decode cX7_feed 7 = .ok (.ifCond .ne 5, 3) := by decide +kernel
theorem dX7_feed_10 : decode cX7_feed 10 = .ok (.iconst (-1), 1) := by decide +kernel
theorem dX7_feed_11 : decode cX7_feed 11 = .ok (.ireturn, 1) := by decide +kernel
theorem dX7_feed_12 : decode cX7_feed 12 = .ok (.aload_n 0, 1) := by decide +kernel
theorem dX7_feed_13 : decode cX7_feed 13 = .ok (.getfield 64, 3) := by decide +kernel
theorem dX7_feed_16 : decode cX7_feed 16 = .ok (.iload_n 3, 1) := by decide +kernel
theorem dX7_feed_17 : decode cX7_feed 17 = .ok (.iadd, 1) := by decide +kernel
theorem dX7_feed_18 : decode cX7_feed 18 = .ok (.sipush 200, 3) := by decide +kernel
theorem dX7_feed_21 : decode cX7_feed 21 = .ok (.if_icmp .le 6, 3) := by decide +kernel
theorem dX7_feed_24 : decode cX7_feed 24 = .ok (.bipush (-2), 2) := by decide +kernel
theorem dX7_feed_26 : decode cX7_feed 26 = .ok (.ireturn, 1) := by decide +kernel
theorem dX7_feed_27 : decode cX7_feed 27 = .ok (.iconst 0, 1) := by decide +kernel
theorem dX7_feed_28 : decode cX7_feed 28 = .ok (.istore 4, 2) := by decide +kernel
theorem dX7_feed_30 : decode cX7_feed 30 = .ok (.iload 4, 2) := by decide +kernel
theorem dX7_feed_32 : decode cX7_feed 32 = .ok (.iload_n 3, 1) := by decide +kernel
theorem dX7_feed_33 : decode cX7_feed 33 = .ok (.if_icmp .ge 40, 3) := by decide +kernel
theorem dX7_feed_36 : decode cX7_feed 36 = .ok (.aload_n 0, 1) := by decide +kernel
theorem dX7_feed_37 : decode cX7_feed 37 = .ok (.getfield 22, 3) := by decide +kernel
theorem dX7_feed_40 : decode cX7_feed 40 = .ok (.aload_n 0, 1) := by decide +kernel
theorem dX7_feed_41 : decode cX7_feed 41 = .ok (.getfield 64, 3) := by decide +kernel
theorem dX7_feed_44 : decode cX7_feed 44 = .ok (.lload_n 1, 1) := by decide +kernel
theorem dX7_feed_45 : decode cX7_feed 45 = .ok (.bipush 8, 2) := by decide +kernel
theorem dX7_feed_47 : decode cX7_feed 47 = .ok (.iload 4, 2) := by decide +kernel
theorem dX7_feed_49 : decode cX7_feed 49 = .ok (.imul, 1) := by decide +kernel
theorem dX7_feed_50 : decode cX7_feed 50 = .ok (.lshr, 1) := by decide +kernel
theorem dX7_feed_51 : decode cX7_feed 51 = .ok (.ldc2_w 68, 3) := by decide +kernel
theorem dX7_feed_54 : decode cX7_feed 54 = .ok (.land, 1) := by decide +kernel
theorem dX7_feed_55 : decode cX7_feed 55 = .ok (.l2i, 1) := by decide +kernel
theorem dX7_feed_56 : decode cX7_feed 56 = .ok (.iastore, 1) := by decide +kernel
theorem dX7_feed_57 : decode cX7_feed 57 = .ok (.aload_n 0, 1) := by decide +kernel
theorem dX7_feed_58 : decode cX7_feed 58 = .ok (.dup, 1) := by decide +kernel
theorem dX7_feed_59 : decode cX7_feed 59 = .ok (.getfield 64, 3) := by decide +kernel
theorem dX7_feed_62 : decode cX7_feed 62 = .ok (.iconst 1, 1) := by decide +kernel
theorem dX7_feed_63 : decode cX7_feed 63 = .ok (.iadd, 1) := by decide +kernel
theorem dX7_feed_64 : decode cX7_feed 64 = .ok (.putfield 64, 3) := by decide +kernel
theorem dX7_feed_67 : decode cX7_feed 67 = .ok (.iinc 4 1, 3) := by decide +kernel
theorem dX7_feed_70 : decode cX7_feed 70 = .ok (.goto (-40), 3) := by decide +kernel
theorem dX7_feed_73 : decode cX7_feed 73 = .ok (.aload_n 0, 1) := by decide +kernel
theorem dX7_feed_74 : decode cX7_feed 74 = .ok (.getfield 64, 3) := by decide +kernel
theorem dX7_feed_77 : decode cX7_feed 77 = .ok (.ireturn, 1) := by decide +kernel
theorem dX7_byteAt_0 : decode cX7_byteAt 0 = .ok (.iload_n 1, 1) := by decide +kernel
theorem dX7_byteAt_1 : decode cX7_byteAt 1 = .ok (.aload_n 0, 1) := by decide +kernel
theorem dX7_byteAt_2 : decode cX7_byteAt 2 = .ok (.getfield 64, 3) := by decide +kernel
theorem dX7_byteAt_5 : decode cX7_byteAt 5 = .ok (.if_icmp .ge 12, 3) := by decide +kernel
theorem dX7_byteAt_8 : decode cX7_byteAt 8 = .ok (.aload_n 0, 1) := by decide +kernel
theorem dX7_byteAt_9 : decode cX7_byteAt 9 = .ok (.getfield 22, 3) := by decide +kernel
theorem dX7_byteAt_12 : decode cX7_byteAt 12 = .ok (.iload_n 1, 1) := by decide +kernel
theorem dX7_byteAt_13 : decode cX7_byteAt 13 = .ok (.iaload, 1) := by decide +kernel
theorem dX7_byteAt_14 : decode cX7_byteAt 14 = .ok (.goto 4, 3) := by decide +kernel
theorem dX7_byteAt_17 : decode cX7_byteAt 17 = .ok (.iconst (-1), 1) := by decide +kernel
theorem dX7_byteAt_18 : decode cX7_byteAt 18 = .ok (.ireturn, 1) := by decide +kernel
theorem dX7_isLetter_0 : decode cX7_isLetter 0 = .ok (.iload_n 0, 1) := by decide +kernel
theorem dX7_isLetter_1 : decode cX7_isLetter 1 = .ok (.bipush 97, 2) := by decide +kernel
theorem dX7_isLetter_3 : decode cX7_isLetter 3 = .ok (.bipush 122, 2) := by decide +kernel
theorem dX7_isLetter_5 : decode cX7_isLetter 5 = .ok (.invokestatic 60, 3) := by decide +kernel
theorem dX7_isLetter_8 : decode cX7_isLetter 8 = .ok (.ireturn, 1) := by decide +kernel
theorem dX7_isDigit_0 : decode cX7_isDigit 0 = .ok (.iload_n 0, 1) := by decide +kernel
theorem dX7_isDigit_1 : decode cX7_isDigit 1 = .ok (.bipush 48, 2) := by decide +kernel
theorem dX7_isDigit_3 : decode cX7_isDigit 3 = .ok (.bipush 57, 2) := by decide +kernel
theorem dX7_isDigit_5 : decode cX7_isDigit 5 = .ok (.invokestatic 60, 3) := by decide +kernel
theorem dX7_isDigit_8 : decode cX7_isDigit 8 = .ok (.ireturn, 1) := by decide +kernel
theorem dX7_advance_0 : decode cX7_advance 0 = .ok (.aload_n 0, 1) := by decide +kernel
theorem dX7_advance_1 : decode cX7_advance 1 = .ok (.aload_n 0, 1) := by decide +kernel
theorem dX7_advance_2 : decode cX7_advance 2 = .ok (.getfield 70, 3) := by decide +kernel
theorem dX7_advance_5 : decode cX7_advance 5 = .ok (.putfield 73, 3) := by decide +kernel
theorem dX7_advance_8 : decode cX7_advance 8 = .ok (.aload_n 0, 1) := by decide +kernel
theorem dX7_advance_9 : decode cX7_advance 9 = .ok (.aload_n 0, 1) := by decide +kernel
theorem dX7_advance_10 : decode cX7_advance 10 = .ok (.getfield 73, 3) := by decide +kernel
theorem dX7_advance_13 : decode cX7_advance 13 = .ok (.invokevirtual 75, 3) := by decide +kernel
theorem dX7_advance_16 : decode cX7_advance 16 = .ok (.bipush 32, 2) := by decide +kernel
theorem dX7_advance_18 : decode cX7_advance 18 = .ok (.if_icmp .ne 16, 3) := by decide +kernel
theorem dX7_advance_21 : decode cX7_advance 21 = .ok (.aload_n 0, 1) := by decide +kernel
theorem dX7_advance_22 : decode cX7_advance 22 = .ok (.dup, 1) := by decide +kernel
theorem dX7_advance_23 : decode cX7_advance 23 = .ok (.getfield 73, 3) := by decide +kernel
theorem dX7_advance_26 : decode cX7_advance 26 = .ok (.iconst 1, 1) := by decide +kernel
theorem dX7_advance_27 : decode cX7_advance 27 = .ok (.iadd, 1) := by decide +kernel
theorem dX7_advance_28 : decode cX7_advance 28 = .ok (.putfield 73, 3) := by decide +kernel
theorem dX7_advance_31 : decode cX7_advance 31 = .ok (.goto (-23), 3) := by decide +kernel
theorem dX7_advance_34 : decode cX7_advance 34 = .ok (.aload_n 0, 1) := by decide +kernel
theorem dX7_advance_35 : decode cX7_advance 35 = .ok (.aload_n 0, 1) := by decide +kernel
theorem dX7_advance_36 : decode cX7_advance 36 = .ok (.getfield 73, 3) := by decide +kernel
theorem dX7_advance_39 : decode cX7_advance 39 = .ok (.putfield 70, 3) := by decide +kernel
theorem dX7_advance_42 : decode cX7_advance 42 = .ok (.aload_n 0, 1) := by decide +kernel
theorem dX7_advance_43 : decode cX7_advance 43 = .ok (.aload_n 0, 1) := by decide +kernel
theorem dX7_advance_44 : decode cX7_advance 44 = .ok (.getfield 73, 3) := by decide +kernel
theorem dX7_advance_47 : decode cX7_advance 47 = .ok (.invokevirtual 75, 3) := by decide +kernel
theorem dX7_advance_50 : decode cX7_advance 50 = .ok (.istore_n 1, 1) := by decide +kernel
theorem dX7_advance_51 : decode cX7_advance 51 = .ok (.aload_n 0, 1) := by decide +kernel
theorem dX7_advance_52 : decode cX7_advance 52 = .ok (.iload_n 1, 1) := by decide +kernel
theorem dX7_advance_53 : decode cX7_advance 53 = .ok (.ifCond .ge 7, 3) := by decide +kernel
theorem dX7_advance_56 : decode cX7_advance 56 = .ok (.iconst 0, 1) := by decide +kernel
theorem dX7_advance_57 : decode cX7_advance 57 = .ok (.goto 26, 3) := by decide +kernel
theorem dX7_advance_60 : decode cX7_advance 60 = .ok (.iload_n 1, 1) := by decide +kernel
theorem dX7_advance_61 : decode cX7_advance 61 = .ok (.invokestatic 79, 3) := by decide +kernel
theorem dX7_advance_64 : decode cX7_advance 64 = .ok (.ifCond .eq 7, 3) := by decide +kernel
theorem dX7_advance_67 : decode cX7_advance 67 = .ok (.iconst 1, 1) := by decide +kernel
theorem dX7_advance_68 : decode cX7_advance 68 = .ok (.goto 15, 3) := by decide +kernel
theorem dX7_advance_71 : decode cX7_advance 71 = .ok (.iload_n 1, 1) := by decide +kernel
theorem dX7_advance_72 : decode cX7_advance 72 = .ok (.invokestatic 83, 3) := by decide +kernel
theorem dX7_advance_75 : decode cX7_advance 75 = .ok (.ifCond .eq 7, 3) := by decide +kernel
theorem dX7_advance_78 : decode cX7_advance 78 = .ok (.iconst 2, 1) := by decide +kernel
theorem dX7_advance_79 : decode cX7_advance 79 = .ok (.goto 4, 3) := by decide +kernel
theorem dX7_advance_82 : decode cX7_advance 82 = .ok (.iconst 3, 1) := by decide +kernel
theorem dX7_advance_83 : decode cX7_advance 83 = .ok (.putfield 86, 3) := by decide +kernel
theorem dX7_advance_86 : decode cX7_advance 86 = .ok (.aload_n 0, 1) := by decide +kernel
theorem dX7_advance_87 : decode cX7_advance 87 = .ok (.lconst 0, 1) := by decide +kernel
theorem dX7_advance_88 : decode cX7_advance 88 = .ok (.putfield 89, 3) := by decide +kernel
theorem dX7_advance_91 : decode cX7_advance 91 = .ok (.aload_n 0, 1) := by decide +kernel
theorem dX7_advance_92 : decode cX7_advance 92 = .ok (.aload_n 0, 1) := by decide +kernel
theorem dX7_advance_93 : decode cX7_advance 93 = .ok (.getfield 86, 3) := by decide +kernel
theorem dX7_advance_96 : decode cX7_advance 96 = .ok (.iconst 2, 1) := by decide +kernel
theorem dX7_advance_97 : decode cX7_advance 97 = .ok (.if_icmp .ne 7, 3) := by decide +kernel
theorem dX7_advance_100 : decode cX7_advance 100 = .ok (.iconst 0, 1) := by decide +kernel
theorem dX7_advance_101 : decode cX7_advance 101 = .ok (.goto 4, 3) := by decide +kernel
theorem dX7_advance_104 : decode cX7_advance 104 = .ok (.iload_n 1, 1) := by decide +kernel
theorem dX7_advance_105 : decode cX7_advance 105 = .ok (.putfield 93, 3) := by decide +kernel
theorem dX7_advance_108 : decode cX7_advance 108 = .ok (.aload_n 0, 1) := by decide +kernel
theorem dX7_advance_109 : decode cX7_advance 109 = .ok (.getfield 86, 3) := by decide +kernel
theorem dX7_advance_112 : decode cX7_advance 112 = .ok (.iconst 3, 1) := by decide +kernel
theorem dX7_advance_113 : decode cX7_advance 113 = .ok (.if_icmp .ne 13, 3) := by decide +kernel
theorem dX7_advance_116 : decode cX7_advance 116 = .ok (.aload_n 0, 1) := by decide +kernel
theorem dX7_advance_117 : decode cX7_advance 117 = .ok (.dup, 1) := by decide +kernel
theorem dX7_advance_118 : decode cX7_advance 118 = .ok (.getfield 70, 3) := by decide +kernel
theorem dX7_advance_121 : decode cX7_advance 121 = .ok (.iconst 1, 1) := by decide +kernel
theorem dX7_advance_122 : decode cX7_advance 122 = .ok (.iadd, 1) := by decide +kernel
theorem dX7_advance_123 : decode cX7_advance 123 = .ok (.putfield 70, 3) := by decide +kernel
theorem dX7_advance_126 : decode cX7_advance 126 = .ok (.aload_n 0, 1) := by decide +kernel
theorem dX7_advance_127 : decode cX7_advance 127 = .ok (.getfield 86, 3) := by decide +kernel
theorem dX7_advance_130 : decode cX7_advance 130 = .ok (.iconst 1, 1) := by decide +kernel
theorem dX7_advance_131 : decode cX7_advance 131 = .ok (.if_icmp .ne 76, 3) := by decide +kernel
theorem dX7_advance_134 : decode cX7_advance 134 = .ok (.aload_n 0, 1) := by decide +kernel
theorem dX7_advance_135 : decode cX7_advance 135 = .ok (.aload_n 0, 1) := by decide +kernel
theorem dX7_advance_136 : decode cX7_advance 136 = .ok (.getfield 70, 3) := by decide +kernel
theorem dX7_advance_139 : decode cX7_advance 139 = .ok (.invokevirtual 75, 3) := by decide +kernel
theorem dX7_advance_142 : decode cX7_advance 142 = .ok (.invokestatic 79, 3) := by decide +kernel
theorem dX7_advance_145 : decode cX7_advance 145 = .ok (.ifCond .eq 62, 3) := by decide +kernel
theorem dX7_advance_148 : decode cX7_advance 148 = .ok (.aload_n 0, 1) := by decide +kernel
theorem dX7_advance_149 : decode cX7_advance 149 = .ok (.aload_n 0, 1) := by decide +kernel
theorem dX7_advance_150 : decode cX7_advance 150 = .ok (.getfield 70, 3) := by decide +kernel
theorem dX7_advance_153 : decode cX7_advance 153 = .ok (.aload_n 0, 1) := by decide +kernel
theorem dX7_advance_154 : decode cX7_advance 154 = .ok (.getfield 73, 3) := by decide +kernel
theorem dX7_advance_157 : decode cX7_advance 157 = .ok (.isub, 1) := by decide +kernel
theorem dX7_advance_158 : decode cX7_advance 158 = .ok (.bipush 9, 2) := by decide +kernel
theorem dX7_advance_160 : decode cX7_advance 160 = .ok (.if_icmp .ge 28, 3) := by decide +kernel
theorem dX7_advance_163 : decode cX7_advance 163 = .ok (.ldc2_w 96, 3) := by decide +kernel
theorem dX7_advance_166 : decode cX7_advance 166 = .ok (.aload_n 0, 1) := by decide +kernel
theorem dX7_advance_167 : decode cX7_advance 167 = .ok (.getfield 89, 3) := by decide +kernel
theorem dX7_advance_170 : decode cX7_advance 170 = .ok (.lmul, 1) := by decide +kernel
theorem dX7_advance_171 : decode cX7_advance 171 = .ok (.aload_n 0, 1) := by decide +kernel
theorem dX7_advance_172 : decode cX7_advance 172 = .ok (.aload_n 0, 1) := by decide +kernel
theorem dX7_advance_173 : decode cX7_advance 173 = .ok (.getfield 70, 3) := by decide +kernel
theorem dX7_advance_176 : decode cX7_advance 176 = .ok (.invokevirtual 75, 3) := by decide +kernel
theorem dX7_advance_179 : decode cX7_advance 179 = .ok (.i2l, 1) := by decide +kernel
theorem dX7_advance_180 : decode cX7_advance 180 = .ok (.ladd, 1) := by decide +kernel
theorem dX7_advance_181 : decode cX7_advance 181 = .ok (.ldc2_w 98, 3) := by decide +kernel
theorem dX7_advance_184 : decode cX7_advance 184 = .ok (.lsub, 1) := by decide +kernel
theorem dX7_advance_185 : decode cX7_advance 185 = .ok (.goto 6, 3) := by decide +kernel
theorem dX7_advance_188 : decode cX7_advance 188 = .ok (.ldc2_w 100, 3) := by decide +kernel
theorem dX7_advance_191 : decode cX7_advance 191 = .ok (.putfield 89, 3) := by decide +kernel
theorem dX7_advance_194 : decode cX7_advance 194 = .ok (.aload_n 0, 1) := by decide +kernel
theorem dX7_advance_195 : decode cX7_advance 195 = .ok (.dup, 1) := by decide +kernel
theorem dX7_advance_196 : decode cX7_advance 196 = .ok (.getfield 70, 3) := by decide +kernel
theorem dX7_advance_199 : decode cX7_advance 199 = .ok (.iconst 1, 1) := by decide +kernel
theorem dX7_advance_200 : decode cX7_advance 200 = .ok (.iadd, 1) := by decide +kernel
theorem dX7_advance_201 : decode cX7_advance 201 = .ok (.putfield 70, 3) := by decide +kernel
theorem dX7_advance_204 : decode cX7_advance 204 = .ok (.goto (-78), 3) := by decide +kernel
theorem dX7_advance_207 : decode cX7_advance 207 = .ok (.aload_n 0, 1) := by decide +kernel
theorem dX7_advance_208 : decode cX7_advance 208 = .ok (.getfield 86, 3) := by decide +kernel
theorem dX7_advance_211 : decode cX7_advance 211 = .ok (.iconst 2, 1) := by decide +kernel
theorem dX7_advance_212 : decode cX7_advance 212 = .ok (.if_icmp .ne 70, 3) := by decide +kernel
theorem dX7_advance_215 : decode cX7_advance 215 = .ok (.aload_n 0, 1) := by decide +kernel
theorem dX7_advance_216 : decode cX7_advance 216 = .ok (.aload_n 0, 1) := by decide +kernel
theorem dX7_advance_217 : decode cX7_advance 217 = .ok (.getfield 70, 3) := by decide +kernel
theorem dX7_advance_220 : decode cX7_advance 220 = .ok (.invokevirtual 75, 3) := by decide +kernel
theorem dX7_advance_223 : decode cX7_advance 223 = .ok (.invokestatic 83, 3) := by decide +kernel
theorem dX7_advance_226 : decode cX7_advance 226 = .ok (.ifCond .eq 56, 3) := by decide +kernel
theorem dX7_advance_229 : decode cX7_advance 229 = .ok (.aload_n 0, 1) := by decide +kernel
theorem dX7_advance_230 : decode cX7_advance 230 = .ok (.aload_n 0, 1) := by decide +kernel
theorem dX7_advance_231 : decode cX7_advance 231 = .ok (.getfield 70, 3) := by decide +kernel
theorem dX7_advance_234 : decode cX7_advance 234 = .ok (.aload_n 0, 1) := by decide +kernel
theorem dX7_advance_235 : decode cX7_advance 235 = .ok (.getfield 73, 3) := by decide +kernel
theorem dX7_advance_238 : decode cX7_advance 238 = .ok (.isub, 1) := by decide +kernel
theorem dX7_advance_239 : decode cX7_advance 239 = .ok (.iconst 3, 1) := by decide +kernel
theorem dX7_advance_240 : decode cX7_advance 240 = .ok (.if_icmp .ge 25, 3) := by decide +kernel
theorem dX7_advance_243 : decode cX7_advance 243 = .ok (.bipush 10, 2) := by decide +kernel
theorem dX7_advance_245 : decode cX7_advance 245 = .ok (.aload_n 0, 1) := by decide +kernel
theorem dX7_advance_246 : decode cX7_advance 246 = .ok (.getfield 93, 3) := by decide +kernel
theorem dX7_advance_249 : decode cX7_advance 249 = .ok (.imul, 1) := by decide +kernel
theorem dX7_advance_250 : decode cX7_advance 250 = .ok (.aload_n 0, 1) := by decide +kernel
theorem dX7_advance_251 : decode cX7_advance 251 = .ok (.aload_n 0, 1) := by decide +kernel
theorem dX7_advance_252 : decode cX7_advance 252 = .ok (.getfield 70, 3) := by decide +kernel
theorem dX7_advance_255 : decode cX7_advance 255 = .ok (.invokevirtual 75, 3) := by decide +kernel
theorem dX7_advance_258 : decode cX7_advance 258 = .ok (.iadd, 1) := by decide +kernel
theorem dX7_advance_259 : decode cX7_advance 259 = .ok (.bipush 48, 2) := by decide +kernel
theorem dX7_advance_261 : decode cX7_advance 261 = .ok (.isub, 1) := by decide +kernel
theorem dX7_advance_262 : decode cX7_advance 262 = .ok (.goto 4, 3) := by decide +kernel
theorem dX7_advance_265 : decode cX7_advance 265 = .ok (.iconst (-1), 1) := by decide +kernel
theorem dX7_advance_266 : decode cX7_advance 266 = .ok (.putfield 93, 3) := by decide +kernel
theorem dX7_advance_269 : decode cX7_advance 269 = .ok (.aload_n 0, 1) := by decide +kernel
theorem dX7_advance_270 : decode cX7_advance 270 = .ok (.dup, 1) := by decide +kernel
theorem dX7_advance_271 : decode cX7_advance 271 = .ok (.getfield 70, 3) := by decide +kernel
theorem dX7_advance_274 : decode cX7_advance 274 = .ok (.iconst 1, 1) := by decide +kernel
theorem dX7_advance_275 : decode cX7_advance 275 = .ok (.iadd, 1) := by decide +kernel
theorem dX7_advance_276 : decode cX7_advance 276 = .ok (.putfield 70, 3) := by decide +kernel
theorem dX7_advance_279 : decode cX7_advance 279 = .ok (.goto (-72), 3) := by decide +kernel
theorem dX7_advance_282 : decode cX7_advance 282 = .ok (.return_, 1) := by decide +kernel
theorem dX7_isWord_0 : decode cX7_isWord 0 = .ok (.aload_n 0, 1) := by decide +kernel
theorem dX7_isWord_1 : decode cX7_isWord 1 = .ok (.getfield 86, 3) := by decide +kernel
theorem dX7_isWord_4 : decode cX7_isWord 4 = .ok (.iconst 1, 1) := by decide +kernel
theorem dX7_isWord_5 : decode cX7_isWord 5 = .ok (.if_icmp .ne 16, 3) := by decide +kernel
theorem dX7_isWord_8 : decode cX7_isWord 8 = .ok (.aload_n 0, 1) := by decide +kernel
theorem dX7_isWord_9 : decode cX7_isWord 9 = .ok (.getfield 89, 3) := by decide +kernel
theorem dX7_isWord_12 : decode cX7_isWord 12 = .ok (.lload_n 1, 1) := by decide +kernel
theorem dX7_isWord_13 : decode cX7_isWord 13 = .ok (.lcmp, 1) := by decide +kernel
theorem dX7_isWord_14 : decode cX7_isWord 14 = .ok (.ifCond .ne 7, 3) := by decide +kernel
theorem dX7_isWord_17 : decode cX7_isWord 17 = .ok (.iconst 1, 1) := by decide +kernel
theorem dX7_isWord_18 : decode cX7_isWord 18 = .ok (.goto 4, 3) := by decide +kernel
theorem dX7_isWord_21 : decode cX7_isWord 21 = .ok (.iconst 0, 1) := by decide +kernel
theorem dX7_isWord_22 : decode cX7_isWord 22 = .ok (.ireturn, 1) := by decide +kernel
theorem dX7_isMark_0 : decode cX7_isMark 0 = .ok (.aload_n 0, 1) := by decide +kernel
theorem dX7_isMark_1 : decode cX7_isMark 1 = .ok (.getfield 86, 3) := by decide +kernel
theorem dX7_isMark_4 : decode cX7_isMark 4 = .ok (.iconst 3, 1) := by decide +kernel
theorem dX7_isMark_5 : decode cX7_isMark 5 = .ok (.if_icmp .ne 15, 3) := by decide +kernel
theorem dX7_isMark_8 : decode cX7_isMark 8 = .ok (.aload_n 0, 1) := by decide +kernel
theorem dX7_isMark_9 : decode cX7_isMark 9 = .ok (.getfield 93, 3) := by decide +kernel
theorem dX7_isMark_12 : decode cX7_isMark 12 = .ok (.iload_n 1, 1) := by decide +kernel
theorem dX7_isMark_13 : decode cX7_isMark 13 = .ok (.if_icmp .ne 7, 3) := by decide +kernel
theorem dX7_isMark_16 : decode cX7_isMark 16 = .ok (.iconst 1, 1) := by decide +kernel
theorem dX7_isMark_17 : decode cX7_isMark 17 = .ok (.goto 4, 3) := by decide +kernel
theorem dX7_isMark_20 : decode cX7_isMark 20 = .ok (.iconst 0, 1) := by decide +kernel
theorem dX7_isMark_21 : decode cX7_isMark 21 = .ok (.ireturn, 1) := by decide +kernel
theorem dX7_kindHere_0 : decode cX7_kindHere 0 = .ok (.aload_n 0, 1) := by decide +kernel
theorem dX7_kindHere_1 : decode cX7_kindHere 1 = .ok (.ldc2_w 102, 3) := by decide +kernel
theorem dX7_kindHere_4 : decode cX7_kindHere 4 = .ok (.invokevirtual 104, 3) := by decide +kernel
theorem dX7_kindHere_7 : decode cX7_kindHere 7 = .ok (.ifCond .eq 7, 3) := by decide +kernel
theorem dX7_kindHere_10 : decode cX7_kindHere 10 = .ok (.iconst 0, 1) := by decide +kernel
theorem dX7_kindHere_11 : decode cX7_kindHere 11 = .ok (.goto 74, 3) := by decide +kernel
theorem dX7_kindHere_14 : decode cX7_kindHere 14 = .ok (.aload_n 0, 1) := by decide +kernel
theorem dX7_kindHere_15 : decode cX7_kindHere 15 = .ok (.ldc2_w 108, 3) := by decide +kernel
theorem dX7_kindHere_18 : decode cX7_kindHere 18 = .ok (.invokevirtual 104, 3) := by decide +kernel
theorem dX7_kindHere_21 : decode cX7_kindHere 21 = .ok (.ifCond .eq 7, 3) := by decide +kernel
theorem dX7_kindHere_24 : decode cX7_kindHere 24 = .ok (.iconst 1, 1) := by decide +kernel
theorem dX7_kindHere_25 : decode cX7_kindHere 25 = .ok (.goto 60, 3) := by decide +kernel
theorem dX7_kindHere_28 : decode cX7_kindHere 28 = .ok (.aload_n 0, 1) := by decide +kernel
theorem dX7_kindHere_29 : decode cX7_kindHere 29 = .ok (.ldc2_w 110, 3) := by decide +kernel
theorem dX7_kindHere_32 : decode cX7_kindHere 32 = .ok (.invokevirtual 104, 3) := by decide +kernel
theorem dX7_kindHere_35 : decode cX7_kindHere 35 = .ok (.ifCond .eq 7, 3) := by decide +kernel
theorem dX7_kindHere_38 : decode cX7_kindHere 38 = .ok (.iconst 2, 1) := by decide +kernel
theorem dX7_kindHere_39 : decode cX7_kindHere 39 = .ok (.goto 46, 3) := by decide +kernel
theorem dX7_kindHere_42 : decode cX7_kindHere 42 = .ok (.aload_n 0, 1) := by decide +kernel
theorem dX7_kindHere_43 : decode cX7_kindHere 43 = .ok (.ldc2_w 112, 3) := by decide +kernel
theorem dX7_kindHere_46 : decode cX7_kindHere 46 = .ok (.invokevirtual 104, 3) := by decide +kernel
theorem dX7_kindHere_49 : decode cX7_kindHere 49 = .ok (.ifCond .eq 7, 3) := by decide +kernel
theorem dX7_kindHere_52 : decode cX7_kindHere 52 = .ok (.iconst 3, 1) := by decide +kernel
theorem dX7_kindHere_53 : decode cX7_kindHere 53 = .ok (.goto 32, 3) := by decide +kernel
theorem dX7_kindHere_56 : decode cX7_kindHere 56 = .ok (.aload_n 0, 1) := by decide +kernel
theorem dX7_kindHere_57 : decode cX7_kindHere 57 = .ok (.ldc2_w 114, 3) := by decide +kernel
theorem dX7_kindHere_60 : decode cX7_kindHere 60 = .ok (.invokevirtual 104, 3) := by decide +kernel
theorem dX7_kindHere_63 : decode cX7_kindHere 63 = .ok (.ifCond .eq 7, 3) := by decide +kernel
theorem dX7_kindHere_66 : decode cX7_kindHere 66 = .ok (.iconst 4, 1) := by decide +kernel
theorem dX7_kindHere_67 : decode cX7_kindHere 67 = .ok (.goto 18, 3) := by decide +kernel
theorem dX7_kindHere_70 : decode cX7_kindHere 70 = .ok (.aload_n 0, 1) := by decide +kernel
theorem dX7_kindHere_71 : decode cX7_kindHere 71 = .ok (.ldc2_w 116, 3) := by decide +kernel
theorem dX7_kindHere_74 : decode cX7_kindHere 74 = .ok (.invokevirtual 104, 3) := by decide +kernel
theorem dX7_kindHere_77 : decode cX7_kindHere 77 = .ok (.ifCond .eq 7, 3) := by decide +kernel
theorem dX7_kindHere_80 : decode cX7_kindHere 80 = .ok (.iconst 5, 1) := by decide +kernel
theorem dX7_kindHere_81 : decode cX7_kindHere 81 = .ok (.goto 4, 3) := by decide +kernel
theorem dX7_kindHere_84 : decode cX7_kindHere 84 = .ok (.iconst (-1), 1) := by decide +kernel
theorem dX7_kindHere_85 : decode cX7_kindHere 85 = .ok (.ireturn, 1) := by decide +kernel
theorem dX7_pegHere_0 : decode cX7_pegHere 0 = .ok (.aload_n 0, 1) := by decide +kernel
theorem dX7_pegHere_1 : decode cX7_pegHere 1 = .ok (.ldc2_w 118, 3) := by decide +kernel
theorem dX7_pegHere_4 : decode cX7_pegHere 4 = .ok (.invokevirtual 104, 3) := by decide +kernel
theorem dX7_pegHere_7 : decode cX7_pegHere 7 = .ok (.ifCond .eq 7, 3) := by decide +kernel
theorem dX7_pegHere_10 : decode cX7_pegHere 10 = .ok (.iconst 0, 1) := by decide +kernel
theorem dX7_pegHere_11 : decode cX7_pegHere 11 = .ok (.goto 74, 3) := by decide +kernel
theorem dX7_pegHere_14 : decode cX7_pegHere 14 = .ok (.aload_n 0, 1) := by decide +kernel
theorem dX7_pegHere_15 : decode cX7_pegHere 15 = .ok (.ldc2_w 120, 3) := by decide +kernel
theorem dX7_pegHere_18 : decode cX7_pegHere 18 = .ok (.invokevirtual 104, 3) := by decide +kernel
theorem dX7_pegHere_21 : decode cX7_pegHere 21 = .ok (.ifCond .eq 7, 3) := by decide +kernel
theorem dX7_pegHere_24 : decode cX7_pegHere 24 = .ok (.iconst 1, 1) := by decide +kernel
theorem dX7_pegHere_25 : decode cX7_pegHere 25 = .ok (.goto 60, 3) := by decide +kernel
theorem dX7_pegHere_28 : decode cX7_pegHere 28 = .ok (.aload_n 0, 1) := by decide +kernel
theorem dX7_pegHere_29 : decode cX7_pegHere 29 = .ok (.ldc2_w 122, 3) := by decide +kernel
theorem dX7_pegHere_32 : decode cX7_pegHere 32 = .ok (.invokevirtual 104, 3) := by decide +kernel
theorem dX7_pegHere_35 : decode cX7_pegHere 35 = .ok (.ifCond .eq 7, 3) := by decide +kernel
theorem dX7_pegHere_38 : decode cX7_pegHere 38 = .ok (.iconst 2, 1) := by decide +kernel
theorem dX7_pegHere_39 : decode cX7_pegHere 39 = .ok (.goto 46, 3) := by decide +kernel
theorem dX7_pegHere_42 : decode cX7_pegHere 42 = .ok (.aload_n 0, 1) := by decide +kernel
theorem dX7_pegHere_43 : decode cX7_pegHere 43 = .ok (.ldc2_w 124, 3) := by decide +kernel
theorem dX7_pegHere_46 : decode cX7_pegHere 46 = .ok (.invokevirtual 104, 3) := by decide +kernel
theorem dX7_pegHere_49 : decode cX7_pegHere 49 = .ok (.ifCond .eq 7, 3) := by decide +kernel
theorem dX7_pegHere_52 : decode cX7_pegHere 52 = .ok (.iconst 3, 1) := by decide +kernel
theorem dX7_pegHere_53 : decode cX7_pegHere 53 = .ok (.goto 32, 3) := by decide +kernel
theorem dX7_pegHere_56 : decode cX7_pegHere 56 = .ok (.aload_n 0, 1) := by decide +kernel
theorem dX7_pegHere_57 : decode cX7_pegHere 57 = .ok (.ldc2_w 126, 3) := by decide +kernel
theorem dX7_pegHere_60 : decode cX7_pegHere 60 = .ok (.invokevirtual 104, 3) := by decide +kernel
theorem dX7_pegHere_63 : decode cX7_pegHere 63 = .ok (.ifCond .eq 7, 3) := by decide +kernel
theorem dX7_pegHere_66 : decode cX7_pegHere 66 = .ok (.iconst 4, 1) := by decide +kernel
theorem dX7_pegHere_67 : decode cX7_pegHere 67 = .ok (.goto 18, 3) := by decide +kernel
theorem dX7_pegHere_70 : decode cX7_pegHere 70 = .ok (.aload_n 0, 1) := by decide +kernel
theorem dX7_pegHere_71 : decode cX7_pegHere 71 = .ok (.ldc2_w 128, 3) := by decide +kernel
theorem dX7_pegHere_74 : decode cX7_pegHere 74 = .ok (.invokevirtual 104, 3) := by decide +kernel
theorem dX7_pegHere_77 : decode cX7_pegHere 77 = .ok (.ifCond .eq 7, 3) := by decide +kernel
theorem dX7_pegHere_80 : decode cX7_pegHere 80 = .ok (.iconst 5, 1) := by decide +kernel
theorem dX7_pegHere_81 : decode cX7_pegHere 81 = .ok (.goto 4, 3) := by decide +kernel
theorem dX7_pegHere_84 : decode cX7_pegHere 84 = .ok (.iconst (-1), 1) := by decide +kernel
theorem dX7_pegHere_85 : decode cX7_pegHere 85 = .ok (.ireturn, 1) := by decide +kernel
theorem dX7_lawHere_0 : decode cX7_lawHere 0 = .ok (.aload_n 0, 1) := by decide +kernel
theorem dX7_lawHere_1 : decode cX7_lawHere 1 = .ok (.ldc2_w 130, 3) := by decide +kernel
theorem dX7_lawHere_4 : decode cX7_lawHere 4 = .ok (.invokevirtual 104, 3) := by decide +kernel
theorem dX7_lawHere_7 : decode cX7_lawHere 7 = .ok (.ifCond .eq 7, 3) := by decide +kernel
theorem dX7_lawHere_10 : decode cX7_lawHere 10 = .ok (.iconst 0, 1) := by decide +kernel
theorem dX7_lawHere_11 : decode cX7_lawHere 11 = .ok (.goto 46, 3) := by decide +kernel
theorem dX7_lawHere_14 : decode cX7_lawHere 14 = .ok (.aload_n 0, 1) := by decide +kernel
theorem dX7_lawHere_15 : decode cX7_lawHere 15 = .ok (.ldc2_w 132, 3) := by decide +kernel
theorem dX7_lawHere_18 : decode cX7_lawHere 18 = .ok (.invokevirtual 104, 3) := by decide +kernel
theorem dX7_lawHere_21 : decode cX7_lawHere 21 = .ok (.ifCond .eq 7, 3) := by decide +kernel
theorem dX7_lawHere_24 : decode cX7_lawHere 24 = .ok (.iconst 1, 1) := by decide +kernel
theorem dX7_lawHere_25 : decode cX7_lawHere 25 = .ok (.goto 32, 3) := by decide +kernel
theorem dX7_lawHere_28 : decode cX7_lawHere 28 = .ok (.aload_n 0, 1) := by decide +kernel
theorem dX7_lawHere_29 : decode cX7_lawHere 29 = .ok (.ldc2_w 134, 3) := by decide +kernel
theorem dX7_lawHere_32 : decode cX7_lawHere 32 = .ok (.invokevirtual 104, 3) := by decide +kernel
theorem dX7_lawHere_35 : decode cX7_lawHere 35 = .ok (.ifCond .eq 7, 3) := by decide +kernel
theorem dX7_lawHere_38 : decode cX7_lawHere 38 = .ok (.iconst 2, 1) := by decide +kernel
theorem dX7_lawHere_39 : decode cX7_lawHere 39 = .ok (.goto 18, 3) := by decide +kernel
theorem dX7_lawHere_42 : decode cX7_lawHere 42 = .ok (.aload_n 0, 1) := by decide +kernel
theorem dX7_lawHere_43 : decode cX7_lawHere 43 = .ok (.ldc2_w 136, 3) := by decide +kernel
theorem dX7_lawHere_46 : decode cX7_lawHere 46 = .ok (.invokevirtual 104, 3) := by decide +kernel
theorem dX7_lawHere_49 : decode cX7_lawHere 49 = .ok (.ifCond .eq 7, 3) := by decide +kernel
theorem dX7_lawHere_52 : decode cX7_lawHere 52 = .ok (.iconst 3, 1) := by decide +kernel
theorem dX7_lawHere_53 : decode cX7_lawHere 53 = .ok (.goto 4, 3) := by decide +kernel
theorem dX7_lawHere_56 : decode cX7_lawHere 56 = .ok (.iconst (-1), 1) := by decide +kernel
theorem dX7_lawHere_57 : decode cX7_lawHere 57 = .ok (.ireturn, 1) := by decide +kernel
theorem dX7_wantNumber_0 : decode cX7_wantNumber 0 = .ok (.aload_n 0, 1) := by decide +kernel
theorem dX7_wantNumber_1 : decode cX7_wantNumber 1 = .ok (.getfield 93, 3) := by decide +kernel
theorem dX7_wantNumber_4 : decode cX7_wantNumber 4 = .ok (.istore_n 3, 1) := by decide +kernel
theorem dX7_wantNumber_5 : decode cX7_wantNumber 5 = .ok (.aload_n 0, 1) := by decide +kernel
theorem dX7_wantNumber_6 : decode cX7_wantNumber 6 = .ok (.aload_n 0, 1) := by decide +kernel
theorem dX7_wantNumber_7 : decode cX7_wantNumber 7 = .ok (.getfield 138, 3) := by decide +kernel
theorem dX7_wantNumber_10 : decode cX7_wantNumber 10 = .ok (.ifCond .eq 24, 3) := by decide +kernel
theorem dX7_wantNumber_13 : decode cX7_wantNumber 13 = .ok (.aload_n 0, 1) := by decide +kernel
theorem dX7_wantNumber_14 : decode cX7_wantNumber 14 = .ok (.getfield 86, 3) := by decide +kernel
theorem dX7_wantNumber_17 : decode cX7_wantNumber 17 = .ok (.iconst 2, 1) := by decide +kernel
theorem dX7_wantNumber_18 : decode cX7_wantNumber 18 = .ok (.if_icmp .ne 16, 3) := by decide +kernel
theorem dX7_wantNumber_21 : decode cX7_wantNumber 21 = .ok (.iload_n 3, 1) := by decide +kernel
theorem dX7_wantNumber_22 : decode cX7_wantNumber 22 = .ok (.iload_n 1, 1) := by decide +kernel
theorem dX7_wantNumber_23 : decode cX7_wantNumber 23 = .ok (.iload_n 2, 1) := by decide +kernel
theorem dX7_wantNumber_24 : decode cX7_wantNumber 24 = .ok (.invokestatic 60, 3) := by decide +kernel
theorem dX7_wantNumber_27 : decode cX7_wantNumber 27 = .ok (.ifCond .eq 7, 3) := by decide +kernel
theorem dX7_wantNumber_30 : decode cX7_wantNumber 30 = .ok (.iconst 1, 1) := by decide +kernel
theorem dX7_wantNumber_31 : decode cX7_wantNumber 31 = .ok (.goto 4, 3) := by decide +kernel
theorem dX7_wantNumber_34 : decode cX7_wantNumber 34 = .ok (.iconst 0, 1) := by decide +kernel
theorem dX7_wantNumber_35 : decode cX7_wantNumber 35 = .ok (.putfield 138, 3) := by decide +kernel
theorem dX7_wantNumber_38 : decode cX7_wantNumber 38 = .ok (.aload_n 0, 1) := by decide +kernel
theorem dX7_wantNumber_39 : decode cX7_wantNumber 39 = .ok (.getfield 138, 3) := by decide +kernel
theorem dX7_wantNumber_42 : decode cX7_wantNumber 42 = .ok (.ifCond .eq 7, 3) := by decide +kernel
theorem dX7_wantNumber_45 : decode cX7_wantNumber 45 = .ok (.aload_n 0, 1) := by decide +kernel
theorem dX7_wantNumber_46 : decode cX7_wantNumber 46 = .ok (.invokevirtual 142, 3) := by decide +kernel
theorem dX7_wantNumber_49 : decode cX7_wantNumber 49 = .ok (.iload_n 3, 1) := by decide +kernel
theorem dX7_wantNumber_50 : decode cX7_wantNumber 50 = .ok (.ireturn, 1) := by decide +kernel
theorem dX7_wantEnd_0 : decode cX7_wantEnd 0 = .ok (.aload_n 0, 1) := by decide +kernel
theorem dX7_wantEnd_1 : decode cX7_wantEnd 1 = .ok (.aload_n 0, 1) := by decide +kernel
theorem dX7_wantEnd_2 : decode cX7_wantEnd 2 = .ok (.getfield 138, 3) := by decide +kernel
theorem dX7_wantEnd_5 : decode cX7_wantEnd 5 = .ok (.ifCond .eq 16, 3) := by decide +kernel
theorem dX7_wantEnd_8 : decode cX7_wantEnd 8 = .ok (.aload_n 0, 1) := by decide +kernel
theorem dX7_wantEnd_9 : decode cX7_wantEnd 9 = .ok (.bipush 59, 2) := by decide +kernel
theorem dX7_wantEnd_11 : decode cX7_wantEnd 11 = .ok (.invokevirtual 145, 3) := by decide +kernel
theorem dX7_wantEnd_14 : decode cX7_wantEnd 14 = .ok (.ifCond .eq 7, 3) := by decide +kernel
theorem dX7_wantEnd_17 : decode cX7_wantEnd 17 = .ok (.iconst 1, 1) := by decide +kernel
theorem dX7_wantEnd_18 : decode cX7_wantEnd 18 = .ok (.goto 4, 3) := by decide +kernel
theorem dX7_wantEnd_21 : decode cX7_wantEnd 21 = .ok (.iconst 0, 1) := by decide +kernel
theorem dX7_wantEnd_22 : decode cX7_wantEnd 22 = .ok (.putfield 138, 3) := by decide +kernel
theorem dX7_wantEnd_25 : decode cX7_wantEnd 25 = .ok (.aload_n 0, 1) := by decide +kernel
theorem dX7_wantEnd_26 : decode cX7_wantEnd 26 = .ok (.getfield 138, 3) := by decide +kernel
theorem dX7_wantEnd_29 : decode cX7_wantEnd 29 = .ok (.ifCond .eq 7, 3) := by decide +kernel
theorem dX7_wantEnd_32 : decode cX7_wantEnd 32 = .ok (.aload_n 0, 1) := by decide +kernel
theorem dX7_wantEnd_33 : decode cX7_wantEnd 33 = .ok (.invokevirtual 142, 3) := by decide +kernel
theorem dX7_wantEnd_36 : decode cX7_wantEnd 36 = .ok (.return_, 1) := by decide +kernel
theorem dX7_wantWord_0 : decode cX7_wantWord 0 = .ok (.aload_n 0, 1) := by decide +kernel
theorem dX7_wantWord_1 : decode cX7_wantWord 1 = .ok (.aload_n 0, 1) := by decide +kernel
theorem dX7_wantWord_2 : decode cX7_wantWord 2 = .ok (.getfield 138, 3) := by decide +kernel
theorem dX7_wantWord_5 : decode cX7_wantWord 5 = .ok (.ifCond .eq 15, 3) := by decide +kernel
theorem dX7_wantWord_8 : decode cX7_wantWord 8 = .ok (.aload_n 0, 1) := by decide +kernel
theorem dX7_wantWord_9 : decode cX7_wantWord 9 = .ok (.lload_n 1, 1) := by decide +kernel
theorem dX7_wantWord_10 : decode cX7_wantWord 10 = .ok (.invokevirtual 104, 3) := by decide +kernel
theorem dX7_wantWord_13 : decode cX7_wantWord 13 = .ok (.ifCond .eq 7, 3) := by decide +kernel
theorem dX7_wantWord_16 : decode cX7_wantWord 16 = .ok (.iconst 1, 1) := by decide +kernel
theorem dX7_wantWord_17 : decode cX7_wantWord 17 = .ok (.goto 4, 3) := by decide +kernel
theorem dX7_wantWord_20 : decode cX7_wantWord 20 = .ok (.iconst 0, 1) := by decide +kernel
theorem dX7_wantWord_21 : decode cX7_wantWord 21 = .ok (.putfield 138, 3) := by decide +kernel
theorem dX7_wantWord_24 : decode cX7_wantWord 24 = .ok (.aload_n 0, 1) := by decide +kernel
theorem dX7_wantWord_25 : decode cX7_wantWord 25 = .ok (.getfield 138, 3) := by decide +kernel
theorem dX7_wantWord_28 : decode cX7_wantWord 28 = .ok (.ifCond .eq 7, 3) := by decide +kernel
theorem dX7_wantWord_31 : decode cX7_wantWord 31 = .ok (.aload_n 0, 1) := by decide +kernel
theorem dX7_wantWord_32 : decode cX7_wantWord 32 = .ok (.invokevirtual 142, 3) := by decide +kernel
theorem dX7_wantWord_35 : decode cX7_wantWord 35 = .ok (.return_, 1) := by decide +kernel
theorem dX7_may_0 : decode cX7_may 0 = .ok (.aload_n 0, 1) := by decide +kernel
theorem dX7_may_1 : decode cX7_may 1 = .ok (.getfield 138, 3) := by decide +kernel
theorem dX7_may_4 : decode cX7_may 4 = .ok (.ifCond .eq 15, 3) := by decide +kernel
theorem dX7_may_7 : decode cX7_may 7 = .ok (.aload_n 0, 1) := by decide +kernel
theorem dX7_may_8 : decode cX7_may 8 = .ok (.lload_n 1, 1) := by decide +kernel
theorem dX7_may_9 : decode cX7_may 9 = .ok (.invokevirtual 104, 3) := by decide +kernel
theorem dX7_may_12 : decode cX7_may 12 = .ok (.ifCond .eq 7, 3) := by decide +kernel
theorem dX7_may_15 : decode cX7_may 15 = .ok (.iconst 1, 1) := by decide +kernel
theorem dX7_may_16 : decode cX7_may 16 = .ok (.goto 4, 3) := by decide +kernel
theorem dX7_may_19 : decode cX7_may 19 = .ok (.iconst 0, 1) := by decide +kernel
theorem dX7_may_20 : decode cX7_may 20 = .ok (.istore_n 3, 1) := by decide +kernel
theorem dX7_may_21 : decode cX7_may 21 = .ok (.iload_n 3, 1) := by decide +kernel
theorem dX7_may_22 : decode cX7_may 22 = .ok (.ifCond .eq 7, 3) := by decide +kernel
theorem dX7_may_25 : decode cX7_may 25 = .ok (.aload_n 0, 1) := by decide +kernel
theorem dX7_may_26 : decode cX7_may 26 = .ok (.invokevirtual 142, 3) := by decide +kernel
theorem dX7_may_29 : decode cX7_may 29 = .ok (.iload_n 3, 1) := by decide +kernel
theorem dX7_may_30 : decode cX7_may 30 = .ok (.ireturn, 1) := by decide +kernel
theorem dX7_wantPeg_0 : decode cX7_wantPeg 0 = .ok (.aload_n 0, 1) := by decide +kernel
theorem dX7_wantPeg_1 : decode cX7_wantPeg 1 = .ok (.invokevirtual 148, 3) := by decide +kernel
theorem dX7_wantPeg_4 : decode cX7_wantPeg 4 = .ok (.istore_n 1, 1) := by decide +kernel
theorem dX7_wantPeg_5 : decode cX7_wantPeg 5 = .ok (.aload_n 0, 1) := by decide +kernel
theorem dX7_wantPeg_6 : decode cX7_wantPeg 6 = .ok (.aload_n 0, 1) := by decide +kernel
theorem dX7_wantPeg_7 : decode cX7_wantPeg 7 = .ok (.getfield 138, 3) := by decide +kernel
theorem dX7_wantPeg_10 : decode cX7_wantPeg 10 = .ok (.ifCond .eq 11, 3) := by decide +kernel
theorem dX7_wantPeg_13 : decode cX7_wantPeg 13 = .ok (.iload_n 1, 1) := by decide +kernel
theorem dX7_wantPeg_14 : decode cX7_wantPeg 14 = .ok (.ifCond .lt 7, 3) := by decide +kernel
theorem dX7_wantPeg_17 : decode cX7_wantPeg 17 = .ok (.iconst 1, 1) := by decide +kernel
theorem dX7_wantPeg_18 : decode cX7_wantPeg 18 = .ok (.goto 4, 3) := by decide +kernel
theorem dX7_wantPeg_21 : decode cX7_wantPeg 21 = .ok (.iconst 0, 1) := by decide +kernel
theorem dX7_wantPeg_22 : decode cX7_wantPeg 22 = .ok (.putfield 138, 3) := by decide +kernel
theorem dX7_wantPeg_25 : decode cX7_wantPeg 25 = .ok (.aload_n 0, 1) := by decide +kernel
theorem dX7_wantPeg_26 : decode cX7_wantPeg 26 = .ok (.getfield 138, 3) := by decide +kernel
theorem dX7_wantPeg_29 : decode cX7_wantPeg 29 = .ok (.ifCond .eq 7, 3) := by decide +kernel
theorem dX7_wantPeg_32 : decode cX7_wantPeg 32 = .ok (.aload_n 0, 1) := by decide +kernel
theorem dX7_wantPeg_33 : decode cX7_wantPeg 33 = .ok (.invokevirtual 142, 3) := by decide +kernel
theorem dX7_wantPeg_36 : decode cX7_wantPeg 36 = .ok (.iload_n 1, 1) := by decide +kernel
theorem dX7_wantPeg_37 : decode cX7_wantPeg 37 = .ok (.ireturn, 1) := by decide +kernel
theorem dX7_wantOne_0 : decode cX7_wantOne 0 = .ok (.aload_n 0, 1) := by decide +kernel
theorem dX7_wantOne_1 : decode cX7_wantOne 1 = .ok (.aload_n 0, 1) := by decide +kernel
theorem dX7_wantOne_2 : decode cX7_wantOne 2 = .ok (.getfield 13, 3) := by decide +kernel
theorem dX7_wantOne_5 : decode cX7_wantOne 5 = .ok (.iconst 5, 1) := by decide +kernel
theorem dX7_wantOne_6 : decode cX7_wantOne 6 = .ok (.iaload, 1) := by decide +kernel
theorem dX7_wantOne_7 : decode cX7_wantOne 7 = .ok (.bipush 8, 2) := by decide +kernel
theorem dX7_wantOne_9 : decode cX7_wantOne 9 = .ok (.if_icmp .ge 7, 3) := by decide +kernel
theorem dX7_wantOne_12 : decode cX7_wantOne 12 = .ok (.iconst 1, 1) := by decide +kernel
theorem dX7_wantOne_13 : decode cX7_wantOne 13 = .ok (.goto 4, 3) := by decide +kernel
theorem dX7_wantOne_16 : decode cX7_wantOne 16 = .ok (.iconst 0, 1) := by decide +kernel
theorem dX7_wantOne_17 : decode cX7_wantOne 17 = .ok (.putfield 138, 3) := by decide +kernel
theorem dX7_wantOne_20 : decode cX7_wantOne 20 = .ok (.aload_n 0, 1) := by decide +kernel
theorem dX7_wantOne_21 : decode cX7_wantOne 21 = .ok (.getfield 138, 3) := by decide +kernel
theorem dX7_wantOne_24 : decode cX7_wantOne 24 = .ok (.ifCond .eq 7, 3) := by decide +kernel
theorem dX7_wantOne_27 : decode cX7_wantOne 27 = .ok (.aload_n 0, 1) := by decide +kernel
theorem dX7_wantOne_28 : decode cX7_wantOne 28 = .ok (.invokevirtual 142, 3) := by decide +kernel
theorem dX7_wantOne_31 : decode cX7_wantOne 31 = .ok (.aload_n 0, 1) := by decide +kernel
theorem dX7_wantOne_32 : decode cX7_wantOne 32 = .ok (.ldc2_w 152, 3) := by decide +kernel
theorem dX7_wantOne_35 : decode cX7_wantOne 35 = .ok (.invokevirtual 154, 3) := by decide +kernel
theorem dX7_wantOne_38 : decode cX7_wantOne 38 = .ok (.aload_n 0, 1) := by decide +kernel
theorem dX7_wantOne_39 : decode cX7_wantOne 39 = .ok (.iconst 0, 1) := by decide +kernel
theorem dX7_wantOne_40 : decode cX7_wantOne 40 = .ok (.bipush 11, 2) := by decide +kernel
theorem dX7_wantOne_42 : decode cX7_wantOne 42 = .ok (.invokevirtual 158, 3) := by decide +kernel
theorem dX7_wantOne_45 : decode cX7_wantOne 45 = .ok (.istore_n 2, 1) := by decide +kernel
theorem dX7_wantOne_46 : decode cX7_wantOne 46 = .ok (.aload_n 0, 1) := by decide +kernel
theorem dX7_wantOne_47 : decode cX7_wantOne 47 = .ok (.ldc2_w 162, 3) := by decide +kernel
theorem dX7_wantOne_50 : decode cX7_wantOne 50 = .ok (.invokevirtual 164, 3) := by decide +kernel
theorem dX7_wantOne_53 : decode cX7_wantOne 53 = .ok (.ifCond .eq 13, 3) := by decide +kernel
theorem dX7_wantOne_56 : decode cX7_wantOne 56 = .ok (.aload_n 0, 1) := by decide +kernel
theorem dX7_wantOne_57 : decode cX7_wantOne 57 = .ok (.iconst 0, 1) := by decide +kernel
theorem dX7_wantOne_58 : decode cX7_wantOne 58 = .ok (.bipush 99, 2) := by decide +kernel
theorem dX7_wantOne_60 : decode cX7_wantOne 60 = .ok (.invokevirtual 158, 3) := by decide +kernel
theorem dX7_wantOne_63 : decode cX7_wantOne 63 = .ok (.goto 4, 3) := by decide +kernel
theorem dX7_wantOne_66 : decode cX7_wantOne 66 = .ok (.iconst 0, 1) := by decide +kernel
theorem dX7_wantOne_67 : decode cX7_wantOne 67 = .ok (.istore_n 3, 1) := by decide +kernel
theorem dX7_wantOne_68 : decode cX7_wantOne 68 = .ok (.aload_n 0, 1) := by decide +kernel
theorem dX7_wantOne_69 : decode cX7_wantOne 69 = .ok (.ldc2_w 167, 3) := by decide +kernel
theorem dX7_wantOne_72 : decode cX7_wantOne 72 = .ok (.invokevirtual 164, 3) := by decide +kernel
theorem dX7_wantOne_75 : decode cX7_wantOne 75 = .ok (.ifCond .eq 10, 3) := by decide +kernel
theorem dX7_wantOne_78 : decode cX7_wantOne 78 = .ok (.aload_n 0, 1) := by decide +kernel
theorem dX7_wantOne_79 : decode cX7_wantOne 79 = .ok (.invokevirtual 169, 3) := by decide +kernel
theorem dX7_wantOne_82 : decode cX7_wantOne 82 = .ok (.goto 4, 3) := by decide +kernel
theorem dX7_wantOne_85 : decode cX7_wantOne 85 = .ok (.iconst 0, 1) := by decide +kernel
theorem dX7_wantOne_86 : decode cX7_wantOne 86 = .ok (.istore 4, 2) := by decide +kernel
theorem dX7_wantOne_88 : decode cX7_wantOne 88 = .ok (.aload_n 0, 1) := by decide +kernel
theorem dX7_wantOne_89 : decode cX7_wantOne 89 = .ok (.invokevirtual 172, 3) := by decide +kernel
theorem dX7_wantOne_92 : decode cX7_wantOne 92 = .ok (.aload_n 0, 1) := by decide +kernel
theorem dX7_wantOne_93 : decode cX7_wantOne 93 = .ok (.getfield 138, 3) := by decide +kernel
theorem dX7_wantOne_96 : decode cX7_wantOne 96 = .ok (.ifCond .eq 75, 3) := by decide +kernel
theorem dX7_wantOne_99 : decode cX7_wantOne 99 = .ok (.bipush 13, 2) := by decide +kernel
theorem dX7_wantOne_101 : decode cX7_wantOne 101 = .ok (.iconst 5, 1) := by decide +kernel
theorem dX7_wantOne_102 : decode cX7_wantOne 102 = .ok (.aload_n 0, 1) := by decide +kernel
theorem dX7_wantOne_103 : decode cX7_wantOne 103 = .ok (.getfield 13, 3) := by decide +kernel
theorem dX7_wantOne_106 : decode cX7_wantOne 106 = .ok (.iconst 5, 1) := by decide +kernel
theorem dX7_wantOne_107 : decode cX7_wantOne 107 = .ok (.iaload, 1) := by decide +kernel
theorem dX7_wantOne_108 : decode cX7_wantOne 108 = .ok (.imul, 1) := by decide +kernel
theorem dX7_wantOne_109 : decode cX7_wantOne 109 = .ok (.iadd, 1) := by decide +kernel
theorem dX7_wantOne_110 : decode cX7_wantOne 110 = .ok (.istore 5, 2) := by decide +kernel
theorem dX7_wantOne_112 : decode cX7_wantOne 112 = .ok (.aload_n 0, 1) := by decide +kernel
theorem dX7_wantOne_113 : decode cX7_wantOne 113 = .ok (.getfield 13, 3) := by decide +kernel
theorem dX7_wantOne_116 : decode cX7_wantOne 116 = .ok (.iload 5, 2) := by decide +kernel
theorem dX7_wantOne_118 : decode cX7_wantOne 118 = .ok (.iload_n 1, 1) := by decide +kernel
theorem dX7_wantOne_119 : decode cX7_wantOne 119 = .ok (.iastore, 1) := by decide +kernel
theorem dX7_wantOne_120 : decode cX7_wantOne 120 = .ok (.aload_n 0, 1) := by decide +kernel
theorem dX7_wantOne_121 : decode cX7_wantOne 121 = .ok (.getfield 13, 3) := by decide +kernel
theorem dX7_wantOne_124 : decode cX7_wantOne 124 = .ok (.iload 5, 2) := by decide +kernel
theorem dX7_wantOne_126 : decode cX7_wantOne 126 = .ok (.iconst 1, 1) := by decide +kernel
theorem dX7_wantOne_127 : decode cX7_wantOne 127 = .ok (.iadd, 1) := by decide +kernel
theorem dX7_wantOne_128 : decode cX7_wantOne 128 = .ok (.iload 4, 2) := by decide +kernel
theorem dX7_wantOne_130 : decode cX7_wantOne 130 = .ok (.iastore, 1) := by decide +kernel
theorem dX7_wantOne_131 : decode cX7_wantOne 131 = .ok (.aload_n 0, 1) := by decide +kernel
theorem dX7_wantOne_132 : decode cX7_wantOne 132 = .ok (.getfield 13, 3) := by decide +kernel
theorem dX7_wantOne_135 : decode cX7_wantOne 135 = .ok (.iload 5, 2) := by decide +kernel
theorem dX7_wantOne_137 : decode cX7_wantOne 137 = .ok (.iconst 2, 1) := by decide +kernel
theorem dX7_wantOne_138 : decode cX7_wantOne 138 = .ok (.iadd, 1) := by decide +kernel
theorem dX7_wantOne_139 : decode cX7_wantOne 139 = .ok (.iload_n 3, 1) := by decide +kernel
theorem dX7_wantOne_140 : decode cX7_wantOne 140 = .ok (.iastore, 1) := by decide +kernel
theorem dX7_wantOne_141 : decode cX7_wantOne 141 = .ok (.aload_n 0, 1) := by decide +kernel
theorem dX7_wantOne_142 : decode cX7_wantOne 142 = .ok (.getfield 13, 3) := by decide +kernel
theorem dX7_wantOne_145 : decode cX7_wantOne 145 = .ok (.iload 5, 2) := by decide +kernel
theorem dX7_wantOne_147 : decode cX7_wantOne 147 = .ok (.iconst 3, 1) := by decide +kernel
theorem dX7_wantOne_148 : decode cX7_wantOne 148 = .ok (.iadd, 1) := by decide +kernel
theorem dX7_wantOne_149 : decode cX7_wantOne 149 = .ok (.iload_n 2, 1) := by decide +kernel
theorem dX7_wantOne_150 : decode cX7_wantOne 150 = .ok (.iastore, 1) := by decide +kernel
theorem dX7_wantOne_151 : decode cX7_wantOne 151 = .ok (.aload_n 0, 1) := by decide +kernel
theorem dX7_wantOne_152 : decode cX7_wantOne 152 = .ok (.getfield 13, 3) := by decide +kernel
theorem dX7_wantOne_155 : decode cX7_wantOne 155 = .ok (.iload 5, 2) := by decide +kernel
theorem dX7_wantOne_157 : decode cX7_wantOne 157 = .ok (.iconst 4, 1) := by decide +kernel
theorem dX7_wantOne_158 : decode cX7_wantOne 158 = .ok (.iadd, 1) := by decide +kernel
theorem dX7_wantOne_159 : decode cX7_wantOne 159 = .ok (.iconst 0, 1) := by decide +kernel
theorem dX7_wantOne_160 : decode cX7_wantOne 160 = .ok (.iastore, 1) := by decide +kernel
theorem dX7_wantOne_161 : decode cX7_wantOne 161 = .ok (.aload_n 0, 1) := by decide +kernel
theorem dX7_wantOne_162 : decode cX7_wantOne 162 = .ok (.getfield 13, 3) := by decide +kernel
theorem dX7_wantOne_165 : decode cX7_wantOne 165 = .ok (.iconst 5, 1) := by decide +kernel
theorem dX7_wantOne_166 : decode cX7_wantOne 166 = .ok (.dup2, 1) := by decide +kernel
theorem dX7_wantOne_167 : decode cX7_wantOne 167 = .ok (.iaload, 1) := by decide +kernel
theorem dX7_wantOne_168 : decode cX7_wantOne 168 = .ok (.iconst 1, 1) := by decide +kernel
theorem dX7_wantOne_169 : decode cX7_wantOne 169 = .ok (.iadd, 1) := by decide +kernel
theorem dX7_wantOne_170 : decode cX7_wantOne 170 = .ok (.iastore, 1) := by decide +kernel
theorem dX7_wantOne_171 : decode cX7_wantOne 171 = .ok (.return_, 1) := by decide +kernel
theorem dX7_wantClause_0 : decode cX7_wantClause 0 = .ok (.aload_n 0, 1) := by decide +kernel
theorem dX7_wantClause_1 : decode cX7_wantClause 1 = .ok (.invokevirtual 175, 3) := by decide +kernel
theorem dX7_wantClause_4 : decode cX7_wantClause 4 = .ok (.istore_n 1, 1) := by decide +kernel
theorem dX7_wantClause_5 : decode cX7_wantClause 5 = .ok (.aload_n 0, 1) := by decide +kernel
theorem dX7_wantClause_6 : decode cX7_wantClause 6 = .ok (.invokevirtual 148, 3) := by decide +kernel
theorem dX7_wantClause_9 : decode cX7_wantClause 9 = .ok (.istore_n 2, 1) := by decide +kernel
theorem dX7_wantClause_10 : decode cX7_wantClause 10 = .ok (.aload_n 0, 1) := by decide +kernel
theorem dX7_wantClause_11 : decode cX7_wantClause 11 = .ok (.invokevirtual 178, 3) := by decide +kernel
theorem dX7_wantClause_14 : decode cX7_wantClause 14 = .ok (.ifCond .lt 14, 3) := by decide +kernel
theorem dX7_wantClause_17 : decode cX7_wantClause 17 = .ok (.aload_n 0, 1) := by decide +kernel
theorem dX7_wantClause_18 : decode cX7_wantClause 18 = .ok (.aload_n 0, 1) := by decide +kernel
theorem dX7_wantClause_19 : decode cX7_wantClause 19 = .ok (.invokevirtual 178, 3) := by decide +kernel
theorem dX7_wantClause_22 : decode cX7_wantClause 22 = .ok (.invokevirtual 181, 3) := by decide +kernel
theorem dX7_wantClause_25 : decode cX7_wantClause 25 = .ok (.goto 76, 3) := by decide +kernel
theorem dX7_wantClause_28 : decode cX7_wantClause 28 = .ok (.iload_n 1, 1) := by decide +kernel
theorem dX7_wantClause_29 : decode cX7_wantClause 29 = .ok (.ifCond .lt 29, 3) := by decide +kernel
theorem dX7_wantClause_32 : decode cX7_wantClause 32 = .ok (.aload_n 0, 1) := by decide +kernel
theorem dX7_wantClause_33 : decode cX7_wantClause 33 = .ok (.invokevirtual 142, 3) := by decide +kernel
theorem dX7_wantClause_36 : decode cX7_wantClause 36 = .ok (.aload_n 0, 1) := by decide +kernel
theorem dX7_wantClause_37 : decode cX7_wantClause 37 = .ok (.getfield 13, 3) := by decide +kernel
theorem dX7_wantClause_40 : decode cX7_wantClause 40 = .ok (.iload_n 1, 1) := by decide +kernel
theorem dX7_wantClause_41 : decode cX7_wantClause 41 = .ok (.aload_n 0, 1) := by decide +kernel
theorem dX7_wantClause_42 : decode cX7_wantClause 42 = .ok (.iconst 0, 1) := by decide +kernel
theorem dX7_wantClause_43 : decode cX7_wantClause 43 = .ok (.iload_n 1, 1) := by decide +kernel
theorem dX7_wantClause_44 : decode cX7_wantClause 44 = .ok (.invokestatic 185, 3) := by decide +kernel
theorem dX7_wantClause_47 : decode cX7_wantClause 47 = .ok (.invokevirtual 158, 3) := by decide +kernel
theorem dX7_wantClause_50 : decode cX7_wantClause 50 = .ok (.iastore, 1) := by decide +kernel
theorem dX7_wantClause_51 : decode cX7_wantClause 51 = .ok (.aload_n 0, 1) := by decide +kernel
theorem dX7_wantClause_52 : decode cX7_wantClause 52 = .ok (.invokevirtual 172, 3) := by decide +kernel
theorem dX7_wantClause_55 : decode cX7_wantClause 55 = .ok (.goto 46, 3) := by decide +kernel
theorem dX7_wantClause_58 : decode cX7_wantClause 58 = .ok (.iload_n 2, 1) := by decide +kernel
theorem dX7_wantClause_59 : decode cX7_wantClause 59 = .ok (.ifCond .lt 37, 3) := by decide +kernel
theorem dX7_wantClause_62 : decode cX7_wantClause 62 = .ok (.aload_n 0, 1) := by decide +kernel
theorem dX7_wantClause_63 : decode cX7_wantClause 63 = .ok (.invokevirtual 142, 3) := by decide +kernel
theorem dX7_wantClause_66 : decode cX7_wantClause 66 = .ok (.aload_n 0, 1) := by decide +kernel
theorem dX7_wantClause_67 : decode cX7_wantClause 67 = .ok (.ldc2_w 188, 3) := by decide +kernel
theorem dX7_wantClause_70 : decode cX7_wantClause 70 = .ok (.invokevirtual 154, 3) := by decide +kernel
theorem dX7_wantClause_73 : decode cX7_wantClause 73 = .ok (.aload_n 0, 1) := by decide +kernel
theorem dX7_wantClause_74 : decode cX7_wantClause 74 = .ok (.getfield 13, 3) := by decide +kernel
theorem dX7_wantClause_77 : decode cX7_wantClause 77 = .ok (.bipush 7, 2) := by decide +kernel
theorem dX7_wantClause_79 : decode cX7_wantClause 79 = .ok (.iload_n 2, 1) := by decide +kernel
theorem dX7_wantClause_80 : decode cX7_wantClause 80 = .ok (.iadd, 1) := by decide +kernel
theorem dX7_wantClause_81 : decode cX7_wantClause 81 = .ok (.aload_n 0, 1) := by decide +kernel
theorem dX7_wantClause_82 : decode cX7_wantClause 82 = .ok (.iconst 0, 1) := by decide +kernel
theorem dX7_wantClause_83 : decode cX7_wantClause 83 = .ok (.bipush 99, 2) := by decide +kernel
theorem dX7_wantClause_85 : decode cX7_wantClause 85 = .ok (.invokevirtual 158, 3) := by decide +kernel
theorem dX7_wantClause_88 : decode cX7_wantClause 88 = .ok (.iastore, 1) := by decide +kernel
theorem dX7_wantClause_89 : decode cX7_wantClause 89 = .ok (.aload_n 0, 1) := by decide +kernel
theorem dX7_wantClause_90 : decode cX7_wantClause 90 = .ok (.invokevirtual 172, 3) := by decide +kernel
theorem dX7_wantClause_93 : decode cX7_wantClause 93 = .ok (.goto 8, 3) := by decide +kernel
theorem dX7_wantClause_96 : decode cX7_wantClause 96 = .ok (.aload_n 0, 1) := by decide +kernel
theorem dX7_wantClause_97 : decode cX7_wantClause 97 = .ok (.iconst 0, 1) := by decide +kernel
theorem dX7_wantClause_98 : decode cX7_wantClause 98 = .ok (.putfield 138, 3) := by decide +kernel
theorem dX7_wantClause_101 : decode cX7_wantClause 101 = .ok (.return_, 1) := by decide +kernel
theorem dX7_school_0 : decode cX7_school 0 = .ok (.aload_n 0, 1) := by decide +kernel
theorem dX7_school_1 : decode cX7_school 1 = .ok (.iconst 0, 1) := by decide +kernel
theorem dX7_school_2 : decode cX7_school 2 = .ok (.putfield 70, 3) := by decide +kernel
theorem dX7_school_5 : decode cX7_school 5 = .ok (.aload_n 0, 1) := by decide +kernel
theorem dX7_school_6 : decode cX7_school 6 = .ok (.iconst 1, 1) := by decide +kernel
theorem dX7_school_7 : decode cX7_school 7 = .ok (.putfield 138, 3) := by decide +kernel
theorem dX7_school_10 : decode cX7_school 10 = .ok (.aload_n 0, 1) := by decide +kernel
theorem dX7_school_11 : decode cX7_school 11 = .ok (.getfield 13, 3) := by decide +kernel
theorem dX7_school_14 : decode cX7_school 14 = .ok (.invokestatic 56, 3) := by decide +kernel
theorem dX7_school_17 : decode cX7_school 17 = .ok (.aload_n 0, 1) := by decide +kernel
theorem dX7_school_18 : decode cX7_school 18 = .ok (.invokevirtual 142, 3) := by decide +kernel
theorem dX7_school_21 : decode cX7_school 21 = .ok (.aload_n 0, 1) := by decide +kernel
theorem dX7_school_22 : decode cX7_school 22 = .ok (.getfield 138, 3) := by decide +kernel
theorem dX7_school_25 : decode cX7_school 25 = .ok (.ifCond .eq 17, 3) := by decide +kernel
theorem dX7_school_28 : decode cX7_school 28 = .ok (.aload_n 0, 1) := by decide +kernel
theorem dX7_school_29 : decode cX7_school 29 = .ok (.getfield 86, 3) := by decide +kernel
theorem dX7_school_32 : decode cX7_school 32 = .ok (.ifCond .eq 10, 3) := by decide +kernel
theorem dX7_school_35 : decode cX7_school 35 = .ok (.aload_n 0, 1) := by decide +kernel
theorem dX7_school_36 : decode cX7_school 36 = .ok (.invokevirtual 190, 3) := by decide +kernel
theorem dX7_school_39 : decode cX7_school 39 = .ok (.goto (-18), 3) := by decide +kernel
theorem dX7_school_42 : decode cX7_school 42 = .ok (.aload_n 0, 1) := by decide +kernel
theorem dX7_school_43 : decode cX7_school 43 = .ok (.iconst 0, 1) := by decide +kernel
theorem dX7_school_44 : decode cX7_school 44 = .ok (.putfield 64, 3) := by decide +kernel
theorem dX7_school_47 : decode cX7_school 47 = .ok (.aload_n 0, 1) := by decide +kernel
theorem dX7_school_48 : decode cX7_school 48 = .ok (.getfield 138, 3) := by decide +kernel
theorem dX7_school_51 : decode cX7_school 51 = .ok (.ifCond .ne 11, 3) := by decide +kernel
theorem dX7_school_54 : decode cX7_school 54 = .ok (.bipush (-100), 2) := by decide +kernel
theorem dX7_school_56 : decode cX7_school 56 = .ok (.aload_n 0, 1) := by decide +kernel
theorem dX7_school_57 : decode cX7_school 57 = .ok (.getfield 73, 3) := by decide +kernel
theorem dX7_school_60 : decode cX7_school 60 = .ok (.isub, 1) := by decide +kernel
theorem dX7_school_61 : decode cX7_school 61 = .ok (.ireturn, 1) := by decide +kernel
theorem dX7_school_62 : decode cX7_school 62 = .ok (.aload_n 0, 1) := by decide +kernel
theorem dX7_school_63 : decode cX7_school 63 = .ok (.getfield 13, 3) := by decide +kernel
theorem dX7_school_66 : decode cX7_school 66 = .ok (.bipush 6, 2) := by decide +kernel
theorem dX7_school_68 : decode cX7_school 68 = .ok (.aload_n 0, 1) := by decide +kernel
theorem dX7_school_69 : decode cX7_school 69 = .ok (.getfield 7, 3) := by decide +kernel
theorem dX7_school_72 : decode cX7_school 72 = .ok (.bipush 6, 2) := by decide +kernel
theorem dX7_school_74 : decode cX7_school 74 = .ok (.iaload, 1) := by decide +kernel
theorem dX7_school_75 : decode cX7_school 75 = .ok (.iastore, 1) := by decide +kernel
theorem dX7_school_76 : decode cX7_school 76 = .ok (.aload_n 0, 1) := by decide +kernel
theorem dX7_school_77 : decode cX7_school 77 = .ok (.getfield 13, 3) := by decide +kernel
theorem dX7_school_80 : decode cX7_school 80 = .ok (.aload_n 0, 1) := by decide +kernel
theorem dX7_school_81 : decode cX7_school 81 = .ok (.getfield 7, 3) := by decide +kernel
theorem dX7_school_84 : decode cX7_school 84 = .ok (.invokestatic 193, 3) := by decide +kernel
theorem dX7_school_87 : decode cX7_school 87 = .ok (.aload_n 0, 1) := by decide +kernel
theorem dX7_school_88 : decode cX7_school 88 = .ok (.iconst 0, 1) := by decide +kernel
theorem dX7_school_89 : decode cX7_school 89 = .ok (.putfield 197, 3) := by decide +kernel
theorem dX7_school_92 : decode cX7_school 92 = .ok (.aload_n 0, 1) := by decide +kernel
theorem dX7_school_93 : decode cX7_school 93 = .ok (.getfield 7, 3) := by decide +kernel
theorem dX7_school_96 : decode cX7_school 96 = .ok (.iconst 5, 1) := by decide +kernel
theorem dX7_school_97 : decode cX7_school 97 = .ok (.iaload, 1) := by decide +kernel
theorem dX7_school_98 : decode cX7_school 98 = .ok (.ireturn, 1) := by decide +kernel
theorem dX7_mostOf_0 : decode cX7_mostOf 0 = .ok (.iload_n 0, 1) := by decide +kernel
theorem dX7_mostOf_1 : decode cX7_mostOf 1 = .ok (.iconst 3, 1) := by decide +kernel
theorem dX7_mostOf_2 : decode cX7_mostOf 2 = .ok (.if_icmp .ne 8, 3) := by decide +kernel
theorem dX7_mostOf_5 : decode cX7_mostOf 5 = .ok (.bipush 99, 2) := by decide +kernel
theorem dX7_mostOf_7 : decode cX7_mostOf 7 = .ok (.goto 5, 3) := by decide +kernel
theorem dX7_mostOf_10 : decode cX7_mostOf 10 = .ok (.bipush 9, 2) := by decide +kernel
theorem dX7_mostOf_12 : decode cX7_mostOf 12 = .ok (.ireturn, 1) := by decide +kernel
theorem dX7_set_0 : decode cX7_set 0 = .ok (.iload_n 1, 1) := by decide +kernel
theorem dX7_set_1 : decode cX7_set 1 = .ok (.iconst 0, 1) := by decide +kernel
theorem dX7_set_2 : decode cX7_set 2 = .ok (.iconst 3, 1) := by decide +kernel
theorem dX7_set_3 : decode cX7_set 3 = .ok (.invokestatic 60, 3) := by decide +kernel
theorem dX7_set_6 : decode cX7_set 6 = .ok (.ifCond .eq 24, 3) := by decide +kernel
theorem dX7_set_9 : decode cX7_set 9 = .ok (.iload_n 2, 1) := by decide +kernel
theorem dX7_set_10 : decode cX7_set 10 = .ok (.iconst 0, 1) := by decide +kernel
theorem dX7_set_11 : decode cX7_set 11 = .ok (.iload_n 1, 1) := by decide +kernel
theorem dX7_set_12 : decode cX7_set 12 = .ok (.invokestatic 185, 3) := by decide +kernel
theorem dX7_set_15 : decode cX7_set 15 = .ok (.invokestatic 60, 3) := by decide +kernel
theorem dX7_set_18 : decode cX7_set 18 = .ok (.ifCond .eq 12, 3) := by decide +kernel
theorem dX7_set_21 : decode cX7_set 21 = .ok (.aload_n 0, 1) := by decide +kernel
theorem dX7_set_22 : decode cX7_set 22 = .ok (.iload_n 1, 1) := by decide +kernel
theorem dX7_set_23 : decode cX7_set 23 = .ok (.iload_n 2, 1) := by decide +kernel
theorem dX7_set_24 : decode cX7_set 24 = .ok (.invokevirtual 200, 3) := by decide +kernel
theorem dX7_set_27 : decode cX7_set 27 = .ok (.goto 4, 3) := by decide +kernel
theorem dX7_set_30 : decode cX7_set 30 = .ok (.iconst (-1), 1) := by decide +kernel
theorem dX7_set_31 : decode cX7_set 31 = .ok (.ireturn, 1) := by decide +kernel
theorem dX7_lawOf_0 : decode cX7_lawOf 0 = .ok (.iload_n 1, 1) := by decide +kernel
theorem dX7_lawOf_1 : decode cX7_lawOf 1 = .ok (.iconst 0, 1) := by decide +kernel
theorem dX7_lawOf_2 : decode cX7_lawOf 2 = .ok (.iconst 3, 1) := by decide +kernel
theorem dX7_lawOf_3 : decode cX7_lawOf 3 = .ok (.invokestatic 60, 3) := by decide +kernel
theorem dX7_lawOf_6 : decode cX7_lawOf 6 = .ok (.ifCond .eq 12, 3) := by decide +kernel
theorem dX7_lawOf_9 : decode cX7_lawOf 9 = .ok (.aload_n 0, 1) := by decide +kernel
theorem dX7_lawOf_10 : decode cX7_lawOf 10 = .ok (.getfield 7, 3) := by decide +kernel
theorem dX7_lawOf_13 : decode cX7_lawOf 13 = .ok (.iload_n 1, 1) := by decide +kernel
theorem dX7_lawOf_14 : decode cX7_lawOf 14 = .ok (.iaload, 1) := by decide +kernel
theorem dX7_lawOf_15 : decode cX7_lawOf 15 = .ok (.goto 4, 3) := by decide +kernel
theorem dX7_lawOf_18 : decode cX7_lawOf 18 = .ok (.iconst (-1), 1) := by decide +kernel
theorem dX7_lawOf_19 : decode cX7_lawOf 19 = .ok (.ireturn, 1) := by decide +kernel
theorem dX7_isKind_0 : decode cX7_isKind 0 = .ok (.iload_n 0, 1) := by decide +kernel
theorem dX7_isKind_1 : decode cX7_isKind 1 = .ok (.iconst 0, 1) := by decide +kernel
theorem dX7_isKind_2 : decode cX7_isKind 2 = .ok (.iconst 5, 1) := by decide +kernel
theorem dX7_isKind_3 : decode cX7_isKind 3 = .ok (.invokestatic 60, 3) := by decide +kernel
theorem dX7_isKind_6 : decode cX7_isKind 6 = .ok (.ifCond .eq 14, 3) := by decide +kernel
theorem dX7_isKind_9 : decode cX7_isKind 9 = .ok (.iload_n 1, 1) := by decide +kernel
theorem dX7_isKind_10 : decode cX7_isKind 10 = .ok (.invokestatic 203, 3) := by decide +kernel
theorem dX7_isKind_13 : decode cX7_isKind 13 = .ok (.ifCond .eq 7, 3) := by decide +kernel
theorem dX7_isKind_16 : decode cX7_isKind 16 = .ok (.iconst 1, 1) := by decide +kernel
theorem dX7_isKind_17 : decode cX7_isKind 17 = .ok (.goto 4, 3) := by decide +kernel
theorem dX7_isKind_20 : decode cX7_isKind 20 = .ok (.iconst 0, 1) := by decide +kernel
theorem dX7_isKind_21 : decode cX7_isKind 21 = .ok (.ireturn, 1) := by decide +kernel
theorem dX7_person_0 : decode cX7_person 0 = .ok (.iload_n 1, 1) := by decide +kernel
theorem dX7_person_1 : decode cX7_person 1 = .ok (.iload_n 2, 1) := by decide +kernel
theorem dX7_person_2 : decode cX7_person 2 = .ok (.invokestatic 206, 3) := by decide +kernel
theorem dX7_person_5 : decode cX7_person 5 = .ok (.ifCond .eq 21, 3) := by decide +kernel
theorem dX7_person_8 : decode cX7_person 8 = .ok (.iload_n 3, 1) := by decide +kernel
theorem dX7_person_9 : decode cX7_person 9 = .ok (.iconst 0, 1) := by decide +kernel
theorem dX7_person_10 : decode cX7_person 10 = .ok (.bipush 99, 2) := by decide +kernel
theorem dX7_person_12 : decode cX7_person 12 = .ok (.invokestatic 60, 3) := by decide +kernel
theorem dX7_person_15 : decode cX7_person 15 = .ok (.ifCond .eq 11, 3) := by decide +kernel
theorem dX7_person_18 : decode cX7_person 18 = .ok (.iload 4, 2) := by decide +kernel
theorem dX7_person_20 : decode cX7_person 20 = .ok (.invokestatic 210, 3) := by decide +kernel
theorem dX7_person_23 : decode cX7_person 23 = .ok (.ifCond .ne 5, 3) := by decide +kernel
theorem dX7_person_26 : decode cX7_person 26 = .ok (.iconst (-1), 1) := by decide +kernel
theorem dX7_person_27 : decode cX7_person 27 = .ok (.ireturn, 1) := by decide +kernel
theorem dX7_person_28 : decode cX7_person 28 = .ok (.aload_n 0, 1) := by decide +kernel
theorem dX7_person_29 : decode cX7_person 29 = .ok (.getfield 7, 3) := by decide +kernel
theorem dX7_person_32 : decode cX7_person 32 = .ok (.iconst 5, 1) := by decide +kernel
theorem dX7_person_33 : decode cX7_person 33 = .ok (.iaload, 1) := by decide +kernel
theorem dX7_person_34 : decode cX7_person 34 = .ok (.bipush 8, 2) := by decide +kernel
theorem dX7_person_36 : decode cX7_person 36 = .ok (.if_icmp .ne 6, 3) := by decide +kernel
theorem dX7_person_39 : decode cX7_person 39 = .ok (.bipush (-2), 2) := by decide +kernel
theorem dX7_person_41 : decode cX7_person 41 = .ok (.ireturn, 1) := by decide +kernel
theorem dX7_person_42 : decode cX7_person 42 = .ok (.aload_n 0, 1) := by decide +kernel
theorem dX7_person_43 : decode cX7_person 43 = .ok (.getfield 7, 3) := by decide +kernel
theorem dX7_person_46 : decode cX7_person 46 = .ok (.iconst 5, 1) := by decide +kernel
theorem dX7_person_47 : decode cX7_person 47 = .ok (.iaload, 1) := by decide +kernel
theorem dX7_person_48 : decode cX7_person 48 = .ok (.istore 5, 2) := by decide +kernel
theorem dX7_person_50 : decode cX7_person 50 = .ok (.aload_n 0, 1) := by decide +kernel
theorem dX7_person_51 : decode cX7_person 51 = .ok (.iload 5, 2) := by decide +kernel
theorem dX7_person_53 : decode cX7_person 53 = .ok (.iconst 0, 1) := by decide +kernel
theorem dX7_person_54 : decode cX7_person 54 = .ok (.iload_n 1, 1) := by decide +kernel
theorem dX7_person_55 : decode cX7_person 55 = .ok (.invokevirtual 213, 3) := by decide +kernel
theorem dX7_person_58 : decode cX7_person 58 = .ok (.aload_n 0, 1) := by decide +kernel
theorem dX7_person_59 : decode cX7_person 59 = .ok (.iload 5, 2) := by decide +kernel
theorem dX7_person_61 : decode cX7_person 61 = .ok (.iconst 1, 1) := by decide +kernel
theorem dX7_person_62 : decode cX7_person 62 = .ok (.iload_n 2, 1) := by decide +kernel
theorem dX7_person_63 : decode cX7_person 63 = .ok (.invokevirtual 213, 3) := by decide +kernel
theorem dX7_person_66 : decode cX7_person 66 = .ok (.aload_n 0, 1) := by decide +kernel
theorem dX7_person_67 : decode cX7_person 67 = .ok (.iload 5, 2) := by decide +kernel
theorem dX7_person_69 : decode cX7_person 69 = .ok (.iconst 2, 1) := by decide +kernel
theorem dX7_person_70 : decode cX7_person 70 = .ok (.iload_n 3, 1) := by decide +kernel
theorem dX7_person_71 : decode cX7_person 71 = .ok (.invokevirtual 213, 3) := by decide +kernel
theorem dX7_person_74 : decode cX7_person 74 = .ok (.aload_n 0, 1) := by decide +kernel
theorem dX7_person_75 : decode cX7_person 75 = .ok (.iload 5, 2) := by decide +kernel
theorem dX7_person_77 : decode cX7_person 77 = .ok (.iconst 3, 1) := by decide +kernel
theorem dX7_person_78 : decode cX7_person 78 = .ok (.iload 4, 2) := by decide +kernel
theorem dX7_person_80 : decode cX7_person 80 = .ok (.invokevirtual 213, 3) := by decide +kernel
theorem dX7_person_83 : decode cX7_person 83 = .ok (.aload_n 0, 1) := by decide +kernel
theorem dX7_person_84 : decode cX7_person 84 = .ok (.iload 5, 2) := by decide +kernel
theorem dX7_person_86 : decode cX7_person 86 = .ok (.iconst 4, 1) := by decide +kernel
theorem dX7_person_87 : decode cX7_person 87 = .ok (.iconst 0, 1) := by decide +kernel
theorem dX7_person_88 : decode cX7_person 88 = .ok (.invokevirtual 213, 3) := by decide +kernel
theorem dX7_person_91 : decode cX7_person 91 = .ok (.aload_n 0, 1) := by decide +kernel
theorem dX7_person_92 : decode cX7_person 92 = .ok (.getfield 7, 3) := by decide +kernel
theorem dX7_person_95 : decode cX7_person 95 = .ok (.iconst 5, 1) := by decide +kernel
theorem dX7_person_96 : decode cX7_person 96 = .ok (.dup2, 1) := by decide +kernel
theorem dX7_person_97 : decode cX7_person 97 = .ok (.iaload, 1) := by decide +kernel
theorem dX7_person_98 : decode cX7_person 98 = .ok (.iconst 1, 1) := by decide +kernel
theorem dX7_person_99 : decode cX7_person 99 = .ok (.iadd, 1) := by decide +kernel
theorem dX7_person_100 : decode cX7_person 100 = .ok (.iastore, 1) := by decide +kernel
theorem dX7_person_101 : decode cX7_person 101 = .ok (.iload 5, 2) := by decide +kernel
theorem dX7_person_103 : decode cX7_person 103 = .ok (.ireturn, 1) := by decide +kernel
theorem dX7_besides_0 : decode cX7_besides 0 = .ok (.iconst 0, 1) := by decide +kernel
theorem dX7_besides_1 : decode cX7_besides 1 = .ok (.istore_n 2, 1) := by decide +kernel
theorem dX7_besides_2 : decode cX7_besides 2 = .ok (.iconst 0, 1) := by decide +kernel
theorem dX7_besides_3 : decode cX7_besides 3 = .ok (.istore_n 3, 1) := by decide +kernel
theorem dX7_besides_4 : decode cX7_besides 4 = .ok (.iload_n 3, 1) := by decide +kernel
theorem dX7_besides_5 : decode cX7_besides 5 = .ok (.aload_n 0, 1) := by decide +kernel
theorem dX7_besides_6 : decode cX7_besides 6 = .ok (.getfield 7, 3) := by decide +kernel
theorem dX7_besides_9 : decode cX7_besides 9 = .ok (.iconst 5, 1) := by decide +kernel
theorem dX7_besides_10 : decode cX7_besides 10 = .ok (.iaload, 1) := by decide +kernel
theorem dX7_besides_11 : decode cX7_besides 11 = .ok (.if_icmp .ge 37, 3) := by decide +kernel
theorem dX7_besides_14 : decode cX7_besides 14 = .ok (.iload_n 2, 1) := by decide +kernel
theorem dX7_besides_15 : decode cX7_besides 15 = .ok (.iload_n 3, 1) := by decide +kernel
theorem dX7_besides_16 : decode cX7_besides 16 = .ok (.iload_n 1, 1) := by decide +kernel
theorem dX7_besides_17 : decode cX7_besides 17 = .ok (.if_icmp .eq 22, 3) := by decide +kernel
theorem dX7_besides_20 : decode cX7_besides 20 = .ok (.aload_n 0, 1) := by decide +kernel
theorem dX7_besides_21 : decode cX7_besides 21 = .ok (.iload_n 3, 1) := by decide +kernel
theorem dX7_besides_22 : decode cX7_besides 22 = .ok (.iconst 3, 1) := by decide +kernel
theorem dX7_besides_23 : decode cX7_besides 23 = .ok (.invokevirtual 217, 3) := by decide +kernel
theorem dX7_besides_26 : decode cX7_besides 26 = .ok (.aload_n 0, 1) := by decide +kernel
theorem dX7_besides_27 : decode cX7_besides 27 = .ok (.iload_n 1, 1) := by decide +kernel
theorem dX7_besides_28 : decode cX7_besides 28 = .ok (.iconst 3, 1) := by decide +kernel
theorem dX7_besides_29 : decode cX7_besides 29 = .ok (.invokevirtual 217, 3) := by decide +kernel
theorem dX7_besides_32 : decode cX7_besides 32 = .ok (.if_icmp .ne 7, 3) := by decide +kernel
theorem dX7_besides_35 : decode cX7_besides 35 = .ok (.iconst 1, 1) := by decide +kernel
theorem dX7_besides_36 : decode cX7_besides 36 = .ok (.goto 4, 3) := by decide +kernel
theorem dX7_besides_39 : decode cX7_besides 39 = .ok (.iconst 0, 1) := by decide +kernel
theorem dX7_besides_40 : decode cX7_besides 40 = .ok (.iadd, 1) := by decide +kernel
theorem dX7_besides_41 : decode cX7_besides 41 = .ok (.istore_n 2, 1) := by decide +kernel
theorem dX7_besides_42 : decode cX7_besides 42 = .ok (.iinc 3 1, 3) := by decide +kernel
theorem dX7_besides_45 : decode cX7_besides 45 = .ok (.goto (-41), 3) := by decide +kernel
theorem dX7_besides_48 : decode cX7_besides 48 = .ok (.iload_n 2, 1) := by decide +kernel
theorem dX7_besides_49 : decode cX7_besides 49 = .ok (.ireturn, 1) := by decide +kernel
theorem dX7_of_0 : decode cX7_of 0 = .ok (.aload_n 0, 1) := by decide +kernel
theorem dX7_of_1 : decode cX7_of 1 = .ok (.iload_n 1, 1) := by decide +kernel
theorem dX7_of_2 : decode cX7_of 2 = .ok (.invokevirtual 220, 3) := by decide +kernel
theorem dX7_of_5 : decode cX7_of 5 = .ok (.ifCond .eq 12, 3) := by decide +kernel
theorem dX7_of_8 : decode cX7_of 8 = .ok (.iload_n 2, 1) := by decide +kernel
theorem dX7_of_9 : decode cX7_of 9 = .ok (.iconst 0, 1) := by decide +kernel
theorem dX7_of_10 : decode cX7_of 10 = .ok (.iconst 5, 1) := by decide +kernel
theorem dX7_of_11 : decode cX7_of 11 = .ok (.invokestatic 60, 3) := by decide +kernel
theorem dX7_of_14 : decode cX7_of 14 = .ok (.ifCond .ne 5, 3) := by decide +kernel
theorem dX7_of_17 : decode cX7_of 17 = .ok (.iconst (-1), 1) := by decide +kernel
theorem dX7_of_18 : decode cX7_of 18 = .ok (.ireturn, 1) := by decide +kernel
theorem dX7_of_19 : decode cX7_of 19 = .ok (.iload_n 2, 1) := by decide +kernel
theorem dX7_of_20 : decode cX7_of 20 = .ok (.iconst 5, 1) := by decide +kernel
theorem dX7_of_21 : decode cX7_of 21 = .ok (.if_icmp .ge 12, 3) := by decide +kernel
theorem dX7_of_24 : decode cX7_of 24 = .ok (.aload_n 0, 1) := by decide +kernel
theorem dX7_of_25 : decode cX7_of 25 = .ok (.iload_n 1, 1) := by decide +kernel
theorem dX7_of_26 : decode cX7_of 26 = .ok (.iload_n 2, 1) := by decide +kernel
theorem dX7_of_27 : decode cX7_of 27 = .ok (.invokevirtual 217, 3) := by decide +kernel
theorem dX7_of_30 : decode cX7_of 30 = .ok (.goto 8, 3) := by decide +kernel
theorem dX7_of_33 : decode cX7_of 33 = .ok (.aload_n 0, 1) := by decide +kernel
theorem dX7_of_34 : decode cX7_of 34 = .ok (.iload_n 1, 1) := by decide +kernel
theorem dX7_of_35 : decode cX7_of 35 = .ok (.invokevirtual 223, 3) := by decide +kernel
theorem dX7_of_38 : decode cX7_of 38 = .ok (.ireturn, 1) := by decide +kernel
theorem dX7_leaning_0 : decode cX7_leaning 0 = .ok (.aload_n 0, 1) := by decide +kernel
theorem dX7_leaning_1 : decode cX7_leaning 1 = .ok (.getfield 7, 3) := by decide +kernel
theorem dX7_leaning_4 : decode cX7_leaning 4 = .ok (.bipush 7, 2) := by decide +kernel
theorem dX7_leaning_6 : decode cX7_leaning 6 = .ok (.aload_n 0, 1) := by decide +kernel
theorem dX7_leaning_7 : decode cX7_leaning 7 = .ok (.iload_n 1, 1) := by decide +kernel
theorem dX7_leaning_8 : decode cX7_leaning 8 = .ok (.iconst 1, 1) := by decide +kernel
theorem dX7_leaning_9 : decode cX7_leaning 9 = .ok (.invokevirtual 217, 3) := by decide +kernel
theorem dX7_leaning_12 : decode cX7_leaning 12 = .ok (.iadd, 1) := by decide +kernel
theorem dX7_leaning_13 : decode cX7_leaning 13 = .ok (.iaload, 1) := by decide +kernel
theorem dX7_leaning_14 : decode cX7_leaning 14 = .ok (.bipush 10, 2) := by decide +kernel
theorem dX7_leaning_16 : decode cX7_leaning 16 = .ok (.idiv, 1) := by decide +kernel
theorem dX7_leaning_17 : decode cX7_leaning 17 = .ok (.istore_n 3, 1) := by decide +kernel
theorem dX7_leaning_18 : decode cX7_leaning 18 = .ok (.iload_n 2, 1) := by decide +kernel
theorem dX7_leaning_19 : decode cX7_leaning 19 = .ok (.bipush 10, 2) := by decide +kernel
theorem dX7_leaning_21 : decode cX7_leaning 21 = .ok (.irem, 1) := by decide +kernel
theorem dX7_leaning_22 : decode cX7_leaning 22 = .ok (.aload_n 0, 1) := by decide +kernel
theorem dX7_leaning_23 : decode cX7_leaning 23 = .ok (.getfield 7, 3) := by decide +kernel
theorem dX7_leaning_26 : decode cX7_leaning 26 = .ok (.iconst 0, 1) := by decide +kernel
theorem dX7_leaning_27 : decode cX7_leaning 27 = .ok (.iaload, 1) := by decide +kernel
theorem dX7_leaning_28 : decode cX7_leaning 28 = .ok (.if_icmp .ne 7, 3) := by decide +kernel
theorem dX7_leaning_31 : decode cX7_leaning 31 = .ok (.iload_n 3, 1) := by decide +kernel
theorem dX7_leaning_32 : decode cX7_leaning 32 = .ok (.goto 4, 3) := by decide +kernel
theorem dX7_leaning_35 : decode cX7_leaning 35 = .ok (.iconst 0, 1) := by decide +kernel
theorem dX7_leaning_36 : decode cX7_leaning 36 = .ok (.istore 4, 2) := by decide +kernel
theorem dX7_leaning_38 : decode cX7_leaning 38 = .ok (.aload_n 0, 1) := by decide +kernel
theorem dX7_leaning_39 : decode cX7_leaning 39 = .ok (.iload_n 1, 1) := by decide +kernel
theorem dX7_leaning_40 : decode cX7_leaning 40 = .ok (.iconst 0, 1) := by decide +kernel
theorem dX7_leaning_41 : decode cX7_leaning 41 = .ok (.invokevirtual 217, 3) := by decide +kernel
theorem dX7_leaning_44 : decode cX7_leaning 44 = .ok (.tableswitch 70 1 5 #[36, 48, 41, 53, 68], 36) := by decide +kernel
theorem dX7_leaning_80 : decode cX7_leaning 80 = .ok (.iload 4, 2) := by decide +kernel
theorem dX7_leaning_82 : decode cX7_leaning 82 = .ok (.iconst 1, 1) := by decide +kernel
theorem dX7_leaning_83 : decode cX7_leaning 83 = .ok (.iadd, 1) := by decide +kernel
theorem dX7_leaning_84 : decode cX7_leaning 84 = .ok (.ireturn, 1) := by decide +kernel
theorem dX7_leaning_85 : decode cX7_leaning 85 = .ok (.iconst 2, 1) := by decide +kernel
theorem dX7_leaning_86 : decode cX7_leaning 86 = .ok (.iload 4, 2) := by decide +kernel
theorem dX7_leaning_88 : decode cX7_leaning 88 = .ok (.iconst 1, 1) := by decide +kernel
theorem dX7_leaning_89 : decode cX7_leaning 89 = .ok (.iadd, 1) := by decide +kernel
theorem dX7_leaning_90 : decode cX7_leaning 90 = .ok (.imul, 1) := by decide +kernel
theorem dX7_leaning_91 : decode cX7_leaning 91 = .ok (.ireturn, 1) := by decide +kernel
theorem dX7_leaning_92 : decode cX7_leaning 92 = .ok (.iload 4, 2) := by decide +kernel
theorem dX7_leaning_94 : decode cX7_leaning 94 = .ok (.iconst 1, 1) := by decide +kernel
theorem dX7_leaning_95 : decode cX7_leaning 95 = .ok (.isub, 1) := by decide +kernel
theorem dX7_leaning_96 : decode cX7_leaning 96 = .ok (.ireturn, 1) := by decide +kernel
theorem dX7_leaning_97 : decode cX7_leaning 97 = .ok (.iload 4, 2) := by decide +kernel
theorem dX7_leaning_99 : decode cX7_leaning 99 = .ok (.iconst 1, 1) := by decide +kernel
theorem dX7_leaning_100 : decode cX7_leaning 100 = .ok (.isub, 1) := by decide +kernel
theorem dX7_leaning_101 : decode cX7_leaning 101 = .ok (.aload_n 0, 1) := by decide +kernel
theorem dX7_leaning_102 : decode cX7_leaning 102 = .ok (.iload_n 1, 1) := by decide +kernel
theorem dX7_leaning_103 : decode cX7_leaning 103 = .ok (.iconst 2, 1) := by decide +kernel
theorem dX7_leaning_104 : decode cX7_leaning 104 = .ok (.invokevirtual 217, 3) := by decide +kernel
theorem dX7_leaning_107 : decode cX7_leaning 107 = .ok (.bipush 10, 2) := by decide +kernel
theorem dX7_leaning_109 : decode cX7_leaning 109 = .ok (.idiv, 1) := by decide +kernel
theorem dX7_leaning_110 : decode cX7_leaning 110 = .ok (.iadd, 1) := by decide +kernel
theorem dX7_leaning_111 : decode cX7_leaning 111 = .ok (.ireturn, 1) := by decide +kernel
theorem dX7_leaning_112 : decode cX7_leaning 112 = .ok (.iload_n 3, 1) := by decide +kernel
theorem dX7_leaning_113 : decode cX7_leaning 113 = .ok (.ireturn, 1) := by decide +kernel
theorem dX7_leaning_114 : decode cX7_leaning 114 = .ok (.iload 4, 2) := by decide +kernel
theorem dX7_leaning_116 : decode cX7_leaning 116 = .ok (.ireturn, 1) := by decide +kernel
theorem dX7_striding_0 : decode cX7_striding 0 = .ok (.aload_n 0, 1) := by decide +kernel
theorem dX7_striding_1 : decode cX7_striding 1 = .ok (.iload_n 1, 1) := by decide +kernel
theorem dX7_striding_2 : decode cX7_striding 2 = .ok (.iconst 0, 1) := by decide +kernel
theorem dX7_striding_3 : decode cX7_striding 3 = .ok (.invokevirtual 217, 3) := by decide +kernel
theorem dX7_striding_6 : decode cX7_striding 6 = .ok (.tableswitch 60 1 5 #[34, 38, 36, 47, 58], 34) := by decide +kernel
theorem dX7_striding_40 : decode cX7_striding 40 = .ok (.iconst 2, 1) := by decide +kernel
theorem dX7_striding_41 : decode cX7_striding 41 = .ok (.ireturn, 1) := by decide +kernel
theorem dX7_striding_42 : decode cX7_striding 42 = .ok (.iconst (-1), 1) := by decide +kernel
theorem dX7_striding_43 : decode cX7_striding 43 = .ok (.ireturn, 1) := by decide +kernel
theorem dX7_striding_44 : decode cX7_striding 44 = .ok (.iconst 1, 1) := by decide +kernel
theorem dX7_striding_45 : decode cX7_striding 45 = .ok (.aload_n 0, 1) := by decide +kernel
theorem dX7_striding_46 : decode cX7_striding 46 = .ok (.getfield 7, 3) := by decide +kernel
theorem dX7_striding_49 : decode cX7_striding 49 = .ok (.iconst 1, 1) := by decide +kernel
theorem dX7_striding_50 : decode cX7_striding 50 = .ok (.iaload, 1) := by decide +kernel
theorem dX7_striding_51 : decode cX7_striding 51 = .ok (.iadd, 1) := by decide +kernel
theorem dX7_striding_52 : decode cX7_striding 52 = .ok (.ireturn, 1) := by decide +kernel
theorem dX7_striding_53 : decode cX7_striding 53 = .ok (.iconst 2, 1) := by decide +kernel
theorem dX7_striding_54 : decode cX7_striding 54 = .ok (.iconst 1, 1) := by decide +kernel
theorem dX7_striding_55 : decode cX7_striding 55 = .ok (.aload_n 0, 1) := by decide +kernel
theorem dX7_striding_56 : decode cX7_striding 56 = .ok (.getfield 7, 3) := by decide +kernel
theorem dX7_striding_59 : decode cX7_striding 59 = .ok (.iconst 1, 1) := by decide +kernel
theorem dX7_striding_60 : decode cX7_striding 60 = .ok (.iaload, 1) := by decide +kernel
theorem dX7_striding_61 : decode cX7_striding 61 = .ok (.iadd, 1) := by decide +kernel
theorem dX7_striding_62 : decode cX7_striding 62 = .ok (.imul, 1) := by decide +kernel
theorem dX7_striding_63 : decode cX7_striding 63 = .ok (.ireturn, 1) := by decide +kernel
theorem dX7_striding_64 : decode cX7_striding 64 = .ok (.iconst 0, 1) := by decide +kernel
theorem dX7_striding_65 : decode cX7_striding 65 = .ok (.ireturn, 1) := by decide +kernel
theorem dX7_striding_66 : decode cX7_striding 66 = .ok (.iconst 1, 1) := by decide +kernel
theorem dX7_striding_67 : decode cX7_striding 67 = .ok (.ireturn, 1) := by decide +kernel
theorem dX7_leans_0 : decode cX7_leans 0 = .ok (.aload_n 0, 1) := by decide +kernel
theorem dX7_leans_1 : decode cX7_leans 1 = .ok (.iload_n 1, 1) := by decide +kernel
theorem dX7_leans_2 : decode cX7_leans 2 = .ok (.invokevirtual 220, 3) := by decide +kernel
theorem dX7_leans_5 : decode cX7_leans 5 = .ok (.ifCond .eq 27, 3) := by decide +kernel
theorem dX7_leans_8 : decode cX7_leans 8 = .ok (.iload_n 2, 1) := by decide +kernel
theorem dX7_leans_9 : decode cX7_leans 9 = .ok (.iconst 0, 1) := by decide +kernel
theorem dX7_leans_10 : decode cX7_leans 10 = .ok (.sipush 9999, 3) := by decide +kernel
theorem dX7_leans_13 : decode cX7_leans 13 = .ok (.invokestatic 60, 3) := by decide +kernel
theorem dX7_leans_16 : decode cX7_leans 16 = .ok (.ifCond .eq 16, 3) := by decide +kernel
theorem dX7_leans_19 : decode cX7_leans 19 = .ok (.sipush 1000, 3) := by decide +kernel
theorem dX7_leans_22 : decode cX7_leans 22 = .ok (.aload_n 0, 1) := by decide +kernel
theorem dX7_leans_23 : decode cX7_leans 23 = .ok (.iload_n 1, 1) := by decide +kernel
theorem dX7_leans_24 : decode cX7_leans 24 = .ok (.iload_n 2, 1) := by decide +kernel
theorem dX7_leans_25 : decode cX7_leans 25 = .ok (.invokevirtual 226, 3) := by decide +kernel
theorem dX7_leans_28 : decode cX7_leans 28 = .ok (.iadd, 1) := by decide +kernel
theorem dX7_leans_29 : decode cX7_leans 29 = .ok (.goto 4, 3) := by decide +kernel
theorem dX7_leans_32 : decode cX7_leans 32 = .ok (.iconst (-1), 1) := by decide +kernel
theorem dX7_leans_33 : decode cX7_leans 33 = .ok (.ireturn, 1) := by decide +kernel
theorem dX7_strides_0 : decode cX7_strides 0 = .ok (.aload_n 0, 1) := by decide +kernel
theorem dX7_strides_1 : decode cX7_strides 1 = .ok (.iload_n 1, 1) := by decide +kernel
theorem dX7_strides_2 : decode cX7_strides 2 = .ok (.invokevirtual 220, 3) := by decide +kernel
theorem dX7_strides_5 : decode cX7_strides 5 = .ok (.ifCond .eq 15, 3) := by decide +kernel
theorem dX7_strides_8 : decode cX7_strides 8 = .ok (.sipush 1000, 3) := by decide +kernel
theorem dX7_strides_11 : decode cX7_strides 11 = .ok (.aload_n 0, 1) := by decide +kernel
theorem dX7_strides_12 : decode cX7_strides 12 = .ok (.iload_n 1, 1) := by decide +kernel
theorem dX7_strides_13 : decode cX7_strides 13 = .ok (.invokevirtual 229, 3) := by decide +kernel
theorem dX7_strides_16 : decode cX7_strides 16 = .ok (.iadd, 1) := by decide +kernel
theorem dX7_strides_17 : decode cX7_strides 17 = .ok (.goto 4, 3) := by decide +kernel
theorem dX7_strides_20 : decode cX7_strides 20 = .ok (.iconst (-1), 1) := by decide +kernel
theorem dX7_strides_21 : decode cX7_strides 21 = .ok (.ireturn, 1) := by decide +kernel
theorem dX7_mind_0 : decode cX7_mind 0 = .ok (.aload_n 0, 1) := by decide +kernel
theorem dX7_mind_1 : decode cX7_mind 1 = .ok (.iload_n 1, 1) := by decide +kernel
theorem dX7_mind_2 : decode cX7_mind 2 = .ok (.invokevirtual 220, 3) := by decide +kernel
theorem dX7_mind_5 : decode cX7_mind 5 = .ok (.ifCond .eq 11, 3) := by decide +kernel
theorem dX7_mind_8 : decode cX7_mind 8 = .ok (.iload_n 2, 1) := by decide +kernel
theorem dX7_mind_9 : decode cX7_mind 9 = .ok (.iload_n 3, 1) := by decide +kernel
theorem dX7_mind_10 : decode cX7_mind 10 = .ok (.invokestatic 206, 3) := by decide +kernel
theorem dX7_mind_13 : decode cX7_mind 13 = .ok (.ifCond .ne 5, 3) := by decide +kernel
theorem dX7_mind_16 : decode cX7_mind 16 = .ok (.iconst (-1), 1) := by decide +kernel
theorem dX7_mind_17 : decode cX7_mind 17 = .ok (.ireturn, 1) := by decide +kernel
theorem dX7_mind_18 : decode cX7_mind 18 = .ok (.aload_n 0, 1) := by decide +kernel
theorem dX7_mind_19 : decode cX7_mind 19 = .ok (.iload_n 1, 1) := by decide +kernel
theorem dX7_mind_20 : decode cX7_mind 20 = .ok (.iconst 1, 1) := by decide +kernel
theorem dX7_mind_21 : decode cX7_mind 21 = .ok (.iload_n 3, 1) := by decide +kernel
theorem dX7_mind_22 : decode cX7_mind 22 = .ok (.invokevirtual 213, 3) := by decide +kernel
theorem dX7_mind_25 : decode cX7_mind 25 = .ok (.aload_n 0, 1) := by decide +kernel
theorem dX7_mind_26 : decode cX7_mind 26 = .ok (.bipush 13, 2) := by decide +kernel
theorem dX7_mind_28 : decode cX7_mind 28 = .ok (.iconst 5, 1) := by decide +kernel
theorem dX7_mind_29 : decode cX7_mind 29 = .ok (.iload_n 1, 1) := by decide +kernel
theorem dX7_mind_30 : decode cX7_mind 30 = .ok (.imul, 1) := by decide +kernel
theorem dX7_mind_31 : decode cX7_mind 31 = .ok (.iadd, 1) := by decide +kernel
theorem dX7_mind_32 : decode cX7_mind 32 = .ok (.iload_n 2, 1) := by decide +kernel
theorem dX7_mind_33 : decode cX7_mind 33 = .ok (.invokevirtual 200, 3) := by decide +kernel
theorem dX7_mind_36 : decode cX7_mind 36 = .ok (.ireturn, 1) := by decide +kernel
theorem dX7_age_0 : decode cX7_age 0 = .ok (.aload_n 0, 1) := by decide +kernel
theorem dX7_age_1 : decode cX7_age 1 = .ok (.iload_n 1, 1) := by decide +kernel
theorem dX7_age_2 : decode cX7_age 2 = .ok (.invokevirtual 220, 3) := by decide +kernel
theorem dX7_age_5 : decode cX7_age 5 = .ok (.ifCond .eq 29, 3) := by decide +kernel
theorem dX7_age_8 : decode cX7_age 8 = .ok (.iload_n 2, 1) := by decide +kernel
theorem dX7_age_9 : decode cX7_age 9 = .ok (.iconst 0, 1) := by decide +kernel
theorem dX7_age_10 : decode cX7_age 10 = .ok (.bipush 99, 2) := by decide +kernel
theorem dX7_age_12 : decode cX7_age 12 = .ok (.invokestatic 60, 3) := by decide +kernel
theorem dX7_age_15 : decode cX7_age 15 = .ok (.ifCond .eq 19, 3) := by decide +kernel
theorem dX7_age_18 : decode cX7_age 18 = .ok (.aload_n 0, 1) := by decide +kernel
theorem dX7_age_19 : decode cX7_age 19 = .ok (.bipush 13, 2) := by decide +kernel
theorem dX7_age_21 : decode cX7_age 21 = .ok (.iconst 5, 1) := by decide +kernel
theorem dX7_age_22 : decode cX7_age 22 = .ok (.iload_n 1, 1) := by decide +kernel
theorem dX7_age_23 : decode cX7_age 23 = .ok (.imul, 1) := by decide +kernel
theorem dX7_age_24 : decode cX7_age 24 = .ok (.iadd, 1) := by decide +kernel
theorem dX7_age_25 : decode cX7_age 25 = .ok (.iconst 2, 1) := by decide +kernel
theorem dX7_age_26 : decode cX7_age 26 = .ok (.iadd, 1) := by decide +kernel
theorem dX7_age_27 : decode cX7_age 27 = .ok (.iload_n 2, 1) := by decide +kernel
theorem dX7_age_28 : decode cX7_age 28 = .ok (.invokevirtual 200, 3) := by decide +kernel
theorem dX7_age_31 : decode cX7_age 31 = .ok (.goto 4, 3) := by decide +kernel
theorem dX7_age_34 : decode cX7_age 34 = .ok (.iconst (-1), 1) := by decide +kernel
theorem dX7_age_35 : decode cX7_age 35 = .ok (.ireturn, 1) := by decide +kernel
theorem dX7_bring_0 : decode cX7_bring 0 = .ok (.aload_n 0, 1) := by decide +kernel
theorem dX7_bring_1 : decode cX7_bring 1 = .ok (.iload_n 1, 1) := by decide +kernel
theorem dX7_bring_2 : decode cX7_bring 2 = .ok (.invokevirtual 220, 3) := by decide +kernel
theorem dX7_bring_5 : decode cX7_bring 5 = .ok (.ifCond .eq 26, 3) := by decide +kernel
theorem dX7_bring_8 : decode cX7_bring 8 = .ok (.iload_n 2, 1) := by decide +kernel
theorem dX7_bring_9 : decode cX7_bring 9 = .ok (.invokestatic 210, 3) := by decide +kernel
theorem dX7_bring_12 : decode cX7_bring 12 = .ok (.ifCond .eq 19, 3) := by decide +kernel
theorem dX7_bring_15 : decode cX7_bring 15 = .ok (.aload_n 0, 1) := by decide +kernel
theorem dX7_bring_16 : decode cX7_bring 16 = .ok (.bipush 13, 2) := by decide +kernel
theorem dX7_bring_18 : decode cX7_bring 18 = .ok (.iconst 5, 1) := by decide +kernel
theorem dX7_bring_19 : decode cX7_bring 19 = .ok (.iload_n 1, 1) := by decide +kernel
theorem dX7_bring_20 : decode cX7_bring 20 = .ok (.imul, 1) := by decide +kernel
theorem dX7_bring_21 : decode cX7_bring 21 = .ok (.iadd, 1) := by decide +kernel
theorem dX7_bring_22 : decode cX7_bring 22 = .ok (.iconst 3, 1) := by decide +kernel
theorem dX7_bring_23 : decode cX7_bring 23 = .ok (.iadd, 1) := by decide +kernel
theorem dX7_bring_24 : decode cX7_bring 24 = .ok (.iload_n 2, 1) := by decide +kernel
theorem dX7_bring_25 : decode cX7_bring 25 = .ok (.invokevirtual 200, 3) := by decide +kernel
theorem dX7_bring_28 : decode cX7_bring 28 = .ok (.goto 4, 3) := by decide +kernel
theorem dX7_bring_31 : decode cX7_bring 31 = .ok (.iconst (-1), 1) := by decide +kernel
theorem dX7_bring_32 : decode cX7_bring 32 = .ok (.ireturn, 1) := by decide +kernel
theorem dX7_isKnown_0 : decode cX7_isKnown 0 = .ok (.aload_n 0, 1) := by decide +kernel
theorem dX7_isKnown_1 : decode cX7_isKnown 1 = .ok (.iload_n 1, 1) := by decide +kernel
theorem dX7_isKnown_2 : decode cX7_isKnown 2 = .ok (.iconst 4, 1) := by decide +kernel
theorem dX7_isKnown_3 : decode cX7_isKnown 3 = .ok (.invokevirtual 217, 3) := by decide +kernel
theorem dX7_isKnown_6 : decode cX7_isKnown 6 = .ok (.iload_n 2, 1) := by decide +kernel
theorem dX7_isKnown_7 : decode cX7_isKnown 7 = .ok (.ishr, 1) := by decide +kernel
theorem dX7_isKnown_8 : decode cX7_isKnown 8 = .ok (.iconst 1, 1) := by decide +kernel
theorem dX7_isKnown_9 : decode cX7_isKnown 9 = .ok (.iand, 1) := by decide +kernel
theorem dX7_isKnown_10 : decode cX7_isKnown 10 = .ok (.iconst 1, 1) := by decide +kernel
theorem dX7_isKnown_11 : decode cX7_isKnown 11 = .ok (.if_icmp .ne 7, 3) := by decide +kernel
theorem dX7_isKnown_14 : decode cX7_isKnown 14 = .ok (.iconst 1, 1) := by decide +kernel
theorem dX7_isKnown_15 : decode cX7_isKnown 15 = .ok (.goto 4, 3) := by decide +kernel
theorem dX7_isKnown_18 : decode cX7_isKnown 18 = .ok (.iconst 0, 1) := by decide +kernel
theorem dX7_isKnown_19 : decode cX7_isKnown 19 = .ok (.ireturn, 1) := by decide +kernel
theorem dX7_meets_0 : decode cX7_meets 0 = .ok (.aload_n 0, 1) := by decide +kernel
theorem dX7_meets_1 : decode cX7_meets 1 = .ok (.iload_n 1, 1) := by decide +kernel
theorem dX7_meets_2 : decode cX7_meets 2 = .ok (.iconst 4, 1) := by decide +kernel
theorem dX7_meets_3 : decode cX7_meets 3 = .ok (.iload_n 3, 1) := by decide +kernel
theorem dX7_meets_4 : decode cX7_meets 4 = .ok (.ifCond .eq 16, 3) := by decide +kernel
theorem dX7_meets_7 : decode cX7_meets 7 = .ok (.aload_n 0, 1) := by decide +kernel
theorem dX7_meets_8 : decode cX7_meets 8 = .ok (.iload_n 1, 1) := by decide +kernel
theorem dX7_meets_9 : decode cX7_meets 9 = .ok (.iconst 4, 1) := by decide +kernel
theorem dX7_meets_10 : decode cX7_meets 10 = .ok (.invokevirtual 217, 3) := by decide +kernel
theorem dX7_meets_13 : decode cX7_meets 13 = .ok (.iconst 1, 1) := by decide +kernel
theorem dX7_meets_14 : decode cX7_meets 14 = .ok (.iload_n 2, 1) := by decide +kernel
theorem dX7_meets_15 : decode cX7_meets 15 = .ok (.ishl, 1) := by decide +kernel
theorem dX7_meets_16 : decode cX7_meets 16 = .ok (.ior, 1) := by decide +kernel
theorem dX7_meets_17 : decode cX7_meets 17 = .ok (.goto 15, 3) := by decide +kernel
theorem dX7_meets_20 : decode cX7_meets 20 = .ok (.aload_n 0, 1) := by decide +kernel
theorem dX7_meets_21 : decode cX7_meets 21 = .ok (.iload_n 1, 1) := by decide +kernel
theorem dX7_meets_22 : decode cX7_meets 22 = .ok (.iconst 4, 1) := by decide +kernel
theorem dX7_meets_23 : decode cX7_meets 23 = .ok (.invokevirtual 217, 3) := by decide +kernel
theorem dX7_meets_26 : decode cX7_meets 26 = .ok (.iconst 1, 1) := by decide +kernel
theorem dX7_meets_27 : decode cX7_meets 27 = .ok (.iload_n 2, 1) := by decide +kernel
theorem dX7_meets_28 : decode cX7_meets 28 = .ok (.ishl, 1) := by decide +kernel
theorem dX7_meets_29 : decode cX7_meets 29 = .ok (.iconst (-1), 1) := by decide +kernel
theorem dX7_meets_30 : decode cX7_meets 30 = .ok (.ixor, 1) := by decide +kernel
theorem dX7_meets_31 : decode cX7_meets 31 = .ok (.iand, 1) := by decide +kernel
theorem dX7_meets_32 : decode cX7_meets 32 = .ok (.invokevirtual 213, 3) := by decide +kernel
theorem dX7_meets_35 : decode cX7_meets 35 = .ok (.aload_n 0, 1) := by decide +kernel
theorem dX7_meets_36 : decode cX7_meets 36 = .ok (.iload_n 2, 1) := by decide +kernel
theorem dX7_meets_37 : decode cX7_meets 37 = .ok (.iconst 4, 1) := by decide +kernel
theorem dX7_meets_38 : decode cX7_meets 38 = .ok (.iload_n 3, 1) := by decide +kernel
theorem dX7_meets_39 : decode cX7_meets 39 = .ok (.ifCond .eq 16, 3) := by decide +kernel
theorem dX7_meets_42 : decode cX7_meets 42 = .ok (.aload_n 0, 1) := by decide +kernel
theorem dX7_meets_43 : decode cX7_meets 43 = .ok (.iload_n 2, 1) := by decide +kernel
theorem dX7_meets_44 : decode cX7_meets 44 = .ok (.iconst 4, 1) := by decide +kernel
theorem dX7_meets_45 : decode cX7_meets 45 = .ok (.invokevirtual 217, 3) := by decide +kernel
theorem dX7_meets_48 : decode cX7_meets 48 = .ok (.iconst 1, 1) := by decide +kernel
theorem dX7_meets_49 : decode cX7_meets 49 = .ok (.iload_n 1, 1) := by decide +kernel
theorem dX7_meets_50 : decode cX7_meets 50 = .ok (.ishl, 1) := by decide +kernel
theorem dX7_meets_51 : decode cX7_meets 51 = .ok (.ior, 1) := by decide +kernel
theorem dX7_meets_52 : decode cX7_meets 52 = .ok (.goto 15, 3) := by decide +kernel
theorem dX7_meets_55 : decode cX7_meets 55 = .ok (.aload_n 0, 1) := by decide +kernel
theorem dX7_meets_56 : decode cX7_meets 56 = .ok (.iload_n 2, 1) := by decide +kernel
theorem dX7_meets_57 : decode cX7_meets 57 = .ok (.iconst 4, 1) := by decide +kernel
theorem dX7_meets_58 : decode cX7_meets 58 = .ok (.invokevirtual 217, 3) := by decide +kernel
theorem dX7_meets_61 : decode cX7_meets 61 = .ok (.iconst 1, 1) := by decide +kernel
theorem dX7_meets_62 : decode cX7_meets 62 = .ok (.iload_n 1, 1) := by decide +kernel
theorem dX7_meets_63 : decode cX7_meets 63 = .ok (.ishl, 1) := by decide +kernel
theorem dX7_meets_64 : decode cX7_meets 64 = .ok (.iconst (-1), 1) := by decide +kernel
theorem dX7_meets_65 : decode cX7_meets 65 = .ok (.ixor, 1) := by decide +kernel
theorem dX7_meets_66 : decode cX7_meets 66 = .ok (.iand, 1) := by decide +kernel
theorem dX7_meets_67 : decode cX7_meets 67 = .ok (.invokevirtual 213, 3) := by decide +kernel
theorem dX7_meets_70 : decode cX7_meets 70 = .ok (.return_, 1) := by decide +kernel
theorem dX7_know_0 : decode cX7_know 0 = .ok (.aload_n 0, 1) := by decide +kernel
theorem dX7_know_1 : decode cX7_know 1 = .ok (.iload_n 1, 1) := by decide +kernel
theorem dX7_know_2 : decode cX7_know 2 = .ok (.invokevirtual 220, 3) := by decide +kernel
theorem dX7_know_5 : decode cX7_know 5 = .ok (.ifCond .eq 25, 3) := by decide +kernel
theorem dX7_know_8 : decode cX7_know 8 = .ok (.aload_n 0, 1) := by decide +kernel
theorem dX7_know_9 : decode cX7_know 9 = .ok (.iload_n 2, 1) := by decide +kernel
theorem dX7_know_10 : decode cX7_know 10 = .ok (.invokevirtual 220, 3) := by decide +kernel
theorem dX7_know_13 : decode cX7_know 13 = .ok (.ifCond .eq 17, 3) := by decide +kernel
theorem dX7_know_16 : decode cX7_know 16 = .ok (.iload_n 1, 1) := by decide +kernel
theorem dX7_know_17 : decode cX7_know 17 = .ok (.iload_n 2, 1) := by decide +kernel
theorem dX7_know_18 : decode cX7_know 18 = .ok (.if_icmp .eq 12, 3) := by decide +kernel
theorem dX7_know_21 : decode cX7_know 21 = .ok (.iload_n 3, 1) := by decide +kernel
theorem dX7_know_22 : decode cX7_know 22 = .ok (.iconst 0, 1) := by decide +kernel
theorem dX7_know_23 : decode cX7_know 23 = .ok (.iconst 1, 1) := by decide +kernel
theorem dX7_know_24 : decode cX7_know 24 = .ok (.invokestatic 60, 3) := by decide +kernel
theorem dX7_know_27 : decode cX7_know 27 = .ok (.ifCond .ne 5, 3) := by decide +kernel
theorem dX7_know_30 : decode cX7_know 30 = .ok (.iconst (-1), 1) := by decide +kernel
theorem dX7_know_31 : decode cX7_know 31 = .ok (.ireturn, 1) := by decide +kernel
theorem dX7_know_32 : decode cX7_know 32 = .ok (.aload_n 0, 1) := by decide +kernel
theorem dX7_know_33 : decode cX7_know 33 = .ok (.iload_n 1, 1) := by decide +kernel
theorem dX7_know_34 : decode cX7_know 34 = .ok (.iload_n 2, 1) := by decide +kernel
theorem dX7_know_35 : decode cX7_know 35 = .ok (.invokevirtual 232, 3) := by decide +kernel
theorem dX7_know_38 : decode cX7_know 38 = .ok (.ifCond .eq 7, 3) := by decide +kernel
theorem dX7_know_41 : decode cX7_know 41 = .ok (.iconst 1, 1) := by decide +kernel
theorem dX7_know_42 : decode cX7_know 42 = .ok (.goto 4, 3) := by decide +kernel
theorem dX7_know_45 : decode cX7_know 45 = .ok (.iconst 0, 1) := by decide +kernel
theorem dX7_know_46 : decode cX7_know 46 = .ok (.istore 4, 2) := by decide +kernel
theorem dX7_know_48 : decode cX7_know 48 = .ok (.aload_n 0, 1) := by decide +kernel
theorem dX7_know_49 : decode cX7_know 49 = .ok (.iload_n 1, 1) := by decide +kernel
theorem dX7_know_50 : decode cX7_know 50 = .ok (.iload_n 2, 1) := by decide +kernel
theorem dX7_know_51 : decode cX7_know 51 = .ok (.iload_n 3, 1) := by decide +kernel
theorem dX7_know_52 : decode cX7_know 52 = .ok (.iconst 1, 1) := by decide +kernel
theorem dX7_know_53 : decode cX7_know 53 = .ok (.if_icmp .ne 7, 3) := by decide +kernel
theorem dX7_know_56 : decode cX7_know 56 = .ok (.iconst 1, 1) := by decide +kernel
theorem dX7_know_57 : decode cX7_know 57 = .ok (.goto 4, 3) := by decide +kernel
theorem dX7_know_60 : decode cX7_know 60 = .ok (.iconst 0, 1) := by decide +kernel
theorem dX7_know_61 : decode cX7_know 61 = .ok (.invokevirtual 235, 3) := by decide +kernel
theorem dX7_know_64 : decode cX7_know 64 = .ok (.iload 4, 2) := by decide +kernel
theorem dX7_know_66 : decode cX7_know 66 = .ok (.ireturn, 1) := by decide +kernel
theorem dX7_weigh_0 : decode cX7_weigh 0 = .ok (.iload_n 1, 1) := by decide +kernel
theorem dX7_weigh_1 : decode cX7_weigh 1 = .ok (.invokestatic 203, 3) := by decide +kernel
theorem dX7_weigh_4 : decode cX7_weigh 4 = .ok (.ifCond .eq 25, 3) := by decide +kernel
theorem dX7_weigh_7 : decode cX7_weigh 7 = .ok (.iload_n 2, 1) := by decide +kernel
theorem dX7_weigh_8 : decode cX7_weigh 8 = .ok (.iconst 0, 1) := by decide +kernel
theorem dX7_weigh_9 : decode cX7_weigh 9 = .ok (.bipush 99, 2) := by decide +kernel
theorem dX7_weigh_11 : decode cX7_weigh 11 = .ok (.invokestatic 60, 3) := by decide +kernel
theorem dX7_weigh_14 : decode cX7_weigh 14 = .ok (.ifCond .eq 15, 3) := by decide +kernel
theorem dX7_weigh_17 : decode cX7_weigh 17 = .ok (.aload_n 0, 1) := by decide +kernel
theorem dX7_weigh_18 : decode cX7_weigh 18 = .ok (.bipush 7, 2) := by decide +kernel
theorem dX7_weigh_20 : decode cX7_weigh 20 = .ok (.iload_n 1, 1) := by decide +kernel
theorem dX7_weigh_21 : decode cX7_weigh 21 = .ok (.iadd, 1) := by decide +kernel
theorem dX7_weigh_22 : decode cX7_weigh 22 = .ok (.iload_n 2, 1) := by decide +kernel
theorem dX7_weigh_23 : decode cX7_weigh 23 = .ok (.invokevirtual 200, 3) := by decide +kernel
theorem dX7_weigh_26 : decode cX7_weigh 26 = .ok (.goto 4, 3) := by decide +kernel
theorem dX7_weigh_29 : decode cX7_weigh 29 = .ok (.iconst (-1), 1) := by decide +kernel
theorem dX7_weigh_30 : decode cX7_weigh 30 = .ok (.ireturn, 1) := by decide +kernel
theorem dX7_hadBy_0 : decode cX7_hadBy 0 = .ok (.iconst 0, 1) := by decide +kernel
theorem dX7_hadBy_1 : decode cX7_hadBy 1 = .ok (.istore_n 2, 1) := by decide +kernel
theorem dX7_hadBy_2 : decode cX7_hadBy 2 = .ok (.iconst 0, 1) := by decide +kernel
theorem dX7_hadBy_3 : decode cX7_hadBy 3 = .ok (.istore_n 3, 1) := by decide +kernel
theorem dX7_hadBy_4 : decode cX7_hadBy 4 = .ok (.iload_n 3, 1) := by decide +kernel
theorem dX7_hadBy_5 : decode cX7_hadBy 5 = .ok (.aload_n 0, 1) := by decide +kernel
theorem dX7_hadBy_6 : decode cX7_hadBy 6 = .ok (.getfield 7, 3) := by decide +kernel
theorem dX7_hadBy_9 : decode cX7_hadBy 9 = .ok (.iconst 5, 1) := by decide +kernel
theorem dX7_hadBy_10 : decode cX7_hadBy 10 = .ok (.iaload, 1) := by decide +kernel
theorem dX7_hadBy_11 : decode cX7_hadBy 11 = .ok (.if_icmp .ge 29, 3) := by decide +kernel
theorem dX7_hadBy_14 : decode cX7_hadBy 14 = .ok (.iload_n 2, 1) := by decide +kernel
theorem dX7_hadBy_15 : decode cX7_hadBy 15 = .ok (.aload_n 0, 1) := by decide +kernel
theorem dX7_hadBy_16 : decode cX7_hadBy 16 = .ok (.iload_n 3, 1) := by decide +kernel
theorem dX7_hadBy_17 : decode cX7_hadBy 17 = .ok (.iconst 1, 1) := by decide +kernel
theorem dX7_hadBy_18 : decode cX7_hadBy 18 = .ok (.invokevirtual 217, 3) := by decide +kernel
theorem dX7_hadBy_21 : decode cX7_hadBy 21 = .ok (.iload_n 1, 1) := by decide +kernel
theorem dX7_hadBy_22 : decode cX7_hadBy 22 = .ok (.if_icmp .ne 9, 3) := by decide +kernel
theorem dX7_hadBy_25 : decode cX7_hadBy 25 = .ok (.iconst 1, 1) := by decide +kernel
theorem dX7_hadBy_26 : decode cX7_hadBy 26 = .ok (.iload_n 3, 1) := by decide +kernel
theorem dX7_hadBy_27 : decode cX7_hadBy 27 = .ok (.ishl, 1) := by decide +kernel
theorem dX7_hadBy_28 : decode cX7_hadBy 28 = .ok (.goto 4, 3) := by decide +kernel
theorem dX7_hadBy_31 : decode cX7_hadBy 31 = .ok (.iconst 0, 1) := by decide +kernel
theorem dX7_hadBy_32 : decode cX7_hadBy 32 = .ok (.ior, 1) := by decide +kernel
theorem dX7_hadBy_33 : decode cX7_hadBy 33 = .ok (.istore_n 2, 1) := by decide +kernel
theorem dX7_hadBy_34 : decode cX7_hadBy 34 = .ok (.iinc 3 1, 3) := by decide +kernel
theorem dX7_hadBy_37 : decode cX7_hadBy 37 = .ok (.goto (-33), 3) := by decide +kernel
theorem dX7_hadBy_40 : decode cX7_hadBy 40 = .ok (.iload_n 2, 1) := by decide +kernel
theorem dX7_hadBy_41 : decode cX7_hadBy 41 = .ok (.ireturn, 1) := by decide +kernel
theorem dX7_peg_0 : decode cX7_peg 0 = .ok (.iload_n 1, 1) := by decide +kernel
theorem dX7_peg_1 : decode cX7_peg 1 = .ok (.invokestatic 203, 3) := by decide +kernel
theorem dX7_peg_4 : decode cX7_peg 4 = .ok (.ifCond .eq 12, 3) := by decide +kernel
theorem dX7_peg_7 : decode cX7_peg 7 = .ok (.iload_n 2, 1) := by decide +kernel
theorem dX7_peg_8 : decode cX7_peg 8 = .ok (.iconst 0, 1) := by decide +kernel
theorem dX7_peg_9 : decode cX7_peg 9 = .ok (.iconst 1, 1) := by decide +kernel
theorem dX7_peg_10 : decode cX7_peg 10 = .ok (.invokestatic 60, 3) := by decide +kernel
theorem dX7_peg_13 : decode cX7_peg 13 = .ok (.ifCond .ne 5, 3) := by decide +kernel
theorem dX7_peg_16 : decode cX7_peg 16 = .ok (.iconst (-1), 1) := by decide +kernel
theorem dX7_peg_17 : decode cX7_peg 17 = .ok (.ireturn, 1) := by decide +kernel
theorem dX7_peg_18 : decode cX7_peg 18 = .ok (.iload_n 2, 1) := by decide +kernel
theorem dX7_peg_19 : decode cX7_peg 19 = .ok (.ifCond .ne 15, 3) := by decide +kernel
theorem dX7_peg_22 : decode cX7_peg 22 = .ok (.aload_n 0, 1) := by decide +kernel
theorem dX7_peg_23 : decode cX7_peg 23 = .ok (.getfield 7, 3) := by decide +kernel
theorem dX7_peg_26 : decode cX7_peg 26 = .ok (.bipush 7, 2) := by decide +kernel
theorem dX7_peg_28 : decode cX7_peg 28 = .ok (.iload_n 1, 1) := by decide +kernel
theorem dX7_peg_29 : decode cX7_peg 29 = .ok (.iadd, 1) := by decide +kernel
theorem dX7_peg_30 : decode cX7_peg 30 = .ok (.iaload, 1) := by decide +kernel
theorem dX7_peg_31 : decode cX7_peg 31 = .ok (.goto 8, 3) := by decide +kernel
theorem dX7_peg_34 : decode cX7_peg 34 = .ok (.aload_n 0, 1) := by decide +kernel
theorem dX7_peg_35 : decode cX7_peg 35 = .ok (.iload_n 1, 1) := by decide +kernel
theorem dX7_peg_36 : decode cX7_peg 36 = .ok (.invokevirtual 239, 3) := by decide +kernel
theorem dX7_peg_39 : decode cX7_peg 39 = .ok (.ireturn, 1) := by decide +kernel
theorem dX7_areAlike_0 : decode cX7_areAlike 0 = .ok (.aload_n 0, 1) := by decide +kernel
theorem dX7_areAlike_1 : decode cX7_areAlike 1 = .ok (.iload_n 1, 1) := by decide +kernel
theorem dX7_areAlike_2 : decode cX7_areAlike 2 = .ok (.iconst 1, 1) := by decide +kernel
theorem dX7_areAlike_3 : decode cX7_areAlike 3 = .ok (.invokevirtual 217, 3) := by decide +kernel
theorem dX7_areAlike_6 : decode cX7_areAlike 6 = .ok (.aload_n 0, 1) := by decide +kernel
theorem dX7_areAlike_7 : decode cX7_areAlike 7 = .ok (.iload_n 2, 1) := by decide +kernel
theorem dX7_areAlike_8 : decode cX7_areAlike 8 = .ok (.iconst 1, 1) := by decide +kernel
theorem dX7_areAlike_9 : decode cX7_areAlike 9 = .ok (.invokevirtual 217, 3) := by decide +kernel
theorem dX7_areAlike_12 : decode cX7_areAlike 12 = .ok (.if_icmp .eq 23, 3) := by decide +kernel
theorem dX7_areAlike_15 : decode cX7_areAlike 15 = .ok (.aload_n 0, 1) := by decide +kernel
theorem dX7_areAlike_16 : decode cX7_areAlike 16 = .ok (.iload_n 1, 1) := by decide +kernel
theorem dX7_areAlike_17 : decode cX7_areAlike 17 = .ok (.iconst 1, 1) := by decide +kernel
theorem dX7_areAlike_18 : decode cX7_areAlike 18 = .ok (.invokevirtual 217, 3) := by decide +kernel
theorem dX7_areAlike_21 : decode cX7_areAlike 21 = .ok (.iconst 5, 1) := by decide +kernel
theorem dX7_areAlike_22 : decode cX7_areAlike 22 = .ok (.if_icmp .eq 13, 3) := by decide +kernel
theorem dX7_areAlike_25 : decode cX7_areAlike 25 = .ok (.aload_n 0, 1) := by decide +kernel
theorem dX7_areAlike_26 : decode cX7_areAlike 26 = .ok (.iload_n 2, 1) := by decide +kernel
theorem dX7_areAlike_27 : decode cX7_areAlike 27 = .ok (.iconst 1, 1) := by decide +kernel
theorem dX7_areAlike_28 : decode cX7_areAlike 28 = .ok (.invokevirtual 217, 3) := by decide +kernel
theorem dX7_areAlike_31 : decode cX7_areAlike 31 = .ok (.iconst 5, 1) := by decide +kernel
theorem dX7_areAlike_32 : decode cX7_areAlike 32 = .ok (.if_icmp .ne 7, 3) := by decide +kernel
theorem dX7_areAlike_35 : decode cX7_areAlike 35 = .ok (.iconst 1, 1) := by decide +kernel
theorem dX7_areAlike_36 : decode cX7_areAlike 36 = .ok (.goto 4, 3) := by decide +kernel
theorem dX7_areAlike_39 : decode cX7_areAlike 39 = .ok (.iconst 0, 1) := by decide +kernel
theorem dX7_areAlike_40 : decode cX7_areAlike 40 = .ok (.ireturn, 1) := by decide +kernel
theorem dX7_feelEachOther_0 : decode cX7_feelEachOther 0 = .ok (.aload_n 0, 1) := by decide +kernel
theorem dX7_feelEachOther_1 : decode cX7_feelEachOther 1 = .ok (.iload_n 1, 1) := by decide +kernel
theorem dX7_feelEachOther_2 : decode cX7_feelEachOther 2 = .ok (.aload_n 0, 1) := by decide +kernel
theorem dX7_feelEachOther_3 : decode cX7_feelEachOther 3 = .ok (.getfield 7, 3) := by decide +kernel
theorem dX7_feelEachOther_6 : decode cX7_feelEachOther 6 = .ok (.iconst 4, 1) := by decide +kernel
theorem dX7_feelEachOther_7 : decode cX7_feelEachOther 7 = .ok (.iaload, 1) := by decide +kernel
theorem dX7_feelEachOther_8 : decode cX7_feelEachOther 8 = .ok (.invokevirtual 226, 3) := by decide +kernel
theorem dX7_feelEachOther_11 : decode cX7_feelEachOther 11 = .ok (.istore_n 3, 1) := by decide +kernel
theorem dX7_feelEachOther_12 : decode cX7_feelEachOther 12 = .ok (.aload_n 0, 1) := by decide +kernel
theorem dX7_feelEachOther_13 : decode cX7_feelEachOther 13 = .ok (.iload_n 2, 1) := by decide +kernel
theorem dX7_feelEachOther_14 : decode cX7_feelEachOther 14 = .ok (.aload_n 0, 1) := by decide +kernel
theorem dX7_feelEachOther_15 : decode cX7_feelEachOther 15 = .ok (.getfield 7, 3) := by decide +kernel
theorem dX7_feelEachOther_18 : decode cX7_feelEachOther 18 = .ok (.iconst 4, 1) := by decide +kernel
theorem dX7_feelEachOther_19 : decode cX7_feelEachOther 19 = .ok (.iaload, 1) := by decide +kernel
theorem dX7_feelEachOther_20 : decode cX7_feelEachOther 20 = .ok (.invokevirtual 226, 3) := by decide +kernel
theorem dX7_feelEachOther_23 : decode cX7_feelEachOther 23 = .ok (.istore 4, 2) := by decide +kernel
theorem dX7_feelEachOther_25 : decode cX7_feelEachOther 25 = .ok (.iload_n 3, 1) := by decide +kernel
theorem dX7_feelEachOther_26 : decode cX7_feelEachOther 26 = .ok (.ifCond .eq 35, 3) := by decide +kernel
theorem dX7_feelEachOther_29 : decode cX7_feelEachOther 29 = .ok (.iload 4, 2) := by decide +kernel
theorem dX7_feelEachOther_31 : decode cX7_feelEachOther 31 = .ok (.ifCond .eq 30, 3) := by decide +kernel
theorem dX7_feelEachOther_34 : decode cX7_feelEachOther 34 = .ok (.iload_n 3, 1) := by decide +kernel
theorem dX7_feelEachOther_35 : decode cX7_feelEachOther 35 = .ok (.iload 4, 2) := by decide +kernel
theorem dX7_feelEachOther_37 : decode cX7_feelEachOther 37 = .ok (.isub, 1) := by decide +kernel
theorem dX7_feelEachOther_38 : decode cX7_feelEachOther 38 = .ok (.aload_n 0, 1) := by decide +kernel
theorem dX7_feelEachOther_39 : decode cX7_feelEachOther 39 = .ok (.getfield 7, 3) := by decide +kernel
theorem dX7_feelEachOther_42 : decode cX7_feelEachOther 42 = .ok (.iconst 2, 1) := by decide +kernel
theorem dX7_feelEachOther_43 : decode cX7_feelEachOther 43 = .ok (.iaload, 1) := by decide +kernel
theorem dX7_feelEachOther_44 : decode cX7_feelEachOther 44 = .ok (.ineg, 1) := by decide +kernel
theorem dX7_feelEachOther_45 : decode cX7_feelEachOther 45 = .ok (.aload_n 0, 1) := by decide +kernel
theorem dX7_feelEachOther_46 : decode cX7_feelEachOther 46 = .ok (.getfield 7, 3) := by decide +kernel
theorem dX7_feelEachOther_49 : decode cX7_feelEachOther 49 = .ok (.iconst 2, 1) := by decide +kernel
theorem dX7_feelEachOther_50 : decode cX7_feelEachOther 50 = .ok (.iaload, 1) := by decide +kernel
theorem dX7_feelEachOther_51 : decode cX7_feelEachOther 51 = .ok (.invokestatic 60, 3) := by decide +kernel
theorem dX7_feelEachOther_54 : decode cX7_feelEachOther 54 = .ok (.ifCond .eq 7, 3) := by decide +kernel
theorem dX7_feelEachOther_57 : decode cX7_feelEachOther 57 = .ok (.iconst 1, 1) := by decide +kernel
theorem dX7_feelEachOther_58 : decode cX7_feelEachOther 58 = .ok (.goto 4, 3) := by decide +kernel
theorem dX7_feelEachOther_61 : decode cX7_feelEachOther 61 = .ok (.iconst 0, 1) := by decide +kernel
theorem dX7_feelEachOther_62 : decode cX7_feelEachOther 62 = .ok (.ireturn, 1) := by decide +kernel
theorem dX7_hourGoes_0 : decode cX7_hourGoes 0 = .ok (.iconst 0, 1) := by decide +kernel
theorem dX7_hourGoes_1 : decode cX7_hourGoes 1 = .ok (.istore_n 1, 1) := by decide +kernel
theorem dX7_hourGoes_2 : decode cX7_hourGoes 2 = .ok (.iload_n 1, 1) := by decide +kernel
theorem dX7_hourGoes_3 : decode cX7_hourGoes 3 = .ok (.aload_n 0, 1) := by decide +kernel
theorem dX7_hourGoes_4 : decode cX7_hourGoes 4 = .ok (.getfield 7, 3) := by decide +kernel
theorem dX7_hourGoes_7 : decode cX7_hourGoes 7 = .ok (.iconst 5, 1) := by decide +kernel
theorem dX7_hourGoes_8 : decode cX7_hourGoes 8 = .ok (.iaload, 1) := by decide +kernel
theorem dX7_hourGoes_9 : decode cX7_hourGoes 9 = .ok (.if_icmp .ge 33, 3) := by decide +kernel
theorem dX7_hourGoes_12 : decode cX7_hourGoes 12 = .ok (.aload_n 0, 1) := by decide +kernel
theorem dX7_hourGoes_13 : decode cX7_hourGoes 13 = .ok (.iload_n 1, 1) := by decide +kernel
theorem dX7_hourGoes_14 : decode cX7_hourGoes 14 = .ok (.iconst 3, 1) := by decide +kernel
theorem dX7_hourGoes_15 : decode cX7_hourGoes 15 = .ok (.aload_n 0, 1) := by decide +kernel
theorem dX7_hourGoes_16 : decode cX7_hourGoes 16 = .ok (.iload_n 1, 1) := by decide +kernel
theorem dX7_hourGoes_17 : decode cX7_hourGoes 17 = .ok (.iconst 3, 1) := by decide +kernel
theorem dX7_hourGoes_18 : decode cX7_hourGoes 18 = .ok (.invokevirtual 217, 3) := by decide +kernel
theorem dX7_hourGoes_21 : decode cX7_hourGoes 21 = .ok (.aload_n 0, 1) := by decide +kernel
theorem dX7_hourGoes_22 : decode cX7_hourGoes 22 = .ok (.iload_n 1, 1) := by decide +kernel
theorem dX7_hourGoes_23 : decode cX7_hourGoes 23 = .ok (.invokevirtual 229, 3) := by decide +kernel
theorem dX7_hourGoes_26 : decode cX7_hourGoes 26 = .ok (.iadd, 1) := by decide +kernel
theorem dX7_hourGoes_27 : decode cX7_hourGoes 27 = .ok (.bipush 24, 2) := by decide +kernel
theorem dX7_hourGoes_29 : decode cX7_hourGoes 29 = .ok (.iadd, 1) := by decide +kernel
theorem dX7_hourGoes_30 : decode cX7_hourGoes 30 = .ok (.bipush 12, 2) := by decide +kernel
theorem dX7_hourGoes_32 : decode cX7_hourGoes 32 = .ok (.irem, 1) := by decide +kernel
theorem dX7_hourGoes_33 : decode cX7_hourGoes 33 = .ok (.invokevirtual 213, 3) := by decide +kernel
theorem dX7_hourGoes_36 : decode cX7_hourGoes 36 = .ok (.iinc 1 1, 3) := by decide +kernel
theorem dX7_hourGoes_39 : decode cX7_hourGoes 39 = .ok (.goto (-37), 3) := by decide +kernel
theorem dX7_hourGoes_42 : decode cX7_hourGoes 42 = .ok (.iconst 0, 1) := by decide +kernel
theorem dX7_hourGoes_43 : decode cX7_hourGoes 43 = .ok (.istore_n 1, 1) := by decide +kernel
theorem dX7_hourGoes_44 : decode cX7_hourGoes 44 = .ok (.iload_n 1, 1) := by decide +kernel
theorem dX7_hourGoes_45 : decode cX7_hourGoes 45 = .ok (.aload_n 0, 1) := by decide +kernel
theorem dX7_hourGoes_46 : decode cX7_hourGoes 46 = .ok (.getfield 7, 3) := by decide +kernel
theorem dX7_hourGoes_49 : decode cX7_hourGoes 49 = .ok (.iconst 5, 1) := by decide +kernel
theorem dX7_hourGoes_50 : decode cX7_hourGoes 50 = .ok (.iaload, 1) := by decide +kernel
theorem dX7_hourGoes_51 : decode cX7_hourGoes 51 = .ok (.if_icmp .ge 69, 3) := by decide +kernel
theorem dX7_hourGoes_54 : decode cX7_hourGoes 54 = .ok (.iload_n 1, 1) := by decide +kernel
theorem dX7_hourGoes_55 : decode cX7_hourGoes 55 = .ok (.iconst 1, 1) := by decide +kernel
theorem dX7_hourGoes_56 : decode cX7_hourGoes 56 = .ok (.iadd, 1) := by decide +kernel
theorem dX7_hourGoes_57 : decode cX7_hourGoes 57 = .ok (.istore_n 2, 1) := by decide +kernel
theorem dX7_hourGoes_58 : decode cX7_hourGoes 58 = .ok (.iload_n 2, 1) := by decide +kernel
theorem dX7_hourGoes_59 : decode cX7_hourGoes 59 = .ok (.aload_n 0, 1) := by decide +kernel
theorem dX7_hourGoes_60 : decode cX7_hourGoes 60 = .ok (.getfield 7, 3) := by decide +kernel
theorem dX7_hourGoes_63 : decode cX7_hourGoes 63 = .ok (.iconst 5, 1) := by decide +kernel
theorem dX7_hourGoes_64 : decode cX7_hourGoes 64 = .ok (.iaload, 1) := by decide +kernel
theorem dX7_hourGoes_65 : decode cX7_hourGoes 65 = .ok (.if_icmp .ge 49, 3) := by decide +kernel
theorem dX7_hourGoes_68 : decode cX7_hourGoes 68 = .ok (.aload_n 0, 1) := by decide +kernel
theorem dX7_hourGoes_69 : decode cX7_hourGoes 69 = .ok (.iload_n 1, 1) := by decide +kernel
theorem dX7_hourGoes_70 : decode cX7_hourGoes 70 = .ok (.iconst 3, 1) := by decide +kernel
theorem dX7_hourGoes_71 : decode cX7_hourGoes 71 = .ok (.invokevirtual 217, 3) := by decide +kernel
theorem dX7_hourGoes_74 : decode cX7_hourGoes 74 = .ok (.aload_n 0, 1) := by decide +kernel
theorem dX7_hourGoes_75 : decode cX7_hourGoes 75 = .ok (.iload_n 2, 1) := by decide +kernel
theorem dX7_hourGoes_76 : decode cX7_hourGoes 76 = .ok (.iconst 3, 1) := by decide +kernel
theorem dX7_hourGoes_77 : decode cX7_hourGoes 77 = .ok (.invokevirtual 217, 3) := by decide +kernel
theorem dX7_hourGoes_80 : decode cX7_hourGoes 80 = .ok (.if_icmp .ne 28, 3) := by decide +kernel
theorem dX7_hourGoes_83 : decode cX7_hourGoes 83 = .ok (.aload_n 0, 1) := by decide +kernel
theorem dX7_hourGoes_84 : decode cX7_hourGoes 84 = .ok (.iload_n 1, 1) := by decide +kernel
theorem dX7_hourGoes_85 : decode cX7_hourGoes 85 = .ok (.iload_n 2, 1) := by decide +kernel
theorem dX7_hourGoes_86 : decode cX7_hourGoes 86 = .ok (.invokevirtual 242, 3) := by decide +kernel
theorem dX7_hourGoes_89 : decode cX7_hourGoes 89 = .ok (.ifCond .eq 19, 3) := by decide +kernel
theorem dX7_hourGoes_92 : decode cX7_hourGoes 92 = .ok (.aload_n 0, 1) := by decide +kernel
theorem dX7_hourGoes_93 : decode cX7_hourGoes 93 = .ok (.iload_n 1, 1) := by decide +kernel
theorem dX7_hourGoes_94 : decode cX7_hourGoes 94 = .ok (.iload_n 2, 1) := by decide +kernel
theorem dX7_hourGoes_95 : decode cX7_hourGoes 95 = .ok (.invokevirtual 245, 3) := by decide +kernel
theorem dX7_hourGoes_98 : decode cX7_hourGoes 98 = .ok (.ifCond .eq 10, 3) := by decide +kernel
theorem dX7_hourGoes_101 : decode cX7_hourGoes 101 = .ok (.aload_n 0, 1) := by decide +kernel
theorem dX7_hourGoes_102 : decode cX7_hourGoes 102 = .ok (.iload_n 1, 1) := by decide +kernel
theorem dX7_hourGoes_103 : decode cX7_hourGoes 103 = .ok (.iload_n 2, 1) := by decide +kernel
theorem dX7_hourGoes_104 : decode cX7_hourGoes 104 = .ok (.iconst 1, 1) := by decide +kernel
theorem dX7_hourGoes_105 : decode cX7_hourGoes 105 = .ok (.invokevirtual 235, 3) := by decide +kernel
theorem dX7_hourGoes_108 : decode cX7_hourGoes 108 = .ok (.iinc 2 1, 3) := by decide +kernel
theorem dX7_hourGoes_111 : decode cX7_hourGoes 111 = .ok (.goto (-53), 3) := by decide +kernel
theorem dX7_hourGoes_114 : decode cX7_hourGoes 114 = .ok (.iinc 1 1, 3) := by decide +kernel
theorem dX7_hourGoes_117 : decode cX7_hourGoes 117 = .ok (.goto (-73), 3) := by decide +kernel
theorem dX7_hourGoes_120 : decode cX7_hourGoes 120 = .ok (.aload_n 0, 1) := by decide +kernel
theorem dX7_hourGoes_121 : decode cX7_hourGoes 121 = .ok (.getfield 7, 3) := by decide +kernel
theorem dX7_hourGoes_124 : decode cX7_hourGoes 124 = .ok (.iconst 4, 1) := by decide +kernel
theorem dX7_hourGoes_125 : decode cX7_hourGoes 125 = .ok (.dup2, 1) := by decide +kernel
theorem dX7_hourGoes_126 : decode cX7_hourGoes 126 = .ok (.iaload, 1) := by decide +kernel
theorem dX7_hourGoes_127 : decode cX7_hourGoes 127 = .ok (.iconst 1, 1) := by decide +kernel
theorem dX7_hourGoes_128 : decode cX7_hourGoes 128 = .ok (.iadd, 1) := by decide +kernel
theorem dX7_hourGoes_129 : decode cX7_hourGoes 129 = .ok (.iastore, 1) := by decide +kernel
theorem dX7_hourGoes_130 : decode cX7_hourGoes 130 = .ok (.return_, 1) := by decide +kernel
theorem dX7_pairs_0 : decode cX7_pairs 0 = .ok (.iconst 0, 1) := by decide +kernel
theorem dX7_pairs_1 : decode cX7_pairs 1 = .ok (.istore_n 1, 1) := by decide +kernel
theorem dX7_pairs_2 : decode cX7_pairs 2 = .ok (.iconst 0, 1) := by decide +kernel
theorem dX7_pairs_3 : decode cX7_pairs 3 = .ok (.istore_n 2, 1) := by decide +kernel
theorem dX7_pairs_4 : decode cX7_pairs 4 = .ok (.iload_n 2, 1) := by decide +kernel
theorem dX7_pairs_5 : decode cX7_pairs 5 = .ok (.aload_n 0, 1) := by decide +kernel
theorem dX7_pairs_6 : decode cX7_pairs 6 = .ok (.getfield 7, 3) := by decide +kernel
theorem dX7_pairs_9 : decode cX7_pairs 9 = .ok (.iconst 5, 1) := by decide +kernel
theorem dX7_pairs_10 : decode cX7_pairs 10 = .ok (.iaload, 1) := by decide +kernel
theorem dX7_pairs_11 : decode cX7_pairs 11 = .ok (.if_icmp .ge 21, 3) := by decide +kernel
theorem dX7_pairs_14 : decode cX7_pairs 14 = .ok (.iload_n 1, 1) := by decide +kernel
theorem dX7_pairs_15 : decode cX7_pairs 15 = .ok (.aload_n 0, 1) := by decide +kernel
theorem dX7_pairs_16 : decode cX7_pairs 16 = .ok (.iload_n 2, 1) := by decide +kernel
theorem dX7_pairs_17 : decode cX7_pairs 17 = .ok (.iconst 4, 1) := by decide +kernel
theorem dX7_pairs_18 : decode cX7_pairs 18 = .ok (.invokevirtual 217, 3) := by decide +kernel
theorem dX7_pairs_21 : decode cX7_pairs 21 = .ok (.invokestatic 248, 3) := by decide +kernel
theorem dX7_pairs_24 : decode cX7_pairs 24 = .ok (.iadd, 1) := by decide +kernel
theorem dX7_pairs_25 : decode cX7_pairs 25 = .ok (.istore_n 1, 1) := by decide +kernel
theorem dX7_pairs_26 : decode cX7_pairs 26 = .ok (.iinc 2 1, 3) := by decide +kernel
theorem dX7_pairs_29 : decode cX7_pairs 29 = .ok (.goto (-25), 3) := by decide +kernel
theorem dX7_pairs_32 : decode cX7_pairs 32 = .ok (.iload_n 1, 1) := by decide +kernel
theorem dX7_pairs_33 : decode cX7_pairs 33 = .ok (.iconst 2, 1) := by decide +kernel
theorem dX7_pairs_34 : decode cX7_pairs 34 = .ok (.idiv, 1) := by decide +kernel
theorem dX7_pairs_35 : decode cX7_pairs 35 = .ok (.ireturn, 1) := by decide +kernel
theorem dX7_hours_0 : decode cX7_hours 0 = .ok (.iload_n 1, 1) := by decide +kernel
theorem dX7_hours_1 : decode cX7_hours 1 = .ok (.iconst 1, 1) := by decide +kernel
theorem dX7_hours_2 : decode cX7_hours 2 = .ok (.bipush 60, 2) := by decide +kernel
theorem dX7_hours_4 : decode cX7_hours 4 = .ok (.invokestatic 60, 3) := by decide +kernel
theorem dX7_hours_7 : decode cX7_hours 7 = .ok (.ifCond .ne 5, 3) := by decide +kernel
theorem dX7_hours_10 : decode cX7_hours 10 = .ok (.iconst (-1), 1) := by decide +kernel
theorem dX7_hours_11 : decode cX7_hours 11 = .ok (.ireturn, 1) := by decide +kernel
theorem dX7_hours_12 : decode cX7_hours 12 = .ok (.iconst 0, 1) := by decide +kernel
theorem dX7_hours_13 : decode cX7_hours 13 = .ok (.istore_n 2, 1) := by decide +kernel
theorem dX7_hours_14 : decode cX7_hours 14 = .ok (.iload_n 2, 1) := by decide +kernel
theorem dX7_hours_15 : decode cX7_hours 15 = .ok (.iload_n 1, 1) := by decide +kernel
theorem dX7_hours_16 : decode cX7_hours 16 = .ok (.if_icmp .ge 13, 3) := by decide +kernel
theorem dX7_hours_19 : decode cX7_hours 19 = .ok (.aload_n 0, 1) := by decide +kernel
theorem dX7_hours_20 : decode cX7_hours 20 = .ok (.invokevirtual 251, 3) := by decide +kernel
theorem dX7_hours_23 : decode cX7_hours 23 = .ok (.iinc 2 1, 3) := by decide +kernel
theorem dX7_hours_26 : decode cX7_hours 26 = .ok (.goto (-12), 3) := by decide +kernel
theorem dX7_hours_29 : decode cX7_hours 29 = .ok (.aload_n 0, 1) := by decide +kernel
theorem dX7_hours_30 : decode cX7_hours 30 = .ok (.invokevirtual 254, 3) := by decide +kernel
theorem dX7_hours_33 : decode cX7_hours 33 = .ok (.ireturn, 1) := by decide +kernel
theorem dX7_drawn_0 : decode cX7_drawn 0 = .ok (.aload_n 0, 1) := by decide +kernel
theorem dX7_drawn_1 : decode cX7_drawn 1 = .ok (.getfield 7, 3) := by decide +kernel
theorem dX7_drawn_4 : decode cX7_drawn 4 = .ok (.bipush 6, 2) := by decide +kernel
theorem dX7_drawn_6 : decode cX7_drawn 6 = .ok (.aload_n 0, 1) := by decide +kernel
theorem dX7_drawn_7 : decode cX7_drawn 7 = .ok (.getfield 7, 3) := by decide +kernel
theorem dX7_drawn_10 : decode cX7_drawn 10 = .ok (.bipush 6, 2) := by decide +kernel
theorem dX7_drawn_12 : decode cX7_drawn 12 = .ok (.iaload, 1) := by decide +kernel
theorem dX7_drawn_13 : decode cX7_drawn 13 = .ok (.ldc_w 257, 3) := by decide +kernel
theorem dX7_drawn_16 : decode cX7_drawn 16 = .ok (.imul, 1) := by decide +kernel
theorem dX7_drawn_17 : decode cX7_drawn 17 = .ok (.sipush 12345, 3) := by decide +kernel
theorem dX7_drawn_20 : decode cX7_drawn 20 = .ok (.iadd, 1) := by decide +kernel
theorem dX7_drawn_21 : decode cX7_drawn 21 = .ok (.iastore, 1) := by decide +kernel
theorem dX7_drawn_22 : decode cX7_drawn 22 = .ok (.aload_n 0, 1) := by decide +kernel
theorem dX7_drawn_23 : decode cX7_drawn 23 = .ok (.getfield 7, 3) := by decide +kernel
theorem dX7_drawn_26 : decode cX7_drawn 26 = .ok (.bipush 6, 2) := by decide +kernel
theorem dX7_drawn_28 : decode cX7_drawn 28 = .ok (.iaload, 1) := by decide +kernel
theorem dX7_drawn_29 : decode cX7_drawn 29 = .ok (.bipush 16, 2) := by decide +kernel
theorem dX7_drawn_31 : decode cX7_drawn 31 = .ok (.iushr, 1) := by decide +kernel
theorem dX7_drawn_32 : decode cX7_drawn 32 = .ok (.ireturn, 1) := by decide +kernel
theorem dX7_seed_0 : decode cX7_seed 0 = .ok (.aload_n 0, 1) := by decide +kernel
theorem dX7_seed_1 : decode cX7_seed 1 = .ok (.bipush 6, 2) := by decide +kernel
theorem dX7_seed_3 : decode cX7_seed 3 = .ok (.iload_n 1, 1) := by decide +kernel
theorem dX7_seed_4 : decode cX7_seed 4 = .ok (.invokevirtual 200, 3) := by decide +kernel
theorem dX7_seed_7 : decode cX7_seed 7 = .ok (.ireturn, 1) := by decide +kernel
theorem dX7_hourByDraws_0 : decode cX7_hourByDraws 0 = .ok (.aload_n 0, 1) := by decide +kernel
theorem dX7_hourByDraws_1 : decode cX7_hourByDraws 1 = .ok (.getfield 7, 3) := by decide +kernel
theorem dX7_hourByDraws_4 : decode cX7_hourByDraws 4 = .ok (.iconst 5, 1) := by decide +kernel
theorem dX7_hourByDraws_5 : decode cX7_hourByDraws 5 = .ok (.iaload, 1) := by decide +kernel
theorem dX7_hourByDraws_6 : decode cX7_hourByDraws 6 = .ok (.ifCond .le 44, 3) := by decide +kernel
theorem dX7_hourByDraws_9 : decode cX7_hourByDraws 9 = .ok (.aload_n 0, 1) := by decide +kernel
theorem dX7_hourByDraws_10 : decode cX7_hourByDraws 10 = .ok (.invokevirtual 258, 3) := by decide +kernel
theorem dX7_hourByDraws_13 : decode cX7_hourByDraws 13 = .ok (.aload_n 0, 1) := by decide +kernel
theorem dX7_hourByDraws_14 : decode cX7_hourByDraws 14 = .ok (.getfield 7, 3) := by decide +kernel
theorem dX7_hourByDraws_17 : decode cX7_hourByDraws 17 = .ok (.iconst 5, 1) := by decide +kernel
theorem dX7_hourByDraws_18 : decode cX7_hourByDraws 18 = .ok (.iaload, 1) := by decide +kernel
theorem dX7_hourByDraws_19 : decode cX7_hourByDraws 19 = .ok (.irem, 1) := by decide +kernel
theorem dX7_hourByDraws_20 : decode cX7_hourByDraws 20 = .ok (.istore_n 1, 1) := by decide +kernel
theorem dX7_hourByDraws_21 : decode cX7_hourByDraws 21 = .ok (.aload_n 0, 1) := by decide +kernel
theorem dX7_hourByDraws_22 : decode cX7_hourByDraws 22 = .ok (.invokevirtual 258, 3) := by decide +kernel
theorem dX7_hourByDraws_25 : decode cX7_hourByDraws 25 = .ok (.bipush 100, 2) := by decide +kernel
theorem dX7_hourByDraws_27 : decode cX7_hourByDraws 27 = .ok (.irem, 1) := by decide +kernel
theorem dX7_hourByDraws_28 : decode cX7_hourByDraws 28 = .ok (.aload_n 0, 1) := by decide +kernel
theorem dX7_hourByDraws_29 : decode cX7_hourByDraws 29 = .ok (.getfield 7, 3) := by decide +kernel
theorem dX7_hourByDraws_32 : decode cX7_hourByDraws 32 = .ok (.iconst 3, 1) := by decide +kernel
theorem dX7_hourByDraws_33 : decode cX7_hourByDraws 33 = .ok (.iaload, 1) := by decide +kernel
theorem dX7_hourByDraws_34 : decode cX7_hourByDraws 34 = .ok (.if_icmp .ge 16, 3) := by decide +kernel
theorem dX7_hourByDraws_37 : decode cX7_hourByDraws 37 = .ok (.aload_n 0, 1) := by decide +kernel
theorem dX7_hourByDraws_38 : decode cX7_hourByDraws 38 = .ok (.iload_n 1, 1) := by decide +kernel
theorem dX7_hourByDraws_39 : decode cX7_hourByDraws 39 = .ok (.iconst 3, 1) := by decide +kernel
theorem dX7_hourByDraws_40 : decode cX7_hourByDraws 40 = .ok (.aload_n 0, 1) := by decide +kernel
theorem dX7_hourByDraws_41 : decode cX7_hourByDraws 41 = .ok (.invokevirtual 258, 3) := by decide +kernel
theorem dX7_hourByDraws_44 : decode cX7_hourByDraws 44 = .ok (.bipush 12, 2) := by decide +kernel
theorem dX7_hourByDraws_46 : decode cX7_hourByDraws 46 = .ok (.irem, 1) := by decide +kernel
theorem dX7_hourByDraws_47 : decode cX7_hourByDraws 47 = .ok (.invokevirtual 213, 3) := by decide +kernel
theorem dX7_hourByDraws_50 : decode cX7_hourByDraws 50 = .ok (.aload_n 0, 1) := by decide +kernel
theorem dX7_hourByDraws_51 : decode cX7_hourByDraws 51 = .ok (.invokevirtual 251, 3) := by decide +kernel
theorem dX7_hourByDraws_54 : decode cX7_hourByDraws 54 = .ok (.aload_n 0, 1) := by decide +kernel
theorem dX7_hourByDraws_55 : decode cX7_hourByDraws 55 = .ok (.invokevirtual 254, 3) := by decide +kernel
theorem dX7_hourByDraws_58 : decode cX7_hourByDraws 58 = .ok (.ireturn, 1) := by decide +kernel
theorem dX7_hour_0 : decode cX7_hour 0 = .ok (.aload_n 0, 1) := by decide +kernel
theorem dX7_hour_1 : decode cX7_hour 1 = .ok (.invokevirtual 261, 3) := by decide +kernel
theorem dX7_hour_4 : decode cX7_hour 4 = .ok (.ireturn, 1) := by decide +kernel
theorem dX7_found_0 : decode cX7_found 0 = .ok (.iload_n 1, 1) := by decide +kernel
theorem dX7_found_1 : decode cX7_found 1 = .ok (.iconst 1, 1) := by decide +kernel
theorem dX7_found_2 : decode cX7_found 2 = .ok (.bipush 30, 2) := by decide +kernel
theorem dX7_found_4 : decode cX7_found 4 = .ok (.invokestatic 60, 3) := by decide +kernel
theorem dX7_found_7 : decode cX7_found 7 = .ok (.ifCond .ne 5, 3) := by decide +kernel
theorem dX7_found_10 : decode cX7_found 10 = .ok (.iconst (-1), 1) := by decide +kernel
theorem dX7_found_11 : decode cX7_found 11 = .ok (.ireturn, 1) := by decide +kernel
theorem dX7_found_12 : decode cX7_found 12 = .ok (.aload_n 0, 1) := by decide +kernel
theorem dX7_found_13 : decode cX7_found 13 = .ok (.getfield 7, 3) := by decide +kernel
theorem dX7_found_16 : decode cX7_found 16 = .ok (.aload_n 0, 1) := by decide +kernel
theorem dX7_found_17 : decode cX7_found 17 = .ok (.getfield 19, 3) := by decide +kernel
theorem dX7_found_20 : decode cX7_found 20 = .ok (.invokestatic 193, 3) := by decide +kernel
theorem dX7_found_23 : decode cX7_found 23 = .ok (.aload_n 0, 1) := by decide +kernel
theorem dX7_found_24 : decode cX7_found 24 = .ok (.invokevirtual 251, 3) := by decide +kernel
theorem dX7_found_27 : decode cX7_found 27 = .ok (.aload_n 0, 1) := by decide +kernel
theorem dX7_found_28 : decode cX7_found 28 = .ok (.invokevirtual 254, 3) := by decide +kernel
theorem dX7_found_31 : decode cX7_found 31 = .ok (.istore_n 2, 1) := by decide +kernel
theorem dX7_found_32 : decode cX7_found 32 = .ok (.aload_n 0, 1) := by decide +kernel
theorem dX7_found_33 : decode cX7_found 33 = .ok (.getfield 19, 3) := by decide +kernel
theorem dX7_found_36 : decode cX7_found 36 = .ok (.aload_n 0, 1) := by decide +kernel
theorem dX7_found_37 : decode cX7_found 37 = .ok (.getfield 7, 3) := by decide +kernel
theorem dX7_found_40 : decode cX7_found 40 = .ok (.invokestatic 193, 3) := by decide +kernel
theorem dX7_found_43 : decode cX7_found 43 = .ok (.aload_n 0, 1) := by decide +kernel
theorem dX7_found_44 : decode cX7_found 44 = .ok (.getfield 7, 3) := by decide +kernel
theorem dX7_found_47 : decode cX7_found 47 = .ok (.bipush 6, 2) := by decide +kernel
theorem dX7_found_49 : decode cX7_found 49 = .ok (.iaload, 1) := by decide +kernel
theorem dX7_found_50 : decode cX7_found 50 = .ok (.istore_n 3, 1) := by decide +kernel
theorem dX7_found_51 : decode cX7_found 51 = .ok (.iconst 0, 1) := by decide +kernel
theorem dX7_found_52 : decode cX7_found 52 = .ok (.istore 4, 2) := by decide +kernel
theorem dX7_found_54 : decode cX7_found 54 = .ok (.iconst 0, 1) := by decide +kernel
theorem dX7_found_55 : decode cX7_found 55 = .ok (.istore 5, 2) := by decide +kernel
theorem dX7_found_57 : decode cX7_found 57 = .ok (.iload 5, 2) := by decide +kernel
theorem dX7_found_59 : decode cX7_found 59 = .ok (.iload_n 1, 1) := by decide +kernel
theorem dX7_found_60 : decode cX7_found 60 = .ok (.if_icmp .ge 54, 3) := by decide +kernel
theorem dX7_found_63 : decode cX7_found 63 = .ok (.aload_n 0, 1) := by decide +kernel
theorem dX7_found_64 : decode cX7_found 64 = .ok (.getfield 7, 3) := by decide +kernel
theorem dX7_found_67 : decode cX7_found 67 = .ok (.bipush 6, 2) := by decide +kernel
theorem dX7_found_69 : decode cX7_found 69 = .ok (.iload_n 3, 1) := by decide +kernel
theorem dX7_found_70 : decode cX7_found 70 = .ok (.iastore, 1) := by decide +kernel
theorem dX7_found_71 : decode cX7_found 71 = .ok (.iload 4, 2) := by decide +kernel
theorem dX7_found_73 : decode cX7_found 73 = .ok (.aload_n 0, 1) := by decide +kernel
theorem dX7_found_74 : decode cX7_found 74 = .ok (.invokevirtual 261, 3) := by decide +kernel
theorem dX7_found_77 : decode cX7_found 77 = .ok (.iload_n 2, 1) := by decide +kernel
theorem dX7_found_78 : decode cX7_found 78 = .ok (.if_icmp .le 7, 3) := by decide +kernel
theorem dX7_found_81 : decode cX7_found 81 = .ok (.iconst 1, 1) := by decide +kernel
theorem dX7_found_82 : decode cX7_found 82 = .ok (.goto 4, 3) := by decide +kernel
theorem dX7_found_85 : decode cX7_found 85 = .ok (.iconst 0, 1) := by decide +kernel
theorem dX7_found_86 : decode cX7_found 86 = .ok (.iadd, 1) := by decide +kernel
theorem dX7_found_87 : decode cX7_found 87 = .ok (.istore 4, 2) := by decide +kernel
theorem dX7_found_89 : decode cX7_found 89 = .ok (.aload_n 0, 1) := by decide +kernel
theorem dX7_found_90 : decode cX7_found 90 = .ok (.getfield 7, 3) := by decide +kernel
theorem dX7_found_93 : decode cX7_found 93 = .ok (.bipush 6, 2) := by decide +kernel
theorem dX7_found_95 : decode cX7_found 95 = .ok (.iaload, 1) := by decide +kernel
theorem dX7_found_96 : decode cX7_found 96 = .ok (.istore_n 3, 1) := by decide +kernel
theorem dX7_found_97 : decode cX7_found 97 = .ok (.aload_n 0, 1) := by decide +kernel
theorem dX7_found_98 : decode cX7_found 98 = .ok (.getfield 19, 3) := by decide +kernel
theorem dX7_found_101 : decode cX7_found 101 = .ok (.aload_n 0, 1) := by decide +kernel
theorem dX7_found_102 : decode cX7_found 102 = .ok (.getfield 7, 3) := by decide +kernel
theorem dX7_found_105 : decode cX7_found 105 = .ok (.invokestatic 193, 3) := by decide +kernel
theorem dX7_found_108 : decode cX7_found 108 = .ok (.iinc 5 1, 3) := by decide +kernel
theorem dX7_found_111 : decode cX7_found 111 = .ok (.goto (-54), 3) := by decide +kernel
theorem dX7_found_114 : decode cX7_found 114 = .ok (.iload 4, 2) := by decide +kernel
theorem dX7_found_116 : decode cX7_found 116 = .ok (.ireturn, 1) := by decide +kernel
theorem dX7_lonelySet_0 : decode cX7_lonelySet 0 = .ok (.iconst 0, 1) := by decide +kernel
theorem dX7_lonelySet_1 : decode cX7_lonelySet 1 = .ok (.istore_n 1, 1) := by decide +kernel
theorem dX7_lonelySet_2 : decode cX7_lonelySet 2 = .ok (.iconst 0, 1) := by decide +kernel
theorem dX7_lonelySet_3 : decode cX7_lonelySet 3 = .ok (.istore_n 2, 1) := by decide +kernel
theorem dX7_lonelySet_4 : decode cX7_lonelySet 4 = .ok (.iload_n 2, 1) := by decide +kernel
theorem dX7_lonelySet_5 : decode cX7_lonelySet 5 = .ok (.aload_n 0, 1) := by decide +kernel
theorem dX7_lonelySet_6 : decode cX7_lonelySet 6 = .ok (.getfield 7, 3) := by decide +kernel
theorem dX7_lonelySet_9 : decode cX7_lonelySet 9 = .ok (.iconst 5, 1) := by decide +kernel
theorem dX7_lonelySet_10 : decode cX7_lonelySet 10 = .ok (.iaload, 1) := by decide +kernel
theorem dX7_lonelySet_11 : decode cX7_lonelySet 11 = .ok (.if_icmp .ge 28, 3) := by decide +kernel
theorem dX7_lonelySet_14 : decode cX7_lonelySet 14 = .ok (.iload_n 1, 1) := by decide +kernel
theorem dX7_lonelySet_15 : decode cX7_lonelySet 15 = .ok (.aload_n 0, 1) := by decide +kernel
theorem dX7_lonelySet_16 : decode cX7_lonelySet 16 = .ok (.iload_n 2, 1) := by decide +kernel
theorem dX7_lonelySet_17 : decode cX7_lonelySet 17 = .ok (.iconst 4, 1) := by decide +kernel
theorem dX7_lonelySet_18 : decode cX7_lonelySet 18 = .ok (.invokevirtual 217, 3) := by decide +kernel
theorem dX7_lonelySet_21 : decode cX7_lonelySet 21 = .ok (.ifCond .ne 9, 3) := by decide +kernel
theorem dX7_lonelySet_24 : decode cX7_lonelySet 24 = .ok (.iconst 1, 1) := by decide +kernel
theorem dX7_lonelySet_25 : decode cX7_lonelySet 25 = .ok (.iload_n 2, 1) := by decide +kernel
theorem dX7_lonelySet_26 : decode cX7_lonelySet 26 = .ok (.ishl, 1) := by decide +kernel
theorem dX7_lonelySet_27 : decode cX7_lonelySet 27 = .ok (.goto 4, 3) := by decide +kernel
theorem dX7_lonelySet_30 : decode cX7_lonelySet 30 = .ok (.iconst 0, 1) := by decide +kernel
theorem dX7_lonelySet_31 : decode cX7_lonelySet 31 = .ok (.ior, 1) := by decide +kernel
theorem dX7_lonelySet_32 : decode cX7_lonelySet 32 = .ok (.istore_n 1, 1) := by decide +kernel
theorem dX7_lonelySet_33 : decode cX7_lonelySet 33 = .ok (.iinc 2 1, 3) := by decide +kernel
theorem dX7_lonelySet_36 : decode cX7_lonelySet 36 = .ok (.goto (-32), 3) := by decide +kernel
theorem dX7_lonelySet_39 : decode cX7_lonelySet 39 = .ok (.iload_n 1, 1) := by decide +kernel
theorem dX7_lonelySet_40 : decode cX7_lonelySet 40 = .ok (.ireturn, 1) := by decide +kernel
theorem dX7_placeSet_0 : decode cX7_placeSet 0 = .ok (.iconst 0, 1) := by decide +kernel
theorem dX7_placeSet_1 : decode cX7_placeSet 1 = .ok (.istore_n 1, 1) := by decide +kernel
theorem dX7_placeSet_2 : decode cX7_placeSet 2 = .ok (.iconst 0, 1) := by decide +kernel
theorem dX7_placeSet_3 : decode cX7_placeSet 3 = .ok (.istore_n 2, 1) := by decide +kernel
theorem dX7_placeSet_4 : decode cX7_placeSet 4 = .ok (.iload_n 2, 1) := by decide +kernel
theorem dX7_placeSet_5 : decode cX7_placeSet 5 = .ok (.aload_n 0, 1) := by decide +kernel
theorem dX7_placeSet_6 : decode cX7_placeSet 6 = .ok (.getfield 7, 3) := by decide +kernel
theorem dX7_placeSet_9 : decode cX7_placeSet 9 = .ok (.iconst 5, 1) := by decide +kernel
theorem dX7_placeSet_10 : decode cX7_placeSet 10 = .ok (.iaload, 1) := by decide +kernel
theorem dX7_placeSet_11 : decode cX7_placeSet 11 = .ok (.if_icmp .ge 20, 3) := by decide +kernel
theorem dX7_placeSet_14 : decode cX7_placeSet 14 = .ok (.iload_n 1, 1) := by decide +kernel
theorem dX7_placeSet_15 : decode cX7_placeSet 15 = .ok (.iconst 1, 1) := by decide +kernel
theorem dX7_placeSet_16 : decode cX7_placeSet 16 = .ok (.aload_n 0, 1) := by decide +kernel
theorem dX7_placeSet_17 : decode cX7_placeSet 17 = .ok (.iload_n 2, 1) := by decide +kernel
theorem dX7_placeSet_18 : decode cX7_placeSet 18 = .ok (.iconst 3, 1) := by decide +kernel
theorem dX7_placeSet_19 : decode cX7_placeSet 19 = .ok (.invokevirtual 217, 3) := by decide +kernel
theorem dX7_placeSet_22 : decode cX7_placeSet 22 = .ok (.ishl, 1) := by decide +kernel
theorem dX7_placeSet_23 : decode cX7_placeSet 23 = .ok (.ior, 1) := by decide +kernel
theorem dX7_placeSet_24 : decode cX7_placeSet 24 = .ok (.istore_n 1, 1) := by decide +kernel
theorem dX7_placeSet_25 : decode cX7_placeSet 25 = .ok (.iinc 2 1, 3) := by decide +kernel
theorem dX7_placeSet_28 : decode cX7_placeSet 28 = .ok (.goto (-24), 3) := by decide +kernel
theorem dX7_placeSet_31 : decode cX7_placeSet 31 = .ok (.iload_n 1, 1) := by decide +kernel
theorem dX7_placeSet_32 : decode cX7_placeSet 32 = .ok (.ireturn, 1) := by decide +kernel
theorem dX7_circleOf_0 : decode cX7_circleOf 0 = .ok (.iconst 1, 1) := by decide +kernel
theorem dX7_circleOf_1 : decode cX7_circleOf 1 = .ok (.iload_n 1, 1) := by decide +kernel
theorem dX7_circleOf_2 : decode cX7_circleOf 2 = .ok (.ishl, 1) := by decide +kernel
theorem dX7_circleOf_3 : decode cX7_circleOf 3 = .ok (.istore_n 2, 1) := by decide +kernel
theorem dX7_circleOf_4 : decode cX7_circleOf 4 = .ok (.iconst 0, 1) := by decide +kernel
theorem dX7_circleOf_5 : decode cX7_circleOf 5 = .ok (.istore_n 3, 1) := by decide +kernel
theorem dX7_circleOf_6 : decode cX7_circleOf 6 = .ok (.iload_n 3, 1) := by decide +kernel
theorem dX7_circleOf_7 : decode cX7_circleOf 7 = .ok (.bipush 8, 2) := by decide +kernel
theorem dX7_circleOf_9 : decode cX7_circleOf 9 = .ok (.if_icmp .ge 53, 3) := by decide +kernel
theorem dX7_circleOf_12 : decode cX7_circleOf 12 = .ok (.iconst 0, 1) := by decide +kernel
theorem dX7_circleOf_13 : decode cX7_circleOf 13 = .ok (.istore 4, 2) := by decide +kernel
theorem dX7_circleOf_15 : decode cX7_circleOf 15 = .ok (.iload 4, 2) := by decide +kernel
theorem dX7_circleOf_17 : decode cX7_circleOf 17 = .ok (.aload_n 0, 1) := by decide +kernel
theorem dX7_circleOf_18 : decode cX7_circleOf 18 = .ok (.getfield 7, 3) := by decide +kernel
theorem dX7_circleOf_21 : decode cX7_circleOf 21 = .ok (.iconst 5, 1) := by decide +kernel
theorem dX7_circleOf_22 : decode cX7_circleOf 22 = .ok (.iaload, 1) := by decide +kernel
theorem dX7_circleOf_23 : decode cX7_circleOf 23 = .ok (.if_icmp .ge 33, 3) := by decide +kernel
theorem dX7_circleOf_26 : decode cX7_circleOf 26 = .ok (.iload_n 2, 1) := by decide +kernel
theorem dX7_circleOf_27 : decode cX7_circleOf 27 = .ok (.iload_n 2, 1) := by decide +kernel
theorem dX7_circleOf_28 : decode cX7_circleOf 28 = .ok (.iload 4, 2) := by decide +kernel
theorem dX7_circleOf_30 : decode cX7_circleOf 30 = .ok (.ishr, 1) := by decide +kernel
theorem dX7_circleOf_31 : decode cX7_circleOf 31 = .ok (.iconst 1, 1) := by decide +kernel
theorem dX7_circleOf_32 : decode cX7_circleOf 32 = .ok (.iand, 1) := by decide +kernel
theorem dX7_circleOf_33 : decode cX7_circleOf 33 = .ok (.iconst 1, 1) := by decide +kernel
theorem dX7_circleOf_34 : decode cX7_circleOf 34 = .ok (.if_icmp .ne 13, 3) := by decide +kernel
theorem dX7_circleOf_37 : decode cX7_circleOf 37 = .ok (.aload_n 0, 1) := by decide +kernel
theorem dX7_circleOf_38 : decode cX7_circleOf 38 = .ok (.iload 4, 2) := by decide +kernel
theorem dX7_circleOf_40 : decode cX7_circleOf 40 = .ok (.iconst 4, 1) := by decide +kernel
theorem dX7_circleOf_41 : decode cX7_circleOf 41 = .ok (.invokevirtual 217, 3) := by decide +kernel
theorem dX7_circleOf_44 : decode cX7_circleOf 44 = .ok (.goto 4, 3) := by decide +kernel
theorem dX7_circleOf_47 : decode cX7_circleOf 47 = .ok (.iconst 0, 1) := by decide +kernel
theorem dX7_circleOf_48 : decode cX7_circleOf 48 = .ok (.ior, 1) := by decide +kernel
theorem dX7_circleOf_49 : decode cX7_circleOf 49 = .ok (.istore_n 2, 1) := by decide +kernel
theorem dX7_circleOf_50 : decode cX7_circleOf 50 = .ok (.iinc 4 1, 3) := by decide +kernel
theorem dX7_circleOf_53 : decode cX7_circleOf 53 = .ok (.goto (-38), 3) := by decide +kernel
theorem dX7_circleOf_56 : decode cX7_circleOf 56 = .ok (.iinc 3 1, 3) := by decide +kernel
theorem dX7_circleOf_59 : decode cX7_circleOf 59 = .ok (.goto (-53), 3) := by decide +kernel
theorem dX7_circleOf_62 : decode cX7_circleOf 62 = .ok (.iload_n 2, 1) := by decide +kernel
theorem dX7_circleOf_63 : decode cX7_circleOf 63 = .ok (.ireturn, 1) := by decide +kernel
theorem dX7_circles_0 : decode cX7_circles 0 = .ok (.iconst 0, 1) := by decide +kernel
theorem dX7_circles_1 : decode cX7_circles 1 = .ok (.istore_n 1, 1) := by decide +kernel
theorem dX7_circles_2 : decode cX7_circles 2 = .ok (.iconst 0, 1) := by decide +kernel
theorem dX7_circles_3 : decode cX7_circles 3 = .ok (.istore_n 2, 1) := by decide +kernel
theorem dX7_circles_4 : decode cX7_circles 4 = .ok (.iload_n 2, 1) := by decide +kernel
theorem dX7_circles_5 : decode cX7_circles 5 = .ok (.aload_n 0, 1) := by decide +kernel
theorem dX7_circles_6 : decode cX7_circles 6 = .ok (.getfield 7, 3) := by decide +kernel
theorem dX7_circles_9 : decode cX7_circles 9 = .ok (.iconst 5, 1) := by decide +kernel
theorem dX7_circles_10 : decode cX7_circles 10 = .ok (.iaload, 1) := by decide +kernel
theorem dX7_circles_11 : decode cX7_circles 11 = .ok (.if_icmp .ge 31, 3) := by decide +kernel
theorem dX7_circles_14 : decode cX7_circles 14 = .ok (.iload_n 1, 1) := by decide +kernel
theorem dX7_circles_15 : decode cX7_circles 15 = .ok (.aload_n 0, 1) := by decide +kernel
theorem dX7_circles_16 : decode cX7_circles 16 = .ok (.iload_n 2, 1) := by decide +kernel
theorem dX7_circles_17 : decode cX7_circles 17 = .ok (.invokevirtual 264, 3) := by decide +kernel
theorem dX7_circles_20 : decode cX7_circles 20 = .ok (.iconst 1, 1) := by decide +kernel
theorem dX7_circles_21 : decode cX7_circles 21 = .ok (.iload_n 2, 1) := by decide +kernel
theorem dX7_circles_22 : decode cX7_circles 22 = .ok (.ishl, 1) := by decide +kernel
theorem dX7_circles_23 : decode cX7_circles 23 = .ok (.iconst 1, 1) := by decide +kernel
theorem dX7_circles_24 : decode cX7_circles 24 = .ok (.isub, 1) := by decide +kernel
theorem dX7_circles_25 : decode cX7_circles 25 = .ok (.iand, 1) := by decide +kernel
theorem dX7_circles_26 : decode cX7_circles 26 = .ok (.ifCond .ne 7, 3) := by decide +kernel
theorem dX7_circles_29 : decode cX7_circles 29 = .ok (.iconst 1, 1) := by decide +kernel
theorem dX7_circles_30 : decode cX7_circles 30 = .ok (.goto 4, 3) := by decide +kernel
theorem dX7_circles_33 : decode cX7_circles 33 = .ok (.iconst 0, 1) := by decide +kernel
theorem dX7_circles_34 : decode cX7_circles 34 = .ok (.iadd, 1) := by decide +kernel
theorem dX7_circles_35 : decode cX7_circles 35 = .ok (.istore_n 1, 1) := by decide +kernel
theorem dX7_circles_36 : decode cX7_circles 36 = .ok (.iinc 2 1, 3) := by decide +kernel
theorem dX7_circles_39 : decode cX7_circles 39 = .ok (.goto (-35), 3) := by decide +kernel
theorem dX7_circles_42 : decode cX7_circles 42 = .ok (.iload_n 1, 1) := by decide +kernel
theorem dX7_circles_43 : decode cX7_circles 43 = .ok (.ireturn, 1) := by decide +kernel
theorem dX7_weights_0 : decode cX7_weights 0 = .ok (.iconst 0, 1) := by decide +kernel
theorem dX7_weights_1 : decode cX7_weights 1 = .ok (.istore_n 1, 1) := by decide +kernel
theorem dX7_weights_2 : decode cX7_weights 2 = .ok (.iconst 0, 1) := by decide +kernel
theorem dX7_weights_3 : decode cX7_weights 3 = .ok (.istore_n 2, 1) := by decide +kernel
theorem dX7_weights_4 : decode cX7_weights 4 = .ok (.iload_n 2, 1) := by decide +kernel
theorem dX7_weights_5 : decode cX7_weights 5 = .ok (.bipush 6, 2) := by decide +kernel
theorem dX7_weights_7 : decode cX7_weights 7 = .ok (.if_icmp .ge 21, 3) := by decide +kernel
theorem dX7_weights_10 : decode cX7_weights 10 = .ok (.iload_n 1, 1) := by decide +kernel
theorem dX7_weights_11 : decode cX7_weights 11 = .ok (.aload_n 0, 1) := by decide +kernel
theorem dX7_weights_12 : decode cX7_weights 12 = .ok (.getfield 7, 3) := by decide +kernel
theorem dX7_weights_15 : decode cX7_weights 15 = .ok (.bipush 7, 2) := by decide +kernel
theorem dX7_weights_17 : decode cX7_weights 17 = .ok (.iload_n 2, 1) := by decide +kernel
theorem dX7_weights_18 : decode cX7_weights 18 = .ok (.iadd, 1) := by decide +kernel
theorem dX7_weights_19 : decode cX7_weights 19 = .ok (.iaload, 1) := by decide +kernel
theorem dX7_weights_20 : decode cX7_weights 20 = .ok (.iadd, 1) := by decide +kernel
theorem dX7_weights_21 : decode cX7_weights 21 = .ok (.istore_n 1, 1) := by decide +kernel
theorem dX7_weights_22 : decode cX7_weights 22 = .ok (.iinc 2 1, 3) := by decide +kernel
theorem dX7_weights_25 : decode cX7_weights 25 = .ok (.goto (-21), 3) := by decide +kernel
theorem dX7_weights_28 : decode cX7_weights 28 = .ok (.iload_n 1, 1) := by decide +kernel
theorem dX7_weights_29 : decode cX7_weights 29 = .ok (.ireturn, 1) := by decide +kernel
theorem dX7_state_0 : decode cX7_state 0 = .ok (.iload_n 1, 1) := by decide +kernel
theorem dX7_state_1 : decode cX7_state 1 = .ok (.tableswitch 71 0 5 #[39, 46, 51, 56, 61, 66], 39) := by decide +kernel
theorem dX7_state_40 : decode cX7_state 40 = .ok (.aload_n 0, 1) := by decide +kernel
theorem dX7_state_41 : decode cX7_state 41 = .ok (.getfield 7, 3) := by decide +kernel
theorem dX7_state_44 : decode cX7_state 44 = .ok (.iconst 4, 1) := by decide +kernel
theorem dX7_state_45 : decode cX7_state 45 = .ok (.iaload, 1) := by decide +kernel
theorem dX7_state_46 : decode cX7_state 46 = .ok (.ireturn, 1) := by decide +kernel
theorem dX7_state_47 : decode cX7_state 47 = .ok (.aload_n 0, 1) := by decide +kernel
theorem dX7_state_48 : decode cX7_state 48 = .ok (.invokevirtual 254, 3) := by decide +kernel
theorem dX7_state_51 : decode cX7_state 51 = .ok (.ireturn, 1) := by decide +kernel
theorem dX7_state_52 : decode cX7_state 52 = .ok (.aload_n 0, 1) := by decide +kernel
theorem dX7_state_53 : decode cX7_state 53 = .ok (.invokevirtual 267, 3) := by decide +kernel
theorem dX7_state_56 : decode cX7_state 56 = .ok (.ireturn, 1) := by decide +kernel
theorem dX7_state_57 : decode cX7_state 57 = .ok (.aload_n 0, 1) := by decide +kernel
theorem dX7_state_58 : decode cX7_state 58 = .ok (.invokevirtual 270, 3) := by decide +kernel
theorem dX7_state_61 : decode cX7_state 61 = .ok (.ireturn, 1) := by decide +kernel
theorem dX7_state_62 : decode cX7_state 62 = .ok (.aload_n 0, 1) := by decide +kernel
theorem dX7_state_63 : decode cX7_state 63 = .ok (.invokevirtual 273, 3) := by decide +kernel
theorem dX7_state_66 : decode cX7_state 66 = .ok (.ireturn, 1) := by decide +kernel
theorem dX7_state_67 : decode cX7_state 67 = .ok (.aload_n 0, 1) := by decide +kernel
theorem dX7_state_68 : decode cX7_state 68 = .ok (.invokevirtual 276, 3) := by decide +kernel
theorem dX7_state_71 : decode cX7_state 71 = .ok (.ireturn, 1) := by decide +kernel
theorem dX7_state_72 : decode cX7_state 72 = .ok (.iconst (-1), 1) := by decide +kernel
theorem dX7_state_73 : decode cX7_state 73 = .ok (.ireturn, 1) := by decide +kernel
theorem dX7_behind_0 : decode cX7_behind 0 = .ok (.iconst 0, 1) := by decide +kernel
theorem dX7_behind_1 : decode cX7_behind 1 = .ok (.istore 4, 2) := by decide +kernel
theorem dX7_behind_3 : decode cX7_behind 3 = .ok (.iload 4, 2) := by decide +kernel
theorem dX7_behind_5 : decode cX7_behind 5 = .ok (.iload_n 2, 1) := by decide +kernel
theorem dX7_behind_6 : decode cX7_behind 6 = .ok (.if_icmp .ge 13, 3) := by decide +kernel
theorem dX7_behind_9 : decode cX7_behind 9 = .ok (.aload_n 0, 1) := by decide +kernel
theorem dX7_behind_10 : decode cX7_behind 10 = .ok (.invokevirtual 251, 3) := by decide +kernel
theorem dX7_behind_13 : decode cX7_behind 13 = .ok (.iinc 4 1, 3) := by decide +kernel
theorem dX7_behind_16 : decode cX7_behind 16 = .ok (.goto (-13), 3) := by decide +kernel
theorem dX7_behind_19 : decode cX7_behind 19 = .ok (.aload_n 0, 1) := by decide +kernel
theorem dX7_behind_20 : decode cX7_behind 20 = .ok (.iload_n 1, 1) := by decide +kernel
theorem dX7_behind_21 : decode cX7_behind 21 = .ok (.iload_n 3, 1) := by decide +kernel
theorem dX7_behind_22 : decode cX7_behind 22 = .ok (.invokevirtual 217, 3) := by decide +kernel
theorem dX7_behind_25 : decode cX7_behind 25 = .ok (.istore 4, 2) := by decide +kernel
theorem dX7_behind_27 : decode cX7_behind 27 = .ok (.aload_n 0, 1) := by decide +kernel
theorem dX7_behind_28 : decode cX7_behind 28 = .ok (.getfield 19, 3) := by decide +kernel
theorem dX7_behind_31 : decode cX7_behind 31 = .ok (.aload_n 0, 1) := by decide +kernel
theorem dX7_behind_32 : decode cX7_behind 32 = .ok (.getfield 7, 3) := by decide +kernel
theorem dX7_behind_35 : decode cX7_behind 35 = .ok (.invokestatic 193, 3) := by decide +kernel
theorem dX7_behind_38 : decode cX7_behind 38 = .ok (.iload 4, 2) := by decide +kernel
theorem dX7_behind_40 : decode cX7_behind 40 = .ok (.ireturn, 1) := by decide +kernel
theorem dX7_ahead_0 : decode cX7_ahead 0 = .ok (.aload_n 0, 1) := by decide +kernel
theorem dX7_ahead_1 : decode cX7_ahead 1 = .ok (.iload_n 1, 1) := by decide +kernel
theorem dX7_ahead_2 : decode cX7_ahead 2 = .ok (.invokevirtual 220, 3) := by decide +kernel
theorem dX7_ahead_5 : decode cX7_ahead 5 = .ok (.ifCond .eq 22, 3) := by decide +kernel
theorem dX7_ahead_8 : decode cX7_ahead 8 = .ok (.iload_n 2, 1) := by decide +kernel
theorem dX7_ahead_9 : decode cX7_ahead 9 = .ok (.iconst 0, 1) := by decide +kernel
theorem dX7_ahead_10 : decode cX7_ahead 10 = .ok (.bipush 60, 2) := by decide +kernel
theorem dX7_ahead_12 : decode cX7_ahead 12 = .ok (.invokestatic 60, 3) := by decide +kernel
theorem dX7_ahead_15 : decode cX7_ahead 15 = .ok (.ifCond .eq 12, 3) := by decide +kernel
theorem dX7_ahead_18 : decode cX7_ahead 18 = .ok (.iload_n 3, 1) := by decide +kernel
theorem dX7_ahead_19 : decode cX7_ahead 19 = .ok (.iconst 0, 1) := by decide +kernel
theorem dX7_ahead_20 : decode cX7_ahead 20 = .ok (.iconst 1, 1) := by decide +kernel
theorem dX7_ahead_21 : decode cX7_ahead 21 = .ok (.invokestatic 60, 3) := by decide +kernel
theorem dX7_ahead_24 : decode cX7_ahead 24 = .ok (.ifCond .ne 5, 3) := by decide +kernel
theorem dX7_ahead_27 : decode cX7_ahead 27 = .ok (.iconst (-1), 1) := by decide +kernel
theorem dX7_ahead_28 : decode cX7_ahead 28 = .ok (.ireturn, 1) := by decide +kernel
theorem dX7_ahead_29 : decode cX7_ahead 29 = .ok (.aload_n 0, 1) := by decide +kernel
theorem dX7_ahead_30 : decode cX7_ahead 30 = .ok (.getfield 7, 3) := by decide +kernel
theorem dX7_ahead_33 : decode cX7_ahead 33 = .ok (.aload_n 0, 1) := by decide +kernel
theorem dX7_ahead_34 : decode cX7_ahead 34 = .ok (.getfield 19, 3) := by decide +kernel
theorem dX7_ahead_37 : decode cX7_ahead 37 = .ok (.invokestatic 193, 3) := by decide +kernel
theorem dX7_ahead_40 : decode cX7_ahead 40 = .ok (.aload_n 0, 1) := by decide +kernel
theorem dX7_ahead_41 : decode cX7_ahead 41 = .ok (.iload_n 1, 1) := by decide +kernel
theorem dX7_ahead_42 : decode cX7_ahead 42 = .ok (.iload_n 2, 1) := by decide +kernel
theorem dX7_ahead_43 : decode cX7_ahead 43 = .ok (.iload_n 3, 1) := by decide +kernel
theorem dX7_ahead_44 : decode cX7_ahead 44 = .ok (.ifCond .ne 7, 3) := by decide +kernel
theorem dX7_ahead_47 : decode cX7_ahead 47 = .ok (.iconst 3, 1) := by decide +kernel
theorem dX7_ahead_48 : decode cX7_ahead 48 = .ok (.goto 4, 3) := by decide +kernel
theorem dX7_ahead_51 : decode cX7_ahead 51 = .ok (.iconst 4, 1) := by decide +kernel
theorem dX7_ahead_52 : decode cX7_ahead 52 = .ok (.invokevirtual 279, 3) := by decide +kernel
theorem dX7_ahead_55 : decode cX7_ahead 55 = .ok (.ireturn, 1) := by decide +kernel
theorem dX7_meet_0 : decode cX7_meet 0 = .ok (.aload_n 0, 1) := by decide +kernel
theorem dX7_meet_1 : decode cX7_meet 1 = .ok (.iload_n 1, 1) := by decide +kernel
theorem dX7_meet_2 : decode cX7_meet 2 = .ok (.invokevirtual 220, 3) := by decide +kernel
theorem dX7_meet_5 : decode cX7_meet 5 = .ok (.ifCond .eq 16, 3) := by decide +kernel
theorem dX7_meet_8 : decode cX7_meet 8 = .ok (.aload_n 0, 1) := by decide +kernel
theorem dX7_meet_9 : decode cX7_meet 9 = .ok (.iload_n 2, 1) := by decide +kernel
theorem dX7_meet_10 : decode cX7_meet 10 = .ok (.invokevirtual 220, 3) := by decide +kernel
theorem dX7_meet_13 : decode cX7_meet 13 = .ok (.ifCond .eq 8, 3) := by decide +kernel
theorem dX7_meet_16 : decode cX7_meet 16 = .ok (.iload_n 1, 1) := by decide +kernel
theorem dX7_meet_17 : decode cX7_meet 17 = .ok (.iload_n 2, 1) := by decide +kernel
theorem dX7_meet_18 : decode cX7_meet 18 = .ok (.if_icmp .ne 5, 3) := by decide +kernel
theorem dX7_meet_21 : decode cX7_meet 21 = .ok (.iconst (-1), 1) := by decide +kernel
theorem dX7_meet_22 : decode cX7_meet 22 = .ok (.ireturn, 1) := by decide +kernel
theorem dX7_meet_23 : decode cX7_meet 23 = .ok (.aload_n 0, 1) := by decide +kernel
theorem dX7_meet_24 : decode cX7_meet 24 = .ok (.getfield 7, 3) := by decide +kernel
theorem dX7_meet_27 : decode cX7_meet 27 = .ok (.aload_n 0, 1) := by decide +kernel
theorem dX7_meet_28 : decode cX7_meet 28 = .ok (.getfield 19, 3) := by decide +kernel
theorem dX7_meet_31 : decode cX7_meet 31 = .ok (.invokestatic 193, 3) := by decide +kernel
theorem dX7_meet_34 : decode cX7_meet 34 = .ok (.iconst 0, 1) := by decide +kernel
theorem dX7_meet_35 : decode cX7_meet 35 = .ok (.istore_n 3, 1) := by decide +kernel
theorem dX7_meet_36 : decode cX7_meet 36 = .ok (.iload_n 3, 1) := by decide +kernel
theorem dX7_meet_37 : decode cX7_meet 37 = .ok (.bipush 60, 2) := by decide +kernel
theorem dX7_meet_39 : decode cX7_meet 39 = .ok (.if_icmp .gt 22, 3) := by decide +kernel
theorem dX7_meet_42 : decode cX7_meet 42 = .ok (.aload_n 0, 1) := by decide +kernel
theorem dX7_meet_43 : decode cX7_meet 43 = .ok (.iload_n 1, 1) := by decide +kernel
theorem dX7_meet_44 : decode cX7_meet 44 = .ok (.iload_n 2, 1) := by decide +kernel
theorem dX7_meet_45 : decode cX7_meet 45 = .ok (.invokevirtual 232, 3) := by decide +kernel
theorem dX7_meet_48 : decode cX7_meet 48 = .ok (.ifCond .ne 13, 3) := by decide +kernel
theorem dX7_meet_51 : decode cX7_meet 51 = .ok (.aload_n 0, 1) := by decide +kernel
theorem dX7_meet_52 : decode cX7_meet 52 = .ok (.invokevirtual 251, 3) := by decide +kernel
theorem dX7_meet_55 : decode cX7_meet 55 = .ok (.iinc 3 1, 3) := by decide +kernel
theorem dX7_meet_58 : decode cX7_meet 58 = .ok (.goto (-22), 3) := by decide +kernel
theorem dX7_meet_61 : decode cX7_meet 61 = .ok (.aload_n 0, 1) := by decide +kernel
theorem dX7_meet_62 : decode cX7_meet 62 = .ok (.getfield 19, 3) := by decide +kernel
theorem dX7_meet_65 : decode cX7_meet 65 = .ok (.aload_n 0, 1) := by decide +kernel
theorem dX7_meet_66 : decode cX7_meet 66 = .ok (.getfield 7, 3) := by decide +kernel
theorem dX7_meet_69 : decode cX7_meet 69 = .ok (.invokestatic 193, 3) := by decide +kernel
theorem dX7_meet_72 : decode cX7_meet 72 = .ok (.iload_n 3, 1) := by decide +kernel
theorem dX7_meet_73 : decode cX7_meet 73 = .ok (.bipush 60, 2) := by decide +kernel
theorem dX7_meet_75 : decode cX7_meet 75 = .ok (.if_icmp .le 8, 3) := by decide +kernel
theorem dX7_meet_78 : decode cX7_meet 78 = .ok (.bipush (-3), 2) := by decide +kernel
theorem dX7_meet_80 : decode cX7_meet 80 = .ok (.goto 4, 3) := by decide +kernel
theorem dX7_meet_83 : decode cX7_meet 83 = .ok (.iload_n 3, 1) := by decide +kernel
theorem dX7_meet_84 : decode cX7_meet 84 = .ok (.ireturn, 1) := by decide +kernel
theorem dX7_gather_0 : decode cX7_gather 0 = .ok (.aload_n 0, 1) := by decide +kernel
theorem dX7_gather_1 : decode cX7_gather 1 = .ok (.getfield 7, 3) := by decide +kernel
theorem dX7_gather_4 : decode cX7_gather 4 = .ok (.aload_n 0, 1) := by decide +kernel
theorem dX7_gather_5 : decode cX7_gather 5 = .ok (.getfield 19, 3) := by decide +kernel
theorem dX7_gather_8 : decode cX7_gather 8 = .ok (.invokestatic 193, 3) := by decide +kernel
theorem dX7_gather_11 : decode cX7_gather 11 = .ok (.iconst 0, 1) := by decide +kernel
theorem dX7_gather_12 : decode cX7_gather 12 = .ok (.istore_n 1, 1) := by decide +kernel
theorem dX7_gather_13 : decode cX7_gather 13 = .ok (.iload_n 1, 1) := by decide +kernel
theorem dX7_gather_14 : decode cX7_gather 14 = .ok (.bipush 60, 2) := by decide +kernel
theorem dX7_gather_16 : decode cX7_gather 16 = .ok (.if_icmp .gt 24, 3) := by decide +kernel
theorem dX7_gather_19 : decode cX7_gather 19 = .ok (.aload_n 0, 1) := by decide +kernel
theorem dX7_gather_20 : decode cX7_gather 20 = .ok (.invokevirtual 270, 3) := by decide +kernel
theorem dX7_gather_23 : decode cX7_gather 23 = .ok (.invokestatic 248, 3) := by decide +kernel
theorem dX7_gather_26 : decode cX7_gather 26 = .ok (.iconst 1, 1) := by decide +kernel
theorem dX7_gather_27 : decode cX7_gather 27 = .ok (.if_icmp .le 13, 3) := by decide +kernel
theorem dX7_gather_30 : decode cX7_gather 30 = .ok (.aload_n 0, 1) := by decide +kernel
theorem dX7_gather_31 : decode cX7_gather 31 = .ok (.invokevirtual 251, 3) := by decide +kernel
theorem dX7_gather_34 : decode cX7_gather 34 = .ok (.iinc 1 1, 3) := by decide +kernel
theorem dX7_gather_37 : decode cX7_gather 37 = .ok (.goto (-24), 3) := by decide +kernel
theorem dX7_gather_40 : decode cX7_gather 40 = .ok (.aload_n 0, 1) := by decide +kernel
theorem dX7_gather_41 : decode cX7_gather 41 = .ok (.getfield 19, 3) := by decide +kernel
theorem dX7_gather_44 : decode cX7_gather 44 = .ok (.aload_n 0, 1) := by decide +kernel
theorem dX7_gather_45 : decode cX7_gather 45 = .ok (.getfield 7, 3) := by decide +kernel
theorem dX7_gather_48 : decode cX7_gather 48 = .ok (.invokestatic 193, 3) := by decide +kernel
theorem dX7_gather_51 : decode cX7_gather 51 = .ok (.iload_n 1, 1) := by decide +kernel
theorem dX7_gather_52 : decode cX7_gather 52 = .ok (.bipush 60, 2) := by decide +kernel
theorem dX7_gather_54 : decode cX7_gather 54 = .ok (.if_icmp .le 8, 3) := by decide +kernel
theorem dX7_gather_57 : decode cX7_gather 57 = .ok (.bipush (-3), 2) := by decide +kernel
theorem dX7_gather_59 : decode cX7_gather 59 = .ok (.goto 4, 3) := by decide +kernel
theorem dX7_gather_62 : decode cX7_gather 62 = .ok (.iload_n 1, 1) := by decide +kernel
theorem dX7_gather_63 : decode cX7_gather 63 = .ok (.ireturn, 1) := by decide +kernel
theorem dX7_alone_0 : decode cX7_alone 0 = .ok (.aload_n 0, 1) := by decide +kernel
theorem dX7_alone_1 : decode cX7_alone 1 = .ok (.iload_n 1, 1) := by decide +kernel
theorem dX7_alone_2 : decode cX7_alone 2 = .ok (.invokevirtual 220, 3) := by decide +kernel
theorem dX7_alone_5 : decode cX7_alone 5 = .ok (.ifCond .ne 5, 3) := by decide +kernel
theorem dX7_alone_8 : decode cX7_alone 8 = .ok (.iconst (-1), 1) := by decide +kernel
theorem dX7_alone_9 : decode cX7_alone 9 = .ok (.ireturn, 1) := by decide +kernel
theorem dX7_alone_10 : decode cX7_alone 10 = .ok (.aload_n 0, 1) := by decide +kernel
theorem dX7_alone_11 : decode cX7_alone 11 = .ok (.getfield 7, 3) := by decide +kernel
theorem dX7_alone_14 : decode cX7_alone 14 = .ok (.aload_n 0, 1) := by decide +kernel
theorem dX7_alone_15 : decode cX7_alone 15 = .ok (.getfield 19, 3) := by decide +kernel
theorem dX7_alone_18 : decode cX7_alone 18 = .ok (.invokestatic 193, 3) := by decide +kernel
theorem dX7_alone_21 : decode cX7_alone 21 = .ok (.iconst 0, 1) := by decide +kernel
theorem dX7_alone_22 : decode cX7_alone 22 = .ok (.istore_n 2, 1) := by decide +kernel
theorem dX7_alone_23 : decode cX7_alone 23 = .ok (.iload_n 2, 1) := by decide +kernel
theorem dX7_alone_24 : decode cX7_alone 24 = .ok (.bipush 60, 2) := by decide +kernel
theorem dX7_alone_26 : decode cX7_alone 26 = .ok (.if_icmp .gt 21, 3) := by decide +kernel
theorem dX7_alone_29 : decode cX7_alone 29 = .ok (.aload_n 0, 1) := by decide +kernel
theorem dX7_alone_30 : decode cX7_alone 30 = .ok (.iload_n 1, 1) := by decide +kernel
theorem dX7_alone_31 : decode cX7_alone 31 = .ok (.invokevirtual 223, 3) := by decide +kernel
theorem dX7_alone_34 : decode cX7_alone 34 = .ok (.ifCond .le 13, 3) := by decide +kernel
theorem dX7_alone_37 : decode cX7_alone 37 = .ok (.aload_n 0, 1) := by decide +kernel
theorem dX7_alone_38 : decode cX7_alone 38 = .ok (.invokevirtual 251, 3) := by decide +kernel
theorem dX7_alone_41 : decode cX7_alone 41 = .ok (.iinc 2 1, 3) := by decide +kernel
theorem dX7_alone_44 : decode cX7_alone 44 = .ok (.goto (-21), 3) := by decide +kernel
theorem dX7_alone_47 : decode cX7_alone 47 = .ok (.aload_n 0, 1) := by decide +kernel
theorem dX7_alone_48 : decode cX7_alone 48 = .ok (.getfield 19, 3) := by decide +kernel
theorem dX7_alone_51 : decode cX7_alone 51 = .ok (.aload_n 0, 1) := by decide +kernel
theorem dX7_alone_52 : decode cX7_alone 52 = .ok (.getfield 7, 3) := by decide +kernel
theorem dX7_alone_55 : decode cX7_alone 55 = .ok (.invokestatic 193, 3) := by decide +kernel
theorem dX7_alone_58 : decode cX7_alone 58 = .ok (.iload_n 2, 1) := by decide +kernel
theorem dX7_alone_59 : decode cX7_alone 59 = .ok (.bipush 60, 2) := by decide +kernel
theorem dX7_alone_61 : decode cX7_alone 61 = .ok (.if_icmp .le 8, 3) := by decide +kernel
theorem dX7_alone_64 : decode cX7_alone 64 = .ok (.bipush (-3), 2) := by decide +kernel
theorem dX7_alone_66 : decode cX7_alone 66 = .ok (.goto 4, 3) := by decide +kernel
theorem dX7_alone_69 : decode cX7_alone 69 = .ok (.iload_n 2, 1) := by decide +kernel
theorem dX7_alone_70 : decode cX7_alone 70 = .ok (.ireturn, 1) := by decide +kernel
theorem dX7_bestOf_0 : decode cX7_bestOf 0 = .ok (.aload_n 0, 1) := by decide +kernel
theorem dX7_bestOf_1 : decode cX7_bestOf 1 = .ok (.getfield 7, 3) := by decide +kernel
theorem dX7_bestOf_4 : decode cX7_bestOf 4 = .ok (.aload_n 0, 1) := by decide +kernel
theorem dX7_bestOf_5 : decode cX7_bestOf 5 = .ok (.getfield 19, 3) := by decide +kernel
theorem dX7_bestOf_8 : decode cX7_bestOf 8 = .ok (.invokestatic 193, 3) := by decide +kernel
theorem dX7_bestOf_11 : decode cX7_bestOf 11 = .ok (.iconst 0, 1) := by decide +kernel
theorem dX7_bestOf_12 : decode cX7_bestOf 12 = .ok (.istore 5, 2) := by decide +kernel
theorem dX7_bestOf_14 : decode cX7_bestOf 14 = .ok (.iconst (-1), 1) := by decide +kernel
theorem dX7_bestOf_15 : decode cX7_bestOf 15 = .ok (.istore 6, 2) := by decide +kernel
theorem dX7_bestOf_17 : decode cX7_bestOf 17 = .ok (.iconst 0, 1) := by decide +kernel
theorem dX7_bestOf_18 : decode cX7_bestOf 18 = .ok (.istore 7, 2) := by decide +kernel
theorem dX7_bestOf_20 : decode cX7_bestOf 20 = .ok (.iload 7, 2) := by decide +kernel
theorem dX7_bestOf_22 : decode cX7_bestOf 22 = .ok (.iload 4, 2) := by decide +kernel
theorem dX7_bestOf_24 : decode cX7_bestOf 24 = .ok (.if_icmp .gt 61, 3) := by decide +kernel
theorem dX7_bestOf_27 : decode cX7_bestOf 27 = .ok (.aload_n 0, 1) := by decide +kernel
theorem dX7_bestOf_28 : decode cX7_bestOf 28 = .ok (.iload_n 1, 1) := by decide +kernel
theorem dX7_bestOf_29 : decode cX7_bestOf 29 = .ok (.iload_n 2, 1) := by decide +kernel
theorem dX7_bestOf_30 : decode cX7_bestOf 30 = .ok (.iload 7, 2) := by decide +kernel
theorem dX7_bestOf_32 : decode cX7_bestOf 32 = .ok (.invokevirtual 213, 3) := by decide +kernel
theorem dX7_bestOf_35 : decode cX7_bestOf 35 = .ok (.aload_n 0, 1) := by decide +kernel
theorem dX7_bestOf_36 : decode cX7_bestOf 36 = .ok (.iload_n 1, 1) := by decide +kernel
theorem dX7_bestOf_37 : decode cX7_bestOf 37 = .ok (.iload_n 3, 1) := by decide +kernel
theorem dX7_bestOf_38 : decode cX7_bestOf 38 = .ok (.iconst 4, 1) := by decide +kernel
theorem dX7_bestOf_39 : decode cX7_bestOf 39 = .ok (.invokevirtual 279, 3) := by decide +kernel
theorem dX7_bestOf_42 : decode cX7_bestOf 42 = .ok (.invokestatic 248, 3) := by decide +kernel
theorem dX7_bestOf_45 : decode cX7_bestOf 45 = .ok (.istore 8, 2) := by decide +kernel
theorem dX7_bestOf_47 : decode cX7_bestOf 47 = .ok (.iload 8, 2) := by decide +kernel
theorem dX7_bestOf_49 : decode cX7_bestOf 49 = .ok (.iload 6, 2) := by decide +kernel
theorem dX7_bestOf_51 : decode cX7_bestOf 51 = .ok (.if_icmp .le 8, 3) := by decide +kernel
theorem dX7_bestOf_54 : decode cX7_bestOf 54 = .ok (.iload 7, 2) := by decide +kernel
theorem dX7_bestOf_56 : decode cX7_bestOf 56 = .ok (.goto 5, 3) := by decide +kernel
theorem dX7_bestOf_59 : decode cX7_bestOf 59 = .ok (.iload 5, 2) := by decide +kernel
theorem dX7_bestOf_61 : decode cX7_bestOf 61 = .ok (.istore 5, 2) := by decide +kernel
theorem dX7_bestOf_63 : decode cX7_bestOf 63 = .ok (.iload 8, 2) := by decide +kernel
theorem dX7_bestOf_65 : decode cX7_bestOf 65 = .ok (.iload 6, 2) := by decide +kernel
theorem dX7_bestOf_67 : decode cX7_bestOf 67 = .ok (.if_icmp .le 8, 3) := by decide +kernel
theorem dX7_bestOf_70 : decode cX7_bestOf 70 = .ok (.iload 8, 2) := by decide +kernel
theorem dX7_bestOf_72 : decode cX7_bestOf 72 = .ok (.goto 5, 3) := by decide +kernel
theorem dX7_bestOf_75 : decode cX7_bestOf 75 = .ok (.iload 6, 2) := by decide +kernel
theorem dX7_bestOf_77 : decode cX7_bestOf 77 = .ok (.istore 6, 2) := by decide +kernel
theorem dX7_bestOf_79 : decode cX7_bestOf 79 = .ok (.iinc 7 1, 3) := by decide +kernel
theorem dX7_bestOf_82 : decode cX7_bestOf 82 = .ok (.goto (-62), 3) := by decide +kernel
theorem dX7_bestOf_85 : decode cX7_bestOf 85 = .ok (.iload 5, 2) := by decide +kernel
theorem dX7_bestOf_87 : decode cX7_bestOf 87 = .ok (.ireturn, 1) := by decide +kernel
theorem dX7_pegFor_0 : decode cX7_pegFor 0 = .ok (.aload_n 0, 1) := by decide +kernel
theorem dX7_pegFor_1 : decode cX7_pegFor 1 = .ok (.iload_n 1, 1) := by decide +kernel
theorem dX7_pegFor_2 : decode cX7_pegFor 2 = .ok (.invokevirtual 220, 3) := by decide +kernel
theorem dX7_pegFor_5 : decode cX7_pegFor 5 = .ok (.ifCond .eq 24, 3) := by decide +kernel
theorem dX7_pegFor_8 : decode cX7_pegFor 8 = .ok (.iload_n 2, 1) := by decide +kernel
theorem dX7_pegFor_9 : decode cX7_pegFor 9 = .ok (.iconst 1, 1) := by decide +kernel
theorem dX7_pegFor_10 : decode cX7_pegFor 10 = .ok (.bipush 20, 2) := by decide +kernel
theorem dX7_pegFor_12 : decode cX7_pegFor 12 = .ok (.invokestatic 60, 3) := by decide +kernel
theorem dX7_pegFor_15 : decode cX7_pegFor 15 = .ok (.ifCond .eq 14, 3) := by decide +kernel
theorem dX7_pegFor_18 : decode cX7_pegFor 18 = .ok (.aload_n 0, 1) := by decide +kernel
theorem dX7_pegFor_19 : decode cX7_pegFor 19 = .ok (.iload_n 1, 1) := by decide +kernel
theorem dX7_pegFor_20 : decode cX7_pegFor 20 = .ok (.iconst 1, 1) := by decide +kernel
theorem dX7_pegFor_21 : decode cX7_pegFor 21 = .ok (.iload_n 2, 1) := by decide +kernel
theorem dX7_pegFor_22 : decode cX7_pegFor 22 = .ok (.iconst 5, 1) := by decide +kernel
theorem dX7_pegFor_23 : decode cX7_pegFor 23 = .ok (.invokevirtual 283, 3) := by decide +kernel
theorem dX7_pegFor_26 : decode cX7_pegFor 26 = .ok (.goto 4, 3) := by decide +kernel
theorem dX7_pegFor_29 : decode cX7_pegFor 29 = .ok (.iconst (-1), 1) := by decide +kernel
theorem dX7_pegFor_30 : decode cX7_pegFor 30 = .ok (.ireturn, 1) := by decide +kernel
theorem dX7_kindFor_0 : decode cX7_kindFor 0 = .ok (.aload_n 0, 1) := by decide +kernel
theorem dX7_kindFor_1 : decode cX7_kindFor 1 = .ok (.iload_n 1, 1) := by decide +kernel
theorem dX7_kindFor_2 : decode cX7_kindFor 2 = .ok (.invokevirtual 220, 3) := by decide +kernel
theorem dX7_kindFor_5 : decode cX7_kindFor 5 = .ok (.ifCond .eq 24, 3) := by decide +kernel
theorem dX7_kindFor_8 : decode cX7_kindFor 8 = .ok (.iload_n 2, 1) := by decide +kernel
theorem dX7_kindFor_9 : decode cX7_kindFor 9 = .ok (.iconst 1, 1) := by decide +kernel
theorem dX7_kindFor_10 : decode cX7_kindFor 10 = .ok (.bipush 20, 2) := by decide +kernel
theorem dX7_kindFor_12 : decode cX7_kindFor 12 = .ok (.invokestatic 60, 3) := by decide +kernel
theorem dX7_kindFor_15 : decode cX7_kindFor 15 = .ok (.ifCond .eq 14, 3) := by decide +kernel
theorem dX7_kindFor_18 : decode cX7_kindFor 18 = .ok (.aload_n 0, 1) := by decide +kernel
theorem dX7_kindFor_19 : decode cX7_kindFor 19 = .ok (.iload_n 1, 1) := by decide +kernel
theorem dX7_kindFor_20 : decode cX7_kindFor 20 = .ok (.iconst 0, 1) := by decide +kernel
theorem dX7_kindFor_21 : decode cX7_kindFor 21 = .ok (.iload_n 2, 1) := by decide +kernel
theorem dX7_kindFor_22 : decode cX7_kindFor 22 = .ok (.iconst 5, 1) := by decide +kernel
theorem dX7_kindFor_23 : decode cX7_kindFor 23 = .ok (.invokevirtual 283, 3) := by decide +kernel
theorem dX7_kindFor_26 : decode cX7_kindFor 26 = .ok (.goto 4, 3) := by decide +kernel
theorem dX7_kindFor_29 : decode cX7_kindFor 29 = .ok (.iconst (-1), 1) := by decide +kernel
theorem dX7_kindFor_30 : decode cX7_kindFor 30 = .ok (.ireturn, 1) := by decide +kernel
theorem dX7_placeFor_0 : decode cX7_placeFor 0 = .ok (.aload_n 0, 1) := by decide +kernel
theorem dX7_placeFor_1 : decode cX7_placeFor 1 = .ok (.iload_n 1, 1) := by decide +kernel
theorem dX7_placeFor_2 : decode cX7_placeFor 2 = .ok (.invokevirtual 220, 3) := by decide +kernel
theorem dX7_placeFor_5 : decode cX7_placeFor 5 = .ok (.ifCond .eq 25, 3) := by decide +kernel
theorem dX7_placeFor_8 : decode cX7_placeFor 8 = .ok (.iload_n 2, 1) := by decide +kernel
theorem dX7_placeFor_9 : decode cX7_placeFor 9 = .ok (.iconst 1, 1) := by decide +kernel
theorem dX7_placeFor_10 : decode cX7_placeFor 10 = .ok (.bipush 20, 2) := by decide +kernel
theorem dX7_placeFor_12 : decode cX7_placeFor 12 = .ok (.invokestatic 60, 3) := by decide +kernel
theorem dX7_placeFor_15 : decode cX7_placeFor 15 = .ok (.ifCond .eq 15, 3) := by decide +kernel
theorem dX7_placeFor_18 : decode cX7_placeFor 18 = .ok (.aload_n 0, 1) := by decide +kernel
theorem dX7_placeFor_19 : decode cX7_placeFor 19 = .ok (.iload_n 1, 1) := by decide +kernel
theorem dX7_placeFor_20 : decode cX7_placeFor 20 = .ok (.iconst 3, 1) := by decide +kernel
theorem dX7_placeFor_21 : decode cX7_placeFor 21 = .ok (.iload_n 2, 1) := by decide +kernel
theorem dX7_placeFor_22 : decode cX7_placeFor 22 = .ok (.bipush 11, 2) := by decide +kernel
theorem dX7_placeFor_24 : decode cX7_placeFor 24 = .ok (.invokevirtual 283, 3) := by decide +kernel
theorem dX7_placeFor_27 : decode cX7_placeFor 27 = .ok (.goto 4, 3) := by decide +kernel
theorem dX7_placeFor_30 : decode cX7_placeFor 30 = .ok (.iconst (-1), 1) := by decide +kernel
theorem dX7_placeFor_31 : decode cX7_placeFor 31 = .ok (.ireturn, 1) := by decide +kernel
theorem dX7_circle_0 : decode cX7_circle 0 = .ok (.aload_n 0, 1) := by decide +kernel
theorem dX7_circle_1 : decode cX7_circle 1 = .ok (.iload_n 1, 1) := by decide +kernel
theorem dX7_circle_2 : decode cX7_circle 2 = .ok (.invokevirtual 220, 3) := by decide +kernel
theorem dX7_circle_5 : decode cX7_circle 5 = .ok (.ifCond .eq 11, 3) := by decide +kernel
theorem dX7_circle_8 : decode cX7_circle 8 = .ok (.aload_n 0, 1) := by decide +kernel
theorem dX7_circle_9 : decode cX7_circle 9 = .ok (.iload_n 1, 1) := by decide +kernel
theorem dX7_circle_10 : decode cX7_circle 10 = .ok (.invokevirtual 264, 3) := by decide +kernel
theorem dX7_circle_13 : decode cX7_circle 13 = .ok (.goto 4, 3) := by decide +kernel
theorem dX7_circle_16 : decode cX7_circle 16 = .ok (.iconst (-1), 1) := by decide +kernel
theorem dX7_circle_17 : decode cX7_circle 17 = .ok (.ireturn, 1) := by decide +kernel
theorem dX7_unlikeAt_0 : decode cX7_unlikeAt 0 = .ok (.iconst 0, 1) := by decide +kernel
theorem dX7_unlikeAt_1 : decode cX7_unlikeAt 1 = .ok (.istore_n 3, 1) := by decide +kernel
theorem dX7_unlikeAt_2 : decode cX7_unlikeAt 2 = .ok (.iconst 0, 1) := by decide +kernel
theorem dX7_unlikeAt_3 : decode cX7_unlikeAt 3 = .ok (.istore 4, 2) := by decide +kernel
theorem dX7_unlikeAt_5 : decode cX7_unlikeAt 5 = .ok (.iload 4, 2) := by decide +kernel
theorem dX7_unlikeAt_7 : decode cX7_unlikeAt 7 = .ok (.bipush 10, 2) := by decide +kernel
theorem dX7_unlikeAt_9 : decode cX7_unlikeAt 9 = .ok (.if_icmp .ge 37, 3) := by decide +kernel
theorem dX7_unlikeAt_12 : decode cX7_unlikeAt 12 = .ok (.iload_n 3, 1) := by decide +kernel
theorem dX7_unlikeAt_13 : decode cX7_unlikeAt 13 = .ok (.aload_n 0, 1) := by decide +kernel
theorem dX7_unlikeAt_14 : decode cX7_unlikeAt 14 = .ok (.iload_n 1, 1) := by decide +kernel
theorem dX7_unlikeAt_15 : decode cX7_unlikeAt 15 = .ok (.iload 4, 2) := by decide +kernel
theorem dX7_unlikeAt_17 : decode cX7_unlikeAt 17 = .ok (.invokevirtual 226, 3) := by decide +kernel
theorem dX7_unlikeAt_20 : decode cX7_unlikeAt 20 = .ok (.aload_n 0, 1) := by decide +kernel
theorem dX7_unlikeAt_21 : decode cX7_unlikeAt 21 = .ok (.iload_n 2, 1) := by decide +kernel
theorem dX7_unlikeAt_22 : decode cX7_unlikeAt 22 = .ok (.iload 4, 2) := by decide +kernel
theorem dX7_unlikeAt_24 : decode cX7_unlikeAt 24 = .ok (.invokevirtual 226, 3) := by decide +kernel
theorem dX7_unlikeAt_27 : decode cX7_unlikeAt 27 = .ok (.if_icmp .ne 7, 3) := by decide +kernel
theorem dX7_unlikeAt_30 : decode cX7_unlikeAt 30 = .ok (.iconst 0, 1) := by decide +kernel
theorem dX7_unlikeAt_31 : decode cX7_unlikeAt 31 = .ok (.goto 7, 3) := by decide +kernel
theorem dX7_unlikeAt_34 : decode cX7_unlikeAt 34 = .ok (.iconst 1, 1) := by decide +kernel
theorem dX7_unlikeAt_35 : decode cX7_unlikeAt 35 = .ok (.iload 4, 2) := by decide +kernel
theorem dX7_unlikeAt_37 : decode cX7_unlikeAt 37 = .ok (.ishl, 1) := by decide +kernel
theorem dX7_unlikeAt_38 : decode cX7_unlikeAt 38 = .ok (.ior, 1) := by decide +kernel
theorem dX7_unlikeAt_39 : decode cX7_unlikeAt 39 = .ok (.istore_n 3, 1) := by decide +kernel
theorem dX7_unlikeAt_40 : decode cX7_unlikeAt 40 = .ok (.iinc 4 1, 3) := by decide +kernel
theorem dX7_unlikeAt_43 : decode cX7_unlikeAt 43 = .ok (.goto (-38), 3) := by decide +kernel
theorem dX7_unlikeAt_46 : decode cX7_unlikeAt 46 = .ok (.iload_n 3, 1) := by decide +kernel
theorem dX7_unlikeAt_47 : decode cX7_unlikeAt 47 = .ok (.ireturn, 1) := by decide +kernel
theorem dX7_areApart_0 : decode cX7_areApart 0 = .ok (.iconst 1, 1) := by decide +kernel
theorem dX7_areApart_1 : decode cX7_areApart 1 = .ok (.istore_n 2, 1) := by decide +kernel
theorem dX7_areApart_2 : decode cX7_areApart 2 = .ok (.iconst 0, 1) := by decide +kernel
theorem dX7_areApart_3 : decode cX7_areApart 3 = .ok (.istore_n 3, 1) := by decide +kernel
theorem dX7_areApart_4 : decode cX7_areApart 4 = .ok (.iload_n 3, 1) := by decide +kernel
theorem dX7_areApart_5 : decode cX7_areApart 5 = .ok (.aload_n 0, 1) := by decide +kernel
theorem dX7_areApart_6 : decode cX7_areApart 6 = .ok (.getfield 7, 3) := by decide +kernel
theorem dX7_areApart_9 : decode cX7_areApart 9 = .ok (.iconst 5, 1) := by decide +kernel
theorem dX7_areApart_10 : decode cX7_areApart 10 = .ok (.iaload, 1) := by decide +kernel
theorem dX7_areApart_11 : decode cX7_areApart 11 = .ok (.if_icmp .ge 58, 3) := by decide +kernel
theorem dX7_areApart_14 : decode cX7_areApart 14 = .ok (.iload_n 3, 1) := by decide +kernel
theorem dX7_areApart_15 : decode cX7_areApart 15 = .ok (.iconst 1, 1) := by decide +kernel
theorem dX7_areApart_16 : decode cX7_areApart 16 = .ok (.iadd, 1) := by decide +kernel
theorem dX7_areApart_17 : decode cX7_areApart 17 = .ok (.istore 4, 2) := by decide +kernel
theorem dX7_areApart_19 : decode cX7_areApart 19 = .ok (.iload 4, 2) := by decide +kernel
theorem dX7_areApart_21 : decode cX7_areApart 21 = .ok (.aload_n 0, 1) := by decide +kernel
theorem dX7_areApart_22 : decode cX7_areApart 22 = .ok (.getfield 7, 3) := by decide +kernel
theorem dX7_areApart_25 : decode cX7_areApart 25 = .ok (.iconst 5, 1) := by decide +kernel
theorem dX7_areApart_26 : decode cX7_areApart 26 = .ok (.iaload, 1) := by decide +kernel
theorem dX7_areApart_27 : decode cX7_areApart 27 = .ok (.if_icmp .ge 36, 3) := by decide +kernel
theorem dX7_areApart_30 : decode cX7_areApart 30 = .ok (.iload_n 2, 1) := by decide +kernel
theorem dX7_areApart_31 : decode cX7_areApart 31 = .ok (.ifCond .eq 32, 3) := by decide +kernel
theorem dX7_areApart_34 : decode cX7_areApart 34 = .ok (.aload_n 0, 1) := by decide +kernel
theorem dX7_areApart_35 : decode cX7_areApart 35 = .ok (.getfield 25, 3) := by decide +kernel
theorem dX7_areApart_38 : decode cX7_areApart 38 = .ok (.bipush 8, 2) := by decide +kernel
theorem dX7_areApart_40 : decode cX7_areApart 40 = .ok (.iload_n 3, 1) := by decide +kernel
theorem dX7_areApart_41 : decode cX7_areApart 41 = .ok (.imul, 1) := by decide +kernel
theorem dX7_areApart_42 : decode cX7_areApart 42 = .ok (.iload 4, 2) := by decide +kernel
theorem dX7_areApart_44 : decode cX7_areApart 44 = .ok (.iadd, 1) := by decide +kernel
theorem dX7_areApart_45 : decode cX7_areApart 45 = .ok (.iaload, 1) := by decide +kernel
theorem dX7_areApart_46 : decode cX7_areApart 46 = .ok (.iload_n 1, 1) := by decide +kernel
theorem dX7_areApart_47 : decode cX7_areApart 47 = .ok (.iand, 1) := by decide +kernel
theorem dX7_areApart_48 : decode cX7_areApart 48 = .ok (.ifCond .eq 7, 3) := by decide +kernel
theorem dX7_areApart_51 : decode cX7_areApart 51 = .ok (.iconst 1, 1) := by decide +kernel
theorem dX7_areApart_52 : decode cX7_areApart 52 = .ok (.goto 4, 3) := by decide +kernel
theorem dX7_areApart_55 : decode cX7_areApart 55 = .ok (.iconst 0, 1) := by decide +kernel
theorem dX7_areApart_56 : decode cX7_areApart 56 = .ok (.istore_n 2, 1) := by decide +kernel
theorem dX7_areApart_57 : decode cX7_areApart 57 = .ok (.iinc 4 1, 3) := by decide +kernel
theorem dX7_areApart_60 : decode cX7_areApart 60 = .ok (.goto (-41), 3) := by decide +kernel
theorem dX7_areApart_63 : decode cX7_areApart 63 = .ok (.iinc 3 1, 3) := by decide +kernel
theorem dX7_areApart_66 : decode cX7_areApart 66 = .ok (.goto (-62), 3) := by decide +kernel
theorem dX7_areApart_69 : decode cX7_areApart 69 = .ok (.iload_n 2, 1) := by decide +kernel
theorem dX7_areApart_70 : decode cX7_areApart 70 = .ok (.ireturn, 1) := by decide +kernel
theorem dX7_apart_0 : decode cX7_apart 0 = .ok (.iconst (-1), 1) := by decide +kernel
theorem dX7_apart_1 : decode cX7_apart 1 = .ok (.istore_n 1, 1) := by decide +kernel
theorem dX7_apart_2 : decode cX7_apart 2 = .ok (.iconst 0, 1) := by decide +kernel
theorem dX7_apart_3 : decode cX7_apart 3 = .ok (.istore_n 2, 1) := by decide +kernel
theorem dX7_apart_4 : decode cX7_apart 4 = .ok (.iload_n 2, 1) := by decide +kernel
theorem dX7_apart_5 : decode cX7_apart 5 = .ok (.aload_n 0, 1) := by decide +kernel
theorem dX7_apart_6 : decode cX7_apart 6 = .ok (.getfield 7, 3) := by decide +kernel
theorem dX7_apart_9 : decode cX7_apart 9 = .ok (.iconst 5, 1) := by decide +kernel
theorem dX7_apart_10 : decode cX7_apart 10 = .ok (.iaload, 1) := by decide +kernel
theorem dX7_apart_11 : decode cX7_apart 11 = .ok (.if_icmp .ge 46, 3) := by decide +kernel
theorem dX7_apart_14 : decode cX7_apart 14 = .ok (.iload_n 2, 1) := by decide +kernel
theorem dX7_apart_15 : decode cX7_apart 15 = .ok (.iconst 1, 1) := by decide +kernel
theorem dX7_apart_16 : decode cX7_apart 16 = .ok (.iadd, 1) := by decide +kernel
theorem dX7_apart_17 : decode cX7_apart 17 = .ok (.istore_n 3, 1) := by decide +kernel
theorem dX7_apart_18 : decode cX7_apart 18 = .ok (.iload_n 3, 1) := by decide +kernel
theorem dX7_apart_19 : decode cX7_apart 19 = .ok (.aload_n 0, 1) := by decide +kernel
theorem dX7_apart_20 : decode cX7_apart 20 = .ok (.getfield 7, 3) := by decide +kernel
theorem dX7_apart_23 : decode cX7_apart 23 = .ok (.iconst 5, 1) := by decide +kernel
theorem dX7_apart_24 : decode cX7_apart 24 = .ok (.iaload, 1) := by decide +kernel
theorem dX7_apart_25 : decode cX7_apart 25 = .ok (.if_icmp .ge 26, 3) := by decide +kernel
theorem dX7_apart_28 : decode cX7_apart 28 = .ok (.aload_n 0, 1) := by decide +kernel
theorem dX7_apart_29 : decode cX7_apart 29 = .ok (.getfield 25, 3) := by decide +kernel
theorem dX7_apart_32 : decode cX7_apart 32 = .ok (.bipush 8, 2) := by decide +kernel
theorem dX7_apart_34 : decode cX7_apart 34 = .ok (.iload_n 2, 1) := by decide +kernel
theorem dX7_apart_35 : decode cX7_apart 35 = .ok (.imul, 1) := by decide +kernel
theorem dX7_apart_36 : decode cX7_apart 36 = .ok (.iload_n 3, 1) := by decide +kernel
theorem dX7_apart_37 : decode cX7_apart 37 = .ok (.iadd, 1) := by decide +kernel
theorem dX7_apart_38 : decode cX7_apart 38 = .ok (.aload_n 0, 1) := by decide +kernel
theorem dX7_apart_39 : decode cX7_apart 39 = .ok (.iload_n 2, 1) := by decide +kernel
theorem dX7_apart_40 : decode cX7_apart 40 = .ok (.iload_n 3, 1) := by decide +kernel
theorem dX7_apart_41 : decode cX7_apart 41 = .ok (.invokevirtual 287, 3) := by decide +kernel
theorem dX7_apart_44 : decode cX7_apart 44 = .ok (.iastore, 1) := by decide +kernel
theorem dX7_apart_45 : decode cX7_apart 45 = .ok (.iinc 3 1, 3) := by decide +kernel
theorem dX7_apart_48 : decode cX7_apart 48 = .ok (.goto (-30), 3) := by decide +kernel
theorem dX7_apart_51 : decode cX7_apart 51 = .ok (.iinc 2 1, 3) := by decide +kernel
theorem dX7_apart_54 : decode cX7_apart 54 = .ok (.goto (-50), 3) := by decide +kernel
theorem dX7_apart_57 : decode cX7_apart 57 = .ok (.iconst 0, 1) := by decide +kernel
theorem dX7_apart_58 : decode cX7_apart 58 = .ok (.istore_n 2, 1) := by decide +kernel
theorem dX7_apart_59 : decode cX7_apart 59 = .ok (.iload_n 2, 1) := by decide +kernel
theorem dX7_apart_60 : decode cX7_apart 60 = .ok (.sipush 1024, 3) := by decide +kernel
theorem dX7_apart_63 : decode cX7_apart 63 = .ok (.if_icmp .ge 38, 3) := by decide +kernel
theorem dX7_apart_66 : decode cX7_apart 66 = .ok (.iload_n 1, 1) := by decide +kernel
theorem dX7_apart_67 : decode cX7_apart 67 = .ok (.ifCond .lt 14, 3) := by decide +kernel
theorem dX7_apart_70 : decode cX7_apart 70 = .ok (.iload_n 2, 1) := by decide +kernel
theorem dX7_apart_71 : decode cX7_apart 71 = .ok (.invokestatic 248, 3) := by decide +kernel
theorem dX7_apart_74 : decode cX7_apart 74 = .ok (.iload_n 1, 1) := by decide +kernel
theorem dX7_apart_75 : decode cX7_apart 75 = .ok (.invokestatic 248, 3) := by decide +kernel
theorem dX7_apart_78 : decode cX7_apart 78 = .ok (.if_icmp .ge 17, 3) := by decide +kernel
theorem dX7_apart_81 : decode cX7_apart 81 = .ok (.aload_n 0, 1) := by decide +kernel
theorem dX7_apart_82 : decode cX7_apart 82 = .ok (.iload_n 2, 1) := by decide +kernel
theorem dX7_apart_83 : decode cX7_apart 83 = .ok (.invokevirtual 290, 3) := by decide +kernel
theorem dX7_apart_86 : decode cX7_apart 86 = .ok (.ifCond .eq 7, 3) := by decide +kernel
theorem dX7_apart_89 : decode cX7_apart 89 = .ok (.iload_n 2, 1) := by decide +kernel
theorem dX7_apart_90 : decode cX7_apart 90 = .ok (.goto 4, 3) := by decide +kernel
theorem dX7_apart_93 : decode cX7_apart 93 = .ok (.iload_n 1, 1) := by decide +kernel
theorem dX7_apart_94 : decode cX7_apart 94 = .ok (.istore_n 1, 1) := by decide +kernel
theorem dX7_apart_95 : decode cX7_apart 95 = .ok (.iinc 2 1, 3) := by decide +kernel
theorem dX7_apart_98 : decode cX7_apart 98 = .ok (.goto (-39), 3) := by decide +kernel
theorem dX7_apart_101 : decode cX7_apart 101 = .ok (.iload_n 1, 1) := by decide +kernel
theorem dX7_apart_102 : decode cX7_apart 102 = .ok (.ifCond .ge 8, 3) := by decide +kernel
theorem dX7_apart_105 : decode cX7_apart 105 = .ok (.bipush (-3), 2) := by decide +kernel
theorem dX7_apart_107 : decode cX7_apart 107 = .ok (.goto 4, 3) := by decide +kernel
theorem dX7_apart_110 : decode cX7_apart 110 = .ok (.iload_n 1, 1) := by decide +kernel
theorem dX7_apart_111 : decode cX7_apart 111 = .ok (.ireturn, 1) := by decide +kernel
theorem dX7_isSo_0 : decode cX7_isSo 0 = .ok (.iconst 1, 1) := by decide +kernel
theorem dX7_isSo_1 : decode cX7_isSo 1 = .ok (.istore_n 3, 1) := by decide +kernel
theorem dX7_isSo_2 : decode cX7_isSo 2 = .ok (.iconst 0, 1) := by decide +kernel
theorem dX7_isSo_3 : decode cX7_isSo 3 = .ok (.istore 4, 2) := by decide +kernel
theorem dX7_isSo_5 : decode cX7_isSo 5 = .ok (.iload 4, 2) := by decide +kernel
theorem dX7_isSo_7 : decode cX7_isSo 7 = .ok (.aload_n 0, 1) := by decide +kernel
theorem dX7_isSo_8 : decode cX7_isSo 8 = .ok (.getfield 37, 3) := by decide +kernel
theorem dX7_isSo_11 : decode cX7_isSo 11 = .ok (.iload_n 1, 1) := by decide +kernel
theorem dX7_isSo_12 : decode cX7_isSo 12 = .ok (.iaload, 1) := by decide +kernel
theorem dX7_isSo_13 : decode cX7_isSo 13 = .ok (.if_icmp .ge 68, 3) := by decide +kernel
theorem dX7_isSo_16 : decode cX7_isSo 16 = .ok (.iload_n 3, 1) := by decide +kernel
theorem dX7_isSo_17 : decode cX7_isSo 17 = .ok (.ifCond .eq 64, 3) := by decide +kernel
theorem dX7_isSo_20 : decode cX7_isSo 20 = .ok (.aload_n 0, 1) := by decide +kernel
theorem dX7_isSo_21 : decode cX7_isSo 21 = .ok (.invokevirtual 251, 3) := by decide +kernel
theorem dX7_isSo_24 : decode cX7_isSo 24 = .ok (.aload_n 0, 1) := by decide +kernel
theorem dX7_isSo_25 : decode cX7_isSo 25 = .ok (.getfield 40, 3) := by decide +kernel
theorem dX7_isSo_28 : decode cX7_isSo 28 = .ok (.bipush 40, 2) := by decide +kernel
theorem dX7_isSo_30 : decode cX7_isSo 30 = .ok (.iload_n 1, 1) := by decide +kernel
theorem dX7_isSo_31 : decode cX7_isSo 31 = .ok (.imul, 1) := by decide +kernel
theorem dX7_isSo_32 : decode cX7_isSo 32 = .ok (.iload 4, 2) := by decide +kernel
theorem dX7_isSo_34 : decode cX7_isSo 34 = .ok (.iadd, 1) := by decide +kernel
theorem dX7_isSo_35 : decode cX7_isSo 35 = .ok (.laload, 1) := by decide +kernel
theorem dX7_isSo_36 : decode cX7_isSo 36 = .ok (.ldc2_w 100, 3) := by decide +kernel
theorem dX7_isSo_39 : decode cX7_isSo 39 = .ok (.lcmp, 1) := by decide +kernel
theorem dX7_isSo_40 : decode cX7_isSo 40 = .ok (.ifCond .eq 29, 3) := by decide +kernel
theorem dX7_isSo_43 : decode cX7_isSo 43 = .ok (.aload_n 0, 1) := by decide +kernel
theorem dX7_isSo_44 : decode cX7_isSo 44 = .ok (.getfield 40, 3) := by decide +kernel
theorem dX7_isSo_47 : decode cX7_isSo 47 = .ok (.bipush 40, 2) := by decide +kernel
theorem dX7_isSo_49 : decode cX7_isSo 49 = .ok (.iload_n 1, 1) := by decide +kernel
theorem dX7_isSo_50 : decode cX7_isSo 50 = .ok (.imul, 1) := by decide +kernel
theorem dX7_isSo_51 : decode cX7_isSo 51 = .ok (.iload 4, 2) := by decide +kernel
theorem dX7_isSo_53 : decode cX7_isSo 53 = .ok (.iadd, 1) := by decide +kernel
theorem dX7_isSo_54 : decode cX7_isSo 54 = .ok (.laload, 1) := by decide +kernel
theorem dX7_isSo_55 : decode cX7_isSo 55 = .ok (.aload_n 0, 1) := by decide +kernel
theorem dX7_isSo_56 : decode cX7_isSo 56 = .ok (.iload_n 2, 1) := by decide +kernel
theorem dX7_isSo_57 : decode cX7_isSo 57 = .ok (.iconst 4, 1) := by decide +kernel
theorem dX7_isSo_58 : decode cX7_isSo 58 = .ok (.invokevirtual 217, 3) := by decide +kernel
theorem dX7_isSo_61 : decode cX7_isSo 61 = .ok (.invokestatic 248, 3) := by decide +kernel
theorem dX7_isSo_64 : decode cX7_isSo 64 = .ok (.i2l, 1) := by decide +kernel
theorem dX7_isSo_65 : decode cX7_isSo 65 = .ok (.lcmp, 1) := by decide +kernel
theorem dX7_isSo_66 : decode cX7_isSo 66 = .ok (.ifCond .ne 7, 3) := by decide +kernel
theorem dX7_isSo_69 : decode cX7_isSo 69 = .ok (.iconst 1, 1) := by decide +kernel
theorem dX7_isSo_70 : decode cX7_isSo 70 = .ok (.goto 4, 3) := by decide +kernel
theorem dX7_isSo_73 : decode cX7_isSo 73 = .ok (.iconst 0, 1) := by decide +kernel
theorem dX7_isSo_74 : decode cX7_isSo 74 = .ok (.istore_n 3, 1) := by decide +kernel
theorem dX7_isSo_75 : decode cX7_isSo 75 = .ok (.iinc 4 1, 3) := by decide +kernel
theorem dX7_isSo_78 : decode cX7_isSo 78 = .ok (.goto (-73), 3) := by decide +kernel
theorem dX7_isSo_81 : decode cX7_isSo 81 = .ok (.aload_n 0, 1) := by decide +kernel
theorem dX7_isSo_82 : decode cX7_isSo 82 = .ok (.getfield 19, 3) := by decide +kernel
theorem dX7_isSo_85 : decode cX7_isSo 85 = .ok (.aload_n 0, 1) := by decide +kernel
theorem dX7_isSo_86 : decode cX7_isSo 86 = .ok (.getfield 7, 3) := by decide +kernel
theorem dX7_isSo_89 : decode cX7_isSo 89 = .ok (.invokestatic 193, 3) := by decide +kernel
theorem dX7_isSo_92 : decode cX7_isSo 92 = .ok (.iload_n 3, 1) := by decide +kernel
theorem dX7_isSo_93 : decode cX7_isSo 93 = .ok (.ireturn, 1) := by decide +kernel
theorem dX7_fits_0 : decode cX7_fits 0 = .ok (.iload_n 1, 1) := by decide +kernel
theorem dX7_fits_1 : decode cX7_fits 1 = .ok (.invokestatic 293, 3) := by decide +kernel
theorem dX7_fits_4 : decode cX7_fits 4 = .ok (.ifCond .eq 20, 3) := by decide +kernel
theorem dX7_fits_7 : decode cX7_fits 7 = .ok (.aload_n 0, 1) := by decide +kernel
theorem dX7_fits_8 : decode cX7_fits 8 = .ok (.iload_n 2, 1) := by decide +kernel
theorem dX7_fits_9 : decode cX7_fits 9 = .ok (.invokevirtual 220, 3) := by decide +kernel
theorem dX7_fits_12 : decode cX7_fits 12 = .ok (.ifCond .eq 12, 3) := by decide +kernel
theorem dX7_fits_15 : decode cX7_fits 15 = .ok (.iload_n 3, 1) := by decide +kernel
theorem dX7_fits_16 : decode cX7_fits 16 = .ok (.iconst 0, 1) := by decide +kernel
theorem dX7_fits_17 : decode cX7_fits 17 = .ok (.iconst 1, 1) := by decide +kernel
theorem dX7_fits_18 : decode cX7_fits 18 = .ok (.invokestatic 60, 3) := by decide +kernel
theorem dX7_fits_21 : decode cX7_fits 21 = .ok (.ifCond .ne 5, 3) := by decide +kernel
theorem dX7_fits_24 : decode cX7_fits 24 = .ok (.iconst (-1), 1) := by decide +kernel
theorem dX7_fits_25 : decode cX7_fits 25 = .ok (.ireturn, 1) := by decide +kernel
theorem dX7_fits_26 : decode cX7_fits 26 = .ok (.aload_n 0, 1) := by decide +kernel
theorem dX7_fits_27 : decode cX7_fits 27 = .ok (.getfield 34, 3) := by decide +kernel
theorem dX7_fits_30 : decode cX7_fits 30 = .ok (.iload_n 1, 1) := by decide +kernel
theorem dX7_fits_31 : decode cX7_fits 31 = .ok (.iaload, 1) := by decide +kernel
theorem dX7_fits_32 : decode cX7_fits 32 = .ok (.ifCond .ge 6, 3) := by decide +kernel
theorem dX7_fits_35 : decode cX7_fits 35 = .ok (.bipush (-11), 2) := by decide +kernel
theorem dX7_fits_37 : decode cX7_fits 37 = .ok (.ireturn, 1) := by decide +kernel
theorem dX7_fits_38 : decode cX7_fits 38 = .ok (.aload_n 0, 1) := by decide +kernel
theorem dX7_fits_39 : decode cX7_fits 39 = .ok (.getfield 7, 3) := by decide +kernel
theorem dX7_fits_42 : decode cX7_fits 42 = .ok (.aload_n 0, 1) := by decide +kernel
theorem dX7_fits_43 : decode cX7_fits 43 = .ok (.getfield 19, 3) := by decide +kernel
theorem dX7_fits_46 : decode cX7_fits 46 = .ok (.invokestatic 193, 3) := by decide +kernel
theorem dX7_fits_49 : decode cX7_fits 49 = .ok (.iconst 0, 1) := by decide +kernel
theorem dX7_fits_50 : decode cX7_fits 50 = .ok (.istore 4, 2) := by decide +kernel
theorem dX7_fits_52 : decode cX7_fits 52 = .ok (.bipush (-3), 2) := by decide +kernel
theorem dX7_fits_54 : decode cX7_fits 54 = .ok (.istore 5, 2) := by decide +kernel
theorem dX7_fits_56 : decode cX7_fits 56 = .ok (.iconst 5, 1) := by decide +kernel
theorem dX7_fits_57 : decode cX7_fits 57 = .ok (.istore 6, 2) := by decide +kernel
theorem dX7_fits_59 : decode cX7_fits 59 = .ok (.iload 6, 2) := by decide +kernel
theorem dX7_fits_61 : decode cX7_fits 61 = .ok (.ifCond .lt 54, 3) := by decide +kernel
theorem dX7_fits_64 : decode cX7_fits 64 = .ok (.aload_n 0, 1) := by decide +kernel
theorem dX7_fits_65 : decode cX7_fits 65 = .ok (.iload_n 2, 1) := by decide +kernel
theorem dX7_fits_66 : decode cX7_fits 66 = .ok (.iconst 1, 1) := by decide +kernel
theorem dX7_fits_67 : decode cX7_fits 67 = .ok (.iload 6, 2) := by decide +kernel
theorem dX7_fits_69 : decode cX7_fits 69 = .ok (.invokevirtual 213, 3) := by decide +kernel
theorem dX7_fits_72 : decode cX7_fits 72 = .ok (.aload_n 0, 1) := by decide +kernel
theorem dX7_fits_73 : decode cX7_fits 73 = .ok (.iload_n 1, 1) := by decide +kernel
theorem dX7_fits_74 : decode cX7_fits 74 = .ok (.iload_n 2, 1) := by decide +kernel
theorem dX7_fits_75 : decode cX7_fits 75 = .ok (.invokevirtual 296, 3) := by decide +kernel
theorem dX7_fits_78 : decode cX7_fits 78 = .ok (.istore 7, 2) := by decide +kernel
theorem dX7_fits_80 : decode cX7_fits 80 = .ok (.iload 4, 2) := by decide +kernel
theorem dX7_fits_82 : decode cX7_fits 82 = .ok (.iload 7, 2) := by decide +kernel
theorem dX7_fits_84 : decode cX7_fits 84 = .ok (.ifCond .eq 7, 3) := by decide +kernel
theorem dX7_fits_87 : decode cX7_fits 87 = .ok (.iconst 1, 1) := by decide +kernel
theorem dX7_fits_88 : decode cX7_fits 88 = .ok (.goto 4, 3) := by decide +kernel
theorem dX7_fits_91 : decode cX7_fits 91 = .ok (.iconst 0, 1) := by decide +kernel
theorem dX7_fits_92 : decode cX7_fits 92 = .ok (.iadd, 1) := by decide +kernel
theorem dX7_fits_93 : decode cX7_fits 93 = .ok (.istore 4, 2) := by decide +kernel
theorem dX7_fits_95 : decode cX7_fits 95 = .ok (.iload 7, 2) := by decide +kernel
theorem dX7_fits_97 : decode cX7_fits 97 = .ok (.ifCond .eq 8, 3) := by decide +kernel
theorem dX7_fits_100 : decode cX7_fits 100 = .ok (.iload 6, 2) := by decide +kernel
theorem dX7_fits_102 : decode cX7_fits 102 = .ok (.goto 5, 3) := by decide +kernel
theorem dX7_fits_105 : decode cX7_fits 105 = .ok (.iload 5, 2) := by decide +kernel
theorem dX7_fits_107 : decode cX7_fits 107 = .ok (.istore 5, 2) := by decide +kernel
theorem dX7_fits_109 : decode cX7_fits 109 = .ok (.iinc 6 (-1), 3) := by decide +kernel
theorem dX7_fits_112 : decode cX7_fits 112 = .ok (.goto (-53), 3) := by decide +kernel
theorem dX7_fits_115 : decode cX7_fits 115 = .ok (.iload_n 3, 1) := by decide +kernel
theorem dX7_fits_116 : decode cX7_fits 116 = .ok (.ifCond .ne 8, 3) := by decide +kernel
theorem dX7_fits_119 : decode cX7_fits 119 = .ok (.iload 4, 2) := by decide +kernel
theorem dX7_fits_121 : decode cX7_fits 121 = .ok (.goto 5, 3) := by decide +kernel
theorem dX7_fits_124 : decode cX7_fits 124 = .ok (.iload 5, 2) := by decide +kernel
theorem dX7_fits_126 : decode cX7_fits 126 = .ok (.ireturn, 1) := by decide +kernel
theorem dX7_lowest_0 : decode cX7_lowest 0 = .ok (.lload_n 2, 1) := by decide +kernel
theorem dX7_lowest_1 : decode cX7_lowest 1 = .ok (.lstore 5, 2) := by decide +kernel
theorem dX7_lowest_3 : decode cX7_lowest 3 = .ok (.lload_n 0, 1) := by decide +kernel
theorem dX7_lowest_4 : decode cX7_lowest 4 = .ok (.lstore 7, 2) := by decide +kernel
theorem dX7_lowest_6 : decode cX7_lowest 6 = .ok (.lload 7, 2) := by decide +kernel
theorem dX7_lowest_8 : decode cX7_lowest 8 = .ok (.lconst 0, 1) := by decide +kernel
theorem dX7_lowest_9 : decode cX7_lowest 9 = .ok (.lcmp, 1) := by decide +kernel
theorem dX7_lowest_10 : decode cX7_lowest 10 = .ok (.ifCond .eq 21, 3) := by decide +kernel
theorem dX7_lowest_13 : decode cX7_lowest 13 = .ok (.lload 5, 2) := by decide +kernel
theorem dX7_lowest_15 : decode cX7_lowest 15 = .ok (.lload 7, 2) := by decide +kernel
theorem dX7_lowest_17 : decode cX7_lowest 17 = .ok (.lrem, 1) := by decide +kernel
theorem dX7_lowest_18 : decode cX7_lowest 18 = .ok (.lstore 9, 2) := by decide +kernel
theorem dX7_lowest_20 : decode cX7_lowest 20 = .ok (.lload 7, 2) := by decide +kernel
theorem dX7_lowest_22 : decode cX7_lowest 22 = .ok (.lstore 5, 2) := by decide +kernel
theorem dX7_lowest_24 : decode cX7_lowest 24 = .ok (.lload 9, 2) := by decide +kernel
theorem dX7_lowest_26 : decode cX7_lowest 26 = .ok (.lstore 7, 2) := by decide +kernel
theorem dX7_lowest_28 : decode cX7_lowest 28 = .ok (.goto (-22), 3) := by decide +kernel
theorem dX7_lowest_31 : decode cX7_lowest 31 = .ok (.iload 4, 2) := by decide +kernel
theorem dX7_lowest_33 : decode cX7_lowest 33 = .ok (.ifCond .ne 10, 3) := by decide +kernel
theorem dX7_lowest_36 : decode cX7_lowest 36 = .ok (.lload_n 0, 1) := by decide +kernel
theorem dX7_lowest_37 : decode cX7_lowest 37 = .ok (.lload 5, 2) := by decide +kernel
theorem dX7_lowest_39 : decode cX7_lowest 39 = .ok (.ldiv, 1) := by decide +kernel
theorem dX7_lowest_40 : decode cX7_lowest 40 = .ok (.goto 7, 3) := by decide +kernel
theorem dX7_lowest_43 : decode cX7_lowest 43 = .ok (.lload_n 2, 1) := by decide +kernel
theorem dX7_lowest_44 : decode cX7_lowest 44 = .ok (.lload 5, 2) := by decide +kernel
theorem dX7_lowest_46 : decode cX7_lowest 46 = .ok (.ldiv, 1) := by decide +kernel
theorem dX7_lowest_47 : decode cX7_lowest 47 = .ok (.lreturn, 1) := by decide +kernel
theorem dX7_powerOf_0 : decode cX7_powerOf 0 = .ok (.lconst 1, 1) := by decide +kernel
theorem dX7_powerOf_1 : decode cX7_powerOf 1 = .ok (.lstore_n 2, 1) := by decide +kernel
theorem dX7_powerOf_2 : decode cX7_powerOf 2 = .ok (.iconst 0, 1) := by decide +kernel
theorem dX7_powerOf_3 : decode cX7_powerOf 3 = .ok (.istore 4, 2) := by decide +kernel
theorem dX7_powerOf_5 : decode cX7_powerOf 5 = .ok (.iload 4, 2) := by decide +kernel
theorem dX7_powerOf_7 : decode cX7_powerOf 7 = .ok (.iload_n 1, 1) := by decide +kernel
theorem dX7_powerOf_8 : decode cX7_powerOf 8 = .ok (.if_icmp .ge 14, 3) := by decide +kernel
theorem dX7_powerOf_11 : decode cX7_powerOf 11 = .ok (.lload_n 2, 1) := by decide +kernel
theorem dX7_powerOf_12 : decode cX7_powerOf 12 = .ok (.iload_n 0, 1) := by decide +kernel
theorem dX7_powerOf_13 : decode cX7_powerOf 13 = .ok (.i2l, 1) := by decide +kernel
theorem dX7_powerOf_14 : decode cX7_powerOf 14 = .ok (.lmul, 1) := by decide +kernel
theorem dX7_powerOf_15 : decode cX7_powerOf 15 = .ok (.lstore_n 2, 1) := by decide +kernel
theorem dX7_powerOf_16 : decode cX7_powerOf 16 = .ok (.iinc 4 1, 3) := by decide +kernel
theorem dX7_powerOf_19 : decode cX7_powerOf 19 = .ok (.goto (-14), 3) := by decide +kernel
theorem dX7_powerOf_22 : decode cX7_powerOf 22 = .ok (.lload_n 2, 1) := by decide +kernel
theorem dX7_powerOf_23 : decode cX7_powerOf 23 = .ok (.lreturn, 1) := by decide +kernel
theorem dX7_odds_0 : decode cX7_odds 0 = .ok (.iload_n 1, 1) := by decide +kernel
theorem dX7_odds_1 : decode cX7_odds 1 = .ok (.iconst 0, 1) := by decide +kernel
theorem dX7_odds_2 : decode cX7_odds 2 = .ok (.bipush 8, 2) := by decide +kernel
theorem dX7_odds_4 : decode cX7_odds 4 = .ok (.invokestatic 60, 3) := by decide +kernel
theorem dX7_odds_7 : decode cX7_odds 7 = .ok (.ifCond .eq 21, 3) := by decide +kernel
theorem dX7_odds_10 : decode cX7_odds 10 = .ok (.iload_n 2, 1) := by decide +kernel
theorem dX7_odds_11 : decode cX7_odds 11 = .ok (.iconst 0, 1) := by decide +kernel
theorem dX7_odds_12 : decode cX7_odds 12 = .ok (.iload_n 1, 1) := by decide +kernel
theorem dX7_odds_13 : decode cX7_odds 13 = .ok (.invokestatic 60, 3) := by decide +kernel
theorem dX7_odds_16 : decode cX7_odds 16 = .ok (.ifCond .eq 12, 3) := by decide +kernel
theorem dX7_odds_19 : decode cX7_odds 19 = .ok (.iload_n 3, 1) := by decide +kernel
theorem dX7_odds_20 : decode cX7_odds 20 = .ok (.iconst 0, 1) := by decide +kernel
theorem dX7_odds_21 : decode cX7_odds 21 = .ok (.iconst 1, 1) := by decide +kernel
theorem dX7_odds_22 : decode cX7_odds 22 = .ok (.invokestatic 60, 3) := by decide +kernel
theorem dX7_odds_25 : decode cX7_odds 25 = .ok (.ifCond .ne 7, 3) := by decide +kernel
theorem dX7_odds_28 : decode cX7_odds 28 = .ok (.ldc2_w 100, 3) := by decide +kernel
theorem dX7_odds_31 : decode cX7_odds 31 = .ok (.lreturn, 1) := by decide +kernel
theorem dX7_odds_32 : decode cX7_odds 32 = .ok (.lconst 1, 1) := by decide +kernel
theorem dX7_odds_33 : decode cX7_odds 33 = .ok (.lstore 4, 2) := by decide +kernel
theorem dX7_odds_35 : decode cX7_odds 35 = .ok (.iconst 0, 1) := by decide +kernel
theorem dX7_odds_36 : decode cX7_odds 36 = .ok (.istore 6, 2) := by decide +kernel
theorem dX7_odds_38 : decode cX7_odds 38 = .ok (.iload 6, 2) := by decide +kernel
theorem dX7_odds_40 : decode cX7_odds 40 = .ok (.iload_n 2, 1) := by decide +kernel
theorem dX7_odds_41 : decode cX7_odds 41 = .ok (.if_icmp .ge 25, 3) := by decide +kernel
theorem dX7_odds_44 : decode cX7_odds 44 = .ok (.lload 4, 2) := by decide +kernel
theorem dX7_odds_46 : decode cX7_odds 46 = .ok (.iload_n 1, 1) := by decide +kernel
theorem dX7_odds_47 : decode cX7_odds 47 = .ok (.iload 6, 2) := by decide +kernel
theorem dX7_odds_49 : decode cX7_odds 49 = .ok (.isub, 1) := by decide +kernel
theorem dX7_odds_50 : decode cX7_odds 50 = .ok (.i2l, 1) := by decide +kernel
theorem dX7_odds_51 : decode cX7_odds 51 = .ok (.lmul, 1) := by decide +kernel
theorem dX7_odds_52 : decode cX7_odds 52 = .ok (.iload 6, 2) := by decide +kernel
theorem dX7_odds_54 : decode cX7_odds 54 = .ok (.iconst 1, 1) := by decide +kernel
theorem dX7_odds_55 : decode cX7_odds 55 = .ok (.iadd, 1) := by decide +kernel
theorem dX7_odds_56 : decode cX7_odds 56 = .ok (.i2l, 1) := by decide +kernel
theorem dX7_odds_57 : decode cX7_odds 57 = .ok (.ldiv, 1) := by decide +kernel
theorem dX7_odds_58 : decode cX7_odds 58 = .ok (.lstore 4, 2) := by decide +kernel
theorem dX7_odds_60 : decode cX7_odds 60 = .ok (.iinc 6 1, 3) := by decide +kernel
theorem dX7_odds_63 : decode cX7_odds 63 = .ok (.goto (-25), 3) := by decide +kernel
theorem dX7_odds_66 : decode cX7_odds 66 = .ok (.lload 4, 2) := by decide +kernel
theorem dX7_odds_68 : decode cX7_odds 68 = .ok (.aload_n 0, 1) := by decide +kernel
theorem dX7_odds_69 : decode cX7_odds 69 = .ok (.getfield 7, 3) := by decide +kernel
theorem dX7_odds_72 : decode cX7_odds 72 = .ok (.iconst 3, 1) := by decide +kernel
theorem dX7_odds_73 : decode cX7_odds 73 = .ok (.iaload, 1) := by decide +kernel
theorem dX7_odds_74 : decode cX7_odds 74 = .ok (.iload_n 2, 1) := by decide +kernel
theorem dX7_odds_75 : decode cX7_odds 75 = .ok (.invokestatic 299, 3) := by decide +kernel
theorem dX7_odds_78 : decode cX7_odds 78 = .ok (.lmul, 1) := by decide +kernel
theorem dX7_odds_79 : decode cX7_odds 79 = .ok (.bipush 100, 2) := by decide +kernel
theorem dX7_odds_81 : decode cX7_odds 81 = .ok (.aload_n 0, 1) := by decide +kernel
theorem dX7_odds_82 : decode cX7_odds 82 = .ok (.getfield 7, 3) := by decide +kernel
theorem dX7_odds_85 : decode cX7_odds 85 = .ok (.iconst 3, 1) := by decide +kernel
theorem dX7_odds_86 : decode cX7_odds 86 = .ok (.iaload, 1) := by decide +kernel
theorem dX7_odds_87 : decode cX7_odds 87 = .ok (.isub, 1) := by decide +kernel
theorem dX7_odds_88 : decode cX7_odds 88 = .ok (.iload_n 1, 1) := by decide +kernel
theorem dX7_odds_89 : decode cX7_odds 89 = .ok (.iload_n 2, 1) := by decide +kernel
theorem dX7_odds_90 : decode cX7_odds 90 = .ok (.isub, 1) := by decide +kernel
theorem dX7_odds_91 : decode cX7_odds 91 = .ok (.invokestatic 299, 3) := by decide +kernel
theorem dX7_odds_94 : decode cX7_odds 94 = .ok (.lmul, 1) := by decide +kernel
theorem dX7_odds_95 : decode cX7_odds 95 = .ok (.bipush 100, 2) := by decide +kernel
theorem dX7_odds_97 : decode cX7_odds 97 = .ok (.iload_n 1, 1) := by decide +kernel
theorem dX7_odds_98 : decode cX7_odds 98 = .ok (.invokestatic 299, 3) := by decide +kernel
theorem dX7_odds_101 : decode cX7_odds 101 = .ok (.iload_n 3, 1) := by decide +kernel
theorem dX7_odds_102 : decode cX7_odds 102 = .ok (.invokestatic 303, 3) := by decide +kernel
theorem dX7_odds_105 : decode cX7_odds 105 = .ok (.lreturn, 1) := by decide +kernel
theorem dX7_hope_0 : decode cX7_hope 0 = .ok (.iload_n 1, 1) := by decide +kernel
theorem dX7_hope_1 : decode cX7_hope 1 = .ok (.iconst 0, 1) := by decide +kernel
theorem dX7_hope_2 : decode cX7_hope 2 = .ok (.bipush 99, 2) := by decide +kernel
theorem dX7_hope_4 : decode cX7_hope 4 = .ok (.invokestatic 60, 3) := by decide +kernel
theorem dX7_hope_7 : decode cX7_hope 7 = .ok (.ifCond .eq 32, 3) := by decide +kernel
theorem dX7_hope_10 : decode cX7_hope 10 = .ok (.iload_n 2, 1) := by decide +kernel
theorem dX7_hope_11 : decode cX7_hope 11 = .ok (.iconst 0, 1) := by decide +kernel
theorem dX7_hope_12 : decode cX7_hope 12 = .ok (.iconst 1, 1) := by decide +kernel
theorem dX7_hope_13 : decode cX7_hope 13 = .ok (.invokestatic 60, 3) := by decide +kernel
theorem dX7_hope_16 : decode cX7_hope 16 = .ok (.ifCond .eq 23, 3) := by decide +kernel
theorem dX7_hope_19 : decode cX7_hope 19 = .ok (.iload_n 1, 1) := by decide +kernel
theorem dX7_hope_20 : decode cX7_hope 20 = .ok (.i2l, 1) := by decide +kernel
theorem dX7_hope_21 : decode cX7_hope 21 = .ok (.aload_n 0, 1) := by decide +kernel
theorem dX7_hope_22 : decode cX7_hope 22 = .ok (.getfield 7, 3) := by decide +kernel
theorem dX7_hope_25 : decode cX7_hope 25 = .ok (.iconst 3, 1) := by decide +kernel
theorem dX7_hope_26 : decode cX7_hope 26 = .ok (.iaload, 1) := by decide +kernel
theorem dX7_hope_27 : decode cX7_hope 27 = .ok (.i2l, 1) := by decide +kernel
theorem dX7_hope_28 : decode cX7_hope 28 = .ok (.lmul, 1) := by decide +kernel
theorem dX7_hope_29 : decode cX7_hope 29 = .ok (.ldc2_w 307, 3) := by decide +kernel
theorem dX7_hope_32 : decode cX7_hope 32 = .ok (.iload_n 2, 1) := by decide +kernel
theorem dX7_hope_33 : decode cX7_hope 33 = .ok (.invokestatic 303, 3) := by decide +kernel
theorem dX7_hope_36 : decode cX7_hope 36 = .ok (.goto 6, 3) := by decide +kernel
theorem dX7_hope_39 : decode cX7_hope 39 = .ok (.ldc2_w 100, 3) := by decide +kernel
theorem dX7_hope_42 : decode cX7_hope 42 = .ok (.lreturn, 1) := by decide +kernel
theorem dX7_findRows_0 : decode cX7_findRows 0 = .ok (.aload_n 0, 1) := by decide +kernel
theorem dX7_findRows_1 : decode cX7_findRows 1 = .ok (.getfield 7, 3) := by decide +kernel
theorem dX7_findRows_4 : decode cX7_findRows 4 = .ok (.aload_n 0, 1) := by decide +kernel
theorem dX7_findRows_5 : decode cX7_findRows 5 = .ok (.getfield 19, 3) := by decide +kernel
theorem dX7_findRows_8 : decode cX7_findRows 8 = .ok (.invokestatic 193, 3) := by decide +kernel
theorem dX7_findRows_11 : decode cX7_findRows 11 = .ok (.iconst 0, 1) := by decide +kernel
theorem dX7_findRows_12 : decode cX7_findRows 12 = .ok (.istore_n 3, 1) := by decide +kernel
theorem dX7_findRows_13 : decode cX7_findRows 13 = .ok (.iload_n 3, 1) := by decide +kernel
theorem dX7_findRows_14 : decode cX7_findRows 14 = .ok (.iload_n 2, 1) := by decide +kernel
theorem dX7_findRows_15 : decode cX7_findRows 15 = .ok (.if_icmp .ge 68, 3) := by decide +kernel
theorem dX7_findRows_18 : decode cX7_findRows 18 = .ok (.aload_n 0, 1) := by decide +kernel
theorem dX7_findRows_19 : decode cX7_findRows 19 = .ok (.iload_n 1, 1) := by decide +kernel
theorem dX7_findRows_20 : decode cX7_findRows 20 = .ok (.aload_n 0, 1) := by decide +kernel
theorem dX7_findRows_21 : decode cX7_findRows 21 = .ok (.getfield 7, 3) := by decide +kernel
theorem dX7_findRows_24 : decode cX7_findRows 24 = .ok (.iconst 4, 1) := by decide +kernel
theorem dX7_findRows_25 : decode cX7_findRows 25 = .ok (.iaload, 1) := by decide +kernel
theorem dX7_findRows_26 : decode cX7_findRows 26 = .ok (.invokevirtual 226, 3) := by decide +kernel
theorem dX7_findRows_29 : decode cX7_findRows 29 = .ok (.istore 4, 2) := by decide +kernel
theorem dX7_findRows_31 : decode cX7_findRows 31 = .ok (.aload_n 0, 1) := by decide +kernel
theorem dX7_findRows_32 : decode cX7_findRows 32 = .ok (.invokevirtual 251, 3) := by decide +kernel
theorem dX7_findRows_35 : decode cX7_findRows 35 = .ok (.aload_n 0, 1) := by decide +kernel
theorem dX7_findRows_36 : decode cX7_findRows 36 = .ok (.getfield 31, 3) := by decide +kernel
theorem dX7_findRows_39 : decode cX7_findRows 39 = .ok (.iconst 3, 1) := by decide +kernel
theorem dX7_findRows_40 : decode cX7_findRows 40 = .ok (.iload_n 3, 1) := by decide +kernel
theorem dX7_findRows_41 : decode cX7_findRows 41 = .ok (.imul, 1) := by decide +kernel
theorem dX7_findRows_42 : decode cX7_findRows 42 = .ok (.aload_n 0, 1) := by decide +kernel
theorem dX7_findRows_43 : decode cX7_findRows 43 = .ok (.iload_n 1, 1) := by decide +kernel
theorem dX7_findRows_44 : decode cX7_findRows 44 = .ok (.iconst 3, 1) := by decide +kernel
theorem dX7_findRows_45 : decode cX7_findRows 45 = .ok (.invokevirtual 217, 3) := by decide +kernel
theorem dX7_findRows_48 : decode cX7_findRows 48 = .ok (.iastore, 1) := by decide +kernel
theorem dX7_findRows_49 : decode cX7_findRows 49 = .ok (.aload_n 0, 1) := by decide +kernel
theorem dX7_findRows_50 : decode cX7_findRows 50 = .ok (.getfield 31, 3) := by decide +kernel
theorem dX7_findRows_53 : decode cX7_findRows 53 = .ok (.iconst 3, 1) := by decide +kernel
theorem dX7_findRows_54 : decode cX7_findRows 54 = .ok (.iload_n 3, 1) := by decide +kernel
theorem dX7_findRows_55 : decode cX7_findRows 55 = .ok (.imul, 1) := by decide +kernel
theorem dX7_findRows_56 : decode cX7_findRows 56 = .ok (.iconst 1, 1) := by decide +kernel
theorem dX7_findRows_57 : decode cX7_findRows 57 = .ok (.iadd, 1) := by decide +kernel
theorem dX7_findRows_58 : decode cX7_findRows 58 = .ok (.aload_n 0, 1) := by decide +kernel
theorem dX7_findRows_59 : decode cX7_findRows 59 = .ok (.iload_n 1, 1) := by decide +kernel
theorem dX7_findRows_60 : decode cX7_findRows 60 = .ok (.iconst 4, 1) := by decide +kernel
theorem dX7_findRows_61 : decode cX7_findRows 61 = .ok (.invokevirtual 217, 3) := by decide +kernel
theorem dX7_findRows_64 : decode cX7_findRows 64 = .ok (.iastore, 1) := by decide +kernel
theorem dX7_findRows_65 : decode cX7_findRows 65 = .ok (.aload_n 0, 1) := by decide +kernel
theorem dX7_findRows_66 : decode cX7_findRows 66 = .ok (.getfield 31, 3) := by decide +kernel
theorem dX7_findRows_69 : decode cX7_findRows 69 = .ok (.iconst 3, 1) := by decide +kernel
theorem dX7_findRows_70 : decode cX7_findRows 70 = .ok (.iload_n 3, 1) := by decide +kernel
theorem dX7_findRows_71 : decode cX7_findRows 71 = .ok (.imul, 1) := by decide +kernel
theorem dX7_findRows_72 : decode cX7_findRows 72 = .ok (.iconst 2, 1) := by decide +kernel
theorem dX7_findRows_73 : decode cX7_findRows 73 = .ok (.iadd, 1) := by decide +kernel
theorem dX7_findRows_74 : decode cX7_findRows 74 = .ok (.iload 4, 2) := by decide +kernel
theorem dX7_findRows_76 : decode cX7_findRows 76 = .ok (.iastore, 1) := by decide +kernel
theorem dX7_findRows_77 : decode cX7_findRows 77 = .ok (.iinc 3 1, 3) := by decide +kernel
theorem dX7_findRows_80 : decode cX7_findRows 80 = .ok (.goto (-67), 3) := by decide +kernel
theorem dX7_findRows_83 : decode cX7_findRows 83 = .ok (.aload_n 0, 1) := by decide +kernel
theorem dX7_findRows_84 : decode cX7_findRows 84 = .ok (.getfield 19, 3) := by decide +kernel
theorem dX7_findRows_87 : decode cX7_findRows 87 = .ok (.aload_n 0, 1) := by decide +kernel
theorem dX7_findRows_88 : decode cX7_findRows 88 = .ok (.getfield 7, 3) := by decide +kernel
theorem dX7_findRows_91 : decode cX7_findRows 91 = .ok (.invokestatic 193, 3) := by decide +kernel
theorem dX7_findRows_94 : decode cX7_findRows 94 = .ok (.return_, 1) := by decide +kernel
theorem dX7_prove_0 : decode cX7_prove 0 = .ok (.aload_n 0, 1) := by decide +kernel
theorem dX7_prove_1 : decode cX7_prove 1 = .ok (.iload_n 1, 1) := by decide +kernel
theorem dX7_prove_2 : decode cX7_prove 2 = .ok (.invokevirtual 220, 3) := by decide +kernel
theorem dX7_prove_5 : decode cX7_prove 5 = .ok (.ifCond .eq 13, 3) := by decide +kernel
theorem dX7_prove_8 : decode cX7_prove 8 = .ok (.iload_n 2, 1) := by decide +kernel
theorem dX7_prove_9 : decode cX7_prove 9 = .ok (.iconst 1, 1) := by decide +kernel
theorem dX7_prove_10 : decode cX7_prove 10 = .ok (.bipush 10, 2) := by decide +kernel
theorem dX7_prove_12 : decode cX7_prove 12 = .ok (.invokestatic 60, 3) := by decide +kernel
theorem dX7_prove_15 : decode cX7_prove 15 = .ok (.ifCond .ne 5, 3) := by decide +kernel
theorem dX7_prove_18 : decode cX7_prove 18 = .ok (.iconst (-1), 1) := by decide +kernel
theorem dX7_prove_19 : decode cX7_prove 19 = .ok (.ireturn, 1) := by decide +kernel
theorem dX7_prove_20 : decode cX7_prove 20 = .ok (.aload_n 0, 1) := by decide +kernel
theorem dX7_prove_21 : decode cX7_prove 21 = .ok (.iload_n 1, 1) := by decide +kernel
theorem dX7_prove_22 : decode cX7_prove 22 = .ok (.iload_n 2, 1) := by decide +kernel
theorem dX7_prove_23 : decode cX7_prove 23 = .ok (.invokevirtual 309, 3) := by decide +kernel
theorem dX7_prove_26 : decode cX7_prove 26 = .ok (.aload_n 0, 1) := by decide +kernel
theorem dX7_prove_27 : decode cX7_prove 27 = .ok (.iload_n 2, 1) := by decide +kernel
theorem dX7_prove_28 : decode cX7_prove 28 = .ok (.putfield 197, 3) := by decide +kernel
theorem dX7_prove_31 : decode cX7_prove 31 = .ok (.iconst 0, 1) := by decide +kernel
theorem dX7_prove_32 : decode cX7_prove 32 = .ok (.istore_n 3, 1) := by decide +kernel
theorem dX7_prove_33 : decode cX7_prove 33 = .ok (.iload_n 3, 1) := by decide +kernel
theorem dX7_prove_34 : decode cX7_prove 34 = .ok (.iconst 3, 1) := by decide +kernel
theorem dX7_prove_35 : decode cX7_prove 35 = .ok (.iload_n 2, 1) := by decide +kernel
theorem dX7_prove_36 : decode cX7_prove 36 = .ok (.imul, 1) := by decide +kernel
theorem dX7_prove_37 : decode cX7_prove 37 = .ok (.if_icmp .ge 21, 3) := by decide +kernel
theorem dX7_prove_40 : decode cX7_prove 40 = .ok (.aload_n 0, 1) := by decide +kernel
theorem dX7_prove_41 : decode cX7_prove 41 = .ok (.getfield 28, 3) := by decide +kernel
theorem dX7_prove_44 : decode cX7_prove 44 = .ok (.iload_n 3, 1) := by decide +kernel
theorem dX7_prove_45 : decode cX7_prove 45 = .ok (.aload_n 0, 1) := by decide +kernel
theorem dX7_prove_46 : decode cX7_prove 46 = .ok (.getfield 31, 3) := by decide +kernel
theorem dX7_prove_49 : decode cX7_prove 49 = .ok (.iload_n 3, 1) := by decide +kernel
theorem dX7_prove_50 : decode cX7_prove 50 = .ok (.iaload, 1) := by decide +kernel
theorem dX7_prove_51 : decode cX7_prove 51 = .ok (.iastore, 1) := by decide +kernel
theorem dX7_prove_52 : decode cX7_prove 52 = .ok (.iinc 3 1, 3) := by decide +kernel
theorem dX7_prove_55 : decode cX7_prove 55 = .ok (.goto (-22), 3) := by decide +kernel
theorem dX7_prove_58 : decode cX7_prove 58 = .ok (.iload_n 2, 1) := by decide +kernel
theorem dX7_prove_59 : decode cX7_prove 59 = .ok (.ireturn, 1) := by decide +kernel
theorem dX7_isRow_0 : decode cX7_isRow 0 = .ok (.iload_n 1, 1) := by decide +kernel
theorem dX7_isRow_1 : decode cX7_isRow 1 = .ok (.iconst 0, 1) := by decide +kernel
theorem dX7_isRow_2 : decode cX7_isRow 2 = .ok (.aload_n 0, 1) := by decide +kernel
theorem dX7_isRow_3 : decode cX7_isRow 3 = .ok (.getfield 197, 3) := by decide +kernel
theorem dX7_isRow_6 : decode cX7_isRow 6 = .ok (.iconst 1, 1) := by decide +kernel
theorem dX7_isRow_7 : decode cX7_isRow 7 = .ok (.isub, 1) := by decide +kernel
theorem dX7_isRow_8 : decode cX7_isRow 8 = .ok (.invokestatic 60, 3) := by decide +kernel
theorem dX7_isRow_11 : decode cX7_isRow 11 = .ok (.ifCond .eq 16, 3) := by decide +kernel
theorem dX7_isRow_14 : decode cX7_isRow 14 = .ok (.iload_n 2, 1) := by decide +kernel
theorem dX7_isRow_15 : decode cX7_isRow 15 = .ok (.iconst 0, 1) := by decide +kernel
theorem dX7_isRow_16 : decode cX7_isRow 16 = .ok (.iconst 2, 1) := by decide +kernel
theorem dX7_isRow_17 : decode cX7_isRow 17 = .ok (.invokestatic 60, 3) := by decide +kernel
theorem dX7_isRow_20 : decode cX7_isRow 20 = .ok (.ifCond .eq 7, 3) := by decide +kernel
theorem dX7_isRow_23 : decode cX7_isRow 23 = .ok (.iconst 1, 1) := by decide +kernel
theorem dX7_isRow_24 : decode cX7_isRow 24 = .ok (.goto 4, 3) := by decide +kernel
theorem dX7_isRow_27 : decode cX7_isRow 27 = .ok (.iconst 0, 1) := by decide +kernel
theorem dX7_isRow_28 : decode cX7_isRow 28 = .ok (.ireturn, 1) := by decide +kernel
theorem dX7_row_0 : decode cX7_row 0 = .ok (.aload_n 0, 1) := by decide +kernel
theorem dX7_row_1 : decode cX7_row 1 = .ok (.iload_n 1, 1) := by decide +kernel
theorem dX7_row_2 : decode cX7_row 2 = .ok (.iload_n 2, 1) := by decide +kernel
theorem dX7_row_3 : decode cX7_row 3 = .ok (.invokevirtual 313, 3) := by decide +kernel
theorem dX7_row_6 : decode cX7_row 6 = .ok (.ifCond .eq 16, 3) := by decide +kernel
theorem dX7_row_9 : decode cX7_row 9 = .ok (.aload_n 0, 1) := by decide +kernel
theorem dX7_row_10 : decode cX7_row 10 = .ok (.getfield 28, 3) := by decide +kernel
theorem dX7_row_13 : decode cX7_row 13 = .ok (.iconst 3, 1) := by decide +kernel
theorem dX7_row_14 : decode cX7_row 14 = .ok (.iload_n 1, 1) := by decide +kernel
theorem dX7_row_15 : decode cX7_row 15 = .ok (.imul, 1) := by decide +kernel
theorem dX7_row_16 : decode cX7_row 16 = .ok (.iload_n 2, 1) := by decide +kernel
theorem dX7_row_17 : decode cX7_row 17 = .ok (.iadd, 1) := by decide +kernel
theorem dX7_row_18 : decode cX7_row 18 = .ok (.iaload, 1) := by decide +kernel
theorem dX7_row_19 : decode cX7_row 19 = .ok (.goto 6, 3) := by decide +kernel
theorem dX7_row_22 : decode cX7_row 22 = .ok (.sipush (-999), 3) := by decide +kernel
theorem dX7_row_25 : decode cX7_row 25 = .ok (.ireturn, 1) := by decide +kernel
theorem dX7_alterRow_0 : decode cX7_alterRow 0 = .ok (.aload_n 0, 1) := by decide +kernel
theorem dX7_alterRow_1 : decode cX7_alterRow 1 = .ok (.iload_n 1, 1) := by decide +kernel
theorem dX7_alterRow_2 : decode cX7_alterRow 2 = .ok (.iload_n 2, 1) := by decide +kernel
theorem dX7_alterRow_3 : decode cX7_alterRow 3 = .ok (.invokevirtual 313, 3) := by decide +kernel
theorem dX7_alterRow_6 : decode cX7_alterRow 6 = .ok (.ifCond .ne 7, 3) := by decide +kernel
theorem dX7_alterRow_9 : decode cX7_alterRow 9 = .ok (.sipush (-999), 3) := by decide +kernel
theorem dX7_alterRow_12 : decode cX7_alterRow 12 = .ok (.ireturn, 1) := by decide +kernel
theorem dX7_alterRow_13 : decode cX7_alterRow 13 = .ok (.aload_n 0, 1) := by decide +kernel
theorem dX7_alterRow_14 : decode cX7_alterRow 14 = .ok (.getfield 28, 3) := by decide +kernel
theorem dX7_alterRow_17 : decode cX7_alterRow 17 = .ok (.iconst 3, 1) := by decide +kernel
theorem dX7_alterRow_18 : decode cX7_alterRow 18 = .ok (.iload_n 1, 1) := by decide +kernel
theorem dX7_alterRow_19 : decode cX7_alterRow 19 = .ok (.imul, 1) := by decide +kernel
theorem dX7_alterRow_20 : decode cX7_alterRow 20 = .ok (.iload_n 2, 1) := by decide +kernel
theorem dX7_alterRow_21 : decode cX7_alterRow 21 = .ok (.iadd, 1) := by decide +kernel
theorem dX7_alterRow_22 : decode cX7_alterRow 22 = .ok (.iaload, 1) := by decide +kernel
theorem dX7_alterRow_23 : decode cX7_alterRow 23 = .ok (.istore 4, 2) := by decide +kernel
theorem dX7_alterRow_25 : decode cX7_alterRow 25 = .ok (.aload_n 0, 1) := by decide +kernel
theorem dX7_alterRow_26 : decode cX7_alterRow 26 = .ok (.getfield 28, 3) := by decide +kernel
theorem dX7_alterRow_29 : decode cX7_alterRow 29 = .ok (.iconst 3, 1) := by decide +kernel
theorem dX7_alterRow_30 : decode cX7_alterRow 30 = .ok (.iload_n 1, 1) := by decide +kernel
theorem dX7_alterRow_31 : decode cX7_alterRow 31 = .ok (.imul, 1) := by decide +kernel
theorem dX7_alterRow_32 : decode cX7_alterRow 32 = .ok (.iload_n 2, 1) := by decide +kernel
theorem dX7_alterRow_33 : decode cX7_alterRow 33 = .ok (.iadd, 1) := by decide +kernel
theorem dX7_alterRow_34 : decode cX7_alterRow 34 = .ok (.iload_n 3, 1) := by decide +kernel
theorem dX7_alterRow_35 : decode cX7_alterRow 35 = .ok (.iastore, 1) := by decide +kernel
theorem dX7_alterRow_36 : decode cX7_alterRow 36 = .ok (.iload 4, 2) := by decide +kernel
theorem dX7_alterRow_38 : decode cX7_alterRow 38 = .ok (.ireturn, 1) := by decide +kernel
theorem dX7_judge_0 : decode cX7_judge 0 = .ok (.aload_n 0, 1) := by decide +kernel
theorem dX7_judge_1 : decode cX7_judge 1 = .ok (.iload_n 1, 1) := by decide +kernel
theorem dX7_judge_2 : decode cX7_judge 2 = .ok (.invokevirtual 220, 3) := by decide +kernel
theorem dX7_judge_5 : decode cX7_judge 5 = .ok (.ifCond .ne 5, 3) := by decide +kernel
theorem dX7_judge_8 : decode cX7_judge 8 = .ok (.iconst (-1), 1) := by decide +kernel
theorem dX7_judge_9 : decode cX7_judge 9 = .ok (.ireturn, 1) := by decide +kernel
theorem dX7_judge_10 : decode cX7_judge 10 = .ok (.aload_n 0, 1) := by decide +kernel
theorem dX7_judge_11 : decode cX7_judge 11 = .ok (.iload_n 1, 1) := by decide +kernel
theorem dX7_judge_12 : decode cX7_judge 12 = .ok (.aload_n 0, 1) := by decide +kernel
theorem dX7_judge_13 : decode cX7_judge 13 = .ok (.getfield 197, 3) := by decide +kernel
theorem dX7_judge_16 : decode cX7_judge 16 = .ok (.invokevirtual 309, 3) := by decide +kernel
theorem dX7_judge_19 : decode cX7_judge 19 = .ok (.iconst 0, 1) := by decide +kernel
theorem dX7_judge_20 : decode cX7_judge 20 = .ok (.istore_n 2, 1) := by decide +kernel
theorem dX7_judge_21 : decode cX7_judge 21 = .ok (.iload_n 2, 1) := by decide +kernel
theorem dX7_judge_22 : decode cX7_judge 22 = .ok (.iconst 3, 1) := by decide +kernel
theorem dX7_judge_23 : decode cX7_judge 23 = .ok (.aload_n 0, 1) := by decide +kernel
theorem dX7_judge_24 : decode cX7_judge 24 = .ok (.getfield 197, 3) := by decide +kernel
theorem dX7_judge_27 : decode cX7_judge 27 = .ok (.imul, 1) := by decide +kernel
theorem dX7_judge_28 : decode cX7_judge 28 = .ok (.if_icmp .ge 30, 3) := by decide +kernel
theorem dX7_judge_31 : decode cX7_judge 31 = .ok (.aload_n 0, 1) := by decide +kernel
theorem dX7_judge_32 : decode cX7_judge 32 = .ok (.getfield 28, 3) := by decide +kernel
theorem dX7_judge_35 : decode cX7_judge 35 = .ok (.iload_n 2, 1) := by decide +kernel
theorem dX7_judge_36 : decode cX7_judge 36 = .ok (.iaload, 1) := by decide +kernel
theorem dX7_judge_37 : decode cX7_judge 37 = .ok (.aload_n 0, 1) := by decide +kernel
theorem dX7_judge_38 : decode cX7_judge 38 = .ok (.getfield 31, 3) := by decide +kernel
theorem dX7_judge_41 : decode cX7_judge 41 = .ok (.iload_n 2, 1) := by decide +kernel
theorem dX7_judge_42 : decode cX7_judge 42 = .ok (.iaload, 1) := by decide +kernel
theorem dX7_judge_43 : decode cX7_judge 43 = .ok (.if_icmp .eq 9, 3) := by decide +kernel
theorem dX7_judge_46 : decode cX7_judge 46 = .ok (.iload_n 2, 1) := by decide +kernel
theorem dX7_judge_47 : decode cX7_judge 47 = .ok (.iconst 3, 1) := by decide +kernel
theorem dX7_judge_48 : decode cX7_judge 48 = .ok (.idiv, 1) := by decide +kernel
theorem dX7_judge_49 : decode cX7_judge 49 = .ok (.iconst 1, 1) := by decide +kernel
theorem dX7_judge_50 : decode cX7_judge 50 = .ok (.iadd, 1) := by decide +kernel
theorem dX7_judge_51 : decode cX7_judge 51 = .ok (.ireturn, 1) := by decide +kernel
theorem dX7_judge_52 : decode cX7_judge 52 = .ok (.iinc 2 1, 3) := by decide +kernel
theorem dX7_judge_55 : decode cX7_judge 55 = .ok (.goto (-34), 3) := by decide +kernel
theorem dX7_judge_58 : decode cX7_judge 58 = .ok (.iconst 0, 1) := by decide +kernel
theorem dX7_judge_59 : decode cX7_judge 59 = .ok (.ireturn, 1) := by decide +kernel
theorem dX7_minds_0 : decode cX7_minds 0 = .ok (.iload_n 1, 1) := by decide +kernel
theorem dX7_minds_1 : decode cX7_minds 1 = .ok (.invokestatic 293, 3) := by decide +kernel
theorem dX7_minds_4 : decode cX7_minds 4 = .ok (.ifCond .eq 35, 3) := by decide +kernel
theorem dX7_minds_7 : decode cX7_minds 7 = .ok (.aload_n 0, 1) := by decide +kernel
theorem dX7_minds_8 : decode cX7_minds 8 = .ok (.iload_n 3, 1) := by decide +kernel
theorem dX7_minds_9 : decode cX7_minds 9 = .ok (.invokevirtual 220, 3) := by decide +kernel
theorem dX7_minds_12 : decode cX7_minds 12 = .ok (.ifCond .eq 27, 3) := by decide +kernel
theorem dX7_minds_15 : decode cX7_minds 15 = .ok (.iload 4, 2) := by decide +kernel
theorem dX7_minds_17 : decode cX7_minds 17 = .ok (.iconst 0, 1) := by decide +kernel
theorem dX7_minds_18 : decode cX7_minds 18 = .ok (.bipush 8, 2) := by decide +kernel
theorem dX7_minds_20 : decode cX7_minds 20 = .ok (.invokestatic 60, 3) := by decide +kernel
theorem dX7_minds_23 : decode cX7_minds 23 = .ok (.ifCond .eq 16, 3) := by decide +kernel
theorem dX7_minds_26 : decode cX7_minds 26 = .ok (.iload 4, 2) := by decide +kernel
theorem dX7_minds_28 : decode cX7_minds 28 = .ok (.aload_n 0, 1) := by decide +kernel
theorem dX7_minds_29 : decode cX7_minds 29 = .ok (.getfield 7, 3) := by decide +kernel
theorem dX7_minds_32 : decode cX7_minds 32 = .ok (.iconst 5, 1) := by decide +kernel
theorem dX7_minds_33 : decode cX7_minds 33 = .ok (.iaload, 1) := by decide +kernel
theorem dX7_minds_34 : decode cX7_minds 34 = .ok (.iload_n 3, 1) := by decide +kernel
theorem dX7_minds_35 : decode cX7_minds 35 = .ok (.isub, 1) := by decide +kernel
theorem dX7_minds_36 : decode cX7_minds 36 = .ok (.if_icmp .le 5, 3) := by decide +kernel
theorem dX7_minds_39 : decode cX7_minds 39 = .ok (.iconst (-1), 1) := by decide +kernel
theorem dX7_minds_40 : decode cX7_minds 40 = .ok (.ireturn, 1) := by decide +kernel
theorem dX7_minds_41 : decode cX7_minds 41 = .ok (.aload_n 0, 1) := by decide +kernel
theorem dX7_minds_42 : decode cX7_minds 42 = .ok (.iload_n 1, 1) := by decide +kernel
theorem dX7_minds_43 : decode cX7_minds 43 = .ok (.iconst 0, 1) := by decide +kernel
theorem dX7_minds_44 : decode cX7_minds 44 = .ok (.invokevirtual 316, 3) := by decide +kernel
theorem dX7_minds_47 : decode cX7_minds 47 = .ok (.istore 5, 2) := by decide +kernel
theorem dX7_minds_49 : decode cX7_minds 49 = .ok (.iload 5, 2) := by decide +kernel
theorem dX7_minds_51 : decode cX7_minds 51 = .ok (.ifCond .eq 6, 3) := by decide +kernel
theorem dX7_minds_54 : decode cX7_minds 54 = .ok (.iload 5, 2) := by decide +kernel
theorem dX7_minds_56 : decode cX7_minds 56 = .ok (.ireturn, 1) := by decide +kernel
theorem dX7_minds_57 : decode cX7_minds 57 = .ok (.iload_n 2, 1) := by decide +kernel
theorem dX7_minds_58 : decode cX7_minds 58 = .ok (.ifCond .lt 16, 3) := by decide +kernel
theorem dX7_minds_61 : decode cX7_minds 61 = .ok (.iload_n 2, 1) := by decide +kernel
theorem dX7_minds_62 : decode cX7_minds 62 = .ok (.aload_n 0, 1) := by decide +kernel
theorem dX7_minds_63 : decode cX7_minds 63 = .ok (.getfield 37, 3) := by decide +kernel
theorem dX7_minds_66 : decode cX7_minds 66 = .ok (.iload_n 1, 1) := by decide +kernel
theorem dX7_minds_67 : decode cX7_minds 67 = .ok (.iaload, 1) := by decide +kernel
theorem dX7_minds_68 : decode cX7_minds 68 = .ok (.iload 4, 2) := by decide +kernel
theorem dX7_minds_70 : decode cX7_minds 70 = .ok (.isub, 1) := by decide +kernel
theorem dX7_minds_71 : decode cX7_minds 71 = .ok (.if_icmp .le 6, 3) := by decide +kernel
theorem dX7_minds_74 : decode cX7_minds 74 = .ok (.bipush (-12), 2) := by decide +kernel
theorem dX7_minds_76 : decode cX7_minds 76 = .ok (.ireturn, 1) := by decide +kernel
theorem dX7_minds_77 : decode cX7_minds 77 = .ok (.iconst 0, 1) := by decide +kernel
theorem dX7_minds_78 : decode cX7_minds 78 = .ok (.istore 6, 2) := by decide +kernel
theorem dX7_minds_80 : decode cX7_minds 80 = .ok (.iload 6, 2) := by decide +kernel
theorem dX7_minds_82 : decode cX7_minds 82 = .ok (.iload 4, 2) := by decide +kernel
theorem dX7_minds_84 : decode cX7_minds 84 = .ok (.if_icmp .ge 39, 3) := by decide +kernel
theorem dX7_minds_87 : decode cX7_minds 87 = .ok (.aload_n 0, 1) := by decide +kernel
theorem dX7_minds_88 : decode cX7_minds 88 = .ok (.iload_n 3, 1) := by decide +kernel
theorem dX7_minds_89 : decode cX7_minds 89 = .ok (.iload 6, 2) := by decide +kernel
theorem dX7_minds_91 : decode cX7_minds 91 = .ok (.iadd, 1) := by decide +kernel
theorem dX7_minds_92 : decode cX7_minds 92 = .ok (.iconst 2, 1) := by decide +kernel
theorem dX7_minds_93 : decode cX7_minds 93 = .ok (.aload_n 0, 1) := by decide +kernel
theorem dX7_minds_94 : decode cX7_minds 94 = .ok (.getfield 40, 3) := by decide +kernel
theorem dX7_minds_97 : decode cX7_minds 97 = .ok (.bipush 40, 2) := by decide +kernel
theorem dX7_minds_99 : decode cX7_minds 99 = .ok (.iload_n 1, 1) := by decide +kernel
theorem dX7_minds_100 : decode cX7_minds 100 = .ok (.imul, 1) := by decide +kernel
theorem dX7_minds_101 : decode cX7_minds 101 = .ok (.iload_n 2, 1) := by decide +kernel
theorem dX7_minds_102 : decode cX7_minds 102 = .ok (.iadd, 1) := by decide +kernel
theorem dX7_minds_103 : decode cX7_minds 103 = .ok (.iload 6, 2) := by decide +kernel
theorem dX7_minds_105 : decode cX7_minds 105 = .ok (.iadd, 1) := by decide +kernel
theorem dX7_minds_106 : decode cX7_minds 106 = .ok (.laload, 1) := by decide +kernel
theorem dX7_minds_107 : decode cX7_minds 107 = .ok (.l2i, 1) := by decide +kernel
theorem dX7_minds_108 : decode cX7_minds 108 = .ok (.iconst 0, 1) := by decide +kernel
theorem dX7_minds_109 : decode cX7_minds 109 = .ok (.bipush 99, 2) := by decide +kernel
theorem dX7_minds_111 : decode cX7_minds 111 = .ok (.invokestatic 319, 3) := by decide +kernel
theorem dX7_minds_114 : decode cX7_minds 114 = .ok (.invokevirtual 213, 3) := by decide +kernel
theorem dX7_minds_117 : decode cX7_minds 117 = .ok (.iinc 6 1, 3) := by decide +kernel
theorem dX7_minds_120 : decode cX7_minds 120 = .ok (.goto (-40), 3) := by decide +kernel
theorem dX7_minds_123 : decode cX7_minds 123 = .ok (.iload 4, 2) := by decide +kernel
theorem dX7_minds_125 : decode cX7_minds 125 = .ok (.ireturn, 1) := by decide +kernel
theorem dX7_isShelf_0 : decode cX7_isShelf 0 = .ok (.iload_n 0, 1) := by decide +kernel
theorem dX7_isShelf_1 : decode cX7_isShelf 1 = .ok (.iconst 0, 1) := by decide +kernel
theorem dX7_isShelf_2 : decode cX7_isShelf 2 = .ok (.iconst 3, 1) := by decide +kernel
theorem dX7_isShelf_3 : decode cX7_isShelf 3 = .ok (.invokestatic 60, 3) := by decide +kernel
theorem dX7_isShelf_6 : decode cX7_isShelf 6 = .ok (.ireturn, 1) := by decide +kernel
theorem dX7_sheet_0 : decode cX7_sheet 0 = .ok (.iload_n 1, 1) := by decide +kernel
theorem dX7_sheet_1 : decode cX7_sheet 1 = .ok (.invokestatic 293, 3) := by decide +kernel
theorem dX7_sheet_4 : decode cX7_sheet 4 = .ok (.ifCond .eq 22, 3) := by decide +kernel
theorem dX7_sheet_7 : decode cX7_sheet 7 = .ok (.iload_n 2, 1) := by decide +kernel
theorem dX7_sheet_8 : decode cX7_sheet 8 = .ok (.iconst (-1), 1) := by decide +kernel
theorem dX7_sheet_9 : decode cX7_sheet 9 = .ok (.iconst 3, 1) := by decide +kernel
theorem dX7_sheet_10 : decode cX7_sheet 10 = .ok (.invokestatic 60, 3) := by decide +kernel
theorem dX7_sheet_13 : decode cX7_sheet 13 = .ok (.ifCond .eq 13, 3) := by decide +kernel
theorem dX7_sheet_16 : decode cX7_sheet 16 = .ok (.iload_n 2, 1) := by decide +kernel
theorem dX7_sheet_17 : decode cX7_sheet 17 = .ok (.ifCond .lt 11, 3) := by decide +kernel
theorem dX7_sheet_20 : decode cX7_sheet 20 = .ok (.iload_n 3, 1) := by decide +kernel
theorem dX7_sheet_21 : decode cX7_sheet 21 = .ok (.bipush 40, 2) := by decide +kernel
theorem dX7_sheet_23 : decode cX7_sheet 23 = .ok (.if_icmp .le 5, 3) := by decide +kernel
theorem dX7_sheet_26 : decode cX7_sheet 26 = .ok (.iconst (-1), 1) := by decide +kernel
theorem dX7_sheet_27 : decode cX7_sheet 27 = .ok (.ireturn, 1) := by decide +kernel
theorem dX7_sheet_28 : decode cX7_sheet 28 = .ok (.iload_n 2, 1) := by decide +kernel
theorem dX7_sheet_29 : decode cX7_sheet 29 = .ok (.ifCond .lt 10, 3) := by decide +kernel
theorem dX7_sheet_32 : decode cX7_sheet 32 = .ok (.iload_n 3, 1) := by decide +kernel
theorem dX7_sheet_33 : decode cX7_sheet 33 = .ok (.ifCond .ge 6, 3) := by decide +kernel
theorem dX7_sheet_36 : decode cX7_sheet 36 = .ok (.bipush (-14), 2) := by decide +kernel
theorem dX7_sheet_38 : decode cX7_sheet 38 = .ok (.ireturn, 1) := by decide +kernel
theorem dX7_sheet_39 : decode cX7_sheet 39 = .ok (.aload_n 0, 1) := by decide +kernel
theorem dX7_sheet_40 : decode cX7_sheet 40 = .ok (.getfield 34, 3) := by decide +kernel
theorem dX7_sheet_43 : decode cX7_sheet 43 = .ok (.iload_n 1, 1) := by decide +kernel
theorem dX7_sheet_44 : decode cX7_sheet 44 = .ok (.iload_n 2, 1) := by decide +kernel
theorem dX7_sheet_45 : decode cX7_sheet 45 = .ok (.iastore, 1) := by decide +kernel
theorem dX7_sheet_46 : decode cX7_sheet 46 = .ok (.aload_n 0, 1) := by decide +kernel
theorem dX7_sheet_47 : decode cX7_sheet 47 = .ok (.getfield 37, 3) := by decide +kernel
theorem dX7_sheet_50 : decode cX7_sheet 50 = .ok (.iload_n 1, 1) := by decide +kernel
theorem dX7_sheet_51 : decode cX7_sheet 51 = .ok (.iload_n 2, 1) := by decide +kernel
theorem dX7_sheet_52 : decode cX7_sheet 52 = .ok (.ifCond .ge 7, 3) := by decide +kernel
theorem dX7_sheet_55 : decode cX7_sheet 55 = .ok (.iconst 0, 1) := by decide +kernel
theorem dX7_sheet_56 : decode cX7_sheet 56 = .ok (.goto 4, 3) := by decide +kernel
theorem dX7_sheet_59 : decode cX7_sheet 59 = .ok (.iload_n 3, 1) := by decide +kernel
theorem dX7_sheet_60 : decode cX7_sheet 60 = .ok (.iastore, 1) := by decide +kernel
theorem dX7_sheet_61 : decode cX7_sheet 61 = .ok (.iconst 0, 1) := by decide +kernel
theorem dX7_sheet_62 : decode cX7_sheet 62 = .ok (.istore 4, 2) := by decide +kernel
theorem dX7_sheet_64 : decode cX7_sheet 64 = .ok (.iload 4, 2) := by decide +kernel
theorem dX7_sheet_66 : decode cX7_sheet 66 = .ok (.bipush 40, 2) := by decide +kernel
theorem dX7_sheet_68 : decode cX7_sheet 68 = .ok (.if_icmp .ge 22, 3) := by decide +kernel
theorem dX7_sheet_71 : decode cX7_sheet 71 = .ok (.aload_n 0, 1) := by decide +kernel
theorem dX7_sheet_72 : decode cX7_sheet 72 = .ok (.getfield 40, 3) := by decide +kernel
theorem dX7_sheet_75 : decode cX7_sheet 75 = .ok (.bipush 40, 2) := by decide +kernel
theorem dX7_sheet_77 : decode cX7_sheet 77 = .ok (.iload_n 1, 1) := by decide +kernel
theorem dX7_sheet_78 : decode cX7_sheet 78 = .ok (.imul, 1) := by decide +kernel
theorem dX7_sheet_79 : decode cX7_sheet 79 = .ok (.iload 4, 2) := by decide +kernel
theorem dX7_sheet_81 : decode cX7_sheet 81 = .ok (.iadd, 1) := by decide +kernel
theorem dX7_sheet_82 : decode cX7_sheet 82 = .ok (.lconst 0, 1) := by decide +kernel
theorem dX7_sheet_83 : decode cX7_sheet 83 = .ok (.lastore, 1) := by decide +kernel
theorem dX7_sheet_84 : decode cX7_sheet 84 = .ok (.iinc 4 1, 3) := by decide +kernel
theorem dX7_sheet_87 : decode cX7_sheet 87 = .ok (.goto (-23), 3) := by decide +kernel
theorem dX7_sheet_90 : decode cX7_sheet 90 = .ok (.iconst 1, 1) := by decide +kernel
theorem dX7_sheet_91 : decode cX7_sheet 91 = .ok (.ireturn, 1) := by decide +kernel
theorem dX7_put_0 : decode cX7_put 0 = .ok (.iload_n 1, 1) := by decide +kernel
theorem dX7_put_1 : decode cX7_put 1 = .ok (.invokestatic 293, 3) := by decide +kernel
theorem dX7_put_4 : decode cX7_put 4 = .ok (.ifCond .ne 5, 3) := by decide +kernel
theorem dX7_put_7 : decode cX7_put 7 = .ok (.iconst (-1), 1) := by decide +kernel
theorem dX7_put_8 : decode cX7_put 8 = .ok (.ireturn, 1) := by decide +kernel
theorem dX7_put_9 : decode cX7_put 9 = .ok (.aload_n 0, 1) := by decide +kernel
theorem dX7_put_10 : decode cX7_put 10 = .ok (.getfield 34, 3) := by decide +kernel
theorem dX7_put_13 : decode cX7_put 13 = .ok (.iload_n 1, 1) := by decide +kernel
theorem dX7_put_14 : decode cX7_put 14 = .ok (.iaload, 1) := by decide +kernel
theorem dX7_put_15 : decode cX7_put 15 = .ok (.ifCond .ge 6, 3) := by decide +kernel
theorem dX7_put_18 : decode cX7_put 18 = .ok (.bipush (-11), 2) := by decide +kernel
theorem dX7_put_20 : decode cX7_put 20 = .ok (.ireturn, 1) := by decide +kernel
theorem dX7_put_21 : decode cX7_put 21 = .ok (.iload_n 2, 1) := by decide +kernel
theorem dX7_put_22 : decode cX7_put 22 = .ok (.iconst 0, 1) := by decide +kernel
theorem dX7_put_23 : decode cX7_put 23 = .ok (.aload_n 0, 1) := by decide +kernel
theorem dX7_put_24 : decode cX7_put 24 = .ok (.getfield 37, 3) := by decide +kernel
theorem dX7_put_27 : decode cX7_put 27 = .ok (.iload_n 1, 1) := by decide +kernel
theorem dX7_put_28 : decode cX7_put 28 = .ok (.iaload, 1) := by decide +kernel
theorem dX7_put_29 : decode cX7_put 29 = .ok (.iconst 1, 1) := by decide +kernel
theorem dX7_put_30 : decode cX7_put 30 = .ok (.isub, 1) := by decide +kernel
theorem dX7_put_31 : decode cX7_put 31 = .ok (.invokestatic 60, 3) := by decide +kernel
theorem dX7_put_34 : decode cX7_put 34 = .ok (.ifCond .ne 6, 3) := by decide +kernel
theorem dX7_put_37 : decode cX7_put 37 = .ok (.bipush (-12), 2) := by decide +kernel
theorem dX7_put_39 : decode cX7_put 39 = .ok (.ireturn, 1) := by decide +kernel
theorem dX7_put_40 : decode cX7_put 40 = .ok (.aload_n 0, 1) := by decide +kernel
theorem dX7_put_41 : decode cX7_put 41 = .ok (.getfield 40, 3) := by decide +kernel
theorem dX7_put_44 : decode cX7_put 44 = .ok (.bipush 40, 2) := by decide +kernel
theorem dX7_put_46 : decode cX7_put 46 = .ok (.iload_n 1, 1) := by decide +kernel
theorem dX7_put_47 : decode cX7_put 47 = .ok (.imul, 1) := by decide +kernel
theorem dX7_put_48 : decode cX7_put 48 = .ok (.iload_n 2, 1) := by decide +kernel
theorem dX7_put_49 : decode cX7_put 49 = .ok (.iadd, 1) := by decide +kernel
theorem dX7_put_50 : decode cX7_put 50 = .ok (.aload_n 0, 1) := by decide +kernel
theorem dX7_put_51 : decode cX7_put 51 = .ok (.getfield 34, 3) := by decide +kernel
theorem dX7_put_54 : decode cX7_put 54 = .ok (.iload_n 1, 1) := by decide +kernel
theorem dX7_put_55 : decode cX7_put 55 = .ok (.iaload, 1) := by decide +kernel
theorem dX7_put_56 : decode cX7_put 56 = .ok (.ifCond .ne 9, 3) := by decide +kernel
theorem dX7_put_59 : decode cX7_put 59 = .ok (.iload_n 3, 1) := by decide +kernel
theorem dX7_put_60 : decode cX7_put 60 = .ok (.i2b, 1) := by decide +kernel
theorem dX7_put_61 : decode cX7_put 61 = .ok (.i2l, 1) := by decide +kernel
theorem dX7_put_62 : decode cX7_put 62 = .ok (.goto 21, 3) := by decide +kernel
theorem dX7_put_65 : decode cX7_put 65 = .ok (.aload_n 0, 1) := by decide +kernel
theorem dX7_put_66 : decode cX7_put 66 = .ok (.getfield 34, 3) := by decide +kernel
theorem dX7_put_69 : decode cX7_put 69 = .ok (.iload_n 1, 1) := by decide +kernel
theorem dX7_put_70 : decode cX7_put 70 = .ok (.iaload, 1) := by decide +kernel
theorem dX7_put_71 : decode cX7_put 71 = .ok (.iconst 1, 1) := by decide +kernel
theorem dX7_put_72 : decode cX7_put 72 = .ok (.if_icmp .ne 9, 3) := by decide +kernel
theorem dX7_put_75 : decode cX7_put 75 = .ok (.iload_n 3, 1) := by decide +kernel
theorem dX7_put_76 : decode cX7_put 76 = .ok (.i2s, 1) := by decide +kernel
theorem dX7_put_77 : decode cX7_put 77 = .ok (.i2l, 1) := by decide +kernel
theorem dX7_put_78 : decode cX7_put 78 = .ok (.goto 5, 3) := by decide +kernel
theorem dX7_put_81 : decode cX7_put 81 = .ok (.iload_n 3, 1) := by decide +kernel
theorem dX7_put_82 : decode cX7_put 82 = .ok (.i2l, 1) := by decide +kernel
theorem dX7_put_83 : decode cX7_put 83 = .ok (.lastore, 1) := by decide +kernel
theorem dX7_put_84 : decode cX7_put 84 = .ok (.iconst 1, 1) := by decide +kernel
theorem dX7_put_85 : decode cX7_put 85 = .ok (.ireturn, 1) := by decide +kernel
theorem dX7_lacksSort_0 : decode cX7_lacksSort 0 = .ok (.aload_n 0, 1) := by decide +kernel
theorem dX7_lacksSort_1 : decode cX7_lacksSort 1 = .ok (.getfield 34, 3) := by decide +kernel
theorem dX7_lacksSort_4 : decode cX7_lacksSort 4 = .ok (.iload_n 1, 1) := by decide +kernel
theorem dX7_lacksSort_5 : decode cX7_lacksSort 5 = .ok (.iaload, 1) := by decide +kernel
theorem dX7_lacksSort_6 : decode cX7_lacksSort 6 = .ok (.ifCond .ge 8, 3) := by decide +kernel
theorem dX7_lacksSort_9 : decode cX7_lacksSort 9 = .ok (.bipush (-11), 2) := by decide +kernel
theorem dX7_lacksSort_11 : decode cX7_lacksSort 11 = .ok (.goto 19, 3) := by decide +kernel
theorem dX7_lacksSort_14 : decode cX7_lacksSort 14 = .ok (.aload_n 0, 1) := by decide +kernel
theorem dX7_lacksSort_15 : decode cX7_lacksSort 15 = .ok (.getfield 34, 3) := by decide +kernel
theorem dX7_lacksSort_18 : decode cX7_lacksSort 18 = .ok (.iload_n 1, 1) := by decide +kernel
theorem dX7_lacksSort_19 : decode cX7_lacksSort 19 = .ok (.iaload, 1) := by decide +kernel
theorem dX7_lacksSort_20 : decode cX7_lacksSort 20 = .ok (.iload_n 2, 1) := by decide +kernel
theorem dX7_lacksSort_21 : decode cX7_lacksSort 21 = .ok (.if_icmp .eq 8, 3) := by decide +kernel
theorem dX7_lacksSort_24 : decode cX7_lacksSort 24 = .ok (.bipush (-13), 2) := by decide +kernel
theorem dX7_lacksSort_26 : decode cX7_lacksSort 26 = .ok (.goto 4, 3) := by decide +kernel
theorem dX7_lacksSort_29 : decode cX7_lacksSort 29 = .ok (.iconst 0, 1) := by decide +kernel
theorem dX7_lacksSort_30 : decode cX7_lacksSort 30 = .ok (.ireturn, 1) := by decide +kernel
theorem dX7_item_0 : decode cX7_item 0 = .ok (.iload_n 1, 1) := by decide +kernel
theorem dX7_item_1 : decode cX7_item 1 = .ok (.invokestatic 293, 3) := by decide +kernel
theorem dX7_item_4 : decode cX7_item 4 = .ok (.ifCond .eq 12, 3) := by decide +kernel
theorem dX7_item_7 : decode cX7_item 7 = .ok (.iload_n 2, 1) := by decide +kernel
theorem dX7_item_8 : decode cX7_item 8 = .ok (.iconst 0, 1) := by decide +kernel
theorem dX7_item_9 : decode cX7_item 9 = .ok (.iconst 3, 1) := by decide +kernel
theorem dX7_item_10 : decode cX7_item 10 = .ok (.invokestatic 60, 3) := by decide +kernel
theorem dX7_item_13 : decode cX7_item 13 = .ok (.ifCond .ne 5, 3) := by decide +kernel
theorem dX7_item_16 : decode cX7_item 16 = .ok (.iconst (-1), 1) := by decide +kernel
theorem dX7_item_17 : decode cX7_item 17 = .ok (.ireturn, 1) := by decide +kernel
theorem dX7_item_18 : decode cX7_item 18 = .ok (.aload_n 0, 1) := by decide +kernel
theorem dX7_item_19 : decode cX7_item 19 = .ok (.iload_n 1, 1) := by decide +kernel
theorem dX7_item_20 : decode cX7_item 20 = .ok (.iload_n 2, 1) := by decide +kernel
theorem dX7_item_21 : decode cX7_item 21 = .ok (.invokevirtual 316, 3) := by decide +kernel
theorem dX7_item_24 : decode cX7_item 24 = .ok (.istore 4, 2) := by decide +kernel
theorem dX7_item_26 : decode cX7_item 26 = .ok (.iload 4, 2) := by decide +kernel
theorem dX7_item_28 : decode cX7_item 28 = .ok (.ifCond .eq 6, 3) := by decide +kernel
theorem dX7_item_31 : decode cX7_item 31 = .ok (.iload 4, 2) := by decide +kernel
theorem dX7_item_33 : decode cX7_item 33 = .ok (.ireturn, 1) := by decide +kernel
theorem dX7_item_34 : decode cX7_item 34 = .ok (.iload_n 3, 1) := by decide +kernel
theorem dX7_item_35 : decode cX7_item 35 = .ok (.iconst 0, 1) := by decide +kernel
theorem dX7_item_36 : decode cX7_item 36 = .ok (.aload_n 0, 1) := by decide +kernel
theorem dX7_item_37 : decode cX7_item 37 = .ok (.getfield 37, 3) := by decide +kernel
theorem dX7_item_40 : decode cX7_item 40 = .ok (.iload_n 1, 1) := by decide +kernel
theorem dX7_item_41 : decode cX7_item 41 = .ok (.iaload, 1) := by decide +kernel
theorem dX7_item_42 : decode cX7_item 42 = .ok (.iconst 1, 1) := by decide +kernel
theorem dX7_item_43 : decode cX7_item 43 = .ok (.isub, 1) := by decide +kernel
theorem dX7_item_44 : decode cX7_item 44 = .ok (.invokestatic 60, 3) := by decide +kernel
theorem dX7_item_47 : decode cX7_item 47 = .ok (.ifCond .eq 18, 3) := by decide +kernel
theorem dX7_item_50 : decode cX7_item 50 = .ok (.aload_n 0, 1) := by decide +kernel
theorem dX7_item_51 : decode cX7_item 51 = .ok (.getfield 40, 3) := by decide +kernel
theorem dX7_item_54 : decode cX7_item 54 = .ok (.bipush 40, 2) := by decide +kernel
theorem dX7_item_56 : decode cX7_item 56 = .ok (.iload_n 1, 1) := by decide +kernel
theorem dX7_item_57 : decode cX7_item 57 = .ok (.imul, 1) := by decide +kernel
theorem dX7_item_58 : decode cX7_item 58 = .ok (.iload_n 3, 1) := by decide +kernel
theorem dX7_item_59 : decode cX7_item 59 = .ok (.iadd, 1) := by decide +kernel
theorem dX7_item_60 : decode cX7_item 60 = .ok (.laload, 1) := by decide +kernel
theorem dX7_item_61 : decode cX7_item 61 = .ok (.l2i, 1) := by decide +kernel
theorem dX7_item_62 : decode cX7_item 62 = .ok (.goto 5, 3) := by decide +kernel
theorem dX7_item_65 : decode cX7_item 65 = .ok (.bipush (-12), 2) := by decide +kernel
theorem dX7_item_67 : decode cX7_item 67 = .ok (.ireturn, 1) := by decide +kernel
theorem dX7_isHeld_0 : decode cX7_isHeld 0 = .ok (.iload_n 1, 1) := by decide +kernel
theorem dX7_isHeld_1 : decode cX7_isHeld 1 = .ok (.ifCond .ne 11, 3) := by decide +kernel
theorem dX7_isHeld_4 : decode cX7_isHeld 4 = .ok (.aload_n 0, 1) := by decide +kernel
theorem dX7_isHeld_5 : decode cX7_isHeld 5 = .ok (.iload_n 2, 1) := by decide +kernel
theorem dX7_isHeld_6 : decode cX7_isHeld 6 = .ok (.invokevirtual 220, 3) := by decide +kernel
theorem dX7_isHeld_9 : decode cX7_isHeld 9 = .ok (.goto 25, 3) := by decide +kernel
theorem dX7_isHeld_12 : decode cX7_isHeld 12 = .ok (.iload_n 1, 1) := by decide +kernel
theorem dX7_isHeld_13 : decode cX7_isHeld 13 = .ok (.iconst 1, 1) := by decide +kernel
theorem dX7_isHeld_14 : decode cX7_isHeld 14 = .ok (.if_icmp .ne 10, 3) := by decide +kernel
theorem dX7_isHeld_17 : decode cX7_isHeld 17 = .ok (.iload_n 2, 1) := by decide +kernel
theorem dX7_isHeld_18 : decode cX7_isHeld 18 = .ok (.invokestatic 293, 3) := by decide +kernel
theorem dX7_isHeld_21 : decode cX7_isHeld 21 = .ok (.goto 13, 3) := by decide +kernel
theorem dX7_isHeld_24 : decode cX7_isHeld 24 = .ok (.iload_n 1, 1) := by decide +kernel
theorem dX7_isHeld_25 : decode cX7_isHeld 25 = .ok (.iconst 2, 1) := by decide +kernel
theorem dX7_isHeld_26 : decode cX7_isHeld 26 = .ok (.if_icmp .ne 7, 3) := by decide +kernel
theorem dX7_isHeld_29 : decode cX7_isHeld 29 = .ok (.iconst 1, 1) := by decide +kernel
theorem dX7_isHeld_30 : decode cX7_isHeld 30 = .ok (.goto 4, 3) := by decide +kernel
theorem dX7_isHeld_33 : decode cX7_isHeld 33 = .ok (.iconst 0, 1) := by decide +kernel
theorem dX7_isHeld_34 : decode cX7_isHeld 34 = .ok (.ireturn, 1) := by decide +kernel
theorem dX7_shelf_0 : decode cX7_shelf 0 = .ok (.iload_n 1, 1) := by decide +kernel
theorem dX7_shelf_1 : decode cX7_shelf 1 = .ok (.invokestatic 293, 3) := by decide +kernel
theorem dX7_shelf_4 : decode cX7_shelf 4 = .ok (.ifCond .eq 12, 3) := by decide +kernel
theorem dX7_shelf_7 : decode cX7_shelf 7 = .ok (.aload_n 0, 1) := by decide +kernel
theorem dX7_shelf_8 : decode cX7_shelf 8 = .ok (.iload_n 2, 1) := by decide +kernel
theorem dX7_shelf_9 : decode cX7_shelf 9 = .ok (.iload_n 3, 1) := by decide +kernel
theorem dX7_shelf_10 : decode cX7_shelf 10 = .ok (.invokevirtual 322, 3) := by decide +kernel
theorem dX7_shelf_13 : decode cX7_shelf 13 = .ok (.ifCond .ne 5, 3) := by decide +kernel
theorem dX7_shelf_16 : decode cX7_shelf 16 = .ok (.iconst (-1), 1) := by decide +kernel
theorem dX7_shelf_17 : decode cX7_shelf 17 = .ok (.ireturn, 1) := by decide +kernel
theorem dX7_shelf_18 : decode cX7_shelf 18 = .ok (.aload_n 0, 1) := by decide +kernel
theorem dX7_shelf_19 : decode cX7_shelf 19 = .ok (.getfield 44, 3) := by decide +kernel
theorem dX7_shelf_22 : decode cX7_shelf 22 = .ok (.iload_n 1, 1) := by decide +kernel
theorem dX7_shelf_23 : decode cX7_shelf 23 = .ok (.iload_n 2, 1) := by decide +kernel
theorem dX7_shelf_24 : decode cX7_shelf 24 = .ok (.iconst 2, 1) := by decide +kernel
theorem dX7_shelf_25 : decode cX7_shelf 25 = .ok (.if_icmp .eq 17, 3) := by decide +kernel
theorem dX7_shelf_28 : decode cX7_shelf 28 = .ok (.iload_n 2, 1) := by decide +kernel
theorem dX7_shelf_29 : decode cX7_shelf 29 = .ok (.iconst 1, 1) := by decide +kernel
theorem dX7_shelf_30 : decode cX7_shelf 30 = .ok (.if_icmp .ne 16, 3) := by decide +kernel
theorem dX7_shelf_33 : decode cX7_shelf 33 = .ok (.aload_n 0, 1) := by decide +kernel
theorem dX7_shelf_34 : decode cX7_shelf 34 = .ok (.getfield 34, 3) := by decide +kernel
theorem dX7_shelf_37 : decode cX7_shelf 37 = .ok (.iload_n 3, 1) := by decide +kernel
theorem dX7_shelf_38 : decode cX7_shelf 38 = .ok (.iaload, 1) := by decide +kernel
theorem dX7_shelf_39 : decode cX7_shelf 39 = .ok (.ifCond .ge 7, 3) := by decide +kernel
theorem dX7_shelf_42 : decode cX7_shelf 42 = .ok (.iconst (-1), 1) := by decide +kernel
theorem dX7_shelf_43 : decode cX7_shelf 43 = .ok (.goto 4, 3) := by decide +kernel
theorem dX7_shelf_46 : decode cX7_shelf 46 = .ok (.iload_n 2, 1) := by decide +kernel
theorem dX7_shelf_47 : decode cX7_shelf 47 = .ok (.iastore, 1) := by decide +kernel
theorem dX7_shelf_48 : decode cX7_shelf 48 = .ok (.aload_n 0, 1) := by decide +kernel
theorem dX7_shelf_49 : decode cX7_shelf 49 = .ok (.getfield 47, 3) := by decide +kernel
theorem dX7_shelf_52 : decode cX7_shelf 52 = .ok (.iload_n 1, 1) := by decide +kernel
theorem dX7_shelf_53 : decode cX7_shelf 53 = .ok (.iload_n 2, 1) := by decide +kernel
theorem dX7_shelf_54 : decode cX7_shelf 54 = .ok (.iconst 1, 1) := by decide +kernel
theorem dX7_shelf_55 : decode cX7_shelf 55 = .ok (.if_icmp .ne 12, 3) := by decide +kernel
theorem dX7_shelf_58 : decode cX7_shelf 58 = .ok (.aload_n 0, 1) := by decide +kernel
theorem dX7_shelf_59 : decode cX7_shelf 59 = .ok (.getfield 34, 3) := by decide +kernel
theorem dX7_shelf_62 : decode cX7_shelf 62 = .ok (.iload_n 3, 1) := by decide +kernel
theorem dX7_shelf_63 : decode cX7_shelf 63 = .ok (.iaload, 1) := by decide +kernel
theorem dX7_shelf_64 : decode cX7_shelf 64 = .ok (.goto 4, 3) := by decide +kernel
theorem dX7_shelf_67 : decode cX7_shelf 67 = .ok (.iload_n 3, 1) := by decide +kernel
theorem dX7_shelf_68 : decode cX7_shelf 68 = .ok (.iastore, 1) := by decide +kernel
theorem dX7_shelf_69 : decode cX7_shelf 69 = .ok (.aload_n 0, 1) := by decide +kernel
theorem dX7_shelf_70 : decode cX7_shelf 70 = .ok (.getfield 50, 3) := by decide +kernel
theorem dX7_shelf_73 : decode cX7_shelf 73 = .ok (.iload_n 1, 1) := by decide +kernel
theorem dX7_shelf_74 : decode cX7_shelf 74 = .ok (.iload_n 2, 1) := by decide +kernel
theorem dX7_shelf_75 : decode cX7_shelf 75 = .ok (.iconst 1, 1) := by decide +kernel
theorem dX7_shelf_76 : decode cX7_shelf 76 = .ok (.if_icmp .ne 12, 3) := by decide +kernel
theorem dX7_shelf_79 : decode cX7_shelf 79 = .ok (.aload_n 0, 1) := by decide +kernel
theorem dX7_shelf_80 : decode cX7_shelf 80 = .ok (.getfield 37, 3) := by decide +kernel
theorem dX7_shelf_83 : decode cX7_shelf 83 = .ok (.iload_n 3, 1) := by decide +kernel
theorem dX7_shelf_84 : decode cX7_shelf 84 = .ok (.iaload, 1) := by decide +kernel
theorem dX7_shelf_85 : decode cX7_shelf 85 = .ok (.goto 4, 3) := by decide +kernel
theorem dX7_shelf_88 : decode cX7_shelf 88 = .ok (.iconst 0, 1) := by decide +kernel
theorem dX7_shelf_89 : decode cX7_shelf 89 = .ok (.iastore, 1) := by decide +kernel
theorem dX7_shelf_90 : decode cX7_shelf 90 = .ok (.iconst 1, 1) := by decide +kernel
theorem dX7_shelf_91 : decode cX7_shelf 91 = .ok (.ireturn, 1) := by decide +kernel
theorem dX7_kindOn_0 : decode cX7_kindOn 0 = .ok (.aload_n 0, 1) := by decide +kernel
theorem dX7_kindOn_1 : decode cX7_kindOn 1 = .ok (.getfield 44, 3) := by decide +kernel
theorem dX7_kindOn_4 : decode cX7_kindOn 4 = .ok (.iload_n 1, 1) := by decide +kernel
theorem dX7_kindOn_5 : decode cX7_kindOn 5 = .ok (.iaload, 1) := by decide +kernel
theorem dX7_kindOn_6 : decode cX7_kindOn 6 = .ok (.ifCond .eq 19, 3) := by decide +kernel
theorem dX7_kindOn_9 : decode cX7_kindOn 9 = .ok (.aload_n 0, 1) := by decide +kernel
theorem dX7_kindOn_10 : decode cX7_kindOn 10 = .ok (.getfield 44, 3) := by decide +kernel
theorem dX7_kindOn_13 : decode cX7_kindOn 13 = .ok (.iload_n 1, 1) := by decide +kernel
theorem dX7_kindOn_14 : decode cX7_kindOn 14 = .ok (.iaload, 1) := by decide +kernel
theorem dX7_kindOn_15 : decode cX7_kindOn 15 = .ok (.ifCond .ge 7, 3) := by decide +kernel
theorem dX7_kindOn_18 : decode cX7_kindOn 18 = .ok (.iconst (-1), 1) := by decide +kernel
theorem dX7_kindOn_19 : decode cX7_kindOn 19 = .ok (.goto 5, 3) := by decide +kernel
theorem dX7_kindOn_22 : decode cX7_kindOn 22 = .ok (.bipush 9, 2) := by decide +kernel
theorem dX7_kindOn_24 : decode cX7_kindOn 24 = .ok (.ireturn, 1) := by decide +kernel
theorem dX7_kindOn_25 : decode cX7_kindOn 25 = .ok (.aload_n 0, 1) := by decide +kernel
theorem dX7_kindOn_26 : decode cX7_kindOn 26 = .ok (.aload_n 0, 1) := by decide +kernel
theorem dX7_kindOn_27 : decode cX7_kindOn 27 = .ok (.getfield 47, 3) := by decide +kernel
theorem dX7_kindOn_30 : decode cX7_kindOn 30 = .ok (.iload_n 1, 1) := by decide +kernel
theorem dX7_kindOn_31 : decode cX7_kindOn 31 = .ok (.iaload, 1) := by decide +kernel
theorem dX7_kindOn_32 : decode cX7_kindOn 32 = .ok (.invokevirtual 220, 3) := by decide +kernel
theorem dX7_kindOn_35 : decode cX7_kindOn 35 = .ok (.ifCond .eq 17, 3) := by decide +kernel
theorem dX7_kindOn_38 : decode cX7_kindOn 38 = .ok (.aload_n 0, 1) := by decide +kernel
theorem dX7_kindOn_39 : decode cX7_kindOn 39 = .ok (.aload_n 0, 1) := by decide +kernel
theorem dX7_kindOn_40 : decode cX7_kindOn 40 = .ok (.getfield 47, 3) := by decide +kernel
theorem dX7_kindOn_43 : decode cX7_kindOn 43 = .ok (.iload_n 1, 1) := by decide +kernel
theorem dX7_kindOn_44 : decode cX7_kindOn 44 = .ok (.iaload, 1) := by decide +kernel
theorem dX7_kindOn_45 : decode cX7_kindOn 45 = .ok (.iconst 0, 1) := by decide +kernel
theorem dX7_kindOn_46 : decode cX7_kindOn 46 = .ok (.invokevirtual 217, 3) := by decide +kernel
theorem dX7_kindOn_49 : decode cX7_kindOn 49 = .ok (.goto 4, 3) := by decide +kernel
theorem dX7_kindOn_52 : decode cX7_kindOn 52 = .ok (.iconst (-1), 1) := by decide +kernel
theorem dX7_kindOn_53 : decode cX7_kindOn 53 = .ok (.ireturn, 1) := by decide +kernel
theorem dX7_isUnder_0 : decode cX7_isUnder 0 = .ok (.iload_n 1, 1) := by decide +kernel
theorem dX7_isUnder_1 : decode cX7_isUnder 1 = .ok (.ifCond .eq 28, 3) := by decide +kernel
theorem dX7_isUnder_4 : decode cX7_isUnder 4 = .ok (.iload_n 1, 1) := by decide +kernel
theorem dX7_isUnder_5 : decode cX7_isUnder 5 = .ok (.iload_n 0, 1) := by decide +kernel
theorem dX7_isUnder_6 : decode cX7_isUnder 6 = .ok (.if_icmp .eq 23, 3) := by decide +kernel
theorem dX7_isUnder_9 : decode cX7_isUnder 9 = .ok (.iload_n 1, 1) := by decide +kernel
theorem dX7_isUnder_10 : decode cX7_isUnder 10 = .ok (.iconst 1, 1) := by decide +kernel
theorem dX7_isUnder_11 : decode cX7_isUnder 11 = .ok (.if_icmp .ne 8, 3) := by decide +kernel
theorem dX7_isUnder_14 : decode cX7_isUnder 14 = .ok (.iload_n 0, 1) := by decide +kernel
theorem dX7_isUnder_15 : decode cX7_isUnder 15 = .ok (.iconst 3, 1) := by decide +kernel
theorem dX7_isUnder_16 : decode cX7_isUnder 16 = .ok (.if_icmp .eq 13, 3) := by decide +kernel
theorem dX7_isUnder_19 : decode cX7_isUnder 19 = .ok (.iload_n 1, 1) := by decide +kernel
theorem dX7_isUnder_20 : decode cX7_isUnder 20 = .ok (.iconst 2, 1) := by decide +kernel
theorem dX7_isUnder_21 : decode cX7_isUnder 21 = .ok (.if_icmp .ne 12, 3) := by decide +kernel
theorem dX7_isUnder_24 : decode cX7_isUnder 24 = .ok (.iload_n 0, 1) := by decide +kernel
theorem dX7_isUnder_25 : decode cX7_isUnder 25 = .ok (.iconst 4, 1) := by decide +kernel
theorem dX7_isUnder_26 : decode cX7_isUnder 26 = .ok (.if_icmp .ne 7, 3) := by decide +kernel
theorem dX7_isUnder_29 : decode cX7_isUnder 29 = .ok (.iconst 1, 1) := by decide +kernel
theorem dX7_isUnder_30 : decode cX7_isUnder 30 = .ok (.goto 4, 3) := by decide +kernel
theorem dX7_isUnder_33 : decode cX7_isUnder 33 = .ok (.iconst 0, 1) := by decide +kernel
theorem dX7_isUnder_34 : decode cX7_isUnder 34 = .ok (.ireturn, 1) := by decide +kernel
theorem dX7_taken_0 : decode cX7_taken 0 = .ok (.iload_n 1, 1) := by decide +kernel
theorem dX7_taken_1 : decode cX7_taken 1 = .ok (.invokestatic 293, 3) := by decide +kernel
theorem dX7_taken_4 : decode cX7_taken 4 = .ok (.ifCond .eq 23, 3) := by decide +kernel
theorem dX7_taken_7 : decode cX7_taken 7 = .ok (.iload_n 2, 1) := by decide +kernel
theorem dX7_taken_8 : decode cX7_taken 8 = .ok (.iconst 0, 1) := by decide +kernel
theorem dX7_taken_9 : decode cX7_taken 9 = .ok (.iconst 5, 1) := by decide +kernel
theorem dX7_taken_10 : decode cX7_taken 10 = .ok (.invokestatic 60, 3) := by decide +kernel
theorem dX7_taken_13 : decode cX7_taken 13 = .ok (.ifCond .ne 16, 3) := by decide +kernel
theorem dX7_taken_16 : decode cX7_taken 16 = .ok (.iload_n 2, 1) := by decide +kernel
theorem dX7_taken_17 : decode cX7_taken 17 = .ok (.bipush 10, 2) := by decide +kernel
theorem dX7_taken_19 : decode cX7_taken 19 = .ok (.bipush 13, 2) := by decide +kernel
theorem dX7_taken_21 : decode cX7_taken 21 = .ok (.invokestatic 60, 3) := by decide +kernel
theorem dX7_taken_24 : decode cX7_taken 24 = .ok (.ifCond .ne 5, 3) := by decide +kernel
theorem dX7_taken_27 : decode cX7_taken 27 = .ok (.iconst (-1), 1) := by decide +kernel
theorem dX7_taken_28 : decode cX7_taken 28 = .ok (.ireturn, 1) := by decide +kernel
theorem dX7_taken_29 : decode cX7_taken 29 = .ok (.aload_n 0, 1) := by decide +kernel
theorem dX7_taken_30 : decode cX7_taken 30 = .ok (.iload_n 1, 1) := by decide +kernel
theorem dX7_taken_31 : decode cX7_taken 31 = .ok (.invokevirtual 325, 3) := by decide +kernel
theorem dX7_taken_34 : decode cX7_taken 34 = .ok (.istore_n 3, 1) := by decide +kernel
theorem dX7_taken_35 : decode cX7_taken 35 = .ok (.iload_n 3, 1) := by decide +kernel
theorem dX7_taken_36 : decode cX7_taken 36 = .ok (.ifCond .ge 6, 3) := by decide +kernel
theorem dX7_taken_39 : decode cX7_taken 39 = .ok (.bipush (-11), 2) := by decide +kernel
theorem dX7_taken_41 : decode cX7_taken 41 = .ok (.ireturn, 1) := by decide +kernel
theorem dX7_taken_42 : decode cX7_taken 42 = .ok (.iload_n 3, 1) := by decide +kernel
theorem dX7_taken_43 : decode cX7_taken 43 = .ok (.bipush 9, 2) := by decide +kernel
theorem dX7_taken_45 : decode cX7_taken 45 = .ok (.if_icmp .ne 28, 3) := by decide +kernel
theorem dX7_taken_48 : decode cX7_taken 48 = .ok (.iload_n 2, 1) := by decide +kernel
theorem dX7_taken_49 : decode cX7_taken 49 = .ok (.bipush 10, 2) := by decide +kernel
theorem dX7_taken_51 : decode cX7_taken 51 = .ok (.aload_n 0, 1) := by decide +kernel
theorem dX7_taken_52 : decode cX7_taken 52 = .ok (.getfield 47, 3) := by decide +kernel
theorem dX7_taken_55 : decode cX7_taken 55 = .ok (.iload_n 1, 1) := by decide +kernel
theorem dX7_taken_56 : decode cX7_taken 56 = .ok (.iaload, 1) := by decide +kernel
theorem dX7_taken_57 : decode cX7_taken 57 = .ok (.iadd, 1) := by decide +kernel
theorem dX7_taken_58 : decode cX7_taken 58 = .ok (.if_icmp .ne 12, 3) := by decide +kernel
theorem dX7_taken_61 : decode cX7_taken 61 = .ok (.aload_n 0, 1) := by decide +kernel
theorem dX7_taken_62 : decode cX7_taken 62 = .ok (.getfield 50, 3) := by decide +kernel
theorem dX7_taken_65 : decode cX7_taken 65 = .ok (.iload_n 1, 1) := by decide +kernel
theorem dX7_taken_66 : decode cX7_taken 66 = .ok (.iaload, 1) := by decide +kernel
theorem dX7_taken_67 : decode cX7_taken 67 = .ok (.goto 5, 3) := by decide +kernel
theorem dX7_taken_70 : decode cX7_taken 70 = .ok (.bipush (-13), 2) := by decide +kernel
theorem dX7_taken_72 : decode cX7_taken 72 = .ok (.ireturn, 1) := by decide +kernel
theorem dX7_taken_73 : decode cX7_taken 73 = .ok (.iload_n 2, 1) := by decide +kernel
theorem dX7_taken_74 : decode cX7_taken 74 = .ok (.bipush 10, 2) := by decide +kernel
theorem dX7_taken_76 : decode cX7_taken 76 = .ok (.if_icmp .ge 20, 3) := by decide +kernel
theorem dX7_taken_79 : decode cX7_taken 79 = .ok (.iload_n 3, 1) := by decide +kernel
theorem dX7_taken_80 : decode cX7_taken 80 = .ok (.iload_n 2, 1) := by decide +kernel
theorem dX7_taken_81 : decode cX7_taken 81 = .ok (.invokestatic 328, 3) := by decide +kernel
theorem dX7_taken_84 : decode cX7_taken 84 = .ok (.ifCond .eq 12, 3) := by decide +kernel
theorem dX7_taken_87 : decode cX7_taken 87 = .ok (.aload_n 0, 1) := by decide +kernel
theorem dX7_taken_88 : decode cX7_taken 88 = .ok (.getfield 47, 3) := by decide +kernel
theorem dX7_taken_91 : decode cX7_taken 91 = .ok (.iload_n 1, 1) := by decide +kernel
theorem dX7_taken_92 : decode cX7_taken 92 = .ok (.iaload, 1) := by decide +kernel
theorem dX7_taken_93 : decode cX7_taken 93 = .ok (.goto 5, 3) := by decide +kernel
theorem dX7_taken_96 : decode cX7_taken 96 = .ok (.bipush (-13), 2) := by decide +kernel
theorem dX7_taken_98 : decode cX7_taken 98 = .ok (.ireturn, 1) := by decide +kernel
theorem dX7_ran_0 : decode cX7_ran 0 = .ok (.aload_n 0, 1) := by decide +kernel
theorem dX7_ran_1 : decode cX7_ran 1 = .ok (.getfield 331, 3) := by decide +kernel
theorem dX7_ran_4 : decode cX7_ran 4 = .ok (.bipush 30, 2) := by decide +kernel
theorem dX7_ran_6 : decode cX7_ran 6 = .ok (.if_icmp .ge 23, 3) := by decide +kernel
theorem dX7_ran_9 : decode cX7_ran 9 = .ok (.aload_n 0, 1) := by decide +kernel
theorem dX7_ran_10 : decode cX7_ran 10 = .ok (.getfield 53, 3) := by decide +kernel
theorem dX7_ran_13 : decode cX7_ran 13 = .ok (.aload_n 0, 1) := by decide +kernel
theorem dX7_ran_14 : decode cX7_ran 14 = .ok (.getfield 331, 3) := by decide +kernel
theorem dX7_ran_17 : decode cX7_ran 17 = .ok (.iload_n 1, 1) := by decide +kernel
theorem dX7_ran_18 : decode cX7_ran 18 = .ok (.iastore, 1) := by decide +kernel
theorem dX7_ran_19 : decode cX7_ran 19 = .ok (.aload_n 0, 1) := by decide +kernel
theorem dX7_ran_20 : decode cX7_ran 20 = .ok (.dup, 1) := by decide +kernel
theorem dX7_ran_21 : decode cX7_ran 21 = .ok (.getfield 331, 3) := by decide +kernel
theorem dX7_ran_24 : decode cX7_ran 24 = .ok (.iconst 1, 1) := by decide +kernel
theorem dX7_ran_25 : decode cX7_ran 25 = .ok (.iadd, 1) := by decide +kernel
theorem dX7_ran_26 : decode cX7_ran 26 = .ok (.putfield 331, 3) := by decide +kernel
theorem dX7_ran_29 : decode cX7_ran 29 = .ok (.return_, 1) := by decide +kernel
theorem dX7_plainHooks_0 : decode cX7_plainHooks 0 = .ok (.aload_n 0, 1) := by decide +kernel
theorem dX7_plainHooks_1 : decode cX7_plainHooks 1 = .ok (.bipush 10, 2) := by decide +kernel
theorem dX7_plainHooks_3 : decode cX7_plainHooks 3 = .ok (.invokevirtual 334, 3) := by decide +kernel
theorem dX7_plainHooks_6 : decode cX7_plainHooks 6 = .ok (.iload_n 1, 1) := by decide +kernel
theorem dX7_plainHooks_7 : decode cX7_plainHooks 7 = .ok (.bipush 7, 2) := by decide +kernel
theorem dX7_plainHooks_9 : decode cX7_plainHooks 9 = .ok (.imul, 1) := by decide +kernel
theorem dX7_plainHooks_10 : decode cX7_plainHooks 10 = .ok (.aload_n 0, 1) := by decide +kernel
theorem dX7_plainHooks_11 : decode cX7_plainHooks 11 = .ok (.getfield 337, 3) := by decide +kernel
theorem dX7_plainHooks_14 : decode cX7_plainHooks 14 = .ok (.isub, 1) := by decide +kernel
theorem dX7_plainHooks_15 : decode cX7_plainHooks 15 = .ok (.ireturn, 1) := by decide +kernel
theorem dX7_burglarHooks_0 : decode cX7_burglarHooks 0 = .ok (.aload_n 0, 1) := by decide +kernel
theorem dX7_burglarHooks_1 : decode cX7_burglarHooks 1 = .ok (.bipush 30, 2) := by decide +kernel
theorem dX7_burglarHooks_3 : decode cX7_burglarHooks 3 = .ok (.invokevirtual 334, 3) := by decide +kernel
theorem dX7_burglarHooks_6 : decode cX7_burglarHooks 6 = .ok (.aload_n 0, 1) := by decide +kernel
theorem dX7_burglarHooks_7 : decode cX7_burglarHooks 7 = .ok (.iload_n 1, 1) := by decide +kernel
theorem dX7_burglarHooks_8 : decode cX7_burglarHooks 8 = .ok (.invokevirtual 340, 3) := by decide +kernel
theorem dX7_burglarHooks_11 : decode cX7_burglarHooks 11 = .ok (.ineg, 1) := by decide +kernel
theorem dX7_burglarHooks_12 : decode cX7_burglarHooks 12 = .ok (.ireturn, 1) := by decide +kernel
theorem dX7_hooksIt_0 : decode cX7_hooksIt 0 = .ok (.aload_n 0, 1) := by decide +kernel
theorem dX7_hooksIt_1 : decode cX7_hooksIt 1 = .ok (.getfield 343, 3) := by decide +kernel
theorem dX7_hooksIt_4 : decode cX7_hooksIt 4 = .ok (.tableswitch 63 2 4 #[28, 49, 34], 28) := by decide +kernel
theorem dX7_hooksIt_32 : decode cX7_hooksIt 32 = .ok (.aload_n 0, 1) := by decide +kernel
theorem dX7_hooksIt_33 : decode cX7_hooksIt 33 = .ok (.iload_n 1, 1) := by decide +kernel
theorem dX7_hooksIt_34 : decode cX7_hooksIt 34 = .ok (.invokevirtual 346, 3) := by decide +kernel
theorem dX7_hooksIt_37 : decode cX7_hooksIt 37 = .ok (.ireturn, 1) := by decide +kernel
theorem dX7_hooksIt_38 : decode cX7_hooksIt 38 = .ok (.aload_n 0, 1) := by decide +kernel
theorem dX7_hooksIt_39 : decode cX7_hooksIt 39 = .ok (.bipush 40, 2) := by decide +kernel
theorem dX7_hooksIt_41 : decode cX7_hooksIt 41 = .ok (.invokevirtual 334, 3) := by decide +kernel
theorem dX7_hooksIt_44 : decode cX7_hooksIt 44 = .ok (.aload_n 0, 1) := by decide +kernel
theorem dX7_hooksIt_45 : decode cX7_hooksIt 45 = .ok (.iload_n 1, 1) := by decide +kernel
theorem dX7_hooksIt_46 : decode cX7_hooksIt 46 = .ok (.invokevirtual 346, 3) := by decide +kernel
theorem dX7_hooksIt_49 : decode cX7_hooksIt 49 = .ok (.bipush 8, 2) := by decide +kernel
theorem dX7_hooksIt_51 : decode cX7_hooksIt 51 = .ok (.ixor, 1) := by decide +kernel
theorem dX7_hooksIt_52 : decode cX7_hooksIt 52 = .ok (.ireturn, 1) := by decide +kernel
theorem dX7_hooksIt_53 : decode cX7_hooksIt 53 = .ok (.aload_n 0, 1) := by decide +kernel
theorem dX7_hooksIt_54 : decode cX7_hooksIt 54 = .ok (.bipush 51, 2) := by decide +kernel
theorem dX7_hooksIt_56 : decode cX7_hooksIt 56 = .ok (.invokevirtual 334, 3) := by decide +kernel
theorem dX7_hooksIt_59 : decode cX7_hooksIt 59 = .ok (.aload_n 0, 1) := by decide +kernel
theorem dX7_hooksIt_60 : decode cX7_hooksIt 60 = .ok (.iload_n 1, 1) := by decide +kernel
theorem dX7_hooksIt_61 : decode cX7_hooksIt 61 = .ok (.invokevirtual 340, 3) := by decide +kernel
theorem dX7_hooksIt_64 : decode cX7_hooksIt 64 = .ok (.iconst 1, 1) := by decide +kernel
theorem dX7_hooksIt_65 : decode cX7_hooksIt 65 = .ok (.iadd, 1) := by decide +kernel
theorem dX7_hooksIt_66 : decode cX7_hooksIt 66 = .ok (.ireturn, 1) := by decide +kernel
theorem dX7_hooksIt_67 : decode cX7_hooksIt 67 = .ok (.aload_n 0, 1) := by decide +kernel
theorem dX7_hooksIt_68 : decode cX7_hooksIt 68 = .ok (.iload_n 1, 1) := by decide +kernel
theorem dX7_hooksIt_69 : decode cX7_hooksIt 69 = .ok (.invokevirtual 340, 3) := by decide +kernel
theorem dX7_hooksIt_72 : decode cX7_hooksIt 72 = .ok (.ireturn, 1) := by decide +kernel
theorem dX7_plainLeans_0 : decode cX7_plainLeans 0 = .ok (.aload_n 0, 1) := by decide +kernel
theorem dX7_plainLeans_1 : decode cX7_plainLeans 1 = .ok (.bipush 11, 2) := by decide +kernel
theorem dX7_plainLeans_3 : decode cX7_plainLeans 3 = .ok (.invokevirtual 334, 3) := by decide +kernel
theorem dX7_plainLeans_6 : decode cX7_plainLeans 6 = .ok (.aload_n 0, 1) := by decide +kernel
theorem dX7_plainLeans_7 : decode cX7_plainLeans 7 = .ok (.iload_n 1, 1) := by decide +kernel
theorem dX7_plainLeans_8 : decode cX7_plainLeans 8 = .ok (.invokevirtual 349, 3) := by decide +kernel
theorem dX7_plainLeans_11 : decode cX7_plainLeans 11 = .ok (.aload_n 0, 1) := by decide +kernel
theorem dX7_plainLeans_12 : decode cX7_plainLeans 12 = .ok (.getfield 352, 3) := by decide +kernel
theorem dX7_plainLeans_15 : decode cX7_plainLeans 15 = .ok (.iadd, 1) := by decide +kernel
theorem dX7_plainLeans_16 : decode cX7_plainLeans 16 = .ok (.ireturn, 1) := by decide +kernel
theorem dX7_leansIt_0 : decode cX7_leansIt 0 = .ok (.aload_n 0, 1) := by decide +kernel
theorem dX7_leansIt_1 : decode cX7_leansIt 1 = .ok (.getfield 343, 3) := by decide +kernel
theorem dX7_leansIt_4 : decode cX7_leansIt 4 = .ok (.iconst 1, 1) := by decide +kernel
theorem dX7_leansIt_5 : decode cX7_leansIt 5 = .ok (.if_icmp .eq 11, 3) := by decide +kernel
theorem dX7_leansIt_8 : decode cX7_leansIt 8 = .ok (.aload_n 0, 1) := by decide +kernel
theorem dX7_leansIt_9 : decode cX7_leansIt 9 = .ok (.getfield 343, 3) := by decide +kernel
theorem dX7_leansIt_12 : decode cX7_leansIt 12 = .ok (.iconst 3, 1) := by decide +kernel
theorem dX7_leansIt_13 : decode cX7_leansIt 13 = .ok (.if_icmp .ne 17, 3) := by decide +kernel
theorem dX7_leansIt_16 : decode cX7_leansIt 16 = .ok (.aload_n 0, 1) := by decide +kernel
theorem dX7_leansIt_17 : decode cX7_leansIt 17 = .ok (.bipush 20, 2) := by decide +kernel
theorem dX7_leansIt_19 : decode cX7_leansIt 19 = .ok (.invokevirtual 334, 3) := by decide +kernel
theorem dX7_leansIt_22 : decode cX7_leansIt 22 = .ok (.aload_n 0, 1) := by decide +kernel
theorem dX7_leansIt_23 : decode cX7_leansIt 23 = .ok (.iload_n 1, 1) := by decide +kernel
theorem dX7_leansIt_24 : decode cX7_leansIt 24 = .ok (.invokevirtual 355, 3) := by decide +kernel
theorem dX7_leansIt_27 : decode cX7_leansIt 27 = .ok (.iconst 3, 1) := by decide +kernel
theorem dX7_leansIt_28 : decode cX7_leansIt 28 = .ok (.isub, 1) := by decide +kernel
theorem dX7_leansIt_29 : decode cX7_leansIt 29 = .ok (.ireturn, 1) := by decide +kernel
theorem dX7_leansIt_30 : decode cX7_leansIt 30 = .ok (.aload_n 0, 1) := by decide +kernel
theorem dX7_leansIt_31 : decode cX7_leansIt 31 = .ok (.getfield 343, 3) := by decide +kernel
theorem dX7_leansIt_34 : decode cX7_leansIt 34 = .ok (.iconst 4, 1) := by decide +kernel
theorem dX7_leansIt_35 : decode cX7_leansIt 35 = .ok (.if_icmp .ne 26, 3) := by decide +kernel
theorem dX7_leansIt_38 : decode cX7_leansIt 38 = .ok (.aload_n 0, 1) := by decide +kernel
theorem dX7_leansIt_39 : decode cX7_leansIt 39 = .ok (.bipush 41, 2) := by decide +kernel
theorem dX7_leansIt_41 : decode cX7_leansIt 41 = .ok (.invokevirtual 334, 3) := by decide +kernel
theorem dX7_leansIt_44 : decode cX7_leansIt 44 = .ok (.aload_n 0, 1) := by decide +kernel
theorem dX7_leansIt_45 : decode cX7_leansIt 45 = .ok (.iload_n 1, 1) := by decide +kernel
theorem dX7_leansIt_46 : decode cX7_leansIt 46 = .ok (.invokevirtual 355, 3) := by decide +kernel
theorem dX7_leansIt_49 : decode cX7_leansIt 49 = .ok (.istore_n 2, 1) := by decide +kernel
theorem dX7_leansIt_50 : decode cX7_leansIt 50 = .ok (.iload_n 2, 1) := by decide +kernel
theorem dX7_leansIt_51 : decode cX7_leansIt 51 = .ok (.aload_n 0, 1) := by decide +kernel
theorem dX7_leansIt_52 : decode cX7_leansIt 52 = .ok (.aload_n 0, 1) := by decide +kernel
theorem dX7_leansIt_53 : decode cX7_leansIt 53 = .ok (.getfield 352, 3) := by decide +kernel
theorem dX7_leansIt_56 : decode cX7_leansIt 56 = .ok (.invokevirtual 349, 3) := by decide +kernel
theorem dX7_leansIt_59 : decode cX7_leansIt 59 = .ok (.iadd, 1) := by decide +kernel
theorem dX7_leansIt_60 : decode cX7_leansIt 60 = .ok (.ireturn, 1) := by decide +kernel
theorem dX7_leansIt_61 : decode cX7_leansIt 61 = .ok (.aload_n 0, 1) := by decide +kernel
theorem dX7_leansIt_62 : decode cX7_leansIt 62 = .ok (.iload_n 1, 1) := by decide +kernel
theorem dX7_leansIt_63 : decode cX7_leansIt 63 = .ok (.invokevirtual 355, 3) := by decide +kernel
theorem dX7_leansIt_66 : decode cX7_leansIt 66 = .ok (.ireturn, 1) := by decide +kernel
theorem dX7_plainParts_0 : decode cX7_plainParts 0 = .ok (.aload_n 0, 1) := by decide +kernel
theorem dX7_plainParts_1 : decode cX7_plainParts 1 = .ok (.bipush 12, 2) := by decide +kernel
theorem dX7_plainParts_3 : decode cX7_plainParts 3 = .ok (.invokevirtual 334, 3) := by decide +kernel
theorem dX7_plainParts_6 : decode cX7_plainParts 6 = .ok (.aload_n 0, 1) := by decide +kernel
theorem dX7_plainParts_7 : decode cX7_plainParts 7 = .ok (.getfield 352, 3) := by decide +kernel
theorem dX7_plainParts_10 : decode cX7_plainParts 10 = .ok (.aload_n 0, 1) := by decide +kernel
theorem dX7_plainParts_11 : decode cX7_plainParts 11 = .ok (.getfield 337, 3) := by decide +kernel
theorem dX7_plainParts_14 : decode cX7_plainParts 14 = .ok (.if_icmp .ne 10, 3) := by decide +kernel
theorem dX7_plainParts_17 : decode cX7_plainParts 17 = .ok (.aload_n 0, 1) := by decide +kernel
theorem dX7_plainParts_18 : decode cX7_plainParts 18 = .ok (.iconst 1, 1) := by decide +kernel
theorem dX7_plainParts_19 : decode cX7_plainParts 19 = .ok (.putfield 358, 3) := by decide +kernel
theorem dX7_plainParts_22 : decode cX7_plainParts 22 = .ok (.iconst 0, 1) := by decide +kernel
theorem dX7_plainParts_23 : decode cX7_plainParts 23 = .ok (.ireturn, 1) := by decide +kernel
theorem dX7_plainParts_24 : decode cX7_plainParts 24 = .ok (.iload_n 1, 1) := by decide +kernel
theorem dX7_plainParts_25 : decode cX7_plainParts 25 = .ok (.aload_n 0, 1) := by decide +kernel
theorem dX7_plainParts_26 : decode cX7_plainParts 26 = .ok (.getfield 352, 3) := by decide +kernel
theorem dX7_plainParts_29 : decode cX7_plainParts 29 = .ok (.aload_n 0, 1) := by decide +kernel
theorem dX7_plainParts_30 : decode cX7_plainParts 30 = .ok (.getfield 337, 3) := by decide +kernel
theorem dX7_plainParts_33 : decode cX7_plainParts 33 = .ok (.isub, 1) := by decide +kernel
theorem dX7_plainParts_34 : decode cX7_plainParts 34 = .ok (.idiv, 1) := by decide +kernel
theorem dX7_plainParts_35 : decode cX7_plainParts 35 = .ok (.ireturn, 1) := by decide +kernel
theorem dX7_partsIt_0 : decode cX7_partsIt 0 = .ok (.aload_n 0, 1) := by decide +kernel
theorem dX7_partsIt_1 : decode cX7_partsIt 1 = .ok (.getfield 343, 3) := by decide +kernel
theorem dX7_partsIt_4 : decode cX7_partsIt 4 = .ok (.iconst 3, 1) := by decide +kernel
theorem dX7_partsIt_5 : decode cX7_partsIt 5 = .ok (.if_icmp .ne 22, 3) := by decide +kernel
theorem dX7_partsIt_8 : decode cX7_partsIt 8 = .ok (.aload_n 0, 1) := by decide +kernel
theorem dX7_partsIt_9 : decode cX7_partsIt 9 = .ok (.bipush 50, 2) := by decide +kernel
theorem dX7_partsIt_11 : decode cX7_partsIt 11 = .ok (.invokevirtual 334, 3) := by decide +kernel
theorem dX7_partsIt_14 : decode cX7_partsIt 14 = .ok (.aload_n 0, 1) := by decide +kernel
theorem dX7_partsIt_15 : decode cX7_partsIt 15 = .ok (.iload_n 1, 1) := by decide +kernel
theorem dX7_partsIt_16 : decode cX7_partsIt 16 = .ok (.aload_n 0, 1) := by decide +kernel
theorem dX7_partsIt_17 : decode cX7_partsIt 17 = .ok (.getfield 337, 3) := by decide +kernel
theorem dX7_partsIt_20 : decode cX7_partsIt 20 = .ok (.isub, 1) := by decide +kernel
theorem dX7_partsIt_21 : decode cX7_partsIt 21 = .ok (.invokevirtual 361, 3) := by decide +kernel
theorem dX7_partsIt_24 : decode cX7_partsIt 24 = .ok (.iconst 3, 1) := by decide +kernel
theorem dX7_partsIt_25 : decode cX7_partsIt 25 = .ok (.imul, 1) := by decide +kernel
theorem dX7_partsIt_26 : decode cX7_partsIt 26 = .ok (.ireturn, 1) := by decide +kernel
theorem dX7_partsIt_27 : decode cX7_partsIt 27 = .ok (.aload_n 0, 1) := by decide +kernel
theorem dX7_partsIt_28 : decode cX7_partsIt 28 = .ok (.getfield 343, 3) := by decide +kernel
theorem dX7_partsIt_31 : decode cX7_partsIt 31 = .ok (.iconst 5, 1) := by decide +kernel
theorem dX7_partsIt_32 : decode cX7_partsIt 32 = .ok (.if_icmp .ne 37, 3) := by decide +kernel
theorem dX7_partsIt_35 : decode cX7_partsIt 35 = .ok (.aload_n 0, 1) := by decide +kernel
theorem dX7_partsIt_36 : decode cX7_partsIt 36 = .ok (.bipush 61, 2) := by decide +kernel
theorem dX7_partsIt_38 : decode cX7_partsIt 38 = .ok (.invokevirtual 334, 3) := by decide +kernel
theorem dX7_partsIt_41 : decode cX7_partsIt 41 = .ok (.aload_n 0, 1) := by decide +kernel
theorem dX7_partsIt_42 : decode cX7_partsIt 42 = .ok (.iload_n 1, 1) := by decide +kernel
theorem dX7_partsIt_43 : decode cX7_partsIt 43 = .ok (.invokevirtual 361, 3) := by decide +kernel
theorem dX7_partsIt_46 : decode cX7_partsIt 46 = .ok (.istore_n 2, 1) := by decide +kernel
theorem dX7_partsIt_47 : decode cX7_partsIt 47 = .ok (.aload_n 0, 1) := by decide +kernel
theorem dX7_partsIt_48 : decode cX7_partsIt 48 = .ok (.getfield 358, 3) := by decide +kernel
theorem dX7_partsIt_51 : decode cX7_partsIt 51 = .ok (.ifCond .eq 7, 3) := by decide +kernel
theorem dX7_partsIt_54 : decode cX7_partsIt 54 = .ok (.iconst 0, 1) := by decide +kernel
theorem dX7_partsIt_55 : decode cX7_partsIt 55 = .ok (.goto 13, 3) := by decide +kernel
theorem dX7_partsIt_58 : decode cX7_partsIt 58 = .ok (.iload_n 2, 1) := by decide +kernel
theorem dX7_partsIt_59 : decode cX7_partsIt 59 = .ok (.aload_n 0, 1) := by decide +kernel
theorem dX7_partsIt_60 : decode cX7_partsIt 60 = .ok (.aload_n 0, 1) := by decide +kernel
theorem dX7_partsIt_61 : decode cX7_partsIt 61 = .ok (.getfield 337, 3) := by decide +kernel
theorem dX7_partsIt_64 : decode cX7_partsIt 64 = .ok (.invokevirtual 349, 3) := by decide +kernel
theorem dX7_partsIt_67 : decode cX7_partsIt 67 = .ok (.isub, 1) := by decide +kernel
theorem dX7_partsIt_68 : decode cX7_partsIt 68 = .ok (.ireturn, 1) := by decide +kernel
theorem dX7_partsIt_69 : decode cX7_partsIt 69 = .ok (.aload_n 0, 1) := by decide +kernel
theorem dX7_partsIt_70 : decode cX7_partsIt 70 = .ok (.iload_n 1, 1) := by decide +kernel
theorem dX7_partsIt_71 : decode cX7_partsIt 71 = .ok (.invokevirtual 361, 3) := by decide +kernel
theorem dX7_partsIt_74 : decode cX7_partsIt 74 = .ok (.ireturn, 1) := by decide +kernel
theorem dX7_plainCalls_0 : decode cX7_plainCalls 0 = .ok (.aload_n 0, 1) := by decide +kernel
theorem dX7_plainCalls_1 : decode cX7_plainCalls 1 = .ok (.bipush 13, 2) := by decide +kernel
theorem dX7_plainCalls_3 : decode cX7_plainCalls 3 = .ok (.invokevirtual 334, 3) := by decide +kernel
theorem dX7_plainCalls_6 : decode cX7_plainCalls 6 = .ok (.aload_n 0, 1) := by decide +kernel
theorem dX7_plainCalls_7 : decode cX7_plainCalls 7 = .ok (.iload_n 1, 1) := by decide +kernel
theorem dX7_plainCalls_8 : decode cX7_plainCalls 8 = .ok (.invokevirtual 364, 3) := by decide +kernel
theorem dX7_plainCalls_11 : decode cX7_plainCalls 11 = .ok (.bipush 50, 2) := by decide +kernel
theorem dX7_plainCalls_13 : decode cX7_plainCalls 13 = .ok (.ixor, 1) := by decide +kernel
theorem dX7_plainCalls_14 : decode cX7_plainCalls 14 = .ok (.ireturn, 1) := by decide +kernel
theorem dX7_callsIt_0 : decode cX7_callsIt 0 = .ok (.aload_n 0, 1) := by decide +kernel
theorem dX7_callsIt_1 : decode cX7_callsIt 1 = .ok (.getfield 343, 3) := by decide +kernel
theorem dX7_callsIt_4 : decode cX7_callsIt 4 = .ok (.iconst 2, 1) := by decide +kernel
theorem dX7_callsIt_5 : decode cX7_callsIt 5 = .ok (.if_icmp .eq 11, 3) := by decide +kernel
theorem dX7_callsIt_8 : decode cX7_callsIt 8 = .ok (.aload_n 0, 1) := by decide +kernel
theorem dX7_callsIt_9 : decode cX7_callsIt 9 = .ok (.getfield 343, 3) := by decide +kernel
theorem dX7_callsIt_12 : decode cX7_callsIt 12 = .ok (.iconst 4, 1) := by decide +kernel
theorem dX7_callsIt_13 : decode cX7_callsIt 13 = .ok (.if_icmp .ne 26, 3) := by decide +kernel
theorem dX7_callsIt_16 : decode cX7_callsIt 16 = .ok (.aload_n 0, 1) := by decide +kernel
theorem dX7_callsIt_17 : decode cX7_callsIt 17 = .ok (.bipush 31, 2) := by decide +kernel
theorem dX7_callsIt_19 : decode cX7_callsIt 19 = .ok (.invokevirtual 334, 3) := by decide +kernel
theorem dX7_callsIt_22 : decode cX7_callsIt 22 = .ok (.aload_n 0, 1) := by decide +kernel
theorem dX7_callsIt_23 : decode cX7_callsIt 23 = .ok (.iload_n 1, 1) := by decide +kernel
theorem dX7_callsIt_24 : decode cX7_callsIt 24 = .ok (.invokevirtual 367, 3) := by decide +kernel
theorem dX7_callsIt_27 : decode cX7_callsIt 27 = .ok (.istore_n 2, 1) := by decide +kernel
theorem dX7_callsIt_28 : decode cX7_callsIt 28 = .ok (.iload_n 2, 1) := by decide +kernel
theorem dX7_callsIt_29 : decode cX7_callsIt 29 = .ok (.aload_n 0, 1) := by decide +kernel
theorem dX7_callsIt_30 : decode cX7_callsIt 30 = .ok (.aload_n 0, 1) := by decide +kernel
theorem dX7_callsIt_31 : decode cX7_callsIt 31 = .ok (.getfield 337, 3) := by decide +kernel
theorem dX7_callsIt_34 : decode cX7_callsIt 34 = .ok (.invokevirtual 370, 3) := by decide +kernel
theorem dX7_callsIt_37 : decode cX7_callsIt 37 = .ok (.isub, 1) := by decide +kernel
theorem dX7_callsIt_38 : decode cX7_callsIt 38 = .ok (.ireturn, 1) := by decide +kernel
theorem dX7_callsIt_39 : decode cX7_callsIt 39 = .ok (.aload_n 0, 1) := by decide +kernel
theorem dX7_callsIt_40 : decode cX7_callsIt 40 = .ok (.getfield 343, 3) := by decide +kernel
theorem dX7_callsIt_43 : decode cX7_callsIt 43 = .ok (.iconst 5, 1) := by decide +kernel
theorem dX7_callsIt_44 : decode cX7_callsIt 44 = .ok (.if_icmp .ne 17, 3) := by decide +kernel
theorem dX7_callsIt_47 : decode cX7_callsIt 47 = .ok (.aload_n 0, 1) := by decide +kernel
theorem dX7_callsIt_48 : decode cX7_callsIt 48 = .ok (.bipush 60, 2) := by decide +kernel
theorem dX7_callsIt_50 : decode cX7_callsIt 50 = .ok (.invokevirtual 334, 3) := by decide +kernel
theorem dX7_callsIt_53 : decode cX7_callsIt 53 = .ok (.aload_n 0, 1) := by decide +kernel
theorem dX7_callsIt_54 : decode cX7_callsIt 54 = .ok (.iload_n 1, 1) := by decide +kernel
theorem dX7_callsIt_55 : decode cX7_callsIt 55 = .ok (.invokevirtual 367, 3) := by decide +kernel
theorem dX7_callsIt_58 : decode cX7_callsIt 58 = .ok (.iconst 2, 1) := by decide +kernel
theorem dX7_callsIt_59 : decode cX7_callsIt 59 = .ok (.imul, 1) := by decide +kernel
theorem dX7_callsIt_60 : decode cX7_callsIt 60 = .ok (.ireturn, 1) := by decide +kernel
theorem dX7_callsIt_61 : decode cX7_callsIt 61 = .ok (.aload_n 0, 1) := by decide +kernel
theorem dX7_callsIt_62 : decode cX7_callsIt 62 = .ok (.iload_n 1, 1) := by decide +kernel
theorem dX7_callsIt_63 : decode cX7_callsIt 63 = .ok (.invokevirtual 367, 3) := by decide +kernel
theorem dX7_callsIt_66 : decode cX7_callsIt 66 = .ok (.ireturn, 1) := by decide +kernel
theorem dX7_act_0 : decode cX7_act 0 = .ok (.aload_n 0, 1) := by decide +kernel
theorem dX7_act_1 : decode cX7_act 1 = .ok (.iconst 0, 1) := by decide +kernel
theorem dX7_act_2 : decode cX7_act 2 = .ok (.putfield 331, 3) := by decide +kernel
theorem dX7_act_5 : decode cX7_act 5 = .ok (.iload_n 1, 1) := by decide +kernel
theorem dX7_act_6 : decode cX7_act 6 = .ok (.invokestatic 293, 3) := by decide +kernel
theorem dX7_act_9 : decode cX7_act 9 = .ok (.ifCond .eq 11, 3) := by decide +kernel
theorem dX7_act_12 : decode cX7_act 12 = .ok (.aload_n 0, 1) := by decide +kernel
theorem dX7_act_13 : decode cX7_act 13 = .ok (.iload_n 1, 1) := by decide +kernel
theorem dX7_act_14 : decode cX7_act 14 = .ok (.invokevirtual 325, 3) := by decide +kernel
theorem dX7_act_17 : decode cX7_act 17 = .ok (.goto 4, 3) := by decide +kernel
theorem dX7_act_20 : decode cX7_act 20 = .ok (.iconst (-1), 1) := by decide +kernel
theorem dX7_act_21 : decode cX7_act 21 = .ok (.istore 4, 2) := by decide +kernel
theorem dX7_act_23 : decode cX7_act 23 = .ok (.iload_n 2, 1) := by decide +kernel
theorem dX7_act_24 : decode cX7_act 24 = .ok (.iconst 0, 1) := by decide +kernel
theorem dX7_act_25 : decode cX7_act 25 = .ok (.iconst 3, 1) := by decide +kernel
theorem dX7_act_26 : decode cX7_act 26 = .ok (.invokestatic 60, 3) := by decide +kernel
theorem dX7_act_29 : decode cX7_act 29 = .ok (.ifCond .eq 13, 3) := by decide +kernel
theorem dX7_act_32 : decode cX7_act 32 = .ok (.iload 4, 2) := by decide +kernel
theorem dX7_act_34 : decode cX7_act 34 = .ok (.iconst 0, 1) := by decide +kernel
theorem dX7_act_35 : decode cX7_act 35 = .ok (.iconst 5, 1) := by decide +kernel
theorem dX7_act_36 : decode cX7_act 36 = .ok (.invokestatic 60, 3) := by decide +kernel
theorem dX7_act_39 : decode cX7_act 39 = .ok (.ifCond .ne 5, 3) := by decide +kernel
theorem dX7_act_42 : decode cX7_act 42 = .ok (.iconst 0, 1) := by decide +kernel
theorem dX7_act_43 : decode cX7_act 43 = .ok (.ireturn, 1) := by decide +kernel
theorem dX7_act_44 : decode cX7_act 44 = .ok (.aload_n 0, 1) := by decide +kernel
theorem dX7_act_45 : decode cX7_act 45 = .ok (.iload 4, 2) := by decide +kernel
theorem dX7_act_47 : decode cX7_act 47 = .ok (.putfield 343, 3) := by decide +kernel
theorem dX7_act_50 : decode cX7_act 50 = .ok (.aload_n 0, 1) := by decide +kernel
theorem dX7_act_51 : decode cX7_act 51 = .ok (.aload_n 0, 1) := by decide +kernel
theorem dX7_act_52 : decode cX7_act 52 = .ok (.getfield 47, 3) := by decide +kernel
theorem dX7_act_55 : decode cX7_act 55 = .ok (.iload_n 1, 1) := by decide +kernel
theorem dX7_act_56 : decode cX7_act 56 = .ok (.iaload, 1) := by decide +kernel
theorem dX7_act_57 : decode cX7_act 57 = .ok (.putfield 337, 3) := by decide +kernel
theorem dX7_act_60 : decode cX7_act 60 = .ok (.aload_n 0, 1) := by decide +kernel
theorem dX7_act_61 : decode cX7_act 61 = .ok (.aload_n 0, 1) := by decide +kernel
theorem dX7_act_62 : decode cX7_act 62 = .ok (.aload_n 0, 1) := by decide +kernel
theorem dX7_act_63 : decode cX7_act 63 = .ok (.getfield 337, 3) := by decide +kernel
theorem dX7_act_66 : decode cX7_act 66 = .ok (.iconst 1, 1) := by decide +kernel
theorem dX7_act_67 : decode cX7_act 67 = .ok (.invokevirtual 217, 3) := by decide +kernel
theorem dX7_act_70 : decode cX7_act 70 = .ok (.putfield 352, 3) := by decide +kernel
theorem dX7_act_73 : decode cX7_act 73 = .ok (.aload_n 0, 1) := by decide +kernel
theorem dX7_act_74 : decode cX7_act 74 = .ok (.iconst 0, 1) := by decide +kernel
theorem dX7_act_75 : decode cX7_act 75 = .ok (.putfield 358, 3) := by decide +kernel
theorem dX7_act_78 : decode cX7_act 78 = .ok (.iload_n 2, 1) := by decide +kernel
theorem dX7_act_79 : decode cX7_act 79 = .ok (.ifCond .ne 11, 3) := by decide +kernel
theorem dX7_act_82 : decode cX7_act 82 = .ok (.aload_n 0, 1) := by decide +kernel
theorem dX7_act_83 : decode cX7_act 83 = .ok (.iload_n 3, 1) := by decide +kernel
theorem dX7_act_84 : decode cX7_act 84 = .ok (.invokevirtual 349, 3) := by decide +kernel
theorem dX7_act_87 : decode cX7_act 87 = .ok (.goto 34, 3) := by decide +kernel
theorem dX7_act_90 : decode cX7_act 90 = .ok (.iload_n 2, 1) := by decide +kernel
theorem dX7_act_91 : decode cX7_act 91 = .ok (.iconst 1, 1) := by decide +kernel
theorem dX7_act_92 : decode cX7_act 92 = .ok (.if_icmp .ne 11, 3) := by decide +kernel
theorem dX7_act_95 : decode cX7_act 95 = .ok (.aload_n 0, 1) := by decide +kernel
theorem dX7_act_96 : decode cX7_act 96 = .ok (.iload_n 3, 1) := by decide +kernel
theorem dX7_act_97 : decode cX7_act 97 = .ok (.invokevirtual 364, 3) := by decide +kernel
theorem dX7_act_100 : decode cX7_act 100 = .ok (.goto 21, 3) := by decide +kernel
theorem dX7_act_103 : decode cX7_act 103 = .ok (.iload_n 2, 1) := by decide +kernel
theorem dX7_act_104 : decode cX7_act 104 = .ok (.iconst 2, 1) := by decide +kernel
theorem dX7_act_105 : decode cX7_act 105 = .ok (.if_icmp .ne 11, 3) := by decide +kernel
theorem dX7_act_108 : decode cX7_act 108 = .ok (.aload_n 0, 1) := by decide +kernel
theorem dX7_act_109 : decode cX7_act 109 = .ok (.iload_n 3, 1) := by decide +kernel
theorem dX7_act_110 : decode cX7_act 110 = .ok (.invokevirtual 370, 3) := by decide +kernel
theorem dX7_act_113 : decode cX7_act 113 = .ok (.goto 8, 3) := by decide +kernel
theorem dX7_act_116 : decode cX7_act 116 = .ok (.aload_n 0, 1) := by decide +kernel
theorem dX7_act_117 : decode cX7_act 117 = .ok (.iload_n 3, 1) := by decide +kernel
theorem dX7_act_118 : decode cX7_act 118 = .ok (.invokevirtual 373, 3) := by decide +kernel
theorem dX7_act_121 : decode cX7_act 121 = .ok (.istore 5, 2) := by decide +kernel
theorem dX7_act_123 : decode cX7_act 123 = .ok (.aload_n 0, 1) := by decide +kernel
theorem dX7_act_124 : decode cX7_act 124 = .ok (.getfield 358, 3) := by decide +kernel
theorem dX7_act_127 : decode cX7_act 127 = .ok (.ifCond .eq 8, 3) := by decide +kernel
theorem dX7_act_130 : decode cX7_act 130 = .ok (.bipush (-15), 2) := by decide +kernel
theorem dX7_act_132 : decode cX7_act 132 = .ok (.goto 5, 3) := by decide +kernel
theorem dX7_act_135 : decode cX7_act 135 = .ok (.iload 5, 2) := by decide +kernel
theorem dX7_act_137 : decode cX7_act 137 = .ok (.ireturn, 1) := by decide +kernel
theorem dX7_trace_0 : decode cX7_trace 0 = .ok (.iload_n 1, 1) := by decide +kernel
theorem dX7_trace_1 : decode cX7_trace 1 = .ok (.iconst 0, 1) := by decide +kernel
theorem dX7_trace_2 : decode cX7_trace 2 = .ok (.aload_n 0, 1) := by decide +kernel
theorem dX7_trace_3 : decode cX7_trace 3 = .ok (.getfield 331, 3) := by decide +kernel
theorem dX7_trace_6 : decode cX7_trace 6 = .ok (.iconst 1, 1) := by decide +kernel
theorem dX7_trace_7 : decode cX7_trace 7 = .ok (.isub, 1) := by decide +kernel
theorem dX7_trace_8 : decode cX7_trace 8 = .ok (.invokestatic 60, 3) := by decide +kernel
theorem dX7_trace_11 : decode cX7_trace 11 = .ok (.ifCond .eq 12, 3) := by decide +kernel
theorem dX7_trace_14 : decode cX7_trace 14 = .ok (.aload_n 0, 1) := by decide +kernel
theorem dX7_trace_15 : decode cX7_trace 15 = .ok (.getfield 53, 3) := by decide +kernel
theorem dX7_trace_18 : decode cX7_trace 18 = .ok (.iload_n 1, 1) := by decide +kernel
theorem dX7_trace_19 : decode cX7_trace 19 = .ok (.iaload, 1) := by decide +kernel
theorem dX7_trace_20 : decode cX7_trace 20 = .ok (.goto 5, 3) := by decide +kernel
theorem dX7_trace_23 : decode cX7_trace 23 = .ok (.bipush (-3), 2) := by decide +kernel
theorem dX7_trace_25 : decode cX7_trace 25 = .ok (.ireturn, 1) := by decide +kernel
theorem dX7_pegsHad_0 : decode cX7_pegsHad 0 = .ok (.iconst 0, 1) := by decide +kernel
theorem dX7_pegsHad_1 : decode cX7_pegsHad 1 = .ok (.istore_n 1, 1) := by decide +kernel
theorem dX7_pegsHad_2 : decode cX7_pegsHad 2 = .ok (.iconst 0, 1) := by decide +kernel
theorem dX7_pegsHad_3 : decode cX7_pegsHad 3 = .ok (.istore_n 2, 1) := by decide +kernel
theorem dX7_pegsHad_4 : decode cX7_pegsHad 4 = .ok (.iload_n 2, 1) := by decide +kernel
theorem dX7_pegsHad_5 : decode cX7_pegsHad 5 = .ok (.bipush 6, 2) := by decide +kernel
theorem dX7_pegsHad_7 : decode cX7_pegsHad 7 = .ok (.if_icmp .ge 25, 3) := by decide +kernel
theorem dX7_pegsHad_10 : decode cX7_pegsHad 10 = .ok (.iload_n 1, 1) := by decide +kernel
theorem dX7_pegsHad_11 : decode cX7_pegsHad 11 = .ok (.aload_n 0, 1) := by decide +kernel
theorem dX7_pegsHad_12 : decode cX7_pegsHad 12 = .ok (.iload_n 2, 1) := by decide +kernel
theorem dX7_pegsHad_13 : decode cX7_pegsHad 13 = .ok (.invokevirtual 239, 3) := by decide +kernel
theorem dX7_pegsHad_16 : decode cX7_pegsHad 16 = .ok (.ifCond .ne 7, 3) := by decide +kernel
theorem dX7_pegsHad_19 : decode cX7_pegsHad 19 = .ok (.iconst 0, 1) := by decide +kernel
theorem dX7_pegsHad_20 : decode cX7_pegsHad 20 = .ok (.goto 4, 3) := by decide +kernel
theorem dX7_pegsHad_23 : decode cX7_pegsHad 23 = .ok (.iconst 1, 1) := by decide +kernel
theorem dX7_pegsHad_24 : decode cX7_pegsHad 24 = .ok (.iadd, 1) := by decide +kernel
theorem dX7_pegsHad_25 : decode cX7_pegsHad 25 = .ok (.istore_n 1, 1) := by decide +kernel
theorem dX7_pegsHad_26 : decode cX7_pegsHad 26 = .ok (.iinc 2 1, 3) := by decide +kernel
theorem dX7_pegsHad_29 : decode cX7_pegsHad 29 = .ok (.goto (-25), 3) := by decide +kernel
theorem dX7_pegsHad_32 : decode cX7_pegsHad 32 = .ok (.iload_n 1, 1) := by decide +kernel
theorem dX7_pegsHad_33 : decode cX7_pegsHad 33 = .ok (.ireturn, 1) := by decide +kernel
theorem dX7_many_0 : decode cX7_many 0 = .ok (.iload_n 1, 1) := by decide +kernel
theorem dX7_many_1 : decode cX7_many 1 = .ok (.tableswitch 93 0 6 #[43, 50, 65, 70, 78, 83, 88], 43) := by decide +kernel
theorem dX7_many_44 : decode cX7_many 44 = .ok (.aload_n 0, 1) := by decide +kernel
theorem dX7_many_45 : decode cX7_many 45 = .ok (.getfield 7, 3) := by decide +kernel
theorem dX7_many_48 : decode cX7_many 48 = .ok (.iconst 5, 1) := by decide +kernel
theorem dX7_many_49 : decode cX7_many 49 = .ok (.iaload, 1) := by decide +kernel
theorem dX7_many_50 : decode cX7_many 50 = .ok (.ireturn, 1) := by decide +kernel
theorem dX7_many_51 : decode cX7_many 51 = .ok (.aload_n 0, 1) := by decide +kernel
theorem dX7_many_52 : decode cX7_many 52 = .ok (.getfield 7, 3) := by decide +kernel
theorem dX7_many_55 : decode cX7_many 55 = .ok (.iconst 5, 1) := by decide +kernel
theorem dX7_many_56 : decode cX7_many 56 = .ok (.iaload, 1) := by decide +kernel
theorem dX7_many_57 : decode cX7_many 57 = .ok (.aload_n 0, 1) := by decide +kernel
theorem dX7_many_58 : decode cX7_many 58 = .ok (.invokevirtual 267, 3) := by decide +kernel
theorem dX7_many_61 : decode cX7_many 61 = .ok (.invokestatic 248, 3) := by decide +kernel
theorem dX7_many_64 : decode cX7_many 64 = .ok (.isub, 1) := by decide +kernel
theorem dX7_many_65 : decode cX7_many 65 = .ok (.ireturn, 1) := by decide +kernel
theorem dX7_many_66 : decode cX7_many 66 = .ok (.aload_n 0, 1) := by decide +kernel
theorem dX7_many_67 : decode cX7_many 67 = .ok (.invokevirtual 376, 3) := by decide +kernel
theorem dX7_many_70 : decode cX7_many 70 = .ok (.ireturn, 1) := by decide +kernel
theorem dX7_many_71 : decode cX7_many 71 = .ok (.aload_n 0, 1) := by decide +kernel
theorem dX7_many_72 : decode cX7_many 72 = .ok (.invokevirtual 270, 3) := by decide +kernel
theorem dX7_many_75 : decode cX7_many 75 = .ok (.invokestatic 248, 3) := by decide +kernel
theorem dX7_many_78 : decode cX7_many 78 = .ok (.ireturn, 1) := by decide +kernel
theorem dX7_many_79 : decode cX7_many 79 = .ok (.aload_n 0, 1) := by decide +kernel
theorem dX7_many_80 : decode cX7_many 80 = .ok (.getfield 197, 3) := by decide +kernel
theorem dX7_many_83 : decode cX7_many 83 = .ok (.ireturn, 1) := by decide +kernel
theorem dX7_many_84 : decode cX7_many 84 = .ok (.aload_n 0, 1) := by decide +kernel
theorem dX7_many_85 : decode cX7_many 85 = .ok (.getfield 64, 3) := by decide +kernel
theorem dX7_many_88 : decode cX7_many 88 = .ok (.ireturn, 1) := by decide +kernel
theorem dX7_many_89 : decode cX7_many 89 = .ok (.aload_n 0, 1) := by decide +kernel
theorem dX7_many_90 : decode cX7_many 90 = .ok (.getfield 331, 3) := by decide +kernel
theorem dX7_many_93 : decode cX7_many 93 = .ok (.ireturn, 1) := by decide +kernel
theorem dX7_many_94 : decode cX7_many 94 = .ok (.iconst (-1), 1) := by decide +kernel
theorem dX7_many_95 : decode cX7_many 95 = .ok (.ireturn, 1) := by decide +kernel
theorem dX7_keep_0 : decode cX7_keep 0 = .ok (.aload_n 0, 1) := by decide +kernel
theorem dX7_keep_1 : decode cX7_keep 1 = .ok (.getfield 7, 3) := by decide +kernel
theorem dX7_keep_4 : decode cX7_keep 4 = .ok (.aload_n 0, 1) := by decide +kernel
theorem dX7_keep_5 : decode cX7_keep 5 = .ok (.getfield 16, 3) := by decide +kernel
theorem dX7_keep_8 : decode cX7_keep 8 = .ok (.invokestatic 193, 3) := by decide +kernel
theorem dX7_keep_11 : decode cX7_keep 11 = .ok (.aload_n 0, 1) := by decide +kernel
theorem dX7_keep_12 : decode cX7_keep 12 = .ok (.iconst 1, 1) := by decide +kernel
theorem dX7_keep_13 : decode cX7_keep 13 = .ok (.putfield 379, 3) := by decide +kernel
theorem dX7_keep_16 : decode cX7_keep 16 = .ok (.iconst 1, 1) := by decide +kernel
theorem dX7_keep_17 : decode cX7_keep 17 = .ok (.ireturn, 1) := by decide +kernel
theorem dX7_again_0 : decode cX7_again 0 = .ok (.aload_n 0, 1) := by decide +kernel
theorem dX7_again_1 : decode cX7_again 1 = .ok (.getfield 379, 3) := by decide +kernel
theorem dX7_again_4 : decode cX7_again 4 = .ok (.ifCond .ne 6, 3) := by decide +kernel
theorem dX7_again_7 : decode cX7_again 7 = .ok (.bipush (-3), 2) := by decide +kernel
theorem dX7_again_9 : decode cX7_again 9 = .ok (.ireturn, 1) := by decide +kernel
theorem dX7_again_10 : decode cX7_again 10 = .ok (.aload_n 0, 1) := by decide +kernel
theorem dX7_again_11 : decode cX7_again 11 = .ok (.getfield 16, 3) := by decide +kernel
theorem dX7_again_14 : decode cX7_again 14 = .ok (.aload_n 0, 1) := by decide +kernel
theorem dX7_again_15 : decode cX7_again 15 = .ok (.getfield 7, 3) := by decide +kernel
theorem dX7_again_18 : decode cX7_again 18 = .ok (.invokestatic 193, 3) := by decide +kernel
theorem dX7_again_21 : decode cX7_again 21 = .ok (.aload_n 0, 1) := by decide +kernel
theorem dX7_again_22 : decode cX7_again 22 = .ok (.getfield 7, 3) := by decide +kernel
theorem dX7_again_25 : decode cX7_again 25 = .ok (.iconst 5, 1) := by decide +kernel
theorem dX7_again_26 : decode cX7_again 26 = .ok (.iaload, 1) := by decide +kernel
theorem dX7_again_27 : decode cX7_again 27 = .ok (.ireturn, 1) := by decide +kernel
