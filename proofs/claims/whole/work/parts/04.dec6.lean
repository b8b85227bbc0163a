theorem dX6_init_0 : decode cX6_init 0 = .ok (.aload_n 0, 1) := by decide +kernel
theorem dX6_init_1 : decode cX6_init 1 = .ok (.invokespecial 1, 3) := by decide +kernel
theorem dX6_init_4 : decode cX6_init 4 = .ok (.aload_n 0, 1) := by decide +kernel
theorem dX6_init_5 : decode cX6_init 5 = .ok (.new 7, 3) := by decide +kernel
theorem dX6_init_8 : decode cX6_init 8 = .ok (.dup, 1) := by decide +kernel
theorem dX6_init_9 : decode cX6_init 9 = .ok (.invokespecial 9, 3) := by decide +kernel
theorem dX6_init_12 : decode cX6_init 12 = .ok (.putfield 10, 3) := by decide +kernel
theorem dX6_init_15 : decode cX6_init 15 = .ok (.aload_n 0, 1) := by decide +kernel
theorem dX6_init_16 : decode cX6_init 16 = .ok (.new 7, 3) := by decide +kernel
theorem dX6_init_19 : decode cX6_init 19 = .ok (.dup, 1) := by decide +kernel
theorem dX6_init_20 : decode cX6_init 20 = .ok (.invokespecial 9, 3) := by decide +kernel
theorem dX6_init_23 : decode cX6_init 23 = .ok (.putfield 16, 3) := by decide +kernel
theorem dX6_init_26 : decode cX6_init 26 = .ok (.aload_n 0, 1) := by decide +kernel
theorem dX6_init_27 : decode cX6_init 27 = .ok (.new 7, 3) := by decide +kernel
theorem dX6_init_30 : decode cX6_init 30 = .ok (.dup, 1) := by decide +kernel
theorem dX6_init_31 : decode cX6_init 31 = .ok (.invokespecial 9, 3) := by decide +kernel
theorem dX6_init_34 : decode cX6_init 34 = .ok (.putfield 19, 3) := by decide +kernel
theorem dX6_init_37 : decode cX6_init 37 = .ok (.aload_n 0, 1) := by decide +kernel
theorem dX6_init_38 : decode cX6_init 38 = .ok (.iconst 0, 1) := by decide +kernel
theorem dX6_init_39 : decode cX6_init 39 = .ok (.putfield 22, 3) := by decide +kernel
theorem dX6_init_42 : decode cX6_init 42 = .ok (.aload_n 0, 1) := by decide +kernel
theorem dX6_init_43 : decode cX6_init 43 = .ok (.new 26, 3) := by decide +kernel
theorem dX6_init_46 : decode cX6_init 46 = .ok (.dup, 1) := by decide +kernel
theorem dX6_init_47 : decode cX6_init 47 = .ok (.invokespecial 28, 3) := by decide +kernel
theorem dX6_init_50 : decode cX6_init 50 = .ok (.putfield 29, 3) := by decide +kernel
theorem dX6_init_53 : decode cX6_init 53 = .ok (.aload_n 0, 1) := by decide +kernel
theorem dX6_init_54 : decode cX6_init 54 = .ok (.new 33, 3) := by decide +kernel
theorem dX6_init_57 : decode cX6_init 57 = .ok (.dup, 1) := by decide +kernel
theorem dX6_init_58 : decode cX6_init 58 = .ok (.invokespecial 35, 3) := by decide +kernel
theorem dX6_init_61 : decode cX6_init 61 = .ok (.putfield 36, 3) := by decide +kernel
theorem dX6_init_64 : decode cX6_init 64 = .ok (.aload_n 0, 1) := by decide +kernel
theorem dX6_init_65 : decode cX6_init 65 = .ok (.new 40, 3) := by decide +kernel
theorem dX6_init_68 : decode cX6_init 68 = .ok (.dup, 1) := by decide +kernel
theorem dX6_init_69 : decode cX6_init 69 = .ok (.invokespecial 42, 3) := by decide +kernel
theorem dX6_init_72 : decode cX6_init 72 = .ok (.putfield 43, 3) := by decide +kernel
theorem dX6_init_75 : decode cX6_init 75 = .ok (.aload_n 0, 1) := by decide +kernel
theorem dX6_init_76 : decode cX6_init 76 = .ok (.iconst 4, 1) := by decide +kernel
theorem dX6_init_77 : decode cX6_init 77 = .ok (.anewarray 47, 3) := by decide +kernel
theorem dX6_init_80 : decode cX6_init 80 = .ok (.putfield 49, 3) := by decide +kernel
theorem dX6_init_83 : decode cX6_init 83 = .ok (.aload_n 0, 1) := by decide +kernel
theorem dX6_init_84 : decode cX6_init 84 = .ok (.iconst 4, 1) := by decide +kernel
theorem dX6_init_85 : decode cX6_init 85 = .ok (.anewarray 53, 3) := by decide +kernel
theorem dX6_init_88 : decode cX6_init 88 = .ok (.putfield 55, 3) := by decide +kernel
theorem dX6_init_91 : decode cX6_init 91 = .ok (.aload_n 0, 1) := by decide +kernel
theorem dX6_init_92 : decode cX6_init 92 = .ok (.bipush 64, 2) := by decide +kernel
theorem dX6_init_94 : decode cX6_init 94 = .ok (.newarray .int, 2) := by decide +kernel
theorem dX6_init_96 : decode cX6_init 96 = .ok (.putfield 59, 3) := by decide +kernel
theorem dX6_init_99 : decode cX6_init 99 = .ok (.iconst 0, 1) := by decide +kernel
theorem dX6_init_100 : decode cX6_init 100 = .ok (.istore_n 1, 1) := by decide +kernel
theorem dX6_init_101 : decode cX6_init 101 = .ok (.iload_n 1, 1) := by decide +kernel
theorem dX6_init_102 : decode cX6_init 102 = .ok (.iconst 4, 1) := by decide +kernel
theorem dX6_init_103 : decode cX6_init 103 = .ok (.if_icmp .ge 22, 3) := by decide +kernel
theorem dX6_init_106 : decode cX6_init 106 = .ok (.aload_n 0, 1) := by decide +kernel
theorem dX6_init_107 : decode cX6_init 107 = .ok (.getfield 49, 3) := by decide +kernel
theorem dX6_init_110 : decode cX6_init 110 = .ok (.iload_n 1, 1) := by decide +kernel
theorem dX6_init_111 : decode cX6_init 111 = .ok (.new 47, 3) := by decide +kernel
theorem dX6_init_114 : decode cX6_init 114 = .ok (.dup, 1) := by decide +kernel
theorem dX6_init_115 : decode cX6_init 115 = .ok (.invokespecial 63, 3) := by decide +kernel
theorem dX6_init_118 : decode cX6_init 118 = .ok (.aastore, 1) := by decide +kernel
theorem dX6_init_119 : decode cX6_init 119 = .ok (.iinc 1 1, 3) := by decide +kernel
theorem dX6_init_122 : decode cX6_init 122 = .ok (.goto (-21), 3) := by decide +kernel
theorem dX6_init_125 : decode cX6_init 125 = .ok (.iconst 0, 1) := by decide +kernel
theorem dX6_init_126 : decode cX6_init 126 = .ok (.istore_n 1, 1) := by decide +kernel
theorem dX6_init_127 : decode cX6_init 127 = .ok (.iload_n 1, 1) := by decide +kernel
theorem dX6_init_128 : decode cX6_init 128 = .ok (.iconst 4, 1) := by decide +kernel
theorem dX6_init_129 : decode cX6_init 129 = .ok (.if_icmp .ge 22, 3) := by decide +kernel
theorem dX6_init_132 : decode cX6_init 132 = .ok (.aload_n 0, 1) := by decide +kernel
theorem dX6_init_133 : decode cX6_init 133 = .ok (.getfield 55, 3) := by decide +kernel
theorem dX6_init_136 : decode cX6_init 136 = .ok (.iload_n 1, 1) := by decide +kernel
theorem dX6_init_137 : decode cX6_init 137 = .ok (.new 53, 3) := by decide +kernel
theorem dX6_init_140 : decode cX6_init 140 = .ok (.dup, 1) := by decide +kernel
theorem dX6_init_141 : decode cX6_init 141 = .ok (.invokespecial 64, 3) := by decide +kernel
theorem dX6_init_144 : decode cX6_init 144 = .ok (.aastore, 1) := by decide +kernel
theorem dX6_init_145 : decode cX6_init 145 = .ok (.iinc 1 1, 3) := by decide +kernel
theorem dX6_init_148 : decode cX6_init 148 = .ok (.goto (-21), 3) := by decide +kernel
theorem dX6_init_151 : decode cX6_init 151 = .ok (.return_, 1) := by decide +kernel
theorem dX6_feed_0 : decode cX6_feed 0 = .ok (.iload_n 3, 1) := by decide +kernel
theorem dX6_feed_1 : decode cX6_feed 1 = .ok (.iconst 1, 1) := by decide +kernel
theorem dX6_feed_2 : decode cX6_feed 2 = .ok (.bipush 8, 2) := by decide +kernel
theorem dX6_feed_4 : decode cX6_feed 4 = .ok (.invokestatic 65, 3) := by decide +kernel
theorem dX6_feed_7 : decode cX6_feed 7 = .ok (.ifCond .ne 5, 3) := by decide +kernel
theorem dX6_feed_10 : decode cX6_feed 10 = .ok (.iconst (-1), 1) := by decide +kernel
theorem dX6_feed_11 : decode cX6_feed 11 = .ok (.ireturn, 1) := by decide +kernel
theorem dX6_feed_12 : decode cX6_feed 12 = .ok (.aload_n 0, 1) := by decide +kernel
theorem dX6_feed_13 : decode cX6_feed 13 = .ok (.getfield 29, 3) := by decide +kernel
theorem dX6_feed_16 : decode cX6_feed 16 = .ok (.lload_n 1, 1) := by decide +kernel
theorem dX6_feed_17 : decode cX6_feed 17 = .ok (.iload_n 3, 1) := by decide +kernel
theorem dX6_feed_18 : decode cX6_feed 18 = .ok (.invokevirtual 69, 3) := by decide +kernel
theorem dX6_feed_21 : decode cX6_feed 21 = .ok (.ireturn, 1) := by decide +kernel
theorem dX6_school_0 : decode cX6_school 0 = .ok (.aload_n 0, 1) := by decide +kernel
theorem dX6_school_1 : decode cX6_school 1 = .ok (.getfield 16, 3) := by decide +kernel
theorem dX6_school_4 : decode cX6_school 4 = .ok (.invokevirtual 73, 3) := by decide +kernel
theorem dX6_school_7 : decode cX6_school 7 = .ok (.aload_n 0, 1) := by decide +kernel
theorem dX6_school_8 : decode cX6_school 8 = .ok (.getfield 16, 3) := by decide +kernel
theorem dX6_school_11 : decode cX6_school 11 = .ok (.aload_n 0, 1) := by decide +kernel
theorem dX6_school_12 : decode cX6_school 12 = .ok (.getfield 10, 3) := by decide +kernel
theorem dX6_school_15 : decode cX6_school 15 = .ok (.getfield 76, 3) := by decide +kernel
theorem dX6_school_18 : decode cX6_school 18 = .ok (.putfield 76, 3) := by decide +kernel
theorem dX6_school_21 : decode cX6_school 21 = .ok (.aload_n 0, 1) := by decide +kernel
theorem dX6_school_22 : decode cX6_school 22 = .ok (.getfield 29, 3) := by decide +kernel
theorem dX6_school_25 : decode cX6_school 25 = .ok (.aload_n 0, 1) := by decide +kernel
theorem dX6_school_26 : decode cX6_school 26 = .ok (.getfield 16, 3) := by decide +kernel
theorem dX6_school_29 : decode cX6_school 29 = .ok (.invokevirtual 80, 3) := by decide +kernel
theorem dX6_school_32 : decode cX6_school 32 = .ok (.istore_n 1, 1) := by decide +kernel
theorem dX6_school_33 : decode cX6_school 33 = .ok (.aload_n 0, 1) := by decide +kernel
theorem dX6_school_34 : decode cX6_school 34 = .ok (.getfield 29, 3) := by decide +kernel
theorem dX6_school_37 : decode cX6_school 37 = .ok (.iconst 0, 1) := by decide +kernel
theorem dX6_school_38 : decode cX6_school 38 = .ok (.putfield 84, 3) := by decide +kernel
theorem dX6_school_41 : decode cX6_school 41 = .ok (.iload_n 1, 1) := by decide +kernel
theorem dX6_school_42 : decode cX6_school 42 = .ok (.iconst (-1), 1) := by decide +kernel
theorem dX6_school_43 : decode cX6_school 43 = .ok (.if_icmp .eq 8, 3) := by decide +kernel
theorem dX6_school_46 : decode cX6_school 46 = .ok (.bipush (-100), 2) := by decide +kernel
theorem dX6_school_48 : decode cX6_school 48 = .ok (.iload_n 1, 1) := by decide +kernel
theorem dX6_school_49 : decode cX6_school 49 = .ok (.isub, 1) := by decide +kernel
theorem dX6_school_50 : decode cX6_school 50 = .ok (.ireturn, 1) := by decide +kernel
theorem dX6_school_51 : decode cX6_school 51 = .ok (.aload_n 0, 1) := by decide +kernel
theorem dX6_school_52 : decode cX6_school 52 = .ok (.getfield 10, 3) := by decide +kernel
theorem dX6_school_55 : decode cX6_school 55 = .ok (.aload_n 0, 1) := by decide +kernel
theorem dX6_school_56 : decode cX6_school 56 = .ok (.getfield 16, 3) := by decide +kernel
theorem dX6_school_59 : decode cX6_school 59 = .ok (.invokevirtual 87, 3) := by decide +kernel
theorem dX6_school_62 : decode cX6_school 62 = .ok (.aload_n 0, 1) := by decide +kernel
theorem dX6_school_63 : decode cX6_school 63 = .ok (.getfield 36, 3) := by decide +kernel
theorem dX6_school_66 : decode cX6_school 66 = .ok (.iconst 0, 1) := by decide +kernel
theorem dX6_school_67 : decode cX6_school 67 = .ok (.putfield 91, 3) := by decide +kernel
theorem dX6_school_70 : decode cX6_school 70 = .ok (.aload_n 0, 1) := by decide +kernel
theorem dX6_school_71 : decode cX6_school 71 = .ok (.getfield 10, 3) := by decide +kernel
theorem dX6_school_74 : decode cX6_school 74 = .ok (.getfield 94, 3) := by decide +kernel
theorem dX6_school_77 : decode cX6_school 77 = .ok (.ireturn, 1) := by decide +kernel
theorem dX6_set_0 : decode cX6_set 0 = .ok (.iload_n 1, 1) := by decide +kernel
theorem dX6_set_1 : decode cX6_set 1 = .ok (.iconst 3, 1) := by decide +kernel
theorem dX6_set_2 : decode cX6_set 2 = .ok (.invokestatic 97, 3) := by decide +kernel
theorem dX6_set_5 : decode cX6_set 5 = .ok (.ifCond .eq 15, 3) := by decide +kernel
theorem dX6_set_8 : decode cX6_set 8 = .ok (.iload_n 2, 1) := by decide +kernel
theorem dX6_set_9 : decode cX6_set 9 = .ok (.getstatic 101, 3) := by decide +kernel
theorem dX6_set_12 : decode cX6_set 12 = .ok (.iload_n 1, 1) := by decide +kernel
theorem dX6_set_13 : decode cX6_set 13 = .ok (.iaload, 1) := by decide +kernel
theorem dX6_set_14 : decode cX6_set 14 = .ok (.invokestatic 97, 3) := by decide +kernel
theorem dX6_set_17 : decode cX6_set 17 = .ok (.ifCond .ne 5, 3) := by decide +kernel
theorem dX6_set_20 : decode cX6_set 20 = .ok (.iconst (-1), 1) := by decide +kernel
theorem dX6_set_21 : decode cX6_set 21 = .ok (.ireturn, 1) := by decide +kernel
theorem dX6_set_22 : decode cX6_set 22 = .ok (.aload_n 0, 1) := by decide +kernel
theorem dX6_set_23 : decode cX6_set 23 = .ok (.getfield 10, 3) := by decide +kernel
theorem dX6_set_26 : decode cX6_set 26 = .ok (.getfield 104, 3) := by decide +kernel
theorem dX6_set_29 : decode cX6_set 29 = .ok (.iload_n 1, 1) := by decide +kernel
theorem dX6_set_30 : decode cX6_set 30 = .ok (.iaload, 1) := by decide +kernel
theorem dX6_set_31 : decode cX6_set 31 = .ok (.istore_n 3, 1) := by decide +kernel
theorem dX6_set_32 : decode cX6_set 32 = .ok (.aload_n 0, 1) := by decide +kernel
theorem dX6_set_33 : decode cX6_set 33 = .ok (.getfield 10, 3) := by decide +kernel
theorem dX6_set_36 : decode cX6_set 36 = .ok (.getfield 104, 3) := by decide +kernel
theorem dX6_set_39 : decode cX6_set 39 = .ok (.iload_n 1, 1) := by decide +kernel
theorem dX6_set_40 : decode cX6_set 40 = .ok (.iload_n 2, 1) := by decide +kernel
theorem dX6_set_41 : decode cX6_set 41 = .ok (.iastore, 1) := by decide +kernel
theorem dX6_set_42 : decode cX6_set 42 = .ok (.iload_n 3, 1) := by decide +kernel
theorem dX6_set_43 : decode cX6_set 43 = .ok (.ireturn, 1) := by decide +kernel
theorem dX6_lawOf_0 : decode cX6_lawOf 0 = .ok (.iload_n 1, 1) := by decide +kernel
theorem dX6_lawOf_1 : decode cX6_lawOf 1 = .ok (.iconst 3, 1) := by decide +kernel
theorem dX6_lawOf_2 : decode cX6_lawOf 2 = .ok (.invokestatic 97, 3) := by decide +kernel
theorem dX6_lawOf_5 : decode cX6_lawOf 5 = .ok (.ifCond .eq 15, 3) := by decide +kernel
theorem dX6_lawOf_8 : decode cX6_lawOf 8 = .ok (.aload_n 0, 1) := by decide +kernel
theorem dX6_lawOf_9 : decode cX6_lawOf 9 = .ok (.getfield 10, 3) := by decide +kernel
theorem dX6_lawOf_12 : decode cX6_lawOf 12 = .ok (.getfield 104, 3) := by decide +kernel
theorem dX6_lawOf_15 : decode cX6_lawOf 15 = .ok (.iload_n 1, 1) := by decide +kernel
theorem dX6_lawOf_16 : decode cX6_lawOf 16 = .ok (.iaload, 1) := by decide +kernel
theorem dX6_lawOf_17 : decode cX6_lawOf 17 = .ok (.goto 4, 3) := by decide +kernel
theorem dX6_lawOf_20 : decode cX6_lawOf 20 = .ok (.iconst (-1), 1) := by decide +kernel
theorem dX6_lawOf_21 : decode cX6_lawOf 21 = .ok (.ireturn, 1) := by decide +kernel
theorem dX6_person_0 : decode cX6_person 0 = .ok (.iload_n 1, 1) := by decide +kernel
theorem dX6_person_1 : decode cX6_person 1 = .ok (.iconst 5, 1) := by decide +kernel
theorem dX6_person_2 : decode cX6_person 2 = .ok (.invokestatic 97, 3) := by decide +kernel
theorem dX6_person_5 : decode cX6_person 5 = .ok (.ifCond .eq 30, 3) := by decide +kernel
theorem dX6_person_8 : decode cX6_person 8 = .ok (.iload_n 2, 1) := by decide +kernel
theorem dX6_person_9 : decode cX6_person 9 = .ok (.iconst 5, 1) := by decide +kernel
theorem dX6_person_10 : decode cX6_person 10 = .ok (.invokestatic 97, 3) := by decide +kernel
theorem dX6_person_13 : decode cX6_person 13 = .ok (.ifCond .eq 22, 3) := by decide +kernel
theorem dX6_person_16 : decode cX6_person 16 = .ok (.iload_n 3, 1) := by decide +kernel
theorem dX6_person_17 : decode cX6_person 17 = .ok (.bipush 99, 2) := by decide +kernel
theorem dX6_person_19 : decode cX6_person 19 = .ok (.invokestatic 97, 3) := by decide +kernel
theorem dX6_person_22 : decode cX6_person 22 = .ok (.ifCond .eq 13, 3) := by decide +kernel
theorem dX6_person_25 : decode cX6_person 25 = .ok (.iload 4, 2) := by decide +kernel
theorem dX6_person_27 : decode cX6_person 27 = .ok (.bipush 11, 2) := by decide +kernel
theorem dX6_person_29 : decode cX6_person 29 = .ok (.invokestatic 97, 3) := by decide +kernel
theorem dX6_person_32 : decode cX6_person 32 = .ok (.ifCond .ne 5, 3) := by decide +kernel
theorem dX6_person_35 : decode cX6_person 35 = .ok (.iconst (-1), 1) := by decide +kernel
theorem dX6_person_36 : decode cX6_person 36 = .ok (.ireturn, 1) := by decide +kernel
theorem dX6_person_37 : decode cX6_person 37 = .ok (.aload_n 0, 1) := by decide +kernel
theorem dX6_person_38 : decode cX6_person 38 = .ok (.getfield 10, 3) := by decide +kernel
theorem dX6_person_41 : decode cX6_person 41 = .ok (.iload_n 1, 1) := by decide +kernel
theorem dX6_person_42 : decode cX6_person 42 = .ok (.iload_n 2, 1) := by decide +kernel
theorem dX6_person_43 : decode cX6_person 43 = .ok (.iload_n 3, 1) := by decide +kernel
theorem dX6_person_44 : decode cX6_person 44 = .ok (.iload 4, 2) := by decide +kernel
theorem dX6_person_46 : decode cX6_person 46 = .ok (.invokevirtual 107, 3) := by decide +kernel
theorem dX6_person_49 : decode cX6_person 49 = .ok (.ireturn, 1) := by decide +kernel
theorem dX6_of_0 : decode cX6_of 0 = .ok (.aload_n 0, 1) := by decide +kernel
theorem dX6_of_1 : decode cX6_of 1 = .ok (.iload_n 1, 1) := by decide +kernel
theorem dX6_of_2 : decode cX6_of 2 = .ok (.invokevirtual 111, 3) := by decide +kernel
theorem dX6_of_5 : decode cX6_of 5 = .ok (.ifCond .ne 5, 3) := by decide +kernel
theorem dX6_of_8 : decode cX6_of 8 = .ok (.iconst (-1), 1) := by decide +kernel
theorem dX6_of_9 : decode cX6_of 9 = .ok (.ireturn, 1) := by decide +kernel
theorem dX6_of_10 : decode cX6_of 10 = .ok (.iload_n 2, 1) := by decide +kernel
theorem dX6_of_11 : decode cX6_of 11 = .ok (.tableswitch 96 0 5 #[37, 47, 57, 67, 77, 87], 37) := by decide +kernel
theorem dX6_of_48 : decode cX6_of 48 = .ok (.aload_n 0, 1) := by decide +kernel
theorem dX6_of_49 : decode cX6_of 49 = .ok (.getfield 10, 3) := by decide +kernel
theorem dX6_of_52 : decode cX6_of 52 = .ok (.getfield 115, 3) := by decide +kernel
theorem dX6_of_55 : decode cX6_of 55 = .ok (.iload_n 1, 1) := by decide +kernel
theorem dX6_of_56 : decode cX6_of 56 = .ok (.iaload, 1) := by decide +kernel
theorem dX6_of_57 : decode cX6_of 57 = .ok (.ireturn, 1) := by decide +kernel
theorem dX6_of_58 : decode cX6_of 58 = .ok (.aload_n 0, 1) := by decide +kernel
theorem dX6_of_59 : decode cX6_of 59 = .ok (.getfield 10, 3) := by decide +kernel
theorem dX6_of_62 : decode cX6_of 62 = .ok (.getfield 118, 3) := by decide +kernel
theorem dX6_of_65 : decode cX6_of 65 = .ok (.iload_n 1, 1) := by decide +kernel
theorem dX6_of_66 : decode cX6_of 66 = .ok (.iaload, 1) := by decide +kernel
theorem dX6_of_67 : decode cX6_of 67 = .ok (.ireturn, 1) := by decide +kernel
theorem dX6_of_68 : decode cX6_of 68 = .ok (.aload_n 0, 1) := by decide +kernel
theorem dX6_of_69 : decode cX6_of 69 = .ok (.getfield 10, 3) := by decide +kernel
theorem dX6_of_72 : decode cX6_of 72 = .ok (.getfield 121, 3) := by decide +kernel
theorem dX6_of_75 : decode cX6_of 75 = .ok (.iload_n 1, 1) := by decide +kernel
theorem dX6_of_76 : decode cX6_of 76 = .ok (.iaload, 1) := by decide +kernel
theorem dX6_of_77 : decode cX6_of 77 = .ok (.ireturn, 1) := by decide +kernel
theorem dX6_of_78 : decode cX6_of 78 = .ok (.aload_n 0, 1) := by decide +kernel
theorem dX6_of_79 : decode cX6_of 79 = .ok (.getfield 10, 3) := by decide +kernel
theorem dX6_of_82 : decode cX6_of 82 = .ok (.getfield 124, 3) := by decide +kernel
theorem dX6_of_85 : decode cX6_of 85 = .ok (.iload_n 1, 1) := by decide +kernel
theorem dX6_of_86 : decode cX6_of 86 = .ok (.iaload, 1) := by decide +kernel
theorem dX6_of_87 : decode cX6_of 87 = .ok (.ireturn, 1) := by decide +kernel
theorem dX6_of_88 : decode cX6_of 88 = .ok (.aload_n 0, 1) := by decide +kernel
theorem dX6_of_89 : decode cX6_of 89 = .ok (.getfield 10, 3) := by decide +kernel
theorem dX6_of_92 : decode cX6_of 92 = .ok (.getfield 127, 3) := by decide +kernel
theorem dX6_of_95 : decode cX6_of 95 = .ok (.iload_n 1, 1) := by decide +kernel
theorem dX6_of_96 : decode cX6_of 96 = .ok (.iaload, 1) := by decide +kernel
theorem dX6_of_97 : decode cX6_of 97 = .ok (.ireturn, 1) := by decide +kernel
theorem dX6_of_98 : decode cX6_of 98 = .ok (.aload_n 0, 1) := by decide +kernel
theorem dX6_of_99 : decode cX6_of 99 = .ok (.getfield 10, 3) := by decide +kernel
theorem dX6_of_102 : decode cX6_of 102 = .ok (.iload_n 1, 1) := by decide +kernel
theorem dX6_of_103 : decode cX6_of 103 = .ok (.invokevirtual 130, 3) := by decide +kernel
theorem dX6_of_106 : decode cX6_of 106 = .ok (.ireturn, 1) := by decide +kernel
theorem dX6_of_107 : decode cX6_of 107 = .ok (.iconst (-1), 1) := by decide +kernel
theorem dX6_of_108 : decode cX6_of 108 = .ok (.ireturn, 1) := by decide +kernel
theorem dX6_leans_0 : decode cX6_leans 0 = .ok (.aload_n 0, 1) := by decide +kernel
theorem dX6_leans_1 : decode cX6_leans 1 = .ok (.iload_n 1, 1) := by decide +kernel
theorem dX6_leans_2 : decode cX6_leans 2 = .ok (.invokevirtual 111, 3) := by decide +kernel
theorem dX6_leans_5 : decode cX6_leans 5 = .ok (.ifCond .eq 13, 3) := by decide +kernel
theorem dX6_leans_8 : decode cX6_leans 8 = .ok (.iload_n 2, 1) := by decide +kernel
theorem dX6_leans_9 : decode cX6_leans 9 = .ok (.sipush 9999, 3) := by decide +kernel
theorem dX6_leans_12 : decode cX6_leans 12 = .ok (.invokestatic 97, 3) := by decide +kernel
theorem dX6_leans_15 : decode cX6_leans 15 = .ok (.ifCond .ne 5, 3) := by decide +kernel
theorem dX6_leans_18 : decode cX6_leans 18 = .ok (.iconst (-1), 1) := by decide +kernel
theorem dX6_leans_19 : decode cX6_leans 19 = .ok (.ireturn, 1) := by decide +kernel
theorem dX6_leans_20 : decode cX6_leans 20 = .ok (.sipush 1000, 3) := by decide +kernel
theorem dX6_leans_23 : decode cX6_leans 23 = .ok (.aload_n 0, 1) := by decide +kernel
theorem dX6_leans_24 : decode cX6_leans 24 = .ok (.getfield 10, 3) := by decide +kernel
theorem dX6_leans_27 : decode cX6_leans 27 = .ok (.iload_n 1, 1) := by decide +kernel
theorem dX6_leans_28 : decode cX6_leans 28 = .ok (.iload_n 2, 1) := by decide +kernel
theorem dX6_leans_29 : decode cX6_leans 29 = .ok (.invokevirtual 134, 3) := by decide +kernel
theorem dX6_leans_32 : decode cX6_leans 32 = .ok (.iadd, 1) := by decide +kernel
theorem dX6_leans_33 : decode cX6_leans 33 = .ok (.ireturn, 1) := by decide +kernel
theorem dX6_strides_0 : decode cX6_strides 0 = .ok (.aload_n 0, 1) := by decide +kernel
theorem dX6_strides_1 : decode cX6_strides 1 = .ok (.iload_n 1, 1) := by decide +kernel
theorem dX6_strides_2 : decode cX6_strides 2 = .ok (.invokevirtual 111, 3) := by decide +kernel
theorem dX6_strides_5 : decode cX6_strides 5 = .ok (.ifCond .eq 18, 3) := by decide +kernel
theorem dX6_strides_8 : decode cX6_strides 8 = .ok (.sipush 1000, 3) := by decide +kernel
theorem dX6_strides_11 : decode cX6_strides 11 = .ok (.aload_n 0, 1) := by decide +kernel
theorem dX6_strides_12 : decode cX6_strides 12 = .ok (.getfield 10, 3) := by decide +kernel
theorem dX6_strides_15 : decode cX6_strides 15 = .ok (.iload_n 1, 1) := by decide +kernel
theorem dX6_strides_16 : decode cX6_strides 16 = .ok (.invokevirtual 138, 3) := by decide +kernel
theorem dX6_strides_19 : decode cX6_strides 19 = .ok (.iadd, 1) := by decide +kernel
theorem dX6_strides_20 : decode cX6_strides 20 = .ok (.goto 4, 3) := by decide +kernel
theorem dX6_strides_23 : decode cX6_strides 23 = .ok (.iconst (-1), 1) := by decide +kernel
theorem dX6_strides_24 : decode cX6_strides 24 = .ok (.ireturn, 1) := by decide +kernel
theorem dX6_mind_0 : decode cX6_mind 0 = .ok (.aload_n 0, 1) := by decide +kernel
theorem dX6_mind_1 : decode cX6_mind 1 = .ok (.iload_n 1, 1) := by decide +kernel
theorem dX6_mind_2 : decode cX6_mind 2 = .ok (.invokevirtual 111, 3) := by decide +kernel
theorem dX6_mind_5 : decode cX6_mind 5 = .ok (.ifCond .eq 19, 3) := by decide +kernel
theorem dX6_mind_8 : decode cX6_mind 8 = .ok (.iload_n 2, 1) := by decide +kernel
theorem dX6_mind_9 : decode cX6_mind 9 = .ok (.iconst 5, 1) := by decide +kernel
theorem dX6_mind_10 : decode cX6_mind 10 = .ok (.invokestatic 97, 3) := by decide +kernel
theorem dX6_mind_13 : decode cX6_mind 13 = .ok (.ifCond .eq 11, 3) := by decide +kernel
theorem dX6_mind_16 : decode cX6_mind 16 = .ok (.iload_n 3, 1) := by decide +kernel
theorem dX6_mind_17 : decode cX6_mind 17 = .ok (.iconst 5, 1) := by decide +kernel
theorem dX6_mind_18 : decode cX6_mind 18 = .ok (.invokestatic 97, 3) := by decide +kernel
theorem dX6_mind_21 : decode cX6_mind 21 = .ok (.ifCond .ne 5, 3) := by decide +kernel
theorem dX6_mind_24 : decode cX6_mind 24 = .ok (.iconst (-1), 1) := by decide +kernel
theorem dX6_mind_25 : decode cX6_mind 25 = .ok (.ireturn, 1) := by decide +kernel
theorem dX6_mind_26 : decode cX6_mind 26 = .ok (.aload_n 0, 1) := by decide +kernel
theorem dX6_mind_27 : decode cX6_mind 27 = .ok (.getfield 10, 3) := by decide +kernel
theorem dX6_mind_30 : decode cX6_mind 30 = .ok (.getfield 115, 3) := by decide +kernel
theorem dX6_mind_33 : decode cX6_mind 33 = .ok (.iload_n 1, 1) := by decide +kernel
theorem dX6_mind_34 : decode cX6_mind 34 = .ok (.iaload, 1) := by decide +kernel
theorem dX6_mind_35 : decode cX6_mind 35 = .ok (.istore 4, 2) := by decide +kernel
theorem dX6_mind_37 : decode cX6_mind 37 = .ok (.aload_n 0, 1) := by decide +kernel
theorem dX6_mind_38 : decode cX6_mind 38 = .ok (.getfield 10, 3) := by decide +kernel
theorem dX6_mind_41 : decode cX6_mind 41 = .ok (.getfield 115, 3) := by decide +kernel
theorem dX6_mind_44 : decode cX6_mind 44 = .ok (.iload_n 1, 1) := by decide +kernel
theorem dX6_mind_45 : decode cX6_mind 45 = .ok (.iload_n 2, 1) := by decide +kernel
theorem dX6_mind_46 : decode cX6_mind 46 = .ok (.iastore, 1) := by decide +kernel
theorem dX6_mind_47 : decode cX6_mind 47 = .ok (.aload_n 0, 1) := by decide +kernel
theorem dX6_mind_48 : decode cX6_mind 48 = .ok (.getfield 10, 3) := by decide +kernel
theorem dX6_mind_51 : decode cX6_mind 51 = .ok (.getfield 118, 3) := by decide +kernel
theorem dX6_mind_54 : decode cX6_mind 54 = .ok (.iload_n 1, 1) := by decide +kernel
theorem dX6_mind_55 : decode cX6_mind 55 = .ok (.iload_n 3, 1) := by decide +kernel
theorem dX6_mind_56 : decode cX6_mind 56 = .ok (.iastore, 1) := by decide +kernel
theorem dX6_mind_57 : decode cX6_mind 57 = .ok (.iload 4, 2) := by decide +kernel
theorem dX6_mind_59 : decode cX6_mind 59 = .ok (.ireturn, 1) := by decide +kernel
theorem dX6_age_0 : decode cX6_age 0 = .ok (.aload_n 0, 1) := by decide +kernel
theorem dX6_age_1 : decode cX6_age 1 = .ok (.iload_n 1, 1) := by decide +kernel
theorem dX6_age_2 : decode cX6_age 2 = .ok (.invokevirtual 111, 3) := by decide +kernel
theorem dX6_age_5 : decode cX6_age 5 = .ok (.ifCond .eq 12, 3) := by decide +kernel
theorem dX6_age_8 : decode cX6_age 8 = .ok (.iload_n 2, 1) := by decide +kernel
theorem dX6_age_9 : decode cX6_age 9 = .ok (.bipush 99, 2) := by decide +kernel
theorem dX6_age_11 : decode cX6_age 11 = .ok (.invokestatic 97, 3) := by decide +kernel
theorem dX6_age_14 : decode cX6_age 14 = .ok (.ifCond .ne 5, 3) := by decide +kernel
theorem dX6_age_17 : decode cX6_age 17 = .ok (.iconst (-1), 1) := by decide +kernel
theorem dX6_age_18 : decode cX6_age 18 = .ok (.ireturn, 1) := by decide +kernel
theorem dX6_age_19 : decode cX6_age 19 = .ok (.aload_n 0, 1) := by decide +kernel
theorem dX6_age_20 : decode cX6_age 20 = .ok (.getfield 10, 3) := by decide +kernel
theorem dX6_age_23 : decode cX6_age 23 = .ok (.getfield 121, 3) := by decide +kernel
theorem dX6_age_26 : decode cX6_age 26 = .ok (.iload_n 1, 1) := by decide +kernel
theorem dX6_age_27 : decode cX6_age 27 = .ok (.iaload, 1) := by decide +kernel
theorem dX6_age_28 : decode cX6_age 28 = .ok (.istore_n 3, 1) := by decide +kernel
theorem dX6_age_29 : decode cX6_age 29 = .ok (.aload_n 0, 1) := by decide +kernel
theorem dX6_age_30 : decode cX6_age 30 = .ok (.getfield 10, 3) := by decide +kernel
theorem dX6_age_33 : decode cX6_age 33 = .ok (.getfield 121, 3) := by decide +kernel
theorem dX6_age_36 : decode cX6_age 36 = .ok (.iload_n 1, 1) := by decide +kernel
theorem dX6_age_37 : decode cX6_age 37 = .ok (.iload_n 2, 1) := by decide +kernel
theorem dX6_age_38 : decode cX6_age 38 = .ok (.iastore, 1) := by decide +kernel
theorem dX6_age_39 : decode cX6_age 39 = .ok (.iload_n 3, 1) := by decide +kernel
theorem dX6_age_40 : decode cX6_age 40 = .ok (.ireturn, 1) := by decide +kernel
theorem dX6_bring_0 : decode cX6_bring 0 = .ok (.aload_n 0, 1) := by decide +kernel
theorem dX6_bring_1 : decode cX6_bring 1 = .ok (.iload_n 1, 1) := by decide +kernel
theorem dX6_bring_2 : decode cX6_bring 2 = .ok (.invokevirtual 111, 3) := by decide +kernel
theorem dX6_bring_5 : decode cX6_bring 5 = .ok (.ifCond .eq 12, 3) := by decide +kernel
theorem dX6_bring_8 : decode cX6_bring 8 = .ok (.iload_n 2, 1) := by decide +kernel
theorem dX6_bring_9 : decode cX6_bring 9 = .ok (.bipush 11, 2) := by decide +kernel
theorem dX6_bring_11 : decode cX6_bring 11 = .ok (.invokestatic 97, 3) := by decide +kernel
theorem dX6_bring_14 : decode cX6_bring 14 = .ok (.ifCond .ne 5, 3) := by decide +kernel
theorem dX6_bring_17 : decode cX6_bring 17 = .ok (.iconst (-1), 1) := by decide +kernel
theorem dX6_bring_18 : decode cX6_bring 18 = .ok (.ireturn, 1) := by decide +kernel
theorem dX6_bring_19 : decode cX6_bring 19 = .ok (.aload_n 0, 1) := by decide +kernel
theorem dX6_bring_20 : decode cX6_bring 20 = .ok (.getfield 10, 3) := by decide +kernel
theorem dX6_bring_23 : decode cX6_bring 23 = .ok (.getfield 124, 3) := by decide +kernel
theorem dX6_bring_26 : decode cX6_bring 26 = .ok (.iload_n 1, 1) := by decide +kernel
theorem dX6_bring_27 : decode cX6_bring 27 = .ok (.iaload, 1) := by decide +kernel
theorem dX6_bring_28 : decode cX6_bring 28 = .ok (.istore_n 3, 1) := by decide +kernel
theorem dX6_bring_29 : decode cX6_bring 29 = .ok (.aload_n 0, 1) := by decide +kernel
theorem dX6_bring_30 : decode cX6_bring 30 = .ok (.getfield 10, 3) := by decide +kernel
theorem dX6_bring_33 : decode cX6_bring 33 = .ok (.getfield 124, 3) := by decide +kernel
theorem dX6_bring_36 : decode cX6_bring 36 = .ok (.iload_n 1, 1) := by decide +kernel
theorem dX6_bring_37 : decode cX6_bring 37 = .ok (.iload_n 2, 1) := by decide +kernel
theorem dX6_bring_38 : decode cX6_bring 38 = .ok (.iastore, 1) := by decide +kernel
theorem dX6_bring_39 : decode cX6_bring 39 = .ok (.iload_n 3, 1) := by decide +kernel
theorem dX6_bring_40 : decode cX6_bring 40 = .ok (.ireturn, 1) := by decide +kernel
theorem dX6_know_0 : decode cX6_know 0 = .ok (.aload_n 0, 1) := by decide +kernel
theorem dX6_know_1 : decode cX6_know 1 = .ok (.iload_n 1, 1) := by decide +kernel
theorem dX6_know_2 : decode cX6_know 2 = .ok (.iload_n 2, 1) := by decide +kernel
theorem dX6_know_3 : decode cX6_know 3 = .ok (.invokevirtual 141, 3) := by decide +kernel
theorem dX6_know_6 : decode cX6_know 6 = .ok (.ifCond .eq 11, 3) := by decide +kernel
theorem dX6_know_9 : decode cX6_know 9 = .ok (.iload_n 3, 1) := by decide +kernel
theorem dX6_know_10 : decode cX6_know 10 = .ok (.iconst 1, 1) := by decide +kernel
theorem dX6_know_11 : decode cX6_know 11 = .ok (.invokestatic 97, 3) := by decide +kernel
theorem dX6_know_14 : decode cX6_know 14 = .ok (.ifCond .ne 5, 3) := by decide +kernel
theorem dX6_know_17 : decode cX6_know 17 = .ok (.iconst (-1), 1) := by decide +kernel
theorem dX6_know_18 : decode cX6_know 18 = .ok (.ireturn, 1) := by decide +kernel
theorem dX6_know_19 : decode cX6_know 19 = .ok (.aload_n 0, 1) := by decide +kernel
theorem dX6_know_20 : decode cX6_know 20 = .ok (.getfield 10, 3) := by decide +kernel
theorem dX6_know_23 : decode cX6_know 23 = .ok (.iload_n 1, 1) := by decide +kernel
theorem dX6_know_24 : decode cX6_know 24 = .ok (.iload_n 2, 1) := by decide +kernel
theorem dX6_know_25 : decode cX6_know 25 = .ok (.invokevirtual 144, 3) := by decide +kernel
theorem dX6_know_28 : decode cX6_know 28 = .ok (.ifCond .eq 7, 3) := by decide +kernel
theorem dX6_know_31 : decode cX6_know 31 = .ok (.iconst 1, 1) := by decide +kernel
theorem dX6_know_32 : decode cX6_know 32 = .ok (.goto 4, 3) := by decide +kernel
theorem dX6_know_35 : decode cX6_know 35 = .ok (.iconst 0, 1) := by decide +kernel
theorem dX6_know_36 : decode cX6_know 36 = .ok (.istore 4, 2) := by decide +kernel
theorem dX6_know_38 : decode cX6_know 38 = .ok (.iload_n 3, 1) := by decide +kernel
theorem dX6_know_39 : decode cX6_know 39 = .ok (.iconst 1, 1) := by decide +kernel
theorem dX6_know_40 : decode cX6_know 40 = .ok (.if_icmp .ne 15, 3) := by decide +kernel
theorem dX6_know_43 : decode cX6_know 43 = .ok (.aload_n 0, 1) := by decide +kernel
theorem dX6_know_44 : decode cX6_know 44 = .ok (.getfield 10, 3) := by decide +kernel
theorem dX6_know_47 : decode cX6_know 47 = .ok (.iload_n 1, 1) := by decide +kernel
theorem dX6_know_48 : decode cX6_know 48 = .ok (.iload_n 2, 1) := by decide +kernel
theorem dX6_know_49 : decode cX6_know 49 = .ok (.invokevirtual 147, 3) := by decide +kernel
theorem dX6_know_52 : decode cX6_know 52 = .ok (.goto 12, 3) := by decide +kernel
theorem dX6_know_55 : decode cX6_know 55 = .ok (.aload_n 0, 1) := by decide +kernel
theorem dX6_know_56 : decode cX6_know 56 = .ok (.getfield 10, 3) := by decide +kernel
theorem dX6_know_59 : decode cX6_know 59 = .ok (.iload_n 1, 1) := by decide +kernel
theorem dX6_know_60 : decode cX6_know 60 = .ok (.iload_n 2, 1) := by decide +kernel
theorem dX6_know_61 : decode cX6_know 61 = .ok (.invokevirtual 151, 3) := by decide +kernel
theorem dX6_know_64 : decode cX6_know 64 = .ok (.iload 4, 2) := by decide +kernel
theorem dX6_know_66 : decode cX6_know 66 = .ok (.ireturn, 1) := by decide +kernel
theorem dX6_weigh_0 : decode cX6_weigh 0 = .ok (.iload_n 1, 1) := by decide +kernel
theorem dX6_weigh_1 : decode cX6_weigh 1 = .ok (.iconst 5, 1) := by decide +kernel
theorem dX6_weigh_2 : decode cX6_weigh 2 = .ok (.invokestatic 97, 3) := by decide +kernel
theorem dX6_weigh_5 : decode cX6_weigh 5 = .ok (.ifCond .eq 12, 3) := by decide +kernel
theorem dX6_weigh_8 : decode cX6_weigh 8 = .ok (.iload_n 2, 1) := by decide +kernel
theorem dX6_weigh_9 : decode cX6_weigh 9 = .ok (.bipush 99, 2) := by decide +kernel
theorem dX6_weigh_11 : decode cX6_weigh 11 = .ok (.invokestatic 97, 3) := by decide +kernel
theorem dX6_weigh_14 : decode cX6_weigh 14 = .ok (.ifCond .ne 5, 3) := by decide +kernel
theorem dX6_weigh_17 : decode cX6_weigh 17 = .ok (.iconst (-1), 1) := by decide +kernel
theorem dX6_weigh_18 : decode cX6_weigh 18 = .ok (.ireturn, 1) := by decide +kernel
theorem dX6_weigh_19 : decode cX6_weigh 19 = .ok (.aload_n 0, 1) := by decide +kernel
theorem dX6_weigh_20 : decode cX6_weigh 20 = .ok (.getfield 10, 3) := by decide +kernel
theorem dX6_weigh_23 : decode cX6_weigh 23 = .ok (.getfield 154, 3) := by decide +kernel
theorem dX6_weigh_26 : decode cX6_weigh 26 = .ok (.iload_n 1, 1) := by decide +kernel
theorem dX6_weigh_27 : decode cX6_weigh 27 = .ok (.iaload, 1) := by decide +kernel
theorem dX6_weigh_28 : decode cX6_weigh 28 = .ok (.istore_n 3, 1) := by decide +kernel
theorem dX6_weigh_29 : decode cX6_weigh 29 = .ok (.aload_n 0, 1) := by decide +kernel
theorem dX6_weigh_30 : decode cX6_weigh 30 = .ok (.getfield 10, 3) := by decide +kernel
theorem dX6_weigh_33 : decode cX6_weigh 33 = .ok (.getfield 154, 3) := by decide +kernel
theorem dX6_weigh_36 : decode cX6_weigh 36 = .ok (.iload_n 1, 1) := by decide +kernel
theorem dX6_weigh_37 : decode cX6_weigh 37 = .ok (.iload_n 2, 1) := by decide +kernel
theorem dX6_weigh_38 : decode cX6_weigh 38 = .ok (.iastore, 1) := by decide +kernel
theorem dX6_weigh_39 : decode cX6_weigh 39 = .ok (.iload_n 3, 1) := by decide +kernel
theorem dX6_weigh_40 : decode cX6_weigh 40 = .ok (.ireturn, 1) := by decide +kernel
theorem dX6_peg_0 : decode cX6_peg 0 = .ok (.iload_n 1, 1) := by decide +kernel
theorem dX6_peg_1 : decode cX6_peg 1 = .ok (.iconst 5, 1) := by decide +kernel
theorem dX6_peg_2 : decode cX6_peg 2 = .ok (.invokestatic 97, 3) := by decide +kernel
theorem dX6_peg_5 : decode cX6_peg 5 = .ok (.ifCond .eq 11, 3) := by decide +kernel
theorem dX6_peg_8 : decode cX6_peg 8 = .ok (.iload_n 2, 1) := by decide +kernel
theorem dX6_peg_9 : decode cX6_peg 9 = .ok (.iconst 1, 1) := by decide +kernel
theorem dX6_peg_10 : decode cX6_peg 10 = .ok (.invokestatic 97, 3) := by decide +kernel
theorem dX6_peg_13 : decode cX6_peg 13 = .ok (.ifCond .ne 5, 3) := by decide +kernel
theorem dX6_peg_16 : decode cX6_peg 16 = .ok (.iconst (-1), 1) := by decide +kernel
theorem dX6_peg_17 : decode cX6_peg 17 = .ok (.ireturn, 1) := by decide +kernel
theorem dX6_peg_18 : decode cX6_peg 18 = .ok (.iload_n 2, 1) := by decide +kernel
theorem dX6_peg_19 : decode cX6_peg 19 = .ok (.ifCond .ne 15, 3) := by decide +kernel
theorem dX6_peg_22 : decode cX6_peg 22 = .ok (.aload_n 0, 1) := by decide +kernel
theorem dX6_peg_23 : decode cX6_peg 23 = .ok (.getfield 10, 3) := by decide +kernel
theorem dX6_peg_26 : decode cX6_peg 26 = .ok (.getfield 154, 3) := by decide +kernel
theorem dX6_peg_29 : decode cX6_peg 29 = .ok (.iload_n 1, 1) := by decide +kernel
theorem dX6_peg_30 : decode cX6_peg 30 = .ok (.iaload, 1) := by decide +kernel
theorem dX6_peg_31 : decode cX6_peg 31 = .ok (.goto 11, 3) := by decide +kernel
theorem dX6_peg_34 : decode cX6_peg 34 = .ok (.aload_n 0, 1) := by decide +kernel
theorem dX6_peg_35 : decode cX6_peg 35 = .ok (.getfield 10, 3) := by decide +kernel
theorem dX6_peg_38 : decode cX6_peg 38 = .ok (.iload_n 1, 1) := by decide +kernel
theorem dX6_peg_39 : decode cX6_peg 39 = .ok (.invokevirtual 157, 3) := by decide +kernel
theorem dX6_peg_42 : decode cX6_peg 42 = .ok (.ireturn, 1) := by decide +kernel
theorem dX6_hours_0 : decode cX6_hours 0 = .ok (.iload_n 1, 1) := by decide +kernel
theorem dX6_hours_1 : decode cX6_hours 1 = .ok (.iconst 1, 1) := by decide +kernel
theorem dX6_hours_2 : decode cX6_hours 2 = .ok (.bipush 60, 2) := by decide +kernel
theorem dX6_hours_4 : decode cX6_hours 4 = .ok (.invokestatic 65, 3) := by decide +kernel
theorem dX6_hours_7 : decode cX6_hours 7 = .ok (.ifCond .ne 5, 3) := by decide +kernel
theorem dX6_hours_10 : decode cX6_hours 10 = .ok (.iconst (-1), 1) := by decide +kernel
theorem dX6_hours_11 : decode cX6_hours 11 = .ok (.ireturn, 1) := by decide +kernel
theorem dX6_hours_12 : decode cX6_hours 12 = .ok (.aload_n 0, 1) := by decide +kernel
theorem dX6_hours_13 : decode cX6_hours 13 = .ok (.getfield 10, 3) := by decide +kernel
theorem dX6_hours_16 : decode cX6_hours 16 = .ok (.iload_n 1, 1) := by decide +kernel
theorem dX6_hours_17 : decode cX6_hours 17 = .ok (.invokevirtual 160, 3) := by decide +kernel
theorem dX6_hours_20 : decode cX6_hours 20 = .ok (.aload_n 0, 1) := by decide +kernel
theorem dX6_hours_21 : decode cX6_hours 21 = .ok (.getfield 10, 3) := by decide +kernel
theorem dX6_hours_24 : decode cX6_hours 24 = .ok (.invokevirtual 164, 3) := by decide +kernel
theorem dX6_hours_27 : decode cX6_hours 27 = .ok (.ireturn, 1) := by decide +kernel
theorem dX6_seed_0 : decode cX6_seed 0 = .ok (.aload_n 0, 1) := by decide +kernel
theorem dX6_seed_1 : decode cX6_seed 1 = .ok (.getfield 10, 3) := by decide +kernel
theorem dX6_seed_4 : decode cX6_seed 4 = .ok (.getfield 76, 3) := by decide +kernel
theorem dX6_seed_7 : decode cX6_seed 7 = .ok (.istore_n 2, 1) := by decide +kernel
theorem dX6_seed_8 : decode cX6_seed 8 = .ok (.aload_n 0, 1) := by decide +kernel
theorem dX6_seed_9 : decode cX6_seed 9 = .ok (.getfield 10, 3) := by decide +kernel
theorem dX6_seed_12 : decode cX6_seed 12 = .ok (.iload_n 1, 1) := by decide +kernel
theorem dX6_seed_13 : decode cX6_seed 13 = .ok (.putfield 76, 3) := by decide +kernel
theorem dX6_seed_16 : decode cX6_seed 16 = .ok (.iload_n 2, 1) := by decide +kernel
theorem dX6_seed_17 : decode cX6_seed 17 = .ok (.ireturn, 1) := by decide +kernel
theorem dX6_hour_0 : decode cX6_hour 0 = .ok (.aload_n 0, 1) := by decide +kernel
theorem dX6_hour_1 : decode cX6_hour 1 = .ok (.getfield 10, 3) := by decide +kernel
theorem dX6_hour_4 : decode cX6_hour 4 = .ok (.invokevirtual 168, 3) := by decide +kernel
theorem dX6_hour_7 : decode cX6_hour 7 = .ok (.aload_n 0, 1) := by decide +kernel
theorem dX6_hour_8 : decode cX6_hour 8 = .ok (.getfield 10, 3) := by decide +kernel
theorem dX6_hour_11 : decode cX6_hour 11 = .ok (.invokevirtual 164, 3) := by decide +kernel
theorem dX6_hour_14 : decode cX6_hour 14 = .ok (.ireturn, 1) := by decide +kernel
theorem dX6_found_0 : decode cX6_found 0 = .ok (.iload_n 1, 1) := by decide +kernel
theorem dX6_found_1 : decode cX6_found 1 = .ok (.iconst 1, 1) := by decide +kernel
theorem dX6_found_2 : decode cX6_found 2 = .ok (.bipush 30, 2) := by decide +kernel
theorem dX6_found_4 : decode cX6_found 4 = .ok (.invokestatic 65, 3) := by decide +kernel
theorem dX6_found_7 : decode cX6_found 7 = .ok (.ifCond .ne 5, 3) := by decide +kernel
theorem dX6_found_10 : decode cX6_found 10 = .ok (.iconst (-1), 1) := by decide +kernel
theorem dX6_found_11 : decode cX6_found 11 = .ok (.ireturn, 1) := by decide +kernel
theorem dX6_found_12 : decode cX6_found 12 = .ok (.aload_n 0, 1) := by decide +kernel
theorem dX6_found_13 : decode cX6_found 13 = .ok (.getfield 16, 3) := by decide +kernel
theorem dX6_found_16 : decode cX6_found 16 = .ok (.aload_n 0, 1) := by decide +kernel
theorem dX6_found_17 : decode cX6_found 17 = .ok (.getfield 10, 3) := by decide +kernel
theorem dX6_found_20 : decode cX6_found 20 = .ok (.invokevirtual 87, 3) := by decide +kernel
theorem dX6_found_23 : decode cX6_found 23 = .ok (.aload_n 0, 1) := by decide +kernel
theorem dX6_found_24 : decode cX6_found 24 = .ok (.getfield 16, 3) := by decide +kernel
theorem dX6_found_27 : decode cX6_found 27 = .ok (.invokevirtual 171, 3) := by decide +kernel
theorem dX6_found_30 : decode cX6_found 30 = .ok (.aload_n 0, 1) := by decide +kernel
theorem dX6_found_31 : decode cX6_found 31 = .ok (.getfield 16, 3) := by decide +kernel
theorem dX6_found_34 : decode cX6_found 34 = .ok (.invokevirtual 164, 3) := by decide +kernel
theorem dX6_found_37 : decode cX6_found 37 = .ok (.istore_n 2, 1) := by decide +kernel
theorem dX6_found_38 : decode cX6_found 38 = .ok (.aload_n 0, 1) := by decide +kernel
theorem dX6_found_39 : decode cX6_found 39 = .ok (.getfield 10, 3) := by decide +kernel
theorem dX6_found_42 : decode cX6_found 42 = .ok (.getfield 76, 3) := by decide +kernel
theorem dX6_found_45 : decode cX6_found 45 = .ok (.istore_n 3, 1) := by decide +kernel
theorem dX6_found_46 : decode cX6_found 46 = .ok (.iconst 0, 1) := by decide +kernel
theorem dX6_found_47 : decode cX6_found 47 = .ok (.istore 4, 2) := by decide +kernel
theorem dX6_found_49 : decode cX6_found 49 = .ok (.iconst 0, 1) := by decide +kernel
theorem dX6_found_50 : decode cX6_found 50 = .ok (.istore 5, 2) := by decide +kernel
theorem dX6_found_52 : decode cX6_found 52 = .ok (.iload 5, 2) := by decide +kernel
theorem dX6_found_54 : decode cX6_found 54 = .ok (.iload_n 1, 1) := by decide +kernel
theorem dX6_found_55 : decode cX6_found 55 = .ok (.if_icmp .ge 57, 3) := by decide +kernel
theorem dX6_found_58 : decode cX6_found 58 = .ok (.aload_n 0, 1) := by decide +kernel
theorem dX6_found_59 : decode cX6_found 59 = .ok (.getfield 16, 3) := by decide +kernel
theorem dX6_found_62 : decode cX6_found 62 = .ok (.aload_n 0, 1) := by decide +kernel
theorem dX6_found_63 : decode cX6_found 63 = .ok (.getfield 10, 3) := by decide +kernel
theorem dX6_found_66 : decode cX6_found 66 = .ok (.invokevirtual 87, 3) := by decide +kernel
theorem dX6_found_69 : decode cX6_found 69 = .ok (.aload_n 0, 1) := by decide +kernel
theorem dX6_found_70 : decode cX6_found 70 = .ok (.getfield 16, 3) := by decide +kernel
theorem dX6_found_73 : decode cX6_found 73 = .ok (.iload_n 3, 1) := by decide +kernel
theorem dX6_found_74 : decode cX6_found 74 = .ok (.putfield 76, 3) := by decide +kernel
theorem dX6_found_77 : decode cX6_found 77 = .ok (.aload_n 0, 1) := by decide +kernel
theorem dX6_found_78 : decode cX6_found 78 = .ok (.getfield 16, 3) := by decide +kernel
theorem dX6_found_81 : decode cX6_found 81 = .ok (.invokevirtual 168, 3) := by decide +kernel
theorem dX6_found_84 : decode cX6_found 84 = .ok (.aload_n 0, 1) := by decide +kernel
theorem dX6_found_85 : decode cX6_found 85 = .ok (.getfield 16, 3) := by decide +kernel
theorem dX6_found_88 : decode cX6_found 88 = .ok (.getfield 76, 3) := by decide +kernel
theorem dX6_found_91 : decode cX6_found 91 = .ok (.istore_n 3, 1) := by decide +kernel
theorem dX6_found_92 : decode cX6_found 92 = .ok (.aload_n 0, 1) := by decide +kernel
theorem dX6_found_93 : decode cX6_found 93 = .ok (.getfield 16, 3) := by decide +kernel
theorem dX6_found_96 : decode cX6_found 96 = .ok (.invokevirtual 164, 3) := by decide +kernel
theorem dX6_found_99 : decode cX6_found 99 = .ok (.iload_n 2, 1) := by decide +kernel
theorem dX6_found_100 : decode cX6_found 100 = .ok (.if_icmp .le 6, 3) := by decide +kernel
theorem dX6_found_103 : decode cX6_found 103 = .ok (.iinc 4 1, 3) := by decide +kernel
theorem dX6_found_106 : decode cX6_found 106 = .ok (.iinc 5 1, 3) := by decide +kernel
theorem dX6_found_109 : decode cX6_found 109 = .ok (.goto (-57), 3) := by decide +kernel
theorem dX6_found_112 : decode cX6_found 112 = .ok (.iload 4, 2) := by decide +kernel
theorem dX6_found_114 : decode cX6_found 114 = .ok (.ireturn, 1) := by decide +kernel
theorem dX6_state_0 : decode cX6_state 0 = .ok (.iload_n 1, 1) := by decide +kernel
theorem dX6_state_1 : decode cX6_state 1 = .ok (.tableswitch 87 0 5 #[39, 47, 55, 63, 71, 79], 39) := by decide +kernel
theorem dX6_state_40 : decode cX6_state 40 = .ok (.aload_n 0, 1) := by decide +kernel
theorem dX6_state_41 : decode cX6_state 41 = .ok (.getfield 10, 3) := by decide +kernel
theorem dX6_state_44 : decode cX6_state 44 = .ok (.getfield 174, 3) := by decide +kernel
theorem dX6_state_47 : decode cX6_state 47 = .ok (.ireturn, 1) := by decide +kernel
theorem dX6_state_48 : decode cX6_state 48 = .ok (.aload_n 0, 1) := by decide +kernel
theorem dX6_state_49 : decode cX6_state 49 = .ok (.getfield 10, 3) := by decide +kernel
theorem dX6_state_52 : decode cX6_state 52 = .ok (.invokevirtual 164, 3) := by decide +kernel
theorem dX6_state_55 : decode cX6_state 55 = .ok (.ireturn, 1) := by decide +kernel
theorem dX6_state_56 : decode cX6_state 56 = .ok (.aload_n 0, 1) := by decide +kernel
theorem dX6_state_57 : decode cX6_state 57 = .ok (.getfield 10, 3) := by decide +kernel
theorem dX6_state_60 : decode cX6_state 60 = .ok (.invokevirtual 177, 3) := by decide +kernel
theorem dX6_state_63 : decode cX6_state 63 = .ok (.ireturn, 1) := by decide +kernel
theorem dX6_state_64 : decode cX6_state 64 = .ok (.aload_n 0, 1) := by decide +kernel
theorem dX6_state_65 : decode cX6_state 65 = .ok (.getfield 10, 3) := by decide +kernel
theorem dX6_state_68 : decode cX6_state 68 = .ok (.invokevirtual 180, 3) := by decide +kernel
theorem dX6_state_71 : decode cX6_state 71 = .ok (.ireturn, 1) := by decide +kernel
theorem dX6_state_72 : decode cX6_state 72 = .ok (.aload_n 0, 1) := by decide +kernel
theorem dX6_state_73 : decode cX6_state 73 = .ok (.getfield 10, 3) := by decide +kernel
theorem dX6_state_76 : decode cX6_state 76 = .ok (.invokevirtual 183, 3) := by decide +kernel
theorem dX6_state_79 : decode cX6_state 79 = .ok (.ireturn, 1) := by decide +kernel
theorem dX6_state_80 : decode cX6_state 80 = .ok (.aload_n 0, 1) := by decide +kernel
theorem dX6_state_81 : decode cX6_state 81 = .ok (.getfield 10, 3) := by decide +kernel
theorem dX6_state_84 : decode cX6_state 84 = .ok (.invokevirtual 186, 3) := by decide +kernel
theorem dX6_state_87 : decode cX6_state 87 = .ok (.ireturn, 1) := by decide +kernel
theorem dX6_state_88 : decode cX6_state 88 = .ok (.iconst (-1), 1) := by decide +kernel
theorem dX6_state_89 : decode cX6_state 89 = .ok (.ireturn, 1) := by decide +kernel
theorem dX6_ahead_0 : decode cX6_ahead 0 = .ok (.aload_n 0, 1) := by decide +kernel
theorem dX6_ahead_1 : decode cX6_ahead 1 = .ok (.iload_n 1, 1) := by decide +kernel
theorem dX6_ahead_2 : decode cX6_ahead 2 = .ok (.invokevirtual 111, 3) := by decide +kernel
theorem dX6_ahead_5 : decode cX6_ahead 5 = .ok (.ifCond .eq 20, 3) := by decide +kernel
theorem dX6_ahead_8 : decode cX6_ahead 8 = .ok (.iload_n 2, 1) := by decide +kernel
theorem dX6_ahead_9 : decode cX6_ahead 9 = .ok (.bipush 60, 2) := by decide +kernel
theorem dX6_ahead_11 : decode cX6_ahead 11 = .ok (.invokestatic 97, 3) := by decide +kernel
theorem dX6_ahead_14 : decode cX6_ahead 14 = .ok (.ifCond .eq 11, 3) := by decide +kernel
theorem dX6_ahead_17 : decode cX6_ahead 17 = .ok (.iload_n 3, 1) := by decide +kernel
theorem dX6_ahead_18 : decode cX6_ahead 18 = .ok (.iconst 1, 1) := by decide +kernel
theorem dX6_ahead_19 : decode cX6_ahead 19 = .ok (.invokestatic 97, 3) := by decide +kernel
theorem dX6_ahead_22 : decode cX6_ahead 22 = .ok (.ifCond .ne 5, 3) := by decide +kernel
theorem dX6_ahead_25 : decode cX6_ahead 25 = .ok (.iconst (-1), 1) := by decide +kernel
theorem dX6_ahead_26 : decode cX6_ahead 26 = .ok (.ireturn, 1) := by decide +kernel
theorem dX6_ahead_27 : decode cX6_ahead 27 = .ok (.aload_n 0, 1) := by decide +kernel
theorem dX6_ahead_28 : decode cX6_ahead 28 = .ok (.getfield 16, 3) := by decide +kernel
theorem dX6_ahead_31 : decode cX6_ahead 31 = .ok (.aload_n 0, 1) := by decide +kernel
theorem dX6_ahead_32 : decode cX6_ahead 32 = .ok (.getfield 10, 3) := by decide +kernel
theorem dX6_ahead_35 : decode cX6_ahead 35 = .ok (.invokevirtual 87, 3) := by decide +kernel
theorem dX6_ahead_38 : decode cX6_ahead 38 = .ok (.aload_n 0, 1) := by decide +kernel
theorem dX6_ahead_39 : decode cX6_ahead 39 = .ok (.getfield 16, 3) := by decide +kernel
theorem dX6_ahead_42 : decode cX6_ahead 42 = .ok (.iload_n 2, 1) := by decide +kernel
theorem dX6_ahead_43 : decode cX6_ahead 43 = .ok (.invokevirtual 160, 3) := by decide +kernel
theorem dX6_ahead_46 : decode cX6_ahead 46 = .ok (.iload_n 3, 1) := by decide +kernel
theorem dX6_ahead_47 : decode cX6_ahead 47 = .ok (.ifCond .ne 15, 3) := by decide +kernel
theorem dX6_ahead_50 : decode cX6_ahead 50 = .ok (.aload_n 0, 1) := by decide +kernel
theorem dX6_ahead_51 : decode cX6_ahead 51 = .ok (.getfield 16, 3) := by decide +kernel
theorem dX6_ahead_54 : decode cX6_ahead 54 = .ok (.getfield 124, 3) := by decide +kernel
theorem dX6_ahead_57 : decode cX6_ahead 57 = .ok (.iload_n 1, 1) := by decide +kernel
theorem dX6_ahead_58 : decode cX6_ahead 58 = .ok (.iaload, 1) := by decide +kernel
theorem dX6_ahead_59 : decode cX6_ahead 59 = .ok (.goto 12, 3) := by decide +kernel
theorem dX6_ahead_62 : decode cX6_ahead 62 = .ok (.aload_n 0, 1) := by decide +kernel
theorem dX6_ahead_63 : decode cX6_ahead 63 = .ok (.getfield 16, 3) := by decide +kernel
theorem dX6_ahead_66 : decode cX6_ahead 66 = .ok (.getfield 127, 3) := by decide +kernel
theorem dX6_ahead_69 : decode cX6_ahead 69 = .ok (.iload_n 1, 1) := by decide +kernel
theorem dX6_ahead_70 : decode cX6_ahead 70 = .ok (.iaload, 1) := by decide +kernel
theorem dX6_ahead_71 : decode cX6_ahead 71 = .ok (.ireturn, 1) := by decide +kernel
theorem dX6_meet_0 : decode cX6_meet 0 = .ok (.aload_n 0, 1) := by decide +kernel
theorem dX6_meet_1 : decode cX6_meet 1 = .ok (.iload_n 1, 1) := by decide +kernel
theorem dX6_meet_2 : decode cX6_meet 2 = .ok (.iload_n 2, 1) := by decide +kernel
theorem dX6_meet_3 : decode cX6_meet 3 = .ok (.invokevirtual 141, 3) := by decide +kernel
theorem dX6_meet_6 : decode cX6_meet 6 = .ok (.ifCond .ne 5, 3) := by decide +kernel
theorem dX6_meet_9 : decode cX6_meet 9 = .ok (.iconst (-1), 1) := by decide +kernel
theorem dX6_meet_10 : decode cX6_meet 10 = .ok (.ireturn, 1) := by decide +kernel
theorem dX6_meet_11 : decode cX6_meet 11 = .ok (.aload_n 0, 1) := by decide +kernel
theorem dX6_meet_12 : decode cX6_meet 12 = .ok (.getfield 16, 3) := by decide +kernel
theorem dX6_meet_15 : decode cX6_meet 15 = .ok (.aload_n 0, 1) := by decide +kernel
theorem dX6_meet_16 : decode cX6_meet 16 = .ok (.getfield 10, 3) := by decide +kernel
theorem dX6_meet_19 : decode cX6_meet 19 = .ok (.invokevirtual 87, 3) := by decide +kernel
theorem dX6_meet_22 : decode cX6_meet 22 = .ok (.iconst 0, 1) := by decide +kernel
theorem dX6_meet_23 : decode cX6_meet 23 = .ok (.istore_n 3, 1) := by decide +kernel
theorem dX6_meet_24 : decode cX6_meet 24 = .ok (.iload_n 3, 1) := by decide +kernel
theorem dX6_meet_25 : decode cX6_meet 25 = .ok (.bipush 60, 2) := by decide +kernel
theorem dX6_meet_27 : decode cX6_meet 27 = .ok (.if_icmp .gt 30, 3) := by decide +kernel
theorem dX6_meet_30 : decode cX6_meet 30 = .ok (.aload_n 0, 1) := by decide +kernel
theorem dX6_meet_31 : decode cX6_meet 31 = .ok (.getfield 16, 3) := by decide +kernel
theorem dX6_meet_34 : decode cX6_meet 34 = .ok (.iload_n 1, 1) := by decide +kernel
theorem dX6_meet_35 : decode cX6_meet 35 = .ok (.iload_n 2, 1) := by decide +kernel
theorem dX6_meet_36 : decode cX6_meet 36 = .ok (.invokevirtual 144, 3) := by decide +kernel
theorem dX6_meet_39 : decode cX6_meet 39 = .ok (.ifCond .eq 5, 3) := by decide +kernel
theorem dX6_meet_42 : decode cX6_meet 42 = .ok (.iload_n 3, 1) := by decide +kernel
theorem dX6_meet_43 : decode cX6_meet 43 = .ok (.ireturn, 1) := by decide +kernel
theorem dX6_meet_44 : decode cX6_meet 44 = .ok (.aload_n 0, 1) := by decide +kernel
theorem dX6_meet_45 : decode cX6_meet 45 = .ok (.getfield 16, 3) := by decide +kernel
theorem dX6_meet_48 : decode cX6_meet 48 = .ok (.invokevirtual 171, 3) := by decide +kernel
theorem dX6_meet_51 : decode cX6_meet 51 = .ok (.iinc 3 1, 3) := by decide +kernel
theorem dX6_meet_54 : decode cX6_meet 54 = .ok (.goto (-30), 3) := by decide +kernel
theorem dX6_meet_57 : decode cX6_meet 57 = .ok (.bipush (-3), 2) := by decide +kernel
theorem dX6_meet_59 : decode cX6_meet 59 = .ok (.ireturn, 1) := by decide +kernel
theorem dX6_gather_0 : decode cX6_gather 0 = .ok (.aload_n 0, 1) := by decide +kernel
theorem dX6_gather_1 : decode cX6_gather 1 = .ok (.getfield 16, 3) := by decide +kernel
theorem dX6_gather_4 : decode cX6_gather 4 = .ok (.aload_n 0, 1) := by decide +kernel
theorem dX6_gather_5 : decode cX6_gather 5 = .ok (.getfield 10, 3) := by decide +kernel
theorem dX6_gather_8 : decode cX6_gather 8 = .ok (.invokevirtual 87, 3) := by decide +kernel
theorem dX6_gather_11 : decode cX6_gather 11 = .ok (.iconst 0, 1) := by decide +kernel
theorem dX6_gather_12 : decode cX6_gather 12 = .ok (.istore_n 1, 1) := by decide +kernel
theorem dX6_gather_13 : decode cX6_gather 13 = .ok (.iload_n 1, 1) := by decide +kernel
theorem dX6_gather_14 : decode cX6_gather 14 = .ok (.bipush 60, 2) := by decide +kernel
theorem dX6_gather_16 : decode cX6_gather 16 = .ok (.if_icmp .gt 32, 3) := by decide +kernel
theorem dX6_gather_19 : decode cX6_gather 19 = .ok (.aload_n 0, 1) := by decide +kernel
theorem dX6_gather_20 : decode cX6_gather 20 = .ok (.getfield 16, 3) := by decide +kernel
theorem dX6_gather_23 : decode cX6_gather 23 = .ok (.invokevirtual 180, 3) := by decide +kernel
theorem dX6_gather_26 : decode cX6_gather 26 = .ok (.invokestatic 189, 3) := by decide +kernel
theorem dX6_gather_29 : decode cX6_gather 29 = .ok (.iconst 1, 1) := by decide +kernel
theorem dX6_gather_30 : decode cX6_gather 30 = .ok (.if_icmp .gt 5, 3) := by decide +kernel
theorem dX6_gather_33 : decode cX6_gather 33 = .ok (.iload_n 1, 1) := by decide +kernel
theorem dX6_gather_34 : decode cX6_gather 34 = .ok (.ireturn, 1) := by decide +kernel
theorem dX6_gather_35 : decode cX6_gather 35 = .ok (.aload_n 0, 1) := by decide +kernel
theorem dX6_gather_36 : decode cX6_gather 36 = .ok (.getfield 16, 3) := by decide +kernel
theorem dX6_gather_39 : decode cX6_gather 39 = .ok (.invokevirtual 171, 3) := by decide +kernel
theorem dX6_gather_42 : decode cX6_gather 42 = .ok (.iinc 1 1, 3) := by decide +kernel
theorem dX6_gather_45 : decode cX6_gather 45 = .ok (.goto (-32), 3) := by decide +kernel
theorem dX6_gather_48 : decode cX6_gather 48 = .ok (.bipush (-3), 2) := by decide +kernel
theorem dX6_gather_50 : decode cX6_gather 50 = .ok (.ireturn, 1) := by decide +kernel
theorem dX6_alone_0 : decode cX6_alone 0 = .ok (.aload_n 0, 1) := by decide +kernel
theorem dX6_alone_1 : decode cX6_alone 1 = .ok (.iload_n 1, 1) := by decide +kernel
theorem dX6_alone_2 : decode cX6_alone 2 = .ok (.invokevirtual 111, 3) := by decide +kernel
theorem dX6_alone_5 : decode cX6_alone 5 = .ok (.ifCond .ne 5, 3) := by decide +kernel
theorem dX6_alone_8 : decode cX6_alone 8 = .ok (.iconst (-1), 1) := by decide +kernel
theorem dX6_alone_9 : decode cX6_alone 9 = .ok (.ireturn, 1) := by decide +kernel
theorem dX6_alone_10 : decode cX6_alone 10 = .ok (.aload_n 0, 1) := by decide +kernel
theorem dX6_alone_11 : decode cX6_alone 11 = .ok (.getfield 16, 3) := by decide +kernel
theorem dX6_alone_14 : decode cX6_alone 14 = .ok (.aload_n 0, 1) := by decide +kernel
theorem dX6_alone_15 : decode cX6_alone 15 = .ok (.getfield 10, 3) := by decide +kernel
theorem dX6_alone_18 : decode cX6_alone 18 = .ok (.invokevirtual 87, 3) := by decide +kernel
theorem dX6_alone_21 : decode cX6_alone 21 = .ok (.iconst 0, 1) := by decide +kernel
theorem dX6_alone_22 : decode cX6_alone 22 = .ok (.istore_n 2, 1) := by decide +kernel
theorem dX6_alone_23 : decode cX6_alone 23 = .ok (.iload_n 2, 1) := by decide +kernel
theorem dX6_alone_24 : decode cX6_alone 24 = .ok (.bipush 60, 2) := by decide +kernel
theorem dX6_alone_26 : decode cX6_alone 26 = .ok (.if_icmp .gt 29, 3) := by decide +kernel
theorem dX6_alone_29 : decode cX6_alone 29 = .ok (.aload_n 0, 1) := by decide +kernel
theorem dX6_alone_30 : decode cX6_alone 30 = .ok (.getfield 16, 3) := by decide +kernel
theorem dX6_alone_33 : decode cX6_alone 33 = .ok (.iload_n 1, 1) := by decide +kernel
theorem dX6_alone_34 : decode cX6_alone 34 = .ok (.invokevirtual 130, 3) := by decide +kernel
theorem dX6_alone_37 : decode cX6_alone 37 = .ok (.ifCond .ne 5, 3) := by decide +kernel
theorem dX6_alone_40 : decode cX6_alone 40 = .ok (.iload_n 2, 1) := by decide +kernel
theorem dX6_alone_41 : decode cX6_alone 41 = .ok (.ireturn, 1) := by decide +kernel
theorem dX6_alone_42 : decode cX6_alone 42 = .ok (.aload_n 0, 1) := by decide +kernel
theorem dX6_alone_43 : decode cX6_alone 43 = .ok (.getfield 16, 3) := by decide +kernel
theorem dX6_alone_46 : decode cX6_alone 46 = .ok (.invokevirtual 171, 3) := by decide +kernel
theorem dX6_alone_49 : decode cX6_alone 49 = .ok (.iinc 2 1, 3) := by decide +kernel
theorem dX6_alone_52 : decode cX6_alone 52 = .ok (.goto (-29), 3) := by decide +kernel
theorem dX6_alone_55 : decode cX6_alone 55 = .ok (.bipush (-3), 2) := by decide +kernel
theorem dX6_alone_57 : decode cX6_alone 57 = .ok (.ireturn, 1) := by decide +kernel
theorem dX6_pegFor_0 : decode cX6_pegFor 0 = .ok (.aload_n 0, 1) := by decide +kernel
theorem dX6_pegFor_1 : decode cX6_pegFor 1 = .ok (.iload_n 1, 1) := by decide +kernel
theorem dX6_pegFor_2 : decode cX6_pegFor 2 = .ok (.iload_n 2, 1) := by decide +kernel
theorem dX6_pegFor_3 : decode cX6_pegFor 3 = .ok (.iconst 1, 1) := by decide +kernel
theorem dX6_pegFor_4 : decode cX6_pegFor 4 = .ok (.bipush 6, 2) := by decide +kernel
theorem dX6_pegFor_6 : decode cX6_pegFor 6 = .ok (.invokevirtual 194, 3) := by decide +kernel
theorem dX6_pegFor_9 : decode cX6_pegFor 9 = .ok (.ireturn, 1) := by decide +kernel
theorem dX6_kindFor_0 : decode cX6_kindFor 0 = .ok (.aload_n 0, 1) := by decide +kernel
theorem dX6_kindFor_1 : decode cX6_kindFor 1 = .ok (.iload_n 1, 1) := by decide +kernel
theorem dX6_kindFor_2 : decode cX6_kindFor 2 = .ok (.iload_n 2, 1) := by decide +kernel
theorem dX6_kindFor_3 : decode cX6_kindFor 3 = .ok (.iconst 0, 1) := by decide +kernel
theorem dX6_kindFor_4 : decode cX6_kindFor 4 = .ok (.bipush 6, 2) := by decide +kernel
theorem dX6_kindFor_6 : decode cX6_kindFor 6 = .ok (.invokevirtual 194, 3) := by decide +kernel
theorem dX6_kindFor_9 : decode cX6_kindFor 9 = .ok (.ireturn, 1) := by decide +kernel
theorem dX6_placeFor_0 : decode cX6_placeFor 0 = .ok (.aload_n 0, 1) := by decide +kernel
theorem dX6_placeFor_1 : decode cX6_placeFor 1 = .ok (.iload_n 1, 1) := by decide +kernel
theorem dX6_placeFor_2 : decode cX6_placeFor 2 = .ok (.iload_n 2, 1) := by decide +kernel
theorem dX6_placeFor_3 : decode cX6_placeFor 3 = .ok (.iconst 2, 1) := by decide +kernel
theorem dX6_placeFor_4 : decode cX6_placeFor 4 = .ok (.bipush 12, 2) := by decide +kernel
theorem dX6_placeFor_6 : decode cX6_placeFor 6 = .ok (.invokevirtual 194, 3) := by decide +kernel
theorem dX6_placeFor_9 : decode cX6_placeFor 9 = .ok (.ireturn, 1) := by decide +kernel
theorem dX6_circle_0 : decode cX6_circle 0 = .ok (.aload_n 0, 1) := by decide +kernel
theorem dX6_circle_1 : decode cX6_circle 1 = .ok (.iload_n 1, 1) := by decide +kernel
theorem dX6_circle_2 : decode cX6_circle 2 = .ok (.invokevirtual 111, 3) := by decide +kernel
theorem dX6_circle_5 : decode cX6_circle 5 = .ok (.ifCond .eq 14, 3) := by decide +kernel
theorem dX6_circle_8 : decode cX6_circle 8 = .ok (.aload_n 0, 1) := by decide +kernel
theorem dX6_circle_9 : decode cX6_circle 9 = .ok (.getfield 10, 3) := by decide +kernel
theorem dX6_circle_12 : decode cX6_circle 12 = .ok (.iload_n 1, 1) := by decide +kernel
theorem dX6_circle_13 : decode cX6_circle 13 = .ok (.invokevirtual 197, 3) := by decide +kernel
theorem dX6_circle_16 : decode cX6_circle 16 = .ok (.goto 4, 3) := by decide +kernel
theorem dX6_circle_19 : decode cX6_circle 19 = .ok (.iconst (-1), 1) := by decide +kernel
theorem dX6_circle_20 : decode cX6_circle 20 = .ok (.ireturn, 1) := by decide +kernel
theorem dX6_apart_0 : decode cX6_apart 0 = .ok (.aload_n 0, 1) := by decide +kernel
theorem dX6_apart_1 : decode cX6_apart 1 = .ok (.invokevirtual 200, 3) := by decide +kernel
theorem dX6_apart_4 : decode cX6_apart 4 = .ok (.istore_n 1, 1) := by decide +kernel
theorem dX6_apart_5 : decode cX6_apart 5 = .ok (.iconst 0, 1) := by decide +kernel
theorem dX6_apart_6 : decode cX6_apart 6 = .ok (.istore_n 2, 1) := by decide +kernel
theorem dX6_apart_7 : decode cX6_apart 7 = .ok (.iload_n 2, 1) := by decide +kernel
theorem dX6_apart_8 : decode cX6_apart 8 = .ok (.iload_n 1, 1) := by decide +kernel
theorem dX6_apart_9 : decode cX6_apart 9 = .ok (.if_icmp .ge 21, 3) := by decide +kernel
theorem dX6_apart_12 : decode cX6_apart 12 = .ok (.aload_n 0, 1) := by decide +kernel
theorem dX6_apart_13 : decode cX6_apart 13 = .ok (.getfield 59, 3) := by decide +kernel
theorem dX6_apart_16 : decode cX6_apart 16 = .ok (.iload_n 2, 1) := by decide +kernel
theorem dX6_apart_17 : decode cX6_apart 17 = .ok (.iaload, 1) := by decide +kernel
theorem dX6_apart_18 : decode cX6_apart 18 = .ok (.ifCond .ne 6, 3) := by decide +kernel
theorem dX6_apart_21 : decode cX6_apart 21 = .ok (.bipush (-3), 2) := by decide +kernel
theorem dX6_apart_23 : decode cX6_apart 23 = .ok (.ireturn, 1) := by decide +kernel
theorem dX6_apart_24 : decode cX6_apart 24 = .ok (.iinc 2 1, 3) := by decide +kernel
theorem dX6_apart_27 : decode cX6_apart 27 = .ok (.goto (-20), 3) := by decide +kernel
theorem dX6_apart_30 : decode cX6_apart 30 = .ok (.iconst 0, 1) := by decide +kernel
theorem dX6_apart_31 : decode cX6_apart 31 = .ok (.istore_n 2, 1) := by decide +kernel
theorem dX6_apart_32 : decode cX6_apart 32 = .ok (.iload_n 2, 1) := by decide +kernel
theorem dX6_apart_33 : decode cX6_apart 33 = .ok (.bipush 10, 2) := by decide +kernel
theorem dX6_apart_35 : decode cX6_apart 35 = .ok (.if_icmp .gt 43, 3) := by decide +kernel
theorem dX6_apart_38 : decode cX6_apart 38 = .ok (.iconst 0, 1) := by decide +kernel
theorem dX6_apart_39 : decode cX6_apart 39 = .ok (.istore_n 3, 1) := by decide +kernel
theorem dX6_apart_40 : decode cX6_apart 40 = .ok (.iload_n 3, 1) := by decide +kernel
theorem dX6_apart_41 : decode cX6_apart 41 = .ok (.sipush 1024, 3) := by decide +kernel
theorem dX6_apart_44 : decode cX6_apart 44 = .ok (.if_icmp .ge 28, 3) := by decide +kernel
theorem dX6_apart_47 : decode cX6_apart 47 = .ok (.iload_n 3, 1) := by decide +kernel
theorem dX6_apart_48 : decode cX6_apart 48 = .ok (.invokestatic 189, 3) := by decide +kernel
theorem dX6_apart_51 : decode cX6_apart 51 = .ok (.iload_n 2, 1) := by decide +kernel
theorem dX6_apart_52 : decode cX6_apart 52 = .ok (.if_icmp .ne 14, 3) := by decide +kernel
theorem dX6_apart_55 : decode cX6_apart 55 = .ok (.aload_n 0, 1) := by decide +kernel
theorem dX6_apart_56 : decode cX6_apart 56 = .ok (.iload_n 3, 1) := by decide +kernel
theorem dX6_apart_57 : decode cX6_apart 57 = .ok (.iload_n 1, 1) := by decide +kernel
theorem dX6_apart_58 : decode cX6_apart 58 = .ok (.invokevirtual 203, 3) := by decide +kernel
theorem dX6_apart_61 : decode cX6_apart 61 = .ok (.ifCond .eq 5, 3) := by decide +kernel
theorem dX6_apart_64 : decode cX6_apart 64 = .ok (.iload_n 3, 1) := by decide +kernel
theorem dX6_apart_65 : decode cX6_apart 65 = .ok (.ireturn, 1) := by decide +kernel
theorem dX6_apart_66 : decode cX6_apart 66 = .ok (.iinc 3 1, 3) := by decide +kernel
theorem dX6_apart_69 : decode cX6_apart 69 = .ok (.goto (-29), 3) := by decide +kernel
theorem dX6_apart_72 : decode cX6_apart 72 = .ok (.iinc 2 1, 3) := by decide +kernel
theorem dX6_apart_75 : decode cX6_apart 75 = .ok (.goto (-43), 3) := by decide +kernel
theorem dX6_apart_78 : decode cX6_apart 78 = .ok (.bipush (-3), 2) := by decide +kernel
theorem dX6_apart_80 : decode cX6_apart 80 = .ok (.ireturn, 1) := by decide +kernel
theorem dX6_fits_0 : decode cX6_fits 0 = .ok (.iload_n 1, 1) := by decide +kernel
theorem dX6_fits_1 : decode cX6_fits 1 = .ok (.invokestatic 206, 3) := by decide +kernel
theorem dX6_fits_4 : decode cX6_fits 4 = .ok (.ifCond .eq 19, 3) := by decide +kernel
theorem dX6_fits_7 : decode cX6_fits 7 = .ok (.aload_n 0, 1) := by decide +kernel
theorem dX6_fits_8 : decode cX6_fits 8 = .ok (.iload_n 2, 1) := by decide +kernel
theorem dX6_fits_9 : decode cX6_fits 9 = .ok (.invokevirtual 111, 3) := by decide +kernel
theorem dX6_fits_12 : decode cX6_fits 12 = .ok (.ifCond .eq 11, 3) := by decide +kernel
theorem dX6_fits_15 : decode cX6_fits 15 = .ok (.iload_n 3, 1) := by decide +kernel
theorem dX6_fits_16 : decode cX6_fits 16 = .ok (.iconst 1, 1) := by decide +kernel
theorem dX6_fits_17 : decode cX6_fits 17 = .ok (.invokestatic 97, 3) := by decide +kernel
theorem dX6_fits_20 : decode cX6_fits 20 = .ok (.ifCond .ne 5, 3) := by decide +kernel
theorem dX6_fits_23 : decode cX6_fits 23 = .ok (.iconst (-1), 1) := by decide +kernel
theorem dX6_fits_24 : decode cX6_fits 24 = .ok (.ireturn, 1) := by decide +kernel
theorem dX6_fits_25 : decode cX6_fits 25 = .ok (.aload_n 0, 1) := by decide +kernel
theorem dX6_fits_26 : decode cX6_fits 26 = .ok (.getfield 49, 3) := by decide +kernel
theorem dX6_fits_29 : decode cX6_fits 29 = .ok (.iload_n 1, 1) := by decide +kernel
theorem dX6_fits_30 : decode cX6_fits 30 = .ok (.aaload, 1) := by decide +kernel
theorem dX6_fits_31 : decode cX6_fits 31 = .ok (.astore 4, 2) := by decide +kernel
theorem dX6_fits_33 : decode cX6_fits 33 = .ok (.aload 4, 2) := by decide +kernel
theorem dX6_fits_35 : decode cX6_fits 35 = .ok (.getfield 209, 3) := by decide +kernel
theorem dX6_fits_38 : decode cX6_fits 38 = .ok (.iconst (-1), 1) := by decide +kernel
theorem dX6_fits_39 : decode cX6_fits 39 = .ok (.if_icmp .ne 6, 3) := by decide +kernel
theorem dX6_fits_42 : decode cX6_fits 42 = .ok (.bipush (-11), 2) := by decide +kernel
theorem dX6_fits_44 : decode cX6_fits 44 = .ok (.ireturn, 1) := by decide +kernel
theorem dX6_fits_45 : decode cX6_fits 45 = .ok (.iconst 0, 1) := by decide +kernel
theorem dX6_fits_46 : decode cX6_fits 46 = .ok (.istore 5, 2) := by decide +kernel
theorem dX6_fits_48 : decode cX6_fits 48 = .ok (.bipush (-3), 2) := by decide +kernel
theorem dX6_fits_50 : decode cX6_fits 50 = .ok (.istore 6, 2) := by decide +kernel
theorem dX6_fits_52 : decode cX6_fits 52 = .ok (.iconst 5, 1) := by decide +kernel
theorem dX6_fits_53 : decode cX6_fits 53 = .ok (.istore 7, 2) := by decide +kernel
theorem dX6_fits_55 : decode cX6_fits 55 = .ok (.iload 7, 2) := by decide +kernel
theorem dX6_fits_57 : decode cX6_fits 57 = .ok (.ifCond .lt 28, 3) := by decide +kernel
theorem dX6_fits_60 : decode cX6_fits 60 = .ok (.aload_n 0, 1) := by decide +kernel
theorem dX6_fits_61 : decode cX6_fits 61 = .ok (.iload_n 2, 1) := by decide +kernel
theorem dX6_fits_62 : decode cX6_fits 62 = .ok (.iload 7, 2) := by decide +kernel
theorem dX6_fits_64 : decode cX6_fits 64 = .ok (.aload 4, 2) := by decide +kernel
theorem dX6_fits_66 : decode cX6_fits 66 = .ok (.invokevirtual 212, 3) := by decide +kernel
theorem dX6_fits_69 : decode cX6_fits 69 = .ok (.ifCond .eq 10, 3) := by decide +kernel
theorem dX6_fits_72 : decode cX6_fits 72 = .ok (.iinc 5 1, 3) := by decide +kernel
theorem dX6_fits_75 : decode cX6_fits 75 = .ok (.iload 7, 2) := by decide +kernel
theorem dX6_fits_77 : decode cX6_fits 77 = .ok (.istore 6, 2) := by decide +kernel
theorem dX6_fits_79 : decode cX6_fits 79 = .ok (.iinc 7 (-1), 3) := by decide +kernel
theorem dX6_fits_82 : decode cX6_fits 82 = .ok (.goto (-27), 3) := by decide +kernel
theorem dX6_fits_85 : decode cX6_fits 85 = .ok (.iload_n 3, 1) := by decide +kernel
theorem dX6_fits_86 : decode cX6_fits 86 = .ok (.ifCond .ne 8, 3) := by decide +kernel
theorem dX6_fits_89 : decode cX6_fits 89 = .ok (.iload 5, 2) := by decide +kernel
theorem dX6_fits_91 : decode cX6_fits 91 = .ok (.goto 5, 3) := by decide +kernel
theorem dX6_fits_94 : decode cX6_fits 94 = .ok (.iload 6, 2) := by decide +kernel
theorem dX6_fits_96 : decode cX6_fits 96 = .ok (.ireturn, 1) := by decide +kernel
theorem dX6_odds_0 : decode cX6_odds 0 = .ok (.iload_n 1, 1) := by decide +kernel
theorem dX6_odds_1 : decode cX6_odds 1 = .ok (.bipush 8, 2) := by decide +kernel
theorem dX6_odds_3 : decode cX6_odds 3 = .ok (.invokestatic 97, 3) := by decide +kernel
theorem dX6_odds_6 : decode cX6_odds 6 = .ok (.ifCond .eq 19, 3) := by decide +kernel
theorem dX6_odds_9 : decode cX6_odds 9 = .ok (.iload_n 2, 1) := by decide +kernel
theorem dX6_odds_10 : decode cX6_odds 10 = .ok (.iload_n 1, 1) := by decide +kernel
theorem dX6_odds_11 : decode cX6_odds 11 = .ok (.invokestatic 97, 3) := by decide +kernel
theorem dX6_odds_14 : decode cX6_odds 14 = .ok (.ifCond .eq 11, 3) := by decide +kernel
theorem dX6_odds_17 : decode cX6_odds 17 = .ok (.iload_n 3, 1) := by decide +kernel
theorem dX6_odds_18 : decode cX6_odds 18 = .ok (.iconst 1, 1) := by decide +kernel
theorem dX6_odds_19 : decode cX6_odds 19 = .ok (.invokestatic 97, 3) := by decide +kernel
theorem dX6_odds_22 : decode cX6_odds 22 = .ok (.ifCond .ne 7, 3) := by decide +kernel
theorem dX6_odds_25 : decode cX6_odds 25 = .ok (.ldc2_w 216, 3) := by decide +kernel
theorem dX6_odds_28 : decode cX6_odds 28 = .ok (.lreturn, 1) := by decide +kernel
theorem dX6_odds_29 : decode cX6_odds 29 = .ok (.aload_n 0, 1) := by decide +kernel
theorem dX6_odds_30 : decode cX6_odds 30 = .ok (.getfield 10, 3) := by decide +kernel
theorem dX6_odds_33 : decode cX6_odds 33 = .ok (.getfield 104, 3) := by decide +kernel
theorem dX6_odds_36 : decode cX6_odds 36 = .ok (.iconst 3, 1) := by decide +kernel
theorem dX6_odds_37 : decode cX6_odds 37 = .ok (.iaload, 1) := by decide +kernel
theorem dX6_odds_38 : decode cX6_odds 38 = .ok (.i2l, 1) := by decide +kernel
theorem dX6_odds_39 : decode cX6_odds 39 = .ok (.lstore 4, 2) := by decide +kernel
theorem dX6_odds_41 : decode cX6_odds 41 = .ok (.iload_n 1, 1) := by decide +kernel
theorem dX6_odds_42 : decode cX6_odds 42 = .ok (.iload_n 2, 1) := by decide +kernel
theorem dX6_odds_43 : decode cX6_odds 43 = .ok (.invokestatic 218, 3) := by decide +kernel
theorem dX6_odds_46 : decode cX6_odds 46 = .ok (.lload 4, 2) := by decide +kernel
theorem dX6_odds_48 : decode cX6_odds 48 = .ok (.iload_n 2, 1) := by decide +kernel
theorem dX6_odds_49 : decode cX6_odds 49 = .ok (.invokestatic 222, 3) := by decide +kernel
theorem dX6_odds_52 : decode cX6_odds 52 = .ok (.lmul, 1) := by decide +kernel
theorem dX6_odds_53 : decode cX6_odds 53 = .ok (.ldc2_w 226, 3) := by decide +kernel
theorem dX6_odds_56 : decode cX6_odds 56 = .ok (.lload 4, 2) := by decide +kernel
theorem dX6_odds_58 : decode cX6_odds 58 = .ok (.lsub, 1) := by decide +kernel
theorem dX6_odds_59 : decode cX6_odds 59 = .ok (.iload_n 1, 1) := by decide +kernel
theorem dX6_odds_60 : decode cX6_odds 60 = .ok (.iload_n 2, 1) := by decide +kernel
theorem dX6_odds_61 : decode cX6_odds 61 = .ok (.isub, 1) := by decide +kernel
theorem dX6_odds_62 : decode cX6_odds 62 = .ok (.invokestatic 222, 3) := by decide +kernel
theorem dX6_odds_65 : decode cX6_odds 65 = .ok (.lmul, 1) := by decide +kernel
theorem dX6_odds_66 : decode cX6_odds 66 = .ok (.lstore 6, 2) := by decide +kernel
theorem dX6_odds_68 : decode cX6_odds 68 = .ok (.lload 6, 2) := by decide +kernel
theorem dX6_odds_70 : decode cX6_odds 70 = .ok (.ldc2_w 226, 3) := by decide +kernel
theorem dX6_odds_73 : decode cX6_odds 73 = .ok (.iload_n 1, 1) := by decide +kernel
theorem dX6_odds_74 : decode cX6_odds 74 = .ok (.invokestatic 222, 3) := by decide +kernel
theorem dX6_odds_77 : decode cX6_odds 77 = .ok (.iload_n 3, 1) := by decide +kernel
theorem dX6_odds_78 : decode cX6_odds 78 = .ok (.invokestatic 228, 3) := by decide +kernel
theorem dX6_odds_81 : decode cX6_odds 81 = .ok (.lreturn, 1) := by decide +kernel
theorem dX6_hope_0 : decode cX6_hope 0 = .ok (.iload_n 1, 1) := by decide +kernel
theorem dX6_hope_1 : decode cX6_hope 1 = .ok (.bipush 99, 2) := by decide +kernel
theorem dX6_hope_3 : decode cX6_hope 3 = .ok (.invokestatic 97, 3) := by decide +kernel
theorem dX6_hope_6 : decode cX6_hope 6 = .ok (.ifCond .eq 11, 3) := by decide +kernel
theorem dX6_hope_9 : decode cX6_hope 9 = .ok (.iload_n 2, 1) := by decide +kernel
theorem dX6_hope_10 : decode cX6_hope 10 = .ok (.iconst 1, 1) := by decide +kernel
theorem dX6_hope_11 : decode cX6_hope 11 = .ok (.invokestatic 97, 3) := by decide +kernel
theorem dX6_hope_14 : decode cX6_hope 14 = .ok (.ifCond .ne 7, 3) := by decide +kernel
theorem dX6_hope_17 : decode cX6_hope 17 = .ok (.ldc2_w 216, 3) := by decide +kernel
theorem dX6_hope_20 : decode cX6_hope 20 = .ok (.lreturn, 1) := by decide +kernel
theorem dX6_hope_21 : decode cX6_hope 21 = .ok (.iload_n 1, 1) := by decide +kernel
theorem dX6_hope_22 : decode cX6_hope 22 = .ok (.i2l, 1) := by decide +kernel
theorem dX6_hope_23 : decode cX6_hope 23 = .ok (.aload_n 0, 1) := by decide +kernel
theorem dX6_hope_24 : decode cX6_hope 24 = .ok (.getfield 10, 3) := by decide +kernel
theorem dX6_hope_27 : decode cX6_hope 27 = .ok (.getfield 104, 3) := by decide +kernel
theorem dX6_hope_30 : decode cX6_hope 30 = .ok (.iconst 3, 1) := by decide +kernel
theorem dX6_hope_31 : decode cX6_hope 31 = .ok (.iaload, 1) := by decide +kernel
theorem dX6_hope_32 : decode cX6_hope 32 = .ok (.i2l, 1) := by decide +kernel
theorem dX6_hope_33 : decode cX6_hope 33 = .ok (.lmul, 1) := by decide +kernel
theorem dX6_hope_34 : decode cX6_hope 34 = .ok (.ldc2_w 226, 3) := by decide +kernel
theorem dX6_hope_37 : decode cX6_hope 37 = .ok (.iload_n 2, 1) := by decide +kernel
theorem dX6_hope_38 : decode cX6_hope 38 = .ok (.invokestatic 228, 3) := by decide +kernel
theorem dX6_hope_41 : decode cX6_hope 41 = .ok (.lreturn, 1) := by decide +kernel
theorem dX6_prove_0 : decode cX6_prove 0 = .ok (.aload_n 0, 1) := by decide +kernel
theorem dX6_prove_1 : decode cX6_prove 1 = .ok (.iload_n 1, 1) := by decide +kernel
theorem dX6_prove_2 : decode cX6_prove 2 = .ok (.invokevirtual 111, 3) := by decide +kernel
theorem dX6_prove_5 : decode cX6_prove 5 = .ok (.ifCond .eq 13, 3) := by decide +kernel
theorem dX6_prove_8 : decode cX6_prove 8 = .ok (.iload_n 2, 1) := by decide +kernel
theorem dX6_prove_9 : decode cX6_prove 9 = .ok (.iconst 1, 1) := by decide +kernel
theorem dX6_prove_10 : decode cX6_prove 10 = .ok (.bipush 10, 2) := by decide +kernel
theorem dX6_prove_12 : decode cX6_prove 12 = .ok (.invokestatic 65, 3) := by decide +kernel
theorem dX6_prove_15 : decode cX6_prove 15 = .ok (.ifCond .ne 5, 3) := by decide +kernel
theorem dX6_prove_18 : decode cX6_prove 18 = .ok (.iconst (-1), 1) := by decide +kernel
theorem dX6_prove_19 : decode cX6_prove 19 = .ok (.ireturn, 1) := by decide +kernel
theorem dX6_prove_20 : decode cX6_prove 20 = .ok (.aload_n 0, 1) := by decide +kernel
theorem dX6_prove_21 : decode cX6_prove 21 = .ok (.getfield 16, 3) := by decide +kernel
theorem dX6_prove_24 : decode cX6_prove 24 = .ok (.aload_n 0, 1) := by decide +kernel
theorem dX6_prove_25 : decode cX6_prove 25 = .ok (.getfield 10, 3) := by decide +kernel
theorem dX6_prove_28 : decode cX6_prove 28 = .ok (.invokevirtual 87, 3) := by decide +kernel
theorem dX6_prove_31 : decode cX6_prove 31 = .ok (.iconst 0, 1) := by decide +kernel
theorem dX6_prove_32 : decode cX6_prove 32 = .ok (.istore_n 3, 1) := by decide +kernel
theorem dX6_prove_33 : decode cX6_prove 33 = .ok (.iload_n 3, 1) := by decide +kernel
theorem dX6_prove_34 : decode cX6_prove 34 = .ok (.iload_n 2, 1) := by decide +kernel
theorem dX6_prove_35 : decode cX6_prove 35 = .ok (.if_icmp .ge 61, 3) := by decide +kernel
theorem dX6_prove_38 : decode cX6_prove 38 = .ok (.aload_n 0, 1) := by decide +kernel
theorem dX6_prove_39 : decode cX6_prove 39 = .ok (.getfield 16, 3) := by decide +kernel
theorem dX6_prove_42 : decode cX6_prove 42 = .ok (.iload_n 1, 1) := by decide +kernel
theorem dX6_prove_43 : decode cX6_prove 43 = .ok (.aload_n 0, 1) := by decide +kernel
theorem dX6_prove_44 : decode cX6_prove 44 = .ok (.getfield 16, 3) := by decide +kernel
theorem dX6_prove_47 : decode cX6_prove 47 = .ok (.getfield 174, 3) := by decide +kernel
theorem dX6_prove_50 : decode cX6_prove 50 = .ok (.invokevirtual 134, 3) := by decide +kernel
theorem dX6_prove_53 : decode cX6_prove 53 = .ok (.istore 4, 2) := by decide +kernel
theorem dX6_prove_55 : decode cX6_prove 55 = .ok (.aload_n 0, 1) := by decide +kernel
theorem dX6_prove_56 : decode cX6_prove 56 = .ok (.getfield 16, 3) := by decide +kernel
theorem dX6_prove_59 : decode cX6_prove 59 = .ok (.invokevirtual 171, 3) := by decide +kernel
theorem dX6_prove_62 : decode cX6_prove 62 = .ok (.aload_n 0, 1) := by decide +kernel
theorem dX6_prove_63 : decode cX6_prove 63 = .ok (.getfield 36, 3) := by decide +kernel
theorem dX6_prove_66 : decode cX6_prove 66 = .ok (.iload_n 3, 1) := by decide +kernel
theorem dX6_prove_67 : decode cX6_prove 67 = .ok (.aload_n 0, 1) := by decide +kernel
theorem dX6_prove_68 : decode cX6_prove 68 = .ok (.getfield 16, 3) := by decide +kernel
theorem dX6_prove_71 : decode cX6_prove 71 = .ok (.getfield 124, 3) := by decide +kernel
theorem dX6_prove_74 : decode cX6_prove 74 = .ok (.iload_n 1, 1) := by decide +kernel
theorem dX6_prove_75 : decode cX6_prove 75 = .ok (.iaload, 1) := by decide +kernel
theorem dX6_prove_76 : decode cX6_prove 76 = .ok (.aload_n 0, 1) := by decide +kernel
theorem dX6_prove_77 : decode cX6_prove 77 = .ok (.getfield 16, 3) := by decide +kernel
theorem dX6_prove_80 : decode cX6_prove 80 = .ok (.getfield 127, 3) := by decide +kernel
theorem dX6_prove_83 : decode cX6_prove 83 = .ok (.iload_n 1, 1) := by decide +kernel
theorem dX6_prove_84 : decode cX6_prove 84 = .ok (.iaload, 1) := by decide +kernel
theorem dX6_prove_85 : decode cX6_prove 85 = .ok (.iload 4, 2) := by decide +kernel
theorem dX6_prove_87 : decode cX6_prove 87 = .ok (.invokevirtual 232, 3) := by decide +kernel
theorem dX6_prove_90 : decode cX6_prove 90 = .ok (.iinc 3 1, 3) := by decide +kernel
theorem dX6_prove_93 : decode cX6_prove 93 = .ok (.goto (-60), 3) := by decide +kernel
theorem dX6_prove_96 : decode cX6_prove 96 = .ok (.aload_n 0, 1) := by decide +kernel
theorem dX6_prove_97 : decode cX6_prove 97 = .ok (.getfield 36, 3) := by decide +kernel
theorem dX6_prove_100 : decode cX6_prove 100 = .ok (.iload_n 2, 1) := by decide +kernel
theorem dX6_prove_101 : decode cX6_prove 101 = .ok (.putfield 91, 3) := by decide +kernel
theorem dX6_prove_104 : decode cX6_prove 104 = .ok (.iload_n 2, 1) := by decide +kernel
theorem dX6_prove_105 : decode cX6_prove 105 = .ok (.ireturn, 1) := by decide +kernel
theorem dX6_row_0 : decode cX6_row 0 = .ok (.aload_n 0, 1) := by decide +kernel
theorem dX6_row_1 : decode cX6_row 1 = .ok (.getfield 36, 3) := by decide +kernel
theorem dX6_row_4 : decode cX6_row 4 = .ok (.iload_n 1, 1) := by decide +kernel
theorem dX6_row_5 : decode cX6_row 5 = .ok (.iload_n 2, 1) := by decide +kernel
theorem dX6_row_6 : decode cX6_row 6 = .ok (.invokevirtual 236, 3) := by decide +kernel
theorem dX6_row_9 : decode cX6_row 9 = .ok (.ifCond .eq 17, 3) := by decide +kernel
theorem dX6_row_12 : decode cX6_row 12 = .ok (.aload_n 0, 1) := by decide +kernel
theorem dX6_row_13 : decode cX6_row 13 = .ok (.getfield 36, 3) := by decide +kernel
theorem dX6_row_16 : decode cX6_row 16 = .ok (.getfield 239, 3) := by decide +kernel
theorem dX6_row_19 : decode cX6_row 19 = .ok (.iload_n 1, 1) := by decide +kernel
theorem dX6_row_20 : decode cX6_row 20 = .ok (.aaload, 1) := by decide +kernel
theorem dX6_row_21 : decode cX6_row 21 = .ok (.iload_n 2, 1) := by decide +kernel
theorem dX6_row_22 : decode cX6_row 22 = .ok (.iaload, 1) := by decide +kernel
theorem dX6_row_23 : decode cX6_row 23 = .ok (.goto 6, 3) := by decide +kernel
theorem dX6_row_26 : decode cX6_row 26 = .ok (.sipush (-999), 3) := by decide +kernel
theorem dX6_row_29 : decode cX6_row 29 = .ok (.ireturn, 1) := by decide +kernel
theorem dX6_alterRow_0 : decode cX6_alterRow 0 = .ok (.aload_n 0, 1) := by decide +kernel
theorem dX6_alterRow_1 : decode cX6_alterRow 1 = .ok (.getfield 36, 3) := by decide +kernel
theorem dX6_alterRow_4 : decode cX6_alterRow 4 = .ok (.iload_n 1, 1) := by decide +kernel
theorem dX6_alterRow_5 : decode cX6_alterRow 5 = .ok (.iload_n 2, 1) := by decide +kernel
theorem dX6_alterRow_6 : decode cX6_alterRow 6 = .ok (.invokevirtual 236, 3) := by decide +kernel
theorem dX6_alterRow_9 : decode cX6_alterRow 9 = .ok (.ifCond .ne 7, 3) := by decide +kernel
theorem dX6_alterRow_12 : decode cX6_alterRow 12 = .ok (.sipush (-999), 3) := by decide +kernel
theorem dX6_alterRow_15 : decode cX6_alterRow 15 = .ok (.ireturn, 1) := by decide +kernel
theorem dX6_alterRow_16 : decode cX6_alterRow 16 = .ok (.aload_n 0, 1) := by decide +kernel
theorem dX6_alterRow_17 : decode cX6_alterRow 17 = .ok (.getfield 36, 3) := by decide +kernel
theorem dX6_alterRow_20 : decode cX6_alterRow 20 = .ok (.getfield 239, 3) := by decide +kernel
theorem dX6_alterRow_23 : decode cX6_alterRow 23 = .ok (.iload_n 1, 1) := by decide +kernel
theorem dX6_alterRow_24 : decode cX6_alterRow 24 = .ok (.aaload, 1) := by decide +kernel
theorem dX6_alterRow_25 : decode cX6_alterRow 25 = .ok (.iload_n 2, 1) := by decide +kernel
theorem dX6_alterRow_26 : decode cX6_alterRow 26 = .ok (.iaload, 1) := by decide +kernel
theorem dX6_alterRow_27 : decode cX6_alterRow 27 = .ok (.istore 4, 2) := by decide +kernel
theorem dX6_alterRow_29 : decode cX6_alterRow 29 = .ok (.aload_n 0, 1) := by decide +kernel
theorem dX6_alterRow_30 : decode cX6_alterRow 30 = .ok (.getfield 36, 3) := by decide +kernel
theorem dX6_alterRow_33 : decode cX6_alterRow 33 = .ok (.getfield 239, 3) := by decide +kernel
theorem dX6_alterRow_36 : decode cX6_alterRow 36 = .ok (.iload_n 1, 1) := by decide +kernel
theorem dX6_alterRow_37 : decode cX6_alterRow 37 = .ok (.aaload, 1) := by decide +kernel
theorem dX6_alterRow_38 : decode cX6_alterRow 38 = .ok (.iload_n 2, 1) := by decide +kernel
theorem dX6_alterRow_39 : decode cX6_alterRow 39 = .ok (.iload_n 3, 1) := by decide +kernel
theorem dX6_alterRow_40 : decode cX6_alterRow 40 = .ok (.iastore, 1) := by decide +kernel
theorem dX6_alterRow_41 : decode cX6_alterRow 41 = .ok (.iload 4, 2) := by decide +kernel
theorem dX6_alterRow_43 : decode cX6_alterRow 43 = .ok (.ireturn, 1) := by decide +kernel
theorem dX6_judge_0 : decode cX6_judge 0 = .ok (.aload_n 0, 1) := by decide +kernel
theorem dX6_judge_1 : decode cX6_judge 1 = .ok (.iload_n 1, 1) := by decide +kernel
theorem dX6_judge_2 : decode cX6_judge 2 = .ok (.invokevirtual 111, 3) := by decide +kernel
theorem dX6_judge_5 : decode cX6_judge 5 = .ok (.ifCond .ne 5, 3) := by decide +kernel
theorem dX6_judge_8 : decode cX6_judge 8 = .ok (.iconst (-1), 1) := by decide +kernel
theorem dX6_judge_9 : decode cX6_judge 9 = .ok (.ireturn, 1) := by decide +kernel
theorem dX6_judge_10 : decode cX6_judge 10 = .ok (.aload_n 0, 1) := by decide +kernel
theorem dX6_judge_11 : decode cX6_judge 11 = .ok (.getfield 16, 3) := by decide +kernel
theorem dX6_judge_14 : decode cX6_judge 14 = .ok (.aload_n 0, 1) := by decide +kernel
theorem dX6_judge_15 : decode cX6_judge 15 = .ok (.getfield 10, 3) := by decide +kernel
theorem dX6_judge_18 : decode cX6_judge 18 = .ok (.invokevirtual 87, 3) := by decide +kernel
theorem dX6_judge_21 : decode cX6_judge 21 = .ok (.iconst 0, 1) := by decide +kernel
theorem dX6_judge_22 : decode cX6_judge 22 = .ok (.istore_n 2, 1) := by decide +kernel
theorem dX6_judge_23 : decode cX6_judge 23 = .ok (.iload_n 2, 1) := by decide +kernel
theorem dX6_judge_24 : decode cX6_judge 24 = .ok (.aload_n 0, 1) := by decide +kernel
theorem dX6_judge_25 : decode cX6_judge 25 = .ok (.getfield 36, 3) := by decide +kernel
theorem dX6_judge_28 : decode cX6_judge 28 = .ok (.getfield 91, 3) := by decide +kernel
theorem dX6_judge_31 : decode cX6_judge 31 = .ok (.if_icmp .ge 66, 3) := by decide +kernel
theorem dX6_judge_34 : decode cX6_judge 34 = .ok (.aload_n 0, 1) := by decide +kernel
theorem dX6_judge_35 : decode cX6_judge 35 = .ok (.getfield 16, 3) := by decide +kernel
theorem dX6_judge_38 : decode cX6_judge 38 = .ok (.iload_n 1, 1) := by decide +kernel
theorem dX6_judge_39 : decode cX6_judge 39 = .ok (.aload_n 0, 1) := by decide +kernel
theorem dX6_judge_40 : decode cX6_judge 40 = .ok (.getfield 16, 3) := by decide +kernel
theorem dX6_judge_43 : decode cX6_judge 43 = .ok (.getfield 174, 3) := by decide +kernel
theorem dX6_judge_46 : decode cX6_judge 46 = .ok (.invokevirtual 134, 3) := by decide +kernel
theorem dX6_judge_49 : decode cX6_judge 49 = .ok (.istore_n 3, 1) := by decide +kernel
theorem dX6_judge_50 : decode cX6_judge 50 = .ok (.aload_n 0, 1) := by decide +kernel
theorem dX6_judge_51 : decode cX6_judge 51 = .ok (.getfield 16, 3) := by decide +kernel
theorem dX6_judge_54 : decode cX6_judge 54 = .ok (.invokevirtual 171, 3) := by decide +kernel
theorem dX6_judge_57 : decode cX6_judge 57 = .ok (.aload_n 0, 1) := by decide +kernel
theorem dX6_judge_58 : decode cX6_judge 58 = .ok (.getfield 36, 3) := by decide +kernel
theorem dX6_judge_61 : decode cX6_judge 61 = .ok (.iload_n 2, 1) := by decide +kernel
theorem dX6_judge_62 : decode cX6_judge 62 = .ok (.aload_n 0, 1) := by decide +kernel
theorem dX6_judge_63 : decode cX6_judge 63 = .ok (.getfield 16, 3) := by decide +kernel
theorem dX6_judge_66 : decode cX6_judge 66 = .ok (.getfield 124, 3) := by decide +kernel
theorem dX6_judge_69 : decode cX6_judge 69 = .ok (.iload_n 1, 1) := by decide +kernel
theorem dX6_judge_70 : decode cX6_judge 70 = .ok (.iaload, 1) := by decide +kernel
theorem dX6_judge_71 : decode cX6_judge 71 = .ok (.aload_n 0, 1) := by decide +kernel
theorem dX6_judge_72 : decode cX6_judge 72 = .ok (.getfield 16, 3) := by decide +kernel
theorem dX6_judge_75 : decode cX6_judge 75 = .ok (.getfield 127, 3) := by decide +kernel
theorem dX6_judge_78 : decode cX6_judge 78 = .ok (.iload_n 1, 1) := by decide +kernel
theorem dX6_judge_79 : decode cX6_judge 79 = .ok (.iaload, 1) := by decide +kernel
theorem dX6_judge_80 : decode cX6_judge 80 = .ok (.iload_n 3, 1) := by decide +kernel
theorem dX6_judge_81 : decode cX6_judge 81 = .ok (.invokevirtual 243, 3) := by decide +kernel
theorem dX6_judge_84 : decode cX6_judge 84 = .ok (.ifCond .ne 7, 3) := by decide +kernel
theorem dX6_judge_87 : decode cX6_judge 87 = .ok (.iload_n 2, 1) := by decide +kernel
theorem dX6_judge_88 : decode cX6_judge 88 = .ok (.iconst 1, 1) := by decide +kernel
theorem dX6_judge_89 : decode cX6_judge 89 = .ok (.iadd, 1) := by decide +kernel
theorem dX6_judge_90 : decode cX6_judge 90 = .ok (.ireturn, 1) := by decide +kernel
theorem dX6_judge_91 : decode cX6_judge 91 = .ok (.iinc 2 1, 3) := by decide +kernel
theorem dX6_judge_94 : decode cX6_judge 94 = .ok (.goto (-71), 3) := by decide +kernel
theorem dX6_judge_97 : decode cX6_judge 97 = .ok (.iconst 0, 1) := by decide +kernel
theorem dX6_judge_98 : decode cX6_judge 98 = .ok (.ireturn, 1) := by decide +kernel
theorem dX6_minds_0 : decode cX6_minds 0 = .ok (.iload_n 1, 1) := by decide +kernel
theorem dX6_minds_1 : decode cX6_minds 1 = .ok (.invokestatic 206, 3) := by decide +kernel
theorem dX6_minds_4 : decode cX6_minds 4 = .ok (.ifCond .eq 35, 3) := by decide +kernel
theorem dX6_minds_7 : decode cX6_minds 7 = .ok (.aload_n 0, 1) := by decide +kernel
theorem dX6_minds_8 : decode cX6_minds 8 = .ok (.iload_n 3, 1) := by decide +kernel
theorem dX6_minds_9 : decode cX6_minds 9 = .ok (.invokevirtual 111, 3) := by decide +kernel
theorem dX6_minds_12 : decode cX6_minds 12 = .ok (.ifCond .eq 27, 3) := by decide +kernel
theorem dX6_minds_15 : decode cX6_minds 15 = .ok (.iload 4, 2) := by decide +kernel
theorem dX6_minds_17 : decode cX6_minds 17 = .ok (.bipush 8, 2) := by decide +kernel
theorem dX6_minds_19 : decode cX6_minds 19 = .ok (.invokestatic 97, 3) := by decide +kernel
theorem dX6_minds_22 : decode cX6_minds 22 = .ok (.ifCond .eq 17, 3) := by decide +kernel
theorem dX6_minds_25 : decode cX6_minds 25 = .ok (.iload_n 3, 1) := by decide +kernel
theorem dX6_minds_26 : decode cX6_minds 26 = .ok (.iload 4, 2) := by decide +kernel
theorem dX6_minds_28 : decode cX6_minds 28 = .ok (.iadd, 1) := by decide +kernel
theorem dX6_minds_29 : decode cX6_minds 29 = .ok (.aload_n 0, 1) := by decide +kernel
theorem dX6_minds_30 : decode cX6_minds 30 = .ok (.getfield 10, 3) := by decide +kernel
theorem dX6_minds_33 : decode cX6_minds 33 = .ok (.getfield 94, 3) := by decide +kernel
theorem dX6_minds_36 : decode cX6_minds 36 = .ok (.if_icmp .le 5, 3) := by decide +kernel
theorem dX6_minds_39 : decode cX6_minds 39 = .ok (.iconst (-1), 1) := by decide +kernel
theorem dX6_minds_40 : decode cX6_minds 40 = .ok (.ireturn, 1) := by decide +kernel
theorem dX6_minds_41 : decode cX6_minds 41 = .ok (.aload_n 0, 1) := by decide +kernel
theorem dX6_minds_42 : decode cX6_minds 42 = .ok (.getfield 49, 3) := by decide +kernel
theorem dX6_minds_45 : decode cX6_minds 45 = .ok (.iload_n 1, 1) := by decide +kernel
theorem dX6_minds_46 : decode cX6_minds 46 = .ok (.aaload, 1) := by decide +kernel
theorem dX6_minds_47 : decode cX6_minds 47 = .ok (.astore 5, 2) := by decide +kernel
theorem dX6_minds_49 : decode cX6_minds 49 = .ok (.aload 5, 2) := by decide +kernel
theorem dX6_minds_51 : decode cX6_minds 51 = .ok (.getfield 209, 3) := by decide +kernel
theorem dX6_minds_54 : decode cX6_minds 54 = .ok (.iconst (-1), 1) := by decide +kernel
theorem dX6_minds_55 : decode cX6_minds 55 = .ok (.if_icmp .ne 6, 3) := by decide +kernel
theorem dX6_minds_58 : decode cX6_minds 58 = .ok (.bipush (-11), 2) := by decide +kernel
theorem dX6_minds_60 : decode cX6_minds 60 = .ok (.ireturn, 1) := by decide +kernel
theorem dX6_minds_61 : decode cX6_minds 61 = .ok (.aload 5, 2) := by decide +kernel
theorem dX6_minds_63 : decode cX6_minds 63 = .ok (.getfield 209, 3) := by decide +kernel
theorem dX6_minds_66 : decode cX6_minds 66 = .ok (.ifCond .eq 6, 3) := by decide +kernel
theorem dX6_minds_69 : decode cX6_minds 69 = .ok (.bipush (-13), 2) := by decide +kernel
theorem dX6_minds_71 : decode cX6_minds 71 = .ok (.ireturn, 1) := by decide +kernel
theorem dX6_minds_72 : decode cX6_minds 72 = .ok (.iload_n 2, 1) := by decide +kernel
theorem dX6_minds_73 : decode cX6_minds 73 = .ok (.aload 5, 2) := by decide +kernel
theorem dX6_minds_75 : decode cX6_minds 75 = .ok (.getfield 247, 3) := by decide +kernel
theorem dX6_minds_78 : decode cX6_minds 78 = .ok (.invokestatic 97, 3) := by decide +kernel
theorem dX6_minds_81 : decode cX6_minds 81 = .ok (.ifCond .eq 15, 3) := by decide +kernel
theorem dX6_minds_84 : decode cX6_minds 84 = .ok (.iload_n 2, 1) := by decide +kernel
theorem dX6_minds_85 : decode cX6_minds 85 = .ok (.iload 4, 2) := by decide +kernel
theorem dX6_minds_87 : decode cX6_minds 87 = .ok (.iadd, 1) := by decide +kernel
theorem dX6_minds_88 : decode cX6_minds 88 = .ok (.aload 5, 2) := by decide +kernel
theorem dX6_minds_90 : decode cX6_minds 90 = .ok (.getfield 247, 3) := by decide +kernel
theorem dX6_minds_93 : decode cX6_minds 93 = .ok (.if_icmp .le 6, 3) := by decide +kernel
theorem dX6_minds_96 : decode cX6_minds 96 = .ok (.bipush (-12), 2) := by decide +kernel
theorem dX6_minds_98 : decode cX6_minds 98 = .ok (.ireturn, 1) := by decide +kernel
theorem dX6_minds_99 : decode cX6_minds 99 = .ok (.iconst 0, 1) := by decide +kernel
theorem dX6_minds_100 : decode cX6_minds 100 = .ok (.istore 6, 2) := by decide +kernel
theorem dX6_minds_102 : decode cX6_minds 102 = .ok (.iload 6, 2) := by decide +kernel
theorem dX6_minds_104 : decode cX6_minds 104 = .ok (.iload 4, 2) := by decide +kernel
theorem dX6_minds_106 : decode cX6_minds 106 = .ok (.if_icmp .ge 40, 3) := by decide +kernel
theorem dX6_minds_109 : decode cX6_minds 109 = .ok (.aload_n 0, 1) := by decide +kernel
theorem dX6_minds_110 : decode cX6_minds 110 = .ok (.getfield 10, 3) := by decide +kernel
theorem dX6_minds_113 : decode cX6_minds 113 = .ok (.getfield 121, 3) := by decide +kernel
theorem dX6_minds_116 : decode cX6_minds 116 = .ok (.iload_n 3, 1) := by decide +kernel
theorem dX6_minds_117 : decode cX6_minds 117 = .ok (.iload 6, 2) := by decide +kernel
theorem dX6_minds_119 : decode cX6_minds 119 = .ok (.iadd, 1) := by decide +kernel
theorem dX6_minds_120 : decode cX6_minds 120 = .ok (.iconst 0, 1) := by decide +kernel
theorem dX6_minds_121 : decode cX6_minds 121 = .ok (.bipush 99, 2) := by decide +kernel
theorem dX6_minds_123 : decode cX6_minds 123 = .ok (.aload 5, 2) := by decide +kernel
theorem dX6_minds_125 : decode cX6_minds 125 = .ok (.getfield 248, 3) := by decide +kernel
theorem dX6_minds_128 : decode cX6_minds 128 = .ok (.iload_n 2, 1) := by decide +kernel
theorem dX6_minds_129 : decode cX6_minds 129 = .ok (.iload 6, 2) := by decide +kernel
theorem dX6_minds_131 : decode cX6_minds 131 = .ok (.iadd, 1) := by decide +kernel
theorem dX6_minds_132 : decode cX6_minds 132 = .ok (.iaload, 1) := by decide +kernel
theorem dX6_minds_133 : decode cX6_minds 133 = .ok (.invokestatic 251, 3) := by decide +kernel
theorem dX6_minds_136 : decode cX6_minds 136 = .ok (.invokestatic 256, 3) := by decide +kernel
theorem dX6_minds_139 : decode cX6_minds 139 = .ok (.iastore, 1) := by decide +kernel
theorem dX6_minds_140 : decode cX6_minds 140 = .ok (.iinc 6 1, 3) := by decide +kernel
theorem dX6_minds_143 : decode cX6_minds 143 = .ok (.goto (-41), 3) := by decide +kernel
theorem dX6_minds_146 : decode cX6_minds 146 = .ok (.iload 4, 2) := by decide +kernel
theorem dX6_minds_148 : decode cX6_minds 148 = .ok (.ireturn, 1) := by decide +kernel
theorem dX6_sheet_0 : decode cX6_sheet 0 = .ok (.iload_n 1, 1) := by decide +kernel
theorem dX6_sheet_1 : decode cX6_sheet 1 = .ok (.invokestatic 206, 3) := by decide +kernel
theorem dX6_sheet_4 : decode cX6_sheet 4 = .ok (.ifCond .eq 12, 3) := by decide +kernel
theorem dX6_sheet_7 : decode cX6_sheet 7 = .ok (.iload_n 2, 1) := by decide +kernel
theorem dX6_sheet_8 : decode cX6_sheet 8 = .ok (.iconst (-1), 1) := by decide +kernel
theorem dX6_sheet_9 : decode cX6_sheet 9 = .ok (.iconst 3, 1) := by decide +kernel
theorem dX6_sheet_10 : decode cX6_sheet 10 = .ok (.invokestatic 65, 3) := by decide +kernel
theorem dX6_sheet_13 : decode cX6_sheet 13 = .ok (.ifCond .ne 5, 3) := by decide +kernel
theorem dX6_sheet_16 : decode cX6_sheet 16 = .ok (.iconst (-1), 1) := by decide +kernel
theorem dX6_sheet_17 : decode cX6_sheet 17 = .ok (.ireturn, 1) := by decide +kernel
theorem dX6_sheet_18 : decode cX6_sheet 18 = .ok (.iload_n 2, 1) := by decide +kernel
theorem dX6_sheet_19 : decode cX6_sheet 19 = .ok (.iconst (-1), 1) := by decide +kernel
theorem dX6_sheet_20 : decode cX6_sheet 20 = .ok (.if_icmp .ne 14, 3) := by decide +kernel
theorem dX6_sheet_23 : decode cX6_sheet 23 = .ok (.aload_n 0, 1) := by decide +kernel
theorem dX6_sheet_24 : decode cX6_sheet 24 = .ok (.getfield 49, 3) := by decide +kernel
theorem dX6_sheet_27 : decode cX6_sheet 27 = .ok (.iload_n 1, 1) := by decide +kernel
theorem dX6_sheet_28 : decode cX6_sheet 28 = .ok (.aaload, 1) := by decide +kernel
theorem dX6_sheet_29 : decode cX6_sheet 29 = .ok (.invokevirtual 259, 3) := by decide +kernel
theorem dX6_sheet_32 : decode cX6_sheet 32 = .ok (.iconst 1, 1) := by decide +kernel
theorem dX6_sheet_33 : decode cX6_sheet 33 = .ok (.ireturn, 1) := by decide +kernel
theorem dX6_sheet_34 : decode cX6_sheet 34 = .ok (.iload_n 3, 1) := by decide +kernel
theorem dX6_sheet_35 : decode cX6_sheet 35 = .ok (.bipush 40, 2) := by decide +kernel
theorem dX6_sheet_37 : decode cX6_sheet 37 = .ok (.if_icmp .le 5, 3) := by decide +kernel
theorem dX6_sheet_40 : decode cX6_sheet 40 = .ok (.iconst (-1), 1) := by decide +kernel
theorem dX6_sheet_41 : decode cX6_sheet 41 = .ok (.ireturn, 1) := by decide +kernel
theorem dX6_sheet_42 : decode cX6_sheet 42 = .ok (.iload_n 3, 1) := by decide +kernel
theorem dX6_sheet_43 : decode cX6_sheet 43 = .ok (.ifCond .ge 6, 3) := by decide +kernel
theorem dX6_sheet_46 : decode cX6_sheet 46 = .ok (.bipush (-14), 2) := by decide +kernel
theorem dX6_sheet_48 : decode cX6_sheet 48 = .ok (.ireturn, 1) := by decide +kernel
theorem dX6_sheet_49 : decode cX6_sheet 49 = .ok (.aload_n 0, 1) := by decide +kernel
theorem dX6_sheet_50 : decode cX6_sheet 50 = .ok (.getfield 49, 3) := by decide +kernel
theorem dX6_sheet_53 : decode cX6_sheet 53 = .ok (.iload_n 1, 1) := by decide +kernel
theorem dX6_sheet_54 : decode cX6_sheet 54 = .ok (.aaload, 1) := by decide +kernel
theorem dX6_sheet_55 : decode cX6_sheet 55 = .ok (.iload_n 2, 1) := by decide +kernel
theorem dX6_sheet_56 : decode cX6_sheet 56 = .ok (.iload_n 3, 1) := by decide +kernel
theorem dX6_sheet_57 : decode cX6_sheet 57 = .ok (.invokevirtual 262, 3) := by decide +kernel
theorem dX6_sheet_60 : decode cX6_sheet 60 = .ok (.iconst 1, 1) := by decide +kernel
theorem dX6_sheet_61 : decode cX6_sheet 61 = .ok (.ireturn, 1) := by decide +kernel
theorem dX6_put_0 : decode cX6_put 0 = .ok (.iload_n 1, 1) := by decide +kernel
theorem dX6_put_1 : decode cX6_put 1 = .ok (.invokestatic 206, 3) := by decide +kernel
theorem dX6_put_4 : decode cX6_put 4 = .ok (.ifCond .ne 5, 3) := by decide +kernel
theorem dX6_put_7 : decode cX6_put 7 = .ok (.iconst (-1), 1) := by decide +kernel
theorem dX6_put_8 : decode cX6_put 8 = .ok (.ireturn, 1) := by decide +kernel
theorem dX6_put_9 : decode cX6_put 9 = .ok (.aload_n 0, 1) := by decide +kernel
theorem dX6_put_10 : decode cX6_put 10 = .ok (.getfield 49, 3) := by decide +kernel
theorem dX6_put_13 : decode cX6_put 13 = .ok (.iload_n 1, 1) := by decide +kernel
theorem dX6_put_14 : decode cX6_put 14 = .ok (.aaload, 1) := by decide +kernel
theorem dX6_put_15 : decode cX6_put 15 = .ok (.astore 4, 2) := by decide +kernel
theorem dX6_put_17 : decode cX6_put 17 = .ok (.aload 4, 2) := by decide +kernel
theorem dX6_put_19 : decode cX6_put 19 = .ok (.getfield 209, 3) := by decide +kernel
theorem dX6_put_22 : decode cX6_put 22 = .ok (.iconst (-1), 1) := by decide +kernel
theorem dX6_put_23 : decode cX6_put 23 = .ok (.if_icmp .ne 6, 3) := by decide +kernel
theorem dX6_put_26 : decode cX6_put 26 = .ok (.bipush (-11), 2) := by decide +kernel
theorem dX6_put_28 : decode cX6_put 28 = .ok (.ireturn, 1) := by decide +kernel
theorem dX6_put_29 : decode cX6_put 29 = .ok (.aload 4, 2) := by decide +kernel
theorem dX6_put_31 : decode cX6_put 31 = .ok (.iload_n 2, 1) := by decide +kernel
theorem dX6_put_32 : decode cX6_put 32 = .ok (.invokevirtual 265, 3) := by decide +kernel
theorem dX6_put_35 : decode cX6_put 35 = .ok (.ifCond .ne 6, 3) := by decide +kernel
theorem dX6_put_38 : decode cX6_put 38 = .ok (.bipush (-12), 2) := by decide +kernel
theorem dX6_put_40 : decode cX6_put 40 = .ok (.ireturn, 1) := by decide +kernel
theorem dX6_put_41 : decode cX6_put 41 = .ok (.aload 4, 2) := by decide +kernel
theorem dX6_put_43 : decode cX6_put 43 = .ok (.getfield 248, 3) := by decide +kernel
theorem dX6_put_46 : decode cX6_put 46 = .ok (.iload_n 2, 1) := by decide +kernel
theorem dX6_put_47 : decode cX6_put 47 = .ok (.aload 4, 2) := by decide +kernel
theorem dX6_put_49 : decode cX6_put 49 = .ok (.iload_n 3, 1) := by decide +kernel
theorem dX6_put_50 : decode cX6_put 50 = .ok (.invokevirtual 267, 3) := by decide +kernel
theorem dX6_put_53 : decode cX6_put 53 = .ok (.iastore, 1) := by decide +kernel
theorem dX6_put_54 : decode cX6_put 54 = .ok (.iconst 1, 1) := by decide +kernel
theorem dX6_put_55 : decode cX6_put 55 = .ok (.ireturn, 1) := by decide +kernel
theorem dX6_item_0 : decode cX6_item 0 = .ok (.iload_n 1, 1) := by decide +kernel
theorem dX6_item_1 : decode cX6_item 1 = .ok (.invokestatic 206, 3) := by decide +kernel
theorem dX6_item_4 : decode cX6_item 4 = .ok (.ifCond .eq 11, 3) := by decide +kernel
theorem dX6_item_7 : decode cX6_item 7 = .ok (.iload_n 2, 1) := by decide +kernel
theorem dX6_item_8 : decode cX6_item 8 = .ok (.iconst 3, 1) := by decide +kernel
theorem dX6_item_9 : decode cX6_item 9 = .ok (.invokestatic 97, 3) := by decide +kernel
theorem dX6_item_12 : decode cX6_item 12 = .ok (.ifCond .ne 5, 3) := by decide +kernel
theorem dX6_item_15 : decode cX6_item 15 = .ok (.iconst (-1), 1) := by decide +kernel
theorem dX6_item_16 : decode cX6_item 16 = .ok (.ireturn, 1) := by decide +kernel
theorem dX6_item_17 : decode cX6_item 17 = .ok (.aload_n 0, 1) := by decide +kernel
theorem dX6_item_18 : decode cX6_item 18 = .ok (.getfield 49, 3) := by decide +kernel
theorem dX6_item_21 : decode cX6_item 21 = .ok (.iload_n 1, 1) := by decide +kernel
theorem dX6_item_22 : decode cX6_item 22 = .ok (.aaload, 1) := by decide +kernel
theorem dX6_item_23 : decode cX6_item 23 = .ok (.astore 4, 2) := by decide +kernel
theorem dX6_item_25 : decode cX6_item 25 = .ok (.aload 4, 2) := by decide +kernel
theorem dX6_item_27 : decode cX6_item 27 = .ok (.getfield 209, 3) := by decide +kernel
theorem dX6_item_30 : decode cX6_item 30 = .ok (.iconst (-1), 1) := by decide +kernel
theorem dX6_item_31 : decode cX6_item 31 = .ok (.if_icmp .ne 6, 3) := by decide +kernel
theorem dX6_item_34 : decode cX6_item 34 = .ok (.bipush (-11), 2) := by decide +kernel
theorem dX6_item_36 : decode cX6_item 36 = .ok (.ireturn, 1) := by decide +kernel
theorem dX6_item_37 : decode cX6_item 37 = .ok (.aload 4, 2) := by decide +kernel
theorem dX6_item_39 : decode cX6_item 39 = .ok (.getfield 209, 3) := by decide +kernel
theorem dX6_item_42 : decode cX6_item 42 = .ok (.iload_n 2, 1) := by decide +kernel
theorem dX6_item_43 : decode cX6_item 43 = .ok (.if_icmp .eq 6, 3) := by decide +kernel
theorem dX6_item_46 : decode cX6_item 46 = .ok (.bipush (-13), 2) := by decide +kernel
theorem dX6_item_48 : decode cX6_item 48 = .ok (.ireturn, 1) := by decide +kernel
theorem dX6_item_49 : decode cX6_item 49 = .ok (.aload 4, 2) := by decide +kernel
theorem dX6_item_51 : decode cX6_item 51 = .ok (.iload_n 3, 1) := by decide +kernel
theorem dX6_item_52 : decode cX6_item 52 = .ok (.invokevirtual 265, 3) := by decide +kernel
theorem dX6_item_55 : decode cX6_item 55 = .ok (.ifCond .eq 13, 3) := by decide +kernel
theorem dX6_item_58 : decode cX6_item 58 = .ok (.aload 4, 2) := by decide +kernel
theorem dX6_item_60 : decode cX6_item 60 = .ok (.getfield 248, 3) := by decide +kernel
theorem dX6_item_63 : decode cX6_item 63 = .ok (.iload_n 3, 1) := by decide +kernel
theorem dX6_item_64 : decode cX6_item 64 = .ok (.iaload, 1) := by decide +kernel
theorem dX6_item_65 : decode cX6_item 65 = .ok (.goto 5, 3) := by decide +kernel
theorem dX6_item_68 : decode cX6_item 68 = .ok (.bipush (-12), 2) := by decide +kernel
theorem dX6_item_70 : decode cX6_item 70 = .ok (.ireturn, 1) := by decide +kernel
theorem dX6_shelf_0 : decode cX6_shelf 0 = .ok (.iload_n 1, 1) := by decide +kernel
theorem dX6_shelf_1 : decode cX6_shelf 1 = .ok (.invokestatic 270, 3) := by decide +kernel
theorem dX6_shelf_4 : decode cX6_shelf 4 = .ok (.ifCond .ne 5, 3) := by decide +kernel
theorem dX6_shelf_7 : decode cX6_shelf 7 = .ok (.iconst (-1), 1) := by decide +kernel
theorem dX6_shelf_8 : decode cX6_shelf 8 = .ok (.ireturn, 1) := by decide +kernel
theorem dX6_shelf_9 : decode cX6_shelf 9 = .ok (.aload_n 0, 1) := by decide +kernel
theorem dX6_shelf_10 : decode cX6_shelf 10 = .ok (.getfield 55, 3) := by decide +kernel
theorem dX6_shelf_13 : decode cX6_shelf 13 = .ok (.iload_n 1, 1) := by decide +kernel
theorem dX6_shelf_14 : decode cX6_shelf 14 = .ok (.aaload, 1) := by decide +kernel
theorem dX6_shelf_15 : decode cX6_shelf 15 = .ok (.astore 4, 2) := by decide +kernel
theorem dX6_shelf_17 : decode cX6_shelf 17 = .ok (.iload_n 2, 1) := by decide +kernel
theorem dX6_shelf_18 : decode cX6_shelf 18 = .ok (.tableswitch 74 0 2 #[26, 44, 66], 26) := by decide +kernel
theorem dX6_shelf_44 : decode cX6_shelf 44 = .ok (.aload_n 0, 1) := by decide +kernel
theorem dX6_shelf_45 : decode cX6_shelf 45 = .ok (.iload_n 3, 1) := by decide +kernel
theorem dX6_shelf_46 : decode cX6_shelf 46 = .ok (.invokevirtual 111, 3) := by decide +kernel
theorem dX6_shelf_49 : decode cX6_shelf 49 = .ok (.ifCond .ne 5, 3) := by decide +kernel
theorem dX6_shelf_52 : decode cX6_shelf 52 = .ok (.iconst (-1), 1) := by decide +kernel
theorem dX6_shelf_53 : decode cX6_shelf 53 = .ok (.ireturn, 1) := by decide +kernel
theorem dX6_shelf_54 : decode cX6_shelf 54 = .ok (.aload 4, 2) := by decide +kernel
theorem dX6_shelf_56 : decode cX6_shelf 56 = .ok (.iload_n 3, 1) := by decide +kernel
theorem dX6_shelf_57 : decode cX6_shelf 57 = .ok (.invokevirtual 273, 3) := by decide +kernel
theorem dX6_shelf_60 : decode cX6_shelf 60 = .ok (.iconst 1, 1) := by decide +kernel
theorem dX6_shelf_61 : decode cX6_shelf 61 = .ok (.ireturn, 1) := by decide +kernel
theorem dX6_shelf_62 : decode cX6_shelf 62 = .ok (.iload_n 3, 1) := by decide +kernel
theorem dX6_shelf_63 : decode cX6_shelf 63 = .ok (.invokestatic 206, 3) := by decide +kernel
theorem dX6_shelf_66 : decode cX6_shelf 66 = .ok (.ifCond .ne 5, 3) := by decide +kernel
theorem dX6_shelf_69 : decode cX6_shelf 69 = .ok (.iconst (-1), 1) := by decide +kernel
theorem dX6_shelf_70 : decode cX6_shelf 70 = .ok (.ireturn, 1) := by decide +kernel
theorem dX6_shelf_71 : decode cX6_shelf 71 = .ok (.aload 4, 2) := by decide +kernel
theorem dX6_shelf_73 : decode cX6_shelf 73 = .ok (.aload_n 0, 1) := by decide +kernel
theorem dX6_shelf_74 : decode cX6_shelf 74 = .ok (.getfield 49, 3) := by decide +kernel
theorem dX6_shelf_77 : decode cX6_shelf 77 = .ok (.iload_n 3, 1) := by decide +kernel
theorem dX6_shelf_78 : decode cX6_shelf 78 = .ok (.aaload, 1) := by decide +kernel
theorem dX6_shelf_79 : decode cX6_shelf 79 = .ok (.invokevirtual 276, 3) := by decide +kernel
theorem dX6_shelf_82 : decode cX6_shelf 82 = .ok (.iconst 1, 1) := by decide +kernel
theorem dX6_shelf_83 : decode cX6_shelf 83 = .ok (.ireturn, 1) := by decide +kernel
theorem dX6_shelf_84 : decode cX6_shelf 84 = .ok (.aload 4, 2) := by decide +kernel
theorem dX6_shelf_86 : decode cX6_shelf 86 = .ok (.iconst 2, 1) := by decide +kernel
theorem dX6_shelf_87 : decode cX6_shelf 87 = .ok (.putfield 280, 3) := by decide +kernel
theorem dX6_shelf_90 : decode cX6_shelf 90 = .ok (.iconst 1, 1) := by decide +kernel
theorem dX6_shelf_91 : decode cX6_shelf 91 = .ok (.ireturn, 1) := by decide +kernel
theorem dX6_shelf_92 : decode cX6_shelf 92 = .ok (.iconst (-1), 1) := by decide +kernel
theorem dX6_shelf_93 : decode cX6_shelf 93 = .ok (.ireturn, 1) := by decide +kernel
theorem dX6_taken_0 : decode cX6_taken 0 = .ok (.iload_n 2, 1) := by decide +kernel
theorem dX6_taken_1 : decode cX6_taken 1 = .ok (.iconst 5, 1) := by decide +kernel
theorem dX6_taken_2 : decode cX6_taken 2 = .ok (.invokestatic 97, 3) := by decide +kernel
theorem dX6_taken_5 : decode cX6_taken 5 = .ok (.istore_n 3, 1) := by decide +kernel
theorem dX6_taken_6 : decode cX6_taken 6 = .ok (.iload_n 2, 1) := by decide +kernel
theorem dX6_taken_7 : decode cX6_taken 7 = .ok (.bipush 10, 2) := by decide +kernel
theorem dX6_taken_9 : decode cX6_taken 9 = .ok (.bipush 13, 2) := by decide +kernel
theorem dX6_taken_11 : decode cX6_taken 11 = .ok (.invokestatic 65, 3) := by decide +kernel
theorem dX6_taken_14 : decode cX6_taken 14 = .ok (.istore 4, 2) := by decide +kernel
theorem dX6_taken_16 : decode cX6_taken 16 = .ok (.iload_n 1, 1) := by decide +kernel
theorem dX6_taken_17 : decode cX6_taken 17 = .ok (.invokestatic 270, 3) := by decide +kernel
theorem dX6_taken_20 : decode cX6_taken 20 = .ok (.ifCond .eq 12, 3) := by decide +kernel
theorem dX6_taken_23 : decode cX6_taken 23 = .ok (.iload_n 3, 1) := by decide +kernel
theorem dX6_taken_24 : decode cX6_taken 24 = .ok (.ifCond .ne 10, 3) := by decide +kernel
theorem dX6_taken_27 : decode cX6_taken 27 = .ok (.iload 4, 2) := by decide +kernel
theorem dX6_taken_29 : decode cX6_taken 29 = .ok (.ifCond .ne 5, 3) := by decide +kernel
theorem dX6_taken_32 : decode cX6_taken 32 = .ok (.iconst (-1), 1) := by decide +kernel
theorem dX6_taken_33 : decode cX6_taken 33 = .ok (.ireturn, 1) := by decide +kernel
theorem dX6_taken_34 : decode cX6_taken 34 = .ok (.aload_n 0, 1) := by decide +kernel
theorem dX6_taken_35 : decode cX6_taken 35 = .ok (.getfield 55, 3) := by decide +kernel
theorem dX6_taken_38 : decode cX6_taken 38 = .ok (.iload_n 1, 1) := by decide +kernel
theorem dX6_taken_39 : decode cX6_taken 39 = .ok (.aaload, 1) := by decide +kernel
theorem dX6_taken_40 : decode cX6_taken 40 = .ok (.astore 5, 2) := by decide +kernel
theorem dX6_taken_42 : decode cX6_taken 42 = .ok (.aload 5, 2) := by decide +kernel
theorem dX6_taken_44 : decode cX6_taken 44 = .ok (.getfield 280, 3) := by decide +kernel
theorem dX6_taken_47 : decode cX6_taken 47 = .ok (.iconst 1, 1) := by decide +kernel
theorem dX6_taken_48 : decode cX6_taken 48 = .ok (.if_icmp .ne 26, 3) := by decide +kernel
theorem dX6_taken_51 : decode cX6_taken 51 = .ok (.aload 5, 2) := by decide +kernel
theorem dX6_taken_53 : decode cX6_taken 53 = .ok (.getfield 283, 3) := by decide +kernel
theorem dX6_taken_56 : decode cX6_taken 56 = .ok (.iload_n 2, 1) := by decide +kernel
theorem dX6_taken_57 : decode cX6_taken 57 = .ok (.bipush 10, 2) := by decide +kernel
theorem dX6_taken_59 : decode cX6_taken 59 = .ok (.isub, 1) := by decide +kernel
theorem dX6_taken_60 : decode cX6_taken 60 = .ok (.if_icmp .ne 11, 3) := by decide +kernel
theorem dX6_taken_63 : decode cX6_taken 63 = .ok (.aload 5, 2) := by decide +kernel
theorem dX6_taken_65 : decode cX6_taken 65 = .ok (.getfield 284, 3) := by decide +kernel
theorem dX6_taken_68 : decode cX6_taken 68 = .ok (.goto 5, 3) := by decide +kernel
theorem dX6_taken_71 : decode cX6_taken 71 = .ok (.bipush (-13), 2) := by decide +kernel
theorem dX6_taken_73 : decode cX6_taken 73 = .ok (.ireturn, 1) := by decide +kernel
theorem dX6_taken_74 : decode cX6_taken 74 = .ok (.aload_n 0, 1) := by decide +kernel
theorem dX6_taken_75 : decode cX6_taken 75 = .ok (.aload 5, 2) := by decide +kernel
theorem dX6_taken_77 : decode cX6_taken 77 = .ok (.invokevirtual 286, 3) := by decide +kernel
theorem dX6_taken_80 : decode cX6_taken 80 = .ok (.ifCond .ne 6, 3) := by decide +kernel
theorem dX6_taken_83 : decode cX6_taken 83 = .ok (.bipush (-11), 2) := by decide +kernel
theorem dX6_taken_85 : decode cX6_taken 85 = .ok (.ireturn, 1) := by decide +kernel
theorem dX6_taken_86 : decode cX6_taken 86 = .ok (.iload_n 3, 1) := by decide +kernel
theorem dX6_taken_87 : decode cX6_taken 87 = .ok (.ifCond .eq 31, 3) := by decide +kernel
theorem dX6_taken_90 : decode cX6_taken 90 = .ok (.aload_n 0, 1) := by decide +kernel
theorem dX6_taken_91 : decode cX6_taken 91 = .ok (.getfield 10, 3) := by decide +kernel
theorem dX6_taken_94 : decode cX6_taken 94 = .ok (.getfield 115, 3) := by decide +kernel
theorem dX6_taken_97 : decode cX6_taken 97 = .ok (.aload 5, 2) := by decide +kernel
theorem dX6_taken_99 : decode cX6_taken 99 = .ok (.getfield 290, 3) := by decide +kernel
theorem dX6_taken_102 : decode cX6_taken 102 = .ok (.iaload, 1) := by decide +kernel
theorem dX6_taken_103 : decode cX6_taken 103 = .ok (.iload_n 2, 1) := by decide +kernel
theorem dX6_taken_104 : decode cX6_taken 104 = .ok (.invokestatic 293, 3) := by decide +kernel
theorem dX6_taken_107 : decode cX6_taken 107 = .ok (.ifCond .eq 11, 3) := by decide +kernel
theorem dX6_taken_110 : decode cX6_taken 110 = .ok (.aload 5, 2) := by decide +kernel
theorem dX6_taken_112 : decode cX6_taken 112 = .ok (.getfield 290, 3) := by decide +kernel
theorem dX6_taken_115 : decode cX6_taken 115 = .ok (.goto 5, 3) := by decide +kernel
theorem dX6_taken_118 : decode cX6_taken 118 = .ok (.bipush (-13), 2) := by decide +kernel
theorem dX6_taken_120 : decode cX6_taken 120 = .ok (.ireturn, 1) := by decide +kernel
theorem dX6_act_0 : decode cX6_act 0 = .ok (.aload_n 0, 1) := by decide +kernel
theorem dX6_act_1 : decode cX6_act 1 = .ok (.getfield 43, 3) := by decide +kernel
theorem dX6_act_4 : decode cX6_act 4 = .ok (.iconst 0, 1) := by decide +kernel
theorem dX6_act_5 : decode cX6_act 5 = .ok (.putfield 296, 3) := by decide +kernel
theorem dX6_act_8 : decode cX6_act 8 = .ok (.iload_n 1, 1) := by decide +kernel
theorem dX6_act_9 : decode cX6_act 9 = .ok (.invokestatic 270, 3) := by decide +kernel
theorem dX6_act_12 : decode cX6_act 12 = .ok (.ifCond .eq 24, 3) := by decide +kernel
theorem dX6_act_15 : decode cX6_act 15 = .ok (.iload_n 2, 1) := by decide +kernel
theorem dX6_act_16 : decode cX6_act 16 = .ok (.iconst 3, 1) := by decide +kernel
theorem dX6_act_17 : decode cX6_act 17 = .ok (.invokestatic 97, 3) := by decide +kernel
theorem dX6_act_20 : decode cX6_act 20 = .ok (.ifCond .eq 16, 3) := by decide +kernel
theorem dX6_act_23 : decode cX6_act 23 = .ok (.aload_n 0, 1) := by decide +kernel
theorem dX6_act_24 : decode cX6_act 24 = .ok (.aload_n 0, 1) := by decide +kernel
theorem dX6_act_25 : decode cX6_act 25 = .ok (.getfield 55, 3) := by decide +kernel
theorem dX6_act_28 : decode cX6_act 28 = .ok (.iload_n 1, 1) := by decide +kernel
theorem dX6_act_29 : decode cX6_act 29 = .ok (.aaload, 1) := by decide +kernel
theorem dX6_act_30 : decode cX6_act 30 = .ok (.invokevirtual 286, 3) := by decide +kernel
theorem dX6_act_33 : decode cX6_act 33 = .ok (.ifCond .ne 5, 3) := by decide +kernel
theorem dX6_act_36 : decode cX6_act 36 = .ok (.iconst 0, 1) := by decide +kernel
theorem dX6_act_37 : decode cX6_act 37 = .ok (.ireturn, 1) := by decide +kernel
theorem dX6_act_38 : decode cX6_act 38 = .ok (.aload_n 0, 1) := by decide +kernel
theorem dX6_act_39 : decode cX6_act 39 = .ok (.getfield 55, 3) := by decide +kernel
theorem dX6_act_42 : decode cX6_act 42 = .ok (.iload_n 1, 1) := by decide +kernel
theorem dX6_act_43 : decode cX6_act 43 = .ok (.aaload, 1) := by decide +kernel
theorem dX6_act_44 : decode cX6_act 44 = .ok (.getfield 290, 3) := by decide +kernel
theorem dX6_act_47 : decode cX6_act 47 = .ok (.istore 4, 2) := by decide +kernel
theorem dX6_act_49 : decode cX6_act 49 = .ok (.aload_n 0, 1) := by decide +kernel
theorem dX6_act_50 : decode cX6_act 50 = .ok (.getfield 43, 3) := by decide +kernel
theorem dX6_act_53 : decode cX6_act 53 = .ok (.aload_n 0, 1) := by decide +kernel
theorem dX6_act_54 : decode cX6_act 54 = .ok (.getfield 10, 3) := by decide +kernel
theorem dX6_act_57 : decode cX6_act 57 = .ok (.getfield 115, 3) := by decide +kernel
theorem dX6_act_60 : decode cX6_act 60 = .ok (.iload 4, 2) := by decide +kernel
theorem dX6_act_62 : decode cX6_act 62 = .ok (.iaload, 1) := by decide +kernel
theorem dX6_act_63 : decode cX6_act 63 = .ok (.iload 4, 2) := by decide +kernel
theorem dX6_act_65 : decode cX6_act 65 = .ok (.aload_n 0, 1) := by decide +kernel
theorem dX6_act_66 : decode cX6_act 66 = .ok (.getfield 10, 3) := by decide +kernel
theorem dX6_act_69 : decode cX6_act 69 = .ok (.getfield 118, 3) := by decide +kernel
theorem dX6_act_72 : decode cX6_act 72 = .ok (.iload 4, 2) := by decide +kernel
theorem dX6_act_74 : decode cX6_act 74 = .ok (.iaload, 1) := by decide +kernel
theorem dX6_act_75 : decode cX6_act 75 = .ok (.invokevirtual 299, 3) := by decide +kernel
theorem dX6_act_78 : decode cX6_act 78 = .ok (.aload_n 0, 1) := by decide +kernel
theorem dX6_act_79 : decode cX6_act 79 = .ok (.getfield 43, 3) := by decide +kernel
theorem dX6_act_82 : decode cX6_act 82 = .ok (.iload_n 2, 1) := by decide +kernel
theorem dX6_act_83 : decode cX6_act 83 = .ok (.iload_n 3, 1) := by decide +kernel
theorem dX6_act_84 : decode cX6_act 84 = .ok (.invokevirtual 302, 3) := by decide +kernel
theorem dX6_act_87 : decode cX6_act 87 = .ok (.ireturn, 1) := by decide +kernel
theorem dX6_trace_0 : decode cX6_trace 0 = .ok (.iload_n 1, 1) := by decide +kernel
theorem dX6_trace_1 : decode cX6_trace 1 = .ok (.ifCond .lt 26, 3) := by decide +kernel
theorem dX6_trace_4 : decode cX6_trace 4 = .ok (.iload_n 1, 1) := by decide +kernel
theorem dX6_trace_5 : decode cX6_trace 5 = .ok (.aload_n 0, 1) := by decide +kernel
theorem dX6_trace_6 : decode cX6_trace 6 = .ok (.getfield 43, 3) := by decide +kernel
theorem dX6_trace_9 : decode cX6_trace 9 = .ok (.getfield 296, 3) := by decide +kernel
theorem dX6_trace_12 : decode cX6_trace 12 = .ok (.if_icmp .ge 15, 3) := by decide +kernel
theorem dX6_trace_15 : decode cX6_trace 15 = .ok (.aload_n 0, 1) := by decide +kernel
theorem dX6_trace_16 : decode cX6_trace 16 = .ok (.getfield 43, 3) := by decide +kernel
theorem dX6_trace_19 : decode cX6_trace 19 = .ok (.getfield 305, 3) := by decide +kernel
theorem dX6_trace_22 : decode cX6_trace 22 = .ok (.iload_n 1, 1) := by decide +kernel
theorem dX6_trace_23 : decode cX6_trace 23 = .ok (.iaload, 1) := by decide +kernel
theorem dX6_trace_24 : decode cX6_trace 24 = .ok (.goto 5, 3) := by decide +kernel
theorem dX6_trace_27 : decode cX6_trace 27 = .ok (.bipush (-3), 2) := by decide +kernel
theorem dX6_trace_29 : decode cX6_trace 29 = .ok (.ireturn, 1) := by decide +kernel
theorem dX6_many_0 : decode cX6_many 0 = .ok (.iload_n 1, 1) := by decide +kernel
theorem dX6_many_1 : decode cX6_many 1 = .ok (.tableswitch 116 0 6 #[43, 51, 70, 81, 92, 100, 108], 43) := by decide +kernel
theorem dX6_many_44 : decode cX6_many 44 = .ok (.aload_n 0, 1) := by decide +kernel
theorem dX6_many_45 : decode cX6_many 45 = .ok (.getfield 10, 3) := by decide +kernel
theorem dX6_many_48 : decode cX6_many 48 = .ok (.getfield 94, 3) := by decide +kernel
theorem dX6_many_51 : decode cX6_many 51 = .ok (.ireturn, 1) := by decide +kernel
theorem dX6_many_52 : decode cX6_many 52 = .ok (.aload_n 0, 1) := by decide +kernel
theorem dX6_many_53 : decode cX6_many 53 = .ok (.getfield 10, 3) := by decide +kernel
theorem dX6_many_56 : decode cX6_many 56 = .ok (.getfield 94, 3) := by decide +kernel
theorem dX6_many_59 : decode cX6_many 59 = .ok (.aload_n 0, 1) := by decide +kernel
theorem dX6_many_60 : decode cX6_many 60 = .ok (.getfield 10, 3) := by decide +kernel
theorem dX6_many_63 : decode cX6_many 63 = .ok (.invokevirtual 177, 3) := by decide +kernel
theorem dX6_many_66 : decode cX6_many 66 = .ok (.invokestatic 189, 3) := by decide +kernel
theorem dX6_many_69 : decode cX6_many 69 = .ok (.isub, 1) := by decide +kernel
theorem dX6_many_70 : decode cX6_many 70 = .ok (.ireturn, 1) := by decide +kernel
theorem dX6_many_71 : decode cX6_many 71 = .ok (.aload_n 0, 1) := by decide +kernel
theorem dX6_many_72 : decode cX6_many 72 = .ok (.getfield 10, 3) := by decide +kernel
theorem dX6_many_75 : decode cX6_many 75 = .ok (.invokevirtual 308, 3) := by decide +kernel
theorem dX6_many_78 : decode cX6_many 78 = .ok (.invokestatic 189, 3) := by decide +kernel
theorem dX6_many_81 : decode cX6_many 81 = .ok (.ireturn, 1) := by decide +kernel
theorem dX6_many_82 : decode cX6_many 82 = .ok (.aload_n 0, 1) := by decide +kernel
theorem dX6_many_83 : decode cX6_many 83 = .ok (.getfield 10, 3) := by decide +kernel
theorem dX6_many_86 : decode cX6_many 86 = .ok (.invokevirtual 180, 3) := by decide +kernel
theorem dX6_many_89 : decode cX6_many 89 = .ok (.invokestatic 189, 3) := by decide +kernel
theorem dX6_many_92 : decode cX6_many 92 = .ok (.ireturn, 1) := by decide +kernel
theorem dX6_many_93 : decode cX6_many 93 = .ok (.aload_n 0, 1) := by decide +kernel
theorem dX6_many_94 : decode cX6_many 94 = .ok (.getfield 36, 3) := by decide +kernel
theorem dX6_many_97 : decode cX6_many 97 = .ok (.getfield 91, 3) := by decide +kernel
theorem dX6_many_100 : decode cX6_many 100 = .ok (.ireturn, 1) := by decide +kernel
theorem dX6_many_101 : decode cX6_many 101 = .ok (.aload_n 0, 1) := by decide +kernel
theorem dX6_many_102 : decode cX6_many 102 = .ok (.getfield 29, 3) := by decide +kernel
theorem dX6_many_105 : decode cX6_many 105 = .ok (.getfield 84, 3) := by decide +kernel
theorem dX6_many_108 : decode cX6_many 108 = .ok (.ireturn, 1) := by decide +kernel
theorem dX6_many_109 : decode cX6_many 109 = .ok (.aload_n 0, 1) := by decide +kernel
theorem dX6_many_110 : decode cX6_many 110 = .ok (.getfield 43, 3) := by decide +kernel
theorem dX6_many_113 : decode cX6_many 113 = .ok (.getfield 296, 3) := by decide +kernel
theorem dX6_many_116 : decode cX6_many 116 = .ok (.ireturn, 1) := by decide +kernel
theorem dX6_many_117 : decode cX6_many 117 = .ok (.iconst (-1), 1) := by decide +kernel
theorem dX6_many_118 : decode cX6_many 118 = .ok (.ireturn, 1) := by decide +kernel
theorem dX6_keep_0 : decode cX6_keep 0 = .ok (.aload_n 0, 1) := by decide +kernel
theorem dX6_keep_1 : decode cX6_keep 1 = .ok (.getfield 19, 3) := by decide +kernel
theorem dX6_keep_4 : decode cX6_keep 4 = .ok (.aload_n 0, 1) := by decide +kernel
theorem dX6_keep_5 : decode cX6_keep 5 = .ok (.getfield 10, 3) := by decide +kernel
theorem dX6_keep_8 : decode cX6_keep 8 = .ok (.invokevirtual 87, 3) := by decide +kernel
theorem dX6_keep_11 : decode cX6_keep 11 = .ok (.aload_n 0, 1) := by decide +kernel
theorem dX6_keep_12 : decode cX6_keep 12 = .ok (.iconst 1, 1) := by decide +kernel
theorem dX6_keep_13 : decode cX6_keep 13 = .ok (.putfield 22, 3) := by decide +kernel
theorem dX6_keep_16 : decode cX6_keep 16 = .ok (.iconst 1, 1) := by decide +kernel
theorem dX6_keep_17 : decode cX6_keep 17 = .ok (.ireturn, 1) := by decide +kernel
theorem dX6_again_0 : decode cX6_again 0 = .ok (.aload_n 0, 1) := by decide +kernel
theorem dX6_again_1 : decode cX6_again 1 = .ok (.getfield 22, 3) := by decide +kernel
theorem dX6_again_4 : decode cX6_again 4 = .ok (.ifCond .ne 6, 3) := by decide +kernel
theorem dX6_again_7 : decode cX6_again 7 = .ok (.bipush (-3), 2) := by decide +kernel
theorem dX6_again_9 : decode cX6_again 9 = .ok (.ireturn, 1) := by decide +kernel
theorem dX6_again_10 : decode cX6_again 10 = .ok (.aload_n 0, 1) := by decide +kernel
theorem dX6_again_11 : decode cX6_again 11 = .ok (.getfield 10, 3) := by decide +kernel
theorem dX6_again_14 : decode cX6_again 14 = .ok (.aload_n 0, 1) := by decide +kernel
theorem dX6_again_15 : decode cX6_again 15 = .ok (.getfield 19, 3) := by decide +kernel
theorem dX6_again_18 : decode cX6_again 18 = .ok (.invokevirtual 87, 3) := by decide +kernel
theorem dX6_again_21 : decode cX6_again 21 = .ok (.aload_n 0, 1) := by decide +kernel
theorem dX6_again_22 : decode cX6_again 22 = .ok (.getfield 10, 3) := by decide +kernel
theorem dX6_again_25 : decode cX6_again 25 = .ok (.getfield 94, 3) := by decide +kernel
theorem dX6_again_28 : decode cX6_again 28 = .ok (.ireturn, 1) := by decide +kernel
theorem dX6_upTo_0 : decode cX6_upTo 0 = .ok (.iload_n 0, 1) := by decide +kernel
theorem dX6_upTo_1 : decode cX6_upTo 1 = .ok (.ifCond .lt 12, 3) := by decide +kernel
theorem dX6_upTo_4 : decode cX6_upTo 4 = .ok (.iload_n 0, 1) := by decide +kernel
theorem dX6_upTo_5 : decode cX6_upTo 5 = .ok (.iload_n 1, 1) := by decide +kernel
theorem dX6_upTo_6 : decode cX6_upTo 6 = .ok (.if_icmp .gt 7, 3) := by decide +kernel
theorem dX6_upTo_9 : decode cX6_upTo 9 = .ok (.iconst 1, 1) := by decide +kernel
theorem dX6_upTo_10 : decode cX6_upTo 10 = .ok (.goto 4, 3) := by decide +kernel
theorem dX6_upTo_13 : decode cX6_upTo 13 = .ok (.iconst 0, 1) := by decide +kernel
theorem dX6_upTo_14 : decode cX6_upTo 14 = .ok (.ireturn, 1) := by decide +kernel
theorem dX6_between_0 : decode cX6_between 0 = .ok (.iload_n 0, 1) := by decide +kernel
theorem dX6_between_1 : decode cX6_between 1 = .ok (.iload_n 1, 1) := by decide +kernel
theorem dX6_between_2 : decode cX6_between 2 = .ok (.if_icmp .lt 12, 3) := by decide +kernel
theorem dX6_between_5 : decode cX6_between 5 = .ok (.iload_n 0, 1) := by decide +kernel
theorem dX6_between_6 : decode cX6_between 6 = .ok (.iload_n 2, 1) := by decide +kernel
theorem dX6_between_7 : decode cX6_between 7 = .ok (.if_icmp .gt 7, 3) := by decide +kernel
theorem dX6_between_10 : decode cX6_between 10 = .ok (.iconst 1, 1) := by decide +kernel
theorem dX6_between_11 : decode cX6_between 11 = .ok (.goto 4, 3) := by decide +kernel
theorem dX6_between_14 : decode cX6_between 14 = .ok (.iconst 0, 1) := by decide +kernel
theorem dX6_between_15 : decode cX6_between 15 = .ok (.ireturn, 1) := by decide +kernel
theorem dX6_isPerson_0 : decode cX6_isPerson 0 = .ok (.iload_n 1, 1) := by decide +kernel
theorem dX6_isPerson_1 : decode cX6_isPerson 1 = .ok (.ifCond .lt 18, 3) := by decide +kernel
theorem dX6_isPerson_4 : decode cX6_isPerson 4 = .ok (.iload_n 1, 1) := by decide +kernel
theorem dX6_isPerson_5 : decode cX6_isPerson 5 = .ok (.aload_n 0, 1) := by decide +kernel
theorem dX6_isPerson_6 : decode cX6_isPerson 6 = .ok (.getfield 10, 3) := by decide +kernel
theorem dX6_isPerson_9 : decode cX6_isPerson 9 = .ok (.getfield 94, 3) := by decide +kernel
theorem dX6_isPerson_12 : decode cX6_isPerson 12 = .ok (.if_icmp .ge 7, 3) := by decide +kernel
theorem dX6_isPerson_15 : decode cX6_isPerson 15 = .ok (.iconst 1, 1) := by decide +kernel
theorem dX6_isPerson_16 : decode cX6_isPerson 16 = .ok (.goto 4, 3) := by decide +kernel
theorem dX6_isPerson_19 : decode cX6_isPerson 19 = .ok (.iconst 0, 1) := by decide +kernel
theorem dX6_isPerson_20 : decode cX6_isPerson 20 = .ok (.ireturn, 1) := by decide +kernel
theorem dX6_areTwo_0 : decode cX6_areTwo 0 = .ok (.aload_n 0, 1) := by decide +kernel
theorem dX6_areTwo_1 : decode cX6_areTwo 1 = .ok (.iload_n 1, 1) := by decide +kernel
theorem dX6_areTwo_2 : decode cX6_areTwo 2 = .ok (.invokevirtual 111, 3) := by decide +kernel
theorem dX6_areTwo_5 : decode cX6_areTwo 5 = .ok (.ifCond .eq 20, 3) := by decide +kernel
theorem dX6_areTwo_8 : decode cX6_areTwo 8 = .ok (.aload_n 0, 1) := by decide +kernel
theorem dX6_areTwo_9 : decode cX6_areTwo 9 = .ok (.iload_n 2, 1) := by decide +kernel
theorem dX6_areTwo_10 : decode cX6_areTwo 10 = .ok (.invokevirtual 111, 3) := by decide +kernel
theorem dX6_areTwo_13 : decode cX6_areTwo 13 = .ok (.ifCond .eq 12, 3) := by decide +kernel
theorem dX6_areTwo_16 : decode cX6_areTwo 16 = .ok (.iload_n 1, 1) := by decide +kernel
theorem dX6_areTwo_17 : decode cX6_areTwo 17 = .ok (.iload_n 2, 1) := by decide +kernel
theorem dX6_areTwo_18 : decode cX6_areTwo 18 = .ok (.if_icmp .eq 7, 3) := by decide +kernel
theorem dX6_areTwo_21 : decode cX6_areTwo 21 = .ok (.iconst 1, 1) := by decide +kernel
theorem dX6_areTwo_22 : decode cX6_areTwo 22 = .ok (.goto 4, 3) := by decide +kernel
theorem dX6_areTwo_25 : decode cX6_areTwo 25 = .ok (.iconst 0, 1) := by decide +kernel
theorem dX6_areTwo_26 : decode cX6_areTwo 26 = .ok (.ireturn, 1) := by decide +kernel
theorem dX6_isSheet_0 : decode cX6_isSheet 0 = .ok (.iload_n 0, 1) := by decide +kernel
theorem dX6_isSheet_1 : decode cX6_isSheet 1 = .ok (.iconst 3, 1) := by decide +kernel
theorem dX6_isSheet_2 : decode cX6_isSheet 2 = .ok (.invokestatic 97, 3) := by decide +kernel
theorem dX6_isSheet_5 : decode cX6_isSheet 5 = .ok (.ireturn, 1) := by decide +kernel
theorem dX6_isShelf_0 : decode cX6_isShelf 0 = .ok (.iload_n 0, 1) := by decide +kernel
theorem dX6_isShelf_1 : decode cX6_isShelf 1 = .ok (.iconst 3, 1) := by decide +kernel
theorem dX6_isShelf_2 : decode cX6_isShelf 2 = .ok (.invokestatic 97, 3) := by decide +kernel
theorem dX6_isShelf_5 : decode cX6_isShelf 5 = .ok (.ireturn, 1) := by decide +kernel
theorem dX6_holdsSomebody_0 : decode cX6_holdsSomebody 0 = .ok (.aload_n 1, 1) := by decide +kernel
theorem dX6_holdsSomebody_1 : decode cX6_holdsSomebody 1 = .ok (.getfield 280, 3) := by decide +kernel
theorem dX6_holdsSomebody_4 : decode cX6_holdsSomebody 4 = .ok (.ifCond .ne 18, 3) := by decide +kernel
theorem dX6_holdsSomebody_7 : decode cX6_holdsSomebody 7 = .ok (.aload_n 0, 1) := by decide +kernel
theorem dX6_holdsSomebody_8 : decode cX6_holdsSomebody 8 = .ok (.aload_n 1, 1) := by decide +kernel
theorem dX6_holdsSomebody_9 : decode cX6_holdsSomebody 9 = .ok (.getfield 290, 3) := by decide +kernel
theorem dX6_holdsSomebody_12 : decode cX6_holdsSomebody 12 = .ok (.invokevirtual 111, 3) := by decide +kernel
theorem dX6_holdsSomebody_15 : decode cX6_holdsSomebody 15 = .ok (.ifCond .eq 7, 3) := by decide +kernel
theorem dX6_holdsSomebody_18 : decode cX6_holdsSomebody 18 = .ok (.iconst 1, 1) := by decide +kernel
theorem dX6_holdsSomebody_19 : decode cX6_holdsSomebody 19 = .ok (.goto 4, 3) := by decide +kernel
theorem dX6_holdsSomebody_22 : decode cX6_holdsSomebody 22 = .ok (.iconst 0, 1) := by decide +kernel
theorem dX6_holdsSomebody_23 : decode cX6_holdsSomebody 23 = .ok (.ireturn, 1) := by decide +kernel
theorem dX6_isUnder_0 : decode cX6_isUnder 0 = .ok (.iload_n 0, 1) := by decide +kernel
theorem dX6_isUnder_1 : decode cX6_isUnder 1 = .ok (.istore_n 2, 1) := by decide +kernel
theorem dX6_isUnder_2 : decode cX6_isUnder 2 = .ok (.iconst 0, 1) := by decide +kernel
theorem dX6_isUnder_3 : decode cX6_isUnder 3 = .ok (.istore_n 3, 1) := by decide +kernel
theorem dX6_isUnder_4 : decode cX6_isUnder 4 = .ok (.iload_n 3, 1) := by decide +kernel
theorem dX6_isUnder_5 : decode cX6_isUnder 5 = .ok (.bipush 6, 2) := by decide +kernel
theorem dX6_isUnder_7 : decode cX6_isUnder 7 = .ok (.if_icmp .ge 30, 3) := by decide +kernel
theorem dX6_isUnder_10 : decode cX6_isUnder 10 = .ok (.iload_n 2, 1) := by decide +kernel
theorem dX6_isUnder_11 : decode cX6_isUnder 11 = .ok (.iconst 5, 1) := by decide +kernel
theorem dX6_isUnder_12 : decode cX6_isUnder 12 = .ok (.invokestatic 97, 3) := by decide +kernel
theorem dX6_isUnder_15 : decode cX6_isUnder 15 = .ok (.ifCond .eq 22, 3) := by decide +kernel
theorem dX6_isUnder_18 : decode cX6_isUnder 18 = .ok (.iload_n 2, 1) := by decide +kernel
theorem dX6_isUnder_19 : decode cX6_isUnder 19 = .ok (.iload_n 1, 1) := by decide +kernel
theorem dX6_isUnder_20 : decode cX6_isUnder 20 = .ok (.if_icmp .ne 5, 3) := by decide +kernel
theorem dX6_isUnder_23 : decode cX6_isUnder 23 = .ok (.iconst 1, 1) := by decide +kernel
theorem dX6_isUnder_24 : decode cX6_isUnder 24 = .ok (.ireturn, 1) := by decide +kernel
theorem dX6_isUnder_25 : decode cX6_isUnder 25 = .ok (.getstatic 311, 3) := by decide +kernel
theorem dX6_isUnder_28 : decode cX6_isUnder 28 = .ok (.iload_n 2, 1) := by decide +kernel
theorem dX6_isUnder_29 : decode cX6_isUnder 29 = .ok (.iaload, 1) := by decide +kernel
theorem dX6_isUnder_30 : decode cX6_isUnder 30 = .ok (.istore_n 2, 1) := by decide +kernel
theorem dX6_isUnder_31 : decode cX6_isUnder 31 = .ok (.iinc 3 1, 3) := by decide +kernel
theorem dX6_isUnder_34 : decode cX6_isUnder 34 = .ok (.goto (-30), 3) := by decide +kernel
theorem dX6_isUnder_37 : decode cX6_isUnder 37 = .ok (.iconst 0, 1) := by decide +kernel
theorem dX6_isUnder_38 : decode cX6_isUnder 38 = .ok (.ireturn, 1) := by decide +kernel
theorem dX6_choiceFor_0 : decode cX6_choiceFor 0 = .ok (.aload_n 0, 1) := by decide +kernel
theorem dX6_choiceFor_1 : decode cX6_choiceFor 1 = .ok (.iload_n 1, 1) := by decide +kernel
theorem dX6_choiceFor_2 : decode cX6_choiceFor 2 = .ok (.invokevirtual 111, 3) := by decide +kernel
theorem dX6_choiceFor_5 : decode cX6_choiceFor 5 = .ok (.ifCond .eq 13, 3) := by decide +kernel
theorem dX6_choiceFor_8 : decode cX6_choiceFor 8 = .ok (.iload_n 2, 1) := by decide +kernel
theorem dX6_choiceFor_9 : decode cX6_choiceFor 9 = .ok (.iconst 1, 1) := by decide +kernel
theorem dX6_choiceFor_10 : decode cX6_choiceFor 10 = .ok (.bipush 20, 2) := by decide +kernel
theorem dX6_choiceFor_12 : decode cX6_choiceFor 12 = .ok (.invokestatic 65, 3) := by decide +kernel
theorem dX6_choiceFor_15 : decode cX6_choiceFor 15 = .ok (.ifCond .ne 5, 3) := by decide +kernel
theorem dX6_choiceFor_18 : decode cX6_choiceFor 18 = .ok (.iconst (-1), 1) := by decide +kernel
theorem dX6_choiceFor_19 : decode cX6_choiceFor 19 = .ok (.ireturn, 1) := by decide +kernel
theorem dX6_choiceFor_20 : decode cX6_choiceFor 20 = .ok (.iconst 0, 1) := by decide +kernel
theorem dX6_choiceFor_21 : decode cX6_choiceFor 21 = .ok (.istore 5, 2) := by decide +kernel
theorem dX6_choiceFor_23 : decode cX6_choiceFor 23 = .ok (.iconst (-1), 1) := by decide +kernel
theorem dX6_choiceFor_24 : decode cX6_choiceFor 24 = .ok (.istore 6, 2) := by decide +kernel
theorem dX6_choiceFor_26 : decode cX6_choiceFor 26 = .ok (.iconst 0, 1) := by decide +kernel
theorem dX6_choiceFor_27 : decode cX6_choiceFor 27 = .ok (.istore 7, 2) := by decide +kernel
theorem dX6_choiceFor_29 : decode cX6_choiceFor 29 = .ok (.iload 7, 2) := by decide +kernel
theorem dX6_choiceFor_31 : decode cX6_choiceFor 31 = .ok (.iload 4, 2) := by decide +kernel
theorem dX6_choiceFor_33 : decode cX6_choiceFor 33 = .ok (.if_icmp .ge 64, 3) := by decide +kernel
theorem dX6_choiceFor_36 : decode cX6_choiceFor 36 = .ok (.aload_n 0, 1) := by decide +kernel
theorem dX6_choiceFor_37 : decode cX6_choiceFor 37 = .ok (.getfield 16, 3) := by decide +kernel
theorem dX6_choiceFor_40 : decode cX6_choiceFor 40 = .ok (.aload_n 0, 1) := by decide +kernel
theorem dX6_choiceFor_41 : decode cX6_choiceFor 41 = .ok (.getfield 10, 3) := by decide +kernel
theorem dX6_choiceFor_44 : decode cX6_choiceFor 44 = .ok (.invokevirtual 87, 3) := by decide +kernel
theorem dX6_choiceFor_47 : decode cX6_choiceFor 47 = .ok (.aload_n 0, 1) := by decide +kernel
theorem dX6_choiceFor_48 : decode cX6_choiceFor 48 = .ok (.getfield 16, 3) := by decide +kernel
theorem dX6_choiceFor_51 : decode cX6_choiceFor 51 = .ok (.iload_n 1, 1) := by decide +kernel
theorem dX6_choiceFor_52 : decode cX6_choiceFor 52 = .ok (.iload_n 3, 1) := by decide +kernel
theorem dX6_choiceFor_53 : decode cX6_choiceFor 53 = .ok (.iload 7, 2) := by decide +kernel
theorem dX6_choiceFor_55 : decode cX6_choiceFor 55 = .ok (.invokevirtual 314, 3) := by decide +kernel
theorem dX6_choiceFor_58 : decode cX6_choiceFor 58 = .ok (.aload_n 0, 1) := by decide +kernel
theorem dX6_choiceFor_59 : decode cX6_choiceFor 59 = .ok (.getfield 16, 3) := by decide +kernel
theorem dX6_choiceFor_62 : decode cX6_choiceFor 62 = .ok (.iload_n 2, 1) := by decide +kernel
theorem dX6_choiceFor_63 : decode cX6_choiceFor 63 = .ok (.invokevirtual 160, 3) := by decide +kernel
theorem dX6_choiceFor_66 : decode cX6_choiceFor 66 = .ok (.aload_n 0, 1) := by decide +kernel
theorem dX6_choiceFor_67 : decode cX6_choiceFor 67 = .ok (.getfield 16, 3) := by decide +kernel
theorem dX6_choiceFor_70 : decode cX6_choiceFor 70 = .ok (.iload_n 1, 1) := by decide +kernel
theorem dX6_choiceFor_71 : decode cX6_choiceFor 71 = .ok (.invokevirtual 317, 3) := by decide +kernel
theorem dX6_choiceFor_74 : decode cX6_choiceFor 74 = .ok (.istore 8, 2) := by decide +kernel
theorem dX6_choiceFor_76 : decode cX6_choiceFor 76 = .ok (.iload 8, 2) := by decide +kernel
theorem dX6_choiceFor_78 : decode cX6_choiceFor 78 = .ok (.iload 6, 2) := by decide +kernel
theorem dX6_choiceFor_80 : decode cX6_choiceFor 80 = .ok (.if_icmp .le 11, 3) := by decide +kernel
theorem dX6_choiceFor_83 : decode cX6_choiceFor 83 = .ok (.iload 8, 2) := by decide +kernel
theorem dX6_choiceFor_85 : decode cX6_choiceFor 85 = .ok (.istore 6, 2) := by decide +kernel
theorem dX6_choiceFor_87 : decode cX6_choiceFor 87 = .ok (.iload 7, 2) := by decide +kernel
theorem dX6_choiceFor_89 : decode cX6_choiceFor 89 = .ok (.istore 5, 2) := by decide +kernel
theorem dX6_choiceFor_91 : decode cX6_choiceFor 91 = .ok (.iinc 7 1, 3) := by decide +kernel
theorem dX6_choiceFor_94 : decode cX6_choiceFor 94 = .ok (.goto (-65), 3) := by decide +kernel
theorem dX6_choiceFor_97 : decode cX6_choiceFor 97 = .ok (.iload 5, 2) := by decide +kernel
theorem dX6_choiceFor_99 : decode cX6_choiceFor 99 = .ok (.ireturn, 1) := by decide +kernel
theorem dX6_knowsAsTold_0 : decode cX6_knowsAsTold 0 = .ok (.aload_n 0, 1) := by decide +kernel
theorem dX6_knowsAsTold_1 : decode cX6_knowsAsTold 1 = .ok (.getfield 16, 3) := by decide +kernel
theorem dX6_knowsAsTold_4 : decode cX6_knowsAsTold 4 = .ok (.aload_n 0, 1) := by decide +kernel
theorem dX6_knowsAsTold_5 : decode cX6_knowsAsTold 5 = .ok (.getfield 10, 3) := by decide +kernel
theorem dX6_knowsAsTold_8 : decode cX6_knowsAsTold 8 = .ok (.invokevirtual 87, 3) := by decide +kernel
theorem dX6_knowsAsTold_11 : decode cX6_knowsAsTold 11 = .ok (.aload_n 0, 1) := by decide +kernel
theorem dX6_knowsAsTold_12 : decode cX6_knowsAsTold 12 = .ok (.getfield 16, 3) := by decide +kernel
theorem dX6_knowsAsTold_15 : decode cX6_knowsAsTold 15 = .ok (.iload_n 1, 1) := by decide +kernel
theorem dX6_knowsAsTold_16 : decode cX6_knowsAsTold 16 = .ok (.iconst 1, 1) := by decide +kernel
theorem dX6_knowsAsTold_17 : decode cX6_knowsAsTold 17 = .ok (.iload_n 2, 1) := by decide +kernel
theorem dX6_knowsAsTold_18 : decode cX6_knowsAsTold 18 = .ok (.invokevirtual 314, 3) := by decide +kernel
theorem dX6_knowsAsTold_21 : decode cX6_knowsAsTold 21 = .ok (.iconst 0, 1) := by decide +kernel
theorem dX6_knowsAsTold_22 : decode cX6_knowsAsTold 22 = .ok (.istore 4, 2) := by decide +kernel
theorem dX6_knowsAsTold_24 : decode cX6_knowsAsTold 24 = .ok (.iload 4, 2) := by decide +kernel
theorem dX6_knowsAsTold_26 : decode cX6_knowsAsTold 26 = .ok (.aload_n 3, 1) := by decide +kernel
theorem dX6_knowsAsTold_27 : decode cX6_knowsAsTold 27 = .ok (.getfield 247, 3) := by decide +kernel
theorem dX6_knowsAsTold_30 : decode cX6_knowsAsTold 30 = .ok (.if_icmp .ge 46, 3) := by decide +kernel
theorem dX6_knowsAsTold_33 : decode cX6_knowsAsTold 33 = .ok (.aload_n 0, 1) := by decide +kernel
theorem dX6_knowsAsTold_34 : decode cX6_knowsAsTold 34 = .ok (.getfield 16, 3) := by decide +kernel
theorem dX6_knowsAsTold_37 : decode cX6_knowsAsTold 37 = .ok (.invokevirtual 171, 3) := by decide +kernel
theorem dX6_knowsAsTold_40 : decode cX6_knowsAsTold 40 = .ok (.aload_n 3, 1) := by decide +kernel
theorem dX6_knowsAsTold_41 : decode cX6_knowsAsTold 41 = .ok (.getfield 248, 3) := by decide +kernel
theorem dX6_knowsAsTold_44 : decode cX6_knowsAsTold 44 = .ok (.iload 4, 2) := by decide +kernel
theorem dX6_knowsAsTold_46 : decode cX6_knowsAsTold 46 = .ok (.iaload, 1) := by decide +kernel
theorem dX6_knowsAsTold_47 : decode cX6_knowsAsTold 47 = .ok (.istore 5, 2) := by decide +kernel
theorem dX6_knowsAsTold_49 : decode cX6_knowsAsTold 49 = .ok (.iload 5, 2) := by decide +kernel
theorem dX6_knowsAsTold_51 : decode cX6_knowsAsTold 51 = .ok (.iconst (-1), 1) := by decide +kernel
theorem dX6_knowsAsTold_52 : decode cX6_knowsAsTold 52 = .ok (.if_icmp .eq 18, 3) := by decide +kernel
theorem dX6_knowsAsTold_55 : decode cX6_knowsAsTold 55 = .ok (.iload 5, 2) := by decide +kernel
theorem dX6_knowsAsTold_57 : decode cX6_knowsAsTold 57 = .ok (.aload_n 0, 1) := by decide +kernel
theorem dX6_knowsAsTold_58 : decode cX6_knowsAsTold 58 = .ok (.getfield 16, 3) := by decide +kernel
theorem dX6_knowsAsTold_61 : decode cX6_knowsAsTold 61 = .ok (.iload_n 1, 1) := by decide +kernel
theorem dX6_knowsAsTold_62 : decode cX6_knowsAsTold 62 = .ok (.invokevirtual 317, 3) := by decide +kernel
theorem dX6_knowsAsTold_65 : decode cX6_knowsAsTold 65 = .ok (.if_icmp .eq 5, 3) := by decide +kernel
theorem dX6_knowsAsTold_68 : decode cX6_knowsAsTold 68 = .ok (.iconst 0, 1) := by decide +kernel
theorem dX6_knowsAsTold_69 : decode cX6_knowsAsTold 69 = .ok (.ireturn, 1) := by decide +kernel
theorem dX6_knowsAsTold_70 : decode cX6_knowsAsTold 70 = .ok (.iinc 4 1, 3) := by decide +kernel
theorem dX6_knowsAsTold_73 : decode cX6_knowsAsTold 73 = .ok (.goto (-49), 3) := by decide +kernel
theorem dX6_knowsAsTold_76 : decode cX6_knowsAsTold 76 = .ok (.iconst 1, 1) := by decide +kernel
theorem dX6_knowsAsTold_77 : decode cX6_knowsAsTold 77 = .ok (.ireturn, 1) := by decide +kernel
theorem dX6_listRestsApart_0 : decode cX6_listRestsApart 0 = .ok (.iconst 0, 1) := by decide +kernel
theorem dX6_listRestsApart_1 : decode cX6_listRestsApart 1 = .ok (.istore_n 1, 1) := by decide +kernel
theorem dX6_listRestsApart_2 : decode cX6_listRestsApart 2 = .ok (.iconst 0, 1) := by decide +kernel
theorem dX6_listRestsApart_3 : decode cX6_listRestsApart 3 = .ok (.istore_n 2, 1) := by decide +kernel
theorem dX6_listRestsApart_4 : decode cX6_listRestsApart 4 = .ok (.iload_n 2, 1) := by decide +kernel
theorem dX6_listRestsApart_5 : decode cX6_listRestsApart 5 = .ok (.aload_n 0, 1) := by decide +kernel
theorem dX6_listRestsApart_6 : decode cX6_listRestsApart 6 = .ok (.getfield 10, 3) := by decide +kernel
theorem dX6_listRestsApart_9 : decode cX6_listRestsApart 9 = .ok (.getfield 94, 3) := by decide +kernel
theorem dX6_listRestsApart_12 : decode cX6_listRestsApart 12 = .ok (.if_icmp .ge 48, 3) := by decide +kernel
theorem dX6_listRestsApart_15 : decode cX6_listRestsApart 15 = .ok (.iload_n 2, 1) := by decide +kernel
theorem dX6_listRestsApart_16 : decode cX6_listRestsApart 16 = .ok (.iconst 1, 1) := by decide +kernel
theorem dX6_listRestsApart_17 : decode cX6_listRestsApart 17 = .ok (.iadd, 1) := by decide +kernel
theorem dX6_listRestsApart_18 : decode cX6_listRestsApart 18 = .ok (.istore_n 3, 1) := by decide +kernel
theorem dX6_listRestsApart_19 : decode cX6_listRestsApart 19 = .ok (.iload_n 3, 1) := by decide +kernel
theorem dX6_listRestsApart_20 : decode cX6_listRestsApart 20 = .ok (.aload_n 0, 1) := by decide +kernel
theorem dX6_listRestsApart_21 : decode cX6_listRestsApart 21 = .ok (.getfield 10, 3) := by decide +kernel
theorem dX6_listRestsApart_24 : decode cX6_listRestsApart 24 = .ok (.getfield 94, 3) := by decide +kernel
theorem dX6_listRestsApart_27 : decode cX6_listRestsApart 27 = .ok (.if_icmp .ge 27, 3) := by decide +kernel
theorem dX6_listRestsApart_30 : decode cX6_listRestsApart 30 = .ok (.aload_n 0, 1) := by decide +kernel
theorem dX6_listRestsApart_31 : decode cX6_listRestsApart 31 = .ok (.getfield 59, 3) := by decide +kernel
theorem dX6_listRestsApart_34 : decode cX6_listRestsApart 34 = .ok (.iload_n 1, 1) := by decide +kernel
theorem dX6_listRestsApart_35 : decode cX6_listRestsApart 35 = .ok (.aload_n 0, 1) := by decide +kernel
theorem dX6_listRestsApart_36 : decode cX6_listRestsApart 36 = .ok (.getfield 10, 3) := by decide +kernel
theorem dX6_listRestsApart_39 : decode cX6_listRestsApart 39 = .ok (.iload_n 2, 1) := by decide +kernel
theorem dX6_listRestsApart_40 : decode cX6_listRestsApart 40 = .ok (.iload_n 3, 1) := by decide +kernel
theorem dX6_listRestsApart_41 : decode cX6_listRestsApart 41 = .ok (.invokevirtual 320, 3) := by decide +kernel
theorem dX6_listRestsApart_44 : decode cX6_listRestsApart 44 = .ok (.iastore, 1) := by decide +kernel
theorem dX6_listRestsApart_45 : decode cX6_listRestsApart 45 = .ok (.iinc 1 1, 3) := by decide +kernel
theorem dX6_listRestsApart_48 : decode cX6_listRestsApart 48 = .ok (.iinc 3 1, 3) := by decide +kernel
theorem dX6_listRestsApart_51 : decode cX6_listRestsApart 51 = .ok (.goto (-32), 3) := by decide +kernel
theorem dX6_listRestsApart_54 : decode cX6_listRestsApart 54 = .ok (.iinc 2 1, 3) := by decide +kernel
theorem dX6_listRestsApart_57 : decode cX6_listRestsApart 57 = .ok (.goto (-53), 3) := by decide +kernel
theorem dX6_listRestsApart_60 : decode cX6_listRestsApart 60 = .ok (.iload_n 1, 1) := by decide +kernel
theorem dX6_listRestsApart_61 : decode cX6_listRestsApart 61 = .ok (.ireturn, 1) := by decide +kernel
theorem dX6_tellsApart_0 : decode cX6_tellsApart 0 = .ok (.iconst 0, 1) := by decide +kernel
theorem dX6_tellsApart_1 : decode cX6_tellsApart 1 = .ok (.istore_n 3, 1) := by decide +kernel
theorem dX6_tellsApart_2 : decode cX6_tellsApart 2 = .ok (.iload_n 3, 1) := by decide +kernel
theorem dX6_tellsApart_3 : decode cX6_tellsApart 3 = .ok (.iload_n 2, 1) := by decide +kernel
theorem dX6_tellsApart_4 : decode cX6_tellsApart 4 = .ok (.if_icmp .ge 22, 3) := by decide +kernel
theorem dX6_tellsApart_7 : decode cX6_tellsApart 7 = .ok (.aload_n 0, 1) := by decide +kernel
theorem dX6_tellsApart_8 : decode cX6_tellsApart 8 = .ok (.getfield 59, 3) := by decide +kernel
theorem dX6_tellsApart_11 : decode cX6_tellsApart 11 = .ok (.iload_n 3, 1) := by decide +kernel
theorem dX6_tellsApart_12 : decode cX6_tellsApart 12 = .ok (.iaload, 1) := by decide +kernel
theorem dX6_tellsApart_13 : decode cX6_tellsApart 13 = .ok (.iload_n 1, 1) := by decide +kernel
theorem dX6_tellsApart_14 : decode cX6_tellsApart 14 = .ok (.iand, 1) := by decide +kernel
theorem dX6_tellsApart_15 : decode cX6_tellsApart 15 = .ok (.ifCond .ne 5, 3) := by decide +kernel
theorem dX6_tellsApart_18 : decode cX6_tellsApart 18 = .ok (.iconst 0, 1) := by decide +kernel
theorem dX6_tellsApart_19 : decode cX6_tellsApart 19 = .ok (.ireturn, 1) := by decide +kernel
theorem dX6_tellsApart_20 : decode cX6_tellsApart 20 = .ok (.iinc 3 1, 3) := by decide +kernel
theorem dX6_tellsApart_23 : decode cX6_tellsApart 23 = .ok (.goto (-21), 3) := by decide +kernel
theorem dX6_tellsApart_26 : decode cX6_tellsApart 26 = .ok (.iconst 1, 1) := by decide +kernel
theorem dX6_tellsApart_27 : decode cX6_tellsApart 27 = .ok (.ireturn, 1) := by decide +kernel
theorem dX6_ways_0 : decode cX6_ways 0 = .ok (.lconst 1, 1) := by decide +kernel
theorem dX6_ways_1 : decode cX6_ways 1 = .ok (.lstore_n 2, 1) := by decide +kernel
theorem dX6_ways_2 : decode cX6_ways 2 = .ok (.iconst 0, 1) := by decide +kernel
theorem dX6_ways_3 : decode cX6_ways 3 = .ok (.istore 4, 2) := by decide +kernel
theorem dX6_ways_5 : decode cX6_ways 5 = .ok (.iload 4, 2) := by decide +kernel
theorem dX6_ways_7 : decode cX6_ways 7 = .ok (.iload_n 1, 1) := by decide +kernel
theorem dX6_ways_8 : decode cX6_ways 8 = .ok (.if_icmp .ge 23, 3) := by decide +kernel
theorem dX6_ways_11 : decode cX6_ways 11 = .ok (.lload_n 2, 1) := by decide +kernel
theorem dX6_ways_12 : decode cX6_ways 12 = .ok (.iload_n 0, 1) := by decide +kernel
theorem dX6_ways_13 : decode cX6_ways 13 = .ok (.iload 4, 2) := by decide +kernel
theorem dX6_ways_15 : decode cX6_ways 15 = .ok (.isub, 1) := by decide +kernel
theorem dX6_ways_16 : decode cX6_ways 16 = .ok (.i2l, 1) := by decide +kernel
theorem dX6_ways_17 : decode cX6_ways 17 = .ok (.lmul, 1) := by decide +kernel
theorem dX6_ways_18 : decode cX6_ways 18 = .ok (.iload 4, 2) := by decide +kernel
theorem dX6_ways_20 : decode cX6_ways 20 = .ok (.iconst 1, 1) := by decide +kernel
theorem dX6_ways_21 : decode cX6_ways 21 = .ok (.iadd, 1) := by decide +kernel
theorem dX6_ways_22 : decode cX6_ways 22 = .ok (.i2l, 1) := by decide +kernel
theorem dX6_ways_23 : decode cX6_ways 23 = .ok (.ldiv, 1) := by decide +kernel
theorem dX6_ways_24 : decode cX6_ways 24 = .ok (.lstore_n 2, 1) := by decide +kernel
theorem dX6_ways_25 : decode cX6_ways 25 = .ok (.iinc 4 1, 3) := by decide +kernel
theorem dX6_ways_28 : decode cX6_ways 28 = .ok (.goto (-23), 3) := by decide +kernel
theorem dX6_ways_31 : decode cX6_ways 31 = .ok (.lload_n 2, 1) := by decide +kernel
theorem dX6_ways_32 : decode cX6_ways 32 = .ok (.lreturn, 1) := by decide +kernel
theorem dX6_power_0 : decode cX6_power 0 = .ok (.lconst 1, 1) := by decide +kernel
theorem dX6_power_1 : decode cX6_power 1 = .ok (.lstore_n 3, 1) := by decide +kernel
theorem dX6_power_2 : decode cX6_power 2 = .ok (.iconst 0, 1) := by decide +kernel
theorem dX6_power_3 : decode cX6_power 3 = .ok (.istore 5, 2) := by decide +kernel
theorem dX6_power_5 : decode cX6_power 5 = .ok (.iload 5, 2) := by decide +kernel
theorem dX6_power_7 : decode cX6_power 7 = .ok (.iload_n 2, 1) := by decide +kernel
theorem dX6_power_8 : decode cX6_power 8 = .ok (.if_icmp .ge 13, 3) := by decide +kernel
theorem dX6_power_11 : decode cX6_power 11 = .ok (.lload_n 3, 1) := by decide +kernel
theorem dX6_power_12 : decode cX6_power 12 = .ok (.lload_n 0, 1) := by decide +kernel
theorem dX6_power_13 : decode cX6_power 13 = .ok (.lmul, 1) := by decide +kernel
theorem dX6_power_14 : decode cX6_power 14 = .ok (.lstore_n 3, 1) := by decide +kernel
theorem dX6_power_15 : decode cX6_power 15 = .ok (.iinc 5 1, 3) := by decide +kernel
theorem dX6_power_18 : decode cX6_power 18 = .ok (.goto (-13), 3) := by decide +kernel
theorem dX6_power_21 : decode cX6_power 21 = .ok (.lload_n 3, 1) := by decide +kernel
theorem dX6_power_22 : decode cX6_power 22 = .ok (.lreturn, 1) := by decide +kernel
theorem dX6_partOfFraction_0 : decode cX6_partOfFraction 0 = .ok (.lconst 1, 1) := by decide +kernel
theorem dX6_partOfFraction_1 : decode cX6_partOfFraction 1 = .ok (.lload_n 0, 1) := by decide +kernel
theorem dX6_partOfFraction_2 : decode cX6_partOfFraction 2 = .ok (.lload_n 2, 1) := by decide +kernel
theorem dX6_partOfFraction_3 : decode cX6_partOfFraction 3 = .ok (.invokestatic 323, 3) := by decide +kernel
theorem dX6_partOfFraction_6 : decode cX6_partOfFraction 6 = .ok (.invokestatic 327, 3) := by decide +kernel
theorem dX6_partOfFraction_9 : decode cX6_partOfFraction 9 = .ok (.lstore 5, 2) := by decide +kernel
theorem dX6_partOfFraction_11 : decode cX6_partOfFraction 11 = .ok (.iload 4, 2) := by decide +kernel
theorem dX6_partOfFraction_13 : decode cX6_partOfFraction 13 = .ok (.ifCond .ne 7, 3) := by decide +kernel
theorem dX6_partOfFraction_16 : decode cX6_partOfFraction 16 = .ok (.lload_n 0, 1) := by decide +kernel
theorem dX6_partOfFraction_17 : decode cX6_partOfFraction 17 = .ok (.goto 4, 3) := by decide +kernel
theorem dX6_partOfFraction_20 : decode cX6_partOfFraction 20 = .ok (.lload_n 2, 1) := by decide +kernel
theorem dX6_partOfFraction_21 : decode cX6_partOfFraction 21 = .ok (.lload 5, 2) := by decide +kernel
theorem dX6_partOfFraction_23 : decode cX6_partOfFraction 23 = .ok (.ldiv, 1) := by decide +kernel
theorem dX6_partOfFraction_24 : decode cX6_partOfFraction 24 = .ok (.lreturn, 1) := by decide +kernel
theorem dX6_commonDivisor_0 : decode cX6_commonDivisor 0 = .ok (.lload_n 0, 1) := by decide +kernel
theorem dX6_commonDivisor_1 : decode cX6_commonDivisor 1 = .ok (.lstore 4, 2) := by decide +kernel
theorem dX6_commonDivisor_3 : decode cX6_commonDivisor 3 = .ok (.lload_n 2, 1) := by decide +kernel
theorem dX6_commonDivisor_4 : decode cX6_commonDivisor 4 = .ok (.lstore 6, 2) := by decide +kernel
theorem dX6_commonDivisor_6 : decode cX6_commonDivisor 6 = .ok (.iconst 0, 1) := by decide +kernel
theorem dX6_commonDivisor_7 : decode cX6_commonDivisor 7 = .ok (.istore 8, 2) := by decide +kernel
theorem dX6_commonDivisor_9 : decode cX6_commonDivisor 9 = .ok (.iload 8, 2) := by decide +kernel
theorem dX6_commonDivisor_11 : decode cX6_commonDivisor 11 = .ok (.bipush 100, 2) := by decide +kernel
theorem dX6_commonDivisor_13 : decode cX6_commonDivisor 13 = .ok (.if_icmp .ge 31, 3) := by decide +kernel
theorem dX6_commonDivisor_16 : decode cX6_commonDivisor 16 = .ok (.lload 6, 2) := by decide +kernel
theorem dX6_commonDivisor_18 : decode cX6_commonDivisor 18 = .ok (.lconst 0, 1) := by decide +kernel
theorem dX6_commonDivisor_19 : decode cX6_commonDivisor 19 = .ok (.lcmp, 1) := by decide +kernel
theorem dX6_commonDivisor_20 : decode cX6_commonDivisor 20 = .ok (.ifCond .eq 24, 3) := by decide +kernel
theorem dX6_commonDivisor_23 : decode cX6_commonDivisor 23 = .ok (.lload 4, 2) := by decide +kernel
theorem dX6_commonDivisor_25 : decode cX6_commonDivisor 25 = .ok (.lload 6, 2) := by decide +kernel
theorem dX6_commonDivisor_27 : decode cX6_commonDivisor 27 = .ok (.lrem, 1) := by decide +kernel
theorem dX6_commonDivisor_28 : decode cX6_commonDivisor 28 = .ok (.lstore 9, 2) := by decide +kernel
theorem dX6_commonDivisor_30 : decode cX6_commonDivisor 30 = .ok (.lload 6, 2) := by decide +kernel
theorem dX6_commonDivisor_32 : decode cX6_commonDivisor 32 = .ok (.lstore 4, 2) := by decide +kernel
theorem dX6_commonDivisor_34 : decode cX6_commonDivisor 34 = .ok (.lload 9, 2) := by decide +kernel
theorem dX6_commonDivisor_36 : decode cX6_commonDivisor 36 = .ok (.lstore 6, 2) := by decide +kernel
theorem dX6_commonDivisor_38 : decode cX6_commonDivisor 38 = .ok (.iinc 8 1, 3) := by decide +kernel
theorem dX6_commonDivisor_41 : decode cX6_commonDivisor 41 = .ok (.goto (-32), 3) := by decide +kernel
theorem dX6_commonDivisor_44 : decode cX6_commonDivisor 44 = .ok (.lload 4, 2) := by decide +kernel
theorem dX6_commonDivisor_46 : decode cX6_commonDivisor 46 = .ok (.lreturn, 1) := by decide +kernel
