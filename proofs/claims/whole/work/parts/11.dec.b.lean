theorem dX6_init_0 : decode cX6_init 0 = .ok (.aload_n 0, 1) := by decide +kernel
theorem dX6_init_1 : decode cX6_init 1 = .ok (.invokespecial 1, 3) := by decide +kernel
theorem dX6_init_4 : decode cX6_init 4 = .ok (.aload_n 0, 1) := by decide +kernel
theorem dX6_init_5 : decode cX6_init 5 = .ok (.new 7, 3) := by decide +kernel
theorem dX6_init_8 : decode cX6_init 8 = .ok (.dup, 1) := by decide +kernel
theorem dX6_init_9 : decode cX6_init 9 = .ok (.invokespecial 9, 3) := by decide +kernel
theorem dX6_init_12 : decode cX6_init 12 = .ok (.putfield 10, 3) := by decide +kernel
theorem dX6_init_15 : decode cX6_init 15 = .ok (.aload_n 0, 1) := by decide +kernel
theorem dX6_init_16 : decode cX6_init 16 = .ok (.new 7, 3) := by decide +kernel
theorem dX6_init_19 : decode cX6_init 19 = .ok (.dup, 1) := by decide +kernel
theorem dX6_init_20 : decode cX6_init 20 = .ok (.invokespecial 9, 3) := by decide +kernel
theorem dX6_init_23 : decode cX6_init 23 = .ok (.putfield 16, 3) := by decide +kernel
theorem dX6_init_26 : decode cX6_init 26 = .ok (.aload_n 0, 1) := by decide +kernel
theorem dX6_init_27 : decode cX6_init 27 = .ok (.iconst 0, 1) := by decide +kernel
theorem dX6_init_28 : decode cX6_init 28 = .ok (.putfield 19, 3) := by decide +kernel
theorem dX6_init_31 : decode cX6_init 31 = .ok (.aload_n 0, 1) := by decide +kernel
theorem dX6_init_32 : decode cX6_init 32 = .ok (.new 7, 3) := by decide +kernel
theorem dX6_init_35 : decode cX6_init 35 = .ok (.dup, 1) := by decide +kernel
theorem dX6_init_36 : decode cX6_init 36 = .ok (.invokespecial 9, 3) := by decide +kernel
theorem dX6_init_39 : decode cX6_init 39 = .ok (.putfield 23, 3) := by decide +kernel
theorem dX6_init_42 : decode cX6_init 42 = .ok (.aload_n 0, 1) := by decide +kernel
theorem dX6_init_43 : decode cX6_init 43 = .ok (.new 26, 3) := by decide +kernel
theorem dX6_init_46 : decode cX6_init 46 = .ok (.dup, 1) := by decide +kernel
theorem dX6_init_47 : decode cX6_init 47 = .ok (.invokespecial 28, 3) := by decide +kernel
theorem dX6_init_50 : decode cX6_init 50 = .ok (.putfield 29, 3) := by decide +kernel
theorem dX6_init_53 : decode cX6_init 53 = .ok (.aload_n 0, 1) := by decide +kernel
theorem dX6_init_54 : decode cX6_init 54 = .ok (.bipush 8, 2) := by decide +kernel
theorem dX6_init_56 : decode cX6_init 56 = .ok (.newarray .long, 2) := by decide +kernel
theorem dX6_init_58 : decode cX6_init 58 = .ok (.putfield 33, 3) := by decide +kernel
theorem dX6_init_61 : decode cX6_init 61 = .ok (.aload_n 0, 1) := by decide +kernel
theorem dX6_init_62 : decode cX6_init 62 = .ok (.bipush 8, 2) := by decide +kernel
theorem dX6_init_64 : decode cX6_init 64 = .ok (.newarray .int, 2) := by decide +kernel
theorem dX6_init_66 : decode cX6_init 66 = .ok (.putfield 37, 3) := by decide +kernel
theorem dX6_init_69 : decode cX6_init 69 = .ok (.aload_n 0, 1) := by decide +kernel
theorem dX6_init_70 : decode cX6_init 70 = .ok (.new 41, 3) := by decide +kernel
theorem dX6_init_73 : decode cX6_init 73 = .ok (.dup, 1) := by decide +kernel
theorem dX6_init_74 : decode cX6_init 74 = .ok (.invokespecial 43, 3) := by decide +kernel
theorem dX6_init_77 : decode cX6_init 77 = .ok (.putfield 44, 3) := by decide +kernel
theorem dX6_init_80 : decode cX6_init 80 = .ok (.aload_n 0, 1) := by decide +kernel
theorem dX6_init_81 : decode cX6_init 81 = .ok (.iconst 4, 1) := by decide +kernel
theorem dX6_init_82 : decode cX6_init 82 = .ok (.anewarray 48, 3) := by decide +kernel
theorem dX6_init_85 : decode cX6_init 85 = .ok (.putfield 50, 3) := by decide +kernel
theorem dX6_init_88 : decode cX6_init 88 = .ok (.aload_n 0, 1) := by decide +kernel
theorem dX6_init_89 : decode cX6_init 89 = .ok (.iconst 5, 1) := by decide +kernel
theorem dX6_init_90 : decode cX6_init 90 = .ok (.anewarray 54, 3) := by decide +kernel
theorem dX6_init_93 : decode cX6_init 93 = .ok (.putfield 56, 3) := by decide +kernel
theorem dX6_init_96 : decode cX6_init 96 = .ok (.aload_n 0, 1) := by decide +kernel
theorem dX6_init_97 : decode cX6_init 97 = .ok (.bipush 60, 2) := by decide +kernel
theorem dX6_init_99 : decode cX6_init 99 = .ok (.newarray .int, 2) := by decide +kernel
theorem dX6_init_101 : decode cX6_init 101 = .ok (.putfield 60, 3) := by decide +kernel
theorem dX6_init_104 : decode cX6_init 104 = .ok (.aload_n 0, 1) := by decide +kernel
theorem dX6_init_105 : decode cX6_init 105 = .ok (.iconst 0, 1) := by decide +kernel
theorem dX6_init_106 : decode cX6_init 106 = .ok (.putfield 63, 3) := by decide +kernel
theorem dX6_init_109 : decode cX6_init 109 = .ok (.iconst 0, 1) := by decide +kernel
theorem dX6_init_110 : decode cX6_init 110 = .ok (.istore_n 1, 1) := by decide +kernel
theorem dX6_init_111 : decode cX6_init 111 = .ok (.iload_n 1, 1) := by decide +kernel
theorem dX6_init_112 : decode cX6_init 112 = .ok (.iconst 4, 1) := by decide +kernel
theorem dX6_init_113 : decode cX6_init 113 = .ok (.if_icmp .ge 22, 3) := by decide +kernel
theorem dX6_init_116 : decode cX6_init 116 = .ok (.aload_n 0, 1) := by decide +kernel
theorem dX6_init_117 : decode cX6_init 117 = .ok (.getfield 50, 3) := by decide +kernel
theorem dX6_init_120 : decode cX6_init 120 = .ok (.iload_n 1, 1) := by decide +kernel
theorem dX6_init_121 : decode cX6_init 121 = .ok (.new 48, 3) := by decide +kernel
theorem dX6_init_124 : decode cX6_init 124 = .ok (.dup, 1) := by decide +kernel
theorem dX6_init_125 : decode cX6_init 125 = .ok (.invokespecial 67, 3) := by decide +kernel
theorem dX6_init_128 : decode cX6_init 128 = .ok (.aastore, 1) := by decide +kernel
theorem dX6_init_129 : decode cX6_init 129 = .ok (.iinc 1 1, 3) := by decide +kernel
theorem dX6_init_132 : decode cX6_init 132 = .ok (.goto (-21), 3) := by decide +kernel
theorem dX6_init_135 : decode cX6_init 135 = .ok (.iconst 0, 1) := by decide +kernel
theorem dX6_init_136 : decode cX6_init 136 = .ok (.istore_n 1, 1) := by decide +kernel
theorem dX6_init_137 : decode cX6_init 137 = .ok (.iload_n 1, 1) := by decide +kernel
theorem dX6_init_138 : decode cX6_init 138 = .ok (.iconst 5, 1) := by decide +kernel
theorem dX6_init_139 : decode cX6_init 139 = .ok (.if_icmp .ge 22, 3) := by decide +kernel
theorem dX6_init_142 : decode cX6_init 142 = .ok (.aload_n 0, 1) := by decide +kernel
theorem dX6_init_143 : decode cX6_init 143 = .ok (.getfield 56, 3) := by decide +kernel
theorem dX6_init_146 : decode cX6_init 146 = .ok (.iload_n 1, 1) := by decide +kernel
theorem dX6_init_147 : decode cX6_init 147 = .ok (.new 54, 3) := by decide +kernel
theorem dX6_init_150 : decode cX6_init 150 = .ok (.dup, 1) := by decide +kernel
theorem dX6_init_151 : decode cX6_init 151 = .ok (.invokespecial 68, 3) := by decide +kernel
theorem dX6_init_154 : decode cX6_init 154 = .ok (.aastore, 1) := by decide +kernel
theorem dX6_init_155 : decode cX6_init 155 = .ok (.iinc 1 1, 3) := by decide +kernel
theorem dX6_init_158 : decode cX6_init 158 = .ok (.goto (-21), 3) := by decide +kernel
theorem dX6_init_161 : decode cX6_init 161 = .ok (.return_, 1) := by decide +kernel
theorem dX6_post_0 : decode cX6_post 0 = .ok (.iload_n 1, 1) := by decide +kernel
theorem dX6_post_1 : decode cX6_post 1 = .ok (.bipush 6, 2) := by decide +kernel
theorem dX6_post_3 : decode cX6_post 3 = .ok (.invokestatic 69, 3) := by decide +kernel
theorem dX6_post_6 : decode cX6_post 6 = .ok (.ifCond .eq 20, 3) := by decide +kernel
theorem dX6_post_9 : decode cX6_post 9 = .ok (.iload_n 2, 1) := by decide +kernel
theorem dX6_post_10 : decode cX6_post 10 = .ok (.bipush 48, 2) := by decide +kernel
theorem dX6_post_12 : decode cX6_post 12 = .ok (.invokestatic 69, 3) := by decide +kernel
theorem dX6_post_15 : decode cX6_post 15 = .ok (.ifCond .eq 11, 3) := by decide +kernel
theorem dX6_post_18 : decode cX6_post 18 = .ok (.iload_n 3, 1) := by decide +kernel
theorem dX6_post_19 : decode cX6_post 19 = .ok (.iconst 4, 1) := by decide +kernel
theorem dX6_post_20 : decode cX6_post 20 = .ok (.invokestatic 69, 3) := by decide +kernel
theorem dX6_post_23 : decode cX6_post 23 = .ok (.ifCond .ne 6, 3) := by decide +kernel
theorem dX6_post_26 : decode cX6_post 26 = .ok (.ldc 73, 2) := by decide +kernel
theorem dX6_post_28 : decode cX6_post 28 = .ok (.ireturn, 1) := by decide +kernel
theorem dX6_post_29 : decode cX6_post 29 = .ok (.aload_n 0, 1) := by decide +kernel
theorem dX6_post_30 : decode cX6_post 30 = .ok (.getfield 10, 3) := by decide +kernel
theorem dX6_post_33 : decode cX6_post 33 = .ok (.iload_n 2, 1) := by decide +kernel
theorem dX6_post_34 : decode cX6_post 34 = .ok (.invokevirtual 74, 3) := by decide +kernel
theorem dX6_post_37 : decode cX6_post 37 = .ok (.ifCond .ne 6, 3) := by decide +kernel
theorem dX6_post_40 : decode cX6_post 40 = .ok (.ldc 78, 2) := by decide +kernel
theorem dX6_post_42 : decode cX6_post 42 = .ok (.ireturn, 1) := by decide +kernel
theorem dX6_post_43 : decode cX6_post 43 = .ok (.aload_n 0, 1) := by decide +kernel
theorem dX6_post_44 : decode cX6_post 44 = .ok (.getfield 10, 3) := by decide +kernel
theorem dX6_post_47 : decode cX6_post 47 = .ok (.getfield 79, 3) := by decide +kernel
theorem dX6_post_50 : decode cX6_post 50 = .ok (.bipush 8, 2) := by decide +kernel
theorem dX6_post_52 : decode cX6_post 52 = .ok (.if_icmp .lt 6, 3) := by decide +kernel
theorem dX6_post_55 : decode cX6_post 55 = .ok (.ldc 82, 2) := by decide +kernel
theorem dX6_post_57 : decode cX6_post 57 = .ok (.ireturn, 1) := by decide +kernel
theorem dX6_post_58 : decode cX6_post 58 = .ok (.aload_n 0, 1) := by decide +kernel
theorem dX6_post_59 : decode cX6_post 59 = .ok (.getfield 10, 3) := by decide +kernel
theorem dX6_post_62 : decode cX6_post 62 = .ok (.iload_n 1, 1) := by decide +kernel
theorem dX6_post_63 : decode cX6_post 63 = .ok (.iload_n 2, 1) := by decide +kernel
theorem dX6_post_64 : decode cX6_post 64 = .ok (.iload_n 3, 1) := by decide +kernel
theorem dX6_post_65 : decode cX6_post 65 = .ok (.iconst 0, 1) := by decide +kernel
theorem dX6_post_66 : decode cX6_post 66 = .ok (.invokevirtual 83, 3) := by decide +kernel
theorem dX6_post_69 : decode cX6_post 69 = .ok (.aload_n 0, 1) := by decide +kernel
theorem dX6_post_70 : decode cX6_post 70 = .ok (.getfield 10, 3) := by decide +kernel
theorem dX6_post_73 : decode cX6_post 73 = .ok (.getfield 79, 3) := by decide +kernel
theorem dX6_post_76 : decode cX6_post 76 = .ok (.iconst 1, 1) := by decide +kernel
theorem dX6_post_77 : decode cX6_post 77 = .ok (.isub, 1) := by decide +kernel
theorem dX6_post_78 : decode cX6_post 78 = .ok (.ireturn, 1) := by decide +kernel
theorem dX6_told_0 : decode cX6_told 0 = .ok (.aload_n 0, 1) := by decide +kernel
theorem dX6_told_1 : decode cX6_told 1 = .ok (.iload_n 1, 1) := by decide +kernel
theorem dX6_told_2 : decode cX6_told 2 = .ok (.invokevirtual 87, 3) := by decide +kernel
theorem dX6_told_5 : decode cX6_told 5 = .ok (.ifCond .ne 6, 3) := by decide +kernel
theorem dX6_told_8 : decode cX6_told 8 = .ok (.ldc 73, 2) := by decide +kernel
theorem dX6_told_10 : decode cX6_told 10 = .ok (.ireturn, 1) := by decide +kernel
theorem dX6_told_11 : decode cX6_told 11 = .ok (.aload_n 0, 1) := by decide +kernel
theorem dX6_told_12 : decode cX6_told 12 = .ok (.getfield 10, 3) := by decide +kernel
theorem dX6_told_15 : decode cX6_told 15 = .ok (.getfield 90, 3) := by decide +kernel
theorem dX6_told_18 : decode cX6_told 18 = .ok (.iload_n 1, 1) := by decide +kernel
theorem dX6_told_19 : decode cX6_told 19 = .ok (.aaload, 1) := by decide +kernel
theorem dX6_told_20 : decode cX6_told 20 = .ok (.astore_n 3, 1) := by decide +kernel
theorem dX6_told_21 : decode cX6_told 21 = .ok (.iload_n 2, 1) := by decide +kernel
theorem dX6_told_22 : decode cX6_told 22 = .ok (.tableswitch 107 0 7 #[46, 51, 56, 61, 66, 81, 90, 102], 46) := by decide +kernel
theorem dX6_told_68 : decode cX6_told 68 = .ok (.aload_n 3, 1) := by decide +kernel
theorem dX6_told_69 : decode cX6_told 69 = .ok (.getfield 94, 3) := by decide +kernel
theorem dX6_told_72 : decode cX6_told 72 = .ok (.ireturn, 1) := by decide +kernel
theorem dX6_told_73 : decode cX6_told 73 = .ok (.aload_n 3, 1) := by decide +kernel
theorem dX6_told_74 : decode cX6_told 74 = .ok (.getfield 97, 3) := by decide +kernel
theorem dX6_told_77 : decode cX6_told 77 = .ok (.ireturn, 1) := by decide +kernel
theorem dX6_told_78 : decode cX6_told 78 = .ok (.aload_n 3, 1) := by decide +kernel
theorem dX6_told_79 : decode cX6_told 79 = .ok (.getfield 100, 3) := by decide +kernel
theorem dX6_told_82 : decode cX6_told 82 = .ok (.ireturn, 1) := by decide +kernel
theorem dX6_told_83 : decode cX6_told 83 = .ok (.aload_n 3, 1) := by decide +kernel
theorem dX6_told_84 : decode cX6_told 84 = .ok (.getfield 103, 3) := by decide +kernel
theorem dX6_told_87 : decode cX6_told 87 = .ok (.ireturn, 1) := by decide +kernel
theorem dX6_told_88 : decode cX6_told 88 = .ok (.aload_n 3, 1) := by decide +kernel
theorem dX6_told_89 : decode cX6_told 89 = .ok (.aload_n 0, 1) := by decide +kernel
theorem dX6_told_90 : decode cX6_told 90 = .ok (.getfield 10, 3) := by decide +kernel
theorem dX6_told_93 : decode cX6_told 93 = .ok (.getfield 106, 3) := by decide +kernel
theorem dX6_told_96 : decode cX6_told 96 = .ok (.invokevirtual 109, 3) := by decide +kernel
theorem dX6_told_99 : decode cX6_told 99 = .ok (.invokestatic 112, 3) := by decide +kernel
theorem dX6_told_102 : decode cX6_told 102 = .ok (.ireturn, 1) := by decide +kernel
theorem dX6_told_103 : decode cX6_told 103 = .ok (.aload_n 0, 1) := by decide +kernel
theorem dX6_told_104 : decode cX6_told 104 = .ok (.getfield 10, 3) := by decide +kernel
theorem dX6_told_107 : decode cX6_told 107 = .ok (.aload_n 3, 1) := by decide +kernel
theorem dX6_told_108 : decode cX6_told 108 = .ok (.invokevirtual 116, 3) := by decide +kernel
theorem dX6_told_111 : decode cX6_told 111 = .ok (.ireturn, 1) := by decide +kernel
theorem dX6_told_112 : decode cX6_told 112 = .ok (.aload_n 0, 1) := by decide +kernel
theorem dX6_told_113 : decode cX6_told 113 = .ok (.getfield 10, 3) := by decide +kernel
theorem dX6_told_116 : decode cX6_told 116 = .ok (.aload_n 3, 1) := by decide +kernel
theorem dX6_told_117 : decode cX6_told 117 = .ok (.invokevirtual 120, 3) := by decide +kernel
theorem dX6_told_120 : decode cX6_told 120 = .ok (.invokestatic 124, 3) := by decide +kernel
theorem dX6_told_123 : decode cX6_told 123 = .ok (.ireturn, 1) := by decide +kernel
theorem dX6_told_124 : decode cX6_told 124 = .ok (.aload_n 3, 1) := by decide +kernel
theorem dX6_told_125 : decode cX6_told 125 = .ok (.invokevirtual 130, 3) := by decide +kernel
theorem dX6_told_128 : decode cX6_told 128 = .ok (.ireturn, 1) := by decide +kernel
theorem dX6_told_129 : decode cX6_told 129 = .ok (.ldc 73, 2) := by decide +kernel
theorem dX6_told_131 : decode cX6_told 131 = .ok (.ireturn, 1) := by decide +kernel
theorem dX6_as_0 : decode cX6_as 0 = .ok (.aload_n 0, 1) := by decide +kernel
theorem dX6_as_1 : decode cX6_as 1 = .ok (.iload_n 1, 1) := by decide +kernel
theorem dX6_as_2 : decode cX6_as 2 = .ok (.invokevirtual 87, 3) := by decide +kernel
theorem dX6_as_5 : decode cX6_as 5 = .ok (.ifCond .eq 12, 3) := by decide +kernel
theorem dX6_as_8 : decode cX6_as 8 = .ok (.iload_n 2, 1) := by decide +kernel
theorem dX6_as_9 : decode cX6_as 9 = .ok (.bipush 6, 2) := by decide +kernel
theorem dX6_as_11 : decode cX6_as 11 = .ok (.invokestatic 69, 3) := by decide +kernel
theorem dX6_as_14 : decode cX6_as 14 = .ok (.ifCond .ne 6, 3) := by decide +kernel
theorem dX6_as_17 : decode cX6_as 17 = .ok (.ldc 73, 2) := by decide +kernel
theorem dX6_as_19 : decode cX6_as 19 = .ok (.ireturn, 1) := by decide +kernel
theorem dX6_as_20 : decode cX6_as 20 = .ok (.aload_n 0, 1) := by decide +kernel
theorem dX6_as_21 : decode cX6_as 21 = .ok (.getfield 10, 3) := by decide +kernel
theorem dX6_as_24 : decode cX6_as 24 = .ok (.getfield 90, 3) := by decide +kernel
theorem dX6_as_27 : decode cX6_as 27 = .ok (.iload_n 1, 1) := by decide +kernel
theorem dX6_as_28 : decode cX6_as 28 = .ok (.aaload, 1) := by decide +kernel
theorem dX6_as_29 : decode cX6_as 29 = .ok (.astore_n 3, 1) := by decide +kernel
theorem dX6_as_30 : decode cX6_as 30 = .ok (.aload_n 3, 1) := by decide +kernel
theorem dX6_as_31 : decode cX6_as 31 = .ok (.iload_n 2, 1) := by decide +kernel
theorem dX6_as_32 : decode cX6_as 32 = .ok (.invokevirtual 134, 3) := by decide +kernel
theorem dX6_as_35 : decode cX6_as 35 = .ok (.ifCond .eq 10, 3) := by decide +kernel
theorem dX6_as_38 : decode cX6_as 38 = .ok (.aload_n 3, 1) := by decide +kernel
theorem dX6_as_39 : decode cX6_as 39 = .ok (.getfield 97, 3) := by decide +kernel
theorem dX6_as_42 : decode cX6_as 42 = .ok (.goto 5, 3) := by decide +kernel
theorem dX6_as_45 : decode cX6_as 45 = .ok (.ldc 137, 2) := by decide +kernel
theorem dX6_as_47 : decode cX6_as 47 = .ok (.ireturn, 1) := by decide +kernel
theorem dX6_turns_0 : decode cX6_turns 0 = .ok (.aload_n 0, 1) := by decide +kernel
theorem dX6_turns_1 : decode cX6_turns 1 = .ok (.iload_n 1, 1) := by decide +kernel
theorem dX6_turns_2 : decode cX6_turns 2 = .ok (.invokevirtual 87, 3) := by decide +kernel
theorem dX6_turns_5 : decode cX6_turns 5 = .ok (.ifCond .eq 12, 3) := by decide +kernel
theorem dX6_turns_8 : decode cX6_turns 8 = .ok (.iload_n 2, 1) := by decide +kernel
theorem dX6_turns_9 : decode cX6_turns 9 = .ok (.bipush 6, 2) := by decide +kernel
theorem dX6_turns_11 : decode cX6_turns 11 = .ok (.invokestatic 69, 3) := by decide +kernel
theorem dX6_turns_14 : decode cX6_turns 14 = .ok (.ifCond .ne 6, 3) := by decide +kernel
theorem dX6_turns_17 : decode cX6_turns 17 = .ok (.ldc 73, 2) := by decide +kernel
theorem dX6_turns_19 : decode cX6_turns 19 = .ok (.ireturn, 1) := by decide +kernel
theorem dX6_turns_20 : decode cX6_turns 20 = .ok (.aload_n 0, 1) := by decide +kernel
theorem dX6_turns_21 : decode cX6_turns 21 = .ok (.getfield 10, 3) := by decide +kernel
theorem dX6_turns_24 : decode cX6_turns 24 = .ok (.getfield 90, 3) := by decide +kernel
theorem dX6_turns_27 : decode cX6_turns 27 = .ok (.iload_n 1, 1) := by decide +kernel
theorem dX6_turns_28 : decode cX6_turns 28 = .ok (.aaload, 1) := by decide +kernel
theorem dX6_turns_29 : decode cX6_turns 29 = .ok (.getfield 94, 3) := by decide +kernel
theorem dX6_turns_32 : decode cX6_turns 32 = .ok (.istore_n 3, 1) := by decide +kernel
theorem dX6_turns_33 : decode cX6_turns 33 = .ok (.aload_n 0, 1) := by decide +kernel
theorem dX6_turns_34 : decode cX6_turns 34 = .ok (.getfield 10, 3) := by decide +kernel
theorem dX6_turns_37 : decode cX6_turns 37 = .ok (.getfield 90, 3) := by decide +kernel
theorem dX6_turns_40 : decode cX6_turns 40 = .ok (.iload_n 1, 1) := by decide +kernel
theorem dX6_turns_41 : decode cX6_turns 41 = .ok (.aaload, 1) := by decide +kernel
theorem dX6_turns_42 : decode cX6_turns 42 = .ok (.iload_n 2, 1) := by decide +kernel
theorem dX6_turns_43 : decode cX6_turns 43 = .ok (.putfield 94, 3) := by decide +kernel
theorem dX6_turns_46 : decode cX6_turns 46 = .ok (.iload_n 3, 1) := by decide +kernel
theorem dX6_turns_47 : decode cX6_turns 47 = .ok (.ireturn, 1) := by decide +kernel
theorem dX6_set_0 : decode cX6_set 0 = .ok (.aload_n 0, 1) := by decide +kernel
theorem dX6_set_1 : decode cX6_set 1 = .ok (.iload_n 1, 1) := by decide +kernel
theorem dX6_set_2 : decode cX6_set 2 = .ok (.invokevirtual 87, 3) := by decide +kernel
theorem dX6_set_5 : decode cX6_set 5 = .ok (.ifCond .ne 6, 3) := by decide +kernel
theorem dX6_set_8 : decode cX6_set 8 = .ok (.ldc 73, 2) := by decide +kernel
theorem dX6_set_10 : decode cX6_set 10 = .ok (.ireturn, 1) := by decide +kernel
theorem dX6_set_11 : decode cX6_set 11 = .ok (.aload_n 0, 1) := by decide +kernel
theorem dX6_set_12 : decode cX6_set 12 = .ok (.getfield 10, 3) := by decide +kernel
theorem dX6_set_15 : decode cX6_set 15 = .ok (.getfield 90, 3) := by decide +kernel
theorem dX6_set_18 : decode cX6_set 18 = .ok (.iload_n 1, 1) := by decide +kernel
theorem dX6_set_19 : decode cX6_set 19 = .ok (.aaload, 1) := by decide +kernel
theorem dX6_set_20 : decode cX6_set 20 = .ok (.astore 4, 2) := by decide +kernel
theorem dX6_set_22 : decode cX6_set 22 = .ok (.iload_n 2, 1) := by decide +kernel
theorem dX6_set_23 : decode cX6_set 23 = .ok (.iconst 2, 1) := by decide +kernel
theorem dX6_set_24 : decode cX6_set 24 = .ok (.if_icmp .ne 27, 3) := by decide +kernel
theorem dX6_set_27 : decode cX6_set 27 = .ok (.iload_n 3, 1) := by decide +kernel
theorem dX6_set_28 : decode cX6_set 28 = .ok (.iconst 4, 1) := by decide +kernel
theorem dX6_set_29 : decode cX6_set 29 = .ok (.invokestatic 69, 3) := by decide +kernel
theorem dX6_set_32 : decode cX6_set 32 = .ok (.ifCond .eq 19, 3) := by decide +kernel
theorem dX6_set_35 : decode cX6_set 35 = .ok (.aload 4, 2) := by decide +kernel
theorem dX6_set_37 : decode cX6_set 37 = .ok (.getfield 100, 3) := by decide +kernel
theorem dX6_set_40 : decode cX6_set 40 = .ok (.istore 5, 2) := by decide +kernel
theorem dX6_set_42 : decode cX6_set 42 = .ok (.aload 4, 2) := by decide +kernel
theorem dX6_set_44 : decode cX6_set 44 = .ok (.iload_n 3, 1) := by decide +kernel
theorem dX6_set_45 : decode cX6_set 45 = .ok (.putfield 100, 3) := by decide +kernel
theorem dX6_set_48 : decode cX6_set 48 = .ok (.iload 5, 2) := by decide +kernel
theorem dX6_set_50 : decode cX6_set 50 = .ok (.ireturn, 1) := by decide +kernel
theorem dX6_set_51 : decode cX6_set 51 = .ok (.iload_n 2, 1) := by decide +kernel
theorem dX6_set_52 : decode cX6_set 52 = .ok (.iconst 3, 1) := by decide +kernel
theorem dX6_set_53 : decode cX6_set 53 = .ok (.if_icmp .ne 28, 3) := by decide +kernel
theorem dX6_set_56 : decode cX6_set 56 = .ok (.iload_n 3, 1) := by decide +kernel
theorem dX6_set_57 : decode cX6_set 57 = .ok (.bipush 100, 2) := by decide +kernel
theorem dX6_set_59 : decode cX6_set 59 = .ok (.invokestatic 69, 3) := by decide +kernel
theorem dX6_set_62 : decode cX6_set 62 = .ok (.ifCond .eq 19, 3) := by decide +kernel
theorem dX6_set_65 : decode cX6_set 65 = .ok (.aload 4, 2) := by decide +kernel
theorem dX6_set_67 : decode cX6_set 67 = .ok (.getfield 103, 3) := by decide +kernel
theorem dX6_set_70 : decode cX6_set 70 = .ok (.istore 5, 2) := by decide +kernel
theorem dX6_set_72 : decode cX6_set 72 = .ok (.aload 4, 2) := by decide +kernel
theorem dX6_set_74 : decode cX6_set 74 = .ok (.iload_n 3, 1) := by decide +kernel
theorem dX6_set_75 : decode cX6_set 75 = .ok (.putfield 103, 3) := by decide +kernel
theorem dX6_set_78 : decode cX6_set 78 = .ok (.iload 5, 2) := by decide +kernel
theorem dX6_set_80 : decode cX6_set 80 = .ok (.ireturn, 1) := by decide +kernel
theorem dX6_set_81 : decode cX6_set 81 = .ok (.ldc 73, 2) := by decide +kernel
theorem dX6_set_83 : decode cX6_set 83 = .ok (.ireturn, 1) := by decide +kernel
theorem dX6_moves_0 : decode cX6_moves 0 = .ok (.aload_n 0, 1) := by decide +kernel
theorem dX6_moves_1 : decode cX6_moves 1 = .ok (.iload_n 1, 1) := by decide +kernel
theorem dX6_moves_2 : decode cX6_moves 2 = .ok (.invokevirtual 87, 3) := by decide +kernel
theorem dX6_moves_5 : decode cX6_moves 5 = .ok (.ifCond .eq 12, 3) := by decide +kernel
theorem dX6_moves_8 : decode cX6_moves 8 = .ok (.iload_n 2, 1) := by decide +kernel
theorem dX6_moves_9 : decode cX6_moves 9 = .ok (.bipush 48, 2) := by decide +kernel
theorem dX6_moves_11 : decode cX6_moves 11 = .ok (.invokestatic 69, 3) := by decide +kernel
theorem dX6_moves_14 : decode cX6_moves 14 = .ok (.ifCond .ne 6, 3) := by decide +kernel
theorem dX6_moves_17 : decode cX6_moves 17 = .ok (.ldc 73, 2) := by decide +kernel
theorem dX6_moves_19 : decode cX6_moves 19 = .ok (.ireturn, 1) := by decide +kernel
theorem dX6_moves_20 : decode cX6_moves 20 = .ok (.aload_n 0, 1) := by decide +kernel
theorem dX6_moves_21 : decode cX6_moves 21 = .ok (.getfield 10, 3) := by decide +kernel
theorem dX6_moves_24 : decode cX6_moves 24 = .ok (.iload_n 2, 1) := by decide +kernel
theorem dX6_moves_25 : decode cX6_moves 25 = .ok (.invokevirtual 74, 3) := by decide +kernel
theorem dX6_moves_28 : decode cX6_moves 28 = .ok (.ifCond .ne 6, 3) := by decide +kernel
theorem dX6_moves_31 : decode cX6_moves 31 = .ok (.ldc 78, 2) := by decide +kernel
theorem dX6_moves_33 : decode cX6_moves 33 = .ok (.ireturn, 1) := by decide +kernel
theorem dX6_moves_34 : decode cX6_moves 34 = .ok (.aload_n 0, 1) := by decide +kernel
theorem dX6_moves_35 : decode cX6_moves 35 = .ok (.getfield 10, 3) := by decide +kernel
theorem dX6_moves_38 : decode cX6_moves 38 = .ok (.getfield 90, 3) := by decide +kernel
theorem dX6_moves_41 : decode cX6_moves 41 = .ok (.iload_n 1, 1) := by decide +kernel
theorem dX6_moves_42 : decode cX6_moves 42 = .ok (.aaload, 1) := by decide +kernel
theorem dX6_moves_43 : decode cX6_moves 43 = .ok (.getfield 97, 3) := by decide +kernel
theorem dX6_moves_46 : decode cX6_moves 46 = .ok (.istore_n 3, 1) := by decide +kernel
theorem dX6_moves_47 : decode cX6_moves 47 = .ok (.aload_n 0, 1) := by decide +kernel
theorem dX6_moves_48 : decode cX6_moves 48 = .ok (.getfield 10, 3) := by decide +kernel
theorem dX6_moves_51 : decode cX6_moves 51 = .ok (.getfield 90, 3) := by decide +kernel
theorem dX6_moves_54 : decode cX6_moves 54 = .ok (.iload_n 1, 1) := by decide +kernel
theorem dX6_moves_55 : decode cX6_moves 55 = .ok (.aaload, 1) := by decide +kernel
theorem dX6_moves_56 : decode cX6_moves 56 = .ok (.iload_n 2, 1) := by decide +kernel
theorem dX6_moves_57 : decode cX6_moves 57 = .ok (.putfield 97, 3) := by decide +kernel
theorem dX6_moves_60 : decode cX6_moves 60 = .ok (.iload_n 3, 1) := by decide +kernel
theorem dX6_moves_61 : decode cX6_moves 61 = .ok (.ireturn, 1) := by decide +kernel
theorem dX6_wall_0 : decode cX6_wall 0 = .ok (.iload_n 1, 1) := by decide +kernel
theorem dX6_wall_1 : decode cX6_wall 1 = .ok (.bipush 48, 2) := by decide +kernel
theorem dX6_wall_3 : decode cX6_wall 3 = .ok (.invokestatic 69, 3) := by decide +kernel
theorem dX6_wall_6 : decode cX6_wall 6 = .ok (.ifCond .eq 11, 3) := by decide +kernel
theorem dX6_wall_9 : decode cX6_wall 9 = .ok (.iload_n 2, 1) := by decide +kernel
theorem dX6_wall_10 : decode cX6_wall 10 = .ok (.iconst 2, 1) := by decide +kernel
theorem dX6_wall_11 : decode cX6_wall 11 = .ok (.invokestatic 69, 3) := by decide +kernel
theorem dX6_wall_14 : decode cX6_wall 14 = .ok (.ifCond .ne 6, 3) := by decide +kernel
theorem dX6_wall_17 : decode cX6_wall 17 = .ok (.ldc 73, 2) := by decide +kernel
theorem dX6_wall_19 : decode cX6_wall 19 = .ok (.ireturn, 1) := by decide +kernel
theorem dX6_wall_20 : decode cX6_wall 20 = .ok (.iload_n 2, 1) := by decide +kernel
theorem dX6_wall_21 : decode cX6_wall 21 = .ok (.iconst 1, 1) := by decide +kernel
theorem dX6_wall_22 : decode cX6_wall 22 = .ok (.if_icmp .ne 30, 3) := by decide +kernel
theorem dX6_wall_25 : decode cX6_wall 25 = .ok (.aload_n 0, 1) := by decide +kernel
theorem dX6_wall_26 : decode cX6_wall 26 = .ok (.getfield 10, 3) := by decide +kernel
theorem dX6_wall_29 : decode cX6_wall 29 = .ok (.iload_n 1, 1) := by decide +kernel
theorem dX6_wall_30 : decode cX6_wall 30 = .ok (.invokevirtual 138, 3) := by decide +kernel
theorem dX6_wall_33 : decode cX6_wall 33 = .ok (.ldc 142, 2) := by decide +kernel
theorem dX6_wall_35 : decode cX6_wall 35 = .ok (.if_icmp .ne 14, 3) := by decide +kernel
theorem dX6_wall_38 : decode cX6_wall 38 = .ok (.aload_n 0, 1) := by decide +kernel
theorem dX6_wall_39 : decode cX6_wall 39 = .ok (.getfield 10, 3) := by decide +kernel
theorem dX6_wall_42 : decode cX6_wall 42 = .ok (.getfield 143, 3) := by decide +kernel
theorem dX6_wall_45 : decode cX6_wall 45 = .ok (.iload_n 1, 1) := by decide +kernel
theorem dX6_wall_46 : decode cX6_wall 46 = .ok (.if_icmp .ne 6, 3) := by decide +kernel
theorem dX6_wall_49 : decode cX6_wall 49 = .ok (.ldc 78, 2) := by decide +kernel
theorem dX6_wall_51 : decode cX6_wall 51 = .ok (.ireturn, 1) := by decide +kernel
theorem dX6_wall_52 : decode cX6_wall 52 = .ok (.aload_n 0, 1) := by decide +kernel
theorem dX6_wall_53 : decode cX6_wall 53 = .ok (.getfield 10, 3) := by decide +kernel
theorem dX6_wall_56 : decode cX6_wall 56 = .ok (.iload_n 1, 1) := by decide +kernel
theorem dX6_wall_57 : decode cX6_wall 57 = .ok (.invokevirtual 146, 3) := by decide +kernel
theorem dX6_wall_60 : decode cX6_wall 60 = .ok (.invokestatic 112, 3) := by decide +kernel
theorem dX6_wall_63 : decode cX6_wall 63 = .ok (.istore_n 3, 1) := by decide +kernel
theorem dX6_wall_64 : decode cX6_wall 64 = .ok (.aload_n 0, 1) := by decide +kernel
theorem dX6_wall_65 : decode cX6_wall 65 = .ok (.getfield 10, 3) := by decide +kernel
theorem dX6_wall_68 : decode cX6_wall 68 = .ok (.iload_n 2, 1) := by decide +kernel
theorem dX6_wall_69 : decode cX6_wall 69 = .ok (.iconst 1, 1) := by decide +kernel
theorem dX6_wall_70 : decode cX6_wall 70 = .ok (.if_icmp .ne 18, 3) := by decide +kernel
theorem dX6_wall_73 : decode cX6_wall 73 = .ok (.aload_n 0, 1) := by decide +kernel
theorem dX6_wall_74 : decode cX6_wall 74 = .ok (.getfield 10, 3) := by decide +kernel
theorem dX6_wall_77 : decode cX6_wall 77 = .ok (.getfield 149, 3) := by decide +kernel
theorem dX6_wall_80 : decode cX6_wall 80 = .ok (.iload_n 1, 1) := by decide +kernel
theorem dX6_wall_81 : decode cX6_wall 81 = .ok (.invokestatic 153, 3) := by decide +kernel
theorem dX6_wall_84 : decode cX6_wall 84 = .ok (.lor, 1) := by decide +kernel
theorem dX6_wall_85 : decode cX6_wall 85 = .ok (.goto 19, 3) := by decide +kernel
theorem dX6_wall_88 : decode cX6_wall 88 = .ok (.aload_n 0, 1) := by decide +kernel
theorem dX6_wall_89 : decode cX6_wall 89 = .ok (.getfield 10, 3) := by decide +kernel
theorem dX6_wall_92 : decode cX6_wall 92 = .ok (.getfield 149, 3) := by decide +kernel
theorem dX6_wall_95 : decode cX6_wall 95 = .ok (.iload_n 1, 1) := by decide +kernel
theorem dX6_wall_96 : decode cX6_wall 96 = .ok (.invokestatic 153, 3) := by decide +kernel
theorem dX6_wall_99 : decode cX6_wall 99 = .ok (.ldc2_w 157, 3) := by decide +kernel
theorem dX6_wall_102 : decode cX6_wall 102 = .ok (.lxor, 1) := by decide +kernel
theorem dX6_wall_103 : decode cX6_wall 103 = .ok (.land, 1) := by decide +kernel
theorem dX6_wall_104 : decode cX6_wall 104 = .ok (.putfield 149, 3) := by decide +kernel
theorem dX6_wall_107 : decode cX6_wall 107 = .ok (.iload_n 3, 1) := by decide +kernel
theorem dX6_wall_108 : decode cX6_wall 108 = .ok (.ireturn, 1) := by decide +kernel
theorem dX6_at_0 : decode cX6_at 0 = .ok (.iload_n 1, 1) := by decide +kernel
theorem dX6_at_1 : decode cX6_at 1 = .ok (.bipush 48, 2) := by decide +kernel
theorem dX6_at_3 : decode cX6_at 3 = .ok (.invokestatic 69, 3) := by decide +kernel
theorem dX6_at_6 : decode cX6_at 6 = .ok (.ifCond .eq 11, 3) := by decide +kernel
theorem dX6_at_9 : decode cX6_at 9 = .ok (.iload_n 2, 1) := by decide +kernel
theorem dX6_at_10 : decode cX6_at 10 = .ok (.iconst 2, 1) := by decide +kernel
theorem dX6_at_11 : decode cX6_at 11 = .ok (.invokestatic 69, 3) := by decide +kernel
theorem dX6_at_14 : decode cX6_at 14 = .ok (.ifCond .ne 6, 3) := by decide +kernel
theorem dX6_at_17 : decode cX6_at 17 = .ok (.ldc 73, 2) := by decide +kernel
theorem dX6_at_19 : decode cX6_at 19 = .ok (.ireturn, 1) := by decide +kernel
theorem dX6_at_20 : decode cX6_at 20 = .ok (.iload_n 2, 1) := by decide +kernel
theorem dX6_at_21 : decode cX6_at 21 = .ok (.ifCond .ne 14, 3) := by decide +kernel
theorem dX6_at_24 : decode cX6_at 24 = .ok (.aload_n 0, 1) := by decide +kernel
theorem dX6_at_25 : decode cX6_at 25 = .ok (.getfield 10, 3) := by decide +kernel
theorem dX6_at_28 : decode cX6_at 28 = .ok (.iload_n 1, 1) := by decide +kernel
theorem dX6_at_29 : decode cX6_at 29 = .ok (.invokevirtual 138, 3) := by decide +kernel
theorem dX6_at_32 : decode cX6_at 32 = .ok (.goto 14, 3) := by decide +kernel
theorem dX6_at_35 : decode cX6_at 35 = .ok (.aload_n 0, 1) := by decide +kernel
theorem dX6_at_36 : decode cX6_at 36 = .ok (.getfield 10, 3) := by decide +kernel
theorem dX6_at_39 : decode cX6_at 39 = .ok (.iload_n 1, 1) := by decide +kernel
theorem dX6_at_40 : decode cX6_at 40 = .ok (.invokevirtual 146, 3) := by decide +kernel
theorem dX6_at_43 : decode cX6_at 43 = .ok (.invokestatic 112, 3) := by decide +kernel
theorem dX6_at_46 : decode cX6_at 46 = .ok (.ireturn, 1) := by decide +kernel
theorem dX6_thief_0 : decode cX6_thief 0 = .ok (.iload_n 1, 1) := by decide +kernel
theorem dX6_thief_1 : decode cX6_thief 1 = .ok (.bipush 48, 2) := by decide +kernel
theorem dX6_thief_3 : decode cX6_thief 3 = .ok (.invokestatic 69, 3) := by decide +kernel
theorem dX6_thief_6 : decode cX6_thief 6 = .ok (.ifCond .ne 6, 3) := by decide +kernel
theorem dX6_thief_9 : decode cX6_thief 9 = .ok (.ldc 73, 2) := by decide +kernel
theorem dX6_thief_11 : decode cX6_thief 11 = .ok (.ireturn, 1) := by decide +kernel
theorem dX6_thief_12 : decode cX6_thief 12 = .ok (.aload_n 0, 1) := by decide +kernel
theorem dX6_thief_13 : decode cX6_thief 13 = .ok (.getfield 10, 3) := by decide +kernel
theorem dX6_thief_16 : decode cX6_thief 16 = .ok (.iload_n 1, 1) := by decide +kernel
theorem dX6_thief_17 : decode cX6_thief 17 = .ok (.invokevirtual 146, 3) := by decide +kernel
theorem dX6_thief_20 : decode cX6_thief 20 = .ok (.ifCond .eq 6, 3) := by decide +kernel
theorem dX6_thief_23 : decode cX6_thief 23 = .ok (.ldc 78, 2) := by decide +kernel
theorem dX6_thief_25 : decode cX6_thief 25 = .ok (.ireturn, 1) := by decide +kernel
theorem dX6_thief_26 : decode cX6_thief 26 = .ok (.aload_n 0, 1) := by decide +kernel
theorem dX6_thief_27 : decode cX6_thief 27 = .ok (.getfield 10, 3) := by decide +kernel
theorem dX6_thief_30 : decode cX6_thief 30 = .ok (.getfield 143, 3) := by decide +kernel
theorem dX6_thief_33 : decode cX6_thief 33 = .ok (.istore_n 2, 1) := by decide +kernel
theorem dX6_thief_34 : decode cX6_thief 34 = .ok (.aload_n 0, 1) := by decide +kernel
theorem dX6_thief_35 : decode cX6_thief 35 = .ok (.getfield 10, 3) := by decide +kernel
theorem dX6_thief_38 : decode cX6_thief 38 = .ok (.iload_n 1, 1) := by decide +kernel
theorem dX6_thief_39 : decode cX6_thief 39 = .ok (.putfield 143, 3) := by decide +kernel
theorem dX6_thief_42 : decode cX6_thief 42 = .ok (.iload_n 2, 1) := by decide +kernel
theorem dX6_thief_43 : decode cX6_thief 43 = .ok (.ireturn, 1) := by decide +kernel
theorem dX6_rule_0 : decode cX6_rule 0 = .ok (.iload_n 1, 1) := by decide +kernel
theorem dX6_rule_1 : decode cX6_rule 1 = .ok (.iconst 2, 1) := by decide +kernel
theorem dX6_rule_2 : decode cX6_rule 2 = .ok (.invokestatic 69, 3) := by decide +kernel
theorem dX6_rule_5 : decode cX6_rule 5 = .ok (.ifCond .eq 12, 3) := by decide +kernel
theorem dX6_rule_8 : decode cX6_rule 8 = .ok (.iload_n 2, 1) := by decide +kernel
theorem dX6_rule_9 : decode cX6_rule 9 = .ok (.bipush 101, 2) := by decide +kernel
theorem dX6_rule_11 : decode cX6_rule 11 = .ok (.invokestatic 69, 3) := by decide +kernel
theorem dX6_rule_14 : decode cX6_rule 14 = .ok (.ifCond .ne 6, 3) := by decide +kernel
theorem dX6_rule_17 : decode cX6_rule 17 = .ok (.ldc 73, 2) := by decide +kernel
theorem dX6_rule_19 : decode cX6_rule 19 = .ok (.ireturn, 1) := by decide +kernel
theorem dX6_rule_20 : decode cX6_rule 20 = .ok (.iload_n 1, 1) := by decide +kernel
theorem dX6_rule_21 : decode cX6_rule 21 = .ok (.ifCond .ne 22, 3) := by decide +kernel
theorem dX6_rule_24 : decode cX6_rule 24 = .ok (.aload_n 0, 1) := by decide +kernel
theorem dX6_rule_25 : decode cX6_rule 25 = .ok (.getfield 10, 3) := by decide +kernel
theorem dX6_rule_28 : decode cX6_rule 28 = .ok (.getfield 159, 3) := by decide +kernel
theorem dX6_rule_31 : decode cX6_rule 31 = .ok (.istore_n 3, 1) := by decide +kernel
theorem dX6_rule_32 : decode cX6_rule 32 = .ok (.aload_n 0, 1) := by decide +kernel
theorem dX6_rule_33 : decode cX6_rule 33 = .ok (.getfield 10, 3) := by decide +kernel
theorem dX6_rule_36 : decode cX6_rule 36 = .ok (.iload_n 2, 1) := by decide +kernel
theorem dX6_rule_37 : decode cX6_rule 37 = .ok (.putfield 159, 3) := by decide +kernel
theorem dX6_rule_40 : decode cX6_rule 40 = .ok (.goto 19, 3) := by decide +kernel
theorem dX6_rule_43 : decode cX6_rule 43 = .ok (.aload_n 0, 1) := by decide +kernel
theorem dX6_rule_44 : decode cX6_rule 44 = .ok (.getfield 10, 3) := by decide +kernel
theorem dX6_rule_47 : decode cX6_rule 47 = .ok (.getfield 162, 3) := by decide +kernel
theorem dX6_rule_50 : decode cX6_rule 50 = .ok (.istore_n 3, 1) := by decide +kernel
theorem dX6_rule_51 : decode cX6_rule 51 = .ok (.aload_n 0, 1) := by decide +kernel
theorem dX6_rule_52 : decode cX6_rule 52 = .ok (.getfield 10, 3) := by decide +kernel
theorem dX6_rule_55 : decode cX6_rule 55 = .ok (.iload_n 2, 1) := by decide +kernel
theorem dX6_rule_56 : decode cX6_rule 56 = .ok (.putfield 162, 3) := by decide +kernel
theorem dX6_rule_59 : decode cX6_rule 59 = .ok (.iload_n 3, 1) := by decide +kernel
theorem dX6_rule_60 : decode cX6_rule 60 = .ok (.ireturn, 1) := by decide +kernel
theorem dX6_deal_0 : decode cX6_deal 0 = .ok (.iload_n 1, 1) := by decide +kernel
theorem dX6_deal_1 : decode cX6_deal 1 = .ok (.iconst 1, 1) := by decide +kernel
theorem dX6_deal_2 : decode cX6_deal 2 = .ok (.if_icmp .lt 9, 3) := by decide +kernel
theorem dX6_deal_5 : decode cX6_deal 5 = .ok (.iload_n 1, 1) := by decide +kernel
theorem dX6_deal_6 : decode cX6_deal 6 = .ok (.bipush 8, 2) := by decide +kernel
theorem dX6_deal_8 : decode cX6_deal 8 = .ok (.if_icmp .le 6, 3) := by decide +kernel
theorem dX6_deal_11 : decode cX6_deal 11 = .ok (.ldc 73, 2) := by decide +kernel
theorem dX6_deal_13 : decode cX6_deal 13 = .ok (.ireturn, 1) := by decide +kernel
theorem dX6_deal_14 : decode cX6_deal 14 = .ok (.iload_n 1, 1) := by decide +kernel
theorem dX6_deal_15 : decode cX6_deal 15 = .ok (.bipush 8, 2) := by decide +kernel
theorem dX6_deal_17 : decode cX6_deal 17 = .ok (.aload_n 0, 1) := by decide +kernel
theorem dX6_deal_18 : decode cX6_deal 18 = .ok (.getfield 10, 3) := by decide +kernel
theorem dX6_deal_21 : decode cX6_deal 21 = .ok (.getfield 79, 3) := by decide +kernel
theorem dX6_deal_24 : decode cX6_deal 24 = .ok (.isub, 1) := by decide +kernel
theorem dX6_deal_25 : decode cX6_deal 25 = .ok (.invokestatic 165, 3) := by decide +kernel
theorem dX6_deal_28 : decode cX6_deal 28 = .ok (.istore_n 2, 1) := by decide +kernel
theorem dX6_deal_29 : decode cX6_deal 29 = .ok (.iconst 0, 1) := by decide +kernel
theorem dX6_deal_30 : decode cX6_deal 30 = .ok (.istore_n 3, 1) := by decide +kernel
theorem dX6_deal_31 : decode cX6_deal 31 = .ok (.iload_n 3, 1) := by decide +kernel
theorem dX6_deal_32 : decode cX6_deal 32 = .ok (.iload_n 2, 1) := by decide +kernel
theorem dX6_deal_33 : decode cX6_deal 33 = .ok (.if_icmp .ge 21, 3) := by decide +kernel
theorem dX6_deal_36 : decode cX6_deal 36 = .ok (.aload_n 0, 1) := by decide +kernel
theorem dX6_deal_37 : decode cX6_deal 37 = .ok (.getfield 10, 3) := by decide +kernel
theorem dX6_deal_40 : decode cX6_deal 40 = .ok (.invokevirtual 171, 3) := by decide +kernel
theorem dX6_deal_43 : decode cX6_deal 43 = .ok (.ifCond .ne 5, 3) := by decide +kernel
theorem dX6_deal_46 : decode cX6_deal 46 = .ok (.iload_n 3, 1) := by decide +kernel
theorem dX6_deal_47 : decode cX6_deal 47 = .ok (.ireturn, 1) := by decide +kernel
theorem dX6_deal_48 : decode cX6_deal 48 = .ok (.iinc 3 1, 3) := by decide +kernel
theorem dX6_deal_51 : decode cX6_deal 51 = .ok (.goto (-20), 3) := by decide +kernel
theorem dX6_deal_54 : decode cX6_deal 54 = .ok (.iload_n 2, 1) := by decide +kernel
theorem dX6_deal_55 : decode cX6_deal 55 = .ok (.ireturn, 1) := by decide +kernel
theorem dX6_seed_0 : decode cX6_seed 0 = .ok (.aload_n 0, 1) := by decide +kernel
theorem dX6_seed_1 : decode cX6_seed 1 = .ok (.getfield 10, 3) := by decide +kernel
theorem dX6_seed_4 : decode cX6_seed 4 = .ok (.getfield 175, 3) := by decide +kernel
theorem dX6_seed_7 : decode cX6_seed 7 = .ok (.istore_n 2, 1) := by decide +kernel
theorem dX6_seed_8 : decode cX6_seed 8 = .ok (.aload_n 0, 1) := by decide +kernel
theorem dX6_seed_9 : decode cX6_seed 9 = .ok (.getfield 10, 3) := by decide +kernel
theorem dX6_seed_12 : decode cX6_seed 12 = .ok (.iload_n 1, 1) := by decide +kernel
theorem dX6_seed_13 : decode cX6_seed 13 = .ok (.putfield 175, 3) := by decide +kernel
theorem dX6_seed_16 : decode cX6_seed 16 = .ok (.iload_n 2, 1) := by decide +kernel
theorem dX6_seed_17 : decode cX6_seed 17 = .ok (.ireturn, 1) := by decide +kernel
theorem dX6_sees_0 : decode cX6_sees 0 = .ok (.aload_n 0, 1) := by decide +kernel
theorem dX6_sees_1 : decode cX6_sees 1 = .ok (.iload_n 1, 1) := by decide +kernel
theorem dX6_sees_2 : decode cX6_sees 2 = .ok (.invokevirtual 87, 3) := by decide +kernel
theorem dX6_sees_5 : decode cX6_sees 5 = .ok (.ifCond .eq 12, 3) := by decide +kernel
theorem dX6_sees_8 : decode cX6_sees 8 = .ok (.iload_n 2, 1) := by decide +kernel
theorem dX6_sees_9 : decode cX6_sees 9 = .ok (.bipush 48, 2) := by decide +kernel
theorem dX6_sees_11 : decode cX6_sees 11 = .ok (.invokestatic 69, 3) := by decide +kernel
theorem dX6_sees_14 : decode cX6_sees 14 = .ok (.ifCond .ne 6, 3) := by decide +kernel
theorem dX6_sees_17 : decode cX6_sees 17 = .ok (.ldc 73, 2) := by decide +kernel
theorem dX6_sees_19 : decode cX6_sees 19 = .ok (.ireturn, 1) := by decide +kernel
theorem dX6_sees_20 : decode cX6_sees 20 = .ok (.aload_n 0, 1) := by decide +kernel
theorem dX6_sees_21 : decode cX6_sees 21 = .ok (.getfield 10, 3) := by decide +kernel
theorem dX6_sees_24 : decode cX6_sees 24 = .ok (.getfield 90, 3) := by decide +kernel
theorem dX6_sees_27 : decode cX6_sees 27 = .ok (.iload_n 1, 1) := by decide +kernel
theorem dX6_sees_28 : decode cX6_sees 28 = .ok (.aaload, 1) := by decide +kernel
theorem dX6_sees_29 : decode cX6_sees 29 = .ok (.astore_n 3, 1) := by decide +kernel
theorem dX6_sees_30 : decode cX6_sees 30 = .ok (.aload_n 0, 1) := by decide +kernel
theorem dX6_sees_31 : decode cX6_sees 31 = .ok (.getfield 10, 3) := by decide +kernel
theorem dX6_sees_34 : decode cX6_sees 34 = .ok (.aload_n 3, 1) := by decide +kernel
theorem dX6_sees_35 : decode cX6_sees 35 = .ok (.iload_n 2, 1) := by decide +kernel
theorem dX6_sees_36 : decode cX6_sees 36 = .ok (.aload_n 0, 1) := by decide +kernel
theorem dX6_sees_37 : decode cX6_sees 37 = .ok (.getfield 10, 3) := by decide +kernel
theorem dX6_sees_40 : decode cX6_sees 40 = .ok (.aload_n 3, 1) := by decide +kernel
theorem dX6_sees_41 : decode cX6_sees 41 = .ok (.invokevirtual 116, 3) := by decide +kernel
theorem dX6_sees_44 : decode cX6_sees 44 = .ok (.invokevirtual 178, 3) := by decide +kernel
theorem dX6_sees_47 : decode cX6_sees 47 = .ok (.invokestatic 112, 3) := by decide +kernel
theorem dX6_sees_50 : decode cX6_sees 50 = .ok (.ireturn, 1) := by decide +kernel
theorem dX6_row_0 : decode cX6_row 0 = .ok (.aload_n 0, 1) := by decide +kernel
theorem dX6_row_1 : decode cX6_row 1 = .ok (.iload_n 1, 1) := by decide +kernel
theorem dX6_row_2 : decode cX6_row 2 = .ok (.invokevirtual 87, 3) := by decide +kernel
theorem dX6_row_5 : decode cX6_row 5 = .ok (.ifCond .eq 12, 3) := by decide +kernel
theorem dX6_row_8 : decode cX6_row 8 = .ok (.iload_n 2, 1) := by decide +kernel
theorem dX6_row_9 : decode cX6_row 9 = .ok (.bipush 6, 2) := by decide +kernel
theorem dX6_row_11 : decode cX6_row 11 = .ok (.invokestatic 69, 3) := by decide +kernel
theorem dX6_row_14 : decode cX6_row 14 = .ok (.ifCond .ne 6, 3) := by decide +kernel
theorem dX6_row_17 : decode cX6_row 17 = .ok (.ldc 73, 2) := by decide +kernel
theorem dX6_row_19 : decode cX6_row 19 = .ok (.ireturn, 1) := by decide +kernel
theorem dX6_row_20 : decode cX6_row 20 = .ok (.aload_n 0, 1) := by decide +kernel
theorem dX6_row_21 : decode cX6_row 21 = .ok (.getfield 10, 3) := by decide +kernel
theorem dX6_row_24 : decode cX6_row 24 = .ok (.aload_n 0, 1) := by decide +kernel
theorem dX6_row_25 : decode cX6_row 25 = .ok (.getfield 10, 3) := by decide +kernel
theorem dX6_row_28 : decode cX6_row 28 = .ok (.getfield 90, 3) := by decide +kernel
theorem dX6_row_31 : decode cX6_row 31 = .ok (.iload_n 1, 1) := by decide +kernel
theorem dX6_row_32 : decode cX6_row 32 = .ok (.aaload, 1) := by decide +kernel
theorem dX6_row_33 : decode cX6_row 33 = .ok (.invokevirtual 120, 3) := by decide +kernel
theorem dX6_row_36 : decode cX6_row 36 = .ok (.lstore_n 3, 1) := by decide +kernel
theorem dX6_row_37 : decode cX6_row 37 = .ok (.lload_n 3, 1) := by decide +kernel
theorem dX6_row_38 : decode cX6_row 38 = .ok (.iload_n 2, 1) := by decide +kernel
theorem dX6_row_39 : decode cX6_row 39 = .ok (.bipush 8, 2) := by decide +kernel
theorem dX6_row_41 : decode cX6_row 41 = .ok (.imul, 1) := by decide +kernel
theorem dX6_row_42 : decode cX6_row 42 = .ok (.lushr, 1) := by decide +kernel
theorem dX6_row_43 : decode cX6_row 43 = .ok (.l2i, 1) := by decide +kernel
theorem dX6_row_44 : decode cX6_row 44 = .ok (.sipush 255, 3) := by decide +kernel
theorem dX6_row_47 : decode cX6_row 47 = .ok (.iand, 1) := by decide +kernel
theorem dX6_row_48 : decode cX6_row 48 = .ok (.ireturn, 1) := by decide +kernel
theorem dX6_watched_0 : decode cX6_watched 0 = .ok (.iload_n 1, 1) := by decide +kernel
theorem dX6_watched_1 : decode cX6_watched 1 = .ok (.tableswitch 75 0 3 #[31, 42, 53, 64], 31) := by decide +kernel
theorem dX6_watched_32 : decode cX6_watched 32 = .ok (.aload_n 0, 1) := by decide +kernel
theorem dX6_watched_33 : decode cX6_watched 33 = .ok (.getfield 10, 3) := by decide +kernel
theorem dX6_watched_36 : decode cX6_watched 36 = .ok (.invokevirtual 182, 3) := by decide +kernel
theorem dX6_watched_39 : decode cX6_watched 39 = .ok (.invokestatic 124, 3) := by decide +kernel
theorem dX6_watched_42 : decode cX6_watched 42 = .ok (.ireturn, 1) := by decide +kernel
theorem dX6_watched_43 : decode cX6_watched 43 = .ok (.aload_n 0, 1) := by decide +kernel
theorem dX6_watched_44 : decode cX6_watched 44 = .ok (.getfield 10, 3) := by decide +kernel
theorem dX6_watched_47 : decode cX6_watched 47 = .ok (.invokevirtual 186, 3) := by decide +kernel
theorem dX6_watched_50 : decode cX6_watched 50 = .ok (.invokestatic 124, 3) := by decide +kernel
theorem dX6_watched_53 : decode cX6_watched 53 = .ok (.ireturn, 1) := by decide +kernel
theorem dX6_watched_54 : decode cX6_watched 54 = .ok (.aload_n 0, 1) := by decide +kernel
theorem dX6_watched_55 : decode cX6_watched 55 = .ok (.getfield 10, 3) := by decide +kernel
theorem dX6_watched_58 : decode cX6_watched 58 = .ok (.invokevirtual 186, 3) := by decide +kernel
theorem dX6_watched_61 : decode cX6_watched 61 = .ok (.invokestatic 189, 3) := by decide +kernel
theorem dX6_watched_64 : decode cX6_watched 64 = .ok (.ireturn, 1) := by decide +kernel
theorem dX6_watched_65 : decode cX6_watched 65 = .ok (.aload_n 0, 1) := by decide +kernel
theorem dX6_watched_66 : decode cX6_watched 66 = .ok (.getfield 10, 3) := by decide +kernel
theorem dX6_watched_69 : decode cX6_watched 69 = .ok (.invokevirtual 192, 3) := by decide +kernel
theorem dX6_watched_72 : decode cX6_watched 72 = .ok (.invokestatic 124, 3) := by decide +kernel
theorem dX6_watched_75 : decode cX6_watched 75 = .ok (.ireturn, 1) := by decide +kernel
theorem dX6_watched_76 : decode cX6_watched 76 = .ok (.ldc 73, 2) := by decide +kernel
theorem dX6_watched_78 : decode cX6_watched 78 = .ok (.ireturn, 1) := by decide +kernel
theorem dX6_spare_0 : decode cX6_spare 0 = .ok (.aload_n 0, 1) := by decide +kernel
theorem dX6_spare_1 : decode cX6_spare 1 = .ok (.iload_n 1, 1) := by decide +kernel
theorem dX6_spare_2 : decode cX6_spare 2 = .ok (.invokevirtual 87, 3) := by decide +kernel
theorem dX6_spare_5 : decode cX6_spare 5 = .ok (.ifCond .ne 6, 3) := by decide +kernel
theorem dX6_spare_8 : decode cX6_spare 8 = .ok (.ldc 73, 2) := by decide +kernel
theorem dX6_spare_10 : decode cX6_spare 10 = .ok (.ireturn, 1) := by decide +kernel
theorem dX6_spare_11 : decode cX6_spare 11 = .ok (.lconst 0, 1) := by decide +kernel
theorem dX6_spare_12 : decode cX6_spare 12 = .ok (.lstore_n 2, 1) := by decide +kernel
theorem dX6_spare_13 : decode cX6_spare 13 = .ok (.iconst 0, 1) := by decide +kernel
theorem dX6_spare_14 : decode cX6_spare 14 = .ok (.istore 4, 2) := by decide +kernel
theorem dX6_spare_16 : decode cX6_spare 16 = .ok (.iload 4, 2) := by decide +kernel
theorem dX6_spare_18 : decode cX6_spare 18 = .ok (.aload_n 0, 1) := by decide +kernel
theorem dX6_spare_19 : decode cX6_spare 19 = .ok (.getfield 10, 3) := by decide +kernel
theorem dX6_spare_22 : decode cX6_spare 22 = .ok (.getfield 79, 3) := by decide +kernel
theorem dX6_spare_25 : decode cX6_spare 25 = .ok (.if_icmp .ge 35, 3) := by decide +kernel
theorem dX6_spare_28 : decode cX6_spare 28 = .ok (.iload 4, 2) := by decide +kernel
theorem dX6_spare_30 : decode cX6_spare 30 = .ok (.iload_n 1, 1) := by decide +kernel
theorem dX6_spare_31 : decode cX6_spare 31 = .ok (.if_icmp .eq 23, 3) := by decide +kernel
theorem dX6_spare_34 : decode cX6_spare 34 = .ok (.lload_n 2, 1) := by decide +kernel
theorem dX6_spare_35 : decode cX6_spare 35 = .ok (.aload_n 0, 1) := by decide +kernel
theorem dX6_spare_36 : decode cX6_spare 36 = .ok (.getfield 10, 3) := by decide +kernel
theorem dX6_spare_39 : decode cX6_spare 39 = .ok (.aload_n 0, 1) := by decide +kernel
theorem dX6_spare_40 : decode cX6_spare 40 = .ok (.getfield 10, 3) := by decide +kernel
theorem dX6_spare_43 : decode cX6_spare 43 = .ok (.getfield 90, 3) := by decide +kernel
theorem dX6_spare_46 : decode cX6_spare 46 = .ok (.iload 4, 2) := by decide +kernel
theorem dX6_spare_48 : decode cX6_spare 48 = .ok (.aaload, 1) := by decide +kernel
theorem dX6_spare_49 : decode cX6_spare 49 = .ok (.invokevirtual 120, 3) := by decide +kernel
theorem dX6_spare_52 : decode cX6_spare 52 = .ok (.lor, 1) := by decide +kernel
theorem dX6_spare_53 : decode cX6_spare 53 = .ok (.lstore_n 2, 1) := by decide +kernel
theorem dX6_spare_54 : decode cX6_spare 54 = .ok (.iinc 4 1, 3) := by decide +kernel
theorem dX6_spare_57 : decode cX6_spare 57 = .ok (.goto (-41), 3) := by decide +kernel
theorem dX6_spare_60 : decode cX6_spare 60 = .ok (.aload_n 0, 1) := by decide +kernel
theorem dX6_spare_61 : decode cX6_spare 61 = .ok (.getfield 10, 3) := by decide +kernel
theorem dX6_spare_64 : decode cX6_spare 64 = .ok (.aload_n 0, 1) := by decide +kernel
theorem dX6_spare_65 : decode cX6_spare 65 = .ok (.getfield 10, 3) := by decide +kernel
theorem dX6_spare_68 : decode cX6_spare 68 = .ok (.getfield 90, 3) := by decide +kernel
theorem dX6_spare_71 : decode cX6_spare 71 = .ok (.iload_n 1, 1) := by decide +kernel
theorem dX6_spare_72 : decode cX6_spare 72 = .ok (.aaload, 1) := by decide +kernel
theorem dX6_spare_73 : decode cX6_spare 73 = .ok (.invokevirtual 120, 3) := by decide +kernel
theorem dX6_spare_76 : decode cX6_spare 76 = .ok (.lload_n 2, 1) := by decide +kernel
theorem dX6_spare_77 : decode cX6_spare 77 = .ok (.ldc2_w 157, 3) := by decide +kernel
theorem dX6_spare_80 : decode cX6_spare 80 = .ok (.lxor, 1) := by decide +kernel
theorem dX6_spare_81 : decode cX6_spare 81 = .ok (.land, 1) := by decide +kernel
theorem dX6_spare_82 : decode cX6_spare 82 = .ok (.lconst 0, 1) := by decide +kernel
theorem dX6_spare_83 : decode cX6_spare 83 = .ok (.lcmp, 1) := by decide +kernel
theorem dX6_spare_84 : decode cX6_spare 84 = .ok (.ifCond .ne 7, 3) := by decide +kernel
theorem dX6_spare_87 : decode cX6_spare 87 = .ok (.iconst 1, 1) := by decide +kernel
theorem dX6_spare_88 : decode cX6_spare 88 = .ok (.goto 4, 3) := by decide +kernel
theorem dX6_spare_91 : decode cX6_spare 91 = .ok (.iconst 0, 1) := by decide +kernel
theorem dX6_spare_92 : decode cX6_spare 92 = .ok (.invokestatic 112, 3) := by decide +kernel
theorem dX6_spare_95 : decode cX6_spare 95 = .ok (.ireturn, 1) := by decide +kernel
theorem dX6_fewest_0 : decode cX6_fewest 0 = .ok (.iload_n 1, 1) := by decide +kernel
theorem dX6_fewest_1 : decode cX6_fewest 1 = .ok (.iconst 2, 1) := by decide +kernel
theorem dX6_fewest_2 : decode cX6_fewest 2 = .ok (.invokestatic 69, 3) := by decide +kernel
theorem dX6_fewest_5 : decode cX6_fewest 5 = .ok (.ifCond .ne 6, 3) := by decide +kernel
theorem dX6_fewest_8 : decode cX6_fewest 8 = .ok (.ldc 73, 2) := by decide +kernel
theorem dX6_fewest_10 : decode cX6_fewest 10 = .ok (.ireturn, 1) := by decide +kernel
theorem dX6_fewest_11 : decode cX6_fewest 11 = .ok (.aload_n 0, 1) := by decide +kernel
theorem dX6_fewest_12 : decode cX6_fewest 12 = .ok (.invokevirtual 195, 3) := by decide +kernel
theorem dX6_fewest_15 : decode cX6_fewest 15 = .ok (.istore_n 2, 1) := by decide +kernel
theorem dX6_fewest_16 : decode cX6_fewest 16 = .ok (.iload_n 1, 1) := by decide +kernel
theorem dX6_fewest_17 : decode cX6_fewest 17 = .ok (.ifCond .ne 7, 3) := by decide +kernel
theorem dX6_fewest_20 : decode cX6_fewest 20 = .ok (.iload_n 2, 1) := by decide +kernel
theorem dX6_fewest_21 : decode cX6_fewest 21 = .ok (.goto 7, 3) := by decide +kernel
theorem dX6_fewest_24 : decode cX6_fewest 24 = .ok (.iload_n 2, 1) := by decide +kernel
theorem dX6_fewest_25 : decode cX6_fewest 25 = .ok (.invokestatic 198, 3) := by decide +kernel
theorem dX6_fewest_28 : decode cX6_fewest 28 = .ok (.ireturn, 1) := by decide +kernel
theorem dX6_stand_0 : decode cX6_stand 0 = .ok (.iload_n 1, 1) := by decide +kernel
theorem dX6_stand_1 : decode cX6_stand 1 = .ok (.bipush 6, 2) := by decide +kernel
theorem dX6_stand_3 : decode cX6_stand 3 = .ok (.invokestatic 69, 3) := by decide +kernel
theorem dX6_stand_6 : decode cX6_stand 6 = .ok (.ifCond .eq 19, 3) := by decide +kernel
theorem dX6_stand_9 : decode cX6_stand 9 = .ok (.iload_n 2, 1) := by decide +kernel
theorem dX6_stand_10 : decode cX6_stand 10 = .ok (.iconst 4, 1) := by decide +kernel
theorem dX6_stand_11 : decode cX6_stand 11 = .ok (.invokestatic 69, 3) := by decide +kernel
theorem dX6_stand_14 : decode cX6_stand 14 = .ok (.ifCond .eq 11, 3) := by decide +kernel
theorem dX6_stand_17 : decode cX6_stand 17 = .ok (.iload_n 3, 1) := by decide +kernel
theorem dX6_stand_18 : decode cX6_stand 18 = .ok (.iconst 2, 1) := by decide +kernel
theorem dX6_stand_19 : decode cX6_stand 19 = .ok (.invokestatic 69, 3) := by decide +kernel
theorem dX6_stand_22 : decode cX6_stand 22 = .ok (.ifCond .ne 6, 3) := by decide +kernel
theorem dX6_stand_25 : decode cX6_stand 25 = .ok (.ldc 73, 2) := by decide +kernel
theorem dX6_stand_27 : decode cX6_stand 27 = .ok (.ireturn, 1) := by decide +kernel
theorem dX6_stand_28 : decode cX6_stand 28 = .ok (.aload_n 0, 1) := by decide +kernel
theorem dX6_stand_29 : decode cX6_stand 29 = .ok (.getfield 10, 3) := by decide +kernel
theorem dX6_stand_32 : decode cX6_stand 32 = .ok (.getfield 79, 3) := by decide +kernel
theorem dX6_stand_35 : decode cX6_stand 35 = .ok (.bipush 8, 2) := by decide +kernel
theorem dX6_stand_37 : decode cX6_stand 37 = .ok (.if_icmp .lt 6, 3) := by decide +kernel
theorem dX6_stand_40 : decode cX6_stand 40 = .ok (.ldc 82, 2) := by decide +kernel
theorem dX6_stand_42 : decode cX6_stand 42 = .ok (.ireturn, 1) := by decide +kernel
theorem dX6_stand_43 : decode cX6_stand 43 = .ok (.aload_n 0, 1) := by decide +kernel
theorem dX6_stand_44 : decode cX6_stand 44 = .ok (.getfield 10, 3) := by decide +kernel
theorem dX6_stand_47 : decode cX6_stand 47 = .ok (.invokevirtual 186, 3) := by decide +kernel
theorem dX6_stand_50 : decode cX6_stand 50 = .ok (.lstore 4, 2) := by decide +kernel
theorem dX6_stand_52 : decode cX6_stand 52 = .ok (.ldc 142, 2) := by decide +kernel
theorem dX6_stand_54 : decode cX6_stand 54 = .ok (.istore 6, 2) := by decide +kernel
theorem dX6_stand_56 : decode cX6_stand 56 = .ok (.iconst (-1), 1) := by decide +kernel
theorem dX6_stand_57 : decode cX6_stand 57 = .ok (.istore 7, 2) := by decide +kernel
theorem dX6_stand_59 : decode cX6_stand 59 = .ok (.iconst 0, 1) := by decide +kernel
theorem dX6_stand_60 : decode cX6_stand 60 = .ok (.istore 8, 2) := by decide +kernel
theorem dX6_stand_62 : decode cX6_stand 62 = .ok (.iload 8, 2) := by decide +kernel
theorem dX6_stand_64 : decode cX6_stand 64 = .ok (.bipush 48, 2) := by decide +kernel
theorem dX6_stand_66 : decode cX6_stand 66 = .ok (.if_icmp .ge 67, 3) := by decide +kernel
theorem dX6_stand_69 : decode cX6_stand 69 = .ok (.aload_n 0, 1) := by decide +kernel
theorem dX6_stand_70 : decode cX6_stand 70 = .ok (.getfield 10, 3) := by decide +kernel
theorem dX6_stand_73 : decode cX6_stand 73 = .ok (.iload 8, 2) := by decide +kernel
theorem dX6_stand_75 : decode cX6_stand 75 = .ok (.invokevirtual 74, 3) := by decide +kernel
theorem dX6_stand_78 : decode cX6_stand 78 = .ok (.ifCond .eq 49, 3) := by decide +kernel
theorem dX6_stand_81 : decode cX6_stand 81 = .ok (.aload_n 0, 1) := by decide +kernel
theorem dX6_stand_82 : decode cX6_stand 82 = .ok (.getfield 29, 3) := by decide +kernel
theorem dX6_stand_85 : decode cX6_stand 85 = .ok (.iload_n 1, 1) := by decide +kernel
theorem dX6_stand_86 : decode cX6_stand 86 = .ok (.iload 8, 2) := by decide +kernel
theorem dX6_stand_88 : decode cX6_stand 88 = .ok (.iload_n 2, 1) := by decide +kernel
theorem dX6_stand_89 : decode cX6_stand 89 = .ok (.iconst 0, 1) := by decide +kernel
theorem dX6_stand_90 : decode cX6_stand 90 = .ok (.invokevirtual 202, 3) := by decide +kernel
theorem dX6_stand_93 : decode cX6_stand 93 = .ok (.aload_n 0, 1) := by decide +kernel
theorem dX6_stand_94 : decode cX6_stand 94 = .ok (.getfield 10, 3) := by decide +kernel
theorem dX6_stand_97 : decode cX6_stand 97 = .ok (.aload_n 0, 1) := by decide +kernel
theorem dX6_stand_98 : decode cX6_stand 98 = .ok (.getfield 29, 3) := by decide +kernel
theorem dX6_stand_101 : decode cX6_stand 101 = .ok (.invokevirtual 120, 3) := by decide +kernel
theorem dX6_stand_104 : decode cX6_stand 104 = .ok (.lload 4, 2) := by decide +kernel
theorem dX6_stand_106 : decode cX6_stand 106 = .ok (.land, 1) := by decide +kernel
theorem dX6_stand_107 : decode cX6_stand 107 = .ok (.invokestatic 124, 3) := by decide +kernel
theorem dX6_stand_110 : decode cX6_stand 110 = .ok (.istore 9, 2) := by decide +kernel
theorem dX6_stand_112 : decode cX6_stand 112 = .ok (.iload 9, 2) := by decide +kernel
theorem dX6_stand_114 : decode cX6_stand 114 = .ok (.iload 7, 2) := by decide +kernel
theorem dX6_stand_116 : decode cX6_stand 116 = .ok (.if_icmp .le 11, 3) := by decide +kernel
theorem dX6_stand_119 : decode cX6_stand 119 = .ok (.iload 9, 2) := by decide +kernel
theorem dX6_stand_121 : decode cX6_stand 121 = .ok (.istore 7, 2) := by decide +kernel
theorem dX6_stand_123 : decode cX6_stand 123 = .ok (.iload 8, 2) := by decide +kernel
theorem dX6_stand_125 : decode cX6_stand 125 = .ok (.istore 6, 2) := by decide +kernel
theorem dX6_stand_127 : decode cX6_stand 127 = .ok (.iinc 8 1, 3) := by decide +kernel
theorem dX6_stand_130 : decode cX6_stand 130 = .ok (.goto (-68), 3) := by decide +kernel
theorem dX6_stand_133 : decode cX6_stand 133 = .ok (.iload_n 3, 1) := by decide +kernel
theorem dX6_stand_134 : decode cX6_stand 134 = .ok (.ifCond .eq 10, 3) := by decide +kernel
theorem dX6_stand_137 : decode cX6_stand 137 = .ok (.iload 6, 2) := by decide +kernel
theorem dX6_stand_139 : decode cX6_stand 139 = .ok (.ldc 142, 2) := by decide +kernel
theorem dX6_stand_141 : decode cX6_stand 141 = .ok (.if_icmp .ne 8, 3) := by decide +kernel
theorem dX6_stand_144 : decode cX6_stand 144 = .ok (.iload 6, 2) := by decide +kernel
theorem dX6_stand_146 : decode cX6_stand 146 = .ok (.goto 5, 3) := by decide +kernel
theorem dX6_stand_149 : decode cX6_stand 149 = .ok (.iload 7, 2) := by decide +kernel
theorem dX6_stand_151 : decode cX6_stand 151 = .ok (.ireturn, 1) := by decide +kernel
theorem dX6_sneak_0 : decode cX6_sneak 0 = .ok (.iload_n 1, 1) := by decide +kernel
theorem dX6_sneak_1 : decode cX6_sneak 1 = .ok (.bipush 48, 2) := by decide +kernel
theorem dX6_sneak_3 : decode cX6_sneak 3 = .ok (.invokestatic 69, 3) := by decide +kernel
theorem dX6_sneak_6 : decode cX6_sneak 6 = .ok (.ifCond .eq 12, 3) := by decide +kernel
theorem dX6_sneak_9 : decode cX6_sneak 9 = .ok (.iload_n 2, 1) := by decide +kernel
theorem dX6_sneak_10 : decode cX6_sneak 10 = .ok (.bipush 48, 2) := by decide +kernel
theorem dX6_sneak_12 : decode cX6_sneak 12 = .ok (.invokestatic 69, 3) := by decide +kernel
theorem dX6_sneak_15 : decode cX6_sneak 15 = .ok (.ifCond .ne 6, 3) := by decide +kernel
theorem dX6_sneak_18 : decode cX6_sneak 18 = .ok (.ldc 73, 2) := by decide +kernel
theorem dX6_sneak_20 : decode cX6_sneak 20 = .ok (.ireturn, 1) := by decide +kernel
theorem dX6_sneak_21 : decode cX6_sneak 21 = .ok (.aload_n 0, 1) := by decide +kernel
theorem dX6_sneak_22 : decode cX6_sneak 22 = .ok (.getfield 10, 3) := by decide +kernel
theorem dX6_sneak_25 : decode cX6_sneak 25 = .ok (.invokevirtual 186, 3) := by decide +kernel
theorem dX6_sneak_28 : decode cX6_sneak 28 = .ok (.lstore_n 3, 1) := by decide +kernel
theorem dX6_sneak_29 : decode cX6_sneak 29 = .ok (.iload_n 1, 1) := by decide +kernel
theorem dX6_sneak_30 : decode cX6_sneak 30 = .ok (.invokestatic 153, 3) := by decide +kernel
theorem dX6_sneak_33 : decode cX6_sneak 33 = .ok (.lload_n 3, 1) := by decide +kernel
theorem dX6_sneak_34 : decode cX6_sneak 34 = .ok (.land, 1) := by decide +kernel
theorem dX6_sneak_35 : decode cX6_sneak 35 = .ok (.lstore 5, 2) := by decide +kernel
theorem dX6_sneak_37 : decode cX6_sneak 37 = .ok (.iconst 0, 1) := by decide +kernel
theorem dX6_sneak_38 : decode cX6_sneak 38 = .ok (.istore 7, 2) := by decide +kernel
theorem dX6_sneak_40 : decode cX6_sneak 40 = .ok (.iload 7, 2) := by decide +kernel
theorem dX6_sneak_42 : decode cX6_sneak 42 = .ok (.bipush 48, 2) := by decide +kernel
theorem dX6_sneak_44 : decode cX6_sneak 44 = .ok (.if_icmp .ge 36, 3) := by decide +kernel
theorem dX6_sneak_47 : decode cX6_sneak 47 = .ok (.lload 5, 2) := by decide +kernel
theorem dX6_sneak_49 : decode cX6_sneak 49 = .ok (.iload_n 2, 1) := by decide +kernel
theorem dX6_sneak_50 : decode cX6_sneak 50 = .ok (.invokestatic 153, 3) := by decide +kernel
theorem dX6_sneak_53 : decode cX6_sneak 53 = .ok (.land, 1) := by decide +kernel
theorem dX6_sneak_54 : decode cX6_sneak 54 = .ok (.lconst 0, 1) := by decide +kernel
theorem dX6_sneak_55 : decode cX6_sneak 55 = .ok (.lcmp, 1) := by decide +kernel
theorem dX6_sneak_56 : decode cX6_sneak 56 = .ok (.ifCond .eq 6, 3) := by decide +kernel
theorem dX6_sneak_59 : decode cX6_sneak 59 = .ok (.iload 7, 2) := by decide +kernel
theorem dX6_sneak_61 : decode cX6_sneak 61 = .ok (.ireturn, 1) := by decide +kernel
theorem dX6_sneak_62 : decode cX6_sneak 62 = .ok (.lload 5, 2) := by decide +kernel
theorem dX6_sneak_64 : decode cX6_sneak 64 = .ok (.lload 5, 2) := by decide +kernel
theorem dX6_sneak_66 : decode cX6_sneak 66 = .ok (.invokestatic 205, 3) := by decide +kernel
theorem dX6_sneak_69 : decode cX6_sneak 69 = .ok (.lload_n 3, 1) := by decide +kernel
theorem dX6_sneak_70 : decode cX6_sneak 70 = .ok (.land, 1) := by decide +kernel
theorem dX6_sneak_71 : decode cX6_sneak 71 = .ok (.lor, 1) := by decide +kernel
theorem dX6_sneak_72 : decode cX6_sneak 72 = .ok (.lstore 5, 2) := by decide +kernel
theorem dX6_sneak_74 : decode cX6_sneak 74 = .ok (.iinc 7 1, 3) := by decide +kernel
theorem dX6_sneak_77 : decode cX6_sneak 77 = .ok (.goto (-37), 3) := by decide +kernel
theorem dX6_sneak_80 : decode cX6_sneak 80 = .ok (.ldc 142, 2) := by decide +kernel
theorem dX6_sneak_82 : decode cX6_sneak 82 = .ok (.ireturn, 1) := by decide +kernel
theorem dX6_hours_0 : decode cX6_hours 0 = .ok (.iload_n 1, 1) := by decide +kernel
theorem dX6_hours_1 : decode cX6_hours 1 = .ok (.iconst 1, 1) := by decide +kernel
theorem dX6_hours_2 : decode cX6_hours 2 = .ok (.if_icmp .lt 9, 3) := by decide +kernel
theorem dX6_hours_5 : decode cX6_hours 5 = .ok (.iload_n 1, 1) := by decide +kernel
theorem dX6_hours_6 : decode cX6_hours 6 = .ok (.bipush 100, 2) := by decide +kernel
theorem dX6_hours_8 : decode cX6_hours 8 = .ok (.if_icmp .le 6, 3) := by decide +kernel
theorem dX6_hours_11 : decode cX6_hours 11 = .ok (.ldc 73, 2) := by decide +kernel
theorem dX6_hours_13 : decode cX6_hours 13 = .ok (.ireturn, 1) := by decide +kernel
theorem dX6_hours_14 : decode cX6_hours 14 = .ok (.aload_n 0, 1) := by decide +kernel
theorem dX6_hours_15 : decode cX6_hours 15 = .ok (.getfield 10, 3) := by decide +kernel
theorem dX6_hours_18 : decode cX6_hours 18 = .ok (.getfield 209, 3) := by decide +kernel
theorem dX6_hours_21 : decode cX6_hours 21 = .ok (.istore_n 2, 1) := by decide +kernel
theorem dX6_hours_22 : decode cX6_hours 22 = .ok (.aload_n 0, 1) := by decide +kernel
theorem dX6_hours_23 : decode cX6_hours 23 = .ok (.getfield 10, 3) := by decide +kernel
theorem dX6_hours_26 : decode cX6_hours 26 = .ok (.iload_n 1, 1) := by decide +kernel
theorem dX6_hours_27 : decode cX6_hours 27 = .ok (.sipush 9999, 3) := by decide +kernel
theorem dX6_hours_30 : decode cX6_hours 30 = .ok (.aload_n 0, 1) := by decide +kernel
theorem dX6_hours_31 : decode cX6_hours 31 = .ok (.getfield 10, 3) := by decide +kernel
theorem dX6_hours_34 : decode cX6_hours 34 = .ok (.getfield 106, 3) := by decide +kernel
theorem dX6_hours_37 : decode cX6_hours 37 = .ok (.isub, 1) := by decide +kernel
theorem dX6_hours_38 : decode cX6_hours 38 = .ok (.invokestatic 165, 3) := by decide +kernel
theorem dX6_hours_41 : decode cX6_hours 41 = .ok (.invokevirtual 212, 3) := by decide +kernel
theorem dX6_hours_44 : decode cX6_hours 44 = .ok (.aload_n 0, 1) := by decide +kernel
theorem dX6_hours_45 : decode cX6_hours 45 = .ok (.getfield 10, 3) := by decide +kernel
theorem dX6_hours_48 : decode cX6_hours 48 = .ok (.getfield 209, 3) := by decide +kernel
theorem dX6_hours_51 : decode cX6_hours 51 = .ok (.iload_n 2, 1) := by decide +kernel
theorem dX6_hours_52 : decode cX6_hours 52 = .ok (.isub, 1) := by decide +kernel
theorem dX6_hours_53 : decode cX6_hours 53 = .ok (.ireturn, 1) := by decide +kernel
theorem dX6_room_0 : decode cX6_room 0 = .ok (.iload_n 1, 1) := by decide +kernel
theorem dX6_room_1 : decode cX6_room 1 = .ok (.iconst 5, 1) := by decide +kernel
theorem dX6_room_2 : decode cX6_room 2 = .ok (.if_icmp .ne 14, 3) := by decide +kernel
theorem dX6_room_5 : decode cX6_room 5 = .ok (.aload_n 0, 1) := by decide +kernel
theorem dX6_room_6 : decode cX6_room 6 = .ok (.getfield 10, 3) := by decide +kernel
theorem dX6_room_9 : decode cX6_room 9 = .ok (.getfield 149, 3) := by decide +kernel
theorem dX6_room_12 : decode cX6_room 12 = .ok (.invokestatic 124, 3) := by decide +kernel
theorem dX6_room_15 : decode cX6_room 15 = .ok (.ireturn, 1) := by decide +kernel
theorem dX6_room_16 : decode cX6_room 16 = .ok (.iload_n 1, 1) := by decide +kernel
theorem dX6_room_17 : decode cX6_room 17 = .ok (.iconst 5, 1) := by decide +kernel
theorem dX6_room_18 : decode cX6_room 18 = .ok (.invokestatic 69, 3) := by decide +kernel
theorem dX6_room_21 : decode cX6_room 21 = .ok (.ifCond .eq 14, 3) := by decide +kernel
theorem dX6_room_24 : decode cX6_room 24 = .ok (.aload_n 0, 1) := by decide +kernel
theorem dX6_room_25 : decode cX6_room 25 = .ok (.getfield 10, 3) := by decide +kernel
theorem dX6_room_28 : decode cX6_room 28 = .ok (.iload_n 1, 1) := by decide +kernel
theorem dX6_room_29 : decode cX6_room 29 = .ok (.invokevirtual 216, 3) := by decide +kernel
theorem dX6_room_32 : decode cX6_room 32 = .ok (.goto 5, 3) := by decide +kernel
theorem dX6_room_35 : decode cX6_room 35 = .ok (.ldc 73, 2) := by decide +kernel
theorem dX6_room_37 : decode cX6_room 37 = .ok (.ireturn, 1) := by decide +kernel
theorem dX6_behind_0 : decode cX6_behind 0 = .ok (.iload_n 1, 1) := by decide +kernel
theorem dX6_behind_1 : decode cX6_behind 1 = .ok (.bipush 101, 2) := by decide +kernel
theorem dX6_behind_3 : decode cX6_behind 3 = .ok (.invokestatic 69, 3) := by decide +kernel
theorem dX6_behind_6 : decode cX6_behind 6 = .ok (.ifCond .eq 19, 3) := by decide +kernel
theorem dX6_behind_9 : decode cX6_behind 9 = .ok (.iload_n 2, 1) := by decide +kernel
theorem dX6_behind_10 : decode cX6_behind 10 = .ok (.iconst 5, 1) := by decide +kernel
theorem dX6_behind_11 : decode cX6_behind 11 = .ok (.aload_n 0, 1) := by decide +kernel
theorem dX6_behind_12 : decode cX6_behind 12 = .ok (.getfield 10, 3) := by decide +kernel
theorem dX6_behind_15 : decode cX6_behind 15 = .ok (.getfield 79, 3) := by decide +kernel
theorem dX6_behind_18 : decode cX6_behind 18 = .ok (.iadd, 1) := by decide +kernel
theorem dX6_behind_19 : decode cX6_behind 19 = .ok (.invokestatic 69, 3) := by decide +kernel
theorem dX6_behind_22 : decode cX6_behind 22 = .ok (.ifCond .ne 6, 3) := by decide +kernel
theorem dX6_behind_25 : decode cX6_behind 25 = .ok (.ldc 73, 2) := by decide +kernel
theorem dX6_behind_27 : decode cX6_behind 27 = .ok (.ireturn, 1) := by decide +kernel
theorem dX6_behind_28 : decode cX6_behind 28 = .ok (.aload_n 0, 1) := by decide +kernel
theorem dX6_behind_29 : decode cX6_behind 29 = .ok (.getfield 23, 3) := by decide +kernel
theorem dX6_behind_32 : decode cX6_behind 32 = .ok (.aload_n 0, 1) := by decide +kernel
theorem dX6_behind_33 : decode cX6_behind 33 = .ok (.getfield 10, 3) := by decide +kernel
theorem dX6_behind_36 : decode cX6_behind 36 = .ok (.invokevirtual 219, 3) := by decide +kernel
theorem dX6_behind_39 : decode cX6_behind 39 = .ok (.aload_n 0, 1) := by decide +kernel
theorem dX6_behind_40 : decode cX6_behind 40 = .ok (.getfield 23, 3) := by decide +kernel
theorem dX6_behind_43 : decode cX6_behind 43 = .ok (.iload_n 1, 1) := by decide +kernel
theorem dX6_behind_44 : decode cX6_behind 44 = .ok (.invokevirtual 212, 3) := by decide +kernel
theorem dX6_behind_47 : decode cX6_behind 47 = .ok (.iload_n 2, 1) := by decide +kernel
theorem dX6_behind_48 : decode cX6_behind 48 = .ok (.iconst 5, 1) := by decide +kernel
theorem dX6_behind_49 : decode cX6_behind 49 = .ok (.if_icmp .ge 14, 3) := by decide +kernel
theorem dX6_behind_52 : decode cX6_behind 52 = .ok (.aload_n 0, 1) := by decide +kernel
theorem dX6_behind_53 : decode cX6_behind 53 = .ok (.getfield 23, 3) := by decide +kernel
theorem dX6_behind_56 : decode cX6_behind 56 = .ok (.iload_n 2, 1) := by decide +kernel
theorem dX6_behind_57 : decode cX6_behind 57 = .ok (.invokevirtual 216, 3) := by decide +kernel
theorem dX6_behind_60 : decode cX6_behind 60 = .ok (.goto 17, 3) := by decide +kernel
theorem dX6_behind_63 : decode cX6_behind 63 = .ok (.aload_n 0, 1) := by decide +kernel
theorem dX6_behind_64 : decode cX6_behind 64 = .ok (.getfield 23, 3) := by decide +kernel
theorem dX6_behind_67 : decode cX6_behind 67 = .ok (.getfield 90, 3) := by decide +kernel
theorem dX6_behind_70 : decode cX6_behind 70 = .ok (.iload_n 2, 1) := by decide +kernel
theorem dX6_behind_71 : decode cX6_behind 71 = .ok (.iconst 5, 1) := by decide +kernel
theorem dX6_behind_72 : decode cX6_behind 72 = .ok (.isub, 1) := by decide +kernel
theorem dX6_behind_73 : decode cX6_behind 73 = .ok (.aaload, 1) := by decide +kernel
theorem dX6_behind_74 : decode cX6_behind 74 = .ok (.getfield 103, 3) := by decide +kernel
theorem dX6_behind_77 : decode cX6_behind 77 = .ok (.ireturn, 1) := by decide +kernel
theorem dX6_catches_0 : decode cX6_catches 0 = .ok (.aload_n 0, 1) := by decide +kernel
theorem dX6_catches_1 : decode cX6_catches 1 = .ok (.getfield 23, 3) := by decide +kernel
theorem dX6_catches_4 : decode cX6_catches 4 = .ok (.aload_n 0, 1) := by decide +kernel
theorem dX6_catches_5 : decode cX6_catches 5 = .ok (.getfield 10, 3) := by decide +kernel
theorem dX6_catches_8 : decode cX6_catches 8 = .ok (.invokevirtual 219, 3) := by decide +kernel
theorem dX6_catches_11 : decode cX6_catches 11 = .ok (.iconst 1, 1) := by decide +kernel
theorem dX6_catches_12 : decode cX6_catches 12 = .ok (.istore_n 1, 1) := by decide +kernel
theorem dX6_catches_13 : decode cX6_catches 13 = .ok (.iload_n 1, 1) := by decide +kernel
theorem dX6_catches_14 : decode cX6_catches 14 = .ok (.sipush 200, 3) := by decide +kernel
theorem dX6_catches_17 : decode cX6_catches 17 = .ok (.if_icmp .gt 36, 3) := by decide +kernel
theorem dX6_catches_20 : decode cX6_catches 20 = .ok (.aload_n 0, 1) := by decide +kernel
theorem dX6_catches_21 : decode cX6_catches 21 = .ok (.getfield 23, 3) := by decide +kernel
theorem dX6_catches_24 : decode cX6_catches 24 = .ok (.iconst 1, 1) := by decide +kernel
theorem dX6_catches_25 : decode cX6_catches 25 = .ok (.invokevirtual 212, 3) := by decide +kernel
theorem dX6_catches_28 : decode cX6_catches 28 = .ok (.aload_n 0, 1) := by decide +kernel
theorem dX6_catches_29 : decode cX6_catches 29 = .ok (.getfield 23, 3) := by decide +kernel
theorem dX6_catches_32 : decode cX6_catches 32 = .ok (.getfield 209, 3) := by decide +kernel
theorem dX6_catches_35 : decode cX6_catches 35 = .ok (.aload_n 0, 1) := by decide +kernel
theorem dX6_catches_36 : decode cX6_catches 36 = .ok (.getfield 10, 3) := by decide +kernel
theorem dX6_catches_39 : decode cX6_catches 39 = .ok (.getfield 209, 3) := by decide +kernel
theorem dX6_catches_42 : decode cX6_catches 42 = .ok (.if_icmp .le 5, 3) := by decide +kernel
theorem dX6_catches_45 : decode cX6_catches 45 = .ok (.iload_n 1, 1) := by decide +kernel
theorem dX6_catches_46 : decode cX6_catches 46 = .ok (.ireturn, 1) := by decide +kernel
theorem dX6_catches_47 : decode cX6_catches 47 = .ok (.iinc 1 1, 3) := by decide +kernel
theorem dX6_catches_50 : decode cX6_catches 50 = .ok (.goto (-37), 3) := by decide +kernel
theorem dX6_catches_53 : decode cX6_catches 53 = .ok (.ldc 142, 2) := by decide +kernel
theorem dX6_catches_55 : decode cX6_catches 55 = .ok (.ireturn, 1) := by decide +kernel
theorem dX6_faces_0 : decode cX6_faces 0 = .ok (.aload_n 0, 1) := by decide +kernel
theorem dX6_faces_1 : decode cX6_faces 1 = .ok (.iload_n 1, 1) := by decide +kernel
theorem dX6_faces_2 : decode cX6_faces 2 = .ok (.iload_n 2, 1) := by decide +kernel
theorem dX6_faces_3 : decode cX6_faces 3 = .ok (.iload_n 3, 1) := by decide +kernel
theorem dX6_faces_4 : decode cX6_faces 4 = .ok (.invokevirtual 223, 3) := by decide +kernel
theorem dX6_faces_7 : decode cX6_faces 7 = .ok (.ifCond .ne 6, 3) := by decide +kernel
theorem dX6_faces_10 : decode cX6_faces 10 = .ok (.ldc 73, 2) := by decide +kernel
theorem dX6_faces_12 : decode cX6_faces 12 = .ok (.ireturn, 1) := by decide +kernel
theorem dX6_faces_13 : decode cX6_faces 13 = .ok (.iconst 0, 1) := by decide +kernel
theorem dX6_faces_14 : decode cX6_faces 14 = .ok (.istore 4, 2) := by decide +kernel
theorem dX6_faces_16 : decode cX6_faces 16 = .ok (.iconst (-1), 1) := by decide +kernel
theorem dX6_faces_17 : decode cX6_faces 17 = .ok (.istore 5, 2) := by decide +kernel
theorem dX6_faces_19 : decode cX6_faces 19 = .ok (.iconst 0, 1) := by decide +kernel
theorem dX6_faces_20 : decode cX6_faces 20 = .ok (.istore 6, 2) := by decide +kernel
theorem dX6_faces_22 : decode cX6_faces 22 = .ok (.iload 6, 2) := by decide +kernel
theorem dX6_faces_24 : decode cX6_faces 24 = .ok (.iconst 4, 1) := by decide +kernel
theorem dX6_faces_25 : decode cX6_faces 25 = .ok (.if_icmp .ge 67, 3) := by decide +kernel
theorem dX6_faces_28 : decode cX6_faces 28 = .ok (.aload_n 0, 1) := by decide +kernel
theorem dX6_faces_29 : decode cX6_faces 29 = .ok (.getfield 23, 3) := by decide +kernel
theorem dX6_faces_32 : decode cX6_faces 32 = .ok (.aload_n 0, 1) := by decide +kernel
theorem dX6_faces_33 : decode cX6_faces 33 = .ok (.getfield 10, 3) := by decide +kernel
theorem dX6_faces_36 : decode cX6_faces 36 = .ok (.invokevirtual 219, 3) := by decide +kernel
theorem dX6_faces_39 : decode cX6_faces 39 = .ok (.aload_n 0, 1) := by decide +kernel
theorem dX6_faces_40 : decode cX6_faces 40 = .ok (.getfield 23, 3) := by decide +kernel
theorem dX6_faces_43 : decode cX6_faces 43 = .ok (.getfield 90, 3) := by decide +kernel
theorem dX6_faces_46 : decode cX6_faces 46 = .ok (.iload_n 1, 1) := by decide +kernel
theorem dX6_faces_47 : decode cX6_faces 47 = .ok (.aaload, 1) := by decide +kernel
theorem dX6_faces_48 : decode cX6_faces 48 = .ok (.iload 6, 2) := by decide +kernel
theorem dX6_faces_50 : decode cX6_faces 50 = .ok (.putfield 100, 3) := by decide +kernel
theorem dX6_faces_53 : decode cX6_faces 53 = .ok (.aload_n 0, 1) := by decide +kernel
theorem dX6_faces_54 : decode cX6_faces 54 = .ok (.getfield 23, 3) := by decide +kernel
theorem dX6_faces_57 : decode cX6_faces 57 = .ok (.iload_n 2, 1) := by decide +kernel
theorem dX6_faces_58 : decode cX6_faces 58 = .ok (.invokevirtual 212, 3) := by decide +kernel
theorem dX6_faces_61 : decode cX6_faces 61 = .ok (.aload_n 0, 1) := by decide +kernel
theorem dX6_faces_62 : decode cX6_faces 62 = .ok (.getfield 23, 3) := by decide +kernel
theorem dX6_faces_65 : decode cX6_faces 65 = .ok (.getfield 209, 3) := by decide +kernel
theorem dX6_faces_68 : decode cX6_faces 68 = .ok (.iload 5, 2) := by decide +kernel
theorem dX6_faces_70 : decode cX6_faces 70 = .ok (.if_icmp .le 16, 3) := by decide +kernel
theorem dX6_faces_73 : decode cX6_faces 73 = .ok (.aload_n 0, 1) := by decide +kernel
theorem dX6_faces_74 : decode cX6_faces 74 = .ok (.getfield 23, 3) := by decide +kernel
theorem dX6_faces_77 : decode cX6_faces 77 = .ok (.getfield 209, 3) := by decide +kernel
theorem dX6_faces_80 : decode cX6_faces 80 = .ok (.istore 5, 2) := by decide +kernel
theorem dX6_faces_82 : decode cX6_faces 82 = .ok (.iload 6, 2) := by decide +kernel
theorem dX6_faces_84 : decode cX6_faces 84 = .ok (.istore 4, 2) := by decide +kernel
theorem dX6_faces_86 : decode cX6_faces 86 = .ok (.iinc 6 1, 3) := by decide +kernel
theorem dX6_faces_89 : decode cX6_faces 89 = .ok (.goto (-67), 3) := by decide +kernel
theorem dX6_faces_92 : decode cX6_faces 92 = .ok (.iload_n 3, 1) := by decide +kernel
theorem dX6_faces_93 : decode cX6_faces 93 = .ok (.ifCond .ne 8, 3) := by decide +kernel
theorem dX6_faces_96 : decode cX6_faces 96 = .ok (.iload 4, 2) := by decide +kernel
theorem dX6_faces_98 : decode cX6_faces 98 = .ok (.goto 5, 3) := by decide +kernel
theorem dX6_faces_101 : decode cX6_faces 101 = .ok (.iload 5, 2) := by decide +kernel
theorem dX6_faces_103 : decode cX6_faces 103 = .ok (.ireturn, 1) := by decide +kernel
theorem dX6_becomes_0 : decode cX6_becomes 0 = .ok (.aload_n 0, 1) := by decide +kernel
theorem dX6_becomes_1 : decode cX6_becomes 1 = .ok (.iload_n 1, 1) := by decide +kernel
theorem dX6_becomes_2 : decode cX6_becomes 2 = .ok (.iload_n 2, 1) := by decide +kernel
theorem dX6_becomes_3 : decode cX6_becomes 3 = .ok (.iload_n 3, 1) := by decide +kernel
theorem dX6_becomes_4 : decode cX6_becomes 4 = .ok (.invokevirtual 223, 3) := by decide +kernel
theorem dX6_becomes_7 : decode cX6_becomes 7 = .ok (.ifCond .ne 6, 3) := by decide +kernel
theorem dX6_becomes_10 : decode cX6_becomes 10 = .ok (.ldc 73, 2) := by decide +kernel
theorem dX6_becomes_12 : decode cX6_becomes 12 = .ok (.ireturn, 1) := by decide +kernel
theorem dX6_becomes_13 : decode cX6_becomes 13 = .ok (.iconst 0, 1) := by decide +kernel
theorem dX6_becomes_14 : decode cX6_becomes 14 = .ok (.istore 4, 2) := by decide +kernel
theorem dX6_becomes_16 : decode cX6_becomes 16 = .ok (.iconst (-1), 1) := by decide +kernel
theorem dX6_becomes_17 : decode cX6_becomes 17 = .ok (.istore 5, 2) := by decide +kernel
theorem dX6_becomes_19 : decode cX6_becomes 19 = .ok (.iconst 0, 1) := by decide +kernel
theorem dX6_becomes_20 : decode cX6_becomes 20 = .ok (.istore 6, 2) := by decide +kernel
theorem dX6_becomes_22 : decode cX6_becomes 22 = .ok (.iload 6, 2) := by decide +kernel
theorem dX6_becomes_24 : decode cX6_becomes 24 = .ok (.bipush 6, 2) := by decide +kernel
theorem dX6_becomes_26 : decode cX6_becomes 26 = .ok (.if_icmp .ge 67, 3) := by decide +kernel
theorem dX6_becomes_29 : decode cX6_becomes 29 = .ok (.aload_n 0, 1) := by decide +kernel
theorem dX6_becomes_30 : decode cX6_becomes 30 = .ok (.getfield 23, 3) := by decide +kernel
theorem dX6_becomes_33 : decode cX6_becomes 33 = .ok (.aload_n 0, 1) := by decide +kernel
theorem dX6_becomes_34 : decode cX6_becomes 34 = .ok (.getfield 10, 3) := by decide +kernel
theorem dX6_becomes_37 : decode cX6_becomes 37 = .ok (.invokevirtual 219, 3) := by decide +kernel
theorem dX6_becomes_40 : decode cX6_becomes 40 = .ok (.aload_n 0, 1) := by decide +kernel
theorem dX6_becomes_41 : decode cX6_becomes 41 = .ok (.getfield 23, 3) := by decide +kernel
theorem dX6_becomes_44 : decode cX6_becomes 44 = .ok (.getfield 90, 3) := by decide +kernel
theorem dX6_becomes_47 : decode cX6_becomes 47 = .ok (.iload_n 1, 1) := by decide +kernel
theorem dX6_becomes_48 : decode cX6_becomes 48 = .ok (.aaload, 1) := by decide +kernel
theorem dX6_becomes_49 : decode cX6_becomes 49 = .ok (.iload 6, 2) := by decide +kernel
theorem dX6_becomes_51 : decode cX6_becomes 51 = .ok (.putfield 94, 3) := by decide +kernel
theorem dX6_becomes_54 : decode cX6_becomes 54 = .ok (.aload_n 0, 1) := by decide +kernel
theorem dX6_becomes_55 : decode cX6_becomes 55 = .ok (.getfield 23, 3) := by decide +kernel
theorem dX6_becomes_58 : decode cX6_becomes 58 = .ok (.iload_n 2, 1) := by decide +kernel
theorem dX6_becomes_59 : decode cX6_becomes 59 = .ok (.invokevirtual 212, 3) := by decide +kernel
theorem dX6_becomes_62 : decode cX6_becomes 62 = .ok (.aload_n 0, 1) := by decide +kernel
theorem dX6_becomes_63 : decode cX6_becomes 63 = .ok (.getfield 23, 3) := by decide +kernel
theorem dX6_becomes_66 : decode cX6_becomes 66 = .ok (.getfield 209, 3) := by decide +kernel
theorem dX6_becomes_69 : decode cX6_becomes 69 = .ok (.iload 5, 2) := by decide +kernel
theorem dX6_becomes_71 : decode cX6_becomes 71 = .ok (.if_icmp .le 16, 3) := by decide +kernel
theorem dX6_becomes_74 : decode cX6_becomes 74 = .ok (.aload_n 0, 1) := by decide +kernel
theorem dX6_becomes_75 : decode cX6_becomes 75 = .ok (.getfield 23, 3) := by decide +kernel
theorem dX6_becomes_78 : decode cX6_becomes 78 = .ok (.getfield 209, 3) := by decide +kernel
theorem dX6_becomes_81 : decode cX6_becomes 81 = .ok (.istore 5, 2) := by decide +kernel
theorem dX6_becomes_83 : decode cX6_becomes 83 = .ok (.iload 6, 2) := by decide +kernel
theorem dX6_becomes_85 : decode cX6_becomes 85 = .ok (.istore 4, 2) := by decide +kernel
theorem dX6_becomes_87 : decode cX6_becomes 87 = .ok (.iinc 6 1, 3) := by decide +kernel
theorem dX6_becomes_90 : decode cX6_becomes 90 = .ok (.goto (-68), 3) := by decide +kernel
theorem dX6_becomes_93 : decode cX6_becomes 93 = .ok (.iload_n 3, 1) := by decide +kernel
theorem dX6_becomes_94 : decode cX6_becomes 94 = .ok (.ifCond .ne 8, 3) := by decide +kernel
theorem dX6_becomes_97 : decode cX6_becomes 97 = .ok (.iload 4, 2) := by decide +kernel
theorem dX6_becomes_99 : decode cX6_becomes 99 = .ok (.goto 5, 3) := by decide +kernel
theorem dX6_becomes_102 : decode cX6_becomes 102 = .ok (.iload 5, 2) := by decide +kernel
theorem dX6_becomes_104 : decode cX6_becomes 104 = .ok (.ireturn, 1) := by decide +kernel
theorem dX6_like_0 : decode cX6_like 0 = .ok (.iload_n 1, 1) := by decide +kernel
theorem dX6_like_1 : decode cX6_like 1 = .ok (.iconst 4, 1) := by decide +kernel
theorem dX6_like_2 : decode cX6_like 2 = .ok (.invokestatic 69, 3) := by decide +kernel
theorem dX6_like_5 : decode cX6_like 5 = .ok (.ifCond .eq 11, 3) := by decide +kernel
theorem dX6_like_8 : decode cX6_like 8 = .ok (.iload_n 2, 1) := by decide +kernel
theorem dX6_like_9 : decode cX6_like 9 = .ok (.iconst 2, 1) := by decide +kernel
theorem dX6_like_10 : decode cX6_like 10 = .ok (.invokestatic 69, 3) := by decide +kernel
theorem dX6_like_13 : decode cX6_like 13 = .ok (.ifCond .ne 6, 3) := by decide +kernel
theorem dX6_like_16 : decode cX6_like 16 = .ok (.ldc 73, 2) := by decide +kernel
theorem dX6_like_18 : decode cX6_like 18 = .ok (.ireturn, 1) := by decide +kernel
theorem dX6_like_19 : decode cX6_like 19 = .ok (.aload_n 0, 1) := by decide +kernel
theorem dX6_like_20 : decode cX6_like 20 = .ok (.getfield 50, 3) := by decide +kernel
theorem dX6_like_23 : decode cX6_like 23 = .ok (.iload_n 1, 1) := by decide +kernel
theorem dX6_like_24 : decode cX6_like 24 = .ok (.aaload, 1) := by decide +kernel
theorem dX6_like_25 : decode cX6_like 25 = .ok (.invokevirtual 227, 3) := by decide +kernel
theorem dX6_like_28 : decode cX6_like 28 = .ok (.ifCond .eq 6, 3) := by decide +kernel
theorem dX6_like_31 : decode cX6_like 31 = .ok (.ldc 230, 2) := by decide +kernel
theorem dX6_like_33 : decode cX6_like 33 = .ok (.ireturn, 1) := by decide +kernel
theorem dX6_like_34 : decode cX6_like 34 = .ok (.aload_n 0, 1) := by decide +kernel
theorem dX6_like_35 : decode cX6_like 35 = .ok (.getfield 10, 3) := by decide +kernel
theorem dX6_like_38 : decode cX6_like 38 = .ok (.getfield 79, 3) := by decide +kernel
theorem dX6_like_41 : decode cX6_like 41 = .ok (.ifCond .ne 6, 3) := by decide +kernel
theorem dX6_like_44 : decode cX6_like 44 = .ok (.ldc 142, 2) := by decide +kernel
theorem dX6_like_46 : decode cX6_like 46 = .ok (.ireturn, 1) := by decide +kernel
theorem dX6_like_47 : decode cX6_like 47 = .ok (.aload_n 0, 1) := by decide +kernel
theorem dX6_like_48 : decode cX6_like 48 = .ok (.aload_n 0, 1) := by decide +kernel
theorem dX6_like_49 : decode cX6_like 49 = .ok (.getfield 50, 3) := by decide +kernel
theorem dX6_like_52 : decode cX6_like 52 = .ok (.iload_n 1, 1) := by decide +kernel
theorem dX6_like_53 : decode cX6_like 53 = .ok (.aaload, 1) := by decide +kernel
theorem dX6_like_54 : decode cX6_like 54 = .ok (.invokevirtual 231, 3) := by decide +kernel
theorem dX6_like_57 : decode cX6_like 57 = .ok (.iconst 0, 1) := by decide +kernel
theorem dX6_like_58 : decode cX6_like 58 = .ok (.istore_n 3, 1) := by decide +kernel
theorem dX6_like_59 : decode cX6_like 59 = .ok (.iconst 1, 1) := by decide +kernel
theorem dX6_like_60 : decode cX6_like 60 = .ok (.istore 4, 2) := by decide +kernel
theorem dX6_like_62 : decode cX6_like 62 = .ok (.iload 4, 2) := by decide +kernel
theorem dX6_like_64 : decode cX6_like 64 = .ok (.aload_n 0, 1) := by decide +kernel
theorem dX6_like_65 : decode cX6_like 65 = .ok (.getfield 10, 3) := by decide +kernel
theorem dX6_like_68 : decode cX6_like 68 = .ok (.getfield 79, 3) := by decide +kernel
theorem dX6_like_71 : decode cX6_like 71 = .ok (.if_icmp .ge 28, 3) := by decide +kernel
theorem dX6_like_74 : decode cX6_like 74 = .ok (.aload_n 0, 1) := by decide +kernel
theorem dX6_like_75 : decode cX6_like 75 = .ok (.getfield 37, 3) := by decide +kernel
theorem dX6_like_78 : decode cX6_like 78 = .ok (.iload 4, 2) := by decide +kernel
theorem dX6_like_80 : decode cX6_like 80 = .ok (.iaload, 1) := by decide +kernel
theorem dX6_like_81 : decode cX6_like 81 = .ok (.aload_n 0, 1) := by decide +kernel
theorem dX6_like_82 : decode cX6_like 82 = .ok (.getfield 37, 3) := by decide +kernel
theorem dX6_like_85 : decode cX6_like 85 = .ok (.iload_n 3, 1) := by decide +kernel
theorem dX6_like_86 : decode cX6_like 86 = .ok (.iaload, 1) := by decide +kernel
theorem dX6_like_87 : decode cX6_like 87 = .ok (.if_icmp .ge 6, 3) := by decide +kernel
theorem dX6_like_90 : decode cX6_like 90 = .ok (.iload 4, 2) := by decide +kernel
theorem dX6_like_92 : decode cX6_like 92 = .ok (.istore_n 3, 1) := by decide +kernel
theorem dX6_like_93 : decode cX6_like 93 = .ok (.iinc 4 1, 3) := by decide +kernel
theorem dX6_like_96 : decode cX6_like 96 = .ok (.goto (-34), 3) := by decide +kernel
theorem dX6_like_99 : decode cX6_like 99 = .ok (.iload_n 2, 1) := by decide +kernel
theorem dX6_like_100 : decode cX6_like 100 = .ok (.ifCond .ne 7, 3) := by decide +kernel
theorem dX6_like_103 : decode cX6_like 103 = .ok (.iload_n 3, 1) := by decide +kernel
theorem dX6_like_104 : decode cX6_like 104 = .ok (.goto 9, 3) := by decide +kernel
theorem dX6_like_107 : decode cX6_like 107 = .ok (.aload_n 0, 1) := by decide +kernel
theorem dX6_like_108 : decode cX6_like 108 = .ok (.getfield 37, 3) := by decide +kernel
theorem dX6_like_111 : decode cX6_like 111 = .ok (.iload_n 3, 1) := by decide +kernel
theorem dX6_like_112 : decode cX6_like 112 = .ok (.iaload, 1) := by decide +kernel
theorem dX6_like_113 : decode cX6_like 113 = .ok (.ireturn, 1) := by decide +kernel
theorem dX6_fee_0 : decode cX6_fee 0 = .ok (.aload_n 0, 1) := by decide +kernel
theorem dX6_fee_1 : decode cX6_fee 1 = .ok (.getfield 10, 3) := by decide +kernel
theorem dX6_fee_4 : decode cX6_fee 4 = .ok (.iconst 1, 1) := by decide +kernel
theorem dX6_fee_5 : decode cX6_fee 5 = .ok (.invokevirtual 235, 3) := by decide +kernel
theorem dX6_fee_8 : decode cX6_fee 8 = .ok (.astore_n 1, 1) := by decide +kernel
theorem dX6_fee_9 : decode cX6_fee 9 = .ok (.aload_n 1, 1) := by decide +kernel
theorem dX6_fee_10 : decode cX6_fee 10 = .ok (.ifnonnull 13, 3) := by decide +kernel
theorem dX6_fee_13 : decode cX6_fee 13 = .ok (.aload_n 0, 1) := by decide +kernel
theorem dX6_fee_14 : decode cX6_fee 14 = .ok (.getfield 10, 3) := by decide +kernel
theorem dX6_fee_17 : decode cX6_fee 17 = .ok (.getfield 209, 3) := by decide +kernel
theorem dX6_fee_20 : decode cX6_fee 20 = .ok (.goto 22, 3) := by decide +kernel
theorem dX6_fee_23 : decode cX6_fee 23 = .ok (.aload_n 1, 1) := by decide +kernel
theorem dX6_fee_24 : decode cX6_fee 24 = .ok (.aload_n 0, 1) := by decide +kernel
theorem dX6_fee_25 : decode cX6_fee 25 = .ok (.getfield 10, 3) := by decide +kernel
theorem dX6_fee_28 : decode cX6_fee 28 = .ok (.getfield 209, 3) := by decide +kernel
theorem dX6_fee_31 : decode cX6_fee 31 = .ok (.aload_n 0, 1) := by decide +kernel
theorem dX6_fee_32 : decode cX6_fee 32 = .ok (.getfield 10, 3) := by decide +kernel
theorem dX6_fee_35 : decode cX6_fee 35 = .ok (.getfield 239, 3) := by decide +kernel
theorem dX6_fee_38 : decode cX6_fee 38 = .ok (.iconst 0, 1) := by decide +kernel
theorem dX6_fee_39 : decode cX6_fee 39 = .ok (.invokevirtual 242, 3) := by decide +kernel
theorem dX6_fee_42 : decode cX6_fee 42 = .ok (.ireturn, 1) := by decide +kernel
theorem dX6_fine_0 : decode cX6_fine 0 = .ok (.aload_n 0, 1) := by decide +kernel
theorem dX6_fine_1 : decode cX6_fine 1 = .ok (.iload_n 1, 1) := by decide +kernel
theorem dX6_fine_2 : decode cX6_fine 2 = .ok (.invokevirtual 87, 3) := by decide +kernel
theorem dX6_fine_5 : decode cX6_fine 5 = .ok (.ifCond .ne 6, 3) := by decide +kernel
theorem dX6_fine_8 : decode cX6_fine 8 = .ok (.ldc 73, 2) := by decide +kernel
theorem dX6_fine_10 : decode cX6_fine 10 = .ok (.ireturn, 1) := by decide +kernel
theorem dX6_fine_11 : decode cX6_fine 11 = .ok (.aload_n 0, 1) := by decide +kernel
theorem dX6_fine_12 : decode cX6_fine 12 = .ok (.getfield 10, 3) := by decide +kernel
theorem dX6_fine_15 : decode cX6_fine 15 = .ok (.getfield 90, 3) := by decide +kernel
theorem dX6_fine_18 : decode cX6_fine 18 = .ok (.iload_n 1, 1) := by decide +kernel
theorem dX6_fine_19 : decode cX6_fine 19 = .ok (.aaload, 1) := by decide +kernel
theorem dX6_fine_20 : decode cX6_fine 20 = .ok (.astore_n 2, 1) := by decide +kernel
theorem dX6_fine_21 : decode cX6_fine 21 = .ok (.aload_n 0, 1) := by decide +kernel
theorem dX6_fine_22 : decode cX6_fine 22 = .ok (.getfield 10, 3) := by decide +kernel
theorem dX6_fine_25 : decode cX6_fine 25 = .ok (.iconst 2, 1) := by decide +kernel
theorem dX6_fine_26 : decode cX6_fine 26 = .ok (.invokevirtual 235, 3) := by decide +kernel
theorem dX6_fine_29 : decode cX6_fine 29 = .ok (.astore_n 3, 1) := by decide +kernel
theorem dX6_fine_30 : decode cX6_fine 30 = .ok (.aload_n 3, 1) := by decide +kernel
theorem dX6_fine_31 : decode cX6_fine 31 = .ok (.ifnonnull 10, 3) := by decide +kernel
theorem dX6_fine_34 : decode cX6_fine 34 = .ok (.aload_n 2, 1) := by decide +kernel
theorem dX6_fine_35 : decode cX6_fine 35 = .ok (.getfield 100, 3) := by decide +kernel
theorem dX6_fine_38 : decode cX6_fine 38 = .ok (.goto 16, 3) := by decide +kernel
theorem dX6_fine_41 : decode cX6_fine 41 = .ok (.aload_n 3, 1) := by decide +kernel
theorem dX6_fine_42 : decode cX6_fine 42 = .ok (.aload_n 2, 1) := by decide +kernel
theorem dX6_fine_43 : decode cX6_fine 43 = .ok (.getfield 103, 3) := by decide +kernel
theorem dX6_fine_46 : decode cX6_fine 46 = .ok (.aload_n 2, 1) := by decide +kernel
theorem dX6_fine_47 : decode cX6_fine 47 = .ok (.getfield 97, 3) := by decide +kernel
theorem dX6_fine_50 : decode cX6_fine 50 = .ok (.iconst 0, 1) := by decide +kernel
theorem dX6_fine_51 : decode cX6_fine 51 = .ok (.invokevirtual 242, 3) := by decide +kernel
theorem dX6_fine_54 : decode cX6_fine 54 = .ok (.ireturn, 1) := by decide +kernel
theorem dX6_feed_0 : decode cX6_feed 0 = .ok (.aload_n 0, 1) := by decide +kernel
theorem dX6_feed_1 : decode cX6_feed 1 = .ok (.getfield 44, 3) := by decide +kernel
theorem dX6_feed_4 : decode cX6_feed 4 = .ok (.getfield 248, 3) := by decide +kernel
theorem dX6_feed_7 : decode cX6_feed 7 = .ok (.bipush 12, 2) := by decide +kernel
theorem dX6_feed_9 : decode cX6_feed 9 = .ok (.iadd, 1) := by decide +kernel
theorem dX6_feed_10 : decode cX6_feed 10 = .ok (.bipush 96, 2) := by decide +kernel
theorem dX6_feed_12 : decode cX6_feed 12 = .ok (.if_icmp .le 6, 3) := by decide +kernel
theorem dX6_feed_15 : decode cX6_feed 15 = .ok (.ldc 82, 2) := by decide +kernel
theorem dX6_feed_17 : decode cX6_feed 17 = .ok (.ireturn, 1) := by decide +kernel
theorem dX6_feed_18 : decode cX6_feed 18 = .ok (.aload_n 0, 1) := by decide +kernel
theorem dX6_feed_19 : decode cX6_feed 19 = .ok (.getfield 44, 3) := by decide +kernel
theorem dX6_feed_22 : decode cX6_feed 22 = .ok (.iload_n 1, 1) := by decide +kernel
theorem dX6_feed_23 : decode cX6_feed 23 = .ok (.invokevirtual 251, 3) := by decide +kernel
theorem dX6_feed_26 : decode cX6_feed 26 = .ok (.aload_n 0, 1) := by decide +kernel
theorem dX6_feed_27 : decode cX6_feed 27 = .ok (.getfield 44, 3) := by decide +kernel
theorem dX6_feed_30 : decode cX6_feed 30 = .ok (.iload_n 2, 1) := by decide +kernel
theorem dX6_feed_31 : decode cX6_feed 31 = .ok (.invokevirtual 251, 3) := by decide +kernel
theorem dX6_feed_34 : decode cX6_feed 34 = .ok (.aload_n 0, 1) := by decide +kernel
theorem dX6_feed_35 : decode cX6_feed 35 = .ok (.getfield 44, 3) := by decide +kernel
theorem dX6_feed_38 : decode cX6_feed 38 = .ok (.iload_n 3, 1) := by decide +kernel
theorem dX6_feed_39 : decode cX6_feed 39 = .ok (.invokevirtual 251, 3) := by decide +kernel
theorem dX6_feed_42 : decode cX6_feed 42 = .ok (.aload_n 0, 1) := by decide +kernel
theorem dX6_feed_43 : decode cX6_feed 43 = .ok (.getfield 44, 3) := by decide +kernel
theorem dX6_feed_46 : decode cX6_feed 46 = .ok (.getfield 248, 3) := by decide +kernel
theorem dX6_feed_49 : decode cX6_feed 49 = .ok (.ireturn, 1) := by decide +kernel
theorem dX6_trim_0 : decode cX6_trim 0 = .ok (.iload_n 1, 1) := by decide +kernel
theorem dX6_trim_1 : decode cX6_trim 1 = .ok (.aload_n 0, 1) := by decide +kernel
theorem dX6_trim_2 : decode cX6_trim 2 = .ok (.getfield 44, 3) := by decide +kernel
theorem dX6_trim_5 : decode cX6_trim 5 = .ok (.getfield 248, 3) := by decide +kernel
theorem dX6_trim_8 : decode cX6_trim 8 = .ok (.iconst 1, 1) := by decide +kernel
theorem dX6_trim_9 : decode cX6_trim 9 = .ok (.iadd, 1) := by decide +kernel
theorem dX6_trim_10 : decode cX6_trim 10 = .ok (.invokestatic 69, 3) := by decide +kernel
theorem dX6_trim_13 : decode cX6_trim 13 = .ok (.ifCond .ne 6, 3) := by decide +kernel
theorem dX6_trim_16 : decode cX6_trim 16 = .ok (.ldc 73, 2) := by decide +kernel
theorem dX6_trim_18 : decode cX6_trim 18 = .ok (.ireturn, 1) := by decide +kernel
theorem dX6_trim_19 : decode cX6_trim 19 = .ok (.aload_n 0, 1) := by decide +kernel
theorem dX6_trim_20 : decode cX6_trim 20 = .ok (.getfield 44, 3) := by decide +kernel
theorem dX6_trim_23 : decode cX6_trim 23 = .ok (.iload_n 1, 1) := by decide +kernel
theorem dX6_trim_24 : decode cX6_trim 24 = .ok (.putfield 248, 3) := by decide +kernel
theorem dX6_trim_27 : decode cX6_trim 27 = .ok (.iload_n 1, 1) := by decide +kernel
theorem dX6_trim_28 : decode cX6_trim 28 = .ok (.ireturn, 1) := by decide +kernel
theorem dX6_text_0 : decode cX6_text 0 = .ok (.aload_n 0, 1) := by decide +kernel
theorem dX6_text_1 : decode cX6_text 1 = .ok (.getfield 44, 3) := by decide +kernel
theorem dX6_text_4 : decode cX6_text 4 = .ok (.invokevirtual 254, 3) := by decide +kernel
theorem dX6_text_7 : decode cX6_text 7 = .ok (.istore_n 1, 1) := by decide +kernel
theorem dX6_text_8 : decode cX6_text 8 = .ok (.aload_n 0, 1) := by decide +kernel
theorem dX6_text_9 : decode cX6_text 9 = .ok (.getfield 44, 3) := by decide +kernel
theorem dX6_text_12 : decode cX6_text 12 = .ok (.iconst 0, 1) := by decide +kernel
theorem dX6_text_13 : decode cX6_text 13 = .ok (.putfield 248, 3) := by decide +kernel
theorem dX6_text_16 : decode cX6_text 16 = .ok (.iload_n 1, 1) := by decide +kernel
theorem dX6_text_17 : decode cX6_text 17 = .ok (.ifCond .lt 8, 3) := by decide +kernel
theorem dX6_text_20 : decode cX6_text 20 = .ok (.bipush (-100), 2) := by decide +kernel
theorem dX6_text_22 : decode cX6_text 22 = .ok (.iload_n 1, 1) := by decide +kernel
theorem dX6_text_23 : decode cX6_text 23 = .ok (.isub, 1) := by decide +kernel
theorem dX6_text_24 : decode cX6_text 24 = .ok (.ireturn, 1) := by decide +kernel
theorem dX6_text_25 : decode cX6_text 25 = .ok (.aload_n 0, 1) := by decide +kernel
theorem dX6_text_26 : decode cX6_text 26 = .ok (.getfield 10, 3) := by decide +kernel
theorem dX6_text_29 : decode cX6_text 29 = .ok (.getfield 257, 3) := by decide +kernel
theorem dX6_text_32 : decode cX6_text 32 = .ok (.bipush 14, 2) := by decide +kernel
theorem dX6_text_34 : decode cX6_text 34 = .ok (.if_icmp .lt 6, 3) := by decide +kernel
theorem dX6_text_37 : decode cX6_text 37 = .ok (.ldc 82, 2) := by decide +kernel
theorem dX6_text_39 : decode cX6_text 39 = .ok (.ireturn, 1) := by decide +kernel
theorem dX6_text_40 : decode cX6_text 40 = .ok (.aload_n 0, 1) := by decide +kernel
theorem dX6_text_41 : decode cX6_text 41 = .ok (.getfield 10, 3) := by decide +kernel
theorem dX6_text_44 : decode cX6_text 44 = .ok (.aload_n 0, 1) := by decide +kernel
theorem dX6_text_45 : decode cX6_text 45 = .ok (.getfield 44, 3) := by decide +kernel
theorem dX6_text_48 : decode cX6_text 48 = .ok (.invokevirtual 260, 3) := by decide +kernel
theorem dX6_text_51 : decode cX6_text 51 = .ok (.invokevirtual 264, 3) := by decide +kernel
theorem dX6_text_54 : decode cX6_text 54 = .ok (.aload_n 0, 1) := by decide +kernel
theorem dX6_text_55 : decode cX6_text 55 = .ok (.getfield 10, 3) := by decide +kernel
theorem dX6_text_58 : decode cX6_text 58 = .ok (.getfield 257, 3) := by decide +kernel
theorem dX6_text_61 : decode cX6_text 61 = .ok (.iconst 1, 1) := by decide +kernel
theorem dX6_text_62 : decode cX6_text 62 = .ok (.isub, 1) := by decide +kernel
theorem dX6_text_63 : decode cX6_text 63 = .ok (.ireturn, 1) := by decide +kernel
theorem dX6_textTold_0 : decode cX6_textTold 0 = .ok (.iload_n 1, 1) := by decide +kernel
theorem dX6_textTold_1 : decode cX6_textTold 1 = .ok (.aload_n 0, 1) := by decide +kernel
theorem dX6_textTold_2 : decode cX6_textTold 2 = .ok (.getfield 10, 3) := by decide +kernel
theorem dX6_textTold_5 : decode cX6_textTold 5 = .ok (.getfield 257, 3) := by decide +kernel
theorem dX6_textTold_8 : decode cX6_textTold 8 = .ok (.invokestatic 69, 3) := by decide +kernel
theorem dX6_textTold_11 : decode cX6_textTold 11 = .ok (.ifCond .eq 11, 3) := by decide +kernel
theorem dX6_textTold_14 : decode cX6_textTold 14 = .ok (.iload_n 2, 1) := by decide +kernel
theorem dX6_textTold_15 : decode cX6_textTold 15 = .ok (.iconst 2, 1) := by decide +kernel
theorem dX6_textTold_16 : decode cX6_textTold 16 = .ok (.invokestatic 69, 3) := by decide +kernel
theorem dX6_textTold_19 : decode cX6_textTold 19 = .ok (.ifCond .ne 6, 3) := by decide +kernel
theorem dX6_textTold_22 : decode cX6_textTold 22 = .ok (.ldc 73, 2) := by decide +kernel
theorem dX6_textTold_24 : decode cX6_textTold 24 = .ok (.ireturn, 1) := by decide +kernel
theorem dX6_textTold_25 : decode cX6_textTold 25 = .ok (.aload_n 0, 1) := by decide +kernel
theorem dX6_textTold_26 : decode cX6_textTold 26 = .ok (.getfield 10, 3) := by decide +kernel
theorem dX6_textTold_29 : decode cX6_textTold 29 = .ok (.getfield 268, 3) := by decide +kernel
theorem dX6_textTold_32 : decode cX6_textTold 32 = .ok (.iload_n 1, 1) := by decide +kernel
theorem dX6_textTold_33 : decode cX6_textTold 33 = .ok (.aaload, 1) := by decide +kernel
theorem dX6_textTold_34 : decode cX6_textTold 34 = .ok (.astore_n 3, 1) := by decide +kernel
theorem dX6_textTold_35 : decode cX6_textTold 35 = .ok (.aload_n 3, 1) := by decide +kernel
theorem dX6_textTold_36 : decode cX6_textTold 36 = .ok (.ifnonnull 6, 3) := by decide +kernel
theorem dX6_textTold_39 : decode cX6_textTold 39 = .ok (.ldc 73, 2) := by decide +kernel
theorem dX6_textTold_41 : decode cX6_textTold 41 = .ok (.ireturn, 1) := by decide +kernel
theorem dX6_textTold_42 : decode cX6_textTold 42 = .ok (.iload_n 2, 1) := by decide +kernel
theorem dX6_textTold_43 : decode cX6_textTold 43 = .ok (.ifCond .ne 10, 3) := by decide +kernel
theorem dX6_textTold_46 : decode cX6_textTold 46 = .ok (.aload_n 3, 1) := by decide +kernel
theorem dX6_textTold_47 : decode cX6_textTold 47 = .ok (.getfield 272, 3) := by decide +kernel
theorem dX6_textTold_50 : decode cX6_textTold 50 = .ok (.goto 7, 3) := by decide +kernel
theorem dX6_textTold_53 : decode cX6_textTold 53 = .ok (.aload_n 3, 1) := by decide +kernel
theorem dX6_textTold_54 : decode cX6_textTold 54 = .ok (.getfield 275, 3) := by decide +kernel
theorem dX6_textTold_57 : decode cX6_textTold 57 = .ok (.ireturn, 1) := by decide +kernel
theorem dX6_why_0 : decode cX6_why 0 = .ok (.iload_n 1, 1) := by decide +kernel
theorem dX6_why_1 : decode cX6_why 1 = .ok (.iconst 3, 1) := by decide +kernel
theorem dX6_why_2 : decode cX6_why 2 = .ok (.invokestatic 69, 3) := by decide +kernel
theorem dX6_why_5 : decode cX6_why 5 = .ok (.ifCond .ne 6, 3) := by decide +kernel
theorem dX6_why_8 : decode cX6_why 8 = .ok (.ldc 73, 2) := by decide +kernel
theorem dX6_why_10 : decode cX6_why 10 = .ok (.ireturn, 1) := by decide +kernel
theorem dX6_why_11 : decode cX6_why 11 = .ok (.aload_n 0, 1) := by decide +kernel
theorem dX6_why_12 : decode cX6_why 12 = .ok (.getfield 10, 3) := by decide +kernel
theorem dX6_why_15 : decode cX6_why 15 = .ok (.getfield 278, 3) := by decide +kernel
theorem dX6_why_18 : decode cX6_why 18 = .ok (.iload_n 1, 1) := by decide +kernel
theorem dX6_why_19 : decode cX6_why 19 = .ok (.iaload, 1) := by decide +kernel
theorem dX6_why_20 : decode cX6_why 20 = .ok (.istore_n 2, 1) := by decide +kernel
theorem dX6_why_21 : decode cX6_why 21 = .ok (.iload_n 2, 1) := by decide +kernel
theorem dX6_why_22 : decode cX6_why 22 = .ok (.ifCond .ge 8, 3) := by decide +kernel
theorem dX6_why_25 : decode cX6_why 25 = .ok (.ldc 142, 2) := by decide +kernel
theorem dX6_why_27 : decode cX6_why 27 = .ok (.goto 4, 3) := by decide +kernel
theorem dX6_why_30 : decode cX6_why 30 = .ok (.iload_n 2, 1) := by decide +kernel
theorem dX6_why_31 : decode cX6_why 31 = .ok (.ireturn, 1) := by decide +kernel
theorem dX6_sheet_0 : decode cX6_sheet 0 = .ok (.iload_n 1, 1) := by decide +kernel
theorem dX6_sheet_1 : decode cX6_sheet 1 = .ok (.iconst 4, 1) := by decide +kernel
theorem dX6_sheet_2 : decode cX6_sheet 2 = .ok (.invokestatic 69, 3) := by decide +kernel
theorem dX6_sheet_5 : decode cX6_sheet 5 = .ok (.ifCond .eq 13, 3) := by decide +kernel
theorem dX6_sheet_8 : decode cX6_sheet 8 = .ok (.iload_n 2, 1) := by decide +kernel
theorem dX6_sheet_9 : decode cX6_sheet 9 = .ok (.iconst (-1), 1) := by decide +kernel
theorem dX6_sheet_10 : decode cX6_sheet 10 = .ok (.if_icmp .lt 8, 3) := by decide +kernel
theorem dX6_sheet_13 : decode cX6_sheet 13 = .ok (.iload_n 2, 1) := by decide +kernel
theorem dX6_sheet_14 : decode cX6_sheet 14 = .ok (.iconst 1, 1) := by decide +kernel
theorem dX6_sheet_15 : decode cX6_sheet 15 = .ok (.if_icmp .le 6, 3) := by decide +kernel
theorem dX6_sheet_18 : decode cX6_sheet 18 = .ok (.ldc 73, 2) := by decide +kernel
theorem dX6_sheet_20 : decode cX6_sheet 20 = .ok (.ireturn, 1) := by decide +kernel
theorem dX6_sheet_21 : decode cX6_sheet 21 = .ok (.iload_n 2, 1) := by decide +kernel
theorem dX6_sheet_22 : decode cX6_sheet 22 = .ok (.iconst (-1), 1) := by decide +kernel
theorem dX6_sheet_23 : decode cX6_sheet 23 = .ok (.if_icmp .ne 16, 3) := by decide +kernel
theorem dX6_sheet_26 : decode cX6_sheet 26 = .ok (.aload_n 0, 1) := by decide +kernel
theorem dX6_sheet_27 : decode cX6_sheet 27 = .ok (.getfield 50, 3) := by decide +kernel
theorem dX6_sheet_30 : decode cX6_sheet 30 = .ok (.iload_n 1, 1) := by decide +kernel
theorem dX6_sheet_31 : decode cX6_sheet 31 = .ok (.aaload, 1) := by decide +kernel
theorem dX6_sheet_32 : decode cX6_sheet 32 = .ok (.iconst (-1), 1) := by decide +kernel
theorem dX6_sheet_33 : decode cX6_sheet 33 = .ok (.iconst 0, 1) := by decide +kernel
theorem dX6_sheet_34 : decode cX6_sheet 34 = .ok (.invokevirtual 281, 3) := by decide +kernel
theorem dX6_sheet_37 : decode cX6_sheet 37 = .ok (.iconst 0, 1) := by decide +kernel
theorem dX6_sheet_38 : decode cX6_sheet 38 = .ok (.ireturn, 1) := by decide +kernel
theorem dX6_sheet_39 : decode cX6_sheet 39 = .ok (.iload_n 3, 1) := by decide +kernel
theorem dX6_sheet_40 : decode cX6_sheet 40 = .ok (.bipush 24, 2) := by decide +kernel
theorem dX6_sheet_42 : decode cX6_sheet 42 = .ok (.if_icmp .le 6, 3) := by decide +kernel
theorem dX6_sheet_45 : decode cX6_sheet 45 = .ok (.ldc 73, 2) := by decide +kernel
theorem dX6_sheet_47 : decode cX6_sheet 47 = .ok (.ireturn, 1) := by decide +kernel
theorem dX6_sheet_48 : decode cX6_sheet 48 = .ok (.iload_n 3, 1) := by decide +kernel
theorem dX6_sheet_49 : decode cX6_sheet 49 = .ok (.ifCond .ge 7, 3) := by decide +kernel
theorem dX6_sheet_52 : decode cX6_sheet 52 = .ok (.ldc_w 284, 3) := by decide +kernel
theorem dX6_sheet_55 : decode cX6_sheet 55 = .ok (.ireturn, 1) := by decide +kernel
theorem dX6_sheet_56 : decode cX6_sheet 56 = .ok (.aload_n 0, 1) := by decide +kernel
theorem dX6_sheet_57 : decode cX6_sheet 57 = .ok (.getfield 50, 3) := by decide +kernel
theorem dX6_sheet_60 : decode cX6_sheet 60 = .ok (.iload_n 1, 1) := by decide +kernel
theorem dX6_sheet_61 : decode cX6_sheet 61 = .ok (.aaload, 1) := by decide +kernel
theorem dX6_sheet_62 : decode cX6_sheet 62 = .ok (.iload_n 2, 1) := by decide +kernel
theorem dX6_sheet_63 : decode cX6_sheet 63 = .ok (.iload_n 3, 1) := by decide +kernel
theorem dX6_sheet_64 : decode cX6_sheet 64 = .ok (.invokevirtual 281, 3) := by decide +kernel
theorem dX6_sheet_67 : decode cX6_sheet 67 = .ok (.iload_n 3, 1) := by decide +kernel
theorem dX6_sheet_68 : decode cX6_sheet 68 = .ok (.ireturn, 1) := by decide +kernel
theorem dX6_mark_0 : decode cX6_mark 0 = .ok (.iload_n 1, 1) := by decide +kernel
theorem dX6_mark_1 : decode cX6_mark 1 = .ok (.iconst 4, 1) := by decide +kernel
theorem dX6_mark_2 : decode cX6_mark 2 = .ok (.invokestatic 69, 3) := by decide +kernel
theorem dX6_mark_5 : decode cX6_mark 5 = .ok (.ifCond .ne 6, 3) := by decide +kernel
theorem dX6_mark_8 : decode cX6_mark 8 = .ok (.ldc 73, 2) := by decide +kernel
theorem dX6_mark_10 : decode cX6_mark 10 = .ok (.ireturn, 1) := by decide +kernel
theorem dX6_mark_11 : decode cX6_mark 11 = .ok (.aload_n 0, 1) := by decide +kernel
theorem dX6_mark_12 : decode cX6_mark 12 = .ok (.getfield 50, 3) := by decide +kernel
theorem dX6_mark_15 : decode cX6_mark 15 = .ok (.iload_n 1, 1) := by decide +kernel
theorem dX6_mark_16 : decode cX6_mark 16 = .ok (.aaload, 1) := by decide +kernel
theorem dX6_mark_17 : decode cX6_mark 17 = .ok (.astore 4, 2) := by decide +kernel
theorem dX6_mark_19 : decode cX6_mark 19 = .ok (.aload 4, 2) := by decide +kernel
theorem dX6_mark_21 : decode cX6_mark 21 = .ok (.invokevirtual 227, 3) := by decide +kernel
theorem dX6_mark_24 : decode cX6_mark 24 = .ok (.ifCond .eq 6, 3) := by decide +kernel
theorem dX6_mark_27 : decode cX6_mark 27 = .ok (.ldc 230, 2) := by decide +kernel
theorem dX6_mark_29 : decode cX6_mark 29 = .ok (.ireturn, 1) := by decide +kernel
theorem dX6_mark_30 : decode cX6_mark 30 = .ok (.iload_n 2, 1) := by decide +kernel
theorem dX6_mark_31 : decode cX6_mark 31 = .ok (.aload 4, 2) := by decide +kernel
theorem dX6_mark_33 : decode cX6_mark 33 = .ok (.getfield 285, 3) := by decide +kernel
theorem dX6_mark_36 : decode cX6_mark 36 = .ok (.invokestatic 69, 3) := by decide +kernel
theorem dX6_mark_39 : decode cX6_mark 39 = .ok (.ifCond .ne 7, 3) := by decide +kernel
theorem dX6_mark_42 : decode cX6_mark 42 = .ok (.ldc_w 288, 3) := by decide +kernel
theorem dX6_mark_45 : decode cX6_mark 45 = .ok (.ireturn, 1) := by decide +kernel
theorem dX6_mark_46 : decode cX6_mark 46 = .ok (.aload 4, 2) := by decide +kernel
theorem dX6_mark_48 : decode cX6_mark 48 = .ok (.getfield 289, 3) := by decide +kernel
theorem dX6_mark_51 : decode cX6_mark 51 = .ok (.iconst 1, 1) := by decide +kernel
theorem dX6_mark_52 : decode cX6_mark 52 = .ok (.if_icmp .eq 23, 3) := by decide +kernel
theorem dX6_mark_55 : decode cX6_mark 55 = .ok (.iload_n 3, 1) := by decide +kernel
theorem dX6_mark_56 : decode cX6_mark 56 = .ok (.ldc 142, 2) := by decide +kernel
theorem dX6_mark_58 : decode cX6_mark 58 = .ok (.if_icmp .ne 6, 3) := by decide +kernel
theorem dX6_mark_61 : decode cX6_mark 61 = .ok (.ldc 137, 2) := by decide +kernel
theorem dX6_mark_63 : decode cX6_mark 63 = .ok (.ireturn, 1) := by decide +kernel
theorem dX6_mark_64 : decode cX6_mark 64 = .ok (.aload 4, 2) := by decide +kernel
theorem dX6_mark_66 : decode cX6_mark 66 = .ok (.getfield 292, 3) := by decide +kernel
theorem dX6_mark_69 : decode cX6_mark 69 = .ok (.iload_n 2, 1) := by decide +kernel
theorem dX6_mark_70 : decode cX6_mark 70 = .ok (.iload_n 3, 1) := by decide +kernel
theorem dX6_mark_71 : decode cX6_mark 71 = .ok (.i2s, 1) := by decide +kernel
theorem dX6_mark_72 : decode cX6_mark 72 = .ok (.iastore, 1) := by decide +kernel
theorem dX6_mark_73 : decode cX6_mark 73 = .ok (.iconst 1, 1) := by decide +kernel
theorem dX6_mark_74 : decode cX6_mark 74 = .ok (.ireturn, 1) := by decide +kernel
theorem dX6_mark_75 : decode cX6_mark 75 = .ok (.iload_n 3, 1) := by decide +kernel
theorem dX6_mark_76 : decode cX6_mark 76 = .ok (.ldc 142, 2) := by decide +kernel
theorem dX6_mark_78 : decode cX6_mark 78 = .ok (.if_icmp .eq 20, 3) := by decide +kernel
theorem dX6_mark_81 : decode cX6_mark 81 = .ok (.iload_n 3, 1) := by decide +kernel
theorem dX6_mark_82 : decode cX6_mark 82 = .ok (.ldc_w 295, 3) := by decide +kernel
theorem dX6_mark_85 : decode cX6_mark 85 = .ok (.if_icmp .lt 10, 3) := by decide +kernel
theorem dX6_mark_88 : decode cX6_mark 88 = .ok (.iload_n 3, 1) := by decide +kernel
theorem dX6_mark_89 : decode cX6_mark 89 = .ok (.ldc_w 296, 3) := by decide +kernel
theorem dX6_mark_92 : decode cX6_mark 92 = .ok (.if_icmp .le 6, 3) := by decide +kernel
theorem dX6_mark_95 : decode cX6_mark 95 = .ok (.ldc 73, 2) := by decide +kernel
theorem dX6_mark_97 : decode cX6_mark 97 = .ok (.ireturn, 1) := by decide +kernel
theorem dX6_mark_98 : decode cX6_mark 98 = .ok (.aload 4, 2) := by decide +kernel
theorem dX6_mark_100 : decode cX6_mark 100 = .ok (.getfield 292, 3) := by decide +kernel
theorem dX6_mark_103 : decode cX6_mark 103 = .ok (.iload_n 2, 1) := by decide +kernel
theorem dX6_mark_104 : decode cX6_mark 104 = .ok (.iload_n 3, 1) := by decide +kernel
theorem dX6_mark_105 : decode cX6_mark 105 = .ok (.iastore, 1) := by decide +kernel
theorem dX6_mark_106 : decode cX6_mark 106 = .ok (.iconst 1, 1) := by decide +kernel
theorem dX6_mark_107 : decode cX6_mark 107 = .ok (.ireturn, 1) := by decide +kernel
theorem dX6_pour_0 : decode cX6_pour 0 = .ok (.iload_n 1, 1) := by decide +kernel
theorem dX6_pour_1 : decode cX6_pour 1 = .ok (.iconst 4, 1) := by decide +kernel
theorem dX6_pour_2 : decode cX6_pour 2 = .ok (.invokestatic 69, 3) := by decide +kernel
theorem dX6_pour_5 : decode cX6_pour 5 = .ok (.ifCond .ne 6, 3) := by decide +kernel
theorem dX6_pour_8 : decode cX6_pour 8 = .ok (.ldc 73, 2) := by decide +kernel
theorem dX6_pour_10 : decode cX6_pour 10 = .ok (.ireturn, 1) := by decide +kernel
theorem dX6_pour_11 : decode cX6_pour 11 = .ok (.aload_n 0, 1) := by decide +kernel
theorem dX6_pour_12 : decode cX6_pour 12 = .ok (.getfield 50, 3) := by decide +kernel
theorem dX6_pour_15 : decode cX6_pour 15 = .ok (.iload_n 1, 1) := by decide +kernel
theorem dX6_pour_16 : decode cX6_pour 16 = .ok (.aaload, 1) := by decide +kernel
theorem dX6_pour_17 : decode cX6_pour 17 = .ok (.astore_n 2, 1) := by decide +kernel
theorem dX6_pour_18 : decode cX6_pour 18 = .ok (.aload_n 2, 1) := by decide +kernel
theorem dX6_pour_19 : decode cX6_pour 19 = .ok (.invokevirtual 227, 3) := by decide +kernel
theorem dX6_pour_22 : decode cX6_pour 22 = .ok (.ifCond .eq 6, 3) := by decide +kernel
theorem dX6_pour_25 : decode cX6_pour 25 = .ok (.ldc 230, 2) := by decide +kernel
theorem dX6_pour_27 : decode cX6_pour 27 = .ok (.ireturn, 1) := by decide +kernel
theorem dX6_pour_28 : decode cX6_pour 28 = .ok (.iconst 0, 1) := by decide +kernel
theorem dX6_pour_29 : decode cX6_pour 29 = .ok (.istore_n 3, 1) := by decide +kernel
theorem dX6_pour_30 : decode cX6_pour 30 = .ok (.iconst 0, 1) := by decide +kernel
theorem dX6_pour_31 : decode cX6_pour 31 = .ok (.istore 4, 2) := by decide +kernel
theorem dX6_pour_33 : decode cX6_pour 33 = .ok (.iload 4, 2) := by decide +kernel
theorem dX6_pour_35 : decode cX6_pour 35 = .ok (.aload_n 0, 1) := by decide +kernel
theorem dX6_pour_36 : decode cX6_pour 36 = .ok (.getfield 10, 3) := by decide +kernel
theorem dX6_pour_39 : decode cX6_pour 39 = .ok (.getfield 79, 3) := by decide +kernel
theorem dX6_pour_42 : decode cX6_pour 42 = .ok (.if_icmp .ge 77, 3) := by decide +kernel
theorem dX6_pour_45 : decode cX6_pour 45 = .ok (.iload 4, 2) := by decide +kernel
theorem dX6_pour_47 : decode cX6_pour 47 = .ok (.aload_n 2, 1) := by decide +kernel
theorem dX6_pour_48 : decode cX6_pour 48 = .ok (.getfield 285, 3) := by decide +kernel
theorem dX6_pour_51 : decode cX6_pour 51 = .ok (.if_icmp .ge 68, 3) := by decide +kernel
theorem dX6_pour_54 : decode cX6_pour 54 = .ok (.aload_n 2, 1) := by decide +kernel
theorem dX6_pour_55 : decode cX6_pour 55 = .ok (.getfield 292, 3) := by decide +kernel
theorem dX6_pour_58 : decode cX6_pour 58 = .ok (.iload 4, 2) := by decide +kernel
theorem dX6_pour_60 : decode cX6_pour 60 = .ok (.iaload, 1) := by decide +kernel
theorem dX6_pour_61 : decode cX6_pour 61 = .ok (.bipush 99, 2) := by decide +kernel
theorem dX6_pour_63 : decode cX6_pour 63 = .ok (.invokestatic 297, 3) := by decide +kernel
theorem dX6_pour_66 : decode cX6_pour 66 = .ok (.istore 5, 2) := by decide +kernel
theorem dX6_pour_68 : decode cX6_pour 68 = .ok (.aload_n 2, 1) := by decide +kernel
theorem dX6_pour_69 : decode cX6_pour 69 = .ok (.iload 4, 2) := by decide +kernel
theorem dX6_pour_71 : decode cX6_pour 71 = .ok (.invokevirtual 300, 3) := by decide +kernel
theorem dX6_pour_74 : decode cX6_pour 74 = .ok (.ifCond .eq 39, 3) := by decide +kernel
theorem dX6_pour_77 : decode cX6_pour 77 = .ok (.aload_n 0, 1) := by decide +kernel
theorem dX6_pour_78 : decode cX6_pour 78 = .ok (.getfield 10, 3) := by decide +kernel
theorem dX6_pour_81 : decode cX6_pour 81 = .ok (.getfield 90, 3) := by decide +kernel
theorem dX6_pour_84 : decode cX6_pour 84 = .ok (.iload 4, 2) := by decide +kernel
theorem dX6_pour_86 : decode cX6_pour 86 = .ok (.aaload, 1) := by decide +kernel
theorem dX6_pour_87 : decode cX6_pour 87 = .ok (.getfield 103, 3) := by decide +kernel
theorem dX6_pour_90 : decode cX6_pour 90 = .ok (.iload 5, 2) := by decide +kernel
theorem dX6_pour_92 : decode cX6_pour 92 = .ok (.if_icmp .eq 21, 3) := by decide +kernel
theorem dX6_pour_95 : decode cX6_pour 95 = .ok (.aload_n 0, 1) := by decide +kernel
theorem dX6_pour_96 : decode cX6_pour 96 = .ok (.getfield 10, 3) := by decide +kernel
theorem dX6_pour_99 : decode cX6_pour 99 = .ok (.getfield 90, 3) := by decide +kernel
theorem dX6_pour_102 : decode cX6_pour 102 = .ok (.iload 4, 2) := by decide +kernel
theorem dX6_pour_104 : decode cX6_pour 104 = .ok (.aaload, 1) := by decide +kernel
theorem dX6_pour_105 : decode cX6_pour 105 = .ok (.iload 5, 2) := by decide +kernel
theorem dX6_pour_107 : decode cX6_pour 107 = .ok (.putfield 103, 3) := by decide +kernel
theorem dX6_pour_110 : decode cX6_pour 110 = .ok (.iinc 3 1, 3) := by decide +kernel
theorem dX6_pour_113 : decode cX6_pour 113 = .ok (.iinc 4 1, 3) := by decide +kernel
theorem dX6_pour_116 : decode cX6_pour 116 = .ok (.goto (-83), 3) := by decide +kernel
theorem dX6_pour_119 : decode cX6_pour 119 = .ok (.iload_n 3, 1) := by decide +kernel
theorem dX6_pour_120 : decode cX6_pour 120 = .ok (.ireturn, 1) := by decide +kernel
theorem dX6_reads_0 : decode cX6_reads 0 = .ok (.iload_n 1, 1) := by decide +kernel
theorem dX6_reads_1 : decode cX6_reads 1 = .ok (.iconst 4, 1) := by decide +kernel
theorem dX6_reads_2 : decode cX6_reads 2 = .ok (.invokestatic 69, 3) := by decide +kernel
theorem dX6_reads_5 : decode cX6_reads 5 = .ok (.ifCond .ne 6, 3) := by decide +kernel
theorem dX6_reads_8 : decode cX6_reads 8 = .ok (.ldc 73, 2) := by decide +kernel
theorem dX6_reads_10 : decode cX6_reads 10 = .ok (.ireturn, 1) := by decide +kernel
theorem dX6_reads_11 : decode cX6_reads 11 = .ok (.aload_n 0, 1) := by decide +kernel
theorem dX6_reads_12 : decode cX6_reads 12 = .ok (.getfield 50, 3) := by decide +kernel
theorem dX6_reads_15 : decode cX6_reads 15 = .ok (.iload_n 1, 1) := by decide +kernel
theorem dX6_reads_16 : decode cX6_reads 16 = .ok (.aaload, 1) := by decide +kernel
theorem dX6_reads_17 : decode cX6_reads 17 = .ok (.astore_n 2, 1) := by decide +kernel
theorem dX6_reads_18 : decode cX6_reads 18 = .ok (.aload_n 2, 1) := by decide +kernel
theorem dX6_reads_19 : decode cX6_reads 19 = .ok (.invokevirtual 227, 3) := by decide +kernel
theorem dX6_reads_22 : decode cX6_reads 22 = .ok (.ifCond .eq 6, 3) := by decide +kernel
theorem dX6_reads_25 : decode cX6_reads 25 = .ok (.ldc 230, 2) := by decide +kernel
theorem dX6_reads_27 : decode cX6_reads 27 = .ok (.ireturn, 1) := by decide +kernel
theorem dX6_reads_28 : decode cX6_reads 28 = .ok (.iconst 0, 1) := by decide +kernel
theorem dX6_reads_29 : decode cX6_reads 29 = .ok (.istore_n 3, 1) := by decide +kernel
theorem dX6_reads_30 : decode cX6_reads 30 = .ok (.iload_n 3, 1) := by decide +kernel
theorem dX6_reads_31 : decode cX6_reads 31 = .ok (.aload_n 2, 1) := by decide +kernel
theorem dX6_reads_32 : decode cX6_reads 32 = .ok (.getfield 285, 3) := by decide +kernel
theorem dX6_reads_35 : decode cX6_reads 35 = .ok (.if_icmp .ge 63, 3) := by decide +kernel
theorem dX6_reads_38 : decode cX6_reads 38 = .ok (.iload_n 3, 1) := by decide +kernel
theorem dX6_reads_39 : decode cX6_reads 39 = .ok (.aload_n 0, 1) := by decide +kernel
theorem dX6_reads_40 : decode cX6_reads 40 = .ok (.getfield 10, 3) := by decide +kernel
theorem dX6_reads_43 : decode cX6_reads 43 = .ok (.getfield 79, 3) := by decide +kernel
theorem dX6_reads_46 : decode cX6_reads 46 = .ok (.if_icmp .ge 28, 3) := by decide +kernel
theorem dX6_reads_49 : decode cX6_reads 49 = .ok (.aload_n 0, 1) := by decide +kernel
theorem dX6_reads_50 : decode cX6_reads 50 = .ok (.getfield 10, 3) := by decide +kernel
theorem dX6_reads_53 : decode cX6_reads 53 = .ok (.getfield 90, 3) := by decide +kernel
theorem dX6_reads_56 : decode cX6_reads 56 = .ok (.iload_n 3, 1) := by decide +kernel
theorem dX6_reads_57 : decode cX6_reads 57 = .ok (.aaload, 1) := by decide +kernel
theorem dX6_reads_58 : decode cX6_reads 58 = .ok (.getfield 97, 3) := by decide +kernel
theorem dX6_reads_61 : decode cX6_reads 61 = .ok (.aload_n 2, 1) := by decide +kernel
theorem dX6_reads_62 : decode cX6_reads 62 = .ok (.getfield 292, 3) := by decide +kernel
theorem dX6_reads_65 : decode cX6_reads 65 = .ok (.iload_n 3, 1) := by decide +kernel
theorem dX6_reads_66 : decode cX6_reads 66 = .ok (.iaload, 1) := by decide +kernel
theorem dX6_reads_67 : decode cX6_reads 67 = .ok (.if_icmp .ne 7, 3) := by decide +kernel
theorem dX6_reads_70 : decode cX6_reads 70 = .ok (.iconst 1, 1) := by decide +kernel
theorem dX6_reads_71 : decode cX6_reads 71 = .ok (.goto 4, 3) := by decide +kernel
theorem dX6_reads_74 : decode cX6_reads 74 = .ok (.iconst 0, 1) := by decide +kernel
theorem dX6_reads_75 : decode cX6_reads 75 = .ok (.istore 4, 2) := by decide +kernel
theorem dX6_reads_77 : decode cX6_reads 77 = .ok (.aload_n 2, 1) := by decide +kernel
theorem dX6_reads_78 : decode cX6_reads 78 = .ok (.iload_n 3, 1) := by decide +kernel
theorem dX6_reads_79 : decode cX6_reads 79 = .ok (.invokevirtual 300, 3) := by decide +kernel
theorem dX6_reads_82 : decode cX6_reads 82 = .ok (.ifCond .eq 10, 3) := by decide +kernel
theorem dX6_reads_85 : decode cX6_reads 85 = .ok (.iload 4, 2) := by decide +kernel
theorem dX6_reads_87 : decode cX6_reads 87 = .ok (.ifCond .ne 5, 3) := by decide +kernel
theorem dX6_reads_90 : decode cX6_reads 90 = .ok (.iload_n 3, 1) := by decide +kernel
theorem dX6_reads_91 : decode cX6_reads 91 = .ok (.ireturn, 1) := by decide +kernel
theorem dX6_reads_92 : decode cX6_reads 92 = .ok (.iinc 3 1, 3) := by decide +kernel
theorem dX6_reads_95 : decode cX6_reads 95 = .ok (.goto (-65), 3) := by decide +kernel
theorem dX6_reads_98 : decode cX6_reads 98 = .ok (.ldc 142, 2) := by decide +kernel
theorem dX6_reads_100 : decode cX6_reads 100 = .ok (.ireturn, 1) := by decide +kernel
theorem dX6_copy_0 : decode cX6_copy 0 = .ok (.iload_n 1, 1) := by decide +kernel
theorem dX6_copy_1 : decode cX6_copy 1 = .ok (.iconst 4, 1) := by decide +kernel
theorem dX6_copy_2 : decode cX6_copy 2 = .ok (.invokestatic 69, 3) := by decide +kernel
theorem dX6_copy_5 : decode cX6_copy 5 = .ok (.ifCond .eq 11, 3) := by decide +kernel
theorem dX6_copy_8 : decode cX6_copy 8 = .ok (.iload_n 3, 1) := by decide +kernel
theorem dX6_copy_9 : decode cX6_copy 9 = .ok (.iconst 4, 1) := by decide +kernel
theorem dX6_copy_10 : decode cX6_copy 10 = .ok (.invokestatic 69, 3) := by decide +kernel
theorem dX6_copy_13 : decode cX6_copy 13 = .ok (.ifCond .ne 6, 3) := by decide +kernel
theorem dX6_copy_16 : decode cX6_copy 16 = .ok (.ldc 73, 2) := by decide +kernel
theorem dX6_copy_18 : decode cX6_copy 18 = .ok (.ireturn, 1) := by decide +kernel
theorem dX6_copy_19 : decode cX6_copy 19 = .ok (.aload_n 0, 1) := by decide +kernel
theorem dX6_copy_20 : decode cX6_copy 20 = .ok (.getfield 50, 3) := by decide +kernel
theorem dX6_copy_23 : decode cX6_copy 23 = .ok (.iload_n 1, 1) := by decide +kernel
theorem dX6_copy_24 : decode cX6_copy 24 = .ok (.aaload, 1) := by decide +kernel
theorem dX6_copy_25 : decode cX6_copy 25 = .ok (.astore 6, 2) := by decide +kernel
theorem dX6_copy_27 : decode cX6_copy 27 = .ok (.aload_n 0, 1) := by decide +kernel
theorem dX6_copy_28 : decode cX6_copy 28 = .ok (.getfield 50, 3) := by decide +kernel
theorem dX6_copy_31 : decode cX6_copy 31 = .ok (.iload_n 3, 1) := by decide +kernel
theorem dX6_copy_32 : decode cX6_copy 32 = .ok (.aaload, 1) := by decide +kernel
theorem dX6_copy_33 : decode cX6_copy 33 = .ok (.astore 7, 2) := by decide +kernel
theorem dX6_copy_35 : decode cX6_copy 35 = .ok (.aload 6, 2) := by decide +kernel
theorem dX6_copy_37 : decode cX6_copy 37 = .ok (.invokevirtual 227, 3) := by decide +kernel
theorem dX6_copy_40 : decode cX6_copy 40 = .ok (.ifCond .ne 11, 3) := by decide +kernel
theorem dX6_copy_43 : decode cX6_copy 43 = .ok (.aload 7, 2) := by decide +kernel
theorem dX6_copy_45 : decode cX6_copy 45 = .ok (.invokevirtual 227, 3) := by decide +kernel
theorem dX6_copy_48 : decode cX6_copy 48 = .ok (.ifCond .eq 6, 3) := by decide +kernel
theorem dX6_copy_51 : decode cX6_copy 51 = .ok (.ldc 230, 2) := by decide +kernel
theorem dX6_copy_53 : decode cX6_copy 53 = .ok (.ireturn, 1) := by decide +kernel
theorem dX6_copy_54 : decode cX6_copy 54 = .ok (.aload 6, 2) := by decide +kernel
theorem dX6_copy_56 : decode cX6_copy 56 = .ok (.getfield 289, 3) := by decide +kernel
theorem dX6_copy_59 : decode cX6_copy 59 = .ok (.aload 7, 2) := by decide +kernel
theorem dX6_copy_61 : decode cX6_copy 61 = .ok (.getfield 289, 3) := by decide +kernel
theorem dX6_copy_64 : decode cX6_copy 64 = .ok (.if_icmp .eq 6, 3) := by decide +kernel
theorem dX6_copy_67 : decode cX6_copy 67 = .ok (.ldc 137, 2) := by decide +kernel
theorem dX6_copy_69 : decode cX6_copy 69 = .ok (.ireturn, 1) := by decide +kernel
theorem dX6_copy_70 : decode cX6_copy 70 = .ok (.aload 6, 2) := by decide +kernel
theorem dX6_copy_72 : decode cX6_copy 72 = .ok (.iload_n 2, 1) := by decide +kernel
theorem dX6_copy_73 : decode cX6_copy 73 = .ok (.iload 5, 2) := by decide +kernel
theorem dX6_copy_75 : decode cX6_copy 75 = .ok (.invokevirtual 303, 3) := by decide +kernel
theorem dX6_copy_78 : decode cX6_copy 78 = .ok (.ifCond .eq 15, 3) := by decide +kernel
theorem dX6_copy_81 : decode cX6_copy 81 = .ok (.aload 7, 2) := by decide +kernel
theorem dX6_copy_83 : decode cX6_copy 83 = .ok (.iload 4, 2) := by decide +kernel
theorem dX6_copy_85 : decode cX6_copy 85 = .ok (.iload 5, 2) := by decide +kernel
theorem dX6_copy_87 : decode cX6_copy 87 = .ok (.invokevirtual 303, 3) := by decide +kernel
theorem dX6_copy_90 : decode cX6_copy 90 = .ok (.ifCond .ne 7, 3) := by decide +kernel
theorem dX6_copy_93 : decode cX6_copy 93 = .ok (.ldc_w 288, 3) := by decide +kernel
theorem dX6_copy_96 : decode cX6_copy 96 = .ok (.ireturn, 1) := by decide +kernel
theorem dX6_copy_97 : decode cX6_copy 97 = .ok (.aload 6, 2) := by decide +kernel
theorem dX6_copy_99 : decode cX6_copy 99 = .ok (.getfield 292, 3) := by decide +kernel
theorem dX6_copy_102 : decode cX6_copy 102 = .ok (.iload_n 2, 1) := by decide +kernel
theorem dX6_copy_103 : decode cX6_copy 103 = .ok (.aload 7, 2) := by decide +kernel
theorem dX6_copy_105 : decode cX6_copy 105 = .ok (.getfield 292, 3) := by decide +kernel
theorem dX6_copy_108 : decode cX6_copy 108 = .ok (.iload 4, 2) := by decide +kernel
theorem dX6_copy_110 : decode cX6_copy 110 = .ok (.iload 5, 2) := by decide +kernel
theorem dX6_copy_112 : decode cX6_copy 112 = .ok (.invokestatic 306, 3) := by decide +kernel
theorem dX6_copy_115 : decode cX6_copy 115 = .ok (.iload 5, 2) := by decide +kernel
theorem dX6_copy_117 : decode cX6_copy 117 = .ok (.ireturn, 1) := by decide +kernel
theorem dX6_lay_0 : decode cX6_lay 0 = .ok (.iload_n 1, 1) := by decide +kernel
theorem dX6_lay_1 : decode cX6_lay 1 = .ok (.iconst 5, 1) := by decide +kernel
theorem dX6_lay_2 : decode cX6_lay 2 = .ok (.invokestatic 69, 3) := by decide +kernel
theorem dX6_lay_5 : decode cX6_lay 5 = .ok (.ifCond .eq 12, 3) := by decide +kernel
theorem dX6_lay_8 : decode cX6_lay 8 = .ok (.iload_n 2, 1) := by decide +kernel
theorem dX6_lay_9 : decode cX6_lay 9 = .ok (.ifCond .lt 8, 3) := by decide +kernel
theorem dX6_lay_12 : decode cX6_lay 12 = .ok (.iload_n 2, 1) := by decide +kernel
theorem dX6_lay_13 : decode cX6_lay 13 = .ok (.iconst 3, 1) := by decide +kernel
theorem dX6_lay_14 : decode cX6_lay 14 = .ok (.if_icmp .le 6, 3) := by decide +kernel
theorem dX6_lay_17 : decode cX6_lay 17 = .ok (.ldc 73, 2) := by decide +kernel
theorem dX6_lay_19 : decode cX6_lay 19 = .ok (.ireturn, 1) := by decide +kernel
theorem dX6_lay_20 : decode cX6_lay 20 = .ok (.iload_n 2, 1) := by decide +kernel
theorem dX6_lay_21 : decode cX6_lay 21 = .ok (.iconst 1, 1) := by decide +kernel
theorem dX6_lay_22 : decode cX6_lay 22 = .ok (.if_icmp .ne 11, 3) := by decide +kernel
theorem dX6_lay_25 : decode cX6_lay 25 = .ok (.aload_n 0, 1) := by decide +kernel
theorem dX6_lay_26 : decode cX6_lay 26 = .ok (.iload_n 3, 1) := by decide +kernel
theorem dX6_lay_27 : decode cX6_lay 27 = .ok (.invokevirtual 87, 3) := by decide +kernel
theorem dX6_lay_30 : decode cX6_lay 30 = .ok (.ifCond .eq 16, 3) := by decide +kernel
theorem dX6_lay_33 : decode cX6_lay 33 = .ok (.iload_n 2, 1) := by decide +kernel
theorem dX6_lay_34 : decode cX6_lay 34 = .ok (.iconst 2, 1) := by decide +kernel
theorem dX6_lay_35 : decode cX6_lay 35 = .ok (.if_icmp .ne 14, 3) := by decide +kernel
theorem dX6_lay_38 : decode cX6_lay 38 = .ok (.iload_n 3, 1) := by decide +kernel
theorem dX6_lay_39 : decode cX6_lay 39 = .ok (.iconst 4, 1) := by decide +kernel
theorem dX6_lay_40 : decode cX6_lay 40 = .ok (.invokestatic 69, 3) := by decide +kernel
theorem dX6_lay_43 : decode cX6_lay 43 = .ok (.ifCond .ne 6, 3) := by decide +kernel
theorem dX6_lay_46 : decode cX6_lay 46 = .ok (.ldc 73, 2) := by decide +kernel
theorem dX6_lay_48 : decode cX6_lay 48 = .ok (.ireturn, 1) := by decide +kernel
theorem dX6_lay_49 : decode cX6_lay 49 = .ok (.iload_n 2, 1) := by decide +kernel
theorem dX6_lay_50 : decode cX6_lay 50 = .ok (.iconst 2, 1) := by decide +kernel
theorem dX6_lay_51 : decode cX6_lay 51 = .ok (.if_icmp .ne 18, 3) := by decide +kernel
theorem dX6_lay_54 : decode cX6_lay 54 = .ok (.aload_n 0, 1) := by decide +kernel
theorem dX6_lay_55 : decode cX6_lay 55 = .ok (.getfield 50, 3) := by decide +kernel
theorem dX6_lay_58 : decode cX6_lay 58 = .ok (.iload_n 3, 1) := by decide +kernel
theorem dX6_lay_59 : decode cX6_lay 59 = .ok (.aaload, 1) := by decide +kernel
theorem dX6_lay_60 : decode cX6_lay 60 = .ok (.invokevirtual 227, 3) := by decide +kernel
theorem dX6_lay_63 : decode cX6_lay 63 = .ok (.ifCond .eq 6, 3) := by decide +kernel
theorem dX6_lay_66 : decode cX6_lay 66 = .ok (.ldc 230, 2) := by decide +kernel
theorem dX6_lay_68 : decode cX6_lay 68 = .ok (.ireturn, 1) := by decide +kernel
theorem dX6_lay_69 : decode cX6_lay 69 = .ok (.aload_n 0, 1) := by decide +kernel
theorem dX6_lay_70 : decode cX6_lay 70 = .ok (.getfield 56, 3) := by decide +kernel
theorem dX6_lay_73 : decode cX6_lay 73 = .ok (.iload_n 1, 1) := by decide +kernel
theorem dX6_lay_74 : decode cX6_lay 74 = .ok (.aaload, 1) := by decide +kernel
theorem dX6_lay_75 : decode cX6_lay 75 = .ok (.astore 4, 2) := by decide +kernel
theorem dX6_lay_77 : decode cX6_lay 77 = .ok (.aload 4, 2) := by decide +kernel
theorem dX6_lay_79 : decode cX6_lay 79 = .ok (.getfield 312, 3) := by decide +kernel
theorem dX6_lay_82 : decode cX6_lay 82 = .ok (.istore 5, 2) := by decide +kernel
theorem dX6_lay_84 : decode cX6_lay 84 = .ok (.aload 4, 2) := by decide +kernel
theorem dX6_lay_86 : decode cX6_lay 86 = .ok (.iload_n 2, 1) := by decide +kernel
theorem dX6_lay_87 : decode cX6_lay 87 = .ok (.putfield 312, 3) := by decide +kernel
theorem dX6_lay_90 : decode cX6_lay 90 = .ok (.iload_n 2, 1) := by decide +kernel
theorem dX6_lay_91 : decode cX6_lay 91 = .ok (.iconst 1, 1) := by decide +kernel
theorem dX6_lay_92 : decode cX6_lay 92 = .ok (.if_icmp .ne 23, 3) := by decide +kernel
theorem dX6_lay_95 : decode cX6_lay 95 = .ok (.aload 4, 2) := by decide +kernel
theorem dX6_lay_97 : decode cX6_lay 97 = .ok (.getfield 315, 3) := by decide +kernel
theorem dX6_lay_100 : decode cX6_lay 100 = .ok (.aload_n 0, 1) := by decide +kernel
theorem dX6_lay_101 : decode cX6_lay 101 = .ok (.getfield 10, 3) := by decide +kernel
theorem dX6_lay_104 : decode cX6_lay 104 = .ok (.getfield 90, 3) := by decide +kernel
theorem dX6_lay_107 : decode cX6_lay 107 = .ok (.iload_n 3, 1) := by decide +kernel
theorem dX6_lay_108 : decode cX6_lay 108 = .ok (.aaload, 1) := by decide +kernel
theorem dX6_lay_109 : decode cX6_lay 109 = .ok (.invokevirtual 318, 3) := by decide +kernel
theorem dX6_lay_112 : decode cX6_lay 112 = .ok (.goto 36, 3) := by decide +kernel
theorem dX6_lay_115 : decode cX6_lay 115 = .ok (.iload_n 2, 1) := by decide +kernel
theorem dX6_lay_116 : decode cX6_lay 116 = .ok (.iconst 2, 1) := by decide +kernel
theorem dX6_lay_117 : decode cX6_lay 117 = .ok (.if_icmp .ne 20, 3) := by decide +kernel
theorem dX6_lay_120 : decode cX6_lay 120 = .ok (.aload 4, 2) := by decide +kernel
theorem dX6_lay_122 : decode cX6_lay 122 = .ok (.getfield 321, 3) := by decide +kernel
theorem dX6_lay_125 : decode cX6_lay 125 = .ok (.aload_n 0, 1) := by decide +kernel
theorem dX6_lay_126 : decode cX6_lay 126 = .ok (.getfield 50, 3) := by decide +kernel
theorem dX6_lay_129 : decode cX6_lay 129 = .ok (.iload_n 3, 1) := by decide +kernel
theorem dX6_lay_130 : decode cX6_lay 130 = .ok (.aaload, 1) := by decide +kernel
theorem dX6_lay_131 : decode cX6_lay 131 = .ok (.invokevirtual 325, 3) := by decide +kernel
theorem dX6_lay_134 : decode cX6_lay 134 = .ok (.goto 14, 3) := by decide +kernel
theorem dX6_lay_137 : decode cX6_lay 137 = .ok (.iload_n 2, 1) := by decide +kernel
theorem dX6_lay_138 : decode cX6_lay 138 = .ok (.iconst 3, 1) := by decide +kernel
theorem dX6_lay_139 : decode cX6_lay 139 = .ok (.if_icmp .ne 9, 3) := by decide +kernel
theorem dX6_lay_142 : decode cX6_lay 142 = .ok (.aload 4, 2) := by decide +kernel
theorem dX6_lay_144 : decode cX6_lay 144 = .ok (.iload_n 3, 1) := by decide +kernel
theorem dX6_lay_145 : decode cX6_lay 145 = .ok (.putfield 327, 3) := by decide +kernel
theorem dX6_lay_148 : decode cX6_lay 148 = .ok (.iload 5, 2) := by decide +kernel
theorem dX6_lay_150 : decode cX6_lay 150 = .ok (.ireturn, 1) := by decide +kernel
theorem dX6_ask_0 : decode cX6_ask 0 = .ok (.iload_n 1, 1) := by decide +kernel
theorem dX6_ask_1 : decode cX6_ask 1 = .ok (.iconst 5, 1) := by decide +kernel
theorem dX6_ask_2 : decode cX6_ask 2 = .ok (.invokestatic 69, 3) := by decide +kernel
theorem dX6_ask_5 : decode cX6_ask 5 = .ok (.ifCond .eq 12, 3) := by decide +kernel
theorem dX6_ask_8 : decode cX6_ask 8 = .ok (.iload_n 2, 1) := by decide +kernel
theorem dX6_ask_9 : decode cX6_ask 9 = .ok (.bipush 6, 2) := by decide +kernel
theorem dX6_ask_11 : decode cX6_ask 11 = .ok (.invokestatic 69, 3) := by decide +kernel
theorem dX6_ask_14 : decode cX6_ask 14 = .ok (.ifCond .ne 6, 3) := by decide +kernel
theorem dX6_ask_17 : decode cX6_ask 17 = .ok (.ldc 73, 2) := by decide +kernel
theorem dX6_ask_19 : decode cX6_ask 19 = .ok (.ireturn, 1) := by decide +kernel
theorem dX6_ask_20 : decode cX6_ask 20 = .ok (.aload_n 0, 1) := by decide +kernel
theorem dX6_ask_21 : decode cX6_ask 21 = .ok (.getfield 56, 3) := by decide +kernel
theorem dX6_ask_24 : decode cX6_ask 24 = .ok (.iload_n 1, 1) := by decide +kernel
theorem dX6_ask_25 : decode cX6_ask 25 = .ok (.aaload, 1) := by decide +kernel
theorem dX6_ask_26 : decode cX6_ask 26 = .ok (.astore_n 3, 1) := by decide +kernel
theorem dX6_ask_27 : decode cX6_ask 27 = .ok (.aload_n 3, 1) := by decide +kernel
theorem dX6_ask_28 : decode cX6_ask 28 = .ok (.getfield 312, 3) := by decide +kernel
theorem dX6_ask_31 : decode cX6_ask 31 = .ok (.ifCond .ne 6, 3) := by decide +kernel
theorem dX6_ask_34 : decode cX6_ask 34 = .ok (.ldc 230, 2) := by decide +kernel
theorem dX6_ask_36 : decode cX6_ask 36 = .ok (.ireturn, 1) := by decide +kernel
theorem dX6_ask_37 : decode cX6_ask 37 = .ok (.aload_n 3, 1) := by decide +kernel
theorem dX6_ask_38 : decode cX6_ask 38 = .ok (.getfield 312, 3) := by decide +kernel
theorem dX6_ask_41 : decode cX6_ask 41 = .ok (.iconst 1, 1) := by decide +kernel
theorem dX6_ask_42 : decode cX6_ask 42 = .ok (.if_icmp .ne 14, 3) := by decide +kernel
theorem dX6_ask_45 : decode cX6_ask 45 = .ok (.aload_n 3, 1) := by decide +kernel
theorem dX6_ask_46 : decode cX6_ask 46 = .ok (.getfield 315, 3) := by decide +kernel
theorem dX6_ask_49 : decode cX6_ask 49 = .ok (.iload_n 2, 1) := by decide +kernel
theorem dX6_ask_50 : decode cX6_ask 50 = .ok (.invokevirtual 134, 3) := by decide +kernel
theorem dX6_ask_53 : decode cX6_ask 53 = .ok (.ifCond .ne 6, 3) := by decide +kernel
theorem dX6_ask_56 : decode cX6_ask 56 = .ok (.ldc 137, 2) := by decide +kernel
theorem dX6_ask_58 : decode cX6_ask 58 = .ok (.ireturn, 1) := by decide +kernel
theorem dX6_ask_59 : decode cX6_ask 59 = .ok (.aload_n 3, 1) := by decide +kernel
theorem dX6_ask_60 : decode cX6_ask 60 = .ok (.getfield 315, 3) := by decide +kernel
theorem dX6_ask_63 : decode cX6_ask 63 = .ok (.invokevirtual 130, 3) := by decide +kernel
theorem dX6_ask_66 : decode cX6_ask 66 = .ok (.ireturn, 1) := by decide +kernel
theorem dX6_item_0 : decode cX6_item 0 = .ok (.iload_n 1, 1) := by decide +kernel
theorem dX6_item_1 : decode cX6_item 1 = .ok (.iconst 5, 1) := by decide +kernel
theorem dX6_item_2 : decode cX6_item 2 = .ok (.invokestatic 69, 3) := by decide +kernel
theorem dX6_item_5 : decode cX6_item 5 = .ok (.ifCond .ne 6, 3) := by decide +kernel
theorem dX6_item_8 : decode cX6_item 8 = .ok (.ldc 73, 2) := by decide +kernel
theorem dX6_item_10 : decode cX6_item 10 = .ok (.ireturn, 1) := by decide +kernel
theorem dX6_item_11 : decode cX6_item 11 = .ok (.aload_n 0, 1) := by decide +kernel
theorem dX6_item_12 : decode cX6_item 12 = .ok (.getfield 56, 3) := by decide +kernel
theorem dX6_item_15 : decode cX6_item 15 = .ok (.iload_n 1, 1) := by decide +kernel
theorem dX6_item_16 : decode cX6_item 16 = .ok (.aaload, 1) := by decide +kernel
theorem dX6_item_17 : decode cX6_item 17 = .ok (.astore_n 3, 1) := by decide +kernel
theorem dX6_item_18 : decode cX6_item 18 = .ok (.aload_n 3, 1) := by decide +kernel
theorem dX6_item_19 : decode cX6_item 19 = .ok (.getfield 312, 3) := by decide +kernel
theorem dX6_item_22 : decode cX6_item 22 = .ok (.ifCond .ne 6, 3) := by decide +kernel
theorem dX6_item_25 : decode cX6_item 25 = .ok (.ldc 230, 2) := by decide +kernel
theorem dX6_item_27 : decode cX6_item 27 = .ok (.ireturn, 1) := by decide +kernel
theorem dX6_item_28 : decode cX6_item 28 = .ok (.aload_n 3, 1) := by decide +kernel
theorem dX6_item_29 : decode cX6_item 29 = .ok (.getfield 312, 3) := by decide +kernel
theorem dX6_item_32 : decode cX6_item 32 = .ok (.iconst 2, 1) := by decide +kernel
theorem dX6_item_33 : decode cX6_item 33 = .ok (.if_icmp .eq 6, 3) := by decide +kernel
theorem dX6_item_36 : decode cX6_item 36 = .ok (.ldc 137, 2) := by decide +kernel
theorem dX6_item_38 : decode cX6_item 38 = .ok (.ireturn, 1) := by decide +kernel
theorem dX6_item_39 : decode cX6_item 39 = .ok (.iload_n 2, 1) := by decide +kernel
theorem dX6_item_40 : decode cX6_item 40 = .ok (.aload_n 3, 1) := by decide +kernel
theorem dX6_item_41 : decode cX6_item 41 = .ok (.getfield 321, 3) := by decide +kernel
theorem dX6_item_44 : decode cX6_item 44 = .ok (.getfield 285, 3) := by decide +kernel
theorem dX6_item_47 : decode cX6_item 47 = .ok (.invokestatic 69, 3) := by decide +kernel
theorem dX6_item_50 : decode cX6_item 50 = .ok (.ifCond .ne 7, 3) := by decide +kernel
theorem dX6_item_53 : decode cX6_item 53 = .ok (.ldc_w 288, 3) := by decide +kernel
theorem dX6_item_56 : decode cX6_item 56 = .ok (.ireturn, 1) := by decide +kernel
theorem dX6_item_57 : decode cX6_item 57 = .ok (.aload_n 3, 1) := by decide +kernel
theorem dX6_item_58 : decode cX6_item 58 = .ok (.getfield 321, 3) := by decide +kernel
theorem dX6_item_61 : decode cX6_item 61 = .ok (.iload_n 2, 1) := by decide +kernel
theorem dX6_item_62 : decode cX6_item 62 = .ok (.invokevirtual 300, 3) := by decide +kernel
theorem dX6_item_65 : decode cX6_item 65 = .ok (.ifCond .eq 15, 3) := by decide +kernel
theorem dX6_item_68 : decode cX6_item 68 = .ok (.aload_n 3, 1) := by decide +kernel
theorem dX6_item_69 : decode cX6_item 69 = .ok (.getfield 321, 3) := by decide +kernel
theorem dX6_item_72 : decode cX6_item 72 = .ok (.getfield 292, 3) := by decide +kernel
theorem dX6_item_75 : decode cX6_item 75 = .ok (.iload_n 2, 1) := by decide +kernel
theorem dX6_item_76 : decode cX6_item 76 = .ok (.iaload, 1) := by decide +kernel
theorem dX6_item_77 : decode cX6_item 77 = .ok (.goto 5, 3) := by decide +kernel
theorem dX6_item_80 : decode cX6_item 80 = .ok (.ldc 137, 2) := by decide +kernel
theorem dX6_item_82 : decode cX6_item 82 = .ok (.ireturn, 1) := by decide +kernel
theorem dX6_rest_0 : decode cX6_rest 0 = .ok (.iload_n 1, 1) := by decide +kernel
theorem dX6_rest_1 : decode cX6_rest 1 = .ok (.iconst 5, 1) := by decide +kernel
theorem dX6_rest_2 : decode cX6_rest 2 = .ok (.invokestatic 69, 3) := by decide +kernel
theorem dX6_rest_5 : decode cX6_rest 5 = .ok (.ifCond .ne 6, 3) := by decide +kernel
theorem dX6_rest_8 : decode cX6_rest 8 = .ok (.ldc 73, 2) := by decide +kernel
theorem dX6_rest_10 : decode cX6_rest 10 = .ok (.ireturn, 1) := by decide +kernel
theorem dX6_rest_11 : decode cX6_rest 11 = .ok (.aload_n 0, 1) := by decide +kernel
theorem dX6_rest_12 : decode cX6_rest 12 = .ok (.getfield 56, 3) := by decide +kernel
theorem dX6_rest_15 : decode cX6_rest 15 = .ok (.iload_n 1, 1) := by decide +kernel
theorem dX6_rest_16 : decode cX6_rest 16 = .ok (.aaload, 1) := by decide +kernel
theorem dX6_rest_17 : decode cX6_rest 17 = .ok (.astore_n 3, 1) := by decide +kernel
theorem dX6_rest_18 : decode cX6_rest 18 = .ok (.aload_n 3, 1) := by decide +kernel
theorem dX6_rest_19 : decode cX6_rest 19 = .ok (.getfield 312, 3) := by decide +kernel
theorem dX6_rest_22 : decode cX6_rest 22 = .ok (.ifCond .ne 6, 3) := by decide +kernel
theorem dX6_rest_25 : decode cX6_rest 25 = .ok (.ldc 230, 2) := by decide +kernel
theorem dX6_rest_27 : decode cX6_rest 27 = .ok (.ireturn, 1) := by decide +kernel
theorem dX6_rest_28 : decode cX6_rest 28 = .ok (.aload_n 3, 1) := by decide +kernel
theorem dX6_rest_29 : decode cX6_rest 29 = .ok (.getfield 312, 3) := by decide +kernel
theorem dX6_rest_32 : decode cX6_rest 32 = .ok (.iconst 3, 1) := by decide +kernel
theorem dX6_rest_33 : decode cX6_rest 33 = .ok (.if_icmp .eq 6, 3) := by decide +kernel
theorem dX6_rest_36 : decode cX6_rest 36 = .ok (.ldc 137, 2) := by decide +kernel
theorem dX6_rest_38 : decode cX6_rest 38 = .ok (.ireturn, 1) := by decide +kernel
theorem dX6_rest_39 : decode cX6_rest 39 = .ok (.iload_n 2, 1) := by decide +kernel
theorem dX6_rest_40 : decode cX6_rest 40 = .ok (.ifCond .ne 8, 3) := by decide +kernel
theorem dX6_rest_43 : decode cX6_rest 43 = .ok (.ldc 78, 2) := by decide +kernel
theorem dX6_rest_45 : decode cX6_rest 45 = .ok (.goto 9, 3) := by decide +kernel
theorem dX6_rest_48 : decode cX6_rest 48 = .ok (.aload_n 3, 1) := by decide +kernel
theorem dX6_rest_49 : decode cX6_rest 49 = .ok (.getfield 327, 3) := by decide +kernel
theorem dX6_rest_52 : decode cX6_rest 52 = .ok (.iload_n 2, 1) := by decide +kernel
theorem dX6_rest_53 : decode cX6_rest 53 = .ok (.irem, 1) := by decide +kernel
theorem dX6_rest_54 : decode cX6_rest 54 = .ok (.ireturn, 1) := by decide +kernel
theorem dX6_tell_0 : decode cX6_tell 0 = .ok (.aload_n 0, 1) := by decide +kernel
theorem dX6_tell_1 : decode cX6_tell 1 = .ok (.getfield 63, 3) := by decide +kernel
theorem dX6_tell_4 : decode cX6_tell 4 = .ok (.bipush 60, 2) := by decide +kernel
theorem dX6_tell_6 : decode cX6_tell 6 = .ok (.if_icmp .lt 6, 3) := by decide +kernel
theorem dX6_tell_9 : decode cX6_tell 9 = .ok (.ldc 82, 2) := by decide +kernel
theorem dX6_tell_11 : decode cX6_tell 11 = .ok (.ireturn, 1) := by decide +kernel
theorem dX6_tell_12 : decode cX6_tell 12 = .ok (.aload_n 0, 1) := by decide +kernel
theorem dX6_tell_13 : decode cX6_tell 13 = .ok (.getfield 60, 3) := by decide +kernel
theorem dX6_tell_16 : decode cX6_tell 16 = .ok (.aload_n 0, 1) := by decide +kernel
theorem dX6_tell_17 : decode cX6_tell 17 = .ok (.getfield 63, 3) := by decide +kernel
theorem dX6_tell_20 : decode cX6_tell 20 = .ok (.iload_n 1, 1) := by decide +kernel
theorem dX6_tell_21 : decode cX6_tell 21 = .ok (.iastore, 1) := by decide +kernel
theorem dX6_tell_22 : decode cX6_tell 22 = .ok (.aload_n 0, 1) := by decide +kernel
theorem dX6_tell_23 : decode cX6_tell 23 = .ok (.dup, 1) := by decide +kernel
theorem dX6_tell_24 : decode cX6_tell 24 = .ok (.getfield 63, 3) := by decide +kernel
theorem dX6_tell_27 : decode cX6_tell 27 = .ok (.iconst 1, 1) := by decide +kernel
theorem dX6_tell_28 : decode cX6_tell 28 = .ok (.iadd, 1) := by decide +kernel
theorem dX6_tell_29 : decode cX6_tell 29 = .ok (.putfield 63, 3) := by decide +kernel
theorem dX6_tell_32 : decode cX6_tell 32 = .ok (.aload_n 0, 1) := by decide +kernel
theorem dX6_tell_33 : decode cX6_tell 33 = .ok (.getfield 63, 3) := by decide +kernel
theorem dX6_tell_36 : decode cX6_tell 36 = .ok (.ireturn, 1) := by decide +kernel
theorem dX6_check_0 : decode cX6_check 0 = .ok (.aload_n 0, 1) := by decide +kernel
theorem dX6_check_1 : decode cX6_check 1 = .ok (.getfield 63, 3) := by decide +kernel
theorem dX6_check_4 : decode cX6_check 4 = .ok (.istore_n 2, 1) := by decide +kernel
theorem dX6_check_5 : decode cX6_check 5 = .ok (.aload_n 0, 1) := by decide +kernel
theorem dX6_check_6 : decode cX6_check 6 = .ok (.iconst 0, 1) := by decide +kernel
theorem dX6_check_7 : decode cX6_check 7 = .ok (.putfield 63, 3) := by decide +kernel
theorem dX6_check_10 : decode cX6_check 10 = .ok (.iload_n 1, 1) := by decide +kernel
theorem dX6_check_11 : decode cX6_check 11 = .ok (.iconst 1, 1) := by decide +kernel
theorem dX6_check_12 : decode cX6_check 12 = .ok (.if_icmp .lt 9, 3) := by decide +kernel
theorem dX6_check_15 : decode cX6_check 15 = .ok (.iload_n 1, 1) := by decide +kernel
theorem dX6_check_16 : decode cX6_check 16 = .ok (.bipush 30, 2) := by decide +kernel
theorem dX6_check_18 : decode cX6_check 18 = .ok (.if_icmp .le 6, 3) := by decide +kernel
theorem dX6_check_21 : decode cX6_check 21 = .ok (.ldc 73, 2) := by decide +kernel
theorem dX6_check_23 : decode cX6_check 23 = .ok (.ireturn, 1) := by decide +kernel
theorem dX6_check_24 : decode cX6_check 24 = .ok (.aload_n 0, 1) := by decide +kernel
theorem dX6_check_25 : decode cX6_check 25 = .ok (.getfield 19, 3) := by decide +kernel
theorem dX6_check_28 : decode cX6_check 28 = .ok (.ifCond .ne 6, 3) := by decide +kernel
theorem dX6_check_31 : decode cX6_check 31 = .ok (.ldc 78, 2) := by decide +kernel
theorem dX6_check_33 : decode cX6_check 33 = .ok (.ireturn, 1) := by decide +kernel
theorem dX6_check_34 : decode cX6_check 34 = .ok (.aload_n 0, 1) := by decide +kernel
theorem dX6_check_35 : decode cX6_check 35 = .ok (.getfield 23, 3) := by decide +kernel
theorem dX6_check_38 : decode cX6_check 38 = .ok (.aload_n 0, 1) := by decide +kernel
theorem dX6_check_39 : decode cX6_check 39 = .ok (.getfield 16, 3) := by decide +kernel
theorem dX6_check_42 : decode cX6_check 42 = .ok (.invokevirtual 219, 3) := by decide +kernel
theorem dX6_check_45 : decode cX6_check 45 = .ok (.iconst 2, 1) := by decide +kernel
theorem dX6_check_46 : decode cX6_check 46 = .ok (.iload_n 1, 1) := by decide +kernel
theorem dX6_check_47 : decode cX6_check 47 = .ok (.sipush 9999, 3) := by decide +kernel
theorem dX6_check_50 : decode cX6_check 50 = .ok (.aload_n 0, 1) := by decide +kernel
theorem dX6_check_51 : decode cX6_check 51 = .ok (.getfield 16, 3) := by decide +kernel
theorem dX6_check_54 : decode cX6_check 54 = .ok (.getfield 106, 3) := by decide +kernel
theorem dX6_check_57 : decode cX6_check 57 = .ok (.isub, 1) := by decide +kernel
theorem dX6_check_58 : decode cX6_check 58 = .ok (.invokestatic 165, 3) := by decide +kernel
theorem dX6_check_61 : decode cX6_check 61 = .ok (.imul, 1) := by decide +kernel
theorem dX6_check_62 : decode cX6_check 62 = .ok (.istore_n 3, 1) := by decide +kernel
theorem dX6_check_63 : decode cX6_check 63 = .ok (.iconst 0, 1) := by decide +kernel
theorem dX6_check_64 : decode cX6_check 64 = .ok (.istore 4, 2) := by decide +kernel
theorem dX6_check_66 : decode cX6_check 66 = .ok (.iload 4, 2) := by decide +kernel
theorem dX6_check_68 : decode cX6_check 68 = .ok (.iload_n 3, 1) := by decide +kernel
theorem dX6_check_69 : decode cX6_check 69 = .ok (.if_icmp .ge 73, 3) := by decide +kernel
theorem dX6_check_72 : decode cX6_check 72 = .ok (.iload 4, 2) := by decide +kernel
theorem dX6_check_74 : decode cX6_check 74 = .ok (.iconst 2, 1) := by decide +kernel
theorem dX6_check_75 : decode cX6_check 75 = .ok (.irem, 1) := by decide +kernel
theorem dX6_check_76 : decode cX6_check 76 = .ok (.ifCond .ne 11, 3) := by decide +kernel
theorem dX6_check_79 : decode cX6_check 79 = .ok (.aload_n 0, 1) := by decide +kernel
theorem dX6_check_80 : decode cX6_check 80 = .ok (.getfield 23, 3) := by decide +kernel
theorem dX6_check_83 : decode cX6_check 83 = .ok (.iconst 1, 1) := by decide +kernel
theorem dX6_check_84 : decode cX6_check 84 = .ok (.invokevirtual 212, 3) := by decide +kernel
theorem dX6_check_87 : decode cX6_check 87 = .ok (.iload 4, 2) := by decide +kernel
theorem dX6_check_89 : decode cX6_check 89 = .ok (.iconst 2, 1) := by decide +kernel
theorem dX6_check_90 : decode cX6_check 90 = .ok (.irem, 1) := by decide +kernel
theorem dX6_check_91 : decode cX6_check 91 = .ok (.ifCond .ne 13, 3) := by decide +kernel
theorem dX6_check_94 : decode cX6_check 94 = .ok (.aload_n 0, 1) := by decide +kernel
theorem dX6_check_95 : decode cX6_check 95 = .ok (.getfield 23, 3) := by decide +kernel
theorem dX6_check_98 : decode cX6_check 98 = .ok (.getfield 209, 3) := by decide +kernel
theorem dX6_check_101 : decode cX6_check 101 = .ok (.goto 10, 3) := by decide +kernel
theorem dX6_check_104 : decode cX6_check 104 = .ok (.aload_n 0, 1) := by decide +kernel
theorem dX6_check_105 : decode cX6_check 105 = .ok (.getfield 23, 3) := by decide +kernel
theorem dX6_check_108 : decode cX6_check 108 = .ok (.invokevirtual 330, 3) := by decide +kernel
theorem dX6_check_111 : decode cX6_check 111 = .ok (.istore 5, 2) := by decide +kernel
theorem dX6_check_113 : decode cX6_check 113 = .ok (.iload 4, 2) := by decide +kernel
theorem dX6_check_115 : decode cX6_check 115 = .ok (.iload_n 2, 1) := by decide +kernel
theorem dX6_check_116 : decode cX6_check 116 = .ok (.if_icmp .ge 15, 3) := by decide +kernel
theorem dX6_check_119 : decode cX6_check 119 = .ok (.aload_n 0, 1) := by decide +kernel
theorem dX6_check_120 : decode cX6_check 120 = .ok (.getfield 60, 3) := by decide +kernel
theorem dX6_check_123 : decode cX6_check 123 = .ok (.iload 4, 2) := by decide +kernel
theorem dX6_check_125 : decode cX6_check 125 = .ok (.iaload, 1) := by decide +kernel
theorem dX6_check_126 : decode cX6_check 126 = .ok (.iload 5, 2) := by decide +kernel
theorem dX6_check_128 : decode cX6_check 128 = .ok (.if_icmp .eq 8, 3) := by decide +kernel
theorem dX6_check_131 : decode cX6_check 131 = .ok (.iconst 1, 1) := by decide +kernel
theorem dX6_check_132 : decode cX6_check 132 = .ok (.iload 4, 2) := by decide +kernel
theorem dX6_check_134 : decode cX6_check 134 = .ok (.iadd, 1) := by decide +kernel
theorem dX6_check_135 : decode cX6_check 135 = .ok (.ireturn, 1) := by decide +kernel
theorem dX6_check_136 : decode cX6_check 136 = .ok (.iinc 4 1, 3) := by decide +kernel
theorem dX6_check_139 : decode cX6_check 139 = .ok (.goto (-73), 3) := by decide +kernel
theorem dX6_check_142 : decode cX6_check 142 = .ok (.iload_n 2, 1) := by decide +kernel
theorem dX6_check_143 : decode cX6_check 143 = .ok (.iload_n 3, 1) := by decide +kernel
theorem dX6_check_144 : decode cX6_check 144 = .ok (.if_icmp .le 9, 3) := by decide +kernel
theorem dX6_check_147 : decode cX6_check 147 = .ok (.iconst 1, 1) := by decide +kernel
theorem dX6_check_148 : decode cX6_check 148 = .ok (.iload_n 3, 1) := by decide +kernel
theorem dX6_check_149 : decode cX6_check 149 = .ok (.iadd, 1) := by decide +kernel
theorem dX6_check_150 : decode cX6_check 150 = .ok (.goto 4, 3) := by decide +kernel
theorem dX6_check_153 : decode cX6_check 153 = .ok (.iconst 0, 1) := by decide +kernel
theorem dX6_check_154 : decode cX6_check 154 = .ok (.ireturn, 1) := by decide +kernel
theorem dX6_keep_0 : decode cX6_keep 0 = .ok (.aload_n 0, 1) := by decide +kernel
theorem dX6_keep_1 : decode cX6_keep 1 = .ok (.getfield 16, 3) := by decide +kernel
theorem dX6_keep_4 : decode cX6_keep 4 = .ok (.aload_n 0, 1) := by decide +kernel
theorem dX6_keep_5 : decode cX6_keep 5 = .ok (.getfield 10, 3) := by decide +kernel
theorem dX6_keep_8 : decode cX6_keep 8 = .ok (.invokevirtual 219, 3) := by decide +kernel
theorem dX6_keep_11 : decode cX6_keep 11 = .ok (.aload_n 0, 1) := by decide +kernel
theorem dX6_keep_12 : decode cX6_keep 12 = .ok (.iconst 1, 1) := by decide +kernel
theorem dX6_keep_13 : decode cX6_keep 13 = .ok (.putfield 19, 3) := by decide +kernel
theorem dX6_keep_16 : decode cX6_keep 16 = .ok (.aload_n 0, 1) := by decide +kernel
theorem dX6_keep_17 : decode cX6_keep 17 = .ok (.getfield 10, 3) := by decide +kernel
theorem dX6_keep_20 : decode cX6_keep 20 = .ok (.getfield 79, 3) := by decide +kernel
theorem dX6_keep_23 : decode cX6_keep 23 = .ok (.ireturn, 1) := by decide +kernel
theorem dX6_back_0 : decode cX6_back 0 = .ok (.aload_n 0, 1) := by decide +kernel
theorem dX6_back_1 : decode cX6_back 1 = .ok (.getfield 19, 3) := by decide +kernel
theorem dX6_back_4 : decode cX6_back 4 = .ok (.ifCond .ne 6, 3) := by decide +kernel
theorem dX6_back_7 : decode cX6_back 7 = .ok (.ldc 78, 2) := by decide +kernel
theorem dX6_back_9 : decode cX6_back 9 = .ok (.ireturn, 1) := by decide +kernel
theorem dX6_back_10 : decode cX6_back 10 = .ok (.aload_n 0, 1) := by decide +kernel
theorem dX6_back_11 : decode cX6_back 11 = .ok (.getfield 10, 3) := by decide +kernel
theorem dX6_back_14 : decode cX6_back 14 = .ok (.aload_n 0, 1) := by decide +kernel
theorem dX6_back_15 : decode cX6_back 15 = .ok (.getfield 16, 3) := by decide +kernel
theorem dX6_back_18 : decode cX6_back 18 = .ok (.invokevirtual 219, 3) := by decide +kernel
theorem dX6_back_21 : decode cX6_back 21 = .ok (.aload_n 0, 1) := by decide +kernel
theorem dX6_back_22 : decode cX6_back 22 = .ok (.getfield 10, 3) := by decide +kernel
theorem dX6_back_25 : decode cX6_back 25 = .ok (.getfield 79, 3) := by decide +kernel
theorem dX6_back_28 : decode cX6_back 28 = .ok (.ireturn, 1) := by decide +kernel
theorem dX6_count_0 : decode cX6_count 0 = .ok (.iload_n 1, 1) := by decide +kernel
theorem dX6_count_1 : decode cX6_count 1 = .ok (.tableswitch 108 0 7 #[47, 55, 63, 71, 79, 87, 92, 100], 47) := by decide +kernel
theorem dX6_count_48 : decode cX6_count 48 = .ok (.aload_n 0, 1) := by decide +kernel
theorem dX6_count_49 : decode cX6_count 49 = .ok (.getfield 10, 3) := by decide +kernel
theorem dX6_count_52 : decode cX6_count 52 = .ok (.getfield 79, 3) := by decide +kernel
theorem dX6_count_55 : decode cX6_count 55 = .ok (.ireturn, 1) := by decide +kernel
theorem dX6_count_56 : decode cX6_count 56 = .ok (.aload_n 0, 1) := by decide +kernel
theorem dX6_count_57 : decode cX6_count 57 = .ok (.getfield 10, 3) := by decide +kernel
theorem dX6_count_60 : decode cX6_count 60 = .ok (.getfield 106, 3) := by decide +kernel
theorem dX6_count_63 : decode cX6_count 63 = .ok (.ireturn, 1) := by decide +kernel
theorem dX6_count_64 : decode cX6_count 64 = .ok (.aload_n 0, 1) := by decide +kernel
theorem dX6_count_65 : decode cX6_count 65 = .ok (.getfield 10, 3) := by decide +kernel
theorem dX6_count_68 : decode cX6_count 68 = .ok (.getfield 159, 3) := by decide +kernel
theorem dX6_count_71 : decode cX6_count 71 = .ok (.ireturn, 1) := by decide +kernel
theorem dX6_count_72 : decode cX6_count 72 = .ok (.aload_n 0, 1) := by decide +kernel
theorem dX6_count_73 : decode cX6_count 73 = .ok (.getfield 10, 3) := by decide +kernel
theorem dX6_count_76 : decode cX6_count 76 = .ok (.getfield 162, 3) := by decide +kernel
theorem dX6_count_79 : decode cX6_count 79 = .ok (.ireturn, 1) := by decide +kernel
theorem dX6_count_80 : decode cX6_count 80 = .ok (.aload_n 0, 1) := by decide +kernel
theorem dX6_count_81 : decode cX6_count 81 = .ok (.getfield 10, 3) := by decide +kernel
theorem dX6_count_84 : decode cX6_count 84 = .ok (.getfield 257, 3) := by decide +kernel
theorem dX6_count_87 : decode cX6_count 87 = .ok (.ireturn, 1) := by decide +kernel
theorem dX6_count_88 : decode cX6_count 88 = .ok (.aload_n 0, 1) := by decide +kernel
theorem dX6_count_89 : decode cX6_count 89 = .ok (.getfield 63, 3) := by decide +kernel
theorem dX6_count_92 : decode cX6_count 92 = .ok (.ireturn, 1) := by decide +kernel
theorem dX6_count_93 : decode cX6_count 93 = .ok (.aload_n 0, 1) := by decide +kernel
theorem dX6_count_94 : decode cX6_count 94 = .ok (.getfield 44, 3) := by decide +kernel
theorem dX6_count_97 : decode cX6_count 97 = .ok (.getfield 248, 3) := by decide +kernel
theorem dX6_count_100 : decode cX6_count 100 = .ok (.ireturn, 1) := by decide +kernel
theorem dX6_count_101 : decode cX6_count 101 = .ok (.aload_n 0, 1) := by decide +kernel
theorem dX6_count_102 : decode cX6_count 102 = .ok (.getfield 10, 3) := by decide +kernel
theorem dX6_count_105 : decode cX6_count 105 = .ok (.getfield 175, 3) := by decide +kernel
theorem dX6_count_108 : decode cX6_count 108 = .ok (.ireturn, 1) := by decide +kernel
theorem dX6_count_109 : decode cX6_count 109 = .ok (.ldc 73, 2) := by decide +kernel
theorem dX6_count_111 : decode cX6_count 111 = .ok (.ireturn, 1) := by decide +kernel
theorem dX6_isPost_0 : decode cX6_isPost 0 = .ok (.iload_n 1, 1) := by decide +kernel
theorem dX6_isPost_1 : decode cX6_isPost 1 = .ok (.aload_n 0, 1) := by decide +kernel
theorem dX6_isPost_2 : decode cX6_isPost 2 = .ok (.getfield 10, 3) := by decide +kernel
theorem dX6_isPost_5 : decode cX6_isPost 5 = .ok (.getfield 79, 3) := by decide +kernel
theorem dX6_isPost_8 : decode cX6_isPost 8 = .ok (.invokestatic 69, 3) := by decide +kernel
theorem dX6_isPost_11 : decode cX6_isPost 11 = .ok (.ireturn, 1) := by decide +kernel
theorem dX6_isWeighed_0 : decode cX6_isWeighed 0 = .ok (.aload_n 0, 1) := by decide +kernel
theorem dX6_isWeighed_1 : decode cX6_isWeighed 1 = .ok (.iload_n 1, 1) := by decide +kernel
theorem dX6_isWeighed_2 : decode cX6_isWeighed 2 = .ok (.invokevirtual 87, 3) := by decide +kernel
theorem dX6_isWeighed_5 : decode cX6_isWeighed 5 = .ok (.ifCond .eq 26, 3) := by decide +kernel
theorem dX6_isWeighed_8 : decode cX6_isWeighed 8 = .ok (.iload_n 2, 1) := by decide +kernel
theorem dX6_isWeighed_9 : decode cX6_isWeighed 9 = .ok (.iconst 1, 1) := by decide +kernel
theorem dX6_isWeighed_10 : decode cX6_isWeighed 10 = .ok (.if_icmp .lt 21, 3) := by decide +kernel
theorem dX6_isWeighed_13 : decode cX6_isWeighed 13 = .ok (.iload_n 2, 1) := by decide +kernel
theorem dX6_isWeighed_14 : decode cX6_isWeighed 14 = .ok (.bipush 60, 2) := by decide +kernel
theorem dX6_isWeighed_16 : decode cX6_isWeighed 16 = .ok (.if_icmp .gt 15, 3) := by decide +kernel
theorem dX6_isWeighed_19 : decode cX6_isWeighed 19 = .ok (.iload_n 3, 1) := by decide +kernel
theorem dX6_isWeighed_20 : decode cX6_isWeighed 20 = .ok (.iconst 2, 1) := by decide +kernel
theorem dX6_isWeighed_21 : decode cX6_isWeighed 21 = .ok (.invokestatic 69, 3) := by decide +kernel
theorem dX6_isWeighed_24 : decode cX6_isWeighed 24 = .ok (.ifCond .eq 7, 3) := by decide +kernel
theorem dX6_isWeighed_27 : decode cX6_isWeighed 27 = .ok (.iconst 1, 1) := by decide +kernel
theorem dX6_isWeighed_28 : decode cX6_isWeighed 28 = .ok (.goto 4, 3) := by decide +kernel
theorem dX6_isWeighed_31 : decode cX6_isWeighed 31 = .ok (.iconst 0, 1) := by decide +kernel
theorem dX6_isWeighed_32 : decode cX6_isWeighed 32 = .ok (.ireturn, 1) := by decide +kernel
theorem dX6_fewestPosts_0 : decode cX6_fewestPosts 0 = .ok (.lconst 0, 1) := by decide +kernel
theorem dX6_fewestPosts_1 : decode cX6_fewestPosts 1 = .ok (.lstore_n 1, 1) := by decide +kernel
theorem dX6_fewestPosts_2 : decode cX6_fewestPosts 2 = .ok (.iconst 0, 1) := by decide +kernel
theorem dX6_fewestPosts_3 : decode cX6_fewestPosts 3 = .ok (.istore_n 3, 1) := by decide +kernel
theorem dX6_fewestPosts_4 : decode cX6_fewestPosts 4 = .ok (.iload_n 3, 1) := by decide +kernel
theorem dX6_fewestPosts_5 : decode cX6_fewestPosts 5 = .ok (.aload_n 0, 1) := by decide +kernel
theorem dX6_fewestPosts_6 : decode cX6_fewestPosts 6 = .ok (.getfield 10, 3) := by decide +kernel
theorem dX6_fewestPosts_9 : decode cX6_fewestPosts 9 = .ok (.getfield 79, 3) := by decide +kernel
theorem dX6_fewestPosts_12 : decode cX6_fewestPosts 12 = .ok (.if_icmp .ge 40, 3) := by decide +kernel
theorem dX6_fewestPosts_15 : decode cX6_fewestPosts 15 = .ok (.aload_n 0, 1) := by decide +kernel
theorem dX6_fewestPosts_16 : decode cX6_fewestPosts 16 = .ok (.getfield 33, 3) := by decide +kernel
theorem dX6_fewestPosts_19 : decode cX6_fewestPosts 19 = .ok (.iload_n 3, 1) := by decide +kernel
theorem dX6_fewestPosts_20 : decode cX6_fewestPosts 20 = .ok (.aload_n 0, 1) := by decide +kernel
theorem dX6_fewestPosts_21 : decode cX6_fewestPosts 21 = .ok (.getfield 10, 3) := by decide +kernel
theorem dX6_fewestPosts_24 : decode cX6_fewestPosts 24 = .ok (.aload_n 0, 1) := by decide +kernel
theorem dX6_fewestPosts_25 : decode cX6_fewestPosts 25 = .ok (.getfield 10, 3) := by decide +kernel
theorem dX6_fewestPosts_28 : decode cX6_fewestPosts 28 = .ok (.getfield 90, 3) := by decide +kernel
theorem dX6_fewestPosts_31 : decode cX6_fewestPosts 31 = .ok (.iload_n 3, 1) := by decide +kernel
theorem dX6_fewestPosts_32 : decode cX6_fewestPosts 32 = .ok (.aaload, 1) := by decide +kernel
theorem dX6_fewestPosts_33 : decode cX6_fewestPosts 33 = .ok (.invokevirtual 120, 3) := by decide +kernel
theorem dX6_fewestPosts_36 : decode cX6_fewestPosts 36 = .ok (.lastore, 1) := by decide +kernel
theorem dX6_fewestPosts_37 : decode cX6_fewestPosts 37 = .ok (.lload_n 1, 1) := by decide +kernel
theorem dX6_fewestPosts_38 : decode cX6_fewestPosts 38 = .ok (.aload_n 0, 1) := by decide +kernel
theorem dX6_fewestPosts_39 : decode cX6_fewestPosts 39 = .ok (.getfield 33, 3) := by decide +kernel
theorem dX6_fewestPosts_42 : decode cX6_fewestPosts 42 = .ok (.iload_n 3, 1) := by decide +kernel
theorem dX6_fewestPosts_43 : decode cX6_fewestPosts 43 = .ok (.laload, 1) := by decide +kernel
theorem dX6_fewestPosts_44 : decode cX6_fewestPosts 44 = .ok (.lor, 1) := by decide +kernel
theorem dX6_fewestPosts_45 : decode cX6_fewestPosts 45 = .ok (.lstore_n 1, 1) := by decide +kernel
theorem dX6_fewestPosts_46 : decode cX6_fewestPosts 46 = .ok (.iinc 3 1, 3) := by decide +kernel
theorem dX6_fewestPosts_49 : decode cX6_fewestPosts 49 = .ok (.goto (-45), 3) := by decide +kernel
theorem dX6_fewestPosts_52 : decode cX6_fewestPosts 52 = .ok (.iconst 1, 1) := by decide +kernel
theorem dX6_fewestPosts_53 : decode cX6_fewestPosts 53 = .ok (.aload_n 0, 1) := by decide +kernel
theorem dX6_fewestPosts_54 : decode cX6_fewestPosts 54 = .ok (.getfield 10, 3) := by decide +kernel
theorem dX6_fewestPosts_57 : decode cX6_fewestPosts 57 = .ok (.getfield 79, 3) := by decide +kernel
theorem dX6_fewestPosts_60 : decode cX6_fewestPosts 60 = .ok (.ishl, 1) := by decide +kernel
theorem dX6_fewestPosts_61 : decode cX6_fewestPosts 61 = .ok (.iconst 1, 1) := by decide +kernel
theorem dX6_fewestPosts_62 : decode cX6_fewestPosts 62 = .ok (.isub, 1) := by decide +kernel
theorem dX6_fewestPosts_63 : decode cX6_fewestPosts 63 = .ok (.istore_n 3, 1) := by decide +kernel
theorem dX6_fewestPosts_64 : decode cX6_fewestPosts 64 = .ok (.iconst 0, 1) := by decide +kernel
theorem dX6_fewestPosts_65 : decode cX6_fewestPosts 65 = .ok (.istore 4, 2) := by decide +kernel
theorem dX6_fewestPosts_67 : decode cX6_fewestPosts 67 = .ok (.iload 4, 2) := by decide +kernel
theorem dX6_fewestPosts_69 : decode cX6_fewestPosts 69 = .ok (.iconst 1, 1) := by decide +kernel
theorem dX6_fewestPosts_70 : decode cX6_fewestPosts 70 = .ok (.aload_n 0, 1) := by decide +kernel
theorem dX6_fewestPosts_71 : decode cX6_fewestPosts 71 = .ok (.getfield 10, 3) := by decide +kernel
theorem dX6_fewestPosts_74 : decode cX6_fewestPosts 74 = .ok (.getfield 79, 3) := by decide +kernel
theorem dX6_fewestPosts_77 : decode cX6_fewestPosts 77 = .ok (.ishl, 1) := by decide +kernel
theorem dX6_fewestPosts_78 : decode cX6_fewestPosts 78 = .ok (.if_icmp .ge 35, 3) := by decide +kernel
theorem dX6_fewestPosts_81 : decode cX6_fewestPosts 81 = .ok (.iload 4, 2) := by decide +kernel
theorem dX6_fewestPosts_83 : decode cX6_fewestPosts 83 = .ok (.invokestatic 198, 3) := by decide +kernel
theorem dX6_fewestPosts_86 : decode cX6_fewestPosts 86 = .ok (.iload_n 3, 1) := by decide +kernel
theorem dX6_fewestPosts_87 : decode cX6_fewestPosts 87 = .ok (.invokestatic 198, 3) := by decide +kernel
theorem dX6_fewestPosts_90 : decode cX6_fewestPosts 90 = .ok (.if_icmp .ge 17, 3) := by decide +kernel
theorem dX6_fewestPosts_93 : decode cX6_fewestPosts 93 = .ok (.aload_n 0, 1) := by decide +kernel
theorem dX6_fewestPosts_94 : decode cX6_fewestPosts 94 = .ok (.iload 4, 2) := by decide +kernel
theorem dX6_fewestPosts_96 : decode cX6_fewestPosts 96 = .ok (.invokevirtual 333, 3) := by decide +kernel
theorem dX6_fewestPosts_99 : decode cX6_fewestPosts 99 = .ok (.lload_n 1, 1) := by decide +kernel
theorem dX6_fewestPosts_100 : decode cX6_fewestPosts 100 = .ok (.lcmp, 1) := by decide +kernel
theorem dX6_fewestPosts_101 : decode cX6_fewestPosts 101 = .ok (.ifCond .ne 6, 3) := by decide +kernel
theorem dX6_fewestPosts_104 : decode cX6_fewestPosts 104 = .ok (.iload 4, 2) := by decide +kernel
theorem dX6_fewestPosts_106 : decode cX6_fewestPosts 106 = .ok (.istore_n 3, 1) := by decide +kernel
theorem dX6_fewestPosts_107 : decode cX6_fewestPosts 107 = .ok (.iinc 4 1, 3) := by decide +kernel
theorem dX6_fewestPosts_110 : decode cX6_fewestPosts 110 = .ok (.goto (-43), 3) := by decide +kernel
theorem dX6_fewestPosts_113 : decode cX6_fewestPosts 113 = .ok (.iload_n 3, 1) := by decide +kernel
theorem dX6_fewestPosts_114 : decode cX6_fewestPosts 114 = .ok (.ireturn, 1) := by decide +kernel
theorem dX6_sightOfSet_0 : decode cX6_sightOfSet 0 = .ok (.lconst 0, 1) := by decide +kernel
theorem dX6_sightOfSet_1 : decode cX6_sightOfSet 1 = .ok (.lstore_n 2, 1) := by decide +kernel
theorem dX6_sightOfSet_2 : decode cX6_sightOfSet 2 = .ok (.iconst 0, 1) := by decide +kernel
theorem dX6_sightOfSet_3 : decode cX6_sightOfSet 3 = .ok (.istore 4, 2) := by decide +kernel
theorem dX6_sightOfSet_5 : decode cX6_sightOfSet 5 = .ok (.iload 4, 2) := by decide +kernel
theorem dX6_sightOfSet_7 : decode cX6_sightOfSet 7 = .ok (.bipush 8, 2) := by decide +kernel
theorem dX6_sightOfSet_9 : decode cX6_sightOfSet 9 = .ok (.if_icmp .ge 29, 3) := by decide +kernel
theorem dX6_sightOfSet_12 : decode cX6_sightOfSet 12 = .ok (.iload_n 1, 1) := by decide +kernel
theorem dX6_sightOfSet_13 : decode cX6_sightOfSet 13 = .ok (.iload 4, 2) := by decide +kernel
theorem dX6_sightOfSet_15 : decode cX6_sightOfSet 15 = .ok (.ishr, 1) := by decide +kernel
theorem dX6_sightOfSet_16 : decode cX6_sightOfSet 16 = .ok (.iconst 1, 1) := by decide +kernel
theorem dX6_sightOfSet_17 : decode cX6_sightOfSet 17 = .ok (.iand, 1) := by decide +kernel
theorem dX6_sightOfSet_18 : decode cX6_sightOfSet 18 = .ok (.iconst 1, 1) := by decide +kernel
theorem dX6_sightOfSet_19 : decode cX6_sightOfSet 19 = .ok (.if_icmp .ne 13, 3) := by decide +kernel
theorem dX6_sightOfSet_22 : decode cX6_sightOfSet 22 = .ok (.lload_n 2, 1) := by decide +kernel
theorem dX6_sightOfSet_23 : decode cX6_sightOfSet 23 = .ok (.aload_n 0, 1) := by decide +kernel
theorem dX6_sightOfSet_24 : decode cX6_sightOfSet 24 = .ok (.getfield 33, 3) := by decide +kernel
theorem dX6_sightOfSet_27 : decode cX6_sightOfSet 27 = .ok (.iload 4, 2) := by decide +kernel
theorem dX6_sightOfSet_29 : decode cX6_sightOfSet 29 = .ok (.laload, 1) := by decide +kernel
theorem dX6_sightOfSet_30 : decode cX6_sightOfSet 30 = .ok (.lor, 1) := by decide +kernel
theorem dX6_sightOfSet_31 : decode cX6_sightOfSet 31 = .ok (.lstore_n 2, 1) := by decide +kernel
theorem dX6_sightOfSet_32 : decode cX6_sightOfSet 32 = .ok (.iinc 4 1, 3) := by decide +kernel
theorem dX6_sightOfSet_35 : decode cX6_sightOfSet 35 = .ok (.goto (-30), 3) := by decide +kernel
theorem dX6_sightOfSet_38 : decode cX6_sightOfSet 38 = .ok (.lload_n 2, 1) := by decide +kernel
theorem dX6_sightOfSet_39 : decode cX6_sightOfSet 39 = .ok (.lreturn, 1) := by decide +kernel
theorem dX6_sumDifferences_0 : decode cX6_sumDifferences 0 = .ok (.iconst 0, 1) := by decide +kernel
theorem dX6_sumDifferences_1 : decode cX6_sumDifferences 1 = .ok (.istore_n 2, 1) := by decide +kernel
theorem dX6_sumDifferences_2 : decode cX6_sumDifferences 2 = .ok (.iload_n 2, 1) := by decide +kernel
theorem dX6_sumDifferences_3 : decode cX6_sumDifferences 3 = .ok (.bipush 8, 2) := by decide +kernel
theorem dX6_sumDifferences_5 : decode cX6_sumDifferences 5 = .ok (.if_icmp .ge 16, 3) := by decide +kernel
theorem dX6_sumDifferences_8 : decode cX6_sumDifferences 8 = .ok (.aload_n 0, 1) := by decide +kernel
theorem dX6_sumDifferences_9 : decode cX6_sumDifferences 9 = .ok (.getfield 37, 3) := by decide +kernel
theorem dX6_sumDifferences_12 : decode cX6_sumDifferences 12 = .ok (.iload_n 2, 1) := by decide +kernel
theorem dX6_sumDifferences_13 : decode cX6_sumDifferences 13 = .ok (.iconst 0, 1) := by decide +kernel
theorem dX6_sumDifferences_14 : decode cX6_sumDifferences 14 = .ok (.iastore, 1) := by decide +kernel
theorem dX6_sumDifferences_15 : decode cX6_sumDifferences 15 = .ok (.iinc 2 1, 3) := by decide +kernel
theorem dX6_sumDifferences_18 : decode cX6_sumDifferences 18 = .ok (.goto (-16), 3) := by decide +kernel
theorem dX6_sumDifferences_21 : decode cX6_sumDifferences 21 = .ok (.aload_n 0, 1) := by decide +kernel
theorem dX6_sumDifferences_22 : decode cX6_sumDifferences 22 = .ok (.getfield 23, 3) := by decide +kernel
theorem dX6_sumDifferences_25 : decode cX6_sumDifferences 25 = .ok (.aload_n 0, 1) := by decide +kernel
theorem dX6_sumDifferences_26 : decode cX6_sumDifferences 26 = .ok (.getfield 10, 3) := by decide +kernel
theorem dX6_sumDifferences_29 : decode cX6_sumDifferences 29 = .ok (.invokevirtual 219, 3) := by decide +kernel
theorem dX6_sumDifferences_32 : decode cX6_sumDifferences 32 = .ok (.iconst 0, 1) := by decide +kernel
theorem dX6_sumDifferences_33 : decode cX6_sumDifferences 33 = .ok (.istore_n 2, 1) := by decide +kernel
theorem dX6_sumDifferences_34 : decode cX6_sumDifferences 34 = .ok (.iload_n 2, 1) := by decide +kernel
theorem dX6_sumDifferences_35 : decode cX6_sumDifferences 35 = .ok (.aload_n 1, 1) := by decide +kernel
theorem dX6_sumDifferences_36 : decode cX6_sumDifferences 36 = .ok (.getfield 285, 3) := by decide +kernel
theorem dX6_sumDifferences_39 : decode cX6_sumDifferences 39 = .ok (.if_icmp .ge 79, 3) := by decide +kernel
theorem dX6_sumDifferences_42 : decode cX6_sumDifferences 42 = .ok (.iload_n 2, 1) := by decide +kernel
theorem dX6_sumDifferences_43 : decode cX6_sumDifferences 43 = .ok (.ifCond .le 11, 3) := by decide +kernel
theorem dX6_sumDifferences_46 : decode cX6_sumDifferences 46 = .ok (.aload_n 0, 1) := by decide +kernel
theorem dX6_sumDifferences_47 : decode cX6_sumDifferences 47 = .ok (.getfield 23, 3) := by decide +kernel
theorem dX6_sumDifferences_50 : decode cX6_sumDifferences 50 = .ok (.iconst 1, 1) := by decide +kernel
theorem dX6_sumDifferences_51 : decode cX6_sumDifferences 51 = .ok (.invokevirtual 212, 3) := by decide +kernel
theorem dX6_sumDifferences_54 : decode cX6_sumDifferences 54 = .ok (.iconst 0, 1) := by decide +kernel
theorem dX6_sumDifferences_55 : decode cX6_sumDifferences 55 = .ok (.istore_n 3, 1) := by decide +kernel
theorem dX6_sumDifferences_56 : decode cX6_sumDifferences 56 = .ok (.iload_n 3, 1) := by decide +kernel
theorem dX6_sumDifferences_57 : decode cX6_sumDifferences 57 = .ok (.aload_n 0, 1) := by decide +kernel
theorem dX6_sumDifferences_58 : decode cX6_sumDifferences 58 = .ok (.getfield 23, 3) := by decide +kernel
theorem dX6_sumDifferences_61 : decode cX6_sumDifferences 61 = .ok (.getfield 79, 3) := by decide +kernel
theorem dX6_sumDifferences_64 : decode cX6_sumDifferences 64 = .ok (.if_icmp .ge 48, 3) := by decide +kernel
theorem dX6_sumDifferences_67 : decode cX6_sumDifferences 67 = .ok (.aload_n 1, 1) := by decide +kernel
theorem dX6_sumDifferences_68 : decode cX6_sumDifferences 68 = .ok (.iload_n 2, 1) := by decide +kernel
theorem dX6_sumDifferences_69 : decode cX6_sumDifferences 69 = .ok (.invokevirtual 300, 3) := by decide +kernel
theorem dX6_sumDifferences_72 : decode cX6_sumDifferences 72 = .ok (.ifCond .eq 40, 3) := by decide +kernel
theorem dX6_sumDifferences_75 : decode cX6_sumDifferences 75 = .ok (.aload_n 0, 1) := by decide +kernel
theorem dX6_sumDifferences_76 : decode cX6_sumDifferences 76 = .ok (.getfield 37, 3) := by decide +kernel
theorem dX6_sumDifferences_79 : decode cX6_sumDifferences 79 = .ok (.iload_n 3, 1) := by decide +kernel
theorem dX6_sumDifferences_80 : decode cX6_sumDifferences 80 = .ok (.dup2, 1) := by decide +kernel
theorem dX6_sumDifferences_81 : decode cX6_sumDifferences 81 = .ok (.iaload, 1) := by decide +kernel
theorem dX6_sumDifferences_82 : decode cX6_sumDifferences 82 = .ok (.aload_n 0, 1) := by decide +kernel
theorem dX6_sumDifferences_83 : decode cX6_sumDifferences 83 = .ok (.getfield 23, 3) := by decide +kernel
theorem dX6_sumDifferences_86 : decode cX6_sumDifferences 86 = .ok (.getfield 90, 3) := by decide +kernel
theorem dX6_sumDifferences_89 : decode cX6_sumDifferences 89 = .ok (.iload_n 3, 1) := by decide +kernel
theorem dX6_sumDifferences_90 : decode cX6_sumDifferences 90 = .ok (.aaload, 1) := by decide +kernel
theorem dX6_sumDifferences_91 : decode cX6_sumDifferences 91 = .ok (.getfield 103, 3) := by decide +kernel
theorem dX6_sumDifferences_94 : decode cX6_sumDifferences 94 = .ok (.aload_n 1, 1) := by decide +kernel
theorem dX6_sumDifferences_95 : decode cX6_sumDifferences 95 = .ok (.getfield 292, 3) := by decide +kernel
theorem dX6_sumDifferences_98 : decode cX6_sumDifferences 98 = .ok (.iload_n 2, 1) := by decide +kernel
theorem dX6_sumDifferences_99 : decode cX6_sumDifferences 99 = .ok (.iaload, 1) := by decide +kernel
theorem dX6_sumDifferences_100 : decode cX6_sumDifferences 100 = .ok (.isub, 1) := by decide +kernel
theorem dX6_sumDifferences_101 : decode cX6_sumDifferences 101 = .ok (.invokestatic 336, 3) := by decide +kernel
theorem dX6_sumDifferences_104 : decode cX6_sumDifferences 104 = .ok (.iadd, 1) := by decide +kernel
theorem dX6_sumDifferences_105 : decode cX6_sumDifferences 105 = .ok (.iastore, 1) := by decide +kernel
theorem dX6_sumDifferences_106 : decode cX6_sumDifferences 106 = .ok (.iinc 3 1, 3) := by decide +kernel
theorem dX6_sumDifferences_109 : decode cX6_sumDifferences 109 = .ok (.goto (-53), 3) := by decide +kernel
theorem dX6_sumDifferences_112 : decode cX6_sumDifferences 112 = .ok (.iinc 2 1, 3) := by decide +kernel
theorem dX6_sumDifferences_115 : decode cX6_sumDifferences 115 = .ok (.goto (-81), 3) := by decide +kernel
theorem dX6_sumDifferences_118 : decode cX6_sumDifferences 118 = .ok (.return_, 1) := by decide +kernel
theorem dX6_isBelow_0 : decode cX6_isBelow 0 = .ok (.iload_n 0, 1) := by decide +kernel
theorem dX6_isBelow_1 : decode cX6_isBelow 1 = .ok (.ifCond .lt 12, 3) := by decide +kernel
theorem dX6_isBelow_4 : decode cX6_isBelow 4 = .ok (.iload_n 0, 1) := by decide +kernel
theorem dX6_isBelow_5 : decode cX6_isBelow 5 = .ok (.iload_n 1, 1) := by decide +kernel
theorem dX6_isBelow_6 : decode cX6_isBelow 6 = .ok (.if_icmp .ge 7, 3) := by decide +kernel
theorem dX6_isBelow_9 : decode cX6_isBelow 9 = .ok (.iconst 1, 1) := by decide +kernel
theorem dX6_isBelow_10 : decode cX6_isBelow 10 = .ok (.goto 4, 3) := by decide +kernel
theorem dX6_isBelow_13 : decode cX6_isBelow 13 = .ok (.iconst 0, 1) := by decide +kernel
theorem dX6_isBelow_14 : decode cX6_isBelow 14 = .ok (.ireturn, 1) := by decide +kernel
theorem dX6_held_0 : decode cX6_held 0 = .ok (.iconst 0, 1) := by decide +kernel
theorem dX6_held_1 : decode cX6_held 1 = .ok (.iload_n 0, 1) := by decide +kernel
theorem dX6_held_2 : decode cX6_held 2 = .ok (.iload_n 1, 1) := by decide +kernel
theorem dX6_held_3 : decode cX6_held 3 = .ok (.invokestatic 165, 3) := by decide +kernel
theorem dX6_held_6 : decode cX6_held 6 = .ok (.invokestatic 339, 3) := by decide +kernel
theorem dX6_held_9 : decode cX6_held 9 = .ok (.ireturn, 1) := by decide +kernel
theorem dX6_oneIf_0 : decode cX6_oneIf 0 = .ok (.iload_n 0, 1) := by decide +kernel
theorem dX6_oneIf_1 : decode cX6_oneIf 1 = .ok (.ifCond .eq 7, 3) := by decide +kernel
theorem dX6_oneIf_4 : decode cX6_oneIf 4 = .ok (.iconst 1, 1) := by decide +kernel
theorem dX6_oneIf_5 : decode cX6_oneIf 5 = .ok (.goto 4, 3) := by decide +kernel
theorem dX6_oneIf_8 : decode cX6_oneIf 8 = .ok (.iconst 0, 1) := by decide +kernel
theorem dX6_oneIf_9 : decode cX6_oneIf 9 = .ok (.ireturn, 1) := by decide +kernel
theorem dX6_bit_0 : decode cX6_bit 0 = .ok (.lconst 1, 1) := by decide +kernel
theorem dX6_bit_1 : decode cX6_bit 1 = .ok (.iload_n 0, 1) := by decide +kernel
theorem dX6_bit_2 : decode cX6_bit 2 = .ok (.lshl, 1) := by decide +kernel
theorem dX6_bit_3 : decode cX6_bit 3 = .ok (.lreturn, 1) := by decide +kernel
theorem dX6_firstOf_0 : decode cX6_firstOf 0 = .ok (.iconst 0, 1) := by decide +kernel
theorem dX6_firstOf_1 : decode cX6_firstOf 1 = .ok (.istore_n 2, 1) := by decide +kernel
theorem dX6_firstOf_2 : decode cX6_firstOf 2 = .ok (.iload_n 2, 1) := by decide +kernel
theorem dX6_firstOf_3 : decode cX6_firstOf 3 = .ok (.bipush 48, 2) := by decide +kernel
theorem dX6_firstOf_5 : decode cX6_firstOf 5 = .ok (.if_icmp .ge 22, 3) := by decide +kernel
theorem dX6_firstOf_8 : decode cX6_firstOf 8 = .ok (.lload_n 0, 1) := by decide +kernel
theorem dX6_firstOf_9 : decode cX6_firstOf 9 = .ok (.iload_n 2, 1) := by decide +kernel
theorem dX6_firstOf_10 : decode cX6_firstOf 10 = .ok (.invokestatic 153, 3) := by decide +kernel
theorem dX6_firstOf_13 : decode cX6_firstOf 13 = .ok (.land, 1) := by decide +kernel
theorem dX6_firstOf_14 : decode cX6_firstOf 14 = .ok (.lconst 0, 1) := by decide +kernel
theorem dX6_firstOf_15 : decode cX6_firstOf 15 = .ok (.lcmp, 1) := by decide +kernel
theorem dX6_firstOf_16 : decode cX6_firstOf 16 = .ok (.ifCond .eq 5, 3) := by decide +kernel
theorem dX6_firstOf_19 : decode cX6_firstOf 19 = .ok (.iload_n 2, 1) := by decide +kernel
theorem dX6_firstOf_20 : decode cX6_firstOf 20 = .ok (.ireturn, 1) := by decide +kernel
theorem dX6_firstOf_21 : decode cX6_firstOf 21 = .ok (.iinc 2 1, 3) := by decide +kernel
theorem dX6_firstOf_24 : decode cX6_firstOf 24 = .ok (.goto (-22), 3) := by decide +kernel
theorem dX6_firstOf_27 : decode cX6_firstOf 27 = .ok (.ldc 142, 2) := by decide +kernel
theorem dX6_firstOf_29 : decode cX6_firstOf 29 = .ok (.ireturn, 1) := by decide +kernel
theorem dX6_cellsBeside_0 : decode cX6_cellsBeside 0 = .ok (.lload_n 0, 1) := by decide +kernel
theorem dX6_cellsBeside_1 : decode cX6_cellsBeside 1 = .ok (.ldc2_w 342, 3) := by decide +kernel
theorem dX6_cellsBeside_4 : decode cX6_cellsBeside 4 = .ok (.land, 1) := by decide +kernel
theorem dX6_cellsBeside_5 : decode cX6_cellsBeside 5 = .ok (.iconst 1, 1) := by decide +kernel
theorem dX6_cellsBeside_6 : decode cX6_cellsBeside 6 = .ok (.lshl, 1) := by decide +kernel
theorem dX6_cellsBeside_7 : decode cX6_cellsBeside 7 = .ok (.lload_n 0, 1) := by decide +kernel
theorem dX6_cellsBeside_8 : decode cX6_cellsBeside 8 = .ok (.ldc2_w 344, 3) := by decide +kernel
theorem dX6_cellsBeside_11 : decode cX6_cellsBeside 11 = .ok (.land, 1) := by decide +kernel
theorem dX6_cellsBeside_12 : decode cX6_cellsBeside 12 = .ok (.iconst 1, 1) := by decide +kernel
theorem dX6_cellsBeside_13 : decode cX6_cellsBeside 13 = .ok (.lushr, 1) := by decide +kernel
theorem dX6_cellsBeside_14 : decode cX6_cellsBeside 14 = .ok (.lor, 1) := by decide +kernel
theorem dX6_cellsBeside_15 : decode cX6_cellsBeside 15 = .ok (.lstore_n 2, 1) := by decide +kernel
theorem dX6_cellsBeside_16 : decode cX6_cellsBeside 16 = .ok (.lload_n 2, 1) := by decide +kernel
theorem dX6_cellsBeside_17 : decode cX6_cellsBeside 17 = .ok (.lload_n 0, 1) := by decide +kernel
theorem dX6_cellsBeside_18 : decode cX6_cellsBeside 18 = .ok (.bipush 8, 2) := by decide +kernel
theorem dX6_cellsBeside_20 : decode cX6_cellsBeside 20 = .ok (.lshl, 1) := by decide +kernel
theorem dX6_cellsBeside_21 : decode cX6_cellsBeside 21 = .ok (.lor, 1) := by decide +kernel
theorem dX6_cellsBeside_22 : decode cX6_cellsBeside 22 = .ok (.lload_n 0, 1) := by decide +kernel
theorem dX6_cellsBeside_23 : decode cX6_cellsBeside 23 = .ok (.bipush 8, 2) := by decide +kernel
theorem dX6_cellsBeside_25 : decode cX6_cellsBeside 25 = .ok (.lushr, 1) := by decide +kernel
theorem dX6_cellsBeside_26 : decode cX6_cellsBeside 26 = .ok (.lor, 1) := by decide +kernel
theorem dX6_cellsBeside_27 : decode cX6_cellsBeside 27 = .ok (.ldc2_w 346, 3) := by decide +kernel
theorem dX6_cellsBeside_30 : decode cX6_cellsBeside 30 = .ok (.land, 1) := by decide +kernel
theorem dX6_cellsBeside_31 : decode cX6_cellsBeside 31 = .ok (.lreturn, 1) := by decide +kernel
