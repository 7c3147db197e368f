theorem dX0_init_0 : decode cX0_init 0 = .ok (.aload_n 0, 1) := by decide +kernel
theorem dX0_init_1 : decode cX0_init 1 = .ok (.invokespecial 3, 3) := by decide +kernel
theorem dX0_init_4 : decode cX0_init 4 = .ok (.aload_n 0, 1) := by decide +kernel
theorem dX0_init_5 : decode cX0_init 5 = .ok (.iconst 0, 1) := by decide +kernel
theorem dX0_init_6 : decode cX0_init 6 = .ok (.putfield 9, 3) := by decide +kernel
theorem dX0_init_9 : decode cX0_init 9 = .ok (.aload_n 0, 1) := by decide +kernel
theorem dX0_init_10 : decode cX0_init 10 = .ok (.iconst 0, 1) := by decide +kernel
theorem dX0_init_11 : decode cX0_init 11 = .ok (.putfield 15, 3) := by decide +kernel
theorem dX0_init_14 : decode cX0_init 14 = .ok (.aload_n 0, 1) := by decide +kernel
theorem dX0_init_15 : decode cX0_init 15 = .ok (.iconst 0, 1) := by decide +kernel
theorem dX0_init_16 : decode cX0_init 16 = .ok (.putfield 18, 3) := by decide +kernel
theorem dX0_init_19 : decode cX0_init 19 = .ok (.aload_n 0, 1) := by decide +kernel
theorem dX0_init_20 : decode cX0_init 20 = .ok (.iconst 0, 1) := by decide +kernel
theorem dX0_init_21 : decode cX0_init 21 = .ok (.putfield 21, 3) := by decide +kernel
theorem dX0_init_24 : decode cX0_init 24 = .ok (.return_, 1) := by decide +kernel
theorem dX0_become_0 : decode cX0_become 0 = .ok (.aload_n 0, 1) := by decide +kernel
theorem dX0_become_1 : decode cX0_become 1 = .ok (.iload_n 1, 1) := by decide +kernel
theorem dX0_become_2 : decode cX0_become 2 = .ok (.putfield 9, 3) := by decide +kernel
theorem dX0_become_5 : decode cX0_become 5 = .ok (.aload_n 0, 1) := by decide +kernel
theorem dX0_become_6 : decode cX0_become 6 = .ok (.iload_n 2, 1) := by decide +kernel
theorem dX0_become_7 : decode cX0_become 7 = .ok (.putfield 15, 3) := by decide +kernel
theorem dX0_become_10 : decode cX0_become 10 = .ok (.aload_n 0, 1) := by decide +kernel
theorem dX0_become_11 : decode cX0_become 11 = .ok (.iload_n 3, 1) := by decide +kernel
theorem dX0_become_12 : decode cX0_become 12 = .ok (.putfield 18, 3) := by decide +kernel
theorem dX0_become_15 : decode cX0_become 15 = .ok (.aload_n 0, 1) := by decide +kernel
theorem dX0_become_16 : decode cX0_become 16 = .ok (.iload 4, 2) := by decide +kernel
theorem dX0_become_18 : decode cX0_become 18 = .ok (.putfield 21, 3) := by decide +kernel
theorem dX0_become_21 : decode cX0_become 21 = .ok (.return_, 1) := by decide +kernel
theorem dX0_becomeAs_0 : decode cX0_becomeAs 0 = .ok (.aload_n 0, 1) := by decide +kernel
theorem dX0_becomeAs_1 : decode cX0_becomeAs 1 = .ok (.aload_n 1, 1) := by decide +kernel
theorem dX0_becomeAs_2 : decode cX0_becomeAs 2 = .ok (.getfield 9, 3) := by decide +kernel
theorem dX0_becomeAs_5 : decode cX0_becomeAs 5 = .ok (.aload_n 1, 1) := by decide +kernel
theorem dX0_becomeAs_6 : decode cX0_becomeAs 6 = .ok (.getfield 15, 3) := by decide +kernel
theorem dX0_becomeAs_9 : decode cX0_becomeAs 9 = .ok (.aload_n 1, 1) := by decide +kernel
theorem dX0_becomeAs_10 : decode cX0_becomeAs 10 = .ok (.getfield 18, 3) := by decide +kernel
theorem dX0_becomeAs_13 : decode cX0_becomeAs 13 = .ok (.aload_n 1, 1) := by decide +kernel
theorem dX0_becomeAs_14 : decode cX0_becomeAs 14 = .ok (.getfield 21, 3) := by decide +kernel
theorem dX0_becomeAs_17 : decode cX0_becomeAs 17 = .ok (.invokevirtual 24, 3) := by decide +kernel
theorem dX0_becomeAs_20 : decode cX0_becomeAs 20 = .ok (.return_, 1) := by decide +kernel
theorem dX0_isOf_0 : decode cX0_isOf 0 = .ok (.aload_n 0, 1) := by decide +kernel
theorem dX0_isOf_1 : decode cX0_isOf 1 = .ok (.getfield 9, 3) := by decide +kernel
theorem dX0_isOf_4 : decode cX0_isOf 4 = .ok (.istore_n 2, 1) := by decide +kernel
theorem dX0_isOf_5 : decode cX0_isOf 5 = .ok (.iconst 0, 1) := by decide +kernel
theorem dX0_isOf_6 : decode cX0_isOf 6 = .ok (.istore_n 3, 1) := by decide +kernel
theorem dX0_isOf_7 : decode cX0_isOf 7 = .ok (.iload_n 3, 1) := by decide +kernel
theorem dX0_isOf_8 : decode cX0_isOf 8 = .ok (.bipush 6, 2) := by decide +kernel
theorem dX0_isOf_10 : decode cX0_isOf 10 = .ok (.if_icmp .ge 31, 3) := by decide +kernel
theorem dX0_isOf_13 : decode cX0_isOf 13 = .ok (.iload_n 2, 1) := by decide +kernel
theorem dX0_isOf_14 : decode cX0_isOf 14 = .ok (.bipush 6, 2) := by decide +kernel
theorem dX0_isOf_16 : decode cX0_isOf 16 = .ok (.invokestatic 28, 3) := by decide +kernel
theorem dX0_isOf_19 : decode cX0_isOf 19 = .ok (.ifCond .eq 22, 3) := by decide +kernel
theorem dX0_isOf_22 : decode cX0_isOf 22 = .ok (.iload_n 2, 1) := by decide +kernel
theorem dX0_isOf_23 : decode cX0_isOf 23 = .ok (.iload_n 1, 1) := by decide +kernel
theorem dX0_isOf_24 : decode cX0_isOf 24 = .ok (.if_icmp .ne 5, 3) := by decide +kernel
theorem dX0_isOf_27 : decode cX0_isOf 27 = .ok (.iconst 1, 1) := by decide +kernel
theorem dX0_isOf_28 : decode cX0_isOf 28 = .ok (.ireturn, 1) := by decide +kernel
theorem dX0_isOf_29 : decode cX0_isOf 29 = .ok (.getstatic 32, 3) := by decide +kernel
theorem dX0_isOf_32 : decode cX0_isOf 32 = .ok (.iload_n 2, 1) := by decide +kernel
theorem dX0_isOf_33 : decode cX0_isOf 33 = .ok (.iaload, 1) := by decide +kernel
theorem dX0_isOf_34 : decode cX0_isOf 34 = .ok (.istore_n 2, 1) := by decide +kernel
theorem dX0_isOf_35 : decode cX0_isOf 35 = .ok (.iinc 3 1, 3) := by decide +kernel
theorem dX0_isOf_38 : decode cX0_isOf 38 = .ok (.goto (-31), 3) := by decide +kernel
theorem dX0_isOf_41 : decode cX0_isOf 41 = .ok (.iconst 0, 1) := by decide +kernel
theorem dX0_isOf_42 : decode cX0_isOf 42 = .ok (.ireturn, 1) := by decide +kernel
theorem dX0_isAwake_0 : decode cX0_isAwake 0 = .ok (.aload_n 0, 1) := by decide +kernel
theorem dX0_isAwake_1 : decode cX0_isAwake 1 = .ok (.getfield 9, 3) := by decide +kernel
theorem dX0_isAwake_4 : decode cX0_isAwake 4 = .ok (.tableswitch 77 2 5 #[32, 77, 44, 62], 32) := by decide +kernel
theorem dX0_isAwake_36 : decode cX0_isAwake 36 = .ok (.iload_n 1, 1) := by decide +kernel
theorem dX0_isAwake_37 : decode cX0_isAwake 37 = .ok (.iconst 2, 1) := by decide +kernel
theorem dX0_isAwake_38 : decode cX0_isAwake 38 = .ok (.irem, 1) := by decide +kernel
theorem dX0_isAwake_39 : decode cX0_isAwake 39 = .ok (.ifCond .ne 7, 3) := by decide +kernel
theorem dX0_isAwake_42 : decode cX0_isAwake 42 = .ok (.iconst 1, 1) := by decide +kernel
theorem dX0_isAwake_43 : decode cX0_isAwake 43 = .ok (.goto 4, 3) := by decide +kernel
theorem dX0_isAwake_46 : decode cX0_isAwake 46 = .ok (.iconst 0, 1) := by decide +kernel
theorem dX0_isAwake_47 : decode cX0_isAwake 47 = .ok (.ireturn, 1) := by decide +kernel
theorem dX0_isAwake_48 : decode cX0_isAwake 48 = .ok (.iload_n 1, 1) := by decide +kernel
theorem dX0_isAwake_49 : decode cX0_isAwake 49 = .ok (.iconst 2, 1) := by decide +kernel
theorem dX0_isAwake_50 : decode cX0_isAwake 50 = .ok (.irem, 1) := by decide +kernel
theorem dX0_isAwake_51 : decode cX0_isAwake 51 = .ok (.ifCond .eq 9, 3) := by decide +kernel
theorem dX0_isAwake_54 : decode cX0_isAwake 54 = .ok (.iload_n 1, 1) := by decide +kernel
theorem dX0_isAwake_55 : decode cX0_isAwake 55 = .ok (.iconst 3, 1) := by decide +kernel
theorem dX0_isAwake_56 : decode cX0_isAwake 56 = .ok (.irem, 1) := by decide +kernel
theorem dX0_isAwake_57 : decode cX0_isAwake 57 = .ok (.ifCond .ne 7, 3) := by decide +kernel
theorem dX0_isAwake_60 : decode cX0_isAwake 60 = .ok (.iconst 1, 1) := by decide +kernel
theorem dX0_isAwake_61 : decode cX0_isAwake 61 = .ok (.goto 4, 3) := by decide +kernel
theorem dX0_isAwake_64 : decode cX0_isAwake 64 = .ok (.iconst 0, 1) := by decide +kernel
theorem dX0_isAwake_65 : decode cX0_isAwake 65 = .ok (.ireturn, 1) := by decide +kernel
theorem dX0_isAwake_66 : decode cX0_isAwake 66 = .ok (.aload_n 0, 1) := by decide +kernel
theorem dX0_isAwake_67 : decode cX0_isAwake 67 = .ok (.getfield 21, 3) := by decide +kernel
theorem dX0_isAwake_70 : decode cX0_isAwake 70 = .ok (.bipush 50, 2) := by decide +kernel
theorem dX0_isAwake_72 : decode cX0_isAwake 72 = .ok (.if_icmp .ge 7, 3) := by decide +kernel
theorem dX0_isAwake_75 : decode cX0_isAwake 75 = .ok (.iconst 1, 1) := by decide +kernel
theorem dX0_isAwake_76 : decode cX0_isAwake 76 = .ok (.goto 4, 3) := by decide +kernel
theorem dX0_isAwake_79 : decode cX0_isAwake 79 = .ok (.iconst 0, 1) := by decide +kernel
theorem dX0_isAwake_80 : decode cX0_isAwake 80 = .ok (.ireturn, 1) := by decide +kernel
theorem dX0_isAwake_81 : decode cX0_isAwake 81 = .ok (.iconst 1, 1) := by decide +kernel
theorem dX0_isAwake_82 : decode cX0_isAwake 82 = .ok (.ireturn, 1) := by decide +kernel
theorem dX0_looksAt_0 : decode cX0_looksAt 0 = .ok (.aload_n 0, 1) := by decide +kernel
theorem dX0_looksAt_1 : decode cX0_looksAt 1 = .ok (.getfield 9, 3) := by decide +kernel
theorem dX0_looksAt_4 : decode cX0_looksAt 4 = .ok (.tableswitch 99 1 4 #[32, 99, 56, 80], 32) := by decide +kernel
theorem dX0_looksAt_36 : decode cX0_looksAt 36 = .ok (.aload_n 0, 1) := by decide +kernel
theorem dX0_looksAt_37 : decode cX0_looksAt 37 = .ok (.iload_n 1, 1) := by decide +kernel
theorem dX0_looksAt_38 : decode cX0_looksAt 38 = .ok (.iload_n 2, 1) := by decide +kernel
theorem dX0_looksAt_39 : decode cX0_looksAt 39 = .ok (.invokevirtual 36, 3) := by decide +kernel
theorem dX0_looksAt_42 : decode cX0_looksAt 42 = .ok (.aload_n 0, 1) := by decide +kernel
theorem dX0_looksAt_43 : decode cX0_looksAt 43 = .ok (.iload_n 1, 1) := by decide +kernel
theorem dX0_looksAt_44 : decode cX0_looksAt 44 = .ok (.iload_n 2, 1) := by decide +kernel
theorem dX0_looksAt_45 : decode cX0_looksAt 45 = .ok (.invokevirtual 40, 3) := by decide +kernel
theorem dX0_looksAt_48 : decode cX0_looksAt 48 = .ok (.invokestatic 43, 3) := by decide +kernel
theorem dX0_looksAt_51 : decode cX0_looksAt 51 = .ok (.if_icmp .lt 7, 3) := by decide +kernel
theorem dX0_looksAt_54 : decode cX0_looksAt 54 = .ok (.iconst 1, 1) := by decide +kernel
theorem dX0_looksAt_55 : decode cX0_looksAt 55 = .ok (.goto 4, 3) := by decide +kernel
theorem dX0_looksAt_58 : decode cX0_looksAt 58 = .ok (.iconst 0, 1) := by decide +kernel
theorem dX0_looksAt_59 : decode cX0_looksAt 59 = .ok (.ireturn, 1) := by decide +kernel
theorem dX0_looksAt_60 : decode cX0_looksAt 60 = .ok (.aload_n 0, 1) := by decide +kernel
theorem dX0_looksAt_61 : decode cX0_looksAt 61 = .ok (.iload_n 1, 1) := by decide +kernel
theorem dX0_looksAt_62 : decode cX0_looksAt 62 = .ok (.iload_n 2, 1) := by decide +kernel
theorem dX0_looksAt_63 : decode cX0_looksAt 63 = .ok (.invokevirtual 36, 3) := by decide +kernel
theorem dX0_looksAt_66 : decode cX0_looksAt 66 = .ok (.ifCond .le 16, 3) := by decide +kernel
theorem dX0_looksAt_69 : decode cX0_looksAt 69 = .ok (.aload_n 0, 1) := by decide +kernel
theorem dX0_looksAt_70 : decode cX0_looksAt 70 = .ok (.iload_n 1, 1) := by decide +kernel
theorem dX0_looksAt_71 : decode cX0_looksAt 71 = .ok (.iload_n 2, 1) := by decide +kernel
theorem dX0_looksAt_72 : decode cX0_looksAt 72 = .ok (.invokevirtual 40, 3) := by decide +kernel
theorem dX0_looksAt_75 : decode cX0_looksAt 75 = .ok (.ifCond .ne 7, 3) := by decide +kernel
theorem dX0_looksAt_78 : decode cX0_looksAt 78 = .ok (.iconst 1, 1) := by decide +kernel
theorem dX0_looksAt_79 : decode cX0_looksAt 79 = .ok (.goto 4, 3) := by decide +kernel
theorem dX0_looksAt_82 : decode cX0_looksAt 82 = .ok (.iconst 0, 1) := by decide +kernel
theorem dX0_looksAt_83 : decode cX0_looksAt 83 = .ok (.ireturn, 1) := by decide +kernel
theorem dX0_looksAt_84 : decode cX0_looksAt 84 = .ok (.iload_n 1, 1) := by decide +kernel
theorem dX0_looksAt_85 : decode cX0_looksAt 85 = .ok (.invokestatic 43, 3) := by decide +kernel
theorem dX0_looksAt_88 : decode cX0_looksAt 88 = .ok (.iload_n 2, 1) := by decide +kernel
theorem dX0_looksAt_89 : decode cX0_looksAt 89 = .ok (.invokestatic 43, 3) := by decide +kernel
theorem dX0_looksAt_92 : decode cX0_looksAt 92 = .ok (.iadd, 1) := by decide +kernel
theorem dX0_looksAt_93 : decode cX0_looksAt 93 = .ok (.iconst 2, 1) := by decide +kernel
theorem dX0_looksAt_94 : decode cX0_looksAt 94 = .ok (.if_icmp .gt 7, 3) := by decide +kernel
theorem dX0_looksAt_97 : decode cX0_looksAt 97 = .ok (.iconst 1, 1) := by decide +kernel
theorem dX0_looksAt_98 : decode cX0_looksAt 98 = .ok (.goto 4, 3) := by decide +kernel
theorem dX0_looksAt_101 : decode cX0_looksAt 101 = .ok (.iconst 0, 1) := by decide +kernel
theorem dX0_looksAt_102 : decode cX0_looksAt 102 = .ok (.ireturn, 1) := by decide +kernel
theorem dX0_looksAt_103 : decode cX0_looksAt 103 = .ok (.iconst 1, 1) := by decide +kernel
theorem dX0_looksAt_104 : decode cX0_looksAt 104 = .ok (.ireturn, 1) := by decide +kernel
theorem dX0_aheadBy_0 : decode cX0_aheadBy 0 = .ok (.aload_n 0, 1) := by decide +kernel
theorem dX0_aheadBy_1 : decode cX0_aheadBy 1 = .ok (.getfield 18, 3) := by decide +kernel
theorem dX0_aheadBy_4 : decode cX0_aheadBy 4 = .ok (.tableswitch 35 0 2 #[28, 31, 33], 28) := by decide +kernel
theorem dX0_aheadBy_32 : decode cX0_aheadBy 32 = .ok (.iload_n 1, 1) := by decide +kernel
theorem dX0_aheadBy_33 : decode cX0_aheadBy 33 = .ok (.ineg, 1) := by decide +kernel
theorem dX0_aheadBy_34 : decode cX0_aheadBy 34 = .ok (.ireturn, 1) := by decide +kernel
theorem dX0_aheadBy_35 : decode cX0_aheadBy 35 = .ok (.iload_n 2, 1) := by decide +kernel
theorem dX0_aheadBy_36 : decode cX0_aheadBy 36 = .ok (.ireturn, 1) := by decide +kernel
theorem dX0_aheadBy_37 : decode cX0_aheadBy 37 = .ok (.iload_n 1, 1) := by decide +kernel
theorem dX0_aheadBy_38 : decode cX0_aheadBy 38 = .ok (.ireturn, 1) := by decide +kernel
theorem dX0_aheadBy_39 : decode cX0_aheadBy 39 = .ok (.iload_n 2, 1) := by decide +kernel
theorem dX0_aheadBy_40 : decode cX0_aheadBy 40 = .ok (.ineg, 1) := by decide +kernel
theorem dX0_aheadBy_41 : decode cX0_aheadBy 41 = .ok (.ireturn, 1) := by decide +kernel
theorem dX0_asideBy_0 : decode cX0_asideBy 0 = .ok (.aload_n 0, 1) := by decide +kernel
theorem dX0_asideBy_1 : decode cX0_asideBy 1 = .ok (.getfield 18, 3) := by decide +kernel
theorem dX0_asideBy_4 : decode cX0_asideBy 4 = .ok (.iconst 2, 1) := by decide +kernel
theorem dX0_asideBy_5 : decode cX0_asideBy 5 = .ok (.irem, 1) := by decide +kernel
theorem dX0_asideBy_6 : decode cX0_asideBy 6 = .ok (.ifCond .ne 7, 3) := by decide +kernel
theorem dX0_asideBy_9 : decode cX0_asideBy 9 = .ok (.iload_n 2, 1) := by decide +kernel
theorem dX0_asideBy_10 : decode cX0_asideBy 10 = .ok (.goto 4, 3) := by decide +kernel
theorem dX0_asideBy_13 : decode cX0_asideBy 13 = .ok (.iload_n 1, 1) := by decide +kernel
theorem dX0_asideBy_14 : decode cX0_asideBy 14 = .ok (.ireturn, 1) := by decide +kernel
theorem dX0_reachFrom_0 : decode cX0_reachFrom 0 = .ok (.aload_n 0, 1) := by decide +kernel
theorem dX0_reachFrom_1 : decode cX0_reachFrom 1 = .ok (.getfield 9, 3) := by decide +kernel
theorem dX0_reachFrom_4 : decode cX0_reachFrom 4 = .ok (.lookupswitch 38 #[(1, 28), (3, 32)], 28) := by decide +kernel
theorem dX0_reachFrom_32 : decode cX0_reachFrom 32 = .ok (.iload_n 1, 1) := by decide +kernel
theorem dX0_reachFrom_33 : decode cX0_reachFrom 33 = .ok (.iconst 2, 1) := by decide +kernel
theorem dX0_reachFrom_34 : decode cX0_reachFrom 34 = .ok (.iadd, 1) := by decide +kernel
theorem dX0_reachFrom_35 : decode cX0_reachFrom 35 = .ok (.ireturn, 1) := by decide +kernel
theorem dX0_reachFrom_36 : decode cX0_reachFrom 36 = .ok (.iconst 2, 1) := by decide +kernel
theorem dX0_reachFrom_37 : decode cX0_reachFrom 37 = .ok (.iload_n 1, 1) := by decide +kernel
theorem dX0_reachFrom_38 : decode cX0_reachFrom 38 = .ok (.iconst 2, 1) := by decide +kernel
theorem dX0_reachFrom_39 : decode cX0_reachFrom 39 = .ok (.iadd, 1) := by decide +kernel
theorem dX0_reachFrom_40 : decode cX0_reachFrom 40 = .ok (.imul, 1) := by decide +kernel
theorem dX0_reachFrom_41 : decode cX0_reachFrom 41 = .ok (.ireturn, 1) := by decide +kernel
theorem dX0_reachFrom_42 : decode cX0_reachFrom 42 = .ok (.iload_n 1, 1) := by decide +kernel
theorem dX0_reachFrom_43 : decode cX0_reachFrom 43 = .ok (.ireturn, 1) := by decide +kernel
theorem dX0_worth_0 : decode cX0_worth 0 = .ok (.aload_n 0, 1) := by decide +kernel
theorem dX0_worth_1 : decode cX0_worth 1 = .ok (.getfield 9, 3) := by decide +kernel
theorem dX0_worth_4 : decode cX0_worth 4 = .ok (.tableswitch 73 1 5 #[36, 52, 43, 60, 71], 36) := by decide +kernel
theorem dX0_worth_40 : decode cX0_worth 40 = .ok (.aload_n 0, 1) := by decide +kernel
theorem dX0_worth_41 : decode cX0_worth 41 = .ok (.getfield 21, 3) := by decide +kernel
theorem dX0_worth_44 : decode cX0_worth 44 = .ok (.iconst 4, 1) := by decide +kernel
theorem dX0_worth_45 : decode cX0_worth 45 = .ok (.iadd, 1) := by decide +kernel
theorem dX0_worth_46 : decode cX0_worth 46 = .ok (.ireturn, 1) := by decide +kernel
theorem dX0_worth_47 : decode cX0_worth 47 = .ok (.iconst 2, 1) := by decide +kernel
theorem dX0_worth_48 : decode cX0_worth 48 = .ok (.aload_n 0, 1) := by decide +kernel
theorem dX0_worth_49 : decode cX0_worth 49 = .ok (.getfield 21, 3) := by decide +kernel
theorem dX0_worth_52 : decode cX0_worth 52 = .ok (.iconst 4, 1) := by decide +kernel
theorem dX0_worth_53 : decode cX0_worth 53 = .ok (.iadd, 1) := by decide +kernel
theorem dX0_worth_54 : decode cX0_worth 54 = .ok (.imul, 1) := by decide +kernel
theorem dX0_worth_55 : decode cX0_worth 55 = .ok (.ireturn, 1) := by decide +kernel
theorem dX0_worth_56 : decode cX0_worth 56 = .ok (.bipush 99, 2) := by decide +kernel
theorem dX0_worth_58 : decode cX0_worth 58 = .ok (.aload_n 0, 1) := by decide +kernel
theorem dX0_worth_59 : decode cX0_worth 59 = .ok (.getfield 21, 3) := by decide +kernel
theorem dX0_worth_62 : decode cX0_worth 62 = .ok (.isub, 1) := by decide +kernel
theorem dX0_worth_63 : decode cX0_worth 63 = .ok (.ireturn, 1) := by decide +kernel
theorem dX0_worth_64 : decode cX0_worth 64 = .ok (.bipush 99, 2) := by decide +kernel
theorem dX0_worth_66 : decode cX0_worth 66 = .ok (.aload_n 0, 1) := by decide +kernel
theorem dX0_worth_67 : decode cX0_worth 67 = .ok (.getfield 21, 3) := by decide +kernel
theorem dX0_worth_70 : decode cX0_worth 70 = .ok (.isub, 1) := by decide +kernel
theorem dX0_worth_71 : decode cX0_worth 71 = .ok (.bipush 6, 2) := by decide +kernel
theorem dX0_worth_73 : decode cX0_worth 73 = .ok (.isub, 1) := by decide +kernel
theorem dX0_worth_74 : decode cX0_worth 74 = .ok (.ireturn, 1) := by decide +kernel
theorem dX0_worth_75 : decode cX0_worth 75 = .ok (.iconst 3, 1) := by decide +kernel
theorem dX0_worth_76 : decode cX0_worth 76 = .ok (.ireturn, 1) := by decide +kernel
theorem dX0_worth_77 : decode cX0_worth 77 = .ok (.aload_n 0, 1) := by decide +kernel
theorem dX0_worth_78 : decode cX0_worth 78 = .ok (.getfield 21, 3) := by decide +kernel
theorem dX0_worth_81 : decode cX0_worth 81 = .ok (.ireturn, 1) := by decide +kernel
theorem dX1_init_0 : decode cX1_init 0 = .ok (.aload_n 0, 1) := by decide +kernel
theorem dX1_init_1 : decode cX1_init 1 = .ok (.invokespecial 3, 3) := by decide +kernel
theorem dX1_init_4 : decode cX1_init 4 = .ok (.aload_n 0, 1) := by decide +kernel
theorem dX1_init_5 : decode cX1_init 5 = .ok (.bipush 96, 2) := by decide +kernel
theorem dX1_init_7 : decode cX1_init 7 = .ok (.newarray .int, 2) := by decide +kernel
theorem dX1_init_9 : decode cX1_init 9 = .ok (.putfield 9, 3) := by decide +kernel
theorem dX1_init_12 : decode cX1_init 12 = .ok (.aload_n 0, 1) := by decide +kernel
theorem dX1_init_13 : decode cX1_init 13 = .ok (.iconst 0, 1) := by decide +kernel
theorem dX1_init_14 : decode cX1_init 14 = .ok (.putfield 15, 3) := by decide +kernel
theorem dX1_init_17 : decode cX1_init 17 = .ok (.aload_n 0, 1) := by decide +kernel
theorem dX1_init_18 : decode cX1_init 18 = .ok (.bipush 96, 2) := by decide +kernel
theorem dX1_init_20 : decode cX1_init 20 = .ok (.newarray .int, 2) := by decide +kernel
theorem dX1_init_22 : decode cX1_init 22 = .ok (.putfield 19, 3) := by decide +kernel
theorem dX1_init_25 : decode cX1_init 25 = .ok (.aload_n 0, 1) := by decide +kernel
theorem dX1_init_26 : decode cX1_init 26 = .ok (.iconst 0, 1) := by decide +kernel
theorem dX1_init_27 : decode cX1_init 27 = .ok (.putfield 22, 3) := by decide +kernel
theorem dX1_init_30 : decode cX1_init 30 = .ok (.aload_n 0, 1) := by decide +kernel
theorem dX1_init_31 : decode cX1_init 31 = .ok (.bipush 96, 2) := by decide +kernel
theorem dX1_init_33 : decode cX1_init 33 = .ok (.newarray .int, 2) := by decide +kernel
theorem dX1_init_35 : decode cX1_init 35 = .ok (.putfield 25, 3) := by decide +kernel
theorem dX1_init_38 : decode cX1_init 38 = .ok (.aload_n 0, 1) := by decide +kernel
theorem dX1_init_39 : decode cX1_init 39 = .ok (.iconst 0, 1) := by decide +kernel
theorem dX1_init_40 : decode cX1_init 40 = .ok (.putfield 28, 3) := by decide +kernel
theorem dX1_init_43 : decode cX1_init 43 = .ok (.aload_n 0, 1) := by decide +kernel
theorem dX1_init_44 : decode cX1_init 44 = .ok (.iconst (-1), 1) := by decide +kernel
theorem dX1_init_45 : decode cX1_init 45 = .ok (.putfield 31, 3) := by decide +kernel
theorem dX1_init_48 : decode cX1_init 48 = .ok (.aload_n 0, 1) := by decide +kernel
theorem dX1_init_49 : decode cX1_init 49 = .ok (.iconst 0, 1) := by decide +kernel
theorem dX1_init_50 : decode cX1_init 50 = .ok (.putfield 34, 3) := by decide +kernel
theorem dX1_init_53 : decode cX1_init 53 = .ok (.aload_n 0, 1) := by decide +kernel
theorem dX1_init_54 : decode cX1_init 54 = .ok (.iconst 0, 1) := by decide +kernel
theorem dX1_init_55 : decode cX1_init 55 = .ok (.putfield 37, 3) := by decide +kernel
theorem dX1_init_58 : decode cX1_init 58 = .ok (.aload_n 0, 1) := by decide +kernel
theorem dX1_init_59 : decode cX1_init 59 = .ok (.iconst 0, 1) := by decide +kernel
theorem dX1_init_60 : decode cX1_init 60 = .ok (.putfield 40, 3) := by decide +kernel
theorem dX1_init_63 : decode cX1_init 63 = .ok (.aload_n 0, 1) := by decide +kernel
theorem dX1_init_64 : decode cX1_init 64 = .ok (.iconst 1, 1) := by decide +kernel
theorem dX1_init_65 : decode cX1_init 65 = .ok (.putfield 43, 3) := by decide +kernel
theorem dX1_init_68 : decode cX1_init 68 = .ok (.aload_n 0, 1) := by decide +kernel
theorem dX1_init_69 : decode cX1_init 69 = .ok (.iconst 0, 1) := by decide +kernel
theorem dX1_init_70 : decode cX1_init 70 = .ok (.putfield 47, 3) := by decide +kernel
theorem dX1_init_73 : decode cX1_init 73 = .ok (.aload_n 0, 1) := by decide +kernel
theorem dX1_init_74 : decode cX1_init 74 = .ok (.iconst 0, 1) := by decide +kernel
theorem dX1_init_75 : decode cX1_init 75 = .ok (.putfield 50, 3) := by decide +kernel
theorem dX1_init_78 : decode cX1_init 78 = .ok (.return_, 1) := by decide +kernel
theorem dX1_takeBytes_0 : decode cX1_takeBytes 0 = .ok (.bipush 24, 2) := by decide +kernel
theorem dX1_takeBytes_2 : decode cX1_takeBytes 2 = .ok (.istore_n 2, 1) := by decide +kernel
theorem dX1_takeBytes_3 : decode cX1_takeBytes 3 = .ok (.iload_n 2, 1) := by decide +kernel
theorem dX1_takeBytes_4 : decode cX1_takeBytes 4 = .ok (.ifCond .lt 44, 3) := by decide +kernel
theorem dX1_takeBytes_7 : decode cX1_takeBytes 7 = .ok (.aload_n 0, 1) := by decide +kernel
theorem dX1_takeBytes_8 : decode cX1_takeBytes 8 = .ok (.getfield 15, 3) := by decide +kernel
theorem dX1_takeBytes_11 : decode cX1_takeBytes 11 = .ok (.bipush 96, 2) := by decide +kernel
theorem dX1_takeBytes_13 : decode cX1_takeBytes 13 = .ok (.if_icmp .ge 35, 3) := by decide +kernel
theorem dX1_takeBytes_16 : decode cX1_takeBytes 16 = .ok (.aload_n 0, 1) := by decide +kernel
theorem dX1_takeBytes_17 : decode cX1_takeBytes 17 = .ok (.getfield 9, 3) := by decide +kernel
theorem dX1_takeBytes_20 : decode cX1_takeBytes 20 = .ok (.aload_n 0, 1) := by decide +kernel
theorem dX1_takeBytes_21 : decode cX1_takeBytes 21 = .ok (.getfield 15, 3) := by decide +kernel
theorem dX1_takeBytes_24 : decode cX1_takeBytes 24 = .ok (.iload_n 1, 1) := by decide +kernel
theorem dX1_takeBytes_25 : decode cX1_takeBytes 25 = .ok (.iload_n 2, 1) := by decide +kernel
theorem dX1_takeBytes_26 : decode cX1_takeBytes 26 = .ok (.iushr, 1) := by decide +kernel
theorem dX1_takeBytes_27 : decode cX1_takeBytes 27 = .ok (.sipush 255, 3) := by decide +kernel
theorem dX1_takeBytes_30 : decode cX1_takeBytes 30 = .ok (.iand, 1) := by decide +kernel
theorem dX1_takeBytes_31 : decode cX1_takeBytes 31 = .ok (.iastore, 1) := by decide +kernel
theorem dX1_takeBytes_32 : decode cX1_takeBytes 32 = .ok (.aload_n 0, 1) := by decide +kernel
theorem dX1_takeBytes_33 : decode cX1_takeBytes 33 = .ok (.dup, 1) := by decide +kernel
theorem dX1_takeBytes_34 : decode cX1_takeBytes 34 = .ok (.getfield 15, 3) := by decide +kernel
theorem dX1_takeBytes_37 : decode cX1_takeBytes 37 = .ok (.iconst 1, 1) := by decide +kernel
theorem dX1_takeBytes_38 : decode cX1_takeBytes 38 = .ok (.iadd, 1) := by decide +kernel
theorem dX1_takeBytes_39 : decode cX1_takeBytes 39 = .ok (.putfield 15, 3) := by decide +kernel
theorem dX1_takeBytes_42 : decode cX1_takeBytes 42 = .ok (.iinc 2 (-8), 3) := by decide +kernel
theorem dX1_takeBytes_45 : decode cX1_takeBytes 45 = .ok (.goto (-42), 3) := by decide +kernel
theorem dX1_takeBytes_48 : decode cX1_takeBytes 48 = .ok (.return_, 1) := by decide +kernel
theorem dX1_makeText_0 : decode cX1_makeText 0 = .ok (.aload_n 0, 1) := by decide +kernel
theorem dX1_makeText_1 : decode cX1_makeText 1 = .ok (.getfield 22, 3) := by decide +kernel
theorem dX1_makeText_4 : decode cX1_makeText 4 = .ok (.newarray .int, 2) := by decide +kernel
theorem dX1_makeText_6 : decode cX1_makeText 6 = .ok (.astore_n 1, 1) := by decide +kernel
theorem dX1_makeText_7 : decode cX1_makeText 7 = .ok (.aload_n 0, 1) := by decide +kernel
theorem dX1_makeText_8 : decode cX1_makeText 8 = .ok (.getfield 19, 3) := by decide +kernel
theorem dX1_makeText_11 : decode cX1_makeText 11 = .ok (.iconst 0, 1) := by decide +kernel
theorem dX1_makeText_12 : decode cX1_makeText 12 = .ok (.aload_n 1, 1) := by decide +kernel
theorem dX1_makeText_13 : decode cX1_makeText 13 = .ok (.iconst 0, 1) := by decide +kernel
theorem dX1_makeText_14 : decode cX1_makeText 14 = .ok (.aload_n 0, 1) := by decide +kernel
theorem dX1_makeText_15 : decode cX1_makeText 15 = .ok (.getfield 22, 3) := by decide +kernel
theorem dX1_makeText_18 : decode cX1_makeText 18 = .ok (.invokestatic 53, 3) := by decide +kernel
theorem dX1_makeText_21 : decode cX1_makeText 21 = .ok (.new 59, 3) := by decide +kernel
theorem dX1_makeText_24 : decode cX1_makeText 24 = .ok (.dup, 1) := by decide +kernel
theorem dX1_makeText_25 : decode cX1_makeText 25 = .ok (.aload_n 0, 1) := by decide +kernel
theorem dX1_makeText_26 : decode cX1_makeText 26 = .ok (.getfield 31, 3) := by decide +kernel
theorem dX1_makeText_29 : decode cX1_makeText 29 = .ok (.aload_n 0, 1) := by decide +kernel
theorem dX1_makeText_30 : decode cX1_makeText 30 = .ok (.getfield 34, 3) := by decide +kernel
theorem dX1_makeText_33 : decode cX1_makeText 33 = .ok (.aload_n 1, 1) := by decide +kernel
theorem dX1_makeText_34 : decode cX1_makeText 34 = .ok (.invokespecial 61, 3) := by decide +kernel
theorem dX1_makeText_37 : decode cX1_makeText 37 = .ok (.areturn, 1) := by decide +kernel
theorem dX1_findFault_0 : decode cX1_findFault 0 = .ok (.aload_n 0, 1) := by decide +kernel
theorem dX1_findFault_1 : decode cX1_findFault 1 = .ok (.invokevirtual 64, 3) := by decide +kernel
theorem dX1_findFault_4 : decode cX1_findFault 4 = .ok (.aload_n 0, 1) := by decide +kernel
theorem dX1_findFault_5 : decode cX1_findFault 5 = .ok (.invokevirtual 67, 3) := by decide +kernel
theorem dX1_findFault_8 : decode cX1_findFault 8 = .ok (.ifCond .ne 8, 3) := by decide +kernel
theorem dX1_findFault_11 : decode cX1_findFault 11 = .ok (.aload_n 0, 1) := by decide +kernel
theorem dX1_findFault_12 : decode cX1_findFault 12 = .ok (.getfield 15, 3) := by decide +kernel
theorem dX1_findFault_15 : decode cX1_findFault 15 = .ok (.ireturn, 1) := by decide +kernel
theorem dX1_findFault_16 : decode cX1_findFault 16 = .ok (.aload_n 0, 1) := by decide +kernel
theorem dX1_findFault_17 : decode cX1_findFault 17 = .ok (.aload_n 0, 1) := by decide +kernel
theorem dX1_findFault_18 : decode cX1_findFault 18 = .ok (.invokevirtual 71, 3) := by decide +kernel
theorem dX1_findFault_21 : decode cX1_findFault 21 = .ok (.putfield 31, 3) := by decide +kernel
theorem dX1_findFault_24 : decode cX1_findFault 24 = .ok (.aload_n 0, 1) := by decide +kernel
theorem dX1_findFault_25 : decode cX1_findFault 25 = .ok (.getfield 31, 3) := by decide +kernel
theorem dX1_findFault_28 : decode cX1_findFault 28 = .ok (.ifCond .ge 8, 3) := by decide +kernel
theorem dX1_findFault_31 : decode cX1_findFault 31 = .ok (.aload_n 0, 1) := by decide +kernel
theorem dX1_findFault_32 : decode cX1_findFault 32 = .ok (.getfield 47, 3) := by decide +kernel
theorem dX1_findFault_35 : decode cX1_findFault 35 = .ok (.ireturn, 1) := by decide +kernel
theorem dX1_findFault_36 : decode cX1_findFault 36 = .ok (.iconst 0, 1) := by decide +kernel
theorem dX1_findFault_37 : decode cX1_findFault 37 = .ok (.istore_n 1, 1) := by decide +kernel
theorem dX1_findFault_38 : decode cX1_findFault 38 = .ok (.iload_n 1, 1) := by decide +kernel
theorem dX1_findFault_39 : decode cX1_findFault 39 = .ok (.bipush 96, 2) := by decide +kernel
theorem dX1_findFault_41 : decode cX1_findFault 41 = .ok (.if_icmp .ge 44, 3) := by decide +kernel
theorem dX1_findFault_44 : decode cX1_findFault 44 = .ok (.aload_n 0, 1) := by decide +kernel
theorem dX1_findFault_45 : decode cX1_findFault 45 = .ok (.invokevirtual 67, 3) := by decide +kernel
theorem dX1_findFault_48 : decode cX1_findFault 48 = .ok (.ifCond .eq 37, 3) := by decide +kernel
theorem dX1_findFault_51 : decode cX1_findFault 51 = .ok (.aload_n 0, 1) := by decide +kernel
theorem dX1_findFault_52 : decode cX1_findFault 52 = .ok (.getfield 43, 3) := by decide +kernel
theorem dX1_findFault_55 : decode cX1_findFault 55 = .ok (.ifCond .eq 10, 3) := by decide +kernel
theorem dX1_findFault_58 : decode cX1_findFault 58 = .ok (.aload_n 0, 1) := by decide +kernel
theorem dX1_findFault_59 : decode cX1_findFault 59 = .ok (.invokevirtual 75, 3) := by decide +kernel
theorem dX1_findFault_62 : decode cX1_findFault 62 = .ok (.goto 7, 3) := by decide +kernel
theorem dX1_findFault_65 : decode cX1_findFault 65 = .ok (.aload_n 0, 1) := by decide +kernel
theorem dX1_findFault_66 : decode cX1_findFault 66 = .ok (.invokevirtual 78, 3) := by decide +kernel
theorem dX1_findFault_69 : decode cX1_findFault 69 = .ok (.istore_n 2, 1) := by decide +kernel
theorem dX1_findFault_70 : decode cX1_findFault 70 = .ok (.iload_n 2, 1) := by decide +kernel
theorem dX1_findFault_71 : decode cX1_findFault 71 = .ok (.ifCond .ne 8, 3) := by decide +kernel
theorem dX1_findFault_74 : decode cX1_findFault 74 = .ok (.aload_n 0, 1) := by decide +kernel
theorem dX1_findFault_75 : decode cX1_findFault 75 = .ok (.getfield 47, 3) := by decide +kernel
theorem dX1_findFault_78 : decode cX1_findFault 78 = .ok (.ireturn, 1) := by decide +kernel
theorem dX1_findFault_79 : decode cX1_findFault 79 = .ok (.iinc 1 1, 3) := by decide +kernel
theorem dX1_findFault_82 : decode cX1_findFault 82 = .ok (.goto (-44), 3) := by decide +kernel
theorem dX1_findFault_85 : decode cX1_findFault 85 = .ok (.aload_n 0, 1) := by decide +kernel
theorem dX1_findFault_86 : decode cX1_findFault 86 = .ok (.getfield 43, 3) := by decide +kernel
theorem dX1_findFault_89 : decode cX1_findFault 89 = .ok (.ifCond .ne 10, 3) := by decide +kernel
theorem dX1_findFault_92 : decode cX1_findFault 92 = .ok (.aload_n 0, 1) := by decide +kernel
theorem dX1_findFault_93 : decode cX1_findFault 93 = .ok (.getfield 37, 3) := by decide +kernel
theorem dX1_findFault_96 : decode cX1_findFault 96 = .ok (.ifCond .le 8, 3) := by decide +kernel
theorem dX1_findFault_99 : decode cX1_findFault 99 = .ok (.aload_n 0, 1) := by decide +kernel
theorem dX1_findFault_100 : decode cX1_findFault 100 = .ok (.getfield 15, 3) := by decide +kernel
theorem dX1_findFault_103 : decode cX1_findFault 103 = .ok (.ireturn, 1) := by decide +kernel
theorem dX1_findFault_104 : decode cX1_findFault 104 = .ok (.aload_n 0, 1) := by decide +kernel
theorem dX1_findFault_105 : decode cX1_findFault 105 = .ok (.iconst 0, 1) := by decide +kernel
theorem dX1_findFault_106 : decode cX1_findFault 106 = .ok (.invokevirtual 81, 3) := by decide +kernel
theorem dX1_findFault_109 : decode cX1_findFault 109 = .ok (.iconst (-1), 1) := by decide +kernel
theorem dX1_findFault_110 : decode cX1_findFault 110 = .ok (.ireturn, 1) := by decide +kernel
theorem dX1_clear_0 : decode cX1_clear 0 = .ok (.aload_n 0, 1) := by decide +kernel
theorem dX1_clear_1 : decode cX1_clear 1 = .ok (.iconst 0, 1) := by decide +kernel
theorem dX1_clear_2 : decode cX1_clear 2 = .ok (.putfield 22, 3) := by decide +kernel
theorem dX1_clear_5 : decode cX1_clear 5 = .ok (.aload_n 0, 1) := by decide +kernel
theorem dX1_clear_6 : decode cX1_clear 6 = .ok (.iconst 0, 1) := by decide +kernel
theorem dX1_clear_7 : decode cX1_clear 7 = .ok (.putfield 28, 3) := by decide +kernel
theorem dX1_clear_10 : decode cX1_clear 10 = .ok (.aload_n 0, 1) := by decide +kernel
theorem dX1_clear_11 : decode cX1_clear 11 = .ok (.iconst (-1), 1) := by decide +kernel
theorem dX1_clear_12 : decode cX1_clear 12 = .ok (.putfield 31, 3) := by decide +kernel
theorem dX1_clear_15 : decode cX1_clear 15 = .ok (.aload_n 0, 1) := by decide +kernel
theorem dX1_clear_16 : decode cX1_clear 16 = .ok (.iconst 0, 1) := by decide +kernel
theorem dX1_clear_17 : decode cX1_clear 17 = .ok (.putfield 34, 3) := by decide +kernel
theorem dX1_clear_20 : decode cX1_clear 20 = .ok (.aload_n 0, 1) := by decide +kernel
theorem dX1_clear_21 : decode cX1_clear 21 = .ok (.iconst 0, 1) := by decide +kernel
theorem dX1_clear_22 : decode cX1_clear 22 = .ok (.putfield 37, 3) := by decide +kernel
theorem dX1_clear_25 : decode cX1_clear 25 = .ok (.aload_n 0, 1) := by decide +kernel
theorem dX1_clear_26 : decode cX1_clear 26 = .ok (.iconst 0, 1) := by decide +kernel
theorem dX1_clear_27 : decode cX1_clear 27 = .ok (.putfield 40, 3) := by decide +kernel
theorem dX1_clear_30 : decode cX1_clear 30 = .ok (.aload_n 0, 1) := by decide +kernel
theorem dX1_clear_31 : decode cX1_clear 31 = .ok (.iconst 1, 1) := by decide +kernel
theorem dX1_clear_32 : decode cX1_clear 32 = .ok (.putfield 43, 3) := by decide +kernel
theorem dX1_clear_35 : decode cX1_clear 35 = .ok (.aload_n 0, 1) := by decide +kernel
theorem dX1_clear_36 : decode cX1_clear 36 = .ok (.iconst 0, 1) := by decide +kernel
theorem dX1_clear_37 : decode cX1_clear 37 = .ok (.putfield 47, 3) := by decide +kernel
theorem dX1_clear_40 : decode cX1_clear 40 = .ok (.aload_n 0, 1) := by decide +kernel
theorem dX1_clear_41 : decode cX1_clear 41 = .ok (.iconst 0, 1) := by decide +kernel
theorem dX1_clear_42 : decode cX1_clear 42 = .ok (.putfield 50, 3) := by decide +kernel
theorem dX1_clear_45 : decode cX1_clear 45 = .ok (.return_, 1) := by decide +kernel
theorem dX1_goOn_0 : decode cX1_goOn 0 = .ok (.aload_n 0, 1) := by decide +kernel
theorem dX1_goOn_1 : decode cX1_goOn 1 = .ok (.aload_n 0, 1) := by decide +kernel
theorem dX1_goOn_2 : decode cX1_goOn 2 = .ok (.getfield 50, 3) := by decide +kernel
theorem dX1_goOn_5 : decode cX1_goOn 5 = .ok (.putfield 47, 3) := by decide +kernel
theorem dX1_goOn_8 : decode cX1_goOn 8 = .ok (.aload_n 0, 1) := by decide +kernel
theorem dX1_goOn_9 : decode cX1_goOn 9 = .ok (.getfield 47, 3) := by decide +kernel
theorem dX1_goOn_12 : decode cX1_goOn 12 = .ok (.aload_n 0, 1) := by decide +kernel
theorem dX1_goOn_13 : decode cX1_goOn 13 = .ok (.getfield 15, 3) := by decide +kernel
theorem dX1_goOn_16 : decode cX1_goOn 16 = .ok (.if_icmp .ge 30, 3) := by decide +kernel
theorem dX1_goOn_19 : decode cX1_goOn 19 = .ok (.aload_n 0, 1) := by decide +kernel
theorem dX1_goOn_20 : decode cX1_goOn 20 = .ok (.getfield 9, 3) := by decide +kernel
theorem dX1_goOn_23 : decode cX1_goOn 23 = .ok (.aload_n 0, 1) := by decide +kernel
theorem dX1_goOn_24 : decode cX1_goOn 24 = .ok (.getfield 47, 3) := by decide +kernel
theorem dX1_goOn_27 : decode cX1_goOn 27 = .ok (.iaload, 1) := by decide +kernel
theorem dX1_goOn_28 : decode cX1_goOn 28 = .ok (.bipush 32, 2) := by decide +kernel
theorem dX1_goOn_30 : decode cX1_goOn 30 = .ok (.if_icmp .ne 16, 3) := by decide +kernel
theorem dX1_goOn_33 : decode cX1_goOn 33 = .ok (.aload_n 0, 1) := by decide +kernel
theorem dX1_goOn_34 : decode cX1_goOn 34 = .ok (.dup, 1) := by decide +kernel
theorem dX1_goOn_35 : decode cX1_goOn 35 = .ok (.getfield 47, 3) := by decide +kernel
theorem dX1_goOn_38 : decode cX1_goOn 38 = .ok (.iconst 1, 1) := by decide +kernel
theorem dX1_goOn_39 : decode cX1_goOn 39 = .ok (.iadd, 1) := by decide +kernel
theorem dX1_goOn_40 : decode cX1_goOn 40 = .ok (.putfield 47, 3) := by decide +kernel
theorem dX1_goOn_43 : decode cX1_goOn 43 = .ok (.goto (-35), 3) := by decide +kernel
theorem dX1_goOn_46 : decode cX1_goOn 46 = .ok (.aload_n 0, 1) := by decide +kernel
theorem dX1_goOn_47 : decode cX1_goOn 47 = .ok (.getfield 47, 3) := by decide +kernel
theorem dX1_goOn_50 : decode cX1_goOn 50 = .ok (.aload_n 0, 1) := by decide +kernel
theorem dX1_goOn_51 : decode cX1_goOn 51 = .ok (.getfield 15, 3) := by decide +kernel
theorem dX1_goOn_54 : decode cX1_goOn 54 = .ok (.if_icmp .lt 5, 3) := by decide +kernel
theorem dX1_goOn_57 : decode cX1_goOn 57 = .ok (.iconst 0, 1) := by decide +kernel
theorem dX1_goOn_58 : decode cX1_goOn 58 = .ok (.ireturn, 1) := by decide +kernel
theorem dX1_goOn_59 : decode cX1_goOn 59 = .ok (.aload_n 0, 1) := by decide +kernel
theorem dX1_goOn_60 : decode cX1_goOn 60 = .ok (.aload_n 0, 1) := by decide +kernel
theorem dX1_goOn_61 : decode cX1_goOn 61 = .ok (.getfield 47, 3) := by decide +kernel
theorem dX1_goOn_64 : decode cX1_goOn 64 = .ok (.invokevirtual 85, 3) := by decide +kernel
theorem dX1_goOn_67 : decode cX1_goOn 67 = .ok (.istore_n 1, 1) := by decide +kernel
theorem dX1_goOn_68 : decode cX1_goOn 68 = .ok (.aload_n 0, 1) := by decide +kernel
theorem dX1_goOn_69 : decode cX1_goOn 69 = .ok (.aload_n 0, 1) := by decide +kernel
theorem dX1_goOn_70 : decode cX1_goOn 70 = .ok (.getfield 47, 3) := by decide +kernel
theorem dX1_goOn_73 : decode cX1_goOn 73 = .ok (.iconst 1, 1) := by decide +kernel
theorem dX1_goOn_74 : decode cX1_goOn 74 = .ok (.iadd, 1) := by decide +kernel
theorem dX1_goOn_75 : decode cX1_goOn 75 = .ok (.putfield 50, 3) := by decide +kernel
theorem dX1_goOn_78 : decode cX1_goOn 78 = .ok (.iload_n 1, 1) := by decide +kernel
theorem dX1_goOn_79 : decode cX1_goOn 79 = .ok (.ifCond .eq 39, 3) := by decide +kernel
theorem dX1_goOn_82 : decode cX1_goOn 82 = .ok (.aload_n 0, 1) := by decide +kernel
theorem dX1_goOn_83 : decode cX1_goOn 83 = .ok (.getfield 50, 3) := by decide +kernel
theorem dX1_goOn_86 : decode cX1_goOn 86 = .ok (.aload_n 0, 1) := by decide +kernel
theorem dX1_goOn_87 : decode cX1_goOn 87 = .ok (.getfield 15, 3) := by decide +kernel
theorem dX1_goOn_90 : decode cX1_goOn 90 = .ok (.if_icmp .ge 28, 3) := by decide +kernel
theorem dX1_goOn_93 : decode cX1_goOn 93 = .ok (.aload_n 0, 1) := by decide +kernel
theorem dX1_goOn_94 : decode cX1_goOn 94 = .ok (.aload_n 0, 1) := by decide +kernel
theorem dX1_goOn_95 : decode cX1_goOn 95 = .ok (.getfield 50, 3) := by decide +kernel
theorem dX1_goOn_98 : decode cX1_goOn 98 = .ok (.invokevirtual 85, 3) := by decide +kernel
theorem dX1_goOn_101 : decode cX1_goOn 101 = .ok (.iload_n 1, 1) := by decide +kernel
theorem dX1_goOn_102 : decode cX1_goOn 102 = .ok (.if_icmp .ne 16, 3) := by decide +kernel
theorem dX1_goOn_105 : decode cX1_goOn 105 = .ok (.aload_n 0, 1) := by decide +kernel
theorem dX1_goOn_106 : decode cX1_goOn 106 = .ok (.dup, 1) := by decide +kernel
theorem dX1_goOn_107 : decode cX1_goOn 107 = .ok (.getfield 50, 3) := by decide +kernel
theorem dX1_goOn_110 : decode cX1_goOn 110 = .ok (.iconst 1, 1) := by decide +kernel
theorem dX1_goOn_111 : decode cX1_goOn 111 = .ok (.iadd, 1) := by decide +kernel
theorem dX1_goOn_112 : decode cX1_goOn 112 = .ok (.putfield 50, 3) := by decide +kernel
theorem dX1_goOn_115 : decode cX1_goOn 115 = .ok (.goto (-37), 3) := by decide +kernel
theorem dX1_goOn_118 : decode cX1_goOn 118 = .ok (.iconst 1, 1) := by decide +kernel
theorem dX1_goOn_119 : decode cX1_goOn 119 = .ok (.ireturn, 1) := by decide +kernel
theorem dX1_sortAt_0 : decode cX1_sortAt 0 = .ok (.iload_n 1, 1) := by decide +kernel
theorem dX1_sortAt_1 : decode cX1_sortAt 1 = .ok (.aload_n 0, 1) := by decide +kernel
theorem dX1_sortAt_2 : decode cX1_sortAt 2 = .ok (.getfield 15, 3) := by decide +kernel
theorem dX1_sortAt_5 : decode cX1_sortAt 5 = .ok (.invokestatic 89, 3) := by decide +kernel
theorem dX1_sortAt_8 : decode cX1_sortAt 8 = .ok (.ifCond .eq 12, 3) := by decide +kernel
theorem dX1_sortAt_11 : decode cX1_sortAt 11 = .ok (.aload_n 0, 1) := by decide +kernel
theorem dX1_sortAt_12 : decode cX1_sortAt 12 = .ok (.getfield 9, 3) := by decide +kernel
theorem dX1_sortAt_15 : decode cX1_sortAt 15 = .ok (.iload_n 1, 1) := by decide +kernel
theorem dX1_sortAt_16 : decode cX1_sortAt 16 = .ok (.iaload, 1) := by decide +kernel
theorem dX1_sortAt_17 : decode cX1_sortAt 17 = .ok (.goto 5, 3) := by decide +kernel
theorem dX1_sortAt_20 : decode cX1_sortAt 20 = .ok (.bipush 32, 2) := by decide +kernel
theorem dX1_sortAt_22 : decode cX1_sortAt 22 = .ok (.istore_n 2, 1) := by decide +kernel
theorem dX1_sortAt_23 : decode cX1_sortAt 23 = .ok (.iload_n 2, 1) := by decide +kernel
theorem dX1_sortAt_24 : decode cX1_sortAt 24 = .ok (.bipush 97, 2) := by decide +kernel
theorem dX1_sortAt_26 : decode cX1_sortAt 26 = .ok (.if_icmp .lt 13, 3) := by decide +kernel
theorem dX1_sortAt_29 : decode cX1_sortAt 29 = .ok (.iload_n 2, 1) := by decide +kernel
theorem dX1_sortAt_30 : decode cX1_sortAt 30 = .ok (.bipush 122, 2) := by decide +kernel
theorem dX1_sortAt_32 : decode cX1_sortAt 32 = .ok (.if_icmp .gt 7, 3) := by decide +kernel
theorem dX1_sortAt_35 : decode cX1_sortAt 35 = .ok (.iconst 1, 1) := by decide +kernel
theorem dX1_sortAt_36 : decode cX1_sortAt 36 = .ok (.goto 20, 3) := by decide +kernel
theorem dX1_sortAt_39 : decode cX1_sortAt 39 = .ok (.iload_n 2, 1) := by decide +kernel
theorem dX1_sortAt_40 : decode cX1_sortAt 40 = .ok (.bipush 48, 2) := by decide +kernel
theorem dX1_sortAt_42 : decode cX1_sortAt 42 = .ok (.if_icmp .lt 13, 3) := by decide +kernel
theorem dX1_sortAt_45 : decode cX1_sortAt 45 = .ok (.iload_n 2, 1) := by decide +kernel
theorem dX1_sortAt_46 : decode cX1_sortAt 46 = .ok (.bipush 57, 2) := by decide +kernel
theorem dX1_sortAt_48 : decode cX1_sortAt 48 = .ok (.if_icmp .gt 7, 3) := by decide +kernel
theorem dX1_sortAt_51 : decode cX1_sortAt 51 = .ok (.iconst 2, 1) := by decide +kernel
theorem dX1_sortAt_52 : decode cX1_sortAt 52 = .ok (.goto 4, 3) := by decide +kernel
theorem dX1_sortAt_55 : decode cX1_sortAt 55 = .ok (.iconst 0, 1) := by decide +kernel
theorem dX1_sortAt_56 : decode cX1_sortAt 56 = .ok (.ireturn, 1) := by decide +kernel
theorem dX1_keyHere_0 : decode cX1_keyHere 0 = .ok (.aload_n 0, 1) := by decide +kernel
theorem dX1_keyHere_1 : decode cX1_keyHere 1 = .ok (.ldc 93, 2) := by decide +kernel
theorem dX1_keyHere_3 : decode cX1_keyHere 3 = .ok (.invokevirtual 95, 3) := by decide +kernel
theorem dX1_keyHere_6 : decode cX1_keyHere 6 = .ok (.ifCond .eq 7, 3) := by decide +kernel
theorem dX1_keyHere_9 : decode cX1_keyHere 9 = .ok (.iconst 0, 1) := by decide +kernel
theorem dX1_keyHere_10 : decode cX1_keyHere 10 = .ok (.goto 30, 3) := by decide +kernel
theorem dX1_keyHere_13 : decode cX1_keyHere 13 = .ok (.aload_n 0, 1) := by decide +kernel
theorem dX1_keyHere_14 : decode cX1_keyHere 14 = .ok (.ldc 99, 2) := by decide +kernel
theorem dX1_keyHere_16 : decode cX1_keyHere 16 = .ok (.invokevirtual 95, 3) := by decide +kernel
theorem dX1_keyHere_19 : decode cX1_keyHere 19 = .ok (.ifCond .eq 7, 3) := by decide +kernel
theorem dX1_keyHere_22 : decode cX1_keyHere 22 = .ok (.iconst 1, 1) := by decide +kernel
theorem dX1_keyHere_23 : decode cX1_keyHere 23 = .ok (.goto 17, 3) := by decide +kernel
theorem dX1_keyHere_26 : decode cX1_keyHere 26 = .ok (.aload_n 0, 1) := by decide +kernel
theorem dX1_keyHere_27 : decode cX1_keyHere 27 = .ok (.ldc 101, 2) := by decide +kernel
theorem dX1_keyHere_29 : decode cX1_keyHere 29 = .ok (.invokevirtual 95, 3) := by decide +kernel
theorem dX1_keyHere_32 : decode cX1_keyHere 32 = .ok (.ifCond .eq 7, 3) := by decide +kernel
theorem dX1_keyHere_35 : decode cX1_keyHere 35 = .ok (.iconst 2, 1) := by decide +kernel
theorem dX1_keyHere_36 : decode cX1_keyHere 36 = .ok (.goto 4, 3) := by decide +kernel
theorem dX1_keyHere_39 : decode cX1_keyHere 39 = .ok (.iconst (-1), 1) := by decide +kernel
theorem dX1_keyHere_40 : decode cX1_keyHere 40 = .ok (.ireturn, 1) := by decide +kernel
theorem dX1_isWord_0 : decode cX1_isWord 0 = .ok (.aload_n 0, 1) := by decide +kernel
theorem dX1_isWord_1 : decode cX1_isWord 1 = .ok (.getfield 50, 3) := by decide +kernel
theorem dX1_isWord_4 : decode cX1_isWord 4 = .ok (.aload_n 0, 1) := by decide +kernel
theorem dX1_isWord_5 : decode cX1_isWord 5 = .ok (.getfield 47, 3) := by decide +kernel
theorem dX1_isWord_8 : decode cX1_isWord 8 = .ok (.isub, 1) := by decide +kernel
theorem dX1_isWord_9 : decode cX1_isWord 9 = .ok (.aload_n 1, 1) := by decide +kernel
theorem dX1_isWord_10 : decode cX1_isWord 10 = .ok (.invokevirtual 103, 3) := by decide +kernel
theorem dX1_isWord_13 : decode cX1_isWord 13 = .ok (.if_icmp .eq 5, 3) := by decide +kernel
theorem dX1_isWord_16 : decode cX1_isWord 16 = .ok (.iconst 0, 1) := by decide +kernel
theorem dX1_isWord_17 : decode cX1_isWord 17 = .ok (.ireturn, 1) := by decide +kernel
theorem dX1_isWord_18 : decode cX1_isWord 18 = .ok (.iconst 0, 1) := by decide +kernel
theorem dX1_isWord_19 : decode cX1_isWord 19 = .ok (.istore_n 2, 1) := by decide +kernel
theorem dX1_isWord_20 : decode cX1_isWord 20 = .ok (.iload_n 2, 1) := by decide +kernel
theorem dX1_isWord_21 : decode cX1_isWord 21 = .ok (.aload_n 1, 1) := by decide +kernel
theorem dX1_isWord_22 : decode cX1_isWord 22 = .ok (.invokevirtual 103, 3) := by decide +kernel
theorem dX1_isWord_25 : decode cX1_isWord 25 = .ok (.if_icmp .ge 43, 3) := by decide +kernel
theorem dX1_isWord_28 : decode cX1_isWord 28 = .ok (.aload_n 0, 1) := by decide +kernel
theorem dX1_isWord_29 : decode cX1_isWord 29 = .ok (.getfield 47, 3) := by decide +kernel
theorem dX1_isWord_32 : decode cX1_isWord 32 = .ok (.iload_n 2, 1) := by decide +kernel
theorem dX1_isWord_33 : decode cX1_isWord 33 = .ok (.iadd, 1) := by decide +kernel
theorem dX1_isWord_34 : decode cX1_isWord 34 = .ok (.aload_n 0, 1) := by decide +kernel
theorem dX1_isWord_35 : decode cX1_isWord 35 = .ok (.getfield 15, 3) := by decide +kernel
theorem dX1_isWord_38 : decode cX1_isWord 38 = .ok (.if_icmp .ge 30, 3) := by decide +kernel
theorem dX1_isWord_41 : decode cX1_isWord 41 = .ok (.aload_n 0, 1) := by decide +kernel
theorem dX1_isWord_42 : decode cX1_isWord 42 = .ok (.getfield 9, 3) := by decide +kernel
theorem dX1_isWord_45 : decode cX1_isWord 45 = .ok (.aload_n 0, 1) := by decide +kernel
theorem dX1_isWord_46 : decode cX1_isWord 46 = .ok (.getfield 47, 3) := by decide +kernel
theorem dX1_isWord_49 : decode cX1_isWord 49 = .ok (.iload_n 2, 1) := by decide +kernel
theorem dX1_isWord_50 : decode cX1_isWord 50 = .ok (.iadd, 1) := by decide +kernel
theorem dX1_isWord_51 : decode cX1_isWord 51 = .ok (.iaload, 1) := by decide +kernel
theorem dX1_isWord_52 : decode cX1_isWord 52 = .ok (.aload_n 1, 1) := by decide +kernel
theorem dX1_isWord_53 : decode cX1_isWord 53 = .ok (.iload_n 2, 1) := by decide +kernel
theorem dX1_isWord_54 : decode cX1_isWord 54 = .ok (.invokevirtual 107, 3) := by decide +kernel
theorem dX1_isWord_57 : decode cX1_isWord 57 = .ok (.if_icmp .eq 5, 3) := by decide +kernel
theorem dX1_isWord_60 : decode cX1_isWord 60 = .ok (.iconst 0, 1) := by decide +kernel
theorem dX1_isWord_61 : decode cX1_isWord 61 = .ok (.ireturn, 1) := by decide +kernel
theorem dX1_isWord_62 : decode cX1_isWord 62 = .ok (.iinc 2 1, 3) := by decide +kernel
theorem dX1_isWord_65 : decode cX1_isWord 65 = .ok (.goto (-45), 3) := by decide +kernel
theorem dX1_isWord_68 : decode cX1_isWord 68 = .ok (.iconst 1, 1) := by decide +kernel
theorem dX1_isWord_69 : decode cX1_isWord 69 = .ok (.ireturn, 1) := by decide +kernel
theorem dX1_isGlued_0 : decode cX1_isGlued 0 = .ok (.aload_n 0, 1) := by decide +kernel
theorem dX1_isGlued_1 : decode cX1_isGlued 1 = .ok (.getfield 47, 3) := by decide +kernel
theorem dX1_isGlued_4 : decode cX1_isGlued 4 = .ok (.ifCond .le 31, 3) := by decide +kernel
theorem dX1_isGlued_7 : decode cX1_isGlued 7 = .ok (.aload_n 0, 1) := by decide +kernel
theorem dX1_isGlued_8 : decode cX1_isGlued 8 = .ok (.aload_n 0, 1) := by decide +kernel
theorem dX1_isGlued_9 : decode cX1_isGlued 9 = .ok (.getfield 47, 3) := by decide +kernel
theorem dX1_isGlued_12 : decode cX1_isGlued 12 = .ok (.invokevirtual 85, 3) := by decide +kernel
theorem dX1_isGlued_15 : decode cX1_isGlued 15 = .ok (.ifCond .eq 20, 3) := by decide +kernel
theorem dX1_isGlued_18 : decode cX1_isGlued 18 = .ok (.aload_n 0, 1) := by decide +kernel
theorem dX1_isGlued_19 : decode cX1_isGlued 19 = .ok (.aload_n 0, 1) := by decide +kernel
theorem dX1_isGlued_20 : decode cX1_isGlued 20 = .ok (.getfield 47, 3) := by decide +kernel
theorem dX1_isGlued_23 : decode cX1_isGlued 23 = .ok (.iconst 1, 1) := by decide +kernel
theorem dX1_isGlued_24 : decode cX1_isGlued 24 = .ok (.isub, 1) := by decide +kernel
theorem dX1_isGlued_25 : decode cX1_isGlued 25 = .ok (.invokevirtual 85, 3) := by decide +kernel
theorem dX1_isGlued_28 : decode cX1_isGlued 28 = .ok (.ifCond .eq 7, 3) := by decide +kernel
theorem dX1_isGlued_31 : decode cX1_isGlued 31 = .ok (.iconst 1, 1) := by decide +kernel
theorem dX1_isGlued_32 : decode cX1_isGlued 32 = .ok (.goto 4, 3) := by decide +kernel
theorem dX1_isGlued_35 : decode cX1_isGlued 35 = .ok (.iconst 0, 1) := by decide +kernel
theorem dX1_isGlued_36 : decode cX1_isGlued 36 = .ok (.ireturn, 1) := by decide +kernel
theorem dX1_takePiece_0 : decode cX1_takePiece 0 = .ok (.aload_n 0, 1) := by decide +kernel
theorem dX1_takePiece_1 : decode cX1_takePiece 1 = .ok (.aload_n 0, 1) := by decide +kernel
theorem dX1_takePiece_2 : decode cX1_takePiece 2 = .ok (.getfield 47, 3) := by decide +kernel
theorem dX1_takePiece_5 : decode cX1_takePiece 5 = .ok (.invokevirtual 85, 3) := by decide +kernel
theorem dX1_takePiece_8 : decode cX1_takePiece 8 = .ok (.istore_n 1, 1) := by decide +kernel
theorem dX1_takePiece_9 : decode cX1_takePiece 9 = .ok (.iload_n 1, 1) := by decide +kernel
theorem dX1_takePiece_10 : decode cX1_takePiece 10 = .ok (.ifCond .ne 17, 3) := by decide +kernel
theorem dX1_takePiece_13 : decode cX1_takePiece 13 = .ok (.aload_n 0, 1) := by decide +kernel
theorem dX1_takePiece_14 : decode cX1_takePiece 14 = .ok (.aload_n 0, 1) := by decide +kernel
theorem dX1_takePiece_15 : decode cX1_takePiece 15 = .ok (.getfield 9, 3) := by decide +kernel
theorem dX1_takePiece_18 : decode cX1_takePiece 18 = .ok (.aload_n 0, 1) := by decide +kernel
theorem dX1_takePiece_19 : decode cX1_takePiece 19 = .ok (.getfield 47, 3) := by decide +kernel
theorem dX1_takePiece_22 : decode cX1_takePiece 22 = .ok (.iaload, 1) := by decide +kernel
theorem dX1_takePiece_23 : decode cX1_takePiece 23 = .ok (.invokevirtual 111, 3) := by decide +kernel
theorem dX1_takePiece_26 : decode cX1_takePiece 26 = .ok (.ireturn, 1) := by decide +kernel
theorem dX1_takePiece_27 : decode cX1_takePiece 27 = .ok (.aload_n 0, 1) := by decide +kernel
theorem dX1_takePiece_28 : decode cX1_takePiece 28 = .ok (.invokevirtual 115, 3) := by decide +kernel
theorem dX1_takePiece_31 : decode cX1_takePiece 31 = .ok (.ifCond .eq 5, 3) := by decide +kernel
theorem dX1_takePiece_34 : decode cX1_takePiece 34 = .ok (.iconst 0, 1) := by decide +kernel
theorem dX1_takePiece_35 : decode cX1_takePiece 35 = .ok (.ireturn, 1) := by decide +kernel
theorem dX1_takePiece_36 : decode cX1_takePiece 36 = .ok (.iload_n 1, 1) := by decide +kernel
theorem dX1_takePiece_37 : decode cX1_takePiece 37 = .ok (.iconst 1, 1) := by decide +kernel
theorem dX1_takePiece_38 : decode cX1_takePiece 38 = .ok (.if_icmp .ne 51, 3) := by decide +kernel
theorem dX1_takePiece_41 : decode cX1_takePiece 41 = .ok (.aload_n 0, 1) := by decide +kernel
theorem dX1_takePiece_42 : decode cX1_takePiece 42 = .ok (.getfield 50, 3) := by decide +kernel
theorem dX1_takePiece_45 : decode cX1_takePiece 45 = .ok (.aload_n 0, 1) := by decide +kernel
theorem dX1_takePiece_46 : decode cX1_takePiece 46 = .ok (.getfield 47, 3) := by decide +kernel
theorem dX1_takePiece_49 : decode cX1_takePiece 49 = .ok (.isub, 1) := by decide +kernel
theorem dX1_takePiece_50 : decode cX1_takePiece 50 = .ok (.iconst 1, 1) := by decide +kernel
theorem dX1_takePiece_51 : decode cX1_takePiece 51 = .ok (.if_icmp .ne 23, 3) := by decide +kernel
theorem dX1_takePiece_54 : decode cX1_takePiece 54 = .ok (.aload_n 0, 1) := by decide +kernel
theorem dX1_takePiece_55 : decode cX1_takePiece 55 = .ok (.invokevirtual 118, 3) := by decide +kernel
theorem dX1_takePiece_58 : decode cX1_takePiece 58 = .ok (.aload_n 0, 1) := by decide +kernel
theorem dX1_takePiece_59 : decode cX1_takePiece 59 = .ok (.getfield 9, 3) := by decide +kernel
theorem dX1_takePiece_62 : decode cX1_takePiece 62 = .ok (.aload_n 0, 1) := by decide +kernel
theorem dX1_takePiece_63 : decode cX1_takePiece 63 = .ok (.getfield 47, 3) := by decide +kernel
theorem dX1_takePiece_66 : decode cX1_takePiece 66 = .ok (.iaload, 1) := by decide +kernel
theorem dX1_takePiece_67 : decode cX1_takePiece 67 = .ok (.i2c, 1) := by decide +kernel
theorem dX1_takePiece_68 : decode cX1_takePiece 68 = .ok (.invokevirtual 122, 3) := by decide +kernel
theorem dX1_takePiece_71 : decode cX1_takePiece 71 = .ok (.goto 4, 3) := by decide +kernel
theorem dX1_takePiece_74 : decode cX1_takePiece 74 = .ok (.iconst (-1), 1) := by decide +kernel
theorem dX1_takePiece_75 : decode cX1_takePiece 75 = .ok (.istore_n 3, 1) := by decide +kernel
theorem dX1_takePiece_76 : decode cX1_takePiece 76 = .ok (.iload_n 3, 1) := by decide +kernel
theorem dX1_takePiece_77 : decode cX1_takePiece 77 = .ok (.ifCond .ge 5, 3) := by decide +kernel
theorem dX1_takePiece_80 : decode cX1_takePiece 80 = .ok (.iconst 0, 1) := by decide +kernel
theorem dX1_takePiece_81 : decode cX1_takePiece 81 = .ok (.ireturn, 1) := by decide +kernel
theorem dX1_takePiece_82 : decode cX1_takePiece 82 = .ok (.iconst (-1), 1) := by decide +kernel
theorem dX1_takePiece_83 : decode cX1_takePiece 83 = .ok (.iload_n 3, 1) := by decide +kernel
theorem dX1_takePiece_84 : decode cX1_takePiece 84 = .ok (.isub, 1) := by decide +kernel
theorem dX1_takePiece_85 : decode cX1_takePiece 85 = .ok (.istore_n 2, 1) := by decide +kernel
theorem dX1_takePiece_86 : decode cX1_takePiece 86 = .ok (.goto 23, 3) := by decide +kernel
theorem dX1_takePiece_89 : decode cX1_takePiece 89 = .ok (.aload_n 0, 1) := by decide +kernel
theorem dX1_takePiece_90 : decode cX1_takePiece 90 = .ok (.getfield 50, 3) := by decide +kernel
theorem dX1_takePiece_93 : decode cX1_takePiece 93 = .ok (.aload_n 0, 1) := by decide +kernel
theorem dX1_takePiece_94 : decode cX1_takePiece 94 = .ok (.getfield 47, 3) := by decide +kernel
theorem dX1_takePiece_97 : decode cX1_takePiece 97 = .ok (.isub, 1) := by decide +kernel
theorem dX1_takePiece_98 : decode cX1_takePiece 98 = .ok (.iconst 4, 1) := by decide +kernel
theorem dX1_takePiece_99 : decode cX1_takePiece 99 = .ok (.if_icmp .le 5, 3) := by decide +kernel
theorem dX1_takePiece_102 : decode cX1_takePiece 102 = .ok (.iconst 0, 1) := by decide +kernel
theorem dX1_takePiece_103 : decode cX1_takePiece 103 = .ok (.ireturn, 1) := by decide +kernel
theorem dX1_takePiece_104 : decode cX1_takePiece 104 = .ok (.aload_n 0, 1) := by decide +kernel
theorem dX1_takePiece_105 : decode cX1_takePiece 105 = .ok (.invokevirtual 125, 3) := by decide +kernel
theorem dX1_takePiece_108 : decode cX1_takePiece 108 = .ok (.istore_n 2, 1) := by decide +kernel
theorem dX1_takePiece_109 : decode cX1_takePiece 109 = .ok (.aload_n 0, 1) := by decide +kernel
theorem dX1_takePiece_110 : decode cX1_takePiece 110 = .ok (.iload_n 2, 1) := by decide +kernel
theorem dX1_takePiece_111 : decode cX1_takePiece 111 = .ok (.invokevirtual 128, 3) := by decide +kernel
theorem dX1_takePiece_114 : decode cX1_takePiece 114 = .ok (.aload_n 0, 1) := by decide +kernel
theorem dX1_takePiece_115 : decode cX1_takePiece 115 = .ok (.dup, 1) := by decide +kernel
theorem dX1_takePiece_116 : decode cX1_takePiece 116 = .ok (.getfield 34, 3) := by decide +kernel
theorem dX1_takePiece_119 : decode cX1_takePiece 119 = .ok (.iconst 1, 1) := by decide +kernel
theorem dX1_takePiece_120 : decode cX1_takePiece 120 = .ok (.iadd, 1) := by decide +kernel
theorem dX1_takePiece_121 : decode cX1_takePiece 121 = .ok (.putfield 34, 3) := by decide +kernel
theorem dX1_takePiece_124 : decode cX1_takePiece 124 = .ok (.aload_n 0, 1) := by decide +kernel
theorem dX1_takePiece_125 : decode cX1_takePiece 125 = .ok (.invokevirtual 131, 3) := by decide +kernel
theorem dX1_takePiece_128 : decode cX1_takePiece 128 = .ok (.iconst 1, 1) := by decide +kernel
theorem dX1_takePiece_129 : decode cX1_takePiece 129 = .ok (.ireturn, 1) := by decide +kernel
theorem dX1_namesOfKey_0 : decode cX1_namesOfKey 0 = .ok (.aload_n 0, 1) := by decide +kernel
theorem dX1_namesOfKey_1 : decode cX1_namesOfKey 1 = .ok (.getfield 31, 3) := by decide +kernel
theorem dX1_namesOfKey_4 : decode cX1_namesOfKey 4 = .ok (.ifCond .ne 8, 3) := by decide +kernel
theorem dX1_namesOfKey_7 : decode cX1_namesOfKey 7 = .ok (.ldc 134, 2) := by decide +kernel
theorem dX1_namesOfKey_9 : decode cX1_namesOfKey 9 = .ok (.goto 18, 3) := by decide +kernel
theorem dX1_namesOfKey_12 : decode cX1_namesOfKey 12 = .ok (.aload_n 0, 1) := by decide +kernel
theorem dX1_namesOfKey_13 : decode cX1_namesOfKey 13 = .ok (.getfield 31, 3) := by decide +kernel
theorem dX1_namesOfKey_16 : decode cX1_namesOfKey 16 = .ok (.iconst 1, 1) := by decide +kernel
theorem dX1_namesOfKey_17 : decode cX1_namesOfKey 17 = .ok (.if_icmp .ne 8, 3) := by decide +kernel
theorem dX1_namesOfKey_20 : decode cX1_namesOfKey 20 = .ok (.ldc 136, 2) := by decide +kernel
theorem dX1_namesOfKey_22 : decode cX1_namesOfKey 22 = .ok (.goto 5, 3) := by decide +kernel
theorem dX1_namesOfKey_25 : decode cX1_namesOfKey 25 = .ok (.ldc 138, 2) := by decide +kernel
theorem dX1_namesOfKey_27 : decode cX1_namesOfKey 27 = .ok (.areturn, 1) := by decide +kernel
theorem dX1_numberHere_0 : decode cX1_numberHere 0 = .ok (.iconst 0, 1) := by decide +kernel
theorem dX1_numberHere_1 : decode cX1_numberHere 1 = .ok (.istore_n 1, 1) := by decide +kernel
theorem dX1_numberHere_2 : decode cX1_numberHere 2 = .ok (.aload_n 0, 1) := by decide +kernel
theorem dX1_numberHere_3 : decode cX1_numberHere 3 = .ok (.getfield 47, 3) := by decide +kernel
theorem dX1_numberHere_6 : decode cX1_numberHere 6 = .ok (.istore_n 2, 1) := by decide +kernel
theorem dX1_numberHere_7 : decode cX1_numberHere 7 = .ok (.iload_n 2, 1) := by decide +kernel
theorem dX1_numberHere_8 : decode cX1_numberHere 8 = .ok (.aload_n 0, 1) := by decide +kernel
theorem dX1_numberHere_9 : decode cX1_numberHere 9 = .ok (.getfield 50, 3) := by decide +kernel
theorem dX1_numberHere_12 : decode cX1_numberHere 12 = .ok (.if_icmp .ge 32, 3) := by decide +kernel
theorem dX1_numberHere_15 : decode cX1_numberHere 15 = .ok (.iload_n 2, 1) := by decide +kernel
theorem dX1_numberHere_16 : decode cX1_numberHere 16 = .ok (.aload_n 0, 1) := by decide +kernel
theorem dX1_numberHere_17 : decode cX1_numberHere 17 = .ok (.getfield 15, 3) := by decide +kernel
theorem dX1_numberHere_20 : decode cX1_numberHere 20 = .ok (.if_icmp .ge 24, 3) := by decide +kernel
theorem dX1_numberHere_23 : decode cX1_numberHere 23 = .ok (.iload_n 1, 1) := by decide +kernel
theorem dX1_numberHere_24 : decode cX1_numberHere 24 = .ok (.bipush 10, 2) := by decide +kernel
theorem dX1_numberHere_26 : decode cX1_numberHere 26 = .ok (.imul, 1) := by decide +kernel
theorem dX1_numberHere_27 : decode cX1_numberHere 27 = .ok (.aload_n 0, 1) := by decide +kernel
theorem dX1_numberHere_28 : decode cX1_numberHere 28 = .ok (.getfield 9, 3) := by decide +kernel
theorem dX1_numberHere_31 : decode cX1_numberHere 31 = .ok (.iload_n 2, 1) := by decide +kernel
theorem dX1_numberHere_32 : decode cX1_numberHere 32 = .ok (.iaload, 1) := by decide +kernel
theorem dX1_numberHere_33 : decode cX1_numberHere 33 = .ok (.iadd, 1) := by decide +kernel
theorem dX1_numberHere_34 : decode cX1_numberHere 34 = .ok (.bipush 48, 2) := by decide +kernel
theorem dX1_numberHere_36 : decode cX1_numberHere 36 = .ok (.isub, 1) := by decide +kernel
theorem dX1_numberHere_37 : decode cX1_numberHere 37 = .ok (.istore_n 1, 1) := by decide +kernel
theorem dX1_numberHere_38 : decode cX1_numberHere 38 = .ok (.iinc 2 1, 3) := by decide +kernel
theorem dX1_numberHere_41 : decode cX1_numberHere 41 = .ok (.goto (-34), 3) := by decide +kernel
theorem dX1_numberHere_44 : decode cX1_numberHere 44 = .ok (.iload_n 1, 1) := by decide +kernel
theorem dX1_numberHere_45 : decode cX1_numberHere 45 = .ok (.ireturn, 1) := by decide +kernel
theorem dX1_takeOpening_0 : decode cX1_takeOpening 0 = .ok (.iload_n 1, 1) := by decide +kernel
theorem dX1_takeOpening_1 : decode cX1_takeOpening 1 = .ok (.bipush 40, 2) := by decide +kernel
theorem dX1_takeOpening_3 : decode cX1_takeOpening 3 = .ok (.if_icmp .ne 25, 3) := by decide +kernel
theorem dX1_takeOpening_6 : decode cX1_takeOpening 6 = .ok (.aload_n 0, 1) := by decide +kernel
theorem dX1_takeOpening_7 : decode cX1_takeOpening 7 = .ok (.getfield 37, 3) := by decide +kernel
theorem dX1_takeOpening_10 : decode cX1_takeOpening 10 = .ok (.bipush 8, 2) := by decide +kernel
theorem dX1_takeOpening_12 : decode cX1_takeOpening 12 = .ok (.if_icmp .ge 16, 3) := by decide +kernel
theorem dX1_takeOpening_15 : decode cX1_takeOpening 15 = .ok (.aload_n 0, 1) := by decide +kernel
theorem dX1_takeOpening_16 : decode cX1_takeOpening 16 = .ok (.dup, 1) := by decide +kernel
theorem dX1_takeOpening_17 : decode cX1_takeOpening 17 = .ok (.getfield 37, 3) := by decide +kernel
theorem dX1_takeOpening_20 : decode cX1_takeOpening 20 = .ok (.iconst 1, 1) := by decide +kernel
theorem dX1_takeOpening_21 : decode cX1_takeOpening 21 = .ok (.iadd, 1) := by decide +kernel
theorem dX1_takeOpening_22 : decode cX1_takeOpening 22 = .ok (.putfield 37, 3) := by decide +kernel
theorem dX1_takeOpening_25 : decode cX1_takeOpening 25 = .ok (.goto 33, 3) := by decide +kernel
theorem dX1_takeOpening_28 : decode cX1_takeOpening 28 = .ok (.iload_n 1, 1) := by decide +kernel
theorem dX1_takeOpening_29 : decode cX1_takeOpening 29 = .ok (.bipush 33, 2) := by decide +kernel
theorem dX1_takeOpening_31 : decode cX1_takeOpening 31 = .ok (.if_icmp .ne 25, 3) := by decide +kernel
theorem dX1_takeOpening_34 : decode cX1_takeOpening 34 = .ok (.aload_n 0, 1) := by decide +kernel
theorem dX1_takeOpening_35 : decode cX1_takeOpening 35 = .ok (.getfield 40, 3) := by decide +kernel
theorem dX1_takeOpening_38 : decode cX1_takeOpening 38 = .ok (.bipush 8, 2) := by decide +kernel
theorem dX1_takeOpening_40 : decode cX1_takeOpening 40 = .ok (.if_icmp .ge 16, 3) := by decide +kernel
theorem dX1_takeOpening_43 : decode cX1_takeOpening 43 = .ok (.aload_n 0, 1) := by decide +kernel
theorem dX1_takeOpening_44 : decode cX1_takeOpening 44 = .ok (.dup, 1) := by decide +kernel
theorem dX1_takeOpening_45 : decode cX1_takeOpening 45 = .ok (.getfield 40, 3) := by decide +kernel
theorem dX1_takeOpening_48 : decode cX1_takeOpening 48 = .ok (.iconst 1, 1) := by decide +kernel
theorem dX1_takeOpening_49 : decode cX1_takeOpening 49 = .ok (.iadd, 1) := by decide +kernel
theorem dX1_takeOpening_50 : decode cX1_takeOpening 50 = .ok (.putfield 40, 3) := by decide +kernel
theorem dX1_takeOpening_53 : decode cX1_takeOpening 53 = .ok (.goto 5, 3) := by decide +kernel
theorem dX1_takeOpening_56 : decode cX1_takeOpening 56 = .ok (.iconst 0, 1) := by decide +kernel
theorem dX1_takeOpening_57 : decode cX1_takeOpening 57 = .ok (.ireturn, 1) := by decide +kernel
theorem dX1_takeOpening_58 : decode cX1_takeOpening 58 = .ok (.aload_n 0, 1) := by decide +kernel
theorem dX1_takeOpening_59 : decode cX1_takeOpening 59 = .ok (.iload_n 1, 1) := by decide +kernel
theorem dX1_takeOpening_60 : decode cX1_takeOpening 60 = .ok (.invokevirtual 140, 3) := by decide +kernel
theorem dX1_takeOpening_63 : decode cX1_takeOpening 63 = .ok (.iconst 1, 1) := by decide +kernel
theorem dX1_takeOpening_64 : decode cX1_takeOpening 64 = .ok (.ireturn, 1) := by decide +kernel
theorem dX1_takeJoint_0 : decode cX1_takeJoint 0 = .ok (.aload_n 0, 1) := by decide +kernel
theorem dX1_takeJoint_1 : decode cX1_takeJoint 1 = .ok (.getfield 9, 3) := by decide +kernel
theorem dX1_takeJoint_4 : decode cX1_takeJoint 4 = .ok (.aload_n 0, 1) := by decide +kernel
theorem dX1_takeJoint_5 : decode cX1_takeJoint 5 = .ok (.getfield 47, 3) := by decide +kernel
theorem dX1_takeJoint_8 : decode cX1_takeJoint 8 = .ok (.iaload, 1) := by decide +kernel
theorem dX1_takeJoint_9 : decode cX1_takeJoint 9 = .ok (.istore_n 1, 1) := by decide +kernel
theorem dX1_takeJoint_10 : decode cX1_takeJoint 10 = .ok (.iload_n 1, 1) := by decide +kernel
theorem dX1_takeJoint_11 : decode cX1_takeJoint 11 = .ok (.bipush 41, 2) := by decide +kernel
theorem dX1_takeJoint_13 : decode cX1_takeJoint 13 = .ok (.if_icmp .ne 41, 3) := by decide +kernel
theorem dX1_takeJoint_16 : decode cX1_takeJoint 16 = .ok (.aload_n 0, 1) := by decide +kernel
theorem dX1_takeJoint_17 : decode cX1_takeJoint 17 = .ok (.getfield 37, 3) := by decide +kernel
theorem dX1_takeJoint_20 : decode cX1_takeJoint 20 = .ok (.ifCond .le 34, 3) := by decide +kernel
theorem dX1_takeJoint_23 : decode cX1_takeJoint 23 = .ok (.aload_n 0, 1) := by decide +kernel
theorem dX1_takeJoint_24 : decode cX1_takeJoint 24 = .ok (.iconst 0, 1) := by decide +kernel
theorem dX1_takeJoint_25 : decode cX1_takeJoint 25 = .ok (.invokevirtual 81, 3) := by decide +kernel
theorem dX1_takeJoint_28 : decode cX1_takeJoint 28 = .ok (.aload_n 0, 1) := by decide +kernel
theorem dX1_takeJoint_29 : decode cX1_takeJoint 29 = .ok (.dup, 1) := by decide +kernel
theorem dX1_takeJoint_30 : decode cX1_takeJoint 30 = .ok (.getfield 28, 3) := by decide +kernel
theorem dX1_takeJoint_33 : decode cX1_takeJoint 33 = .ok (.iconst 1, 1) := by decide +kernel
theorem dX1_takeJoint_34 : decode cX1_takeJoint 34 = .ok (.isub, 1) := by decide +kernel
theorem dX1_takeJoint_35 : decode cX1_takeJoint 35 = .ok (.putfield 28, 3) := by decide +kernel
theorem dX1_takeJoint_38 : decode cX1_takeJoint 38 = .ok (.aload_n 0, 1) := by decide +kernel
theorem dX1_takeJoint_39 : decode cX1_takeJoint 39 = .ok (.dup, 1) := by decide +kernel
theorem dX1_takeJoint_40 : decode cX1_takeJoint 40 = .ok (.getfield 37, 3) := by decide +kernel
theorem dX1_takeJoint_43 : decode cX1_takeJoint 43 = .ok (.iconst 1, 1) := by decide +kernel
theorem dX1_takeJoint_44 : decode cX1_takeJoint 44 = .ok (.isub, 1) := by decide +kernel
theorem dX1_takeJoint_45 : decode cX1_takeJoint 45 = .ok (.putfield 37, 3) := by decide +kernel
theorem dX1_takeJoint_48 : decode cX1_takeJoint 48 = .ok (.aload_n 0, 1) := by decide +kernel
theorem dX1_takeJoint_49 : decode cX1_takeJoint 49 = .ok (.invokevirtual 131, 3) := by decide +kernel
theorem dX1_takeJoint_52 : decode cX1_takeJoint 52 = .ok (.iconst 1, 1) := by decide +kernel
theorem dX1_takeJoint_53 : decode cX1_takeJoint 53 = .ok (.ireturn, 1) := by decide +kernel
theorem dX1_takeJoint_54 : decode cX1_takeJoint 54 = .ok (.iload_n 1, 1) := by decide +kernel
theorem dX1_takeJoint_55 : decode cX1_takeJoint 55 = .ok (.invokestatic 143, 3) := by decide +kernel
theorem dX1_takeJoint_58 : decode cX1_takeJoint 58 = .ok (.istore_n 2, 1) := by decide +kernel
theorem dX1_takeJoint_59 : decode cX1_takeJoint 59 = .ok (.iload_n 2, 1) := by decide +kernel
theorem dX1_takeJoint_60 : decode cX1_takeJoint 60 = .ok (.ifCond .ne 5, 3) := by decide +kernel
theorem dX1_takeJoint_63 : decode cX1_takeJoint 63 = .ok (.iconst 0, 1) := by decide +kernel
theorem dX1_takeJoint_64 : decode cX1_takeJoint 64 = .ok (.ireturn, 1) := by decide +kernel
theorem dX1_takeJoint_65 : decode cX1_takeJoint 65 = .ok (.iload_n 2, 1) := by decide +kernel
theorem dX1_takeJoint_66 : decode cX1_takeJoint 66 = .ok (.iconst 3, 1) := by decide +kernel
theorem dX1_takeJoint_67 : decode cX1_takeJoint 67 = .ok (.if_icmp .ne 21, 3) := by decide +kernel
theorem dX1_takeJoint_70 : decode cX1_takeJoint 70 = .ok (.aload_n 0, 1) := by decide +kernel
theorem dX1_takeJoint_71 : decode cX1_takeJoint 71 = .ok (.iconst 3, 1) := by decide +kernel
theorem dX1_takeJoint_72 : decode cX1_takeJoint 72 = .ok (.invokevirtual 81, 3) := by decide +kernel
theorem dX1_takeJoint_75 : decode cX1_takeJoint 75 = .ok (.aload_n 0, 1) := by decide +kernel
theorem dX1_takeJoint_76 : decode cX1_takeJoint 76 = .ok (.invokevirtual 146, 3) := by decide +kernel
theorem dX1_takeJoint_79 : decode cX1_takeJoint 79 = .ok (.invokestatic 143, 3) := by decide +kernel
theorem dX1_takeJoint_82 : decode cX1_takeJoint 82 = .ok (.iconst 3, 1) := by decide +kernel
theorem dX1_takeJoint_83 : decode cX1_takeJoint 83 = .ok (.if_icmp .ne 12, 3) := by decide +kernel
theorem dX1_takeJoint_86 : decode cX1_takeJoint 86 = .ok (.iconst 0, 1) := by decide +kernel
theorem dX1_takeJoint_87 : decode cX1_takeJoint 87 = .ok (.ireturn, 1) := by decide +kernel
theorem dX1_takeJoint_88 : decode cX1_takeJoint 88 = .ok (.aload_n 0, 1) := by decide +kernel
theorem dX1_takeJoint_89 : decode cX1_takeJoint 89 = .ok (.iload_n 2, 1) := by decide +kernel
theorem dX1_takeJoint_90 : decode cX1_takeJoint 90 = .ok (.iconst 1, 1) := by decide +kernel
theorem dX1_takeJoint_91 : decode cX1_takeJoint 91 = .ok (.isub, 1) := by decide +kernel
theorem dX1_takeJoint_92 : decode cX1_takeJoint 92 = .ok (.invokevirtual 81, 3) := by decide +kernel
theorem dX1_takeJoint_95 : decode cX1_takeJoint 95 = .ok (.aload_n 0, 1) := by decide +kernel
theorem dX1_takeJoint_96 : decode cX1_takeJoint 96 = .ok (.iload_n 1, 1) := by decide +kernel
theorem dX1_takeJoint_97 : decode cX1_takeJoint 97 = .ok (.invokevirtual 140, 3) := by decide +kernel
theorem dX1_takeJoint_100 : decode cX1_takeJoint 100 = .ok (.aload_n 0, 1) := by decide +kernel
theorem dX1_takeJoint_101 : decode cX1_takeJoint 101 = .ok (.iconst 1, 1) := by decide +kernel
theorem dX1_takeJoint_102 : decode cX1_takeJoint 102 = .ok (.putfield 43, 3) := by decide +kernel
theorem dX1_takeJoint_105 : decode cX1_takeJoint 105 = .ok (.iconst 1, 1) := by decide +kernel
theorem dX1_takeJoint_106 : decode cX1_takeJoint 106 = .ok (.ireturn, 1) := by decide +kernel
theorem dX1_rankOf_0 : decode cX1_rankOf 0 = .ok (.iload_n 0, 1) := by decide +kernel
theorem dX1_rankOf_1 : decode cX1_rankOf 1 = .ok (.lookupswitch 93 #[(38, 85), (42, 91), (43, 89), (45, 89), (47, 91), (60, 87), (61, 87), (62, 87), (124, 83)], 83) := by decide +kernel
theorem dX1_rankOf_84 : decode cX1_rankOf 84 = .ok (.iconst 1, 1) := by decide +kernel
theorem dX1_rankOf_85 : decode cX1_rankOf 85 = .ok (.ireturn, 1) := by decide +kernel
theorem dX1_rankOf_86 : decode cX1_rankOf 86 = .ok (.iconst 2, 1) := by decide +kernel
theorem dX1_rankOf_87 : decode cX1_rankOf 87 = .ok (.ireturn, 1) := by decide +kernel
theorem dX1_rankOf_88 : decode cX1_rankOf 88 = .ok (.iconst 3, 1) := by decide +kernel
theorem dX1_rankOf_89 : decode cX1_rankOf 89 = .ok (.ireturn, 1) := by decide +kernel
theorem dX1_rankOf_90 : decode cX1_rankOf 90 = .ok (.iconst 4, 1) := by decide +kernel
theorem dX1_rankOf_91 : decode cX1_rankOf 91 = .ok (.ireturn, 1) := by decide +kernel
theorem dX1_rankOf_92 : decode cX1_rankOf 92 = .ok (.iconst 5, 1) := by decide +kernel
theorem dX1_rankOf_93 : decode cX1_rankOf 93 = .ok (.ireturn, 1) := by decide +kernel
theorem dX1_rankOf_94 : decode cX1_rankOf 94 = .ok (.iconst 0, 1) := by decide +kernel
theorem dX1_rankOf_95 : decode cX1_rankOf 95 = .ok (.ireturn, 1) := by decide +kernel
theorem dX1_endPiece_0 : decode cX1_endPiece 0 = .ok (.aload_n 0, 1) := by decide +kernel
theorem dX1_endPiece_1 : decode cX1_endPiece 1 = .ok (.iconst 0, 1) := by decide +kernel
theorem dX1_endPiece_2 : decode cX1_endPiece 2 = .ok (.putfield 43, 3) := by decide +kernel
theorem dX1_endPiece_5 : decode cX1_endPiece 5 = .ok (.aload_n 0, 1) := by decide +kernel
theorem dX1_endPiece_6 : decode cX1_endPiece 6 = .ok (.getfield 28, 3) := by decide +kernel
theorem dX1_endPiece_9 : decode cX1_endPiece 9 = .ok (.ifCond .le 41, 3) := by decide +kernel
theorem dX1_endPiece_12 : decode cX1_endPiece 12 = .ok (.aload_n 0, 1) := by decide +kernel
theorem dX1_endPiece_13 : decode cX1_endPiece 13 = .ok (.invokevirtual 146, 3) := by decide +kernel
theorem dX1_endPiece_16 : decode cX1_endPiece 16 = .ok (.bipush 33, 2) := by decide +kernel
theorem dX1_endPiece_18 : decode cX1_endPiece 18 = .ok (.if_icmp .ne 32, 3) := by decide +kernel
theorem dX1_endPiece_21 : decode cX1_endPiece 21 = .ok (.aload_n 0, 1) := by decide +kernel
theorem dX1_endPiece_22 : decode cX1_endPiece 22 = .ok (.bipush (-33), 2) := by decide +kernel
theorem dX1_endPiece_24 : decode cX1_endPiece 24 = .ok (.invokevirtual 128, 3) := by decide +kernel
theorem dX1_endPiece_27 : decode cX1_endPiece 27 = .ok (.aload_n 0, 1) := by decide +kernel
theorem dX1_endPiece_28 : decode cX1_endPiece 28 = .ok (.dup, 1) := by decide +kernel
theorem dX1_endPiece_29 : decode cX1_endPiece 29 = .ok (.getfield 28, 3) := by decide +kernel
theorem dX1_endPiece_32 : decode cX1_endPiece 32 = .ok (.iconst 1, 1) := by decide +kernel
theorem dX1_endPiece_33 : decode cX1_endPiece 33 = .ok (.isub, 1) := by decide +kernel
theorem dX1_endPiece_34 : decode cX1_endPiece 34 = .ok (.putfield 28, 3) := by decide +kernel
theorem dX1_endPiece_37 : decode cX1_endPiece 37 = .ok (.aload_n 0, 1) := by decide +kernel
theorem dX1_endPiece_38 : decode cX1_endPiece 38 = .ok (.dup, 1) := by decide +kernel
theorem dX1_endPiece_39 : decode cX1_endPiece 39 = .ok (.getfield 40, 3) := by decide +kernel
theorem dX1_endPiece_42 : decode cX1_endPiece 42 = .ok (.iconst 1, 1) := by decide +kernel
theorem dX1_endPiece_43 : decode cX1_endPiece 43 = .ok (.isub, 1) := by decide +kernel
theorem dX1_endPiece_44 : decode cX1_endPiece 44 = .ok (.putfield 40, 3) := by decide +kernel
theorem dX1_endPiece_47 : decode cX1_endPiece 47 = .ok (.goto (-42), 3) := by decide +kernel
theorem dX1_endPiece_50 : decode cX1_endPiece 50 = .ok (.return_, 1) := by decide +kernel
theorem dX1_closeAbove_0 : decode cX1_closeAbove 0 = .ok (.aload_n 0, 1) := by decide +kernel
theorem dX1_closeAbove_1 : decode cX1_closeAbove 1 = .ok (.getfield 28, 3) := by decide +kernel
theorem dX1_closeAbove_4 : decode cX1_closeAbove 4 = .ok (.ifCond .le 36, 3) := by decide +kernel
theorem dX1_closeAbove_7 : decode cX1_closeAbove 7 = .ok (.aload_n 0, 1) := by decide +kernel
theorem dX1_closeAbove_8 : decode cX1_closeAbove 8 = .ok (.invokevirtual 146, 3) := by decide +kernel
theorem dX1_closeAbove_11 : decode cX1_closeAbove 11 = .ok (.invokestatic 143, 3) := by decide +kernel
theorem dX1_closeAbove_14 : decode cX1_closeAbove 14 = .ok (.iload_n 1, 1) := by decide +kernel
theorem dX1_closeAbove_15 : decode cX1_closeAbove 15 = .ok (.if_icmp .le 25, 3) := by decide +kernel
theorem dX1_closeAbove_18 : decode cX1_closeAbove 18 = .ok (.aload_n 0, 1) := by decide +kernel
theorem dX1_closeAbove_19 : decode cX1_closeAbove 19 = .ok (.aload_n 0, 1) := by decide +kernel
theorem dX1_closeAbove_20 : decode cX1_closeAbove 20 = .ok (.invokevirtual 146, 3) := by decide +kernel
theorem dX1_closeAbove_23 : decode cX1_closeAbove 23 = .ok (.ineg, 1) := by decide +kernel
theorem dX1_closeAbove_24 : decode cX1_closeAbove 24 = .ok (.invokevirtual 128, 3) := by decide +kernel
theorem dX1_closeAbove_27 : decode cX1_closeAbove 27 = .ok (.aload_n 0, 1) := by decide +kernel
theorem dX1_closeAbove_28 : decode cX1_closeAbove 28 = .ok (.dup, 1) := by decide +kernel
theorem dX1_closeAbove_29 : decode cX1_closeAbove 29 = .ok (.getfield 28, 3) := by decide +kernel
theorem dX1_closeAbove_32 : decode cX1_closeAbove 32 = .ok (.iconst 1, 1) := by decide +kernel
theorem dX1_closeAbove_33 : decode cX1_closeAbove 33 = .ok (.isub, 1) := by decide +kernel
theorem dX1_closeAbove_34 : decode cX1_closeAbove 34 = .ok (.putfield 28, 3) := by decide +kernel
theorem dX1_closeAbove_37 : decode cX1_closeAbove 37 = .ok (.goto (-37), 3) := by decide +kernel
theorem dX1_closeAbove_40 : decode cX1_closeAbove 40 = .ok (.return_, 1) := by decide +kernel
theorem dX1_lastOpen_0 : decode cX1_lastOpen 0 = .ok (.aload_n 0, 1) := by decide +kernel
theorem dX1_lastOpen_1 : decode cX1_lastOpen 1 = .ok (.getfield 28, 3) := by decide +kernel
theorem dX1_lastOpen_4 : decode cX1_lastOpen 4 = .ok (.iconst 1, 1) := by decide +kernel
theorem dX1_lastOpen_5 : decode cX1_lastOpen 5 = .ok (.isub, 1) := by decide +kernel
theorem dX1_lastOpen_6 : decode cX1_lastOpen 6 = .ok (.bipush 96, 2) := by decide +kernel
theorem dX1_lastOpen_8 : decode cX1_lastOpen 8 = .ok (.invokestatic 89, 3) := by decide +kernel
theorem dX1_lastOpen_11 : decode cX1_lastOpen 11 = .ok (.ifCond .eq 17, 3) := by decide +kernel
theorem dX1_lastOpen_14 : decode cX1_lastOpen 14 = .ok (.aload_n 0, 1) := by decide +kernel
theorem dX1_lastOpen_15 : decode cX1_lastOpen 15 = .ok (.getfield 25, 3) := by decide +kernel
theorem dX1_lastOpen_18 : decode cX1_lastOpen 18 = .ok (.aload_n 0, 1) := by decide +kernel
theorem dX1_lastOpen_19 : decode cX1_lastOpen 19 = .ok (.getfield 28, 3) := by decide +kernel
theorem dX1_lastOpen_22 : decode cX1_lastOpen 22 = .ok (.iconst 1, 1) := by decide +kernel
theorem dX1_lastOpen_23 : decode cX1_lastOpen 23 = .ok (.isub, 1) := by decide +kernel
theorem dX1_lastOpen_24 : decode cX1_lastOpen 24 = .ok (.iaload, 1) := by decide +kernel
theorem dX1_lastOpen_25 : decode cX1_lastOpen 25 = .ok (.goto 4, 3) := by decide +kernel
theorem dX1_lastOpen_28 : decode cX1_lastOpen 28 = .ok (.iconst 0, 1) := by decide +kernel
theorem dX1_lastOpen_29 : decode cX1_lastOpen 29 = .ok (.ireturn, 1) := by decide +kernel
theorem dX1_addOpen_0 : decode cX1_addOpen 0 = .ok (.aload_n 0, 1) := by decide +kernel
theorem dX1_addOpen_1 : decode cX1_addOpen 1 = .ok (.getfield 28, 3) := by decide +kernel
theorem dX1_addOpen_4 : decode cX1_addOpen 4 = .ok (.bipush 96, 2) := by decide +kernel
theorem dX1_addOpen_6 : decode cX1_addOpen 6 = .ok (.if_icmp .ge 23, 3) := by decide +kernel
theorem dX1_addOpen_9 : decode cX1_addOpen 9 = .ok (.aload_n 0, 1) := by decide +kernel
theorem dX1_addOpen_10 : decode cX1_addOpen 10 = .ok (.getfield 25, 3) := by decide +kernel
theorem dX1_addOpen_13 : decode cX1_addOpen 13 = .ok (.aload_n 0, 1) := by decide +kernel
theorem dX1_addOpen_14 : decode cX1_addOpen 14 = .ok (.getfield 28, 3) := by decide +kernel
theorem dX1_addOpen_17 : decode cX1_addOpen 17 = .ok (.iload_n 1, 1) := by decide +kernel
theorem dX1_addOpen_18 : decode cX1_addOpen 18 = .ok (.iastore, 1) := by decide +kernel
theorem dX1_addOpen_19 : decode cX1_addOpen 19 = .ok (.aload_n 0, 1) := by decide +kernel
theorem dX1_addOpen_20 : decode cX1_addOpen 20 = .ok (.dup, 1) := by decide +kernel
theorem dX1_addOpen_21 : decode cX1_addOpen 21 = .ok (.getfield 28, 3) := by decide +kernel
theorem dX1_addOpen_24 : decode cX1_addOpen 24 = .ok (.iconst 1, 1) := by decide +kernel
theorem dX1_addOpen_25 : decode cX1_addOpen 25 = .ok (.iadd, 1) := by decide +kernel
theorem dX1_addOpen_26 : decode cX1_addOpen 26 = .ok (.putfield 28, 3) := by decide +kernel
theorem dX1_addOpen_29 : decode cX1_addOpen 29 = .ok (.return_, 1) := by decide +kernel
theorem dX1_addStep_0 : decode cX1_addStep 0 = .ok (.aload_n 0, 1) := by decide +kernel
theorem dX1_addStep_1 : decode cX1_addStep 1 = .ok (.getfield 22, 3) := by decide +kernel
theorem dX1_addStep_4 : decode cX1_addStep 4 = .ok (.bipush 96, 2) := by decide +kernel
theorem dX1_addStep_6 : decode cX1_addStep 6 = .ok (.if_icmp .ge 23, 3) := by decide +kernel
theorem dX1_addStep_9 : decode cX1_addStep 9 = .ok (.aload_n 0, 1) := by decide +kernel
theorem dX1_addStep_10 : decode cX1_addStep 10 = .ok (.getfield 19, 3) := by decide +kernel
theorem dX1_addStep_13 : decode cX1_addStep 13 = .ok (.aload_n 0, 1) := by decide +kernel
theorem dX1_addStep_14 : decode cX1_addStep 14 = .ok (.getfield 22, 3) := by decide +kernel
theorem dX1_addStep_17 : decode cX1_addStep 17 = .ok (.iload_n 1, 1) := by decide +kernel
theorem dX1_addStep_18 : decode cX1_addStep 18 = .ok (.iastore, 1) := by decide +kernel
theorem dX1_addStep_19 : decode cX1_addStep 19 = .ok (.aload_n 0, 1) := by decide +kernel
theorem dX1_addStep_20 : decode cX1_addStep 20 = .ok (.dup, 1) := by decide +kernel
theorem dX1_addStep_21 : decode cX1_addStep 21 = .ok (.getfield 22, 3) := by decide +kernel
theorem dX1_addStep_24 : decode cX1_addStep 24 = .ok (.iconst 1, 1) := by decide +kernel
theorem dX1_addStep_25 : decode cX1_addStep 25 = .ok (.iadd, 1) := by decide +kernel
theorem dX1_addStep_26 : decode cX1_addStep 26 = .ok (.putfield 22, 3) := by decide +kernel
theorem dX1_addStep_29 : decode cX1_addStep 29 = .ok (.return_, 1) := by decide +kernel
theorem dX2_init_0 : decode cX2_init 0 = .ok (.aload_n 0, 1) := by decide +kernel
theorem dX2_init_1 : decode cX2_init 1 = .ok (.invokespecial 3, 3) := by decide +kernel
theorem dX2_init_4 : decode cX2_init 4 = .ok (.aload_n 0, 1) := by decide +kernel
theorem dX2_init_5 : decode cX2_init 5 = .ok (.bipush 8, 2) := by decide +kernel
theorem dX2_init_7 : decode cX2_init 7 = .ok (.anewarray 9, 3) := by decide +kernel
theorem dX2_init_10 : decode cX2_init 10 = .ok (.putfield 11, 3) := by decide +kernel
theorem dX2_init_13 : decode cX2_init 13 = .ok (.aload_n 0, 1) := by decide +kernel
theorem dX2_init_14 : decode cX2_init 14 = .ok (.iconst 0, 1) := by decide +kernel
theorem dX2_init_15 : decode cX2_init 15 = .ok (.putfield 17, 3) := by decide +kernel
theorem dX2_init_18 : decode cX2_init 18 = .ok (.aload_n 0, 1) := by decide +kernel
theorem dX2_init_19 : decode cX2_init 19 = .ok (.lconst 0, 1) := by decide +kernel
theorem dX2_init_20 : decode cX2_init 20 = .ok (.putfield 21, 3) := by decide +kernel
theorem dX2_init_23 : decode cX2_init 23 = .ok (.aload_n 0, 1) := by decide +kernel
theorem dX2_init_24 : decode cX2_init 24 = .ok (.iconst 0, 1) := by decide +kernel
theorem dX2_init_25 : decode cX2_init 25 = .ok (.putfield 25, 3) := by decide +kernel
theorem dX2_init_28 : decode cX2_init 28 = .ok (.aload_n 0, 1) := by decide +kernel
theorem dX2_init_29 : decode cX2_init 29 = .ok (.bipush 20, 2) := by decide +kernel
theorem dX2_init_31 : decode cX2_init 31 = .ok (.putfield 28, 3) := by decide +kernel
theorem dX2_init_34 : decode cX2_init 34 = .ok (.aload_n 0, 1) := by decide +kernel
theorem dX2_init_35 : decode cX2_init 35 = .ok (.bipush 30, 2) := by decide +kernel
theorem dX2_init_37 : decode cX2_init 37 = .ok (.putfield 31, 3) := by decide +kernel
theorem dX2_init_40 : decode cX2_init 40 = .ok (.aload_n 0, 1) := by decide +kernel
theorem dX2_init_41 : decode cX2_init 41 = .ok (.iconst 0, 1) := by decide +kernel
theorem dX2_init_42 : decode cX2_init 42 = .ok (.putfield 34, 3) := by decide +kernel
theorem dX2_init_45 : decode cX2_init 45 = .ok (.aload_n 0, 1) := by decide +kernel
theorem dX2_init_46 : decode cX2_init 46 = .ok (.iconst 0, 1) := by decide +kernel
theorem dX2_init_47 : decode cX2_init 47 = .ok (.putfield 37, 3) := by decide +kernel
theorem dX2_init_50 : decode cX2_init 50 = .ok (.aload_n 0, 1) := by decide +kernel
theorem dX2_init_51 : decode cX2_init 51 = .ok (.iconst 0, 1) := by decide +kernel
theorem dX2_init_52 : decode cX2_init 52 = .ok (.putfield 40, 3) := by decide +kernel
theorem dX2_init_55 : decode cX2_init 55 = .ok (.aload_n 0, 1) := by decide +kernel
theorem dX2_init_56 : decode cX2_init 56 = .ok (.iconst 1, 1) := by decide +kernel
theorem dX2_init_57 : decode cX2_init 57 = .ok (.putfield 43, 3) := by decide +kernel
theorem dX2_init_60 : decode cX2_init 60 = .ok (.aload_n 0, 1) := by decide +kernel
theorem dX2_init_61 : decode cX2_init 61 = .ok (.bipush 14, 2) := by decide +kernel
theorem dX2_init_63 : decode cX2_init 63 = .ok (.anewarray 46, 3) := by decide +kernel
theorem dX2_init_66 : decode cX2_init 66 = .ok (.putfield 48, 3) := by decide +kernel
theorem dX2_init_69 : decode cX2_init 69 = .ok (.aload_n 0, 1) := by decide +kernel
theorem dX2_init_70 : decode cX2_init 70 = .ok (.iconst 0, 1) := by decide +kernel
theorem dX2_init_71 : decode cX2_init 71 = .ok (.putfield 52, 3) := by decide +kernel
theorem dX2_init_74 : decode cX2_init 74 = .ok (.aload_n 0, 1) := by decide +kernel
theorem dX2_init_75 : decode cX2_init 75 = .ok (.iconst 3, 1) := by decide +kernel
theorem dX2_init_76 : decode cX2_init 76 = .ok (.newarray .int, 2) := by decide +kernel
theorem dX2_init_78 : decode cX2_init 78 = .ok (.dup, 1) := by decide +kernel
theorem dX2_init_79 : decode cX2_init 79 = .ok (.iconst 0, 1) := by decide +kernel
theorem dX2_init_80 : decode cX2_init 80 = .ok (.iconst (-1), 1) := by decide +kernel
theorem dX2_init_81 : decode cX2_init 81 = .ok (.iastore, 1) := by decide +kernel
theorem dX2_init_82 : decode cX2_init 82 = .ok (.dup, 1) := by decide +kernel
theorem dX2_init_83 : decode cX2_init 83 = .ok (.iconst 1, 1) := by decide +kernel
theorem dX2_init_84 : decode cX2_init 84 = .ok (.iconst (-1), 1) := by decide +kernel
theorem dX2_init_85 : decode cX2_init 85 = .ok (.iastore, 1) := by decide +kernel
theorem dX2_init_86 : decode cX2_init 86 = .ok (.dup, 1) := by decide +kernel
theorem dX2_init_87 : decode cX2_init 87 = .ok (.iconst 2, 1) := by decide +kernel
theorem dX2_init_88 : decode cX2_init 88 = .ok (.iconst (-1), 1) := by decide +kernel
theorem dX2_init_89 : decode cX2_init 89 = .ok (.iastore, 1) := by decide +kernel
theorem dX2_init_90 : decode cX2_init 90 = .ok (.putfield 55, 3) := by decide +kernel
theorem dX2_init_93 : decode cX2_init 93 = .ok (.iconst 0, 1) := by decide +kernel
theorem dX2_init_94 : decode cX2_init 94 = .ok (.istore_n 1, 1) := by decide +kernel
theorem dX2_init_95 : decode cX2_init 95 = .ok (.iload_n 1, 1) := by decide +kernel
theorem dX2_init_96 : decode cX2_init 96 = .ok (.bipush 8, 2) := by decide +kernel
theorem dX2_init_98 : decode cX2_init 98 = .ok (.if_icmp .ge 22, 3) := by decide +kernel
theorem dX2_init_101 : decode cX2_init 101 = .ok (.aload_n 0, 1) := by decide +kernel
theorem dX2_init_102 : decode cX2_init 102 = .ok (.getfield 11, 3) := by decide +kernel
theorem dX2_init_105 : decode cX2_init 105 = .ok (.iload_n 1, 1) := by decide +kernel
theorem dX2_init_106 : decode cX2_init 106 = .ok (.new 9, 3) := by decide +kernel
theorem dX2_init_109 : decode cX2_init 109 = .ok (.dup, 1) := by decide +kernel
theorem dX2_init_110 : decode cX2_init 110 = .ok (.invokespecial 59, 3) := by decide +kernel
theorem dX2_init_113 : decode cX2_init 113 = .ok (.aastore, 1) := by decide +kernel
theorem dX2_init_114 : decode cX2_init 114 = .ok (.iinc 1 1, 3) := by decide +kernel
theorem dX2_init_117 : decode cX2_init 117 = .ok (.goto (-22), 3) := by decide +kernel
theorem dX2_init_120 : decode cX2_init 120 = .ok (.return_, 1) := by decide +kernel
theorem dX2_becomeAs_0 : decode cX2_becomeAs 0 = .ok (.iconst 0, 1) := by decide +kernel
theorem dX2_becomeAs_1 : decode cX2_becomeAs 1 = .ok (.istore_n 2, 1) := by decide +kernel
theorem dX2_becomeAs_2 : decode cX2_becomeAs 2 = .ok (.iload_n 2, 1) := by decide +kernel
theorem dX2_becomeAs_3 : decode cX2_becomeAs 3 = .ok (.aload_n 1, 1) := by decide +kernel
theorem dX2_becomeAs_4 : decode cX2_becomeAs 4 = .ok (.getfield 17, 3) := by decide +kernel
theorem dX2_becomeAs_7 : decode cX2_becomeAs 7 = .ok (.if_icmp .ge 24, 3) := by decide +kernel
theorem dX2_becomeAs_10 : decode cX2_becomeAs 10 = .ok (.aload_n 0, 1) := by decide +kernel
theorem dX2_becomeAs_11 : decode cX2_becomeAs 11 = .ok (.getfield 11, 3) := by decide +kernel
theorem dX2_becomeAs_14 : decode cX2_becomeAs 14 = .ok (.iload_n 2, 1) := by decide +kernel
theorem dX2_becomeAs_15 : decode cX2_becomeAs 15 = .ok (.aaload, 1) := by decide +kernel
theorem dX2_becomeAs_16 : decode cX2_becomeAs 16 = .ok (.aload_n 1, 1) := by decide +kernel
theorem dX2_becomeAs_17 : decode cX2_becomeAs 17 = .ok (.getfield 11, 3) := by decide +kernel
theorem dX2_becomeAs_20 : decode cX2_becomeAs 20 = .ok (.iload_n 2, 1) := by decide +kernel
theorem dX2_becomeAs_21 : decode cX2_becomeAs 21 = .ok (.aaload, 1) := by decide +kernel
theorem dX2_becomeAs_22 : decode cX2_becomeAs 22 = .ok (.invokevirtual 60, 3) := by decide +kernel
theorem dX2_becomeAs_25 : decode cX2_becomeAs 25 = .ok (.iinc 2 1, 3) := by decide +kernel
theorem dX2_becomeAs_28 : decode cX2_becomeAs 28 = .ok (.goto (-26), 3) := by decide +kernel
theorem dX2_becomeAs_31 : decode cX2_becomeAs 31 = .ok (.aload_n 0, 1) := by decide +kernel
theorem dX2_becomeAs_32 : decode cX2_becomeAs 32 = .ok (.aload_n 1, 1) := by decide +kernel
theorem dX2_becomeAs_33 : decode cX2_becomeAs 33 = .ok (.getfield 17, 3) := by decide +kernel
theorem dX2_becomeAs_36 : decode cX2_becomeAs 36 = .ok (.putfield 17, 3) := by decide +kernel
theorem dX2_becomeAs_39 : decode cX2_becomeAs 39 = .ok (.aload_n 0, 1) := by decide +kernel
theorem dX2_becomeAs_40 : decode cX2_becomeAs 40 = .ok (.aload_n 1, 1) := by decide +kernel
theorem dX2_becomeAs_41 : decode cX2_becomeAs 41 = .ok (.getfield 21, 3) := by decide +kernel
theorem dX2_becomeAs_44 : decode cX2_becomeAs 44 = .ok (.putfield 21, 3) := by decide +kernel
theorem dX2_becomeAs_47 : decode cX2_becomeAs 47 = .ok (.aload_n 0, 1) := by decide +kernel
theorem dX2_becomeAs_48 : decode cX2_becomeAs 48 = .ok (.aload_n 1, 1) := by decide +kernel
theorem dX2_becomeAs_49 : decode cX2_becomeAs 49 = .ok (.getfield 25, 3) := by decide +kernel
theorem dX2_becomeAs_52 : decode cX2_becomeAs 52 = .ok (.putfield 25, 3) := by decide +kernel
theorem dX2_becomeAs_55 : decode cX2_becomeAs 55 = .ok (.aload_n 0, 1) := by decide +kernel
theorem dX2_becomeAs_56 : decode cX2_becomeAs 56 = .ok (.aload_n 1, 1) := by decide +kernel
theorem dX2_becomeAs_57 : decode cX2_becomeAs 57 = .ok (.getfield 28, 3) := by decide +kernel
theorem dX2_becomeAs_60 : decode cX2_becomeAs 60 = .ok (.putfield 28, 3) := by decide +kernel
theorem dX2_becomeAs_63 : decode cX2_becomeAs 63 = .ok (.aload_n 0, 1) := by decide +kernel
theorem dX2_becomeAs_64 : decode cX2_becomeAs 64 = .ok (.aload_n 1, 1) := by decide +kernel
theorem dX2_becomeAs_65 : decode cX2_becomeAs 65 = .ok (.getfield 31, 3) := by decide +kernel
theorem dX2_becomeAs_68 : decode cX2_becomeAs 68 = .ok (.putfield 31, 3) := by decide +kernel
theorem dX2_becomeAs_71 : decode cX2_becomeAs 71 = .ok (.aload_n 0, 1) := by decide +kernel
theorem dX2_becomeAs_72 : decode cX2_becomeAs 72 = .ok (.aload_n 1, 1) := by decide +kernel
theorem dX2_becomeAs_73 : decode cX2_becomeAs 73 = .ok (.getfield 34, 3) := by decide +kernel
theorem dX2_becomeAs_76 : decode cX2_becomeAs 76 = .ok (.putfield 34, 3) := by decide +kernel
theorem dX2_becomeAs_79 : decode cX2_becomeAs 79 = .ok (.aload_n 0, 1) := by decide +kernel
theorem dX2_becomeAs_80 : decode cX2_becomeAs 80 = .ok (.aload_n 1, 1) := by decide +kernel
theorem dX2_becomeAs_81 : decode cX2_becomeAs 81 = .ok (.getfield 37, 3) := by decide +kernel
theorem dX2_becomeAs_84 : decode cX2_becomeAs 84 = .ok (.putfield 37, 3) := by decide +kernel
theorem dX2_becomeAs_87 : decode cX2_becomeAs 87 = .ok (.aload_n 0, 1) := by decide +kernel
theorem dX2_becomeAs_88 : decode cX2_becomeAs 88 = .ok (.aload_n 1, 1) := by decide +kernel
theorem dX2_becomeAs_89 : decode cX2_becomeAs 89 = .ok (.getfield 40, 3) := by decide +kernel
theorem dX2_becomeAs_92 : decode cX2_becomeAs 92 = .ok (.putfield 40, 3) := by decide +kernel
theorem dX2_becomeAs_95 : decode cX2_becomeAs 95 = .ok (.aload_n 0, 1) := by decide +kernel
theorem dX2_becomeAs_96 : decode cX2_becomeAs 96 = .ok (.aload_n 1, 1) := by decide +kernel
theorem dX2_becomeAs_97 : decode cX2_becomeAs 97 = .ok (.getfield 43, 3) := by decide +kernel
theorem dX2_becomeAs_100 : decode cX2_becomeAs 100 = .ok (.putfield 43, 3) := by decide +kernel
theorem dX2_becomeAs_103 : decode cX2_becomeAs 103 = .ok (.iconst 0, 1) := by decide +kernel
theorem dX2_becomeAs_104 : decode cX2_becomeAs 104 = .ok (.istore_n 2, 1) := by decide +kernel
theorem dX2_becomeAs_105 : decode cX2_becomeAs 105 = .ok (.iload_n 2, 1) := by decide +kernel
theorem dX2_becomeAs_106 : decode cX2_becomeAs 106 = .ok (.aload_n 1, 1) := by decide +kernel
theorem dX2_becomeAs_107 : decode cX2_becomeAs 107 = .ok (.getfield 52, 3) := by decide +kernel
theorem dX2_becomeAs_110 : decode cX2_becomeAs 110 = .ok (.if_icmp .ge 21, 3) := by decide +kernel
theorem dX2_becomeAs_113 : decode cX2_becomeAs 113 = .ok (.aload_n 0, 1) := by decide +kernel
theorem dX2_becomeAs_114 : decode cX2_becomeAs 114 = .ok (.getfield 48, 3) := by decide +kernel
theorem dX2_becomeAs_117 : decode cX2_becomeAs 117 = .ok (.iload_n 2, 1) := by decide +kernel
theorem dX2_becomeAs_118 : decode cX2_becomeAs 118 = .ok (.aload_n 1, 1) := by decide +kernel
theorem dX2_becomeAs_119 : decode cX2_becomeAs 119 = .ok (.getfield 48, 3) := by decide +kernel
theorem dX2_becomeAs_122 : decode cX2_becomeAs 122 = .ok (.iload_n 2, 1) := by decide +kernel
theorem dX2_becomeAs_123 : decode cX2_becomeAs 123 = .ok (.aaload, 1) := by decide +kernel
theorem dX2_becomeAs_124 : decode cX2_becomeAs 124 = .ok (.aastore, 1) := by decide +kernel
theorem dX2_becomeAs_125 : decode cX2_becomeAs 125 = .ok (.iinc 2 1, 3) := by decide +kernel
theorem dX2_becomeAs_128 : decode cX2_becomeAs 128 = .ok (.goto (-23), 3) := by decide +kernel
theorem dX2_becomeAs_131 : decode cX2_becomeAs 131 = .ok (.aload_n 0, 1) := by decide +kernel
theorem dX2_becomeAs_132 : decode cX2_becomeAs 132 = .ok (.aload_n 1, 1) := by decide +kernel
theorem dX2_becomeAs_133 : decode cX2_becomeAs 133 = .ok (.getfield 52, 3) := by decide +kernel
theorem dX2_becomeAs_136 : decode cX2_becomeAs 136 = .ok (.putfield 52, 3) := by decide +kernel
theorem dX2_becomeAs_139 : decode cX2_becomeAs 139 = .ok (.iconst 0, 1) := by decide +kernel
theorem dX2_becomeAs_140 : decode cX2_becomeAs 140 = .ok (.istore_n 2, 1) := by decide +kernel
theorem dX2_becomeAs_141 : decode cX2_becomeAs 141 = .ok (.iload_n 2, 1) := by decide +kernel
theorem dX2_becomeAs_142 : decode cX2_becomeAs 142 = .ok (.iconst 3, 1) := by decide +kernel
theorem dX2_becomeAs_143 : decode cX2_becomeAs 143 = .ok (.if_icmp .ge 21, 3) := by decide +kernel
theorem dX2_becomeAs_146 : decode cX2_becomeAs 146 = .ok (.aload_n 0, 1) := by decide +kernel
theorem dX2_becomeAs_147 : decode cX2_becomeAs 147 = .ok (.getfield 55, 3) := by decide +kernel
theorem dX2_becomeAs_150 : decode cX2_becomeAs 150 = .ok (.iload_n 2, 1) := by decide +kernel
theorem dX2_becomeAs_151 : decode cX2_becomeAs 151 = .ok (.aload_n 1, 1) := by decide +kernel
theorem dX2_becomeAs_152 : decode cX2_becomeAs 152 = .ok (.getfield 55, 3) := by decide +kernel
theorem dX2_becomeAs_155 : decode cX2_becomeAs 155 = .ok (.iload_n 2, 1) := by decide +kernel
theorem dX2_becomeAs_156 : decode cX2_becomeAs 156 = .ok (.iaload, 1) := by decide +kernel
theorem dX2_becomeAs_157 : decode cX2_becomeAs 157 = .ok (.iastore, 1) := by decide +kernel
theorem dX2_becomeAs_158 : decode cX2_becomeAs 158 = .ok (.iinc 2 1, 3) := by decide +kernel
theorem dX2_becomeAs_161 : decode cX2_becomeAs 161 = .ok (.goto (-20), 3) := by decide +kernel
theorem dX2_becomeAs_164 : decode cX2_becomeAs 164 = .ok (.return_, 1) := by decide +kernel
theorem dX2_hasWall_0 : decode cX2_hasWall 0 = .ok (.aload_n 0, 1) := by decide +kernel
theorem dX2_hasWall_1 : decode cX2_hasWall 1 = .ok (.getfield 21, 3) := by decide +kernel
theorem dX2_hasWall_4 : decode cX2_hasWall 4 = .ok (.iload_n 1, 1) := by decide +kernel
theorem dX2_hasWall_5 : decode cX2_hasWall 5 = .ok (.lushr, 1) := by decide +kernel
theorem dX2_hasWall_6 : decode cX2_hasWall 6 = .ok (.lconst 1, 1) := by decide +kernel
theorem dX2_hasWall_7 : decode cX2_hasWall 7 = .ok (.land, 1) := by decide +kernel
theorem dX2_hasWall_8 : decode cX2_hasWall 8 = .ok (.lconst 0, 1) := by decide +kernel
theorem dX2_hasWall_9 : decode cX2_hasWall 9 = .ok (.lcmp, 1) := by decide +kernel
theorem dX2_hasWall_10 : decode cX2_hasWall 10 = .ok (.ifCond .eq 7, 3) := by decide +kernel
theorem dX2_hasWall_13 : decode cX2_hasWall 13 = .ok (.iconst 1, 1) := by decide +kernel
theorem dX2_hasWall_14 : decode cX2_hasWall 14 = .ok (.goto 4, 3) := by decide +kernel
theorem dX2_hasWall_17 : decode cX2_hasWall 17 = .ok (.iconst 0, 1) := by decide +kernel
theorem dX2_hasWall_18 : decode cX2_hasWall 18 = .ok (.ireturn, 1) := by decide +kernel
theorem dX2_ownerOf_0 : decode cX2_ownerOf 0 = .ok (.iconst 0, 1) := by decide +kernel
theorem dX2_ownerOf_1 : decode cX2_ownerOf 1 = .ok (.istore_n 2, 1) := by decide +kernel
theorem dX2_ownerOf_2 : decode cX2_ownerOf 2 = .ok (.iload_n 2, 1) := by decide +kernel
theorem dX2_ownerOf_3 : decode cX2_ownerOf 3 = .ok (.aload_n 0, 1) := by decide +kernel
theorem dX2_ownerOf_4 : decode cX2_ownerOf 4 = .ok (.getfield 17, 3) := by decide +kernel
theorem dX2_ownerOf_7 : decode cX2_ownerOf 7 = .ok (.if_icmp .ge 24, 3) := by decide +kernel
theorem dX2_ownerOf_10 : decode cX2_ownerOf 10 = .ok (.aload_n 0, 1) := by decide +kernel
theorem dX2_ownerOf_11 : decode cX2_ownerOf 11 = .ok (.getfield 11, 3) := by decide +kernel
theorem dX2_ownerOf_14 : decode cX2_ownerOf 14 = .ok (.iload_n 2, 1) := by decide +kernel
theorem dX2_ownerOf_15 : decode cX2_ownerOf 15 = .ok (.aaload, 1) := by decide +kernel
theorem dX2_ownerOf_16 : decode cX2_ownerOf 16 = .ok (.getfield 64, 3) := by decide +kernel
theorem dX2_ownerOf_19 : decode cX2_ownerOf 19 = .ok (.iload_n 1, 1) := by decide +kernel
theorem dX2_ownerOf_20 : decode cX2_ownerOf 20 = .ok (.if_icmp .ne 5, 3) := by decide +kernel
theorem dX2_ownerOf_23 : decode cX2_ownerOf 23 = .ok (.iload_n 2, 1) := by decide +kernel
theorem dX2_ownerOf_24 : decode cX2_ownerOf 24 = .ok (.ireturn, 1) := by decide +kernel
theorem dX2_ownerOf_25 : decode cX2_ownerOf 25 = .ok (.iinc 2 1, 3) := by decide +kernel
theorem dX2_ownerOf_28 : decode cX2_ownerOf 28 = .ok (.goto (-26), 3) := by decide +kernel
theorem dX2_ownerOf_31 : decode cX2_ownerOf 31 = .ok (.ldc 67, 2) := by decide +kernel
theorem dX2_ownerOf_33 : decode cX2_ownerOf 33 = .ok (.ireturn, 1) := by decide +kernel
theorem dX2_isFree_0 : decode cX2_isFree 0 = .ok (.aload_n 0, 1) := by decide +kernel
theorem dX2_isFree_1 : decode cX2_isFree 1 = .ok (.iload_n 1, 1) := by decide +kernel
theorem dX2_isFree_2 : decode cX2_isFree 2 = .ok (.invokevirtual 68, 3) := by decide +kernel
theorem dX2_isFree_5 : decode cX2_isFree 5 = .ok (.ifCond .ne 17, 3) := by decide +kernel
theorem dX2_isFree_8 : decode cX2_isFree 8 = .ok (.aload_n 0, 1) := by decide +kernel
theorem dX2_isFree_9 : decode cX2_isFree 9 = .ok (.iload_n 1, 1) := by decide +kernel
theorem dX2_isFree_10 : decode cX2_isFree 10 = .ok (.invokevirtual 72, 3) := by decide +kernel
theorem dX2_isFree_13 : decode cX2_isFree 13 = .ok (.ldc 67, 2) := by decide +kernel
theorem dX2_isFree_15 : decode cX2_isFree 15 = .ok (.if_icmp .ne 7, 3) := by decide +kernel
theorem dX2_isFree_18 : decode cX2_isFree 18 = .ok (.iconst 1, 1) := by decide +kernel
theorem dX2_isFree_19 : decode cX2_isFree 19 = .ok (.goto 4, 3) := by decide +kernel
theorem dX2_isFree_22 : decode cX2_isFree 22 = .ok (.iconst 0, 1) := by decide +kernel
theorem dX2_isFree_23 : decode cX2_isFree 23 = .ok (.ireturn, 1) := by decide +kernel
theorem dX2_addPost_0 : decode cX2_addPost 0 = .ok (.aload_n 0, 1) := by decide +kernel
theorem dX2_addPost_1 : decode cX2_addPost 1 = .ok (.getfield 17, 3) := by decide +kernel
theorem dX2_addPost_4 : decode cX2_addPost 4 = .ok (.bipush 8, 2) := by decide +kernel
theorem dX2_addPost_6 : decode cX2_addPost 6 = .ok (.if_icmp .ge 30, 3) := by decide +kernel
theorem dX2_addPost_9 : decode cX2_addPost 9 = .ok (.aload_n 0, 1) := by decide +kernel
theorem dX2_addPost_10 : decode cX2_addPost 10 = .ok (.getfield 11, 3) := by decide +kernel
theorem dX2_addPost_13 : decode cX2_addPost 13 = .ok (.aload_n 0, 1) := by decide +kernel
theorem dX2_addPost_14 : decode cX2_addPost 14 = .ok (.getfield 17, 3) := by decide +kernel
theorem dX2_addPost_17 : decode cX2_addPost 17 = .ok (.aaload, 1) := by decide +kernel
theorem dX2_addPost_18 : decode cX2_addPost 18 = .ok (.iload_n 1, 1) := by decide +kernel
theorem dX2_addPost_19 : decode cX2_addPost 19 = .ok (.iload_n 2, 1) := by decide +kernel
theorem dX2_addPost_20 : decode cX2_addPost 20 = .ok (.iload_n 3, 1) := by decide +kernel
theorem dX2_addPost_21 : decode cX2_addPost 21 = .ok (.iload 4, 2) := by decide +kernel
theorem dX2_addPost_23 : decode cX2_addPost 23 = .ok (.invokevirtual 76, 3) := by decide +kernel
theorem dX2_addPost_26 : decode cX2_addPost 26 = .ok (.aload_n 0, 1) := by decide +kernel
theorem dX2_addPost_27 : decode cX2_addPost 27 = .ok (.dup, 1) := by decide +kernel
theorem dX2_addPost_28 : decode cX2_addPost 28 = .ok (.getfield 17, 3) := by decide +kernel
theorem dX2_addPost_31 : decode cX2_addPost 31 = .ok (.iconst 1, 1) := by decide +kernel
theorem dX2_addPost_32 : decode cX2_addPost 32 = .ok (.iadd, 1) := by decide +kernel
theorem dX2_addPost_33 : decode cX2_addPost 33 = .ok (.putfield 17, 3) := by decide +kernel
theorem dX2_addPost_36 : decode cX2_addPost 36 = .ok (.return_, 1) := by decide +kernel
theorem dX2_draw_0 : decode cX2_draw 0 = .ok (.aload_n 0, 1) := by decide +kernel
theorem dX2_draw_1 : decode cX2_draw 1 = .ok (.aload_n 0, 1) := by decide +kernel
theorem dX2_draw_2 : decode cX2_draw 2 = .ok (.getfield 43, 3) := by decide +kernel
theorem dX2_draw_5 : decode cX2_draw 5 = .ok (.ldc 80, 2) := by decide +kernel
theorem dX2_draw_7 : decode cX2_draw 7 = .ok (.imul, 1) := by decide +kernel
theorem dX2_draw_8 : decode cX2_draw 8 = .ok (.sipush 12345, 3) := by decide +kernel
theorem dX2_draw_11 : decode cX2_draw 11 = .ok (.iadd, 1) := by decide +kernel
theorem dX2_draw_12 : decode cX2_draw 12 = .ok (.putfield 43, 3) := by decide +kernel
theorem dX2_draw_15 : decode cX2_draw 15 = .ok (.aload_n 0, 1) := by decide +kernel
theorem dX2_draw_16 : decode cX2_draw 16 = .ok (.getfield 43, 3) := by decide +kernel
theorem dX2_draw_19 : decode cX2_draw 19 = .ok (.bipush 8, 2) := by decide +kernel
theorem dX2_draw_21 : decode cX2_draw 21 = .ok (.iushr, 1) := by decide +kernel
theorem dX2_draw_22 : decode cX2_draw 22 = .ok (.ireturn, 1) := by decide +kernel
theorem dX2_drawPost_0 : decode cX2_drawPost 0 = .ok (.aload_n 0, 1) := by decide +kernel
theorem dX2_drawPost_1 : decode cX2_drawPost 1 = .ok (.invokevirtual 81, 3) := by decide +kernel
theorem dX2_drawPost_4 : decode cX2_drawPost 4 = .ok (.bipush 6, 2) := by decide +kernel
theorem dX2_drawPost_6 : decode cX2_drawPost 6 = .ok (.irem, 1) := by decide +kernel
theorem dX2_drawPost_7 : decode cX2_drawPost 7 = .ok (.istore_n 1, 1) := by decide +kernel
theorem dX2_drawPost_8 : decode cX2_drawPost 8 = .ok (.aload_n 0, 1) := by decide +kernel
theorem dX2_drawPost_9 : decode cX2_drawPost 9 = .ok (.invokevirtual 81, 3) := by decide +kernel
theorem dX2_drawPost_12 : decode cX2_drawPost 12 = .ok (.bipush 48, 2) := by decide +kernel
theorem dX2_drawPost_14 : decode cX2_drawPost 14 = .ok (.irem, 1) := by decide +kernel
theorem dX2_drawPost_15 : decode cX2_drawPost 15 = .ok (.istore_n 2, 1) := by decide +kernel
theorem dX2_drawPost_16 : decode cX2_drawPost 16 = .ok (.aload_n 0, 1) := by decide +kernel
theorem dX2_drawPost_17 : decode cX2_drawPost 17 = .ok (.invokevirtual 81, 3) := by decide +kernel
theorem dX2_drawPost_20 : decode cX2_drawPost 20 = .ok (.iconst 4, 1) := by decide +kernel
theorem dX2_drawPost_21 : decode cX2_drawPost 21 = .ok (.irem, 1) := by decide +kernel
theorem dX2_drawPost_22 : decode cX2_drawPost 22 = .ok (.istore_n 3, 1) := by decide +kernel
theorem dX2_drawPost_23 : decode cX2_drawPost 23 = .ok (.aload_n 0, 1) := by decide +kernel
theorem dX2_drawPost_24 : decode cX2_drawPost 24 = .ok (.invokevirtual 81, 3) := by decide +kernel
theorem dX2_drawPost_27 : decode cX2_drawPost 27 = .ok (.bipush 60, 2) := by decide +kernel
theorem dX2_drawPost_29 : decode cX2_drawPost 29 = .ok (.irem, 1) := by decide +kernel
theorem dX2_drawPost_30 : decode cX2_drawPost 30 = .ok (.istore 4, 2) := by decide +kernel
theorem dX2_drawPost_32 : decode cX2_drawPost 32 = .ok (.iconst 0, 1) := by decide +kernel
theorem dX2_drawPost_33 : decode cX2_drawPost 33 = .ok (.istore 5, 2) := by decide +kernel
theorem dX2_drawPost_35 : decode cX2_drawPost 35 = .ok (.iload 5, 2) := by decide +kernel
theorem dX2_drawPost_37 : decode cX2_drawPost 37 = .ok (.bipush 48, 2) := by decide +kernel
theorem dX2_drawPost_39 : decode cX2_drawPost 39 = .ok (.if_icmp .ge 39, 3) := by decide +kernel
theorem dX2_drawPost_42 : decode cX2_drawPost 42 = .ok (.iload_n 2, 1) := by decide +kernel
theorem dX2_drawPost_43 : decode cX2_drawPost 43 = .ok (.iload 5, 2) := by decide +kernel
theorem dX2_drawPost_45 : decode cX2_drawPost 45 = .ok (.iadd, 1) := by decide +kernel
theorem dX2_drawPost_46 : decode cX2_drawPost 46 = .ok (.bipush 48, 2) := by decide +kernel
theorem dX2_drawPost_48 : decode cX2_drawPost 48 = .ok (.irem, 1) := by decide +kernel
theorem dX2_drawPost_49 : decode cX2_drawPost 49 = .ok (.istore 6, 2) := by decide +kernel
theorem dX2_drawPost_51 : decode cX2_drawPost 51 = .ok (.aload_n 0, 1) := by decide +kernel
theorem dX2_drawPost_52 : decode cX2_drawPost 52 = .ok (.iload 6, 2) := by decide +kernel
theorem dX2_drawPost_54 : decode cX2_drawPost 54 = .ok (.invokevirtual 85, 3) := by decide +kernel
theorem dX2_drawPost_57 : decode cX2_drawPost 57 = .ok (.ifCond .eq 15, 3) := by decide +kernel
theorem dX2_drawPost_60 : decode cX2_drawPost 60 = .ok (.aload_n 0, 1) := by decide +kernel
theorem dX2_drawPost_61 : decode cX2_drawPost 61 = .ok (.iload_n 1, 1) := by decide +kernel
theorem dX2_drawPost_62 : decode cX2_drawPost 62 = .ok (.iload 6, 2) := by decide +kernel
theorem dX2_drawPost_64 : decode cX2_drawPost 64 = .ok (.iload_n 3, 1) := by decide +kernel
theorem dX2_drawPost_65 : decode cX2_drawPost 65 = .ok (.iload 4, 2) := by decide +kernel
theorem dX2_drawPost_67 : decode cX2_drawPost 67 = .ok (.invokevirtual 88, 3) := by decide +kernel
theorem dX2_drawPost_70 : decode cX2_drawPost 70 = .ok (.iconst 1, 1) := by decide +kernel
theorem dX2_drawPost_71 : decode cX2_drawPost 71 = .ok (.ireturn, 1) := by decide +kernel
theorem dX2_drawPost_72 : decode cX2_drawPost 72 = .ok (.iinc 5 1, 3) := by decide +kernel
theorem dX2_drawPost_75 : decode cX2_drawPost 75 = .ok (.goto (-40), 3) := by decide +kernel
theorem dX2_drawPost_78 : decode cX2_drawPost 78 = .ok (.iconst 0, 1) := by decide +kernel
theorem dX2_drawPost_79 : decode cX2_drawPost 79 = .ok (.ireturn, 1) := by decide +kernel
theorem dX2_reachOf_0 : decode cX2_reachOf 0 = .ok (.aload_n 0, 1) := by decide +kernel
theorem dX2_reachOf_1 : decode cX2_reachOf 1 = .ok (.iconst 0, 1) := by decide +kernel
theorem dX2_reachOf_2 : decode cX2_reachOf 2 = .ok (.invokevirtual 91, 3) := by decide +kernel
theorem dX2_reachOf_5 : decode cX2_reachOf 5 = .ok (.astore_n 2, 1) := by decide +kernel
theorem dX2_reachOf_6 : decode cX2_reachOf 6 = .ok (.aload_n 2, 1) := by decide +kernel
theorem dX2_reachOf_7 : decode cX2_reachOf 7 = .ok (.ifnonnull 7, 3) := by decide +kernel
theorem dX2_reachOf_10 : decode cX2_reachOf 10 = .ok (.iconst 5, 1) := by decide +kernel
theorem dX2_reachOf_11 : decode cX2_reachOf 11 = .ok (.goto 19, 3) := by decide +kernel
theorem dX2_reachOf_14 : decode cX2_reachOf 14 = .ok (.aload_n 2, 1) := by decide +kernel
theorem dX2_reachOf_15 : decode cX2_reachOf 15 = .ok (.aload_n 1, 1) := by decide +kernel
theorem dX2_reachOf_16 : decode cX2_reachOf 16 = .ok (.getfield 95, 3) := by decide +kernel
theorem dX2_reachOf_19 : decode cX2_reachOf 19 = .ok (.aload_n 1, 1) := by decide +kernel
theorem dX2_reachOf_20 : decode cX2_reachOf 20 = .ok (.getfield 98, 3) := by decide +kernel
theorem dX2_reachOf_23 : decode cX2_reachOf 23 = .ok (.aload_n 0, 1) := by decide +kernel
theorem dX2_reachOf_24 : decode cX2_reachOf 24 = .ok (.getfield 40, 3) := by decide +kernel
theorem dX2_reachOf_27 : decode cX2_reachOf 27 = .ok (.invokevirtual 101, 3) := by decide +kernel
theorem dX2_reachOf_30 : decode cX2_reachOf 30 = .ok (.istore_n 3, 1) := by decide +kernel
theorem dX2_reachOf_31 : decode cX2_reachOf 31 = .ok (.aload_n 1, 1) := by decide +kernel
theorem dX2_reachOf_32 : decode cX2_reachOf 32 = .ok (.iload_n 3, 1) := by decide +kernel
theorem dX2_reachOf_33 : decode cX2_reachOf 33 = .ok (.bipush 99, 2) := by decide +kernel
theorem dX2_reachOf_35 : decode cX2_reachOf 35 = .ok (.invokestatic 105, 3) := by decide +kernel
theorem dX2_reachOf_38 : decode cX2_reachOf 38 = .ok (.invokevirtual 109, 3) := by decide +kernel
theorem dX2_reachOf_41 : decode cX2_reachOf 41 = .ok (.ireturn, 1) := by decide +kernel
theorem dX2_isInSight_0 : decode cX2_isInSight 0 = .ok (.iload_n 2, 1) := by decide +kernel
theorem dX2_isInSight_1 : decode cX2_isInSight 1 = .ok (.aload_n 1, 1) := by decide +kernel
theorem dX2_isInSight_2 : decode cX2_isInSight 2 = .ok (.getfield 64, 3) := by decide +kernel
theorem dX2_isInSight_5 : decode cX2_isInSight 5 = .ok (.if_icmp .ne 5, 3) := by decide +kernel
theorem dX2_isInSight_8 : decode cX2_isInSight 8 = .ok (.iconst 1, 1) := by decide +kernel
theorem dX2_isInSight_9 : decode cX2_isInSight 9 = .ok (.ireturn, 1) := by decide +kernel
theorem dX2_isInSight_10 : decode cX2_isInSight 10 = .ok (.aload_n 0, 1) := by decide +kernel
theorem dX2_isInSight_11 : decode cX2_isInSight 11 = .ok (.iload_n 2, 1) := by decide +kernel
theorem dX2_isInSight_12 : decode cX2_isInSight 12 = .ok (.invokevirtual 68, 3) := by decide +kernel
theorem dX2_isInSight_15 : decode cX2_isInSight 15 = .ok (.ifCond .eq 5, 3) := by decide +kernel
theorem dX2_isInSight_18 : decode cX2_isInSight 18 = .ok (.iconst 0, 1) := by decide +kernel
theorem dX2_isInSight_19 : decode cX2_isInSight 19 = .ok (.ireturn, 1) := by decide +kernel
theorem dX2_isInSight_20 : decode cX2_isInSight 20 = .ok (.iload_n 2, 1) := by decide +kernel
theorem dX2_isInSight_21 : decode cX2_isInSight 21 = .ok (.bipush 8, 2) := by decide +kernel
theorem dX2_isInSight_23 : decode cX2_isInSight 23 = .ok (.idiv, 1) := by decide +kernel
theorem dX2_isInSight_24 : decode cX2_isInSight 24 = .ok (.aload_n 1, 1) := by decide +kernel
theorem dX2_isInSight_25 : decode cX2_isInSight 25 = .ok (.getfield 64, 3) := by decide +kernel
theorem dX2_isInSight_28 : decode cX2_isInSight 28 = .ok (.bipush 8, 2) := by decide +kernel
theorem dX2_isInSight_30 : decode cX2_isInSight 30 = .ok (.idiv, 1) := by decide +kernel
theorem dX2_isInSight_31 : decode cX2_isInSight 31 = .ok (.isub, 1) := by decide +kernel
theorem dX2_isInSight_32 : decode cX2_isInSight 32 = .ok (.istore 4, 2) := by decide +kernel
theorem dX2_isInSight_34 : decode cX2_isInSight 34 = .ok (.iload_n 2, 1) := by decide +kernel
theorem dX2_isInSight_35 : decode cX2_isInSight 35 = .ok (.bipush 8, 2) := by decide +kernel
theorem dX2_isInSight_37 : decode cX2_isInSight 37 = .ok (.irem, 1) := by decide +kernel
theorem dX2_isInSight_38 : decode cX2_isInSight 38 = .ok (.aload_n 1, 1) := by decide +kernel
theorem dX2_isInSight_39 : decode cX2_isInSight 39 = .ok (.getfield 64, 3) := by decide +kernel
theorem dX2_isInSight_42 : decode cX2_isInSight 42 = .ok (.bipush 8, 2) := by decide +kernel
theorem dX2_isInSight_44 : decode cX2_isInSight 44 = .ok (.irem, 1) := by decide +kernel
theorem dX2_isInSight_45 : decode cX2_isInSight 45 = .ok (.isub, 1) := by decide +kernel
theorem dX2_isInSight_46 : decode cX2_isInSight 46 = .ok (.istore 5, 2) := by decide +kernel
theorem dX2_isInSight_48 : decode cX2_isInSight 48 = .ok (.iload 4, 2) := by decide +kernel
theorem dX2_isInSight_50 : decode cX2_isInSight 50 = .ok (.invokestatic 112, 3) := by decide +kernel
theorem dX2_isInSight_53 : decode cX2_isInSight 53 = .ok (.iload 5, 2) := by decide +kernel
theorem dX2_isInSight_55 : decode cX2_isInSight 55 = .ok (.invokestatic 112, 3) := by decide +kernel
theorem dX2_isInSight_58 : decode cX2_isInSight 58 = .ok (.iadd, 1) := by decide +kernel
theorem dX2_isInSight_59 : decode cX2_isInSight 59 = .ok (.iload_n 3, 1) := by decide +kernel
theorem dX2_isInSight_60 : decode cX2_isInSight 60 = .ok (.if_icmp .gt 33, 3) := by decide +kernel
theorem dX2_isInSight_63 : decode cX2_isInSight 63 = .ok (.aload_n 1, 1) := by decide +kernel
theorem dX2_isInSight_64 : decode cX2_isInSight 64 = .ok (.iload 4, 2) := by decide +kernel
theorem dX2_isInSight_66 : decode cX2_isInSight 66 = .ok (.iload 5, 2) := by decide +kernel
theorem dX2_isInSight_68 : decode cX2_isInSight 68 = .ok (.invokevirtual 117, 3) := by decide +kernel
theorem dX2_isInSight_71 : decode cX2_isInSight 71 = .ok (.ifCond .eq 22, 3) := by decide +kernel
theorem dX2_isInSight_74 : decode cX2_isInSight 74 = .ok (.aload_n 0, 1) := by decide +kernel
theorem dX2_isInSight_75 : decode cX2_isInSight 75 = .ok (.aload_n 1, 1) := by decide +kernel
theorem dX2_isInSight_76 : decode cX2_isInSight 76 = .ok (.getfield 64, 3) := by decide +kernel
theorem dX2_isInSight_79 : decode cX2_isInSight 79 = .ok (.iload 4, 2) := by decide +kernel
theorem dX2_isInSight_81 : decode cX2_isInSight 81 = .ok (.iload 5, 2) := by decide +kernel
theorem dX2_isInSight_83 : decode cX2_isInSight 83 = .ok (.invokevirtual 121, 3) := by decide +kernel
theorem dX2_isInSight_86 : decode cX2_isInSight 86 = .ok (.ifCond .eq 7, 3) := by decide +kernel
theorem dX2_isInSight_89 : decode cX2_isInSight 89 = .ok (.iconst 1, 1) := by decide +kernel
theorem dX2_isInSight_90 : decode cX2_isInSight 90 = .ok (.goto 4, 3) := by decide +kernel
theorem dX2_isInSight_93 : decode cX2_isInSight 93 = .ok (.iconst 0, 1) := by decide +kernel
theorem dX2_isInSight_94 : decode cX2_isInSight 94 = .ok (.ireturn, 1) := by decide +kernel
theorem dX2_isClear_0 : decode cX2_isClear 0 = .ok (.iload_n 2, 1) := by decide +kernel
theorem dX2_isClear_1 : decode cX2_isClear 1 = .ok (.invokestatic 112, 3) := by decide +kernel
theorem dX2_isClear_4 : decode cX2_isClear 4 = .ok (.iload_n 3, 1) := by decide +kernel
theorem dX2_isClear_5 : decode cX2_isClear 5 = .ok (.invokestatic 112, 3) := by decide +kernel
theorem dX2_isClear_8 : decode cX2_isClear 8 = .ok (.invokestatic 125, 3) := by decide +kernel
theorem dX2_isClear_11 : decode cX2_isClear 11 = .ok (.istore 4, 2) := by decide +kernel
theorem dX2_isClear_13 : decode cX2_isClear 13 = .ok (.iconst 1, 1) := by decide +kernel
theorem dX2_isClear_14 : decode cX2_isClear 14 = .ok (.istore 5, 2) := by decide +kernel
theorem dX2_isClear_16 : decode cX2_isClear 16 = .ok (.iload 5, 2) := by decide +kernel
theorem dX2_isClear_18 : decode cX2_isClear 18 = .ok (.iload 4, 2) := by decide +kernel
theorem dX2_isClear_20 : decode cX2_isClear 20 = .ok (.if_icmp .ge 64, 3) := by decide +kernel
theorem dX2_isClear_23 : decode cX2_isClear 23 = .ok (.iconst 2, 1) := by decide +kernel
theorem dX2_isClear_24 : decode cX2_isClear 24 = .ok (.iload_n 2, 1) := by decide +kernel
theorem dX2_isClear_25 : decode cX2_isClear 25 = .ok (.imul, 1) := by decide +kernel
theorem dX2_isClear_26 : decode cX2_isClear 26 = .ok (.iload 5, 2) := by decide +kernel
theorem dX2_isClear_28 : decode cX2_isClear 28 = .ok (.imul, 1) := by decide +kernel
theorem dX2_isClear_29 : decode cX2_isClear 29 = .ok (.iload 4, 2) := by decide +kernel
theorem dX2_isClear_31 : decode cX2_isClear 31 = .ok (.iadd, 1) := by decide +kernel
theorem dX2_isClear_32 : decode cX2_isClear 32 = .ok (.iconst 2, 1) := by decide +kernel
theorem dX2_isClear_33 : decode cX2_isClear 33 = .ok (.iload 4, 2) := by decide +kernel
theorem dX2_isClear_35 : decode cX2_isClear 35 = .ok (.imul, 1) := by decide +kernel
theorem dX2_isClear_36 : decode cX2_isClear 36 = .ok (.invokestatic 128, 3) := by decide +kernel
theorem dX2_isClear_39 : decode cX2_isClear 39 = .ok (.istore 6, 2) := by decide +kernel
theorem dX2_isClear_41 : decode cX2_isClear 41 = .ok (.iconst 2, 1) := by decide +kernel
theorem dX2_isClear_42 : decode cX2_isClear 42 = .ok (.iload_n 3, 1) := by decide +kernel
theorem dX2_isClear_43 : decode cX2_isClear 43 = .ok (.imul, 1) := by decide +kernel
theorem dX2_isClear_44 : decode cX2_isClear 44 = .ok (.iload 5, 2) := by decide +kernel
theorem dX2_isClear_46 : decode cX2_isClear 46 = .ok (.imul, 1) := by decide +kernel
theorem dX2_isClear_47 : decode cX2_isClear 47 = .ok (.iload 4, 2) := by decide +kernel
theorem dX2_isClear_49 : decode cX2_isClear 49 = .ok (.iadd, 1) := by decide +kernel
theorem dX2_isClear_50 : decode cX2_isClear 50 = .ok (.iconst 2, 1) := by decide +kernel
theorem dX2_isClear_51 : decode cX2_isClear 51 = .ok (.iload 4, 2) := by decide +kernel
theorem dX2_isClear_53 : decode cX2_isClear 53 = .ok (.imul, 1) := by decide +kernel
theorem dX2_isClear_54 : decode cX2_isClear 54 = .ok (.invokestatic 128, 3) := by decide +kernel
theorem dX2_isClear_57 : decode cX2_isClear 57 = .ok (.istore 7, 2) := by decide +kernel
theorem dX2_isClear_59 : decode cX2_isClear 59 = .ok (.aload_n 0, 1) := by decide +kernel
theorem dX2_isClear_60 : decode cX2_isClear 60 = .ok (.iload_n 1, 1) := by decide +kernel
theorem dX2_isClear_61 : decode cX2_isClear 61 = .ok (.bipush 8, 2) := by decide +kernel
theorem dX2_isClear_63 : decode cX2_isClear 63 = .ok (.iload 6, 2) := by decide +kernel
theorem dX2_isClear_65 : decode cX2_isClear 65 = .ok (.imul, 1) := by decide +kernel
theorem dX2_isClear_66 : decode cX2_isClear 66 = .ok (.iadd, 1) := by decide +kernel
theorem dX2_isClear_67 : decode cX2_isClear 67 = .ok (.iload 7, 2) := by decide +kernel
theorem dX2_isClear_69 : decode cX2_isClear 69 = .ok (.iadd, 1) := by decide +kernel
theorem dX2_isClear_70 : decode cX2_isClear 70 = .ok (.invokevirtual 68, 3) := by decide +kernel
theorem dX2_isClear_73 : decode cX2_isClear 73 = .ok (.ifCond .eq 5, 3) := by decide +kernel
theorem dX2_isClear_76 : decode cX2_isClear 76 = .ok (.iconst 0, 1) := by decide +kernel
theorem dX2_isClear_77 : decode cX2_isClear 77 = .ok (.ireturn, 1) := by decide +kernel
theorem dX2_isClear_78 : decode cX2_isClear 78 = .ok (.iinc 5 1, 3) := by decide +kernel
theorem dX2_isClear_81 : decode cX2_isClear 81 = .ok (.goto (-65), 3) := by decide +kernel
theorem dX2_isClear_84 : decode cX2_isClear 84 = .ok (.iconst 1, 1) := by decide +kernel
theorem dX2_isClear_85 : decode cX2_isClear 85 = .ok (.ireturn, 1) := by decide +kernel
theorem dX2_sightOf_0 : decode cX2_sightOf 0 = .ok (.aload_n 0, 1) := by decide +kernel
theorem dX2_sightOf_1 : decode cX2_sightOf 1 = .ok (.aload_n 1, 1) := by decide +kernel
theorem dX2_sightOf_2 : decode cX2_sightOf 2 = .ok (.invokevirtual 131, 3) := by decide +kernel
theorem dX2_sightOf_5 : decode cX2_sightOf 5 = .ok (.istore_n 2, 1) := by decide +kernel
theorem dX2_sightOf_6 : decode cX2_sightOf 6 = .ok (.lconst 0, 1) := by decide +kernel
theorem dX2_sightOf_7 : decode cX2_sightOf 7 = .ok (.lstore_n 3, 1) := by decide +kernel
theorem dX2_sightOf_8 : decode cX2_sightOf 8 = .ok (.iconst 0, 1) := by decide +kernel
theorem dX2_sightOf_9 : decode cX2_sightOf 9 = .ok (.istore 5, 2) := by decide +kernel
theorem dX2_sightOf_11 : decode cX2_sightOf 11 = .ok (.iload 5, 2) := by decide +kernel
theorem dX2_sightOf_13 : decode cX2_sightOf 13 = .ok (.bipush 48, 2) := by decide +kernel
theorem dX2_sightOf_15 : decode cX2_sightOf 15 = .ok (.if_icmp .ge 28, 3) := by decide +kernel
theorem dX2_sightOf_18 : decode cX2_sightOf 18 = .ok (.aload_n 0, 1) := by decide +kernel
theorem dX2_sightOf_19 : decode cX2_sightOf 19 = .ok (.aload_n 1, 1) := by decide +kernel
theorem dX2_sightOf_20 : decode cX2_sightOf 20 = .ok (.iload 5, 2) := by decide +kernel
theorem dX2_sightOf_22 : decode cX2_sightOf 22 = .ok (.iload_n 2, 1) := by decide +kernel
theorem dX2_sightOf_23 : decode cX2_sightOf 23 = .ok (.invokevirtual 135, 3) := by decide +kernel
theorem dX2_sightOf_26 : decode cX2_sightOf 26 = .ok (.ifCond .eq 11, 3) := by decide +kernel
theorem dX2_sightOf_29 : decode cX2_sightOf 29 = .ok (.lload_n 3, 1) := by decide +kernel
theorem dX2_sightOf_30 : decode cX2_sightOf 30 = .ok (.iload 5, 2) := by decide +kernel
theorem dX2_sightOf_32 : decode cX2_sightOf 32 = .ok (.invokestatic 139, 3) := by decide +kernel
theorem dX2_sightOf_35 : decode cX2_sightOf 35 = .ok (.lor, 1) := by decide +kernel
theorem dX2_sightOf_36 : decode cX2_sightOf 36 = .ok (.lstore_n 3, 1) := by decide +kernel
theorem dX2_sightOf_37 : decode cX2_sightOf 37 = .ok (.iinc 5 1, 3) := by decide +kernel
theorem dX2_sightOf_40 : decode cX2_sightOf 40 = .ok (.goto (-29), 3) := by decide +kernel
theorem dX2_sightOf_43 : decode cX2_sightOf 43 = .ok (.lload_n 3, 1) := by decide +kernel
theorem dX2_sightOf_44 : decode cX2_sightOf 44 = .ok (.lreturn, 1) := by decide +kernel
theorem dX2_watchedCells_0 : decode cX2_watchedCells 0 = .ok (.lconst 0, 1) := by decide +kernel
theorem dX2_watchedCells_1 : decode cX2_watchedCells 1 = .ok (.lstore_n 1, 1) := by decide +kernel
theorem dX2_watchedCells_2 : decode cX2_watchedCells 2 = .ok (.iconst 0, 1) := by decide +kernel
theorem dX2_watchedCells_3 : decode cX2_watchedCells 3 = .ok (.istore_n 3, 1) := by decide +kernel
theorem dX2_watchedCells_4 : decode cX2_watchedCells 4 = .ok (.iload_n 3, 1) := by decide +kernel
theorem dX2_watchedCells_5 : decode cX2_watchedCells 5 = .ok (.aload_n 0, 1) := by decide +kernel
theorem dX2_watchedCells_6 : decode cX2_watchedCells 6 = .ok (.getfield 17, 3) := by decide +kernel
theorem dX2_watchedCells_9 : decode cX2_watchedCells 9 = .ok (.if_icmp .ge 22, 3) := by decide +kernel
theorem dX2_watchedCells_12 : decode cX2_watchedCells 12 = .ok (.lload_n 1, 1) := by decide +kernel
theorem dX2_watchedCells_13 : decode cX2_watchedCells 13 = .ok (.aload_n 0, 1) := by decide +kernel
theorem dX2_watchedCells_14 : decode cX2_watchedCells 14 = .ok (.aload_n 0, 1) := by decide +kernel
theorem dX2_watchedCells_15 : decode cX2_watchedCells 15 = .ok (.getfield 11, 3) := by decide +kernel
theorem dX2_watchedCells_18 : decode cX2_watchedCells 18 = .ok (.iload_n 3, 1) := by decide +kernel
theorem dX2_watchedCells_19 : decode cX2_watchedCells 19 = .ok (.aaload, 1) := by decide +kernel
theorem dX2_watchedCells_20 : decode cX2_watchedCells 20 = .ok (.invokevirtual 143, 3) := by decide +kernel
theorem dX2_watchedCells_23 : decode cX2_watchedCells 23 = .ok (.lor, 1) := by decide +kernel
theorem dX2_watchedCells_24 : decode cX2_watchedCells 24 = .ok (.lstore_n 1, 1) := by decide +kernel
theorem dX2_watchedCells_25 : decode cX2_watchedCells 25 = .ok (.iinc 3 1, 3) := by decide +kernel
theorem dX2_watchedCells_28 : decode cX2_watchedCells 28 = .ok (.goto (-24), 3) := by decide +kernel
theorem dX2_watchedCells_31 : decode cX2_watchedCells 31 = .ok (.lload_n 1, 1) := by decide +kernel
theorem dX2_watchedCells_32 : decode cX2_watchedCells 32 = .ok (.lreturn, 1) := by decide +kernel
theorem dX2_guardedCells_0 : decode cX2_guardedCells 0 = .ok (.lconst 0, 1) := by decide +kernel
theorem dX2_guardedCells_1 : decode cX2_guardedCells 1 = .ok (.lstore_n 1, 1) := by decide +kernel
theorem dX2_guardedCells_2 : decode cX2_guardedCells 2 = .ok (.iconst 0, 1) := by decide +kernel
theorem dX2_guardedCells_3 : decode cX2_guardedCells 3 = .ok (.istore_n 3, 1) := by decide +kernel
theorem dX2_guardedCells_4 : decode cX2_guardedCells 4 = .ok (.iload_n 3, 1) := by decide +kernel
theorem dX2_guardedCells_5 : decode cX2_guardedCells 5 = .ok (.aload_n 0, 1) := by decide +kernel
theorem dX2_guardedCells_6 : decode cX2_guardedCells 6 = .ok (.getfield 17, 3) := by decide +kernel
theorem dX2_guardedCells_9 : decode cX2_guardedCells 9 = .ok (.if_icmp .ge 38, 3) := by decide +kernel
theorem dX2_guardedCells_12 : decode cX2_guardedCells 12 = .ok (.aload_n 0, 1) := by decide +kernel
theorem dX2_guardedCells_13 : decode cX2_guardedCells 13 = .ok (.getfield 11, 3) := by decide +kernel
theorem dX2_guardedCells_16 : decode cX2_guardedCells 16 = .ok (.iload_n 3, 1) := by decide +kernel
theorem dX2_guardedCells_17 : decode cX2_guardedCells 17 = .ok (.aaload, 1) := by decide +kernel
theorem dX2_guardedCells_18 : decode cX2_guardedCells 18 = .ok (.aload_n 0, 1) := by decide +kernel
theorem dX2_guardedCells_19 : decode cX2_guardedCells 19 = .ok (.getfield 40, 3) := by decide +kernel
theorem dX2_guardedCells_22 : decode cX2_guardedCells 22 = .ok (.invokevirtual 147, 3) := by decide +kernel
theorem dX2_guardedCells_25 : decode cX2_guardedCells 25 = .ok (.ifCond .eq 16, 3) := by decide +kernel
theorem dX2_guardedCells_28 : decode cX2_guardedCells 28 = .ok (.lload_n 1, 1) := by decide +kernel
theorem dX2_guardedCells_29 : decode cX2_guardedCells 29 = .ok (.aload_n 0, 1) := by decide +kernel
theorem dX2_guardedCells_30 : decode cX2_guardedCells 30 = .ok (.aload_n 0, 1) := by decide +kernel
theorem dX2_guardedCells_31 : decode cX2_guardedCells 31 = .ok (.getfield 11, 3) := by decide +kernel
theorem dX2_guardedCells_34 : decode cX2_guardedCells 34 = .ok (.iload_n 3, 1) := by decide +kernel
theorem dX2_guardedCells_35 : decode cX2_guardedCells 35 = .ok (.aaload, 1) := by decide +kernel
theorem dX2_guardedCells_36 : decode cX2_guardedCells 36 = .ok (.invokevirtual 143, 3) := by decide +kernel
theorem dX2_guardedCells_39 : decode cX2_guardedCells 39 = .ok (.lor, 1) := by decide +kernel
theorem dX2_guardedCells_40 : decode cX2_guardedCells 40 = .ok (.lstore_n 1, 1) := by decide +kernel
theorem dX2_guardedCells_41 : decode cX2_guardedCells 41 = .ok (.iinc 3 1, 3) := by decide +kernel
theorem dX2_guardedCells_44 : decode cX2_guardedCells 44 = .ok (.goto (-40), 3) := by decide +kernel
theorem dX2_guardedCells_47 : decode cX2_guardedCells 47 = .ok (.lload_n 1, 1) := by decide +kernel
theorem dX2_guardedCells_48 : decode cX2_guardedCells 48 = .ok (.lreturn, 1) := by decide +kernel
theorem dX2_blindCells_0 : decode cX2_blindCells 0 = .ok (.ldc2_w 150, 3) := by decide +kernel
theorem dX2_blindCells_3 : decode cX2_blindCells 3 = .ok (.aload_n 0, 1) := by decide +kernel
theorem dX2_blindCells_4 : decode cX2_blindCells 4 = .ok (.getfield 21, 3) := by decide +kernel
theorem dX2_blindCells_7 : decode cX2_blindCells 7 = .ok (.ldc2_w 152, 3) := by decide +kernel
theorem dX2_blindCells_10 : decode cX2_blindCells 10 = .ok (.lxor, 1) := by decide +kernel
theorem dX2_blindCells_11 : decode cX2_blindCells 11 = .ok (.land, 1) := by decide +kernel
theorem dX2_blindCells_12 : decode cX2_blindCells 12 = .ok (.aload_n 0, 1) := by decide +kernel
theorem dX2_blindCells_13 : decode cX2_blindCells 13 = .ok (.invokevirtual 154, 3) := by decide +kernel
theorem dX2_blindCells_16 : decode cX2_blindCells 16 = .ok (.ldc2_w 152, 3) := by decide +kernel
theorem dX2_blindCells_19 : decode cX2_blindCells 19 = .ok (.lxor, 1) := by decide +kernel
theorem dX2_blindCells_20 : decode cX2_blindCells 20 = .ok (.land, 1) := by decide +kernel
theorem dX2_blindCells_21 : decode cX2_blindCells 21 = .ok (.lreturn, 1) := by decide +kernel
theorem dX2_passHours_0 : decode cX2_passHours 0 = .ok (.iconst 0, 1) := by decide +kernel
theorem dX2_passHours_1 : decode cX2_passHours 1 = .ok (.istore_n 2, 1) := by decide +kernel
theorem dX2_passHours_2 : decode cX2_passHours 2 = .ok (.iload_n 2, 1) := by decide +kernel
theorem dX2_passHours_3 : decode cX2_passHours 3 = .ok (.iload_n 1, 1) := by decide +kernel
theorem dX2_passHours_4 : decode cX2_passHours 4 = .ok (.if_icmp .ge 75, 3) := by decide +kernel
theorem dX2_passHours_7 : decode cX2_passHours 7 = .ok (.aload_n 0, 1) := by decide +kernel
theorem dX2_passHours_8 : decode cX2_passHours 8 = .ok (.invokevirtual 158, 3) := by decide +kernel
theorem dX2_passHours_11 : decode cX2_passHours 11 = .ok (.aload_n 0, 1) := by decide +kernel
theorem dX2_passHours_12 : decode cX2_passHours 12 = .ok (.invokevirtual 81, 3) := by decide +kernel
theorem dX2_passHours_15 : decode cX2_passHours 15 = .ok (.bipush 100, 2) := by decide +kernel
theorem dX2_passHours_17 : decode cX2_passHours 17 = .ok (.irem, 1) := by decide +kernel
theorem dX2_passHours_18 : decode cX2_passHours 18 = .ok (.aload_n 0, 1) := by decide +kernel
theorem dX2_passHours_19 : decode cX2_passHours 19 = .ok (.getfield 28, 3) := by decide +kernel
theorem dX2_passHours_22 : decode cX2_passHours 22 = .ok (.if_icmp .lt 10, 3) := by decide +kernel
theorem dX2_passHours_25 : decode cX2_passHours 25 = .ok (.aload_n 0, 1) := by decide +kernel
theorem dX2_passHours_26 : decode cX2_passHours 26 = .ok (.invokevirtual 161, 3) := by decide +kernel
theorem dX2_passHours_29 : decode cX2_passHours 29 = .ok (.ifCond .ne 16, 3) := by decide +kernel
theorem dX2_passHours_32 : decode cX2_passHours 32 = .ok (.aload_n 0, 1) := by decide +kernel
theorem dX2_passHours_33 : decode cX2_passHours 33 = .ok (.dup, 1) := by decide +kernel
theorem dX2_passHours_34 : decode cX2_passHours 34 = .ok (.getfield 37, 3) := by decide +kernel
theorem dX2_passHours_37 : decode cX2_passHours 37 = .ok (.iconst 1, 1) := by decide +kernel
theorem dX2_passHours_38 : decode cX2_passHours 38 = .ok (.iadd, 1) := by decide +kernel
theorem dX2_passHours_39 : decode cX2_passHours 39 = .ok (.putfield 37, 3) := by decide +kernel
theorem dX2_passHours_42 : decode cX2_passHours 42 = .ok (.goto 13, 3) := by decide +kernel
theorem dX2_passHours_45 : decode cX2_passHours 45 = .ok (.aload_n 0, 1) := by decide +kernel
theorem dX2_passHours_46 : decode cX2_passHours 46 = .ok (.dup, 1) := by decide +kernel
theorem dX2_passHours_47 : decode cX2_passHours 47 = .ok (.getfield 34, 3) := by decide +kernel
theorem dX2_passHours_50 : decode cX2_passHours 50 = .ok (.iconst 1, 1) := by decide +kernel
theorem dX2_passHours_51 : decode cX2_passHours 51 = .ok (.iadd, 1) := by decide +kernel
theorem dX2_passHours_52 : decode cX2_passHours 52 = .ok (.putfield 34, 3) := by decide +kernel
theorem dX2_passHours_55 : decode cX2_passHours 55 = .ok (.aload_n 0, 1) := by decide +kernel
theorem dX2_passHours_56 : decode cX2_passHours 56 = .ok (.invokevirtual 165, 3) := by decide +kernel
theorem dX2_passHours_59 : decode cX2_passHours 59 = .ok (.aload_n 0, 1) := by decide +kernel
theorem dX2_passHours_60 : decode cX2_passHours 60 = .ok (.invokevirtual 168, 3) := by decide +kernel
theorem dX2_passHours_63 : decode cX2_passHours 63 = .ok (.aload_n 0, 1) := by decide +kernel
theorem dX2_passHours_64 : decode cX2_passHours 64 = .ok (.dup, 1) := by decide +kernel
theorem dX2_passHours_65 : decode cX2_passHours 65 = .ok (.getfield 40, 3) := by decide +kernel
theorem dX2_passHours_68 : decode cX2_passHours 68 = .ok (.iconst 1, 1) := by decide +kernel
theorem dX2_passHours_69 : decode cX2_passHours 69 = .ok (.iadd, 1) := by decide +kernel
theorem dX2_passHours_70 : decode cX2_passHours 70 = .ok (.putfield 40, 3) := by decide +kernel
theorem dX2_passHours_73 : decode cX2_passHours 73 = .ok (.iinc 2 1, 3) := by decide +kernel
theorem dX2_passHours_76 : decode cX2_passHours 76 = .ok (.goto (-74), 3) := by decide +kernel
theorem dX2_passHours_79 : decode cX2_passHours 79 = .ok (.return_, 1) := by decide +kernel
theorem dX2_moveThief_0 : decode cX2_moveThief 0 = .ok (.aload_n 0, 1) := by decide +kernel
theorem dX2_moveThief_1 : decode cX2_moveThief 1 = .ok (.invokevirtual 81, 3) := by decide +kernel
theorem dX2_moveThief_4 : decode cX2_moveThief 4 = .ok (.iconst 4, 1) := by decide +kernel
theorem dX2_moveThief_5 : decode cX2_moveThief 5 = .ok (.irem, 1) := by decide +kernel
theorem dX2_moveThief_6 : decode cX2_moveThief 6 = .ok (.istore_n 1, 1) := by decide +kernel
theorem dX2_moveThief_7 : decode cX2_moveThief 7 = .ok (.aload_n 0, 1) := by decide +kernel
theorem dX2_moveThief_8 : decode cX2_moveThief 8 = .ok (.getfield 25, 3) := by decide +kernel
theorem dX2_moveThief_11 : decode cX2_moveThief 11 = .ok (.bipush 8, 2) := by decide +kernel
theorem dX2_moveThief_13 : decode cX2_moveThief 13 = .ok (.idiv, 1) := by decide +kernel
theorem dX2_moveThief_14 : decode cX2_moveThief 14 = .ok (.istore_n 2, 1) := by decide +kernel
theorem dX2_moveThief_15 : decode cX2_moveThief 15 = .ok (.aload_n 0, 1) := by decide +kernel
theorem dX2_moveThief_16 : decode cX2_moveThief 16 = .ok (.getfield 25, 3) := by decide +kernel
theorem dX2_moveThief_19 : decode cX2_moveThief 19 = .ok (.bipush 8, 2) := by decide +kernel
theorem dX2_moveThief_21 : decode cX2_moveThief 21 = .ok (.irem, 1) := by decide +kernel
theorem dX2_moveThief_22 : decode cX2_moveThief 22 = .ok (.istore_n 3, 1) := by decide +kernel
theorem dX2_moveThief_23 : decode cX2_moveThief 23 = .ok (.iload_n 1, 1) := by decide +kernel
theorem dX2_moveThief_24 : decode cX2_moveThief 24 = .ok (.ifCond .ne 9, 3) := by decide +kernel
theorem dX2_moveThief_27 : decode cX2_moveThief 27 = .ok (.iinc 2 (-1), 3) := by decide +kernel
theorem dX2_moveThief_30 : decode cX2_moveThief 30 = .ok (.goto 28, 3) := by decide +kernel
theorem dX2_moveThief_33 : decode cX2_moveThief 33 = .ok (.iload_n 1, 1) := by decide +kernel
theorem dX2_moveThief_34 : decode cX2_moveThief 34 = .ok (.iconst 1, 1) := by decide +kernel
theorem dX2_moveThief_35 : decode cX2_moveThief 35 = .ok (.if_icmp .ne 9, 3) := by decide +kernel
theorem dX2_moveThief_38 : decode cX2_moveThief 38 = .ok (.iinc 3 1, 3) := by decide +kernel
theorem dX2_moveThief_41 : decode cX2_moveThief 41 = .ok (.goto 17, 3) := by decide +kernel
theorem dX2_moveThief_44 : decode cX2_moveThief 44 = .ok (.iload_n 1, 1) := by decide +kernel
theorem dX2_moveThief_45 : decode cX2_moveThief 45 = .ok (.iconst 2, 1) := by decide +kernel
theorem dX2_moveThief_46 : decode cX2_moveThief 46 = .ok (.if_icmp .ne 9, 3) := by decide +kernel
theorem dX2_moveThief_49 : decode cX2_moveThief 49 = .ok (.iinc 2 1, 3) := by decide +kernel
theorem dX2_moveThief_52 : decode cX2_moveThief 52 = .ok (.goto 6, 3) := by decide +kernel
theorem dX2_moveThief_55 : decode cX2_moveThief 55 = .ok (.iinc 3 (-1), 3) := by decide +kernel
theorem dX2_moveThief_58 : decode cX2_moveThief 58 = .ok (.iload_n 2, 1) := by decide +kernel
theorem dX2_moveThief_59 : decode cX2_moveThief 59 = .ok (.bipush 8, 2) := by decide +kernel
theorem dX2_moveThief_61 : decode cX2_moveThief 61 = .ok (.imul, 1) := by decide +kernel
theorem dX2_moveThief_62 : decode cX2_moveThief 62 = .ok (.iload_n 3, 1) := by decide +kernel
theorem dX2_moveThief_63 : decode cX2_moveThief 63 = .ok (.iadd, 1) := by decide +kernel
theorem dX2_moveThief_64 : decode cX2_moveThief 64 = .ok (.istore 4, 2) := by decide +kernel
theorem dX2_moveThief_66 : decode cX2_moveThief 66 = .ok (.iload_n 2, 1) := by decide +kernel
theorem dX2_moveThief_67 : decode cX2_moveThief 67 = .ok (.bipush 6, 2) := by decide +kernel
theorem dX2_moveThief_69 : decode cX2_moveThief 69 = .ok (.invokestatic 171, 3) := by decide +kernel
theorem dX2_moveThief_72 : decode cX2_moveThief 72 = .ok (.ifCond .eq 27, 3) := by decide +kernel
theorem dX2_moveThief_75 : decode cX2_moveThief 75 = .ok (.iload_n 3, 1) := by decide +kernel
theorem dX2_moveThief_76 : decode cX2_moveThief 76 = .ok (.bipush 8, 2) := by decide +kernel
theorem dX2_moveThief_78 : decode cX2_moveThief 78 = .ok (.invokestatic 171, 3) := by decide +kernel
theorem dX2_moveThief_81 : decode cX2_moveThief 81 = .ok (.ifCond .eq 18, 3) := by decide +kernel
theorem dX2_moveThief_84 : decode cX2_moveThief 84 = .ok (.aload_n 0, 1) := by decide +kernel
theorem dX2_moveThief_85 : decode cX2_moveThief 85 = .ok (.iload 4, 2) := by decide +kernel
theorem dX2_moveThief_87 : decode cX2_moveThief 87 = .ok (.invokevirtual 68, 3) := by decide +kernel
theorem dX2_moveThief_90 : decode cX2_moveThief 90 = .ok (.ifCond .ne 9, 3) := by decide +kernel
theorem dX2_moveThief_93 : decode cX2_moveThief 93 = .ok (.aload_n 0, 1) := by decide +kernel
theorem dX2_moveThief_94 : decode cX2_moveThief 94 = .ok (.iload 4, 2) := by decide +kernel
theorem dX2_moveThief_96 : decode cX2_moveThief 96 = .ok (.putfield 25, 3) := by decide +kernel
theorem dX2_moveThief_99 : decode cX2_moveThief 99 = .ok (.return_, 1) := by decide +kernel
theorem dX2_thiefIsSeen_0 : decode cX2_thiefIsSeen 0 = .ok (.iconst 0, 1) := by decide +kernel
theorem dX2_thiefIsSeen_1 : decode cX2_thiefIsSeen 1 = .ok (.istore_n 1, 1) := by decide +kernel
theorem dX2_thiefIsSeen_2 : decode cX2_thiefIsSeen 2 = .ok (.iload_n 1, 1) := by decide +kernel
theorem dX2_thiefIsSeen_3 : decode cX2_thiefIsSeen 3 = .ok (.aload_n 0, 1) := by decide +kernel
theorem dX2_thiefIsSeen_4 : decode cX2_thiefIsSeen 4 = .ok (.getfield 17, 3) := by decide +kernel
theorem dX2_thiefIsSeen_7 : decode cX2_thiefIsSeen 7 = .ok (.if_icmp .ge 46, 3) := by decide +kernel
theorem dX2_thiefIsSeen_10 : decode cX2_thiefIsSeen 10 = .ok (.aload_n 0, 1) := by decide +kernel
theorem dX2_thiefIsSeen_11 : decode cX2_thiefIsSeen 11 = .ok (.getfield 11, 3) := by decide +kernel
theorem dX2_thiefIsSeen_14 : decode cX2_thiefIsSeen 14 = .ok (.iload_n 1, 1) := by decide +kernel
theorem dX2_thiefIsSeen_15 : decode cX2_thiefIsSeen 15 = .ok (.aaload, 1) := by decide +kernel
theorem dX2_thiefIsSeen_16 : decode cX2_thiefIsSeen 16 = .ok (.astore_n 2, 1) := by decide +kernel
theorem dX2_thiefIsSeen_17 : decode cX2_thiefIsSeen 17 = .ok (.aload_n 2, 1) := by decide +kernel
theorem dX2_thiefIsSeen_18 : decode cX2_thiefIsSeen 18 = .ok (.aload_n 0, 1) := by decide +kernel
theorem dX2_thiefIsSeen_19 : decode cX2_thiefIsSeen 19 = .ok (.getfield 40, 3) := by decide +kernel
theorem dX2_thiefIsSeen_22 : decode cX2_thiefIsSeen 22 = .ok (.invokevirtual 147, 3) := by decide +kernel
theorem dX2_thiefIsSeen_25 : decode cX2_thiefIsSeen 25 = .ok (.ifCond .eq 22, 3) := by decide +kernel
theorem dX2_thiefIsSeen_28 : decode cX2_thiefIsSeen 28 = .ok (.aload_n 0, 1) := by decide +kernel
theorem dX2_thiefIsSeen_29 : decode cX2_thiefIsSeen 29 = .ok (.aload_n 2, 1) := by decide +kernel
theorem dX2_thiefIsSeen_30 : decode cX2_thiefIsSeen 30 = .ok (.aload_n 0, 1) := by decide +kernel
theorem dX2_thiefIsSeen_31 : decode cX2_thiefIsSeen 31 = .ok (.getfield 25, 3) := by decide +kernel
theorem dX2_thiefIsSeen_34 : decode cX2_thiefIsSeen 34 = .ok (.aload_n 0, 1) := by decide +kernel
theorem dX2_thiefIsSeen_35 : decode cX2_thiefIsSeen 35 = .ok (.aload_n 2, 1) := by decide +kernel
theorem dX2_thiefIsSeen_36 : decode cX2_thiefIsSeen 36 = .ok (.invokevirtual 131, 3) := by decide +kernel
theorem dX2_thiefIsSeen_39 : decode cX2_thiefIsSeen 39 = .ok (.invokevirtual 135, 3) := by decide +kernel
theorem dX2_thiefIsSeen_42 : decode cX2_thiefIsSeen 42 = .ok (.ifCond .eq 5, 3) := by decide +kernel
theorem dX2_thiefIsSeen_45 : decode cX2_thiefIsSeen 45 = .ok (.iconst 1, 1) := by decide +kernel
theorem dX2_thiefIsSeen_46 : decode cX2_thiefIsSeen 46 = .ok (.ireturn, 1) := by decide +kernel
theorem dX2_thiefIsSeen_47 : decode cX2_thiefIsSeen 47 = .ok (.iinc 1 1, 3) := by decide +kernel
theorem dX2_thiefIsSeen_50 : decode cX2_thiefIsSeen 50 = .ok (.goto (-48), 3) := by decide +kernel
theorem dX2_thiefIsSeen_53 : decode cX2_thiefIsSeen 53 = .ok (.iconst 0, 1) := by decide +kernel
theorem dX2_thiefIsSeen_54 : decode cX2_thiefIsSeen 54 = .ok (.ireturn, 1) := by decide +kernel
theorem dX2_tirePosts_0 : decode cX2_tirePosts 0 = .ok (.iconst 0, 1) := by decide +kernel
theorem dX2_tirePosts_1 : decode cX2_tirePosts 1 = .ok (.istore_n 1, 1) := by decide +kernel
theorem dX2_tirePosts_2 : decode cX2_tirePosts 2 = .ok (.iload_n 1, 1) := by decide +kernel
theorem dX2_tirePosts_3 : decode cX2_tirePosts 3 = .ok (.aload_n 0, 1) := by decide +kernel
theorem dX2_tirePosts_4 : decode cX2_tirePosts 4 = .ok (.getfield 17, 3) := by decide +kernel
theorem dX2_tirePosts_7 : decode cX2_tirePosts 7 = .ok (.if_icmp .ge 47, 3) := by decide +kernel
theorem dX2_tirePosts_10 : decode cX2_tirePosts 10 = .ok (.aload_n 0, 1) := by decide +kernel
theorem dX2_tirePosts_11 : decode cX2_tirePosts 11 = .ok (.getfield 11, 3) := by decide +kernel
theorem dX2_tirePosts_14 : decode cX2_tirePosts 14 = .ok (.iload_n 1, 1) := by decide +kernel
theorem dX2_tirePosts_15 : decode cX2_tirePosts 15 = .ok (.aaload, 1) := by decide +kernel
theorem dX2_tirePosts_16 : decode cX2_tirePosts 16 = .ok (.astore_n 2, 1) := by decide +kernel
theorem dX2_tirePosts_17 : decode cX2_tirePosts 17 = .ok (.aload_n 2, 1) := by decide +kernel
theorem dX2_tirePosts_18 : decode cX2_tirePosts 18 = .ok (.aload_n 2, 1) := by decide +kernel
theorem dX2_tirePosts_19 : decode cX2_tirePosts 19 = .ok (.getfield 95, 3) := by decide +kernel
theorem dX2_tirePosts_22 : decode cX2_tirePosts 22 = .ok (.aload_n 2, 1) := by decide +kernel
theorem dX2_tirePosts_23 : decode cX2_tirePosts 23 = .ok (.aload_n 0, 1) := by decide +kernel
theorem dX2_tirePosts_24 : decode cX2_tirePosts 24 = .ok (.getfield 40, 3) := by decide +kernel
theorem dX2_tirePosts_27 : decode cX2_tirePosts 27 = .ok (.invokevirtual 147, 3) := by decide +kernel
theorem dX2_tirePosts_30 : decode cX2_tirePosts 30 = .ok (.ifCond .eq 7, 3) := by decide +kernel
theorem dX2_tirePosts_33 : decode cX2_tirePosts 33 = .ok (.iconst 5, 1) := by decide +kernel
theorem dX2_tirePosts_34 : decode cX2_tirePosts 34 = .ok (.goto 5, 3) := by decide +kernel
theorem dX2_tirePosts_37 : decode cX2_tirePosts 37 = .ok (.bipush (-20), 2) := by decide +kernel
theorem dX2_tirePosts_39 : decode cX2_tirePosts 39 = .ok (.iadd, 1) := by decide +kernel
theorem dX2_tirePosts_40 : decode cX2_tirePosts 40 = .ok (.bipush 99, 2) := by decide +kernel
theorem dX2_tirePosts_42 : decode cX2_tirePosts 42 = .ok (.invokestatic 105, 3) := by decide +kernel
theorem dX2_tirePosts_45 : decode cX2_tirePosts 45 = .ok (.putfield 95, 3) := by decide +kernel
theorem dX2_tirePosts_48 : decode cX2_tirePosts 48 = .ok (.iinc 1 1, 3) := by decide +kernel
theorem dX2_tirePosts_51 : decode cX2_tirePosts 51 = .ok (.goto (-49), 3) := by decide +kernel
theorem dX2_tirePosts_54 : decode cX2_tirePosts 54 = .ok (.return_, 1) := by decide +kernel
theorem dX2_turnPost_0 : decode cX2_turnPost 0 = .ok (.aload_n 0, 1) := by decide +kernel
theorem dX2_turnPost_1 : decode cX2_turnPost 1 = .ok (.invokevirtual 81, 3) := by decide +kernel
theorem dX2_turnPost_4 : decode cX2_turnPost 4 = .ok (.bipush 100, 2) := by decide +kernel
theorem dX2_turnPost_6 : decode cX2_turnPost 6 = .ok (.irem, 1) := by decide +kernel
theorem dX2_turnPost_7 : decode cX2_turnPost 7 = .ok (.aload_n 0, 1) := by decide +kernel
theorem dX2_turnPost_8 : decode cX2_turnPost 8 = .ok (.getfield 31, 3) := by decide +kernel
theorem dX2_turnPost_11 : decode cX2_turnPost 11 = .ok (.if_icmp .ge 7, 3) := by decide +kernel
theorem dX2_turnPost_14 : decode cX2_turnPost 14 = .ok (.iconst 1, 1) := by decide +kernel
theorem dX2_turnPost_15 : decode cX2_turnPost 15 = .ok (.goto 4, 3) := by decide +kernel
theorem dX2_turnPost_18 : decode cX2_turnPost 18 = .ok (.iconst 0, 1) := by decide +kernel
theorem dX2_turnPost_19 : decode cX2_turnPost 19 = .ok (.istore_n 1, 1) := by decide +kernel
theorem dX2_turnPost_20 : decode cX2_turnPost 20 = .ok (.iload_n 1, 1) := by decide +kernel
theorem dX2_turnPost_21 : decode cX2_turnPost 21 = .ok (.ifCond .eq 37, 3) := by decide +kernel
theorem dX2_turnPost_24 : decode cX2_turnPost 24 = .ok (.aload_n 0, 1) := by decide +kernel
theorem dX2_turnPost_25 : decode cX2_turnPost 25 = .ok (.getfield 17, 3) := by decide +kernel
theorem dX2_turnPost_28 : decode cX2_turnPost 28 = .ok (.ifCond .le 30, 3) := by decide +kernel
theorem dX2_turnPost_31 : decode cX2_turnPost 31 = .ok (.aload_n 0, 1) := by decide +kernel
theorem dX2_turnPost_32 : decode cX2_turnPost 32 = .ok (.getfield 11, 3) := by decide +kernel
theorem dX2_turnPost_35 : decode cX2_turnPost 35 = .ok (.aload_n 0, 1) := by decide +kernel
theorem dX2_turnPost_36 : decode cX2_turnPost 36 = .ok (.invokevirtual 81, 3) := by decide +kernel
theorem dX2_turnPost_39 : decode cX2_turnPost 39 = .ok (.aload_n 0, 1) := by decide +kernel
theorem dX2_turnPost_40 : decode cX2_turnPost 40 = .ok (.getfield 17, 3) := by decide +kernel
theorem dX2_turnPost_43 : decode cX2_turnPost 43 = .ok (.irem, 1) := by decide +kernel
theorem dX2_turnPost_44 : decode cX2_turnPost 44 = .ok (.aaload, 1) := by decide +kernel
theorem dX2_turnPost_45 : decode cX2_turnPost 45 = .ok (.astore_n 2, 1) := by decide +kernel
theorem dX2_turnPost_46 : decode cX2_turnPost 46 = .ok (.aload_n 2, 1) := by decide +kernel
theorem dX2_turnPost_47 : decode cX2_turnPost 47 = .ok (.aload_n 2, 1) := by decide +kernel
theorem dX2_turnPost_48 : decode cX2_turnPost 48 = .ok (.getfield 98, 3) := by decide +kernel
theorem dX2_turnPost_51 : decode cX2_turnPost 51 = .ok (.iconst 1, 1) := by decide +kernel
theorem dX2_turnPost_52 : decode cX2_turnPost 52 = .ok (.iadd, 1) := by decide +kernel
theorem dX2_turnPost_53 : decode cX2_turnPost 53 = .ok (.iconst 4, 1) := by decide +kernel
theorem dX2_turnPost_54 : decode cX2_turnPost 54 = .ok (.irem, 1) := by decide +kernel
theorem dX2_turnPost_55 : decode cX2_turnPost 55 = .ok (.putfield 98, 3) := by decide +kernel
theorem dX2_turnPost_58 : decode cX2_turnPost 58 = .ok (.return_, 1) := by decide +kernel
theorem dX2_awakePosts_0 : decode cX2_awakePosts 0 = .ok (.iconst 0, 1) := by decide +kernel
theorem dX2_awakePosts_1 : decode cX2_awakePosts 1 = .ok (.istore_n 1, 1) := by decide +kernel
theorem dX2_awakePosts_2 : decode cX2_awakePosts 2 = .ok (.iconst 0, 1) := by decide +kernel
theorem dX2_awakePosts_3 : decode cX2_awakePosts 3 = .ok (.istore_n 2, 1) := by decide +kernel
theorem dX2_awakePosts_4 : decode cX2_awakePosts 4 = .ok (.iload_n 2, 1) := by decide +kernel
theorem dX2_awakePosts_5 : decode cX2_awakePosts 5 = .ok (.aload_n 0, 1) := by decide +kernel
theorem dX2_awakePosts_6 : decode cX2_awakePosts 6 = .ok (.getfield 17, 3) := by decide +kernel
theorem dX2_awakePosts_9 : decode cX2_awakePosts 9 = .ok (.if_icmp .ge 31, 3) := by decide +kernel
theorem dX2_awakePosts_12 : decode cX2_awakePosts 12 = .ok (.aload_n 0, 1) := by decide +kernel
theorem dX2_awakePosts_13 : decode cX2_awakePosts 13 = .ok (.getfield 11, 3) := by decide +kernel
theorem dX2_awakePosts_16 : decode cX2_awakePosts 16 = .ok (.iload_n 2, 1) := by decide +kernel
theorem dX2_awakePosts_17 : decode cX2_awakePosts 17 = .ok (.aaload, 1) := by decide +kernel
theorem dX2_awakePosts_18 : decode cX2_awakePosts 18 = .ok (.aload_n 0, 1) := by decide +kernel
theorem dX2_awakePosts_19 : decode cX2_awakePosts 19 = .ok (.getfield 40, 3) := by decide +kernel
theorem dX2_awakePosts_22 : decode cX2_awakePosts 22 = .ok (.invokevirtual 147, 3) := by decide +kernel
theorem dX2_awakePosts_25 : decode cX2_awakePosts 25 = .ok (.ifCond .eq 9, 3) := by decide +kernel
theorem dX2_awakePosts_28 : decode cX2_awakePosts 28 = .ok (.iload_n 1, 1) := by decide +kernel
theorem dX2_awakePosts_29 : decode cX2_awakePosts 29 = .ok (.iconst 1, 1) := by decide +kernel
theorem dX2_awakePosts_30 : decode cX2_awakePosts 30 = .ok (.iload_n 2, 1) := by decide +kernel
theorem dX2_awakePosts_31 : decode cX2_awakePosts 31 = .ok (.ishl, 1) := by decide +kernel
theorem dX2_awakePosts_32 : decode cX2_awakePosts 32 = .ok (.ior, 1) := by decide +kernel
theorem dX2_awakePosts_33 : decode cX2_awakePosts 33 = .ok (.istore_n 1, 1) := by decide +kernel
theorem dX2_awakePosts_34 : decode cX2_awakePosts 34 = .ok (.iinc 2 1, 3) := by decide +kernel
theorem dX2_awakePosts_37 : decode cX2_awakePosts 37 = .ok (.goto (-33), 3) := by decide +kernel
theorem dX2_awakePosts_40 : decode cX2_awakePosts 40 = .ok (.iload_n 1, 1) := by decide +kernel
theorem dX2_awakePosts_41 : decode cX2_awakePosts 41 = .ok (.ireturn, 1) := by decide +kernel
theorem dX2_tiredOfAll_0 : decode cX2_tiredOfAll 0 = .ok (.iconst 0, 1) := by decide +kernel
theorem dX2_tiredOfAll_1 : decode cX2_tiredOfAll 1 = .ok (.istore_n 1, 1) := by decide +kernel
theorem dX2_tiredOfAll_2 : decode cX2_tiredOfAll 2 = .ok (.iconst 0, 1) := by decide +kernel
theorem dX2_tiredOfAll_3 : decode cX2_tiredOfAll 3 = .ok (.istore_n 2, 1) := by decide +kernel
theorem dX2_tiredOfAll_4 : decode cX2_tiredOfAll 4 = .ok (.iload_n 2, 1) := by decide +kernel
theorem dX2_tiredOfAll_5 : decode cX2_tiredOfAll 5 = .ok (.aload_n 0, 1) := by decide +kernel
theorem dX2_tiredOfAll_6 : decode cX2_tiredOfAll 6 = .ok (.getfield 17, 3) := by decide +kernel
theorem dX2_tiredOfAll_9 : decode cX2_tiredOfAll 9 = .ok (.if_icmp .ge 21, 3) := by decide +kernel
theorem dX2_tiredOfAll_12 : decode cX2_tiredOfAll 12 = .ok (.iload_n 1, 1) := by decide +kernel
theorem dX2_tiredOfAll_13 : decode cX2_tiredOfAll 13 = .ok (.aload_n 0, 1) := by decide +kernel
theorem dX2_tiredOfAll_14 : decode cX2_tiredOfAll 14 = .ok (.getfield 11, 3) := by decide +kernel
theorem dX2_tiredOfAll_17 : decode cX2_tiredOfAll 17 = .ok (.iload_n 2, 1) := by decide +kernel
theorem dX2_tiredOfAll_18 : decode cX2_tiredOfAll 18 = .ok (.aaload, 1) := by decide +kernel
theorem dX2_tiredOfAll_19 : decode cX2_tiredOfAll 19 = .ok (.getfield 95, 3) := by decide +kernel
theorem dX2_tiredOfAll_22 : decode cX2_tiredOfAll 22 = .ok (.iadd, 1) := by decide +kernel
theorem dX2_tiredOfAll_23 : decode cX2_tiredOfAll 23 = .ok (.istore_n 1, 1) := by decide +kernel
theorem dX2_tiredOfAll_24 : decode cX2_tiredOfAll 24 = .ok (.iinc 2 1, 3) := by decide +kernel
theorem dX2_tiredOfAll_27 : decode cX2_tiredOfAll 27 = .ok (.goto (-23), 3) := by decide +kernel
theorem dX2_tiredOfAll_30 : decode cX2_tiredOfAll 30 = .ok (.iload_n 1, 1) := by decide +kernel
theorem dX2_tiredOfAll_31 : decode cX2_tiredOfAll 31 = .ok (.ireturn, 1) := by decide +kernel
theorem dX2_standing_0 : decode cX2_standing 0 = .ok (.iload_n 1, 1) := by decide +kernel
theorem dX2_standing_1 : decode cX2_standing 1 = .ok (.tableswitch 51 0 3 #[31, 36, 41, 46], 31) := by decide +kernel
theorem dX2_standing_32 : decode cX2_standing 32 = .ok (.aload_n 0, 1) := by decide +kernel
theorem dX2_standing_33 : decode cX2_standing 33 = .ok (.getfield 34, 3) := by decide +kernel
theorem dX2_standing_36 : decode cX2_standing 36 = .ok (.ireturn, 1) := by decide +kernel
theorem dX2_standing_37 : decode cX2_standing 37 = .ok (.aload_n 0, 1) := by decide +kernel
theorem dX2_standing_38 : decode cX2_standing 38 = .ok (.getfield 37, 3) := by decide +kernel
theorem dX2_standing_41 : decode cX2_standing 41 = .ok (.ireturn, 1) := by decide +kernel
theorem dX2_standing_42 : decode cX2_standing 42 = .ok (.aload_n 0, 1) := by decide +kernel
theorem dX2_standing_43 : decode cX2_standing 43 = .ok (.getfield 25, 3) := by decide +kernel
theorem dX2_standing_46 : decode cX2_standing 46 = .ok (.ireturn, 1) := by decide +kernel
theorem dX2_standing_47 : decode cX2_standing 47 = .ok (.aload_n 0, 1) := by decide +kernel
theorem dX2_standing_48 : decode cX2_standing 48 = .ok (.invokevirtual 174, 3) := by decide +kernel
theorem dX2_standing_51 : decode cX2_standing 51 = .ok (.ireturn, 1) := by decide +kernel
theorem dX2_standing_52 : decode cX2_standing 52 = .ok (.aload_n 0, 1) := by decide +kernel
theorem dX2_standing_53 : decode cX2_standing 53 = .ok (.invokevirtual 177, 3) := by decide +kernel
theorem dX2_standing_56 : decode cX2_standing 56 = .ok (.ireturn, 1) := by decide +kernel
theorem dX2_addText_0 : decode cX2_addText 0 = .ok (.aload_n 0, 1) := by decide +kernel
theorem dX2_addText_1 : decode cX2_addText 1 = .ok (.getfield 52, 3) := by decide +kernel
theorem dX2_addText_4 : decode cX2_addText 4 = .ok (.bipush 14, 2) := by decide +kernel
theorem dX2_addText_6 : decode cX2_addText 6 = .ok (.if_icmp .ge 47, 3) := by decide +kernel
theorem dX2_addText_9 : decode cX2_addText 9 = .ok (.aload_n 1, 1) := by decide +kernel
theorem dX2_addText_10 : decode cX2_addText 10 = .ok (.getfield 180, 3) := by decide +kernel
theorem dX2_addText_13 : decode cX2_addText 13 = .ok (.iconst 3, 1) := by decide +kernel
theorem dX2_addText_14 : decode cX2_addText 14 = .ok (.invokestatic 171, 3) := by decide +kernel
theorem dX2_addText_17 : decode cX2_addText 17 = .ok (.ifCond .eq 36, 3) := by decide +kernel
theorem dX2_addText_20 : decode cX2_addText 20 = .ok (.aload_n 0, 1) := by decide +kernel
theorem dX2_addText_21 : decode cX2_addText 21 = .ok (.getfield 48, 3) := by decide +kernel
theorem dX2_addText_24 : decode cX2_addText 24 = .ok (.aload_n 0, 1) := by decide +kernel
theorem dX2_addText_25 : decode cX2_addText 25 = .ok (.getfield 52, 3) := by decide +kernel
theorem dX2_addText_28 : decode cX2_addText 28 = .ok (.aload_n 1, 1) := by decide +kernel
theorem dX2_addText_29 : decode cX2_addText 29 = .ok (.aastore, 1) := by decide +kernel
theorem dX2_addText_30 : decode cX2_addText 30 = .ok (.aload_n 0, 1) := by decide +kernel
theorem dX2_addText_31 : decode cX2_addText 31 = .ok (.getfield 55, 3) := by decide +kernel
theorem dX2_addText_34 : decode cX2_addText 34 = .ok (.aload_n 1, 1) := by decide +kernel
theorem dX2_addText_35 : decode cX2_addText 35 = .ok (.getfield 180, 3) := by decide +kernel
theorem dX2_addText_38 : decode cX2_addText 38 = .ok (.aload_n 0, 1) := by decide +kernel
theorem dX2_addText_39 : decode cX2_addText 39 = .ok (.getfield 52, 3) := by decide +kernel
theorem dX2_addText_42 : decode cX2_addText 42 = .ok (.iastore, 1) := by decide +kernel
theorem dX2_addText_43 : decode cX2_addText 43 = .ok (.aload_n 0, 1) := by decide +kernel
theorem dX2_addText_44 : decode cX2_addText 44 = .ok (.dup, 1) := by decide +kernel
theorem dX2_addText_45 : decode cX2_addText 45 = .ok (.getfield 52, 3) := by decide +kernel
theorem dX2_addText_48 : decode cX2_addText 48 = .ok (.iconst 1, 1) := by decide +kernel
theorem dX2_addText_49 : decode cX2_addText 49 = .ok (.iadd, 1) := by decide +kernel
theorem dX2_addText_50 : decode cX2_addText 50 = .ok (.putfield 52, 3) := by decide +kernel
theorem dX2_addText_53 : decode cX2_addText 53 = .ok (.return_, 1) := by decide +kernel
theorem dX2_countingText_0 : decode cX2_countingText 0 = .ok (.iload_n 1, 1) := by decide +kernel
theorem dX2_countingText_1 : decode cX2_countingText 1 = .ok (.iconst 3, 1) := by decide +kernel
theorem dX2_countingText_2 : decode cX2_countingText 2 = .ok (.invokestatic 171, 3) := by decide +kernel
theorem dX2_countingText_5 : decode cX2_countingText 5 = .ok (.ifCond .eq 12, 3) := by decide +kernel
theorem dX2_countingText_8 : decode cX2_countingText 8 = .ok (.aload_n 0, 1) := by decide +kernel
theorem dX2_countingText_9 : decode cX2_countingText 9 = .ok (.getfield 55, 3) := by decide +kernel
theorem dX2_countingText_12 : decode cX2_countingText 12 = .ok (.iload_n 1, 1) := by decide +kernel
theorem dX2_countingText_13 : decode cX2_countingText 13 = .ok (.iaload, 1) := by decide +kernel
theorem dX2_countingText_14 : decode cX2_countingText 14 = .ok (.goto 4, 3) := by decide +kernel
theorem dX2_countingText_17 : decode cX2_countingText 17 = .ok (.iconst (-1), 1) := by decide +kernel
theorem dX2_countingText_18 : decode cX2_countingText 18 = .ok (.istore_n 2, 1) := by decide +kernel
theorem dX2_countingText_19 : decode cX2_countingText 19 = .ok (.iload_n 2, 1) := by decide +kernel
theorem dX2_countingText_20 : decode cX2_countingText 20 = .ok (.aload_n 0, 1) := by decide +kernel
theorem dX2_countingText_21 : decode cX2_countingText 21 = .ok (.getfield 52, 3) := by decide +kernel
theorem dX2_countingText_24 : decode cX2_countingText 24 = .ok (.invokestatic 171, 3) := by decide +kernel
theorem dX2_countingText_27 : decode cX2_countingText 27 = .ok (.ifCond .eq 12, 3) := by decide +kernel
theorem dX2_countingText_30 : decode cX2_countingText 30 = .ok (.aload_n 0, 1) := by decide +kernel
theorem dX2_countingText_31 : decode cX2_countingText 31 = .ok (.getfield 48, 3) := by decide +kernel
theorem dX2_countingText_34 : decode cX2_countingText 34 = .ok (.iload_n 2, 1) := by decide +kernel
theorem dX2_countingText_35 : decode cX2_countingText 35 = .ok (.aaload, 1) := by decide +kernel
theorem dX2_countingText_36 : decode cX2_countingText 36 = .ok (.goto 4, 3) := by decide +kernel
theorem dX2_countingText_39 : decode cX2_countingText 39 = .ok (.aconst_null, 1) := by decide +kernel
theorem dX2_countingText_40 : decode cX2_countingText 40 = .ok (.areturn, 1) := by decide +kernel
theorem dX3_init_0 : decode cX3_init 0 = .ok (.aload_n 0, 1) := by decide +kernel
theorem dX3_init_1 : decode cX3_init 1 = .ok (.invokespecial 3, 3) := by decide +kernel
theorem dX3_init_4 : decode cX3_init 4 = .ok (.aload_n 0, 1) := by decide +kernel
theorem dX3_init_5 : decode cX3_init 5 = .ok (.iconst (-1), 1) := by decide +kernel
theorem dX3_init_6 : decode cX3_init 6 = .ok (.putfield 9, 3) := by decide +kernel
theorem dX3_init_9 : decode cX3_init 9 = .ok (.aload_n 0, 1) := by decide +kernel
theorem dX3_init_10 : decode cX3_init 10 = .ok (.iconst 0, 1) := by decide +kernel
theorem dX3_init_11 : decode cX3_init 11 = .ok (.putfield 15, 3) := by decide +kernel
theorem dX3_init_14 : decode cX3_init 14 = .ok (.aload_n 0, 1) := by decide +kernel
theorem dX3_init_15 : decode cX3_init 15 = .ok (.bipush 24, 2) := by decide +kernel
theorem dX3_init_17 : decode cX3_init 17 = .ok (.newarray .int, 2) := by decide +kernel
theorem dX3_init_19 : decode cX3_init 19 = .ok (.putfield 18, 3) := by decide +kernel
theorem dX3_init_22 : decode cX3_init 22 = .ok (.return_, 1) := by decide +kernel
theorem dX3_isMissing_0 : decode cX3_isMissing 0 = .ok (.aload_n 0, 1) := by decide +kernel
theorem dX3_isMissing_1 : decode cX3_isMissing 1 = .ok (.getfield 9, 3) := by decide +kernel
theorem dX3_isMissing_4 : decode cX3_isMissing 4 = .ok (.iconst (-1), 1) := by decide +kernel
theorem dX3_isMissing_5 : decode cX3_isMissing 5 = .ok (.if_icmp .ne 7, 3) := by decide +kernel
theorem dX3_isMissing_8 : decode cX3_isMissing 8 = .ok (.iconst 1, 1) := by decide +kernel
theorem dX3_isMissing_9 : decode cX3_isMissing 9 = .ok (.goto 4, 3) := by decide +kernel
theorem dX3_isMissing_12 : decode cX3_isMissing 12 = .ok (.iconst 0, 1) := by decide +kernel
theorem dX3_isMissing_13 : decode cX3_isMissing 13 = .ok (.ireturn, 1) := by decide +kernel
theorem dX3_become_0 : decode cX3_become 0 = .ok (.aload_n 0, 1) := by decide +kernel
theorem dX3_become_1 : decode cX3_become 1 = .ok (.iload_n 1, 1) := by decide +kernel
theorem dX3_become_2 : decode cX3_become 2 = .ok (.putfield 9, 3) := by decide +kernel
theorem dX3_become_5 : decode cX3_become 5 = .ok (.aload_n 0, 1) := by decide +kernel
theorem dX3_become_6 : decode cX3_become 6 = .ok (.iload_n 2, 1) := by decide +kernel
theorem dX3_become_7 : decode cX3_become 7 = .ok (.putfield 15, 3) := by decide +kernel
theorem dX3_become_10 : decode cX3_become 10 = .ok (.iconst 0, 1) := by decide +kernel
theorem dX3_become_11 : decode cX3_become 11 = .ok (.istore_n 3, 1) := by decide +kernel
theorem dX3_become_12 : decode cX3_become 12 = .ok (.iload_n 3, 1) := by decide +kernel
theorem dX3_become_13 : decode cX3_become 13 = .ok (.bipush 24, 2) := by decide +kernel
theorem dX3_become_15 : decode cX3_become 15 = .ok (.if_icmp .ge 16, 3) := by decide +kernel
theorem dX3_become_18 : decode cX3_become 18 = .ok (.aload_n 0, 1) := by decide +kernel
theorem dX3_become_19 : decode cX3_become 19 = .ok (.getfield 18, 3) := by decide +kernel
theorem dX3_become_22 : decode cX3_become 22 = .ok (.iload_n 3, 1) := by decide +kernel
theorem dX3_become_23 : decode cX3_become 23 = .ok (.iconst 0, 1) := by decide +kernel
theorem dX3_become_24 : decode cX3_become 24 = .ok (.iastore, 1) := by decide +kernel
theorem dX3_become_25 : decode cX3_become 25 = .ok (.iinc 3 1, 3) := by decide +kernel
theorem dX3_become_28 : decode cX3_become 28 = .ok (.goto (-16), 3) := by decide +kernel
theorem dX3_become_31 : decode cX3_become 31 = .ok (.return_, 1) := by decide +kernel
theorem dX3_becomeAs_0 : decode cX3_becomeAs 0 = .ok (.aload_n 0, 1) := by decide +kernel
theorem dX3_becomeAs_1 : decode cX3_becomeAs 1 = .ok (.aload_n 1, 1) := by decide +kernel
theorem dX3_becomeAs_2 : decode cX3_becomeAs 2 = .ok (.getfield 9, 3) := by decide +kernel
theorem dX3_becomeAs_5 : decode cX3_becomeAs 5 = .ok (.putfield 9, 3) := by decide +kernel
theorem dX3_becomeAs_8 : decode cX3_becomeAs 8 = .ok (.aload_n 0, 1) := by decide +kernel
theorem dX3_becomeAs_9 : decode cX3_becomeAs 9 = .ok (.aload_n 1, 1) := by decide +kernel
theorem dX3_becomeAs_10 : decode cX3_becomeAs 10 = .ok (.getfield 15, 3) := by decide +kernel
theorem dX3_becomeAs_13 : decode cX3_becomeAs 13 = .ok (.putfield 15, 3) := by decide +kernel
theorem dX3_becomeAs_16 : decode cX3_becomeAs 16 = .ok (.aload_n 1, 1) := by decide +kernel
theorem dX3_becomeAs_17 : decode cX3_becomeAs 17 = .ok (.getfield 18, 3) := by decide +kernel
theorem dX3_becomeAs_20 : decode cX3_becomeAs 20 = .ok (.iconst 0, 1) := by decide +kernel
theorem dX3_becomeAs_21 : decode cX3_becomeAs 21 = .ok (.aload_n 0, 1) := by decide +kernel
theorem dX3_becomeAs_22 : decode cX3_becomeAs 22 = .ok (.getfield 18, 3) := by decide +kernel
theorem dX3_becomeAs_25 : decode cX3_becomeAs 25 = .ok (.iconst 0, 1) := by decide +kernel
theorem dX3_becomeAs_26 : decode cX3_becomeAs 26 = .ok (.bipush 24, 2) := by decide +kernel
theorem dX3_becomeAs_28 : decode cX3_becomeAs 28 = .ok (.invokestatic 22, 3) := by decide +kernel
theorem dX3_becomeAs_31 : decode cX3_becomeAs 31 = .ok (.return_, 1) := by decide +kernel
theorem dX3_hasNumber_0 : decode cX3_hasNumber 0 = .ok (.iload_n 1, 1) := by decide +kernel
theorem dX3_hasNumber_1 : decode cX3_hasNumber 1 = .ok (.aload_n 0, 1) := by decide +kernel
theorem dX3_hasNumber_2 : decode cX3_hasNumber 2 = .ok (.getfield 15, 3) := by decide +kernel
theorem dX3_hasNumber_5 : decode cX3_hasNumber 5 = .ok (.invokestatic 28, 3) := by decide +kernel
theorem dX3_hasNumber_8 : decode cX3_hasNumber 8 = .ok (.ifCond .eq 18, 3) := by decide +kernel
theorem dX3_hasNumber_11 : decode cX3_hasNumber 11 = .ok (.aload_n 0, 1) := by decide +kernel
theorem dX3_hasNumber_12 : decode cX3_hasNumber 12 = .ok (.getfield 18, 3) := by decide +kernel
theorem dX3_hasNumber_15 : decode cX3_hasNumber 15 = .ok (.iload_n 1, 1) := by decide +kernel
theorem dX3_hasNumber_16 : decode cX3_hasNumber 16 = .ok (.iaload, 1) := by decide +kernel
theorem dX3_hasNumber_17 : decode cX3_hasNumber 17 = .ok (.ldc 32, 2) := by decide +kernel
theorem dX3_hasNumber_19 : decode cX3_hasNumber 19 = .ok (.if_icmp .eq 7, 3) := by decide +kernel
theorem dX3_hasNumber_22 : decode cX3_hasNumber 22 = .ok (.iconst 1, 1) := by decide +kernel
theorem dX3_hasNumber_23 : decode cX3_hasNumber 23 = .ok (.goto 4, 3) := by decide +kernel
theorem dX3_hasNumber_26 : decode cX3_hasNumber 26 = .ok (.iconst 0, 1) := by decide +kernel
theorem dX3_hasNumber_27 : decode cX3_hasNumber 27 = .ok (.ireturn, 1) := by decide +kernel
theorem dX3_hasPlaces_0 : decode cX3_hasPlaces 0 = .ok (.iload_n 1, 1) := by decide +kernel
theorem dX3_hasPlaces_1 : decode cX3_hasPlaces 1 = .ok (.ifCond .lt 29, 3) := by decide +kernel
theorem dX3_hasPlaces_4 : decode cX3_hasPlaces 4 = .ok (.iload_n 2, 1) := by decide +kernel
theorem dX3_hasPlaces_5 : decode cX3_hasPlaces 5 = .ok (.ifCond .lt 25, 3) := by decide +kernel
theorem dX3_hasPlaces_8 : decode cX3_hasPlaces 8 = .ok (.iload_n 1, 1) := by decide +kernel
theorem dX3_hasPlaces_9 : decode cX3_hasPlaces 9 = .ok (.aload_n 0, 1) := by decide +kernel
theorem dX3_hasPlaces_10 : decode cX3_hasPlaces 10 = .ok (.getfield 15, 3) := by decide +kernel
theorem dX3_hasPlaces_13 : decode cX3_hasPlaces 13 = .ok (.if_icmp .gt 17, 3) := by decide +kernel
theorem dX3_hasPlaces_16 : decode cX3_hasPlaces 16 = .ok (.iload_n 2, 1) := by decide +kernel
theorem dX3_hasPlaces_17 : decode cX3_hasPlaces 17 = .ok (.aload_n 0, 1) := by decide +kernel
theorem dX3_hasPlaces_18 : decode cX3_hasPlaces 18 = .ok (.getfield 15, 3) := by decide +kernel
theorem dX3_hasPlaces_21 : decode cX3_hasPlaces 21 = .ok (.iload_n 1, 1) := by decide +kernel
theorem dX3_hasPlaces_22 : decode cX3_hasPlaces 22 = .ok (.isub, 1) := by decide +kernel
theorem dX3_hasPlaces_23 : decode cX3_hasPlaces 23 = .ok (.if_icmp .gt 7, 3) := by decide +kernel
theorem dX3_hasPlaces_26 : decode cX3_hasPlaces 26 = .ok (.iconst 1, 1) := by decide +kernel
theorem dX3_hasPlaces_27 : decode cX3_hasPlaces 27 = .ok (.goto 4, 3) := by decide +kernel
theorem dX3_hasPlaces_30 : decode cX3_hasPlaces 30 = .ok (.iconst 0, 1) := by decide +kernel
theorem dX3_hasPlaces_31 : decode cX3_hasPlaces 31 = .ok (.ireturn, 1) := by decide +kernel
theorem dX4_init_0 : decode cX4_init 0 = .ok (.aload_n 0, 1) := by decide +kernel
theorem dX4_init_1 : decode cX4_init 1 = .ok (.invokespecial 3, 3) := by decide +kernel
theorem dX4_init_4 : decode cX4_init 4 = .ok (.aload_n 0, 1) := by decide +kernel
theorem dX4_init_5 : decode cX4_init 5 = .ok (.iconst 0, 1) := by decide +kernel
theorem dX4_init_6 : decode cX4_init 6 = .ok (.putfield 9, 3) := by decide +kernel
theorem dX4_init_9 : decode cX4_init 9 = .ok (.aload_n 0, 1) := by decide +kernel
theorem dX4_init_10 : decode cX4_init 10 = .ok (.new 15, 3) := by decide +kernel
theorem dX4_init_13 : decode cX4_init 13 = .ok (.dup, 1) := by decide +kernel
theorem dX4_init_14 : decode cX4_init 14 = .ok (.invokespecial 17, 3) := by decide +kernel
theorem dX4_init_17 : decode cX4_init 17 = .ok (.putfield 18, 3) := by decide +kernel
theorem dX4_init_20 : decode cX4_init 20 = .ok (.aload_n 0, 1) := by decide +kernel
theorem dX4_init_21 : decode cX4_init 21 = .ok (.new 22, 3) := by decide +kernel
theorem dX4_init_24 : decode cX4_init 24 = .ok (.dup, 1) := by decide +kernel
theorem dX4_init_25 : decode cX4_init 25 = .ok (.invokespecial 24, 3) := by decide +kernel
theorem dX4_init_28 : decode cX4_init 28 = .ok (.putfield 25, 3) := by decide +kernel
theorem dX4_init_31 : decode cX4_init 31 = .ok (.aload_n 0, 1) := by decide +kernel
theorem dX4_init_32 : decode cX4_init 32 = .ok (.iconst 0, 1) := by decide +kernel
theorem dX4_init_33 : decode cX4_init 33 = .ok (.putfield 29, 3) := by decide +kernel
theorem dX4_init_36 : decode cX4_init 36 = .ok (.return_, 1) := by decide +kernel
theorem dX5_init_0 : decode cX5_init 0 = .ok (.aload_n 0, 1) := by decide +kernel
theorem dX5_init_1 : decode cX5_init 1 = .ok (.invokespecial 1, 3) := by decide +kernel
theorem dX5_init_4 : decode cX5_init 4 = .ok (.aload_n 0, 1) := by decide +kernel
theorem dX5_init_5 : decode cX5_init 5 = .ok (.iload_n 1, 1) := by decide +kernel
theorem dX5_init_6 : decode cX5_init 6 = .ok (.putfield 7, 3) := by decide +kernel
theorem dX5_init_9 : decode cX5_init 9 = .ok (.aload_n 0, 1) := by decide +kernel
theorem dX5_init_10 : decode cX5_init 10 = .ok (.iload_n 2, 1) := by decide +kernel
theorem dX5_init_11 : decode cX5_init 11 = .ok (.putfield 13, 3) := by decide +kernel
theorem dX5_init_14 : decode cX5_init 14 = .ok (.aload_n 0, 1) := by decide +kernel
theorem dX5_init_15 : decode cX5_init 15 = .ok (.aload_n 3, 1) := by decide +kernel
theorem dX5_init_16 : decode cX5_init 16 = .ok (.putfield 16, 3) := by decide +kernel
theorem dX5_init_19 : decode cX5_init 19 = .ok (.aload_n 0, 1) := by decide +kernel
theorem dX5_init_20 : decode cX5_init 20 = .ok (.iload_n 2, 1) := by decide +kernel
theorem dX5_init_21 : decode cX5_init 21 = .ok (.iconst 0, 1) := by decide +kernel
theorem dX5_init_22 : decode cX5_init 22 = .ok (.invokestatic 20, 3) := by decide +kernel
theorem dX5_init_25 : decode cX5_init 25 = .ok (.newarray .int, 2) := by decide +kernel
theorem dX5_init_27 : decode cX5_init 27 = .ok (.putfield 26, 3) := by decide +kernel
theorem dX5_init_30 : decode cX5_init 30 = .ok (.return_, 1) := by decide +kernel
theorem dX5_work_0 : decode cX5_work 0 = .ok (.iconst 0, 1) := by decide +kernel
theorem dX5_work_1 : decode cX5_work 1 = .ok (.istore 4, 2) := by decide +kernel
theorem dX5_work_3 : decode cX5_work 3 = .ok (.iconst 0, 1) := by decide +kernel
theorem dX5_work_4 : decode cX5_work 4 = .ok (.istore 5, 2) := by decide +kernel
theorem dX5_work_6 : decode cX5_work 6 = .ok (.iload 5, 2) := by decide +kernel
theorem dX5_work_8 : decode cX5_work 8 = .ok (.aload_n 0, 1) := by decide +kernel
theorem dX5_work_9 : decode cX5_work 9 = .ok (.getfield 16, 3) := by decide +kernel
theorem dX5_work_12 : decode cX5_work 12 = .ok (.arraylength, 1) := by decide +kernel
theorem dX5_work_13 : decode cX5_work 13 = .ok (.if_icmp .ge 168, 3) := by decide +kernel
theorem dX5_work_16 : decode cX5_work 16 = .ok (.aload_n 0, 1) := by decide +kernel
theorem dX5_work_17 : decode cX5_work 17 = .ok (.getfield 16, 3) := by decide +kernel
theorem dX5_work_20 : decode cX5_work 20 = .ok (.iload 5, 2) := by decide +kernel
theorem dX5_work_22 : decode cX5_work 22 = .ok (.iaload, 1) := by decide +kernel
theorem dX5_work_23 : decode cX5_work 23 = .ok (.istore 6, 2) := by decide +kernel
theorem dX5_work_25 : decode cX5_work 25 = .ok (.iload 6, 2) := by decide +kernel
theorem dX5_work_27 : decode cX5_work 27 = .ok (.bipush (-3), 2) := by decide +kernel
theorem dX5_work_29 : decode cX5_work 29 = .ok (.if_icmp .lt 60, 3) := by decide +kernel
theorem dX5_work_32 : decode cX5_work 32 = .ok (.iload 4, 2) := by decide +kernel
theorem dX5_work_34 : decode cX5_work 34 = .ok (.aload_n 0, 1) := by decide +kernel
theorem dX5_work_35 : decode cX5_work 35 = .ok (.getfield 26, 3) := by decide +kernel
theorem dX5_work_38 : decode cX5_work 38 = .ok (.arraylength, 1) := by decide +kernel
theorem dX5_work_39 : decode cX5_work 39 = .ok (.if_icmp .lt 5, 3) := by decide +kernel
theorem dX5_work_42 : decode cX5_work 42 = .ok (.iconst 0, 1) := by decide +kernel
theorem dX5_work_43 : decode cX5_work 43 = .ok (.ireturn, 1) := by decide +kernel
theorem dX5_work_44 : decode cX5_work 44 = .ok (.aload_n 0, 1) := by decide +kernel
theorem dX5_work_45 : decode cX5_work 45 = .ok (.getfield 26, 3) := by decide +kernel
theorem dX5_work_48 : decode cX5_work 48 = .ok (.iload 4, 2) := by decide +kernel
theorem dX5_work_50 : decode cX5_work 50 = .ok (.iload 6, 2) := by decide +kernel
theorem dX5_work_52 : decode cX5_work 52 = .ok (.ifCond .lt 8, 3) := by decide +kernel
theorem dX5_work_55 : decode cX5_work 55 = .ok (.iload 6, 2) := by decide +kernel
theorem dX5_work_57 : decode cX5_work 57 = .ok (.goto 25, 3) := by decide +kernel
theorem dX5_work_60 : decode cX5_work 60 = .ok (.iload 6, 2) := by decide +kernel
theorem dX5_work_62 : decode cX5_work 62 = .ok (.iconst (-1), 1) := by decide +kernel
theorem dX5_work_63 : decode cX5_work 63 = .ok (.if_icmp .ne 7, 3) := by decide +kernel
theorem dX5_work_66 : decode cX5_work 66 = .ok (.iload_n 1, 1) := by decide +kernel
theorem dX5_work_67 : decode cX5_work 67 = .ok (.goto 15, 3) := by decide +kernel
theorem dX5_work_70 : decode cX5_work 70 = .ok (.iload 6, 2) := by decide +kernel
theorem dX5_work_72 : decode cX5_work 72 = .ok (.bipush (-2), 2) := by decide +kernel
theorem dX5_work_74 : decode cX5_work 74 = .ok (.if_icmp .ne 7, 3) := by decide +kernel
theorem dX5_work_77 : decode cX5_work 77 = .ok (.iload_n 2, 1) := by decide +kernel
theorem dX5_work_78 : decode cX5_work 78 = .ok (.goto 4, 3) := by decide +kernel
theorem dX5_work_81 : decode cX5_work 81 = .ok (.iload_n 3, 1) := by decide +kernel
theorem dX5_work_82 : decode cX5_work 82 = .ok (.iastore, 1) := by decide +kernel
theorem dX5_work_83 : decode cX5_work 83 = .ok (.iinc 4 1, 3) := by decide +kernel
theorem dX5_work_86 : decode cX5_work 86 = .ok (.goto 89, 3) := by decide +kernel
theorem dX5_work_89 : decode cX5_work 89 = .ok (.iload 6, 2) := by decide +kernel
theorem dX5_work_91 : decode cX5_work 91 = .ok (.bipush (-33), 2) := by decide +kernel
theorem dX5_work_93 : decode cX5_work 93 = .ok (.if_icmp .ne 40, 3) := by decide +kernel
theorem dX5_work_96 : decode cX5_work 96 = .ok (.iload 4, 2) := by decide +kernel
theorem dX5_work_98 : decode cX5_work 98 = .ok (.iconst 1, 1) := by decide +kernel
theorem dX5_work_99 : decode cX5_work 99 = .ok (.if_icmp .ge 5, 3) := by decide +kernel
theorem dX5_work_102 : decode cX5_work 102 = .ok (.iconst 0, 1) := by decide +kernel
theorem dX5_work_103 : decode cX5_work 103 = .ok (.ireturn, 1) := by decide +kernel
theorem dX5_work_104 : decode cX5_work 104 = .ok (.aload_n 0, 1) := by decide +kernel
theorem dX5_work_105 : decode cX5_work 105 = .ok (.getfield 26, 3) := by decide +kernel
theorem dX5_work_108 : decode cX5_work 108 = .ok (.iload 4, 2) := by decide +kernel
theorem dX5_work_110 : decode cX5_work 110 = .ok (.iconst 1, 1) := by decide +kernel
theorem dX5_work_111 : decode cX5_work 111 = .ok (.isub, 1) := by decide +kernel
theorem dX5_work_112 : decode cX5_work 112 = .ok (.aload_n 0, 1) := by decide +kernel
theorem dX5_work_113 : decode cX5_work 113 = .ok (.getfield 26, 3) := by decide +kernel
theorem dX5_work_116 : decode cX5_work 116 = .ok (.iload 4, 2) := by decide +kernel
theorem dX5_work_118 : decode cX5_work 118 = .ok (.iconst 1, 1) := by decide +kernel
theorem dX5_work_119 : decode cX5_work 119 = .ok (.isub, 1) := by decide +kernel
theorem dX5_work_120 : decode cX5_work 120 = .ok (.iaload, 1) := by decide +kernel
theorem dX5_work_121 : decode cX5_work 121 = .ok (.ifCond .ne 7, 3) := by decide +kernel
theorem dX5_work_124 : decode cX5_work 124 = .ok (.iconst 1, 1) := by decide +kernel
theorem dX5_work_125 : decode cX5_work 125 = .ok (.goto 4, 3) := by decide +kernel
theorem dX5_work_128 : decode cX5_work 128 = .ok (.iconst 0, 1) := by decide +kernel
theorem dX5_work_129 : decode cX5_work 129 = .ok (.iastore, 1) := by decide +kernel
theorem dX5_work_130 : decode cX5_work 130 = .ok (.goto 45, 3) := by decide +kernel
theorem dX5_work_133 : decode cX5_work 133 = .ok (.iload 4, 2) := by decide +kernel
theorem dX5_work_135 : decode cX5_work 135 = .ok (.iconst 2, 1) := by decide +kernel
theorem dX5_work_136 : decode cX5_work 136 = .ok (.if_icmp .ge 5, 3) := by decide +kernel
theorem dX5_work_139 : decode cX5_work 139 = .ok (.iconst 0, 1) := by decide +kernel
theorem dX5_work_140 : decode cX5_work 140 = .ok (.ireturn, 1) := by decide +kernel
theorem dX5_work_141 : decode cX5_work 141 = .ok (.iinc 4 (-1), 3) := by decide +kernel
theorem dX5_work_144 : decode cX5_work 144 = .ok (.aload_n 0, 1) := by decide +kernel
theorem dX5_work_145 : decode cX5_work 145 = .ok (.getfield 26, 3) := by decide +kernel
theorem dX5_work_148 : decode cX5_work 148 = .ok (.iload 4, 2) := by decide +kernel
theorem dX5_work_150 : decode cX5_work 150 = .ok (.iconst 1, 1) := by decide +kernel
theorem dX5_work_151 : decode cX5_work 151 = .ok (.isub, 1) := by decide +kernel
theorem dX5_work_152 : decode cX5_work 152 = .ok (.iload 6, 2) := by decide +kernel
theorem dX5_work_154 : decode cX5_work 154 = .ok (.ineg, 1) := by decide +kernel
theorem dX5_work_155 : decode cX5_work 155 = .ok (.aload_n 0, 1) := by decide +kernel
theorem dX5_work_156 : decode cX5_work 156 = .ok (.getfield 26, 3) := by decide +kernel
theorem dX5_work_159 : decode cX5_work 159 = .ok (.iload 4, 2) := by decide +kernel
theorem dX5_work_161 : decode cX5_work 161 = .ok (.iconst 1, 1) := by decide +kernel
theorem dX5_work_162 : decode cX5_work 162 = .ok (.isub, 1) := by decide +kernel
theorem dX5_work_163 : decode cX5_work 163 = .ok (.iaload, 1) := by decide +kernel
theorem dX5_work_164 : decode cX5_work 164 = .ok (.aload_n 0, 1) := by decide +kernel
theorem dX5_work_165 : decode cX5_work 165 = .ok (.getfield 26, 3) := by decide +kernel
theorem dX5_work_168 : decode cX5_work 168 = .ok (.iload 4, 2) := by decide +kernel
theorem dX5_work_170 : decode cX5_work 170 = .ok (.iaload, 1) := by decide +kernel
theorem dX5_work_171 : decode cX5_work 171 = .ok (.invokestatic 29, 3) := by decide +kernel
theorem dX5_work_174 : decode cX5_work 174 = .ok (.iastore, 1) := by decide +kernel
theorem dX5_work_175 : decode cX5_work 175 = .ok (.iinc 5 1, 3) := by decide +kernel
theorem dX5_work_178 : decode cX5_work 178 = .ok (.goto (-172), 3) := by decide +kernel
theorem dX5_work_181 : decode cX5_work 181 = .ok (.iload 4, 2) := by decide +kernel
theorem dX5_work_183 : decode cX5_work 183 = .ok (.iconst 1, 1) := by decide +kernel
theorem dX5_work_184 : decode cX5_work 184 = .ok (.if_icmp .ge 7, 3) := by decide +kernel
theorem dX5_work_187 : decode cX5_work 187 = .ok (.iconst 0, 1) := by decide +kernel
theorem dX5_work_188 : decode cX5_work 188 = .ok (.goto 9, 3) := by decide +kernel
theorem dX5_work_191 : decode cX5_work 191 = .ok (.aload_n 0, 1) := by decide +kernel
theorem dX5_work_192 : decode cX5_work 192 = .ok (.getfield 26, 3) := by decide +kernel
theorem dX5_work_195 : decode cX5_work 195 = .ok (.iconst 0, 1) := by decide +kernel
theorem dX5_work_196 : decode cX5_work 196 = .ok (.iaload, 1) := by decide +kernel
theorem dX5_work_197 : decode cX5_work 197 = .ok (.ireturn, 1) := by decide +kernel
theorem dX5_join_0 : decode cX5_join 0 = .ok (.iload_n 0, 1) := by decide +kernel
theorem dX5_join_1 : decode cX5_join 1 = .ok (.lookupswitch 168 #[(38, 97), (42, 152), (43, 144), (45, 148), (47, 156), (60, 111), (61, 122), (62, 133), (124, 83)], 83) := by decide +kernel
theorem dX5_join_84 : decode cX5_join 84 = .ok (.iload_n 1, 1) := by decide +kernel
theorem dX5_join_85 : decode cX5_join 85 = .ok (.ifCond .ne 7, 3) := by decide +kernel
theorem dX5_join_88 : decode cX5_join 88 = .ok (.iload_n 2, 1) := by decide +kernel
theorem dX5_join_89 : decode cX5_join 89 = .ok (.ifCond .eq 7, 3) := by decide +kernel
theorem dX5_join_92 : decode cX5_join 92 = .ok (.iconst 1, 1) := by decide +kernel
theorem dX5_join_93 : decode cX5_join 93 = .ok (.goto 4, 3) := by decide +kernel
theorem dX5_join_96 : decode cX5_join 96 = .ok (.iconst 0, 1) := by decide +kernel
theorem dX5_join_97 : decode cX5_join 97 = .ok (.ireturn, 1) := by decide +kernel
theorem dX5_join_98 : decode cX5_join 98 = .ok (.iload_n 1, 1) := by decide +kernel
theorem dX5_join_99 : decode cX5_join 99 = .ok (.ifCond .eq 11, 3) := by decide +kernel
theorem dX5_join_102 : decode cX5_join 102 = .ok (.iload_n 2, 1) := by decide +kernel
theorem dX5_join_103 : decode cX5_join 103 = .ok (.ifCond .eq 7, 3) := by decide +kernel
theorem dX5_join_106 : decode cX5_join 106 = .ok (.iconst 1, 1) := by decide +kernel
theorem dX5_join_107 : decode cX5_join 107 = .ok (.goto 4, 3) := by decide +kernel
theorem dX5_join_110 : decode cX5_join 110 = .ok (.iconst 0, 1) := by decide +kernel
theorem dX5_join_111 : decode cX5_join 111 = .ok (.ireturn, 1) := by decide +kernel
theorem dX5_join_112 : decode cX5_join 112 = .ok (.iload_n 1, 1) := by decide +kernel
theorem dX5_join_113 : decode cX5_join 113 = .ok (.iload_n 2, 1) := by decide +kernel
theorem dX5_join_114 : decode cX5_join 114 = .ok (.if_icmp .ge 7, 3) := by decide +kernel
theorem dX5_join_117 : decode cX5_join 117 = .ok (.iconst 1, 1) := by decide +kernel
theorem dX5_join_118 : decode cX5_join 118 = .ok (.goto 4, 3) := by decide +kernel
theorem dX5_join_121 : decode cX5_join 121 = .ok (.iconst 0, 1) := by decide +kernel
theorem dX5_join_122 : decode cX5_join 122 = .ok (.ireturn, 1) := by decide +kernel
theorem dX5_join_123 : decode cX5_join 123 = .ok (.iload_n 1, 1) := by decide +kernel
theorem dX5_join_124 : decode cX5_join 124 = .ok (.iload_n 2, 1) := by decide +kernel
theorem dX5_join_125 : decode cX5_join 125 = .ok (.if_icmp .ne 7, 3) := by decide +kernel
theorem dX5_join_128 : decode cX5_join 128 = .ok (.iconst 1, 1) := by decide +kernel
theorem dX5_join_129 : decode cX5_join 129 = .ok (.goto 4, 3) := by decide +kernel
theorem dX5_join_132 : decode cX5_join 132 = .ok (.iconst 0, 1) := by decide +kernel
theorem dX5_join_133 : decode cX5_join 133 = .ok (.ireturn, 1) := by decide +kernel
theorem dX5_join_134 : decode cX5_join 134 = .ok (.iload_n 1, 1) := by decide +kernel
theorem dX5_join_135 : decode cX5_join 135 = .ok (.iload_n 2, 1) := by decide +kernel
theorem dX5_join_136 : decode cX5_join 136 = .ok (.if_icmp .le 7, 3) := by decide +kernel
theorem dX5_join_139 : decode cX5_join 139 = .ok (.iconst 1, 1) := by decide +kernel
theorem dX5_join_140 : decode cX5_join 140 = .ok (.goto 4, 3) := by decide +kernel
theorem dX5_join_143 : decode cX5_join 143 = .ok (.iconst 0, 1) := by decide +kernel
theorem dX5_join_144 : decode cX5_join 144 = .ok (.ireturn, 1) := by decide +kernel
theorem dX5_join_145 : decode cX5_join 145 = .ok (.iload_n 1, 1) := by decide +kernel
theorem dX5_join_146 : decode cX5_join 146 = .ok (.iload_n 2, 1) := by decide +kernel
theorem dX5_join_147 : decode cX5_join 147 = .ok (.iadd, 1) := by decide +kernel
theorem dX5_join_148 : decode cX5_join 148 = .ok (.ireturn, 1) := by decide +kernel
theorem dX5_join_149 : decode cX5_join 149 = .ok (.iload_n 1, 1) := by decide +kernel
theorem dX5_join_150 : decode cX5_join 150 = .ok (.iload_n 2, 1) := by decide +kernel
theorem dX5_join_151 : decode cX5_join 151 = .ok (.isub, 1) := by decide +kernel
theorem dX5_join_152 : decode cX5_join 152 = .ok (.ireturn, 1) := by decide +kernel
theorem dX5_join_153 : decode cX5_join 153 = .ok (.iload_n 1, 1) := by decide +kernel
theorem dX5_join_154 : decode cX5_join 154 = .ok (.iload_n 2, 1) := by decide +kernel
theorem dX5_join_155 : decode cX5_join 155 = .ok (.imul, 1) := by decide +kernel
theorem dX5_join_156 : decode cX5_join 156 = .ok (.ireturn, 1) := by decide +kernel
theorem dX5_join_157 : decode cX5_join 157 = .ok (.iload_n 2, 1) := by decide +kernel
theorem dX5_join_158 : decode cX5_join 158 = .ok (.ifCond .ne 7, 3) := by decide +kernel
theorem dX5_join_161 : decode cX5_join 161 = .ok (.iconst 0, 1) := by decide +kernel
theorem dX5_join_162 : decode cX5_join 162 = .ok (.goto 6, 3) := by decide +kernel
theorem dX5_join_165 : decode cX5_join 165 = .ok (.iload_n 1, 1) := by decide +kernel
theorem dX5_join_166 : decode cX5_join 166 = .ok (.iload_n 2, 1) := by decide +kernel
theorem dX5_join_167 : decode cX5_join 167 = .ok (.idiv, 1) := by decide +kernel
theorem dX5_join_168 : decode cX5_join 168 = .ok (.ireturn, 1) := by decide +kernel
theorem dX5_join_169 : decode cX5_join 169 = .ok (.iconst 0, 1) := by decide +kernel
theorem dX5_join_170 : decode cX5_join 170 = .ok (.ireturn, 1) := by decide +kernel
