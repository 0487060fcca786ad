theorem dX0_init_0 : decode cX0_init 0 = .ok (.aload_n 0, 1) := by decide +kernel
theorem dX0_init_1 : decode cX0_init 1 = .ok (.invokespecial 3, 3) := by decide +kernel
theorem dX0_init_4 : decode cX0_init 4 = .ok (.aload_n 0, 1) := by decide +kernel
theorem dX0_init_5 : decode cX0_init 5 = .ok (.new 9, 3) := by decide +kernel
theorem dX0_init_8 : decode cX0_init 8 = .ok (.dup, 1) := by decide +kernel
theorem dX0_init_9 : decode cX0_init 9 = .ok (.invokespecial 11, 3) := by decide +kernel
theorem dX0_init_12 : decode cX0_init 12 = .ok (.putfield 12, 3) := by decide +kernel
theorem dX0_init_15 : decode cX0_init 15 = .ok (.aload_n 0, 1) := by decide +kernel
theorem dX0_init_16 : decode cX0_init 16 = .ok (.new 18, 3) := by decide +kernel
theorem dX0_init_19 : decode cX0_init 19 = .ok (.dup, 1) := by decide +kernel
theorem dX0_init_20 : decode cX0_init 20 = .ok (.invokespecial 20, 3) := by decide +kernel
theorem dX0_init_23 : decode cX0_init 23 = .ok (.putfield 21, 3) := by decide +kernel
theorem dX0_init_26 : decode cX0_init 26 = .ok (.aload_n 0, 1) := by decide +kernel
theorem dX0_init_27 : decode cX0_init 27 = .ok (.aload_n 0, 1) := by decide +kernel
theorem dX0_init_28 : decode cX0_init 28 = .ok (.getfield 21, 3) := by decide +kernel
theorem dX0_init_31 : decode cX0_init 31 = .ok (.putfield 25, 3) := by decide +kernel
theorem dX0_init_34 : decode cX0_init 34 = .ok (.return_, 1) := by decide +kernel
theorem dX0_put_0 : decode cX0_put 0 = .ok (.aload_n 0, 1) := by decide +kernel
theorem dX0_put_1 : decode cX0_put 1 = .ok (.iload_n 1, 1) := by decide +kernel
theorem dX0_put_2 : decode cX0_put 2 = .ok (.putfield 28, 3) := by decide +kernel
theorem dX0_put_5 : decode cX0_put 5 = .ok (.aload_n 0, 1) := by decide +kernel
theorem dX0_put_6 : decode cX0_put 6 = .ok (.iload_n 2, 1) := by decide +kernel
theorem dX0_put_7 : decode cX0_put 7 = .ok (.putfield 32, 3) := by decide +kernel
theorem dX0_put_10 : decode cX0_put 10 = .ok (.aload_n 0, 1) := by decide +kernel
theorem dX0_put_11 : decode cX0_put 11 = .ok (.iload_n 3, 1) := by decide +kernel
theorem dX0_put_12 : decode cX0_put 12 = .ok (.putfield 35, 3) := by decide +kernel
theorem dX0_put_15 : decode cX0_put 15 = .ok (.aload_n 0, 1) := by decide +kernel
theorem dX0_put_16 : decode cX0_put 16 = .ok (.iload_n 2, 1) := by decide +kernel
theorem dX0_put_17 : decode cX0_put 17 = .ok (.iconst 1, 1) := by decide +kernel
theorem dX0_put_18 : decode cX0_put 18 = .ok (.if_icmp .eq 8, 3) := by decide +kernel
theorem dX0_put_21 : decode cX0_put 21 = .ok (.iload_n 2, 1) := by decide +kernel
theorem dX0_put_22 : decode cX0_put 22 = .ok (.iconst 3, 1) := by decide +kernel
theorem dX0_put_23 : decode cX0_put 23 = .ok (.if_icmp .ne 7, 3) := by decide +kernel
theorem dX0_put_26 : decode cX0_put 26 = .ok (.iconst 0, 1) := by decide +kernel
theorem dX0_put_27 : decode cX0_put 27 = .ok (.goto 5, 3) := by decide +kernel
theorem dX0_put_30 : decode cX0_put 30 = .ok (.iload 4, 2) := by decide +kernel
theorem dX0_put_32 : decode cX0_put 32 = .ok (.putfield 38, 3) := by decide +kernel
theorem dX0_put_35 : decode cX0_put 35 = .ok (.aload_n 0, 1) := by decide +kernel
theorem dX0_put_36 : decode cX0_put 36 = .ok (.iload_n 2, 1) := by decide +kernel
theorem dX0_put_37 : decode cX0_put 37 = .ok (.iconst 2, 1) := by decide +kernel
theorem dX0_put_38 : decode cX0_put 38 = .ok (.if_icmp .eq 8, 3) := by decide +kernel
theorem dX0_put_41 : decode cX0_put 41 = .ok (.iload_n 2, 1) := by decide +kernel
theorem dX0_put_42 : decode cX0_put 42 = .ok (.iconst 5, 1) := by decide +kernel
theorem dX0_put_43 : decode cX0_put 43 = .ok (.if_icmp .ne 8, 3) := by decide +kernel
theorem dX0_put_46 : decode cX0_put 46 = .ok (.iload 5, 2) := by decide +kernel
theorem dX0_put_48 : decode cX0_put 48 = .ok (.goto 4, 3) := by decide +kernel
theorem dX0_put_51 : decode cX0_put 51 = .ok (.iconst 0, 1) := by decide +kernel
theorem dX0_put_52 : decode cX0_put 52 = .ok (.putfield 41, 3) := by decide +kernel
theorem dX0_put_55 : decode cX0_put 55 = .ok (.return_, 1) := by decide +kernel
theorem dX0_isInBounds_0 : decode cX0_isInBounds 0 = .ok (.aload_n 0, 1) := by decide +kernel
theorem dX0_isInBounds_1 : decode cX0_isInBounds 1 = .ok (.getfield 32, 3) := by decide +kernel
theorem dX0_isInBounds_4 : decode cX0_isInBounds 4 = .ok (.iconst 1, 1) := by decide +kernel
theorem dX0_isInBounds_5 : decode cX0_isInBounds 5 = .ok (.if_icmp .ne 28, 3) := by decide +kernel
theorem dX0_isInBounds_8 : decode cX0_isInBounds 8 = .ok (.aload_n 0, 1) := by decide +kernel
theorem dX0_isInBounds_9 : decode cX0_isInBounds 9 = .ok (.getfield 35, 3) := by decide +kernel
theorem dX0_isInBounds_12 : decode cX0_isInBounds 12 = .ok (.ifCond .lt 17, 3) := by decide +kernel
theorem dX0_isInBounds_15 : decode cX0_isInBounds 15 = .ok (.aload_n 0, 1) := by decide +kernel
theorem dX0_isInBounds_16 : decode cX0_isInBounds 16 = .ok (.getfield 35, 3) := by decide +kernel
theorem dX0_isInBounds_19 : decode cX0_isInBounds 19 = .ok (.sipush 400, 3) := by decide +kernel
theorem dX0_isInBounds_22 : decode cX0_isInBounds 22 = .ok (.if_icmp .gt 7, 3) := by decide +kernel
theorem dX0_isInBounds_25 : decode cX0_isInBounds 25 = .ok (.iconst 1, 1) := by decide +kernel
theorem dX0_isInBounds_26 : decode cX0_isInBounds 26 = .ok (.goto 14, 3) := by decide +kernel
theorem dX0_isInBounds_29 : decode cX0_isInBounds 29 = .ok (.iconst 0, 1) := by decide +kernel
theorem dX0_isInBounds_30 : decode cX0_isInBounds 30 = .ok (.goto 10, 3) := by decide +kernel
theorem dX0_isInBounds_33 : decode cX0_isInBounds 33 = .ok (.aload_n 0, 1) := by decide +kernel
theorem dX0_isInBounds_34 : decode cX0_isInBounds 34 = .ok (.getfield 35, 3) := by decide +kernel
theorem dX0_isInBounds_37 : decode cX0_isInBounds 37 = .ok (.invokestatic 44, 3) := by decide +kernel
theorem dX0_isInBounds_40 : decode cX0_isInBounds 40 = .ok (.istore_n 1, 1) := by decide +kernel
theorem dX0_isInBounds_41 : decode cX0_isInBounds 41 = .ok (.aload_n 0, 1) := by decide +kernel
theorem dX0_isInBounds_42 : decode cX0_isInBounds 42 = .ok (.getfield 32, 3) := by decide +kernel
theorem dX0_isInBounds_45 : decode cX0_isInBounds 45 = .ok (.ifCond .eq 19, 3) := by decide +kernel
theorem dX0_isInBounds_48 : decode cX0_isInBounds 48 = .ok (.aload_n 0, 1) := by decide +kernel
theorem dX0_isInBounds_49 : decode cX0_isInBounds 49 = .ok (.getfield 32, 3) := by decide +kernel
theorem dX0_isInBounds_52 : decode cX0_isInBounds 52 = .ok (.iconst 2, 1) := by decide +kernel
theorem dX0_isInBounds_53 : decode cX0_isInBounds 53 = .ok (.if_icmp .eq 11, 3) := by decide +kernel
theorem dX0_isInBounds_56 : decode cX0_isInBounds 56 = .ok (.aload_n 0, 1) := by decide +kernel
theorem dX0_isInBounds_57 : decode cX0_isInBounds 57 = .ok (.getfield 32, 3) := by decide +kernel
theorem dX0_isInBounds_60 : decode cX0_isInBounds 60 = .ok (.iconst 5, 1) := by decide +kernel
theorem dX0_isInBounds_61 : decode cX0_isInBounds 61 = .ok (.if_icmp .ne 13, 3) := by decide +kernel
theorem dX0_isInBounds_64 : decode cX0_isInBounds 64 = .ok (.aload_n 0, 1) := by decide +kernel
theorem dX0_isInBounds_65 : decode cX0_isInBounds 65 = .ok (.getfield 38, 3) := by decide +kernel
theorem dX0_isInBounds_68 : decode cX0_isInBounds 68 = .ok (.invokestatic 44, 3) := by decide +kernel
theorem dX0_isInBounds_71 : decode cX0_isInBounds 71 = .ok (.ifCond .eq 7, 3) := by decide +kernel
theorem dX0_isInBounds_74 : decode cX0_isInBounds 74 = .ok (.iconst 1, 1) := by decide +kernel
theorem dX0_isInBounds_75 : decode cX0_isInBounds 75 = .ok (.goto 4, 3) := by decide +kernel
theorem dX0_isInBounds_78 : decode cX0_isInBounds 78 = .ok (.iconst 0, 1) := by decide +kernel
theorem dX0_isInBounds_79 : decode cX0_isInBounds 79 = .ok (.istore_n 2, 1) := by decide +kernel
theorem dX0_isInBounds_80 : decode cX0_isInBounds 80 = .ok (.aload_n 0, 1) := by decide +kernel
theorem dX0_isInBounds_81 : decode cX0_isInBounds 81 = .ok (.getfield 32, 3) := by decide +kernel
theorem dX0_isInBounds_84 : decode cX0_isInBounds 84 = .ok (.iconst 2, 1) := by decide +kernel
theorem dX0_isInBounds_85 : decode cX0_isInBounds 85 = .ok (.if_icmp .ne 7, 3) := by decide +kernel
theorem dX0_isInBounds_88 : decode cX0_isInBounds 88 = .ok (.iconst 2, 1) := by decide +kernel
theorem dX0_isInBounds_89 : decode cX0_isInBounds 89 = .ok (.goto 16, 3) := by decide +kernel
theorem dX0_isInBounds_92 : decode cX0_isInBounds 92 = .ok (.aload_n 0, 1) := by decide +kernel
theorem dX0_isInBounds_93 : decode cX0_isInBounds 93 = .ok (.getfield 32, 3) := by decide +kernel
theorem dX0_isInBounds_96 : decode cX0_isInBounds 96 = .ok (.iconst 5, 1) := by decide +kernel
theorem dX0_isInBounds_97 : decode cX0_isInBounds 97 = .ok (.if_icmp .ne 7, 3) := by decide +kernel
theorem dX0_isInBounds_100 : decode cX0_isInBounds 100 = .ok (.iconst 1, 1) := by decide +kernel
theorem dX0_isInBounds_101 : decode cX0_isInBounds 101 = .ok (.goto 4, 3) := by decide +kernel
theorem dX0_isInBounds_104 : decode cX0_isInBounds 104 = .ok (.iconst 0, 1) := by decide +kernel
theorem dX0_isInBounds_105 : decode cX0_isInBounds 105 = .ok (.istore_n 3, 1) := by decide +kernel
theorem dX0_isInBounds_106 : decode cX0_isInBounds 106 = .ok (.iload_n 1, 1) := by decide +kernel
theorem dX0_isInBounds_107 : decode cX0_isInBounds 107 = .ok (.ifCond .eq 26, 3) := by decide +kernel
theorem dX0_isInBounds_110 : decode cX0_isInBounds 110 = .ok (.iload_n 2, 1) := by decide +kernel
theorem dX0_isInBounds_111 : decode cX0_isInBounds 111 = .ok (.ifCond .eq 22, 3) := by decide +kernel
theorem dX0_isInBounds_114 : decode cX0_isInBounds 114 = .ok (.aload_n 0, 1) := by decide +kernel
theorem dX0_isInBounds_115 : decode cX0_isInBounds 115 = .ok (.getfield 41, 3) := by decide +kernel
theorem dX0_isInBounds_118 : decode cX0_isInBounds 118 = .ok (.ifCond .lt 15, 3) := by decide +kernel
theorem dX0_isInBounds_121 : decode cX0_isInBounds 121 = .ok (.aload_n 0, 1) := by decide +kernel
theorem dX0_isInBounds_122 : decode cX0_isInBounds 122 = .ok (.getfield 41, 3) := by decide +kernel
theorem dX0_isInBounds_125 : decode cX0_isInBounds 125 = .ok (.iload_n 3, 1) := by decide +kernel
theorem dX0_isInBounds_126 : decode cX0_isInBounds 126 = .ok (.if_icmp .gt 7, 3) := by decide +kernel
theorem dX0_isInBounds_129 : decode cX0_isInBounds 129 = .ok (.iconst 1, 1) := by decide +kernel
theorem dX0_isInBounds_130 : decode cX0_isInBounds 130 = .ok (.goto 4, 3) := by decide +kernel
theorem dX0_isInBounds_133 : decode cX0_isInBounds 133 = .ok (.iconst 0, 1) := by decide +kernel
theorem dX0_isInBounds_134 : decode cX0_isInBounds 134 = .ok (.ireturn, 1) := by decide +kernel
theorem dX0_canBe_0 : decode cX0_canBe 0 = .ok (.aload_n 0, 1) := by decide +kernel
theorem dX0_canBe_1 : decode cX0_canBe 1 = .ok (.getfield 32, 3) := by decide +kernel
theorem dX0_canBe_4 : decode cX0_canBe 4 = .ok (.iconst 3, 1) := by decide +kernel
theorem dX0_canBe_5 : decode cX0_canBe 5 = .ok (.if_icmp .eq 11, 3) := by decide +kernel
theorem dX0_canBe_8 : decode cX0_canBe 8 = .ok (.aload_n 0, 1) := by decide +kernel
theorem dX0_canBe_9 : decode cX0_canBe 9 = .ok (.getfield 32, 3) := by decide +kernel
theorem dX0_canBe_12 : decode cX0_canBe 12 = .ok (.iconst 4, 1) := by decide +kernel
theorem dX0_canBe_13 : decode cX0_canBe 13 = .ok (.if_icmp .ne 7, 3) := by decide +kernel
theorem dX0_canBe_16 : decode cX0_canBe 16 = .ok (.iconst 1, 1) := by decide +kernel
theorem dX0_canBe_17 : decode cX0_canBe 17 = .ok (.goto 4, 3) := by decide +kernel
theorem dX0_canBe_20 : decode cX0_canBe 20 = .ok (.iconst 0, 1) := by decide +kernel
theorem dX0_canBe_21 : decode cX0_canBe 21 = .ok (.istore_n 2, 1) := by decide +kernel
theorem dX0_canBe_22 : decode cX0_canBe 22 = .ok (.aload_n 0, 1) := by decide +kernel
theorem dX0_canBe_23 : decode cX0_canBe 23 = .ok (.getfield 32, 3) := by decide +kernel
theorem dX0_canBe_26 : decode cX0_canBe 26 = .ok (.ifCond .eq 11, 3) := by decide +kernel
theorem dX0_canBe_29 : decode cX0_canBe 29 = .ok (.aload_n 0, 1) := by decide +kernel
theorem dX0_canBe_30 : decode cX0_canBe 30 = .ok (.getfield 32, 3) := by decide +kernel
theorem dX0_canBe_33 : decode cX0_canBe 33 = .ok (.iconst 2, 1) := by decide +kernel
theorem dX0_canBe_34 : decode cX0_canBe 34 = .ok (.if_icmp .ne 7, 3) := by decide +kernel
theorem dX0_canBe_37 : decode cX0_canBe 37 = .ok (.iconst 2, 1) := by decide +kernel
theorem dX0_canBe_38 : decode cX0_canBe 38 = .ok (.goto 4, 3) := by decide +kernel
theorem dX0_canBe_41 : decode cX0_canBe 41 = .ok (.iconst 1, 1) := by decide +kernel
theorem dX0_canBe_42 : decode cX0_canBe 42 = .ok (.istore_n 3, 1) := by decide +kernel
theorem dX0_canBe_43 : decode cX0_canBe 43 = .ok (.iload_n 1, 1) := by decide +kernel
theorem dX0_canBe_44 : decode cX0_canBe 44 = .ok (.ifCond .lt 16, 3) := by decide +kernel
theorem dX0_canBe_47 : decode cX0_canBe 47 = .ok (.iload_n 2, 1) := by decide +kernel
theorem dX0_canBe_48 : decode cX0_canBe 48 = .ok (.ifCond .ne 8, 3) := by decide +kernel
theorem dX0_canBe_51 : decode cX0_canBe 51 = .ok (.iload_n 1, 1) := by decide +kernel
theorem dX0_canBe_52 : decode cX0_canBe 52 = .ok (.iload_n 3, 1) := by decide +kernel
theorem dX0_canBe_53 : decode cX0_canBe 53 = .ok (.if_icmp .gt 7, 3) := by decide +kernel
theorem dX0_canBe_56 : decode cX0_canBe 56 = .ok (.iconst 1, 1) := by decide +kernel
theorem dX0_canBe_57 : decode cX0_canBe 57 = .ok (.goto 4, 3) := by decide +kernel
theorem dX0_canBe_60 : decode cX0_canBe 60 = .ok (.iconst 0, 1) := by decide +kernel
theorem dX0_canBe_61 : decode cX0_canBe 61 = .ok (.ireturn, 1) := by decide +kernel
theorem dX0_feelings_0 : decode cX0_feelings 0 = .ok (.aload_n 0, 1) := by decide +kernel
theorem dX0_feelings_1 : decode cX0_feelings 1 = .ok (.getfield 32, 3) := by decide +kernel
theorem dX0_feelings_4 : decode cX0_feelings 4 = .ok (.iconst 2, 1) := by decide +kernel
theorem dX0_feelings_5 : decode cX0_feelings 5 = .ok (.if_icmp .ne 7, 3) := by decide +kernel
theorem dX0_feelings_8 : decode cX0_feelings 8 = .ok (.iconst 3, 1) := by decide +kernel
theorem dX0_feelings_9 : decode cX0_feelings 9 = .ok (.goto 23, 3) := by decide +kernel
theorem dX0_feelings_12 : decode cX0_feelings 12 = .ok (.aload_n 0, 1) := by decide +kernel
theorem dX0_feelings_13 : decode cX0_feelings 13 = .ok (.getfield 32, 3) := by decide +kernel
theorem dX0_feelings_16 : decode cX0_feelings 16 = .ok (.ifCond .eq 11, 3) := by decide +kernel
theorem dX0_feelings_19 : decode cX0_feelings 19 = .ok (.aload_n 0, 1) := by decide +kernel
theorem dX0_feelings_20 : decode cX0_feelings 20 = .ok (.getfield 32, 3) := by decide +kernel
theorem dX0_feelings_23 : decode cX0_feelings 23 = .ok (.iconst 5, 1) := by decide +kernel
theorem dX0_feelings_24 : decode cX0_feelings 24 = .ok (.if_icmp .ne 7, 3) := by decide +kernel
theorem dX0_feelings_27 : decode cX0_feelings 27 = .ok (.iconst 2, 1) := by decide +kernel
theorem dX0_feelings_28 : decode cX0_feelings 28 = .ok (.goto 4, 3) := by decide +kernel
theorem dX0_feelings_31 : decode cX0_feelings 31 = .ok (.iconst 1, 1) := by decide +kernel
theorem dX0_feelings_32 : decode cX0_feelings 32 = .ok (.ireturn, 1) := by decide +kernel
theorem dX0_levelOf_0 : decode cX0_levelOf 0 = .ok (.aload_n 0, 1) := by decide +kernel
theorem dX0_levelOf_1 : decode cX0_levelOf 1 = .ok (.getfield 32, 3) := by decide +kernel
theorem dX0_levelOf_4 : decode cX0_levelOf 4 = .ok (.iconst 2, 1) := by decide +kernel
theorem dX0_levelOf_5 : decode cX0_levelOf 5 = .ok (.if_icmp .ne 19, 3) := by decide +kernel
theorem dX0_levelOf_8 : decode cX0_levelOf 8 = .ok (.iload_n 1, 1) := by decide +kernel
theorem dX0_levelOf_9 : decode cX0_levelOf 9 = .ok (.aload_n 0, 1) := by decide +kernel
theorem dX0_levelOf_10 : decode cX0_levelOf 10 = .ok (.getfield 41, 3) := by decide +kernel
theorem dX0_levelOf_13 : decode cX0_levelOf 13 = .ok (.if_icmp .ne 7, 3) := by decide +kernel
theorem dX0_levelOf_16 : decode cX0_levelOf 16 = .ok (.iconst 1, 1) := by decide +kernel
theorem dX0_levelOf_17 : decode cX0_levelOf 17 = .ok (.goto 17, 3) := by decide +kernel
theorem dX0_levelOf_20 : decode cX0_levelOf 20 = .ok (.iconst 0, 1) := by decide +kernel
theorem dX0_levelOf_21 : decode cX0_levelOf 21 = .ok (.goto 13, 3) := by decide +kernel
theorem dX0_levelOf_24 : decode cX0_levelOf 24 = .ok (.iload_n 1, 1) := by decide +kernel
theorem dX0_levelOf_25 : decode cX0_levelOf 25 = .ok (.iconst 1, 1) := by decide +kernel
theorem dX0_levelOf_26 : decode cX0_levelOf 26 = .ok (.if_icmp .ne 7, 3) := by decide +kernel
theorem dX0_levelOf_29 : decode cX0_levelOf 29 = .ok (.iconst 1, 1) := by decide +kernel
theorem dX0_levelOf_30 : decode cX0_levelOf 30 = .ok (.goto 4, 3) := by decide +kernel
theorem dX0_levelOf_33 : decode cX0_levelOf 33 = .ok (.iconst 0, 1) := by decide +kernel
theorem dX0_levelOf_34 : decode cX0_levelOf 34 = .ok (.istore_n 2, 1) := by decide +kernel
theorem dX0_levelOf_35 : decode cX0_levelOf 35 = .ok (.aload_n 0, 1) := by decide +kernel
theorem dX0_levelOf_36 : decode cX0_levelOf 36 = .ok (.getfield 21, 3) := by decide +kernel
theorem dX0_levelOf_39 : decode cX0_levelOf 39 = .ok (.iload_n 2, 1) := by decide +kernel
theorem dX0_levelOf_40 : decode cX0_levelOf 40 = .ok (.ifCond .eq 10, 3) := by decide +kernel
theorem dX0_levelOf_43 : decode cX0_levelOf 43 = .ok (.aload_n 0, 1) := by decide +kernel
theorem dX0_levelOf_44 : decode cX0_levelOf 44 = .ok (.getfield 38, 3) := by decide +kernel
theorem dX0_levelOf_47 : decode cX0_levelOf 47 = .ok (.goto 7, 3) := by decide +kernel
theorem dX0_levelOf_50 : decode cX0_levelOf 50 = .ok (.aload_n 0, 1) := by decide +kernel
theorem dX0_levelOf_51 : decode cX0_levelOf 51 = .ok (.getfield 35, 3) := by decide +kernel
theorem dX0_levelOf_54 : decode cX0_levelOf 54 = .ok (.invokevirtual 48, 3) := by decide +kernel
theorem dX0_levelOf_57 : decode cX0_levelOf 57 = .ok (.ireturn, 1) := by decide +kernel
theorem dX0_said_0 : decode cX0_said 0 = .ok (.aload_n 0, 1) := by decide +kernel
theorem dX0_said_1 : decode cX0_said 1 = .ok (.getfield 32, 3) := by decide +kernel
theorem dX0_said_4 : decode cX0_said 4 = .ok (.tableswitch 114 0 4 #[36, 60, 85, 92, 105], 36) := by decide +kernel
theorem dX0_said_40 : decode cX0_said 40 = .ok (.aload_n 0, 1) := by decide +kernel
theorem dX0_said_41 : decode cX0_said 41 = .ok (.iload_n 2, 1) := by decide +kernel
theorem dX0_said_42 : decode cX0_said 42 = .ok (.aload_n 0, 1) := by decide +kernel
theorem dX0_said_43 : decode cX0_said 43 = .ok (.getfield 12, 3) := by decide +kernel
theorem dX0_said_46 : decode cX0_said 46 = .ok (.getfield 52, 3) := by decide +kernel
theorem dX0_said_49 : decode cX0_said 49 = .ok (.iadd, 1) := by decide +kernel
theorem dX0_said_50 : decode cX0_said 50 = .ok (.aload_n 0, 1) := by decide +kernel
theorem dX0_said_51 : decode cX0_said 51 = .ok (.getfield 12, 3) := by decide +kernel
theorem dX0_said_54 : decode cX0_said 54 = .ok (.invokevirtual 55, 3) := by decide +kernel
theorem dX0_said_57 : decode cX0_said 57 = .ok (.iadd, 1) := by decide +kernel
theorem dX0_said_58 : decode cX0_said 58 = .ok (.iload_n 1, 1) := by decide +kernel
theorem dX0_said_59 : decode cX0_said 59 = .ok (.isub, 1) := by decide +kernel
theorem dX0_said_60 : decode cX0_said 60 = .ok (.invokevirtual 59, 3) := by decide +kernel
theorem dX0_said_63 : decode cX0_said 63 = .ok (.ireturn, 1) := by decide +kernel
theorem dX0_said_64 : decode cX0_said 64 = .ok (.iload_n 1, 1) := by decide +kernel
theorem dX0_said_65 : decode cX0_said 65 = .ok (.aload_n 0, 1) := by decide +kernel
theorem dX0_said_66 : decode cX0_said 66 = .ok (.getfield 12, 3) := by decide +kernel
theorem dX0_said_69 : decode cX0_said 69 = .ok (.getfield 62, 3) := by decide +kernel
theorem dX0_said_72 : decode cX0_said 72 = .ok (.aload_n 0, 1) := by decide +kernel
theorem dX0_said_73 : decode cX0_said 73 = .ok (.getfield 12, 3) := by decide +kernel
theorem dX0_said_76 : decode cX0_said 76 = .ok (.invokevirtual 55, 3) := by decide +kernel
theorem dX0_said_79 : decode cX0_said 79 = .ok (.iadd, 1) := by decide +kernel
theorem dX0_said_80 : decode cX0_said 80 = .ok (.if_icmp .le 7, 3) := by decide +kernel
theorem dX0_said_83 : decode cX0_said 83 = .ok (.iconst 1, 1) := by decide +kernel
theorem dX0_said_84 : decode cX0_said 84 = .ok (.goto 4, 3) := by decide +kernel
theorem dX0_said_87 : decode cX0_said 87 = .ok (.iconst 0, 1) := by decide +kernel
theorem dX0_said_88 : decode cX0_said 88 = .ok (.ireturn, 1) := by decide +kernel
theorem dX0_said_89 : decode cX0_said 89 = .ok (.iload_n 1, 1) := by decide +kernel
theorem dX0_said_90 : decode cX0_said 90 = .ok (.iload_n 2, 1) := by decide +kernel
theorem dX0_said_91 : decode cX0_said 91 = .ok (.iload_n 3, 1) := by decide +kernel
theorem dX0_said_92 : decode cX0_said 92 = .ok (.invokestatic 65, 3) := by decide +kernel
theorem dX0_said_95 : decode cX0_said 95 = .ok (.ireturn, 1) := by decide +kernel
theorem dX0_said_96 : decode cX0_said 96 = .ok (.aload_n 0, 1) := by decide +kernel
theorem dX0_said_97 : decode cX0_said 97 = .ok (.getfield 12, 3) := by decide +kernel
theorem dX0_said_100 : decode cX0_said 100 = .ok (.iconst 0, 1) := by decide +kernel
theorem dX0_said_101 : decode cX0_said 101 = .ok (.iload_n 1, 1) := by decide +kernel
theorem dX0_said_102 : decode cX0_said 102 = .ok (.invokestatic 69, 3) := by decide +kernel
theorem dX0_said_105 : decode cX0_said 105 = .ok (.invokevirtual 75, 3) := by decide +kernel
theorem dX0_said_108 : decode cX0_said 108 = .ok (.ireturn, 1) := by decide +kernel
theorem dX0_said_109 : decode cX0_said 109 = .ok (.aload_n 0, 1) := by decide +kernel
theorem dX0_said_110 : decode cX0_said 110 = .ok (.getfield 25, 3) := by decide +kernel
theorem dX0_said_113 : decode cX0_said 113 = .ok (.iload_n 1, 1) := by decide +kernel
theorem dX0_said_114 : decode cX0_said 114 = .ok (.invokevirtual 78, 3) := by decide +kernel
theorem dX0_said_117 : decode cX0_said 117 = .ok (.ireturn, 1) := by decide +kernel
theorem dX0_said_118 : decode cX0_said 118 = .ok (.aload_n 0, 1) := by decide +kernel
theorem dX0_said_119 : decode cX0_said 119 = .ok (.iload_n 2, 1) := by decide +kernel
theorem dX0_said_120 : decode cX0_said 120 = .ok (.aload_n 0, 1) := by decide +kernel
theorem dX0_said_121 : decode cX0_said 121 = .ok (.getfield 12, 3) := by decide +kernel
theorem dX0_said_124 : decode cX0_said 124 = .ok (.getfield 52, 3) := by decide +kernel
theorem dX0_said_127 : decode cX0_said 127 = .ok (.iadd, 1) := by decide +kernel
theorem dX0_said_128 : decode cX0_said 128 = .ok (.aload_n 0, 1) := by decide +kernel
theorem dX0_said_129 : decode cX0_said 129 = .ok (.getfield 12, 3) := by decide +kernel
theorem dX0_said_132 : decode cX0_said 132 = .ok (.invokevirtual 55, 3) := by decide +kernel
theorem dX0_said_135 : decode cX0_said 135 = .ok (.iadd, 1) := by decide +kernel
theorem dX0_said_136 : decode cX0_said 136 = .ok (.iload_n 1, 1) := by decide +kernel
theorem dX0_said_137 : decode cX0_said 137 = .ok (.isub, 1) := by decide +kernel
theorem dX0_said_138 : decode cX0_said 138 = .ok (.invokevirtual 81, 3) := by decide +kernel
theorem dX0_said_141 : decode cX0_said 141 = .ok (.ireturn, 1) := by decide +kernel
theorem dX0_pairSaid_0 : decode cX0_pairSaid 0 = .ok (.iload_n 1, 1) := by decide +kernel
theorem dX0_pairSaid_1 : decode cX0_pairSaid 1 = .ok (.ifCond .ne 19, 3) := by decide +kernel
theorem dX0_pairSaid_4 : decode cX0_pairSaid 4 = .ok (.aload_n 0, 1) := by decide +kernel
theorem dX0_pairSaid_5 : decode cX0_pairSaid 5 = .ok (.getfield 12, 3) := by decide +kernel
theorem dX0_pairSaid_8 : decode cX0_pairSaid 8 = .ok (.getfield 84, 3) := by decide +kernel
theorem dX0_pairSaid_11 : decode cX0_pairSaid 11 = .ok (.ifCond .eq 7, 3) := by decide +kernel
theorem dX0_pairSaid_14 : decode cX0_pairSaid 14 = .ok (.iconst 1, 1) := by decide +kernel
theorem dX0_pairSaid_15 : decode cX0_pairSaid 15 = .ok (.goto 4, 3) := by decide +kernel
theorem dX0_pairSaid_18 : decode cX0_pairSaid 18 = .ok (.iconst 2, 1) := by decide +kernel
theorem dX0_pairSaid_19 : decode cX0_pairSaid 19 = .ok (.ireturn, 1) := by decide +kernel
theorem dX0_pairSaid_20 : decode cX0_pairSaid 20 = .ok (.iload_n 1, 1) := by decide +kernel
theorem dX0_pairSaid_21 : decode cX0_pairSaid 21 = .ok (.ifCond .le 7, 3) := by decide +kernel
theorem dX0_pairSaid_24 : decode cX0_pairSaid 24 = .ok (.iconst 1, 1) := by decide +kernel
theorem dX0_pairSaid_25 : decode cX0_pairSaid 25 = .ok (.goto 4, 3) := by decide +kernel
theorem dX0_pairSaid_28 : decode cX0_pairSaid 28 = .ok (.iconst 0, 1) := by decide +kernel
theorem dX0_pairSaid_29 : decode cX0_pairSaid 29 = .ok (.ireturn, 1) := by decide +kernel
theorem dX0_knownSaid_0 : decode cX0_knownSaid 0 = .ok (.aload_n 0, 1) := by decide +kernel
theorem dX0_knownSaid_1 : decode cX0_knownSaid 1 = .ok (.getfield 41, 3) := by decide +kernel
theorem dX0_knownSaid_4 : decode cX0_knownSaid 4 = .ok (.iconst 1, 1) := by decide +kernel
theorem dX0_knownSaid_5 : decode cX0_knownSaid 5 = .ok (.if_icmp .ne 8, 3) := by decide +kernel
theorem dX0_knownSaid_8 : decode cX0_knownSaid 8 = .ok (.iload_n 1, 1) := by decide +kernel
theorem dX0_knownSaid_9 : decode cX0_knownSaid 9 = .ok (.ineg, 1) := by decide +kernel
theorem dX0_knownSaid_10 : decode cX0_knownSaid 10 = .ok (.goto 4, 3) := by decide +kernel
theorem dX0_knownSaid_13 : decode cX0_knownSaid 13 = .ok (.iload_n 1, 1) := by decide +kernel
theorem dX0_knownSaid_14 : decode cX0_knownSaid 14 = .ok (.istore_n 2, 1) := by decide +kernel
theorem dX0_knownSaid_15 : decode cX0_knownSaid 15 = .ok (.iload_n 2, 1) := by decide +kernel
theorem dX0_knownSaid_16 : decode cX0_knownSaid 16 = .ok (.iconst 2, 1) := by decide +kernel
theorem dX0_knownSaid_17 : decode cX0_knownSaid 17 = .ok (.if_icmp .le 12, 3) := by decide +kernel
theorem dX0_knownSaid_20 : decode cX0_knownSaid 20 = .ok (.iconst 1, 1) := by decide +kernel
theorem dX0_knownSaid_21 : decode cX0_knownSaid 21 = .ok (.aload_n 0, 1) := by decide +kernel
theorem dX0_knownSaid_22 : decode cX0_knownSaid 22 = .ok (.getfield 41, 3) := by decide +kernel
theorem dX0_knownSaid_25 : decode cX0_knownSaid 25 = .ok (.isub, 1) := by decide +kernel
theorem dX0_knownSaid_26 : decode cX0_knownSaid 26 = .ok (.goto 7, 3) := by decide +kernel
theorem dX0_knownSaid_29 : decode cX0_knownSaid 29 = .ok (.aload_n 0, 1) := by decide +kernel
theorem dX0_knownSaid_30 : decode cX0_knownSaid 30 = .ok (.getfield 41, 3) := by decide +kernel
theorem dX0_knownSaid_33 : decode cX0_knownSaid 33 = .ok (.ireturn, 1) := by decide +kernel
theorem dX0_oddPlace_0 : decode cX0_oddPlace 0 = .ok (.iload_n 0, 1) := by decide +kernel
theorem dX0_oddPlace_1 : decode cX0_oddPlace 1 = .ok (.iload_n 1, 1) := by decide +kernel
theorem dX0_oddPlace_2 : decode cX0_oddPlace 2 = .ok (.iadd, 1) := by decide +kernel
theorem dX0_oddPlace_3 : decode cX0_oddPlace 3 = .ok (.iload_n 2, 1) := by decide +kernel
theorem dX0_oddPlace_4 : decode cX0_oddPlace 4 = .ok (.iadd, 1) := by decide +kernel
theorem dX0_oddPlace_5 : decode cX0_oddPlace 5 = .ok (.istore_n 3, 1) := by decide +kernel
theorem dX0_oddPlace_6 : decode cX0_oddPlace 6 = .ok (.iconst 3, 1) := by decide +kernel
theorem dX0_oddPlace_7 : decode cX0_oddPlace 7 = .ok (.iload_n 0, 1) := by decide +kernel
theorem dX0_oddPlace_8 : decode cX0_oddPlace 8 = .ok (.imul, 1) := by decide +kernel
theorem dX0_oddPlace_9 : decode cX0_oddPlace 9 = .ok (.iload_n 3, 1) := by decide +kernel
theorem dX0_oddPlace_10 : decode cX0_oddPlace 10 = .ok (.isub, 1) := by decide +kernel
theorem dX0_oddPlace_11 : decode cX0_oddPlace 11 = .ok (.invokestatic 88, 3) := by decide +kernel
theorem dX0_oddPlace_14 : decode cX0_oddPlace 14 = .ok (.istore 4, 2) := by decide +kernel
theorem dX0_oddPlace_16 : decode cX0_oddPlace 16 = .ok (.iconst 3, 1) := by decide +kernel
theorem dX0_oddPlace_17 : decode cX0_oddPlace 17 = .ok (.iload_n 1, 1) := by decide +kernel
theorem dX0_oddPlace_18 : decode cX0_oddPlace 18 = .ok (.imul, 1) := by decide +kernel
theorem dX0_oddPlace_19 : decode cX0_oddPlace 19 = .ok (.iload_n 3, 1) := by decide +kernel
theorem dX0_oddPlace_20 : decode cX0_oddPlace 20 = .ok (.isub, 1) := by decide +kernel
theorem dX0_oddPlace_21 : decode cX0_oddPlace 21 = .ok (.invokestatic 88, 3) := by decide +kernel
theorem dX0_oddPlace_24 : decode cX0_oddPlace 24 = .ok (.istore 5, 2) := by decide +kernel
theorem dX0_oddPlace_26 : decode cX0_oddPlace 26 = .ok (.iconst 3, 1) := by decide +kernel
theorem dX0_oddPlace_27 : decode cX0_oddPlace 27 = .ok (.iload_n 2, 1) := by decide +kernel
theorem dX0_oddPlace_28 : decode cX0_oddPlace 28 = .ok (.imul, 1) := by decide +kernel
theorem dX0_oddPlace_29 : decode cX0_oddPlace 29 = .ok (.iload_n 3, 1) := by decide +kernel
theorem dX0_oddPlace_30 : decode cX0_oddPlace 30 = .ok (.isub, 1) := by decide +kernel
theorem dX0_oddPlace_31 : decode cX0_oddPlace 31 = .ok (.invokestatic 88, 3) := by decide +kernel
theorem dX0_oddPlace_34 : decode cX0_oddPlace 34 = .ok (.istore 6, 2) := by decide +kernel
theorem dX0_oddPlace_36 : decode cX0_oddPlace 36 = .ok (.iload 5, 2) := by decide +kernel
theorem dX0_oddPlace_38 : decode cX0_oddPlace 38 = .ok (.iload 4, 2) := by decide +kernel
theorem dX0_oddPlace_40 : decode cX0_oddPlace 40 = .ok (.if_icmp .le 7, 3) := by decide +kernel
theorem dX0_oddPlace_43 : decode cX0_oddPlace 43 = .ok (.iconst 1, 1) := by decide +kernel
theorem dX0_oddPlace_44 : decode cX0_oddPlace 44 = .ok (.goto 4, 3) := by decide +kernel
theorem dX0_oddPlace_47 : decode cX0_oddPlace 47 = .ok (.iconst 0, 1) := by decide +kernel
theorem dX0_oddPlace_48 : decode cX0_oddPlace 48 = .ok (.istore 7, 2) := by decide +kernel
theorem dX0_oddPlace_50 : decode cX0_oddPlace 50 = .ok (.iload 6, 2) := by decide +kernel
theorem dX0_oddPlace_52 : decode cX0_oddPlace 52 = .ok (.iload 4, 2) := by decide +kernel
theorem dX0_oddPlace_54 : decode cX0_oddPlace 54 = .ok (.iload 5, 2) := by decide +kernel
theorem dX0_oddPlace_56 : decode cX0_oddPlace 56 = .ok (.invokestatic 69, 3) := by decide +kernel
theorem dX0_oddPlace_59 : decode cX0_oddPlace 59 = .ok (.if_icmp .le 7, 3) := by decide +kernel
theorem dX0_oddPlace_62 : decode cX0_oddPlace 62 = .ok (.iconst 2, 1) := by decide +kernel
theorem dX0_oddPlace_63 : decode cX0_oddPlace 63 = .ok (.goto 5, 3) := by decide +kernel
theorem dX0_oddPlace_66 : decode cX0_oddPlace 66 = .ok (.iload 7, 2) := by decide +kernel
theorem dX0_oddPlace_68 : decode cX0_oddPlace 68 = .ok (.ireturn, 1) := by decide +kernel
theorem dX0_wholeOdds_0 : decode cX0_wholeOdds 0 = .ok (.iconst 1, 1) := by decide +kernel
theorem dX0_wholeOdds_1 : decode cX0_wholeOdds 1 = .ok (.istore_n 2, 1) := by decide +kernel
theorem dX0_wholeOdds_2 : decode cX0_wholeOdds 2 = .ok (.iconst 0, 1) := by decide +kernel
theorem dX0_wholeOdds_3 : decode cX0_wholeOdds 3 = .ok (.istore_n 3, 1) := by decide +kernel
theorem dX0_wholeOdds_4 : decode cX0_wholeOdds 4 = .ok (.iload_n 3, 1) := by decide +kernel
theorem dX0_wholeOdds_5 : decode cX0_wholeOdds 5 = .ok (.aload_n 0, 1) := by decide +kernel
theorem dX0_wholeOdds_6 : decode cX0_wholeOdds 6 = .ok (.invokevirtual 91, 3) := by decide +kernel
theorem dX0_wholeOdds_9 : decode cX0_wholeOdds 9 = .ok (.if_icmp .ge 16, 3) := by decide +kernel
theorem dX0_wholeOdds_12 : decode cX0_wholeOdds 12 = .ok (.iload_n 2, 1) := by decide +kernel
theorem dX0_wholeOdds_13 : decode cX0_wholeOdds 13 = .ok (.aload_n 1, 1) := by decide +kernel
theorem dX0_wholeOdds_14 : decode cX0_wholeOdds 14 = .ok (.getfield 94, 3) := by decide +kernel
theorem dX0_wholeOdds_17 : decode cX0_wholeOdds 17 = .ok (.imul, 1) := by decide +kernel
theorem dX0_wholeOdds_18 : decode cX0_wholeOdds 18 = .ok (.istore_n 2, 1) := by decide +kernel
theorem dX0_wholeOdds_19 : decode cX0_wholeOdds 19 = .ok (.iinc 3 1, 3) := by decide +kernel
theorem dX0_wholeOdds_22 : decode cX0_wholeOdds 22 = .ok (.goto (-18), 3) := by decide +kernel
theorem dX0_wholeOdds_25 : decode cX0_wholeOdds 25 = .ok (.iload_n 2, 1) := by decide +kernel
theorem dX0_wholeOdds_26 : decode cX0_wholeOdds 26 = .ok (.ireturn, 1) := by decide +kernel
theorem dX0_oftenAt_0 : decode cX0_oftenAt 0 = .ok (.iload_n 2, 1) := by decide +kernel
theorem dX0_oftenAt_1 : decode cX0_oftenAt 1 = .ok (.aload_n 0, 1) := by decide +kernel
theorem dX0_oftenAt_2 : decode cX0_oftenAt 2 = .ok (.invokevirtual 91, 3) := by decide +kernel
theorem dX0_oftenAt_5 : decode cX0_oftenAt 5 = .ok (.if_icmp .ge 9, 3) := by decide +kernel
theorem dX0_oftenAt_8 : decode cX0_oftenAt 8 = .ok (.aload_n 1, 1) := by decide +kernel
theorem dX0_oftenAt_9 : decode cX0_oftenAt 9 = .ok (.iload_n 3, 1) := by decide +kernel
theorem dX0_oftenAt_10 : decode cX0_oftenAt 10 = .ok (.invokevirtual 99, 3) := by decide +kernel
theorem dX0_oftenAt_13 : decode cX0_oftenAt 13 = .ok (.ireturn, 1) := by decide +kernel
theorem dX0_oftenAt_14 : decode cX0_oftenAt 14 = .ok (.iload_n 3, 1) := by decide +kernel
theorem dX0_oftenAt_15 : decode cX0_oftenAt 15 = .ok (.ifCond .ne 7, 3) := by decide +kernel
theorem dX0_oftenAt_18 : decode cX0_oftenAt 18 = .ok (.iconst 1, 1) := by decide +kernel
theorem dX0_oftenAt_19 : decode cX0_oftenAt 19 = .ok (.goto 4, 3) := by decide +kernel
theorem dX0_oftenAt_22 : decode cX0_oftenAt 22 = .ok (.iconst 0, 1) := by decide +kernel
theorem dX0_oftenAt_23 : decode cX0_oftenAt 23 = .ok (.ireturn, 1) := by decide +kernel
theorem dX0_oddsOf_0 : decode cX0_oddsOf 0 = .ok (.iconst 0, 1) := by decide +kernel
theorem dX0_oddsOf_1 : decode cX0_oddsOf 1 = .ok (.istore_n 3, 1) := by decide +kernel
theorem dX0_oddsOf_2 : decode cX0_oddsOf 2 = .ok (.bipush (-5), 2) := by decide +kernel
theorem dX0_oddsOf_4 : decode cX0_oddsOf 4 = .ok (.istore 4, 2) := by decide +kernel
theorem dX0_oddsOf_6 : decode cX0_oddsOf 6 = .ok (.iload 4, 2) := by decide +kernel
theorem dX0_oddsOf_8 : decode cX0_oddsOf 8 = .ok (.iconst 5, 1) := by decide +kernel
theorem dX0_oddsOf_9 : decode cX0_oddsOf 9 = .ok (.if_icmp .gt 86, 3) := by decide +kernel
theorem dX0_oddsOf_12 : decode cX0_oddsOf 12 = .ok (.aload_n 0, 1) := by decide +kernel
theorem dX0_oddsOf_13 : decode cX0_oddsOf 13 = .ok (.aload_n 1, 1) := by decide +kernel
theorem dX0_oddsOf_14 : decode cX0_oddsOf 14 = .ok (.iconst 0, 1) := by decide +kernel
theorem dX0_oddsOf_15 : decode cX0_oddsOf 15 = .ok (.iload 4, 2) := by decide +kernel
theorem dX0_oddsOf_17 : decode cX0_oddsOf 17 = .ok (.invokevirtual 102, 3) := by decide +kernel
theorem dX0_oddsOf_20 : decode cX0_oddsOf 20 = .ok (.istore 5, 2) := by decide +kernel
theorem dX0_oddsOf_22 : decode cX0_oddsOf 22 = .ok (.bipush (-5), 2) := by decide +kernel
theorem dX0_oddsOf_24 : decode cX0_oddsOf 24 = .ok (.istore 6, 2) := by decide +kernel
theorem dX0_oddsOf_26 : decode cX0_oddsOf 26 = .ok (.iload 5, 2) := by decide +kernel
theorem dX0_oddsOf_28 : decode cX0_oddsOf 28 = .ok (.ifCond .le 61, 3) := by decide +kernel
theorem dX0_oddsOf_31 : decode cX0_oddsOf 31 = .ok (.iload 6, 2) := by decide +kernel
theorem dX0_oddsOf_33 : decode cX0_oddsOf 33 = .ok (.iconst 5, 1) := by decide +kernel
theorem dX0_oddsOf_34 : decode cX0_oddsOf 34 = .ok (.if_icmp .gt 55, 3) := by decide +kernel
theorem dX0_oddsOf_37 : decode cX0_oddsOf 37 = .ok (.iload 5, 2) := by decide +kernel
theorem dX0_oddsOf_39 : decode cX0_oddsOf 39 = .ok (.aload_n 0, 1) := by decide +kernel
theorem dX0_oddsOf_40 : decode cX0_oddsOf 40 = .ok (.aload_n 1, 1) := by decide +kernel
theorem dX0_oddsOf_41 : decode cX0_oddsOf 41 = .ok (.iconst 1, 1) := by decide +kernel
theorem dX0_oddsOf_42 : decode cX0_oddsOf 42 = .ok (.iload 6, 2) := by decide +kernel
theorem dX0_oddsOf_44 : decode cX0_oddsOf 44 = .ok (.invokevirtual 102, 3) := by decide +kernel
theorem dX0_oddsOf_47 : decode cX0_oddsOf 47 = .ok (.imul, 1) := by decide +kernel
theorem dX0_oddsOf_48 : decode cX0_oddsOf 48 = .ok (.istore 7, 2) := by decide +kernel
theorem dX0_oddsOf_50 : decode cX0_oddsOf 50 = .ok (.iload 7, 2) := by decide +kernel
theorem dX0_oddsOf_52 : decode cX0_oddsOf 52 = .ok (.ifCond .le 31, 3) := by decide +kernel
theorem dX0_oddsOf_55 : decode cX0_oddsOf 55 = .ok (.iload_n 3, 1) := by decide +kernel
theorem dX0_oddsOf_56 : decode cX0_oddsOf 56 = .ok (.iload 7, 2) := by decide +kernel
theorem dX0_oddsOf_58 : decode cX0_oddsOf 58 = .ok (.aload_n 0, 1) := by decide +kernel
theorem dX0_oddsOf_59 : decode cX0_oddsOf 59 = .ok (.aload_n 1, 1) := by decide +kernel
theorem dX0_oddsOf_60 : decode cX0_oddsOf 60 = .ok (.iload_n 2, 1) := by decide +kernel
theorem dX0_oddsOf_61 : decode cX0_oddsOf 61 = .ok (.aload_n 0, 1) := by decide +kernel
theorem dX0_oddsOf_62 : decode cX0_oddsOf 62 = .ok (.iconst 0, 1) := by decide +kernel
theorem dX0_oddsOf_63 : decode cX0_oddsOf 63 = .ok (.invokevirtual 105, 3) := by decide +kernel
theorem dX0_oddsOf_66 : decode cX0_oddsOf 66 = .ok (.iload 4, 2) := by decide +kernel
theorem dX0_oddsOf_68 : decode cX0_oddsOf 68 = .ok (.iadd, 1) := by decide +kernel
theorem dX0_oddsOf_69 : decode cX0_oddsOf 69 = .ok (.aload_n 0, 1) := by decide +kernel
theorem dX0_oddsOf_70 : decode cX0_oddsOf 70 = .ok (.iconst 1, 1) := by decide +kernel
theorem dX0_oddsOf_71 : decode cX0_oddsOf 71 = .ok (.invokevirtual 105, 3) := by decide +kernel
theorem dX0_oddsOf_74 : decode cX0_oddsOf 74 = .ok (.iload 6, 2) := by decide +kernel
theorem dX0_oddsOf_76 : decode cX0_oddsOf 76 = .ok (.iadd, 1) := by decide +kernel
theorem dX0_oddsOf_77 : decode cX0_oddsOf 77 = .ok (.invokevirtual 108, 3) := by decide +kernel
theorem dX0_oddsOf_80 : decode cX0_oddsOf 80 = .ok (.imul, 1) := by decide +kernel
theorem dX0_oddsOf_81 : decode cX0_oddsOf 81 = .ok (.iadd, 1) := by decide +kernel
theorem dX0_oddsOf_82 : decode cX0_oddsOf 82 = .ok (.istore_n 3, 1) := by decide +kernel
theorem dX0_oddsOf_83 : decode cX0_oddsOf 83 = .ok (.iinc 6 1, 3) := by decide +kernel
theorem dX0_oddsOf_86 : decode cX0_oddsOf 86 = .ok (.goto (-60), 3) := by decide +kernel
theorem dX0_oddsOf_89 : decode cX0_oddsOf 89 = .ok (.iinc 4 1, 3) := by decide +kernel
theorem dX0_oddsOf_92 : decode cX0_oddsOf 92 = .ok (.goto (-86), 3) := by decide +kernel
theorem dX0_oddsOf_95 : decode cX0_oddsOf 95 = .ok (.iload_n 3, 1) := by decide +kernel
theorem dX0_oddsOf_96 : decode cX0_oddsOf 96 = .ok (.ireturn, 1) := by decide +kernel
theorem dX0_lastOdds_0 : decode cX0_lastOdds 0 = .ok (.iconst 0, 1) := by decide +kernel
theorem dX0_lastOdds_1 : decode cX0_lastOdds 1 = .ok (.istore 5, 2) := by decide +kernel
theorem dX0_lastOdds_3 : decode cX0_lastOdds 3 = .ok (.bipush (-5), 2) := by decide +kernel
theorem dX0_lastOdds_5 : decode cX0_lastOdds 5 = .ok (.istore 6, 2) := by decide +kernel
theorem dX0_lastOdds_7 : decode cX0_lastOdds 7 = .ok (.iload 6, 2) := by decide +kernel
theorem dX0_lastOdds_9 : decode cX0_lastOdds 9 = .ok (.iconst 5, 1) := by decide +kernel
theorem dX0_lastOdds_10 : decode cX0_lastOdds 10 = .ok (.if_icmp .gt 50, 3) := by decide +kernel
theorem dX0_lastOdds_13 : decode cX0_lastOdds 13 = .ok (.aload_n 0, 1) := by decide +kernel
theorem dX0_lastOdds_14 : decode cX0_lastOdds 14 = .ok (.aload_n 1, 1) := by decide +kernel
theorem dX0_lastOdds_15 : decode cX0_lastOdds 15 = .ok (.iconst 2, 1) := by decide +kernel
theorem dX0_lastOdds_16 : decode cX0_lastOdds 16 = .ok (.iload 6, 2) := by decide +kernel
theorem dX0_lastOdds_18 : decode cX0_lastOdds 18 = .ok (.invokevirtual 102, 3) := by decide +kernel
theorem dX0_lastOdds_21 : decode cX0_lastOdds 21 = .ok (.istore 7, 2) := by decide +kernel
theorem dX0_lastOdds_23 : decode cX0_lastOdds 23 = .ok (.iload 7, 2) := by decide +kernel
theorem dX0_lastOdds_25 : decode cX0_lastOdds 25 = .ok (.ifCond .le 29, 3) := by decide +kernel
theorem dX0_lastOdds_28 : decode cX0_lastOdds 28 = .ok (.aload_n 0, 1) := by decide +kernel
theorem dX0_lastOdds_29 : decode cX0_lastOdds 29 = .ok (.iload_n 3, 1) := by decide +kernel
theorem dX0_lastOdds_30 : decode cX0_lastOdds 30 = .ok (.iload 4, 2) := by decide +kernel
theorem dX0_lastOdds_32 : decode cX0_lastOdds 32 = .ok (.aload_n 0, 1) := by decide +kernel
theorem dX0_lastOdds_33 : decode cX0_lastOdds 33 = .ok (.iconst 2, 1) := by decide +kernel
theorem dX0_lastOdds_34 : decode cX0_lastOdds 34 = .ok (.invokevirtual 105, 3) := by decide +kernel
theorem dX0_lastOdds_37 : decode cX0_lastOdds 37 = .ok (.iload 6, 2) := by decide +kernel
theorem dX0_lastOdds_39 : decode cX0_lastOdds 39 = .ok (.iadd, 1) := by decide +kernel
theorem dX0_lastOdds_40 : decode cX0_lastOdds 40 = .ok (.invokevirtual 112, 3) := by decide +kernel
theorem dX0_lastOdds_43 : decode cX0_lastOdds 43 = .ok (.iload_n 2, 1) := by decide +kernel
theorem dX0_lastOdds_44 : decode cX0_lastOdds 44 = .ok (.if_icmp .ne 10, 3) := by decide +kernel
theorem dX0_lastOdds_47 : decode cX0_lastOdds 47 = .ok (.iload 5, 2) := by decide +kernel
theorem dX0_lastOdds_49 : decode cX0_lastOdds 49 = .ok (.iload 7, 2) := by decide +kernel
theorem dX0_lastOdds_51 : decode cX0_lastOdds 51 = .ok (.iadd, 1) := by decide +kernel
theorem dX0_lastOdds_52 : decode cX0_lastOdds 52 = .ok (.istore 5, 2) := by decide +kernel
theorem dX0_lastOdds_54 : decode cX0_lastOdds 54 = .ok (.iinc 6 1, 3) := by decide +kernel
theorem dX0_lastOdds_57 : decode cX0_lastOdds 57 = .ok (.goto (-50), 3) := by decide +kernel
theorem dX0_lastOdds_60 : decode cX0_lastOdds 60 = .ok (.iload 5, 2) := by decide +kernel
theorem dX0_lastOdds_62 : decode cX0_lastOdds 62 = .ok (.ireturn, 1) := by decide +kernel
theorem dX1_init_0 : decode cX1_init 0 = .ok (.aload_n 0, 1) := by decide +kernel
theorem dX1_init_1 : decode cX1_init 1 = .ok (.invokespecial 3, 3) := by decide +kernel
theorem dX1_init_4 : decode cX1_init 4 = .ok (.aload_n 0, 1) := by decide +kernel
theorem dX1_init_5 : decode cX1_init 5 = .ok (.sipush 6000, 3) := by decide +kernel
theorem dX1_init_8 : decode cX1_init 8 = .ok (.newarray .int, 2) := by decide +kernel
theorem dX1_init_10 : decode cX1_init 10 = .ok (.putfield 11, 3) := by decide +kernel
theorem dX1_init_13 : decode cX1_init 13 = .ok (.aload_n 0, 1) := by decide +kernel
theorem dX1_init_14 : decode cX1_init 14 = .ok (.new 15, 3) := by decide +kernel
theorem dX1_init_17 : decode cX1_init 17 = .ok (.dup, 1) := by decide +kernel
theorem dX1_init_18 : decode cX1_init 18 = .ok (.invokespecial 17, 3) := by decide +kernel
theorem dX1_init_21 : decode cX1_init 21 = .ok (.putfield 18, 3) := by decide +kernel
theorem dX1_init_24 : decode cX1_init 24 = .ok (.return_, 1) := by decide +kernel
theorem dX1_holds_0 : decode cX1_holds 0 = .ok (.aload_n 0, 1) := by decide +kernel
theorem dX1_holds_1 : decode cX1_holds 1 = .ok (.getfield 22, 3) := by decide +kernel
theorem dX1_holds_4 : decode cX1_holds 4 = .ok (.iload_n 1, 1) := by decide +kernel
theorem dX1_holds_5 : decode cX1_holds 5 = .ok (.iadd, 1) := by decide +kernel
theorem dX1_holds_6 : decode cX1_holds 6 = .ok (.sipush 1000, 3) := by decide +kernel
theorem dX1_holds_9 : decode cX1_holds 9 = .ok (.if_icmp .gt 7, 3) := by decide +kernel
theorem dX1_holds_12 : decode cX1_holds 12 = .ok (.iconst 1, 1) := by decide +kernel
theorem dX1_holds_13 : decode cX1_holds 13 = .ok (.goto 4, 3) := by decide +kernel
theorem dX1_holds_16 : decode cX1_holds 16 = .ok (.iconst 0, 1) := by decide +kernel
theorem dX1_holds_17 : decode cX1_holds 17 = .ok (.ireturn, 1) := by decide +kernel
theorem dX1_empty_0 : decode cX1_empty 0 = .ok (.aload_n 0, 1) := by decide +kernel
theorem dX1_empty_1 : decode cX1_empty 1 = .ok (.iconst 0, 1) := by decide +kernel
theorem dX1_empty_2 : decode cX1_empty 2 = .ok (.putfield 22, 3) := by decide +kernel
theorem dX1_empty_5 : decode cX1_empty 5 = .ok (.aload_n 0, 1) := by decide +kernel
theorem dX1_empty_6 : decode cX1_empty 6 = .ok (.getfield 18, 3) := by decide +kernel
theorem dX1_empty_9 : decode cX1_empty 9 = .ok (.invokevirtual 26, 3) := by decide +kernel
theorem dX1_empty_12 : decode cX1_empty 12 = .ok (.return_, 1) := by decide +kernel
theorem dX1_put_0 : decode cX1_put 0 = .ok (.aload_n 0, 1) := by decide +kernel
theorem dX1_put_1 : decode cX1_put 1 = .ok (.iconst 1, 1) := by decide +kernel
theorem dX1_put_2 : decode cX1_put 2 = .ok (.invokevirtual 29, 3) := by decide +kernel
theorem dX1_put_5 : decode cX1_put 5 = .ok (.ifCond .ne 4, 3) := by decide +kernel
theorem dX1_put_8 : decode cX1_put 8 = .ok (.return_, 1) := by decide +kernel
theorem dX1_put_9 : decode cX1_put 9 = .ok (.aload_n 0, 1) := by decide +kernel
theorem dX1_put_10 : decode cX1_put 10 = .ok (.getfield 22, 3) := by decide +kernel
theorem dX1_put_13 : decode cX1_put 13 = .ok (.bipush 6, 2) := by decide +kernel
theorem dX1_put_15 : decode cX1_put 15 = .ok (.imul, 1) := by decide +kernel
theorem dX1_put_16 : decode cX1_put 16 = .ok (.istore_n 3, 1) := by decide +kernel
theorem dX1_put_17 : decode cX1_put 17 = .ok (.aload_n 0, 1) := by decide +kernel
theorem dX1_put_18 : decode cX1_put 18 = .ok (.getfield 11, 3) := by decide +kernel
theorem dX1_put_21 : decode cX1_put 21 = .ok (.iload_n 3, 1) := by decide +kernel
theorem dX1_put_22 : decode cX1_put 22 = .ok (.aload_n 1, 1) := by decide +kernel
theorem dX1_put_23 : decode cX1_put 23 = .ok (.getfield 33, 3) := by decide +kernel
theorem dX1_put_26 : decode cX1_put 26 = .ok (.iastore, 1) := by decide +kernel
theorem dX1_put_27 : decode cX1_put 27 = .ok (.aload_n 0, 1) := by decide +kernel
theorem dX1_put_28 : decode cX1_put 28 = .ok (.getfield 11, 3) := by decide +kernel
theorem dX1_put_31 : decode cX1_put 31 = .ok (.iload_n 3, 1) := by decide +kernel
theorem dX1_put_32 : decode cX1_put 32 = .ok (.iconst 1, 1) := by decide +kernel
theorem dX1_put_33 : decode cX1_put 33 = .ok (.iadd, 1) := by decide +kernel
theorem dX1_put_34 : decode cX1_put 34 = .ok (.aload_n 1, 1) := by decide +kernel
theorem dX1_put_35 : decode cX1_put 35 = .ok (.getfield 38, 3) := by decide +kernel
theorem dX1_put_38 : decode cX1_put 38 = .ok (.iastore, 1) := by decide +kernel
theorem dX1_put_39 : decode cX1_put 39 = .ok (.aload_n 0, 1) := by decide +kernel
theorem dX1_put_40 : decode cX1_put 40 = .ok (.getfield 11, 3) := by decide +kernel
theorem dX1_put_43 : decode cX1_put 43 = .ok (.iload_n 3, 1) := by decide +kernel
theorem dX1_put_44 : decode cX1_put 44 = .ok (.iconst 2, 1) := by decide +kernel
theorem dX1_put_45 : decode cX1_put 45 = .ok (.iadd, 1) := by decide +kernel
theorem dX1_put_46 : decode cX1_put 46 = .ok (.aload_n 1, 1) := by decide +kernel
theorem dX1_put_47 : decode cX1_put 47 = .ok (.getfield 41, 3) := by decide +kernel
theorem dX1_put_50 : decode cX1_put 50 = .ok (.iastore, 1) := by decide +kernel
theorem dX1_put_51 : decode cX1_put 51 = .ok (.aload_n 0, 1) := by decide +kernel
theorem dX1_put_52 : decode cX1_put 52 = .ok (.getfield 11, 3) := by decide +kernel
theorem dX1_put_55 : decode cX1_put 55 = .ok (.iload_n 3, 1) := by decide +kernel
theorem dX1_put_56 : decode cX1_put 56 = .ok (.iconst 3, 1) := by decide +kernel
theorem dX1_put_57 : decode cX1_put 57 = .ok (.iadd, 1) := by decide +kernel
theorem dX1_put_58 : decode cX1_put 58 = .ok (.aload_n 1, 1) := by decide +kernel
theorem dX1_put_59 : decode cX1_put 59 = .ok (.getfield 44, 3) := by decide +kernel
theorem dX1_put_62 : decode cX1_put 62 = .ok (.iastore, 1) := by decide +kernel
theorem dX1_put_63 : decode cX1_put 63 = .ok (.aload_n 0, 1) := by decide +kernel
theorem dX1_put_64 : decode cX1_put 64 = .ok (.getfield 11, 3) := by decide +kernel
theorem dX1_put_67 : decode cX1_put 67 = .ok (.iload_n 3, 1) := by decide +kernel
theorem dX1_put_68 : decode cX1_put 68 = .ok (.iconst 4, 1) := by decide +kernel
theorem dX1_put_69 : decode cX1_put 69 = .ok (.iadd, 1) := by decide +kernel
theorem dX1_put_70 : decode cX1_put 70 = .ok (.aload_n 1, 1) := by decide +kernel
theorem dX1_put_71 : decode cX1_put 71 = .ok (.getfield 47, 3) := by decide +kernel
theorem dX1_put_74 : decode cX1_put 74 = .ok (.iastore, 1) := by decide +kernel
theorem dX1_put_75 : decode cX1_put 75 = .ok (.aload_n 0, 1) := by decide +kernel
theorem dX1_put_76 : decode cX1_put 76 = .ok (.getfield 11, 3) := by decide +kernel
theorem dX1_put_79 : decode cX1_put 79 = .ok (.iload_n 3, 1) := by decide +kernel
theorem dX1_put_80 : decode cX1_put 80 = .ok (.iconst 5, 1) := by decide +kernel
theorem dX1_put_81 : decode cX1_put 81 = .ok (.iadd, 1) := by decide +kernel
theorem dX1_put_82 : decode cX1_put 82 = .ok (.iload_n 2, 1) := by decide +kernel
theorem dX1_put_83 : decode cX1_put 83 = .ok (.iastore, 1) := by decide +kernel
theorem dX1_put_84 : decode cX1_put 84 = .ok (.aload_n 0, 1) := by decide +kernel
theorem dX1_put_85 : decode cX1_put 85 = .ok (.dup, 1) := by decide +kernel
theorem dX1_put_86 : decode cX1_put 86 = .ok (.getfield 22, 3) := by decide +kernel
theorem dX1_put_89 : decode cX1_put 89 = .ok (.iconst 1, 1) := by decide +kernel
theorem dX1_put_90 : decode cX1_put 90 = .ok (.iadd, 1) := by decide +kernel
theorem dX1_put_91 : decode cX1_put 91 = .ok (.putfield 22, 3) := by decide +kernel
theorem dX1_put_94 : decode cX1_put 94 = .ok (.aload_n 1, 1) := by decide +kernel
theorem dX1_put_95 : decode cX1_put 95 = .ok (.getfield 38, 3) := by decide +kernel
theorem dX1_put_98 : decode cX1_put 98 = .ok (.ifCond .eq 11, 3) := by decide +kernel
theorem dX1_put_101 : decode cX1_put 101 = .ok (.aload_n 1, 1) := by decide +kernel
theorem dX1_put_102 : decode cX1_put 102 = .ok (.getfield 38, 3) := by decide +kernel
theorem dX1_put_105 : decode cX1_put 105 = .ok (.iconst 1, 1) := by decide +kernel
theorem dX1_put_106 : decode cX1_put 106 = .ok (.if_icmp .ne 12, 3) := by decide +kernel
theorem dX1_put_109 : decode cX1_put 109 = .ok (.aload_n 0, 1) := by decide +kernel
theorem dX1_put_110 : decode cX1_put 110 = .ok (.getfield 18, 3) := by decide +kernel
theorem dX1_put_113 : decode cX1_put 113 = .ok (.aload_n 1, 1) := by decide +kernel
theorem dX1_put_114 : decode cX1_put 114 = .ok (.iload_n 2, 1) := by decide +kernel
theorem dX1_put_115 : decode cX1_put 115 = .ok (.invokevirtual 50, 3) := by decide +kernel
theorem dX1_put_118 : decode cX1_put 118 = .ok (.return_, 1) := by decide +kernel
theorem dX1_rowAt_0 : decode cX1_rowAt 0 = .ok (.iload_n 1, 1) := by decide +kernel
theorem dX1_rowAt_1 : decode cX1_rowAt 1 = .ok (.ifCond .lt 21, 3) := by decide +kernel
theorem dX1_rowAt_4 : decode cX1_rowAt 4 = .ok (.iload_n 1, 1) := by decide +kernel
theorem dX1_rowAt_5 : decode cX1_rowAt 5 = .ok (.aload_n 0, 1) := by decide +kernel
theorem dX1_rowAt_6 : decode cX1_rowAt 6 = .ok (.getfield 22, 3) := by decide +kernel
theorem dX1_rowAt_9 : decode cX1_rowAt 9 = .ok (.if_icmp .ge 13, 3) := by decide +kernel
theorem dX1_rowAt_12 : decode cX1_rowAt 12 = .ok (.iload_n 2, 1) := by decide +kernel
theorem dX1_rowAt_13 : decode cX1_rowAt 13 = .ok (.ifCond .lt 9, 3) := by decide +kernel
theorem dX1_rowAt_16 : decode cX1_rowAt 16 = .ok (.iload_n 2, 1) := by decide +kernel
theorem dX1_rowAt_17 : decode cX1_rowAt 17 = .ok (.bipush 6, 2) := by decide +kernel
theorem dX1_rowAt_19 : decode cX1_rowAt 19 = .ok (.if_icmp .lt 7, 3) := by decide +kernel
theorem dX1_rowAt_22 : decode cX1_rowAt 22 = .ok (.iconst (-1), 1) := by decide +kernel
theorem dX1_rowAt_23 : decode cX1_rowAt 23 = .ok (.goto 14, 3) := by decide +kernel
theorem dX1_rowAt_26 : decode cX1_rowAt 26 = .ok (.aload_n 0, 1) := by decide +kernel
theorem dX1_rowAt_27 : decode cX1_rowAt 27 = .ok (.getfield 11, 3) := by decide +kernel
theorem dX1_rowAt_30 : decode cX1_rowAt 30 = .ok (.iload_n 1, 1) := by decide +kernel
theorem dX1_rowAt_31 : decode cX1_rowAt 31 = .ok (.bipush 6, 2) := by decide +kernel
theorem dX1_rowAt_33 : decode cX1_rowAt 33 = .ok (.imul, 1) := by decide +kernel
theorem dX1_rowAt_34 : decode cX1_rowAt 34 = .ok (.iload_n 2, 1) := by decide +kernel
theorem dX1_rowAt_35 : decode cX1_rowAt 35 = .ok (.iadd, 1) := by decide +kernel
theorem dX1_rowAt_36 : decode cX1_rowAt 36 = .ok (.iaload, 1) := by decide +kernel
theorem dX1_rowAt_37 : decode cX1_rowAt 37 = .ok (.ireturn, 1) := by decide +kernel
theorem dX1_timesOf_0 : decode cX1_timesOf 0 = .ok (.iconst 0, 1) := by decide +kernel
theorem dX1_timesOf_1 : decode cX1_timesOf 1 = .ok (.istore_n 3, 1) := by decide +kernel
theorem dX1_timesOf_2 : decode cX1_timesOf 2 = .ok (.iconst 0, 1) := by decide +kernel
theorem dX1_timesOf_3 : decode cX1_timesOf 3 = .ok (.istore 4, 2) := by decide +kernel
theorem dX1_timesOf_5 : decode cX1_timesOf 5 = .ok (.iload 4, 2) := by decide +kernel
theorem dX1_timesOf_7 : decode cX1_timesOf 7 = .ok (.aload_n 0, 1) := by decide +kernel
theorem dX1_timesOf_8 : decode cX1_timesOf 8 = .ok (.getfield 22, 3) := by decide +kernel
theorem dX1_timesOf_11 : decode cX1_timesOf 11 = .ok (.if_icmp .ge 46, 3) := by decide +kernel
theorem dX1_timesOf_14 : decode cX1_timesOf 14 = .ok (.aload_n 0, 1) := by decide +kernel
theorem dX1_timesOf_15 : decode cX1_timesOf 15 = .ok (.aload_n 1, 1) := by decide +kernel
theorem dX1_timesOf_16 : decode cX1_timesOf 16 = .ok (.iload 4, 2) := by decide +kernel
theorem dX1_timesOf_18 : decode cX1_timesOf 18 = .ok (.bipush 6, 2) := by decide +kernel
theorem dX1_timesOf_20 : decode cX1_timesOf 20 = .ok (.imul, 1) := by decide +kernel
theorem dX1_timesOf_21 : decode cX1_timesOf 21 = .ok (.invokevirtual 54, 3) := by decide +kernel
theorem dX1_timesOf_24 : decode cX1_timesOf 24 = .ok (.ifCond .eq 27, 3) := by decide +kernel
theorem dX1_timesOf_27 : decode cX1_timesOf 27 = .ok (.iload_n 2, 1) := by decide +kernel
theorem dX1_timesOf_28 : decode cX1_timesOf 28 = .ok (.iconst (-1), 1) := by decide +kernel
theorem dX1_timesOf_29 : decode cX1_timesOf 29 = .ok (.if_icmp .eq 19, 3) := by decide +kernel
theorem dX1_timesOf_32 : decode cX1_timesOf 32 = .ok (.aload_n 0, 1) := by decide +kernel
theorem dX1_timesOf_33 : decode cX1_timesOf 33 = .ok (.getfield 11, 3) := by decide +kernel
theorem dX1_timesOf_36 : decode cX1_timesOf 36 = .ok (.iload 4, 2) := by decide +kernel
theorem dX1_timesOf_38 : decode cX1_timesOf 38 = .ok (.bipush 6, 2) := by decide +kernel
theorem dX1_timesOf_40 : decode cX1_timesOf 40 = .ok (.imul, 1) := by decide +kernel
theorem dX1_timesOf_41 : decode cX1_timesOf 41 = .ok (.iconst 5, 1) := by decide +kernel
theorem dX1_timesOf_42 : decode cX1_timesOf 42 = .ok (.iadd, 1) := by decide +kernel
theorem dX1_timesOf_43 : decode cX1_timesOf 43 = .ok (.iaload, 1) := by decide +kernel
theorem dX1_timesOf_44 : decode cX1_timesOf 44 = .ok (.iload_n 2, 1) := by decide +kernel
theorem dX1_timesOf_45 : decode cX1_timesOf 45 = .ok (.if_icmp .ne 6, 3) := by decide +kernel
theorem dX1_timesOf_48 : decode cX1_timesOf 48 = .ok (.iinc 3 1, 3) := by decide +kernel
theorem dX1_timesOf_51 : decode cX1_timesOf 51 = .ok (.iinc 4 1, 3) := by decide +kernel
theorem dX1_timesOf_54 : decode cX1_timesOf 54 = .ok (.goto (-49), 3) := by decide +kernel
theorem dX1_timesOf_57 : decode cX1_timesOf 57 = .ok (.iload_n 3, 1) := by decide +kernel
theorem dX1_timesOf_58 : decode cX1_timesOf 58 = .ok (.ireturn, 1) := by decide +kernel
theorem dX1_isOf_0 : decode cX1_isOf 0 = .ok (.iload_n 2, 1) := by decide +kernel
theorem dX1_isOf_1 : decode cX1_isOf 1 = .ok (.ifCond .lt 91, 3) := by decide +kernel
theorem dX1_isOf_4 : decode cX1_isOf 4 = .ok (.iload_n 2, 1) := by decide +kernel
theorem dX1_isOf_5 : decode cX1_isOf 5 = .ok (.iconst 5, 1) := by decide +kernel
theorem dX1_isOf_6 : decode cX1_isOf 6 = .ok (.iadd, 1) := by decide +kernel
theorem dX1_isOf_7 : decode cX1_isOf 7 = .ok (.aload_n 0, 1) := by decide +kernel
theorem dX1_isOf_8 : decode cX1_isOf 8 = .ok (.getfield 11, 3) := by decide +kernel
theorem dX1_isOf_11 : decode cX1_isOf 11 = .ok (.arraylength, 1) := by decide +kernel
theorem dX1_isOf_12 : decode cX1_isOf 12 = .ok (.if_icmp .ge 80, 3) := by decide +kernel
theorem dX1_isOf_15 : decode cX1_isOf 15 = .ok (.aload_n 0, 1) := by decide +kernel
theorem dX1_isOf_16 : decode cX1_isOf 16 = .ok (.getfield 11, 3) := by decide +kernel
theorem dX1_isOf_19 : decode cX1_isOf 19 = .ok (.iload_n 2, 1) := by decide +kernel
theorem dX1_isOf_20 : decode cX1_isOf 20 = .ok (.iaload, 1) := by decide +kernel
theorem dX1_isOf_21 : decode cX1_isOf 21 = .ok (.aload_n 1, 1) := by decide +kernel
theorem dX1_isOf_22 : decode cX1_isOf 22 = .ok (.getfield 33, 3) := by decide +kernel
theorem dX1_isOf_25 : decode cX1_isOf 25 = .ok (.if_icmp .ne 67, 3) := by decide +kernel
theorem dX1_isOf_28 : decode cX1_isOf 28 = .ok (.aload_n 0, 1) := by decide +kernel
theorem dX1_isOf_29 : decode cX1_isOf 29 = .ok (.getfield 11, 3) := by decide +kernel
theorem dX1_isOf_32 : decode cX1_isOf 32 = .ok (.iload_n 2, 1) := by decide +kernel
theorem dX1_isOf_33 : decode cX1_isOf 33 = .ok (.iconst 1, 1) := by decide +kernel
theorem dX1_isOf_34 : decode cX1_isOf 34 = .ok (.iadd, 1) := by decide +kernel
theorem dX1_isOf_35 : decode cX1_isOf 35 = .ok (.iaload, 1) := by decide +kernel
theorem dX1_isOf_36 : decode cX1_isOf 36 = .ok (.aload_n 1, 1) := by decide +kernel
theorem dX1_isOf_37 : decode cX1_isOf 37 = .ok (.getfield 38, 3) := by decide +kernel
theorem dX1_isOf_40 : decode cX1_isOf 40 = .ok (.if_icmp .ne 52, 3) := by decide +kernel
theorem dX1_isOf_43 : decode cX1_isOf 43 = .ok (.aload_n 0, 1) := by decide +kernel
theorem dX1_isOf_44 : decode cX1_isOf 44 = .ok (.getfield 11, 3) := by decide +kernel
theorem dX1_isOf_47 : decode cX1_isOf 47 = .ok (.iload_n 2, 1) := by decide +kernel
theorem dX1_isOf_48 : decode cX1_isOf 48 = .ok (.iconst 2, 1) := by decide +kernel
theorem dX1_isOf_49 : decode cX1_isOf 49 = .ok (.iadd, 1) := by decide +kernel
theorem dX1_isOf_50 : decode cX1_isOf 50 = .ok (.iaload, 1) := by decide +kernel
theorem dX1_isOf_51 : decode cX1_isOf 51 = .ok (.aload_n 1, 1) := by decide +kernel
theorem dX1_isOf_52 : decode cX1_isOf 52 = .ok (.getfield 41, 3) := by decide +kernel
theorem dX1_isOf_55 : decode cX1_isOf 55 = .ok (.if_icmp .ne 37, 3) := by decide +kernel
theorem dX1_isOf_58 : decode cX1_isOf 58 = .ok (.aload_n 0, 1) := by decide +kernel
theorem dX1_isOf_59 : decode cX1_isOf 59 = .ok (.getfield 11, 3) := by decide +kernel
theorem dX1_isOf_62 : decode cX1_isOf 62 = .ok (.iload_n 2, 1) := by decide +kernel
theorem dX1_isOf_63 : decode cX1_isOf 63 = .ok (.iconst 3, 1) := by decide +kernel
theorem dX1_isOf_64 : decode cX1_isOf 64 = .ok (.iadd, 1) := by decide +kernel
theorem dX1_isOf_65 : decode cX1_isOf 65 = .ok (.iaload, 1) := by decide +kernel
theorem dX1_isOf_66 : decode cX1_isOf 66 = .ok (.aload_n 1, 1) := by decide +kernel
theorem dX1_isOf_67 : decode cX1_isOf 67 = .ok (.getfield 44, 3) := by decide +kernel
theorem dX1_isOf_70 : decode cX1_isOf 70 = .ok (.if_icmp .ne 22, 3) := by decide +kernel
theorem dX1_isOf_73 : decode cX1_isOf 73 = .ok (.aload_n 0, 1) := by decide +kernel
theorem dX1_isOf_74 : decode cX1_isOf 74 = .ok (.getfield 11, 3) := by decide +kernel
theorem dX1_isOf_77 : decode cX1_isOf 77 = .ok (.iload_n 2, 1) := by decide +kernel
theorem dX1_isOf_78 : decode cX1_isOf 78 = .ok (.iconst 4, 1) := by decide +kernel
theorem dX1_isOf_79 : decode cX1_isOf 79 = .ok (.iadd, 1) := by decide +kernel
theorem dX1_isOf_80 : decode cX1_isOf 80 = .ok (.iaload, 1) := by decide +kernel
theorem dX1_isOf_81 : decode cX1_isOf 81 = .ok (.aload_n 1, 1) := by decide +kernel
theorem dX1_isOf_82 : decode cX1_isOf 82 = .ok (.getfield 47, 3) := by decide +kernel
theorem dX1_isOf_85 : decode cX1_isOf 85 = .ok (.if_icmp .ne 7, 3) := by decide +kernel
theorem dX1_isOf_88 : decode cX1_isOf 88 = .ok (.iconst 1, 1) := by decide +kernel
theorem dX1_isOf_89 : decode cX1_isOf 89 = .ok (.goto 4, 3) := by decide +kernel
theorem dX1_isOf_92 : decode cX1_isOf 92 = .ok (.iconst 0, 1) := by decide +kernel
theorem dX1_isOf_93 : decode cX1_isOf 93 = .ok (.ireturn, 1) := by decide +kernel
theorem dX1_rowOf_0 : decode cX1_rowOf 0 = .ok (.iconst 0, 1) := by decide +kernel
theorem dX1_rowOf_1 : decode cX1_rowOf 1 = .ok (.istore_n 3, 1) := by decide +kernel
theorem dX1_rowOf_2 : decode cX1_rowOf 2 = .ok (.iconst 0, 1) := by decide +kernel
theorem dX1_rowOf_3 : decode cX1_rowOf 3 = .ok (.istore 4, 2) := by decide +kernel
theorem dX1_rowOf_5 : decode cX1_rowOf 5 = .ok (.iload 4, 2) := by decide +kernel
theorem dX1_rowOf_7 : decode cX1_rowOf 7 = .ok (.aload_n 0, 1) := by decide +kernel
theorem dX1_rowOf_8 : decode cX1_rowOf 8 = .ok (.getfield 22, 3) := by decide +kernel
theorem dX1_rowOf_11 : decode cX1_rowOf 11 = .ok (.if_icmp .ge 31, 3) := by decide +kernel
theorem dX1_rowOf_14 : decode cX1_rowOf 14 = .ok (.aload_n 0, 1) := by decide +kernel
theorem dX1_rowOf_15 : decode cX1_rowOf 15 = .ok (.iload 4, 2) := by decide +kernel
theorem dX1_rowOf_17 : decode cX1_rowOf 17 = .ok (.iconst 0, 1) := by decide +kernel
theorem dX1_rowOf_18 : decode cX1_rowOf 18 = .ok (.invokevirtual 58, 3) := by decide +kernel
theorem dX1_rowOf_21 : decode cX1_rowOf 21 = .ok (.iload_n 1, 1) := by decide +kernel
theorem dX1_rowOf_22 : decode cX1_rowOf 22 = .ok (.if_icmp .ne 14, 3) := by decide +kernel
theorem dX1_rowOf_25 : decode cX1_rowOf 25 = .ok (.iload_n 3, 1) := by decide +kernel
theorem dX1_rowOf_26 : decode cX1_rowOf 26 = .ok (.iload_n 2, 1) := by decide +kernel
theorem dX1_rowOf_27 : decode cX1_rowOf 27 = .ok (.if_icmp .ne 6, 3) := by decide +kernel
theorem dX1_rowOf_30 : decode cX1_rowOf 30 = .ok (.iload 4, 2) := by decide +kernel
theorem dX1_rowOf_32 : decode cX1_rowOf 32 = .ok (.ireturn, 1) := by decide +kernel
theorem dX1_rowOf_33 : decode cX1_rowOf 33 = .ok (.iinc 3 1, 3) := by decide +kernel
theorem dX1_rowOf_36 : decode cX1_rowOf 36 = .ok (.iinc 4 1, 3) := by decide +kernel
theorem dX1_rowOf_39 : decode cX1_rowOf 39 = .ok (.goto (-34), 3) := by decide +kernel
theorem dX1_rowOf_42 : decode cX1_rowOf 42 = .ok (.iconst (-1), 1) := by decide +kernel
theorem dX1_rowOf_43 : decode cX1_rowOf 43 = .ok (.ireturn, 1) := by decide +kernel
theorem dX2_init_0 : decode cX2_init 0 = .ok (.aload_n 0, 1) := by decide +kernel
theorem dX2_init_1 : decode cX2_init 1 = .ok (.invokespecial 3, 3) := by decide +kernel
theorem dX2_init_4 : decode cX2_init 4 = .ok (.aload_n 0, 1) := by decide +kernel
theorem dX2_init_5 : decode cX2_init 5 = .ok (.sipush 2048, 3) := by decide +kernel
theorem dX2_init_8 : decode cX2_init 8 = .ok (.newarray .int, 2) := by decide +kernel
theorem dX2_init_10 : decode cX2_init 10 = .ok (.putfield 11, 3) := by decide +kernel
theorem dX2_init_13 : decode cX2_init 13 = .ok (.aload_n 0, 1) := by decide +kernel
theorem dX2_init_14 : decode cX2_init 14 = .ok (.sipush 1000, 3) := by decide +kernel
theorem dX2_init_17 : decode cX2_init 17 = .ok (.newarray .int, 2) := by decide +kernel
theorem dX2_init_19 : decode cX2_init 19 = .ok (.putfield 15, 3) := by decide +kernel
theorem dX2_init_22 : decode cX2_init 22 = .ok (.aload_n 0, 1) := by decide +kernel
theorem dX2_init_23 : decode cX2_init 23 = .ok (.sipush 1000, 3) := by decide +kernel
theorem dX2_init_26 : decode cX2_init 26 = .ok (.newarray .int, 2) := by decide +kernel
theorem dX2_init_28 : decode cX2_init 28 = .ok (.putfield 18, 3) := by decide +kernel
theorem dX2_init_31 : decode cX2_init 31 = .ok (.aload_n 0, 1) := by decide +kernel
theorem dX2_init_32 : decode cX2_init 32 = .ok (.sipush 1000, 3) := by decide +kernel
theorem dX2_init_35 : decode cX2_init 35 = .ok (.newarray .int, 2) := by decide +kernel
theorem dX2_init_37 : decode cX2_init 37 = .ok (.putfield 21, 3) := by decide +kernel
theorem dX2_init_40 : decode cX2_init 40 = .ok (.aload_n 0, 1) := by decide +kernel
theorem dX2_init_41 : decode cX2_init 41 = .ok (.sipush 1000, 3) := by decide +kernel
theorem dX2_init_44 : decode cX2_init 44 = .ok (.newarray .int, 2) := by decide +kernel
theorem dX2_init_46 : decode cX2_init 46 = .ok (.putfield 24, 3) := by decide +kernel
theorem dX2_init_49 : decode cX2_init 49 = .ok (.aload_n 0, 1) := by decide +kernel
theorem dX2_init_50 : decode cX2_init 50 = .ok (.sipush 1000, 3) := by decide +kernel
theorem dX2_init_53 : decode cX2_init 53 = .ok (.newarray .int, 2) := by decide +kernel
theorem dX2_init_55 : decode cX2_init 55 = .ok (.putfield 27, 3) := by decide +kernel
theorem dX2_init_58 : decode cX2_init 58 = .ok (.aload_n 0, 1) := by decide +kernel
theorem dX2_init_59 : decode cX2_init 59 = .ok (.sipush 3000, 3) := by decide +kernel
theorem dX2_init_62 : decode cX2_init 62 = .ok (.newarray .int, 2) := by decide +kernel
theorem dX2_init_64 : decode cX2_init 64 = .ok (.putfield 30, 3) := by decide +kernel
theorem dX2_init_67 : decode cX2_init 67 = .ok (.aload_n 0, 1) := by decide +kernel
theorem dX2_init_68 : decode cX2_init 68 = .ok (.bipush 126, 2) := by decide +kernel
theorem dX2_init_70 : decode cX2_init 70 = .ok (.newarray .int, 2) := by decide +kernel
theorem dX2_init_72 : decode cX2_init 72 = .ok (.putfield 33, 3) := by decide +kernel
theorem dX2_init_75 : decode cX2_init 75 = .ok (.aload_n 0, 1) := by decide +kernel
theorem dX2_init_76 : decode cX2_init 76 = .ok (.bipush 66, 2) := by decide +kernel
theorem dX2_init_78 : decode cX2_init 78 = .ok (.newarray .int, 2) := by decide +kernel
theorem dX2_init_80 : decode cX2_init 80 = .ok (.putfield 36, 3) := by decide +kernel
theorem dX2_init_83 : decode cX2_init 83 = .ok (.aload_n 0, 1) := by decide +kernel
theorem dX2_init_84 : decode cX2_init 84 = .ok (.bipush 6, 2) := by decide +kernel
theorem dX2_init_86 : decode cX2_init 86 = .ok (.newarray .int, 2) := by decide +kernel
theorem dX2_init_88 : decode cX2_init 88 = .ok (.putfield 39, 3) := by decide +kernel
theorem dX2_init_91 : decode cX2_init 91 = .ok (.aload_n 0, 1) := by decide +kernel
theorem dX2_init_92 : decode cX2_init 92 = .ok (.bipush 6, 2) := by decide +kernel
theorem dX2_init_94 : decode cX2_init 94 = .ok (.newarray .int, 2) := by decide +kernel
theorem dX2_init_96 : decode cX2_init 96 = .ok (.putfield 42, 3) := by decide +kernel
theorem dX2_init_99 : decode cX2_init 99 = .ok (.return_, 1) := by decide +kernel
theorem dX2_empty_0 : decode cX2_empty 0 = .ok (.aload_n 0, 1) := by decide +kernel
theorem dX2_empty_1 : decode cX2_empty 1 = .ok (.iconst 0, 1) := by decide +kernel
theorem dX2_empty_2 : decode cX2_empty 2 = .ok (.putfield 45, 3) := by decide +kernel
theorem dX2_empty_5 : decode cX2_empty 5 = .ok (.aload_n 0, 1) := by decide +kernel
theorem dX2_empty_6 : decode cX2_empty 6 = .ok (.getfield 11, 3) := by decide +kernel
theorem dX2_empty_9 : decode cX2_empty 9 = .ok (.iconst 0, 1) := by decide +kernel
theorem dX2_empty_10 : decode cX2_empty 10 = .ok (.invokestatic 49, 3) := by decide +kernel
theorem dX2_empty_13 : decode cX2_empty 13 = .ok (.return_, 1) := by decide +kernel
theorem dX2_put_0 : decode cX2_put 0 = .ok (.aload_n 0, 1) := by decide +kernel
theorem dX2_put_1 : decode cX2_put 1 = .ok (.aload_n 1, 1) := by decide +kernel
theorem dX2_put_2 : decode cX2_put 2 = .ok (.invokevirtual 55, 3) := by decide +kernel
theorem dX2_put_5 : decode cX2_put 5 = .ok (.istore_n 3, 1) := by decide +kernel
theorem dX2_put_6 : decode cX2_put 6 = .ok (.iload_n 3, 1) := by decide +kernel
theorem dX2_put_7 : decode cX2_put 7 = .ok (.ifCond .lt 12, 3) := by decide +kernel
theorem dX2_put_10 : decode cX2_put 10 = .ok (.iload_n 2, 1) := by decide +kernel
theorem dX2_put_11 : decode cX2_put 11 = .ok (.ifCond .lt 8, 3) := by decide +kernel
theorem dX2_put_14 : decode cX2_put 14 = .ok (.iload_n 2, 1) := by decide +kernel
theorem dX2_put_15 : decode cX2_put 15 = .ok (.iconst 3, 1) := by decide +kernel
theorem dX2_put_16 : decode cX2_put 16 = .ok (.if_icmp .lt 4, 3) := by decide +kernel
theorem dX2_put_19 : decode cX2_put 19 = .ok (.return_, 1) := by decide +kernel
theorem dX2_put_20 : decode cX2_put 20 = .ok (.aload_n 0, 1) := by decide +kernel
theorem dX2_put_21 : decode cX2_put 21 = .ok (.getfield 11, 3) := by decide +kernel
theorem dX2_put_24 : decode cX2_put 24 = .ok (.iload_n 3, 1) := by decide +kernel
theorem dX2_put_25 : decode cX2_put 25 = .ok (.iaload, 1) := by decide +kernel
theorem dX2_put_26 : decode cX2_put 26 = .ok (.ifCond .ne 9, 3) := by decide +kernel
theorem dX2_put_29 : decode cX2_put 29 = .ok (.aload_n 0, 1) := by decide +kernel
theorem dX2_put_30 : decode cX2_put 30 = .ok (.aload_n 1, 1) := by decide +kernel
theorem dX2_put_31 : decode cX2_put 31 = .ok (.iload_n 3, 1) := by decide +kernel
theorem dX2_put_32 : decode cX2_put 32 = .ok (.invokevirtual 59, 3) := by decide +kernel
theorem dX2_put_35 : decode cX2_put 35 = .ok (.aload_n 0, 1) := by decide +kernel
theorem dX2_put_36 : decode cX2_put 36 = .ok (.getfield 11, 3) := by decide +kernel
theorem dX2_put_39 : decode cX2_put 39 = .ok (.iload_n 3, 1) := by decide +kernel
theorem dX2_put_40 : decode cX2_put 40 = .ok (.iaload, 1) := by decide +kernel
theorem dX2_put_41 : decode cX2_put 41 = .ok (.iconst 1, 1) := by decide +kernel
theorem dX2_put_42 : decode cX2_put 42 = .ok (.isub, 1) := by decide +kernel
theorem dX2_put_43 : decode cX2_put 43 = .ok (.istore 4, 2) := by decide +kernel
theorem dX2_put_45 : decode cX2_put 45 = .ok (.iload 4, 2) := by decide +kernel
theorem dX2_put_47 : decode cX2_put 47 = .ok (.ifCond .lt 29, 3) := by decide +kernel
theorem dX2_put_50 : decode cX2_put 50 = .ok (.aload_n 0, 1) := by decide +kernel
theorem dX2_put_51 : decode cX2_put 51 = .ok (.getfield 27, 3) := by decide +kernel
theorem dX2_put_54 : decode cX2_put 54 = .ok (.iload 4, 2) := by decide +kernel
theorem dX2_put_56 : decode cX2_put 56 = .ok (.dup2, 1) := by decide +kernel
theorem dX2_put_57 : decode cX2_put 57 = .ok (.iaload, 1) := by decide +kernel
theorem dX2_put_58 : decode cX2_put 58 = .ok (.iconst 1, 1) := by decide +kernel
theorem dX2_put_59 : decode cX2_put 59 = .ok (.iadd, 1) := by decide +kernel
theorem dX2_put_60 : decode cX2_put 60 = .ok (.iastore, 1) := by decide +kernel
theorem dX2_put_61 : decode cX2_put 61 = .ok (.aload_n 0, 1) := by decide +kernel
theorem dX2_put_62 : decode cX2_put 62 = .ok (.getfield 30, 3) := by decide +kernel
theorem dX2_put_65 : decode cX2_put 65 = .ok (.iload 4, 2) := by decide +kernel
theorem dX2_put_67 : decode cX2_put 67 = .ok (.iconst 3, 1) := by decide +kernel
theorem dX2_put_68 : decode cX2_put 68 = .ok (.imul, 1) := by decide +kernel
theorem dX2_put_69 : decode cX2_put 69 = .ok (.iload_n 2, 1) := by decide +kernel
theorem dX2_put_70 : decode cX2_put 70 = .ok (.iadd, 1) := by decide +kernel
theorem dX2_put_71 : decode cX2_put 71 = .ok (.dup2, 1) := by decide +kernel
theorem dX2_put_72 : decode cX2_put 72 = .ok (.iaload, 1) := by decide +kernel
theorem dX2_put_73 : decode cX2_put 73 = .ok (.iconst 1, 1) := by decide +kernel
theorem dX2_put_74 : decode cX2_put 74 = .ok (.iadd, 1) := by decide +kernel
theorem dX2_put_75 : decode cX2_put 75 = .ok (.iastore, 1) := by decide +kernel
theorem dX2_put_76 : decode cX2_put 76 = .ok (.return_, 1) := by decide +kernel
theorem dX2_slotOf_0 : decode cX2_slotOf 0 = .ok (.aload_n 1, 1) := by decide +kernel
theorem dX2_slotOf_1 : decode cX2_slotOf 1 = .ok (.getfield 63, 3) := by decide +kernel
theorem dX2_slotOf_4 : decode cX2_slotOf 4 = .ok (.iconst 2, 1) := by decide +kernel
theorem dX2_slotOf_5 : decode cX2_slotOf 5 = .ok (.imul, 1) := by decide +kernel
theorem dX2_slotOf_6 : decode cX2_slotOf 6 = .ok (.aload_n 1, 1) := by decide +kernel
theorem dX2_slotOf_7 : decode cX2_slotOf 7 = .ok (.getfield 68, 3) := by decide +kernel
theorem dX2_slotOf_10 : decode cX2_slotOf 10 = .ok (.iadd, 1) := by decide +kernel
theorem dX2_slotOf_11 : decode cX2_slotOf 11 = .ok (.sipush 401, 3) := by decide +kernel
theorem dX2_slotOf_14 : decode cX2_slotOf 14 = .ok (.imul, 1) := by decide +kernel
theorem dX2_slotOf_15 : decode cX2_slotOf 15 = .ok (.aload_n 1, 1) := by decide +kernel
theorem dX2_slotOf_16 : decode cX2_slotOf 16 = .ok (.getfield 71, 3) := by decide +kernel
theorem dX2_slotOf_19 : decode cX2_slotOf 19 = .ok (.iadd, 1) := by decide +kernel
theorem dX2_slotOf_20 : decode cX2_slotOf 20 = .ok (.sipush 401, 3) := by decide +kernel
theorem dX2_slotOf_23 : decode cX2_slotOf 23 = .ok (.imul, 1) := by decide +kernel
theorem dX2_slotOf_24 : decode cX2_slotOf 24 = .ok (.aload_n 1, 1) := by decide +kernel
theorem dX2_slotOf_25 : decode cX2_slotOf 25 = .ok (.getfield 74, 3) := by decide +kernel
theorem dX2_slotOf_28 : decode cX2_slotOf 28 = .ok (.iadd, 1) := by decide +kernel
theorem dX2_slotOf_29 : decode cX2_slotOf 29 = .ok (.istore_n 2, 1) := by decide +kernel
theorem dX2_slotOf_30 : decode cX2_slotOf 30 = .ok (.iload_n 2, 1) := by decide +kernel
theorem dX2_slotOf_31 : decode cX2_slotOf 31 = .ok (.bipush 31, 2) := by decide +kernel
theorem dX2_slotOf_33 : decode cX2_slotOf 33 = .ok (.imul, 1) := by decide +kernel
theorem dX2_slotOf_34 : decode cX2_slotOf 34 = .ok (.sipush 2048, 3) := by decide +kernel
theorem dX2_slotOf_37 : decode cX2_slotOf 37 = .ok (.invokestatic 77, 3) := by decide +kernel
theorem dX2_slotOf_40 : decode cX2_slotOf 40 = .ok (.istore_n 3, 1) := by decide +kernel
theorem dX2_slotOf_41 : decode cX2_slotOf 41 = .ok (.iconst 0, 1) := by decide +kernel
theorem dX2_slotOf_42 : decode cX2_slotOf 42 = .ok (.istore 4, 2) := by decide +kernel
theorem dX2_slotOf_44 : decode cX2_slotOf 44 = .ok (.iload 4, 2) := by decide +kernel
theorem dX2_slotOf_46 : decode cX2_slotOf 46 = .ok (.sipush 2048, 3) := by decide +kernel
theorem dX2_slotOf_49 : decode cX2_slotOf 49 = .ok (.if_icmp .ge 44, 3) := by decide +kernel
theorem dX2_slotOf_52 : decode cX2_slotOf 52 = .ok (.aload_n 0, 1) := by decide +kernel
theorem dX2_slotOf_53 : decode cX2_slotOf 53 = .ok (.getfield 11, 3) := by decide +kernel
theorem dX2_slotOf_56 : decode cX2_slotOf 56 = .ok (.iload_n 3, 1) := by decide +kernel
theorem dX2_slotOf_57 : decode cX2_slotOf 57 = .ok (.iaload, 1) := by decide +kernel
theorem dX2_slotOf_58 : decode cX2_slotOf 58 = .ok (.ifCond .eq 19, 3) := by decide +kernel
theorem dX2_slotOf_61 : decode cX2_slotOf 61 = .ok (.aload_n 0, 1) := by decide +kernel
theorem dX2_slotOf_62 : decode cX2_slotOf 62 = .ok (.aload_n 1, 1) := by decide +kernel
theorem dX2_slotOf_63 : decode cX2_slotOf 63 = .ok (.aload_n 0, 1) := by decide +kernel
theorem dX2_slotOf_64 : decode cX2_slotOf 64 = .ok (.getfield 11, 3) := by decide +kernel
theorem dX2_slotOf_67 : decode cX2_slotOf 67 = .ok (.iload_n 3, 1) := by decide +kernel
theorem dX2_slotOf_68 : decode cX2_slotOf 68 = .ok (.iaload, 1) := by decide +kernel
theorem dX2_slotOf_69 : decode cX2_slotOf 69 = .ok (.iconst 1, 1) := by decide +kernel
theorem dX2_slotOf_70 : decode cX2_slotOf 70 = .ok (.isub, 1) := by decide +kernel
theorem dX2_slotOf_71 : decode cX2_slotOf 71 = .ok (.invokevirtual 83, 3) := by decide +kernel
theorem dX2_slotOf_74 : decode cX2_slotOf 74 = .ok (.ifCond .eq 5, 3) := by decide +kernel
theorem dX2_slotOf_77 : decode cX2_slotOf 77 = .ok (.iload_n 3, 1) := by decide +kernel
theorem dX2_slotOf_78 : decode cX2_slotOf 78 = .ok (.ireturn, 1) := by decide +kernel
theorem dX2_slotOf_79 : decode cX2_slotOf 79 = .ok (.iload_n 3, 1) := by decide +kernel
theorem dX2_slotOf_80 : decode cX2_slotOf 80 = .ok (.iconst 1, 1) := by decide +kernel
theorem dX2_slotOf_81 : decode cX2_slotOf 81 = .ok (.iadd, 1) := by decide +kernel
theorem dX2_slotOf_82 : decode cX2_slotOf 82 = .ok (.sipush 2048, 3) := by decide +kernel
theorem dX2_slotOf_85 : decode cX2_slotOf 85 = .ok (.irem, 1) := by decide +kernel
theorem dX2_slotOf_86 : decode cX2_slotOf 86 = .ok (.istore_n 3, 1) := by decide +kernel
theorem dX2_slotOf_87 : decode cX2_slotOf 87 = .ok (.iinc 4 1, 3) := by decide +kernel
theorem dX2_slotOf_90 : decode cX2_slotOf 90 = .ok (.goto (-46), 3) := by decide +kernel
theorem dX2_slotOf_93 : decode cX2_slotOf 93 = .ok (.iconst (-1), 1) := by decide +kernel
theorem dX2_slotOf_94 : decode cX2_slotOf 94 = .ok (.ireturn, 1) := by decide +kernel
theorem dX2_isOf_0 : decode cX2_isOf 0 = .ok (.iload_n 2, 1) := by decide +kernel
theorem dX2_isOf_1 : decode cX2_isOf 1 = .ok (.ifCond .lt 66, 3) := by decide +kernel
theorem dX2_isOf_4 : decode cX2_isOf 4 = .ok (.iload_n 2, 1) := by decide +kernel
theorem dX2_isOf_5 : decode cX2_isOf 5 = .ok (.sipush 1000, 3) := by decide +kernel
theorem dX2_isOf_8 : decode cX2_isOf 8 = .ok (.if_icmp .ge 59, 3) := by decide +kernel
theorem dX2_isOf_11 : decode cX2_isOf 11 = .ok (.aload_n 0, 1) := by decide +kernel
theorem dX2_isOf_12 : decode cX2_isOf 12 = .ok (.getfield 15, 3) := by decide +kernel
theorem dX2_isOf_15 : decode cX2_isOf 15 = .ok (.iload_n 2, 1) := by decide +kernel
theorem dX2_isOf_16 : decode cX2_isOf 16 = .ok (.iaload, 1) := by decide +kernel
theorem dX2_isOf_17 : decode cX2_isOf 17 = .ok (.aload_n 1, 1) := by decide +kernel
theorem dX2_isOf_18 : decode cX2_isOf 18 = .ok (.getfield 63, 3) := by decide +kernel
theorem dX2_isOf_21 : decode cX2_isOf 21 = .ok (.if_icmp .ne 46, 3) := by decide +kernel
theorem dX2_isOf_24 : decode cX2_isOf 24 = .ok (.aload_n 0, 1) := by decide +kernel
theorem dX2_isOf_25 : decode cX2_isOf 25 = .ok (.getfield 18, 3) := by decide +kernel
theorem dX2_isOf_28 : decode cX2_isOf 28 = .ok (.iload_n 2, 1) := by decide +kernel
theorem dX2_isOf_29 : decode cX2_isOf 29 = .ok (.iaload, 1) := by decide +kernel
theorem dX2_isOf_30 : decode cX2_isOf 30 = .ok (.aload_n 1, 1) := by decide +kernel
theorem dX2_isOf_31 : decode cX2_isOf 31 = .ok (.getfield 68, 3) := by decide +kernel
theorem dX2_isOf_34 : decode cX2_isOf 34 = .ok (.if_icmp .ne 33, 3) := by decide +kernel
theorem dX2_isOf_37 : decode cX2_isOf 37 = .ok (.aload_n 0, 1) := by decide +kernel
theorem dX2_isOf_38 : decode cX2_isOf 38 = .ok (.getfield 21, 3) := by decide +kernel
theorem dX2_isOf_41 : decode cX2_isOf 41 = .ok (.iload_n 2, 1) := by decide +kernel
theorem dX2_isOf_42 : decode cX2_isOf 42 = .ok (.iaload, 1) := by decide +kernel
theorem dX2_isOf_43 : decode cX2_isOf 43 = .ok (.aload_n 1, 1) := by decide +kernel
theorem dX2_isOf_44 : decode cX2_isOf 44 = .ok (.getfield 71, 3) := by decide +kernel
theorem dX2_isOf_47 : decode cX2_isOf 47 = .ok (.if_icmp .ne 20, 3) := by decide +kernel
theorem dX2_isOf_50 : decode cX2_isOf 50 = .ok (.aload_n 0, 1) := by decide +kernel
theorem dX2_isOf_51 : decode cX2_isOf 51 = .ok (.getfield 24, 3) := by decide +kernel
theorem dX2_isOf_54 : decode cX2_isOf 54 = .ok (.iload_n 2, 1) := by decide +kernel
theorem dX2_isOf_55 : decode cX2_isOf 55 = .ok (.iaload, 1) := by decide +kernel
theorem dX2_isOf_56 : decode cX2_isOf 56 = .ok (.aload_n 1, 1) := by decide +kernel
theorem dX2_isOf_57 : decode cX2_isOf 57 = .ok (.getfield 74, 3) := by decide +kernel
theorem dX2_isOf_60 : decode cX2_isOf 60 = .ok (.if_icmp .ne 7, 3) := by decide +kernel
theorem dX2_isOf_63 : decode cX2_isOf 63 = .ok (.iconst 1, 1) := by decide +kernel
theorem dX2_isOf_64 : decode cX2_isOf 64 = .ok (.goto 4, 3) := by decide +kernel
theorem dX2_isOf_67 : decode cX2_isOf 67 = .ok (.iconst 0, 1) := by decide +kernel
theorem dX2_isOf_68 : decode cX2_isOf 68 = .ok (.ireturn, 1) := by decide +kernel
theorem dX2_open_0 : decode cX2_open 0 = .ok (.aload_n 0, 1) := by decide +kernel
theorem dX2_open_1 : decode cX2_open 1 = .ok (.getfield 45, 3) := by decide +kernel
theorem dX2_open_4 : decode cX2_open 4 = .ok (.sipush 1000, 3) := by decide +kernel
theorem dX2_open_7 : decode cX2_open 7 = .ok (.if_icmp .lt 4, 3) := by decide +kernel
theorem dX2_open_10 : decode cX2_open 10 = .ok (.return_, 1) := by decide +kernel
theorem dX2_open_11 : decode cX2_open 11 = .ok (.aload_n 0, 1) := by decide +kernel
theorem dX2_open_12 : decode cX2_open 12 = .ok (.getfield 45, 3) := by decide +kernel
theorem dX2_open_15 : decode cX2_open 15 = .ok (.istore_n 3, 1) := by decide +kernel
theorem dX2_open_16 : decode cX2_open 16 = .ok (.aload_n 0, 1) := by decide +kernel
theorem dX2_open_17 : decode cX2_open 17 = .ok (.dup, 1) := by decide +kernel
theorem dX2_open_18 : decode cX2_open 18 = .ok (.getfield 45, 3) := by decide +kernel
theorem dX2_open_21 : decode cX2_open 21 = .ok (.iconst 1, 1) := by decide +kernel
theorem dX2_open_22 : decode cX2_open 22 = .ok (.iadd, 1) := by decide +kernel
theorem dX2_open_23 : decode cX2_open 23 = .ok (.putfield 45, 3) := by decide +kernel
theorem dX2_open_26 : decode cX2_open 26 = .ok (.aload_n 0, 1) := by decide +kernel
theorem dX2_open_27 : decode cX2_open 27 = .ok (.getfield 11, 3) := by decide +kernel
theorem dX2_open_30 : decode cX2_open 30 = .ok (.iload_n 2, 1) := by decide +kernel
theorem dX2_open_31 : decode cX2_open 31 = .ok (.aload_n 0, 1) := by decide +kernel
theorem dX2_open_32 : decode cX2_open 32 = .ok (.getfield 45, 3) := by decide +kernel
theorem dX2_open_35 : decode cX2_open 35 = .ok (.iastore, 1) := by decide +kernel
theorem dX2_open_36 : decode cX2_open 36 = .ok (.aload_n 0, 1) := by decide +kernel
theorem dX2_open_37 : decode cX2_open 37 = .ok (.getfield 15, 3) := by decide +kernel
theorem dX2_open_40 : decode cX2_open 40 = .ok (.iload_n 3, 1) := by decide +kernel
theorem dX2_open_41 : decode cX2_open 41 = .ok (.aload_n 1, 1) := by decide +kernel
theorem dX2_open_42 : decode cX2_open 42 = .ok (.getfield 63, 3) := by decide +kernel
theorem dX2_open_45 : decode cX2_open 45 = .ok (.iastore, 1) := by decide +kernel
theorem dX2_open_46 : decode cX2_open 46 = .ok (.aload_n 0, 1) := by decide +kernel
theorem dX2_open_47 : decode cX2_open 47 = .ok (.getfield 18, 3) := by decide +kernel
theorem dX2_open_50 : decode cX2_open 50 = .ok (.iload_n 3, 1) := by decide +kernel
theorem dX2_open_51 : decode cX2_open 51 = .ok (.aload_n 1, 1) := by decide +kernel
theorem dX2_open_52 : decode cX2_open 52 = .ok (.getfield 68, 3) := by decide +kernel
theorem dX2_open_55 : decode cX2_open 55 = .ok (.iastore, 1) := by decide +kernel
theorem dX2_open_56 : decode cX2_open 56 = .ok (.aload_n 0, 1) := by decide +kernel
theorem dX2_open_57 : decode cX2_open 57 = .ok (.getfield 21, 3) := by decide +kernel
theorem dX2_open_60 : decode cX2_open 60 = .ok (.iload_n 3, 1) := by decide +kernel
theorem dX2_open_61 : decode cX2_open 61 = .ok (.aload_n 1, 1) := by decide +kernel
theorem dX2_open_62 : decode cX2_open 62 = .ok (.getfield 71, 3) := by decide +kernel
theorem dX2_open_65 : decode cX2_open 65 = .ok (.iastore, 1) := by decide +kernel
theorem dX2_open_66 : decode cX2_open 66 = .ok (.aload_n 0, 1) := by decide +kernel
theorem dX2_open_67 : decode cX2_open 67 = .ok (.getfield 24, 3) := by decide +kernel
theorem dX2_open_70 : decode cX2_open 70 = .ok (.iload_n 3, 1) := by decide +kernel
theorem dX2_open_71 : decode cX2_open 71 = .ok (.aload_n 1, 1) := by decide +kernel
theorem dX2_open_72 : decode cX2_open 72 = .ok (.getfield 74, 3) := by decide +kernel
theorem dX2_open_75 : decode cX2_open 75 = .ok (.iastore, 1) := by decide +kernel
theorem dX2_open_76 : decode cX2_open 76 = .ok (.aload_n 0, 1) := by decide +kernel
theorem dX2_open_77 : decode cX2_open 77 = .ok (.getfield 27, 3) := by decide +kernel
theorem dX2_open_80 : decode cX2_open 80 = .ok (.iload_n 3, 1) := by decide +kernel
theorem dX2_open_81 : decode cX2_open 81 = .ok (.iconst 0, 1) := by decide +kernel
theorem dX2_open_82 : decode cX2_open 82 = .ok (.iastore, 1) := by decide +kernel
theorem dX2_open_83 : decode cX2_open 83 = .ok (.iconst 0, 1) := by decide +kernel
theorem dX2_open_84 : decode cX2_open 84 = .ok (.istore 4, 2) := by decide +kernel
theorem dX2_open_86 : decode cX2_open 86 = .ok (.iload 4, 2) := by decide +kernel
theorem dX2_open_88 : decode cX2_open 88 = .ok (.iconst 3, 1) := by decide +kernel
theorem dX2_open_89 : decode cX2_open 89 = .ok (.if_icmp .ge 21, 3) := by decide +kernel
theorem dX2_open_92 : decode cX2_open 92 = .ok (.aload_n 0, 1) := by decide +kernel
theorem dX2_open_93 : decode cX2_open 93 = .ok (.getfield 30, 3) := by decide +kernel
theorem dX2_open_96 : decode cX2_open 96 = .ok (.iload_n 3, 1) := by decide +kernel
theorem dX2_open_97 : decode cX2_open 97 = .ok (.iconst 3, 1) := by decide +kernel
theorem dX2_open_98 : decode cX2_open 98 = .ok (.imul, 1) := by decide +kernel
theorem dX2_open_99 : decode cX2_open 99 = .ok (.iload 4, 2) := by decide +kernel
theorem dX2_open_101 : decode cX2_open 101 = .ok (.iadd, 1) := by decide +kernel
theorem dX2_open_102 : decode cX2_open 102 = .ok (.iconst 0, 1) := by decide +kernel
theorem dX2_open_103 : decode cX2_open 103 = .ok (.iastore, 1) := by decide +kernel
theorem dX2_open_104 : decode cX2_open 104 = .ok (.iinc 4 1, 3) := by decide +kernel
theorem dX2_open_107 : decode cX2_open 107 = .ok (.goto (-21), 3) := by decide +kernel
theorem dX2_open_110 : decode cX2_open 110 = .ok (.return_, 1) := by decide +kernel
theorem dX2_isOverfull_0 : decode cX2_isOverfull 0 = .ok (.iconst 0, 1) := by decide +kernel
theorem dX2_isOverfull_1 : decode cX2_isOverfull 1 = .ok (.istore_n 2, 1) := by decide +kernel
theorem dX2_isOverfull_2 : decode cX2_isOverfull 2 = .ok (.iload_n 2, 1) := by decide +kernel
theorem dX2_isOverfull_3 : decode cX2_isOverfull 3 = .ok (.aload_n 0, 1) := by decide +kernel
theorem dX2_isOverfull_4 : decode cX2_isOverfull 4 = .ok (.getfield 45, 3) := by decide +kernel
theorem dX2_isOverfull_7 : decode cX2_isOverfull 7 = .ok (.if_icmp .ge 32, 3) := by decide +kernel
theorem dX2_isOverfull_10 : decode cX2_isOverfull 10 = .ok (.aload_n 0, 1) := by decide +kernel
theorem dX2_isOverfull_11 : decode cX2_isOverfull 11 = .ok (.getfield 15, 3) := by decide +kernel
theorem dX2_isOverfull_14 : decode cX2_isOverfull 14 = .ok (.iload_n 2, 1) := by decide +kernel
theorem dX2_isOverfull_15 : decode cX2_isOverfull 15 = .ok (.iaload, 1) := by decide +kernel
theorem dX2_isOverfull_16 : decode cX2_isOverfull 16 = .ok (.iload_n 1, 1) := by decide +kernel
theorem dX2_isOverfull_17 : decode cX2_isOverfull 17 = .ok (.if_icmp .ne 16, 3) := by decide +kernel
theorem dX2_isOverfull_20 : decode cX2_isOverfull 20 = .ok (.aload_n 0, 1) := by decide +kernel
theorem dX2_isOverfull_21 : decode cX2_isOverfull 21 = .ok (.getfield 27, 3) := by decide +kernel
theorem dX2_isOverfull_24 : decode cX2_isOverfull 24 = .ok (.iload_n 2, 1) := by decide +kernel
theorem dX2_isOverfull_25 : decode cX2_isOverfull 25 = .ok (.iaload, 1) := by decide +kernel
theorem dX2_isOverfull_26 : decode cX2_isOverfull 26 = .ok (.bipush 40, 2) := by decide +kernel
theorem dX2_isOverfull_28 : decode cX2_isOverfull 28 = .ok (.if_icmp .le 5, 3) := by decide +kernel
theorem dX2_isOverfull_31 : decode cX2_isOverfull 31 = .ok (.iconst 1, 1) := by decide +kernel
theorem dX2_isOverfull_32 : decode cX2_isOverfull 32 = .ok (.ireturn, 1) := by decide +kernel
theorem dX2_isOverfull_33 : decode cX2_isOverfull 33 = .ok (.iinc 2 1, 3) := by decide +kernel
theorem dX2_isOverfull_36 : decode cX2_isOverfull 36 = .ok (.goto (-34), 3) := by decide +kernel
theorem dX2_isOverfull_39 : decode cX2_isOverfull 39 = .ok (.iconst 0, 1) := by decide +kernel
theorem dX2_isOverfull_40 : decode cX2_isOverfull 40 = .ok (.ireturn, 1) := by decide +kernel
theorem dX2_lineLets_0 : decode cX2_lineLets 0 = .ok (.aload_n 2, 1) := by decide +kernel
theorem dX2_lineLets_1 : decode cX2_lineLets 1 = .ok (.invokevirtual 87, 3) := by decide +kernel
theorem dX2_lineLets_4 : decode cX2_lineLets 4 = .ok (.astore 5, 2) := by decide +kernel
theorem dX2_lineLets_6 : decode cX2_lineLets 6 = .ok (.iconst 0, 1) := by decide +kernel
theorem dX2_lineLets_7 : decode cX2_lineLets 7 = .ok (.istore 6, 2) := by decide +kernel
theorem dX2_lineLets_9 : decode cX2_lineLets 9 = .ok (.iload 6, 2) := by decide +kernel
theorem dX2_lineLets_11 : decode cX2_lineLets 11 = .ok (.aload_n 0, 1) := by decide +kernel
theorem dX2_lineLets_12 : decode cX2_lineLets 12 = .ok (.getfield 45, 3) := by decide +kernel
theorem dX2_lineLets_15 : decode cX2_lineLets 15 = .ok (.if_icmp .ge 104, 3) := by decide +kernel
theorem dX2_lineLets_18 : decode cX2_lineLets 18 = .ok (.aload_n 0, 1) := by decide +kernel
theorem dX2_lineLets_19 : decode cX2_lineLets 19 = .ok (.getfield 15, 3) := by decide +kernel
theorem dX2_lineLets_22 : decode cX2_lineLets 22 = .ok (.iload 6, 2) := by decide +kernel
theorem dX2_lineLets_24 : decode cX2_lineLets 24 = .ok (.iaload, 1) := by decide +kernel
theorem dX2_lineLets_25 : decode cX2_lineLets 25 = .ok (.iload_n 1, 1) := by decide +kernel
theorem dX2_lineLets_26 : decode cX2_lineLets 26 = .ok (.if_icmp .ne 87, 3) := by decide +kernel
theorem dX2_lineLets_29 : decode cX2_lineLets 29 = .ok (.aload_n 0, 1) := by decide +kernel
theorem dX2_lineLets_30 : decode cX2_lineLets 30 = .ok (.getfield 18, 3) := by decide +kernel
theorem dX2_lineLets_33 : decode cX2_lineLets 33 = .ok (.iload 6, 2) := by decide +kernel
theorem dX2_lineLets_35 : decode cX2_lineLets 35 = .ok (.iaload, 1) := by decide +kernel
theorem dX2_lineLets_36 : decode cX2_lineLets 36 = .ok (.iconst 1, 1) := by decide +kernel
theorem dX2_lineLets_37 : decode cX2_lineLets 37 = .ok (.if_icmp .ne 76, 3) := by decide +kernel
theorem dX2_lineLets_40 : decode cX2_lineLets 40 = .ok (.aload_n 2, 1) := by decide +kernel
theorem dX2_lineLets_41 : decode cX2_lineLets 41 = .ok (.aload_n 0, 1) := by decide +kernel
theorem dX2_lineLets_42 : decode cX2_lineLets 42 = .ok (.getfield 21, 3) := by decide +kernel
theorem dX2_lineLets_45 : decode cX2_lineLets 45 = .ok (.iload 6, 2) := by decide +kernel
theorem dX2_lineLets_47 : decode cX2_lineLets 47 = .ok (.iaload, 1) := by decide +kernel
theorem dX2_lineLets_48 : decode cX2_lineLets 48 = .ok (.invokevirtual 93, 3) := by decide +kernel
theorem dX2_lineLets_51 : decode cX2_lineLets 51 = .ok (.iload_n 3, 1) := by decide +kernel
theorem dX2_lineLets_52 : decode cX2_lineLets 52 = .ok (.isub, 1) := by decide +kernel
theorem dX2_lineLets_53 : decode cX2_lineLets 53 = .ok (.istore 7, 2) := by decide +kernel
theorem dX2_lineLets_55 : decode cX2_lineLets 55 = .ok (.iconst 0, 1) := by decide +kernel
theorem dX2_lineLets_56 : decode cX2_lineLets 56 = .ok (.istore 8, 2) := by decide +kernel
theorem dX2_lineLets_58 : decode cX2_lineLets 58 = .ok (.iload 8, 2) := by decide +kernel
theorem dX2_lineLets_60 : decode cX2_lineLets 60 = .ok (.iconst 1, 1) := by decide +kernel
theorem dX2_lineLets_61 : decode cX2_lineLets 61 = .ok (.if_icmp .gt 52, 3) := by decide +kernel
theorem dX2_lineLets_64 : decode cX2_lineLets 64 = .ok (.aload 4, 2) := by decide +kernel
theorem dX2_lineLets_66 : decode cX2_lineLets 66 = .ok (.aload_n 0, 1) := by decide +kernel
theorem dX2_lineLets_67 : decode cX2_lineLets 67 = .ok (.getfield 27, 3) := by decide +kernel
theorem dX2_lineLets_70 : decode cX2_lineLets 70 = .ok (.iload 6, 2) := by decide +kernel
theorem dX2_lineLets_72 : decode cX2_lineLets 72 = .ok (.iaload, 1) := by decide +kernel
theorem dX2_lineLets_73 : decode cX2_lineLets 73 = .ok (.aload 5, 2) := by decide +kernel
theorem dX2_lineLets_75 : decode cX2_lineLets 75 = .ok (.iload 7, 2) := by decide +kernel
theorem dX2_lineLets_77 : decode cX2_lineLets 77 = .ok (.iload 8, 2) := by decide +kernel
theorem dX2_lineLets_79 : decode cX2_lineLets 79 = .ok (.invokevirtual 97, 3) := by decide +kernel
theorem dX2_lineLets_82 : decode cX2_lineLets 82 = .ok (.aload 5, 2) := by decide +kernel
theorem dX2_lineLets_84 : decode cX2_lineLets 84 = .ok (.getfield 102, 3) := by decide +kernel
theorem dX2_lineLets_87 : decode cX2_lineLets 87 = .ok (.aload_n 0, 1) := by decide +kernel
theorem dX2_lineLets_88 : decode cX2_lineLets 88 = .ok (.getfield 30, 3) := by decide +kernel
theorem dX2_lineLets_91 : decode cX2_lineLets 91 = .ok (.iload 6, 2) := by decide +kernel
theorem dX2_lineLets_93 : decode cX2_lineLets 93 = .ok (.iconst 3, 1) := by decide +kernel
theorem dX2_lineLets_94 : decode cX2_lineLets 94 = .ok (.imul, 1) := by decide +kernel
theorem dX2_lineLets_95 : decode cX2_lineLets 95 = .ok (.iload 8, 2) := by decide +kernel
theorem dX2_lineLets_97 : decode cX2_lineLets 97 = .ok (.iadd, 1) := by decide +kernel
theorem dX2_lineLets_98 : decode cX2_lineLets 98 = .ok (.iaload, 1) := by decide +kernel
theorem dX2_lineLets_99 : decode cX2_lineLets 99 = .ok (.invokevirtual 105, 3) := by decide +kernel
theorem dX2_lineLets_102 : decode cX2_lineLets 102 = .ok (.ifCond .ne 5, 3) := by decide +kernel
theorem dX2_lineLets_105 : decode cX2_lineLets 105 = .ok (.iconst 0, 1) := by decide +kernel
theorem dX2_lineLets_106 : decode cX2_lineLets 106 = .ok (.ireturn, 1) := by decide +kernel
theorem dX2_lineLets_107 : decode cX2_lineLets 107 = .ok (.iinc 8 1, 3) := by decide +kernel
theorem dX2_lineLets_110 : decode cX2_lineLets 110 = .ok (.goto (-52), 3) := by decide +kernel
theorem dX2_lineLets_113 : decode cX2_lineLets 113 = .ok (.iinc 6 1, 3) := by decide +kernel
theorem dX2_lineLets_116 : decode cX2_lineLets 116 = .ok (.goto (-107), 3) := by decide +kernel
theorem dX2_lineLets_119 : decode cX2_lineLets 119 = .ok (.iconst 1, 1) := by decide +kernel
theorem dX2_lineLets_120 : decode cX2_lineLets 120 = .ok (.ireturn, 1) := by decide +kernel
theorem dX2_secondLets_0 : decode cX2_secondLets 0 = .ok (.aload_n 2, 1) := by decide +kernel
theorem dX2_secondLets_1 : decode cX2_secondLets 1 = .ok (.invokevirtual 87, 3) := by decide +kernel
theorem dX2_secondLets_4 : decode cX2_secondLets 4 = .ok (.astore 6, 2) := by decide +kernel
theorem dX2_secondLets_6 : decode cX2_secondLets 6 = .ok (.iload 4, 2) := by decide +kernel
theorem dX2_secondLets_8 : decode cX2_secondLets 8 = .ok (.ifCond .eq 7, 3) := by decide +kernel
theorem dX2_secondLets_11 : decode cX2_secondLets 11 = .ok (.iconst 1, 1) := by decide +kernel
theorem dX2_secondLets_12 : decode cX2_secondLets 12 = .ok (.goto 4, 3) := by decide +kernel
theorem dX2_secondLets_15 : decode cX2_secondLets 15 = .ok (.iconst 2, 1) := by decide +kernel
theorem dX2_secondLets_16 : decode cX2_secondLets 16 = .ok (.istore 7, 2) := by decide +kernel
theorem dX2_secondLets_18 : decode cX2_secondLets 18 = .ok (.iconst 0, 1) := by decide +kernel
theorem dX2_secondLets_19 : decode cX2_secondLets 19 = .ok (.istore 8, 2) := by decide +kernel
theorem dX2_secondLets_21 : decode cX2_secondLets 21 = .ok (.iload 8, 2) := by decide +kernel
theorem dX2_secondLets_23 : decode cX2_secondLets 23 = .ok (.aload_n 0, 1) := by decide +kernel
theorem dX2_secondLets_24 : decode cX2_secondLets 24 = .ok (.getfield 45, 3) := by decide +kernel
theorem dX2_secondLets_27 : decode cX2_secondLets 27 = .ok (.if_icmp .ge 118, 3) := by decide +kernel
theorem dX2_secondLets_30 : decode cX2_secondLets 30 = .ok (.aload_n 0, 1) := by decide +kernel
theorem dX2_secondLets_31 : decode cX2_secondLets 31 = .ok (.getfield 15, 3) := by decide +kernel
theorem dX2_secondLets_34 : decode cX2_secondLets 34 = .ok (.iload 8, 2) := by decide +kernel
theorem dX2_secondLets_36 : decode cX2_secondLets 36 = .ok (.iaload, 1) := by decide +kernel
theorem dX2_secondLets_37 : decode cX2_secondLets 37 = .ok (.iload_n 1, 1) := by decide +kernel
theorem dX2_secondLets_38 : decode cX2_secondLets 38 = .ok (.if_icmp .ne 101, 3) := by decide +kernel
theorem dX2_secondLets_41 : decode cX2_secondLets 41 = .ok (.aload_n 0, 1) := by decide +kernel
theorem dX2_secondLets_42 : decode cX2_secondLets 42 = .ok (.getfield 18, 3) := by decide +kernel
theorem dX2_secondLets_45 : decode cX2_secondLets 45 = .ok (.iload 8, 2) := by decide +kernel
theorem dX2_secondLets_47 : decode cX2_secondLets 47 = .ok (.iaload, 1) := by decide +kernel
theorem dX2_secondLets_48 : decode cX2_secondLets 48 = .ok (.ifCond .ne 91, 3) := by decide +kernel
theorem dX2_secondLets_51 : decode cX2_secondLets 51 = .ok (.aload_n 2, 1) := by decide +kernel
theorem dX2_secondLets_52 : decode cX2_secondLets 52 = .ok (.aload_n 0, 1) := by decide +kernel
theorem dX2_secondLets_53 : decode cX2_secondLets 53 = .ok (.getfield 24, 3) := by decide +kernel
theorem dX2_secondLets_56 : decode cX2_secondLets 56 = .ok (.iload 8, 2) := by decide +kernel
theorem dX2_secondLets_58 : decode cX2_secondLets 58 = .ok (.iaload, 1) := by decide +kernel
theorem dX2_secondLets_59 : decode cX2_secondLets 59 = .ok (.invokevirtual 93, 3) := by decide +kernel
theorem dX2_secondLets_62 : decode cX2_secondLets 62 = .ok (.iload_n 3, 1) := by decide +kernel
theorem dX2_secondLets_63 : decode cX2_secondLets 63 = .ok (.iadd, 1) := by decide +kernel
theorem dX2_secondLets_64 : decode cX2_secondLets 64 = .ok (.aload_n 2, 1) := by decide +kernel
theorem dX2_secondLets_65 : decode cX2_secondLets 65 = .ok (.aload_n 0, 1) := by decide +kernel
theorem dX2_secondLets_66 : decode cX2_secondLets 66 = .ok (.getfield 21, 3) := by decide +kernel
theorem dX2_secondLets_69 : decode cX2_secondLets 69 = .ok (.iload 8, 2) := by decide +kernel
theorem dX2_secondLets_71 : decode cX2_secondLets 71 = .ok (.iaload, 1) := by decide +kernel
theorem dX2_secondLets_72 : decode cX2_secondLets 72 = .ok (.invokevirtual 93, 3) := by decide +kernel
theorem dX2_secondLets_75 : decode cX2_secondLets 75 = .ok (.isub, 1) := by decide +kernel
theorem dX2_secondLets_76 : decode cX2_secondLets 76 = .ok (.istore 9, 2) := by decide +kernel
theorem dX2_secondLets_78 : decode cX2_secondLets 78 = .ok (.iconst 0, 1) := by decide +kernel
theorem dX2_secondLets_79 : decode cX2_secondLets 79 = .ok (.istore 10, 2) := by decide +kernel
theorem dX2_secondLets_81 : decode cX2_secondLets 81 = .ok (.iload 10, 2) := by decide +kernel
theorem dX2_secondLets_83 : decode cX2_secondLets 83 = .ok (.iload 7, 2) := by decide +kernel
theorem dX2_secondLets_85 : decode cX2_secondLets 85 = .ok (.if_icmp .gt 54, 3) := by decide +kernel
theorem dX2_secondLets_88 : decode cX2_secondLets 88 = .ok (.aload 5, 2) := by decide +kernel
theorem dX2_secondLets_90 : decode cX2_secondLets 90 = .ok (.aload_n 0, 1) := by decide +kernel
theorem dX2_secondLets_91 : decode cX2_secondLets 91 = .ok (.getfield 27, 3) := by decide +kernel
theorem dX2_secondLets_94 : decode cX2_secondLets 94 = .ok (.iload 8, 2) := by decide +kernel
theorem dX2_secondLets_96 : decode cX2_secondLets 96 = .ok (.iaload, 1) := by decide +kernel
theorem dX2_secondLets_97 : decode cX2_secondLets 97 = .ok (.aload 6, 2) := by decide +kernel
theorem dX2_secondLets_99 : decode cX2_secondLets 99 = .ok (.iload 9, 2) := by decide +kernel
theorem dX2_secondLets_101 : decode cX2_secondLets 101 = .ok (.iload 4, 2) := by decide +kernel
theorem dX2_secondLets_103 : decode cX2_secondLets 103 = .ok (.iload 10, 2) := by decide +kernel
theorem dX2_secondLets_105 : decode cX2_secondLets 105 = .ok (.invokevirtual 111, 3) := by decide +kernel
theorem dX2_secondLets_108 : decode cX2_secondLets 108 = .ok (.aload 6, 2) := by decide +kernel
theorem dX2_secondLets_110 : decode cX2_secondLets 110 = .ok (.invokevirtual 115, 3) := by decide +kernel
theorem dX2_secondLets_113 : decode cX2_secondLets 113 = .ok (.aload_n 0, 1) := by decide +kernel
theorem dX2_secondLets_114 : decode cX2_secondLets 114 = .ok (.getfield 30, 3) := by decide +kernel
theorem dX2_secondLets_117 : decode cX2_secondLets 117 = .ok (.iload 8, 2) := by decide +kernel
theorem dX2_secondLets_119 : decode cX2_secondLets 119 = .ok (.iconst 3, 1) := by decide +kernel
theorem dX2_secondLets_120 : decode cX2_secondLets 120 = .ok (.imul, 1) := by decide +kernel
theorem dX2_secondLets_121 : decode cX2_secondLets 121 = .ok (.iload 10, 2) := by decide +kernel
theorem dX2_secondLets_123 : decode cX2_secondLets 123 = .ok (.iadd, 1) := by decide +kernel
theorem dX2_secondLets_124 : decode cX2_secondLets 124 = .ok (.iaload, 1) := by decide +kernel
theorem dX2_secondLets_125 : decode cX2_secondLets 125 = .ok (.invokevirtual 105, 3) := by decide +kernel
theorem dX2_secondLets_128 : decode cX2_secondLets 128 = .ok (.ifCond .ne 5, 3) := by decide +kernel
theorem dX2_secondLets_131 : decode cX2_secondLets 131 = .ok (.iconst 0, 1) := by decide +kernel
theorem dX2_secondLets_132 : decode cX2_secondLets 132 = .ok (.ireturn, 1) := by decide +kernel
theorem dX2_secondLets_133 : decode cX2_secondLets 133 = .ok (.iinc 10 1, 3) := by decide +kernel
theorem dX2_secondLets_136 : decode cX2_secondLets 136 = .ok (.goto (-55), 3) := by decide +kernel
theorem dX2_secondLets_139 : decode cX2_secondLets 139 = .ok (.iinc 8 1, 3) := by decide +kernel
theorem dX2_secondLets_142 : decode cX2_secondLets 142 = .ok (.goto (-121), 3) := by decide +kernel
theorem dX2_secondLets_145 : decode cX2_secondLets 145 = .ok (.iconst 1, 1) := by decide +kernel
theorem dX2_secondLets_146 : decode cX2_secondLets 146 = .ok (.ireturn, 1) := by decide +kernel
theorem dX2_judge_0 : decode cX2_judge 0 = .ok (.aload_n 3, 1) := by decide +kernel
theorem dX2_judge_1 : decode cX2_judge 1 = .ok (.getfield 119, 3) := by decide +kernel
theorem dX2_judge_4 : decode cX2_judge 4 = .ok (.iload_n 2, 1) := by decide +kernel
theorem dX2_judge_5 : decode cX2_judge 5 = .ok (.aaload, 1) := by decide +kernel
theorem dX2_judge_6 : decode cX2_judge 6 = .ok (.astore 5, 2) := by decide +kernel
theorem dX2_judge_8 : decode cX2_judge 8 = .ok (.aload_n 3, 1) := by decide +kernel
theorem dX2_judge_9 : decode cX2_judge 9 = .ok (.getfield 125, 3) := by decide +kernel
theorem dX2_judge_12 : decode cX2_judge 12 = .ok (.iload_n 1, 1) := by decide +kernel
theorem dX2_judge_13 : decode cX2_judge 13 = .ok (.aaload, 1) := by decide +kernel
theorem dX2_judge_14 : decode cX2_judge 14 = .ok (.getfield 128, 3) := by decide +kernel
theorem dX2_judge_17 : decode cX2_judge 17 = .ok (.istore 6, 2) := by decide +kernel
theorem dX2_judge_19 : decode cX2_judge 19 = .ok (.iconst 0, 1) := by decide +kernel
theorem dX2_judge_20 : decode cX2_judge 20 = .ok (.istore 7, 2) := by decide +kernel
theorem dX2_judge_22 : decode cX2_judge 22 = .ok (.bipush (-10), 2) := by decide +kernel
theorem dX2_judge_24 : decode cX2_judge 24 = .ok (.istore 8, 2) := by decide +kernel
theorem dX2_judge_26 : decode cX2_judge 26 = .ok (.iload 8, 2) := by decide +kernel
theorem dX2_judge_28 : decode cX2_judge 28 = .ok (.bipush 10, 2) := by decide +kernel
theorem dX2_judge_30 : decode cX2_judge 30 = .ok (.if_icmp .gt 40, 3) := by decide +kernel
theorem dX2_judge_33 : decode cX2_judge 33 = .ok (.aload_n 0, 1) := by decide +kernel
theorem dX2_judge_34 : decode cX2_judge 34 = .ok (.iload_n 1, 1) := by decide +kernel
theorem dX2_judge_35 : decode cX2_judge 35 = .ok (.aload 5, 2) := by decide +kernel
theorem dX2_judge_37 : decode cX2_judge 37 = .ok (.iload 8, 2) := by decide +kernel
theorem dX2_judge_39 : decode cX2_judge 39 = .ok (.aload 4, 2) := by decide +kernel
theorem dX2_judge_41 : decode cX2_judge 41 = .ok (.invokevirtual 134, 3) := by decide +kernel
theorem dX2_judge_44 : decode cX2_judge 44 = .ok (.ifCond .eq 20, 3) := by decide +kernel
theorem dX2_judge_47 : decode cX2_judge 47 = .ok (.aload_n 0, 1) := by decide +kernel
theorem dX2_judge_48 : decode cX2_judge 48 = .ok (.getfield 33, 3) := by decide +kernel
theorem dX2_judge_51 : decode cX2_judge 51 = .ok (.iload_n 2, 1) := by decide +kernel
theorem dX2_judge_52 : decode cX2_judge 52 = .ok (.bipush 21, 2) := by decide +kernel
theorem dX2_judge_54 : decode cX2_judge 54 = .ok (.imul, 1) := by decide +kernel
theorem dX2_judge_55 : decode cX2_judge 55 = .ok (.iload 7, 2) := by decide +kernel
theorem dX2_judge_57 : decode cX2_judge 57 = .ok (.iadd, 1) := by decide +kernel
theorem dX2_judge_58 : decode cX2_judge 58 = .ok (.iload 8, 2) := by decide +kernel
theorem dX2_judge_60 : decode cX2_judge 60 = .ok (.iastore, 1) := by decide +kernel
theorem dX2_judge_61 : decode cX2_judge 61 = .ok (.iinc 7 1, 3) := by decide +kernel
theorem dX2_judge_64 : decode cX2_judge 64 = .ok (.iinc 8 1, 3) := by decide +kernel
theorem dX2_judge_67 : decode cX2_judge 67 = .ok (.goto (-41), 3) := by decide +kernel
theorem dX2_judge_70 : decode cX2_judge 70 = .ok (.iconst 0, 1) := by decide +kernel
theorem dX2_judge_71 : decode cX2_judge 71 = .ok (.istore 8, 2) := by decide +kernel
theorem dX2_judge_73 : decode cX2_judge 73 = .ok (.bipush (-5), 2) := by decide +kernel
theorem dX2_judge_75 : decode cX2_judge 75 = .ok (.istore 9, 2) := by decide +kernel
theorem dX2_judge_77 : decode cX2_judge 77 = .ok (.iload 9, 2) := by decide +kernel
theorem dX2_judge_79 : decode cX2_judge 79 = .ok (.iconst 5, 1) := by decide +kernel
theorem dX2_judge_80 : decode cX2_judge 80 = .ok (.if_icmp .gt 47, 3) := by decide +kernel
theorem dX2_judge_83 : decode cX2_judge 83 = .ok (.iload 7, 2) := by decide +kernel
theorem dX2_judge_85 : decode cX2_judge 85 = .ok (.ifCond .le 36, 3) := by decide +kernel
theorem dX2_judge_88 : decode cX2_judge 88 = .ok (.aload_n 0, 1) := by decide +kernel
theorem dX2_judge_89 : decode cX2_judge 89 = .ok (.iload_n 1, 1) := by decide +kernel
theorem dX2_judge_90 : decode cX2_judge 90 = .ok (.aload 5, 2) := by decide +kernel
theorem dX2_judge_92 : decode cX2_judge 92 = .ok (.iload 9, 2) := by decide +kernel
theorem dX2_judge_94 : decode cX2_judge 94 = .ok (.iload 6, 2) := by decide +kernel
theorem dX2_judge_96 : decode cX2_judge 96 = .ok (.aload 4, 2) := by decide +kernel
theorem dX2_judge_98 : decode cX2_judge 98 = .ok (.invokevirtual 138, 3) := by decide +kernel
theorem dX2_judge_101 : decode cX2_judge 101 = .ok (.ifCond .eq 20, 3) := by decide +kernel
theorem dX2_judge_104 : decode cX2_judge 104 = .ok (.aload_n 0, 1) := by decide +kernel
theorem dX2_judge_105 : decode cX2_judge 105 = .ok (.getfield 36, 3) := by decide +kernel
theorem dX2_judge_108 : decode cX2_judge 108 = .ok (.iload_n 2, 1) := by decide +kernel
theorem dX2_judge_109 : decode cX2_judge 109 = .ok (.bipush 11, 2) := by decide +kernel
theorem dX2_judge_111 : decode cX2_judge 111 = .ok (.imul, 1) := by decide +kernel
theorem dX2_judge_112 : decode cX2_judge 112 = .ok (.iload 8, 2) := by decide +kernel
theorem dX2_judge_114 : decode cX2_judge 114 = .ok (.iadd, 1) := by decide +kernel
theorem dX2_judge_115 : decode cX2_judge 115 = .ok (.iload 9, 2) := by decide +kernel
theorem dX2_judge_117 : decode cX2_judge 117 = .ok (.iastore, 1) := by decide +kernel
theorem dX2_judge_118 : decode cX2_judge 118 = .ok (.iinc 8 1, 3) := by decide +kernel
theorem dX2_judge_121 : decode cX2_judge 121 = .ok (.iinc 9 1, 3) := by decide +kernel
theorem dX2_judge_124 : decode cX2_judge 124 = .ok (.goto (-47), 3) := by decide +kernel
theorem dX2_judge_127 : decode cX2_judge 127 = .ok (.aload_n 0, 1) := by decide +kernel
theorem dX2_judge_128 : decode cX2_judge 128 = .ok (.getfield 39, 3) := by decide +kernel
theorem dX2_judge_131 : decode cX2_judge 131 = .ok (.iload_n 2, 1) := by decide +kernel
theorem dX2_judge_132 : decode cX2_judge 132 = .ok (.iload 7, 2) := by decide +kernel
theorem dX2_judge_134 : decode cX2_judge 134 = .ok (.iastore, 1) := by decide +kernel
theorem dX2_judge_135 : decode cX2_judge 135 = .ok (.aload_n 0, 1) := by decide +kernel
theorem dX2_judge_136 : decode cX2_judge 136 = .ok (.getfield 42, 3) := by decide +kernel
theorem dX2_judge_139 : decode cX2_judge 139 = .ok (.iload_n 2, 1) := by decide +kernel
theorem dX2_judge_140 : decode cX2_judge 140 = .ok (.iload 8, 2) := by decide +kernel
theorem dX2_judge_142 : decode cX2_judge 142 = .ok (.iastore, 1) := by decide +kernel
theorem dX2_judge_143 : decode cX2_judge 143 = .ok (.return_, 1) := by decide +kernel
theorem dX2_fitsOf_0 : decode cX2_fitsOf 0 = .ok (.aload_n 0, 1) := by decide +kernel
theorem dX2_fitsOf_1 : decode cX2_fitsOf 1 = .ok (.getfield 39, 3) := by decide +kernel
theorem dX2_fitsOf_4 : decode cX2_fitsOf 4 = .ok (.iload_n 1, 1) := by decide +kernel
theorem dX2_fitsOf_5 : decode cX2_fitsOf 5 = .ok (.iaload, 1) := by decide +kernel
theorem dX2_fitsOf_6 : decode cX2_fitsOf 6 = .ok (.aload_n 0, 1) := by decide +kernel
theorem dX2_fitsOf_7 : decode cX2_fitsOf 7 = .ok (.getfield 42, 3) := by decide +kernel
theorem dX2_fitsOf_10 : decode cX2_fitsOf 10 = .ok (.iload_n 1, 1) := by decide +kernel
theorem dX2_fitsOf_11 : decode cX2_fitsOf 11 = .ok (.iaload, 1) := by decide +kernel
theorem dX2_fitsOf_12 : decode cX2_fitsOf 12 = .ok (.imul, 1) := by decide +kernel
theorem dX2_fitsOf_13 : decode cX2_fitsOf 13 = .ok (.ireturn, 1) := by decide +kernel
theorem dX2_fitLine_0 : decode cX2_fitLine 0 = .ok (.iload_n 2, 1) := by decide +kernel
theorem dX2_fitLine_1 : decode cX2_fitLine 1 = .ok (.ifCond .lt 12, 3) := by decide +kernel
theorem dX2_fitLine_4 : decode cX2_fitLine 4 = .ok (.iload_n 2, 1) := by decide +kernel
theorem dX2_fitLine_5 : decode cX2_fitLine 5 = .ok (.aload_n 0, 1) := by decide +kernel
theorem dX2_fitLine_6 : decode cX2_fitLine 6 = .ok (.iload_n 1, 1) := by decide +kernel
theorem dX2_fitLine_7 : decode cX2_fitLine 7 = .ok (.invokevirtual 142, 3) := by decide +kernel
theorem dX2_fitLine_10 : decode cX2_fitLine 10 = .ok (.if_icmp .lt 7, 3) := by decide +kernel
theorem dX2_fitLine_13 : decode cX2_fitLine 13 = .ok (.iconst 0, 1) := by decide +kernel
theorem dX2_fitLine_14 : decode cX2_fitLine 14 = .ok (.goto 21, 3) := by decide +kernel
theorem dX2_fitLine_17 : decode cX2_fitLine 17 = .ok (.aload_n 0, 1) := by decide +kernel
theorem dX2_fitLine_18 : decode cX2_fitLine 18 = .ok (.getfield 33, 3) := by decide +kernel
theorem dX2_fitLine_21 : decode cX2_fitLine 21 = .ok (.iload_n 1, 1) := by decide +kernel
theorem dX2_fitLine_22 : decode cX2_fitLine 22 = .ok (.bipush 21, 2) := by decide +kernel
theorem dX2_fitLine_24 : decode cX2_fitLine 24 = .ok (.imul, 1) := by decide +kernel
theorem dX2_fitLine_25 : decode cX2_fitLine 25 = .ok (.iload_n 2, 1) := by decide +kernel
theorem dX2_fitLine_26 : decode cX2_fitLine 26 = .ok (.aload_n 0, 1) := by decide +kernel
theorem dX2_fitLine_27 : decode cX2_fitLine 27 = .ok (.getfield 42, 3) := by decide +kernel
theorem dX2_fitLine_30 : decode cX2_fitLine 30 = .ok (.iload_n 1, 1) := by decide +kernel
theorem dX2_fitLine_31 : decode cX2_fitLine 31 = .ok (.iaload, 1) := by decide +kernel
theorem dX2_fitLine_32 : decode cX2_fitLine 32 = .ok (.idiv, 1) := by decide +kernel
theorem dX2_fitLine_33 : decode cX2_fitLine 33 = .ok (.iadd, 1) := by decide +kernel
theorem dX2_fitLine_34 : decode cX2_fitLine 34 = .ok (.iaload, 1) := by decide +kernel
theorem dX2_fitLine_35 : decode cX2_fitLine 35 = .ok (.ireturn, 1) := by decide +kernel
theorem dX2_fitSecond_0 : decode cX2_fitSecond 0 = .ok (.iload_n 2, 1) := by decide +kernel
theorem dX2_fitSecond_1 : decode cX2_fitSecond 1 = .ok (.ifCond .lt 12, 3) := by decide +kernel
theorem dX2_fitSecond_4 : decode cX2_fitSecond 4 = .ok (.iload_n 2, 1) := by decide +kernel
theorem dX2_fitSecond_5 : decode cX2_fitSecond 5 = .ok (.aload_n 0, 1) := by decide +kernel
theorem dX2_fitSecond_6 : decode cX2_fitSecond 6 = .ok (.iload_n 1, 1) := by decide +kernel
theorem dX2_fitSecond_7 : decode cX2_fitSecond 7 = .ok (.invokevirtual 142, 3) := by decide +kernel
theorem dX2_fitSecond_10 : decode cX2_fitSecond 10 = .ok (.if_icmp .lt 7, 3) := by decide +kernel
theorem dX2_fitSecond_13 : decode cX2_fitSecond 13 = .ok (.iconst 0, 1) := by decide +kernel
theorem dX2_fitSecond_14 : decode cX2_fitSecond 14 = .ok (.goto 21, 3) := by decide +kernel
theorem dX2_fitSecond_17 : decode cX2_fitSecond 17 = .ok (.aload_n 0, 1) := by decide +kernel
theorem dX2_fitSecond_18 : decode cX2_fitSecond 18 = .ok (.getfield 36, 3) := by decide +kernel
theorem dX2_fitSecond_21 : decode cX2_fitSecond 21 = .ok (.iload_n 1, 1) := by decide +kernel
theorem dX2_fitSecond_22 : decode cX2_fitSecond 22 = .ok (.bipush 11, 2) := by decide +kernel
theorem dX2_fitSecond_24 : decode cX2_fitSecond 24 = .ok (.imul, 1) := by decide +kernel
theorem dX2_fitSecond_25 : decode cX2_fitSecond 25 = .ok (.iload_n 2, 1) := by decide +kernel
theorem dX2_fitSecond_26 : decode cX2_fitSecond 26 = .ok (.aload_n 0, 1) := by decide +kernel
theorem dX2_fitSecond_27 : decode cX2_fitSecond 27 = .ok (.getfield 42, 3) := by decide +kernel
theorem dX2_fitSecond_30 : decode cX2_fitSecond 30 = .ok (.iload_n 1, 1) := by decide +kernel
theorem dX2_fitSecond_31 : decode cX2_fitSecond 31 = .ok (.iaload, 1) := by decide +kernel
theorem dX2_fitSecond_32 : decode cX2_fitSecond 32 = .ok (.irem, 1) := by decide +kernel
theorem dX2_fitSecond_33 : decode cX2_fitSecond 33 = .ok (.iadd, 1) := by decide +kernel
theorem dX2_fitSecond_34 : decode cX2_fitSecond 34 = .ok (.iaload, 1) := by decide +kernel
theorem dX2_fitSecond_35 : decode cX2_fitSecond 35 = .ok (.ireturn, 1) := by decide +kernel
theorem dX3_init_0 : decode cX3_init 0 = .ok (.aload_n 0, 1) := by decide +kernel
theorem dX3_init_1 : decode cX3_init 1 = .ok (.invokespecial 3, 3) := by decide +kernel
theorem dX3_init_4 : decode cX3_init 4 = .ok (.aload_n 0, 1) := by decide +kernel
theorem dX3_init_5 : decode cX3_init 5 = .ok (.bipush 6, 2) := by decide +kernel
theorem dX3_init_7 : decode cX3_init 7 = .ok (.anewarray 9, 3) := by decide +kernel
theorem dX3_init_10 : decode cX3_init 10 = .ok (.putfield 11, 3) := by decide +kernel
theorem dX3_init_13 : decode cX3_init 13 = .ok (.aload_n 0, 1) := by decide +kernel
theorem dX3_init_14 : decode cX3_init 14 = .ok (.bipush 6, 2) := by decide +kernel
theorem dX3_init_16 : decode cX3_init 16 = .ok (.anewarray 17, 3) := by decide +kernel
theorem dX3_init_19 : decode cX3_init 19 = .ok (.putfield 19, 3) := by decide +kernel
theorem dX3_init_22 : decode cX3_init 22 = .ok (.aload_n 0, 1) := by decide +kernel
theorem dX3_init_23 : decode cX3_init 23 = .ok (.iconst 4, 1) := by decide +kernel
theorem dX3_init_24 : decode cX3_init 24 = .ok (.anewarray 23, 3) := by decide +kernel
theorem dX3_init_27 : decode cX3_init 27 = .ok (.putfield 25, 3) := by decide +kernel
theorem dX3_init_30 : decode cX3_init 30 = .ok (.aload_n 0, 1) := by decide +kernel
theorem dX3_init_31 : decode cX3_init 31 = .ok (.iconst 4, 1) := by decide +kernel
theorem dX3_init_32 : decode cX3_init 32 = .ok (.anewarray 29, 3) := by decide +kernel
theorem dX3_init_35 : decode cX3_init 35 = .ok (.putfield 31, 3) := by decide +kernel
theorem dX3_init_38 : decode cX3_init 38 = .ok (.aload_n 0, 1) := by decide +kernel
theorem dX3_init_39 : decode cX3_init 39 = .ok (.bipush 20, 2) := by decide +kernel
theorem dX3_init_41 : decode cX3_init 41 = .ok (.newarray .long, 2) := by decide +kernel
theorem dX3_init_43 : decode cX3_init 43 = .ok (.putfield 35, 3) := by decide +kernel
theorem dX3_init_46 : decode cX3_init 46 = .ok (.aload_n 0, 1) := by decide +kernel
theorem dX3_init_47 : decode cX3_init 47 = .ok (.bipush 20, 2) := by decide +kernel
theorem dX3_init_49 : decode cX3_init 49 = .ok (.newarray .int, 2) := by decide +kernel
theorem dX3_init_51 : decode cX3_init 51 = .ok (.putfield 39, 3) := by decide +kernel
theorem dX3_init_54 : decode cX3_init 54 = .ok (.iconst 0, 1) := by decide +kernel
theorem dX3_init_55 : decode cX3_init 55 = .ok (.istore_n 1, 1) := by decide +kernel
theorem dX3_init_56 : decode cX3_init 56 = .ok (.iload_n 1, 1) := by decide +kernel
theorem dX3_init_57 : decode cX3_init 57 = .ok (.bipush 6, 2) := by decide +kernel
theorem dX3_init_59 : decode cX3_init 59 = .ok (.if_icmp .ge 22, 3) := by decide +kernel
theorem dX3_init_62 : decode cX3_init 62 = .ok (.aload_n 0, 1) := by decide +kernel
theorem dX3_init_63 : decode cX3_init 63 = .ok (.getfield 11, 3) := by decide +kernel
theorem dX3_init_66 : decode cX3_init 66 = .ok (.iload_n 1, 1) := by decide +kernel
theorem dX3_init_67 : decode cX3_init 67 = .ok (.new 9, 3) := by decide +kernel
theorem dX3_init_70 : decode cX3_init 70 = .ok (.dup, 1) := by decide +kernel
theorem dX3_init_71 : decode cX3_init 71 = .ok (.invokespecial 43, 3) := by decide +kernel
theorem dX3_init_74 : decode cX3_init 74 = .ok (.aastore, 1) := by decide +kernel
theorem dX3_init_75 : decode cX3_init 75 = .ok (.iinc 1 1, 3) := by decide +kernel
theorem dX3_init_78 : decode cX3_init 78 = .ok (.goto (-22), 3) := by decide +kernel
theorem dX3_init_81 : decode cX3_init 81 = .ok (.iconst 0, 1) := by decide +kernel
theorem dX3_init_82 : decode cX3_init 82 = .ok (.istore_n 1, 1) := by decide +kernel
theorem dX3_init_83 : decode cX3_init 83 = .ok (.iload_n 1, 1) := by decide +kernel
theorem dX3_init_84 : decode cX3_init 84 = .ok (.bipush 6, 2) := by decide +kernel
theorem dX3_init_86 : decode cX3_init 86 = .ok (.if_icmp .ge 22, 3) := by decide +kernel
theorem dX3_init_89 : decode cX3_init 89 = .ok (.aload_n 0, 1) := by decide +kernel
theorem dX3_init_90 : decode cX3_init 90 = .ok (.getfield 19, 3) := by decide +kernel
theorem dX3_init_93 : decode cX3_init 93 = .ok (.iload_n 1, 1) := by decide +kernel
theorem dX3_init_94 : decode cX3_init 94 = .ok (.new 17, 3) := by decide +kernel
theorem dX3_init_97 : decode cX3_init 97 = .ok (.dup, 1) := by decide +kernel
theorem dX3_init_98 : decode cX3_init 98 = .ok (.invokespecial 44, 3) := by decide +kernel
theorem dX3_init_101 : decode cX3_init 101 = .ok (.aastore, 1) := by decide +kernel
theorem dX3_init_102 : decode cX3_init 102 = .ok (.iinc 1 1, 3) := by decide +kernel
theorem dX3_init_105 : decode cX3_init 105 = .ok (.goto (-22), 3) := by decide +kernel
theorem dX3_init_108 : decode cX3_init 108 = .ok (.iconst 0, 1) := by decide +kernel
theorem dX3_init_109 : decode cX3_init 109 = .ok (.istore_n 1, 1) := by decide +kernel
theorem dX3_init_110 : decode cX3_init 110 = .ok (.iload_n 1, 1) := by decide +kernel
theorem dX3_init_111 : decode cX3_init 111 = .ok (.iconst 4, 1) := by decide +kernel
theorem dX3_init_112 : decode cX3_init 112 = .ok (.if_icmp .ge 22, 3) := by decide +kernel
theorem dX3_init_115 : decode cX3_init 115 = .ok (.aload_n 0, 1) := by decide +kernel
theorem dX3_init_116 : decode cX3_init 116 = .ok (.getfield 25, 3) := by decide +kernel
theorem dX3_init_119 : decode cX3_init 119 = .ok (.iload_n 1, 1) := by decide +kernel
theorem dX3_init_120 : decode cX3_init 120 = .ok (.new 23, 3) := by decide +kernel
theorem dX3_init_123 : decode cX3_init 123 = .ok (.dup, 1) := by decide +kernel
theorem dX3_init_124 : decode cX3_init 124 = .ok (.invokespecial 45, 3) := by decide +kernel
theorem dX3_init_127 : decode cX3_init 127 = .ok (.aastore, 1) := by decide +kernel
theorem dX3_init_128 : decode cX3_init 128 = .ok (.iinc 1 1, 3) := by decide +kernel
theorem dX3_init_131 : decode cX3_init 131 = .ok (.goto (-21), 3) := by decide +kernel
theorem dX3_init_134 : decode cX3_init 134 = .ok (.iconst 0, 1) := by decide +kernel
theorem dX3_init_135 : decode cX3_init 135 = .ok (.istore_n 1, 1) := by decide +kernel
theorem dX3_init_136 : decode cX3_init 136 = .ok (.iload_n 1, 1) := by decide +kernel
theorem dX3_init_137 : decode cX3_init 137 = .ok (.iconst 4, 1) := by decide +kernel
theorem dX3_init_138 : decode cX3_init 138 = .ok (.if_icmp .ge 22, 3) := by decide +kernel
theorem dX3_init_141 : decode cX3_init 141 = .ok (.aload_n 0, 1) := by decide +kernel
theorem dX3_init_142 : decode cX3_init 142 = .ok (.getfield 31, 3) := by decide +kernel
theorem dX3_init_145 : decode cX3_init 145 = .ok (.iload_n 1, 1) := by decide +kernel
theorem dX3_init_146 : decode cX3_init 146 = .ok (.new 29, 3) := by decide +kernel
theorem dX3_init_149 : decode cX3_init 149 = .ok (.dup, 1) := by decide +kernel
theorem dX3_init_150 : decode cX3_init 150 = .ok (.invokespecial 46, 3) := by decide +kernel
theorem dX3_init_153 : decode cX3_init 153 = .ok (.aastore, 1) := by decide +kernel
theorem dX3_init_154 : decode cX3_init 154 = .ok (.iinc 1 1, 3) := by decide +kernel
theorem dX3_init_157 : decode cX3_init 157 = .ok (.goto (-21), 3) := by decide +kernel
theorem dX3_init_160 : decode cX3_init 160 = .ok (.return_, 1) := by decide +kernel
theorem dX3_empty_0 : decode cX3_empty 0 = .ok (.aload_n 0, 1) := by decide +kernel
theorem dX3_empty_1 : decode cX3_empty 1 = .ok (.iconst 0, 1) := by decide +kernel
theorem dX3_empty_2 : decode cX3_empty 2 = .ok (.putfield 47, 3) := by decide +kernel
theorem dX3_empty_5 : decode cX3_empty 5 = .ok (.aload_n 0, 1) := by decide +kernel
theorem dX3_empty_6 : decode cX3_empty 6 = .ok (.iconst 0, 1) := by decide +kernel
theorem dX3_empty_7 : decode cX3_empty 7 = .ok (.putfield 51, 3) := by decide +kernel
theorem dX3_empty_10 : decode cX3_empty 10 = .ok (.aload_n 0, 1) := by decide +kernel
theorem dX3_empty_11 : decode cX3_empty 11 = .ok (.iconst 0, 1) := by decide +kernel
theorem dX3_empty_12 : decode cX3_empty 12 = .ok (.putfield 54, 3) := by decide +kernel
theorem dX3_empty_15 : decode cX3_empty 15 = .ok (.aload_n 0, 1) := by decide +kernel
theorem dX3_empty_16 : decode cX3_empty 16 = .ok (.iconst 0, 1) := by decide +kernel
theorem dX3_empty_17 : decode cX3_empty 17 = .ok (.putfield 57, 3) := by decide +kernel
theorem dX3_empty_20 : decode cX3_empty 20 = .ok (.aload_n 0, 1) := by decide +kernel
theorem dX3_empty_21 : decode cX3_empty 21 = .ok (.iconst 0, 1) := by decide +kernel
theorem dX3_empty_22 : decode cX3_empty 22 = .ok (.putfield 60, 3) := by decide +kernel
theorem dX3_empty_25 : decode cX3_empty 25 = .ok (.return_, 1) := by decide +kernel
theorem dX3_settle_0 : decode cX3_settle 0 = .ok (.iconst 0, 1) := by decide +kernel
theorem dX3_settle_1 : decode cX3_settle 1 = .ok (.istore_n 1, 1) := by decide +kernel
theorem dX3_settle_2 : decode cX3_settle 2 = .ok (.iload_n 1, 1) := by decide +kernel
theorem dX3_settle_3 : decode cX3_settle 3 = .ok (.aload_n 0, 1) := by decide +kernel
theorem dX3_settle_4 : decode cX3_settle 4 = .ok (.getfield 47, 3) := by decide +kernel
theorem dX3_settle_7 : decode cX3_settle 7 = .ok (.if_icmp .ge 24, 3) := by decide +kernel
theorem dX3_settle_10 : decode cX3_settle 10 = .ok (.iload_n 1, 1) := by decide +kernel
theorem dX3_settle_11 : decode cX3_settle 11 = .ok (.bipush 6, 2) := by decide +kernel
theorem dX3_settle_13 : decode cX3_settle 13 = .ok (.if_icmp .ge 18, 3) := by decide +kernel
theorem dX3_settle_16 : decode cX3_settle 16 = .ok (.aload_n 0, 1) := by decide +kernel
theorem dX3_settle_17 : decode cX3_settle 17 = .ok (.getfield 11, 3) := by decide +kernel
theorem dX3_settle_20 : decode cX3_settle 20 = .ok (.iload_n 1, 1) := by decide +kernel
theorem dX3_settle_21 : decode cX3_settle 21 = .ok (.aaload, 1) := by decide +kernel
theorem dX3_settle_22 : decode cX3_settle 22 = .ok (.invokevirtual 63, 3) := by decide +kernel
theorem dX3_settle_25 : decode cX3_settle 25 = .ok (.iinc 1 1, 3) := by decide +kernel
theorem dX3_settle_28 : decode cX3_settle 28 = .ok (.goto (-26), 3) := by decide +kernel
theorem dX3_settle_31 : decode cX3_settle 31 = .ok (.return_, 1) := by decide +kernel
theorem dX3_addName_0 : decode cX3_addName 0 = .ok (.aload_n 0, 1) := by decide +kernel
theorem dX3_addName_1 : decode cX3_addName 1 = .ok (.getfield 60, 3) := by decide +kernel
theorem dX3_addName_4 : decode cX3_addName 4 = .ok (.aload_n 0, 1) := by decide +kernel
theorem dX3_addName_5 : decode cX3_addName 5 = .ok (.getfield 35, 3) := by decide +kernel
theorem dX3_addName_8 : decode cX3_addName 8 = .ok (.arraylength, 1) := by decide +kernel
theorem dX3_addName_9 : decode cX3_addName 9 = .ok (.if_icmp .ge 33, 3) := by decide +kernel
theorem dX3_addName_12 : decode cX3_addName 12 = .ok (.aload_n 0, 1) := by decide +kernel
theorem dX3_addName_13 : decode cX3_addName 13 = .ok (.getfield 35, 3) := by decide +kernel
theorem dX3_addName_16 : decode cX3_addName 16 = .ok (.aload_n 0, 1) := by decide +kernel
theorem dX3_addName_17 : decode cX3_addName 17 = .ok (.getfield 60, 3) := by decide +kernel
theorem dX3_addName_20 : decode cX3_addName 20 = .ok (.lload_n 1, 1) := by decide +kernel
theorem dX3_addName_21 : decode cX3_addName 21 = .ok (.lastore, 1) := by decide +kernel
theorem dX3_addName_22 : decode cX3_addName 22 = .ok (.aload_n 0, 1) := by decide +kernel
theorem dX3_addName_23 : decode cX3_addName 23 = .ok (.getfield 39, 3) := by decide +kernel
theorem dX3_addName_26 : decode cX3_addName 26 = .ok (.aload_n 0, 1) := by decide +kernel
theorem dX3_addName_27 : decode cX3_addName 27 = .ok (.getfield 60, 3) := by decide +kernel
theorem dX3_addName_30 : decode cX3_addName 30 = .ok (.iload_n 3, 1) := by decide +kernel
theorem dX3_addName_31 : decode cX3_addName 31 = .ok (.iastore, 1) := by decide +kernel
theorem dX3_addName_32 : decode cX3_addName 32 = .ok (.aload_n 0, 1) := by decide +kernel
theorem dX3_addName_33 : decode cX3_addName 33 = .ok (.dup, 1) := by decide +kernel
theorem dX3_addName_34 : decode cX3_addName 34 = .ok (.getfield 60, 3) := by decide +kernel
theorem dX3_addName_37 : decode cX3_addName 37 = .ok (.iconst 1, 1) := by decide +kernel
theorem dX3_addName_38 : decode cX3_addName 38 = .ok (.iadd, 1) := by decide +kernel
theorem dX3_addName_39 : decode cX3_addName 39 = .ok (.putfield 60, 3) := by decide +kernel
theorem dX3_addName_42 : decode cX3_addName 42 = .ok (.return_, 1) := by decide +kernel
theorem dX3_namedBy_0 : decode cX3_namedBy 0 = .ok (.iconst 0, 1) := by decide +kernel
theorem dX3_namedBy_1 : decode cX3_namedBy 1 = .ok (.istore_n 3, 1) := by decide +kernel
theorem dX3_namedBy_2 : decode cX3_namedBy 2 = .ok (.iload_n 3, 1) := by decide +kernel
theorem dX3_namedBy_3 : decode cX3_namedBy 3 = .ok (.aload_n 0, 1) := by decide +kernel
theorem dX3_namedBy_4 : decode cX3_namedBy 4 = .ok (.getfield 60, 3) := by decide +kernel
theorem dX3_namedBy_7 : decode cX3_namedBy 7 = .ok (.if_icmp .ge 36, 3) := by decide +kernel
theorem dX3_namedBy_10 : decode cX3_namedBy 10 = .ok (.iload_n 3, 1) := by decide +kernel
theorem dX3_namedBy_11 : decode cX3_namedBy 11 = .ok (.aload_n 0, 1) := by decide +kernel
theorem dX3_namedBy_12 : decode cX3_namedBy 12 = .ok (.getfield 35, 3) := by decide +kernel
theorem dX3_namedBy_15 : decode cX3_namedBy 15 = .ok (.arraylength, 1) := by decide +kernel
theorem dX3_namedBy_16 : decode cX3_namedBy 16 = .ok (.if_icmp .ge 27, 3) := by decide +kernel
theorem dX3_namedBy_19 : decode cX3_namedBy 19 = .ok (.aload_n 0, 1) := by decide +kernel
theorem dX3_namedBy_20 : decode cX3_namedBy 20 = .ok (.getfield 35, 3) := by decide +kernel
theorem dX3_namedBy_23 : decode cX3_namedBy 23 = .ok (.iload_n 3, 1) := by decide +kernel
theorem dX3_namedBy_24 : decode cX3_namedBy 24 = .ok (.laload, 1) := by decide +kernel
theorem dX3_namedBy_25 : decode cX3_namedBy 25 = .ok (.lload_n 1, 1) := by decide +kernel
theorem dX3_namedBy_26 : decode cX3_namedBy 26 = .ok (.lcmp, 1) := by decide +kernel
theorem dX3_namedBy_27 : decode cX3_namedBy 27 = .ok (.ifCond .ne 10, 3) := by decide +kernel
theorem dX3_namedBy_30 : decode cX3_namedBy 30 = .ok (.aload_n 0, 1) := by decide +kernel
theorem dX3_namedBy_31 : decode cX3_namedBy 31 = .ok (.getfield 39, 3) := by decide +kernel
theorem dX3_namedBy_34 : decode cX3_namedBy 34 = .ok (.iload_n 3, 1) := by decide +kernel
theorem dX3_namedBy_35 : decode cX3_namedBy 35 = .ok (.iaload, 1) := by decide +kernel
theorem dX3_namedBy_36 : decode cX3_namedBy 36 = .ok (.ireturn, 1) := by decide +kernel
theorem dX3_namedBy_37 : decode cX3_namedBy 37 = .ok (.iinc 3 1, 3) := by decide +kernel
theorem dX3_namedBy_40 : decode cX3_namedBy 40 = .ok (.goto (-38), 3) := by decide +kernel
theorem dX3_namedBy_43 : decode cX3_namedBy 43 = .ok (.bipush (-2), 2) := by decide +kernel
theorem dX3_namedBy_45 : decode cX3_namedBy 45 = .ok (.ireturn, 1) := by decide +kernel
theorem dX4_init_0 : decode cX4_init 0 = .ok (.aload_n 0, 1) := by decide +kernel
theorem dX4_init_1 : decode cX4_init 1 = .ok (.invokespecial 3, 3) := by decide +kernel
theorem dX4_init_4 : decode cX4_init 4 = .ok (.aload_n 0, 1) := by decide +kernel
theorem dX4_init_5 : decode cX4_init 5 = .ok (.bipush 11, 2) := by decide +kernel
theorem dX4_init_7 : decode cX4_init 7 = .ok (.newarray .int, 2) := by decide +kernel
theorem dX4_init_9 : decode cX4_init 9 = .ok (.putfield 9, 3) := by decide +kernel
theorem dX4_init_12 : decode cX4_init 12 = .ok (.aload_n 0, 1) := by decide +kernel
theorem dX4_init_13 : decode cX4_init 13 = .ok (.bipush 12, 2) := by decide +kernel
theorem dX4_init_15 : decode cX4_init 15 = .ok (.newarray .int, 2) := by decide +kernel
theorem dX4_init_17 : decode cX4_init 17 = .ok (.putfield 15, 3) := by decide +kernel
theorem dX4_init_20 : decode cX4_init 20 = .ok (.aload_n 0, 1) := by decide +kernel
theorem dX4_init_21 : decode cX4_init 21 = .ok (.bipush 22, 2) := by decide +kernel
theorem dX4_init_23 : decode cX4_init 23 = .ok (.newarray .int, 2) := by decide +kernel
theorem dX4_init_25 : decode cX4_init 25 = .ok (.putfield 18, 3) := by decide +kernel
theorem dX4_init_28 : decode cX4_init 28 = .ok (.return_, 1) := by decide +kernel
theorem dX4_fill_0 : decode cX4_fill 0 = .ok (.aload_n 0, 1) := by decide +kernel
theorem dX4_fill_1 : decode cX4_fill 1 = .ok (.getfield 9, 3) := by decide +kernel
theorem dX4_fill_4 : decode cX4_fill 4 = .ok (.iconst 0, 1) := by decide +kernel
theorem dX4_fill_5 : decode cX4_fill 5 = .ok (.invokestatic 21, 3) := by decide +kernel
theorem dX4_fill_8 : decode cX4_fill 8 = .ok (.iconst 0, 1) := by decide +kernel
theorem dX4_fill_9 : decode cX4_fill 9 = .ok (.istore_n 3, 1) := by decide +kernel
theorem dX4_fill_10 : decode cX4_fill 10 = .ok (.iload_n 3, 1) := by decide +kernel
theorem dX4_fill_11 : decode cX4_fill 11 = .ok (.iload_n 2, 1) := by decide +kernel
theorem dX4_fill_12 : decode cX4_fill 12 = .ok (.if_icmp .ge 42, 3) := by decide +kernel
theorem dX4_fill_15 : decode cX4_fill 15 = .ok (.iload_n 3, 1) := by decide +kernel
theorem dX4_fill_16 : decode cX4_fill 16 = .ok (.aload_n 1, 1) := by decide +kernel
theorem dX4_fill_17 : decode cX4_fill 17 = .ok (.arraylength, 1) := by decide +kernel
theorem dX4_fill_18 : decode cX4_fill 18 = .ok (.if_icmp .ge 36, 3) := by decide +kernel
theorem dX4_fill_21 : decode cX4_fill 21 = .ok (.iload_n 3, 1) := by decide +kernel
theorem dX4_fill_22 : decode cX4_fill 22 = .ok (.iconst 5, 1) := by decide +kernel
theorem dX4_fill_23 : decode cX4_fill 23 = .ok (.if_icmp .gt 31, 3) := by decide +kernel
theorem dX4_fill_26 : decode cX4_fill 26 = .ok (.aload_n 0, 1) := by decide +kernel
theorem dX4_fill_27 : decode cX4_fill 27 = .ok (.getfield 9, 3) := by decide +kernel
theorem dX4_fill_30 : decode cX4_fill 30 = .ok (.iconst 5, 1) := by decide +kernel
theorem dX4_fill_31 : decode cX4_fill 31 = .ok (.iload_n 3, 1) := by decide +kernel
theorem dX4_fill_32 : decode cX4_fill 32 = .ok (.iadd, 1) := by decide +kernel
theorem dX4_fill_33 : decode cX4_fill 33 = .ok (.aload_n 1, 1) := by decide +kernel
theorem dX4_fill_34 : decode cX4_fill 34 = .ok (.iload_n 3, 1) := by decide +kernel
theorem dX4_fill_35 : decode cX4_fill 35 = .ok (.iaload, 1) := by decide +kernel
theorem dX4_fill_36 : decode cX4_fill 36 = .ok (.iastore, 1) := by decide +kernel
theorem dX4_fill_37 : decode cX4_fill 37 = .ok (.aload_n 0, 1) := by decide +kernel
theorem dX4_fill_38 : decode cX4_fill 38 = .ok (.getfield 9, 3) := by decide +kernel
theorem dX4_fill_41 : decode cX4_fill 41 = .ok (.iconst 5, 1) := by decide +kernel
theorem dX4_fill_42 : decode cX4_fill 42 = .ok (.iload_n 3, 1) := by decide +kernel
theorem dX4_fill_43 : decode cX4_fill 43 = .ok (.isub, 1) := by decide +kernel
theorem dX4_fill_44 : decode cX4_fill 44 = .ok (.aload_n 1, 1) := by decide +kernel
theorem dX4_fill_45 : decode cX4_fill 45 = .ok (.iload_n 3, 1) := by decide +kernel
theorem dX4_fill_46 : decode cX4_fill 46 = .ok (.iaload, 1) := by decide +kernel
theorem dX4_fill_47 : decode cX4_fill 47 = .ok (.iastore, 1) := by decide +kernel
theorem dX4_fill_48 : decode cX4_fill 48 = .ok (.iinc 3 1, 3) := by decide +kernel
theorem dX4_fill_51 : decode cX4_fill 51 = .ok (.goto (-41), 3) := by decide +kernel
theorem dX4_fill_54 : decode cX4_fill 54 = .ok (.aload_n 0, 1) := by decide +kernel
theorem dX4_fill_55 : decode cX4_fill 55 = .ok (.getfield 15, 3) := by decide +kernel
theorem dX4_fill_58 : decode cX4_fill 58 = .ok (.iconst 0, 1) := by decide +kernel
theorem dX4_fill_59 : decode cX4_fill 59 = .ok (.invokestatic 21, 3) := by decide +kernel
theorem dX4_fill_62 : decode cX4_fill 62 = .ok (.aload_n 0, 1) := by decide +kernel
theorem dX4_fill_63 : decode cX4_fill 63 = .ok (.getfield 18, 3) := by decide +kernel
theorem dX4_fill_66 : decode cX4_fill 66 = .ok (.iconst 0, 1) := by decide +kernel
theorem dX4_fill_67 : decode cX4_fill 67 = .ok (.invokestatic 21, 3) := by decide +kernel
theorem dX4_fill_70 : decode cX4_fill 70 = .ok (.iconst 0, 1) := by decide +kernel
theorem dX4_fill_71 : decode cX4_fill 71 = .ok (.istore_n 3, 1) := by decide +kernel
theorem dX4_fill_72 : decode cX4_fill 72 = .ok (.iload_n 3, 1) := by decide +kernel
theorem dX4_fill_73 : decode cX4_fill 73 = .ok (.aload_n 0, 1) := by decide +kernel
theorem dX4_fill_74 : decode cX4_fill 74 = .ok (.getfield 9, 3) := by decide +kernel
theorem dX4_fill_77 : decode cX4_fill 77 = .ok (.arraylength, 1) := by decide +kernel
theorem dX4_fill_78 : decode cX4_fill 78 = .ok (.if_icmp .ge 69, 3) := by decide +kernel
theorem dX4_fill_81 : decode cX4_fill 81 = .ok (.aload_n 0, 1) := by decide +kernel
theorem dX4_fill_82 : decode cX4_fill 82 = .ok (.getfield 15, 3) := by decide +kernel
theorem dX4_fill_85 : decode cX4_fill 85 = .ok (.iload_n 3, 1) := by decide +kernel
theorem dX4_fill_86 : decode cX4_fill 86 = .ok (.aload_n 0, 1) := by decide +kernel
theorem dX4_fill_87 : decode cX4_fill 87 = .ok (.getfield 9, 3) := by decide +kernel
theorem dX4_fill_90 : decode cX4_fill 90 = .ok (.iload_n 3, 1) := by decide +kernel
theorem dX4_fill_91 : decode cX4_fill 91 = .ok (.iaload, 1) := by decide +kernel
theorem dX4_fill_92 : decode cX4_fill 92 = .ok (.iastore, 1) := by decide +kernel
theorem dX4_fill_93 : decode cX4_fill 93 = .ok (.iconst 0, 1) := by decide +kernel
theorem dX4_fill_94 : decode cX4_fill 94 = .ok (.istore 4, 2) := by decide +kernel
theorem dX4_fill_96 : decode cX4_fill 96 = .ok (.iload 4, 2) := by decide +kernel
theorem dX4_fill_98 : decode cX4_fill 98 = .ok (.aload_n 0, 1) := by decide +kernel
theorem dX4_fill_99 : decode cX4_fill 99 = .ok (.getfield 9, 3) := by decide +kernel
theorem dX4_fill_102 : decode cX4_fill 102 = .ok (.arraylength, 1) := by decide +kernel
theorem dX4_fill_103 : decode cX4_fill 103 = .ok (.if_icmp .ge 38, 3) := by decide +kernel
theorem dX4_fill_106 : decode cX4_fill 106 = .ok (.aload_n 0, 1) := by decide +kernel
theorem dX4_fill_107 : decode cX4_fill 107 = .ok (.getfield 18, 3) := by decide +kernel
theorem dX4_fill_110 : decode cX4_fill 110 = .ok (.iload 4, 2) := by decide +kernel
theorem dX4_fill_112 : decode cX4_fill 112 = .ok (.iload_n 3, 1) := by decide +kernel
theorem dX4_fill_113 : decode cX4_fill 113 = .ok (.isub, 1) := by decide +kernel
theorem dX4_fill_114 : decode cX4_fill 114 = .ok (.bipush 10, 2) := by decide +kernel
theorem dX4_fill_116 : decode cX4_fill 116 = .ok (.iadd, 1) := by decide +kernel
theorem dX4_fill_117 : decode cX4_fill 117 = .ok (.dup2, 1) := by decide +kernel
theorem dX4_fill_118 : decode cX4_fill 118 = .ok (.iaload, 1) := by decide +kernel
theorem dX4_fill_119 : decode cX4_fill 119 = .ok (.aload_n 0, 1) := by decide +kernel
theorem dX4_fill_120 : decode cX4_fill 120 = .ok (.getfield 9, 3) := by decide +kernel
theorem dX4_fill_123 : decode cX4_fill 123 = .ok (.iload_n 3, 1) := by decide +kernel
theorem dX4_fill_124 : decode cX4_fill 124 = .ok (.iaload, 1) := by decide +kernel
theorem dX4_fill_125 : decode cX4_fill 125 = .ok (.aload_n 0, 1) := by decide +kernel
theorem dX4_fill_126 : decode cX4_fill 126 = .ok (.getfield 9, 3) := by decide +kernel
theorem dX4_fill_129 : decode cX4_fill 129 = .ok (.iload 4, 2) := by decide +kernel
theorem dX4_fill_131 : decode cX4_fill 131 = .ok (.iaload, 1) := by decide +kernel
theorem dX4_fill_132 : decode cX4_fill 132 = .ok (.imul, 1) := by decide +kernel
theorem dX4_fill_133 : decode cX4_fill 133 = .ok (.iadd, 1) := by decide +kernel
theorem dX4_fill_134 : decode cX4_fill 134 = .ok (.iastore, 1) := by decide +kernel
theorem dX4_fill_135 : decode cX4_fill 135 = .ok (.iinc 4 1, 3) := by decide +kernel
theorem dX4_fill_138 : decode cX4_fill 138 = .ok (.goto (-42), 3) := by decide +kernel
theorem dX4_fill_141 : decode cX4_fill 141 = .ok (.iinc 3 1, 3) := by decide +kernel
theorem dX4_fill_144 : decode cX4_fill 144 = .ok (.goto (-72), 3) := by decide +kernel
theorem dX4_fill_147 : decode cX4_fill 147 = .ok (.aload_n 0, 1) := by decide +kernel
theorem dX4_fill_148 : decode cX4_fill 148 = .ok (.getfield 15, 3) := by decide +kernel
theorem dX4_fill_151 : decode cX4_fill 151 = .ok (.invokestatic 27, 3) := by decide +kernel
theorem dX4_fill_154 : decode cX4_fill 154 = .ok (.aload_n 0, 1) := by decide +kernel
theorem dX4_fill_155 : decode cX4_fill 155 = .ok (.getfield 18, 3) := by decide +kernel
theorem dX4_fill_158 : decode cX4_fill 158 = .ok (.invokestatic 27, 3) := by decide +kernel
theorem dX4_fill_161 : decode cX4_fill 161 = .ok (.aload_n 0, 1) := by decide +kernel
theorem dX4_fill_162 : decode cX4_fill 162 = .ok (.aload_n 0, 1) := by decide +kernel
theorem dX4_fill_163 : decode cX4_fill 163 = .ok (.getfield 15, 3) := by decide +kernel
theorem dX4_fill_166 : decode cX4_fill 166 = .ok (.iconst 0, 1) := by decide +kernel
theorem dX4_fill_167 : decode cX4_fill 167 = .ok (.iaload, 1) := by decide +kernel
theorem dX4_fill_168 : decode cX4_fill 168 = .ok (.putfield 31, 3) := by decide +kernel
theorem dX4_fill_171 : decode cX4_fill 171 = .ok (.return_, 1) := by decide +kernel
theorem dX4_sumFromBehind_0 : decode cX4_sumFromBehind 0 = .ok (.aload_n 0, 1) := by decide +kernel
theorem dX4_sumFromBehind_1 : decode cX4_sumFromBehind 1 = .ok (.arraylength, 1) := by decide +kernel
theorem dX4_sumFromBehind_2 : decode cX4_sumFromBehind 2 = .ok (.iconst 2, 1) := by decide +kernel
theorem dX4_sumFromBehind_3 : decode cX4_sumFromBehind 3 = .ok (.isub, 1) := by decide +kernel
theorem dX4_sumFromBehind_4 : decode cX4_sumFromBehind 4 = .ok (.istore_n 1, 1) := by decide +kernel
theorem dX4_sumFromBehind_5 : decode cX4_sumFromBehind 5 = .ok (.iload_n 1, 1) := by decide +kernel
theorem dX4_sumFromBehind_6 : decode cX4_sumFromBehind 6 = .ok (.ifCond .lt 20, 3) := by decide +kernel
theorem dX4_sumFromBehind_9 : decode cX4_sumFromBehind 9 = .ok (.aload_n 0, 1) := by decide +kernel
theorem dX4_sumFromBehind_10 : decode cX4_sumFromBehind 10 = .ok (.iload_n 1, 1) := by decide +kernel
theorem dX4_sumFromBehind_11 : decode cX4_sumFromBehind 11 = .ok (.dup2, 1) := by decide +kernel
theorem dX4_sumFromBehind_12 : decode cX4_sumFromBehind 12 = .ok (.iaload, 1) := by decide +kernel
theorem dX4_sumFromBehind_13 : decode cX4_sumFromBehind 13 = .ok (.aload_n 0, 1) := by decide +kernel
theorem dX4_sumFromBehind_14 : decode cX4_sumFromBehind 14 = .ok (.iload_n 1, 1) := by decide +kernel
theorem dX4_sumFromBehind_15 : decode cX4_sumFromBehind 15 = .ok (.iconst 1, 1) := by decide +kernel
theorem dX4_sumFromBehind_16 : decode cX4_sumFromBehind 16 = .ok (.iadd, 1) := by decide +kernel
theorem dX4_sumFromBehind_17 : decode cX4_sumFromBehind 17 = .ok (.iaload, 1) := by decide +kernel
theorem dX4_sumFromBehind_18 : decode cX4_sumFromBehind 18 = .ok (.iadd, 1) := by decide +kernel
theorem dX4_sumFromBehind_19 : decode cX4_sumFromBehind 19 = .ok (.iastore, 1) := by decide +kernel
theorem dX4_sumFromBehind_20 : decode cX4_sumFromBehind 20 = .ok (.iinc 1 (-1), 3) := by decide +kernel
theorem dX4_sumFromBehind_23 : decode cX4_sumFromBehind 23 = .ok (.goto (-18), 3) := by decide +kernel
theorem dX4_sumFromBehind_26 : decode cX4_sumFromBehind 26 = .ok (.return_, 1) := by decide +kernel
theorem dX4_oftenAt_0 : decode cX4_oftenAt 0 = .ok (.iload_n 1, 1) := by decide +kernel
theorem dX4_oftenAt_1 : decode cX4_oftenAt 1 = .ok (.bipush (-5), 2) := by decide +kernel
theorem dX4_oftenAt_3 : decode cX4_oftenAt 3 = .ok (.if_icmp .lt 8, 3) := by decide +kernel
theorem dX4_oftenAt_6 : decode cX4_oftenAt 6 = .ok (.iload_n 1, 1) := by decide +kernel
theorem dX4_oftenAt_7 : decode cX4_oftenAt 7 = .ok (.iconst 5, 1) := by decide +kernel
theorem dX4_oftenAt_8 : decode cX4_oftenAt 8 = .ok (.if_icmp .le 7, 3) := by decide +kernel
theorem dX4_oftenAt_11 : decode cX4_oftenAt 11 = .ok (.iconst 0, 1) := by decide +kernel
theorem dX4_oftenAt_12 : decode cX4_oftenAt 12 = .ok (.goto 11, 3) := by decide +kernel
theorem dX4_oftenAt_15 : decode cX4_oftenAt 15 = .ok (.aload_n 0, 1) := by decide +kernel
theorem dX4_oftenAt_16 : decode cX4_oftenAt 16 = .ok (.getfield 9, 3) := by decide +kernel
theorem dX4_oftenAt_19 : decode cX4_oftenAt 19 = .ok (.iload_n 1, 1) := by decide +kernel
theorem dX4_oftenAt_20 : decode cX4_oftenAt 20 = .ok (.iconst 5, 1) := by decide +kernel
theorem dX4_oftenAt_21 : decode cX4_oftenAt 21 = .ok (.iadd, 1) := by decide +kernel
theorem dX4_oftenAt_22 : decode cX4_oftenAt 22 = .ok (.iaload, 1) := by decide +kernel
theorem dX4_oftenAt_23 : decode cX4_oftenAt 23 = .ok (.ireturn, 1) := by decide +kernel
theorem dX4_above_0 : decode cX4_above 0 = .ok (.aload_n 0, 1) := by decide +kernel
theorem dX4_above_1 : decode cX4_above 1 = .ok (.getfield 15, 3) := by decide +kernel
theorem dX4_above_4 : decode cX4_above 4 = .ok (.iconst 0, 1) := by decide +kernel
theorem dX4_above_5 : decode cX4_above 5 = .ok (.aload_n 0, 1) := by decide +kernel
theorem dX4_above_6 : decode cX4_above 6 = .ok (.getfield 15, 3) := by decide +kernel
theorem dX4_above_9 : decode cX4_above 9 = .ok (.arraylength, 1) := by decide +kernel
theorem dX4_above_10 : decode cX4_above 10 = .ok (.iconst 1, 1) := by decide +kernel
theorem dX4_above_11 : decode cX4_above 11 = .ok (.isub, 1) := by decide +kernel
theorem dX4_above_12 : decode cX4_above 12 = .ok (.iload_n 1, 1) := by decide +kernel
theorem dX4_above_13 : decode cX4_above 13 = .ok (.iconst 5, 1) := by decide +kernel
theorem dX4_above_14 : decode cX4_above 14 = .ok (.iadd, 1) := by decide +kernel
theorem dX4_above_15 : decode cX4_above 15 = .ok (.iconst 1, 1) := by decide +kernel
theorem dX4_above_16 : decode cX4_above 16 = .ok (.iadd, 1) := by decide +kernel
theorem dX4_above_17 : decode cX4_above 17 = .ok (.invokestatic 35, 3) := by decide +kernel
theorem dX4_above_20 : decode cX4_above 20 = .ok (.invokestatic 41, 3) := by decide +kernel
theorem dX4_above_23 : decode cX4_above 23 = .ok (.iaload, 1) := by decide +kernel
theorem dX4_above_24 : decode cX4_above 24 = .ok (.ireturn, 1) := by decide +kernel
theorem dX4_pairsAbove_0 : decode cX4_pairsAbove 0 = .ok (.aload_n 0, 1) := by decide +kernel
theorem dX4_pairsAbove_1 : decode cX4_pairsAbove 1 = .ok (.getfield 18, 3) := by decide +kernel
theorem dX4_pairsAbove_4 : decode cX4_pairsAbove 4 = .ok (.iconst 0, 1) := by decide +kernel
theorem dX4_pairsAbove_5 : decode cX4_pairsAbove 5 = .ok (.aload_n 0, 1) := by decide +kernel
theorem dX4_pairsAbove_6 : decode cX4_pairsAbove 6 = .ok (.getfield 18, 3) := by decide +kernel
theorem dX4_pairsAbove_9 : decode cX4_pairsAbove 9 = .ok (.arraylength, 1) := by decide +kernel
theorem dX4_pairsAbove_10 : decode cX4_pairsAbove 10 = .ok (.iconst 1, 1) := by decide +kernel
theorem dX4_pairsAbove_11 : decode cX4_pairsAbove 11 = .ok (.isub, 1) := by decide +kernel
theorem dX4_pairsAbove_12 : decode cX4_pairsAbove 12 = .ok (.iload_n 1, 1) := by decide +kernel
theorem dX4_pairsAbove_13 : decode cX4_pairsAbove 13 = .ok (.bipush 10, 2) := by decide +kernel
theorem dX4_pairsAbove_15 : decode cX4_pairsAbove 15 = .ok (.iadd, 1) := by decide +kernel
theorem dX4_pairsAbove_16 : decode cX4_pairsAbove 16 = .ok (.iconst 1, 1) := by decide +kernel
theorem dX4_pairsAbove_17 : decode cX4_pairsAbove 17 = .ok (.iadd, 1) := by decide +kernel
theorem dX4_pairsAbove_18 : decode cX4_pairsAbove 18 = .ok (.invokestatic 35, 3) := by decide +kernel
theorem dX4_pairsAbove_21 : decode cX4_pairsAbove 21 = .ok (.invokestatic 41, 3) := by decide +kernel
theorem dX4_pairsAbove_24 : decode cX4_pairsAbove 24 = .ok (.iaload, 1) := by decide +kernel
theorem dX4_pairsAbove_25 : decode cX4_pairsAbove 25 = .ok (.ireturn, 1) := by decide +kernel
theorem dX4_pairs_0 : decode cX4_pairs 0 = .ok (.aload_n 0, 1) := by decide +kernel
theorem dX4_pairs_1 : decode cX4_pairs 1 = .ok (.getfield 31, 3) := by decide +kernel
theorem dX4_pairs_4 : decode cX4_pairs 4 = .ok (.aload_n 0, 1) := by decide +kernel
theorem dX4_pairs_5 : decode cX4_pairs 5 = .ok (.getfield 31, 3) := by decide +kernel
theorem dX4_pairs_8 : decode cX4_pairs 8 = .ok (.imul, 1) := by decide +kernel
theorem dX4_pairs_9 : decode cX4_pairs 9 = .ok (.ireturn, 1) := by decide +kernel
theorem dX4_pairOdds_0 : decode cX4_pairOdds 0 = .ok (.aload_n 0, 1) := by decide +kernel
theorem dX4_pairOdds_1 : decode cX4_pairOdds 1 = .ok (.iload_n 1, 1) := by decide +kernel
theorem dX4_pairOdds_2 : decode cX4_pairOdds 2 = .ok (.ineg, 1) := by decide +kernel
theorem dX4_pairOdds_3 : decode cX4_pairOdds 3 = .ok (.iconst 1, 1) := by decide +kernel
theorem dX4_pairOdds_4 : decode cX4_pairOdds 4 = .ok (.isub, 1) := by decide +kernel
theorem dX4_pairOdds_5 : decode cX4_pairOdds 5 = .ok (.invokevirtual 44, 3) := by decide +kernel
theorem dX4_pairOdds_8 : decode cX4_pairOdds 8 = .ok (.istore 4, 2) := by decide +kernel
theorem dX4_pairOdds_10 : decode cX4_pairOdds 10 = .ok (.iload_n 2, 1) := by decide +kernel
theorem dX4_pairOdds_11 : decode cX4_pairOdds 11 = .ok (.ifCond .eq 8, 3) := by decide +kernel
theorem dX4_pairOdds_14 : decode cX4_pairOdds 14 = .ok (.iload 4, 2) := by decide +kernel
theorem dX4_pairOdds_16 : decode cX4_pairOdds 16 = .ok (.goto 9, 3) := by decide +kernel
theorem dX4_pairOdds_19 : decode cX4_pairOdds 19 = .ok (.aload_n 0, 1) := by decide +kernel
theorem dX4_pairOdds_20 : decode cX4_pairOdds 20 = .ok (.iload_n 1, 1) := by decide +kernel
theorem dX4_pairOdds_21 : decode cX4_pairOdds 21 = .ok (.ineg, 1) := by decide +kernel
theorem dX4_pairOdds_22 : decode cX4_pairOdds 22 = .ok (.invokevirtual 44, 3) := by decide +kernel
theorem dX4_pairOdds_25 : decode cX4_pairOdds 25 = .ok (.istore 5, 2) := by decide +kernel
theorem dX4_pairOdds_27 : decode cX4_pairOdds 27 = .ok (.iload_n 3, 1) := by decide +kernel
theorem dX4_pairOdds_28 : decode cX4_pairOdds 28 = .ok (.tableswitch 45 0 2 #[28, 36, 39], 28) := by decide +kernel
theorem dX4_pairOdds_56 : decode cX4_pairOdds 56 = .ok (.aload_n 0, 1) := by decide +kernel
theorem dX4_pairOdds_57 : decode cX4_pairOdds 57 = .ok (.invokevirtual 48, 3) := by decide +kernel
theorem dX4_pairOdds_60 : decode cX4_pairOdds 60 = .ok (.iload 4, 2) := by decide +kernel
theorem dX4_pairOdds_62 : decode cX4_pairOdds 62 = .ok (.isub, 1) := by decide +kernel
theorem dX4_pairOdds_63 : decode cX4_pairOdds 63 = .ok (.ireturn, 1) := by decide +kernel
theorem dX4_pairOdds_64 : decode cX4_pairOdds 64 = .ok (.iload 5, 2) := by decide +kernel
theorem dX4_pairOdds_66 : decode cX4_pairOdds 66 = .ok (.ireturn, 1) := by decide +kernel
theorem dX4_pairOdds_67 : decode cX4_pairOdds 67 = .ok (.iload 4, 2) := by decide +kernel
theorem dX4_pairOdds_69 : decode cX4_pairOdds 69 = .ok (.iload 5, 2) := by decide +kernel
theorem dX4_pairOdds_71 : decode cX4_pairOdds 71 = .ok (.isub, 1) := by decide +kernel
theorem dX4_pairOdds_72 : decode cX4_pairOdds 72 = .ok (.ireturn, 1) := by decide +kernel
theorem dX4_pairOdds_73 : decode cX4_pairOdds 73 = .ok (.iconst 0, 1) := by decide +kernel
theorem dX4_pairOdds_74 : decode cX4_pairOdds 74 = .ok (.ireturn, 1) := by decide +kernel
theorem dX4_aloneOdds_0 : decode cX4_aloneOdds 0 = .ok (.iload_n 2, 1) := by decide +kernel
theorem dX4_aloneOdds_1 : decode cX4_aloneOdds 1 = .ok (.iconst 1, 1) := by decide +kernel
theorem dX4_aloneOdds_2 : decode cX4_aloneOdds 2 = .ok (.if_icmp .ne 12, 3) := by decide +kernel
theorem dX4_aloneOdds_5 : decode cX4_aloneOdds 5 = .ok (.aload_n 0, 1) := by decide +kernel
theorem dX4_aloneOdds_6 : decode cX4_aloneOdds 6 = .ok (.iload_n 1, 1) := by decide +kernel
theorem dX4_aloneOdds_7 : decode cX4_aloneOdds 7 = .ok (.ineg, 1) := by decide +kernel
theorem dX4_aloneOdds_8 : decode cX4_aloneOdds 8 = .ok (.invokevirtual 52, 3) := by decide +kernel
theorem dX4_aloneOdds_11 : decode cX4_aloneOdds 11 = .ok (.goto 14, 3) := by decide +kernel
theorem dX4_aloneOdds_14 : decode cX4_aloneOdds 14 = .ok (.aload_n 0, 1) := by decide +kernel
theorem dX4_aloneOdds_15 : decode cX4_aloneOdds 15 = .ok (.getfield 31, 3) := by decide +kernel
theorem dX4_aloneOdds_18 : decode cX4_aloneOdds 18 = .ok (.aload_n 0, 1) := by decide +kernel
theorem dX4_aloneOdds_19 : decode cX4_aloneOdds 19 = .ok (.iload_n 1, 1) := by decide +kernel
theorem dX4_aloneOdds_20 : decode cX4_aloneOdds 20 = .ok (.ineg, 1) := by decide +kernel
theorem dX4_aloneOdds_21 : decode cX4_aloneOdds 21 = .ok (.invokevirtual 52, 3) := by decide +kernel
theorem dX4_aloneOdds_24 : decode cX4_aloneOdds 24 = .ok (.isub, 1) := by decide +kernel
theorem dX4_aloneOdds_25 : decode cX4_aloneOdds 25 = .ok (.ireturn, 1) := by decide +kernel
theorem dX4_numberOdds_0 : decode cX4_numberOdds 0 = .ok (.iload_n 2, 1) := by decide +kernel
theorem dX4_numberOdds_1 : decode cX4_numberOdds 1 = .ok (.ifCond .le 13, 3) := by decide +kernel
theorem dX4_numberOdds_4 : decode cX4_numberOdds 4 = .ok (.aload_n 0, 1) := by decide +kernel
theorem dX4_numberOdds_5 : decode cX4_numberOdds 5 = .ok (.iload_n 2, 1) := by decide +kernel
theorem dX4_numberOdds_6 : decode cX4_numberOdds 6 = .ok (.iload_n 1, 1) := by decide +kernel
theorem dX4_numberOdds_7 : decode cX4_numberOdds 7 = .ok (.isub, 1) := by decide +kernel
theorem dX4_numberOdds_8 : decode cX4_numberOdds 8 = .ok (.invokevirtual 55, 3) := by decide +kernel
theorem dX4_numberOdds_11 : decode cX4_numberOdds 11 = .ok (.goto 14, 3) := by decide +kernel
theorem dX4_numberOdds_14 : decode cX4_numberOdds 14 = .ok (.aload_n 0, 1) := by decide +kernel
theorem dX4_numberOdds_15 : decode cX4_numberOdds 15 = .ok (.getfield 31, 3) := by decide +kernel
theorem dX4_numberOdds_18 : decode cX4_numberOdds 18 = .ok (.aload_n 0, 1) := by decide +kernel
theorem dX4_numberOdds_19 : decode cX4_numberOdds 19 = .ok (.iload_n 1, 1) := by decide +kernel
theorem dX4_numberOdds_20 : decode cX4_numberOdds 20 = .ok (.ineg, 1) := by decide +kernel
theorem dX4_numberOdds_21 : decode cX4_numberOdds 21 = .ok (.invokevirtual 52, 3) := by decide +kernel
theorem dX4_numberOdds_24 : decode cX4_numberOdds 24 = .ok (.isub, 1) := by decide +kernel
theorem dX4_numberOdds_25 : decode cX4_numberOdds 25 = .ok (.ireturn, 1) := by decide +kernel
theorem dX4_countedOff_0 : decode cX4_countedOff 0 = .ok (.iload_n 1, 1) := by decide +kernel
theorem dX4_countedOff_1 : decode cX4_countedOff 1 = .ok (.istore_n 2, 1) := by decide +kernel
theorem dX4_countedOff_2 : decode cX4_countedOff 2 = .ok (.iconst 0, 1) := by decide +kernel
theorem dX4_countedOff_3 : decode cX4_countedOff 3 = .ok (.istore_n 3, 1) := by decide +kernel
theorem dX4_countedOff_4 : decode cX4_countedOff 4 = .ok (.iload_n 3, 1) := by decide +kernel
theorem dX4_countedOff_5 : decode cX4_countedOff 5 = .ok (.aload_n 0, 1) := by decide +kernel
theorem dX4_countedOff_6 : decode cX4_countedOff 6 = .ok (.getfield 9, 3) := by decide +kernel
theorem dX4_countedOff_9 : decode cX4_countedOff 9 = .ok (.arraylength, 1) := by decide +kernel
theorem dX4_countedOff_10 : decode cX4_countedOff 10 = .ok (.if_icmp .ge 32, 3) := by decide +kernel
theorem dX4_countedOff_13 : decode cX4_countedOff 13 = .ok (.iload_n 2, 1) := by decide +kernel
theorem dX4_countedOff_14 : decode cX4_countedOff 14 = .ok (.aload_n 0, 1) := by decide +kernel
theorem dX4_countedOff_15 : decode cX4_countedOff 15 = .ok (.getfield 9, 3) := by decide +kernel
theorem dX4_countedOff_18 : decode cX4_countedOff 18 = .ok (.iload_n 3, 1) := by decide +kernel
theorem dX4_countedOff_19 : decode cX4_countedOff 19 = .ok (.iaload, 1) := by decide +kernel
theorem dX4_countedOff_20 : decode cX4_countedOff 20 = .ok (.if_icmp .ge 7, 3) := by decide +kernel
theorem dX4_countedOff_23 : decode cX4_countedOff 23 = .ok (.iload_n 3, 1) := by decide +kernel
theorem dX4_countedOff_24 : decode cX4_countedOff 24 = .ok (.iconst 5, 1) := by decide +kernel
theorem dX4_countedOff_25 : decode cX4_countedOff 25 = .ok (.isub, 1) := by decide +kernel
theorem dX4_countedOff_26 : decode cX4_countedOff 26 = .ok (.ireturn, 1) := by decide +kernel
theorem dX4_countedOff_27 : decode cX4_countedOff 27 = .ok (.iload_n 2, 1) := by decide +kernel
theorem dX4_countedOff_28 : decode cX4_countedOff 28 = .ok (.aload_n 0, 1) := by decide +kernel
theorem dX4_countedOff_29 : decode cX4_countedOff 29 = .ok (.getfield 9, 3) := by decide +kernel
theorem dX4_countedOff_32 : decode cX4_countedOff 32 = .ok (.iload_n 3, 1) := by decide +kernel
theorem dX4_countedOff_33 : decode cX4_countedOff 33 = .ok (.iaload, 1) := by decide +kernel
theorem dX4_countedOff_34 : decode cX4_countedOff 34 = .ok (.isub, 1) := by decide +kernel
theorem dX4_countedOff_35 : decode cX4_countedOff 35 = .ok (.istore_n 2, 1) := by decide +kernel
theorem dX4_countedOff_36 : decode cX4_countedOff 36 = .ok (.iinc 3 1, 3) := by decide +kernel
theorem dX4_countedOff_39 : decode cX4_countedOff 39 = .ok (.goto (-35), 3) := by decide +kernel
theorem dX4_countedOff_42 : decode cX4_countedOff 42 = .ok (.iconst 0, 1) := by decide +kernel
theorem dX4_countedOff_43 : decode cX4_countedOff 43 = .ok (.ireturn, 1) := by decide +kernel
theorem dX5_init_0 : decode cX5_init 0 = .ok (.aload_n 0, 1) := by decide +kernel
theorem dX5_init_1 : decode cX5_init 1 = .ok (.invokespecial 1, 3) := by decide +kernel
theorem dX5_init_4 : decode cX5_init 4 = .ok (.return_, 1) := by decide +kernel
theorem dX6_init_0 : decode cX6_init 0 = .ok (.aload_n 0, 1) := by decide +kernel
theorem dX6_init_1 : decode cX6_init 1 = .ok (.invokespecial 1, 3) := by decide +kernel
theorem dX6_init_4 : decode cX6_init 4 = .ok (.return_, 1) := by decide +kernel
theorem dX6_sizes_0 : decode cX6_sizes 0 = .ok (.aload_n 0, 1) := by decide +kernel
theorem dX6_sizes_1 : decode cX6_sizes 1 = .ok (.getfield 7, 3) := by decide +kernel
theorem dX6_sizes_4 : decode cX6_sizes 4 = .ok (.aload_n 0, 1) := by decide +kernel
theorem dX6_sizes_5 : decode cX6_sizes 5 = .ok (.getfield 13, 3) := by decide +kernel
theorem dX6_sizes_8 : decode cX6_sizes 8 = .ok (.isub, 1) := by decide +kernel
theorem dX6_sizes_9 : decode cX6_sizes 9 = .ok (.iconst 1, 1) := by decide +kernel
theorem dX6_sizes_10 : decode cX6_sizes 10 = .ok (.aload_n 0, 1) := by decide +kernel
theorem dX6_sizes_11 : decode cX6_sizes 11 = .ok (.getfield 16, 3) := by decide +kernel
theorem dX6_sizes_14 : decode cX6_sizes 14 = .ok (.invokestatic 19, 3) := by decide +kernel
theorem dX6_sizes_17 : decode cX6_sizes 17 = .ok (.idiv, 1) := by decide +kernel
theorem dX6_sizes_18 : decode cX6_sizes 18 = .ok (.iconst 1, 1) := by decide +kernel
theorem dX6_sizes_19 : decode cX6_sizes 19 = .ok (.iadd, 1) := by decide +kernel
theorem dX6_sizes_20 : decode cX6_sizes 20 = .ok (.ireturn, 1) := by decide +kernel
theorem dX6_trials_0 : decode cX6_trials 0 = .ok (.aload_n 0, 1) := by decide +kernel
theorem dX6_trials_1 : decode cX6_trials 1 = .ok (.invokevirtual 25, 3) := by decide +kernel
theorem dX6_trials_4 : decode cX6_trials 4 = .ok (.aload_n 0, 1) := by decide +kernel
theorem dX6_trials_5 : decode cX6_trials 5 = .ok (.getfield 29, 3) := by decide +kernel
theorem dX6_trials_8 : decode cX6_trials 8 = .ok (.imul, 1) := by decide +kernel
theorem dX6_trials_9 : decode cX6_trials 9 = .ok (.ireturn, 1) := by decide +kernel
theorem dX6_layOut_0 : decode cX6_layOut 0 = .ok (.iconst 0, 1) := by decide +kernel
theorem dX6_layOut_1 : decode cX6_layOut 1 = .ok (.istore_n 2, 1) := by decide +kernel
theorem dX6_layOut_2 : decode cX6_layOut 2 = .ok (.iload_n 2, 1) := by decide +kernel
theorem dX6_layOut_3 : decode cX6_layOut 3 = .ok (.aload_n 0, 1) := by decide +kernel
theorem dX6_layOut_4 : decode cX6_layOut 4 = .ok (.invokevirtual 32, 3) := by decide +kernel
theorem dX6_layOut_7 : decode cX6_layOut 7 = .ok (.if_icmp .ge 59, 3) := by decide +kernel
theorem dX6_layOut_10 : decode cX6_layOut 10 = .ok (.iload_n 2, 1) := by decide +kernel
theorem dX6_layOut_11 : decode cX6_layOut 11 = .ok (.aload_n 1, 1) := by decide +kernel
theorem dX6_layOut_12 : decode cX6_layOut 12 = .ok (.arraylength, 1) := by decide +kernel
theorem dX6_layOut_13 : decode cX6_layOut 13 = .ok (.if_icmp .ge 53, 3) := by decide +kernel
theorem dX6_layOut_16 : decode cX6_layOut 16 = .ok (.iload_n 2, 1) := by decide +kernel
theorem dX6_layOut_17 : decode cX6_layOut 17 = .ok (.iconst 1, 1) := by decide +kernel
theorem dX6_layOut_18 : decode cX6_layOut 18 = .ok (.aload_n 0, 1) := by decide +kernel
theorem dX6_layOut_19 : decode cX6_layOut 19 = .ok (.getfield 29, 3) := by decide +kernel
theorem dX6_layOut_22 : decode cX6_layOut 22 = .ok (.invokestatic 19, 3) := by decide +kernel
theorem dX6_layOut_25 : decode cX6_layOut 25 = .ok (.idiv, 1) := by decide +kernel
theorem dX6_layOut_26 : decode cX6_layOut 26 = .ok (.istore_n 3, 1) := by decide +kernel
theorem dX6_layOut_27 : decode cX6_layOut 27 = .ok (.aload_n 1, 1) := by decide +kernel
theorem dX6_layOut_28 : decode cX6_layOut 28 = .ok (.iload_n 2, 1) := by decide +kernel
theorem dX6_layOut_29 : decode cX6_layOut 29 = .ok (.aload_n 0, 1) := by decide +kernel
theorem dX6_layOut_30 : decode cX6_layOut 30 = .ok (.getfield 13, 3) := by decide +kernel
theorem dX6_layOut_33 : decode cX6_layOut 33 = .ok (.aload_n 0, 1) := by decide +kernel
theorem dX6_layOut_34 : decode cX6_layOut 34 = .ok (.getfield 16, 3) := by decide +kernel
theorem dX6_layOut_37 : decode cX6_layOut 37 = .ok (.aload_n 0, 1) := by decide +kernel
theorem dX6_layOut_38 : decode cX6_layOut 38 = .ok (.getfield 35, 3) := by decide +kernel
theorem dX6_layOut_41 : decode cX6_layOut 41 = .ok (.iconst 1, 1) := by decide +kernel
theorem dX6_layOut_42 : decode cX6_layOut 42 = .ok (.if_icmp .ne 14, 3) := by decide +kernel
theorem dX6_layOut_45 : decode cX6_layOut 45 = .ok (.aload_n 0, 1) := by decide +kernel
theorem dX6_layOut_46 : decode cX6_layOut 46 = .ok (.invokevirtual 25, 3) := by decide +kernel
theorem dX6_layOut_49 : decode cX6_layOut 49 = .ok (.iconst 1, 1) := by decide +kernel
theorem dX6_layOut_50 : decode cX6_layOut 50 = .ok (.isub, 1) := by decide +kernel
theorem dX6_layOut_51 : decode cX6_layOut 51 = .ok (.iload_n 3, 1) := by decide +kernel
theorem dX6_layOut_52 : decode cX6_layOut 52 = .ok (.isub, 1) := by decide +kernel
theorem dX6_layOut_53 : decode cX6_layOut 53 = .ok (.goto 4, 3) := by decide +kernel
theorem dX6_layOut_56 : decode cX6_layOut 56 = .ok (.iload_n 3, 1) := by decide +kernel
theorem dX6_layOut_57 : decode cX6_layOut 57 = .ok (.imul, 1) := by decide +kernel
theorem dX6_layOut_58 : decode cX6_layOut 58 = .ok (.iadd, 1) := by decide +kernel
theorem dX6_layOut_59 : decode cX6_layOut 59 = .ok (.iastore, 1) := by decide +kernel
theorem dX6_layOut_60 : decode cX6_layOut 60 = .ok (.iinc 2 1, 3) := by decide +kernel
theorem dX6_layOut_63 : decode cX6_layOut 63 = .ok (.goto (-61), 3) := by decide +kernel
theorem dX6_layOut_66 : decode cX6_layOut 66 = .ok (.return_, 1) := by decide +kernel
theorem dX7_init_0 : decode cX7_init 0 = .ok (.aload_n 0, 1) := by decide +kernel
theorem dX7_init_1 : decode cX7_init 1 = .ok (.invokespecial 3, 3) := by decide +kernel
theorem dX7_init_4 : decode cX7_init 4 = .ok (.aload_n 0, 1) := by decide +kernel
theorem dX7_init_5 : decode cX7_init 5 = .ok (.sipush 701, 3) := by decide +kernel
theorem dX7_init_8 : decode cX7_init 8 = .ok (.newarray .int, 2) := by decide +kernel
theorem dX7_init_10 : decode cX7_init 10 = .ok (.putfield 9, 3) := by decide +kernel
theorem dX7_init_13 : decode cX7_init 13 = .ok (.aload_n 0, 1) := by decide +kernel
theorem dX7_init_14 : decode cX7_init 14 = .ok (.sipush 701, 3) := by decide +kernel
theorem dX7_init_17 : decode cX7_init 17 = .ok (.newarray .int, 2) := by decide +kernel
theorem dX7_init_19 : decode cX7_init 19 = .ok (.putfield 15, 3) := by decide +kernel
theorem dX7_init_22 : decode cX7_init 22 = .ok (.aload_n 0, 1) := by decide +kernel
theorem dX7_init_23 : decode cX7_init 23 = .ok (.sipush 701, 3) := by decide +kernel
theorem dX7_init_26 : decode cX7_init 26 = .ok (.newarray .long, 2) := by decide +kernel
theorem dX7_init_28 : decode cX7_init 28 = .ok (.putfield 18, 3) := by decide +kernel
theorem dX7_init_31 : decode cX7_init 31 = .ok (.aload_n 0, 1) := by decide +kernel
theorem dX7_init_32 : decode cX7_init 32 = .ok (.new 22, 3) := by decide +kernel
theorem dX7_init_35 : decode cX7_init 35 = .ok (.dup, 1) := by decide +kernel
theorem dX7_init_36 : decode cX7_init 36 = .ok (.invokespecial 24, 3) := by decide +kernel
theorem dX7_init_39 : decode cX7_init 39 = .ok (.putfield 25, 3) := by decide +kernel
theorem dX7_init_42 : decode cX7_init 42 = .ok (.return_, 1) := by decide +kernel
theorem dX7_reads_0 : decode cX7_reads 0 = .ok (.aload_n 0, 1) := by decide +kernel
theorem dX7_reads_1 : decode cX7_reads 1 = .ok (.getfield 25, 3) := by decide +kernel
theorem dX7_reads_4 : decode cX7_reads 4 = .ok (.invokevirtual 29, 3) := by decide +kernel
theorem dX7_reads_7 : decode cX7_reads 7 = .ok (.aload_n 0, 1) := by decide +kernel
theorem dX7_reads_8 : decode cX7_reads 8 = .ok (.iconst 0, 1) := by decide +kernel
theorem dX7_reads_9 : decode cX7_reads 9 = .ok (.putfield 32, 3) := by decide +kernel
theorem dX7_reads_12 : decode cX7_reads 12 = .ok (.aload_n 0, 1) := by decide +kernel
theorem dX7_reads_13 : decode cX7_reads 13 = .ok (.iconst 0, 1) := by decide +kernel
theorem dX7_reads_14 : decode cX7_reads 14 = .ok (.putfield 36, 3) := by decide +kernel
theorem dX7_reads_17 : decode cX7_reads 17 = .ok (.aload_n 0, 1) := by decide +kernel
theorem dX7_reads_18 : decode cX7_reads 18 = .ok (.aload_n 1, 1) := by decide +kernel
theorem dX7_reads_19 : decode cX7_reads 19 = .ok (.iconst 0, 1) := by decide +kernel
theorem dX7_reads_20 : decode cX7_reads 20 = .ok (.iload_n 2, 1) := by decide +kernel
theorem dX7_reads_21 : decode cX7_reads 21 = .ok (.aload_n 1, 1) := by decide +kernel
theorem dX7_reads_22 : decode cX7_reads 22 = .ok (.arraylength, 1) := by decide +kernel
theorem dX7_reads_23 : decode cX7_reads 23 = .ok (.invokestatic 39, 3) := by decide +kernel
theorem dX7_reads_26 : decode cX7_reads 26 = .ok (.invokestatic 45, 3) := by decide +kernel
theorem dX7_reads_29 : decode cX7_reads 29 = .ok (.invokevirtual 48, 3) := by decide +kernel
theorem dX7_reads_32 : decode cX7_reads 32 = .ok (.iconst 1, 1) := by decide +kernel
theorem dX7_reads_33 : decode cX7_reads 33 = .ok (.istore_n 3, 1) := by decide +kernel
theorem dX7_reads_34 : decode cX7_reads 34 = .ok (.iconst 0, 1) := by decide +kernel
theorem dX7_reads_35 : decode cX7_reads 35 = .ok (.istore 4, 2) := by decide +kernel
theorem dX7_reads_37 : decode cX7_reads 37 = .ok (.iload 4, 2) := by decide +kernel
theorem dX7_reads_39 : decode cX7_reads 39 = .ok (.aload_n 0, 1) := by decide +kernel
theorem dX7_reads_40 : decode cX7_reads 40 = .ok (.getfield 52, 3) := by decide +kernel
theorem dX7_reads_43 : decode cX7_reads 43 = .ok (.if_icmp .ge 106, 3) := by decide +kernel
theorem dX7_reads_46 : decode cX7_reads 46 = .ok (.iload_n 3, 1) := by decide +kernel
theorem dX7_reads_47 : decode cX7_reads 47 = .ok (.ifCond .eq 102, 3) := by decide +kernel
theorem dX7_reads_50 : decode cX7_reads 50 = .ok (.aload_n 0, 1) := by decide +kernel
theorem dX7_reads_51 : decode cX7_reads 51 = .ok (.ldc 55, 2) := by decide +kernel
theorem dX7_reads_53 : decode cX7_reads 53 = .ok (.invokevirtual 57, 3) := by decide +kernel
theorem dX7_reads_56 : decode cX7_reads 56 = .ok (.ifCond .eq 10, 3) := by decide +kernel
theorem dX7_reads_59 : decode cX7_reads 59 = .ok (.aload_n 0, 1) := by decide +kernel
theorem dX7_reads_60 : decode cX7_reads 60 = .ok (.invokevirtual 61, 3) := by decide +kernel
theorem dX7_reads_63 : decode cX7_reads 63 = .ok (.goto 56, 3) := by decide +kernel
theorem dX7_reads_66 : decode cX7_reads 66 = .ok (.aload_n 0, 1) := by decide +kernel
theorem dX7_reads_67 : decode cX7_reads 67 = .ok (.ldc 65, 2) := by decide +kernel
theorem dX7_reads_69 : decode cX7_reads 69 = .ok (.invokevirtual 57, 3) := by decide +kernel
theorem dX7_reads_72 : decode cX7_reads 72 = .ok (.ifCond .eq 10, 3) := by decide +kernel
theorem dX7_reads_75 : decode cX7_reads 75 = .ok (.aload_n 0, 1) := by decide +kernel
theorem dX7_reads_76 : decode cX7_reads 76 = .ok (.invokevirtual 67, 3) := by decide +kernel
theorem dX7_reads_79 : decode cX7_reads 79 = .ok (.goto 40, 3) := by decide +kernel
theorem dX7_reads_82 : decode cX7_reads 82 = .ok (.aload_n 0, 1) := by decide +kernel
theorem dX7_reads_83 : decode cX7_reads 83 = .ok (.ldc 70, 2) := by decide +kernel
theorem dX7_reads_85 : decode cX7_reads 85 = .ok (.invokevirtual 57, 3) := by decide +kernel
theorem dX7_reads_88 : decode cX7_reads 88 = .ok (.ifCond .eq 10, 3) := by decide +kernel
theorem dX7_reads_91 : decode cX7_reads 91 = .ok (.aload_n 0, 1) := by decide +kernel
theorem dX7_reads_92 : decode cX7_reads 92 = .ok (.invokevirtual 72, 3) := by decide +kernel
theorem dX7_reads_95 : decode cX7_reads 95 = .ok (.goto 24, 3) := by decide +kernel
theorem dX7_reads_98 : decode cX7_reads 98 = .ok (.aload_n 0, 1) := by decide +kernel
theorem dX7_reads_99 : decode cX7_reads 99 = .ok (.ldc 75, 2) := by decide +kernel
theorem dX7_reads_101 : decode cX7_reads 101 = .ok (.invokevirtual 57, 3) := by decide +kernel
theorem dX7_reads_104 : decode cX7_reads 104 = .ok (.ifCond .eq 10, 3) := by decide +kernel
theorem dX7_reads_107 : decode cX7_reads 107 = .ok (.aload_n 0, 1) := by decide +kernel
theorem dX7_reads_108 : decode cX7_reads 108 = .ok (.invokevirtual 77, 3) := by decide +kernel
theorem dX7_reads_111 : decode cX7_reads 111 = .ok (.goto 8, 3) := by decide +kernel
theorem dX7_reads_114 : decode cX7_reads 114 = .ok (.aload_n 0, 1) := by decide +kernel
theorem dX7_reads_115 : decode cX7_reads 115 = .ok (.iconst 1, 1) := by decide +kernel
theorem dX7_reads_116 : decode cX7_reads 116 = .ok (.invokevirtual 80, 3) := by decide +kernel
theorem dX7_reads_119 : decode cX7_reads 119 = .ok (.istore 5, 2) := by decide +kernel
theorem dX7_reads_121 : decode cX7_reads 121 = .ok (.iload 5, 2) := by decide +kernel
theorem dX7_reads_123 : decode cX7_reads 123 = .ok (.ifCond .ne 5, 3) := by decide +kernel
theorem dX7_reads_126 : decode cX7_reads 126 = .ok (.iconst 0, 1) := by decide +kernel
theorem dX7_reads_127 : decode cX7_reads 127 = .ok (.ireturn, 1) := by decide +kernel
theorem dX7_reads_128 : decode cX7_reads 128 = .ok (.aload_n 0, 1) := by decide +kernel
theorem dX7_reads_129 : decode cX7_reads 129 = .ok (.bipush 59, 2) := by decide +kernel
theorem dX7_reads_131 : decode cX7_reads 131 = .ok (.invokevirtual 84, 3) := by decide +kernel
theorem dX7_reads_134 : decode cX7_reads 134 = .ok (.istore_n 3, 1) := by decide +kernel
theorem dX7_reads_135 : decode cX7_reads 135 = .ok (.iload_n 3, 1) := by decide +kernel
theorem dX7_reads_136 : decode cX7_reads 136 = .ok (.ifCond .eq 7, 3) := by decide +kernel
theorem dX7_reads_139 : decode cX7_reads 139 = .ok (.aload_n 0, 1) := by decide +kernel
theorem dX7_reads_140 : decode cX7_reads 140 = .ok (.invokevirtual 88, 3) := by decide +kernel
theorem dX7_reads_143 : decode cX7_reads 143 = .ok (.iinc 4 1, 3) := by decide +kernel
theorem dX7_reads_146 : decode cX7_reads 146 = .ok (.goto (-109), 3) := by decide +kernel
theorem dX7_reads_149 : decode cX7_reads 149 = .ok (.aload_n 0, 1) := by decide +kernel
theorem dX7_reads_150 : decode cX7_reads 150 = .ok (.getfield 9, 3) := by decide +kernel
theorem dX7_reads_153 : decode cX7_reads 153 = .ok (.aload_n 0, 1) := by decide +kernel
theorem dX7_reads_154 : decode cX7_reads 154 = .ok (.getfield 91, 3) := by decide +kernel
theorem dX7_reads_157 : decode cX7_reads 157 = .ok (.iaload, 1) := by decide +kernel
theorem dX7_reads_158 : decode cX7_reads 158 = .ok (.ifCond .eq 9, 3) := by decide +kernel
theorem dX7_reads_161 : decode cX7_reads 161 = .ok (.aload_n 0, 1) := by decide +kernel
theorem dX7_reads_162 : decode cX7_reads 162 = .ok (.iconst 1, 1) := by decide +kernel
theorem dX7_reads_163 : decode cX7_reads 163 = .ok (.invokevirtual 80, 3) := by decide +kernel
theorem dX7_reads_166 : decode cX7_reads 166 = .ok (.ireturn, 1) := by decide +kernel
theorem dX7_reads_167 : decode cX7_reads 167 = .ok (.aload_n 0, 1) := by decide +kernel
theorem dX7_reads_168 : decode cX7_reads 168 = .ok (.getfield 25, 3) := by decide +kernel
theorem dX7_reads_171 : decode cX7_reads 171 = .ok (.getfield 94, 3) := by decide +kernel
theorem dX7_reads_174 : decode cX7_reads 174 = .ok (.ifCond .gt 12, 3) := by decide +kernel
theorem dX7_reads_177 : decode cX7_reads 177 = .ok (.aload_n 0, 1) := by decide +kernel
theorem dX7_reads_178 : decode cX7_reads 178 = .ok (.bipush 6, 2) := by decide +kernel
theorem dX7_reads_180 : decode cX7_reads 180 = .ok (.invokevirtual 80, 3) := by decide +kernel
theorem dX7_reads_183 : decode cX7_reads 183 = .ok (.ifCond .eq 7, 3) := by decide +kernel
theorem dX7_reads_186 : decode cX7_reads 186 = .ok (.iconst 1, 1) := by decide +kernel
theorem dX7_reads_187 : decode cX7_reads 187 = .ok (.goto 4, 3) := by decide +kernel
theorem dX7_reads_190 : decode cX7_reads 190 = .ok (.iconst 0, 1) := by decide +kernel
theorem dX7_reads_191 : decode cX7_reads 191 = .ok (.ireturn, 1) := by decide +kernel
theorem dX7_wrong_0 : decode cX7_wrong 0 = .ok (.aload_n 0, 1) := by decide +kernel
theorem dX7_wrong_1 : decode cX7_wrong 1 = .ok (.iload_n 1, 1) := by decide +kernel
theorem dX7_wrong_2 : decode cX7_wrong 2 = .ok (.putfield 32, 3) := by decide +kernel
theorem dX7_wrong_5 : decode cX7_wrong 5 = .ok (.aload_n 0, 1) := by decide +kernel
theorem dX7_wrong_6 : decode cX7_wrong 6 = .ok (.aload_n 0, 1) := by decide +kernel
theorem dX7_wrong_7 : decode cX7_wrong 7 = .ok (.getfield 15, 3) := by decide +kernel
theorem dX7_wrong_10 : decode cX7_wrong 10 = .ok (.aload_n 0, 1) := by decide +kernel
theorem dX7_wrong_11 : decode cX7_wrong 11 = .ok (.getfield 91, 3) := by decide +kernel
theorem dX7_wrong_14 : decode cX7_wrong 14 = .ok (.iaload, 1) := by decide +kernel
theorem dX7_wrong_15 : decode cX7_wrong 15 = .ok (.putfield 36, 3) := by decide +kernel
theorem dX7_wrong_18 : decode cX7_wrong 18 = .ok (.iconst 0, 1) := by decide +kernel
theorem dX7_wrong_19 : decode cX7_wrong 19 = .ok (.ireturn, 1) := by decide +kernel
theorem dX7_scan_0 : decode cX7_scan 0 = .ok (.aload_n 0, 1) := by decide +kernel
theorem dX7_scan_1 : decode cX7_scan 1 = .ok (.iconst 0, 1) := by decide +kernel
theorem dX7_scan_2 : decode cX7_scan 2 = .ok (.putfield 52, 3) := by decide +kernel
theorem dX7_scan_5 : decode cX7_scan 5 = .ok (.aload_n 0, 1) := by decide +kernel
theorem dX7_scan_6 : decode cX7_scan 6 = .ok (.iconst 0, 1) := by decide +kernel
theorem dX7_scan_7 : decode cX7_scan 7 = .ok (.putfield 91, 3) := by decide +kernel
theorem dX7_scan_10 : decode cX7_scan 10 = .ok (.iconst 0, 1) := by decide +kernel
theorem dX7_scan_11 : decode cX7_scan 11 = .ok (.istore_n 3, 1) := by decide +kernel
theorem dX7_scan_12 : decode cX7_scan 12 = .ok (.iconst 0, 1) := by decide +kernel
theorem dX7_scan_13 : decode cX7_scan 13 = .ok (.istore 4, 2) := by decide +kernel
theorem dX7_scan_15 : decode cX7_scan 15 = .ok (.iload 4, 2) := by decide +kernel
theorem dX7_scan_17 : decode cX7_scan 17 = .ok (.iload_n 2, 1) := by decide +kernel
theorem dX7_scan_18 : decode cX7_scan 18 = .ok (.if_icmp .ge 42, 3) := by decide +kernel
theorem dX7_scan_21 : decode cX7_scan 21 = .ok (.iload_n 3, 1) := by decide +kernel
theorem dX7_scan_22 : decode cX7_scan 22 = .ok (.iload_n 2, 1) := by decide +kernel
theorem dX7_scan_23 : decode cX7_scan 23 = .ok (.if_icmp .ge 37, 3) := by decide +kernel
theorem dX7_scan_26 : decode cX7_scan 26 = .ok (.iload_n 3, 1) := by decide +kernel
theorem dX7_scan_27 : decode cX7_scan 27 = .ok (.aload_n 1, 1) := by decide +kernel
theorem dX7_scan_28 : decode cX7_scan 28 = .ok (.arraylength, 1) := by decide +kernel
theorem dX7_scan_29 : decode cX7_scan 29 = .ok (.if_icmp .ge 31, 3) := by decide +kernel
theorem dX7_scan_32 : decode cX7_scan 32 = .ok (.aload_n 1, 1) := by decide +kernel
theorem dX7_scan_33 : decode cX7_scan 33 = .ok (.iload_n 3, 1) := by decide +kernel
theorem dX7_scan_34 : decode cX7_scan 34 = .ok (.baload, 1) := by decide +kernel
theorem dX7_scan_35 : decode cX7_scan 35 = .ok (.bipush 32, 2) := by decide +kernel
theorem dX7_scan_37 : decode cX7_scan 37 = .ok (.if_icmp .ne 9, 3) := by decide +kernel
theorem dX7_scan_40 : decode cX7_scan 40 = .ok (.iload_n 3, 1) := by decide +kernel
theorem dX7_scan_41 : decode cX7_scan 41 = .ok (.iconst 1, 1) := by decide +kernel
theorem dX7_scan_42 : decode cX7_scan 42 = .ok (.iadd, 1) := by decide +kernel
theorem dX7_scan_43 : decode cX7_scan 43 = .ok (.goto 10, 3) := by decide +kernel
theorem dX7_scan_46 : decode cX7_scan 46 = .ok (.aload_n 0, 1) := by decide +kernel
theorem dX7_scan_47 : decode cX7_scan 47 = .ok (.aload_n 1, 1) := by decide +kernel
theorem dX7_scan_48 : decode cX7_scan 48 = .ok (.iload_n 3, 1) := by decide +kernel
theorem dX7_scan_49 : decode cX7_scan 49 = .ok (.iload_n 2, 1) := by decide +kernel
theorem dX7_scan_50 : decode cX7_scan 50 = .ok (.invokevirtual 97, 3) := by decide +kernel
theorem dX7_scan_53 : decode cX7_scan 53 = .ok (.istore_n 3, 1) := by decide +kernel
theorem dX7_scan_54 : decode cX7_scan 54 = .ok (.iinc 4 1, 3) := by decide +kernel
theorem dX7_scan_57 : decode cX7_scan 57 = .ok (.goto (-42), 3) := by decide +kernel
theorem dX7_scan_60 : decode cX7_scan 60 = .ok (.aload_n 0, 1) := by decide +kernel
theorem dX7_scan_61 : decode cX7_scan 61 = .ok (.iconst 0, 1) := by decide +kernel
theorem dX7_scan_62 : decode cX7_scan 62 = .ok (.iload_n 2, 1) := by decide +kernel
theorem dX7_scan_63 : decode cX7_scan 63 = .ok (.lconst 0, 1) := by decide +kernel
theorem dX7_scan_64 : decode cX7_scan 64 = .ok (.invokevirtual 101, 3) := by decide +kernel
theorem dX7_scan_67 : decode cX7_scan 67 = .ok (.return_, 1) := by decide +kernel
theorem dX7_scanToken_0 : decode cX7_scanToken 0 = .ok (.aload_n 1, 1) := by decide +kernel
theorem dX7_scanToken_1 : decode cX7_scanToken 1 = .ok (.iload_n 2, 1) := by decide +kernel
theorem dX7_scanToken_2 : decode cX7_scanToken 2 = .ok (.baload, 1) := by decide +kernel
theorem dX7_scanToken_3 : decode cX7_scanToken 3 = .ok (.istore 4, 2) := by decide +kernel
theorem dX7_scanToken_5 : decode cX7_scanToken 5 = .ok (.iload 4, 2) := by decide +kernel
theorem dX7_scanToken_7 : decode cX7_scanToken 7 = .ok (.invokestatic 105, 3) := by decide +kernel
theorem dX7_scanToken_10 : decode cX7_scanToken 10 = .ok (.ifCond .eq 11, 3) := by decide +kernel
theorem dX7_scanToken_13 : decode cX7_scanToken 13 = .ok (.aload_n 0, 1) := by decide +kernel
theorem dX7_scanToken_14 : decode cX7_scanToken 14 = .ok (.aload_n 1, 1) := by decide +kernel
theorem dX7_scanToken_15 : decode cX7_scanToken 15 = .ok (.iload_n 2, 1) := by decide +kernel
theorem dX7_scanToken_16 : decode cX7_scanToken 16 = .ok (.iload_n 3, 1) := by decide +kernel
theorem dX7_scanToken_17 : decode cX7_scanToken 17 = .ok (.invokevirtual 108, 3) := by decide +kernel
theorem dX7_scanToken_20 : decode cX7_scanToken 20 = .ok (.ireturn, 1) := by decide +kernel
theorem dX7_scanToken_21 : decode cX7_scanToken 21 = .ok (.iload 4, 2) := by decide +kernel
theorem dX7_scanToken_23 : decode cX7_scanToken 23 = .ok (.invokestatic 111, 3) := by decide +kernel
theorem dX7_scanToken_26 : decode cX7_scanToken 26 = .ok (.ifCond .eq 11, 3) := by decide +kernel
theorem dX7_scanToken_29 : decode cX7_scanToken 29 = .ok (.aload_n 0, 1) := by decide +kernel
theorem dX7_scanToken_30 : decode cX7_scanToken 30 = .ok (.aload_n 1, 1) := by decide +kernel
theorem dX7_scanToken_31 : decode cX7_scanToken 31 = .ok (.iload_n 2, 1) := by decide +kernel
theorem dX7_scanToken_32 : decode cX7_scanToken 32 = .ok (.iload_n 3, 1) := by decide +kernel
theorem dX7_scanToken_33 : decode cX7_scanToken 33 = .ok (.invokevirtual 114, 3) := by decide +kernel
theorem dX7_scanToken_36 : decode cX7_scanToken 36 = .ok (.ireturn, 1) := by decide +kernel
theorem dX7_scanToken_37 : decode cX7_scanToken 37 = .ok (.aload_n 0, 1) := by decide +kernel
theorem dX7_scanToken_38 : decode cX7_scanToken 38 = .ok (.iload 4, 2) := by decide +kernel
theorem dX7_scanToken_40 : decode cX7_scanToken 40 = .ok (.bipush 59, 2) := by decide +kernel
theorem dX7_scanToken_42 : decode cX7_scanToken 42 = .ok (.if_icmp .eq 17, 3) := by decide +kernel
theorem dX7_scanToken_45 : decode cX7_scanToken 45 = .ok (.iload 4, 2) := by decide +kernel
theorem dX7_scanToken_47 : decode cX7_scanToken 47 = .ok (.bipush 44, 2) := by decide +kernel
theorem dX7_scanToken_49 : decode cX7_scanToken 49 = .ok (.if_icmp .eq 10, 3) := by decide +kernel
theorem dX7_scanToken_52 : decode cX7_scanToken 52 = .ok (.iload 4, 2) := by decide +kernel
theorem dX7_scanToken_54 : decode cX7_scanToken 54 = .ok (.bipush 47, 2) := by decide +kernel
theorem dX7_scanToken_56 : decode cX7_scanToken 56 = .ok (.if_icmp .ne 7, 3) := by decide +kernel
theorem dX7_scanToken_59 : decode cX7_scanToken 59 = .ok (.iconst 3, 1) := by decide +kernel
theorem dX7_scanToken_60 : decode cX7_scanToken 60 = .ok (.goto 4, 3) := by decide +kernel
theorem dX7_scanToken_63 : decode cX7_scanToken 63 = .ok (.iconst 4, 1) := by decide +kernel
theorem dX7_scanToken_64 : decode cX7_scanToken 64 = .ok (.iload_n 2, 1) := by decide +kernel
theorem dX7_scanToken_65 : decode cX7_scanToken 65 = .ok (.iload 4, 2) := by decide +kernel
theorem dX7_scanToken_67 : decode cX7_scanToken 67 = .ok (.i2l, 1) := by decide +kernel
theorem dX7_scanToken_68 : decode cX7_scanToken 68 = .ok (.invokevirtual 101, 3) := by decide +kernel
theorem dX7_scanToken_71 : decode cX7_scanToken 71 = .ok (.iload_n 2, 1) := by decide +kernel
theorem dX7_scanToken_72 : decode cX7_scanToken 72 = .ok (.iconst 1, 1) := by decide +kernel
theorem dX7_scanToken_73 : decode cX7_scanToken 73 = .ok (.iadd, 1) := by decide +kernel
theorem dX7_scanToken_74 : decode cX7_scanToken 74 = .ok (.ireturn, 1) := by decide +kernel
theorem dX7_scanWord_0 : decode cX7_scanWord 0 = .ok (.lconst 0, 1) := by decide +kernel
theorem dX7_scanWord_1 : decode cX7_scanWord 1 = .ok (.lstore 4, 2) := by decide +kernel
theorem dX7_scanWord_3 : decode cX7_scanWord 3 = .ok (.iload_n 2, 1) := by decide +kernel
theorem dX7_scanWord_4 : decode cX7_scanWord 4 = .ok (.istore 6, 2) := by decide +kernel
theorem dX7_scanWord_6 : decode cX7_scanWord 6 = .ok (.iload 6, 2) := by decide +kernel
theorem dX7_scanWord_8 : decode cX7_scanWord 8 = .ok (.iload_n 3, 1) := by decide +kernel
theorem dX7_scanWord_9 : decode cX7_scanWord 9 = .ok (.if_icmp .ge 46, 3) := by decide +kernel
theorem dX7_scanWord_12 : decode cX7_scanWord 12 = .ok (.iload 6, 2) := by decide +kernel
theorem dX7_scanWord_14 : decode cX7_scanWord 14 = .ok (.aload_n 1, 1) := by decide +kernel
theorem dX7_scanWord_15 : decode cX7_scanWord 15 = .ok (.arraylength, 1) := by decide +kernel
theorem dX7_scanWord_16 : decode cX7_scanWord 16 = .ok (.if_icmp .ge 39, 3) := by decide +kernel
theorem dX7_scanWord_19 : decode cX7_scanWord 19 = .ok (.aload_n 1, 1) := by decide +kernel
theorem dX7_scanWord_20 : decode cX7_scanWord 20 = .ok (.iload 6, 2) := by decide +kernel
theorem dX7_scanWord_22 : decode cX7_scanWord 22 = .ok (.baload, 1) := by decide +kernel
theorem dX7_scanWord_23 : decode cX7_scanWord 23 = .ok (.invokestatic 105, 3) := by decide +kernel
theorem dX7_scanWord_26 : decode cX7_scanWord 26 = .ok (.ifCond .eq 29, 3) := by decide +kernel
theorem dX7_scanWord_29 : decode cX7_scanWord 29 = .ok (.lload 4, 2) := by decide +kernel
theorem dX7_scanWord_31 : decode cX7_scanWord 31 = .ok (.ldc2_w 117, 3) := by decide +kernel
theorem dX7_scanWord_34 : decode cX7_scanWord 34 = .ok (.lmul, 1) := by decide +kernel
theorem dX7_scanWord_35 : decode cX7_scanWord 35 = .ok (.aload_n 1, 1) := by decide +kernel
theorem dX7_scanWord_36 : decode cX7_scanWord 36 = .ok (.iload 6, 2) := by decide +kernel
theorem dX7_scanWord_38 : decode cX7_scanWord 38 = .ok (.baload, 1) := by decide +kernel
theorem dX7_scanWord_39 : decode cX7_scanWord 39 = .ok (.i2l, 1) := by decide +kernel
theorem dX7_scanWord_40 : decode cX7_scanWord 40 = .ok (.ladd, 1) := by decide +kernel
theorem dX7_scanWord_41 : decode cX7_scanWord 41 = .ok (.ldc2_w 119, 3) := by decide +kernel
theorem dX7_scanWord_44 : decode cX7_scanWord 44 = .ok (.lsub, 1) := by decide +kernel
theorem dX7_scanWord_45 : decode cX7_scanWord 45 = .ok (.lconst 1, 1) := by decide +kernel
theorem dX7_scanWord_46 : decode cX7_scanWord 46 = .ok (.ladd, 1) := by decide +kernel
theorem dX7_scanWord_47 : decode cX7_scanWord 47 = .ok (.lstore 4, 2) := by decide +kernel
theorem dX7_scanWord_49 : decode cX7_scanWord 49 = .ok (.iinc 6 1, 3) := by decide +kernel
theorem dX7_scanWord_52 : decode cX7_scanWord 52 = .ok (.goto (-46), 3) := by decide +kernel
theorem dX7_scanWord_55 : decode cX7_scanWord 55 = .ok (.aload_n 0, 1) := by decide +kernel
theorem dX7_scanWord_56 : decode cX7_scanWord 56 = .ok (.iload 6, 2) := by decide +kernel
theorem dX7_scanWord_58 : decode cX7_scanWord 58 = .ok (.iload_n 2, 1) := by decide +kernel
theorem dX7_scanWord_59 : decode cX7_scanWord 59 = .ok (.isub, 1) := by decide +kernel
theorem dX7_scanWord_60 : decode cX7_scanWord 60 = .ok (.bipush 8, 2) := by decide +kernel
theorem dX7_scanWord_62 : decode cX7_scanWord 62 = .ok (.if_icmp .le 7, 3) := by decide +kernel
theorem dX7_scanWord_65 : decode cX7_scanWord 65 = .ok (.iconst 4, 1) := by decide +kernel
theorem dX7_scanWord_66 : decode cX7_scanWord 66 = .ok (.goto 4, 3) := by decide +kernel
theorem dX7_scanWord_69 : decode cX7_scanWord 69 = .ok (.iconst 1, 1) := by decide +kernel
theorem dX7_scanWord_70 : decode cX7_scanWord 70 = .ok (.iload_n 2, 1) := by decide +kernel
theorem dX7_scanWord_71 : decode cX7_scanWord 71 = .ok (.lload 4, 2) := by decide +kernel
theorem dX7_scanWord_73 : decode cX7_scanWord 73 = .ok (.invokevirtual 101, 3) := by decide +kernel
theorem dX7_scanWord_76 : decode cX7_scanWord 76 = .ok (.iload 6, 2) := by decide +kernel
theorem dX7_scanWord_78 : decode cX7_scanWord 78 = .ok (.ireturn, 1) := by decide +kernel
theorem dX7_scanWhole_0 : decode cX7_scanWhole 0 = .ok (.lconst 0, 1) := by decide +kernel
theorem dX7_scanWhole_1 : decode cX7_scanWhole 1 = .ok (.lstore 4, 2) := by decide +kernel
theorem dX7_scanWhole_3 : decode cX7_scanWhole 3 = .ok (.iload_n 2, 1) := by decide +kernel
theorem dX7_scanWhole_4 : decode cX7_scanWhole 4 = .ok (.istore 6, 2) := by decide +kernel
theorem dX7_scanWhole_6 : decode cX7_scanWhole 6 = .ok (.iload 6, 2) := by decide +kernel
theorem dX7_scanWhole_8 : decode cX7_scanWhole 8 = .ok (.iload_n 3, 1) := by decide +kernel
theorem dX7_scanWhole_9 : decode cX7_scanWhole 9 = .ok (.if_icmp .ge 44, 3) := by decide +kernel
theorem dX7_scanWhole_12 : decode cX7_scanWhole 12 = .ok (.iload 6, 2) := by decide +kernel
theorem dX7_scanWhole_14 : decode cX7_scanWhole 14 = .ok (.aload_n 1, 1) := by decide +kernel
theorem dX7_scanWhole_15 : decode cX7_scanWhole 15 = .ok (.arraylength, 1) := by decide +kernel
theorem dX7_scanWhole_16 : decode cX7_scanWhole 16 = .ok (.if_icmp .ge 37, 3) := by decide +kernel
theorem dX7_scanWhole_19 : decode cX7_scanWhole 19 = .ok (.aload_n 1, 1) := by decide +kernel
theorem dX7_scanWhole_20 : decode cX7_scanWhole 20 = .ok (.iload 6, 2) := by decide +kernel
theorem dX7_scanWhole_22 : decode cX7_scanWhole 22 = .ok (.baload, 1) := by decide +kernel
theorem dX7_scanWhole_23 : decode cX7_scanWhole 23 = .ok (.invokestatic 111, 3) := by decide +kernel
theorem dX7_scanWhole_26 : decode cX7_scanWhole 26 = .ok (.ifCond .eq 27, 3) := by decide +kernel
theorem dX7_scanWhole_29 : decode cX7_scanWhole 29 = .ok (.lload 4, 2) := by decide +kernel
theorem dX7_scanWhole_31 : decode cX7_scanWhole 31 = .ok (.ldc2_w 121, 3) := by decide +kernel
theorem dX7_scanWhole_34 : decode cX7_scanWhole 34 = .ok (.lmul, 1) := by decide +kernel
theorem dX7_scanWhole_35 : decode cX7_scanWhole 35 = .ok (.aload_n 1, 1) := by decide +kernel
theorem dX7_scanWhole_36 : decode cX7_scanWhole 36 = .ok (.iload 6, 2) := by decide +kernel
theorem dX7_scanWhole_38 : decode cX7_scanWhole 38 = .ok (.baload, 1) := by decide +kernel
theorem dX7_scanWhole_39 : decode cX7_scanWhole 39 = .ok (.i2l, 1) := by decide +kernel
theorem dX7_scanWhole_40 : decode cX7_scanWhole 40 = .ok (.ladd, 1) := by decide +kernel
theorem dX7_scanWhole_41 : decode cX7_scanWhole 41 = .ok (.ldc2_w 123, 3) := by decide +kernel
theorem dX7_scanWhole_44 : decode cX7_scanWhole 44 = .ok (.lsub, 1) := by decide +kernel
theorem dX7_scanWhole_45 : decode cX7_scanWhole 45 = .ok (.lstore 4, 2) := by decide +kernel
theorem dX7_scanWhole_47 : decode cX7_scanWhole 47 = .ok (.iinc 6 1, 3) := by decide +kernel
theorem dX7_scanWhole_50 : decode cX7_scanWhole 50 = .ok (.goto (-44), 3) := by decide +kernel
theorem dX7_scanWhole_53 : decode cX7_scanWhole 53 = .ok (.aload_n 0, 1) := by decide +kernel
theorem dX7_scanWhole_54 : decode cX7_scanWhole 54 = .ok (.iload 6, 2) := by decide +kernel
theorem dX7_scanWhole_56 : decode cX7_scanWhole 56 = .ok (.iload_n 2, 1) := by decide +kernel
theorem dX7_scanWhole_57 : decode cX7_scanWhole 57 = .ok (.isub, 1) := by decide +kernel
theorem dX7_scanWhole_58 : decode cX7_scanWhole 58 = .ok (.iconst 3, 1) := by decide +kernel
theorem dX7_scanWhole_59 : decode cX7_scanWhole 59 = .ok (.if_icmp .le 7, 3) := by decide +kernel
theorem dX7_scanWhole_62 : decode cX7_scanWhole 62 = .ok (.iconst 4, 1) := by decide +kernel
theorem dX7_scanWhole_63 : decode cX7_scanWhole 63 = .ok (.goto 4, 3) := by decide +kernel
theorem dX7_scanWhole_66 : decode cX7_scanWhole 66 = .ok (.iconst 2, 1) := by decide +kernel
theorem dX7_scanWhole_67 : decode cX7_scanWhole 67 = .ok (.iload_n 2, 1) := by decide +kernel
theorem dX7_scanWhole_68 : decode cX7_scanWhole 68 = .ok (.lload 4, 2) := by decide +kernel
theorem dX7_scanWhole_70 : decode cX7_scanWhole 70 = .ok (.invokevirtual 101, 3) := by decide +kernel
theorem dX7_scanWhole_73 : decode cX7_scanWhole 73 = .ok (.iload 6, 2) := by decide +kernel
theorem dX7_scanWhole_75 : decode cX7_scanWhole 75 = .ok (.ireturn, 1) := by decide +kernel
theorem dX7_addToken_0 : decode cX7_addToken 0 = .ok (.aload_n 0, 1) := by decide +kernel
theorem dX7_addToken_1 : decode cX7_addToken 1 = .ok (.getfield 52, 3) := by decide +kernel
theorem dX7_addToken_4 : decode cX7_addToken 4 = .ok (.aload_n 0, 1) := by decide +kernel
theorem dX7_addToken_5 : decode cX7_addToken 5 = .ok (.getfield 9, 3) := by decide +kernel
theorem dX7_addToken_8 : decode cX7_addToken 8 = .ok (.arraylength, 1) := by decide +kernel
theorem dX7_addToken_9 : decode cX7_addToken 9 = .ok (.if_icmp .ge 43, 3) := by decide +kernel
theorem dX7_addToken_12 : decode cX7_addToken 12 = .ok (.aload_n 0, 1) := by decide +kernel
theorem dX7_addToken_13 : decode cX7_addToken 13 = .ok (.getfield 9, 3) := by decide +kernel
theorem dX7_addToken_16 : decode cX7_addToken 16 = .ok (.aload_n 0, 1) := by decide +kernel
theorem dX7_addToken_17 : decode cX7_addToken 17 = .ok (.getfield 52, 3) := by decide +kernel
theorem dX7_addToken_20 : decode cX7_addToken 20 = .ok (.iload_n 1, 1) := by decide +kernel
theorem dX7_addToken_21 : decode cX7_addToken 21 = .ok (.iastore, 1) := by decide +kernel
theorem dX7_addToken_22 : decode cX7_addToken 22 = .ok (.aload_n 0, 1) := by decide +kernel
theorem dX7_addToken_23 : decode cX7_addToken 23 = .ok (.getfield 15, 3) := by decide +kernel
theorem dX7_addToken_26 : decode cX7_addToken 26 = .ok (.aload_n 0, 1) := by decide +kernel
theorem dX7_addToken_27 : decode cX7_addToken 27 = .ok (.getfield 52, 3) := by decide +kernel
theorem dX7_addToken_30 : decode cX7_addToken 30 = .ok (.iload_n 2, 1) := by decide +kernel
theorem dX7_addToken_31 : decode cX7_addToken 31 = .ok (.iastore, 1) := by decide +kernel
theorem dX7_addToken_32 : decode cX7_addToken 32 = .ok (.aload_n 0, 1) := by decide +kernel
theorem dX7_addToken_33 : decode cX7_addToken 33 = .ok (.getfield 18, 3) := by decide +kernel
theorem dX7_addToken_36 : decode cX7_addToken 36 = .ok (.aload_n 0, 1) := by decide +kernel
theorem dX7_addToken_37 : decode cX7_addToken 37 = .ok (.getfield 52, 3) := by decide +kernel
theorem dX7_addToken_40 : decode cX7_addToken 40 = .ok (.lload_n 3, 1) := by decide +kernel
theorem dX7_addToken_41 : decode cX7_addToken 41 = .ok (.lastore, 1) := by decide +kernel
theorem dX7_addToken_42 : decode cX7_addToken 42 = .ok (.aload_n 0, 1) := by decide +kernel
theorem dX7_addToken_43 : decode cX7_addToken 43 = .ok (.dup, 1) := by decide +kernel
theorem dX7_addToken_44 : decode cX7_addToken 44 = .ok (.getfield 52, 3) := by decide +kernel
theorem dX7_addToken_47 : decode cX7_addToken 47 = .ok (.iconst 1, 1) := by decide +kernel
theorem dX7_addToken_48 : decode cX7_addToken 48 = .ok (.iadd, 1) := by decide +kernel
theorem dX7_addToken_49 : decode cX7_addToken 49 = .ok (.putfield 52, 3) := by decide +kernel
theorem dX7_addToken_52 : decode cX7_addToken 52 = .ok (.return_, 1) := by decide +kernel
theorem dX7_isLetter_0 : decode cX7_isLetter 0 = .ok (.iload_n 0, 1) := by decide +kernel
theorem dX7_isLetter_1 : decode cX7_isLetter 1 = .ok (.bipush 97, 2) := by decide +kernel
theorem dX7_isLetter_3 : decode cX7_isLetter 3 = .ok (.if_icmp .lt 13, 3) := by decide +kernel
theorem dX7_isLetter_6 : decode cX7_isLetter 6 = .ok (.iload_n 0, 1) := by decide +kernel
theorem dX7_isLetter_7 : decode cX7_isLetter 7 = .ok (.bipush 122, 2) := by decide +kernel
theorem dX7_isLetter_9 : decode cX7_isLetter 9 = .ok (.if_icmp .gt 7, 3) := by decide +kernel
theorem dX7_isLetter_12 : decode cX7_isLetter 12 = .ok (.iconst 1, 1) := by decide +kernel
theorem dX7_isLetter_13 : decode cX7_isLetter 13 = .ok (.goto 4, 3) := by decide +kernel
theorem dX7_isLetter_16 : decode cX7_isLetter 16 = .ok (.iconst 0, 1) := by decide +kernel
theorem dX7_isLetter_17 : decode cX7_isLetter 17 = .ok (.ireturn, 1) := by decide +kernel
theorem dX7_isDigit_0 : decode cX7_isDigit 0 = .ok (.iload_n 0, 1) := by decide +kernel
theorem dX7_isDigit_1 : decode cX7_isDigit 1 = .ok (.bipush 48, 2) := by decide +kernel
theorem dX7_isDigit_3 : decode cX7_isDigit 3 = .ok (.if_icmp .lt 13, 3) := by decide +kernel
theorem dX7_isDigit_6 : decode cX7_isDigit 6 = .ok (.iload_n 0, 1) := by decide +kernel
theorem dX7_isDigit_7 : decode cX7_isDigit 7 = .ok (.bipush 57, 2) := by decide +kernel
theorem dX7_isDigit_9 : decode cX7_isDigit 9 = .ok (.if_icmp .gt 7, 3) := by decide +kernel
theorem dX7_isDigit_12 : decode cX7_isDigit 12 = .ok (.iconst 1, 1) := by decide +kernel
theorem dX7_isDigit_13 : decode cX7_isDigit 13 = .ok (.goto 4, 3) := by decide +kernel
theorem dX7_isDigit_16 : decode cX7_isDigit 16 = .ok (.iconst 0, 1) := by decide +kernel
theorem dX7_isDigit_17 : decode cX7_isDigit 17 = .ok (.ireturn, 1) := by decide +kernel
theorem dX7_step_0 : decode cX7_step 0 = .ok (.aload_n 0, 1) := by decide +kernel
theorem dX7_step_1 : decode cX7_step 1 = .ok (.getfield 91, 3) := by decide +kernel
theorem dX7_step_4 : decode cX7_step 4 = .ok (.iconst 1, 1) := by decide +kernel
theorem dX7_step_5 : decode cX7_step 5 = .ok (.iadd, 1) := by decide +kernel
theorem dX7_step_6 : decode cX7_step 6 = .ok (.aload_n 0, 1) := by decide +kernel
theorem dX7_step_7 : decode cX7_step 7 = .ok (.getfield 52, 3) := by decide +kernel
theorem dX7_step_10 : decode cX7_step 10 = .ok (.if_icmp .ge 13, 3) := by decide +kernel
theorem dX7_step_13 : decode cX7_step 13 = .ok (.aload_n 0, 1) := by decide +kernel
theorem dX7_step_14 : decode cX7_step 14 = .ok (.dup, 1) := by decide +kernel
theorem dX7_step_15 : decode cX7_step 15 = .ok (.getfield 91, 3) := by decide +kernel
theorem dX7_step_18 : decode cX7_step 18 = .ok (.iconst 1, 1) := by decide +kernel
theorem dX7_step_19 : decode cX7_step 19 = .ok (.iadd, 1) := by decide +kernel
theorem dX7_step_20 : decode cX7_step 20 = .ok (.putfield 91, 3) := by decide +kernel
theorem dX7_step_23 : decode cX7_step 23 = .ok (.return_, 1) := by decide +kernel
theorem dX7_codeOf_0 : decode cX7_codeOf 0 = .ok (.lconst 0, 1) := by decide +kernel
theorem dX7_codeOf_1 : decode cX7_codeOf 1 = .ok (.lstore_n 1, 1) := by decide +kernel
theorem dX7_codeOf_2 : decode cX7_codeOf 2 = .ok (.iconst 0, 1) := by decide +kernel
theorem dX7_codeOf_3 : decode cX7_codeOf 3 = .ok (.istore_n 3, 1) := by decide +kernel
theorem dX7_codeOf_4 : decode cX7_codeOf 4 = .ok (.iload_n 3, 1) := by decide +kernel
theorem dX7_codeOf_5 : decode cX7_codeOf 5 = .ok (.aload_n 0, 1) := by decide +kernel
theorem dX7_codeOf_6 : decode cX7_codeOf 6 = .ok (.invokevirtual 125, 3) := by decide +kernel
theorem dX7_codeOf_9 : decode cX7_codeOf 9 = .ok (.if_icmp .ge 28, 3) := by decide +kernel
theorem dX7_codeOf_12 : decode cX7_codeOf 12 = .ok (.lload_n 1, 1) := by decide +kernel
theorem dX7_codeOf_13 : decode cX7_codeOf 13 = .ok (.ldc2_w 117, 3) := by decide +kernel
theorem dX7_codeOf_16 : decode cX7_codeOf 16 = .ok (.lmul, 1) := by decide +kernel
theorem dX7_codeOf_17 : decode cX7_codeOf 17 = .ok (.aload_n 0, 1) := by decide +kernel
theorem dX7_codeOf_18 : decode cX7_codeOf 18 = .ok (.iload_n 3, 1) := by decide +kernel
theorem dX7_codeOf_19 : decode cX7_codeOf 19 = .ok (.invokevirtual 131, 3) := by decide +kernel
theorem dX7_codeOf_22 : decode cX7_codeOf 22 = .ok (.i2l, 1) := by decide +kernel
theorem dX7_codeOf_23 : decode cX7_codeOf 23 = .ok (.ladd, 1) := by decide +kernel
theorem dX7_codeOf_24 : decode cX7_codeOf 24 = .ok (.ldc2_w 119, 3) := by decide +kernel
theorem dX7_codeOf_27 : decode cX7_codeOf 27 = .ok (.lsub, 1) := by decide +kernel
theorem dX7_codeOf_28 : decode cX7_codeOf 28 = .ok (.lconst 1, 1) := by decide +kernel
theorem dX7_codeOf_29 : decode cX7_codeOf 29 = .ok (.ladd, 1) := by decide +kernel
theorem dX7_codeOf_30 : decode cX7_codeOf 30 = .ok (.lstore_n 1, 1) := by decide +kernel
theorem dX7_codeOf_31 : decode cX7_codeOf 31 = .ok (.iinc 3 1, 3) := by decide +kernel
theorem dX7_codeOf_34 : decode cX7_codeOf 34 = .ok (.goto (-30), 3) := by decide +kernel
theorem dX7_codeOf_37 : decode cX7_codeOf 37 = .ok (.lload_n 1, 1) := by decide +kernel
theorem dX7_codeOf_38 : decode cX7_codeOf 38 = .ok (.lreturn, 1) := by decide +kernel
theorem dX7_isWord_0 : decode cX7_isWord 0 = .ok (.aload_n 0, 1) := by decide +kernel
theorem dX7_isWord_1 : decode cX7_isWord 1 = .ok (.getfield 9, 3) := by decide +kernel
theorem dX7_isWord_4 : decode cX7_isWord 4 = .ok (.aload_n 0, 1) := by decide +kernel
theorem dX7_isWord_5 : decode cX7_isWord 5 = .ok (.getfield 91, 3) := by decide +kernel
theorem dX7_isWord_8 : decode cX7_isWord 8 = .ok (.iaload, 1) := by decide +kernel
theorem dX7_isWord_9 : decode cX7_isWord 9 = .ok (.iconst 1, 1) := by decide +kernel
theorem dX7_isWord_10 : decode cX7_isWord 10 = .ok (.if_icmp .ne 24, 3) := by decide +kernel
theorem dX7_isWord_13 : decode cX7_isWord 13 = .ok (.aload_n 0, 1) := by decide +kernel
theorem dX7_isWord_14 : decode cX7_isWord 14 = .ok (.getfield 18, 3) := by decide +kernel
theorem dX7_isWord_17 : decode cX7_isWord 17 = .ok (.aload_n 0, 1) := by decide +kernel
theorem dX7_isWord_18 : decode cX7_isWord 18 = .ok (.getfield 91, 3) := by decide +kernel
theorem dX7_isWord_21 : decode cX7_isWord 21 = .ok (.laload, 1) := by decide +kernel
theorem dX7_isWord_22 : decode cX7_isWord 22 = .ok (.aload_n 1, 1) := by decide +kernel
theorem dX7_isWord_23 : decode cX7_isWord 23 = .ok (.invokestatic 135, 3) := by decide +kernel
theorem dX7_isWord_26 : decode cX7_isWord 26 = .ok (.lcmp, 1) := by decide +kernel
theorem dX7_isWord_27 : decode cX7_isWord 27 = .ok (.ifCond .ne 7, 3) := by decide +kernel
theorem dX7_isWord_30 : decode cX7_isWord 30 = .ok (.iconst 1, 1) := by decide +kernel
theorem dX7_isWord_31 : decode cX7_isWord 31 = .ok (.goto 4, 3) := by decide +kernel
theorem dX7_isWord_34 : decode cX7_isWord 34 = .ok (.iconst 0, 1) := by decide +kernel
theorem dX7_isWord_35 : decode cX7_isWord 35 = .ok (.ireturn, 1) := by decide +kernel
theorem dX7_isMark_0 : decode cX7_isMark 0 = .ok (.aload_n 0, 1) := by decide +kernel
theorem dX7_isMark_1 : decode cX7_isMark 1 = .ok (.getfield 9, 3) := by decide +kernel
theorem dX7_isMark_4 : decode cX7_isMark 4 = .ok (.aload_n 0, 1) := by decide +kernel
theorem dX7_isMark_5 : decode cX7_isMark 5 = .ok (.getfield 91, 3) := by decide +kernel
theorem dX7_isMark_8 : decode cX7_isMark 8 = .ok (.iaload, 1) := by decide +kernel
theorem dX7_isMark_9 : decode cX7_isMark 9 = .ok (.iconst 3, 1) := by decide +kernel
theorem dX7_isMark_10 : decode cX7_isMark 10 = .ok (.if_icmp .ne 22, 3) := by decide +kernel
theorem dX7_isMark_13 : decode cX7_isMark 13 = .ok (.aload_n 0, 1) := by decide +kernel
theorem dX7_isMark_14 : decode cX7_isMark 14 = .ok (.getfield 18, 3) := by decide +kernel
theorem dX7_isMark_17 : decode cX7_isMark 17 = .ok (.aload_n 0, 1) := by decide +kernel
theorem dX7_isMark_18 : decode cX7_isMark 18 = .ok (.getfield 91, 3) := by decide +kernel
theorem dX7_isMark_21 : decode cX7_isMark 21 = .ok (.laload, 1) := by decide +kernel
theorem dX7_isMark_22 : decode cX7_isMark 22 = .ok (.iload_n 1, 1) := by decide +kernel
theorem dX7_isMark_23 : decode cX7_isMark 23 = .ok (.i2l, 1) := by decide +kernel
theorem dX7_isMark_24 : decode cX7_isMark 24 = .ok (.lcmp, 1) := by decide +kernel
theorem dX7_isMark_25 : decode cX7_isMark 25 = .ok (.ifCond .ne 7, 3) := by decide +kernel
theorem dX7_isMark_28 : decode cX7_isMark 28 = .ok (.iconst 1, 1) := by decide +kernel
theorem dX7_isMark_29 : decode cX7_isMark 29 = .ok (.goto 4, 3) := by decide +kernel
theorem dX7_isMark_32 : decode cX7_isMark 32 = .ok (.iconst 0, 1) := by decide +kernel
theorem dX7_isMark_33 : decode cX7_isMark 33 = .ok (.ireturn, 1) := by decide +kernel
theorem dX7_isName_0 : decode cX7_isName 0 = .ok (.aload_n 0, 1) := by decide +kernel
theorem dX7_isName_1 : decode cX7_isName 1 = .ok (.getfield 9, 3) := by decide +kernel
theorem dX7_isName_4 : decode cX7_isName 4 = .ok (.aload_n 0, 1) := by decide +kernel
theorem dX7_isName_5 : decode cX7_isName 5 = .ok (.getfield 91, 3) := by decide +kernel
theorem dX7_isName_8 : decode cX7_isName 8 = .ok (.iaload, 1) := by decide +kernel
theorem dX7_isName_9 : decode cX7_isName 9 = .ok (.iconst 1, 1) := by decide +kernel
theorem dX7_isName_10 : decode cX7_isName 10 = .ok (.if_icmp .ne 115, 3) := by decide +kernel
theorem dX7_isName_13 : decode cX7_isName 13 = .ok (.aload_n 0, 1) := by decide +kernel
theorem dX7_isName_14 : decode cX7_isName 14 = .ok (.ldc 55, 2) := by decide +kernel
theorem dX7_isName_16 : decode cX7_isName 16 = .ok (.invokevirtual 57, 3) := by decide +kernel
theorem dX7_isName_19 : decode cX7_isName 19 = .ok (.ifCond .ne 106, 3) := by decide +kernel
theorem dX7_isName_22 : decode cX7_isName 22 = .ok (.aload_n 0, 1) := by decide +kernel
theorem dX7_isName_23 : decode cX7_isName 23 = .ok (.ldc 65, 2) := by decide +kernel
theorem dX7_isName_25 : decode cX7_isName 25 = .ok (.invokevirtual 57, 3) := by decide +kernel
theorem dX7_isName_28 : decode cX7_isName 28 = .ok (.ifCond .ne 97, 3) := by decide +kernel
theorem dX7_isName_31 : decode cX7_isName 31 = .ok (.aload_n 0, 1) := by decide +kernel
theorem dX7_isName_32 : decode cX7_isName 32 = .ok (.ldc 70, 2) := by decide +kernel
theorem dX7_isName_34 : decode cX7_isName 34 = .ok (.invokevirtual 57, 3) := by decide +kernel
theorem dX7_isName_37 : decode cX7_isName 37 = .ok (.ifCond .ne 88, 3) := by decide +kernel
theorem dX7_isName_40 : decode cX7_isName 40 = .ok (.aload_n 0, 1) := by decide +kernel
theorem dX7_isName_41 : decode cX7_isName 41 = .ok (.ldc 75, 2) := by decide +kernel
theorem dX7_isName_43 : decode cX7_isName 43 = .ok (.invokevirtual 57, 3) := by decide +kernel
theorem dX7_isName_46 : decode cX7_isName 46 = .ok (.ifCond .ne 79, 3) := by decide +kernel
theorem dX7_isName_49 : decode cX7_isName 49 = .ok (.aload_n 0, 1) := by decide +kernel
theorem dX7_isName_50 : decode cX7_isName 50 = .ok (.ldc 139, 2) := by decide +kernel
theorem dX7_isName_52 : decode cX7_isName 52 = .ok (.invokevirtual 57, 3) := by decide +kernel
theorem dX7_isName_55 : decode cX7_isName 55 = .ok (.ifCond .ne 70, 3) := by decide +kernel
theorem dX7_isName_58 : decode cX7_isName 58 = .ok (.aload_n 0, 1) := by decide +kernel
theorem dX7_isName_59 : decode cX7_isName 59 = .ok (.ldc 141, 2) := by decide +kernel
theorem dX7_isName_61 : decode cX7_isName 61 = .ok (.invokevirtual 57, 3) := by decide +kernel
theorem dX7_isName_64 : decode cX7_isName 64 = .ok (.ifCond .ne 61, 3) := by decide +kernel
theorem dX7_isName_67 : decode cX7_isName 67 = .ok (.aload_n 0, 1) := by decide +kernel
theorem dX7_isName_68 : decode cX7_isName 68 = .ok (.ldc 143, 2) := by decide +kernel
theorem dX7_isName_70 : decode cX7_isName 70 = .ok (.invokevirtual 57, 3) := by decide +kernel
theorem dX7_isName_73 : decode cX7_isName 73 = .ok (.ifCond .ne 52, 3) := by decide +kernel
theorem dX7_isName_76 : decode cX7_isName 76 = .ok (.aload_n 0, 1) := by decide +kernel
theorem dX7_isName_77 : decode cX7_isName 77 = .ok (.ldc 145, 2) := by decide +kernel
theorem dX7_isName_79 : decode cX7_isName 79 = .ok (.invokevirtual 57, 3) := by decide +kernel
theorem dX7_isName_82 : decode cX7_isName 82 = .ok (.ifCond .ne 43, 3) := by decide +kernel
theorem dX7_isName_85 : decode cX7_isName 85 = .ok (.aload_n 0, 1) := by decide +kernel
theorem dX7_isName_86 : decode cX7_isName 86 = .ok (.ldc 147, 2) := by decide +kernel
theorem dX7_isName_88 : decode cX7_isName 88 = .ok (.invokevirtual 57, 3) := by decide +kernel
theorem dX7_isName_91 : decode cX7_isName 91 = .ok (.ifCond .ne 34, 3) := by decide +kernel
theorem dX7_isName_94 : decode cX7_isName 94 = .ok (.aload_n 0, 1) := by decide +kernel
theorem dX7_isName_95 : decode cX7_isName 95 = .ok (.ldc 149, 2) := by decide +kernel
theorem dX7_isName_97 : decode cX7_isName 97 = .ok (.invokevirtual 57, 3) := by decide +kernel
theorem dX7_isName_100 : decode cX7_isName 100 = .ok (.ifCond .ne 25, 3) := by decide +kernel
theorem dX7_isName_103 : decode cX7_isName 103 = .ok (.aload_n 0, 1) := by decide +kernel
theorem dX7_isName_104 : decode cX7_isName 104 = .ok (.ldc 151, 2) := by decide +kernel
theorem dX7_isName_106 : decode cX7_isName 106 = .ok (.invokevirtual 57, 3) := by decide +kernel
theorem dX7_isName_109 : decode cX7_isName 109 = .ok (.ifCond .ne 16, 3) := by decide +kernel
theorem dX7_isName_112 : decode cX7_isName 112 = .ok (.aload_n 0, 1) := by decide +kernel
theorem dX7_isName_113 : decode cX7_isName 113 = .ok (.ldc 153, 2) := by decide +kernel
theorem dX7_isName_115 : decode cX7_isName 115 = .ok (.invokevirtual 57, 3) := by decide +kernel
theorem dX7_isName_118 : decode cX7_isName 118 = .ok (.ifCond .ne 7, 3) := by decide +kernel
theorem dX7_isName_121 : decode cX7_isName 121 = .ok (.iconst 1, 1) := by decide +kernel
theorem dX7_isName_122 : decode cX7_isName 122 = .ok (.goto 4, 3) := by decide +kernel
theorem dX7_isName_125 : decode cX7_isName 125 = .ok (.iconst 0, 1) := by decide +kernel
theorem dX7_isName_126 : decode cX7_isName 126 = .ok (.ireturn, 1) := by decide +kernel
theorem dX7_takeWord_0 : decode cX7_takeWord 0 = .ok (.aload_n 0, 1) := by decide +kernel
theorem dX7_takeWord_1 : decode cX7_takeWord 1 = .ok (.aload_n 1, 1) := by decide +kernel
theorem dX7_takeWord_2 : decode cX7_takeWord 2 = .ok (.invokevirtual 57, 3) := by decide +kernel
theorem dX7_takeWord_5 : decode cX7_takeWord 5 = .ok (.ifCond .ne 9, 3) := by decide +kernel
theorem dX7_takeWord_8 : decode cX7_takeWord 8 = .ok (.aload_n 0, 1) := by decide +kernel
theorem dX7_takeWord_9 : decode cX7_takeWord 9 = .ok (.iconst 1, 1) := by decide +kernel
theorem dX7_takeWord_10 : decode cX7_takeWord 10 = .ok (.invokevirtual 80, 3) := by decide +kernel
theorem dX7_takeWord_13 : decode cX7_takeWord 13 = .ok (.ireturn, 1) := by decide +kernel
theorem dX7_takeWord_14 : decode cX7_takeWord 14 = .ok (.aload_n 0, 1) := by decide +kernel
theorem dX7_takeWord_15 : decode cX7_takeWord 15 = .ok (.invokevirtual 88, 3) := by decide +kernel
theorem dX7_takeWord_18 : decode cX7_takeWord 18 = .ok (.iconst 1, 1) := by decide +kernel
theorem dX7_takeWord_19 : decode cX7_takeWord 19 = .ok (.ireturn, 1) := by decide +kernel
theorem dX7_takeMark_0 : decode cX7_takeMark 0 = .ok (.aload_n 0, 1) := by decide +kernel
theorem dX7_takeMark_1 : decode cX7_takeMark 1 = .ok (.iload_n 1, 1) := by decide +kernel
theorem dX7_takeMark_2 : decode cX7_takeMark 2 = .ok (.invokevirtual 84, 3) := by decide +kernel
theorem dX7_takeMark_5 : decode cX7_takeMark 5 = .ok (.ifCond .ne 9, 3) := by decide +kernel
theorem dX7_takeMark_8 : decode cX7_takeMark 8 = .ok (.aload_n 0, 1) := by decide +kernel
theorem dX7_takeMark_9 : decode cX7_takeMark 9 = .ok (.iconst 1, 1) := by decide +kernel
theorem dX7_takeMark_10 : decode cX7_takeMark 10 = .ok (.invokevirtual 80, 3) := by decide +kernel
theorem dX7_takeMark_13 : decode cX7_takeMark 13 = .ok (.ireturn, 1) := by decide +kernel
theorem dX7_takeMark_14 : decode cX7_takeMark 14 = .ok (.aload_n 0, 1) := by decide +kernel
theorem dX7_takeMark_15 : decode cX7_takeMark 15 = .ok (.invokevirtual 88, 3) := by decide +kernel
theorem dX7_takeMark_18 : decode cX7_takeMark 18 = .ok (.iconst 1, 1) := by decide +kernel
theorem dX7_takeMark_19 : decode cX7_takeMark 19 = .ok (.ireturn, 1) := by decide +kernel
theorem dX7_takeWhole_0 : decode cX7_takeWhole 0 = .ok (.aload_n 0, 1) := by decide +kernel
theorem dX7_takeWhole_1 : decode cX7_takeWhole 1 = .ok (.getfield 9, 3) := by decide +kernel
theorem dX7_takeWhole_4 : decode cX7_takeWhole 4 = .ok (.aload_n 0, 1) := by decide +kernel
theorem dX7_takeWhole_5 : decode cX7_takeWhole 5 = .ok (.getfield 91, 3) := by decide +kernel
theorem dX7_takeWhole_8 : decode cX7_takeWhole 8 = .ok (.iaload, 1) := by decide +kernel
theorem dX7_takeWhole_9 : decode cX7_takeWhole 9 = .ok (.iconst 2, 1) := by decide +kernel
theorem dX7_takeWhole_10 : decode cX7_takeWhole 10 = .ok (.if_icmp .eq 9, 3) := by decide +kernel
theorem dX7_takeWhole_13 : decode cX7_takeWhole 13 = .ok (.aload_n 0, 1) := by decide +kernel
theorem dX7_takeWhole_14 : decode cX7_takeWhole 14 = .ok (.iconst 1, 1) := by decide +kernel
theorem dX7_takeWhole_15 : decode cX7_takeWhole 15 = .ok (.invokevirtual 80, 3) := by decide +kernel
theorem dX7_takeWhole_18 : decode cX7_takeWhole 18 = .ok (.ireturn, 1) := by decide +kernel
theorem dX7_takeWhole_19 : decode cX7_takeWhole 19 = .ok (.aload_n 0, 1) := by decide +kernel
theorem dX7_takeWhole_20 : decode cX7_takeWhole 20 = .ok (.getfield 18, 3) := by decide +kernel
theorem dX7_takeWhole_23 : decode cX7_takeWhole 23 = .ok (.aload_n 0, 1) := by decide +kernel
theorem dX7_takeWhole_24 : decode cX7_takeWhole 24 = .ok (.getfield 91, 3) := by decide +kernel
theorem dX7_takeWhole_27 : decode cX7_takeWhole 27 = .ok (.laload, 1) := by decide +kernel
theorem dX7_takeWhole_28 : decode cX7_takeWhole 28 = .ok (.iload_n 1, 1) := by decide +kernel
theorem dX7_takeWhole_29 : decode cX7_takeWhole 29 = .ok (.i2l, 1) := by decide +kernel
theorem dX7_takeWhole_30 : decode cX7_takeWhole 30 = .ok (.lcmp, 1) := by decide +kernel
theorem dX7_takeWhole_31 : decode cX7_takeWhole 31 = .ok (.ifCond .lt 18, 3) := by decide +kernel
theorem dX7_takeWhole_34 : decode cX7_takeWhole 34 = .ok (.aload_n 0, 1) := by decide +kernel
theorem dX7_takeWhole_35 : decode cX7_takeWhole 35 = .ok (.getfield 18, 3) := by decide +kernel
theorem dX7_takeWhole_38 : decode cX7_takeWhole 38 = .ok (.aload_n 0, 1) := by decide +kernel
theorem dX7_takeWhole_39 : decode cX7_takeWhole 39 = .ok (.getfield 91, 3) := by decide +kernel
theorem dX7_takeWhole_42 : decode cX7_takeWhole 42 = .ok (.laload, 1) := by decide +kernel
theorem dX7_takeWhole_43 : decode cX7_takeWhole 43 = .ok (.iload_n 2, 1) := by decide +kernel
theorem dX7_takeWhole_44 : decode cX7_takeWhole 44 = .ok (.i2l, 1) := by decide +kernel
theorem dX7_takeWhole_45 : decode cX7_takeWhole 45 = .ok (.lcmp, 1) := by decide +kernel
theorem dX7_takeWhole_46 : decode cX7_takeWhole 46 = .ok (.ifCond .le 9, 3) := by decide +kernel
theorem dX7_takeWhole_49 : decode cX7_takeWhole 49 = .ok (.aload_n 0, 1) := by decide +kernel
theorem dX7_takeWhole_50 : decode cX7_takeWhole 50 = .ok (.iconst 4, 1) := by decide +kernel
theorem dX7_takeWhole_51 : decode cX7_takeWhole 51 = .ok (.invokevirtual 80, 3) := by decide +kernel
theorem dX7_takeWhole_54 : decode cX7_takeWhole 54 = .ok (.ireturn, 1) := by decide +kernel
theorem dX7_takeWhole_55 : decode cX7_takeWhole 55 = .ok (.aload_n 0, 1) := by decide +kernel
theorem dX7_takeWhole_56 : decode cX7_takeWhole 56 = .ok (.aload_n 0, 1) := by decide +kernel
theorem dX7_takeWhole_57 : decode cX7_takeWhole 57 = .ok (.getfield 18, 3) := by decide +kernel
theorem dX7_takeWhole_60 : decode cX7_takeWhole 60 = .ok (.aload_n 0, 1) := by decide +kernel
theorem dX7_takeWhole_61 : decode cX7_takeWhole 61 = .ok (.getfield 91, 3) := by decide +kernel
theorem dX7_takeWhole_64 : decode cX7_takeWhole 64 = .ok (.laload, 1) := by decide +kernel
theorem dX7_takeWhole_65 : decode cX7_takeWhole 65 = .ok (.l2i, 1) := by decide +kernel
theorem dX7_takeWhole_66 : decode cX7_takeWhole 66 = .ok (.putfield 155, 3) := by decide +kernel
theorem dX7_takeWhole_69 : decode cX7_takeWhole 69 = .ok (.aload_n 0, 1) := by decide +kernel
theorem dX7_takeWhole_70 : decode cX7_takeWhole 70 = .ok (.invokevirtual 88, 3) := by decide +kernel
theorem dX7_takeWhole_73 : decode cX7_takeWhole 73 = .ok (.iconst 1, 1) := by decide +kernel
theorem dX7_takeWhole_74 : decode cX7_takeWhole 74 = .ok (.ireturn, 1) := by decide +kernel
theorem dX7_takeSigned_0 : decode cX7_takeSigned 0 = .ok (.aload_n 0, 1) := by decide +kernel
theorem dX7_takeSigned_1 : decode cX7_takeSigned 1 = .ok (.ldc 145, 2) := by decide +kernel
theorem dX7_takeSigned_3 : decode cX7_takeSigned 3 = .ok (.invokevirtual 57, 3) := by decide +kernel
theorem dX7_takeSigned_6 : decode cX7_takeSigned 6 = .ok (.istore_n 2, 1) := by decide +kernel
theorem dX7_takeSigned_7 : decode cX7_takeSigned 7 = .ok (.iload_n 2, 1) := by decide +kernel
theorem dX7_takeSigned_8 : decode cX7_takeSigned 8 = .ok (.ifCond .eq 7, 3) := by decide +kernel
theorem dX7_takeSigned_11 : decode cX7_takeSigned 11 = .ok (.aload_n 0, 1) := by decide +kernel
theorem dX7_takeSigned_12 : decode cX7_takeSigned 12 = .ok (.invokevirtual 88, 3) := by decide +kernel
theorem dX7_takeSigned_15 : decode cX7_takeSigned 15 = .ok (.aload_n 0, 1) := by decide +kernel
theorem dX7_takeSigned_16 : decode cX7_takeSigned 16 = .ok (.iconst 0, 1) := by decide +kernel
theorem dX7_takeSigned_17 : decode cX7_takeSigned 17 = .ok (.iload_n 1, 1) := by decide +kernel
theorem dX7_takeSigned_18 : decode cX7_takeSigned 18 = .ok (.invokevirtual 158, 3) := by decide +kernel
theorem dX7_takeSigned_21 : decode cX7_takeSigned 21 = .ok (.ifCond .ne 5, 3) := by decide +kernel
theorem dX7_takeSigned_24 : decode cX7_takeSigned 24 = .ok (.iconst 0, 1) := by decide +kernel
theorem dX7_takeSigned_25 : decode cX7_takeSigned 25 = .ok (.ireturn, 1) := by decide +kernel
theorem dX7_takeSigned_26 : decode cX7_takeSigned 26 = .ok (.aload_n 0, 1) := by decide +kernel
theorem dX7_takeSigned_27 : decode cX7_takeSigned 27 = .ok (.iload_n 2, 1) := by decide +kernel
theorem dX7_takeSigned_28 : decode cX7_takeSigned 28 = .ok (.ifCond .eq 11, 3) := by decide +kernel
theorem dX7_takeSigned_31 : decode cX7_takeSigned 31 = .ok (.aload_n 0, 1) := by decide +kernel
theorem dX7_takeSigned_32 : decode cX7_takeSigned 32 = .ok (.getfield 155, 3) := by decide +kernel
theorem dX7_takeSigned_35 : decode cX7_takeSigned 35 = .ok (.ineg, 1) := by decide +kernel
theorem dX7_takeSigned_36 : decode cX7_takeSigned 36 = .ok (.goto 7, 3) := by decide +kernel
theorem dX7_takeSigned_39 : decode cX7_takeSigned 39 = .ok (.aload_n 0, 1) := by decide +kernel
theorem dX7_takeSigned_40 : decode cX7_takeSigned 40 = .ok (.getfield 155, 3) := by decide +kernel
theorem dX7_takeSigned_43 : decode cX7_takeSigned 43 = .ok (.putfield 155, 3) := by decide +kernel
theorem dX7_takeSigned_46 : decode cX7_takeSigned 46 = .ok (.iconst 1, 1) := by decide +kernel
theorem dX7_takeSigned_47 : decode cX7_takeSigned 47 = .ok (.ireturn, 1) := by decide +kernel
theorem dX7_takeNewName_0 : decode cX7_takeNewName 0 = .ok (.aload_n 0, 1) := by decide +kernel
theorem dX7_takeNewName_1 : decode cX7_takeNewName 1 = .ok (.invokevirtual 162, 3) := by decide +kernel
theorem dX7_takeNewName_4 : decode cX7_takeNewName 4 = .ok (.ifCond .ne 9, 3) := by decide +kernel
theorem dX7_takeNewName_7 : decode cX7_takeNewName 7 = .ok (.aload_n 0, 1) := by decide +kernel
theorem dX7_takeNewName_8 : decode cX7_takeNewName 8 = .ok (.iconst 1, 1) := by decide +kernel
theorem dX7_takeNewName_9 : decode cX7_takeNewName 9 = .ok (.invokevirtual 80, 3) := by decide +kernel
theorem dX7_takeNewName_12 : decode cX7_takeNewName 12 = .ok (.ireturn, 1) := by decide +kernel
theorem dX7_takeNewName_13 : decode cX7_takeNewName 13 = .ok (.aload_n 0, 1) := by decide +kernel
theorem dX7_takeNewName_14 : decode cX7_takeNewName 14 = .ok (.getfield 25, 3) := by decide +kernel
theorem dX7_takeNewName_17 : decode cX7_takeNewName 17 = .ok (.aload_n 0, 1) := by decide +kernel
theorem dX7_takeNewName_18 : decode cX7_takeNewName 18 = .ok (.getfield 18, 3) := by decide +kernel
theorem dX7_takeNewName_21 : decode cX7_takeNewName 21 = .ok (.aload_n 0, 1) := by decide +kernel
theorem dX7_takeNewName_22 : decode cX7_takeNewName 22 = .ok (.getfield 91, 3) := by decide +kernel
theorem dX7_takeNewName_25 : decode cX7_takeNewName 25 = .ok (.laload, 1) := by decide +kernel
theorem dX7_takeNewName_26 : decode cX7_takeNewName 26 = .ok (.invokevirtual 165, 3) := by decide +kernel
theorem dX7_takeNewName_29 : decode cX7_takeNewName 29 = .ok (.bipush (-2), 2) := by decide +kernel
theorem dX7_takeNewName_31 : decode cX7_takeNewName 31 = .ok (.if_icmp .eq 9, 3) := by decide +kernel
theorem dX7_takeNewName_34 : decode cX7_takeNewName 34 = .ok (.aload_n 0, 1) := by decide +kernel
theorem dX7_takeNewName_35 : decode cX7_takeNewName 35 = .ok (.iconst 3, 1) := by decide +kernel
theorem dX7_takeNewName_36 : decode cX7_takeNewName 36 = .ok (.invokevirtual 80, 3) := by decide +kernel
theorem dX7_takeNewName_39 : decode cX7_takeNewName 39 = .ok (.ireturn, 1) := by decide +kernel
theorem dX7_takeNewName_40 : decode cX7_takeNewName 40 = .ok (.aload_n 0, 1) := by decide +kernel
theorem dX7_takeNewName_41 : decode cX7_takeNewName 41 = .ok (.getfield 25, 3) := by decide +kernel
theorem dX7_takeNewName_44 : decode cX7_takeNewName 44 = .ok (.aload_n 0, 1) := by decide +kernel
theorem dX7_takeNewName_45 : decode cX7_takeNewName 45 = .ok (.getfield 18, 3) := by decide +kernel
theorem dX7_takeNewName_48 : decode cX7_takeNewName 48 = .ok (.aload_n 0, 1) := by decide +kernel
theorem dX7_takeNewName_49 : decode cX7_takeNewName 49 = .ok (.getfield 91, 3) := by decide +kernel
theorem dX7_takeNewName_52 : decode cX7_takeNewName 52 = .ok (.laload, 1) := by decide +kernel
theorem dX7_takeNewName_53 : decode cX7_takeNewName 53 = .ok (.iload_n 1, 1) := by decide +kernel
theorem dX7_takeNewName_54 : decode cX7_takeNewName 54 = .ok (.invokevirtual 169, 3) := by decide +kernel
theorem dX7_takeNewName_57 : decode cX7_takeNewName 57 = .ok (.aload_n 0, 1) := by decide +kernel
theorem dX7_takeNewName_58 : decode cX7_takeNewName 58 = .ok (.invokevirtual 88, 3) := by decide +kernel
theorem dX7_takeNewName_61 : decode cX7_takeNewName 61 = .ok (.iconst 1, 1) := by decide +kernel
theorem dX7_takeNewName_62 : decode cX7_takeNewName 62 = .ok (.ireturn, 1) := by decide +kernel
theorem dX7_takeSenseName_0 : decode cX7_takeSenseName 0 = .ok (.aload_n 0, 1) := by decide +kernel
theorem dX7_takeSenseName_1 : decode cX7_takeSenseName 1 = .ok (.invokevirtual 162, 3) := by decide +kernel
theorem dX7_takeSenseName_4 : decode cX7_takeSenseName 4 = .ok (.ifCond .ne 9, 3) := by decide +kernel
theorem dX7_takeSenseName_7 : decode cX7_takeSenseName 7 = .ok (.aload_n 0, 1) := by decide +kernel
theorem dX7_takeSenseName_8 : decode cX7_takeSenseName 8 = .ok (.iconst 1, 1) := by decide +kernel
theorem dX7_takeSenseName_9 : decode cX7_takeSenseName 9 = .ok (.invokevirtual 80, 3) := by decide +kernel
theorem dX7_takeSenseName_12 : decode cX7_takeSenseName 12 = .ok (.ireturn, 1) := by decide +kernel
theorem dX7_takeSenseName_13 : decode cX7_takeSenseName 13 = .ok (.aload_n 0, 1) := by decide +kernel
theorem dX7_takeSenseName_14 : decode cX7_takeSenseName 14 = .ok (.getfield 25, 3) := by decide +kernel
theorem dX7_takeSenseName_17 : decode cX7_takeSenseName 17 = .ok (.aload_n 0, 1) := by decide +kernel
theorem dX7_takeSenseName_18 : decode cX7_takeSenseName 18 = .ok (.getfield 18, 3) := by decide +kernel
theorem dX7_takeSenseName_21 : decode cX7_takeSenseName 21 = .ok (.aload_n 0, 1) := by decide +kernel
theorem dX7_takeSenseName_22 : decode cX7_takeSenseName 22 = .ok (.getfield 91, 3) := by decide +kernel
theorem dX7_takeSenseName_25 : decode cX7_takeSenseName 25 = .ok (.laload, 1) := by decide +kernel
theorem dX7_takeSenseName_26 : decode cX7_takeSenseName 26 = .ok (.invokevirtual 165, 3) := by decide +kernel
theorem dX7_takeSenseName_29 : decode cX7_takeSenseName 29 = .ok (.istore_n 1, 1) := by decide +kernel
theorem dX7_takeSenseName_30 : decode cX7_takeSenseName 30 = .ok (.iload_n 1, 1) := by decide +kernel
theorem dX7_takeSenseName_31 : decode cX7_takeSenseName 31 = .ok (.ifCond .ge 9, 3) := by decide +kernel
theorem dX7_takeSenseName_34 : decode cX7_takeSenseName 34 = .ok (.aload_n 0, 1) := by decide +kernel
theorem dX7_takeSenseName_35 : decode cX7_takeSenseName 35 = .ok (.iconst 2, 1) := by decide +kernel
theorem dX7_takeSenseName_36 : decode cX7_takeSenseName 36 = .ok (.invokevirtual 80, 3) := by decide +kernel
theorem dX7_takeSenseName_39 : decode cX7_takeSenseName 39 = .ok (.ireturn, 1) := by decide +kernel
theorem dX7_takeSenseName_40 : decode cX7_takeSenseName 40 = .ok (.aload_n 0, 1) := by decide +kernel
theorem dX7_takeSenseName_41 : decode cX7_takeSenseName 41 = .ok (.iload_n 1, 1) := by decide +kernel
theorem dX7_takeSenseName_42 : decode cX7_takeSenseName 42 = .ok (.putfield 155, 3) := by decide +kernel
theorem dX7_takeSenseName_45 : decode cX7_takeSenseName 45 = .ok (.aload_n 0, 1) := by decide +kernel
theorem dX7_takeSenseName_46 : decode cX7_takeSenseName 46 = .ok (.invokevirtual 88, 3) := by decide +kernel
theorem dX7_takeSenseName_49 : decode cX7_takeSenseName 49 = .ok (.iconst 1, 1) := by decide +kernel
theorem dX7_takeSenseName_50 : decode cX7_takeSenseName 50 = .ok (.ireturn, 1) := by decide +kernel
theorem dX7_readSense_0 : decode cX7_readSense 0 = .ok (.aload_n 0, 1) := by decide +kernel
theorem dX7_readSense_1 : decode cX7_readSense 1 = .ok (.getfield 25, 3) := by decide +kernel
theorem dX7_readSense_4 : decode cX7_readSense 4 = .ok (.getfield 94, 3) := by decide +kernel
theorem dX7_readSense_7 : decode cX7_readSense 7 = .ok (.bipush 6, 2) := by decide +kernel
theorem dX7_readSense_9 : decode cX7_readSense 9 = .ok (.if_icmp .lt 9, 3) := by decide +kernel
theorem dX7_readSense_12 : decode cX7_readSense 12 = .ok (.aload_n 0, 1) := by decide +kernel
theorem dX7_readSense_13 : decode cX7_readSense 13 = .ok (.iconst 5, 1) := by decide +kernel
theorem dX7_readSense_14 : decode cX7_readSense 14 = .ok (.invokevirtual 80, 3) := by decide +kernel
theorem dX7_readSense_17 : decode cX7_readSense 17 = .ok (.ireturn, 1) := by decide +kernel
theorem dX7_readSense_18 : decode cX7_readSense 18 = .ok (.aload_n 0, 1) := by decide +kernel
theorem dX7_readSense_19 : decode cX7_readSense 19 = .ok (.invokevirtual 88, 3) := by decide +kernel
theorem dX7_readSense_22 : decode cX7_readSense 22 = .ok (.aload_n 0, 1) := by decide +kernel
theorem dX7_readSense_23 : decode cX7_readSense 23 = .ok (.getfield 25, 3) := by decide +kernel
theorem dX7_readSense_26 : decode cX7_readSense 26 = .ok (.getfield 173, 3) := by decide +kernel
theorem dX7_readSense_29 : decode cX7_readSense 29 = .ok (.aload_n 0, 1) := by decide +kernel
theorem dX7_readSense_30 : decode cX7_readSense 30 = .ok (.getfield 25, 3) := by decide +kernel
theorem dX7_readSense_33 : decode cX7_readSense 33 = .ok (.getfield 94, 3) := by decide +kernel
theorem dX7_readSense_36 : decode cX7_readSense 36 = .ok (.aaload, 1) := by decide +kernel
theorem dX7_readSense_37 : decode cX7_readSense 37 = .ok (.astore_n 1, 1) := by decide +kernel
theorem dX7_readSense_38 : decode cX7_readSense 38 = .ok (.aload_n 1, 1) := by decide +kernel
theorem dX7_readSense_39 : decode cX7_readSense 39 = .ok (.invokevirtual 177, 3) := by decide +kernel
theorem dX7_readSense_42 : decode cX7_readSense 42 = .ok (.aload_n 0, 1) := by decide +kernel
theorem dX7_readSense_43 : decode cX7_readSense 43 = .ok (.aload_n 0, 1) := by decide +kernel
theorem dX7_readSense_44 : decode cX7_readSense 44 = .ok (.getfield 25, 3) := by decide +kernel
theorem dX7_readSense_47 : decode cX7_readSense 47 = .ok (.getfield 94, 3) := by decide +kernel
theorem dX7_readSense_50 : decode cX7_readSense 50 = .ok (.invokevirtual 180, 3) := by decide +kernel
theorem dX7_readSense_53 : decode cX7_readSense 53 = .ok (.ifCond .ne 5, 3) := by decide +kernel
theorem dX7_readSense_56 : decode cX7_readSense 56 = .ok (.iconst 0, 1) := by decide +kernel
theorem dX7_readSense_57 : decode cX7_readSense 57 = .ok (.ireturn, 1) := by decide +kernel
theorem dX7_readSense_58 : decode cX7_readSense 58 = .ok (.aload_n 0, 1) := by decide +kernel
theorem dX7_readSense_59 : decode cX7_readSense 59 = .ok (.getfield 25, 3) := by decide +kernel
theorem dX7_readSense_62 : decode cX7_readSense 62 = .ok (.dup, 1) := by decide +kernel
theorem dX7_readSense_63 : decode cX7_readSense 63 = .ok (.getfield 94, 3) := by decide +kernel
theorem dX7_readSense_66 : decode cX7_readSense 66 = .ok (.iconst 1, 1) := by decide +kernel
theorem dX7_readSense_67 : decode cX7_readSense 67 = .ok (.iadd, 1) := by decide +kernel
theorem dX7_readSense_68 : decode cX7_readSense 68 = .ok (.putfield 94, 3) := by decide +kernel
theorem dX7_readSense_71 : decode cX7_readSense 71 = .ok (.aload_n 0, 1) := by decide +kernel
theorem dX7_readSense_72 : decode cX7_readSense 72 = .ok (.aload_n 1, 1) := by decide +kernel
theorem dX7_readSense_73 : decode cX7_readSense 73 = .ok (.invokevirtual 183, 3) := by decide +kernel
theorem dX7_readSense_76 : decode cX7_readSense 76 = .ok (.ifCond .eq 24, 3) := by decide +kernel
theorem dX7_readSense_79 : decode cX7_readSense 79 = .ok (.aload_n 0, 1) := by decide +kernel
theorem dX7_readSense_80 : decode cX7_readSense 80 = .ok (.ldc 141, 2) := by decide +kernel
theorem dX7_readSense_82 : decode cX7_readSense 82 = .ok (.invokevirtual 187, 3) := by decide +kernel
theorem dX7_readSense_85 : decode cX7_readSense 85 = .ok (.ifCond .eq 15, 3) := by decide +kernel
theorem dX7_readSense_88 : decode cX7_readSense 88 = .ok (.aload_n 0, 1) := by decide +kernel
theorem dX7_readSense_89 : decode cX7_readSense 89 = .ok (.aload_n 1, 1) := by decide +kernel
theorem dX7_readSense_90 : decode cX7_readSense 90 = .ok (.invokevirtual 190, 3) := by decide +kernel
theorem dX7_readSense_93 : decode cX7_readSense 93 = .ok (.ifCond .eq 7, 3) := by decide +kernel
theorem dX7_readSense_96 : decode cX7_readSense 96 = .ok (.iconst 1, 1) := by decide +kernel
theorem dX7_readSense_97 : decode cX7_readSense 97 = .ok (.goto 4, 3) := by decide +kernel
theorem dX7_readSense_100 : decode cX7_readSense 100 = .ok (.iconst 0, 1) := by decide +kernel
theorem dX7_readSense_101 : decode cX7_readSense 101 = .ok (.ireturn, 1) := by decide +kernel
theorem dX7_readSteps_0 : decode cX7_readSteps 0 = .ok (.aload_n 0, 1) := by decide +kernel
theorem dX7_readSteps_1 : decode cX7_readSteps 1 = .ok (.aload_n 1, 1) := by decide +kernel
theorem dX7_readSteps_2 : decode cX7_readSteps 2 = .ok (.invokevirtual 193, 3) := by decide +kernel
theorem dX7_readSteps_5 : decode cX7_readSteps 5 = .ok (.istore_n 2, 1) := by decide +kernel
theorem dX7_readSteps_6 : decode cX7_readSteps 6 = .ok (.iconst 0, 1) := by decide +kernel
theorem dX7_readSteps_7 : decode cX7_readSteps 7 = .ok (.istore_n 3, 1) := by decide +kernel
theorem dX7_readSteps_8 : decode cX7_readSteps 8 = .ok (.iload_n 3, 1) := by decide +kernel
theorem dX7_readSteps_9 : decode cX7_readSteps 9 = .ok (.aload_n 0, 1) := by decide +kernel
theorem dX7_readSteps_10 : decode cX7_readSteps 10 = .ok (.getfield 52, 3) := by decide +kernel
theorem dX7_readSteps_13 : decode cX7_readSteps 13 = .ok (.if_icmp .ge 32, 3) := by decide +kernel
theorem dX7_readSteps_16 : decode cX7_readSteps 16 = .ok (.iload_n 2, 1) := by decide +kernel
theorem dX7_readSteps_17 : decode cX7_readSteps 17 = .ok (.ifCond .eq 28, 3) := by decide +kernel
theorem dX7_readSteps_20 : decode cX7_readSteps 20 = .ok (.aload_n 0, 1) := by decide +kernel
theorem dX7_readSteps_21 : decode cX7_readSteps 21 = .ok (.ldc 139, 2) := by decide +kernel
theorem dX7_readSteps_23 : decode cX7_readSteps 23 = .ok (.invokevirtual 57, 3) := by decide +kernel
theorem dX7_readSteps_26 : decode cX7_readSteps 26 = .ok (.ifCond .eq 19, 3) := by decide +kernel
theorem dX7_readSteps_29 : decode cX7_readSteps 29 = .ok (.aload_n 0, 1) := by decide +kernel
theorem dX7_readSteps_30 : decode cX7_readSteps 30 = .ok (.invokevirtual 88, 3) := by decide +kernel
theorem dX7_readSteps_33 : decode cX7_readSteps 33 = .ok (.aload_n 0, 1) := by decide +kernel
theorem dX7_readSteps_34 : decode cX7_readSteps 34 = .ok (.aload_n 1, 1) := by decide +kernel
theorem dX7_readSteps_35 : decode cX7_readSteps 35 = .ok (.invokevirtual 193, 3) := by decide +kernel
theorem dX7_readSteps_38 : decode cX7_readSteps 38 = .ok (.istore_n 2, 1) := by decide +kernel
theorem dX7_readSteps_39 : decode cX7_readSteps 39 = .ok (.iinc 3 1, 3) := by decide +kernel
theorem dX7_readSteps_42 : decode cX7_readSteps 42 = .ok (.goto (-34), 3) := by decide +kernel
theorem dX7_readSteps_45 : decode cX7_readSteps 45 = .ok (.iload_n 2, 1) := by decide +kernel
theorem dX7_readSteps_46 : decode cX7_readSteps 46 = .ok (.ireturn, 1) := by decide +kernel
theorem dX7_readStep_0 : decode cX7_readStep 0 = .ok (.aload_n 0, 1) := by decide +kernel
theorem dX7_readStep_1 : decode cX7_readStep 1 = .ok (.ldc 196, 2) := by decide +kernel
theorem dX7_readStep_3 : decode cX7_readStep 3 = .ok (.invokevirtual 57, 3) := by decide +kernel
theorem dX7_readStep_6 : decode cX7_readStep 6 = .ok (.ifCond .eq 13, 3) := by decide +kernel
theorem dX7_readStep_9 : decode cX7_readStep 9 = .ok (.aload_n 0, 1) := by decide +kernel
theorem dX7_readStep_10 : decode cX7_readStep 10 = .ok (.aload_n 1, 1) := by decide +kernel
theorem dX7_readStep_11 : decode cX7_readStep 11 = .ok (.iconst 0, 1) := by decide +kernel
theorem dX7_readStep_12 : decode cX7_readStep 12 = .ok (.iconst 2, 1) := by decide +kernel
theorem dX7_readStep_13 : decode cX7_readStep 13 = .ok (.bipush 99, 2) := by decide +kernel
theorem dX7_readStep_15 : decode cX7_readStep 15 = .ok (.invokevirtual 198, 3) := by decide +kernel
theorem dX7_readStep_18 : decode cX7_readStep 18 = .ok (.ireturn, 1) := by decide +kernel
theorem dX7_readStep_19 : decode cX7_readStep 19 = .ok (.aload_n 0, 1) := by decide +kernel
theorem dX7_readStep_20 : decode cX7_readStep 20 = .ok (.ldc 202, 2) := by decide +kernel
theorem dX7_readStep_22 : decode cX7_readStep 22 = .ok (.invokevirtual 57, 3) := by decide +kernel
theorem dX7_readStep_25 : decode cX7_readStep 25 = .ok (.ifCond .eq 12, 3) := by decide +kernel
theorem dX7_readStep_28 : decode cX7_readStep 28 = .ok (.aload_n 0, 1) := by decide +kernel
theorem dX7_readStep_29 : decode cX7_readStep 29 = .ok (.aload_n 1, 1) := by decide +kernel
theorem dX7_readStep_30 : decode cX7_readStep 30 = .ok (.iconst 1, 1) := by decide +kernel
theorem dX7_readStep_31 : decode cX7_readStep 31 = .ok (.iconst 1, 1) := by decide +kernel
theorem dX7_readStep_32 : decode cX7_readStep 32 = .ok (.iconst 3, 1) := by decide +kernel
theorem dX7_readStep_33 : decode cX7_readStep 33 = .ok (.invokevirtual 198, 3) := by decide +kernel
theorem dX7_readStep_36 : decode cX7_readStep 36 = .ok (.ireturn, 1) := by decide +kernel
theorem dX7_readStep_37 : decode cX7_readStep 37 = .ok (.aload_n 0, 1) := by decide +kernel
theorem dX7_readStep_38 : decode cX7_readStep 38 = .ok (.ldc 143, 2) := by decide +kernel
theorem dX7_readStep_40 : decode cX7_readStep 40 = .ok (.invokevirtual 57, 3) := by decide +kernel
theorem dX7_readStep_43 : decode cX7_readStep 43 = .ok (.ifCond .eq 13, 3) := by decide +kernel
theorem dX7_readStep_46 : decode cX7_readStep 46 = .ok (.aload_n 0, 1) := by decide +kernel
theorem dX7_readStep_47 : decode cX7_readStep 47 = .ok (.aload_n 1, 1) := by decide +kernel
theorem dX7_readStep_48 : decode cX7_readStep 48 = .ok (.iconst 2, 1) := by decide +kernel
theorem dX7_readStep_49 : decode cX7_readStep 49 = .ok (.iconst 1, 1) := by decide +kernel
theorem dX7_readStep_50 : decode cX7_readStep 50 = .ok (.bipush 99, 2) := by decide +kernel
theorem dX7_readStep_52 : decode cX7_readStep 52 = .ok (.invokevirtual 198, 3) := by decide +kernel
theorem dX7_readStep_55 : decode cX7_readStep 55 = .ok (.ireturn, 1) := by decide +kernel
theorem dX7_readStep_56 : decode cX7_readStep 56 = .ok (.aload_n 0, 1) := by decide +kernel
theorem dX7_readStep_57 : decode cX7_readStep 57 = .ok (.ldc 204, 2) := by decide +kernel
theorem dX7_readStep_59 : decode cX7_readStep 59 = .ok (.invokevirtual 57, 3) := by decide +kernel
theorem dX7_readStep_62 : decode cX7_readStep 62 = .ok (.ifCond .eq 14, 3) := by decide +kernel
theorem dX7_readStep_65 : decode cX7_readStep 65 = .ok (.aload_n 0, 1) := by decide +kernel
theorem dX7_readStep_66 : decode cX7_readStep 66 = .ok (.aload_n 1, 1) := by decide +kernel
theorem dX7_readStep_67 : decode cX7_readStep 67 = .ok (.iconst 3, 1) := by decide +kernel
theorem dX7_readStep_68 : decode cX7_readStep 68 = .ok (.iconst 0, 1) := by decide +kernel
theorem dX7_readStep_69 : decode cX7_readStep 69 = .ok (.sipush 399, 3) := by decide +kernel
theorem dX7_readStep_72 : decode cX7_readStep 72 = .ok (.invokevirtual 198, 3) := by decide +kernel
theorem dX7_readStep_75 : decode cX7_readStep 75 = .ok (.ireturn, 1) := by decide +kernel
theorem dX7_readStep_76 : decode cX7_readStep 76 = .ok (.aload_n 0, 1) := by decide +kernel
theorem dX7_readStep_77 : decode cX7_readStep 77 = .ok (.iconst 1, 1) := by decide +kernel
theorem dX7_readStep_78 : decode cX7_readStep 78 = .ok (.invokevirtual 80, 3) := by decide +kernel
theorem dX7_readStep_81 : decode cX7_readStep 81 = .ok (.ireturn, 1) := by decide +kernel
theorem dX7_readStepOf_0 : decode cX7_readStepOf 0 = .ok (.aload_n 1, 1) := by decide +kernel
theorem dX7_readStepOf_1 : decode cX7_readStepOf 1 = .ok (.getfield 206, 3) := by decide +kernel
theorem dX7_readStepOf_4 : decode cX7_readStepOf 4 = .ok (.iconst 4, 1) := by decide +kernel
theorem dX7_readStepOf_5 : decode cX7_readStepOf 5 = .ok (.if_icmp .lt 9, 3) := by decide +kernel
theorem dX7_readStepOf_8 : decode cX7_readStepOf 8 = .ok (.aload_n 0, 1) := by decide +kernel
theorem dX7_readStepOf_9 : decode cX7_readStepOf 9 = .ok (.iconst 5, 1) := by decide +kernel
theorem dX7_readStepOf_10 : decode cX7_readStepOf 10 = .ok (.invokevirtual 80, 3) := by decide +kernel
theorem dX7_readStepOf_13 : decode cX7_readStepOf 13 = .ok (.ireturn, 1) := by decide +kernel
theorem dX7_readStepOf_14 : decode cX7_readStepOf 14 = .ok (.aload_n 0, 1) := by decide +kernel
theorem dX7_readStepOf_15 : decode cX7_readStepOf 15 = .ok (.invokevirtual 88, 3) := by decide +kernel
theorem dX7_readStepOf_18 : decode cX7_readStepOf 18 = .ok (.aload_n 0, 1) := by decide +kernel
theorem dX7_readStepOf_19 : decode cX7_readStepOf 19 = .ok (.iload_n 3, 1) := by decide +kernel
theorem dX7_readStepOf_20 : decode cX7_readStepOf 20 = .ok (.iload 4, 2) := by decide +kernel
theorem dX7_readStepOf_22 : decode cX7_readStepOf 22 = .ok (.invokevirtual 158, 3) := by decide +kernel
theorem dX7_readStepOf_25 : decode cX7_readStepOf 25 = .ok (.ifCond .ne 5, 3) := by decide +kernel
theorem dX7_readStepOf_28 : decode cX7_readStepOf 28 = .ok (.iconst 0, 1) := by decide +kernel
theorem dX7_readStepOf_29 : decode cX7_readStepOf 29 = .ok (.ireturn, 1) := by decide +kernel
theorem dX7_readStepOf_30 : decode cX7_readStepOf 30 = .ok (.aload_n 0, 1) := by decide +kernel
theorem dX7_readStepOf_31 : decode cX7_readStepOf 31 = .ok (.getfield 155, 3) := by decide +kernel
theorem dX7_readStepOf_34 : decode cX7_readStepOf 34 = .ok (.istore 5, 2) := by decide +kernel
theorem dX7_readStepOf_36 : decode cX7_readStepOf 36 = .ok (.iconst 1, 1) := by decide +kernel
theorem dX7_readStepOf_37 : decode cX7_readStepOf 37 = .ok (.istore 6, 2) := by decide +kernel
theorem dX7_readStepOf_39 : decode cX7_readStepOf 39 = .ok (.iload_n 2, 1) := by decide +kernel
theorem dX7_readStepOf_40 : decode cX7_readStepOf 40 = .ok (.iconst 1, 1) := by decide +kernel
theorem dX7_readStepOf_41 : decode cX7_readStepOf 41 = .ok (.if_icmp .eq 8, 3) := by decide +kernel
theorem dX7_readStepOf_44 : decode cX7_readStepOf 44 = .ok (.iload_n 2, 1) := by decide +kernel
theorem dX7_readStepOf_45 : decode cX7_readStepOf 45 = .ok (.iconst 2, 1) := by decide +kernel
theorem dX7_readStepOf_46 : decode cX7_readStepOf 46 = .ok (.if_icmp .ne 30, 3) := by decide +kernel
theorem dX7_readStepOf_49 : decode cX7_readStepOf 49 = .ok (.aload_n 0, 1) := by decide +kernel
theorem dX7_readStepOf_50 : decode cX7_readStepOf 50 = .ok (.bipush 47, 2) := by decide +kernel
theorem dX7_readStepOf_52 : decode cX7_readStepOf 52 = .ok (.invokevirtual 209, 3) := by decide +kernel
theorem dX7_readStepOf_55 : decode cX7_readStepOf 55 = .ok (.ifCond .eq 13, 3) := by decide +kernel
theorem dX7_readStepOf_58 : decode cX7_readStepOf 58 = .ok (.aload_n 0, 1) := by decide +kernel
theorem dX7_readStepOf_59 : decode cX7_readStepOf 59 = .ok (.iload_n 3, 1) := by decide +kernel
theorem dX7_readStepOf_60 : decode cX7_readStepOf 60 = .ok (.iload 4, 2) := by decide +kernel
theorem dX7_readStepOf_62 : decode cX7_readStepOf 62 = .ok (.invokevirtual 158, 3) := by decide +kernel
theorem dX7_readStepOf_65 : decode cX7_readStepOf 65 = .ok (.ifCond .ne 5, 3) := by decide +kernel
theorem dX7_readStepOf_68 : decode cX7_readStepOf 68 = .ok (.iconst 0, 1) := by decide +kernel
theorem dX7_readStepOf_69 : decode cX7_readStepOf 69 = .ok (.ireturn, 1) := by decide +kernel
theorem dX7_readStepOf_70 : decode cX7_readStepOf 70 = .ok (.aload_n 0, 1) := by decide +kernel
theorem dX7_readStepOf_71 : decode cX7_readStepOf 71 = .ok (.getfield 155, 3) := by decide +kernel
theorem dX7_readStepOf_74 : decode cX7_readStepOf 74 = .ok (.istore 6, 2) := by decide +kernel
theorem dX7_readStepOf_76 : decode cX7_readStepOf 76 = .ok (.aload_n 1, 1) := by decide +kernel
theorem dX7_readStepOf_77 : decode cX7_readStepOf 77 = .ok (.iload_n 2, 1) := by decide +kernel
theorem dX7_readStepOf_78 : decode cX7_readStepOf 78 = .ok (.iload 5, 2) := by decide +kernel
theorem dX7_readStepOf_80 : decode cX7_readStepOf 80 = .ok (.iload 6, 2) := by decide +kernel
theorem dX7_readStepOf_82 : decode cX7_readStepOf 82 = .ok (.invokevirtual 212, 3) := by decide +kernel
theorem dX7_readStepOf_85 : decode cX7_readStepOf 85 = .ok (.iconst 1, 1) := by decide +kernel
theorem dX7_readStepOf_86 : decode cX7_readStepOf 86 = .ok (.ireturn, 1) := by decide +kernel
theorem dX7_readNoise_0 : decode cX7_readNoise 0 = .ok (.aload_n 0, 1) := by decide +kernel
theorem dX7_readNoise_1 : decode cX7_readNoise 1 = .ok (.iconst 1, 1) := by decide +kernel
theorem dX7_readNoise_2 : decode cX7_readNoise 2 = .ok (.bipush 9, 2) := by decide +kernel
theorem dX7_readNoise_4 : decode cX7_readNoise 4 = .ok (.invokevirtual 158, 3) := by decide +kernel
theorem dX7_readNoise_7 : decode cX7_readNoise 7 = .ok (.ifCond .ne 5, 3) := by decide +kernel
theorem dX7_readNoise_10 : decode cX7_readNoise 10 = .ok (.iconst 0, 1) := by decide +kernel
theorem dX7_readNoise_11 : decode cX7_readNoise 11 = .ok (.ireturn, 1) := by decide +kernel
theorem dX7_readNoise_12 : decode cX7_readNoise 12 = .ok (.aload_n 1, 1) := by decide +kernel
theorem dX7_readNoise_13 : decode cX7_readNoise 13 = .ok (.aload_n 0, 1) := by decide +kernel
theorem dX7_readNoise_14 : decode cX7_readNoise 14 = .ok (.getfield 155, 3) := by decide +kernel
theorem dX7_readNoise_17 : decode cX7_readNoise 17 = .ok (.invokevirtual 216, 3) := by decide +kernel
theorem dX7_readNoise_20 : decode cX7_readNoise 20 = .ok (.iconst 0, 1) := by decide +kernel
theorem dX7_readNoise_21 : decode cX7_readNoise 21 = .ok (.istore_n 2, 1) := by decide +kernel
theorem dX7_readNoise_22 : decode cX7_readNoise 22 = .ok (.iload_n 2, 1) := by decide +kernel
theorem dX7_readNoise_23 : decode cX7_readNoise 23 = .ok (.aload_n 0, 1) := by decide +kernel
theorem dX7_readNoise_24 : decode cX7_readNoise 24 = .ok (.getfield 52, 3) := by decide +kernel
theorem dX7_readNoise_27 : decode cX7_readNoise 27 = .ok (.if_icmp .ge 73, 3) := by decide +kernel
theorem dX7_readNoise_30 : decode cX7_readNoise 30 = .ok (.aload_n 0, 1) := by decide +kernel
theorem dX7_readNoise_31 : decode cX7_readNoise 31 = .ok (.getfield 9, 3) := by decide +kernel
theorem dX7_readNoise_34 : decode cX7_readNoise 34 = .ok (.aload_n 0, 1) := by decide +kernel
theorem dX7_readNoise_35 : decode cX7_readNoise 35 = .ok (.getfield 91, 3) := by decide +kernel
theorem dX7_readNoise_38 : decode cX7_readNoise 38 = .ok (.iaload, 1) := by decide +kernel
theorem dX7_readNoise_39 : decode cX7_readNoise 39 = .ok (.iconst 2, 1) := by decide +kernel
theorem dX7_readNoise_40 : decode cX7_readNoise 40 = .ok (.if_icmp .ne 60, 3) := by decide +kernel
theorem dX7_readNoise_43 : decode cX7_readNoise 43 = .ok (.aload_n 0, 1) := by decide +kernel
theorem dX7_readNoise_44 : decode cX7_readNoise 44 = .ok (.getfield 18, 3) := by decide +kernel
theorem dX7_readNoise_47 : decode cX7_readNoise 47 = .ok (.aload_n 0, 1) := by decide +kernel
theorem dX7_readNoise_48 : decode cX7_readNoise 48 = .ok (.getfield 91, 3) := by decide +kernel
theorem dX7_readNoise_51 : decode cX7_readNoise 51 = .ok (.laload, 1) := by decide +kernel
theorem dX7_readNoise_52 : decode cX7_readNoise 52 = .ok (.ldc2_w 220, 3) := by decide +kernel
theorem dX7_readNoise_55 : decode cX7_readNoise 55 = .ok (.lcmp, 1) := by decide +kernel
theorem dX7_readNoise_56 : decode cX7_readNoise 56 = .ok (.ifCond .gt 18, 3) := by decide +kernel
theorem dX7_readNoise_59 : decode cX7_readNoise 59 = .ok (.aload_n 1, 1) := by decide +kernel
theorem dX7_readNoise_60 : decode cX7_readNoise 60 = .ok (.getfield 222, 3) := by decide +kernel
theorem dX7_readNoise_63 : decode cX7_readNoise 63 = .ok (.bipush 6, 2) := by decide +kernel
theorem dX7_readNoise_65 : decode cX7_readNoise 65 = .ok (.if_icmp .lt 9, 3) := by decide +kernel
theorem dX7_readNoise_68 : decode cX7_readNoise 68 = .ok (.aload_n 0, 1) := by decide +kernel
theorem dX7_readNoise_69 : decode cX7_readNoise 69 = .ok (.iconst 5, 1) := by decide +kernel
theorem dX7_readNoise_70 : decode cX7_readNoise 70 = .ok (.invokevirtual 80, 3) := by decide +kernel
theorem dX7_readNoise_73 : decode cX7_readNoise 73 = .ok (.ireturn, 1) := by decide +kernel
theorem dX7_readNoise_74 : decode cX7_readNoise 74 = .ok (.aload_n 0, 1) := by decide +kernel
theorem dX7_readNoise_75 : decode cX7_readNoise 75 = .ok (.iconst 0, 1) := by decide +kernel
theorem dX7_readNoise_76 : decode cX7_readNoise 76 = .ok (.bipush 9, 2) := by decide +kernel
theorem dX7_readNoise_78 : decode cX7_readNoise 78 = .ok (.invokevirtual 158, 3) := by decide +kernel
theorem dX7_readNoise_81 : decode cX7_readNoise 81 = .ok (.ifCond .ne 5, 3) := by decide +kernel
theorem dX7_readNoise_84 : decode cX7_readNoise 84 = .ok (.iconst 0, 1) := by decide +kernel
theorem dX7_readNoise_85 : decode cX7_readNoise 85 = .ok (.ireturn, 1) := by decide +kernel
theorem dX7_readNoise_86 : decode cX7_readNoise 86 = .ok (.aload_n 1, 1) := by decide +kernel
theorem dX7_readNoise_87 : decode cX7_readNoise 87 = .ok (.aload_n 0, 1) := by decide +kernel
theorem dX7_readNoise_88 : decode cX7_readNoise 88 = .ok (.getfield 155, 3) := by decide +kernel
theorem dX7_readNoise_91 : decode cX7_readNoise 91 = .ok (.invokevirtual 216, 3) := by decide +kernel
theorem dX7_readNoise_94 : decode cX7_readNoise 94 = .ok (.iinc 2 1, 3) := by decide +kernel
theorem dX7_readNoise_97 : decode cX7_readNoise 97 = .ok (.goto (-75), 3) := by decide +kernel
theorem dX7_readNoise_100 : decode cX7_readNoise 100 = .ok (.iconst 1, 1) := by decide +kernel
theorem dX7_readNoise_101 : decode cX7_readNoise 101 = .ok (.ireturn, 1) := by decide +kernel
theorem dX7_readSayer_0 : decode cX7_readSayer 0 = .ok (.aload_n 0, 1) := by decide +kernel
theorem dX7_readSayer_1 : decode cX7_readSayer 1 = .ok (.getfield 25, 3) := by decide +kernel
theorem dX7_readSayer_4 : decode cX7_readSayer 4 = .ok (.getfield 225, 3) := by decide +kernel
theorem dX7_readSayer_7 : decode cX7_readSayer 7 = .ok (.bipush 6, 2) := by decide +kernel
theorem dX7_readSayer_9 : decode cX7_readSayer 9 = .ok (.if_icmp .lt 9, 3) := by decide +kernel
theorem dX7_readSayer_12 : decode cX7_readSayer 12 = .ok (.aload_n 0, 1) := by decide +kernel
theorem dX7_readSayer_13 : decode cX7_readSayer 13 = .ok (.iconst 5, 1) := by decide +kernel
theorem dX7_readSayer_14 : decode cX7_readSayer 14 = .ok (.invokevirtual 80, 3) := by decide +kernel
theorem dX7_readSayer_17 : decode cX7_readSayer 17 = .ok (.ireturn, 1) := by decide +kernel
theorem dX7_readSayer_18 : decode cX7_readSayer 18 = .ok (.aload_n 0, 1) := by decide +kernel
theorem dX7_readSayer_19 : decode cX7_readSayer 19 = .ok (.invokevirtual 88, 3) := by decide +kernel
theorem dX7_readSayer_22 : decode cX7_readSayer 22 = .ok (.aload_n 0, 1) := by decide +kernel
theorem dX7_readSayer_23 : decode cX7_readSayer 23 = .ok (.getfield 25, 3) := by decide +kernel
theorem dX7_readSayer_26 : decode cX7_readSayer 26 = .ok (.getfield 228, 3) := by decide +kernel
theorem dX7_readSayer_29 : decode cX7_readSayer 29 = .ok (.aload_n 0, 1) := by decide +kernel
theorem dX7_readSayer_30 : decode cX7_readSayer 30 = .ok (.getfield 25, 3) := by decide +kernel
theorem dX7_readSayer_33 : decode cX7_readSayer 33 = .ok (.getfield 225, 3) := by decide +kernel
theorem dX7_readSayer_36 : decode cX7_readSayer 36 = .ok (.aaload, 1) := by decide +kernel
theorem dX7_readSayer_37 : decode cX7_readSayer 37 = .ok (.astore_n 1, 1) := by decide +kernel
theorem dX7_readSayer_38 : decode cX7_readSayer 38 = .ok (.aload_n 1, 1) := by decide +kernel
theorem dX7_readSayer_39 : decode cX7_readSayer 39 = .ok (.invokevirtual 232, 3) := by decide +kernel
theorem dX7_readSayer_42 : decode cX7_readSayer 42 = .ok (.aload_n 0, 1) := by decide +kernel
theorem dX7_readSayer_43 : decode cX7_readSayer 43 = .ok (.getfield 25, 3) := by decide +kernel
theorem dX7_readSayer_46 : decode cX7_readSayer 46 = .ok (.dup, 1) := by decide +kernel
theorem dX7_readSayer_47 : decode cX7_readSayer 47 = .ok (.getfield 225, 3) := by decide +kernel
theorem dX7_readSayer_50 : decode cX7_readSayer 50 = .ok (.iconst 1, 1) := by decide +kernel
theorem dX7_readSayer_51 : decode cX7_readSayer 51 = .ok (.iadd, 1) := by decide +kernel
theorem dX7_readSayer_52 : decode cX7_readSayer 52 = .ok (.putfield 225, 3) := by decide +kernel
theorem dX7_readSayer_55 : decode cX7_readSayer 55 = .ok (.aload_n 0, 1) := by decide +kernel
theorem dX7_readSayer_56 : decode cX7_readSayer 56 = .ok (.iconst (-1), 1) := by decide +kernel
theorem dX7_readSayer_57 : decode cX7_readSayer 57 = .ok (.invokevirtual 180, 3) := by decide +kernel
theorem dX7_readSayer_60 : decode cX7_readSayer 60 = .ok (.ifCond .eq 19, 3) := by decide +kernel
theorem dX7_readSayer_63 : decode cX7_readSayer 63 = .ok (.aload_n 0, 1) := by decide +kernel
theorem dX7_readSayer_64 : decode cX7_readSayer 64 = .ok (.ldc 235, 2) := by decide +kernel
theorem dX7_readSayer_66 : decode cX7_readSayer 66 = .ok (.invokevirtual 187, 3) := by decide +kernel
theorem dX7_readSayer_69 : decode cX7_readSayer 69 = .ok (.ifCond .eq 10, 3) := by decide +kernel
theorem dX7_readSayer_72 : decode cX7_readSayer 72 = .ok (.aload_n 0, 1) := by decide +kernel
theorem dX7_readSayer_73 : decode cX7_readSayer 73 = .ok (.invokevirtual 237, 3) := by decide +kernel
theorem dX7_readSayer_76 : decode cX7_readSayer 76 = .ok (.ifCond .ne 5, 3) := by decide +kernel
theorem dX7_readSayer_79 : decode cX7_readSayer 79 = .ok (.iconst 0, 1) := by decide +kernel
theorem dX7_readSayer_80 : decode cX7_readSayer 80 = .ok (.ireturn, 1) := by decide +kernel
theorem dX7_readSayer_81 : decode cX7_readSayer 81 = .ok (.aload_n 1, 1) := by decide +kernel
theorem dX7_readSayer_82 : decode cX7_readSayer 82 = .ok (.aload_n 0, 1) := by decide +kernel
theorem dX7_readSayer_83 : decode cX7_readSayer 83 = .ok (.getfield 155, 3) := by decide +kernel
theorem dX7_readSayer_86 : decode cX7_readSayer 86 = .ok (.putfield 240, 3) := by decide +kernel
theorem dX7_readSayer_89 : decode cX7_readSayer 89 = .ok (.aload_n 0, 1) := by decide +kernel
theorem dX7_readSayer_90 : decode cX7_readSayer 90 = .ok (.aload_n 1, 1) := by decide +kernel
theorem dX7_readSayer_91 : decode cX7_readSayer 91 = .ok (.invokevirtual 242, 3) := by decide +kernel
theorem dX7_readSayer_94 : decode cX7_readSayer 94 = .ok (.ifCond .eq 23, 3) := by decide +kernel
theorem dX7_readSayer_97 : decode cX7_readSayer 97 = .ok (.aload_n 0, 1) := by decide +kernel
theorem dX7_readSayer_98 : decode cX7_readSayer 98 = .ok (.aload_n 1, 1) := by decide +kernel
theorem dX7_readSayer_99 : decode cX7_readSayer 99 = .ok (.invokevirtual 246, 3) := by decide +kernel
theorem dX7_readSayer_102 : decode cX7_readSayer 102 = .ok (.ifCond .eq 15, 3) := by decide +kernel
theorem dX7_readSayer_105 : decode cX7_readSayer 105 = .ok (.aload_n 0, 1) := by decide +kernel
theorem dX7_readSayer_106 : decode cX7_readSayer 106 = .ok (.aload_n 1, 1) := by decide +kernel
theorem dX7_readSayer_107 : decode cX7_readSayer 107 = .ok (.invokevirtual 249, 3) := by decide +kernel
theorem dX7_readSayer_110 : decode cX7_readSayer 110 = .ok (.ifCond .eq 7, 3) := by decide +kernel
theorem dX7_readSayer_113 : decode cX7_readSayer 113 = .ok (.iconst 1, 1) := by decide +kernel
theorem dX7_readSayer_114 : decode cX7_readSayer 114 = .ok (.goto 4, 3) := by decide +kernel
theorem dX7_readSayer_117 : decode cX7_readSayer 117 = .ok (.iconst 0, 1) := by decide +kernel
theorem dX7_readSayer_118 : decode cX7_readSayer 118 = .ok (.ireturn, 1) := by decide +kernel
theorem dX7_readLines_0 : decode cX7_readLines 0 = .ok (.aload_n 0, 1) := by decide +kernel
theorem dX7_readLines_1 : decode cX7_readLines 1 = .ok (.ldc 143, 2) := by decide +kernel
theorem dX7_readLines_3 : decode cX7_readLines 3 = .ok (.invokevirtual 57, 3) := by decide +kernel
theorem dX7_readLines_6 : decode cX7_readLines 6 = .ok (.ifCond .eq 26, 3) := by decide +kernel
theorem dX7_readLines_9 : decode cX7_readLines 9 = .ok (.aload_n 0, 1) := by decide +kernel
theorem dX7_readLines_10 : decode cX7_readLines 10 = .ok (.invokevirtual 88, 3) := by decide +kernel
theorem dX7_readLines_13 : decode cX7_readLines 13 = .ok (.aload_n 0, 1) := by decide +kernel
theorem dX7_readLines_14 : decode cX7_readLines 14 = .ok (.bipush 50, 2) := by decide +kernel
theorem dX7_readLines_16 : decode cX7_readLines 16 = .ok (.invokevirtual 252, 3) := by decide +kernel
theorem dX7_readLines_19 : decode cX7_readLines 19 = .ok (.ifCond .ne 5, 3) := by decide +kernel
theorem dX7_readLines_22 : decode cX7_readLines 22 = .ok (.iconst 0, 1) := by decide +kernel
theorem dX7_readLines_23 : decode cX7_readLines 23 = .ok (.ireturn, 1) := by decide +kernel
theorem dX7_readLines_24 : decode cX7_readLines 24 = .ok (.aload_n 1, 1) := by decide +kernel
theorem dX7_readLines_25 : decode cX7_readLines 25 = .ok (.aload_n 0, 1) := by decide +kernel
theorem dX7_readLines_26 : decode cX7_readLines 26 = .ok (.getfield 155, 3) := by decide +kernel
theorem dX7_readLines_29 : decode cX7_readLines 29 = .ok (.putfield 255, 3) := by decide +kernel
theorem dX7_readLines_32 : decode cX7_readLines 32 = .ok (.aload_n 0, 1) := by decide +kernel
theorem dX7_readLines_33 : decode cX7_readLines 33 = .ok (.ldc_w 257, 3) := by decide +kernel
theorem dX7_readLines_36 : decode cX7_readLines 36 = .ok (.invokevirtual 57, 3) := by decide +kernel
theorem dX7_readLines_39 : decode cX7_readLines 39 = .ok (.ifCond .eq 26, 3) := by decide +kernel
theorem dX7_readLines_42 : decode cX7_readLines 42 = .ok (.aload_n 0, 1) := by decide +kernel
theorem dX7_readLines_43 : decode cX7_readLines 43 = .ok (.invokevirtual 88, 3) := by decide +kernel
theorem dX7_readLines_46 : decode cX7_readLines 46 = .ok (.aload_n 0, 1) := by decide +kernel
theorem dX7_readLines_47 : decode cX7_readLines 47 = .ok (.bipush 50, 2) := by decide +kernel
theorem dX7_readLines_49 : decode cX7_readLines 49 = .ok (.invokevirtual 252, 3) := by decide +kernel
theorem dX7_readLines_52 : decode cX7_readLines 52 = .ok (.ifCond .ne 5, 3) := by decide +kernel
theorem dX7_readLines_55 : decode cX7_readLines 55 = .ok (.iconst 0, 1) := by decide +kernel
theorem dX7_readLines_56 : decode cX7_readLines 56 = .ok (.ireturn, 1) := by decide +kernel
theorem dX7_readLines_57 : decode cX7_readLines 57 = .ok (.aload_n 1, 1) := by decide +kernel
theorem dX7_readLines_58 : decode cX7_readLines 58 = .ok (.aload_n 0, 1) := by decide +kernel
theorem dX7_readLines_59 : decode cX7_readLines 59 = .ok (.getfield 155, 3) := by decide +kernel
theorem dX7_readLines_62 : decode cX7_readLines 62 = .ok (.putfield 259, 3) := by decide +kernel
theorem dX7_readLines_65 : decode cX7_readLines 65 = .ok (.iconst 1, 1) := by decide +kernel
theorem dX7_readLines_66 : decode cX7_readLines 66 = .ok (.ireturn, 1) := by decide +kernel
theorem dX7_readYears_0 : decode cX7_readYears 0 = .ok (.aload_n 0, 1) := by decide +kernel
theorem dX7_readYears_1 : decode cX7_readYears 1 = .ok (.ldc_w 261, 3) := by decide +kernel
theorem dX7_readYears_4 : decode cX7_readYears 4 = .ok (.invokevirtual 57, 3) := by decide +kernel
theorem dX7_readYears_7 : decode cX7_readYears 7 = .ok (.ifCond .eq 27, 3) := by decide +kernel
theorem dX7_readYears_10 : decode cX7_readYears 10 = .ok (.aload_n 0, 1) := by decide +kernel
theorem dX7_readYears_11 : decode cX7_readYears 11 = .ok (.invokevirtual 88, 3) := by decide +kernel
theorem dX7_readYears_14 : decode cX7_readYears 14 = .ok (.aload_n 0, 1) := by decide +kernel
theorem dX7_readYears_15 : decode cX7_readYears 15 = .ok (.iconst 1, 1) := by decide +kernel
theorem dX7_readYears_16 : decode cX7_readYears 16 = .ok (.bipush 99, 2) := by decide +kernel
theorem dX7_readYears_18 : decode cX7_readYears 18 = .ok (.invokevirtual 158, 3) := by decide +kernel
theorem dX7_readYears_21 : decode cX7_readYears 21 = .ok (.ifCond .ne 5, 3) := by decide +kernel
theorem dX7_readYears_24 : decode cX7_readYears 24 = .ok (.iconst 0, 1) := by decide +kernel
theorem dX7_readYears_25 : decode cX7_readYears 25 = .ok (.ireturn, 1) := by decide +kernel
theorem dX7_readYears_26 : decode cX7_readYears 26 = .ok (.aload_n 1, 1) := by decide +kernel
theorem dX7_readYears_27 : decode cX7_readYears 27 = .ok (.aload_n 0, 1) := by decide +kernel
theorem dX7_readYears_28 : decode cX7_readYears 28 = .ok (.getfield 155, 3) := by decide +kernel
theorem dX7_readYears_31 : decode cX7_readYears 31 = .ok (.putfield 263, 3) := by decide +kernel
theorem dX7_readYears_34 : decode cX7_readYears 34 = .ok (.aload_n 0, 1) := by decide +kernel
theorem dX7_readYears_35 : decode cX7_readYears 35 = .ok (.ldc_w 265, 3) := by decide +kernel
theorem dX7_readYears_38 : decode cX7_readYears 38 = .ok (.invokevirtual 57, 3) := by decide +kernel
theorem dX7_readYears_41 : decode cX7_readYears 41 = .ok (.ifCond .eq 27, 3) := by decide +kernel
theorem dX7_readYears_44 : decode cX7_readYears 44 = .ok (.aload_n 0, 1) := by decide +kernel
theorem dX7_readYears_45 : decode cX7_readYears 45 = .ok (.invokevirtual 88, 3) := by decide +kernel
theorem dX7_readYears_48 : decode cX7_readYears 48 = .ok (.aload_n 0, 1) := by decide +kernel
theorem dX7_readYears_49 : decode cX7_readYears 49 = .ok (.iconst 1, 1) := by decide +kernel
theorem dX7_readYears_50 : decode cX7_readYears 50 = .ok (.bipush 99, 2) := by decide +kernel
theorem dX7_readYears_52 : decode cX7_readYears 52 = .ok (.invokevirtual 158, 3) := by decide +kernel
theorem dX7_readYears_55 : decode cX7_readYears 55 = .ok (.ifCond .ne 5, 3) := by decide +kernel
theorem dX7_readYears_58 : decode cX7_readYears 58 = .ok (.iconst 0, 1) := by decide +kernel
theorem dX7_readYears_59 : decode cX7_readYears 59 = .ok (.ireturn, 1) := by decide +kernel
theorem dX7_readYears_60 : decode cX7_readYears 60 = .ok (.aload_n 1, 1) := by decide +kernel
theorem dX7_readYears_61 : decode cX7_readYears 61 = .ok (.aload_n 0, 1) := by decide +kernel
theorem dX7_readYears_62 : decode cX7_readYears 62 = .ok (.getfield 155, 3) := by decide +kernel
theorem dX7_readYears_65 : decode cX7_readYears 65 = .ok (.putfield 267, 3) := by decide +kernel
theorem dX7_readYears_68 : decode cX7_readYears 68 = .ok (.iconst 1, 1) := by decide +kernel
theorem dX7_readYears_69 : decode cX7_readYears 69 = .ok (.ireturn, 1) := by decide +kernel
theorem dX7_readLikes_0 : decode cX7_readLikes 0 = .ok (.aload_n 0, 1) := by decide +kernel
theorem dX7_readLikes_1 : decode cX7_readLikes 1 = .ok (.ldc 153, 2) := by decide +kernel
theorem dX7_readLikes_3 : decode cX7_readLikes 3 = .ok (.invokevirtual 57, 3) := by decide +kernel
theorem dX7_readLikes_6 : decode cX7_readLikes 6 = .ok (.ifCond .eq 12, 3) := by decide +kernel
theorem dX7_readLikes_9 : decode cX7_readLikes 9 = .ok (.aload_n 0, 1) := by decide +kernel
theorem dX7_readLikes_10 : decode cX7_readLikes 10 = .ok (.invokevirtual 88, 3) := by decide +kernel
theorem dX7_readLikes_13 : decode cX7_readLikes 13 = .ok (.aload_n 1, 1) := by decide +kernel
theorem dX7_readLikes_14 : decode cX7_readLikes 14 = .ok (.iconst 1, 1) := by decide +kernel
theorem dX7_readLikes_15 : decode cX7_readLikes 15 = .ok (.putfield 269, 3) := by decide +kernel
theorem dX7_readLikes_18 : decode cX7_readLikes 18 = .ok (.aload_n 0, 1) := by decide +kernel
theorem dX7_readLikes_19 : decode cX7_readLikes 19 = .ok (.ldc 151, 2) := by decide +kernel
theorem dX7_readLikes_21 : decode cX7_readLikes 21 = .ok (.invokevirtual 57, 3) := by decide +kernel
theorem dX7_readLikes_24 : decode cX7_readLikes 24 = .ok (.ifCond .ne 5, 3) := by decide +kernel
theorem dX7_readLikes_27 : decode cX7_readLikes 27 = .ok (.iconst 1, 1) := by decide +kernel
theorem dX7_readLikes_28 : decode cX7_readLikes 28 = .ok (.ireturn, 1) := by decide +kernel
theorem dX7_readLikes_29 : decode cX7_readLikes 29 = .ok (.aload_n 0, 1) := by decide +kernel
theorem dX7_readLikes_30 : decode cX7_readLikes 30 = .ok (.invokevirtual 88, 3) := by decide +kernel
theorem dX7_readLikes_33 : decode cX7_readLikes 33 = .ok (.aload_n 0, 1) := by decide +kernel
theorem dX7_readLikes_34 : decode cX7_readLikes 34 = .ok (.aload_n 1, 1) := by decide +kernel
theorem dX7_readLikes_35 : decode cX7_readLikes 35 = .ok (.invokevirtual 272, 3) := by decide +kernel
theorem dX7_readLikes_38 : decode cX7_readLikes 38 = .ok (.istore_n 2, 1) := by decide +kernel
theorem dX7_readLikes_39 : decode cX7_readLikes 39 = .ok (.iconst 0, 1) := by decide +kernel
theorem dX7_readLikes_40 : decode cX7_readLikes 40 = .ok (.istore_n 3, 1) := by decide +kernel
theorem dX7_readLikes_41 : decode cX7_readLikes 41 = .ok (.iload_n 3, 1) := by decide +kernel
theorem dX7_readLikes_42 : decode cX7_readLikes 42 = .ok (.aload_n 0, 1) := by decide +kernel
theorem dX7_readLikes_43 : decode cX7_readLikes 43 = .ok (.getfield 52, 3) := by decide +kernel
theorem dX7_readLikes_46 : decode cX7_readLikes 46 = .ok (.if_icmp .ge 32, 3) := by decide +kernel
theorem dX7_readLikes_49 : decode cX7_readLikes 49 = .ok (.iload_n 2, 1) := by decide +kernel
theorem dX7_readLikes_50 : decode cX7_readLikes 50 = .ok (.ifCond .eq 28, 3) := by decide +kernel
theorem dX7_readLikes_53 : decode cX7_readLikes 53 = .ok (.aload_n 0, 1) := by decide +kernel
theorem dX7_readLikes_54 : decode cX7_readLikes 54 = .ok (.bipush 44, 2) := by decide +kernel
theorem dX7_readLikes_56 : decode cX7_readLikes 56 = .ok (.invokevirtual 84, 3) := by decide +kernel
theorem dX7_readLikes_59 : decode cX7_readLikes 59 = .ok (.ifCond .eq 19, 3) := by decide +kernel
theorem dX7_readLikes_62 : decode cX7_readLikes 62 = .ok (.aload_n 0, 1) := by decide +kernel
theorem dX7_readLikes_63 : decode cX7_readLikes 63 = .ok (.invokevirtual 88, 3) := by decide +kernel
theorem dX7_readLikes_66 : decode cX7_readLikes 66 = .ok (.aload_n 0, 1) := by decide +kernel
theorem dX7_readLikes_67 : decode cX7_readLikes 67 = .ok (.aload_n 1, 1) := by decide +kernel
theorem dX7_readLikes_68 : decode cX7_readLikes 68 = .ok (.invokevirtual 272, 3) := by decide +kernel
theorem dX7_readLikes_71 : decode cX7_readLikes 71 = .ok (.istore_n 2, 1) := by decide +kernel
theorem dX7_readLikes_72 : decode cX7_readLikes 72 = .ok (.iinc 3 1, 3) := by decide +kernel
theorem dX7_readLikes_75 : decode cX7_readLikes 75 = .ok (.goto (-34), 3) := by decide +kernel
theorem dX7_readLikes_78 : decode cX7_readLikes 78 = .ok (.iload_n 2, 1) := by decide +kernel
theorem dX7_readLikes_79 : decode cX7_readLikes 79 = .ok (.ireturn, 1) := by decide +kernel
theorem dX7_readLiked_0 : decode cX7_readLiked 0 = .ok (.aload_n 0, 1) := by decide +kernel
theorem dX7_readLiked_1 : decode cX7_readLiked 1 = .ok (.getfield 9, 3) := by decide +kernel
theorem dX7_readLiked_4 : decode cX7_readLiked 4 = .ok (.aload_n 0, 1) := by decide +kernel
theorem dX7_readLiked_5 : decode cX7_readLiked 5 = .ok (.getfield 91, 3) := by decide +kernel
theorem dX7_readLiked_8 : decode cX7_readLiked 8 = .ok (.iaload, 1) := by decide +kernel
theorem dX7_readLiked_9 : decode cX7_readLiked 9 = .ok (.iconst 2, 1) := by decide +kernel
theorem dX7_readLiked_10 : decode cX7_readLiked 10 = .ok (.if_icmp .ne 7, 3) := by decide +kernel
theorem dX7_readLiked_13 : decode cX7_readLiked 13 = .ok (.iconst 1, 1) := by decide +kernel
theorem dX7_readLiked_14 : decode cX7_readLiked 14 = .ok (.goto 4, 3) := by decide +kernel
theorem dX7_readLiked_17 : decode cX7_readLiked 17 = .ok (.iconst 0, 1) := by decide +kernel
theorem dX7_readLiked_18 : decode cX7_readLiked 18 = .ok (.istore_n 2, 1) := by decide +kernel
theorem dX7_readLiked_19 : decode cX7_readLiked 19 = .ok (.iload_n 2, 1) := by decide +kernel
theorem dX7_readLiked_20 : decode cX7_readLiked 20 = .ok (.ifCond .eq 25, 3) := by decide +kernel
theorem dX7_readLiked_23 : decode cX7_readLiked 23 = .ok (.aload_n 1, 1) := by decide +kernel
theorem dX7_readLiked_24 : decode cX7_readLiked 24 = .ok (.aload_n 0, 1) := by decide +kernel
theorem dX7_readLiked_25 : decode cX7_readLiked 25 = .ok (.getfield 18, 3) := by decide +kernel
theorem dX7_readLiked_28 : decode cX7_readLiked 28 = .ok (.aload_n 0, 1) := by decide +kernel
theorem dX7_readLiked_29 : decode cX7_readLiked 29 = .ok (.getfield 91, 3) := by decide +kernel
theorem dX7_readLiked_32 : decode cX7_readLiked 32 = .ok (.laload, 1) := by decide +kernel
theorem dX7_readLiked_33 : decode cX7_readLiked 33 = .ok (.invokevirtual 275, 3) := by decide +kernel
theorem dX7_readLiked_36 : decode cX7_readLiked 36 = .ok (.ifCond .eq 9, 3) := by decide +kernel
theorem dX7_readLiked_39 : decode cX7_readLiked 39 = .ok (.aload_n 0, 1) := by decide +kernel
theorem dX7_readLiked_40 : decode cX7_readLiked 40 = .ok (.iconst 3, 1) := by decide +kernel
theorem dX7_readLiked_41 : decode cX7_readLiked 41 = .ok (.invokevirtual 80, 3) := by decide +kernel
theorem dX7_readLiked_44 : decode cX7_readLiked 44 = .ok (.ireturn, 1) := by decide +kernel
theorem dX7_readLiked_45 : decode cX7_readLiked 45 = .ok (.iload_n 2, 1) := by decide +kernel
theorem dX7_readLiked_46 : decode cX7_readLiked 46 = .ok (.ifCond .eq 18, 3) := by decide +kernel
theorem dX7_readLiked_49 : decode cX7_readLiked 49 = .ok (.aload_n 1, 1) := by decide +kernel
theorem dX7_readLiked_50 : decode cX7_readLiked 50 = .ok (.getfield 278, 3) := by decide +kernel
theorem dX7_readLiked_53 : decode cX7_readLiked 53 = .ok (.bipush 6, 2) := by decide +kernel
theorem dX7_readLiked_55 : decode cX7_readLiked 55 = .ok (.if_icmp .lt 9, 3) := by decide +kernel
theorem dX7_readLiked_58 : decode cX7_readLiked 58 = .ok (.aload_n 0, 1) := by decide +kernel
theorem dX7_readLiked_59 : decode cX7_readLiked 59 = .ok (.iconst 5, 1) := by decide +kernel
theorem dX7_readLiked_60 : decode cX7_readLiked 60 = .ok (.invokevirtual 80, 3) := by decide +kernel
theorem dX7_readLiked_63 : decode cX7_readLiked 63 = .ok (.ireturn, 1) := by decide +kernel
theorem dX7_readLiked_64 : decode cX7_readLiked 64 = .ok (.aload_n 0, 1) := by decide +kernel
theorem dX7_readLiked_65 : decode cX7_readLiked 65 = .ok (.iconst 0, 1) := by decide +kernel
theorem dX7_readLiked_66 : decode cX7_readLiked 66 = .ok (.sipush 999, 3) := by decide +kernel
theorem dX7_readLiked_69 : decode cX7_readLiked 69 = .ok (.invokevirtual 158, 3) := by decide +kernel
theorem dX7_readLiked_72 : decode cX7_readLiked 72 = .ok (.ifCond .ne 5, 3) := by decide +kernel
theorem dX7_readLiked_75 : decode cX7_readLiked 75 = .ok (.iconst 0, 1) := by decide +kernel
theorem dX7_readLiked_76 : decode cX7_readLiked 76 = .ok (.ireturn, 1) := by decide +kernel
theorem dX7_readLiked_77 : decode cX7_readLiked 77 = .ok (.aload_n 1, 1) := by decide +kernel
theorem dX7_readLiked_78 : decode cX7_readLiked 78 = .ok (.aload_n 0, 1) := by decide +kernel
theorem dX7_readLiked_79 : decode cX7_readLiked 79 = .ok (.getfield 155, 3) := by decide +kernel
theorem dX7_readLiked_82 : decode cX7_readLiked 82 = .ok (.invokevirtual 281, 3) := by decide +kernel
theorem dX7_readLiked_85 : decode cX7_readLiked 85 = .ok (.iconst 1, 1) := by decide +kernel
theorem dX7_readLiked_86 : decode cX7_readLiked 86 = .ok (.ireturn, 1) := by decide +kernel
theorem dX7_readPlan_0 : decode cX7_readPlan 0 = .ok (.aload_n 0, 1) := by decide +kernel
theorem dX7_readPlan_1 : decode cX7_readPlan 1 = .ok (.getfield 25, 3) := by decide +kernel
theorem dX7_readPlan_4 : decode cX7_readPlan 4 = .ok (.getfield 284, 3) := by decide +kernel
theorem dX7_readPlan_7 : decode cX7_readPlan 7 = .ok (.iconst 4, 1) := by decide +kernel
theorem dX7_readPlan_8 : decode cX7_readPlan 8 = .ok (.if_icmp .lt 9, 3) := by decide +kernel
theorem dX7_readPlan_11 : decode cX7_readPlan 11 = .ok (.aload_n 0, 1) := by decide +kernel
theorem dX7_readPlan_12 : decode cX7_readPlan 12 = .ok (.iconst 5, 1) := by decide +kernel
theorem dX7_readPlan_13 : decode cX7_readPlan 13 = .ok (.invokevirtual 80, 3) := by decide +kernel
theorem dX7_readPlan_16 : decode cX7_readPlan 16 = .ok (.ireturn, 1) := by decide +kernel
theorem dX7_readPlan_17 : decode cX7_readPlan 17 = .ok (.aload_n 0, 1) := by decide +kernel
theorem dX7_readPlan_18 : decode cX7_readPlan 18 = .ok (.invokevirtual 88, 3) := by decide +kernel
theorem dX7_readPlan_21 : decode cX7_readPlan 21 = .ok (.aload_n 0, 1) := by decide +kernel
theorem dX7_readPlan_22 : decode cX7_readPlan 22 = .ok (.getfield 25, 3) := by decide +kernel
theorem dX7_readPlan_25 : decode cX7_readPlan 25 = .ok (.getfield 287, 3) := by decide +kernel
theorem dX7_readPlan_28 : decode cX7_readPlan 28 = .ok (.aload_n 0, 1) := by decide +kernel
theorem dX7_readPlan_29 : decode cX7_readPlan 29 = .ok (.getfield 25, 3) := by decide +kernel
theorem dX7_readPlan_32 : decode cX7_readPlan 32 = .ok (.getfield 284, 3) := by decide +kernel
theorem dX7_readPlan_35 : decode cX7_readPlan 35 = .ok (.aaload, 1) := by decide +kernel
theorem dX7_readPlan_36 : decode cX7_readPlan 36 = .ok (.astore_n 1, 1) := by decide +kernel
theorem dX7_readPlan_37 : decode cX7_readPlan 37 = .ok (.aload_n 0, 1) := by decide +kernel
theorem dX7_readPlan_38 : decode cX7_readPlan 38 = .ok (.getfield 25, 3) := by decide +kernel
theorem dX7_readPlan_41 : decode cX7_readPlan 41 = .ok (.dup, 1) := by decide +kernel
theorem dX7_readPlan_42 : decode cX7_readPlan 42 = .ok (.getfield 284, 3) := by decide +kernel
theorem dX7_readPlan_45 : decode cX7_readPlan 45 = .ok (.iconst 1, 1) := by decide +kernel
theorem dX7_readPlan_46 : decode cX7_readPlan 46 = .ok (.iadd, 1) := by decide +kernel
theorem dX7_readPlan_47 : decode cX7_readPlan 47 = .ok (.putfield 284, 3) := by decide +kernel
theorem dX7_readPlan_50 : decode cX7_readPlan 50 = .ok (.aload_n 0, 1) := by decide +kernel
theorem dX7_readPlan_51 : decode cX7_readPlan 51 = .ok (.iconst (-1), 1) := by decide +kernel
theorem dX7_readPlan_52 : decode cX7_readPlan 52 = .ok (.invokevirtual 180, 3) := by decide +kernel
theorem dX7_readPlan_55 : decode cX7_readPlan 55 = .ok (.ifCond .ne 5, 3) := by decide +kernel
theorem dX7_readPlan_58 : decode cX7_readPlan 58 = .ok (.iconst 0, 1) := by decide +kernel
theorem dX7_readPlan_59 : decode cX7_readPlan 59 = .ok (.ireturn, 1) := by decide +kernel
theorem dX7_readPlan_60 : decode cX7_readPlan 60 = .ok (.aload_n 1, 1) := by decide +kernel
theorem dX7_readPlan_61 : decode cX7_readPlan 61 = .ok (.aload_n 0, 1) := by decide +kernel
theorem dX7_readPlan_62 : decode cX7_readPlan 62 = .ok (.ldc_w 291, 3) := by decide +kernel
theorem dX7_readPlan_65 : decode cX7_readPlan 65 = .ok (.invokevirtual 57, 3) := by decide +kernel
theorem dX7_readPlan_68 : decode cX7_readPlan 68 = .ok (.ifCond .eq 7, 3) := by decide +kernel
theorem dX7_readPlan_71 : decode cX7_readPlan 71 = .ok (.iconst 0, 1) := by decide +kernel
theorem dX7_readPlan_72 : decode cX7_readPlan 72 = .ok (.goto 32, 3) := by decide +kernel
theorem dX7_readPlan_75 : decode cX7_readPlan 75 = .ok (.aload_n 0, 1) := by decide +kernel
theorem dX7_readPlan_76 : decode cX7_readPlan 76 = .ok (.ldc_w 295, 3) := by decide +kernel
theorem dX7_readPlan_79 : decode cX7_readPlan 79 = .ok (.invokevirtual 57, 3) := by decide +kernel
theorem dX7_readPlan_82 : decode cX7_readPlan 82 = .ok (.ifCond .eq 7, 3) := by decide +kernel
theorem dX7_readPlan_85 : decode cX7_readPlan 85 = .ok (.iconst 1, 1) := by decide +kernel
theorem dX7_readPlan_86 : decode cX7_readPlan 86 = .ok (.goto 18, 3) := by decide +kernel
theorem dX7_readPlan_89 : decode cX7_readPlan 89 = .ok (.aload_n 0, 1) := by decide +kernel
theorem dX7_readPlan_90 : decode cX7_readPlan 90 = .ok (.ldc_w 297, 3) := by decide +kernel
theorem dX7_readPlan_93 : decode cX7_readPlan 93 = .ok (.invokevirtual 57, 3) := by decide +kernel
theorem dX7_readPlan_96 : decode cX7_readPlan 96 = .ok (.ifCond .eq 7, 3) := by decide +kernel
theorem dX7_readPlan_99 : decode cX7_readPlan 99 = .ok (.iconst 2, 1) := by decide +kernel
theorem dX7_readPlan_100 : decode cX7_readPlan 100 = .ok (.goto 4, 3) := by decide +kernel
theorem dX7_readPlan_103 : decode cX7_readPlan 103 = .ok (.iconst (-1), 1) := by decide +kernel
theorem dX7_readPlan_104 : decode cX7_readPlan 104 = .ok (.putfield 299, 3) := by decide +kernel
theorem dX7_readPlan_107 : decode cX7_readPlan 107 = .ok (.aload_n 1, 1) := by decide +kernel
theorem dX7_readPlan_108 : decode cX7_readPlan 108 = .ok (.getfield 299, 3) := by decide +kernel
theorem dX7_readPlan_111 : decode cX7_readPlan 111 = .ok (.iconst (-1), 1) := by decide +kernel
theorem dX7_readPlan_112 : decode cX7_readPlan 112 = .ok (.if_icmp .ne 9, 3) := by decide +kernel
theorem dX7_readPlan_115 : decode cX7_readPlan 115 = .ok (.aload_n 0, 1) := by decide +kernel
theorem dX7_readPlan_116 : decode cX7_readPlan 116 = .ok (.iconst 1, 1) := by decide +kernel
theorem dX7_readPlan_117 : decode cX7_readPlan 117 = .ok (.invokevirtual 80, 3) := by decide +kernel
theorem dX7_readPlan_120 : decode cX7_readPlan 120 = .ok (.ireturn, 1) := by decide +kernel
theorem dX7_readPlan_121 : decode cX7_readPlan 121 = .ok (.aload_n 0, 1) := by decide +kernel
theorem dX7_readPlan_122 : decode cX7_readPlan 122 = .ok (.invokevirtual 88, 3) := by decide +kernel
theorem dX7_readPlan_125 : decode cX7_readPlan 125 = .ok (.aload_n 0, 1) := by decide +kernel
theorem dX7_readPlan_126 : decode cX7_readPlan 126 = .ok (.aload_n 1, 1) := by decide +kernel
theorem dX7_readPlan_127 : decode cX7_readPlan 127 = .ok (.invokevirtual 302, 3) := by decide +kernel
theorem dX7_readPlan_130 : decode cX7_readPlan 130 = .ok (.ireturn, 1) := by decide +kernel
theorem dX7_readSizes_0 : decode cX7_readSizes 0 = .ok (.aload_n 0, 1) := by decide +kernel
theorem dX7_readSizes_1 : decode cX7_readSizes 1 = .ok (.iconst 1, 1) := by decide +kernel
theorem dX7_readSizes_2 : decode cX7_readSizes 2 = .ok (.sipush 400, 3) := by decide +kernel
theorem dX7_readSizes_5 : decode cX7_readSizes 5 = .ok (.invokevirtual 158, 3) := by decide +kernel
theorem dX7_readSizes_8 : decode cX7_readSizes 8 = .ok (.ifCond .ne 5, 3) := by decide +kernel
theorem dX7_readSizes_11 : decode cX7_readSizes 11 = .ok (.iconst 0, 1) := by decide +kernel
theorem dX7_readSizes_12 : decode cX7_readSizes 12 = .ok (.ireturn, 1) := by decide +kernel
theorem dX7_readSizes_13 : decode cX7_readSizes 13 = .ok (.aload_n 1, 1) := by decide +kernel
theorem dX7_readSizes_14 : decode cX7_readSizes 14 = .ok (.aload_n 0, 1) := by decide +kernel
theorem dX7_readSizes_15 : decode cX7_readSizes 15 = .ok (.getfield 155, 3) := by decide +kernel
theorem dX7_readSizes_18 : decode cX7_readSizes 18 = .ok (.putfield 306, 3) := by decide +kernel
theorem dX7_readSizes_21 : decode cX7_readSizes 21 = .ok (.aload_n 0, 1) := by decide +kernel
theorem dX7_readSizes_22 : decode cX7_readSizes 22 = .ok (.ldc 147, 2) := by decide +kernel
theorem dX7_readSizes_24 : decode cX7_readSizes 24 = .ok (.invokevirtual 187, 3) := by decide +kernel
theorem dX7_readSizes_27 : decode cX7_readSizes 27 = .ok (.ifCond .eq 17, 3) := by decide +kernel
theorem dX7_readSizes_30 : decode cX7_readSizes 30 = .ok (.aload_n 0, 1) := by decide +kernel
theorem dX7_readSizes_31 : decode cX7_readSizes 31 = .ok (.aload_n 1, 1) := by decide +kernel
theorem dX7_readSizes_32 : decode cX7_readSizes 32 = .ok (.getfield 306, 3) := by decide +kernel
theorem dX7_readSizes_35 : decode cX7_readSizes 35 = .ok (.sipush 400, 3) := by decide +kernel
theorem dX7_readSizes_38 : decode cX7_readSizes 38 = .ok (.invokevirtual 158, 3) := by decide +kernel
theorem dX7_readSizes_41 : decode cX7_readSizes 41 = .ok (.ifCond .ne 5, 3) := by decide +kernel
theorem dX7_readSizes_44 : decode cX7_readSizes 44 = .ok (.iconst 0, 1) := by decide +kernel
theorem dX7_readSizes_45 : decode cX7_readSizes 45 = .ok (.ireturn, 1) := by decide +kernel
theorem dX7_readSizes_46 : decode cX7_readSizes 46 = .ok (.aload_n 1, 1) := by decide +kernel
theorem dX7_readSizes_47 : decode cX7_readSizes 47 = .ok (.aload_n 0, 1) := by decide +kernel
theorem dX7_readSizes_48 : decode cX7_readSizes 48 = .ok (.getfield 155, 3) := by decide +kernel
theorem dX7_readSizes_51 : decode cX7_readSizes 51 = .ok (.putfield 309, 3) := by decide +kernel
theorem dX7_readSizes_54 : decode cX7_readSizes 54 = .ok (.aload_n 0, 1) := by decide +kernel
theorem dX7_readSizes_55 : decode cX7_readSizes 55 = .ok (.ldc 149, 2) := by decide +kernel
theorem dX7_readSizes_57 : decode cX7_readSizes 57 = .ok (.invokevirtual 187, 3) := by decide +kernel
theorem dX7_readSizes_60 : decode cX7_readSizes 60 = .ok (.ifCond .eq 14, 3) := by decide +kernel
theorem dX7_readSizes_63 : decode cX7_readSizes 63 = .ok (.aload_n 0, 1) := by decide +kernel
theorem dX7_readSizes_64 : decode cX7_readSizes 64 = .ok (.iconst 1, 1) := by decide +kernel
theorem dX7_readSizes_65 : decode cX7_readSizes 65 = .ok (.sipush 400, 3) := by decide +kernel
theorem dX7_readSizes_68 : decode cX7_readSizes 68 = .ok (.invokevirtual 158, 3) := by decide +kernel
theorem dX7_readSizes_71 : decode cX7_readSizes 71 = .ok (.ifCond .ne 5, 3) := by decide +kernel
theorem dX7_readSizes_74 : decode cX7_readSizes 74 = .ok (.iconst 0, 1) := by decide +kernel
theorem dX7_readSizes_75 : decode cX7_readSizes 75 = .ok (.ireturn, 1) := by decide +kernel
theorem dX7_readSizes_76 : decode cX7_readSizes 76 = .ok (.aload_n 1, 1) := by decide +kernel
theorem dX7_readSizes_77 : decode cX7_readSizes 77 = .ok (.aload_n 0, 1) := by decide +kernel
theorem dX7_readSizes_78 : decode cX7_readSizes 78 = .ok (.getfield 155, 3) := by decide +kernel
theorem dX7_readSizes_81 : decode cX7_readSizes 81 = .ok (.putfield 311, 3) := by decide +kernel
theorem dX7_readSizes_84 : decode cX7_readSizes 84 = .ok (.bipush 20, 2) := by decide +kernel
theorem dX7_readSizes_86 : decode cX7_readSizes 86 = .ok (.sipush 200, 3) := by decide +kernel
theorem dX7_readSizes_89 : decode cX7_readSizes 89 = .ok (.iconst 1, 1) := by decide +kernel
theorem dX7_readSizes_90 : decode cX7_readSizes 90 = .ok (.aload_n 1, 1) := by decide +kernel
theorem dX7_readSizes_91 : decode cX7_readSizes 91 = .ok (.invokevirtual 313, 3) := by decide +kernel
theorem dX7_readSizes_94 : decode cX7_readSizes 94 = .ok (.invokestatic 45, 3) := by decide +kernel
theorem dX7_readSizes_97 : decode cX7_readSizes 97 = .ok (.idiv, 1) := by decide +kernel
theorem dX7_readSizes_98 : decode cX7_readSizes 98 = .ok (.invokestatic 39, 3) := by decide +kernel
theorem dX7_readSizes_101 : decode cX7_readSizes 101 = .ok (.istore_n 2, 1) := by decide +kernel
theorem dX7_readSizes_102 : decode cX7_readSizes 102 = .ok (.aload_n 0, 1) := by decide +kernel
theorem dX7_readSizes_103 : decode cX7_readSizes 103 = .ok (.ldc_w 316, 3) := by decide +kernel
theorem dX7_readSizes_106 : decode cX7_readSizes 106 = .ok (.invokevirtual 187, 3) := by decide +kernel
theorem dX7_readSizes_109 : decode cX7_readSizes 109 = .ok (.ifCond .eq 12, 3) := by decide +kernel
theorem dX7_readSizes_112 : decode cX7_readSizes 112 = .ok (.aload_n 0, 1) := by decide +kernel
theorem dX7_readSizes_113 : decode cX7_readSizes 113 = .ok (.iconst 1, 1) := by decide +kernel
theorem dX7_readSizes_114 : decode cX7_readSizes 114 = .ok (.iload_n 2, 1) := by decide +kernel
theorem dX7_readSizes_115 : decode cX7_readSizes 115 = .ok (.invokevirtual 158, 3) := by decide +kernel
theorem dX7_readSizes_118 : decode cX7_readSizes 118 = .ok (.ifCond .ne 5, 3) := by decide +kernel
theorem dX7_readSizes_121 : decode cX7_readSizes 121 = .ok (.iconst 0, 1) := by decide +kernel
theorem dX7_readSizes_122 : decode cX7_readSizes 122 = .ok (.ireturn, 1) := by decide +kernel
theorem dX7_readSizes_123 : decode cX7_readSizes 123 = .ok (.aload_n 1, 1) := by decide +kernel
theorem dX7_readSizes_124 : decode cX7_readSizes 124 = .ok (.aload_n 0, 1) := by decide +kernel
theorem dX7_readSizes_125 : decode cX7_readSizes 125 = .ok (.getfield 155, 3) := by decide +kernel
theorem dX7_readSizes_128 : decode cX7_readSizes 128 = .ok (.putfield 318, 3) := by decide +kernel
theorem dX7_readSizes_131 : decode cX7_readSizes 131 = .ok (.iconst 1, 1) := by decide +kernel
theorem dX7_readSizes_132 : decode cX7_readSizes 132 = .ok (.ireturn, 1) := by decide +kernel
theorem dX7_readPay_0 : decode cX7_readPay 0 = .ok (.aload_n 0, 1) := by decide +kernel
theorem dX7_readPay_1 : decode cX7_readPay 1 = .ok (.getfield 25, 3) := by decide +kernel
theorem dX7_readPay_4 : decode cX7_readPay 4 = .ok (.getfield 320, 3) := by decide +kernel
theorem dX7_readPay_7 : decode cX7_readPay 7 = .ok (.iconst 4, 1) := by decide +kernel
theorem dX7_readPay_8 : decode cX7_readPay 8 = .ok (.if_icmp .lt 9, 3) := by decide +kernel
theorem dX7_readPay_11 : decode cX7_readPay 11 = .ok (.aload_n 0, 1) := by decide +kernel
theorem dX7_readPay_12 : decode cX7_readPay 12 = .ok (.iconst 5, 1) := by decide +kernel
theorem dX7_readPay_13 : decode cX7_readPay 13 = .ok (.invokevirtual 80, 3) := by decide +kernel
theorem dX7_readPay_16 : decode cX7_readPay 16 = .ok (.ireturn, 1) := by decide +kernel
theorem dX7_readPay_17 : decode cX7_readPay 17 = .ok (.aload_n 0, 1) := by decide +kernel
theorem dX7_readPay_18 : decode cX7_readPay 18 = .ok (.invokevirtual 88, 3) := by decide +kernel
theorem dX7_readPay_21 : decode cX7_readPay 21 = .ok (.aload_n 0, 1) := by decide +kernel
theorem dX7_readPay_22 : decode cX7_readPay 22 = .ok (.getfield 25, 3) := by decide +kernel
theorem dX7_readPay_25 : decode cX7_readPay 25 = .ok (.getfield 323, 3) := by decide +kernel
theorem dX7_readPay_28 : decode cX7_readPay 28 = .ok (.aload_n 0, 1) := by decide +kernel
theorem dX7_readPay_29 : decode cX7_readPay 29 = .ok (.getfield 25, 3) := by decide +kernel
theorem dX7_readPay_32 : decode cX7_readPay 32 = .ok (.getfield 320, 3) := by decide +kernel
theorem dX7_readPay_35 : decode cX7_readPay 35 = .ok (.aaload, 1) := by decide +kernel
theorem dX7_readPay_36 : decode cX7_readPay 36 = .ok (.astore_n 1, 1) := by decide +kernel
theorem dX7_readPay_37 : decode cX7_readPay 37 = .ok (.aload_n 0, 1) := by decide +kernel
theorem dX7_readPay_38 : decode cX7_readPay 38 = .ok (.getfield 25, 3) := by decide +kernel
theorem dX7_readPay_41 : decode cX7_readPay 41 = .ok (.dup, 1) := by decide +kernel
theorem dX7_readPay_42 : decode cX7_readPay 42 = .ok (.getfield 320, 3) := by decide +kernel
theorem dX7_readPay_45 : decode cX7_readPay 45 = .ok (.iconst 1, 1) := by decide +kernel
theorem dX7_readPay_46 : decode cX7_readPay 46 = .ok (.iadd, 1) := by decide +kernel
theorem dX7_readPay_47 : decode cX7_readPay 47 = .ok (.putfield 320, 3) := by decide +kernel
theorem dX7_readPay_50 : decode cX7_readPay 50 = .ok (.aload_n 0, 1) := by decide +kernel
theorem dX7_readPay_51 : decode cX7_readPay 51 = .ok (.iconst (-1), 1) := by decide +kernel
theorem dX7_readPay_52 : decode cX7_readPay 52 = .ok (.invokevirtual 180, 3) := by decide +kernel
theorem dX7_readPay_55 : decode cX7_readPay 55 = .ok (.ifCond .eq 13, 3) := by decide +kernel
theorem dX7_readPay_58 : decode cX7_readPay 58 = .ok (.aload_n 0, 1) := by decide +kernel
theorem dX7_readPay_59 : decode cX7_readPay 59 = .ok (.ldc_w 327, 3) := by decide +kernel
theorem dX7_readPay_62 : decode cX7_readPay 62 = .ok (.invokevirtual 329, 3) := by decide +kernel
theorem dX7_readPay_65 : decode cX7_readPay 65 = .ok (.ifCond .ne 5, 3) := by decide +kernel
theorem dX7_readPay_68 : decode cX7_readPay 68 = .ok (.iconst 0, 1) := by decide +kernel
theorem dX7_readPay_69 : decode cX7_readPay 69 = .ok (.ireturn, 1) := by decide +kernel
theorem dX7_readPay_70 : decode cX7_readPay 70 = .ok (.aload_n 1, 1) := by decide +kernel
theorem dX7_readPay_71 : decode cX7_readPay 71 = .ok (.aload_n 0, 1) := by decide +kernel
theorem dX7_readPay_72 : decode cX7_readPay 72 = .ok (.getfield 155, 3) := by decide +kernel
theorem dX7_readPay_75 : decode cX7_readPay 75 = .ok (.putfield 332, 3) := by decide +kernel
theorem dX7_readPay_78 : decode cX7_readPay 78 = .ok (.aload_n 0, 1) := by decide +kernel
theorem dX7_readPay_79 : decode cX7_readPay 79 = .ok (.ldc_w 336, 3) := by decide +kernel
theorem dX7_readPay_82 : decode cX7_readPay 82 = .ok (.invokevirtual 329, 3) := by decide +kernel
theorem dX7_readPay_85 : decode cX7_readPay 85 = .ok (.ifCond .ne 5, 3) := by decide +kernel
theorem dX7_readPay_88 : decode cX7_readPay 88 = .ok (.iconst 0, 1) := by decide +kernel
theorem dX7_readPay_89 : decode cX7_readPay 89 = .ok (.ireturn, 1) := by decide +kernel
theorem dX7_readPay_90 : decode cX7_readPay 90 = .ok (.aload_n 1, 1) := by decide +kernel
theorem dX7_readPay_91 : decode cX7_readPay 91 = .ok (.aload_n 0, 1) := by decide +kernel
theorem dX7_readPay_92 : decode cX7_readPay 92 = .ok (.getfield 155, 3) := by decide +kernel
theorem dX7_readPay_95 : decode cX7_readPay 95 = .ok (.putfield 338, 3) := by decide +kernel
theorem dX7_readPay_98 : decode cX7_readPay 98 = .ok (.aload_n 0, 1) := by decide +kernel
theorem dX7_readPay_99 : decode cX7_readPay 99 = .ok (.ldc_w 340, 3) := by decide +kernel
theorem dX7_readPay_102 : decode cX7_readPay 102 = .ok (.invokevirtual 329, 3) := by decide +kernel
theorem dX7_readPay_105 : decode cX7_readPay 105 = .ok (.ifCond .ne 5, 3) := by decide +kernel
theorem dX7_readPay_108 : decode cX7_readPay 108 = .ok (.iconst 0, 1) := by decide +kernel
theorem dX7_readPay_109 : decode cX7_readPay 109 = .ok (.ireturn, 1) := by decide +kernel
theorem dX7_readPay_110 : decode cX7_readPay 110 = .ok (.aload_n 1, 1) := by decide +kernel
theorem dX7_readPay_111 : decode cX7_readPay 111 = .ok (.aload_n 0, 1) := by decide +kernel
theorem dX7_readPay_112 : decode cX7_readPay 112 = .ok (.getfield 155, 3) := by decide +kernel
theorem dX7_readPay_115 : decode cX7_readPay 115 = .ok (.putfield 342, 3) := by decide +kernel
theorem dX7_readPay_118 : decode cX7_readPay 118 = .ok (.aload_n 0, 1) := by decide +kernel
theorem dX7_readPay_119 : decode cX7_readPay 119 = .ok (.ldc_w 345, 3) := by decide +kernel
theorem dX7_readPay_122 : decode cX7_readPay 122 = .ok (.invokevirtual 329, 3) := by decide +kernel
theorem dX7_readPay_125 : decode cX7_readPay 125 = .ok (.ifCond .ne 5, 3) := by decide +kernel
theorem dX7_readPay_128 : decode cX7_readPay 128 = .ok (.iconst 0, 1) := by decide +kernel
theorem dX7_readPay_129 : decode cX7_readPay 129 = .ok (.ireturn, 1) := by decide +kernel
theorem dX7_readPay_130 : decode cX7_readPay 130 = .ok (.aload_n 1, 1) := by decide +kernel
theorem dX7_readPay_131 : decode cX7_readPay 131 = .ok (.aload_n 0, 1) := by decide +kernel
theorem dX7_readPay_132 : decode cX7_readPay 132 = .ok (.getfield 155, 3) := by decide +kernel
theorem dX7_readPay_135 : decode cX7_readPay 135 = .ok (.putfield 347, 3) := by decide +kernel
theorem dX7_readPay_138 : decode cX7_readPay 138 = .ok (.aload_n 0, 1) := by decide +kernel
theorem dX7_readPay_139 : decode cX7_readPay 139 = .ok (.ldc_w 349, 3) := by decide +kernel
theorem dX7_readPay_142 : decode cX7_readPay 142 = .ok (.invokevirtual 187, 3) := by decide +kernel
theorem dX7_readPay_145 : decode cX7_readPay 145 = .ok (.ifCond .eq 13, 3) := by decide +kernel
theorem dX7_readPay_148 : decode cX7_readPay 148 = .ok (.aload_n 0, 1) := by decide +kernel
theorem dX7_readPay_149 : decode cX7_readPay 149 = .ok (.iconst 0, 1) := by decide +kernel
theorem dX7_readPay_150 : decode cX7_readPay 150 = .ok (.bipush 100, 2) := by decide +kernel
theorem dX7_readPay_152 : decode cX7_readPay 152 = .ok (.invokevirtual 158, 3) := by decide +kernel
theorem dX7_readPay_155 : decode cX7_readPay 155 = .ok (.ifCond .ne 5, 3) := by decide +kernel
theorem dX7_readPay_158 : decode cX7_readPay 158 = .ok (.iconst 0, 1) := by decide +kernel
theorem dX7_readPay_159 : decode cX7_readPay 159 = .ok (.ireturn, 1) := by decide +kernel
theorem dX7_readPay_160 : decode cX7_readPay 160 = .ok (.aload_n 1, 1) := by decide +kernel
theorem dX7_readPay_161 : decode cX7_readPay 161 = .ok (.aload_n 0, 1) := by decide +kernel
theorem dX7_readPay_162 : decode cX7_readPay 162 = .ok (.getfield 155, 3) := by decide +kernel
theorem dX7_readPay_165 : decode cX7_readPay 165 = .ok (.putfield 351, 3) := by decide +kernel
theorem dX7_readPay_168 : decode cX7_readPay 168 = .ok (.iconst 1, 1) := by decide +kernel
theorem dX7_readPay_169 : decode cX7_readPay 169 = .ok (.ireturn, 1) := by decide +kernel
theorem dX7_takeAmount_0 : decode cX7_takeAmount 0 = .ok (.aload_n 0, 1) := by decide +kernel
theorem dX7_takeAmount_1 : decode cX7_takeAmount 1 = .ok (.aload_n 1, 1) := by decide +kernel
theorem dX7_takeAmount_2 : decode cX7_takeAmount 2 = .ok (.invokevirtual 187, 3) := by decide +kernel
theorem dX7_takeAmount_5 : decode cX7_takeAmount 5 = .ok (.ifCond .eq 16, 3) := by decide +kernel
theorem dX7_takeAmount_8 : decode cX7_takeAmount 8 = .ok (.aload_n 0, 1) := by decide +kernel
theorem dX7_takeAmount_9 : decode cX7_takeAmount 9 = .ok (.bipush 99, 2) := by decide +kernel
theorem dX7_takeAmount_11 : decode cX7_takeAmount 11 = .ok (.invokevirtual 252, 3) := by decide +kernel
theorem dX7_takeAmount_14 : decode cX7_takeAmount 14 = .ok (.ifCond .eq 7, 3) := by decide +kernel
theorem dX7_takeAmount_17 : decode cX7_takeAmount 17 = .ok (.iconst 1, 1) := by decide +kernel
theorem dX7_takeAmount_18 : decode cX7_takeAmount 18 = .ok (.goto 4, 3) := by decide +kernel
theorem dX7_takeAmount_21 : decode cX7_takeAmount 21 = .ok (.iconst 0, 1) := by decide +kernel
theorem dX7_takeAmount_22 : decode cX7_takeAmount 22 = .ok (.ireturn, 1) := by decide +kernel
theorem dX8_init_0 : decode cX8_init 0 = .ok (.aload_n 0, 1) := by decide +kernel
theorem dX8_init_1 : decode cX8_init 1 = .ok (.invokespecial 3, 3) := by decide +kernel
theorem dX8_init_4 : decode cX8_init 4 = .ok (.aload_n 0, 1) := by decide +kernel
theorem dX8_init_5 : decode cX8_init 5 = .ok (.bipush 6, 2) := by decide +kernel
theorem dX8_init_7 : decode cX8_init 7 = .ok (.newarray .int, 2) := by decide +kernel
theorem dX8_init_9 : decode cX8_init 9 = .ok (.putfield 9, 3) := by decide +kernel
theorem dX8_init_12 : decode cX8_init 12 = .ok (.return_, 1) := by decide +kernel
theorem dX8_empty_0 : decode cX8_empty 0 = .ok (.aload_n 0, 1) := by decide +kernel
theorem dX8_empty_1 : decode cX8_empty 1 = .ok (.iconst 0, 1) := by decide +kernel
theorem dX8_empty_2 : decode cX8_empty 2 = .ok (.putfield 15, 3) := by decide +kernel
theorem dX8_empty_5 : decode cX8_empty 5 = .ok (.aload_n 0, 1) := by decide +kernel
theorem dX8_empty_6 : decode cX8_empty 6 = .ok (.iconst 0, 1) := by decide +kernel
theorem dX8_empty_7 : decode cX8_empty 7 = .ok (.putfield 19, 3) := by decide +kernel
theorem dX8_empty_10 : decode cX8_empty 10 = .ok (.aload_n 0, 1) := by decide +kernel
theorem dX8_empty_11 : decode cX8_empty 11 = .ok (.iconst 0, 1) := by decide +kernel
theorem dX8_empty_12 : decode cX8_empty 12 = .ok (.putfield 22, 3) := by decide +kernel
theorem dX8_empty_15 : decode cX8_empty 15 = .ok (.aload_n 0, 1) := by decide +kernel
theorem dX8_empty_16 : decode cX8_empty 16 = .ok (.iconst 0, 1) := by decide +kernel
theorem dX8_empty_17 : decode cX8_empty 17 = .ok (.putfield 25, 3) := by decide +kernel
theorem dX8_empty_20 : decode cX8_empty 20 = .ok (.aload_n 0, 1) := by decide +kernel
theorem dX8_empty_21 : decode cX8_empty 21 = .ok (.iconst 0, 1) := by decide +kernel
theorem dX8_empty_22 : decode cX8_empty 22 = .ok (.putfield 28, 3) := by decide +kernel
theorem dX8_empty_25 : decode cX8_empty 25 = .ok (.aload_n 0, 1) := by decide +kernel
theorem dX8_empty_26 : decode cX8_empty 26 = .ok (.iconst 0, 1) := by decide +kernel
theorem dX8_empty_27 : decode cX8_empty 27 = .ok (.putfield 31, 3) := by decide +kernel
theorem dX8_empty_30 : decode cX8_empty 30 = .ok (.aload_n 0, 1) := by decide +kernel
theorem dX8_empty_31 : decode cX8_empty 31 = .ok (.iconst 0, 1) := by decide +kernel
theorem dX8_empty_32 : decode cX8_empty 32 = .ok (.putfield 35, 3) := by decide +kernel
theorem dX8_empty_35 : decode cX8_empty 35 = .ok (.aload_n 0, 1) := by decide +kernel
theorem dX8_empty_36 : decode cX8_empty 36 = .ok (.iconst 0, 1) := by decide +kernel
theorem dX8_empty_37 : decode cX8_empty 37 = .ok (.putfield 38, 3) := by decide +kernel
theorem dX8_empty_40 : decode cX8_empty 40 = .ok (.aload_n 0, 1) := by decide +kernel
theorem dX8_empty_41 : decode cX8_empty 41 = .ok (.iconst 0, 1) := by decide +kernel
theorem dX8_empty_42 : decode cX8_empty 42 = .ok (.putfield 41, 3) := by decide +kernel
theorem dX8_empty_45 : decode cX8_empty 45 = .ok (.return_, 1) := by decide +kernel
theorem dX8_tired_0 : decode cX8_tired 0 = .ok (.aload_n 0, 1) := by decide +kernel
theorem dX8_tired_1 : decode cX8_tired 1 = .ok (.getfield 25, 3) := by decide +kernel
theorem dX8_tired_4 : decode cX8_tired 4 = .ok (.iconst 1, 1) := by decide +kernel
theorem dX8_tired_5 : decode cX8_tired 5 = .ok (.if_icmp .ge 7, 3) := by decide +kernel
theorem dX8_tired_8 : decode cX8_tired 8 = .ok (.iconst 0, 1) := by decide +kernel
theorem dX8_tired_9 : decode cX8_tired 9 = .ok (.goto 12, 3) := by decide +kernel
theorem dX8_tired_12 : decode cX8_tired 12 = .ok (.aload_n 0, 1) := by decide +kernel
theorem dX8_tired_13 : decode cX8_tired 13 = .ok (.getfield 41, 3) := by decide +kernel
theorem dX8_tired_16 : decode cX8_tired 16 = .ok (.aload_n 0, 1) := by decide +kernel
theorem dX8_tired_17 : decode cX8_tired 17 = .ok (.getfield 25, 3) := by decide +kernel
theorem dX8_tired_20 : decode cX8_tired 20 = .ok (.idiv, 1) := by decide +kernel
theorem dX8_tired_21 : decode cX8_tired 21 = .ok (.ireturn, 1) := by decide +kernel
theorem dX8_learned_0 : decode cX8_learned 0 = .ok (.aload_n 0, 1) := by decide +kernel
theorem dX8_learned_1 : decode cX8_learned 1 = .ok (.getfield 28, 3) := by decide +kernel
theorem dX8_learned_4 : decode cX8_learned 4 = .ok (.iconst 1, 1) := by decide +kernel
theorem dX8_learned_5 : decode cX8_learned 5 = .ok (.if_icmp .ge 7, 3) := by decide +kernel
theorem dX8_learned_8 : decode cX8_learned 8 = .ok (.iconst 0, 1) := by decide +kernel
theorem dX8_learned_9 : decode cX8_learned 9 = .ok (.goto 16, 3) := by decide +kernel
theorem dX8_learned_12 : decode cX8_learned 12 = .ok (.iload_n 1, 1) := by decide +kernel
theorem dX8_learned_13 : decode cX8_learned 13 = .ok (.aload_n 0, 1) := by decide +kernel
theorem dX8_learned_14 : decode cX8_learned 14 = .ok (.getfield 38, 3) := by decide +kernel
theorem dX8_learned_17 : decode cX8_learned 17 = .ok (.aload_n 0, 1) := by decide +kernel
theorem dX8_learned_18 : decode cX8_learned 18 = .ok (.getfield 28, 3) := by decide +kernel
theorem dX8_learned_21 : decode cX8_learned 21 = .ok (.idiv, 1) := by decide +kernel
theorem dX8_learned_22 : decode cX8_learned 22 = .ok (.invokestatic 44, 3) := by decide +kernel
theorem dX8_learned_25 : decode cX8_learned 25 = .ok (.ireturn, 1) := by decide +kernel
theorem dX8_likes_0 : decode cX8_likes 0 = .ok (.iconst 0, 1) := by decide +kernel
theorem dX8_likes_1 : decode cX8_likes 1 = .ok (.istore_n 3, 1) := by decide +kernel
theorem dX8_likes_2 : decode cX8_likes 2 = .ok (.iload_n 3, 1) := by decide +kernel
theorem dX8_likes_3 : decode cX8_likes 3 = .ok (.aload_n 0, 1) := by decide +kernel
theorem dX8_likes_4 : decode cX8_likes 4 = .ok (.getfield 35, 3) := by decide +kernel
theorem dX8_likes_7 : decode cX8_likes 7 = .ok (.if_icmp .ge 29, 3) := by decide +kernel
theorem dX8_likes_10 : decode cX8_likes 10 = .ok (.iload_n 3, 1) := by decide +kernel
theorem dX8_likes_11 : decode cX8_likes 11 = .ok (.bipush 6, 2) := by decide +kernel
theorem dX8_likes_13 : decode cX8_likes 13 = .ok (.if_icmp .ge 23, 3) := by decide +kernel
theorem dX8_likes_16 : decode cX8_likes 16 = .ok (.aload_n 0, 1) := by decide +kernel
theorem dX8_likes_17 : decode cX8_likes 17 = .ok (.getfield 9, 3) := by decide +kernel
theorem dX8_likes_20 : decode cX8_likes 20 = .ok (.iload_n 3, 1) := by decide +kernel
theorem dX8_likes_21 : decode cX8_likes 21 = .ok (.iaload, 1) := by decide +kernel
theorem dX8_likes_22 : decode cX8_likes 22 = .ok (.i2l, 1) := by decide +kernel
theorem dX8_likes_23 : decode cX8_likes 23 = .ok (.lload_n 1, 1) := by decide +kernel
theorem dX8_likes_24 : decode cX8_likes 24 = .ok (.lcmp, 1) := by decide +kernel
theorem dX8_likes_25 : decode cX8_likes 25 = .ok (.ifCond .ne 5, 3) := by decide +kernel
theorem dX8_likes_28 : decode cX8_likes 28 = .ok (.iconst 1, 1) := by decide +kernel
theorem dX8_likes_29 : decode cX8_likes 29 = .ok (.ireturn, 1) := by decide +kernel
theorem dX8_likes_30 : decode cX8_likes 30 = .ok (.iinc 3 1, 3) := by decide +kernel
theorem dX8_likes_33 : decode cX8_likes 33 = .ok (.goto (-31), 3) := by decide +kernel
theorem dX8_likes_36 : decode cX8_likes 36 = .ok (.iconst 0, 1) := by decide +kernel
theorem dX8_likes_37 : decode cX8_likes 37 = .ok (.ireturn, 1) := by decide +kernel
theorem dX8_addLiked_0 : decode cX8_addLiked 0 = .ok (.aload_n 0, 1) := by decide +kernel
theorem dX8_addLiked_1 : decode cX8_addLiked 1 = .ok (.getfield 35, 3) := by decide +kernel
theorem dX8_addLiked_4 : decode cX8_addLiked 4 = .ok (.bipush 6, 2) := by decide +kernel
theorem dX8_addLiked_6 : decode cX8_addLiked 6 = .ok (.if_icmp .ge 23, 3) := by decide +kernel
theorem dX8_addLiked_9 : decode cX8_addLiked 9 = .ok (.aload_n 0, 1) := by decide +kernel
theorem dX8_addLiked_10 : decode cX8_addLiked 10 = .ok (.getfield 9, 3) := by decide +kernel
theorem dX8_addLiked_13 : decode cX8_addLiked 13 = .ok (.aload_n 0, 1) := by decide +kernel
theorem dX8_addLiked_14 : decode cX8_addLiked 14 = .ok (.getfield 35, 3) := by decide +kernel
theorem dX8_addLiked_17 : decode cX8_addLiked 17 = .ok (.iload_n 1, 1) := by decide +kernel
theorem dX8_addLiked_18 : decode cX8_addLiked 18 = .ok (.iastore, 1) := by decide +kernel
theorem dX8_addLiked_19 : decode cX8_addLiked 19 = .ok (.aload_n 0, 1) := by decide +kernel
theorem dX8_addLiked_20 : decode cX8_addLiked 20 = .ok (.dup, 1) := by decide +kernel
theorem dX8_addLiked_21 : decode cX8_addLiked 21 = .ok (.getfield 35, 3) := by decide +kernel
theorem dX8_addLiked_24 : decode cX8_addLiked 24 = .ok (.iconst 1, 1) := by decide +kernel
theorem dX8_addLiked_25 : decode cX8_addLiked 25 = .ok (.iadd, 1) := by decide +kernel
theorem dX8_addLiked_26 : decode cX8_addLiked 26 = .ok (.putfield 35, 3) := by decide +kernel
theorem dX8_addLiked_29 : decode cX8_addLiked 29 = .ok (.return_, 1) := by decide +kernel
theorem dX8_inLikedNumbers_0 : decode cX8_inLikedNumbers 0 = .ok (.aload_n 0, 1) := by decide +kernel
theorem dX8_inLikedNumbers_1 : decode cX8_inLikedNumbers 1 = .ok (.getfield 35, 3) := by decide +kernel
theorem dX8_inLikedNumbers_4 : decode cX8_inLikedNumbers 4 = .ok (.iconst 1, 1) := by decide +kernel
theorem dX8_inLikedNumbers_5 : decode cX8_inLikedNumbers 5 = .ok (.if_icmp .ge 7, 3) := by decide +kernel
theorem dX8_inLikedNumbers_8 : decode cX8_inLikedNumbers 8 = .ok (.iload_n 1, 1) := by decide +kernel
theorem dX8_inLikedNumbers_9 : decode cX8_inLikedNumbers 9 = .ok (.goto 9, 3) := by decide +kernel
theorem dX8_inLikedNumbers_12 : decode cX8_inLikedNumbers 12 = .ok (.aload_n 0, 1) := by decide +kernel
theorem dX8_inLikedNumbers_13 : decode cX8_inLikedNumbers 13 = .ok (.getfield 9, 3) := by decide +kernel
theorem dX8_inLikedNumbers_16 : decode cX8_inLikedNumbers 16 = .ok (.iconst 0, 1) := by decide +kernel
theorem dX8_inLikedNumbers_17 : decode cX8_inLikedNumbers 17 = .ok (.iaload, 1) := by decide +kernel
theorem dX8_inLikedNumbers_18 : decode cX8_inLikedNumbers 18 = .ok (.istore_n 2, 1) := by decide +kernel
theorem dX8_inLikedNumbers_19 : decode cX8_inLikedNumbers 19 = .ok (.iconst 1, 1) := by decide +kernel
theorem dX8_inLikedNumbers_20 : decode cX8_inLikedNumbers 20 = .ok (.istore_n 3, 1) := by decide +kernel
theorem dX8_inLikedNumbers_21 : decode cX8_inLikedNumbers 21 = .ok (.iload_n 3, 1) := by decide +kernel
theorem dX8_inLikedNumbers_22 : decode cX8_inLikedNumbers 22 = .ok (.aload_n 0, 1) := by decide +kernel
theorem dX8_inLikedNumbers_23 : decode cX8_inLikedNumbers 23 = .ok (.getfield 35, 3) := by decide +kernel
theorem dX8_inLikedNumbers_26 : decode cX8_inLikedNumbers 26 = .ok (.if_icmp .ge 67, 3) := by decide +kernel
theorem dX8_inLikedNumbers_29 : decode cX8_inLikedNumbers 29 = .ok (.iload_n 3, 1) := by decide +kernel
theorem dX8_inLikedNumbers_30 : decode cX8_inLikedNumbers 30 = .ok (.bipush 6, 2) := by decide +kernel
theorem dX8_inLikedNumbers_32 : decode cX8_inLikedNumbers 32 = .ok (.if_icmp .ge 61, 3) := by decide +kernel
theorem dX8_inLikedNumbers_35 : decode cX8_inLikedNumbers 35 = .ok (.aload_n 0, 1) := by decide +kernel
theorem dX8_inLikedNumbers_36 : decode cX8_inLikedNumbers 36 = .ok (.getfield 9, 3) := by decide +kernel
theorem dX8_inLikedNumbers_39 : decode cX8_inLikedNumbers 39 = .ok (.iload_n 3, 1) := by decide +kernel
theorem dX8_inLikedNumbers_40 : decode cX8_inLikedNumbers 40 = .ok (.iaload, 1) := by decide +kernel
theorem dX8_inLikedNumbers_41 : decode cX8_inLikedNumbers 41 = .ok (.iload_n 1, 1) := by decide +kernel
theorem dX8_inLikedNumbers_42 : decode cX8_inLikedNumbers 42 = .ok (.isub, 1) := by decide +kernel
theorem dX8_inLikedNumbers_43 : decode cX8_inLikedNumbers 43 = .ok (.invokestatic 50, 3) := by decide +kernel
theorem dX8_inLikedNumbers_46 : decode cX8_inLikedNumbers 46 = .ok (.istore 4, 2) := by decide +kernel
theorem dX8_inLikedNumbers_48 : decode cX8_inLikedNumbers 48 = .ok (.iload_n 2, 1) := by decide +kernel
theorem dX8_inLikedNumbers_49 : decode cX8_inLikedNumbers 49 = .ok (.iload_n 1, 1) := by decide +kernel
theorem dX8_inLikedNumbers_50 : decode cX8_inLikedNumbers 50 = .ok (.isub, 1) := by decide +kernel
theorem dX8_inLikedNumbers_51 : decode cX8_inLikedNumbers 51 = .ok (.invokestatic 50, 3) := by decide +kernel
theorem dX8_inLikedNumbers_54 : decode cX8_inLikedNumbers 54 = .ok (.istore 5, 2) := by decide +kernel
theorem dX8_inLikedNumbers_56 : decode cX8_inLikedNumbers 56 = .ok (.iload 4, 2) := by decide +kernel
theorem dX8_inLikedNumbers_58 : decode cX8_inLikedNumbers 58 = .ok (.iload 5, 2) := by decide +kernel
theorem dX8_inLikedNumbers_60 : decode cX8_inLikedNumbers 60 = .ok (.if_icmp .lt 20, 3) := by decide +kernel
theorem dX8_inLikedNumbers_63 : decode cX8_inLikedNumbers 63 = .ok (.iload 4, 2) := by decide +kernel
theorem dX8_inLikedNumbers_65 : decode cX8_inLikedNumbers 65 = .ok (.iload 5, 2) := by decide +kernel
theorem dX8_inLikedNumbers_67 : decode cX8_inLikedNumbers 67 = .ok (.if_icmp .ne 20, 3) := by decide +kernel
theorem dX8_inLikedNumbers_70 : decode cX8_inLikedNumbers 70 = .ok (.aload_n 0, 1) := by decide +kernel
theorem dX8_inLikedNumbers_71 : decode cX8_inLikedNumbers 71 = .ok (.getfield 9, 3) := by decide +kernel
theorem dX8_inLikedNumbers_74 : decode cX8_inLikedNumbers 74 = .ok (.iload_n 3, 1) := by decide +kernel
theorem dX8_inLikedNumbers_75 : decode cX8_inLikedNumbers 75 = .ok (.iaload, 1) := by decide +kernel
theorem dX8_inLikedNumbers_76 : decode cX8_inLikedNumbers 76 = .ok (.iload_n 2, 1) := by decide +kernel
theorem dX8_inLikedNumbers_77 : decode cX8_inLikedNumbers 77 = .ok (.if_icmp .ge 10, 3) := by decide +kernel
theorem dX8_inLikedNumbers_80 : decode cX8_inLikedNumbers 80 = .ok (.aload_n 0, 1) := by decide +kernel
theorem dX8_inLikedNumbers_81 : decode cX8_inLikedNumbers 81 = .ok (.getfield 9, 3) := by decide +kernel
theorem dX8_inLikedNumbers_84 : decode cX8_inLikedNumbers 84 = .ok (.iload_n 3, 1) := by decide +kernel
theorem dX8_inLikedNumbers_85 : decode cX8_inLikedNumbers 85 = .ok (.iaload, 1) := by decide +kernel
theorem dX8_inLikedNumbers_86 : decode cX8_inLikedNumbers 86 = .ok (.istore_n 2, 1) := by decide +kernel
theorem dX8_inLikedNumbers_87 : decode cX8_inLikedNumbers 87 = .ok (.iinc 3 1, 3) := by decide +kernel
theorem dX8_inLikedNumbers_90 : decode cX8_inLikedNumbers 90 = .ok (.goto (-69), 3) := by decide +kernel
theorem dX8_inLikedNumbers_93 : decode cX8_inLikedNumbers 93 = .ok (.iload_n 2, 1) := by decide +kernel
theorem dX8_inLikedNumbers_94 : decode cX8_inLikedNumbers 94 = .ok (.ireturn, 1) := by decide +kernel
theorem dX9_init_0 : decode cX9_init 0 = .ok (.aload_n 0, 1) := by decide +kernel
theorem dX9_init_1 : decode cX9_init 1 = .ok (.invokespecial 3, 3) := by decide +kernel
theorem dX9_init_4 : decode cX9_init 4 = .ok (.aload_n 0, 1) := by decide +kernel
theorem dX9_init_5 : decode cX9_init 5 = .ok (.iconst 4, 1) := by decide +kernel
theorem dX9_init_6 : decode cX9_init 6 = .ok (.newarray .int, 2) := by decide +kernel
theorem dX9_init_8 : decode cX9_init 8 = .ok (.putfield 9, 3) := by decide +kernel
theorem dX9_init_11 : decode cX9_init 11 = .ok (.aload_n 0, 1) := by decide +kernel
theorem dX9_init_12 : decode cX9_init 12 = .ok (.iconst 4, 1) := by decide +kernel
theorem dX9_init_13 : decode cX9_init 13 = .ok (.newarray .int, 2) := by decide +kernel
theorem dX9_init_15 : decode cX9_init 15 = .ok (.putfield 15, 3) := by decide +kernel
theorem dX9_init_18 : decode cX9_init 18 = .ok (.aload_n 0, 1) := by decide +kernel
theorem dX9_init_19 : decode cX9_init 19 = .ok (.iconst 4, 1) := by decide +kernel
theorem dX9_init_20 : decode cX9_init 20 = .ok (.newarray .int, 2) := by decide +kernel
theorem dX9_init_22 : decode cX9_init 22 = .ok (.putfield 18, 3) := by decide +kernel
theorem dX9_init_25 : decode cX9_init 25 = .ok (.aload_n 0, 1) := by decide +kernel
theorem dX9_init_26 : decode cX9_init 26 = .ok (.bipush 6, 2) := by decide +kernel
theorem dX9_init_28 : decode cX9_init 28 = .ok (.newarray .int, 2) := by decide +kernel
theorem dX9_init_30 : decode cX9_init 30 = .ok (.putfield 21, 3) := by decide +kernel
theorem dX9_init_33 : decode cX9_init 33 = .ok (.aload_n 0, 1) := by decide +kernel
theorem dX9_init_34 : decode cX9_init 34 = .ok (.sipush 401, 3) := by decide +kernel
theorem dX9_init_37 : decode cX9_init 37 = .ok (.newarray .int, 2) := by decide +kernel
theorem dX9_init_39 : decode cX9_init 39 = .ok (.putfield 24, 3) := by decide +kernel
theorem dX9_init_42 : decode cX9_init 42 = .ok (.aload_n 0, 1) := by decide +kernel
theorem dX9_init_43 : decode cX9_init 43 = .ok (.bipush 6, 2) := by decide +kernel
theorem dX9_init_45 : decode cX9_init 45 = .ok (.anewarray 27, 3) := by decide +kernel
theorem dX9_init_48 : decode cX9_init 48 = .ok (.putfield 29, 3) := by decide +kernel
theorem dX9_init_51 : decode cX9_init 51 = .ok (.iconst 0, 1) := by decide +kernel
theorem dX9_init_52 : decode cX9_init 52 = .ok (.istore_n 1, 1) := by decide +kernel
theorem dX9_init_53 : decode cX9_init 53 = .ok (.iload_n 1, 1) := by decide +kernel
theorem dX9_init_54 : decode cX9_init 54 = .ok (.aload_n 0, 1) := by decide +kernel
theorem dX9_init_55 : decode cX9_init 55 = .ok (.getfield 29, 3) := by decide +kernel
theorem dX9_init_58 : decode cX9_init 58 = .ok (.arraylength, 1) := by decide +kernel
theorem dX9_init_59 : decode cX9_init 59 = .ok (.if_icmp .ge 22, 3) := by decide +kernel
theorem dX9_init_62 : decode cX9_init 62 = .ok (.aload_n 0, 1) := by decide +kernel
theorem dX9_init_63 : decode cX9_init 63 = .ok (.getfield 29, 3) := by decide +kernel
theorem dX9_init_66 : decode cX9_init 66 = .ok (.iload_n 1, 1) := by decide +kernel
theorem dX9_init_67 : decode cX9_init 67 = .ok (.new 27, 3) := by decide +kernel
theorem dX9_init_70 : decode cX9_init 70 = .ok (.dup, 1) := by decide +kernel
theorem dX9_init_71 : decode cX9_init 71 = .ok (.invokespecial 33, 3) := by decide +kernel
theorem dX9_init_74 : decode cX9_init 74 = .ok (.aastore, 1) := by decide +kernel
theorem dX9_init_75 : decode cX9_init 75 = .ok (.iinc 1 1, 3) := by decide +kernel
theorem dX9_init_78 : decode cX9_init 78 = .ok (.goto (-25), 3) := by decide +kernel
theorem dX9_init_81 : decode cX9_init 81 = .ok (.return_, 1) := by decide +kernel
theorem dX9_empty_0 : decode cX9_empty 0 = .ok (.aload_n 0, 1) := by decide +kernel
theorem dX9_empty_1 : decode cX9_empty 1 = .ok (.iconst 0, 1) := by decide +kernel
theorem dX9_empty_2 : decode cX9_empty 2 = .ok (.putfield 34, 3) := by decide +kernel
theorem dX9_empty_5 : decode cX9_empty 5 = .ok (.aload_n 0, 1) := by decide +kernel
theorem dX9_empty_6 : decode cX9_empty 6 = .ok (.iconst 0, 1) := by decide +kernel
theorem dX9_empty_7 : decode cX9_empty 7 = .ok (.putfield 38, 3) := by decide +kernel
theorem dX9_empty_10 : decode cX9_empty 10 = .ok (.return_, 1) := by decide +kernel
theorem dX9_addStep_0 : decode cX9_addStep 0 = .ok (.aload_n 0, 1) := by decide +kernel
theorem dX9_addStep_1 : decode cX9_addStep 1 = .ok (.getfield 34, 3) := by decide +kernel
theorem dX9_addStep_4 : decode cX9_addStep 4 = .ok (.iconst 4, 1) := by decide +kernel
theorem dX9_addStep_5 : decode cX9_addStep 5 = .ok (.if_icmp .ge 43, 3) := by decide +kernel
theorem dX9_addStep_8 : decode cX9_addStep 8 = .ok (.aload_n 0, 1) := by decide +kernel
theorem dX9_addStep_9 : decode cX9_addStep 9 = .ok (.getfield 9, 3) := by decide +kernel
theorem dX9_addStep_12 : decode cX9_addStep 12 = .ok (.aload_n 0, 1) := by decide +kernel
theorem dX9_addStep_13 : decode cX9_addStep 13 = .ok (.getfield 34, 3) := by decide +kernel
theorem dX9_addStep_16 : decode cX9_addStep 16 = .ok (.iload_n 1, 1) := by decide +kernel
theorem dX9_addStep_17 : decode cX9_addStep 17 = .ok (.iastore, 1) := by decide +kernel
theorem dX9_addStep_18 : decode cX9_addStep 18 = .ok (.aload_n 0, 1) := by decide +kernel
theorem dX9_addStep_19 : decode cX9_addStep 19 = .ok (.getfield 15, 3) := by decide +kernel
theorem dX9_addStep_22 : decode cX9_addStep 22 = .ok (.aload_n 0, 1) := by decide +kernel
theorem dX9_addStep_23 : decode cX9_addStep 23 = .ok (.getfield 34, 3) := by decide +kernel
theorem dX9_addStep_26 : decode cX9_addStep 26 = .ok (.iload_n 2, 1) := by decide +kernel
theorem dX9_addStep_27 : decode cX9_addStep 27 = .ok (.iastore, 1) := by decide +kernel
theorem dX9_addStep_28 : decode cX9_addStep 28 = .ok (.aload_n 0, 1) := by decide +kernel
theorem dX9_addStep_29 : decode cX9_addStep 29 = .ok (.getfield 18, 3) := by decide +kernel
theorem dX9_addStep_32 : decode cX9_addStep 32 = .ok (.aload_n 0, 1) := by decide +kernel
theorem dX9_addStep_33 : decode cX9_addStep 33 = .ok (.getfield 34, 3) := by decide +kernel
theorem dX9_addStep_36 : decode cX9_addStep 36 = .ok (.iload_n 3, 1) := by decide +kernel
theorem dX9_addStep_37 : decode cX9_addStep 37 = .ok (.iastore, 1) := by decide +kernel
theorem dX9_addStep_38 : decode cX9_addStep 38 = .ok (.aload_n 0, 1) := by decide +kernel
theorem dX9_addStep_39 : decode cX9_addStep 39 = .ok (.dup, 1) := by decide +kernel
theorem dX9_addStep_40 : decode cX9_addStep 40 = .ok (.getfield 34, 3) := by decide +kernel
theorem dX9_addStep_43 : decode cX9_addStep 43 = .ok (.iconst 1, 1) := by decide +kernel
theorem dX9_addStep_44 : decode cX9_addStep 44 = .ok (.iadd, 1) := by decide +kernel
theorem dX9_addStep_45 : decode cX9_addStep 45 = .ok (.putfield 34, 3) := by decide +kernel
theorem dX9_addStep_48 : decode cX9_addStep 48 = .ok (.return_, 1) := by decide +kernel
theorem dX9_addWhole_0 : decode cX9_addWhole 0 = .ok (.aload_n 0, 1) := by decide +kernel
theorem dX9_addWhole_1 : decode cX9_addWhole 1 = .ok (.getfield 38, 3) := by decide +kernel
theorem dX9_addWhole_4 : decode cX9_addWhole 4 = .ok (.bipush 6, 2) := by decide +kernel
theorem dX9_addWhole_6 : decode cX9_addWhole 6 = .ok (.if_icmp .ge 23, 3) := by decide +kernel
theorem dX9_addWhole_9 : decode cX9_addWhole 9 = .ok (.aload_n 0, 1) := by decide +kernel
theorem dX9_addWhole_10 : decode cX9_addWhole 10 = .ok (.getfield 21, 3) := by decide +kernel
theorem dX9_addWhole_13 : decode cX9_addWhole 13 = .ok (.aload_n 0, 1) := by decide +kernel
theorem dX9_addWhole_14 : decode cX9_addWhole 14 = .ok (.getfield 38, 3) := by decide +kernel
theorem dX9_addWhole_17 : decode cX9_addWhole 17 = .ok (.iload_n 1, 1) := by decide +kernel
theorem dX9_addWhole_18 : decode cX9_addWhole 18 = .ok (.iastore, 1) := by decide +kernel
theorem dX9_addWhole_19 : decode cX9_addWhole 19 = .ok (.aload_n 0, 1) := by decide +kernel
theorem dX9_addWhole_20 : decode cX9_addWhole 20 = .ok (.dup, 1) := by decide +kernel
theorem dX9_addWhole_21 : decode cX9_addWhole 21 = .ok (.getfield 38, 3) := by decide +kernel
theorem dX9_addWhole_24 : decode cX9_addWhole 24 = .ok (.iconst 1, 1) := by decide +kernel
theorem dX9_addWhole_25 : decode cX9_addWhole 25 = .ok (.iadd, 1) := by decide +kernel
theorem dX9_addWhole_26 : decode cX9_addWhole 26 = .ok (.putfield 38, 3) := by decide +kernel
theorem dX9_addWhole_29 : decode cX9_addWhole 29 = .ok (.return_, 1) := by decide +kernel
theorem dX9_settle_0 : decode cX9_settle 0 = .ok (.iconst 0, 1) := by decide +kernel
theorem dX9_settle_1 : decode cX9_settle 1 = .ok (.istore_n 1, 1) := by decide +kernel
theorem dX9_settle_2 : decode cX9_settle 2 = .ok (.iload_n 1, 1) := by decide +kernel
theorem dX9_settle_3 : decode cX9_settle 3 = .ok (.sipush 400, 3) := by decide +kernel
theorem dX9_settle_6 : decode cX9_settle 6 = .ok (.if_icmp .gt 16, 3) := by decide +kernel
theorem dX9_settle_9 : decode cX9_settle 9 = .ok (.aload_n 0, 1) := by decide +kernel
theorem dX9_settle_10 : decode cX9_settle 10 = .ok (.getfield 24, 3) := by decide +kernel
theorem dX9_settle_13 : decode cX9_settle 13 = .ok (.iload_n 1, 1) := by decide +kernel
theorem dX9_settle_14 : decode cX9_settle 14 = .ok (.iload_n 1, 1) := by decide +kernel
theorem dX9_settle_15 : decode cX9_settle 15 = .ok (.iastore, 1) := by decide +kernel
theorem dX9_settle_16 : decode cX9_settle 16 = .ok (.iinc 1 1, 3) := by decide +kernel
theorem dX9_settle_19 : decode cX9_settle 19 = .ok (.goto (-17), 3) := by decide +kernel
theorem dX9_settle_22 : decode cX9_settle 22 = .ok (.iconst 0, 1) := by decide +kernel
theorem dX9_settle_23 : decode cX9_settle 23 = .ok (.istore_n 1, 1) := by decide +kernel
theorem dX9_settle_24 : decode cX9_settle 24 = .ok (.iload_n 1, 1) := by decide +kernel
theorem dX9_settle_25 : decode cX9_settle 25 = .ok (.aload_n 0, 1) := by decide +kernel
theorem dX9_settle_26 : decode cX9_settle 26 = .ok (.getfield 34, 3) := by decide +kernel
theorem dX9_settle_29 : decode cX9_settle 29 = .ok (.if_icmp .ge 36, 3) := by decide +kernel
theorem dX9_settle_32 : decode cX9_settle 32 = .ok (.iload_n 1, 1) := by decide +kernel
theorem dX9_settle_33 : decode cX9_settle 33 = .ok (.iconst 4, 1) := by decide +kernel
theorem dX9_settle_34 : decode cX9_settle 34 = .ok (.if_icmp .ge 31, 3) := by decide +kernel
theorem dX9_settle_37 : decode cX9_settle 37 = .ok (.aload_n 0, 1) := by decide +kernel
theorem dX9_settle_38 : decode cX9_settle 38 = .ok (.aload_n 0, 1) := by decide +kernel
theorem dX9_settle_39 : decode cX9_settle 39 = .ok (.getfield 9, 3) := by decide +kernel
theorem dX9_settle_42 : decode cX9_settle 42 = .ok (.iload_n 1, 1) := by decide +kernel
theorem dX9_settle_43 : decode cX9_settle 43 = .ok (.iaload, 1) := by decide +kernel
theorem dX9_settle_44 : decode cX9_settle 44 = .ok (.aload_n 0, 1) := by decide +kernel
theorem dX9_settle_45 : decode cX9_settle 45 = .ok (.getfield 15, 3) := by decide +kernel
theorem dX9_settle_48 : decode cX9_settle 48 = .ok (.iload_n 1, 1) := by decide +kernel
theorem dX9_settle_49 : decode cX9_settle 49 = .ok (.iaload, 1) := by decide +kernel
theorem dX9_settle_50 : decode cX9_settle 50 = .ok (.aload_n 0, 1) := by decide +kernel
theorem dX9_settle_51 : decode cX9_settle 51 = .ok (.getfield 18, 3) := by decide +kernel
theorem dX9_settle_54 : decode cX9_settle 54 = .ok (.iload_n 1, 1) := by decide +kernel
theorem dX9_settle_55 : decode cX9_settle 55 = .ok (.iaload, 1) := by decide +kernel
theorem dX9_settle_56 : decode cX9_settle 56 = .ok (.invokevirtual 41, 3) := by decide +kernel
theorem dX9_settle_59 : decode cX9_settle 59 = .ok (.iinc 1 1, 3) := by decide +kernel
theorem dX9_settle_62 : decode cX9_settle 62 = .ok (.goto (-38), 3) := by decide +kernel
theorem dX9_settle_65 : decode cX9_settle 65 = .ok (.iconst 0, 1) := by decide +kernel
theorem dX9_settle_66 : decode cX9_settle 66 = .ok (.istore_n 1, 1) := by decide +kernel
theorem dX9_settle_67 : decode cX9_settle 67 = .ok (.iload_n 1, 1) := by decide +kernel
theorem dX9_settle_68 : decode cX9_settle 68 = .ok (.aload_n 0, 1) := by decide +kernel
theorem dX9_settle_69 : decode cX9_settle 69 = .ok (.getfield 38, 3) := by decide +kernel
theorem dX9_settle_72 : decode cX9_settle 72 = .ok (.if_icmp .ge 31, 3) := by decide +kernel
theorem dX9_settle_75 : decode cX9_settle 75 = .ok (.iload_n 1, 1) := by decide +kernel
theorem dX9_settle_76 : decode cX9_settle 76 = .ok (.bipush 6, 2) := by decide +kernel
theorem dX9_settle_78 : decode cX9_settle 78 = .ok (.if_icmp .ge 25, 3) := by decide +kernel
theorem dX9_settle_81 : decode cX9_settle 81 = .ok (.aload_n 0, 1) := by decide +kernel
theorem dX9_settle_82 : decode cX9_settle 82 = .ok (.getfield 29, 3) := by decide +kernel
theorem dX9_settle_85 : decode cX9_settle 85 = .ok (.iload_n 1, 1) := by decide +kernel
theorem dX9_settle_86 : decode cX9_settle 86 = .ok (.aaload, 1) := by decide +kernel
theorem dX9_settle_87 : decode cX9_settle 87 = .ok (.aload_n 0, 1) := by decide +kernel
theorem dX9_settle_88 : decode cX9_settle 88 = .ok (.getfield 21, 3) := by decide +kernel
theorem dX9_settle_91 : decode cX9_settle 91 = .ok (.iload_n 1, 1) := by decide +kernel
theorem dX9_settle_92 : decode cX9_settle 92 = .ok (.iconst 1, 1) := by decide +kernel
theorem dX9_settle_93 : decode cX9_settle 93 = .ok (.iadd, 1) := by decide +kernel
theorem dX9_settle_94 : decode cX9_settle 94 = .ok (.invokevirtual 45, 3) := by decide +kernel
theorem dX9_settle_97 : decode cX9_settle 97 = .ok (.iinc 1 1, 3) := by decide +kernel
theorem dX9_settle_100 : decode cX9_settle 100 = .ok (.goto (-33), 3) := by decide +kernel
theorem dX9_settle_103 : decode cX9_settle 103 = .ok (.return_, 1) := by decide +kernel
theorem dX9_take_0 : decode cX9_take 0 = .ok (.iload_n 1, 1) := by decide +kernel
theorem dX9_take_1 : decode cX9_take 1 = .ok (.ifCond .ne 9, 3) := by decide +kernel
theorem dX9_take_4 : decode cX9_take 4 = .ok (.aload_n 0, 1) := by decide +kernel
theorem dX9_take_5 : decode cX9_take 5 = .ok (.iload_n 2, 1) := by decide +kernel
theorem dX9_take_6 : decode cX9_take 6 = .ok (.invokevirtual 49, 3) := by decide +kernel
theorem dX9_take_9 : decode cX9_take 9 = .ok (.return_, 1) := by decide +kernel
theorem dX9_take_10 : decode cX9_take 10 = .ok (.iconst 0, 1) := by decide +kernel
theorem dX9_take_11 : decode cX9_take 11 = .ok (.istore 4, 2) := by decide +kernel
theorem dX9_take_13 : decode cX9_take 13 = .ok (.iload 4, 2) := by decide +kernel
theorem dX9_take_15 : decode cX9_take 15 = .ok (.sipush 400, 3) := by decide +kernel
theorem dX9_take_18 : decode cX9_take 18 = .ok (.if_icmp .gt 76, 3) := by decide +kernel
theorem dX9_take_21 : decode cX9_take 21 = .ok (.aload_n 0, 1) := by decide +kernel
theorem dX9_take_22 : decode cX9_take 22 = .ok (.getfield 24, 3) := by decide +kernel
theorem dX9_take_25 : decode cX9_take 25 = .ok (.iload 4, 2) := by decide +kernel
theorem dX9_take_27 : decode cX9_take 27 = .ok (.iaload, 1) := by decide +kernel
theorem dX9_take_28 : decode cX9_take 28 = .ok (.istore 5, 2) := by decide +kernel
theorem dX9_take_30 : decode cX9_take 30 = .ok (.aload_n 0, 1) := by decide +kernel
theorem dX9_take_31 : decode cX9_take 31 = .ok (.getfield 24, 3) := by decide +kernel
theorem dX9_take_34 : decode cX9_take 34 = .ok (.iload 4, 2) := by decide +kernel
theorem dX9_take_36 : decode cX9_take 36 = .ok (.iload_n 1, 1) := by decide +kernel
theorem dX9_take_37 : decode cX9_take 37 = .ok (.iconst 1, 1) := by decide +kernel
theorem dX9_take_38 : decode cX9_take 38 = .ok (.if_icmp .ne 17, 3) := by decide +kernel
theorem dX9_take_41 : decode cX9_take 41 = .ok (.iload 5, 2) := by decide +kernel
theorem dX9_take_43 : decode cX9_take 43 = .ok (.i2l, 1) := by decide +kernel
theorem dX9_take_44 : decode cX9_take 44 = .ok (.iload_n 2, 1) := by decide +kernel
theorem dX9_take_45 : decode cX9_take 45 = .ok (.invokestatic 53, 3) := by decide +kernel
theorem dX9_take_48 : decode cX9_take 48 = .ok (.iload_n 3, 1) := by decide +kernel
theorem dX9_take_49 : decode cX9_take 49 = .ok (.invokestatic 57, 3) := by decide +kernel
theorem dX9_take_52 : decode cX9_take 52 = .ok (.goto 35, 3) := by decide +kernel
theorem dX9_take_55 : decode cX9_take 55 = .ok (.iload_n 1, 1) := by decide +kernel
theorem dX9_take_56 : decode cX9_take 56 = .ok (.iconst 2, 1) := by decide +kernel
theorem dX9_take_57 : decode cX9_take 57 = .ok (.if_icmp .ne 22, 3) := by decide +kernel
theorem dX9_take_60 : decode cX9_take 60 = .ok (.sipush 9999, 3) := by decide +kernel
theorem dX9_take_63 : decode cX9_take 63 = .ok (.iload_n 2, 1) := by decide +kernel
theorem dX9_take_64 : decode cX9_take 64 = .ok (.iload 5, 2) := by decide +kernel
theorem dX9_take_66 : decode cX9_take 66 = .ok (.imul, 1) := by decide +kernel
theorem dX9_take_67 : decode cX9_take 67 = .ok (.iconst 1, 1) := by decide +kernel
theorem dX9_take_68 : decode cX9_take 68 = .ok (.iload_n 3, 1) := by decide +kernel
theorem dX9_take_69 : decode cX9_take 69 = .ok (.invokestatic 61, 3) := by decide +kernel
theorem dX9_take_72 : decode cX9_take 72 = .ok (.idiv, 1) := by decide +kernel
theorem dX9_take_73 : decode cX9_take 73 = .ok (.invokestatic 67, 3) := by decide +kernel
theorem dX9_take_76 : decode cX9_take 76 = .ok (.goto 11, 3) := by decide +kernel
theorem dX9_take_79 : decode cX9_take 79 = .ok (.iconst 0, 1) := by decide +kernel
theorem dX9_take_80 : decode cX9_take 80 = .ok (.iload 5, 2) := by decide +kernel
theorem dX9_take_82 : decode cX9_take 82 = .ok (.iload_n 2, 1) := by decide +kernel
theorem dX9_take_83 : decode cX9_take 83 = .ok (.isub, 1) := by decide +kernel
theorem dX9_take_84 : decode cX9_take 84 = .ok (.invokestatic 61, 3) := by decide +kernel
theorem dX9_take_87 : decode cX9_take 87 = .ok (.iastore, 1) := by decide +kernel
theorem dX9_take_88 : decode cX9_take 88 = .ok (.iinc 4 1, 3) := by decide +kernel
theorem dX9_take_91 : decode cX9_take 91 = .ok (.goto (-78), 3) := by decide +kernel
theorem dX9_take_94 : decode cX9_take 94 = .ok (.return_, 1) := by decide +kernel
theorem dX9_passMarks_0 : decode cX9_passMarks 0 = .ok (.iconst 1, 1) := by decide +kernel
theorem dX9_passMarks_1 : decode cX9_passMarks 1 = .ok (.istore_n 2, 1) := by decide +kernel
theorem dX9_passMarks_2 : decode cX9_passMarks 2 = .ok (.iconst 0, 1) := by decide +kernel
theorem dX9_passMarks_3 : decode cX9_passMarks 3 = .ok (.istore_n 3, 1) := by decide +kernel
theorem dX9_passMarks_4 : decode cX9_passMarks 4 = .ok (.iconst 0, 1) := by decide +kernel
theorem dX9_passMarks_5 : decode cX9_passMarks 5 = .ok (.istore 4, 2) := by decide +kernel
theorem dX9_passMarks_7 : decode cX9_passMarks 7 = .ok (.iload 4, 2) := by decide +kernel
theorem dX9_passMarks_9 : decode cX9_passMarks 9 = .ok (.sipush 400, 3) := by decide +kernel
theorem dX9_passMarks_12 : decode cX9_passMarks 12 = .ok (.if_icmp .gt 62, 3) := by decide +kernel
theorem dX9_passMarks_15 : decode cX9_passMarks 15 = .ok (.iconst 0, 1) := by decide +kernel
theorem dX9_passMarks_16 : decode cX9_passMarks 16 = .ok (.istore 5, 2) := by decide +kernel
theorem dX9_passMarks_18 : decode cX9_passMarks 18 = .ok (.iload 5, 2) := by decide +kernel
theorem dX9_passMarks_20 : decode cX9_passMarks 20 = .ok (.sipush 9999, 3) := by decide +kernel
theorem dX9_passMarks_23 : decode cX9_passMarks 23 = .ok (.if_icmp .gt 37, 3) := by decide +kernel
theorem dX9_passMarks_26 : decode cX9_passMarks 26 = .ok (.iload_n 2, 1) := by decide +kernel
theorem dX9_passMarks_27 : decode cX9_passMarks 27 = .ok (.aload_n 0, 1) := by decide +kernel
theorem dX9_passMarks_28 : decode cX9_passMarks 28 = .ok (.getfield 24, 3) := by decide +kernel
theorem dX9_passMarks_31 : decode cX9_passMarks 31 = .ok (.iload 4, 2) := by decide +kernel
theorem dX9_passMarks_33 : decode cX9_passMarks 33 = .ok (.iaload, 1) := by decide +kernel
theorem dX9_passMarks_34 : decode cX9_passMarks 34 = .ok (.if_icmp .gt 26, 3) := by decide +kernel
theorem dX9_passMarks_37 : decode cX9_passMarks 37 = .ok (.iload_n 2, 1) := by decide +kernel
theorem dX9_passMarks_38 : decode cX9_passMarks 38 = .ok (.iconst 1, 1) := by decide +kernel
theorem dX9_passMarks_39 : decode cX9_passMarks 39 = .ok (.iload_n 2, 1) := by decide +kernel
theorem dX9_passMarks_40 : decode cX9_passMarks 40 = .ok (.iconst 1, 1) := by decide +kernel
theorem dX9_passMarks_41 : decode cX9_passMarks 41 = .ok (.iload_n 1, 1) := by decide +kernel
theorem dX9_passMarks_42 : decode cX9_passMarks 42 = .ok (.invokestatic 61, 3) := by decide +kernel
theorem dX9_passMarks_45 : decode cX9_passMarks 45 = .ok (.idiv, 1) := by decide +kernel
theorem dX9_passMarks_46 : decode cX9_passMarks 46 = .ok (.invokestatic 61, 3) := by decide +kernel
theorem dX9_passMarks_49 : decode cX9_passMarks 49 = .ok (.iadd, 1) := by decide +kernel
theorem dX9_passMarks_50 : decode cX9_passMarks 50 = .ok (.istore_n 2, 1) := by decide +kernel
theorem dX9_passMarks_51 : decode cX9_passMarks 51 = .ok (.iinc 3 1, 3) := by decide +kernel
theorem dX9_passMarks_54 : decode cX9_passMarks 54 = .ok (.iinc 5 1, 3) := by decide +kernel
theorem dX9_passMarks_57 : decode cX9_passMarks 57 = .ok (.goto (-39), 3) := by decide +kernel
theorem dX9_passMarks_60 : decode cX9_passMarks 60 = .ok (.aload_n 0, 1) := by decide +kernel
theorem dX9_passMarks_61 : decode cX9_passMarks 61 = .ok (.getfield 24, 3) := by decide +kernel
theorem dX9_passMarks_64 : decode cX9_passMarks 64 = .ok (.iload 4, 2) := by decide +kernel
theorem dX9_passMarks_66 : decode cX9_passMarks 66 = .ok (.iload_n 3, 1) := by decide +kernel
theorem dX9_passMarks_67 : decode cX9_passMarks 67 = .ok (.iastore, 1) := by decide +kernel
theorem dX9_passMarks_68 : decode cX9_passMarks 68 = .ok (.iinc 4 1, 3) := by decide +kernel
theorem dX9_passMarks_71 : decode cX9_passMarks 71 = .ok (.goto (-64), 3) := by decide +kernel
theorem dX9_passMarks_74 : decode cX9_passMarks 74 = .ok (.return_, 1) := by decide +kernel
theorem dX9_raised_0 : decode cX9_raised 0 = .ok (.lconst 1, 1) := by decide +kernel
theorem dX9_raised_1 : decode cX9_raised 1 = .ok (.lstore_n 3, 1) := by decide +kernel
theorem dX9_raised_2 : decode cX9_raised 2 = .ok (.iconst 0, 1) := by decide +kernel
theorem dX9_raised_3 : decode cX9_raised 3 = .ok (.istore 5, 2) := by decide +kernel
theorem dX9_raised_5 : decode cX9_raised 5 = .ok (.iload 5, 2) := by decide +kernel
theorem dX9_raised_7 : decode cX9_raised 7 = .ok (.iload_n 2, 1) := by decide +kernel
theorem dX9_raised_8 : decode cX9_raised 8 = .ok (.if_icmp .ge 13, 3) := by decide +kernel
theorem dX9_raised_11 : decode cX9_raised 11 = .ok (.lload_n 3, 1) := by decide +kernel
theorem dX9_raised_12 : decode cX9_raised 12 = .ok (.lload_n 0, 1) := by decide +kernel
theorem dX9_raised_13 : decode cX9_raised 13 = .ok (.lmul, 1) := by decide +kernel
theorem dX9_raised_14 : decode cX9_raised 14 = .ok (.lstore_n 3, 1) := by decide +kernel
theorem dX9_raised_15 : decode cX9_raised 15 = .ok (.iinc 5 1, 3) := by decide +kernel
theorem dX9_raised_18 : decode cX9_raised 18 = .ok (.goto (-13), 3) := by decide +kernel
theorem dX9_raised_21 : decode cX9_raised 21 = .ok (.lload_n 3, 1) := by decide +kernel
theorem dX9_raised_22 : decode cX9_raised 22 = .ok (.lreturn, 1) := by decide +kernel
theorem dX9_root_0 : decode cX9_root 0 = .ok (.iconst 0, 1) := by decide +kernel
theorem dX9_root_1 : decode cX9_root 1 = .ok (.istore_n 3, 1) := by decide +kernel
theorem dX9_root_2 : decode cX9_root 2 = .ok (.sipush 9999, 3) := by decide +kernel
theorem dX9_root_5 : decode cX9_root 5 = .ok (.istore 4, 2) := by decide +kernel
theorem dX9_root_7 : decode cX9_root 7 = .ok (.iconst 0, 1) := by decide +kernel
theorem dX9_root_8 : decode cX9_root 8 = .ok (.istore 5, 2) := by decide +kernel
theorem dX9_root_10 : decode cX9_root 10 = .ok (.iload 5, 2) := by decide +kernel
theorem dX9_root_12 : decode cX9_root 12 = .ok (.bipush 32, 2) := by decide +kernel
theorem dX9_root_14 : decode cX9_root 14 = .ok (.if_icmp .ge 49, 3) := by decide +kernel
theorem dX9_root_17 : decode cX9_root 17 = .ok (.iload_n 3, 1) := by decide +kernel
theorem dX9_root_18 : decode cX9_root 18 = .ok (.iload 4, 2) := by decide +kernel
theorem dX9_root_20 : decode cX9_root 20 = .ok (.if_icmp .ge 43, 3) := by decide +kernel
theorem dX9_root_23 : decode cX9_root 23 = .ok (.iload_n 3, 1) := by decide +kernel
theorem dX9_root_24 : decode cX9_root 24 = .ok (.iload 4, 2) := by decide +kernel
theorem dX9_root_26 : decode cX9_root 26 = .ok (.iadd, 1) := by decide +kernel
theorem dX9_root_27 : decode cX9_root 27 = .ok (.iconst 1, 1) := by decide +kernel
theorem dX9_root_28 : decode cX9_root 28 = .ok (.iadd, 1) := by decide +kernel
theorem dX9_root_29 : decode cX9_root 29 = .ok (.iconst 2, 1) := by decide +kernel
theorem dX9_root_30 : decode cX9_root 30 = .ok (.idiv, 1) := by decide +kernel
theorem dX9_root_31 : decode cX9_root 31 = .ok (.istore 6, 2) := by decide +kernel
theorem dX9_root_33 : decode cX9_root 33 = .ok (.iload 6, 2) := by decide +kernel
theorem dX9_root_35 : decode cX9_root 35 = .ok (.i2l, 1) := by decide +kernel
theorem dX9_root_36 : decode cX9_root 36 = .ok (.iload_n 2, 1) := by decide +kernel
theorem dX9_root_37 : decode cX9_root 37 = .ok (.invokestatic 53, 3) := by decide +kernel
theorem dX9_root_40 : decode cX9_root 40 = .ok (.lload_n 0, 1) := by decide +kernel
theorem dX9_root_41 : decode cX9_root 41 = .ok (.lcmp, 1) := by decide +kernel
theorem dX9_root_42 : decode cX9_root 42 = .ok (.ifCond .gt 9, 3) := by decide +kernel
theorem dX9_root_45 : decode cX9_root 45 = .ok (.iload 6, 2) := by decide +kernel
theorem dX9_root_47 : decode cX9_root 47 = .ok (.istore_n 3, 1) := by decide +kernel
theorem dX9_root_48 : decode cX9_root 48 = .ok (.goto 9, 3) := by decide +kernel
theorem dX9_root_51 : decode cX9_root 51 = .ok (.iload 6, 2) := by decide +kernel
theorem dX9_root_53 : decode cX9_root 53 = .ok (.iconst 1, 1) := by decide +kernel
theorem dX9_root_54 : decode cX9_root 54 = .ok (.isub, 1) := by decide +kernel
theorem dX9_root_55 : decode cX9_root 55 = .ok (.istore 4, 2) := by decide +kernel
theorem dX9_root_57 : decode cX9_root 57 = .ok (.iinc 5 1, 3) := by decide +kernel
theorem dX9_root_60 : decode cX9_root 60 = .ok (.goto (-50), 3) := by decide +kernel
theorem dX9_root_63 : decode cX9_root 63 = .ok (.iload_n 3, 1) := by decide +kernel
theorem dX9_root_64 : decode cX9_root 64 = .ok (.ireturn, 1) := by decide +kernel
theorem dX9_levelAt_0 : decode cX9_levelAt 0 = .ok (.iload_n 1, 1) := by decide +kernel
theorem dX9_levelAt_1 : decode cX9_levelAt 1 = .ok (.ifCond .lt 10, 3) := by decide +kernel
theorem dX9_levelAt_4 : decode cX9_levelAt 4 = .ok (.iload_n 1, 1) := by decide +kernel
theorem dX9_levelAt_5 : decode cX9_levelAt 5 = .ok (.sipush 400, 3) := by decide +kernel
theorem dX9_levelAt_8 : decode cX9_levelAt 8 = .ok (.if_icmp .le 7, 3) := by decide +kernel
theorem dX9_levelAt_11 : decode cX9_levelAt 11 = .ok (.iconst 0, 1) := by decide +kernel
theorem dX9_levelAt_12 : decode cX9_levelAt 12 = .ok (.goto 9, 3) := by decide +kernel
theorem dX9_levelAt_15 : decode cX9_levelAt 15 = .ok (.aload_n 0, 1) := by decide +kernel
theorem dX9_levelAt_16 : decode cX9_levelAt 16 = .ok (.getfield 24, 3) := by decide +kernel
theorem dX9_levelAt_19 : decode cX9_levelAt 19 = .ok (.iload_n 1, 1) := by decide +kernel
theorem dX9_levelAt_20 : decode cX9_levelAt 20 = .ok (.iaload, 1) := by decide +kernel
theorem dX9_levelAt_21 : decode cX9_levelAt 21 = .ok (.ireturn, 1) := by decide +kernel
theorem dX9_nearest_0 : decode cX9_nearest 0 = .ok (.iconst 1, 1) := by decide +kernel
theorem dX9_nearest_1 : decode cX9_nearest 1 = .ok (.istore_n 2, 1) := by decide +kernel
theorem dX9_nearest_2 : decode cX9_nearest 2 = .ok (.iconst 2, 1) := by decide +kernel
theorem dX9_nearest_3 : decode cX9_nearest 3 = .ok (.istore_n 3, 1) := by decide +kernel
theorem dX9_nearest_4 : decode cX9_nearest 4 = .ok (.iload_n 3, 1) := by decide +kernel
theorem dX9_nearest_5 : decode cX9_nearest 5 = .ok (.sipush 400, 3) := by decide +kernel
theorem dX9_nearest_8 : decode cX9_nearest 8 = .ok (.if_icmp .gt 36, 3) := by decide +kernel
theorem dX9_nearest_11 : decode cX9_nearest 11 = .ok (.aload_n 0, 1) := by decide +kernel
theorem dX9_nearest_12 : decode cX9_nearest 12 = .ok (.getfield 24, 3) := by decide +kernel
theorem dX9_nearest_15 : decode cX9_nearest 15 = .ok (.iload_n 3, 1) := by decide +kernel
theorem dX9_nearest_16 : decode cX9_nearest 16 = .ok (.iaload, 1) := by decide +kernel
theorem dX9_nearest_17 : decode cX9_nearest 17 = .ok (.iload_n 1, 1) := by decide +kernel
theorem dX9_nearest_18 : decode cX9_nearest 18 = .ok (.isub, 1) := by decide +kernel
theorem dX9_nearest_19 : decode cX9_nearest 19 = .ok (.invokestatic 70, 3) := by decide +kernel
theorem dX9_nearest_22 : decode cX9_nearest 22 = .ok (.aload_n 0, 1) := by decide +kernel
theorem dX9_nearest_23 : decode cX9_nearest 23 = .ok (.getfield 24, 3) := by decide +kernel
theorem dX9_nearest_26 : decode cX9_nearest 26 = .ok (.iload_n 2, 1) := by decide +kernel
theorem dX9_nearest_27 : decode cX9_nearest 27 = .ok (.iaload, 1) := by decide +kernel
theorem dX9_nearest_28 : decode cX9_nearest 28 = .ok (.iload_n 1, 1) := by decide +kernel
theorem dX9_nearest_29 : decode cX9_nearest 29 = .ok (.isub, 1) := by decide +kernel
theorem dX9_nearest_30 : decode cX9_nearest 30 = .ok (.invokestatic 70, 3) := by decide +kernel
theorem dX9_nearest_33 : decode cX9_nearest 33 = .ok (.if_icmp .ge 5, 3) := by decide +kernel
theorem dX9_nearest_36 : decode cX9_nearest 36 = .ok (.iload_n 3, 1) := by decide +kernel
theorem dX9_nearest_37 : decode cX9_nearest 37 = .ok (.istore_n 2, 1) := by decide +kernel
theorem dX9_nearest_38 : decode cX9_nearest 38 = .ok (.iinc 3 1, 3) := by decide +kernel
theorem dX9_nearest_41 : decode cX9_nearest 41 = .ok (.goto (-37), 3) := by decide +kernel
theorem dX9_nearest_44 : decode cX9_nearest 44 = .ok (.iload_n 2, 1) := by decide +kernel
theorem dX9_nearest_45 : decode cX9_nearest 45 = .ok (.ireturn, 1) := by decide +kernel
theorem dX9_noiseWithout_0 : decode cX9_noiseWithout 0 = .ok (.aload_n 0, 1) := by decide +kernel
theorem dX9_noiseWithout_1 : decode cX9_noiseWithout 1 = .ok (.getfield 29, 3) := by decide +kernel
theorem dX9_noiseWithout_4 : decode cX9_noiseWithout 4 = .ok (.iconst 0, 1) := by decide +kernel
theorem dX9_noiseWithout_5 : decode cX9_noiseWithout 5 = .ok (.aload_n 0, 1) := by decide +kernel
theorem dX9_noiseWithout_6 : decode cX9_noiseWithout 6 = .ok (.getfield 29, 3) := by decide +kernel
theorem dX9_noiseWithout_9 : decode cX9_noiseWithout 9 = .ok (.arraylength, 1) := by decide +kernel
theorem dX9_noiseWithout_10 : decode cX9_noiseWithout 10 = .ok (.iconst 1, 1) := by decide +kernel
theorem dX9_noiseWithout_11 : decode cX9_noiseWithout 11 = .ok (.isub, 1) := by decide +kernel
theorem dX9_noiseWithout_12 : decode cX9_noiseWithout 12 = .ok (.aload_n 0, 1) := by decide +kernel
theorem dX9_noiseWithout_13 : decode cX9_noiseWithout 13 = .ok (.getfield 38, 3) := by decide +kernel
theorem dX9_noiseWithout_16 : decode cX9_noiseWithout 16 = .ok (.iconst 1, 1) := by decide +kernel
theorem dX9_noiseWithout_17 : decode cX9_noiseWithout 17 = .ok (.isub, 1) := by decide +kernel
theorem dX9_noiseWithout_18 : decode cX9_noiseWithout 18 = .ok (.iload_n 1, 1) := by decide +kernel
theorem dX9_noiseWithout_19 : decode cX9_noiseWithout 19 = .ok (.isub, 1) := by decide +kernel
theorem dX9_noiseWithout_20 : decode cX9_noiseWithout 20 = .ok (.invokestatic 67, 3) := by decide +kernel
theorem dX9_noiseWithout_23 : decode cX9_noiseWithout 23 = .ok (.invokestatic 61, 3) := by decide +kernel
theorem dX9_noiseWithout_26 : decode cX9_noiseWithout 26 = .ok (.aaload, 1) := by decide +kernel
theorem dX9_noiseWithout_27 : decode cX9_noiseWithout 27 = .ok (.areturn, 1) := by decide +kernel
theorem dX9_fresh_0 : decode cX9_fresh 0 = .ok (.aload_n 0, 1) := by decide +kernel
theorem dX9_fresh_1 : decode cX9_fresh 1 = .ok (.iconst 0, 1) := by decide +kernel
theorem dX9_fresh_2 : decode cX9_fresh 2 = .ok (.invokevirtual 74, 3) := by decide +kernel
theorem dX9_fresh_5 : decode cX9_fresh 5 = .ok (.areturn, 1) := by decide +kernel
theorem dX10_init_0 : decode cX10_init 0 = .ok (.aload_n 0, 1) := by decide +kernel
theorem dX10_init_1 : decode cX10_init 1 = .ok (.invokespecial 5, 3) := by decide +kernel
theorem dX10_init_4 : decode cX10_init 4 = .ok (.aload_n 0, 1) := by decide +kernel
theorem dX10_init_5 : decode cX10_init 5 = .ok (.bipush 15, 2) := by decide +kernel
theorem dX10_init_7 : decode cX10_init 7 = .ok (.newarray .long, 2) := by decide +kernel
theorem dX10_init_9 : decode cX10_init 9 = .ok (.putfield 11, 3) := by decide +kernel
theorem dX10_init_12 : decode cX10_init 12 = .ok (.aload_n 0, 1) := by decide +kernel
theorem dX10_init_13 : decode cX10_init 13 = .ok (.bipush 15, 2) := by decide +kernel
theorem dX10_init_15 : decode cX10_init 15 = .ok (.newarray .long, 2) := by decide +kernel
theorem dX10_init_17 : decode cX10_init 17 = .ok (.putfield 15, 3) := by decide +kernel
theorem dX10_init_20 : decode cX10_init 20 = .ok (.aload_n 0, 1) := by decide +kernel
theorem dX10_init_21 : decode cX10_init 21 = .ok (.bipush 15, 2) := by decide +kernel
theorem dX10_init_23 : decode cX10_init 23 = .ok (.newarray .long, 2) := by decide +kernel
theorem dX10_init_25 : decode cX10_init 25 = .ok (.putfield 18, 3) := by decide +kernel
theorem dX10_init_28 : decode cX10_init 28 = .ok (.aload_n 0, 1) := by decide +kernel
theorem dX10_init_29 : decode cX10_init 29 = .ok (.sipush 2048, 3) := by decide +kernel
theorem dX10_init_32 : decode cX10_init 32 = .ok (.newarray .long, 2) := by decide +kernel
theorem dX10_init_34 : decode cX10_init 34 = .ok (.putfield 21, 3) := by decide +kernel
theorem dX10_init_37 : decode cX10_init 37 = .ok (.aload_n 0, 1) := by decide +kernel
theorem dX10_init_38 : decode cX10_init 38 = .ok (.sipush 2048, 3) := by decide +kernel
theorem dX10_init_41 : decode cX10_init 41 = .ok (.newarray .int, 2) := by decide +kernel
theorem dX10_init_43 : decode cX10_init 43 = .ok (.putfield 24, 3) := by decide +kernel
theorem dX10_init_46 : decode cX10_init 46 = .ok (.return_, 1) := by decide +kernel
theorem dX10_holds_0 : decode cX10_holds 0 = .ok (.iload 4, 2) := by decide +kernel
theorem dX10_holds_2 : decode cX10_holds 2 = .ok (.aload_n 0, 1) := by decide +kernel
theorem dX10_holds_3 : decode cX10_holds 3 = .ok (.iload_n 1, 1) := by decide +kernel
theorem dX10_holds_4 : decode cX10_holds 4 = .ok (.iload_n 2, 1) := by decide +kernel
theorem dX10_holds_5 : decode cX10_holds 5 = .ok (.iload_n 3, 1) := by decide +kernel
theorem dX10_holds_6 : decode cX10_holds 6 = .ok (.invokevirtual 28, 3) := by decide +kernel
theorem dX10_holds_9 : decode cX10_holds 9 = .ok (.if_icmp .gt 23, 3) := by decide +kernel
theorem dX10_holds_12 : decode cX10_holds 12 = .ok (.iload_n 1, 1) := by decide +kernel
theorem dX10_holds_13 : decode cX10_holds 13 = .ok (.iload 4, 2) := by decide +kernel
theorem dX10_holds_15 : decode cX10_holds 15 = .ok (.isub, 1) := by decide +kernel
theorem dX10_holds_16 : decode cX10_holds 16 = .ok (.aload_n 0, 1) := by decide +kernel
theorem dX10_holds_17 : decode cX10_holds 17 = .ok (.iload_n 1, 1) := by decide +kernel
theorem dX10_holds_18 : decode cX10_holds 18 = .ok (.iload_n 3, 1) := by decide +kernel
theorem dX10_holds_19 : decode cX10_holds 19 = .ok (.iload_n 2, 1) := by decide +kernel
theorem dX10_holds_20 : decode cX10_holds 20 = .ok (.isub, 1) := by decide +kernel
theorem dX10_holds_21 : decode cX10_holds 21 = .ok (.iload_n 3, 1) := by decide +kernel
theorem dX10_holds_22 : decode cX10_holds 22 = .ok (.invokevirtual 28, 3) := by decide +kernel
theorem dX10_holds_25 : decode cX10_holds 25 = .ok (.if_icmp .gt 7, 3) := by decide +kernel
theorem dX10_holds_28 : decode cX10_holds 28 = .ok (.iconst 1, 1) := by decide +kernel
theorem dX10_holds_29 : decode cX10_holds 29 = .ok (.goto 4, 3) := by decide +kernel
theorem dX10_holds_32 : decode cX10_holds 32 = .ok (.iconst 0, 1) := by decide +kernel
theorem dX10_holds_33 : decode cX10_holds 33 = .ok (.ireturn, 1) := by decide +kernel
theorem dX10_least_0 : decode cX10_least 0 = .ok (.iload_n 1, 1) := by decide +kernel
theorem dX10_least_1 : decode cX10_least 1 = .ok (.aload_n 0, 1) := by decide +kernel
theorem dX10_least_2 : decode cX10_least 2 = .ok (.iload_n 1, 1) := by decide +kernel
theorem dX10_least_3 : decode cX10_least 3 = .ok (.iload_n 3, 1) := by decide +kernel
theorem dX10_least_4 : decode cX10_least 4 = .ok (.iload_n 2, 1) := by decide +kernel
theorem dX10_least_5 : decode cX10_least 5 = .ok (.isub, 1) := by decide +kernel
theorem dX10_least_6 : decode cX10_least 6 = .ok (.iload_n 3, 1) := by decide +kernel
theorem dX10_least_7 : decode cX10_least 7 = .ok (.invokevirtual 28, 3) := by decide +kernel
theorem dX10_least_10 : decode cX10_least 10 = .ok (.isub, 1) := by decide +kernel
theorem dX10_least_11 : decode cX10_least 11 = .ok (.ireturn, 1) := by decide +kernel
theorem dX10_greatest_0 : decode cX10_greatest 0 = .ok (.iload_n 2, 1) := by decide +kernel
theorem dX10_greatest_1 : decode cX10_greatest 1 = .ok (.ifCond .gt 5, 3) := by decide +kernel
theorem dX10_greatest_4 : decode cX10_greatest 4 = .ok (.iconst 0, 1) := by decide +kernel
theorem dX10_greatest_5 : decode cX10_greatest 5 = .ok (.ireturn, 1) := by decide +kernel
theorem dX10_greatest_6 : decode cX10_greatest 6 = .ok (.iload_n 2, 1) := by decide +kernel
theorem dX10_greatest_7 : decode cX10_greatest 7 = .ok (.iload_n 3, 1) := by decide +kernel
theorem dX10_greatest_8 : decode cX10_greatest 8 = .ok (.if_icmp .lt 5, 3) := by decide +kernel
theorem dX10_greatest_11 : decode cX10_greatest 11 = .ok (.iload_n 1, 1) := by decide +kernel
theorem dX10_greatest_12 : decode cX10_greatest 12 = .ok (.ireturn, 1) := by decide +kernel
theorem dX10_greatest_13 : decode cX10_greatest 13 = .ok (.iload_n 3, 1) := by decide +kernel
theorem dX10_greatest_14 : decode cX10_greatest 14 = .ok (.i2l, 1) := by decide +kernel
theorem dX10_greatest_15 : decode cX10_greatest 15 = .ok (.ldc2_w 32, 3) := by decide +kernel
theorem dX10_greatest_18 : decode cX10_greatest 18 = .ok (.lmul, 1) := by decide +kernel
