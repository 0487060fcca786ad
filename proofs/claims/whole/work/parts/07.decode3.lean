theorem dX12_lets_83 : decode cX12_lets 83 = .ok (.invokevirtual 457, 3) := by decide +kernel
theorem dX12_lets_86 : decode cX12_lets 86 = .ok (.ifCond .eq 7, 3) := by decide +kernel
theorem dX12_lets_89 : decode cX12_lets 89 = .ok (.iconst 1, 1) := by decide +kernel
theorem dX12_lets_90 : decode cX12_lets 90 = .ok (.goto 4, 3) := by decide +kernel
theorem dX12_lets_93 : decode cX12_lets 93 = .ok (.iconst 0, 1) := by decide +kernel
theorem dX12_lets_94 : decode cX12_lets 94 = .ok (.ireturn, 1) := by decide +kernel
theorem dX12_fit_0 : decode cX12_fit 0 = .ok (.iconst 0, 1) := by decide +kernel
theorem dX12_fit_1 : decode cX12_fit 1 = .ok (.istore_n 2, 1) := by decide +kernel
theorem dX12_fit_2 : decode cX12_fit 2 = .ok (.iload_n 2, 1) := by decide +kernel
theorem dX12_fit_3 : decode cX12_fit 3 = .ok (.aload_n 0, 1) := by decide +kernel
theorem dX12_fit_4 : decode cX12_fit 4 = .ok (.getfield 20, 3) := by decide +kernel
theorem dX12_fit_7 : decode cX12_fit 7 = .ok (.sipush 238, 3) := by decide +kernel
theorem dX12_fit_10 : decode cX12_fit 10 = .ok (.iaload, 1) := by decide +kernel
theorem dX12_fit_11 : decode cX12_fit 11 = .ok (.if_icmp .ge 78, 3) := by decide +kernel
theorem dX12_fit_14 : decode cX12_fit 14 = .ok (.bipush (-10), 2) := by decide +kernel
theorem dX12_fit_16 : decode cX12_fit 16 = .ok (.istore_n 3, 1) := by decide +kernel
theorem dX12_fit_17 : decode cX12_fit 17 = .ok (.iload_n 3, 1) := by decide +kernel
theorem dX12_fit_18 : decode cX12_fit 18 = .ok (.bipush 10, 2) := by decide +kernel
theorem dX12_fit_20 : decode cX12_fit 20 = .ok (.if_icmp .gt 29, 3) := by decide +kernel
theorem dX12_fit_23 : decode cX12_fit 23 = .ok (.aload_n 0, 1) := by decide +kernel
theorem dX12_fit_24 : decode cX12_fit 24 = .ok (.getfield 89, 3) := by decide +kernel
theorem dX12_fit_27 : decode cX12_fit 27 = .ok (.bipush 21, 2) := by decide +kernel
theorem dX12_fit_29 : decode cX12_fit 29 = .ok (.iload_n 2, 1) := by decide +kernel
theorem dX12_fit_30 : decode cX12_fit 30 = .ok (.imul, 1) := by decide +kernel
theorem dX12_fit_31 : decode cX12_fit 31 = .ok (.iload_n 3, 1) := by decide +kernel
theorem dX12_fit_32 : decode cX12_fit 32 = .ok (.iadd, 1) := by decide +kernel
theorem dX12_fit_33 : decode cX12_fit 33 = .ok (.bipush 10, 2) := by decide +kernel
theorem dX12_fit_35 : decode cX12_fit 35 = .ok (.iadd, 1) := by decide +kernel
theorem dX12_fit_36 : decode cX12_fit 36 = .ok (.aload_n 0, 1) := by decide +kernel
theorem dX12_fit_37 : decode cX12_fit 37 = .ok (.iload_n 2, 1) := by decide +kernel
theorem dX12_fit_38 : decode cX12_fit 38 = .ok (.iload_n 3, 1) := by decide +kernel
theorem dX12_fit_39 : decode cX12_fit 39 = .ok (.invokevirtual 453, 3) := by decide +kernel
theorem dX12_fit_42 : decode cX12_fit 42 = .ok (.bastore, 1) := by decide +kernel
theorem dX12_fit_43 : decode cX12_fit 43 = .ok (.iinc 3 1, 3) := by decide +kernel
theorem dX12_fit_46 : decode cX12_fit 46 = .ok (.goto (-29), 3) := by decide +kernel
theorem dX12_fit_49 : decode cX12_fit 49 = .ok (.bipush (-5), 2) := by decide +kernel
theorem dX12_fit_51 : decode cX12_fit 51 = .ok (.istore_n 3, 1) := by decide +kernel
theorem dX12_fit_52 : decode cX12_fit 52 = .ok (.iload_n 3, 1) := by decide +kernel
theorem dX12_fit_53 : decode cX12_fit 53 = .ok (.iconst 5, 1) := by decide +kernel
theorem dX12_fit_54 : decode cX12_fit 54 = .ok (.if_icmp .gt 29, 3) := by decide +kernel
theorem dX12_fit_57 : decode cX12_fit 57 = .ok (.aload_n 0, 1) := by decide +kernel
theorem dX12_fit_58 : decode cX12_fit 58 = .ok (.getfield 93, 3) := by decide +kernel
theorem dX12_fit_61 : decode cX12_fit 61 = .ok (.bipush 11, 2) := by decide +kernel
theorem dX12_fit_63 : decode cX12_fit 63 = .ok (.iload_n 2, 1) := by decide +kernel
theorem dX12_fit_64 : decode cX12_fit 64 = .ok (.imul, 1) := by decide +kernel
theorem dX12_fit_65 : decode cX12_fit 65 = .ok (.iload_n 3, 1) := by decide +kernel
theorem dX12_fit_66 : decode cX12_fit 66 = .ok (.iadd, 1) := by decide +kernel
theorem dX12_fit_67 : decode cX12_fit 67 = .ok (.iconst 5, 1) := by decide +kernel
theorem dX12_fit_68 : decode cX12_fit 68 = .ok (.iadd, 1) := by decide +kernel
theorem dX12_fit_69 : decode cX12_fit 69 = .ok (.aload_n 0, 1) := by decide +kernel
theorem dX12_fit_70 : decode cX12_fit 70 = .ok (.iload_n 1, 1) := by decide +kernel
theorem dX12_fit_71 : decode cX12_fit 71 = .ok (.iload_n 2, 1) := by decide +kernel
theorem dX12_fit_72 : decode cX12_fit 72 = .ok (.iload_n 3, 1) := by decide +kernel
theorem dX12_fit_73 : decode cX12_fit 73 = .ok (.invokevirtual 457, 3) := by decide +kernel
theorem dX12_fit_76 : decode cX12_fit 76 = .ok (.bastore, 1) := by decide +kernel
theorem dX12_fit_77 : decode cX12_fit 77 = .ok (.iinc 3 1, 3) := by decide +kernel
theorem dX12_fit_80 : decode cX12_fit 80 = .ok (.goto (-28), 3) := by decide +kernel
theorem dX12_fit_83 : decode cX12_fit 83 = .ok (.iinc 2 1, 3) := by decide +kernel
theorem dX12_fit_86 : decode cX12_fit 86 = .ok (.goto (-84), 3) := by decide +kernel
theorem dX12_fit_89 : decode cX12_fit 89 = .ok (.return_, 1) := by decide +kernel
theorem dX12_fitsOf_0 : decode cX12_fitsOf 0 = .ok (.iconst 0, 1) := by decide +kernel
theorem dX12_fitsOf_1 : decode cX12_fitsOf 1 = .ok (.istore_n 2, 1) := by decide +kernel
theorem dX12_fitsOf_2 : decode cX12_fitsOf 2 = .ok (.iconst 0, 1) := by decide +kernel
theorem dX12_fitsOf_3 : decode cX12_fitsOf 3 = .ok (.istore_n 3, 1) := by decide +kernel
theorem dX12_fitsOf_4 : decode cX12_fitsOf 4 = .ok (.iconst 0, 1) := by decide +kernel
theorem dX12_fitsOf_5 : decode cX12_fitsOf 5 = .ok (.istore 4, 2) := by decide +kernel
theorem dX12_fitsOf_7 : decode cX12_fitsOf 7 = .ok (.iload 4, 2) := by decide +kernel
theorem dX12_fitsOf_9 : decode cX12_fitsOf 9 = .ok (.bipush 21, 2) := by decide +kernel
theorem dX12_fitsOf_11 : decode cX12_fitsOf 11 = .ok (.if_icmp .ge 32, 3) := by decide +kernel
theorem dX12_fitsOf_14 : decode cX12_fitsOf 14 = .ok (.iload_n 2, 1) := by decide +kernel
theorem dX12_fitsOf_15 : decode cX12_fitsOf 15 = .ok (.aload_n 0, 1) := by decide +kernel
theorem dX12_fitsOf_16 : decode cX12_fitsOf 16 = .ok (.getfield 89, 3) := by decide +kernel
theorem dX12_fitsOf_19 : decode cX12_fitsOf 19 = .ok (.bipush 21, 2) := by decide +kernel
theorem dX12_fitsOf_21 : decode cX12_fitsOf 21 = .ok (.iload_n 1, 1) := by decide +kernel
theorem dX12_fitsOf_22 : decode cX12_fitsOf 22 = .ok (.imul, 1) := by decide +kernel
theorem dX12_fitsOf_23 : decode cX12_fitsOf 23 = .ok (.iload 4, 2) := by decide +kernel
theorem dX12_fitsOf_25 : decode cX12_fitsOf 25 = .ok (.iadd, 1) := by decide +kernel
theorem dX12_fitsOf_26 : decode cX12_fitsOf 26 = .ok (.baload, 1) := by decide +kernel
theorem dX12_fitsOf_27 : decode cX12_fitsOf 27 = .ok (.ifCond .eq 7, 3) := by decide +kernel
theorem dX12_fitsOf_30 : decode cX12_fitsOf 30 = .ok (.iconst 1, 1) := by decide +kernel
theorem dX12_fitsOf_31 : decode cX12_fitsOf 31 = .ok (.goto 4, 3) := by decide +kernel
theorem dX12_fitsOf_34 : decode cX12_fitsOf 34 = .ok (.iconst 0, 1) := by decide +kernel
theorem dX12_fitsOf_35 : decode cX12_fitsOf 35 = .ok (.iadd, 1) := by decide +kernel
theorem dX12_fitsOf_36 : decode cX12_fitsOf 36 = .ok (.istore_n 2, 1) := by decide +kernel
theorem dX12_fitsOf_37 : decode cX12_fitsOf 37 = .ok (.iinc 4 1, 3) := by decide +kernel
theorem dX12_fitsOf_40 : decode cX12_fitsOf 40 = .ok (.goto (-33), 3) := by decide +kernel
theorem dX12_fitsOf_43 : decode cX12_fitsOf 43 = .ok (.iconst 0, 1) := by decide +kernel
theorem dX12_fitsOf_44 : decode cX12_fitsOf 44 = .ok (.istore 4, 2) := by decide +kernel
theorem dX12_fitsOf_46 : decode cX12_fitsOf 46 = .ok (.iload 4, 2) := by decide +kernel
theorem dX12_fitsOf_48 : decode cX12_fitsOf 48 = .ok (.bipush 11, 2) := by decide +kernel
theorem dX12_fitsOf_50 : decode cX12_fitsOf 50 = .ok (.if_icmp .ge 32, 3) := by decide +kernel
theorem dX12_fitsOf_53 : decode cX12_fitsOf 53 = .ok (.iload_n 3, 1) := by decide +kernel
theorem dX12_fitsOf_54 : decode cX12_fitsOf 54 = .ok (.aload_n 0, 1) := by decide +kernel
theorem dX12_fitsOf_55 : decode cX12_fitsOf 55 = .ok (.getfield 93, 3) := by decide +kernel
theorem dX12_fitsOf_58 : decode cX12_fitsOf 58 = .ok (.bipush 11, 2) := by decide +kernel
theorem dX12_fitsOf_60 : decode cX12_fitsOf 60 = .ok (.iload_n 1, 1) := by decide +kernel
theorem dX12_fitsOf_61 : decode cX12_fitsOf 61 = .ok (.imul, 1) := by decide +kernel
theorem dX12_fitsOf_62 : decode cX12_fitsOf 62 = .ok (.iload 4, 2) := by decide +kernel
theorem dX12_fitsOf_64 : decode cX12_fitsOf 64 = .ok (.iadd, 1) := by decide +kernel
theorem dX12_fitsOf_65 : decode cX12_fitsOf 65 = .ok (.baload, 1) := by decide +kernel
theorem dX12_fitsOf_66 : decode cX12_fitsOf 66 = .ok (.ifCond .eq 7, 3) := by decide +kernel
theorem dX12_fitsOf_69 : decode cX12_fitsOf 69 = .ok (.iconst 1, 1) := by decide +kernel
theorem dX12_fitsOf_70 : decode cX12_fitsOf 70 = .ok (.goto 4, 3) := by decide +kernel
theorem dX12_fitsOf_73 : decode cX12_fitsOf 73 = .ok (.iconst 0, 1) := by decide +kernel
theorem dX12_fitsOf_74 : decode cX12_fitsOf 74 = .ok (.iadd, 1) := by decide +kernel
theorem dX12_fitsOf_75 : decode cX12_fitsOf 75 = .ok (.istore_n 3, 1) := by decide +kernel
theorem dX12_fitsOf_76 : decode cX12_fitsOf 76 = .ok (.iinc 4 1, 3) := by decide +kernel
theorem dX12_fitsOf_79 : decode cX12_fitsOf 79 = .ok (.goto (-33), 3) := by decide +kernel
theorem dX12_fitsOf_82 : decode cX12_fitsOf 82 = .ok (.iload_n 2, 1) := by decide +kernel
theorem dX12_fitsOf_83 : decode cX12_fitsOf 83 = .ok (.iload_n 3, 1) := by decide +kernel
theorem dX12_fitsOf_84 : decode cX12_fitsOf 84 = .ok (.imul, 1) := by decide +kernel
theorem dX12_fitsOf_85 : decode cX12_fitsOf 85 = .ok (.ireturn, 1) := by decide +kernel
theorem dX12_fitsMany_0 : decode cX12_fitsMany 0 = .ok (.iconst 0, 1) := by decide +kernel
theorem dX12_fitsMany_1 : decode cX12_fitsMany 1 = .ok (.istore_n 1, 1) := by decide +kernel
theorem dX12_fitsMany_2 : decode cX12_fitsMany 2 = .ok (.iconst 0, 1) := by decide +kernel
theorem dX12_fitsMany_3 : decode cX12_fitsMany 3 = .ok (.istore_n 2, 1) := by decide +kernel
theorem dX12_fitsMany_4 : decode cX12_fitsMany 4 = .ok (.iload_n 2, 1) := by decide +kernel
theorem dX12_fitsMany_5 : decode cX12_fitsMany 5 = .ok (.aload_n 0, 1) := by decide +kernel
theorem dX12_fitsMany_6 : decode cX12_fitsMany 6 = .ok (.getfield 20, 3) := by decide +kernel
theorem dX12_fitsMany_9 : decode cX12_fitsMany 9 = .ok (.sipush 238, 3) := by decide +kernel
theorem dX12_fitsMany_12 : decode cX12_fitsMany 12 = .ok (.iaload, 1) := by decide +kernel
theorem dX12_fitsMany_13 : decode cX12_fitsMany 13 = .ok (.if_icmp .ge 17, 3) := by decide +kernel
theorem dX12_fitsMany_16 : decode cX12_fitsMany 16 = .ok (.iload_n 1, 1) := by decide +kernel
theorem dX12_fitsMany_17 : decode cX12_fitsMany 17 = .ok (.aload_n 0, 1) := by decide +kernel
theorem dX12_fitsMany_18 : decode cX12_fitsMany 18 = .ok (.iload_n 2, 1) := by decide +kernel
theorem dX12_fitsMany_19 : decode cX12_fitsMany 19 = .ok (.invokevirtual 460, 3) := by decide +kernel
theorem dX12_fitsMany_22 : decode cX12_fitsMany 22 = .ok (.iadd, 1) := by decide +kernel
theorem dX12_fitsMany_23 : decode cX12_fitsMany 23 = .ok (.istore_n 1, 1) := by decide +kernel
theorem dX12_fitsMany_24 : decode cX12_fitsMany 24 = .ok (.iinc 2 1, 3) := by decide +kernel
theorem dX12_fitsMany_27 : decode cX12_fitsMany 27 = .ok (.goto (-23), 3) := by decide +kernel
theorem dX12_fitsMany_30 : decode cX12_fitsMany 30 = .ok (.iload_n 1, 1) := by decide +kernel
theorem dX12_fitsMany_31 : decode cX12_fitsMany 31 = .ok (.ireturn, 1) := by decide +kernel
theorem dX12_fits_0 : decode cX12_fits 0 = .ok (.aload_n 0, 1) := by decide +kernel
theorem dX12_fits_1 : decode cX12_fits 1 = .ok (.invokevirtual 211, 3) := by decide +kernel
theorem dX12_fits_4 : decode cX12_fits 4 = .ok (.aload_n 0, 1) := by decide +kernel
theorem dX12_fits_5 : decode cX12_fits 5 = .ok (.iload_n 1, 1) := by decide +kernel
theorem dX12_fits_6 : decode cX12_fits 6 = .ok (.invokevirtual 315, 3) := by decide +kernel
theorem dX12_fits_9 : decode cX12_fits 9 = .ok (.ifCond .ne 9, 3) := by decide +kernel
theorem dX12_fits_12 : decode cX12_fits 12 = .ok (.aload_n 0, 1) := by decide +kernel
theorem dX12_fits_13 : decode cX12_fits 13 = .ok (.iconst 1, 1) := by decide +kernel
theorem dX12_fits_14 : decode cX12_fits 14 = .ok (.invokevirtual 214, 3) := by decide +kernel
theorem dX12_fits_17 : decode cX12_fits 17 = .ok (.ireturn, 1) := by decide +kernel
theorem dX12_fits_18 : decode cX12_fits 18 = .ok (.aload_n 0, 1) := by decide +kernel
theorem dX12_fits_19 : decode cX12_fits 19 = .ok (.iload_n 1, 1) := by decide +kernel
theorem dX12_fits_20 : decode cX12_fits 20 = .ok (.invokevirtual 450, 3) := by decide +kernel
theorem dX12_fits_23 : decode cX12_fits 23 = .ok (.ifCond .ne 9, 3) := by decide +kernel
theorem dX12_fits_26 : decode cX12_fits 26 = .ok (.aload_n 0, 1) := by decide +kernel
theorem dX12_fits_27 : decode cX12_fits 27 = .ok (.iconst 3, 1) := by decide +kernel
theorem dX12_fits_28 : decode cX12_fits 28 = .ok (.invokevirtual 214, 3) := by decide +kernel
theorem dX12_fits_31 : decode cX12_fits 31 = .ok (.ireturn, 1) := by decide +kernel
theorem dX12_fits_32 : decode cX12_fits 32 = .ok (.aload_n 0, 1) := by decide +kernel
theorem dX12_fits_33 : decode cX12_fits 33 = .ok (.iload_n 1, 1) := by decide +kernel
theorem dX12_fits_34 : decode cX12_fits 34 = .ok (.invokevirtual 463, 3) := by decide +kernel
theorem dX12_fits_37 : decode cX12_fits 37 = .ok (.aload_n 0, 1) := by decide +kernel
theorem dX12_fits_38 : decode cX12_fits 38 = .ok (.invokevirtual 466, 3) := by decide +kernel
theorem dX12_fits_41 : decode cX12_fits 41 = .ok (.ireturn, 1) := by decide +kernel
theorem dX12_fitAt_0 : decode cX12_fitAt 0 = .ok (.aload_n 0, 1) := by decide +kernel
theorem dX12_fitAt_1 : decode cX12_fitAt 1 = .ok (.invokevirtual 211, 3) := by decide +kernel
theorem dX12_fitAt_4 : decode cX12_fitAt 4 = .ok (.aload_n 0, 1) := by decide +kernel
theorem dX12_fitAt_5 : decode cX12_fitAt 5 = .ok (.iload_n 1, 1) := by decide +kernel
theorem dX12_fitAt_6 : decode cX12_fitAt 6 = .ok (.invokevirtual 315, 3) := by decide +kernel
theorem dX12_fitAt_9 : decode cX12_fitAt 9 = .ok (.ifCond .eq 12, 3) := by decide +kernel
theorem dX12_fitAt_12 : decode cX12_fitAt 12 = .ok (.iload_n 3, 1) := by decide +kernel
theorem dX12_fitAt_13 : decode cX12_fitAt 13 = .ok (.iconst 0, 1) := by decide +kernel
theorem dX12_fitAt_14 : decode cX12_fitAt 14 = .ok (.iconst 2, 1) := by decide +kernel
theorem dX12_fitAt_15 : decode cX12_fitAt 15 = .ok (.invokestatic 203, 3) := by decide +kernel
theorem dX12_fitAt_18 : decode cX12_fitAt 18 = .ok (.ifCond .ne 9, 3) := by decide +kernel
theorem dX12_fitAt_21 : decode cX12_fitAt 21 = .ok (.aload_n 0, 1) := by decide +kernel
theorem dX12_fitAt_22 : decode cX12_fitAt 22 = .ok (.iconst 1, 1) := by decide +kernel
theorem dX12_fitAt_23 : decode cX12_fitAt 23 = .ok (.invokevirtual 469, 3) := by decide +kernel
theorem dX12_fitAt_26 : decode cX12_fitAt 26 = .ok (.ireturn, 1) := by decide +kernel
theorem dX12_fitAt_27 : decode cX12_fitAt 27 = .ok (.aload_n 0, 1) := by decide +kernel
theorem dX12_fitAt_28 : decode cX12_fitAt 28 = .ok (.iload_n 1, 1) := by decide +kernel
theorem dX12_fitAt_29 : decode cX12_fitAt 29 = .ok (.invokevirtual 450, 3) := by decide +kernel
theorem dX12_fitAt_32 : decode cX12_fitAt 32 = .ok (.ifCond .ne 9, 3) := by decide +kernel
theorem dX12_fitAt_35 : decode cX12_fitAt 35 = .ok (.aload_n 0, 1) := by decide +kernel
theorem dX12_fitAt_36 : decode cX12_fitAt 36 = .ok (.iconst 3, 1) := by decide +kernel
theorem dX12_fitAt_37 : decode cX12_fitAt 37 = .ok (.invokevirtual 469, 3) := by decide +kernel
theorem dX12_fitAt_40 : decode cX12_fitAt 40 = .ok (.ireturn, 1) := by decide +kernel
theorem dX12_fitAt_41 : decode cX12_fitAt 41 = .ok (.aload_n 0, 1) := by decide +kernel
theorem dX12_fitAt_42 : decode cX12_fitAt 42 = .ok (.iload_n 1, 1) := by decide +kernel
theorem dX12_fitAt_43 : decode cX12_fitAt 43 = .ok (.invokevirtual 463, 3) := by decide +kernel
theorem dX12_fitAt_46 : decode cX12_fitAt 46 = .ok (.iconst 0, 1) := by decide +kernel
theorem dX12_fitAt_47 : decode cX12_fitAt 47 = .ok (.istore 4, 2) := by decide +kernel
theorem dX12_fitAt_49 : decode cX12_fitAt 49 = .ok (.iconst 0, 1) := by decide +kernel
theorem dX12_fitAt_50 : decode cX12_fitAt 50 = .ok (.istore 5, 2) := by decide +kernel
theorem dX12_fitAt_52 : decode cX12_fitAt 52 = .ok (.iload 5, 2) := by decide +kernel
theorem dX12_fitAt_54 : decode cX12_fitAt 54 = .ok (.aload_n 0, 1) := by decide +kernel
theorem dX12_fitAt_55 : decode cX12_fitAt 55 = .ok (.getfield 20, 3) := by decide +kernel
theorem dX12_fitAt_58 : decode cX12_fitAt 58 = .ok (.sipush 238, 3) := by decide +kernel
theorem dX12_fitAt_61 : decode cX12_fitAt 61 = .ok (.iaload, 1) := by decide +kernel
theorem dX12_fitAt_62 : decode cX12_fitAt 62 = .ok (.if_icmp .ge 112, 3) := by decide +kernel
theorem dX12_fitAt_65 : decode cX12_fitAt 65 = .ok (.iconst 0, 1) := by decide +kernel
theorem dX12_fitAt_66 : decode cX12_fitAt 66 = .ok (.istore 6, 2) := by decide +kernel
theorem dX12_fitAt_68 : decode cX12_fitAt 68 = .ok (.iload 6, 2) := by decide +kernel
theorem dX12_fitAt_70 : decode cX12_fitAt 70 = .ok (.bipush 21, 2) := by decide +kernel
theorem dX12_fitAt_72 : decode cX12_fitAt 72 = .ok (.if_icmp .ge 96, 3) := by decide +kernel
theorem dX12_fitAt_75 : decode cX12_fitAt 75 = .ok (.iconst 0, 1) := by decide +kernel
theorem dX12_fitAt_76 : decode cX12_fitAt 76 = .ok (.istore 7, 2) := by decide +kernel
theorem dX12_fitAt_78 : decode cX12_fitAt 78 = .ok (.iload 7, 2) := by decide +kernel
theorem dX12_fitAt_80 : decode cX12_fitAt 80 = .ok (.bipush 11, 2) := by decide +kernel
theorem dX12_fitAt_82 : decode cX12_fitAt 82 = .ok (.if_icmp .ge 80, 3) := by decide +kernel
theorem dX12_fitAt_85 : decode cX12_fitAt 85 = .ok (.aload_n 0, 1) := by decide +kernel
theorem dX12_fitAt_86 : decode cX12_fitAt 86 = .ok (.getfield 89, 3) := by decide +kernel
theorem dX12_fitAt_89 : decode cX12_fitAt 89 = .ok (.bipush 21, 2) := by decide +kernel
theorem dX12_fitAt_91 : decode cX12_fitAt 91 = .ok (.iload 5, 2) := by decide +kernel
theorem dX12_fitAt_93 : decode cX12_fitAt 93 = .ok (.imul, 1) := by decide +kernel
theorem dX12_fitAt_94 : decode cX12_fitAt 94 = .ok (.iload 6, 2) := by decide +kernel
theorem dX12_fitAt_96 : decode cX12_fitAt 96 = .ok (.iadd, 1) := by decide +kernel
theorem dX12_fitAt_97 : decode cX12_fitAt 97 = .ok (.baload, 1) := by decide +kernel
theorem dX12_fitAt_98 : decode cX12_fitAt 98 = .ok (.ifCond .eq 58, 3) := by decide +kernel
theorem dX12_fitAt_101 : decode cX12_fitAt 101 = .ok (.aload_n 0, 1) := by decide +kernel
theorem dX12_fitAt_102 : decode cX12_fitAt 102 = .ok (.getfield 93, 3) := by decide +kernel
theorem dX12_fitAt_105 : decode cX12_fitAt 105 = .ok (.bipush 11, 2) := by decide +kernel
theorem dX12_fitAt_107 : decode cX12_fitAt 107 = .ok (.iload 5, 2) := by decide +kernel
theorem dX12_fitAt_109 : decode cX12_fitAt 109 = .ok (.imul, 1) := by decide +kernel
theorem dX12_fitAt_110 : decode cX12_fitAt 110 = .ok (.iload 7, 2) := by decide +kernel
theorem dX12_fitAt_112 : decode cX12_fitAt 112 = .ok (.iadd, 1) := by decide +kernel
theorem dX12_fitAt_113 : decode cX12_fitAt 113 = .ok (.baload, 1) := by decide +kernel
theorem dX12_fitAt_114 : decode cX12_fitAt 114 = .ok (.ifCond .ne 6, 3) := by decide +kernel
theorem dX12_fitAt_117 : decode cX12_fitAt 117 = .ok (.goto 39, 3) := by decide +kernel
theorem dX12_fitAt_120 : decode cX12_fitAt 120 = .ok (.iload 4, 2) := by decide +kernel
theorem dX12_fitAt_122 : decode cX12_fitAt 122 = .ok (.iload_n 2, 1) := by decide +kernel
theorem dX12_fitAt_123 : decode cX12_fitAt 123 = .ok (.if_icmp .ne 30, 3) := by decide +kernel
theorem dX12_fitAt_126 : decode cX12_fitAt 126 = .ok (.iload_n 3, 1) := by decide +kernel
theorem dX12_fitAt_127 : decode cX12_fitAt 127 = .ok (.ifCond .ne 8, 3) := by decide +kernel
theorem dX12_fitAt_130 : decode cX12_fitAt 130 = .ok (.iload 5, 2) := by decide +kernel
theorem dX12_fitAt_132 : decode cX12_fitAt 132 = .ok (.goto 20, 3) := by decide +kernel
theorem dX12_fitAt_135 : decode cX12_fitAt 135 = .ok (.iload_n 3, 1) := by decide +kernel
theorem dX12_fitAt_136 : decode cX12_fitAt 136 = .ok (.iconst 1, 1) := by decide +kernel
theorem dX12_fitAt_137 : decode cX12_fitAt 137 = .ok (.if_icmp .ne 11, 3) := by decide +kernel
theorem dX12_fitAt_140 : decode cX12_fitAt 140 = .ok (.iload 6, 2) := by decide +kernel
theorem dX12_fitAt_142 : decode cX12_fitAt 142 = .ok (.bipush 10, 2) := by decide +kernel
theorem dX12_fitAt_144 : decode cX12_fitAt 144 = .ok (.isub, 1) := by decide +kernel
theorem dX12_fitAt_145 : decode cX12_fitAt 145 = .ok (.goto 7, 3) := by decide +kernel
theorem dX12_fitAt_148 : decode cX12_fitAt 148 = .ok (.iload 7, 2) := by decide +kernel
theorem dX12_fitAt_150 : decode cX12_fitAt 150 = .ok (.iconst 5, 1) := by decide +kernel
theorem dX12_fitAt_151 : decode cX12_fitAt 151 = .ok (.isub, 1) := by decide +kernel
theorem dX12_fitAt_152 : decode cX12_fitAt 152 = .ok (.ireturn, 1) := by decide +kernel
theorem dX12_fitAt_153 : decode cX12_fitAt 153 = .ok (.iinc 4 1, 3) := by decide +kernel
theorem dX12_fitAt_156 : decode cX12_fitAt 156 = .ok (.iinc 7 1, 3) := by decide +kernel
theorem dX12_fitAt_159 : decode cX12_fitAt 159 = .ok (.goto (-81), 3) := by decide +kernel
theorem dX12_fitAt_162 : decode cX12_fitAt 162 = .ok (.iinc 6 1, 3) := by decide +kernel
theorem dX12_fitAt_165 : decode cX12_fitAt 165 = .ok (.goto (-97), 3) := by decide +kernel
theorem dX12_fitAt_168 : decode cX12_fitAt 168 = .ok (.iinc 5 1, 3) := by decide +kernel
theorem dX12_fitAt_171 : decode cX12_fitAt 171 = .ok (.goto (-119), 3) := by decide +kernel
theorem dX12_fitAt_174 : decode cX12_fitAt 174 = .ok (.aload_n 0, 1) := by decide +kernel
theorem dX12_fitAt_175 : decode cX12_fitAt 175 = .ok (.iconst 1, 1) := by decide +kernel
theorem dX12_fitAt_176 : decode cX12_fitAt 176 = .ok (.invokevirtual 469, 3) := by decide +kernel
theorem dX12_fitAt_179 : decode cX12_fitAt 179 = .ok (.ireturn, 1) := by decide +kernel
theorem dX12_verdict_0 : decode cX12_verdict 0 = .ok (.aload_n 0, 1) := by decide +kernel
theorem dX12_verdict_1 : decode cX12_verdict 1 = .ok (.invokevirtual 211, 3) := by decide +kernel
theorem dX12_verdict_4 : decode cX12_verdict 4 = .ok (.aload_n 0, 1) := by decide +kernel
theorem dX12_verdict_5 : decode cX12_verdict 5 = .ok (.iload_n 1, 1) := by decide +kernel
theorem dX12_verdict_6 : decode cX12_verdict 6 = .ok (.invokevirtual 315, 3) := by decide +kernel
theorem dX12_verdict_9 : decode cX12_verdict 9 = .ok (.ifCond .eq 11, 3) := by decide +kernel
theorem dX12_verdict_12 : decode cX12_verdict 12 = .ok (.aload_n 0, 1) := by decide +kernel
theorem dX12_verdict_13 : decode cX12_verdict 13 = .ok (.iload_n 2, 1) := by decide +kernel
theorem dX12_verdict_14 : decode cX12_verdict 14 = .ok (.invokevirtual 306, 3) := by decide +kernel
theorem dX12_verdict_17 : decode cX12_verdict 17 = .ok (.ifCond .ne 9, 3) := by decide +kernel
theorem dX12_verdict_20 : decode cX12_verdict 20 = .ok (.aload_n 0, 1) := by decide +kernel
theorem dX12_verdict_21 : decode cX12_verdict 21 = .ok (.iconst 1, 1) := by decide +kernel
theorem dX12_verdict_22 : decode cX12_verdict 22 = .ok (.invokevirtual 214, 3) := by decide +kernel
theorem dX12_verdict_25 : decode cX12_verdict 25 = .ok (.ireturn, 1) := by decide +kernel
theorem dX12_verdict_26 : decode cX12_verdict 26 = .ok (.aload_n 0, 1) := by decide +kernel
theorem dX12_verdict_27 : decode cX12_verdict 27 = .ok (.iload_n 1, 1) := by decide +kernel
theorem dX12_verdict_28 : decode cX12_verdict 28 = .ok (.invokevirtual 450, 3) := by decide +kernel
theorem dX12_verdict_31 : decode cX12_verdict 31 = .ok (.ifCond .ne 9, 3) := by decide +kernel
theorem dX12_verdict_34 : decode cX12_verdict 34 = .ok (.aload_n 0, 1) := by decide +kernel
theorem dX12_verdict_35 : decode cX12_verdict 35 = .ok (.iconst 3, 1) := by decide +kernel
theorem dX12_verdict_36 : decode cX12_verdict 36 = .ok (.invokevirtual 214, 3) := by decide +kernel
theorem dX12_verdict_39 : decode cX12_verdict 39 = .ok (.ireturn, 1) := by decide +kernel
theorem dX12_verdict_40 : decode cX12_verdict 40 = .ok (.aload_n 0, 1) := by decide +kernel
theorem dX12_verdict_41 : decode cX12_verdict 41 = .ok (.iload_n 1, 1) := by decide +kernel
theorem dX12_verdict_42 : decode cX12_verdict 42 = .ok (.invokevirtual 463, 3) := by decide +kernel
theorem dX12_verdict_45 : decode cX12_verdict 45 = .ok (.aload_n 0, 1) := by decide +kernel
theorem dX12_verdict_46 : decode cX12_verdict 46 = .ok (.iload_n 2, 1) := by decide +kernel
theorem dX12_verdict_47 : decode cX12_verdict 47 = .ok (.invokevirtual 460, 3) := by decide +kernel
theorem dX12_verdict_50 : decode cX12_verdict 50 = .ok (.istore_n 3, 1) := by decide +kernel
theorem dX12_verdict_51 : decode cX12_verdict 51 = .ok (.iload_n 3, 1) := by decide +kernel
theorem dX12_verdict_52 : decode cX12_verdict 52 = .ok (.ifCond .ne 7, 3) := by decide +kernel
theorem dX12_verdict_55 : decode cX12_verdict 55 = .ok (.iconst 0, 1) := by decide +kernel
theorem dX12_verdict_56 : decode cX12_verdict 56 = .ok (.goto 16, 3) := by decide +kernel
theorem dX12_verdict_59 : decode cX12_verdict 59 = .ok (.iload_n 3, 1) := by decide +kernel
theorem dX12_verdict_60 : decode cX12_verdict 60 = .ok (.aload_n 0, 1) := by decide +kernel
theorem dX12_verdict_61 : decode cX12_verdict 61 = .ok (.invokevirtual 466, 3) := by decide +kernel
theorem dX12_verdict_64 : decode cX12_verdict 64 = .ok (.if_icmp .ne 7, 3) := by decide +kernel
theorem dX12_verdict_67 : decode cX12_verdict 67 = .ok (.iconst 2, 1) := by decide +kernel
theorem dX12_verdict_68 : decode cX12_verdict 68 = .ok (.goto 4, 3) := by decide +kernel
theorem dX12_verdict_71 : decode cX12_verdict 71 = .ok (.iconst 1, 1) := by decide +kernel
theorem dX12_verdict_72 : decode cX12_verdict 72 = .ok (.ireturn, 1) := by decide +kernel
theorem dX12_lineOf_0 : decode cX12_lineOf 0 = .ok (.aload_n 0, 1) := by decide +kernel
theorem dX12_lineOf_1 : decode cX12_lineOf 1 = .ok (.invokevirtual 211, 3) := by decide +kernel
theorem dX12_lineOf_4 : decode cX12_lineOf 4 = .ok (.aload_n 0, 1) := by decide +kernel
theorem dX12_lineOf_5 : decode cX12_lineOf 5 = .ok (.iload_n 1, 1) := by decide +kernel
theorem dX12_lineOf_6 : decode cX12_lineOf 6 = .ok (.invokevirtual 315, 3) := by decide +kernel
theorem dX12_lineOf_9 : decode cX12_lineOf 9 = .ok (.ifCond .eq 11, 3) := by decide +kernel
theorem dX12_lineOf_12 : decode cX12_lineOf 12 = .ok (.aload_n 0, 1) := by decide +kernel
theorem dX12_lineOf_13 : decode cX12_lineOf 13 = .ok (.iload_n 2, 1) := by decide +kernel
theorem dX12_lineOf_14 : decode cX12_lineOf 14 = .ok (.invokevirtual 306, 3) := by decide +kernel
theorem dX12_lineOf_17 : decode cX12_lineOf 17 = .ok (.ifCond .ne 9, 3) := by decide +kernel
theorem dX12_lineOf_20 : decode cX12_lineOf 20 = .ok (.aload_n 0, 1) := by decide +kernel
theorem dX12_lineOf_21 : decode cX12_lineOf 21 = .ok (.iconst 1, 1) := by decide +kernel
theorem dX12_lineOf_22 : decode cX12_lineOf 22 = .ok (.invokevirtual 469, 3) := by decide +kernel
theorem dX12_lineOf_25 : decode cX12_lineOf 25 = .ok (.ireturn, 1) := by decide +kernel
theorem dX12_lineOf_26 : decode cX12_lineOf 26 = .ok (.aload_n 0, 1) := by decide +kernel
theorem dX12_lineOf_27 : decode cX12_lineOf 27 = .ok (.iload_n 1, 1) := by decide +kernel
theorem dX12_lineOf_28 : decode cX12_lineOf 28 = .ok (.invokevirtual 450, 3) := by decide +kernel
theorem dX12_lineOf_31 : decode cX12_lineOf 31 = .ok (.ifCond .ne 9, 3) := by decide +kernel
theorem dX12_lineOf_34 : decode cX12_lineOf 34 = .ok (.aload_n 0, 1) := by decide +kernel
theorem dX12_lineOf_35 : decode cX12_lineOf 35 = .ok (.iconst 3, 1) := by decide +kernel
theorem dX12_lineOf_36 : decode cX12_lineOf 36 = .ok (.invokevirtual 469, 3) := by decide +kernel
theorem dX12_lineOf_39 : decode cX12_lineOf 39 = .ok (.ireturn, 1) := by decide +kernel
theorem dX12_lineOf_40 : decode cX12_lineOf 40 = .ok (.iconst 0, 1) := by decide +kernel
theorem dX12_lineOf_41 : decode cX12_lineOf 41 = .ok (.istore 4, 2) := by decide +kernel
theorem dX12_lineOf_43 : decode cX12_lineOf 43 = .ok (.iload 4, 2) := by decide +kernel
theorem dX12_lineOf_45 : decode cX12_lineOf 45 = .ok (.bipush 100, 2) := by decide +kernel
theorem dX12_lineOf_47 : decode cX12_lineOf 47 = .ok (.if_icmp .gt 41, 3) := by decide +kernel
theorem dX12_lineOf_50 : decode cX12_lineOf 50 = .ok (.iload_n 3, 1) := by decide +kernel
theorem dX12_lineOf_51 : decode cX12_lineOf 51 = .ok (.ifCond .eq 11, 3) := by decide +kernel
theorem dX12_lineOf_54 : decode cX12_lineOf 54 = .ok (.bipush 50, 2) := by decide +kernel
theorem dX12_lineOf_56 : decode cX12_lineOf 56 = .ok (.iload 4, 2) := by decide +kernel
theorem dX12_lineOf_58 : decode cX12_lineOf 58 = .ok (.isub, 1) := by decide +kernel
theorem dX12_lineOf_59 : decode cX12_lineOf 59 = .ok (.goto 8, 3) := by decide +kernel
theorem dX12_lineOf_62 : decode cX12_lineOf 62 = .ok (.iload 4, 2) := by decide +kernel
theorem dX12_lineOf_64 : decode cX12_lineOf 64 = .ok (.bipush 50, 2) := by decide +kernel
theorem dX12_lineOf_66 : decode cX12_lineOf 66 = .ok (.isub, 1) := by decide +kernel
theorem dX12_lineOf_67 : decode cX12_lineOf 67 = .ok (.istore 5, 2) := by decide +kernel
theorem dX12_lineOf_69 : decode cX12_lineOf 69 = .ok (.aload_n 0, 1) := by decide +kernel
theorem dX12_lineOf_70 : decode cX12_lineOf 70 = .ok (.iload_n 2, 1) := by decide +kernel
theorem dX12_lineOf_71 : decode cX12_lineOf 71 = .ok (.iload 5, 2) := by decide +kernel
theorem dX12_lineOf_73 : decode cX12_lineOf 73 = .ok (.invokevirtual 453, 3) := by decide +kernel
theorem dX12_lineOf_76 : decode cX12_lineOf 76 = .ok (.ifCond .eq 6, 3) := by decide +kernel
theorem dX12_lineOf_79 : decode cX12_lineOf 79 = .ok (.iload 5, 2) := by decide +kernel
theorem dX12_lineOf_81 : decode cX12_lineOf 81 = .ok (.ireturn, 1) := by decide +kernel
theorem dX12_lineOf_82 : decode cX12_lineOf 82 = .ok (.iinc 4 1, 3) := by decide +kernel
theorem dX12_lineOf_85 : decode cX12_lineOf 85 = .ok (.goto (-42), 3) := by decide +kernel
theorem dX12_lineOf_88 : decode cX12_lineOf 88 = .ok (.aload_n 0, 1) := by decide +kernel
theorem dX12_lineOf_89 : decode cX12_lineOf 89 = .ok (.bipush 6, 2) := by decide +kernel
theorem dX12_lineOf_91 : decode cX12_lineOf 91 = .ok (.invokevirtual 469, 3) := by decide +kernel
theorem dX12_lineOf_94 : decode cX12_lineOf 94 = .ok (.ireturn, 1) := by decide +kernel
theorem dX12_secondOf_0 : decode cX12_secondOf 0 = .ok (.aload_n 0, 1) := by decide +kernel
theorem dX12_secondOf_1 : decode cX12_secondOf 1 = .ok (.invokevirtual 211, 3) := by decide +kernel
theorem dX12_secondOf_4 : decode cX12_secondOf 4 = .ok (.aload_n 0, 1) := by decide +kernel
theorem dX12_secondOf_5 : decode cX12_secondOf 5 = .ok (.iload_n 1, 1) := by decide +kernel
theorem dX12_secondOf_6 : decode cX12_secondOf 6 = .ok (.invokevirtual 315, 3) := by decide +kernel
theorem dX12_secondOf_9 : decode cX12_secondOf 9 = .ok (.ifCond .eq 11, 3) := by decide +kernel
theorem dX12_secondOf_12 : decode cX12_secondOf 12 = .ok (.aload_n 0, 1) := by decide +kernel
theorem dX12_secondOf_13 : decode cX12_secondOf 13 = .ok (.iload_n 2, 1) := by decide +kernel
theorem dX12_secondOf_14 : decode cX12_secondOf 14 = .ok (.invokevirtual 306, 3) := by decide +kernel
theorem dX12_secondOf_17 : decode cX12_secondOf 17 = .ok (.ifCond .ne 9, 3) := by decide +kernel
theorem dX12_secondOf_20 : decode cX12_secondOf 20 = .ok (.aload_n 0, 1) := by decide +kernel
theorem dX12_secondOf_21 : decode cX12_secondOf 21 = .ok (.iconst 1, 1) := by decide +kernel
theorem dX12_secondOf_22 : decode cX12_secondOf 22 = .ok (.invokevirtual 469, 3) := by decide +kernel
theorem dX12_secondOf_25 : decode cX12_secondOf 25 = .ok (.ireturn, 1) := by decide +kernel
theorem dX12_secondOf_26 : decode cX12_secondOf 26 = .ok (.aload_n 0, 1) := by decide +kernel
theorem dX12_secondOf_27 : decode cX12_secondOf 27 = .ok (.iload_n 1, 1) := by decide +kernel
theorem dX12_secondOf_28 : decode cX12_secondOf 28 = .ok (.invokevirtual 450, 3) := by decide +kernel
theorem dX12_secondOf_31 : decode cX12_secondOf 31 = .ok (.ifCond .ne 9, 3) := by decide +kernel
theorem dX12_secondOf_34 : decode cX12_secondOf 34 = .ok (.aload_n 0, 1) := by decide +kernel
theorem dX12_secondOf_35 : decode cX12_secondOf 35 = .ok (.iconst 3, 1) := by decide +kernel
theorem dX12_secondOf_36 : decode cX12_secondOf 36 = .ok (.invokevirtual 469, 3) := by decide +kernel
theorem dX12_secondOf_39 : decode cX12_secondOf 39 = .ok (.ireturn, 1) := by decide +kernel
theorem dX12_secondOf_40 : decode cX12_secondOf 40 = .ok (.iconst 0, 1) := by decide +kernel
theorem dX12_secondOf_41 : decode cX12_secondOf 41 = .ok (.istore 4, 2) := by decide +kernel
theorem dX12_secondOf_43 : decode cX12_secondOf 43 = .ok (.iload 4, 2) := by decide +kernel
theorem dX12_secondOf_45 : decode cX12_secondOf 45 = .ok (.bipush 100, 2) := by decide +kernel
theorem dX12_secondOf_47 : decode cX12_secondOf 47 = .ok (.if_icmp .gt 42, 3) := by decide +kernel
theorem dX12_secondOf_50 : decode cX12_secondOf 50 = .ok (.iload_n 3, 1) := by decide +kernel
theorem dX12_secondOf_51 : decode cX12_secondOf 51 = .ok (.ifCond .eq 11, 3) := by decide +kernel
theorem dX12_secondOf_54 : decode cX12_secondOf 54 = .ok (.bipush 50, 2) := by decide +kernel
theorem dX12_secondOf_56 : decode cX12_secondOf 56 = .ok (.iload 4, 2) := by decide +kernel
theorem dX12_secondOf_58 : decode cX12_secondOf 58 = .ok (.isub, 1) := by decide +kernel
theorem dX12_secondOf_59 : decode cX12_secondOf 59 = .ok (.goto 8, 3) := by decide +kernel
theorem dX12_secondOf_62 : decode cX12_secondOf 62 = .ok (.iload 4, 2) := by decide +kernel
theorem dX12_secondOf_64 : decode cX12_secondOf 64 = .ok (.bipush 50, 2) := by decide +kernel
theorem dX12_secondOf_66 : decode cX12_secondOf 66 = .ok (.isub, 1) := by decide +kernel
theorem dX12_secondOf_67 : decode cX12_secondOf 67 = .ok (.istore 5, 2) := by decide +kernel
theorem dX12_secondOf_69 : decode cX12_secondOf 69 = .ok (.aload_n 0, 1) := by decide +kernel
theorem dX12_secondOf_70 : decode cX12_secondOf 70 = .ok (.iload_n 1, 1) := by decide +kernel
theorem dX12_secondOf_71 : decode cX12_secondOf 71 = .ok (.iload_n 2, 1) := by decide +kernel
theorem dX12_secondOf_72 : decode cX12_secondOf 72 = .ok (.iload 5, 2) := by decide +kernel
theorem dX12_secondOf_74 : decode cX12_secondOf 74 = .ok (.invokevirtual 457, 3) := by decide +kernel
theorem dX12_secondOf_77 : decode cX12_secondOf 77 = .ok (.ifCond .eq 6, 3) := by decide +kernel
theorem dX12_secondOf_80 : decode cX12_secondOf 80 = .ok (.iload 5, 2) := by decide +kernel
theorem dX12_secondOf_82 : decode cX12_secondOf 82 = .ok (.ireturn, 1) := by decide +kernel
theorem dX12_secondOf_83 : decode cX12_secondOf 83 = .ok (.iinc 4 1, 3) := by decide +kernel
theorem dX12_secondOf_86 : decode cX12_secondOf 86 = .ok (.goto (-43), 3) := by decide +kernel
theorem dX12_secondOf_89 : decode cX12_secondOf 89 = .ok (.aload_n 0, 1) := by decide +kernel
theorem dX12_secondOf_90 : decode cX12_secondOf 90 = .ok (.bipush 6, 2) := by decide +kernel
theorem dX12_secondOf_92 : decode cX12_secondOf 92 = .ok (.invokevirtual 469, 3) := by decide +kernel
theorem dX12_secondOf_95 : decode cX12_secondOf 95 = .ok (.ireturn, 1) := by decide +kernel
theorem dX12_freshOdds_0 : decode cX12_freshOdds 0 = .ok (.aload_n 0, 1) := by decide +kernel
theorem dX12_freshOdds_1 : decode cX12_freshOdds 1 = .ok (.iload_n 1, 1) := by decide +kernel
theorem dX12_freshOdds_2 : decode cX12_freshOdds 2 = .ok (.iload_n 2, 1) := by decide +kernel
theorem dX12_freshOdds_3 : decode cX12_freshOdds 3 = .ok (.iload_n 3, 1) := by decide +kernel
theorem dX12_freshOdds_4 : decode cX12_freshOdds 4 = .ok (.iload 4, 2) := by decide +kernel
theorem dX12_freshOdds_6 : decode cX12_freshOdds 6 = .ok (.iconst 0, 1) := by decide +kernel
theorem dX12_freshOdds_7 : decode cX12_freshOdds 7 = .ok (.iload 5, 2) := by decide +kernel
theorem dX12_freshOdds_9 : decode cX12_freshOdds 9 = .ok (.iconst 0, 1) := by decide +kernel
theorem dX12_freshOdds_10 : decode cX12_freshOdds 10 = .ok (.aload_n 0, 1) := by decide +kernel
theorem dX12_freshOdds_11 : decode cX12_freshOdds 11 = .ok (.aload_n 0, 1) := by decide +kernel
theorem dX12_freshOdds_12 : decode cX12_freshOdds 12 = .ok (.getfield 20, 3) := by decide +kernel
theorem dX12_freshOdds_15 : decode cX12_freshOdds 15 = .ok (.bipush 120, 2) := by decide +kernel
theorem dX12_freshOdds_17 : decode cX12_freshOdds 17 = .ok (.iload_n 1, 1) := by decide +kernel
theorem dX12_freshOdds_18 : decode cX12_freshOdds 18 = .ok (.iadd, 1) := by decide +kernel
theorem dX12_freshOdds_19 : decode cX12_freshOdds 19 = .ok (.iaload, 1) := by decide +kernel
theorem dX12_freshOdds_20 : decode cX12_freshOdds 20 = .ok (.invokevirtual 443, 3) := by decide +kernel
theorem dX12_freshOdds_23 : decode cX12_freshOdds 23 = .ok (.invokevirtual 363, 3) := by decide +kernel
theorem dX12_freshOdds_26 : decode cX12_freshOdds 26 = .ok (.ireturn, 1) := by decide +kernel
theorem dX12_moreOf_0 : decode cX12_moreOf 0 = .ok (.aload_n 0, 1) := by decide +kernel
theorem dX12_moreOf_1 : decode cX12_moreOf 1 = .ok (.aload_n 0, 1) := by decide +kernel
theorem dX12_moreOf_2 : decode cX12_moreOf 2 = .ok (.getfield 20, 3) := by decide +kernel
theorem dX12_moreOf_5 : decode cX12_moreOf 5 = .ok (.bipush 120, 2) := by decide +kernel
theorem dX12_moreOf_7 : decode cX12_moreOf 7 = .ok (.iload_n 1, 1) := by decide +kernel
theorem dX12_moreOf_8 : decode cX12_moreOf 8 = .ok (.iadd, 1) := by decide +kernel
theorem dX12_moreOf_9 : decode cX12_moreOf 9 = .ok (.iaload, 1) := by decide +kernel
theorem dX12_moreOf_10 : decode cX12_moreOf 10 = .ok (.aload_n 0, 1) := by decide +kernel
theorem dX12_moreOf_11 : decode cX12_moreOf 11 = .ok (.aload_n 0, 1) := by decide +kernel
theorem dX12_moreOf_12 : decode cX12_moreOf 12 = .ok (.getfield 20, 3) := by decide +kernel
theorem dX12_moreOf_15 : decode cX12_moreOf 15 = .ok (.bipush 120, 2) := by decide +kernel
theorem dX12_moreOf_17 : decode cX12_moreOf 17 = .ok (.iload_n 1, 1) := by decide +kernel
theorem dX12_moreOf_18 : decode cX12_moreOf 18 = .ok (.iadd, 1) := by decide +kernel
theorem dX12_moreOf_19 : decode cX12_moreOf 19 = .ok (.iaload, 1) := by decide +kernel
theorem dX12_moreOf_20 : decode cX12_moreOf 20 = .ok (.invokevirtual 443, 3) := by decide +kernel
theorem dX12_moreOf_23 : decode cX12_moreOf 23 = .ok (.invokevirtual 324, 3) := by decide +kernel
theorem dX12_moreOf_26 : decode cX12_moreOf 26 = .ok (.istore 4, 2) := by decide +kernel
theorem dX12_moreOf_28 : decode cX12_moreOf 28 = .ok (.iconst 1, 1) := by decide +kernel
theorem dX12_moreOf_29 : decode cX12_moreOf 29 = .ok (.istore 5, 2) := by decide +kernel
theorem dX12_moreOf_31 : decode cX12_moreOf 31 = .ok (.iload_n 2, 1) := by decide +kernel
theorem dX12_moreOf_32 : decode cX12_moreOf 32 = .ok (.iload 5, 2) := by decide +kernel
theorem dX12_moreOf_34 : decode cX12_moreOf 34 = .ok (.iadd, 1) := by decide +kernel
theorem dX12_moreOf_35 : decode cX12_moreOf 35 = .ok (.sipush 400, 3) := by decide +kernel
theorem dX12_moreOf_38 : decode cX12_moreOf 38 = .ok (.if_icmp .gt 37, 3) := by decide +kernel
theorem dX12_moreOf_41 : decode cX12_moreOf 41 = .ok (.bipush 100, 2) := by decide +kernel
theorem dX12_moreOf_43 : decode cX12_moreOf 43 = .ok (.aload_n 0, 1) := by decide +kernel
theorem dX12_moreOf_44 : decode cX12_moreOf 44 = .ok (.iload_n 1, 1) := by decide +kernel
theorem dX12_moreOf_45 : decode cX12_moreOf 45 = .ok (.iconst 0, 1) := by decide +kernel
theorem dX12_moreOf_46 : decode cX12_moreOf 46 = .ok (.iload_n 2, 1) := by decide +kernel
theorem dX12_moreOf_47 : decode cX12_moreOf 47 = .ok (.iload_n 2, 1) := by decide +kernel
theorem dX12_moreOf_48 : decode cX12_moreOf 48 = .ok (.iload 5, 2) := by decide +kernel
theorem dX12_moreOf_50 : decode cX12_moreOf 50 = .ok (.iadd, 1) := by decide +kernel
theorem dX12_moreOf_51 : decode cX12_moreOf 51 = .ok (.iconst 1, 1) := by decide +kernel
theorem dX12_moreOf_52 : decode cX12_moreOf 52 = .ok (.invokevirtual 472, 3) := by decide +kernel
theorem dX12_moreOf_55 : decode cX12_moreOf 55 = .ok (.imul, 1) := by decide +kernel
theorem dX12_moreOf_56 : decode cX12_moreOf 56 = .ok (.iload_n 3, 1) := by decide +kernel
theorem dX12_moreOf_57 : decode cX12_moreOf 57 = .ok (.iload 4, 2) := by decide +kernel
theorem dX12_moreOf_59 : decode cX12_moreOf 59 = .ok (.imul, 1) := by decide +kernel
theorem dX12_moreOf_60 : decode cX12_moreOf 60 = .ok (.iload 4, 2) := by decide +kernel
theorem dX12_moreOf_62 : decode cX12_moreOf 62 = .ok (.imul, 1) := by decide +kernel
theorem dX12_moreOf_63 : decode cX12_moreOf 63 = .ok (.if_icmp .lt 6, 3) := by decide +kernel
theorem dX12_moreOf_66 : decode cX12_moreOf 66 = .ok (.iload 5, 2) := by decide +kernel
theorem dX12_moreOf_68 : decode cX12_moreOf 68 = .ok (.ireturn, 1) := by decide +kernel
theorem dX12_moreOf_69 : decode cX12_moreOf 69 = .ok (.iinc 5 1, 3) := by decide +kernel
theorem dX12_moreOf_72 : decode cX12_moreOf 72 = .ok (.goto (-41), 3) := by decide +kernel
theorem dX12_moreOf_75 : decode cX12_moreOf 75 = .ok (.bipush (-2), 2) := by decide +kernel
theorem dX12_moreOf_77 : decode cX12_moreOf 77 = .ok (.ireturn, 1) := by decide +kernel
theorem dX12_more_0 : decode cX12_more 0 = .ok (.aload_n 0, 1) := by decide +kernel
theorem dX12_more_1 : decode cX12_more 1 = .ok (.invokevirtual 211, 3) := by decide +kernel
theorem dX12_more_4 : decode cX12_more 4 = .ok (.aload_n 0, 1) := by decide +kernel
theorem dX12_more_5 : decode cX12_more 5 = .ok (.iload_n 1, 1) := by decide +kernel
theorem dX12_more_6 : decode cX12_more 6 = .ok (.invokevirtual 315, 3) := by decide +kernel
theorem dX12_more_9 : decode cX12_more 9 = .ok (.ifCond .ne 9, 3) := by decide +kernel
theorem dX12_more_12 : decode cX12_more 12 = .ok (.aload_n 0, 1) := by decide +kernel
theorem dX12_more_13 : decode cX12_more 13 = .ok (.iconst 1, 1) := by decide +kernel
theorem dX12_more_14 : decode cX12_more 14 = .ok (.invokevirtual 214, 3) := by decide +kernel
theorem dX12_more_17 : decode cX12_more 17 = .ok (.ireturn, 1) := by decide +kernel
theorem dX12_more_18 : decode cX12_more 18 = .ok (.iload_n 2, 1) := by decide +kernel
theorem dX12_more_19 : decode cX12_more 19 = .ok (.iconst 1, 1) := by decide +kernel
theorem dX12_more_20 : decode cX12_more 20 = .ok (.sipush 400, 3) := by decide +kernel
theorem dX12_more_23 : decode cX12_more 23 = .ok (.invokestatic 203, 3) := by decide +kernel
theorem dX12_more_26 : decode cX12_more 26 = .ok (.ifCond .eq 23, 3) := by decide +kernel
theorem dX12_more_29 : decode cX12_more 29 = .ok (.iload_n 3, 1) := by decide +kernel
theorem dX12_more_30 : decode cX12_more 30 = .ok (.iconst 1, 1) := by decide +kernel
theorem dX12_more_31 : decode cX12_more 31 = .ok (.bipush 100, 2) := by decide +kernel
theorem dX12_more_33 : decode cX12_more 33 = .ok (.invokestatic 203, 3) := by decide +kernel
theorem dX12_more_36 : decode cX12_more 36 = .ok (.ifCond .eq 13, 3) := by decide +kernel
theorem dX12_more_39 : decode cX12_more 39 = .ok (.aload_n 0, 1) := by decide +kernel
theorem dX12_more_40 : decode cX12_more 40 = .ok (.iload_n 1, 1) := by decide +kernel
theorem dX12_more_41 : decode cX12_more 41 = .ok (.iload_n 2, 1) := by decide +kernel
theorem dX12_more_42 : decode cX12_more 42 = .ok (.iload_n 3, 1) := by decide +kernel
theorem dX12_more_43 : decode cX12_more 43 = .ok (.invokevirtual 475, 3) := by decide +kernel
theorem dX12_more_46 : decode cX12_more 46 = .ok (.goto 8, 3) := by decide +kernel
theorem dX12_more_49 : decode cX12_more 49 = .ok (.aload_n 0, 1) := by decide +kernel
theorem dX12_more_50 : decode cX12_more 50 = .ok (.iconst 2, 1) := by decide +kernel
theorem dX12_more_51 : decode cX12_more 51 = .ok (.invokevirtual 214, 3) := by decide +kernel
theorem dX12_more_54 : decode cX12_more 54 = .ok (.ireturn, 1) := by decide +kernel
theorem dX12_fails_0 : decode cX12_fails 0 = .ok (.aload_n 0, 1) := by decide +kernel
theorem dX12_fails_1 : decode cX12_fails 1 = .ok (.invokevirtual 211, 3) := by decide +kernel
theorem dX12_fails_4 : decode cX12_fails 4 = .ok (.aload_n 0, 1) := by decide +kernel
theorem dX12_fails_5 : decode cX12_fails 5 = .ok (.iload_n 1, 1) := by decide +kernel
theorem dX12_fails_6 : decode cX12_fails 6 = .ok (.invokevirtual 315, 3) := by decide +kernel
theorem dX12_fails_9 : decode cX12_fails 9 = .ok (.ifCond .ne 9, 3) := by decide +kernel
theorem dX12_fails_12 : decode cX12_fails 12 = .ok (.aload_n 0, 1) := by decide +kernel
theorem dX12_fails_13 : decode cX12_fails 13 = .ok (.iconst 1, 1) := by decide +kernel
theorem dX12_fails_14 : decode cX12_fails 14 = .ok (.invokevirtual 214, 3) := by decide +kernel
theorem dX12_fails_17 : decode cX12_fails 17 = .ok (.ireturn, 1) := by decide +kernel
theorem dX12_fails_18 : decode cX12_fails 18 = .ok (.iload_n 2, 1) := by decide +kernel
theorem dX12_fails_19 : decode cX12_fails 19 = .ok (.iconst 1, 1) := by decide +kernel
theorem dX12_fails_20 : decode cX12_fails 20 = .ok (.bipush 100, 2) := by decide +kernel
theorem dX12_fails_22 : decode cX12_fails 22 = .ok (.invokestatic 203, 3) := by decide +kernel
theorem dX12_fails_25 : decode cX12_fails 25 = .ok (.ifCond .eq 38, 3) := by decide +kernel
theorem dX12_fails_28 : decode cX12_fails 28 = .ok (.iload_n 3, 1) := by decide +kernel
theorem dX12_fails_29 : decode cX12_fails 29 = .ok (.iconst 1, 1) := by decide +kernel
theorem dX12_fails_30 : decode cX12_fails 30 = .ok (.sipush 400, 3) := by decide +kernel
theorem dX12_fails_33 : decode cX12_fails 33 = .ok (.invokestatic 203, 3) := by decide +kernel
theorem dX12_fails_36 : decode cX12_fails 36 = .ok (.ifCond .eq 27, 3) := by decide +kernel
theorem dX12_fails_39 : decode cX12_fails 39 = .ok (.iload 4, 2) := by decide +kernel
theorem dX12_fails_41 : decode cX12_fails 41 = .ok (.iload_n 3, 1) := by decide +kernel
theorem dX12_fails_42 : decode cX12_fails 42 = .ok (.sipush 400, 3) := by decide +kernel
theorem dX12_fails_45 : decode cX12_fails 45 = .ok (.invokestatic 203, 3) := by decide +kernel
theorem dX12_fails_48 : decode cX12_fails 48 = .ok (.ifCond .eq 15, 3) := by decide +kernel
theorem dX12_fails_51 : decode cX12_fails 51 = .ok (.iload 5, 2) := by decide +kernel
theorem dX12_fails_53 : decode cX12_fails 53 = .ok (.iconst 1, 1) := by decide +kernel
theorem dX12_fails_54 : decode cX12_fails 54 = .ok (.sipush 400, 3) := by decide +kernel
theorem dX12_fails_57 : decode cX12_fails 57 = .ok (.invokestatic 203, 3) := by decide +kernel
theorem dX12_fails_60 : decode cX12_fails 60 = .ok (.ifCond .ne 9, 3) := by decide +kernel
theorem dX12_fails_63 : decode cX12_fails 63 = .ok (.aload_n 0, 1) := by decide +kernel
theorem dX12_fails_64 : decode cX12_fails 64 = .ok (.iconst 2, 1) := by decide +kernel
theorem dX12_fails_65 : decode cX12_fails 65 = .ok (.invokevirtual 214, 3) := by decide +kernel
theorem dX12_fails_68 : decode cX12_fails 68 = .ok (.ireturn, 1) := by decide +kernel
theorem dX12_fails_69 : decode cX12_fails 69 = .ok (.iload_n 3, 1) := by decide +kernel
theorem dX12_fails_70 : decode cX12_fails 70 = .ok (.istore 6, 2) := by decide +kernel
theorem dX12_fails_72 : decode cX12_fails 72 = .ok (.iload 6, 2) := by decide +kernel
theorem dX12_fails_74 : decode cX12_fails 74 = .ok (.iload 4, 2) := by decide +kernel
theorem dX12_fails_76 : decode cX12_fails 76 = .ok (.if_icmp .gt 59, 3) := by decide +kernel
theorem dX12_fails_79 : decode cX12_fails 79 = .ok (.aload_n 0, 1) := by decide +kernel
theorem dX12_fails_80 : decode cX12_fails 80 = .ok (.iload_n 1, 1) := by decide +kernel
theorem dX12_fails_81 : decode cX12_fails 81 = .ok (.iload 6, 2) := by decide +kernel
theorem dX12_fails_83 : decode cX12_fails 83 = .ok (.iload_n 2, 1) := by decide +kernel
theorem dX12_fails_84 : decode cX12_fails 84 = .ok (.invokevirtual 475, 3) := by decide +kernel
theorem dX12_fails_87 : decode cX12_fails 87 = .ok (.istore 7, 2) := by decide +kernel
theorem dX12_fails_89 : decode cX12_fails 89 = .ok (.iload 6, 2) := by decide +kernel
theorem dX12_fails_91 : decode cX12_fails 91 = .ok (.iload 5, 2) := by decide +kernel
theorem dX12_fails_93 : decode cX12_fails 93 = .ok (.idiv, 1) := by decide +kernel
theorem dX12_fails_94 : decode cX12_fails 94 = .ok (.iconst 1, 1) := by decide +kernel
theorem dX12_fails_95 : decode cX12_fails 95 = .ok (.if_icmp .ge 7, 3) := by decide +kernel
theorem dX12_fails_98 : decode cX12_fails 98 = .ok (.iconst 1, 1) := by decide +kernel
theorem dX12_fails_99 : decode cX12_fails 99 = .ok (.goto 8, 3) := by decide +kernel
theorem dX12_fails_102 : decode cX12_fails 102 = .ok (.iload 6, 2) := by decide +kernel
theorem dX12_fails_104 : decode cX12_fails 104 = .ok (.iload 5, 2) := by decide +kernel
theorem dX12_fails_106 : decode cX12_fails 106 = .ok (.idiv, 1) := by decide +kernel
theorem dX12_fails_107 : decode cX12_fails 107 = .ok (.istore 8, 2) := by decide +kernel
theorem dX12_fails_109 : decode cX12_fails 109 = .ok (.iload 7, 2) := by decide +kernel
theorem dX12_fails_111 : decode cX12_fails 111 = .ok (.ifCond .lt 15, 3) := by decide +kernel
theorem dX12_fails_114 : decode cX12_fails 114 = .ok (.iload 7, 2) := by decide +kernel
theorem dX12_fails_116 : decode cX12_fails 116 = .ok (.iload 8, 2) := by decide +kernel
theorem dX12_fails_118 : decode cX12_fails 118 = .ok (.isub, 1) := by decide +kernel
theorem dX12_fails_119 : decode cX12_fails 119 = .ok (.invokestatic 333, 3) := by decide +kernel
theorem dX12_fails_122 : decode cX12_fails 122 = .ok (.iconst 1, 1) := by decide +kernel
theorem dX12_fails_123 : decode cX12_fails 123 = .ok (.if_icmp .le 6, 3) := by decide +kernel
theorem dX12_fails_126 : decode cX12_fails 126 = .ok (.iload 6, 2) := by decide +kernel
theorem dX12_fails_128 : decode cX12_fails 128 = .ok (.ireturn, 1) := by decide +kernel
theorem dX12_fails_129 : decode cX12_fails 129 = .ok (.iinc 6 1, 3) := by decide +kernel
theorem dX12_fails_132 : decode cX12_fails 132 = .ok (.goto (-60), 3) := by decide +kernel
theorem dX12_fails_135 : decode cX12_fails 135 = .ok (.bipush (-2), 2) := by decide +kernel
theorem dX12_fails_137 : decode cX12_fails 137 = .ok (.ireturn, 1) := by decide +kernel
theorem dX12_steps_0 : decode cX12_steps 0 = .ok (.aload_n 0, 1) := by decide +kernel
theorem dX12_steps_1 : decode cX12_steps 1 = .ok (.invokevirtual 211, 3) := by decide +kernel
theorem dX12_steps_4 : decode cX12_steps 4 = .ok (.aload_n 0, 1) := by decide +kernel
theorem dX12_steps_5 : decode cX12_steps 5 = .ok (.iload_n 1, 1) := by decide +kernel
theorem dX12_steps_6 : decode cX12_steps 6 = .ok (.invokevirtual 315, 3) := by decide +kernel
theorem dX12_steps_9 : decode cX12_steps 9 = .ok (.ifCond .ne 9, 3) := by decide +kernel
theorem dX12_steps_12 : decode cX12_steps 12 = .ok (.aload_n 0, 1) := by decide +kernel
theorem dX12_steps_13 : decode cX12_steps 13 = .ok (.iconst 1, 1) := by decide +kernel
theorem dX12_steps_14 : decode cX12_steps 14 = .ok (.invokevirtual 214, 3) := by decide +kernel
theorem dX12_steps_17 : decode cX12_steps 17 = .ok (.ireturn, 1) := by decide +kernel
theorem dX12_steps_18 : decode cX12_steps 18 = .ok (.iload_n 2, 1) := by decide +kernel
theorem dX12_steps_19 : decode cX12_steps 19 = .ok (.iconst 1, 1) := by decide +kernel
theorem dX12_steps_20 : decode cX12_steps 20 = .ok (.bipush 100, 2) := by decide +kernel
theorem dX12_steps_22 : decode cX12_steps 22 = .ok (.invokestatic 203, 3) := by decide +kernel
theorem dX12_steps_25 : decode cX12_steps 25 = .ok (.ifCond .eq 26, 3) := by decide +kernel
theorem dX12_steps_28 : decode cX12_steps 28 = .ok (.iload_n 3, 1) := by decide +kernel
theorem dX12_steps_29 : decode cX12_steps 29 = .ok (.iconst 1, 1) := by decide +kernel
theorem dX12_steps_30 : decode cX12_steps 30 = .ok (.sipush 400, 3) := by decide +kernel
theorem dX12_steps_33 : decode cX12_steps 33 = .ok (.invokestatic 203, 3) := by decide +kernel
theorem dX12_steps_36 : decode cX12_steps 36 = .ok (.ifCond .eq 15, 3) := by decide +kernel
theorem dX12_steps_39 : decode cX12_steps 39 = .ok (.iload 4, 2) := by decide +kernel
theorem dX12_steps_41 : decode cX12_steps 41 = .ok (.iconst 1, 1) := by decide +kernel
theorem dX12_steps_42 : decode cX12_steps 42 = .ok (.sipush 400, 3) := by decide +kernel
theorem dX12_steps_45 : decode cX12_steps 45 = .ok (.invokestatic 203, 3) := by decide +kernel
theorem dX12_steps_48 : decode cX12_steps 48 = .ok (.ifCond .ne 9, 3) := by decide +kernel
theorem dX12_steps_51 : decode cX12_steps 51 = .ok (.aload_n 0, 1) := by decide +kernel
theorem dX12_steps_52 : decode cX12_steps 52 = .ok (.iconst 2, 1) := by decide +kernel
theorem dX12_steps_53 : decode cX12_steps 53 = .ok (.invokevirtual 214, 3) := by decide +kernel
theorem dX12_steps_56 : decode cX12_steps 56 = .ok (.ireturn, 1) := by decide +kernel
theorem dX12_steps_57 : decode cX12_steps 57 = .ok (.iconst 0, 1) := by decide +kernel
theorem dX12_steps_58 : decode cX12_steps 58 = .ok (.istore 5, 2) := by decide +kernel
theorem dX12_steps_60 : decode cX12_steps 60 = .ok (.iload_n 3, 1) := by decide +kernel
theorem dX12_steps_61 : decode cX12_steps 61 = .ok (.istore 6, 2) := by decide +kernel
theorem dX12_steps_63 : decode cX12_steps 63 = .ok (.aload_n 0, 1) := by decide +kernel
theorem dX12_steps_64 : decode cX12_steps 64 = .ok (.iload_n 1, 1) := by decide +kernel
theorem dX12_steps_65 : decode cX12_steps 65 = .ok (.iload 6, 2) := by decide +kernel
theorem dX12_steps_67 : decode cX12_steps 67 = .ok (.iload_n 2, 1) := by decide +kernel
theorem dX12_steps_68 : decode cX12_steps 68 = .ok (.invokevirtual 475, 3) := by decide +kernel
theorem dX12_steps_71 : decode cX12_steps 71 = .ok (.istore 7, 2) := by decide +kernel
theorem dX12_steps_73 : decode cX12_steps 73 = .ok (.iload 7, 2) := by decide +kernel
theorem dX12_steps_75 : decode cX12_steps 75 = .ok (.ifCond .le 36, 3) := by decide +kernel
theorem dX12_steps_78 : decode cX12_steps 78 = .ok (.iload 6, 2) := by decide +kernel
theorem dX12_steps_80 : decode cX12_steps 80 = .ok (.iload 7, 2) := by decide +kernel
theorem dX12_steps_82 : decode cX12_steps 82 = .ok (.iadd, 1) := by decide +kernel
theorem dX12_steps_83 : decode cX12_steps 83 = .ok (.iload 4, 2) := by decide +kernel
theorem dX12_steps_85 : decode cX12_steps 85 = .ok (.if_icmp .gt 26, 3) := by decide +kernel
theorem dX12_steps_88 : decode cX12_steps 88 = .ok (.iload 6, 2) := by decide +kernel
theorem dX12_steps_90 : decode cX12_steps 90 = .ok (.iload 7, 2) := by decide +kernel
theorem dX12_steps_92 : decode cX12_steps 92 = .ok (.iadd, 1) := by decide +kernel
theorem dX12_steps_93 : decode cX12_steps 93 = .ok (.istore 6, 2) := by decide +kernel
theorem dX12_steps_95 : decode cX12_steps 95 = .ok (.iinc 5 1, 3) := by decide +kernel
theorem dX12_steps_98 : decode cX12_steps 98 = .ok (.aload_n 0, 1) := by decide +kernel
theorem dX12_steps_99 : decode cX12_steps 99 = .ok (.iload_n 1, 1) := by decide +kernel
theorem dX12_steps_100 : decode cX12_steps 100 = .ok (.iload 6, 2) := by decide +kernel
theorem dX12_steps_102 : decode cX12_steps 102 = .ok (.iload_n 2, 1) := by decide +kernel
theorem dX12_steps_103 : decode cX12_steps 103 = .ok (.invokevirtual 475, 3) := by decide +kernel
theorem dX12_steps_106 : decode cX12_steps 106 = .ok (.istore 7, 2) := by decide +kernel
theorem dX12_steps_108 : decode cX12_steps 108 = .ok (.goto (-35), 3) := by decide +kernel
theorem dX12_steps_111 : decode cX12_steps 111 = .ok (.iload 5, 2) := by decide +kernel
theorem dX12_steps_113 : decode cX12_steps 113 = .ok (.ireturn, 1) := by decide +kernel
theorem dX12_felt_0 : decode cX12_felt 0 = .ok (.aload_n 0, 1) := by decide +kernel
theorem dX12_felt_1 : decode cX12_felt 1 = .ok (.invokevirtual 211, 3) := by decide +kernel
theorem dX12_felt_4 : decode cX12_felt 4 = .ok (.aload_n 0, 1) := by decide +kernel
theorem dX12_felt_5 : decode cX12_felt 5 = .ok (.iload_n 1, 1) := by decide +kernel
theorem dX12_felt_6 : decode cX12_felt 6 = .ok (.invokevirtual 315, 3) := by decide +kernel
theorem dX12_felt_9 : decode cX12_felt 9 = .ok (.ifCond .ne 9, 3) := by decide +kernel
theorem dX12_felt_12 : decode cX12_felt 12 = .ok (.aload_n 0, 1) := by decide +kernel
theorem dX12_felt_13 : decode cX12_felt 13 = .ok (.iconst 1, 1) := by decide +kernel
theorem dX12_felt_14 : decode cX12_felt 14 = .ok (.invokevirtual 214, 3) := by decide +kernel
theorem dX12_felt_17 : decode cX12_felt 17 = .ok (.ireturn, 1) := by decide +kernel
theorem dX12_felt_18 : decode cX12_felt 18 = .ok (.iload_n 2, 1) := by decide +kernel
theorem dX12_felt_19 : decode cX12_felt 19 = .ok (.iconst 1, 1) := by decide +kernel
theorem dX12_felt_20 : decode cX12_felt 20 = .ok (.bipush 100, 2) := by decide +kernel
theorem dX12_felt_22 : decode cX12_felt 22 = .ok (.invokestatic 203, 3) := by decide +kernel
theorem dX12_felt_25 : decode cX12_felt 25 = .ok (.ifCond .ne 9, 3) := by decide +kernel
theorem dX12_felt_28 : decode cX12_felt 28 = .ok (.aload_n 0, 1) := by decide +kernel
theorem dX12_felt_29 : decode cX12_felt 29 = .ok (.iconst 2, 1) := by decide +kernel
theorem dX12_felt_30 : decode cX12_felt 30 = .ok (.invokevirtual 214, 3) := by decide +kernel
theorem dX12_felt_33 : decode cX12_felt 33 = .ok (.ireturn, 1) := by decide +kernel
theorem dX12_felt_34 : decode cX12_felt 34 = .ok (.aload_n 0, 1) := by decide +kernel
theorem dX12_felt_35 : decode cX12_felt 35 = .ok (.aload_n 0, 1) := by decide +kernel
theorem dX12_felt_36 : decode cX12_felt 36 = .ok (.getfield 20, 3) := by decide +kernel
theorem dX12_felt_39 : decode cX12_felt 39 = .ok (.bipush 120, 2) := by decide +kernel
theorem dX12_felt_41 : decode cX12_felt 41 = .ok (.iload_n 1, 1) := by decide +kernel
theorem dX12_felt_42 : decode cX12_felt 42 = .ok (.iadd, 1) := by decide +kernel
theorem dX12_felt_43 : decode cX12_felt 43 = .ok (.iaload, 1) := by decide +kernel
theorem dX12_felt_44 : decode cX12_felt 44 = .ok (.aload_n 0, 1) := by decide +kernel
theorem dX12_felt_45 : decode cX12_felt 45 = .ok (.aload_n 0, 1) := by decide +kernel
theorem dX12_felt_46 : decode cX12_felt 46 = .ok (.getfield 20, 3) := by decide +kernel
theorem dX12_felt_49 : decode cX12_felt 49 = .ok (.bipush 120, 2) := by decide +kernel
theorem dX12_felt_51 : decode cX12_felt 51 = .ok (.iload_n 1, 1) := by decide +kernel
theorem dX12_felt_52 : decode cX12_felt 52 = .ok (.iadd, 1) := by decide +kernel
theorem dX12_felt_53 : decode cX12_felt 53 = .ok (.iaload, 1) := by decide +kernel
theorem dX12_felt_54 : decode cX12_felt 54 = .ok (.invokevirtual 443, 3) := by decide +kernel
theorem dX12_felt_57 : decode cX12_felt 57 = .ok (.invokevirtual 324, 3) := by decide +kernel
theorem dX12_felt_60 : decode cX12_felt 60 = .ok (.istore_n 3, 1) := by decide +kernel
theorem dX12_felt_61 : decode cX12_felt 61 = .ok (.aload_n 0, 1) := by decide +kernel
theorem dX12_felt_62 : decode cX12_felt 62 = .ok (.iload_n 1, 1) := by decide +kernel
theorem dX12_felt_63 : decode cX12_felt 63 = .ok (.iconst 1, 1) := by decide +kernel
theorem dX12_felt_64 : decode cX12_felt 64 = .ok (.iconst 0, 1) := by decide +kernel
theorem dX12_felt_65 : decode cX12_felt 65 = .ok (.iconst 0, 1) := by decide +kernel
theorem dX12_felt_66 : decode cX12_felt 66 = .ok (.iconst 1, 1) := by decide +kernel
theorem dX12_felt_67 : decode cX12_felt 67 = .ok (.invokevirtual 472, 3) := by decide +kernel
theorem dX12_felt_70 : decode cX12_felt 70 = .ok (.istore 4, 2) := by decide +kernel
theorem dX12_felt_72 : decode cX12_felt 72 = .ok (.iconst 1, 1) := by decide +kernel
theorem dX12_felt_73 : decode cX12_felt 73 = .ok (.istore 5, 2) := by decide +kernel
theorem dX12_felt_75 : decode cX12_felt 75 = .ok (.iload 5, 2) := by decide +kernel
theorem dX12_felt_77 : decode cX12_felt 77 = .ok (.sipush 400, 3) := by decide +kernel
theorem dX12_felt_80 : decode cX12_felt 80 = .ok (.if_icmp .gt 34, 3) := by decide +kernel
theorem dX12_felt_83 : decode cX12_felt 83 = .ok (.bipush 100, 2) := by decide +kernel
theorem dX12_felt_85 : decode cX12_felt 85 = .ok (.aload_n 0, 1) := by decide +kernel
theorem dX12_felt_86 : decode cX12_felt 86 = .ok (.iload_n 1, 1) := by decide +kernel
theorem dX12_felt_87 : decode cX12_felt 87 = .ok (.iconst 1, 1) := by decide +kernel
theorem dX12_felt_88 : decode cX12_felt 88 = .ok (.iload 5, 2) := by decide +kernel
theorem dX12_felt_90 : decode cX12_felt 90 = .ok (.iconst 0, 1) := by decide +kernel
theorem dX12_felt_91 : decode cX12_felt 91 = .ok (.iconst 1, 1) := by decide +kernel
theorem dX12_felt_92 : decode cX12_felt 92 = .ok (.invokevirtual 472, 3) := by decide +kernel
theorem dX12_felt_95 : decode cX12_felt 95 = .ok (.iload 4, 2) := by decide +kernel
theorem dX12_felt_97 : decode cX12_felt 97 = .ok (.isub, 1) := by decide +kernel
theorem dX12_felt_98 : decode cX12_felt 98 = .ok (.imul, 1) := by decide +kernel
theorem dX12_felt_99 : decode cX12_felt 99 = .ok (.iload_n 2, 1) := by decide +kernel
theorem dX12_felt_100 : decode cX12_felt 100 = .ok (.iload_n 3, 1) := by decide +kernel
theorem dX12_felt_101 : decode cX12_felt 101 = .ok (.imul, 1) := by decide +kernel
theorem dX12_felt_102 : decode cX12_felt 102 = .ok (.if_icmp .lt 6, 3) := by decide +kernel
theorem dX12_felt_105 : decode cX12_felt 105 = .ok (.iload 5, 2) := by decide +kernel
theorem dX12_felt_107 : decode cX12_felt 107 = .ok (.ireturn, 1) := by decide +kernel
theorem dX12_felt_108 : decode cX12_felt 108 = .ok (.iinc 5 1, 3) := by decide +kernel
theorem dX12_felt_111 : decode cX12_felt 111 = .ok (.goto (-36), 3) := by decide +kernel
theorem dX12_felt_114 : decode cX12_felt 114 = .ok (.bipush (-2), 2) := by decide +kernel
theorem dX12_felt_116 : decode cX12_felt 116 = .ok (.ireturn, 1) := by decide +kernel
theorem dX12_isPay_0 : decode cX12_isPay 0 = .ok (.aload_n 0, 1) := by decide +kernel
theorem dX12_isPay_1 : decode cX12_isPay 1 = .ok (.getfield 220, 3) := by decide +kernel
theorem dX12_isPay_4 : decode cX12_isPay 4 = .ok (.ifCond .eq 25, 3) := by decide +kernel
theorem dX12_isPay_7 : decode cX12_isPay 7 = .ok (.iload_n 1, 1) := by decide +kernel
theorem dX12_isPay_8 : decode cX12_isPay 8 = .ok (.iconst 0, 1) := by decide +kernel
theorem dX12_isPay_9 : decode cX12_isPay 9 = .ok (.aload_n 0, 1) := by decide +kernel
theorem dX12_isPay_10 : decode cX12_isPay 10 = .ok (.getfield 20, 3) := by decide +kernel
theorem dX12_isPay_13 : decode cX12_isPay 13 = .ok (.sipush 241, 3) := by decide +kernel
theorem dX12_isPay_16 : decode cX12_isPay 16 = .ok (.iaload, 1) := by decide +kernel
theorem dX12_isPay_17 : decode cX12_isPay 17 = .ok (.iconst 1, 1) := by decide +kernel
theorem dX12_isPay_18 : decode cX12_isPay 18 = .ok (.isub, 1) := by decide +kernel
theorem dX12_isPay_19 : decode cX12_isPay 19 = .ok (.invokestatic 203, 3) := by decide +kernel
theorem dX12_isPay_22 : decode cX12_isPay 22 = .ok (.ifCond .eq 7, 3) := by decide +kernel
theorem dX12_isPay_25 : decode cX12_isPay 25 = .ok (.iconst 1, 1) := by decide +kernel
theorem dX12_isPay_26 : decode cX12_isPay 26 = .ok (.goto 4, 3) := by decide +kernel
theorem dX12_isPay_29 : decode cX12_isPay 29 = .ok (.iconst 0, 1) := by decide +kernel
theorem dX12_isPay_30 : decode cX12_isPay 30 = .ok (.ireturn, 1) := by decide +kernel
theorem dX12_above_0 : decode cX12_above 0 = .ok (.aload_n 0, 1) := by decide +kernel
theorem dX12_above_1 : decode cX12_above 1 = .ok (.getfield 20, 3) := by decide +kernel
theorem dX12_above_4 : decode cX12_above 4 = .ok (.bipush 120, 2) := by decide +kernel
theorem dX12_above_6 : decode cX12_above 6 = .ok (.iload_n 1, 1) := by decide +kernel
theorem dX12_above_7 : decode cX12_above 7 = .ok (.iadd, 1) := by decide +kernel
theorem dX12_above_8 : decode cX12_above 8 = .ok (.iaload, 1) := by decide +kernel
theorem dX12_above_9 : decode cX12_above 9 = .ok (.istore 4, 2) := by decide +kernel
theorem dX12_above_11 : decode cX12_above 11 = .ok (.iconst 0, 1) := by decide +kernel
theorem dX12_above_12 : decode cX12_above 12 = .ok (.istore 5, 2) := by decide +kernel
theorem dX12_above_14 : decode cX12_above 14 = .ok (.bipush (-5), 2) := by decide +kernel
theorem dX12_above_16 : decode cX12_above 16 = .ok (.istore 6, 2) := by decide +kernel
theorem dX12_above_18 : decode cX12_above 18 = .ok (.iload 6, 2) := by decide +kernel
theorem dX12_above_20 : decode cX12_above 20 = .ok (.iconst 5, 1) := by decide +kernel
theorem dX12_above_21 : decode cX12_above 21 = .ok (.if_icmp .gt 46, 3) := by decide +kernel
theorem dX12_above_24 : decode cX12_above 24 = .ok (.iload 5, 2) := by decide +kernel
theorem dX12_above_26 : decode cX12_above 26 = .ok (.aload_n 0, 1) := by decide +kernel
theorem dX12_above_27 : decode cX12_above 27 = .ok (.iload 4, 2) := by decide +kernel
theorem dX12_above_29 : decode cX12_above 29 = .ok (.iload_n 2, 1) := by decide +kernel
theorem dX12_above_30 : decode cX12_above 30 = .ok (.invokevirtual 330, 3) := by decide +kernel
theorem dX12_above_33 : decode cX12_above 33 = .ok (.iload 6, 2) := by decide +kernel
theorem dX12_above_35 : decode cX12_above 35 = .ok (.iadd, 1) := by decide +kernel
theorem dX12_above_36 : decode cX12_above 36 = .ok (.iload_n 3, 1) := by decide +kernel
theorem dX12_above_37 : decode cX12_above 37 = .ok (.if_icmp .le 20, 3) := by decide +kernel
theorem dX12_above_40 : decode cX12_above 40 = .ok (.aload_n 0, 1) := by decide +kernel
theorem dX12_above_41 : decode cX12_above 41 = .ok (.iload 4, 2) := by decide +kernel
theorem dX12_above_43 : decode cX12_above 43 = .ok (.iload 6, 2) := by decide +kernel
theorem dX12_above_45 : decode cX12_above 45 = .ok (.aload_n 0, 1) := by decide +kernel
theorem dX12_above_46 : decode cX12_above 46 = .ok (.iload 4, 2) := by decide +kernel
theorem dX12_above_48 : decode cX12_above 48 = .ok (.invokevirtual 443, 3) := by decide +kernel
theorem dX12_above_51 : decode cX12_above 51 = .ok (.invokevirtual 309, 3) := by decide +kernel
theorem dX12_above_54 : decode cX12_above 54 = .ok (.goto 4, 3) := by decide +kernel
theorem dX12_above_57 : decode cX12_above 57 = .ok (.iconst 0, 1) := by decide +kernel
theorem dX12_above_58 : decode cX12_above 58 = .ok (.iadd, 1) := by decide +kernel
theorem dX12_above_59 : decode cX12_above 59 = .ok (.istore 5, 2) := by decide +kernel
theorem dX12_above_61 : decode cX12_above 61 = .ok (.iinc 6 1, 3) := by decide +kernel
theorem dX12_above_64 : decode cX12_above 64 = .ok (.goto (-46), 3) := by decide +kernel
theorem dX12_above_67 : decode cX12_above 67 = .ok (.iload 5, 2) := by decide +kernel
theorem dX12_above_69 : decode cX12_above 69 = .ok (.ireturn, 1) := by decide +kernel
theorem dX12_gainOf_0 : decode cX12_gainOf 0 = .ok (.aload_n 0, 1) := by decide +kernel
theorem dX12_gainOf_1 : decode cX12_gainOf 1 = .ok (.aload_n 0, 1) := by decide +kernel
theorem dX12_gainOf_2 : decode cX12_gainOf 2 = .ok (.getfield 20, 3) := by decide +kernel
theorem dX12_gainOf_5 : decode cX12_gainOf 5 = .ok (.bipush 120, 2) := by decide +kernel
theorem dX12_gainOf_7 : decode cX12_gainOf 7 = .ok (.iload_n 2, 1) := by decide +kernel
theorem dX12_gainOf_8 : decode cX12_gainOf 8 = .ok (.iadd, 1) := by decide +kernel
theorem dX12_gainOf_9 : decode cX12_gainOf 9 = .ok (.iaload, 1) := by decide +kernel
theorem dX12_gainOf_10 : decode cX12_gainOf 10 = .ok (.aload_n 0, 1) := by decide +kernel
theorem dX12_gainOf_11 : decode cX12_gainOf 11 = .ok (.aload_n 0, 1) := by decide +kernel
theorem dX12_gainOf_12 : decode cX12_gainOf 12 = .ok (.getfield 20, 3) := by decide +kernel
theorem dX12_gainOf_15 : decode cX12_gainOf 15 = .ok (.bipush 120, 2) := by decide +kernel
theorem dX12_gainOf_17 : decode cX12_gainOf 17 = .ok (.iload_n 2, 1) := by decide +kernel
theorem dX12_gainOf_18 : decode cX12_gainOf 18 = .ok (.iadd, 1) := by decide +kernel
theorem dX12_gainOf_19 : decode cX12_gainOf 19 = .ok (.iaload, 1) := by decide +kernel
theorem dX12_gainOf_20 : decode cX12_gainOf 20 = .ok (.invokevirtual 443, 3) := by decide +kernel
theorem dX12_gainOf_23 : decode cX12_gainOf 23 = .ok (.invokevirtual 324, 3) := by decide +kernel
theorem dX12_gainOf_26 : decode cX12_gainOf 26 = .ok (.istore 5, 2) := by decide +kernel
theorem dX12_gainOf_28 : decode cX12_gainOf 28 = .ok (.aload_n 0, 1) := by decide +kernel
theorem dX12_gainOf_29 : decode cX12_gainOf 29 = .ok (.getfield 20, 3) := by decide +kernel
theorem dX12_gainOf_32 : decode cX12_gainOf 32 = .ok (.sipush 234, 3) := by decide +kernel
theorem dX12_gainOf_35 : decode cX12_gainOf 35 = .ok (.iload_n 1, 1) := by decide +kernel
theorem dX12_gainOf_36 : decode cX12_gainOf 36 = .ok (.iadd, 1) := by decide +kernel
theorem dX12_gainOf_37 : decode cX12_gainOf 37 = .ok (.iaload, 1) := by decide +kernel
theorem dX12_gainOf_38 : decode cX12_gainOf 38 = .ok (.i2l, 1) := by decide +kernel
theorem dX12_gainOf_39 : decode cX12_gainOf 39 = .ok (.lstore 6, 2) := by decide +kernel
theorem dX12_gainOf_41 : decode cX12_gainOf 41 = .ok (.aload_n 0, 1) := by decide +kernel
theorem dX12_gainOf_42 : decode cX12_gainOf 42 = .ok (.iload_n 2, 1) := by decide +kernel
theorem dX12_gainOf_43 : decode cX12_gainOf 43 = .ok (.iload_n 3, 1) := by decide +kernel
theorem dX12_gainOf_44 : decode cX12_gainOf 44 = .ok (.iload 4, 2) := by decide +kernel
theorem dX12_gainOf_46 : decode cX12_gainOf 46 = .ok (.invokevirtual 478, 3) := by decide +kernel
theorem dX12_gainOf_49 : decode cX12_gainOf 49 = .ok (.i2l, 1) := by decide +kernel
theorem dX12_gainOf_50 : decode cX12_gainOf 50 = .ok (.lstore 8, 2) := by decide +kernel
theorem dX12_gainOf_52 : decode cX12_gainOf 52 = .ok (.aload_n 0, 1) := by decide +kernel
theorem dX12_gainOf_53 : decode cX12_gainOf 53 = .ok (.iload_n 2, 1) := by decide +kernel
theorem dX12_gainOf_54 : decode cX12_gainOf 54 = .ok (.iconst 0, 1) := by decide +kernel
theorem dX12_gainOf_55 : decode cX12_gainOf 55 = .ok (.iload 4, 2) := by decide +kernel
theorem dX12_gainOf_57 : decode cX12_gainOf 57 = .ok (.invokevirtual 478, 3) := by decide +kernel
theorem dX12_gainOf_60 : decode cX12_gainOf 60 = .ok (.i2l, 1) := by decide +kernel
theorem dX12_gainOf_61 : decode cX12_gainOf 61 = .ok (.lstore 10, 2) := by decide +kernel
theorem dX12_gainOf_63 : decode cX12_gainOf 63 = .ok (.lload 6, 2) := by decide +kernel
theorem dX12_gainOf_65 : decode cX12_gainOf 65 = .ok (.lload 8, 2) := by decide +kernel
theorem dX12_gainOf_67 : decode cX12_gainOf 67 = .ok (.aload_n 0, 1) := by decide +kernel
theorem dX12_gainOf_68 : decode cX12_gainOf 68 = .ok (.getfield 20, 3) := by decide +kernel
theorem dX12_gainOf_71 : decode cX12_gainOf 71 = .ok (.sipush 218, 3) := by decide +kernel
theorem dX12_gainOf_74 : decode cX12_gainOf 74 = .ok (.iload_n 1, 1) := by decide +kernel
theorem dX12_gainOf_75 : decode cX12_gainOf 75 = .ok (.iadd, 1) := by decide +kernel
theorem dX12_gainOf_76 : decode cX12_gainOf 76 = .ok (.iaload, 1) := by decide +kernel
theorem dX12_gainOf_77 : decode cX12_gainOf 77 = .ok (.i2l, 1) := by decide +kernel
theorem dX12_gainOf_78 : decode cX12_gainOf 78 = .ok (.lmul, 1) := by decide +kernel
theorem dX12_gainOf_79 : decode cX12_gainOf 79 = .ok (.iload 5, 2) := by decide +kernel
theorem dX12_gainOf_81 : decode cX12_gainOf 81 = .ok (.i2l, 1) := by decide +kernel
theorem dX12_gainOf_82 : decode cX12_gainOf 82 = .ok (.lload 8, 2) := by decide +kernel
theorem dX12_gainOf_84 : decode cX12_gainOf 84 = .ok (.lsub, 1) := by decide +kernel
theorem dX12_gainOf_85 : decode cX12_gainOf 85 = .ok (.aload_n 0, 1) := by decide +kernel
theorem dX12_gainOf_86 : decode cX12_gainOf 86 = .ok (.getfield 20, 3) := by decide +kernel
theorem dX12_gainOf_89 : decode cX12_gainOf 89 = .ok (.sipush 222, 3) := by decide +kernel
theorem dX12_gainOf_92 : decode cX12_gainOf 92 = .ok (.iload_n 1, 1) := by decide +kernel
theorem dX12_gainOf_93 : decode cX12_gainOf 93 = .ok (.iadd, 1) := by decide +kernel
theorem dX12_gainOf_94 : decode cX12_gainOf 94 = .ok (.iaload, 1) := by decide +kernel
theorem dX12_gainOf_95 : decode cX12_gainOf 95 = .ok (.i2l, 1) := by decide +kernel
theorem dX12_gainOf_96 : decode cX12_gainOf 96 = .ok (.lmul, 1) := by decide +kernel
theorem dX12_gainOf_97 : decode cX12_gainOf 97 = .ok (.ladd, 1) := by decide +kernel
theorem dX12_gainOf_98 : decode cX12_gainOf 98 = .ok (.lmul, 1) := by decide +kernel
theorem dX12_gainOf_99 : decode cX12_gainOf 99 = .ok (.ldc2_w 481, 3) := by decide +kernel
theorem dX12_gainOf_102 : decode cX12_gainOf 102 = .ok (.lload 6, 2) := by decide +kernel
theorem dX12_gainOf_104 : decode cX12_gainOf 104 = .ok (.lsub, 1) := by decide +kernel
theorem dX12_gainOf_105 : decode cX12_gainOf 105 = .ok (.lload 10, 2) := by decide +kernel
theorem dX12_gainOf_107 : decode cX12_gainOf 107 = .ok (.aload_n 0, 1) := by decide +kernel
theorem dX12_gainOf_108 : decode cX12_gainOf 108 = .ok (.getfield 20, 3) := by decide +kernel
theorem dX12_gainOf_111 : decode cX12_gainOf 111 = .ok (.sipush 226, 3) := by decide +kernel
theorem dX12_gainOf_114 : decode cX12_gainOf 114 = .ok (.iload_n 1, 1) := by decide +kernel
theorem dX12_gainOf_115 : decode cX12_gainOf 115 = .ok (.iadd, 1) := by decide +kernel
theorem dX12_gainOf_116 : decode cX12_gainOf 116 = .ok (.iaload, 1) := by decide +kernel
theorem dX12_gainOf_117 : decode cX12_gainOf 117 = .ok (.i2l, 1) := by decide +kernel
theorem dX12_gainOf_118 : decode cX12_gainOf 118 = .ok (.lmul, 1) := by decide +kernel
theorem dX12_gainOf_119 : decode cX12_gainOf 119 = .ok (.iload 5, 2) := by decide +kernel
theorem dX12_gainOf_121 : decode cX12_gainOf 121 = .ok (.i2l, 1) := by decide +kernel
theorem dX12_gainOf_122 : decode cX12_gainOf 122 = .ok (.lload 10, 2) := by decide +kernel
theorem dX12_gainOf_124 : decode cX12_gainOf 124 = .ok (.lsub, 1) := by decide +kernel
theorem dX12_gainOf_125 : decode cX12_gainOf 125 = .ok (.aload_n 0, 1) := by decide +kernel
theorem dX12_gainOf_126 : decode cX12_gainOf 126 = .ok (.getfield 20, 3) := by decide +kernel
theorem dX12_gainOf_129 : decode cX12_gainOf 129 = .ok (.sipush 230, 3) := by decide +kernel
theorem dX12_gainOf_132 : decode cX12_gainOf 132 = .ok (.iload_n 1, 1) := by decide +kernel
theorem dX12_gainOf_133 : decode cX12_gainOf 133 = .ok (.iadd, 1) := by decide +kernel
theorem dX12_gainOf_134 : decode cX12_gainOf 134 = .ok (.iaload, 1) := by decide +kernel
theorem dX12_gainOf_135 : decode cX12_gainOf 135 = .ok (.i2l, 1) := by decide +kernel
theorem dX12_gainOf_136 : decode cX12_gainOf 136 = .ok (.lmul, 1) := by decide +kernel
theorem dX12_gainOf_137 : decode cX12_gainOf 137 = .ok (.ladd, 1) := by decide +kernel
theorem dX12_gainOf_138 : decode cX12_gainOf 138 = .ok (.lmul, 1) := by decide +kernel
theorem dX12_gainOf_139 : decode cX12_gainOf 139 = .ok (.ladd, 1) := by decide +kernel
theorem dX12_gainOf_140 : decode cX12_gainOf 140 = .ok (.lreturn, 1) := by decide +kernel
theorem dX12_gain_0 : decode cX12_gain 0 = .ok (.aload_n 0, 1) := by decide +kernel
theorem dX12_gain_1 : decode cX12_gain 1 = .ok (.invokevirtual 211, 3) := by decide +kernel
theorem dX12_gain_4 : decode cX12_gain 4 = .ok (.aload_n 0, 1) := by decide +kernel
theorem dX12_gain_5 : decode cX12_gain 5 = .ok (.iload_n 1, 1) := by decide +kernel
theorem dX12_gain_6 : decode cX12_gain 6 = .ok (.invokevirtual 483, 3) := by decide +kernel
theorem dX12_gain_9 : decode cX12_gain 9 = .ok (.ifCond .eq 11, 3) := by decide +kernel
theorem dX12_gain_12 : decode cX12_gain 12 = .ok (.aload_n 0, 1) := by decide +kernel
theorem dX12_gain_13 : decode cX12_gain 13 = .ok (.iload_n 2, 1) := by decide +kernel
theorem dX12_gain_14 : decode cX12_gain 14 = .ok (.invokevirtual 315, 3) := by decide +kernel
theorem dX12_gain_17 : decode cX12_gain 17 = .ok (.ifCond .ne 9, 3) := by decide +kernel
theorem dX12_gain_20 : decode cX12_gain 20 = .ok (.aload_n 0, 1) := by decide +kernel
theorem dX12_gain_21 : decode cX12_gain 21 = .ok (.iconst 1, 1) := by decide +kernel
theorem dX12_gain_22 : decode cX12_gain 22 = .ok (.invokevirtual 486, 3) := by decide +kernel
theorem dX12_gain_25 : decode cX12_gain 25 = .ok (.lreturn, 1) := by decide +kernel
theorem dX12_gain_26 : decode cX12_gain 26 = .ok (.iload_n 3, 1) := by decide +kernel
theorem dX12_gain_27 : decode cX12_gain 27 = .ok (.iconst 1, 1) := by decide +kernel
theorem dX12_gain_28 : decode cX12_gain 28 = .ok (.sipush 400, 3) := by decide +kernel
theorem dX12_gain_31 : decode cX12_gain 31 = .ok (.invokestatic 203, 3) := by decide +kernel
theorem dX12_gain_34 : decode cX12_gain 34 = .ok (.ifCond .eq 27, 3) := by decide +kernel
theorem dX12_gain_37 : decode cX12_gain 37 = .ok (.iload 4, 2) := by decide +kernel
theorem dX12_gain_39 : decode cX12_gain 39 = .ok (.bipush (-50), 2) := by decide +kernel
theorem dX12_gain_41 : decode cX12_gain 41 = .ok (.bipush 50, 2) := by decide +kernel
theorem dX12_gain_43 : decode cX12_gain 43 = .ok (.invokestatic 203, 3) := by decide +kernel
theorem dX12_gain_46 : decode cX12_gain 46 = .ok (.ifCond .eq 15, 3) := by decide +kernel
theorem dX12_gain_49 : decode cX12_gain 49 = .ok (.aload_n 0, 1) := by decide +kernel
theorem dX12_gain_50 : decode cX12_gain 50 = .ok (.iload_n 1, 1) := by decide +kernel
theorem dX12_gain_51 : decode cX12_gain 51 = .ok (.iload_n 2, 1) := by decide +kernel
theorem dX12_gain_52 : decode cX12_gain 52 = .ok (.iload_n 3, 1) := by decide +kernel
theorem dX12_gain_53 : decode cX12_gain 53 = .ok (.iload 4, 2) := by decide +kernel
theorem dX12_gain_55 : decode cX12_gain 55 = .ok (.invokevirtual 490, 3) := by decide +kernel
theorem dX12_gain_58 : decode cX12_gain 58 = .ok (.goto 8, 3) := by decide +kernel
theorem dX12_gain_61 : decode cX12_gain 61 = .ok (.aload_n 0, 1) := by decide +kernel
theorem dX12_gain_62 : decode cX12_gain 62 = .ok (.iconst 2, 1) := by decide +kernel
theorem dX12_gain_63 : decode cX12_gain 63 = .ok (.invokevirtual 486, 3) := by decide +kernel
theorem dX12_gain_66 : decode cX12_gain 66 = .ok (.lreturn, 1) := by decide +kernel
theorem dX12_bestLine_0 : decode cX12_bestLine 0 = .ok (.bipush (-50), 2) := by decide +kernel
theorem dX12_bestLine_2 : decode cX12_bestLine 2 = .ok (.istore 4, 2) := by decide +kernel
theorem dX12_bestLine_4 : decode cX12_bestLine 4 = .ok (.bipush (-49), 2) := by decide +kernel
theorem dX12_bestLine_6 : decode cX12_bestLine 6 = .ok (.istore 5, 2) := by decide +kernel
theorem dX12_bestLine_8 : decode cX12_bestLine 8 = .ok (.iload 5, 2) := by decide +kernel
theorem dX12_bestLine_10 : decode cX12_bestLine 10 = .ok (.bipush 50, 2) := by decide +kernel
theorem dX12_bestLine_12 : decode cX12_bestLine 12 = .ok (.if_icmp .gt 40, 3) := by decide +kernel
theorem dX12_bestLine_15 : decode cX12_bestLine 15 = .ok (.aload_n 0, 1) := by decide +kernel
theorem dX12_bestLine_16 : decode cX12_bestLine 16 = .ok (.iload_n 1, 1) := by decide +kernel
theorem dX12_bestLine_17 : decode cX12_bestLine 17 = .ok (.iload_n 2, 1) := by decide +kernel
theorem dX12_bestLine_18 : decode cX12_bestLine 18 = .ok (.iload_n 3, 1) := by decide +kernel
theorem dX12_bestLine_19 : decode cX12_bestLine 19 = .ok (.iload 5, 2) := by decide +kernel
theorem dX12_bestLine_21 : decode cX12_bestLine 21 = .ok (.invokevirtual 490, 3) := by decide +kernel
theorem dX12_bestLine_24 : decode cX12_bestLine 24 = .ok (.aload_n 0, 1) := by decide +kernel
theorem dX12_bestLine_25 : decode cX12_bestLine 25 = .ok (.iload_n 1, 1) := by decide +kernel
theorem dX12_bestLine_26 : decode cX12_bestLine 26 = .ok (.iload_n 2, 1) := by decide +kernel
theorem dX12_bestLine_27 : decode cX12_bestLine 27 = .ok (.iload_n 3, 1) := by decide +kernel
theorem dX12_bestLine_28 : decode cX12_bestLine 28 = .ok (.iload 4, 2) := by decide +kernel
theorem dX12_bestLine_30 : decode cX12_bestLine 30 = .ok (.invokevirtual 490, 3) := by decide +kernel
theorem dX12_bestLine_33 : decode cX12_bestLine 33 = .ok (.lcmp, 1) := by decide +kernel
theorem dX12_bestLine_34 : decode cX12_bestLine 34 = .ok (.ifCond .le 8, 3) := by decide +kernel
theorem dX12_bestLine_37 : decode cX12_bestLine 37 = .ok (.iload 5, 2) := by decide +kernel
theorem dX12_bestLine_39 : decode cX12_bestLine 39 = .ok (.goto 5, 3) := by decide +kernel
theorem dX12_bestLine_42 : decode cX12_bestLine 42 = .ok (.iload 4, 2) := by decide +kernel
theorem dX12_bestLine_44 : decode cX12_bestLine 44 = .ok (.istore 4, 2) := by decide +kernel
theorem dX12_bestLine_46 : decode cX12_bestLine 46 = .ok (.iinc 5 1, 3) := by decide +kernel
theorem dX12_bestLine_49 : decode cX12_bestLine 49 = .ok (.goto (-41), 3) := by decide +kernel
theorem dX12_bestLine_52 : decode cX12_bestLine 52 = .ok (.iload 4, 2) := by decide +kernel
theorem dX12_bestLine_54 : decode cX12_bestLine 54 = .ok (.ireturn, 1) := by decide +kernel
theorem dX12_best_0 : decode cX12_best 0 = .ok (.aload_n 0, 1) := by decide +kernel
theorem dX12_best_1 : decode cX12_best 1 = .ok (.invokevirtual 211, 3) := by decide +kernel
theorem dX12_best_4 : decode cX12_best 4 = .ok (.aload_n 0, 1) := by decide +kernel
theorem dX12_best_5 : decode cX12_best 5 = .ok (.iload_n 1, 1) := by decide +kernel
theorem dX12_best_6 : decode cX12_best 6 = .ok (.invokevirtual 483, 3) := by decide +kernel
theorem dX12_best_9 : decode cX12_best 9 = .ok (.ifCond .eq 11, 3) := by decide +kernel
theorem dX12_best_12 : decode cX12_best 12 = .ok (.aload_n 0, 1) := by decide +kernel
theorem dX12_best_13 : decode cX12_best 13 = .ok (.iload_n 2, 1) := by decide +kernel
theorem dX12_best_14 : decode cX12_best 14 = .ok (.invokevirtual 315, 3) := by decide +kernel
theorem dX12_best_17 : decode cX12_best 17 = .ok (.ifCond .ne 9, 3) := by decide +kernel
theorem dX12_best_20 : decode cX12_best 20 = .ok (.aload_n 0, 1) := by decide +kernel
theorem dX12_best_21 : decode cX12_best 21 = .ok (.iconst 1, 1) := by decide +kernel
theorem dX12_best_22 : decode cX12_best 22 = .ok (.invokevirtual 469, 3) := by decide +kernel
theorem dX12_best_25 : decode cX12_best 25 = .ok (.ireturn, 1) := by decide +kernel
theorem dX12_best_26 : decode cX12_best 26 = .ok (.iload_n 3, 1) := by decide +kernel
theorem dX12_best_27 : decode cX12_best 27 = .ok (.iconst 1, 1) := by decide +kernel
theorem dX12_best_28 : decode cX12_best 28 = .ok (.sipush 400, 3) := by decide +kernel
theorem dX12_best_31 : decode cX12_best 31 = .ok (.invokestatic 203, 3) := by decide +kernel
theorem dX12_best_34 : decode cX12_best 34 = .ok (.ifCond .eq 13, 3) := by decide +kernel
theorem dX12_best_37 : decode cX12_best 37 = .ok (.aload_n 0, 1) := by decide +kernel
theorem dX12_best_38 : decode cX12_best 38 = .ok (.iload_n 1, 1) := by decide +kernel
theorem dX12_best_39 : decode cX12_best 39 = .ok (.iload_n 2, 1) := by decide +kernel
theorem dX12_best_40 : decode cX12_best 40 = .ok (.iload_n 3, 1) := by decide +kernel
theorem dX12_best_41 : decode cX12_best 41 = .ok (.invokevirtual 494, 3) := by decide +kernel
theorem dX12_best_44 : decode cX12_best 44 = .ok (.goto 8, 3) := by decide +kernel
theorem dX12_best_47 : decode cX12_best 47 = .ok (.aload_n 0, 1) := by decide +kernel
theorem dX12_best_48 : decode cX12_best 48 = .ok (.iconst 2, 1) := by decide +kernel
theorem dX12_best_49 : decode cX12_best 49 = .ok (.invokevirtual 469, 3) := by decide +kernel
theorem dX12_best_52 : decode cX12_best 52 = .ok (.ireturn, 1) := by decide +kernel
theorem dX12_moves_0 : decode cX12_moves 0 = .ok (.aload_n 0, 1) := by decide +kernel
theorem dX12_moves_1 : decode cX12_moves 1 = .ok (.invokevirtual 211, 3) := by decide +kernel
theorem dX12_moves_4 : decode cX12_moves 4 = .ok (.aload_n 0, 1) := by decide +kernel
theorem dX12_moves_5 : decode cX12_moves 5 = .ok (.iload_n 1, 1) := by decide +kernel
theorem dX12_moves_6 : decode cX12_moves 6 = .ok (.invokevirtual 483, 3) := by decide +kernel
theorem dX12_moves_9 : decode cX12_moves 9 = .ok (.ifCond .eq 11, 3) := by decide +kernel
theorem dX12_moves_12 : decode cX12_moves 12 = .ok (.aload_n 0, 1) := by decide +kernel
theorem dX12_moves_13 : decode cX12_moves 13 = .ok (.iload_n 2, 1) := by decide +kernel
theorem dX12_moves_14 : decode cX12_moves 14 = .ok (.invokevirtual 315, 3) := by decide +kernel
theorem dX12_moves_17 : decode cX12_moves 17 = .ok (.ifCond .ne 9, 3) := by decide +kernel
theorem dX12_moves_20 : decode cX12_moves 20 = .ok (.aload_n 0, 1) := by decide +kernel
theorem dX12_moves_21 : decode cX12_moves 21 = .ok (.iconst 1, 1) := by decide +kernel
theorem dX12_moves_22 : decode cX12_moves 22 = .ok (.invokevirtual 469, 3) := by decide +kernel
theorem dX12_moves_25 : decode cX12_moves 25 = .ok (.ireturn, 1) := by decide +kernel
theorem dX12_moves_26 : decode cX12_moves 26 = .ok (.iload_n 3, 1) := by decide +kernel
theorem dX12_moves_27 : decode cX12_moves 27 = .ok (.iconst 1, 1) := by decide +kernel
theorem dX12_moves_28 : decode cX12_moves 28 = .ok (.sipush 400, 3) := by decide +kernel
theorem dX12_moves_31 : decode cX12_moves 31 = .ok (.invokestatic 203, 3) := by decide +kernel
theorem dX12_moves_34 : decode cX12_moves 34 = .ok (.ifCond .ne 9, 3) := by decide +kernel
theorem dX12_moves_37 : decode cX12_moves 37 = .ok (.aload_n 0, 1) := by decide +kernel
theorem dX12_moves_38 : decode cX12_moves 38 = .ok (.iconst 2, 1) := by decide +kernel
theorem dX12_moves_39 : decode cX12_moves 39 = .ok (.invokevirtual 469, 3) := by decide +kernel
theorem dX12_moves_42 : decode cX12_moves 42 = .ok (.ireturn, 1) := by decide +kernel
theorem dX12_moves_43 : decode cX12_moves 43 = .ok (.aload_n 0, 1) := by decide +kernel
theorem dX12_moves_44 : decode cX12_moves 44 = .ok (.getfield 20, 3) := by decide +kernel
theorem dX12_moves_47 : decode cX12_moves 47 = .ok (.bipush 126, 2) := by decide +kernel
theorem dX12_moves_49 : decode cX12_moves 49 = .ok (.iload_n 2, 1) := by decide +kernel
theorem dX12_moves_50 : decode cX12_moves 50 = .ok (.iadd, 1) := by decide +kernel
theorem dX12_moves_51 : decode cX12_moves 51 = .ok (.iaload, 1) := by decide +kernel
theorem dX12_moves_52 : decode cX12_moves 52 = .ok (.istore 4, 2) := by decide +kernel
theorem dX12_moves_54 : decode cX12_moves 54 = .ok (.aload_n 0, 1) := by decide +kernel
theorem dX12_moves_55 : decode cX12_moves 55 = .ok (.getfield 20, 3) := by decide +kernel
theorem dX12_moves_58 : decode cX12_moves 58 = .ok (.bipush 126, 2) := by decide +kernel
theorem dX12_moves_60 : decode cX12_moves 60 = .ok (.iload_n 2, 1) := by decide +kernel
theorem dX12_moves_61 : decode cX12_moves 61 = .ok (.iadd, 1) := by decide +kernel
theorem dX12_moves_62 : decode cX12_moves 62 = .ok (.aload_n 0, 1) := by decide +kernel
theorem dX12_moves_63 : decode cX12_moves 63 = .ok (.iload_n 1, 1) := by decide +kernel
theorem dX12_moves_64 : decode cX12_moves 64 = .ok (.iload_n 2, 1) := by decide +kernel
theorem dX12_moves_65 : decode cX12_moves 65 = .ok (.iload_n 3, 1) := by decide +kernel
theorem dX12_moves_66 : decode cX12_moves 66 = .ok (.invokevirtual 494, 3) := by decide +kernel
theorem dX12_moves_69 : decode cX12_moves 69 = .ok (.iastore, 1) := by decide +kernel
theorem dX12_moves_70 : decode cX12_moves 70 = .ok (.aload_n 0, 1) := by decide +kernel
theorem dX12_moves_71 : decode cX12_moves 71 = .ok (.getfield 20, 3) := by decide +kernel
theorem dX12_moves_74 : decode cX12_moves 74 = .ok (.bipush 126, 2) := by decide +kernel
theorem dX12_moves_76 : decode cX12_moves 76 = .ok (.iload_n 2, 1) := by decide +kernel
theorem dX12_moves_77 : decode cX12_moves 77 = .ok (.iadd, 1) := by decide +kernel
theorem dX12_moves_78 : decode cX12_moves 78 = .ok (.iaload, 1) := by decide +kernel
theorem dX12_moves_79 : decode cX12_moves 79 = .ok (.iload 4, 2) := by decide +kernel
theorem dX12_moves_81 : decode cX12_moves 81 = .ok (.isub, 1) := by decide +kernel
theorem dX12_moves_82 : decode cX12_moves 82 = .ok (.ireturn, 1) := by decide +kernel
theorem dX12_arePairsUnlike_0 : decode cX12_arePairsUnlike 0 = .ok (.aload_n 0, 1) := by decide +kernel
theorem dX12_arePairsUnlike_1 : decode cX12_arePairsUnlike 1 = .ok (.iload_n 1, 1) := by decide +kernel
theorem dX12_arePairsUnlike_2 : decode cX12_arePairsUnlike 2 = .ok (.aload_n 0, 1) := by decide +kernel
theorem dX12_arePairsUnlike_3 : decode cX12_arePairsUnlike 3 = .ok (.iload_n 1, 1) := by decide +kernel
theorem dX12_arePairsUnlike_4 : decode cX12_arePairsUnlike 4 = .ok (.invokevirtual 443, 3) := by decide +kernel
theorem dX12_arePairsUnlike_7 : decode cX12_arePairsUnlike 7 = .ok (.invokevirtual 324, 3) := by decide +kernel
theorem dX12_arePairsUnlike_10 : decode cX12_arePairsUnlike 10 = .ok (.istore 5, 2) := by decide +kernel
theorem dX12_arePairsUnlike_12 : decode cX12_arePairsUnlike 12 = .ok (.aload_n 0, 1) := by decide +kernel
theorem dX12_arePairsUnlike_13 : decode cX12_arePairsUnlike 13 = .ok (.iload_n 2, 1) := by decide +kernel
theorem dX12_arePairsUnlike_14 : decode cX12_arePairsUnlike 14 = .ok (.aload_n 0, 1) := by decide +kernel
theorem dX12_arePairsUnlike_15 : decode cX12_arePairsUnlike 15 = .ok (.iload_n 2, 1) := by decide +kernel
theorem dX12_arePairsUnlike_16 : decode cX12_arePairsUnlike 16 = .ok (.invokevirtual 443, 3) := by decide +kernel
theorem dX12_arePairsUnlike_19 : decode cX12_arePairsUnlike 19 = .ok (.invokevirtual 324, 3) := by decide +kernel
theorem dX12_arePairsUnlike_22 : decode cX12_arePairsUnlike 22 = .ok (.istore 6, 2) := by decide +kernel
theorem dX12_arePairsUnlike_24 : decode cX12_arePairsUnlike 24 = .ok (.iconst 0, 1) := by decide +kernel
theorem dX12_arePairsUnlike_25 : decode cX12_arePairsUnlike 25 = .ok (.istore 7, 2) := by decide +kernel
theorem dX12_arePairsUnlike_27 : decode cX12_arePairsUnlike 27 = .ok (.aload_n 0, 1) := by decide +kernel
theorem dX12_arePairsUnlike_28 : decode cX12_arePairsUnlike 28 = .ok (.iload_n 1, 1) := by decide +kernel
theorem dX12_arePairsUnlike_29 : decode cX12_arePairsUnlike 29 = .ok (.iload_n 3, 1) := by decide +kernel
theorem dX12_arePairsUnlike_30 : decode cX12_arePairsUnlike 30 = .ok (.iload 4, 2) := by decide +kernel
theorem dX12_arePairsUnlike_32 : decode cX12_arePairsUnlike 32 = .ok (.iconst 0, 1) := by decide +kernel
theorem dX12_arePairsUnlike_33 : decode cX12_arePairsUnlike 33 = .ok (.invokevirtual 446, 3) := by decide +kernel
theorem dX12_arePairsUnlike_36 : decode cX12_arePairsUnlike 36 = .ok (.aload_n 0, 1) := by decide +kernel
theorem dX12_arePairsUnlike_37 : decode cX12_arePairsUnlike 37 = .ok (.getfield 86, 3) := by decide +kernel
theorem dX12_arePairsUnlike_40 : decode cX12_arePairsUnlike 40 = .ok (.iconst 0, 1) := by decide +kernel
theorem dX12_arePairsUnlike_41 : decode cX12_arePairsUnlike 41 = .ok (.iaload, 1) := by decide +kernel
theorem dX12_arePairsUnlike_42 : decode cX12_arePairsUnlike 42 = .ok (.istore 8, 2) := by decide +kernel
theorem dX12_arePairsUnlike_44 : decode cX12_arePairsUnlike 44 = .ok (.aload_n 0, 1) := by decide +kernel
theorem dX12_arePairsUnlike_45 : decode cX12_arePairsUnlike 45 = .ok (.getfield 86, 3) := by decide +kernel
theorem dX12_arePairsUnlike_48 : decode cX12_arePairsUnlike 48 = .ok (.iconst 1, 1) := by decide +kernel
theorem dX12_arePairsUnlike_49 : decode cX12_arePairsUnlike 49 = .ok (.iaload, 1) := by decide +kernel
theorem dX12_arePairsUnlike_50 : decode cX12_arePairsUnlike 50 = .ok (.istore 9, 2) := by decide +kernel
theorem dX12_arePairsUnlike_52 : decode cX12_arePairsUnlike 52 = .ok (.aload_n 0, 1) := by decide +kernel
theorem dX12_arePairsUnlike_53 : decode cX12_arePairsUnlike 53 = .ok (.iload_n 2, 1) := by decide +kernel
theorem dX12_arePairsUnlike_54 : decode cX12_arePairsUnlike 54 = .ok (.iload_n 3, 1) := by decide +kernel
theorem dX12_arePairsUnlike_55 : decode cX12_arePairsUnlike 55 = .ok (.iload 4, 2) := by decide +kernel
theorem dX12_arePairsUnlike_57 : decode cX12_arePairsUnlike 57 = .ok (.iconst 0, 1) := by decide +kernel
theorem dX12_arePairsUnlike_58 : decode cX12_arePairsUnlike 58 = .ok (.invokevirtual 446, 3) := by decide +kernel
theorem dX12_arePairsUnlike_61 : decode cX12_arePairsUnlike 61 = .ok (.iload 8, 2) := by decide +kernel
theorem dX12_arePairsUnlike_63 : decode cX12_arePairsUnlike 63 = .ok (.i2l, 1) := by decide +kernel
theorem dX12_arePairsUnlike_64 : decode cX12_arePairsUnlike 64 = .ok (.iload 6, 2) := by decide +kernel
theorem dX12_arePairsUnlike_66 : decode cX12_arePairsUnlike 66 = .ok (.i2l, 1) := by decide +kernel
theorem dX12_arePairsUnlike_67 : decode cX12_arePairsUnlike 67 = .ok (.lmul, 1) := by decide +kernel
theorem dX12_arePairsUnlike_68 : decode cX12_arePairsUnlike 68 = .ok (.iload 6, 2) := by decide +kernel
theorem dX12_arePairsUnlike_70 : decode cX12_arePairsUnlike 70 = .ok (.i2l, 1) := by decide +kernel
theorem dX12_arePairsUnlike_71 : decode cX12_arePairsUnlike 71 = .ok (.lmul, 1) := by decide +kernel
theorem dX12_arePairsUnlike_72 : decode cX12_arePairsUnlike 72 = .ok (.aload_n 0, 1) := by decide +kernel
theorem dX12_arePairsUnlike_73 : decode cX12_arePairsUnlike 73 = .ok (.getfield 86, 3) := by decide +kernel
theorem dX12_arePairsUnlike_76 : decode cX12_arePairsUnlike 76 = .ok (.iconst 0, 1) := by decide +kernel
theorem dX12_arePairsUnlike_77 : decode cX12_arePairsUnlike 77 = .ok (.iaload, 1) := by decide +kernel
theorem dX12_arePairsUnlike_78 : decode cX12_arePairsUnlike 78 = .ok (.i2l, 1) := by decide +kernel
theorem dX12_arePairsUnlike_79 : decode cX12_arePairsUnlike 79 = .ok (.iload 5, 2) := by decide +kernel
theorem dX12_arePairsUnlike_81 : decode cX12_arePairsUnlike 81 = .ok (.i2l, 1) := by decide +kernel
theorem dX12_arePairsUnlike_82 : decode cX12_arePairsUnlike 82 = .ok (.lmul, 1) := by decide +kernel
theorem dX12_arePairsUnlike_83 : decode cX12_arePairsUnlike 83 = .ok (.iload 5, 2) := by decide +kernel
theorem dX12_arePairsUnlike_85 : decode cX12_arePairsUnlike 85 = .ok (.i2l, 1) := by decide +kernel
theorem dX12_arePairsUnlike_86 : decode cX12_arePairsUnlike 86 = .ok (.lmul, 1) := by decide +kernel
theorem dX12_arePairsUnlike_87 : decode cX12_arePairsUnlike 87 = .ok (.lcmp, 1) := by decide +kernel
theorem dX12_arePairsUnlike_88 : decode cX12_arePairsUnlike 88 = .ok (.ifCond .ne 33, 3) := by decide +kernel
theorem dX12_arePairsUnlike_91 : decode cX12_arePairsUnlike 91 = .ok (.iload 9, 2) := by decide +kernel
theorem dX12_arePairsUnlike_93 : decode cX12_arePairsUnlike 93 = .ok (.i2l, 1) := by decide +kernel
theorem dX12_arePairsUnlike_94 : decode cX12_arePairsUnlike 94 = .ok (.iload 6, 2) := by decide +kernel
theorem dX12_arePairsUnlike_96 : decode cX12_arePairsUnlike 96 = .ok (.i2l, 1) := by decide +kernel
theorem dX12_arePairsUnlike_97 : decode cX12_arePairsUnlike 97 = .ok (.lmul, 1) := by decide +kernel
theorem dX12_arePairsUnlike_98 : decode cX12_arePairsUnlike 98 = .ok (.iload 6, 2) := by decide +kernel
theorem dX12_arePairsUnlike_100 : decode cX12_arePairsUnlike 100 = .ok (.i2l, 1) := by decide +kernel
theorem dX12_arePairsUnlike_101 : decode cX12_arePairsUnlike 101 = .ok (.lmul, 1) := by decide +kernel
theorem dX12_arePairsUnlike_102 : decode cX12_arePairsUnlike 102 = .ok (.aload_n 0, 1) := by decide +kernel
theorem dX12_arePairsUnlike_103 : decode cX12_arePairsUnlike 103 = .ok (.getfield 86, 3) := by decide +kernel
theorem dX12_arePairsUnlike_106 : decode cX12_arePairsUnlike 106 = .ok (.iconst 1, 1) := by decide +kernel
theorem dX12_arePairsUnlike_107 : decode cX12_arePairsUnlike 107 = .ok (.iaload, 1) := by decide +kernel
theorem dX12_arePairsUnlike_108 : decode cX12_arePairsUnlike 108 = .ok (.i2l, 1) := by decide +kernel
theorem dX12_arePairsUnlike_109 : decode cX12_arePairsUnlike 109 = .ok (.iload 5, 2) := by decide +kernel
theorem dX12_arePairsUnlike_111 : decode cX12_arePairsUnlike 111 = .ok (.i2l, 1) := by decide +kernel
theorem dX12_arePairsUnlike_112 : decode cX12_arePairsUnlike 112 = .ok (.lmul, 1) := by decide +kernel
theorem dX12_arePairsUnlike_113 : decode cX12_arePairsUnlike 113 = .ok (.iload 5, 2) := by decide +kernel
theorem dX12_arePairsUnlike_115 : decode cX12_arePairsUnlike 115 = .ok (.i2l, 1) := by decide +kernel
theorem dX12_arePairsUnlike_116 : decode cX12_arePairsUnlike 116 = .ok (.lmul, 1) := by decide +kernel
theorem dX12_arePairsUnlike_117 : decode cX12_arePairsUnlike 117 = .ok (.lcmp, 1) := by decide +kernel
theorem dX12_arePairsUnlike_118 : decode cX12_arePairsUnlike 118 = .ok (.ifCond .eq 7, 3) := by decide +kernel
theorem dX12_arePairsUnlike_121 : decode cX12_arePairsUnlike 121 = .ok (.iconst 1, 1) := by decide +kernel
theorem dX12_arePairsUnlike_122 : decode cX12_arePairsUnlike 122 = .ok (.goto 4, 3) := by decide +kernel
theorem dX12_arePairsUnlike_125 : decode cX12_arePairsUnlike 125 = .ok (.iconst 0, 1) := by decide +kernel
theorem dX12_arePairsUnlike_126 : decode cX12_arePairsUnlike 126 = .ok (.istore 7, 2) := by decide +kernel
theorem dX12_arePairsUnlike_128 : decode cX12_arePairsUnlike 128 = .ok (.iload 7, 2) := by decide +kernel
theorem dX12_arePairsUnlike_130 : decode cX12_arePairsUnlike 130 = .ok (.ireturn, 1) := by decide +kernel
theorem dX12_brings_0 : decode cX12_brings 0 = .ok (.iconst 0, 1) := by decide +kernel
theorem dX12_brings_1 : decode cX12_brings 1 = .ok (.istore 4, 2) := by decide +kernel
theorem dX12_brings_3 : decode cX12_brings 3 = .ok (.bipush (-5), 2) := by decide +kernel
theorem dX12_brings_5 : decode cX12_brings 5 = .ok (.istore 5, 2) := by decide +kernel
theorem dX12_brings_7 : decode cX12_brings 7 = .ok (.iload 5, 2) := by decide +kernel
theorem dX12_brings_9 : decode cX12_brings 9 = .ok (.iconst 5, 1) := by decide +kernel
theorem dX12_brings_10 : decode cX12_brings 10 = .ok (.if_icmp .gt 86, 3) := by decide +kernel
theorem dX12_brings_13 : decode cX12_brings 13 = .ok (.aload_n 0, 1) := by decide +kernel
theorem dX12_brings_14 : decode cX12_brings 14 = .ok (.iload_n 1, 1) := by decide +kernel
theorem dX12_brings_15 : decode cX12_brings 15 = .ok (.iload_n 2, 1) := by decide +kernel
theorem dX12_brings_16 : decode cX12_brings 16 = .ok (.invokevirtual 330, 3) := by decide +kernel
theorem dX12_brings_19 : decode cX12_brings 19 = .ok (.iload 5, 2) := by decide +kernel
theorem dX12_brings_21 : decode cX12_brings 21 = .ok (.iadd, 1) := by decide +kernel
theorem dX12_brings_22 : decode cX12_brings 22 = .ok (.istore 6, 2) := by decide +kernel
theorem dX12_brings_24 : decode cX12_brings 24 = .ok (.iload_n 3, 1) := by decide +kernel
theorem dX12_brings_25 : decode cX12_brings 25 = .ok (.iconst (-1), 1) := by decide +kernel
theorem dX12_brings_26 : decode cX12_brings 26 = .ok (.if_icmp .ne 16, 3) := by decide +kernel
theorem dX12_brings_29 : decode cX12_brings 29 = .ok (.iload 6, 2) := by decide +kernel
theorem dX12_brings_31 : decode cX12_brings 31 = .ok (.ifCond .le 7, 3) := by decide +kernel
theorem dX12_brings_34 : decode cX12_brings 34 = .ok (.iconst 1, 1) := by decide +kernel
theorem dX12_brings_35 : decode cX12_brings 35 = .ok (.goto 27, 3) := by decide +kernel
theorem dX12_brings_38 : decode cX12_brings 38 = .ok (.iconst 0, 1) := by decide +kernel
theorem dX12_brings_39 : decode cX12_brings 39 = .ok (.goto 23, 3) := by decide +kernel
theorem dX12_brings_42 : decode cX12_brings 42 = .ok (.iload 6, 2) := by decide +kernel
theorem dX12_brings_44 : decode cX12_brings 44 = .ok (.ifCond .ge 7, 3) := by decide +kernel
theorem dX12_brings_47 : decode cX12_brings 47 = .ok (.iconst 0, 1) := by decide +kernel
theorem dX12_brings_48 : decode cX12_brings 48 = .ok (.goto 5, 3) := by decide +kernel
theorem dX12_brings_51 : decode cX12_brings 51 = .ok (.iload 6, 2) := by decide +kernel
theorem dX12_brings_53 : decode cX12_brings 53 = .ok (.iload_n 3, 1) := by decide +kernel
theorem dX12_brings_54 : decode cX12_brings 54 = .ok (.if_icmp .ne 7, 3) := by decide +kernel
theorem dX12_brings_57 : decode cX12_brings 57 = .ok (.iconst 1, 1) := by decide +kernel
theorem dX12_brings_58 : decode cX12_brings 58 = .ok (.goto 4, 3) := by decide +kernel
theorem dX12_brings_61 : decode cX12_brings 61 = .ok (.iconst 0, 1) := by decide +kernel
theorem dX12_brings_62 : decode cX12_brings 62 = .ok (.istore 7, 2) := by decide +kernel
theorem dX12_brings_64 : decode cX12_brings 64 = .ok (.iload 4, 2) := by decide +kernel
theorem dX12_brings_66 : decode cX12_brings 66 = .ok (.iload 7, 2) := by decide +kernel
theorem dX12_brings_68 : decode cX12_brings 68 = .ok (.ifCond .eq 18, 3) := by decide +kernel
theorem dX12_brings_71 : decode cX12_brings 71 = .ok (.aload_n 0, 1) := by decide +kernel
theorem dX12_brings_72 : decode cX12_brings 72 = .ok (.iload_n 1, 1) := by decide +kernel
theorem dX12_brings_73 : decode cX12_brings 73 = .ok (.iload 5, 2) := by decide +kernel
theorem dX12_brings_75 : decode cX12_brings 75 = .ok (.aload_n 0, 1) := by decide +kernel
theorem dX12_brings_76 : decode cX12_brings 76 = .ok (.iload_n 1, 1) := by decide +kernel
theorem dX12_brings_77 : decode cX12_brings 77 = .ok (.invokevirtual 443, 3) := by decide +kernel
theorem dX12_brings_80 : decode cX12_brings 80 = .ok (.invokevirtual 309, 3) := by decide +kernel
theorem dX12_brings_83 : decode cX12_brings 83 = .ok (.goto 4, 3) := by decide +kernel
theorem dX12_brings_86 : decode cX12_brings 86 = .ok (.iconst 0, 1) := by decide +kernel
theorem dX12_brings_87 : decode cX12_brings 87 = .ok (.iadd, 1) := by decide +kernel
theorem dX12_brings_88 : decode cX12_brings 88 = .ok (.istore 4, 2) := by decide +kernel
theorem dX12_brings_90 : decode cX12_brings 90 = .ok (.iinc 5 1, 3) := by decide +kernel
theorem dX12_brings_93 : decode cX12_brings 93 = .ok (.goto (-86), 3) := by decide +kernel
theorem dX12_brings_96 : decode cX12_brings 96 = .ok (.iload 4, 2) := by decide +kernel
theorem dX12_brings_98 : decode cX12_brings 98 = .ok (.ireturn, 1) := by decide +kernel
theorem dX12_areUnlike_0 : decode cX12_areUnlike 0 = .ok (.aload_n 0, 1) := by decide +kernel
theorem dX12_areUnlike_1 : decode cX12_areUnlike 1 = .ok (.iload_n 1, 1) := by decide +kernel
theorem dX12_areUnlike_2 : decode cX12_areUnlike 2 = .ok (.aload_n 0, 1) := by decide +kernel
theorem dX12_areUnlike_3 : decode cX12_areUnlike 3 = .ok (.iload_n 1, 1) := by decide +kernel
theorem dX12_areUnlike_4 : decode cX12_areUnlike 4 = .ok (.invokevirtual 443, 3) := by decide +kernel
theorem dX12_areUnlike_7 : decode cX12_areUnlike 7 = .ok (.invokevirtual 324, 3) := by decide +kernel
theorem dX12_areUnlike_10 : decode cX12_areUnlike 10 = .ok (.istore 5, 2) := by decide +kernel
theorem dX12_areUnlike_12 : decode cX12_areUnlike 12 = .ok (.aload_n 0, 1) := by decide +kernel
theorem dX12_areUnlike_13 : decode cX12_areUnlike 13 = .ok (.iload_n 2, 1) := by decide +kernel
theorem dX12_areUnlike_14 : decode cX12_areUnlike 14 = .ok (.aload_n 0, 1) := by decide +kernel
theorem dX12_areUnlike_15 : decode cX12_areUnlike 15 = .ok (.iload_n 2, 1) := by decide +kernel
theorem dX12_areUnlike_16 : decode cX12_areUnlike 16 = .ok (.invokevirtual 443, 3) := by decide +kernel
theorem dX12_areUnlike_19 : decode cX12_areUnlike 19 = .ok (.invokevirtual 324, 3) := by decide +kernel
theorem dX12_areUnlike_22 : decode cX12_areUnlike 22 = .ok (.istore 6, 2) := by decide +kernel
theorem dX12_areUnlike_24 : decode cX12_areUnlike 24 = .ok (.iload_n 3, 1) := by decide +kernel
theorem dX12_areUnlike_25 : decode cX12_areUnlike 25 = .ok (.iconst 1, 1) := by decide +kernel
theorem dX12_areUnlike_26 : decode cX12_areUnlike 26 = .ok (.if_icmp .ne 34, 3) := by decide +kernel
theorem dX12_areUnlike_29 : decode cX12_areUnlike 29 = .ok (.aload_n 0, 1) := by decide +kernel
theorem dX12_areUnlike_30 : decode cX12_areUnlike 30 = .ok (.iload_n 1, 1) := by decide +kernel
theorem dX12_areUnlike_31 : decode cX12_areUnlike 31 = .ok (.iload 4, 2) := by decide +kernel
theorem dX12_areUnlike_33 : decode cX12_areUnlike 33 = .ok (.iconst (-1), 1) := by decide +kernel
theorem dX12_areUnlike_34 : decode cX12_areUnlike 34 = .ok (.invokevirtual 497, 3) := by decide +kernel
theorem dX12_areUnlike_37 : decode cX12_areUnlike 37 = .ok (.iload 6, 2) := by decide +kernel
theorem dX12_areUnlike_39 : decode cX12_areUnlike 39 = .ok (.imul, 1) := by decide +kernel
theorem dX12_areUnlike_40 : decode cX12_areUnlike 40 = .ok (.aload_n 0, 1) := by decide +kernel
theorem dX12_areUnlike_41 : decode cX12_areUnlike 41 = .ok (.iload_n 2, 1) := by decide +kernel
theorem dX12_areUnlike_42 : decode cX12_areUnlike 42 = .ok (.iload 4, 2) := by decide +kernel
theorem dX12_areUnlike_44 : decode cX12_areUnlike 44 = .ok (.iconst (-1), 1) := by decide +kernel
theorem dX12_areUnlike_45 : decode cX12_areUnlike 45 = .ok (.invokevirtual 497, 3) := by decide +kernel
theorem dX12_areUnlike_48 : decode cX12_areUnlike 48 = .ok (.iload 5, 2) := by decide +kernel
theorem dX12_areUnlike_50 : decode cX12_areUnlike 50 = .ok (.imul, 1) := by decide +kernel
theorem dX12_areUnlike_51 : decode cX12_areUnlike 51 = .ok (.if_icmp .eq 7, 3) := by decide +kernel
theorem dX12_areUnlike_54 : decode cX12_areUnlike 54 = .ok (.iconst 1, 1) := by decide +kernel
theorem dX12_areUnlike_55 : decode cX12_areUnlike 55 = .ok (.goto 4, 3) := by decide +kernel
theorem dX12_areUnlike_58 : decode cX12_areUnlike 58 = .ok (.iconst 0, 1) := by decide +kernel
theorem dX12_areUnlike_59 : decode cX12_areUnlike 59 = .ok (.ireturn, 1) := by decide +kernel
theorem dX12_areUnlike_60 : decode cX12_areUnlike 60 = .ok (.iconst 0, 1) := by decide +kernel
theorem dX12_areUnlike_61 : decode cX12_areUnlike 61 = .ok (.istore 7, 2) := by decide +kernel
theorem dX12_areUnlike_63 : decode cX12_areUnlike 63 = .ok (.bipush (-5), 2) := by decide +kernel
theorem dX12_areUnlike_65 : decode cX12_areUnlike 65 = .ok (.istore 8, 2) := by decide +kernel
theorem dX12_areUnlike_67 : decode cX12_areUnlike 67 = .ok (.iload 8, 2) := by decide +kernel
theorem dX12_areUnlike_69 : decode cX12_areUnlike 69 = .ok (.iconst 5, 1) := by decide +kernel
theorem dX12_areUnlike_70 : decode cX12_areUnlike 70 = .ok (.if_icmp .gt 133, 3) := by decide +kernel
theorem dX12_areUnlike_73 : decode cX12_areUnlike 73 = .ok (.aload_n 0, 1) := by decide +kernel
theorem dX12_areUnlike_74 : decode cX12_areUnlike 74 = .ok (.iload_n 1, 1) := by decide +kernel
theorem dX12_areUnlike_75 : decode cX12_areUnlike 75 = .ok (.iload 4, 2) := by decide +kernel
theorem dX12_areUnlike_77 : decode cX12_areUnlike 77 = .ok (.invokevirtual 330, 3) := by decide +kernel
theorem dX12_areUnlike_80 : decode cX12_areUnlike 80 = .ok (.iload 8, 2) := by decide +kernel
theorem dX12_areUnlike_82 : decode cX12_areUnlike 82 = .ok (.iadd, 1) := by decide +kernel
theorem dX12_areUnlike_83 : decode cX12_areUnlike 83 = .ok (.ifCond .ge 7, 3) := by decide +kernel
theorem dX12_areUnlike_86 : decode cX12_areUnlike 86 = .ok (.iconst 0, 1) := by decide +kernel
theorem dX12_areUnlike_87 : decode cX12_areUnlike 87 = .ok (.goto 13, 3) := by decide +kernel
theorem dX12_areUnlike_90 : decode cX12_areUnlike 90 = .ok (.aload_n 0, 1) := by decide +kernel
theorem dX12_areUnlike_91 : decode cX12_areUnlike 91 = .ok (.iload_n 1, 1) := by decide +kernel
theorem dX12_areUnlike_92 : decode cX12_areUnlike 92 = .ok (.iload 4, 2) := by decide +kernel
theorem dX12_areUnlike_94 : decode cX12_areUnlike 94 = .ok (.invokevirtual 330, 3) := by decide +kernel
theorem dX12_areUnlike_97 : decode cX12_areUnlike 97 = .ok (.iload 8, 2) := by decide +kernel
theorem dX12_areUnlike_99 : decode cX12_areUnlike 99 = .ok (.iadd, 1) := by decide +kernel
theorem dX12_areUnlike_100 : decode cX12_areUnlike 100 = .ok (.istore 9, 2) := by decide +kernel
theorem dX12_areUnlike_102 : decode cX12_areUnlike 102 = .ok (.aload_n 0, 1) := by decide +kernel
theorem dX12_areUnlike_103 : decode cX12_areUnlike 103 = .ok (.iload_n 2, 1) := by decide +kernel
theorem dX12_areUnlike_104 : decode cX12_areUnlike 104 = .ok (.iload 4, 2) := by decide +kernel
theorem dX12_areUnlike_106 : decode cX12_areUnlike 106 = .ok (.invokevirtual 330, 3) := by decide +kernel
theorem dX12_areUnlike_109 : decode cX12_areUnlike 109 = .ok (.iload 8, 2) := by decide +kernel
theorem dX12_areUnlike_111 : decode cX12_areUnlike 111 = .ok (.iadd, 1) := by decide +kernel
theorem dX12_areUnlike_112 : decode cX12_areUnlike 112 = .ok (.ifCond .ge 7, 3) := by decide +kernel
theorem dX12_areUnlike_115 : decode cX12_areUnlike 115 = .ok (.iconst 0, 1) := by decide +kernel
theorem dX12_areUnlike_116 : decode cX12_areUnlike 116 = .ok (.goto 13, 3) := by decide +kernel
theorem dX12_areUnlike_119 : decode cX12_areUnlike 119 = .ok (.aload_n 0, 1) := by decide +kernel
theorem dX12_areUnlike_120 : decode cX12_areUnlike 120 = .ok (.iload_n 2, 1) := by decide +kernel
theorem dX12_areUnlike_121 : decode cX12_areUnlike 121 = .ok (.iload 4, 2) := by decide +kernel
theorem dX12_areUnlike_123 : decode cX12_areUnlike 123 = .ok (.invokevirtual 330, 3) := by decide +kernel
theorem dX12_areUnlike_126 : decode cX12_areUnlike 126 = .ok (.iload 8, 2) := by decide +kernel
theorem dX12_areUnlike_128 : decode cX12_areUnlike 128 = .ok (.iadd, 1) := by decide +kernel
theorem dX12_areUnlike_129 : decode cX12_areUnlike 129 = .ok (.istore 10, 2) := by decide +kernel
theorem dX12_areUnlike_131 : decode cX12_areUnlike 131 = .ok (.iload 7, 2) := by decide +kernel
theorem dX12_areUnlike_133 : decode cX12_areUnlike 133 = .ok (.ifCond .ne 57, 3) := by decide +kernel
theorem dX12_areUnlike_136 : decode cX12_areUnlike 136 = .ok (.aload_n 0, 1) := by decide +kernel
theorem dX12_areUnlike_137 : decode cX12_areUnlike 137 = .ok (.iload_n 1, 1) := by decide +kernel
theorem dX12_areUnlike_138 : decode cX12_areUnlike 138 = .ok (.iload 4, 2) := by decide +kernel
theorem dX12_areUnlike_140 : decode cX12_areUnlike 140 = .ok (.iload 9, 2) := by decide +kernel
theorem dX12_areUnlike_142 : decode cX12_areUnlike 142 = .ok (.invokevirtual 497, 3) := by decide +kernel
theorem dX12_areUnlike_145 : decode cX12_areUnlike 145 = .ok (.iload 6, 2) := by decide +kernel
theorem dX12_areUnlike_147 : decode cX12_areUnlike 147 = .ok (.imul, 1) := by decide +kernel
theorem dX12_areUnlike_148 : decode cX12_areUnlike 148 = .ok (.aload_n 0, 1) := by decide +kernel
theorem dX12_areUnlike_149 : decode cX12_areUnlike 149 = .ok (.iload_n 2, 1) := by decide +kernel
theorem dX12_areUnlike_150 : decode cX12_areUnlike 150 = .ok (.iload 4, 2) := by decide +kernel
theorem dX12_areUnlike_152 : decode cX12_areUnlike 152 = .ok (.iload 9, 2) := by decide +kernel
theorem dX12_areUnlike_154 : decode cX12_areUnlike 154 = .ok (.invokevirtual 497, 3) := by decide +kernel
theorem dX12_areUnlike_157 : decode cX12_areUnlike 157 = .ok (.iload 5, 2) := by decide +kernel
theorem dX12_areUnlike_159 : decode cX12_areUnlike 159 = .ok (.imul, 1) := by decide +kernel
theorem dX12_areUnlike_160 : decode cX12_areUnlike 160 = .ok (.if_icmp .ne 30, 3) := by decide +kernel
theorem dX12_areUnlike_163 : decode cX12_areUnlike 163 = .ok (.aload_n 0, 1) := by decide +kernel
theorem dX12_areUnlike_164 : decode cX12_areUnlike 164 = .ok (.iload_n 1, 1) := by decide +kernel
theorem dX12_areUnlike_165 : decode cX12_areUnlike 165 = .ok (.iload 4, 2) := by decide +kernel
theorem dX12_areUnlike_167 : decode cX12_areUnlike 167 = .ok (.iload 10, 2) := by decide +kernel
theorem dX12_areUnlike_169 : decode cX12_areUnlike 169 = .ok (.invokevirtual 497, 3) := by decide +kernel
theorem dX12_areUnlike_172 : decode cX12_areUnlike 172 = .ok (.iload 6, 2) := by decide +kernel
theorem dX12_areUnlike_174 : decode cX12_areUnlike 174 = .ok (.imul, 1) := by decide +kernel
theorem dX12_areUnlike_175 : decode cX12_areUnlike 175 = .ok (.aload_n 0, 1) := by decide +kernel
theorem dX12_areUnlike_176 : decode cX12_areUnlike 176 = .ok (.iload_n 2, 1) := by decide +kernel
theorem dX12_areUnlike_177 : decode cX12_areUnlike 177 = .ok (.iload 4, 2) := by decide +kernel
theorem dX12_areUnlike_179 : decode cX12_areUnlike 179 = .ok (.iload 10, 2) := by decide +kernel
theorem dX12_areUnlike_181 : decode cX12_areUnlike 181 = .ok (.invokevirtual 497, 3) := by decide +kernel
theorem dX12_areUnlike_184 : decode cX12_areUnlike 184 = .ok (.iload 5, 2) := by decide +kernel
theorem dX12_areUnlike_186 : decode cX12_areUnlike 186 = .ok (.imul, 1) := by decide +kernel
theorem dX12_areUnlike_187 : decode cX12_areUnlike 187 = .ok (.if_icmp .eq 7, 3) := by decide +kernel
theorem dX12_areUnlike_190 : decode cX12_areUnlike 190 = .ok (.iconst 1, 1) := by decide +kernel
theorem dX12_areUnlike_191 : decode cX12_areUnlike 191 = .ok (.goto 4, 3) := by decide +kernel
theorem dX12_areUnlike_194 : decode cX12_areUnlike 194 = .ok (.iconst 0, 1) := by decide +kernel
theorem dX12_areUnlike_195 : decode cX12_areUnlike 195 = .ok (.istore 7, 2) := by decide +kernel
theorem dX12_areUnlike_197 : decode cX12_areUnlike 197 = .ok (.iinc 8 1, 3) := by decide +kernel
theorem dX12_areUnlike_200 : decode cX12_areUnlike 200 = .ok (.goto (-133), 3) := by decide +kernel
theorem dX12_areUnlike_203 : decode cX12_areUnlike 203 = .ok (.iload 7, 2) := by decide +kernel
theorem dX12_areUnlike_205 : decode cX12_areUnlike 205 = .ok (.ireturn, 1) := by decide +kernel
theorem dX12_parted_0 : decode cX12_parted 0 = .ok (.aload_n 0, 1) := by decide +kernel
theorem dX12_parted_1 : decode cX12_parted 1 = .ok (.invokevirtual 211, 3) := by decide +kernel
theorem dX12_parted_4 : decode cX12_parted 4 = .ok (.aload_n 0, 1) := by decide +kernel
theorem dX12_parted_5 : decode cX12_parted 5 = .ok (.iload_n 1, 1) := by decide +kernel
theorem dX12_parted_6 : decode cX12_parted 6 = .ok (.invokevirtual 306, 3) := by decide +kernel
theorem dX12_parted_9 : decode cX12_parted 9 = .ok (.ifCond .eq 25, 3) := by decide +kernel
theorem dX12_parted_12 : decode cX12_parted 12 = .ok (.aload_n 0, 1) := by decide +kernel
theorem dX12_parted_13 : decode cX12_parted 13 = .ok (.iload_n 2, 1) := by decide +kernel
theorem dX12_parted_14 : decode cX12_parted 14 = .ok (.invokevirtual 306, 3) := by decide +kernel
theorem dX12_parted_17 : decode cX12_parted 17 = .ok (.ifCond .eq 17, 3) := by decide +kernel
theorem dX12_parted_20 : decode cX12_parted 20 = .ok (.iload_n 3, 1) := by decide +kernel
theorem dX12_parted_21 : decode cX12_parted 21 = .ok (.ifCond .eq 19, 3) := by decide +kernel
theorem dX12_parted_24 : decode cX12_parted 24 = .ok (.iload_n 3, 1) := by decide +kernel
theorem dX12_parted_25 : decode cX12_parted 25 = .ok (.iconst 1, 1) := by decide +kernel
theorem dX12_parted_26 : decode cX12_parted 26 = .ok (.if_icmp .eq 14, 3) := by decide +kernel
theorem dX12_parted_29 : decode cX12_parted 29 = .ok (.iload_n 3, 1) := by decide +kernel
theorem dX12_parted_30 : decode cX12_parted 30 = .ok (.iconst 3, 1) := by decide +kernel
theorem dX12_parted_31 : decode cX12_parted 31 = .ok (.if_icmp .eq 9, 3) := by decide +kernel
theorem dX12_parted_34 : decode cX12_parted 34 = .ok (.aload_n 0, 1) := by decide +kernel
theorem dX12_parted_35 : decode cX12_parted 35 = .ok (.iconst 1, 1) := by decide +kernel
theorem dX12_parted_36 : decode cX12_parted 36 = .ok (.invokevirtual 214, 3) := by decide +kernel
theorem dX12_parted_39 : decode cX12_parted 39 = .ok (.ireturn, 1) := by decide +kernel
theorem dX12_parted_40 : decode cX12_parted 40 = .ok (.iload_n 3, 1) := by decide +kernel
theorem dX12_parted_41 : decode cX12_parted 41 = .ok (.iconst 1, 1) := by decide +kernel
theorem dX12_parted_42 : decode cX12_parted 42 = .ok (.if_icmp .ne 7, 3) := by decide +kernel
theorem dX12_parted_45 : decode cX12_parted 45 = .ok (.iconst 0, 1) := by decide +kernel
theorem dX12_parted_46 : decode cX12_parted 46 = .ok (.goto 4, 3) := by decide +kernel
theorem dX12_parted_49 : decode cX12_parted 49 = .ok (.iconst 1, 1) := by decide +kernel
theorem dX12_parted_50 : decode cX12_parted 50 = .ok (.istore 6, 2) := by decide +kernel
theorem dX12_parted_52 : decode cX12_parted 52 = .ok (.iload 4, 2) := by decide +kernel
theorem dX12_parted_54 : decode cX12_parted 54 = .ok (.iload 6, 2) := by decide +kernel
theorem dX12_parted_56 : decode cX12_parted 56 = .ok (.sipush 400, 3) := by decide +kernel
theorem dX12_parted_59 : decode cX12_parted 59 = .ok (.invokestatic 203, 3) := by decide +kernel
theorem dX12_parted_62 : decode cX12_parted 62 = .ok (.ifCond .eq 16, 3) := by decide +kernel
theorem dX12_parted_65 : decode cX12_parted 65 = .ok (.iload 5, 2) := by decide +kernel
theorem dX12_parted_67 : decode cX12_parted 67 = .ok (.iload 4, 2) := by decide +kernel
theorem dX12_parted_69 : decode cX12_parted 69 = .ok (.sipush 400, 3) := by decide +kernel
theorem dX12_parted_72 : decode cX12_parted 72 = .ok (.invokestatic 203, 3) := by decide +kernel
theorem dX12_parted_75 : decode cX12_parted 75 = .ok (.ifCond .ne 9, 3) := by decide +kernel
theorem dX12_parted_78 : decode cX12_parted 78 = .ok (.aload_n 0, 1) := by decide +kernel
theorem dX12_parted_79 : decode cX12_parted 79 = .ok (.iconst 2, 1) := by decide +kernel
theorem dX12_parted_80 : decode cX12_parted 80 = .ok (.invokevirtual 214, 3) := by decide +kernel
theorem dX12_parted_83 : decode cX12_parted 83 = .ok (.ireturn, 1) := by decide +kernel
theorem dX12_parted_84 : decode cX12_parted 84 = .ok (.iload 4, 2) := by decide +kernel
theorem dX12_parted_86 : decode cX12_parted 86 = .ok (.istore 7, 2) := by decide +kernel
theorem dX12_parted_88 : decode cX12_parted 88 = .ok (.iload 7, 2) := by decide +kernel
theorem dX12_parted_90 : decode cX12_parted 90 = .ok (.iload 5, 2) := by decide +kernel
theorem dX12_parted_92 : decode cX12_parted 92 = .ok (.if_icmp .gt 76, 3) := by decide +kernel
theorem dX12_parted_95 : decode cX12_parted 95 = .ok (.iload_n 3, 1) := by decide +kernel
theorem dX12_parted_96 : decode cX12_parted 96 = .ok (.ifCond .eq 22, 3) := by decide +kernel
theorem dX12_parted_99 : decode cX12_parted 99 = .ok (.aload_n 0, 1) := by decide +kernel
theorem dX12_parted_100 : decode cX12_parted 100 = .ok (.iload_n 1, 1) := by decide +kernel
theorem dX12_parted_101 : decode cX12_parted 101 = .ok (.iload_n 2, 1) := by decide +kernel
theorem dX12_parted_102 : decode cX12_parted 102 = .ok (.iload_n 3, 1) := by decide +kernel
theorem dX12_parted_103 : decode cX12_parted 103 = .ok (.iload 7, 2) := by decide +kernel
theorem dX12_parted_105 : decode cX12_parted 105 = .ok (.invokevirtual 500, 3) := by decide +kernel
theorem dX12_parted_108 : decode cX12_parted 108 = .ok (.ifCond .eq 10, 3) := by decide +kernel
theorem dX12_parted_111 : decode cX12_parted 111 = .ok (.sipush 1000, 3) := by decide +kernel
theorem dX12_parted_114 : decode cX12_parted 114 = .ok (.iload 7, 2) := by decide +kernel
theorem dX12_parted_116 : decode cX12_parted 116 = .ok (.imul, 1) := by decide +kernel
theorem dX12_parted_117 : decode cX12_parted 117 = .ok (.ireturn, 1) := by decide +kernel
theorem dX12_parted_118 : decode cX12_parted 118 = .ok (.iload 4, 2) := by decide +kernel
theorem dX12_parted_120 : decode cX12_parted 120 = .ok (.istore 8, 2) := by decide +kernel
theorem dX12_parted_122 : decode cX12_parted 122 = .ok (.iload 8, 2) := by decide +kernel
theorem dX12_parted_124 : decode cX12_parted 124 = .ok (.iload 5, 2) := by decide +kernel
theorem dX12_parted_126 : decode cX12_parted 126 = .ok (.if_icmp .gt 36, 3) := by decide +kernel
theorem dX12_parted_129 : decode cX12_parted 129 = .ok (.iload_n 3, 1) := by decide +kernel
theorem dX12_parted_130 : decode cX12_parted 130 = .ok (.ifCond .ne 32, 3) := by decide +kernel
theorem dX12_parted_133 : decode cX12_parted 133 = .ok (.aload_n 0, 1) := by decide +kernel
theorem dX12_parted_134 : decode cX12_parted 134 = .ok (.iload_n 1, 1) := by decide +kernel
theorem dX12_parted_135 : decode cX12_parted 135 = .ok (.iload_n 2, 1) := by decide +kernel
theorem dX12_parted_136 : decode cX12_parted 136 = .ok (.iload 7, 2) := by decide +kernel
theorem dX12_parted_138 : decode cX12_parted 138 = .ok (.iload 8, 2) := by decide +kernel
theorem dX12_parted_140 : decode cX12_parted 140 = .ok (.invokevirtual 503, 3) := by decide +kernel
theorem dX12_parted_143 : decode cX12_parted 143 = .ok (.ifCond .eq 13, 3) := by decide +kernel
theorem dX12_parted_146 : decode cX12_parted 146 = .ok (.sipush 1000, 3) := by decide +kernel
theorem dX12_parted_149 : decode cX12_parted 149 = .ok (.iload 7, 2) := by decide +kernel
theorem dX12_parted_151 : decode cX12_parted 151 = .ok (.imul, 1) := by decide +kernel
theorem dX12_parted_152 : decode cX12_parted 152 = .ok (.iload 8, 2) := by decide +kernel
theorem dX12_parted_154 : decode cX12_parted 154 = .ok (.iadd, 1) := by decide +kernel
theorem dX12_parted_155 : decode cX12_parted 155 = .ok (.ireturn, 1) := by decide +kernel
theorem dX12_parted_156 : decode cX12_parted 156 = .ok (.iinc 8 1, 3) := by decide +kernel
theorem dX12_parted_159 : decode cX12_parted 159 = .ok (.goto (-37), 3) := by decide +kernel
theorem dX12_parted_162 : decode cX12_parted 162 = .ok (.iinc 7 1, 3) := by decide +kernel
theorem dX12_parted_165 : decode cX12_parted 165 = .ok (.goto (-77), 3) := by decide +kernel
theorem dX12_parted_168 : decode cX12_parted 168 = .ok (.bipush (-2), 2) := by decide +kernel
theorem dX12_parted_170 : decode cX12_parted 170 = .ok (.ireturn, 1) := by decide +kernel
theorem dX12_fewest_0 : decode cX12_fewest 0 = .ok (.aload_n 0, 1) := by decide +kernel
theorem dX12_fewest_1 : decode cX12_fewest 1 = .ok (.invokevirtual 211, 3) := by decide +kernel
theorem dX12_fewest_4 : decode cX12_fewest 4 = .ok (.aload_n 0, 1) := by decide +kernel
theorem dX12_fewest_5 : decode cX12_fewest 5 = .ok (.iload_n 1, 1) := by decide +kernel
theorem dX12_fewest_6 : decode cX12_fewest 6 = .ok (.invokevirtual 306, 3) := by decide +kernel
theorem dX12_fewest_9 : decode cX12_fewest 9 = .ok (.ifCond .eq 11, 3) := by decide +kernel
theorem dX12_fewest_12 : decode cX12_fewest 12 = .ok (.aload_n 0, 1) := by decide +kernel
theorem dX12_fewest_13 : decode cX12_fewest 13 = .ok (.iload_n 2, 1) := by decide +kernel
theorem dX12_fewest_14 : decode cX12_fewest 14 = .ok (.invokevirtual 306, 3) := by decide +kernel
theorem dX12_fewest_17 : decode cX12_fewest 17 = .ok (.ifCond .ne 9, 3) := by decide +kernel
theorem dX12_fewest_20 : decode cX12_fewest 20 = .ok (.aload_n 0, 1) := by decide +kernel
theorem dX12_fewest_21 : decode cX12_fewest 21 = .ok (.iconst 1, 1) := by decide +kernel
theorem dX12_fewest_22 : decode cX12_fewest 22 = .ok (.invokevirtual 214, 3) := by decide +kernel
theorem dX12_fewest_25 : decode cX12_fewest 25 = .ok (.ireturn, 1) := by decide +kernel
theorem dX12_fewest_26 : decode cX12_fewest 26 = .ok (.iload_n 3, 1) := by decide +kernel
theorem dX12_fewest_27 : decode cX12_fewest 27 = .ok (.iconst 1, 1) := by decide +kernel
theorem dX12_fewest_28 : decode cX12_fewest 28 = .ok (.sipush 400, 3) := by decide +kernel
theorem dX12_fewest_31 : decode cX12_fewest 31 = .ok (.invokestatic 203, 3) := by decide +kernel
theorem dX12_fewest_34 : decode cX12_fewest 34 = .ok (.ifCond .eq 15, 3) := by decide +kernel
theorem dX12_fewest_37 : decode cX12_fewest 37 = .ok (.iload 4, 2) := by decide +kernel
theorem dX12_fewest_39 : decode cX12_fewest 39 = .ok (.iconst 1, 1) := by decide +kernel
theorem dX12_fewest_40 : decode cX12_fewest 40 = .ok (.sipush 400, 3) := by decide +kernel
theorem dX12_fewest_43 : decode cX12_fewest 43 = .ok (.invokestatic 203, 3) := by decide +kernel
theorem dX12_fewest_46 : decode cX12_fewest 46 = .ok (.ifCond .ne 9, 3) := by decide +kernel
theorem dX12_fewest_49 : decode cX12_fewest 49 = .ok (.aload_n 0, 1) := by decide +kernel
theorem dX12_fewest_50 : decode cX12_fewest 50 = .ok (.iconst 2, 1) := by decide +kernel
theorem dX12_fewest_51 : decode cX12_fewest 51 = .ok (.invokevirtual 214, 3) := by decide +kernel
theorem dX12_fewest_54 : decode cX12_fewest 54 = .ok (.ireturn, 1) := by decide +kernel
theorem dX12_fewest_55 : decode cX12_fewest 55 = .ok (.aload_n 0, 1) := by decide +kernel
theorem dX12_fewest_56 : decode cX12_fewest 56 = .ok (.iload_n 1, 1) := by decide +kernel
theorem dX12_fewest_57 : decode cX12_fewest 57 = .ok (.aload_n 0, 1) := by decide +kernel
theorem dX12_fewest_58 : decode cX12_fewest 58 = .ok (.iload_n 1, 1) := by decide +kernel
theorem dX12_fewest_59 : decode cX12_fewest 59 = .ok (.invokevirtual 443, 3) := by decide +kernel
theorem dX12_fewest_62 : decode cX12_fewest 62 = .ok (.invokevirtual 324, 3) := by decide +kernel
theorem dX12_fewest_65 : decode cX12_fewest 65 = .ok (.istore 5, 2) := by decide +kernel
theorem dX12_fewest_67 : decode cX12_fewest 67 = .ok (.aload_n 0, 1) := by decide +kernel
theorem dX12_fewest_68 : decode cX12_fewest 68 = .ok (.iload_n 2, 1) := by decide +kernel
theorem dX12_fewest_69 : decode cX12_fewest 69 = .ok (.aload_n 0, 1) := by decide +kernel
theorem dX12_fewest_70 : decode cX12_fewest 70 = .ok (.iload_n 2, 1) := by decide +kernel
theorem dX12_fewest_71 : decode cX12_fewest 71 = .ok (.invokevirtual 443, 3) := by decide +kernel
theorem dX12_fewest_74 : decode cX12_fewest 74 = .ok (.invokevirtual 324, 3) := by decide +kernel
theorem dX12_fewest_77 : decode cX12_fewest 77 = .ok (.istore 6, 2) := by decide +kernel
theorem dX12_fewest_79 : decode cX12_fewest 79 = .ok (.aload_n 0, 1) := by decide +kernel
theorem dX12_fewest_80 : decode cX12_fewest 80 = .ok (.iload_n 1, 1) := by decide +kernel
theorem dX12_fewest_81 : decode cX12_fewest 81 = .ok (.iload_n 3, 1) := by decide +kernel
theorem dX12_fewest_82 : decode cX12_fewest 82 = .ok (.iload 4, 2) := by decide +kernel
theorem dX12_fewest_84 : decode cX12_fewest 84 = .ok (.iconst 0, 1) := by decide +kernel
theorem dX12_fewest_85 : decode cX12_fewest 85 = .ok (.invokevirtual 446, 3) := by decide +kernel
theorem dX12_fewest_88 : decode cX12_fewest 88 = .ok (.aload_n 0, 1) := by decide +kernel
theorem dX12_fewest_89 : decode cX12_fewest 89 = .ok (.getfield 86, 3) := by decide +kernel
theorem dX12_fewest_92 : decode cX12_fewest 92 = .ok (.iconst 1, 1) := by decide +kernel
theorem dX12_fewest_93 : decode cX12_fewest 93 = .ok (.iaload, 1) := by decide +kernel
theorem dX12_fewest_94 : decode cX12_fewest 94 = .ok (.istore 7, 2) := by decide +kernel
theorem dX12_fewest_96 : decode cX12_fewest 96 = .ok (.aload_n 0, 1) := by decide +kernel
theorem dX12_fewest_97 : decode cX12_fewest 97 = .ok (.iload_n 2, 1) := by decide +kernel
theorem dX12_fewest_98 : decode cX12_fewest 98 = .ok (.iload_n 3, 1) := by decide +kernel
theorem dX12_fewest_99 : decode cX12_fewest 99 = .ok (.iload 4, 2) := by decide +kernel
theorem dX12_fewest_101 : decode cX12_fewest 101 = .ok (.iconst 0, 1) := by decide +kernel
theorem dX12_fewest_102 : decode cX12_fewest 102 = .ok (.invokevirtual 446, 3) := by decide +kernel
theorem dX12_fewest_105 : decode cX12_fewest 105 = .ok (.aload_n 0, 1) := by decide +kernel
theorem dX12_fewest_106 : decode cX12_fewest 106 = .ok (.getfield 86, 3) := by decide +kernel
theorem dX12_fewest_109 : decode cX12_fewest 109 = .ok (.iconst 1, 1) := by decide +kernel
theorem dX12_fewest_110 : decode cX12_fewest 110 = .ok (.iaload, 1) := by decide +kernel
theorem dX12_fewest_111 : decode cX12_fewest 111 = .ok (.istore 8, 2) := by decide +kernel
theorem dX12_fewest_113 : decode cX12_fewest 113 = .ok (.iconst 1, 1) := by decide +kernel
theorem dX12_fewest_114 : decode cX12_fewest 114 = .ok (.istore 9, 2) := by decide +kernel
theorem dX12_fewest_116 : decode cX12_fewest 116 = .ok (.iload 9, 2) := by decide +kernel
theorem dX12_fewest_118 : decode cX12_fewest 118 = .ok (.bipush 40, 2) := by decide +kernel
theorem dX12_fewest_120 : decode cX12_fewest 120 = .ok (.if_icmp .gt 86, 3) := by decide +kernel
theorem dX12_fewest_123 : decode cX12_fewest 123 = .ok (.aload_n 0, 1) := by decide +kernel
theorem dX12_fewest_124 : decode cX12_fewest 124 = .ok (.iload 9, 2) := by decide +kernel
theorem dX12_fewest_126 : decode cX12_fewest 126 = .ok (.iload 7, 2) := by decide +kernel
theorem dX12_fewest_128 : decode cX12_fewest 128 = .ok (.iload 5, 2) := by decide +kernel
theorem dX12_fewest_130 : decode cX12_fewest 130 = .ok (.iload 5, 2) := by decide +kernel
theorem dX12_fewest_132 : decode cX12_fewest 132 = .ok (.imul, 1) := by decide +kernel
theorem dX12_fewest_133 : decode cX12_fewest 133 = .ok (.iconst 1, 1) := by decide +kernel
theorem dX12_fewest_134 : decode cX12_fewest 134 = .ok (.invokevirtual 436, 3) := by decide +kernel
theorem dX12_fewest_137 : decode cX12_fewest 137 = .ok (.aload_n 0, 1) := by decide +kernel
theorem dX12_fewest_138 : decode cX12_fewest 138 = .ok (.iload 9, 2) := by decide +kernel
theorem dX12_fewest_140 : decode cX12_fewest 140 = .ok (.iload 8, 2) := by decide +kernel
theorem dX12_fewest_142 : decode cX12_fewest 142 = .ok (.iload 6, 2) := by decide +kernel
theorem dX12_fewest_144 : decode cX12_fewest 144 = .ok (.iload 6, 2) := by decide +kernel
theorem dX12_fewest_146 : decode cX12_fewest 146 = .ok (.imul, 1) := by decide +kernel
theorem dX12_fewest_147 : decode cX12_fewest 147 = .ok (.iconst 0, 1) := by decide +kernel
theorem dX12_fewest_148 : decode cX12_fewest 148 = .ok (.invokevirtual 436, 3) := by decide +kernel
theorem dX12_fewest_151 : decode cX12_fewest 151 = .ok (.if_icmp .lt 34, 3) := by decide +kernel
theorem dX12_fewest_154 : decode cX12_fewest 154 = .ok (.aload_n 0, 1) := by decide +kernel
theorem dX12_fewest_155 : decode cX12_fewest 155 = .ok (.iload 9, 2) := by decide +kernel
theorem dX12_fewest_157 : decode cX12_fewest 157 = .ok (.iload 8, 2) := by decide +kernel
theorem dX12_fewest_159 : decode cX12_fewest 159 = .ok (.iload 6, 2) := by decide +kernel
theorem dX12_fewest_161 : decode cX12_fewest 161 = .ok (.iload 6, 2) := by decide +kernel
theorem dX12_fewest_163 : decode cX12_fewest 163 = .ok (.imul, 1) := by decide +kernel
theorem dX12_fewest_164 : decode cX12_fewest 164 = .ok (.iconst 1, 1) := by decide +kernel
theorem dX12_fewest_165 : decode cX12_fewest 165 = .ok (.invokevirtual 436, 3) := by decide +kernel
theorem dX12_fewest_168 : decode cX12_fewest 168 = .ok (.aload_n 0, 1) := by decide +kernel
theorem dX12_fewest_169 : decode cX12_fewest 169 = .ok (.iload 9, 2) := by decide +kernel
theorem dX12_fewest_171 : decode cX12_fewest 171 = .ok (.iload 7, 2) := by decide +kernel
theorem dX12_fewest_173 : decode cX12_fewest 173 = .ok (.iload 5, 2) := by decide +kernel
theorem dX12_fewest_175 : decode cX12_fewest 175 = .ok (.iload 5, 2) := by decide +kernel
theorem dX12_fewest_177 : decode cX12_fewest 177 = .ok (.imul, 1) := by decide +kernel
theorem dX12_fewest_178 : decode cX12_fewest 178 = .ok (.iconst 0, 1) := by decide +kernel
theorem dX12_fewest_179 : decode cX12_fewest 179 = .ok (.invokevirtual 436, 3) := by decide +kernel
theorem dX12_fewest_182 : decode cX12_fewest 182 = .ok (.if_icmp .ge 7, 3) := by decide +kernel
theorem dX12_fewest_185 : decode cX12_fewest 185 = .ok (.iconst 1, 1) := by decide +kernel
theorem dX12_fewest_186 : decode cX12_fewest 186 = .ok (.goto 4, 3) := by decide +kernel
theorem dX12_fewest_189 : decode cX12_fewest 189 = .ok (.iconst 0, 1) := by decide +kernel
theorem dX12_fewest_190 : decode cX12_fewest 190 = .ok (.istore 10, 2) := by decide +kernel
theorem dX12_fewest_192 : decode cX12_fewest 192 = .ok (.iload 10, 2) := by decide +kernel
theorem dX12_fewest_194 : decode cX12_fewest 194 = .ok (.ifCond .eq 6, 3) := by decide +kernel
theorem dX12_fewest_197 : decode cX12_fewest 197 = .ok (.iload 9, 2) := by decide +kernel
theorem dX12_fewest_199 : decode cX12_fewest 199 = .ok (.ireturn, 1) := by decide +kernel
theorem dX12_fewest_200 : decode cX12_fewest 200 = .ok (.iinc 9 1, 3) := by decide +kernel
theorem dX12_fewest_203 : decode cX12_fewest 203 = .ok (.goto (-87), 3) := by decide +kernel
theorem dX12_fewest_206 : decode cX12_fewest 206 = .ok (.bipush (-2), 2) := by decide +kernel
theorem dX12_fewest_208 : decode cX12_fewest 208 = .ok (.ireturn, 1) := by decide +kernel
theorem dX12_match_0 : decode cX12_match 0 = .ok (.aload_n 0, 1) := by decide +kernel
theorem dX12_match_1 : decode cX12_match 1 = .ok (.invokevirtual 211, 3) := by decide +kernel
theorem dX12_match_4 : decode cX12_match 4 = .ok (.aload_n 0, 1) := by decide +kernel
theorem dX12_match_5 : decode cX12_match 5 = .ok (.iload_n 1, 1) := by decide +kernel
theorem dX12_match_6 : decode cX12_match 6 = .ok (.invokevirtual 306, 3) := by decide +kernel
theorem dX12_match_9 : decode cX12_match 9 = .ok (.ifCond .eq 11, 3) := by decide +kernel
theorem dX12_match_12 : decode cX12_match 12 = .ok (.aload_n 0, 1) := by decide +kernel
theorem dX12_match_13 : decode cX12_match 13 = .ok (.iload_n 3, 1) := by decide +kernel
theorem dX12_match_14 : decode cX12_match 14 = .ok (.invokevirtual 306, 3) := by decide +kernel
theorem dX12_match_17 : decode cX12_match 17 = .ok (.ifCond .ne 9, 3) := by decide +kernel
theorem dX12_match_20 : decode cX12_match 20 = .ok (.aload_n 0, 1) := by decide +kernel
theorem dX12_match_21 : decode cX12_match 21 = .ok (.iconst 1, 1) := by decide +kernel
theorem dX12_match_22 : decode cX12_match 22 = .ok (.invokevirtual 214, 3) := by decide +kernel
theorem dX12_match_25 : decode cX12_match 25 = .ok (.ireturn, 1) := by decide +kernel
theorem dX12_match_26 : decode cX12_match 26 = .ok (.iload_n 2, 1) := by decide +kernel
theorem dX12_match_27 : decode cX12_match 27 = .ok (.iconst 1, 1) := by decide +kernel
theorem dX12_match_28 : decode cX12_match 28 = .ok (.sipush 400, 3) := by decide +kernel
theorem dX12_match_31 : decode cX12_match 31 = .ok (.invokestatic 203, 3) := by decide +kernel
theorem dX12_match_34 : decode cX12_match 34 = .ok (.ifCond .eq 17, 3) := by decide +kernel
theorem dX12_match_37 : decode cX12_match 37 = .ok (.aload_n 0, 1) := by decide +kernel
theorem dX12_match_38 : decode cX12_match 38 = .ok (.iload_n 3, 1) := by decide +kernel
theorem dX12_match_39 : decode cX12_match 39 = .ok (.aload_n 0, 1) := by decide +kernel
theorem dX12_match_40 : decode cX12_match 40 = .ok (.iload_n 1, 1) := by decide +kernel
theorem dX12_match_41 : decode cX12_match 41 = .ok (.iload_n 2, 1) := by decide +kernel
theorem dX12_match_42 : decode cX12_match 42 = .ok (.invokevirtual 330, 3) := by decide +kernel
theorem dX12_match_45 : decode cX12_match 45 = .ok (.invokevirtual 345, 3) := by decide +kernel
theorem dX12_match_48 : decode cX12_match 48 = .ok (.goto 8, 3) := by decide +kernel
theorem dX12_match_51 : decode cX12_match 51 = .ok (.aload_n 0, 1) := by decide +kernel
theorem dX12_match_52 : decode cX12_match 52 = .ok (.iconst 2, 1) := by decide +kernel
theorem dX12_match_53 : decode cX12_match 53 = .ok (.invokevirtual 214, 3) := by decide +kernel
theorem dX12_match_56 : decode cX12_match 56 = .ok (.ireturn, 1) := by decide +kernel
theorem dX12_closes_0 : decode cX12_closes 0 = .ok (.aload_n 0, 1) := by decide +kernel
theorem dX12_closes_1 : decode cX12_closes 1 = .ok (.invokevirtual 211, 3) := by decide +kernel
theorem dX12_closes_4 : decode cX12_closes 4 = .ok (.aload_n 0, 1) := by decide +kernel
theorem dX12_closes_5 : decode cX12_closes 5 = .ok (.iload_n 1, 1) := by decide +kernel
theorem dX12_closes_6 : decode cX12_closes 6 = .ok (.invokevirtual 306, 3) := by decide +kernel
theorem dX12_closes_9 : decode cX12_closes 9 = .ok (.ifCond .eq 19, 3) := by decide +kernel
theorem dX12_closes_12 : decode cX12_closes 12 = .ok (.aload_n 0, 1) := by decide +kernel
theorem dX12_closes_13 : decode cX12_closes 13 = .ok (.iload_n 2, 1) := by decide +kernel
theorem dX12_closes_14 : decode cX12_closes 14 = .ok (.invokevirtual 306, 3) := by decide +kernel
theorem dX12_closes_17 : decode cX12_closes 17 = .ok (.ifCond .eq 11, 3) := by decide +kernel
theorem dX12_closes_20 : decode cX12_closes 20 = .ok (.aload_n 0, 1) := by decide +kernel
theorem dX12_closes_21 : decode cX12_closes 21 = .ok (.iload_n 3, 1) := by decide +kernel
theorem dX12_closes_22 : decode cX12_closes 22 = .ok (.invokevirtual 306, 3) := by decide +kernel
theorem dX12_closes_25 : decode cX12_closes 25 = .ok (.ifCond .ne 9, 3) := by decide +kernel
theorem dX12_closes_28 : decode cX12_closes 28 = .ok (.aload_n 0, 1) := by decide +kernel
theorem dX12_closes_29 : decode cX12_closes 29 = .ok (.iconst 1, 1) := by decide +kernel
theorem dX12_closes_30 : decode cX12_closes 30 = .ok (.invokevirtual 469, 3) := by decide +kernel
theorem dX12_closes_33 : decode cX12_closes 33 = .ok (.ireturn, 1) := by decide +kernel
theorem dX12_closes_34 : decode cX12_closes 34 = .ok (.iload 4, 2) := by decide +kernel
theorem dX12_closes_36 : decode cX12_closes 36 = .ok (.iconst 1, 1) := by decide +kernel
theorem dX12_closes_37 : decode cX12_closes 37 = .ok (.sipush 400, 3) := by decide +kernel
theorem dX12_closes_40 : decode cX12_closes 40 = .ok (.invokestatic 203, 3) := by decide +kernel
theorem dX12_closes_43 : decode cX12_closes 43 = .ok (.ifCond .ne 9, 3) := by decide +kernel
theorem dX12_closes_46 : decode cX12_closes 46 = .ok (.aload_n 0, 1) := by decide +kernel
theorem dX12_closes_47 : decode cX12_closes 47 = .ok (.iconst 2, 1) := by decide +kernel
theorem dX12_closes_48 : decode cX12_closes 48 = .ok (.invokevirtual 469, 3) := by decide +kernel
theorem dX12_closes_51 : decode cX12_closes 51 = .ok (.ireturn, 1) := by decide +kernel
theorem dX12_closes_52 : decode cX12_closes 52 = .ok (.aload_n 0, 1) := by decide +kernel
theorem dX12_closes_53 : decode cX12_closes 53 = .ok (.iload_n 2, 1) := by decide +kernel
theorem dX12_closes_54 : decode cX12_closes 54 = .ok (.aload_n 0, 1) := by decide +kernel
theorem dX12_closes_55 : decode cX12_closes 55 = .ok (.iload_n 1, 1) := by decide +kernel
theorem dX12_closes_56 : decode cX12_closes 56 = .ok (.iload 4, 2) := by decide +kernel
theorem dX12_closes_58 : decode cX12_closes 58 = .ok (.invokevirtual 330, 3) := by decide +kernel
theorem dX12_closes_61 : decode cX12_closes 61 = .ok (.invokevirtual 345, 3) := by decide +kernel
theorem dX12_closes_64 : decode cX12_closes 64 = .ok (.istore 5, 2) := by decide +kernel
theorem dX12_closes_66 : decode cX12_closes 66 = .ok (.aload_n 0, 1) := by decide +kernel
theorem dX12_closes_67 : decode cX12_closes 67 = .ok (.iload_n 3, 1) := by decide +kernel
theorem dX12_closes_68 : decode cX12_closes 68 = .ok (.aload_n 0, 1) := by decide +kernel
theorem dX12_closes_69 : decode cX12_closes 69 = .ok (.iload_n 2, 1) := by decide +kernel
theorem dX12_closes_70 : decode cX12_closes 70 = .ok (.iload 5, 2) := by decide +kernel
theorem dX12_closes_72 : decode cX12_closes 72 = .ok (.invokevirtual 330, 3) := by decide +kernel
theorem dX12_closes_75 : decode cX12_closes 75 = .ok (.invokevirtual 345, 3) := by decide +kernel
theorem dX12_closes_78 : decode cX12_closes 78 = .ok (.istore 6, 2) := by decide +kernel
theorem dX12_closes_80 : decode cX12_closes 80 = .ok (.aload_n 0, 1) := by decide +kernel
theorem dX12_closes_81 : decode cX12_closes 81 = .ok (.iload_n 1, 1) := by decide +kernel
theorem dX12_closes_82 : decode cX12_closes 82 = .ok (.aload_n 0, 1) := by decide +kernel
theorem dX12_closes_83 : decode cX12_closes 83 = .ok (.iload_n 3, 1) := by decide +kernel
theorem dX12_closes_84 : decode cX12_closes 84 = .ok (.iload 6, 2) := by decide +kernel
theorem dX12_closes_86 : decode cX12_closes 86 = .ok (.invokevirtual 330, 3) := by decide +kernel
theorem dX12_closes_89 : decode cX12_closes 89 = .ok (.invokevirtual 345, 3) := by decide +kernel
theorem dX12_closes_92 : decode cX12_closes 92 = .ok (.iload 4, 2) := by decide +kernel
theorem dX12_closes_94 : decode cX12_closes 94 = .ok (.isub, 1) := by decide +kernel
theorem dX12_closes_95 : decode cX12_closes 95 = .ok (.ireturn, 1) := by decide +kernel
theorem dX12_stair_0 : decode cX12_stair 0 = .ok (.aload_n 0, 1) := by decide +kernel
theorem dX12_stair_1 : decode cX12_stair 1 = .ok (.invokevirtual 211, 3) := by decide +kernel
theorem dX12_stair_4 : decode cX12_stair 4 = .ok (.aload_n 0, 1) := by decide +kernel
theorem dX12_stair_5 : decode cX12_stair 5 = .ok (.iload_n 1, 1) := by decide +kernel
theorem dX12_stair_6 : decode cX12_stair 6 = .ok (.invokevirtual 315, 3) := by decide +kernel
theorem dX12_stair_9 : decode cX12_stair 9 = .ok (.ifCond .ne 10, 3) := by decide +kernel
theorem dX12_stair_12 : decode cX12_stair 12 = .ok (.aload_n 0, 1) := by decide +kernel
theorem dX12_stair_13 : decode cX12_stair 13 = .ok (.iconst 1, 1) := by decide +kernel
theorem dX12_stair_14 : decode cX12_stair 14 = .ok (.invokevirtual 214, 3) := by decide +kernel
theorem dX12_stair_17 : decode cX12_stair 17 = .ok (.i2l, 1) := by decide +kernel
theorem dX12_stair_18 : decode cX12_stair 18 = .ok (.lreturn, 1) := by decide +kernel
theorem dX12_stair_19 : decode cX12_stair 19 = .ok (.iload_n 2, 1) := by decide +kernel
theorem dX12_stair_20 : decode cX12_stair 20 = .ok (.iconst 1, 1) := by decide +kernel
theorem dX12_stair_21 : decode cX12_stair 21 = .ok (.sipush 400, 3) := by decide +kernel
theorem dX12_stair_24 : decode cX12_stair 24 = .ok (.invokestatic 203, 3) := by decide +kernel
theorem dX12_stair_27 : decode cX12_stair 27 = .ok (.ifCond .eq 37, 3) := by decide +kernel
theorem dX12_stair_30 : decode cX12_stair 30 = .ok (.iload_n 3, 1) := by decide +kernel
theorem dX12_stair_31 : decode cX12_stair 31 = .ok (.iconst 1, 1) := by decide +kernel
theorem dX12_stair_32 : decode cX12_stair 32 = .ok (.sipush 400, 3) := by decide +kernel
theorem dX12_stair_35 : decode cX12_stair 35 = .ok (.invokestatic 203, 3) := by decide +kernel
theorem dX12_stair_38 : decode cX12_stair 38 = .ok (.ifCond .eq 26, 3) := by decide +kernel
theorem dX12_stair_41 : decode cX12_stair 41 = .ok (.iload 4, 2) := by decide +kernel
theorem dX12_stair_43 : decode cX12_stair 43 = .ok (.iconst 1, 1) := by decide +kernel
theorem dX12_stair_44 : decode cX12_stair 44 = .ok (.bipush 9, 2) := by decide +kernel
theorem dX12_stair_46 : decode cX12_stair 46 = .ok (.invokestatic 203, 3) := by decide +kernel
theorem dX12_stair_49 : decode cX12_stair 49 = .ok (.ifCond .eq 15, 3) := by decide +kernel
theorem dX12_stair_52 : decode cX12_stair 52 = .ok (.iload 5, 2) := by decide +kernel
theorem dX12_stair_54 : decode cX12_stair 54 = .ok (.iconst 1, 1) := by decide +kernel
theorem dX12_stair_55 : decode cX12_stair 55 = .ok (.sipush 400, 3) := by decide +kernel
theorem dX12_stair_58 : decode cX12_stair 58 = .ok (.invokestatic 203, 3) := by decide +kernel
theorem dX12_stair_61 : decode cX12_stair 61 = .ok (.ifCond .ne 10, 3) := by decide +kernel
theorem dX12_stair_64 : decode cX12_stair 64 = .ok (.aload_n 0, 1) := by decide +kernel
theorem dX12_stair_65 : decode cX12_stair 65 = .ok (.iconst 2, 1) := by decide +kernel
theorem dX12_stair_66 : decode cX12_stair 66 = .ok (.invokevirtual 214, 3) := by decide +kernel
theorem dX12_stair_69 : decode cX12_stair 69 = .ok (.i2l, 1) := by decide +kernel
theorem dX12_stair_70 : decode cX12_stair 70 = .ok (.lreturn, 1) := by decide +kernel
theorem dX12_stair_71 : decode cX12_stair 71 = .ok (.aload_n 0, 1) := by decide +kernel
theorem dX12_stair_72 : decode cX12_stair 72 = .ok (.aload_n 0, 1) := by decide +kernel
theorem dX12_stair_73 : decode cX12_stair 73 = .ok (.getfield 20, 3) := by decide +kernel
theorem dX12_stair_76 : decode cX12_stair 76 = .ok (.bipush 120, 2) := by decide +kernel
theorem dX12_stair_78 : decode cX12_stair 78 = .ok (.iload_n 1, 1) := by decide +kernel
theorem dX12_stair_79 : decode cX12_stair 79 = .ok (.iadd, 1) := by decide +kernel
theorem dX12_stair_80 : decode cX12_stair 80 = .ok (.iaload, 1) := by decide +kernel
theorem dX12_stair_81 : decode cX12_stair 81 = .ok (.aload_n 0, 1) := by decide +kernel
theorem dX12_stair_82 : decode cX12_stair 82 = .ok (.aload_n 0, 1) := by decide +kernel
theorem dX12_stair_83 : decode cX12_stair 83 = .ok (.getfield 20, 3) := by decide +kernel
theorem dX12_stair_86 : decode cX12_stair 86 = .ok (.bipush 120, 2) := by decide +kernel
theorem dX12_stair_88 : decode cX12_stair 88 = .ok (.iload_n 1, 1) := by decide +kernel
theorem dX12_stair_89 : decode cX12_stair 89 = .ok (.iadd, 1) := by decide +kernel
theorem dX12_stair_90 : decode cX12_stair 90 = .ok (.iaload, 1) := by decide +kernel
theorem dX12_stair_91 : decode cX12_stair 91 = .ok (.invokevirtual 443, 3) := by decide +kernel
theorem dX12_stair_94 : decode cX12_stair 94 = .ok (.invokevirtual 324, 3) := by decide +kernel
theorem dX12_stair_97 : decode cX12_stair 97 = .ok (.istore 6, 2) := by decide +kernel
theorem dX12_stair_99 : decode cX12_stair 99 = .ok (.iconst 1, 1) := by decide +kernel
theorem dX12_stair_100 : decode cX12_stair 100 = .ok (.istore 7, 2) := by decide +kernel
theorem dX12_stair_102 : decode cX12_stair 102 = .ok (.iload 7, 2) := by decide +kernel
theorem dX12_stair_104 : decode cX12_stair 104 = .ok (.sipush 400, 3) := by decide +kernel
theorem dX12_stair_107 : decode cX12_stair 107 = .ok (.if_icmp .gt 27, 3) := by decide +kernel
theorem dX12_stair_110 : decode cX12_stair 110 = .ok (.aload_n 0, 1) := by decide +kernel
theorem dX12_stair_111 : decode cX12_stair 111 = .ok (.getfield 96, 3) := by decide +kernel
theorem dX12_stair_114 : decode cX12_stair 114 = .ok (.iload 7, 2) := by decide +kernel
theorem dX12_stair_116 : decode cX12_stair 116 = .ok (.iload 7, 2) := by decide +kernel
theorem dX12_stair_118 : decode cX12_stair 118 = .ok (.iload_n 2, 1) := by decide +kernel
theorem dX12_stair_119 : decode cX12_stair 119 = .ok (.if_icmp .ne 7, 3) := by decide +kernel
theorem dX12_stair_122 : decode cX12_stair 122 = .ok (.lconst 1, 1) := by decide +kernel
theorem dX12_stair_123 : decode cX12_stair 123 = .ok (.goto 4, 3) := by decide +kernel
theorem dX12_stair_126 : decode cX12_stair 126 = .ok (.lconst 0, 1) := by decide +kernel
theorem dX12_stair_127 : decode cX12_stair 127 = .ok (.lastore, 1) := by decide +kernel
theorem dX12_stair_128 : decode cX12_stair 128 = .ok (.iinc 7 1, 3) := by decide +kernel
theorem dX12_stair_131 : decode cX12_stair 131 = .ok (.goto (-29), 3) := by decide +kernel
theorem dX12_stair_134 : decode cX12_stair 134 = .ok (.iconst 0, 1) := by decide +kernel
theorem dX12_stair_135 : decode cX12_stair 135 = .ok (.istore 7, 2) := by decide +kernel
theorem dX12_stair_137 : decode cX12_stair 137 = .ok (.iload 7, 2) := by decide +kernel
theorem dX12_stair_139 : decode cX12_stair 139 = .ok (.iload 4, 2) := by decide +kernel
theorem dX12_stair_141 : decode cX12_stair 141 = .ok (.if_icmp .ge 164, 3) := by decide +kernel
theorem dX12_stair_144 : decode cX12_stair 144 = .ok (.iconst 1, 1) := by decide +kernel
theorem dX12_stair_145 : decode cX12_stair 145 = .ok (.istore 8, 2) := by decide +kernel
theorem dX12_stair_147 : decode cX12_stair 147 = .ok (.iload 8, 2) := by decide +kernel
theorem dX12_stair_149 : decode cX12_stair 149 = .ok (.sipush 400, 3) := by decide +kernel
theorem dX12_stair_152 : decode cX12_stair 152 = .ok (.if_icmp .gt 17, 3) := by decide +kernel
theorem dX12_stair_155 : decode cX12_stair 155 = .ok (.aload_n 0, 1) := by decide +kernel
theorem dX12_stair_156 : decode cX12_stair 156 = .ok (.getfield 100, 3) := by decide +kernel
theorem dX12_stair_159 : decode cX12_stair 159 = .ok (.iload 8, 2) := by decide +kernel
theorem dX12_stair_161 : decode cX12_stair 161 = .ok (.lconst 0, 1) := by decide +kernel
theorem dX12_stair_162 : decode cX12_stair 162 = .ok (.lastore, 1) := by decide +kernel
theorem dX12_stair_163 : decode cX12_stair 163 = .ok (.iinc 8 1, 3) := by decide +kernel
theorem dX12_stair_166 : decode cX12_stair 166 = .ok (.goto (-19), 3) := by decide +kernel
theorem dX12_stair_169 : decode cX12_stair 169 = .ok (.iconst 1, 1) := by decide +kernel
theorem dX12_stair_170 : decode cX12_stair 170 = .ok (.istore 8, 2) := by decide +kernel
theorem dX12_stair_172 : decode cX12_stair 172 = .ok (.iload 8, 2) := by decide +kernel
theorem dX12_stair_174 : decode cX12_stair 174 = .ok (.sipush 400, 3) := by decide +kernel
theorem dX12_stair_177 : decode cX12_stair 177 = .ok (.if_icmp .gt 91, 3) := by decide +kernel
theorem dX12_stair_180 : decode cX12_stair 180 = .ok (.aload_n 0, 1) := by decide +kernel
theorem dX12_stair_181 : decode cX12_stair 181 = .ok (.getfield 96, 3) := by decide +kernel
theorem dX12_stair_184 : decode cX12_stair 184 = .ok (.iload 8, 2) := by decide +kernel
theorem dX12_stair_186 : decode cX12_stair 186 = .ok (.laload, 1) := by decide +kernel
theorem dX12_stair_187 : decode cX12_stair 187 = .ok (.lconst 0, 1) := by decide +kernel
theorem dX12_stair_188 : decode cX12_stair 188 = .ok (.lcmp, 1) := by decide +kernel
theorem dX12_stair_189 : decode cX12_stair 189 = .ok (.ifCond .ne 6, 3) := by decide +kernel
theorem dX12_stair_192 : decode cX12_stair 192 = .ok (.goto 70, 3) := by decide +kernel
theorem dX12_stair_195 : decode cX12_stair 195 = .ok (.aload_n 0, 1) := by decide +kernel
theorem dX12_stair_196 : decode cX12_stair 196 = .ok (.iload_n 1, 1) := by decide +kernel
theorem dX12_stair_197 : decode cX12_stair 197 = .ok (.iconst 1, 1) := by decide +kernel
theorem dX12_stair_198 : decode cX12_stair 198 = .ok (.iload 8, 2) := by decide +kernel
theorem dX12_stair_200 : decode cX12_stair 200 = .ok (.iconst 0, 1) := by decide +kernel
theorem dX12_stair_201 : decode cX12_stair 201 = .ok (.iconst 1, 1) := by decide +kernel
theorem dX12_stair_202 : decode cX12_stair 202 = .ok (.invokevirtual 472, 3) := by decide +kernel
theorem dX12_stair_205 : decode cX12_stair 205 = .ok (.i2l, 1) := by decide +kernel
theorem dX12_stair_206 : decode cX12_stair 206 = .ok (.lstore 9, 2) := by decide +kernel
theorem dX12_stair_208 : decode cX12_stair 208 = .ok (.aload_n 0, 1) := by decide +kernel
theorem dX12_stair_209 : decode cX12_stair 209 = .ok (.getfield 100, 3) := by decide +kernel
theorem dX12_stair_212 : decode cX12_stair 212 = .ok (.iload 8, 2) := by decide +kernel
theorem dX12_stair_214 : decode cX12_stair 214 = .ok (.iload_n 3, 1) := by decide +kernel
theorem dX12_stair_215 : decode cX12_stair 215 = .ok (.isub, 1) := by decide +kernel
theorem dX12_stair_216 : decode cX12_stair 216 = .ok (.invokestatic 382, 3) := by decide +kernel
theorem dX12_stair_219 : decode cX12_stair 219 = .ok (.dup2, 1) := by decide +kernel
theorem dX12_stair_220 : decode cX12_stair 220 = .ok (.laload, 1) := by decide +kernel
theorem dX12_stair_221 : decode cX12_stair 221 = .ok (.aload_n 0, 1) := by decide +kernel
theorem dX12_stair_222 : decode cX12_stair 222 = .ok (.getfield 96, 3) := by decide +kernel
theorem dX12_stair_225 : decode cX12_stair 225 = .ok (.iload 8, 2) := by decide +kernel
theorem dX12_stair_227 : decode cX12_stair 227 = .ok (.laload, 1) := by decide +kernel
theorem dX12_stair_228 : decode cX12_stair 228 = .ok (.lload 9, 2) := by decide +kernel
theorem dX12_stair_230 : decode cX12_stair 230 = .ok (.lmul, 1) := by decide +kernel
theorem dX12_stair_231 : decode cX12_stair 231 = .ok (.ladd, 1) := by decide +kernel
theorem dX12_stair_232 : decode cX12_stair 232 = .ok (.lastore, 1) := by decide +kernel
theorem dX12_stair_233 : decode cX12_stair 233 = .ok (.aload_n 0, 1) := by decide +kernel
theorem dX12_stair_234 : decode cX12_stair 234 = .ok (.getfield 100, 3) := by decide +kernel
theorem dX12_stair_237 : decode cX12_stair 237 = .ok (.iload 8, 2) := by decide +kernel
theorem dX12_stair_239 : decode cX12_stair 239 = .ok (.iload_n 3, 1) := by decide +kernel
theorem dX12_stair_240 : decode cX12_stair 240 = .ok (.iadd, 1) := by decide +kernel
theorem dX12_stair_241 : decode cX12_stair 241 = .ok (.invokestatic 382, 3) := by decide +kernel
theorem dX12_stair_244 : decode cX12_stair 244 = .ok (.dup2, 1) := by decide +kernel
theorem dX12_stair_245 : decode cX12_stair 245 = .ok (.laload, 1) := by decide +kernel
theorem dX12_stair_246 : decode cX12_stair 246 = .ok (.aload_n 0, 1) := by decide +kernel
theorem dX12_stair_247 : decode cX12_stair 247 = .ok (.getfield 96, 3) := by decide +kernel
theorem dX12_stair_250 : decode cX12_stair 250 = .ok (.iload 8, 2) := by decide +kernel
theorem dX12_stair_252 : decode cX12_stair 252 = .ok (.laload, 1) := by decide +kernel
theorem dX12_stair_253 : decode cX12_stair 253 = .ok (.iload 6, 2) := by decide +kernel
theorem dX12_stair_255 : decode cX12_stair 255 = .ok (.i2l, 1) := by decide +kernel
theorem dX12_stair_256 : decode cX12_stair 256 = .ok (.lload 9, 2) := by decide +kernel
theorem dX12_stair_258 : decode cX12_stair 258 = .ok (.lsub, 1) := by decide +kernel
theorem dX12_stair_259 : decode cX12_stair 259 = .ok (.lmul, 1) := by decide +kernel
theorem dX12_stair_260 : decode cX12_stair 260 = .ok (.ladd, 1) := by decide +kernel
theorem dX12_stair_261 : decode cX12_stair 261 = .ok (.lastore, 1) := by decide +kernel
theorem dX12_stair_262 : decode cX12_stair 262 = .ok (.iinc 8 1, 3) := by decide +kernel
theorem dX12_stair_265 : decode cX12_stair 265 = .ok (.goto (-93), 3) := by decide +kernel
theorem dX12_stair_268 : decode cX12_stair 268 = .ok (.iconst 1, 1) := by decide +kernel
theorem dX12_stair_269 : decode cX12_stair 269 = .ok (.istore 8, 2) := by decide +kernel
theorem dX12_stair_271 : decode cX12_stair 271 = .ok (.iload 8, 2) := by decide +kernel
theorem dX12_stair_273 : decode cX12_stair 273 = .ok (.sipush 400, 3) := by decide +kernel
theorem dX12_stair_276 : decode cX12_stair 276 = .ok (.if_icmp .gt 23, 3) := by decide +kernel
theorem dX12_stair_279 : decode cX12_stair 279 = .ok (.aload_n 0, 1) := by decide +kernel
theorem dX12_stair_280 : decode cX12_stair 280 = .ok (.getfield 96, 3) := by decide +kernel
theorem dX12_stair_283 : decode cX12_stair 283 = .ok (.iload 8, 2) := by decide +kernel
theorem dX12_stair_285 : decode cX12_stair 285 = .ok (.aload_n 0, 1) := by decide +kernel
theorem dX12_stair_286 : decode cX12_stair 286 = .ok (.getfield 100, 3) := by decide +kernel
theorem dX12_stair_289 : decode cX12_stair 289 = .ok (.iload 8, 2) := by decide +kernel
theorem dX12_stair_291 : decode cX12_stair 291 = .ok (.laload, 1) := by decide +kernel
theorem dX12_stair_292 : decode cX12_stair 292 = .ok (.lastore, 1) := by decide +kernel
theorem dX12_stair_293 : decode cX12_stair 293 = .ok (.iinc 8 1, 3) := by decide +kernel
theorem dX12_stair_296 : decode cX12_stair 296 = .ok (.goto (-25), 3) := by decide +kernel
theorem dX12_stair_299 : decode cX12_stair 299 = .ok (.iinc 7 1, 3) := by decide +kernel
theorem dX12_stair_302 : decode cX12_stair 302 = .ok (.goto (-165), 3) := by decide +kernel
theorem dX12_stair_305 : decode cX12_stair 305 = .ok (.aload_n 0, 1) := by decide +kernel
theorem dX12_stair_306 : decode cX12_stair 306 = .ok (.getfield 96, 3) := by decide +kernel
theorem dX12_stair_309 : decode cX12_stair 309 = .ok (.iload 5, 2) := by decide +kernel
theorem dX12_stair_311 : decode cX12_stair 311 = .ok (.laload, 1) := by decide +kernel
theorem dX12_stair_312 : decode cX12_stair 312 = .ok (.lreturn, 1) := by decide +kernel
theorem dX12_image_0 : decode cX12_image 0 = .ok (.aload_n 0, 1) := by decide +kernel
theorem dX12_image_1 : decode cX12_image 1 = .ok (.invokevirtual 211, 3) := by decide +kernel
theorem dX12_image_4 : decode cX12_image 4 = .ok (.aload_n 0, 1) := by decide +kernel
theorem dX12_image_5 : decode cX12_image 5 = .ok (.iload_n 1, 1) := by decide +kernel
theorem dX12_image_6 : decode cX12_image 6 = .ok (.invokevirtual 315, 3) := by decide +kernel
theorem dX12_image_9 : decode cX12_image 9 = .ok (.ifCond .ne 10, 3) := by decide +kernel
theorem dX12_image_12 : decode cX12_image 12 = .ok (.aload_n 0, 1) := by decide +kernel
theorem dX12_image_13 : decode cX12_image 13 = .ok (.iconst 1, 1) := by decide +kernel
theorem dX12_image_14 : decode cX12_image 14 = .ok (.invokevirtual 214, 3) := by decide +kernel
theorem dX12_image_17 : decode cX12_image 17 = .ok (.i2l, 1) := by decide +kernel
theorem dX12_image_18 : decode cX12_image 18 = .ok (.lreturn, 1) := by decide +kernel
theorem dX12_image_19 : decode cX12_image 19 = .ok (.aload_n 0, 1) := by decide +kernel
theorem dX12_image_20 : decode cX12_image 20 = .ok (.getfield 29, 3) := by decide +kernel
theorem dX12_image_23 : decode cX12_image 23 = .ok (.iload_n 1, 1) := by decide +kernel
theorem dX12_image_24 : decode cX12_image 24 = .ok (.iaload, 1) := by decide +kernel
theorem dX12_image_25 : decode cX12_image 25 = .ok (.sipush 4095, 3) := by decide +kernel
theorem dX12_image_28 : decode cX12_image 28 = .ok (.if_icmp .le 12, 3) := by decide +kernel
theorem dX12_image_31 : decode cX12_image 31 = .ok (.aload_n 0, 1) := by decide +kernel
theorem dX12_image_32 : decode cX12_image 32 = .ok (.iconst 3, 1) := by decide +kernel
theorem dX12_image_33 : decode cX12_image 33 = .ok (.invokevirtual 214, 3) := by decide +kernel
theorem dX12_image_36 : decode cX12_image 36 = .ok (.i2l, 1) := by decide +kernel
theorem dX12_image_37 : decode cX12_image 37 = .ok (.goto 32, 3) := by decide +kernel
theorem dX12_image_40 : decode cX12_image 40 = .ok (.aload_n 0, 1) := by decide +kernel
theorem dX12_image_41 : decode cX12_image 41 = .ok (.getfield 223, 3) := by decide +kernel
theorem dX12_image_44 : decode cX12_image 44 = .ok (.i2l, 1) := by decide +kernel
theorem dX12_image_45 : decode cX12_image 45 = .ok (.ldc2_w 506, 3) := by decide +kernel
theorem dX12_image_48 : decode cX12_image 48 = .ok (.aload_n 0, 1) := by decide +kernel
theorem dX12_image_49 : decode cX12_image 49 = .ok (.getfield 32, 3) := by decide +kernel
theorem dX12_image_52 : decode cX12_image 52 = .ok (.iload_n 1, 1) := by decide +kernel
theorem dX12_image_53 : decode cX12_image 53 = .ok (.iaload, 1) := by decide +kernel
theorem dX12_image_54 : decode cX12_image 54 = .ok (.i2l, 1) := by decide +kernel
theorem dX12_image_55 : decode cX12_image 55 = .ok (.ldc2_w 508, 3) := by decide +kernel
theorem dX12_image_58 : decode cX12_image 58 = .ok (.aload_n 0, 1) := by decide +kernel
theorem dX12_image_59 : decode cX12_image 59 = .ok (.getfield 29, 3) := by decide +kernel
theorem dX12_image_62 : decode cX12_image 62 = .ok (.iload_n 1, 1) := by decide +kernel
theorem dX12_image_63 : decode cX12_image 63 = .ok (.iaload, 1) := by decide +kernel
theorem dX12_image_64 : decode cX12_image 64 = .ok (.i2l, 1) := by decide +kernel
theorem dX12_image_65 : decode cX12_image 65 = .ok (.lmul, 1) := by decide +kernel
theorem dX12_image_66 : decode cX12_image 66 = .ok (.ladd, 1) := by decide +kernel
theorem dX12_image_67 : decode cX12_image 67 = .ok (.lmul, 1) := by decide +kernel
theorem dX12_image_68 : decode cX12_image 68 = .ok (.ladd, 1) := by decide +kernel
theorem dX12_image_69 : decode cX12_image 69 = .ok (.lreturn, 1) := by decide +kernel
theorem dX12_restore_0 : decode cX12_restore 0 = .ok (.aload_n 0, 1) := by decide +kernel
theorem dX12_restore_1 : decode cX12_restore 1 = .ok (.invokevirtual 211, 3) := by decide +kernel
theorem dX12_restore_4 : decode cX12_restore 4 = .ok (.aload_n 0, 1) := by decide +kernel
theorem dX12_restore_5 : decode cX12_restore 5 = .ok (.iload_n 1, 1) := by decide +kernel
theorem dX12_restore_6 : decode cX12_restore 6 = .ok (.invokevirtual 315, 3) := by decide +kernel
theorem dX12_restore_9 : decode cX12_restore 9 = .ok (.ifCond .ne 9, 3) := by decide +kernel
theorem dX12_restore_12 : decode cX12_restore 12 = .ok (.aload_n 0, 1) := by decide +kernel
theorem dX12_restore_13 : decode cX12_restore 13 = .ok (.iconst 1, 1) := by decide +kernel
theorem dX12_restore_14 : decode cX12_restore 14 = .ok (.invokevirtual 327, 3) := by decide +kernel
theorem dX12_restore_17 : decode cX12_restore 17 = .ok (.ireturn, 1) := by decide +kernel
theorem dX12_restore_18 : decode cX12_restore 18 = .ok (.lload_n 2, 1) := by decide +kernel
theorem dX12_restore_19 : decode cX12_restore 19 = .ok (.lconst 0, 1) := by decide +kernel
theorem dX12_restore_20 : decode cX12_restore 20 = .ok (.lcmp, 1) := by decide +kernel
theorem dX12_restore_21 : decode cX12_restore 21 = .ok (.ifCond .ge 9, 3) := by decide +kernel
theorem dX12_restore_24 : decode cX12_restore 24 = .ok (.aload_n 0, 1) := by decide +kernel
theorem dX12_restore_25 : decode cX12_restore 25 = .ok (.iconst 2, 1) := by decide +kernel
theorem dX12_restore_26 : decode cX12_restore 26 = .ok (.invokevirtual 327, 3) := by decide +kernel
theorem dX12_restore_29 : decode cX12_restore 29 = .ok (.ireturn, 1) := by decide +kernel
theorem dX12_restore_30 : decode cX12_restore 30 = .ok (.lload_n 2, 1) := by decide +kernel
theorem dX12_restore_31 : decode cX12_restore 31 = .ok (.ldc2_w 506, 3) := by decide +kernel
theorem dX12_restore_34 : decode cX12_restore 34 = .ok (.ldiv, 1) := by decide +kernel
theorem dX12_restore_35 : decode cX12_restore 35 = .ok (.lstore 4, 2) := by decide +kernel
theorem dX12_restore_37 : decode cX12_restore 37 = .ok (.lload 4, 2) := by decide +kernel
theorem dX12_restore_39 : decode cX12_restore 39 = .ok (.ldc2_w 508, 3) := by decide +kernel
theorem dX12_restore_42 : decode cX12_restore 42 = .ok (.lrem, 1) := by decide +kernel
theorem dX12_restore_43 : decode cX12_restore 43 = .ok (.lstore 6, 2) := by decide +kernel
theorem dX12_restore_45 : decode cX12_restore 45 = .ok (.lload 4, 2) := by decide +kernel
theorem dX12_restore_47 : decode cX12_restore 47 = .ok (.ldc2_w 508, 3) := by decide +kernel
theorem dX12_restore_50 : decode cX12_restore 50 = .ok (.ldiv, 1) := by decide +kernel
theorem dX12_restore_51 : decode cX12_restore 51 = .ok (.lstore 8, 2) := by decide +kernel
theorem dX12_restore_53 : decode cX12_restore 53 = .ok (.lload 8, 2) := by decide +kernel
theorem dX12_restore_55 : decode cX12_restore 55 = .ok (.ldc2_w 510, 3) := by decide +kernel
theorem dX12_restore_58 : decode cX12_restore 58 = .ok (.lcmp, 1) := by decide +kernel
theorem dX12_restore_59 : decode cX12_restore 59 = .ok (.ifCond .gt 11, 3) := by decide +kernel
theorem dX12_restore_62 : decode cX12_restore 62 = .ok (.lload 6, 2) := by decide +kernel
theorem dX12_restore_64 : decode cX12_restore 64 = .ok (.lload 8, 2) := by decide +kernel
theorem dX12_restore_66 : decode cX12_restore 66 = .ok (.lcmp, 1) := by decide +kernel
theorem dX12_restore_67 : decode cX12_restore 67 = .ok (.ifCond .le 9, 3) := by decide +kernel
theorem dX12_restore_70 : decode cX12_restore 70 = .ok (.aload_n 0, 1) := by decide +kernel
theorem dX12_restore_71 : decode cX12_restore 71 = .ok (.iconst 2, 1) := by decide +kernel
theorem dX12_restore_72 : decode cX12_restore 72 = .ok (.invokevirtual 327, 3) := by decide +kernel
theorem dX12_restore_75 : decode cX12_restore 75 = .ok (.ireturn, 1) := by decide +kernel
theorem dX12_restore_76 : decode cX12_restore 76 = .ok (.aload_n 0, 1) := by decide +kernel
theorem dX12_restore_77 : decode cX12_restore 77 = .ok (.lload_n 2, 1) := by decide +kernel
theorem dX12_restore_78 : decode cX12_restore 78 = .ok (.ldc2_w 506, 3) := by decide +kernel
theorem dX12_restore_81 : decode cX12_restore 81 = .ok (.lrem, 1) := by decide +kernel
theorem dX12_restore_82 : decode cX12_restore 82 = .ok (.l2i, 1) := by decide +kernel
theorem dX12_restore_83 : decode cX12_restore 83 = .ok (.putfield 223, 3) := by decide +kernel
theorem dX12_restore_86 : decode cX12_restore 86 = .ok (.aload_n 0, 1) := by decide +kernel
theorem dX12_restore_87 : decode cX12_restore 87 = .ok (.getfield 32, 3) := by decide +kernel
theorem dX12_restore_90 : decode cX12_restore 90 = .ok (.iload_n 1, 1) := by decide +kernel
theorem dX12_restore_91 : decode cX12_restore 91 = .ok (.lload 6, 2) := by decide +kernel
theorem dX12_restore_93 : decode cX12_restore 93 = .ok (.l2i, 1) := by decide +kernel
theorem dX12_restore_94 : decode cX12_restore 94 = .ok (.iastore, 1) := by decide +kernel
theorem dX12_restore_95 : decode cX12_restore 95 = .ok (.aload_n 0, 1) := by decide +kernel
theorem dX12_restore_96 : decode cX12_restore 96 = .ok (.getfield 29, 3) := by decide +kernel
theorem dX12_restore_99 : decode cX12_restore 99 = .ok (.iload_n 1, 1) := by decide +kernel
theorem dX12_restore_100 : decode cX12_restore 100 = .ok (.lload 8, 2) := by decide +kernel
theorem dX12_restore_102 : decode cX12_restore 102 = .ok (.l2i, 1) := by decide +kernel
theorem dX12_restore_103 : decode cX12_restore 103 = .ok (.iastore, 1) := by decide +kernel
theorem dX12_restore_104 : decode cX12_restore 104 = .ok (.iconst 1, 1) := by decide +kernel
theorem dX12_restore_105 : decode cX12_restore 105 = .ok (.ireturn, 1) := by decide +kernel
theorem dX12_clear_0 : decode cX12_clear 0 = .ok (.aload_n 0, 1) := by decide +kernel
theorem dX12_clear_1 : decode cX12_clear 1 = .ok (.iconst 0, 1) := by decide +kernel
theorem dX12_clear_2 : decode cX12_clear 2 = .ok (.putfield 103, 3) := by decide +kernel
theorem dX12_clear_5 : decode cX12_clear 5 = .ok (.aload_n 0, 1) := by decide +kernel
theorem dX12_clear_6 : decode cX12_clear 6 = .ok (.getfield 226, 3) := by decide +kernel
theorem dX12_clear_9 : decode cX12_clear 9 = .ok (.istore_n 1, 1) := by decide +kernel
theorem dX12_clear_10 : decode cX12_clear 10 = .ok (.aload_n 0, 1) := by decide +kernel
theorem dX12_clear_11 : decode cX12_clear 11 = .ok (.iconst 0, 1) := by decide +kernel
theorem dX12_clear_12 : decode cX12_clear 12 = .ok (.putfield 226, 3) := by decide +kernel
theorem dX12_clear_15 : decode cX12_clear 15 = .ok (.iload_n 1, 1) := by decide +kernel
theorem dX12_clear_16 : decode cX12_clear 16 = .ok (.ireturn, 1) := by decide +kernel
theorem dX12_led_0 : decode cX12_led 0 = .ok (.iconst 0, 1) := by decide +kernel
theorem dX12_led_1 : decode cX12_led 1 = .ok (.istore_n 3, 1) := by decide +kernel
theorem dX12_led_2 : decode cX12_led 2 = .ok (.iconst 0, 1) := by decide +kernel
theorem dX12_led_3 : decode cX12_led 3 = .ok (.istore 4, 2) := by decide +kernel
theorem dX12_led_5 : decode cX12_led 5 = .ok (.iload 4, 2) := by decide +kernel
theorem dX12_led_7 : decode cX12_led 7 = .ok (.aload_n 0, 1) := by decide +kernel
theorem dX12_led_8 : decode cX12_led 8 = .ok (.getfield 226, 3) := by decide +kernel
theorem dX12_led_11 : decode cX12_led 11 = .ok (.if_icmp .ge 52, 3) := by decide +kernel
theorem dX12_led_14 : decode cX12_led 14 = .ok (.aload_n 0, 1) := by decide +kernel
theorem dX12_led_15 : decode cX12_led 15 = .ok (.iload_n 1, 1) := by decide +kernel
theorem dX12_led_16 : decode cX12_led 16 = .ok (.invokevirtual 315, 3) := by decide +kernel
theorem dX12_led_19 : decode cX12_led 19 = .ok (.ifCond .eq 44, 3) := by decide +kernel
theorem dX12_led_22 : decode cX12_led 22 = .ok (.aload_n 0, 1) := by decide +kernel
theorem dX12_led_23 : decode cX12_led 23 = .ok (.getfield 35, 3) := by decide +kernel
theorem dX12_led_26 : decode cX12_led 26 = .ok (.iload 4, 2) := by decide +kernel
theorem dX12_led_28 : decode cX12_led 28 = .ok (.iaload, 1) := by decide +kernel
theorem dX12_led_29 : decode cX12_led 29 = .ok (.iload_n 1, 1) := by decide +kernel
theorem dX12_led_30 : decode cX12_led 30 = .ok (.if_icmp .eq 6, 3) := by decide +kernel
theorem dX12_led_33 : decode cX12_led 33 = .ok (.goto 24, 3) := by decide +kernel
theorem dX12_led_36 : decode cX12_led 36 = .ok (.iload_n 3, 1) := by decide +kernel
theorem dX12_led_37 : decode cX12_led 37 = .ok (.iload_n 2, 1) := by decide +kernel
theorem dX12_led_38 : decode cX12_led 38 = .ok (.if_icmp .ne 16, 3) := by decide +kernel
theorem dX12_led_41 : decode cX12_led 41 = .ok (.aload_n 0, 1) := by decide +kernel
theorem dX12_led_42 : decode cX12_led 42 = .ok (.iconst 0, 1) := by decide +kernel
theorem dX12_led_43 : decode cX12_led 43 = .ok (.putfield 103, 3) := by decide +kernel
theorem dX12_led_46 : decode cX12_led 46 = .ok (.aload_n 0, 1) := by decide +kernel
theorem dX12_led_47 : decode cX12_led 47 = .ok (.getfield 50, 3) := by decide +kernel
theorem dX12_led_50 : decode cX12_led 50 = .ok (.iload 4, 2) := by decide +kernel
theorem dX12_led_52 : decode cX12_led 52 = .ok (.iaload, 1) := by decide +kernel
theorem dX12_led_53 : decode cX12_led 53 = .ok (.ireturn, 1) := by decide +kernel
theorem dX12_led_54 : decode cX12_led 54 = .ok (.iinc 3 1, 3) := by decide +kernel
theorem dX12_led_57 : decode cX12_led 57 = .ok (.iinc 4 1, 3) := by decide +kernel
theorem dX12_led_60 : decode cX12_led 60 = .ok (.goto (-55), 3) := by decide +kernel
theorem dX12_led_63 : decode cX12_led 63 = .ok (.aload_n 0, 1) := by decide +kernel
theorem dX12_led_64 : decode cX12_led 64 = .ok (.iconst 1, 1) := by decide +kernel
theorem dX12_led_65 : decode cX12_led 65 = .ok (.putfield 103, 3) := by decide +kernel
theorem dX12_led_68 : decode cX12_led 68 = .ok (.iconst 0, 1) := by decide +kernel
theorem dX12_led_69 : decode cX12_led 69 = .ok (.ireturn, 1) := by decide +kernel
theorem dX12_size_0 : decode cX12_size 0 = .ok (.aload_n 0, 1) := by decide +kernel
theorem dX12_size_1 : decode cX12_size 1 = .ok (.iconst 0, 1) := by decide +kernel
theorem dX12_size_2 : decode cX12_size 2 = .ok (.putfield 103, 3) := by decide +kernel
theorem dX12_size_5 : decode cX12_size 5 = .ok (.iload_n 1, 1) := by decide +kernel
theorem dX12_size_6 : decode cX12_size 6 = .ok (.tableswitch 137 0 6 #[42, 62, 82, 102, 122, 127, 132], 42) := by decide +kernel
theorem dX12_size_48 : decode cX12_size 48 = .ok (.aload_n 0, 1) := by decide +kernel
theorem dX12_size_49 : decode cX12_size 49 = .ok (.getfield 220, 3) := by decide +kernel
theorem dX12_size_52 : decode cX12_size 52 = .ok (.ifCond .eq 14, 3) := by decide +kernel
theorem dX12_size_55 : decode cX12_size 55 = .ok (.aload_n 0, 1) := by decide +kernel
theorem dX12_size_56 : decode cX12_size 56 = .ok (.getfield 20, 3) := by decide +kernel
theorem dX12_size_59 : decode cX12_size 59 = .ok (.sipush 238, 3) := by decide +kernel
theorem dX12_size_62 : decode cX12_size 62 = .ok (.iaload, 1) := by decide +kernel
theorem dX12_size_63 : decode cX12_size 63 = .ok (.goto 4, 3) := by decide +kernel
theorem dX12_size_66 : decode cX12_size 66 = .ok (.iconst 0, 1) := by decide +kernel
theorem dX12_size_67 : decode cX12_size 67 = .ok (.ireturn, 1) := by decide +kernel
theorem dX12_size_68 : decode cX12_size 68 = .ok (.aload_n 0, 1) := by decide +kernel
theorem dX12_size_69 : decode cX12_size 69 = .ok (.getfield 220, 3) := by decide +kernel
theorem dX12_size_72 : decode cX12_size 72 = .ok (.ifCond .eq 14, 3) := by decide +kernel
theorem dX12_size_75 : decode cX12_size 75 = .ok (.aload_n 0, 1) := by decide +kernel
theorem dX12_size_76 : decode cX12_size 76 = .ok (.getfield 20, 3) := by decide +kernel
theorem dX12_size_79 : decode cX12_size 79 = .ok (.sipush 239, 3) := by decide +kernel
theorem dX12_size_82 : decode cX12_size 82 = .ok (.iaload, 1) := by decide +kernel
theorem dX12_size_83 : decode cX12_size 83 = .ok (.goto 4, 3) := by decide +kernel
theorem dX12_size_86 : decode cX12_size 86 = .ok (.iconst 0, 1) := by decide +kernel
theorem dX12_size_87 : decode cX12_size 87 = .ok (.ireturn, 1) := by decide +kernel
theorem dX12_size_88 : decode cX12_size 88 = .ok (.aload_n 0, 1) := by decide +kernel
theorem dX12_size_89 : decode cX12_size 89 = .ok (.getfield 220, 3) := by decide +kernel
theorem dX12_size_92 : decode cX12_size 92 = .ok (.ifCond .eq 14, 3) := by decide +kernel
theorem dX12_size_95 : decode cX12_size 95 = .ok (.aload_n 0, 1) := by decide +kernel
theorem dX12_size_96 : decode cX12_size 96 = .ok (.getfield 20, 3) := by decide +kernel
theorem dX12_size_99 : decode cX12_size 99 = .ok (.sipush 240, 3) := by decide +kernel
theorem dX12_size_102 : decode cX12_size 102 = .ok (.iaload, 1) := by decide +kernel
theorem dX12_size_103 : decode cX12_size 103 = .ok (.goto 4, 3) := by decide +kernel
theorem dX12_size_106 : decode cX12_size 106 = .ok (.iconst 0, 1) := by decide +kernel
theorem dX12_size_107 : decode cX12_size 107 = .ok (.ireturn, 1) := by decide +kernel
theorem dX12_size_108 : decode cX12_size 108 = .ok (.aload_n 0, 1) := by decide +kernel
theorem dX12_size_109 : decode cX12_size 109 = .ok (.getfield 220, 3) := by decide +kernel
theorem dX12_size_112 : decode cX12_size 112 = .ok (.ifCond .eq 14, 3) := by decide +kernel
theorem dX12_size_115 : decode cX12_size 115 = .ok (.aload_n 0, 1) := by decide +kernel
theorem dX12_size_116 : decode cX12_size 116 = .ok (.getfield 20, 3) := by decide +kernel
theorem dX12_size_119 : decode cX12_size 119 = .ok (.sipush 241, 3) := by decide +kernel
theorem dX12_size_122 : decode cX12_size 122 = .ok (.iaload, 1) := by decide +kernel
theorem dX12_size_123 : decode cX12_size 123 = .ok (.goto 4, 3) := by decide +kernel
theorem dX12_size_126 : decode cX12_size 126 = .ok (.iconst 0, 1) := by decide +kernel
theorem dX12_size_127 : decode cX12_size 127 = .ok (.ireturn, 1) := by decide +kernel
theorem dX12_size_128 : decode cX12_size 128 = .ok (.aload_n 0, 1) := by decide +kernel
theorem dX12_size_129 : decode cX12_size 129 = .ok (.getfield 226, 3) := by decide +kernel
theorem dX12_size_132 : decode cX12_size 132 = .ok (.ireturn, 1) := by decide +kernel
theorem dX12_size_133 : decode cX12_size 133 = .ok (.aload_n 0, 1) := by decide +kernel
theorem dX12_size_134 : decode cX12_size 134 = .ok (.getfield 223, 3) := by decide +kernel
theorem dX12_size_137 : decode cX12_size 137 = .ok (.ireturn, 1) := by decide +kernel
theorem dX12_size_138 : decode cX12_size 138 = .ok (.aload_n 0, 1) := by decide +kernel
theorem dX12_size_139 : decode cX12_size 139 = .ok (.getfield 111, 3) := by decide +kernel
theorem dX12_size_142 : decode cX12_size 142 = .ok (.ireturn, 1) := by decide +kernel
theorem dX12_size_143 : decode cX12_size 143 = .ok (.iconst (-1), 1) := by decide +kernel
theorem dX12_size_144 : decode cX12_size 144 = .ok (.ireturn, 1) := by decide +kernel
theorem dX12_trouble_0 : decode cX12_trouble 0 = .ok (.aload_n 0, 1) := by decide +kernel
theorem dX12_trouble_1 : decode cX12_trouble 1 = .ok (.iconst 0, 1) := by decide +kernel
theorem dX12_trouble_2 : decode cX12_trouble 2 = .ok (.putfield 103, 3) := by decide +kernel
theorem dX12_trouble_5 : decode cX12_trouble 5 = .ok (.aload_n 0, 1) := by decide +kernel
theorem dX12_trouble_6 : decode cX12_trouble 6 = .ok (.getfield 106, 3) := by decide +kernel
theorem dX12_trouble_9 : decode cX12_trouble 9 = .ok (.ireturn, 1) := by decide +kernel
theorem dJ9_floorMod_7cf53_0 : decode cJ9_floorMod_7cf53 0 = .ok (.iload_n 0, 1) := by decide +kernel
theorem dJ9_floorMod_7cf53_1 : decode cJ9_floorMod_7cf53 1 = .ok (.iload_n 1, 1) := by decide +kernel
theorem dJ9_floorMod_7cf53_2 : decode cJ9_floorMod_7cf53 2 = .ok (.irem, 1) := by decide +kernel
theorem dJ9_floorMod_7cf53_3 : decode cJ9_floorMod_7cf53 3 = .ok (.istore_n 2, 1) := by decide +kernel
theorem dJ9_floorMod_7cf53_4 : decode cJ9_floorMod_7cf53 4 = .ok (.iload_n 0, 1) := by decide +kernel
theorem dJ9_floorMod_7cf53_5 : decode cJ9_floorMod_7cf53 5 = .ok (.iload_n 1, 1) := by decide +kernel
theorem dJ9_floorMod_7cf53_6 : decode cJ9_floorMod_7cf53 6 = .ok (.ixor, 1) := by decide +kernel
theorem dJ9_floorMod_7cf53_7 : decode cJ9_floorMod_7cf53 7 = .ok (.ifCond .ge 11, 3) := by decide +kernel
theorem dJ9_floorMod_7cf53_10 : decode cJ9_floorMod_7cf53 10 = .ok (.iload_n 2, 1) := by decide +kernel
theorem dJ9_floorMod_7cf53_11 : decode cJ9_floorMod_7cf53 11 = .ok (.ifCond .eq 7, 3) := by decide +kernel
theorem dJ9_floorMod_7cf53_14 : decode cJ9_floorMod_7cf53 14 = .ok (.iload_n 2, 1) := by decide +kernel
theorem dJ9_floorMod_7cf53_15 : decode cJ9_floorMod_7cf53 15 = .ok (.iload_n 1, 1) := by decide +kernel
theorem dJ9_floorMod_7cf53_16 : decode cJ9_floorMod_7cf53 16 = .ok (.iadd, 1) := by decide +kernel
theorem dJ9_floorMod_7cf53_17 : decode cJ9_floorMod_7cf53 17 = .ok (.ireturn, 1) := by decide +kernel
theorem dJ9_floorMod_7cf53_18 : decode cJ9_floorMod_7cf53 18 = .ok (.iload_n 2, 1) := by decide +kernel
theorem dJ9_floorMod_7cf53_19 : decode cJ9_floorMod_7cf53 19 = .ok (.ireturn, 1) := by decide +kernel
theorem dJ9_abs_0f7a4_0 : decode cJ9_abs_0f7a4 0 = .ok (.iload_n 0, 1) := by decide +kernel
theorem dJ9_abs_0f7a4_1 : decode cJ9_abs_0f7a4 1 = .ok (.ifCond .ge 8, 3) := by decide +kernel
theorem dJ9_abs_0f7a4_4 : decode cJ9_abs_0f7a4 4 = .ok (.iload_n 0, 1) := by decide +kernel
theorem dJ9_abs_0f7a4_5 : decode cJ9_abs_0f7a4 5 = .ok (.ineg, 1) := by decide +kernel
theorem dJ9_abs_0f7a4_6 : decode cJ9_abs_0f7a4 6 = .ok (.goto 4, 3) := by decide +kernel
theorem dJ9_abs_0f7a4_9 : decode cJ9_abs_0f7a4 9 = .ok (.iload_n 0, 1) := by decide +kernel
theorem dJ9_abs_0f7a4_10 : decode cJ9_abs_0f7a4 10 = .ok (.ireturn, 1) := by decide +kernel
theorem dJ9_max_7cf53_0 : decode cJ9_max_7cf53 0 = .ok (.iload_n 0, 1) := by decide +kernel
theorem dJ9_max_7cf53_1 : decode cJ9_max_7cf53 1 = .ok (.iload_n 1, 1) := by decide +kernel
theorem dJ9_max_7cf53_2 : decode cJ9_max_7cf53 2 = .ok (.if_icmp .lt 7, 3) := by decide +kernel
theorem dJ9_max_7cf53_5 : decode cJ9_max_7cf53 5 = .ok (.iload_n 0, 1) := by decide +kernel
theorem dJ9_max_7cf53_6 : decode cJ9_max_7cf53 6 = .ok (.goto 4, 3) := by decide +kernel
theorem dJ9_max_7cf53_9 : decode cJ9_max_7cf53 9 = .ok (.iload_n 1, 1) := by decide +kernel
theorem dJ9_max_7cf53_10 : decode cJ9_max_7cf53 10 = .ok (.ireturn, 1) := by decide +kernel
theorem dJ9_min_7cf53_0 : decode cJ9_min_7cf53 0 = .ok (.iload_n 0, 1) := by decide +kernel
theorem dJ9_min_7cf53_1 : decode cJ9_min_7cf53 1 = .ok (.iload_n 1, 1) := by decide +kernel
theorem dJ9_min_7cf53_2 : decode cJ9_min_7cf53 2 = .ok (.if_icmp .gt 7, 3) := by decide +kernel
theorem dJ9_min_7cf53_5 : decode cJ9_min_7cf53 5 = .ok (.iload_n 0, 1) := by decide +kernel
theorem dJ9_min_7cf53_6 : decode cJ9_min_7cf53 6 = .ok (.goto 4, 3) := by decide +kernel
theorem dJ9_min_7cf53_9 : decode cJ9_min_7cf53 9 = .ok (.iload_n 1, 1) := by decide +kernel
theorem dJ9_min_7cf53_10 : decode cJ9_min_7cf53 10 = .ok (.ireturn, 1) := by decide +kernel
theorem dJ0_length_8abf5_0 : decode cJ0_length_8abf5 0 = .ok (.aload_n 0, 1) := by decide +kernel
theorem dJ0_length_8abf5_1 : decode cJ0_length_8abf5 1 = .ok (.getfield 9, 3) := by decide +kernel
theorem dJ0_length_8abf5_4 : decode cJ0_length_8abf5 4 = .ok (.arraylength, 1) := by decide +kernel
theorem dJ0_length_8abf5_5 : decode cJ0_length_8abf5 5 = .ok (.aload_n 0, 1) := by decide +kernel
theorem dJ0_length_8abf5_6 : decode cJ0_length_8abf5 6 = .ok (.invokevirtual 335, 3) := by decide +kernel
theorem dJ0_length_8abf5_9 : decode cJ0_length_8abf5 9 = .ok (.ishr, 1) := by decide +kernel
theorem dJ0_length_8abf5_10 : decode cJ0_length_8abf5 10 = .ok (.ireturn, 1) := by decide +kernel
theorem dJ0_charAt_5068e_0 : decode cJ0_charAt_5068e 0 = .ok (.aload_n 0, 1) := by decide +kernel
theorem dJ0_charAt_5068e_1 : decode cJ0_charAt_5068e 1 = .ok (.invokevirtual 492, 3) := by decide +kernel
theorem dJ0_charAt_5068e_4 : decode cJ0_charAt_5068e 4 = .ok (.ifCond .eq 12, 3) := by decide +kernel
theorem dJ0_charAt_5068e_7 : decode cJ0_charAt_5068e 7 = .ok (.aload_n 0, 1) := by decide +kernel
theorem dJ0_charAt_5068e_8 : decode cJ0_charAt_5068e 8 = .ok (.getfield 9, 3) := by decide +kernel
theorem dJ0_charAt_5068e_11 : decode cJ0_charAt_5068e 11 = .ok (.iload_n 1, 1) := by decide +kernel
theorem dJ0_charAt_5068e_12 : decode cJ0_charAt_5068e 12 = .ok (.invokestatic 495, 3) := by decide +kernel
theorem dJ0_charAt_5068e_15 : decode cJ0_charAt_5068e 15 = .ok (.ireturn, 1) := by decide +kernel
theorem dJ0_charAt_5068e_16 : decode cJ0_charAt_5068e 16 = .ok (.aload_n 0, 1) := by decide +kernel
theorem dJ0_charAt_5068e_17 : decode cJ0_charAt_5068e 17 = .ok (.getfield 9, 3) := by decide +kernel
theorem dJ0_charAt_5068e_20 : decode cJ0_charAt_5068e 20 = .ok (.iload_n 1, 1) := by decide +kernel
theorem dJ0_charAt_5068e_21 : decode cJ0_charAt_5068e 21 = .ok (.invokestatic 498, 3) := by decide +kernel
theorem dJ0_charAt_5068e_24 : decode cJ0_charAt_5068e 24 = .ok (.ireturn, 1) := by decide +kernel
theorem dJ0_coder_7d493_0 : decode cJ0_coder_7d493 0 = .ok (.getstatic 38, 3) := by decide +kernel
theorem dJ0_coder_7d493_3 : decode cJ0_coder_7d493 3 = .ok (.ifCond .eq 10, 3) := by decide +kernel
theorem dJ0_coder_7d493_6 : decode cJ0_coder_7d493 6 = .ok (.aload_n 0, 1) := by decide +kernel
theorem dJ0_coder_7d493_7 : decode cJ0_coder_7d493 7 = .ok (.getfield 15, 3) := by decide +kernel
theorem dJ0_coder_7d493_10 : decode cJ0_coder_7d493 10 = .ok (.goto 4, 3) := by decide +kernel
theorem dJ0_coder_7d493_13 : decode cJ0_coder_7d493 13 = .ok (.iconst 1, 1) := by decide +kernel
theorem dJ0_coder_7d493_14 : decode cJ0_coder_7d493 14 = .ok (.ireturn, 1) := by decide +kernel
theorem dJ0_isLatin1_aae02_0 : decode cJ0_isLatin1_aae02 0 = .ok (.getstatic 38, 3) := by decide +kernel
theorem dJ0_isLatin1_aae02_3 : decode cJ0_isLatin1_aae02 3 = .ok (.ifCond .eq 14, 3) := by decide +kernel
theorem dJ0_isLatin1_aae02_6 : decode cJ0_isLatin1_aae02 6 = .ok (.aload_n 0, 1) := by decide +kernel
theorem dJ0_isLatin1_aae02_7 : decode cJ0_isLatin1_aae02 7 = .ok (.getfield 15, 3) := by decide +kernel
theorem dJ0_isLatin1_aae02_10 : decode cJ0_isLatin1_aae02 10 = .ok (.ifCond .ne 7, 3) := by decide +kernel
theorem dJ0_isLatin1_aae02_13 : decode cJ0_isLatin1_aae02 13 = .ok (.iconst 1, 1) := by decide +kernel
theorem dJ0_isLatin1_aae02_14 : decode cJ0_isLatin1_aae02 14 = .ok (.goto 4, 3) := by decide +kernel
theorem dJ0_isLatin1_aae02_17 : decode cJ0_isLatin1_aae02 17 = .ok (.iconst 0, 1) := by decide +kernel
theorem dJ0_isLatin1_aae02_18 : decode cJ0_isLatin1_aae02 18 = .ok (.ireturn, 1) := by decide +kernel
theorem dJ0_checkIndex_df160_0 : decode cJ0_checkIndex_df160 0 = .ok (.iload_n 0, 1) := by decide +kernel
theorem dJ0_checkIndex_df160_1 : decode cJ0_checkIndex_df160 1 = .ok (.iload_n 1, 1) := by decide +kernel
theorem dJ0_checkIndex_df160_2 : decode cJ0_checkIndex_df160 2 = .ok (.getstatic 1053, 3) := by decide +kernel
theorem dJ0_checkIndex_df160_5 : decode cJ0_checkIndex_df160 5 = .ok (.invokestatic 1059, 3) := by decide +kernel
theorem dJ0_checkIndex_df160_8 : decode cJ0_checkIndex_df160 8 = .ok (.pop, 1) := by decide +kernel
theorem dJ0_checkIndex_df160_9 : decode cJ0_checkIndex_df160 9 = .ok (.return_, 1) := by decide +kernel
theorem dJ1_charAt_3b067_0 : decode cJ1_charAt_3b067 0 = .ok (.iload_n 1, 1) := by decide +kernel
theorem dJ1_charAt_3b067_1 : decode cJ1_charAt_3b067 1 = .ok (.aload_n 0, 1) := by decide +kernel
theorem dJ1_charAt_3b067_2 : decode cJ1_charAt_3b067 2 = .ok (.arraylength, 1) := by decide +kernel
theorem dJ1_charAt_3b067_3 : decode cJ1_charAt_3b067 3 = .ok (.invokestatic 9, 3) := by decide +kernel
theorem dJ1_charAt_3b067_6 : decode cJ1_charAt_3b067 6 = .ok (.aload_n 0, 1) := by decide +kernel
theorem dJ1_charAt_3b067_7 : decode cJ1_charAt_3b067 7 = .ok (.iload_n 1, 1) := by decide +kernel
theorem dJ1_charAt_3b067_8 : decode cJ1_charAt_3b067 8 = .ok (.baload, 1) := by decide +kernel
theorem dJ1_charAt_3b067_9 : decode cJ1_charAt_3b067 9 = .ok (.sipush 255, 3) := by decide +kernel
theorem dJ1_charAt_3b067_12 : decode cJ1_charAt_3b067 12 = .ok (.iand, 1) := by decide +kernel
theorem dJ1_charAt_3b067_13 : decode cJ1_charAt_3b067 13 = .ok (.i2c, 1) := by decide +kernel
theorem dJ1_charAt_3b067_14 : decode cJ1_charAt_3b067 14 = .ok (.ireturn, 1) := by decide +kernel
theorem dJ2_getChar_3b067_0 : decode cJ2_getChar_3b067 0 = .ok (.getstatic 44, 3) := by decide +kernel
theorem dJ2_getChar_3b067_3 : decode cJ2_getChar_3b067 3 = .ok (.ifCond .ne 25, 3) := by decide +kernel
theorem dJ2_getChar_3b067_6 : decode cJ2_getChar_3b067 6 = .ok (.iload_n 1, 1) := by decide +kernel
theorem dJ2_getChar_3b067_7 : decode cJ2_getChar_3b067 7 = .ok (.ifCond .lt 11, 3) := by decide +kernel
theorem dJ2_getChar_3b067_10 : decode cJ2_getChar_3b067 10 = .ok (.iload_n 1, 1) := by decide +kernel
theorem dJ2_getChar_3b067_11 : decode cJ2_getChar_3b067 11 = .ok (.aload_n 0, 1) := by decide +kernel
theorem dJ2_getChar_3b067_12 : decode cJ2_getChar_3b067 12 = .ok (.invokestatic 48, 3) := by decide +kernel
theorem dJ2_getChar_3b067_15 : decode cJ2_getChar_3b067 15 = .ok (.if_icmp .lt 13, 3) := by decide +kernel
theorem dJ2_getChar_3b067_18 : decode cJ2_getChar_3b067 18 = .ok (.new 52, 3) := by decide +kernel
theorem dJ2_getChar_3b067_21 : decode cJ2_getChar_3b067 21 = .ok (.dup, 1) := by decide +kernel
theorem dJ2_getChar_3b067_22 : decode cJ2_getChar_3b067 22 = .ok (.ldc 54, 2) := by decide +kernel
theorem dJ2_getChar_3b067_24 : decode cJ2_getChar_3b067 24 = .ok (.invokespecial 56, 3) := by decide +kernel
theorem dJ2_getChar_3b067_27 : decode cJ2_getChar_3b067 27 = .ok (.athrow, 1) := by decide +kernel
theorem dJ2_getChar_3b067_28 : decode cJ2_getChar_3b067 28 = .ok (.iload_n 1, 1) := by decide +kernel
theorem dJ2_getChar_3b067_29 : decode cJ2_getChar_3b067 29 = .ok (.iconst 1, 1) := by decide +kernel
theorem dJ2_getChar_3b067_30 : decode cJ2_getChar_3b067 30 = .ok (.ishl, 1) := by decide +kernel
theorem dJ2_getChar_3b067_31 : decode cJ2_getChar_3b067 31 = .ok (.istore_n 1, 1) := by decide +kernel
theorem dJ2_getChar_3b067_32 : decode cJ2_getChar_3b067 32 = .ok (.aload_n 0, 1) := by decide +kernel
theorem dJ2_getChar_3b067_33 : decode cJ2_getChar_3b067 33 = .ok (.iload_n 1, 1) := by decide +kernel
theorem dJ2_getChar_3b067_34 : decode cJ2_getChar_3b067 34 = .ok (.iinc 1 1, 3) := by decide +kernel
theorem dJ2_getChar_3b067_37 : decode cJ2_getChar_3b067 37 = .ok (.baload, 1) := by decide +kernel
theorem dJ2_getChar_3b067_38 : decode cJ2_getChar_3b067 38 = .ok (.sipush 255, 3) := by decide +kernel
theorem dJ2_getChar_3b067_41 : decode cJ2_getChar_3b067 41 = .ok (.iand, 1) := by decide +kernel
theorem dJ2_getChar_3b067_42 : decode cJ2_getChar_3b067 42 = .ok (.getstatic 59, 3) := by decide +kernel
theorem dJ2_getChar_3b067_45 : decode cJ2_getChar_3b067 45 = .ok (.ishl, 1) := by decide +kernel
theorem dJ2_getChar_3b067_46 : decode cJ2_getChar_3b067 46 = .ok (.aload_n 0, 1) := by decide +kernel
theorem dJ2_getChar_3b067_47 : decode cJ2_getChar_3b067 47 = .ok (.iload_n 1, 1) := by decide +kernel
theorem dJ2_getChar_3b067_48 : decode cJ2_getChar_3b067 48 = .ok (.baload, 1) := by decide +kernel
theorem dJ2_getChar_3b067_49 : decode cJ2_getChar_3b067 49 = .ok (.sipush 255, 3) := by decide +kernel
theorem dJ2_getChar_3b067_52 : decode cJ2_getChar_3b067 52 = .ok (.iand, 1) := by decide +kernel
theorem dJ2_getChar_3b067_53 : decode cJ2_getChar_3b067 53 = .ok (.getstatic 63, 3) := by decide +kernel
theorem dJ2_getChar_3b067_56 : decode cJ2_getChar_3b067 56 = .ok (.ishl, 1) := by decide +kernel
theorem dJ2_getChar_3b067_57 : decode cJ2_getChar_3b067 57 = .ok (.ior, 1) := by decide +kernel
theorem dJ2_getChar_3b067_58 : decode cJ2_getChar_3b067 58 = .ok (.i2c, 1) := by decide +kernel
theorem dJ2_getChar_3b067_59 : decode cJ2_getChar_3b067 59 = .ok (.ireturn, 1) := by decide +kernel
theorem dJ2_length_9d52b_0 : decode cJ2_length_9d52b 0 = .ok (.aload_n 0, 1) := by decide +kernel
theorem dJ2_length_9d52b_1 : decode cJ2_length_9d52b 1 = .ok (.arraylength, 1) := by decide +kernel
theorem dJ2_length_9d52b_2 : decode cJ2_length_9d52b 2 = .ok (.iconst 1, 1) := by decide +kernel
theorem dJ2_length_9d52b_3 : decode cJ2_length_9d52b 3 = .ok (.ishr, 1) := by decide +kernel
theorem dJ2_length_9d52b_4 : decode cJ2_length_9d52b 4 = .ok (.ireturn, 1) := by decide +kernel
theorem dJ2_charAt_3b067_0 : decode cJ2_charAt_3b067 0 = .ok (.iload_n 1, 1) := by decide +kernel
theorem dJ2_charAt_3b067_1 : decode cJ2_charAt_3b067 1 = .ok (.aload_n 0, 1) := by decide +kernel
theorem dJ2_charAt_3b067_2 : decode cJ2_charAt_3b067 2 = .ok (.invokestatic 67, 3) := by decide +kernel
theorem dJ2_charAt_3b067_5 : decode cJ2_charAt_3b067 5 = .ok (.aload_n 0, 1) := by decide +kernel
theorem dJ2_charAt_3b067_6 : decode cJ2_charAt_3b067 6 = .ok (.iload_n 1, 1) := by decide +kernel
theorem dJ2_charAt_3b067_7 : decode cJ2_charAt_3b067 7 = .ok (.invokestatic 71, 3) := by decide +kernel
theorem dJ2_charAt_3b067_10 : decode cJ2_charAt_3b067 10 = .ok (.ireturn, 1) := by decide +kernel
theorem dJ2_checkIndex_2214a_0 : decode cJ2_checkIndex_2214a 0 = .ok (.iload_n 0, 1) := by decide +kernel
theorem dJ2_checkIndex_2214a_1 : decode cJ2_checkIndex_2214a 1 = .ok (.aload_n 1, 1) := by decide +kernel
theorem dJ2_checkIndex_2214a_2 : decode cJ2_checkIndex_2214a 2 = .ok (.invokestatic 48, 3) := by decide +kernel
theorem dJ2_checkIndex_2214a_5 : decode cJ2_checkIndex_2214a 5 = .ok (.invokestatic 414, 3) := by decide +kernel
theorem dJ2_checkIndex_2214a_8 : decode cJ2_checkIndex_2214a 8 = .ok (.return_, 1) := by decide +kernel
theorem dJ7_fill_d0a16_0 : decode cJ7_fill_d0a16 0 = .ok (.iconst 0, 1) := by decide +kernel
theorem dJ7_fill_d0a16_1 : decode cJ7_fill_d0a16 1 = .ok (.istore_n 3, 1) := by decide +kernel
theorem dJ7_fill_d0a16_2 : decode cJ7_fill_d0a16 2 = .ok (.aload_n 0, 1) := by decide +kernel
theorem dJ7_fill_d0a16_3 : decode cJ7_fill_d0a16 3 = .ok (.arraylength, 1) := by decide +kernel
theorem dJ7_fill_d0a16_4 : decode cJ7_fill_d0a16 4 = .ok (.istore 4, 2) := by decide +kernel
theorem dJ7_fill_d0a16_6 : decode cJ7_fill_d0a16 6 = .ok (.iload_n 3, 1) := by decide +kernel
theorem dJ7_fill_d0a16_7 : decode cJ7_fill_d0a16 7 = .ok (.iload 4, 2) := by decide +kernel
theorem dJ7_fill_d0a16_9 : decode cJ7_fill_d0a16 9 = .ok (.if_icmp .ge 13, 3) := by decide +kernel
theorem dJ7_fill_d0a16_12 : decode cJ7_fill_d0a16 12 = .ok (.aload_n 0, 1) := by decide +kernel
theorem dJ7_fill_d0a16_13 : decode cJ7_fill_d0a16 13 = .ok (.iload_n 3, 1) := by decide +kernel
theorem dJ7_fill_d0a16_14 : decode cJ7_fill_d0a16 14 = .ok (.lload_n 1, 1) := by decide +kernel
theorem dJ7_fill_d0a16_15 : decode cJ7_fill_d0a16 15 = .ok (.lastore, 1) := by decide +kernel
theorem dJ7_fill_d0a16_16 : decode cJ7_fill_d0a16 16 = .ok (.iinc 3 1, 3) := by decide +kernel
theorem dJ7_fill_d0a16_19 : decode cJ7_fill_d0a16 19 = .ok (.goto (-13), 3) := by decide +kernel
theorem dJ7_fill_d0a16_22 : decode cJ7_fill_d0a16 22 = .ok (.return_, 1) := by decide +kernel
theorem dJ7_fill_53178_0 : decode cJ7_fill_53178 0 = .ok (.iconst 0, 1) := by decide +kernel
theorem dJ7_fill_53178_1 : decode cJ7_fill_53178 1 = .ok (.istore_n 2, 1) := by decide +kernel
theorem dJ7_fill_53178_2 : decode cJ7_fill_53178 2 = .ok (.aload_n 0, 1) := by decide +kernel
theorem dJ7_fill_53178_3 : decode cJ7_fill_53178 3 = .ok (.arraylength, 1) := by decide +kernel
theorem dJ7_fill_53178_4 : decode cJ7_fill_53178 4 = .ok (.istore_n 3, 1) := by decide +kernel
theorem dJ7_fill_53178_5 : decode cJ7_fill_53178 5 = .ok (.iload_n 2, 1) := by decide +kernel
theorem dJ7_fill_53178_6 : decode cJ7_fill_53178 6 = .ok (.iload_n 3, 1) := by decide +kernel
theorem dJ7_fill_53178_7 : decode cJ7_fill_53178 7 = .ok (.if_icmp .ge 13, 3) := by decide +kernel
theorem dJ7_fill_53178_10 : decode cJ7_fill_53178 10 = .ok (.aload_n 0, 1) := by decide +kernel
theorem dJ7_fill_53178_11 : decode cJ7_fill_53178 11 = .ok (.iload_n 2, 1) := by decide +kernel
theorem dJ7_fill_53178_12 : decode cJ7_fill_53178 12 = .ok (.iload_n 1, 1) := by decide +kernel
theorem dJ7_fill_53178_13 : decode cJ7_fill_53178 13 = .ok (.iastore, 1) := by decide +kernel
theorem dJ7_fill_53178_14 : decode cJ7_fill_53178 14 = .ok (.iinc 2 1, 3) := by decide +kernel
theorem dJ7_fill_53178_17 : decode cJ7_fill_53178 17 = .ok (.goto (-12), 3) := by decide +kernel
theorem dJ7_fill_53178_20 : decode cJ7_fill_53178 20 = .ok (.return_, 1) := by decide +kernel
theorem dJ3_checkIndex_8e157_0 : decode cJ3_checkIndex_8e157 0 = .ok (.iload_n 0, 1) := by decide +kernel
theorem dJ3_checkIndex_8e157_1 : decode cJ3_checkIndex_8e157 1 = .ok (.ifCond .lt 8, 3) := by decide +kernel
theorem dJ3_checkIndex_8e157_4 : decode cJ3_checkIndex_8e157 4 = .ok (.iload_n 0, 1) := by decide +kernel
theorem dJ3_checkIndex_8e157_5 : decode cJ3_checkIndex_8e157 5 = .ok (.iload_n 1, 1) := by decide +kernel
theorem dJ3_checkIndex_8e157_6 : decode cJ3_checkIndex_8e157 6 = .ok (.if_icmp .lt 10, 3) := by decide +kernel
theorem dJ3_checkIndex_8e157_9 : decode cJ3_checkIndex_8e157 9 = .ok (.aload_n 2, 1) := by decide +kernel
theorem dJ3_checkIndex_8e157_10 : decode cJ3_checkIndex_8e157 10 = .ok (.iload_n 0, 1) := by decide +kernel
theorem dJ3_checkIndex_8e157_11 : decode cJ3_checkIndex_8e157 11 = .ok (.iload_n 1, 1) := by decide +kernel
theorem dJ3_checkIndex_8e157_12 : decode cJ3_checkIndex_8e157 12 = .ok (.invokestatic 95, 3) := by decide +kernel
theorem dJ3_checkIndex_8e157_15 : decode cJ3_checkIndex_8e157 15 = .ok (.athrow, 1) := by decide +kernel
theorem dJ3_checkIndex_8e157_16 : decode cJ3_checkIndex_8e157 16 = .ok (.iload_n 0, 1) := by decide +kernel
theorem dJ3_checkIndex_8e157_17 : decode cJ3_checkIndex_8e157 17 = .ok (.ireturn, 1) := by decide +kernel
