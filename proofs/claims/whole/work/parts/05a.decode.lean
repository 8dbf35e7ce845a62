theorem d_X0_init_0 : decode cX0_init 0 = .ok (.aload_n 0, 1) := by decide +kernel
theorem d_X0_init_1 : decode cX0_init 1 = .ok (.invokespecial 3, 3) := by decide +kernel
theorem d_X0_init_4 : decode cX0_init 4 = .ok (.aload_n 0, 1) := by decide +kernel
theorem d_X0_init_5 : decode cX0_init 5 = .ok (.iconst 0, 1) := by decide +kernel
theorem d_X0_init_6 : decode cX0_init 6 = .ok (.putfield 9, 3) := by decide +kernel
theorem d_X0_init_9 : decode cX0_init 9 = .ok (.aload_n 0, 1) := by decide +kernel
theorem d_X0_init_10 : decode cX0_init 10 = .ok (.iconst (-1), 1) := by decide +kernel
theorem d_X0_init_11 : decode cX0_init 11 = .ok (.putfield 15, 3) := by decide +kernel
theorem d_X0_init_14 : decode cX0_init 14 = .ok (.aload_n 0, 1) := by decide +kernel
theorem d_X0_init_15 : decode cX0_init 15 = .ok (.iconst 5, 1) := by decide +kernel
theorem d_X0_init_16 : decode cX0_init 16 = .ok (.newarray .int, 2) := by decide +kernel
theorem d_X0_init_18 : decode cX0_init 18 = .ok (.putfield 19, 3) := by decide +kernel
theorem d_X0_init_21 : decode cX0_init 21 = .ok (.aload_n 0, 1) := by decide +kernel
theorem d_X0_init_22 : decode cX0_init 22 = .ok (.sipush 200, 3) := by decide +kernel
theorem d_X0_init_25 : decode cX0_init 25 = .ok (.newarray .int, 2) := by decide +kernel
theorem d_X0_init_27 : decode cX0_init 27 = .ok (.putfield 23, 3) := by decide +kernel
theorem d_X0_init_30 : decode cX0_init 30 = .ok (.aload_n 0, 1) := by decide +kernel
theorem d_X0_init_31 : decode cX0_init 31 = .ok (.bipush 6, 2) := by decide +kernel
theorem d_X0_init_33 : decode cX0_init 33 = .ok (.newarray .int, 2) := by decide +kernel
theorem d_X0_init_35 : decode cX0_init 35 = .ok (.putfield 26, 3) := by decide +kernel
theorem d_X0_init_38 : decode cX0_init 38 = .ok (.return_, 1) := by decide +kernel
theorem d_X0_search_0 : decode cX0_search 0 = .ok (.aload_n 0, 1) := by decide +kernel
theorem d_X0_search_1 : decode cX0_search 1 = .ok (.iconst 1, 1) := by decide +kernel
theorem d_X0_search_2 : decode cX0_search 2 = .ok (.putfield 9, 3) := by decide +kernel
theorem d_X0_search_5 : decode cX0_search 5 = .ok (.aload_n 0, 1) := by decide +kernel
theorem d_X0_search_6 : decode cX0_search 6 = .ok (.iconst (-1), 1) := by decide +kernel
theorem d_X0_search_7 : decode cX0_search 7 = .ok (.putfield 15, 3) := by decide +kernel
theorem d_X0_search_10 : decode cX0_search 10 = .ok (.aload_n 1, 1) := by decide +kernel
theorem d_X0_search_11 : decode cX0_search 11 = .ok (.getfield 29, 3) := by decide +kernel
theorem d_X0_search_14 : decode cX0_search 14 = .ok (.ifCond .eq 13, 3) := by decide +kernel
theorem d_X0_search_17 : decode cX0_search 17 = .ok (.aload_n 2, 1) := by decide +kernel
theorem d_X0_search_18 : decode cX0_search 18 = .ok (.getfield 34, 3) := by decide +kernel
theorem d_X0_search_21 : decode cX0_search 21 = .ok (.sipush 200, 3) := by decide +kernel
theorem d_X0_search_24 : decode cX0_search 24 = .ok (.if_icmp .le 4, 3) := by decide +kernel
theorem d_X0_search_27 : decode cX0_search 27 = .ok (.return_, 1) := by decide +kernel
theorem d_X0_search_28 : decode cX0_search 28 = .ok (.aload_n 0, 1) := by decide +kernel
theorem d_X0_search_29 : decode cX0_search 29 = .ok (.aload_n 1, 1) := by decide +kernel
theorem d_X0_search_30 : decode cX0_search 30 = .ok (.aload_n 2, 1) := by decide +kernel
theorem d_X0_search_31 : decode cX0_search 31 = .ok (.aload_n 3, 1) := by decide +kernel
theorem d_X0_search_32 : decode cX0_search 32 = .ok (.invokevirtual 39, 3) := by decide +kernel
theorem d_X0_search_35 : decode cX0_search 35 = .ok (.iconst 1, 1) := by decide +kernel
theorem d_X0_search_36 : decode cX0_search 36 = .ok (.istore 5, 2) := by decide +kernel
theorem d_X0_search_38 : decode cX0_search 38 = .ok (.iload 5, 2) := by decide +kernel
theorem d_X0_search_40 : decode cX0_search 40 = .ok (.bipush 12, 2) := by decide +kernel
theorem d_X0_search_42 : decode cX0_search 42 = .ok (.if_icmp .gt 44, 3) := by decide +kernel
theorem d_X0_search_45 : decode cX0_search 45 = .ok (.aload_n 0, 1) := by decide +kernel
theorem d_X0_search_46 : decode cX0_search 46 = .ok (.getfield 15, 3) := by decide +kernel
theorem d_X0_search_49 : decode cX0_search 49 = .ok (.iconst (-1), 1) := by decide +kernel
theorem d_X0_search_50 : decode cX0_search 50 = .ok (.if_icmp .ne 36, 3) := by decide +kernel
theorem d_X0_search_53 : decode cX0_search 53 = .ok (.iload 4, 2) := by decide +kernel
theorem d_X0_search_55 : decode cX0_search 55 = .ok (.iload 5, 2) := by decide +kernel
theorem d_X0_search_57 : decode cX0_search 57 = .ok (.irem, 1) := by decide +kernel
theorem d_X0_search_58 : decode cX0_search 58 = .ok (.ifCond .ne 22, 3) := by decide +kernel
theorem d_X0_search_61 : decode cX0_search 61 = .ok (.aload_n 0, 1) := by decide +kernel
theorem d_X0_search_62 : decode cX0_search 62 = .ok (.aload_n 1, 1) := by decide +kernel
theorem d_X0_search_63 : decode cX0_search 63 = .ok (.aload_n 2, 1) := by decide +kernel
theorem d_X0_search_64 : decode cX0_search 64 = .ok (.aload_n 3, 1) := by decide +kernel
theorem d_X0_search_65 : decode cX0_search 65 = .ok (.iload 5, 2) := by decide +kernel
theorem d_X0_search_67 : decode cX0_search 67 = .ok (.iconst 0, 1) := by decide +kernel
theorem d_X0_search_68 : decode cX0_search 68 = .ok (.invokestatic 43, 3) := by decide +kernel
theorem d_X0_search_71 : decode cX0_search 71 = .ok (.ifCond .eq 9, 3) := by decide +kernel
theorem d_X0_search_74 : decode cX0_search 74 = .ok (.aload_n 0, 1) := by decide +kernel
theorem d_X0_search_75 : decode cX0_search 75 = .ok (.iload 5, 2) := by decide +kernel
theorem d_X0_search_77 : decode cX0_search 77 = .ok (.putfield 15, 3) := by decide +kernel
theorem d_X0_search_80 : decode cX0_search 80 = .ok (.iinc 5 1, 3) := by decide +kernel
theorem d_X0_search_83 : decode cX0_search 83 = .ok (.goto (-45), 3) := by decide +kernel
theorem d_X0_search_86 : decode cX0_search 86 = .ok (.return_, 1) := by decide +kernel
theorem d_X0_sortOut_0 : decode cX0_sortOut 0 = .ok (.iconst 0, 1) := by decide +kernel
theorem d_X0_sortOut_1 : decode cX0_sortOut 1 = .ok (.istore 4, 2) := by decide +kernel
theorem d_X0_sortOut_3 : decode cX0_sortOut 3 = .ok (.iconst 0, 1) := by decide +kernel
theorem d_X0_sortOut_4 : decode cX0_sortOut 4 = .ok (.istore 5, 2) := by decide +kernel
theorem d_X0_sortOut_6 : decode cX0_sortOut 6 = .ok (.iload 5, 2) := by decide +kernel
theorem d_X0_sortOut_8 : decode cX0_sortOut 8 = .ok (.aload_n 1, 1) := by decide +kernel
theorem d_X0_sortOut_9 : decode cX0_sortOut 9 = .ok (.getfield 47, 3) := by decide +kernel
theorem d_X0_sortOut_12 : decode cX0_sortOut 12 = .ok (.if_icmp .ge 96, 3) := by decide +kernel
theorem d_X0_sortOut_15 : decode cX0_sortOut 15 = .ok (.aload_n 0, 1) := by decide +kernel
theorem d_X0_sortOut_16 : decode cX0_sortOut 16 = .ok (.getfield 26, 3) := by decide +kernel
theorem d_X0_sortOut_19 : decode cX0_sortOut 19 = .ok (.iload 5, 2) := by decide +kernel
theorem d_X0_sortOut_21 : decode cX0_sortOut 21 = .ok (.iload 4, 2) := by decide +kernel
theorem d_X0_sortOut_23 : decode cX0_sortOut 23 = .ok (.iastore, 1) := by decide +kernel
theorem d_X0_sortOut_24 : decode cX0_sortOut 24 = .ok (.iconst 0, 1) := by decide +kernel
theorem d_X0_sortOut_25 : decode cX0_sortOut 25 = .ok (.istore 6, 2) := by decide +kernel
theorem d_X0_sortOut_27 : decode cX0_sortOut 27 = .ok (.iload 6, 2) := by decide +kernel
theorem d_X0_sortOut_29 : decode cX0_sortOut 29 = .ok (.aload_n 2, 1) := by decide +kernel
theorem d_X0_sortOut_30 : decode cX0_sortOut 30 = .ok (.getfield 34, 3) := by decide +kernel
theorem d_X0_sortOut_33 : decode cX0_sortOut 33 = .ok (.if_icmp .ge 69, 3) := by decide +kernel
theorem d_X0_sortOut_36 : decode cX0_sortOut 36 = .ok (.aload_n 3, 1) := by decide +kernel
theorem d_X0_sortOut_37 : decode cX0_sortOut 37 = .ok (.iload 6, 2) := by decide +kernel
theorem d_X0_sortOut_39 : decode cX0_sortOut 39 = .ok (.baload, 1) := by decide +kernel
theorem d_X0_sortOut_40 : decode cX0_sortOut 40 = .ok (.iconst 1, 1) := by decide +kernel
theorem d_X0_sortOut_41 : decode cX0_sortOut 41 = .ok (.if_icmp .eq 19, 3) := by decide +kernel
theorem d_X0_sortOut_44 : decode cX0_sortOut 44 = .ok (.aload_n 3, 1) := by decide +kernel
theorem d_X0_sortOut_45 : decode cX0_sortOut 45 = .ok (.iload 6, 2) := by decide +kernel
theorem d_X0_sortOut_47 : decode cX0_sortOut 47 = .ok (.baload, 1) := by decide +kernel
theorem d_X0_sortOut_48 : decode cX0_sortOut 48 = .ok (.ifCond .ne 16, 3) := by decide +kernel
theorem d_X0_sortOut_51 : decode cX0_sortOut 51 = .ok (.aload_n 2, 1) := by decide +kernel
theorem d_X0_sortOut_52 : decode cX0_sortOut 52 = .ok (.iload 6, 2) := by decide +kernel
theorem d_X0_sortOut_54 : decode cX0_sortOut 54 = .ok (.invokevirtual 50, 3) := by decide +kernel
theorem d_X0_sortOut_57 : decode cX0_sortOut 57 = .ok (.ifCond .ne 7, 3) := by decide +kernel
theorem d_X0_sortOut_60 : decode cX0_sortOut 60 = .ok (.iconst 1, 1) := by decide +kernel
theorem d_X0_sortOut_61 : decode cX0_sortOut 61 = .ok (.goto 4, 3) := by decide +kernel
theorem d_X0_sortOut_64 : decode cX0_sortOut 64 = .ok (.iconst 0, 1) := by decide +kernel
theorem d_X0_sortOut_65 : decode cX0_sortOut 65 = .ok (.istore 7, 2) := by decide +kernel
theorem d_X0_sortOut_67 : decode cX0_sortOut 67 = .ok (.iload 7, 2) := by decide +kernel
theorem d_X0_sortOut_69 : decode cX0_sortOut 69 = .ok (.ifCond .eq 27, 3) := by decide +kernel
theorem d_X0_sortOut_72 : decode cX0_sortOut 72 = .ok (.aload_n 1, 1) := by decide +kernel
theorem d_X0_sortOut_73 : decode cX0_sortOut 73 = .ok (.getfield 54, 3) := by decide +kernel
theorem d_X0_sortOut_76 : decode cX0_sortOut 76 = .ok (.iload 6, 2) := by decide +kernel
theorem d_X0_sortOut_78 : decode cX0_sortOut 78 = .ok (.baload, 1) := by decide +kernel
theorem d_X0_sortOut_79 : decode cX0_sortOut 79 = .ok (.iload 5, 2) := by decide +kernel
theorem d_X0_sortOut_81 : decode cX0_sortOut 81 = .ok (.if_icmp .ne 15, 3) := by decide +kernel
theorem d_X0_sortOut_84 : decode cX0_sortOut 84 = .ok (.aload_n 0, 1) := by decide +kernel
theorem d_X0_sortOut_85 : decode cX0_sortOut 85 = .ok (.getfield 23, 3) := by decide +kernel
theorem d_X0_sortOut_88 : decode cX0_sortOut 88 = .ok (.iload 4, 2) := by decide +kernel
theorem d_X0_sortOut_90 : decode cX0_sortOut 90 = .ok (.iload 6, 2) := by decide +kernel
theorem d_X0_sortOut_92 : decode cX0_sortOut 92 = .ok (.iastore, 1) := by decide +kernel
theorem d_X0_sortOut_93 : decode cX0_sortOut 93 = .ok (.iinc 4 1, 3) := by decide +kernel
theorem d_X0_sortOut_96 : decode cX0_sortOut 96 = .ok (.iinc 6 1, 3) := by decide +kernel
theorem d_X0_sortOut_99 : decode cX0_sortOut 99 = .ok (.goto (-72), 3) := by decide +kernel
theorem d_X0_sortOut_102 : decode cX0_sortOut 102 = .ok (.iinc 5 1, 3) := by decide +kernel
theorem d_X0_sortOut_105 : decode cX0_sortOut 105 = .ok (.goto (-99), 3) := by decide +kernel
theorem d_X0_sortOut_108 : decode cX0_sortOut 108 = .ok (.aload_n 0, 1) := by decide +kernel
theorem d_X0_sortOut_109 : decode cX0_sortOut 109 = .ok (.getfield 26, 3) := by decide +kernel
theorem d_X0_sortOut_112 : decode cX0_sortOut 112 = .ok (.aload_n 1, 1) := by decide +kernel
theorem d_X0_sortOut_113 : decode cX0_sortOut 113 = .ok (.getfield 47, 3) := by decide +kernel
theorem d_X0_sortOut_116 : decode cX0_sortOut 116 = .ok (.iload 4, 2) := by decide +kernel
theorem d_X0_sortOut_118 : decode cX0_sortOut 118 = .ok (.iastore, 1) := by decide +kernel
theorem d_X0_sortOut_119 : decode cX0_sortOut 119 = .ok (.return_, 1) := by decide +kernel
theorem d_X0_pick_0 : decode cX0_pick 0 = .ok (.iload 5, 2) := by decide +kernel
theorem d_X0_pick_2 : decode cX0_pick 2 = .ok (.aload_n 1, 1) := by decide +kernel
theorem d_X0_pick_3 : decode cX0_pick 3 = .ok (.getfield 47, 3) := by decide +kernel
theorem d_X0_pick_6 : decode cX0_pick 6 = .ok (.if_icmp .lt 5, 3) := by decide +kernel
theorem d_X0_pick_9 : decode cX0_pick 9 = .ok (.iconst 1, 1) := by decide +kernel
theorem d_X0_pick_10 : decode cX0_pick 10 = .ok (.ireturn, 1) := by decide +kernel
theorem d_X0_pick_11 : decode cX0_pick 11 = .ok (.iload 5, 2) := by decide +kernel
theorem d_X0_pick_13 : decode cX0_pick 13 = .ok (.ifCond .ne 7, 3) := by decide +kernel
theorem d_X0_pick_16 : decode cX0_pick 16 = .ok (.iconst 1, 1) := by decide +kernel
theorem d_X0_pick_17 : decode cX0_pick 17 = .ok (.goto 5, 3) := by decide +kernel
theorem d_X0_pick_20 : decode cX0_pick 20 = .ok (.iload 4, 2) := by decide +kernel
theorem d_X0_pick_22 : decode cX0_pick 22 = .ok (.istore 6, 2) := by decide +kernel
theorem d_X0_pick_24 : decode cX0_pick 24 = .ok (.iconst 0, 1) := by decide +kernel
theorem d_X0_pick_25 : decode cX0_pick 25 = .ok (.istore 7, 2) := by decide +kernel
theorem d_X0_pick_27 : decode cX0_pick 27 = .ok (.iload 7, 2) := by decide +kernel
theorem d_X0_pick_29 : decode cX0_pick 29 = .ok (.iload 6, 2) := by decide +kernel
theorem d_X0_pick_31 : decode cX0_pick 31 = .ok (.if_icmp .ge 50, 3) := by decide +kernel
theorem d_X0_pick_34 : decode cX0_pick 34 = .ok (.aload_n 0, 1) := by decide +kernel
theorem d_X0_pick_35 : decode cX0_pick 35 = .ok (.getfield 19, 3) := by decide +kernel
theorem d_X0_pick_38 : decode cX0_pick 38 = .ok (.iload 5, 2) := by decide +kernel
theorem d_X0_pick_40 : decode cX0_pick 40 = .ok (.iload 7, 2) := by decide +kernel
theorem d_X0_pick_42 : decode cX0_pick 42 = .ok (.iastore, 1) := by decide +kernel
theorem d_X0_pick_43 : decode cX0_pick 43 = .ok (.aload_n 0, 1) := by decide +kernel
theorem d_X0_pick_44 : decode cX0_pick 44 = .ok (.aload_n 1, 1) := by decide +kernel
theorem d_X0_pick_45 : decode cX0_pick 45 = .ok (.aload_n 2, 1) := by decide +kernel
theorem d_X0_pick_46 : decode cX0_pick 46 = .ok (.aload_n 3, 1) := by decide +kernel
theorem d_X0_pick_47 : decode cX0_pick 47 = .ok (.iload 4, 2) := by decide +kernel
theorem d_X0_pick_49 : decode cX0_pick 49 = .ok (.iload 5, 2) := by decide +kernel
theorem d_X0_pick_51 : decode cX0_pick 51 = .ok (.invokevirtual 58, 3) := by decide +kernel
theorem d_X0_pick_54 : decode cX0_pick 54 = .ok (.ifCond .eq 21, 3) := by decide +kernel
theorem d_X0_pick_57 : decode cX0_pick 57 = .ok (.aload_n 0, 1) := by decide +kernel
theorem d_X0_pick_58 : decode cX0_pick 58 = .ok (.aload_n 1, 1) := by decide +kernel
theorem d_X0_pick_59 : decode cX0_pick 59 = .ok (.aload_n 2, 1) := by decide +kernel
theorem d_X0_pick_60 : decode cX0_pick 60 = .ok (.aload_n 3, 1) := by decide +kernel
theorem d_X0_pick_61 : decode cX0_pick 61 = .ok (.iload 4, 2) := by decide +kernel
theorem d_X0_pick_63 : decode cX0_pick 63 = .ok (.iload 5, 2) := by decide +kernel
theorem d_X0_pick_65 : decode cX0_pick 65 = .ok (.iconst 1, 1) := by decide +kernel
theorem d_X0_pick_66 : decode cX0_pick 66 = .ok (.iadd, 1) := by decide +kernel
theorem d_X0_pick_67 : decode cX0_pick 67 = .ok (.invokestatic 43, 3) := by decide +kernel
theorem d_X0_pick_70 : decode cX0_pick 70 = .ok (.ifCond .eq 5, 3) := by decide +kernel
theorem d_X0_pick_73 : decode cX0_pick 73 = .ok (.iconst 1, 1) := by decide +kernel
theorem d_X0_pick_74 : decode cX0_pick 74 = .ok (.ireturn, 1) := by decide +kernel
theorem d_X0_pick_75 : decode cX0_pick 75 = .ok (.iinc 7 1, 3) := by decide +kernel
theorem d_X0_pick_78 : decode cX0_pick 78 = .ok (.goto (-51), 3) := by decide +kernel
theorem d_X0_pick_81 : decode cX0_pick 81 = .ok (.iconst 0, 1) := by decide +kernel
theorem d_X0_pick_82 : decode cX0_pick 82 = .ok (.ireturn, 1) := by decide +kernel
theorem d_X0_fits_0 : decode cX0_fits 0 = .ok (.aload_n 0, 1) := by decide +kernel
theorem d_X0_fits_1 : decode cX0_fits 1 = .ok (.getfield 26, 3) := by decide +kernel
theorem d_X0_fits_4 : decode cX0_fits 4 = .ok (.iload 5, 2) := by decide +kernel
theorem d_X0_fits_6 : decode cX0_fits 6 = .ok (.iaload, 1) := by decide +kernel
theorem d_X0_fits_7 : decode cX0_fits 7 = .ok (.istore 6, 2) := by decide +kernel
theorem d_X0_fits_9 : decode cX0_fits 9 = .ok (.iload 6, 2) := by decide +kernel
theorem d_X0_fits_11 : decode cX0_fits 11 = .ok (.aload_n 0, 1) := by decide +kernel
theorem d_X0_fits_12 : decode cX0_fits 12 = .ok (.getfield 26, 3) := by decide +kernel
theorem d_X0_fits_15 : decode cX0_fits 15 = .ok (.iload 5, 2) := by decide +kernel
theorem d_X0_fits_17 : decode cX0_fits 17 = .ok (.iconst 1, 1) := by decide +kernel
theorem d_X0_fits_18 : decode cX0_fits 18 = .ok (.iadd, 1) := by decide +kernel
theorem d_X0_fits_19 : decode cX0_fits 19 = .ok (.iaload, 1) := by decide +kernel
theorem d_X0_fits_20 : decode cX0_fits 20 = .ok (.if_icmp .ge 91, 3) := by decide +kernel
theorem d_X0_fits_23 : decode cX0_fits 23 = .ok (.iconst 0, 1) := by decide +kernel
theorem d_X0_fits_24 : decode cX0_fits 24 = .ok (.istore 7, 2) := by decide +kernel
theorem d_X0_fits_26 : decode cX0_fits 26 = .ok (.iconst 0, 1) := by decide +kernel
theorem d_X0_fits_27 : decode cX0_fits 27 = .ok (.istore 8, 2) := by decide +kernel
theorem d_X0_fits_29 : decode cX0_fits 29 = .ok (.iload 8, 2) := by decide +kernel
theorem d_X0_fits_31 : decode cX0_fits 31 = .ok (.iload 5, 2) := by decide +kernel
theorem d_X0_fits_33 : decode cX0_fits 33 = .ok (.if_icmp .gt 36, 3) := by decide +kernel
theorem d_X0_fits_36 : decode cX0_fits 36 = .ok (.iload 7, 2) := by decide +kernel
theorem d_X0_fits_38 : decode cX0_fits 38 = .ok (.aload_n 1, 1) := by decide +kernel
theorem d_X0_fits_39 : decode cX0_fits 39 = .ok (.aload_n 2, 1) := by decide +kernel
theorem d_X0_fits_40 : decode cX0_fits 40 = .ok (.aload_n 0, 1) := by decide +kernel
theorem d_X0_fits_41 : decode cX0_fits 41 = .ok (.getfield 23, 3) := by decide +kernel
theorem d_X0_fits_44 : decode cX0_fits 44 = .ok (.iload 6, 2) := by decide +kernel
theorem d_X0_fits_46 : decode cX0_fits 46 = .ok (.iaload, 1) := by decide +kernel
theorem d_X0_fits_47 : decode cX0_fits 47 = .ok (.iload 8, 2) := by decide +kernel
theorem d_X0_fits_49 : decode cX0_fits 49 = .ok (.invokevirtual 62, 3) := by decide +kernel
theorem d_X0_fits_52 : decode cX0_fits 52 = .ok (.aload_n 0, 1) := by decide +kernel
theorem d_X0_fits_53 : decode cX0_fits 53 = .ok (.getfield 19, 3) := by decide +kernel
theorem d_X0_fits_56 : decode cX0_fits 56 = .ok (.iload 8, 2) := by decide +kernel
theorem d_X0_fits_58 : decode cX0_fits 58 = .ok (.iaload, 1) := by decide +kernel
theorem d_X0_fits_59 : decode cX0_fits 59 = .ok (.imul, 1) := by decide +kernel
theorem d_X0_fits_60 : decode cX0_fits 60 = .ok (.iadd, 1) := by decide +kernel
theorem d_X0_fits_61 : decode cX0_fits 61 = .ok (.istore 7, 2) := by decide +kernel
theorem d_X0_fits_63 : decode cX0_fits 63 = .ok (.iinc 8 1, 3) := by decide +kernel
theorem d_X0_fits_66 : decode cX0_fits 66 = .ok (.goto (-37), 3) := by decide +kernel
theorem d_X0_fits_69 : decode cX0_fits 69 = .ok (.iload 7, 2) := by decide +kernel
theorem d_X0_fits_71 : decode cX0_fits 71 = .ok (.iload 4, 2) := by decide +kernel
theorem d_X0_fits_73 : decode cX0_fits 73 = .ok (.irem, 1) := by decide +kernel
theorem d_X0_fits_74 : decode cX0_fits 74 = .ok (.ifCond .ne 7, 3) := by decide +kernel
theorem d_X0_fits_77 : decode cX0_fits 77 = .ok (.iconst 1, 1) := by decide +kernel
theorem d_X0_fits_78 : decode cX0_fits 78 = .ok (.goto 4, 3) := by decide +kernel
theorem d_X0_fits_81 : decode cX0_fits 81 = .ok (.iconst 0, 1) := by decide +kernel
theorem d_X0_fits_82 : decode cX0_fits 82 = .ok (.aload_n 3, 1) := by decide +kernel
theorem d_X0_fits_83 : decode cX0_fits 83 = .ok (.aload_n 0, 1) := by decide +kernel
theorem d_X0_fits_84 : decode cX0_fits 84 = .ok (.getfield 23, 3) := by decide +kernel
theorem d_X0_fits_87 : decode cX0_fits 87 = .ok (.iload 6, 2) := by decide +kernel
theorem d_X0_fits_89 : decode cX0_fits 89 = .ok (.iaload, 1) := by decide +kernel
theorem d_X0_fits_90 : decode cX0_fits 90 = .ok (.baload, 1) := by decide +kernel
theorem d_X0_fits_91 : decode cX0_fits 91 = .ok (.iconst 1, 1) := by decide +kernel
theorem d_X0_fits_92 : decode cX0_fits 92 = .ok (.if_icmp .ne 7, 3) := by decide +kernel
theorem d_X0_fits_95 : decode cX0_fits 95 = .ok (.iconst 1, 1) := by decide +kernel
theorem d_X0_fits_96 : decode cX0_fits 96 = .ok (.goto 4, 3) := by decide +kernel
theorem d_X0_fits_99 : decode cX0_fits 99 = .ok (.iconst 0, 1) := by decide +kernel
theorem d_X0_fits_100 : decode cX0_fits 100 = .ok (.if_icmp .eq 5, 3) := by decide +kernel
theorem d_X0_fits_103 : decode cX0_fits 103 = .ok (.iconst 0, 1) := by decide +kernel
theorem d_X0_fits_104 : decode cX0_fits 104 = .ok (.ireturn, 1) := by decide +kernel
theorem d_X0_fits_105 : decode cX0_fits 105 = .ok (.iinc 6 1, 3) := by decide +kernel
theorem d_X0_fits_108 : decode cX0_fits 108 = .ok (.goto (-99), 3) := by decide +kernel
theorem d_X0_fits_111 : decode cX0_fits 111 = .ok (.iconst 1, 1) := by decide +kernel
theorem d_X0_fits_112 : decode cX0_fits 112 = .ok (.ireturn, 1) := by decide +kernel
theorem d_X1_init_0 : decode cX1_init 0 = .ok (.aload_n 0, 1) := by decide +kernel
theorem d_X1_init_1 : decode cX1_init 1 = .ok (.invokespecial 3, 3) := by decide +kernel
theorem d_X1_init_4 : decode cX1_init 4 = .ok (.aload_n 0, 1) := by decide +kernel
theorem d_X1_init_5 : decode cX1_init 5 = .ok (.bipush 24, 2) := by decide +kernel
theorem d_X1_init_7 : decode cX1_init 7 = .ok (.putfield 9, 3) := by decide +kernel
theorem d_X1_init_10 : decode cX1_init 10 = .ok (.aload_n 0, 1) := by decide +kernel
theorem d_X1_init_11 : decode cX1_init 11 = .ok (.iconst 1, 1) := by decide +kernel
theorem d_X1_init_12 : decode cX1_init 12 = .ok (.putfield 15, 3) := by decide +kernel
theorem d_X1_init_15 : decode cX1_init 15 = .ok (.aload_n 0, 1) := by decide +kernel
theorem d_X1_init_16 : decode cX1_init 16 = .ok (.iconst 4, 1) := by decide +kernel
theorem d_X1_init_17 : decode cX1_init 17 = .ok (.newarray .int, 2) := by decide +kernel
theorem d_X1_init_19 : decode cX1_init 19 = .ok (.putfield 19, 3) := by decide +kernel
theorem d_X1_init_22 : decode cX1_init 22 = .ok (.aload_n 0, 1) := by decide +kernel
theorem d_X1_init_23 : decode cX1_init 23 = .ok (.bipush 24, 2) := by decide +kernel
theorem d_X1_init_25 : decode cX1_init 25 = .ok (.newarray .int, 2) := by decide +kernel
theorem d_X1_init_27 : decode cX1_init 27 = .ok (.putfield 23, 3) := by decide +kernel
theorem d_X1_init_30 : decode cX1_init 30 = .ok (.aload_n 0, 1) := by decide +kernel
theorem d_X1_init_31 : decode cX1_init 31 = .ok (.sipush 144, 3) := by decide +kernel
theorem d_X1_init_34 : decode cX1_init 34 = .ok (.newarray .int, 2) := by decide +kernel
theorem d_X1_init_36 : decode cX1_init 36 = .ok (.putfield 26, 3) := by decide +kernel
theorem d_X1_init_39 : decode cX1_init 39 = .ok (.aload_n 0, 1) := by decide +kernel
theorem d_X1_init_40 : decode cX1_init 40 = .ok (.bipush 6, 2) := by decide +kernel
theorem d_X1_init_42 : decode cX1_init 42 = .ok (.newarray .int, 2) := by decide +kernel
theorem d_X1_init_44 : decode cX1_init 44 = .ok (.putfield 29, 3) := by decide +kernel
theorem d_X1_init_47 : decode cX1_init 47 = .ok (.aload_n 0, 1) := by decide +kernel
theorem d_X1_init_48 : decode cX1_init 48 = .ok (.invokevirtual 32, 3) := by decide +kernel
theorem d_X1_init_51 : decode cX1_init 51 = .ok (.return_, 1) := by decide +kernel
theorem d_X1_begin_0 : decode cX1_begin 0 = .ok (.aload_n 0, 1) := by decide +kernel
theorem d_X1_begin_1 : decode cX1_begin 1 = .ok (.getfield 19, 3) := by decide +kernel
theorem d_X1_begin_4 : decode cX1_begin 4 = .ok (.iconst 1, 1) := by decide +kernel
theorem d_X1_begin_5 : decode cX1_begin 5 = .ok (.invokestatic 35, 3) := by decide +kernel
theorem d_X1_begin_8 : decode cX1_begin 8 = .ok (.aload_n 0, 1) := by decide +kernel
theorem d_X1_begin_9 : decode cX1_begin 9 = .ok (.getfield 23, 3) := by decide +kernel
theorem d_X1_begin_12 : decode cX1_begin 12 = .ok (.iconst 0, 1) := by decide +kernel
theorem d_X1_begin_13 : decode cX1_begin 13 = .ok (.invokestatic 35, 3) := by decide +kernel
theorem d_X1_begin_16 : decode cX1_begin 16 = .ok (.aload_n 0, 1) := by decide +kernel
theorem d_X1_begin_17 : decode cX1_begin 17 = .ok (.getfield 26, 3) := by decide +kernel
theorem d_X1_begin_20 : decode cX1_begin 20 = .ok (.iconst 0, 1) := by decide +kernel
theorem d_X1_begin_21 : decode cX1_begin 21 = .ok (.invokestatic 35, 3) := by decide +kernel
theorem d_X1_begin_24 : decode cX1_begin 24 = .ok (.aload_n 0, 1) := by decide +kernel
theorem d_X1_begin_25 : decode cX1_begin 25 = .ok (.getfield 29, 3) := by decide +kernel
theorem d_X1_begin_28 : decode cX1_begin 28 = .ok (.iconst 1, 1) := by decide +kernel
theorem d_X1_begin_29 : decode cX1_begin 29 = .ok (.invokestatic 35, 3) := by decide +kernel
theorem d_X1_begin_32 : decode cX1_begin 32 = .ok (.return_, 1) := by decide +kernel
theorem d_X1_copyFrom_0 : decode cX1_copyFrom 0 = .ok (.aload_n 0, 1) := by decide +kernel
theorem d_X1_copyFrom_1 : decode cX1_copyFrom 1 = .ok (.aload_n 1, 1) := by decide +kernel
theorem d_X1_copyFrom_2 : decode cX1_copyFrom 2 = .ok (.getfield 9, 3) := by decide +kernel
theorem d_X1_copyFrom_5 : decode cX1_copyFrom 5 = .ok (.putfield 9, 3) := by decide +kernel
theorem d_X1_copyFrom_8 : decode cX1_copyFrom 8 = .ok (.aload_n 0, 1) := by decide +kernel
theorem d_X1_copyFrom_9 : decode cX1_copyFrom 9 = .ok (.aload_n 1, 1) := by decide +kernel
theorem d_X1_copyFrom_10 : decode cX1_copyFrom 10 = .ok (.getfield 15, 3) := by decide +kernel
theorem d_X1_copyFrom_13 : decode cX1_copyFrom 13 = .ok (.putfield 15, 3) := by decide +kernel
theorem d_X1_copyFrom_16 : decode cX1_copyFrom 16 = .ok (.aload_n 1, 1) := by decide +kernel
theorem d_X1_copyFrom_17 : decode cX1_copyFrom 17 = .ok (.getfield 19, 3) := by decide +kernel
theorem d_X1_copyFrom_20 : decode cX1_copyFrom 20 = .ok (.iconst 0, 1) := by decide +kernel
theorem d_X1_copyFrom_21 : decode cX1_copyFrom 21 = .ok (.aload_n 0, 1) := by decide +kernel
theorem d_X1_copyFrom_22 : decode cX1_copyFrom 22 = .ok (.getfield 19, 3) := by decide +kernel
theorem d_X1_copyFrom_25 : decode cX1_copyFrom 25 = .ok (.iconst 0, 1) := by decide +kernel
theorem d_X1_copyFrom_26 : decode cX1_copyFrom 26 = .ok (.aload_n 0, 1) := by decide +kernel
theorem d_X1_copyFrom_27 : decode cX1_copyFrom 27 = .ok (.getfield 19, 3) := by decide +kernel
theorem d_X1_copyFrom_30 : decode cX1_copyFrom 30 = .ok (.arraylength, 1) := by decide +kernel
theorem d_X1_copyFrom_31 : decode cX1_copyFrom 31 = .ok (.invokestatic 41, 3) := by decide +kernel
theorem d_X1_copyFrom_34 : decode cX1_copyFrom 34 = .ok (.aload_n 1, 1) := by decide +kernel
theorem d_X1_copyFrom_35 : decode cX1_copyFrom 35 = .ok (.getfield 23, 3) := by decide +kernel
theorem d_X1_copyFrom_38 : decode cX1_copyFrom 38 = .ok (.iconst 0, 1) := by decide +kernel
theorem d_X1_copyFrom_39 : decode cX1_copyFrom 39 = .ok (.aload_n 0, 1) := by decide +kernel
theorem d_X1_copyFrom_40 : decode cX1_copyFrom 40 = .ok (.getfield 23, 3) := by decide +kernel
theorem d_X1_copyFrom_43 : decode cX1_copyFrom 43 = .ok (.iconst 0, 1) := by decide +kernel
theorem d_X1_copyFrom_44 : decode cX1_copyFrom 44 = .ok (.aload_n 0, 1) := by decide +kernel
theorem d_X1_copyFrom_45 : decode cX1_copyFrom 45 = .ok (.getfield 23, 3) := by decide +kernel
theorem d_X1_copyFrom_48 : decode cX1_copyFrom 48 = .ok (.arraylength, 1) := by decide +kernel
theorem d_X1_copyFrom_49 : decode cX1_copyFrom 49 = .ok (.invokestatic 41, 3) := by decide +kernel
theorem d_X1_copyFrom_52 : decode cX1_copyFrom 52 = .ok (.aload_n 1, 1) := by decide +kernel
theorem d_X1_copyFrom_53 : decode cX1_copyFrom 53 = .ok (.getfield 26, 3) := by decide +kernel
theorem d_X1_copyFrom_56 : decode cX1_copyFrom 56 = .ok (.iconst 0, 1) := by decide +kernel
theorem d_X1_copyFrom_57 : decode cX1_copyFrom 57 = .ok (.aload_n 0, 1) := by decide +kernel
theorem d_X1_copyFrom_58 : decode cX1_copyFrom 58 = .ok (.getfield 26, 3) := by decide +kernel
theorem d_X1_copyFrom_61 : decode cX1_copyFrom 61 = .ok (.iconst 0, 1) := by decide +kernel
theorem d_X1_copyFrom_62 : decode cX1_copyFrom 62 = .ok (.aload_n 0, 1) := by decide +kernel
theorem d_X1_copyFrom_63 : decode cX1_copyFrom 63 = .ok (.getfield 26, 3) := by decide +kernel
theorem d_X1_copyFrom_66 : decode cX1_copyFrom 66 = .ok (.arraylength, 1) := by decide +kernel
theorem d_X1_copyFrom_67 : decode cX1_copyFrom 67 = .ok (.invokestatic 41, 3) := by decide +kernel
theorem d_X1_copyFrom_70 : decode cX1_copyFrom 70 = .ok (.aload_n 1, 1) := by decide +kernel
theorem d_X1_copyFrom_71 : decode cX1_copyFrom 71 = .ok (.getfield 29, 3) := by decide +kernel
theorem d_X1_copyFrom_74 : decode cX1_copyFrom 74 = .ok (.iconst 0, 1) := by decide +kernel
theorem d_X1_copyFrom_75 : decode cX1_copyFrom 75 = .ok (.aload_n 0, 1) := by decide +kernel
theorem d_X1_copyFrom_76 : decode cX1_copyFrom 76 = .ok (.getfield 29, 3) := by decide +kernel
theorem d_X1_copyFrom_79 : decode cX1_copyFrom 79 = .ok (.iconst 0, 1) := by decide +kernel
theorem d_X1_copyFrom_80 : decode cX1_copyFrom 80 = .ok (.aload_n 0, 1) := by decide +kernel
theorem d_X1_copyFrom_81 : decode cX1_copyFrom 81 = .ok (.getfield 29, 3) := by decide +kernel
theorem d_X1_copyFrom_84 : decode cX1_copyFrom 84 = .ok (.arraylength, 1) := by decide +kernel
theorem d_X1_copyFrom_85 : decode cX1_copyFrom 85 = .ok (.invokestatic 41, 3) := by decide +kernel
theorem d_X1_copyFrom_88 : decode cX1_copyFrom 88 = .ok (.return_, 1) := by decide +kernel
theorem d_X1_countScans_0 : decode cX1_countScans 0 = .ok (.aload_n 0, 1) := by decide +kernel
theorem d_X1_countScans_1 : decode cX1_countScans 1 = .ok (.getfield 19, 3) := by decide +kernel
theorem d_X1_countScans_4 : decode cX1_countScans 4 = .ok (.iconst 0, 1) := by decide +kernel
theorem d_X1_countScans_5 : decode cX1_countScans 5 = .ok (.iaload, 1) := by decide +kernel
theorem d_X1_countScans_6 : decode cX1_countScans 6 = .ok (.aload_n 0, 1) := by decide +kernel
theorem d_X1_countScans_7 : decode cX1_countScans 7 = .ok (.getfield 19, 3) := by decide +kernel
theorem d_X1_countScans_10 : decode cX1_countScans 10 = .ok (.iconst 1, 1) := by decide +kernel
theorem d_X1_countScans_11 : decode cX1_countScans 11 = .ok (.iaload, 1) := by decide +kernel
theorem d_X1_countScans_12 : decode cX1_countScans 12 = .ok (.imul, 1) := by decide +kernel
theorem d_X1_countScans_13 : decode cX1_countScans 13 = .ok (.aload_n 0, 1) := by decide +kernel
theorem d_X1_countScans_14 : decode cX1_countScans 14 = .ok (.getfield 19, 3) := by decide +kernel
theorem d_X1_countScans_17 : decode cX1_countScans 17 = .ok (.iconst 2, 1) := by decide +kernel
theorem d_X1_countScans_18 : decode cX1_countScans 18 = .ok (.iaload, 1) := by decide +kernel
theorem d_X1_countScans_19 : decode cX1_countScans 19 = .ok (.imul, 1) := by decide +kernel
theorem d_X1_countScans_20 : decode cX1_countScans 20 = .ok (.aload_n 0, 1) := by decide +kernel
theorem d_X1_countScans_21 : decode cX1_countScans 21 = .ok (.getfield 19, 3) := by decide +kernel
theorem d_X1_countScans_24 : decode cX1_countScans 24 = .ok (.iconst 3, 1) := by decide +kernel
theorem d_X1_countScans_25 : decode cX1_countScans 25 = .ok (.iaload, 1) := by decide +kernel
theorem d_X1_countScans_26 : decode cX1_countScans 26 = .ok (.imul, 1) := by decide +kernel
theorem d_X1_countScans_27 : decode cX1_countScans 27 = .ok (.ireturn, 1) := by decide +kernel
theorem d_X1_scansBut_0 : decode cX1_scansBut 0 = .ok (.iconst 1, 1) := by decide +kernel
theorem d_X1_scansBut_1 : decode cX1_scansBut 1 = .ok (.istore_n 2, 1) := by decide +kernel
theorem d_X1_scansBut_2 : decode cX1_scansBut 2 = .ok (.iconst 0, 1) := by decide +kernel
theorem d_X1_scansBut_3 : decode cX1_scansBut 3 = .ok (.istore_n 3, 1) := by decide +kernel
theorem d_X1_scansBut_4 : decode cX1_scansBut 4 = .ok (.iload_n 3, 1) := by decide +kernel
theorem d_X1_scansBut_5 : decode cX1_scansBut 5 = .ok (.iconst 4, 1) := by decide +kernel
theorem d_X1_scansBut_6 : decode cX1_scansBut 6 = .ok (.if_icmp .ge 23, 3) := by decide +kernel
theorem d_X1_scansBut_9 : decode cX1_scansBut 9 = .ok (.iload_n 3, 1) := by decide +kernel
theorem d_X1_scansBut_10 : decode cX1_scansBut 10 = .ok (.iload_n 1, 1) := by decide +kernel
theorem d_X1_scansBut_11 : decode cX1_scansBut 11 = .ok (.if_icmp .eq 12, 3) := by decide +kernel
theorem d_X1_scansBut_14 : decode cX1_scansBut 14 = .ok (.iload_n 2, 1) := by decide +kernel
theorem d_X1_scansBut_15 : decode cX1_scansBut 15 = .ok (.aload_n 0, 1) := by decide +kernel
theorem d_X1_scansBut_16 : decode cX1_scansBut 16 = .ok (.getfield 19, 3) := by decide +kernel
theorem d_X1_scansBut_19 : decode cX1_scansBut 19 = .ok (.iload_n 3, 1) := by decide +kernel
theorem d_X1_scansBut_20 : decode cX1_scansBut 20 = .ok (.iaload, 1) := by decide +kernel
theorem d_X1_scansBut_21 : decode cX1_scansBut 21 = .ok (.imul, 1) := by decide +kernel
theorem d_X1_scansBut_22 : decode cX1_scansBut 22 = .ok (.istore_n 2, 1) := by decide +kernel
theorem d_X1_scansBut_23 : decode cX1_scansBut 23 = .ok (.iinc 3 1, 3) := by decide +kernel
theorem d_X1_scansBut_26 : decode cX1_scansBut 26 = .ok (.goto (-22), 3) := by decide +kernel
theorem d_X1_scansBut_29 : decode cX1_scansBut 29 = .ok (.iload_n 2, 1) := by decide +kernel
theorem d_X1_scansBut_30 : decode cX1_scansBut 30 = .ok (.ireturn, 1) := by decide +kernel
theorem d_X1_exchange_0 : decode cX1_exchange 0 = .ok (.aload_n 0, 1) := by decide +kernel
theorem d_X1_exchange_1 : decode cX1_exchange 1 = .ok (.getfield 19, 3) := by decide +kernel
theorem d_X1_exchange_4 : decode cX1_exchange 4 = .ok (.iload_n 1, 1) := by decide +kernel
theorem d_X1_exchange_5 : decode cX1_exchange 5 = .ok (.iaload, 1) := by decide +kernel
theorem d_X1_exchange_6 : decode cX1_exchange 6 = .ok (.istore_n 3, 1) := by decide +kernel
theorem d_X1_exchange_7 : decode cX1_exchange 7 = .ok (.aload_n 0, 1) := by decide +kernel
theorem d_X1_exchange_8 : decode cX1_exchange 8 = .ok (.getfield 19, 3) := by decide +kernel
theorem d_X1_exchange_11 : decode cX1_exchange 11 = .ok (.iload_n 1, 1) := by decide +kernel
theorem d_X1_exchange_12 : decode cX1_exchange 12 = .ok (.aload_n 0, 1) := by decide +kernel
theorem d_X1_exchange_13 : decode cX1_exchange 13 = .ok (.getfield 19, 3) := by decide +kernel
theorem d_X1_exchange_16 : decode cX1_exchange 16 = .ok (.iload_n 2, 1) := by decide +kernel
theorem d_X1_exchange_17 : decode cX1_exchange 17 = .ok (.iaload, 1) := by decide +kernel
theorem d_X1_exchange_18 : decode cX1_exchange 18 = .ok (.iastore, 1) := by decide +kernel
theorem d_X1_exchange_19 : decode cX1_exchange 19 = .ok (.aload_n 0, 1) := by decide +kernel
theorem d_X1_exchange_20 : decode cX1_exchange 20 = .ok (.getfield 19, 3) := by decide +kernel
theorem d_X1_exchange_23 : decode cX1_exchange 23 = .ok (.iload_n 2, 1) := by decide +kernel
theorem d_X1_exchange_24 : decode cX1_exchange 24 = .ok (.iload_n 3, 1) := by decide +kernel
theorem d_X1_exchange_25 : decode cX1_exchange 25 = .ok (.iastore, 1) := by decide +kernel
theorem d_X1_exchange_26 : decode cX1_exchange 26 = .ok (.iconst 0, 1) := by decide +kernel
theorem d_X1_exchange_27 : decode cX1_exchange 27 = .ok (.istore 4, 2) := by decide +kernel
theorem d_X1_exchange_29 : decode cX1_exchange 29 = .ok (.iload 4, 2) := by decide +kernel
theorem d_X1_exchange_31 : decode cX1_exchange 31 = .ok (.bipush 6, 2) := by decide +kernel
theorem d_X1_exchange_33 : decode cX1_exchange 33 = .ok (.if_icmp .ge 57, 3) := by decide +kernel
theorem d_X1_exchange_36 : decode cX1_exchange 36 = .ok (.aload_n 0, 1) := by decide +kernel
theorem d_X1_exchange_37 : decode cX1_exchange 37 = .ok (.getfield 23, 3) := by decide +kernel
theorem d_X1_exchange_40 : decode cX1_exchange 40 = .ok (.iload 4, 2) := by decide +kernel
theorem d_X1_exchange_42 : decode cX1_exchange 42 = .ok (.iconst 4, 1) := by decide +kernel
theorem d_X1_exchange_43 : decode cX1_exchange 43 = .ok (.imul, 1) := by decide +kernel
theorem d_X1_exchange_44 : decode cX1_exchange 44 = .ok (.iload_n 1, 1) := by decide +kernel
theorem d_X1_exchange_45 : decode cX1_exchange 45 = .ok (.iadd, 1) := by decide +kernel
theorem d_X1_exchange_46 : decode cX1_exchange 46 = .ok (.iaload, 1) := by decide +kernel
theorem d_X1_exchange_47 : decode cX1_exchange 47 = .ok (.istore 5, 2) := by decide +kernel
theorem d_X1_exchange_49 : decode cX1_exchange 49 = .ok (.aload_n 0, 1) := by decide +kernel
theorem d_X1_exchange_50 : decode cX1_exchange 50 = .ok (.getfield 23, 3) := by decide +kernel
theorem d_X1_exchange_53 : decode cX1_exchange 53 = .ok (.iload 4, 2) := by decide +kernel
theorem d_X1_exchange_55 : decode cX1_exchange 55 = .ok (.iconst 4, 1) := by decide +kernel
theorem d_X1_exchange_56 : decode cX1_exchange 56 = .ok (.imul, 1) := by decide +kernel
theorem d_X1_exchange_57 : decode cX1_exchange 57 = .ok (.iload_n 1, 1) := by decide +kernel
theorem d_X1_exchange_58 : decode cX1_exchange 58 = .ok (.iadd, 1) := by decide +kernel
theorem d_X1_exchange_59 : decode cX1_exchange 59 = .ok (.aload_n 0, 1) := by decide +kernel
theorem d_X1_exchange_60 : decode cX1_exchange 60 = .ok (.getfield 23, 3) := by decide +kernel
theorem d_X1_exchange_63 : decode cX1_exchange 63 = .ok (.iload 4, 2) := by decide +kernel
theorem d_X1_exchange_65 : decode cX1_exchange 65 = .ok (.iconst 4, 1) := by decide +kernel
theorem d_X1_exchange_66 : decode cX1_exchange 66 = .ok (.imul, 1) := by decide +kernel
theorem d_X1_exchange_67 : decode cX1_exchange 67 = .ok (.iload_n 2, 1) := by decide +kernel
theorem d_X1_exchange_68 : decode cX1_exchange 68 = .ok (.iadd, 1) := by decide +kernel
theorem d_X1_exchange_69 : decode cX1_exchange 69 = .ok (.iaload, 1) := by decide +kernel
theorem d_X1_exchange_70 : decode cX1_exchange 70 = .ok (.iastore, 1) := by decide +kernel
theorem d_X1_exchange_71 : decode cX1_exchange 71 = .ok (.aload_n 0, 1) := by decide +kernel
theorem d_X1_exchange_72 : decode cX1_exchange 72 = .ok (.getfield 23, 3) := by decide +kernel
theorem d_X1_exchange_75 : decode cX1_exchange 75 = .ok (.iload 4, 2) := by decide +kernel
theorem d_X1_exchange_77 : decode cX1_exchange 77 = .ok (.iconst 4, 1) := by decide +kernel
theorem d_X1_exchange_78 : decode cX1_exchange 78 = .ok (.imul, 1) := by decide +kernel
theorem d_X1_exchange_79 : decode cX1_exchange 79 = .ok (.iload_n 2, 1) := by decide +kernel
theorem d_X1_exchange_80 : decode cX1_exchange 80 = .ok (.iadd, 1) := by decide +kernel
theorem d_X1_exchange_81 : decode cX1_exchange 81 = .ok (.iload 5, 2) := by decide +kernel
theorem d_X1_exchange_83 : decode cX1_exchange 83 = .ok (.iastore, 1) := by decide +kernel
theorem d_X1_exchange_84 : decode cX1_exchange 84 = .ok (.iinc 4 1, 3) := by decide +kernel
theorem d_X1_exchange_87 : decode cX1_exchange 87 = .ok (.goto (-58), 3) := by decide +kernel
theorem d_X1_exchange_90 : decode cX1_exchange 90 = .ok (.return_, 1) := by decide +kernel
theorem d_X1_takeRows_0 : decode cX1_takeRows 0 = .ok (.aload_n 1, 1) := by decide +kernel
theorem d_X1_takeRows_1 : decode cX1_takeRows 1 = .ok (.iconst 0, 1) := by decide +kernel
theorem d_X1_takeRows_2 : decode cX1_takeRows 2 = .ok (.aload_n 0, 1) := by decide +kernel
theorem d_X1_takeRows_3 : decode cX1_takeRows 3 = .ok (.getfield 26, 3) := by decide +kernel
theorem d_X1_takeRows_6 : decode cX1_takeRows 6 = .ok (.iconst 0, 1) := by decide +kernel
theorem d_X1_takeRows_7 : decode cX1_takeRows 7 = .ok (.aload_n 0, 1) := by decide +kernel
theorem d_X1_takeRows_8 : decode cX1_takeRows 8 = .ok (.getfield 26, 3) := by decide +kernel
theorem d_X1_takeRows_11 : decode cX1_takeRows 11 = .ok (.arraylength, 1) := by decide +kernel
theorem d_X1_takeRows_12 : decode cX1_takeRows 12 = .ok (.invokestatic 41, 3) := by decide +kernel
theorem d_X1_takeRows_15 : decode cX1_takeRows 15 = .ok (.iconst 0, 1) := by decide +kernel
theorem d_X1_takeRows_16 : decode cX1_takeRows 16 = .ok (.istore_n 3, 1) := by decide +kernel
theorem d_X1_takeRows_17 : decode cX1_takeRows 17 = .ok (.iload_n 3, 1) := by decide +kernel
theorem d_X1_takeRows_18 : decode cX1_takeRows 18 = .ok (.bipush 6, 2) := by decide +kernel
theorem d_X1_takeRows_20 : decode cX1_takeRows 20 = .ok (.if_icmp .ge 22, 3) := by decide +kernel
theorem d_X1_takeRows_23 : decode cX1_takeRows 23 = .ok (.aload_n 0, 1) := by decide +kernel
theorem d_X1_takeRows_24 : decode cX1_takeRows 24 = .ok (.getfield 29, 3) := by decide +kernel
theorem d_X1_takeRows_27 : decode cX1_takeRows 27 = .ok (.iload_n 3, 1) := by decide +kernel
theorem d_X1_takeRows_28 : decode cX1_takeRows 28 = .ok (.iconst 1, 1) := by decide +kernel
theorem d_X1_takeRows_29 : decode cX1_takeRows 29 = .ok (.aload_n 2, 1) := by decide +kernel
theorem d_X1_takeRows_30 : decode cX1_takeRows 30 = .ok (.iload_n 3, 1) := by decide +kernel
theorem d_X1_takeRows_31 : decode cX1_takeRows 31 = .ok (.iaload, 1) := by decide +kernel
theorem d_X1_takeRows_32 : decode cX1_takeRows 32 = .ok (.invokestatic 47, 3) := by decide +kernel
theorem d_X1_takeRows_35 : decode cX1_takeRows 35 = .ok (.iastore, 1) := by decide +kernel
theorem d_X1_takeRows_36 : decode cX1_takeRows 36 = .ok (.iinc 3 1, 3) := by decide +kernel
theorem d_X1_takeRows_39 : decode cX1_takeRows 39 = .ok (.goto (-22), 3) := by decide +kernel
theorem d_X1_takeRows_42 : decode cX1_takeRows 42 = .ok (.return_, 1) := by decide +kernel
theorem d_X1_ownPhase_0 : decode cX1_ownPhase 0 = .ok (.aload_n 0, 1) := by decide +kernel
theorem d_X1_ownPhase_1 : decode cX1_ownPhase 1 = .ok (.getfield 26, 3) := by decide +kernel
theorem d_X1_ownPhase_4 : decode cX1_ownPhase 4 = .ok (.iload_n 1, 1) := by decide +kernel
theorem d_X1_ownPhase_5 : decode cX1_ownPhase 5 = .ok (.bipush 24, 2) := by decide +kernel
theorem d_X1_ownPhase_7 : decode cX1_ownPhase 7 = .ok (.imul, 1) := by decide +kernel
theorem d_X1_ownPhase_8 : decode cX1_ownPhase 8 = .ok (.iload_n 2, 1) := by decide +kernel
theorem d_X1_ownPhase_9 : decode cX1_ownPhase 9 = .ok (.aload_n 0, 1) := by decide +kernel
theorem d_X1_ownPhase_10 : decode cX1_ownPhase 10 = .ok (.getfield 29, 3) := by decide +kernel
theorem d_X1_ownPhase_13 : decode cX1_ownPhase 13 = .ok (.iload_n 1, 1) := by decide +kernel
theorem d_X1_ownPhase_14 : decode cX1_ownPhase 14 = .ok (.iaload, 1) := by decide +kernel
theorem d_X1_ownPhase_15 : decode cX1_ownPhase 15 = .ok (.irem, 1) := by decide +kernel
theorem d_X1_ownPhase_16 : decode cX1_ownPhase 16 = .ok (.iadd, 1) := by decide +kernel
theorem d_X1_ownPhase_17 : decode cX1_ownPhase 17 = .ok (.iaload, 1) := by decide +kernel
theorem d_X1_ownPhase_18 : decode cX1_ownPhase 18 = .ok (.istore_n 3, 1) := by decide +kernel
theorem d_X1_ownPhase_19 : decode cX1_ownPhase 19 = .ok (.iload_n 2, 1) := by decide +kernel
theorem d_X1_ownPhase_20 : decode cX1_ownPhase 20 = .ok (.istore 4, 2) := by decide +kernel
theorem d_X1_ownPhase_22 : decode cX1_ownPhase 22 = .ok (.iconst 0, 1) := by decide +kernel
theorem d_X1_ownPhase_23 : decode cX1_ownPhase 23 = .ok (.istore 5, 2) := by decide +kernel
theorem d_X1_ownPhase_25 : decode cX1_ownPhase 25 = .ok (.iload 5, 2) := by decide +kernel
theorem d_X1_ownPhase_27 : decode cX1_ownPhase 27 = .ok (.iconst 4, 1) := by decide +kernel
theorem d_X1_ownPhase_28 : decode cX1_ownPhase 28 = .ok (.if_icmp .ge 46, 3) := by decide +kernel
theorem d_X1_ownPhase_31 : decode cX1_ownPhase 31 = .ok (.iload_n 3, 1) := by decide +kernel
theorem d_X1_ownPhase_32 : decode cX1_ownPhase 32 = .ok (.iload 4, 2) := by decide +kernel
theorem d_X1_ownPhase_34 : decode cX1_ownPhase 34 = .ok (.aload_n 0, 1) := by decide +kernel
theorem d_X1_ownPhase_35 : decode cX1_ownPhase 35 = .ok (.getfield 19, 3) := by decide +kernel
theorem d_X1_ownPhase_38 : decode cX1_ownPhase 38 = .ok (.iload 5, 2) := by decide +kernel
theorem d_X1_ownPhase_40 : decode cX1_ownPhase 40 = .ok (.iaload, 1) := by decide +kernel
theorem d_X1_ownPhase_41 : decode cX1_ownPhase 41 = .ok (.irem, 1) := by decide +kernel
theorem d_X1_ownPhase_42 : decode cX1_ownPhase 42 = .ok (.aload_n 0, 1) := by decide +kernel
theorem d_X1_ownPhase_43 : decode cX1_ownPhase 43 = .ok (.getfield 23, 3) := by decide +kernel
theorem d_X1_ownPhase_46 : decode cX1_ownPhase 46 = .ok (.iload_n 1, 1) := by decide +kernel
theorem d_X1_ownPhase_47 : decode cX1_ownPhase 47 = .ok (.iconst 4, 1) := by decide +kernel
theorem d_X1_ownPhase_48 : decode cX1_ownPhase 48 = .ok (.imul, 1) := by decide +kernel
theorem d_X1_ownPhase_49 : decode cX1_ownPhase 49 = .ok (.iload 5, 2) := by decide +kernel
theorem d_X1_ownPhase_51 : decode cX1_ownPhase 51 = .ok (.iadd, 1) := by decide +kernel
theorem d_X1_ownPhase_52 : decode cX1_ownPhase 52 = .ok (.iaload, 1) := by decide +kernel
theorem d_X1_ownPhase_53 : decode cX1_ownPhase 53 = .ok (.imul, 1) := by decide +kernel
theorem d_X1_ownPhase_54 : decode cX1_ownPhase 54 = .ok (.iadd, 1) := by decide +kernel
theorem d_X1_ownPhase_55 : decode cX1_ownPhase 55 = .ok (.istore_n 3, 1) := by decide +kernel
theorem d_X1_ownPhase_56 : decode cX1_ownPhase 56 = .ok (.iload 4, 2) := by decide +kernel
theorem d_X1_ownPhase_58 : decode cX1_ownPhase 58 = .ok (.aload_n 0, 1) := by decide +kernel
theorem d_X1_ownPhase_59 : decode cX1_ownPhase 59 = .ok (.getfield 19, 3) := by decide +kernel
theorem d_X1_ownPhase_62 : decode cX1_ownPhase 62 = .ok (.iload 5, 2) := by decide +kernel
theorem d_X1_ownPhase_64 : decode cX1_ownPhase 64 = .ok (.iaload, 1) := by decide +kernel
theorem d_X1_ownPhase_65 : decode cX1_ownPhase 65 = .ok (.idiv, 1) := by decide +kernel
theorem d_X1_ownPhase_66 : decode cX1_ownPhase 66 = .ok (.istore 4, 2) := by decide +kernel
theorem d_X1_ownPhase_68 : decode cX1_ownPhase 68 = .ok (.iinc 5 1, 3) := by decide +kernel
theorem d_X1_ownPhase_71 : decode cX1_ownPhase 71 = .ok (.goto (-46), 3) := by decide +kernel
theorem d_X1_ownPhase_74 : decode cX1_ownPhase 74 = .ok (.iload_n 3, 1) := by decide +kernel
theorem d_X1_ownPhase_75 : decode cX1_ownPhase 75 = .ok (.aload_n 0, 1) := by decide +kernel
theorem d_X1_ownPhase_76 : decode cX1_ownPhase 76 = .ok (.getfield 9, 3) := by decide +kernel
theorem d_X1_ownPhase_79 : decode cX1_ownPhase 79 = .ok (.irem, 1) := by decide +kernel
theorem d_X1_ownPhase_80 : decode cX1_ownPhase 80 = .ok (.ireturn, 1) := by decide +kernel
theorem d_X2_init_0 : decode cX2_init 0 = .ok (.aload_n 0, 1) := by decide +kernel
theorem d_X2_init_1 : decode cX2_init 1 = .ok (.invokespecial 3, 3) := by decide +kernel
theorem d_X2_init_4 : decode cX2_init 4 = .ok (.aload_n 0, 1) := by decide +kernel
theorem d_X2_init_5 : decode cX2_init 5 = .ok (.iconst 0, 1) := by decide +kernel
theorem d_X2_init_6 : decode cX2_init 6 = .ok (.putfield 9, 3) := by decide +kernel
theorem d_X2_init_9 : decode cX2_init 9 = .ok (.aload_n 0, 1) := by decide +kernel
theorem d_X2_init_10 : decode cX2_init 10 = .ok (.iconst (-1), 1) := by decide +kernel
theorem d_X2_init_11 : decode cX2_init 11 = .ok (.putfield 15, 3) := by decide +kernel
theorem d_X2_init_14 : decode cX2_init 14 = .ok (.aload_n 0, 1) := by decide +kernel
theorem d_X2_init_15 : decode cX2_init 15 = .ok (.iconst 5, 1) := by decide +kernel
theorem d_X2_init_16 : decode cX2_init 16 = .ok (.newarray .int, 2) := by decide +kernel
theorem d_X2_init_18 : decode cX2_init 18 = .ok (.putfield 19, 3) := by decide +kernel
theorem d_X2_init_21 : decode cX2_init 21 = .ok (.aload_n 0, 1) := by decide +kernel
theorem d_X2_init_22 : decode cX2_init 22 = .ok (.iconst 5, 1) := by decide +kernel
theorem d_X2_init_23 : decode cX2_init 23 = .ok (.newarray .int, 2) := by decide +kernel
theorem d_X2_init_25 : decode cX2_init 25 = .ok (.putfield 23, 3) := by decide +kernel
theorem d_X2_init_28 : decode cX2_init 28 = .ok (.aload_n 0, 1) := by decide +kernel
theorem d_X2_init_29 : decode cX2_init 29 = .ok (.iconst 0, 1) := by decide +kernel
theorem d_X2_init_30 : decode cX2_init 30 = .ok (.putfield 26, 3) := by decide +kernel
theorem d_X2_init_33 : decode cX2_init 33 = .ok (.return_, 1) := by decide +kernel
theorem d_X2_search_0 : decode cX2_search 0 = .ok (.aload_n 0, 1) := by decide +kernel
theorem d_X2_search_1 : decode cX2_search 1 = .ok (.iconst 1, 1) := by decide +kernel
theorem d_X2_search_2 : decode cX2_search 2 = .ok (.putfield 9, 3) := by decide +kernel
theorem d_X2_search_5 : decode cX2_search 5 = .ok (.aload_n 0, 1) := by decide +kernel
theorem d_X2_search_6 : decode cX2_search 6 = .ok (.iconst (-1), 1) := by decide +kernel
theorem d_X2_search_7 : decode cX2_search 7 = .ok (.putfield 15, 3) := by decide +kernel
theorem d_X2_search_10 : decode cX2_search 10 = .ok (.aload_n 0, 1) := by decide +kernel
theorem d_X2_search_11 : decode cX2_search 11 = .ok (.ldc 31, 2) := by decide +kernel
theorem d_X2_search_13 : decode cX2_search 13 = .ok (.putfield 26, 3) := by decide +kernel
theorem d_X2_search_16 : decode cX2_search 16 = .ok (.aload_n 1, 1) := by decide +kernel
theorem d_X2_search_17 : decode cX2_search 17 = .ok (.getfield 32, 3) := by decide +kernel
theorem d_X2_search_20 : decode cX2_search 20 = .ok (.ifCond .eq 16, 3) := by decide +kernel
theorem d_X2_search_23 : decode cX2_search 23 = .ok (.aload_n 0, 1) := by decide +kernel
theorem d_X2_search_24 : decode cX2_search 24 = .ok (.aload_n 1, 1) := by decide +kernel
theorem d_X2_search_25 : decode cX2_search 25 = .ok (.aload_n 2, 1) := by decide +kernel
theorem d_X2_search_26 : decode cX2_search 26 = .ok (.iload_n 3, 1) := by decide +kernel
theorem d_X2_search_27 : decode cX2_search 27 = .ok (.iconst 0, 1) := by decide +kernel
theorem d_X2_search_28 : decode cX2_search 28 = .ok (.aload_n 1, 1) := by decide +kernel
theorem d_X2_search_29 : decode cX2_search 29 = .ok (.getfield 37, 3) := by decide +kernel
theorem d_X2_search_32 : decode cX2_search 32 = .ok (.iconst 1, 1) := by decide +kernel
theorem d_X2_search_33 : decode cX2_search 33 = .ok (.invokestatic 40, 3) := by decide +kernel
theorem d_X2_search_36 : decode cX2_search 36 = .ok (.return_, 1) := by decide +kernel
theorem d_X2_pick_0 : decode cX2_pick 0 = .ok (.iload 4, 2) := by decide +kernel
theorem d_X2_pick_2 : decode cX2_pick 2 = .ok (.aload_n 1, 1) := by decide +kernel
theorem d_X2_pick_3 : decode cX2_pick 3 = .ok (.getfield 44, 3) := by decide +kernel
theorem d_X2_pick_6 : decode cX2_pick 6 = .ok (.if_icmp .lt 34, 3) := by decide +kernel
theorem d_X2_pick_9 : decode cX2_pick 9 = .ok (.aload_n 0, 1) := by decide +kernel
theorem d_X2_pick_10 : decode cX2_pick 10 = .ok (.iload 6, 2) := by decide +kernel
theorem d_X2_pick_12 : decode cX2_pick 12 = .ok (.putfield 15, 3) := by decide +kernel
theorem d_X2_pick_15 : decode cX2_pick 15 = .ok (.aload_n 0, 1) := by decide +kernel
theorem d_X2_pick_16 : decode cX2_pick 16 = .ok (.iload 6, 2) := by decide +kernel
theorem d_X2_pick_18 : decode cX2_pick 18 = .ok (.putfield 26, 3) := by decide +kernel
theorem d_X2_pick_21 : decode cX2_pick 21 = .ok (.aload_n 0, 1) := by decide +kernel
theorem d_X2_pick_22 : decode cX2_pick 22 = .ok (.getfield 23, 3) := by decide +kernel
theorem d_X2_pick_25 : decode cX2_pick 25 = .ok (.iconst 0, 1) := by decide +kernel
theorem d_X2_pick_26 : decode cX2_pick 26 = .ok (.aload_n 0, 1) := by decide +kernel
theorem d_X2_pick_27 : decode cX2_pick 27 = .ok (.getfield 19, 3) := by decide +kernel
theorem d_X2_pick_30 : decode cX2_pick 30 = .ok (.iconst 0, 1) := by decide +kernel
theorem d_X2_pick_31 : decode cX2_pick 31 = .ok (.aload_n 0, 1) := by decide +kernel
theorem d_X2_pick_32 : decode cX2_pick 32 = .ok (.getfield 19, 3) := by decide +kernel
theorem d_X2_pick_35 : decode cX2_pick 35 = .ok (.arraylength, 1) := by decide +kernel
theorem d_X2_pick_36 : decode cX2_pick 36 = .ok (.invokestatic 47, 3) := by decide +kernel
theorem d_X2_pick_39 : decode cX2_pick 39 = .ok (.return_, 1) := by decide +kernel
theorem d_X2_pick_40 : decode cX2_pick 40 = .ok (.iconst 1, 1) := by decide +kernel
theorem d_X2_pick_41 : decode cX2_pick 41 = .ok (.istore 7, 2) := by decide +kernel
theorem d_X2_pick_43 : decode cX2_pick 43 = .ok (.iload 7, 2) := by decide +kernel
theorem d_X2_pick_45 : decode cX2_pick 45 = .ok (.bipush 12, 2) := by decide +kernel
theorem d_X2_pick_47 : decode cX2_pick 47 = .ok (.if_icmp .gt 87, 3) := by decide +kernel
theorem d_X2_pick_50 : decode cX2_pick 50 = .ok (.iload 6, 2) := by decide +kernel
theorem d_X2_pick_52 : decode cX2_pick 52 = .ok (.iload 7, 2) := by decide +kernel
theorem d_X2_pick_54 : decode cX2_pick 54 = .ok (.imul, 1) := by decide +kernel
theorem d_X2_pick_55 : decode cX2_pick 55 = .ok (.aload_n 0, 1) := by decide +kernel
theorem d_X2_pick_56 : decode cX2_pick 56 = .ok (.getfield 26, 3) := by decide +kernel
theorem d_X2_pick_59 : decode cX2_pick 59 = .ok (.if_icmp .ge 75, 3) := by decide +kernel
theorem d_X2_pick_62 : decode cX2_pick 62 = .ok (.iload_n 3, 1) := by decide +kernel
theorem d_X2_pick_63 : decode cX2_pick 63 = .ok (.iload 7, 2) := by decide +kernel
theorem d_X2_pick_65 : decode cX2_pick 65 = .ok (.irem, 1) := by decide +kernel
theorem d_X2_pick_66 : decode cX2_pick 66 = .ok (.ifCond .ne 62, 3) := by decide +kernel
theorem d_X2_pick_69 : decode cX2_pick 69 = .ok (.aload_n 1, 1) := by decide +kernel
theorem d_X2_pick_70 : decode cX2_pick 70 = .ok (.getfield 53, 3) := by decide +kernel
theorem d_X2_pick_73 : decode cX2_pick 73 = .ok (.iload 4, 2) := by decide +kernel
theorem d_X2_pick_75 : decode cX2_pick 75 = .ok (.iaload, 1) := by decide +kernel
theorem d_X2_pick_76 : decode cX2_pick 76 = .ok (.iload 7, 2) := by decide +kernel
theorem d_X2_pick_78 : decode cX2_pick 78 = .ok (.irem, 1) := by decide +kernel
theorem d_X2_pick_79 : decode cX2_pick 79 = .ok (.ifCond .ne 49, 3) := by decide +kernel
theorem d_X2_pick_82 : decode cX2_pick 82 = .ok (.aload_n 1, 1) := by decide +kernel
theorem d_X2_pick_83 : decode cX2_pick 83 = .ok (.aload_n 2, 1) := by decide +kernel
theorem d_X2_pick_84 : decode cX2_pick 84 = .ok (.iload 4, 2) := by decide +kernel
theorem d_X2_pick_86 : decode cX2_pick 86 = .ok (.iload 7, 2) := by decide +kernel
theorem d_X2_pick_88 : decode cX2_pick 88 = .ok (.iload 5, 2) := by decide +kernel
theorem d_X2_pick_90 : decode cX2_pick 90 = .ok (.invokevirtual 56, 3) := by decide +kernel
theorem d_X2_pick_93 : decode cX2_pick 93 = .ok (.istore 8, 2) := by decide +kernel
theorem d_X2_pick_95 : decode cX2_pick 95 = .ok (.iload 8, 2) := by decide +kernel
theorem d_X2_pick_97 : decode cX2_pick 97 = .ok (.iconst (-1), 1) := by decide +kernel
theorem d_X2_pick_98 : decode cX2_pick 98 = .ok (.if_icmp .eq 30, 3) := by decide +kernel
theorem d_X2_pick_101 : decode cX2_pick 101 = .ok (.aload_n 0, 1) := by decide +kernel
theorem d_X2_pick_102 : decode cX2_pick 102 = .ok (.getfield 23, 3) := by decide +kernel
theorem d_X2_pick_105 : decode cX2_pick 105 = .ok (.iload 4, 2) := by decide +kernel
theorem d_X2_pick_107 : decode cX2_pick 107 = .ok (.iload 7, 2) := by decide +kernel
theorem d_X2_pick_109 : decode cX2_pick 109 = .ok (.iastore, 1) := by decide +kernel
theorem d_X2_pick_110 : decode cX2_pick 110 = .ok (.aload_n 0, 1) := by decide +kernel
theorem d_X2_pick_111 : decode cX2_pick 111 = .ok (.aload_n 1, 1) := by decide +kernel
theorem d_X2_pick_112 : decode cX2_pick 112 = .ok (.aload_n 2, 1) := by decide +kernel
theorem d_X2_pick_113 : decode cX2_pick 113 = .ok (.iload_n 3, 1) := by decide +kernel
theorem d_X2_pick_114 : decode cX2_pick 114 = .ok (.iload 4, 2) := by decide +kernel
theorem d_X2_pick_116 : decode cX2_pick 116 = .ok (.iconst 1, 1) := by decide +kernel
theorem d_X2_pick_117 : decode cX2_pick 117 = .ok (.iadd, 1) := by decide +kernel
theorem d_X2_pick_118 : decode cX2_pick 118 = .ok (.iload 8, 2) := by decide +kernel
theorem d_X2_pick_120 : decode cX2_pick 120 = .ok (.iload 6, 2) := by decide +kernel
theorem d_X2_pick_122 : decode cX2_pick 122 = .ok (.iload 7, 2) := by decide +kernel
theorem d_X2_pick_124 : decode cX2_pick 124 = .ok (.imul, 1) := by decide +kernel
theorem d_X2_pick_125 : decode cX2_pick 125 = .ok (.invokestatic 40, 3) := by decide +kernel
theorem d_X2_pick_128 : decode cX2_pick 128 = .ok (.iinc 7 1, 3) := by decide +kernel
theorem d_X2_pick_131 : decode cX2_pick 131 = .ok (.goto (-88), 3) := by decide +kernel
theorem d_X2_pick_134 : decode cX2_pick 134 = .ok (.return_, 1) := by decide +kernel
theorem d_X3_init_0 : decode cX3_init 0 = .ok (.aload_n 0, 1) := by decide +kernel
theorem d_X3_init_1 : decode cX3_init 1 = .ok (.invokespecial 3, 3) := by decide +kernel
theorem d_X3_init_4 : decode cX3_init 4 = .ok (.aload_n 0, 1) := by decide +kernel
theorem d_X3_init_5 : decode cX3_init 5 = .ok (.iconst 0, 1) := by decide +kernel
theorem d_X3_init_6 : decode cX3_init 6 = .ok (.putfield 9, 3) := by decide +kernel
theorem d_X3_init_9 : decode cX3_init 9 = .ok (.aload_n 0, 1) := by decide +kernel
theorem d_X3_init_10 : decode cX3_init 10 = .ok (.iconst 0, 1) := by decide +kernel
theorem d_X3_init_11 : decode cX3_init 11 = .ok (.putfield 15, 3) := by decide +kernel
theorem d_X3_init_14 : decode cX3_init 14 = .ok (.aload_n 0, 1) := by decide +kernel
theorem d_X3_init_15 : decode cX3_init 15 = .ok (.sipush 12005, 3) := by decide +kernel
theorem d_X3_init_18 : decode cX3_init 18 = .ok (.newarray .byte, 2) := by decide +kernel
theorem d_X3_init_20 : decode cX3_init 20 = .ok (.putfield 19, 3) := by decide +kernel
theorem d_X3_init_23 : decode cX3_init 23 = .ok (.aload_n 0, 1) := by decide +kernel
theorem d_X3_init_24 : decode cX3_init 24 = .ok (.sipush 2401, 3) := by decide +kernel
theorem d_X3_init_27 : decode cX3_init 27 = .ok (.newarray .short, 2) := by decide +kernel
theorem d_X3_init_29 : decode cX3_init 29 = .ok (.putfield 23, 3) := by decide +kernel
theorem d_X3_init_32 : decode cX3_init 32 = .ok (.aload_n 0, 1) := by decide +kernel
theorem d_X3_init_33 : decode cX3_init 33 = .ok (.sipush 2401, 3) := by decide +kernel
theorem d_X3_init_36 : decode cX3_init 36 = .ok (.newarray .int, 2) := by decide +kernel
theorem d_X3_init_38 : decode cX3_init 38 = .ok (.putfield 27, 3) := by decide +kernel
theorem d_X3_init_41 : decode cX3_init 41 = .ok (.aload_n 0, 1) := by decide +kernel
theorem d_X3_init_42 : decode cX3_init 42 = .ok (.sipush 2401, 3) := by decide +kernel
theorem d_X3_init_45 : decode cX3_init 45 = .ok (.newarray .byte, 2) := by decide +kernel
theorem d_X3_init_47 : decode cX3_init 47 = .ok (.putfield 31, 3) := by decide +kernel
theorem d_X3_init_50 : decode cX3_init 50 = .ok (.return_, 1) := by decide +kernel
theorem d_X3_list_0 : decode cX3_list 0 = .ok (.iconst 1, 1) := by decide +kernel
theorem d_X3_list_1 : decode cX3_list 1 = .ok (.istore_n 2, 1) := by decide +kernel
theorem d_X3_list_2 : decode cX3_list 2 = .ok (.iconst 0, 1) := by decide +kernel
theorem d_X3_list_3 : decode cX3_list 3 = .ok (.istore_n 3, 1) := by decide +kernel
theorem d_X3_list_4 : decode cX3_list 4 = .ok (.iload_n 3, 1) := by decide +kernel
theorem d_X3_list_5 : decode cX3_list 5 = .ok (.aload_n 1, 1) := by decide +kernel
theorem d_X3_list_6 : decode cX3_list 6 = .ok (.getfield 34, 3) := by decide +kernel
theorem d_X3_list_9 : decode cX3_list 9 = .ok (.iconst 1, 1) := by decide +kernel
theorem d_X3_list_10 : decode cX3_list 10 = .ok (.isub, 1) := by decide +kernel
theorem d_X3_list_11 : decode cX3_list 11 = .ok (.if_icmp .ge 20, 3) := by decide +kernel
theorem d_X3_list_14 : decode cX3_list 14 = .ok (.iload_n 2, 1) := by decide +kernel
theorem d_X3_list_15 : decode cX3_list 15 = .ok (.iconst 2, 1) := by decide +kernel
theorem d_X3_list_16 : decode cX3_list 16 = .ok (.aload_n 1, 1) := by decide +kernel
theorem d_X3_list_17 : decode cX3_list 17 = .ok (.getfield 39, 3) := by decide +kernel
theorem d_X3_list_20 : decode cX3_list 20 = .ok (.imul, 1) := by decide +kernel
theorem d_X3_list_21 : decode cX3_list 21 = .ok (.iconst 1, 1) := by decide +kernel
theorem d_X3_list_22 : decode cX3_list 22 = .ok (.iadd, 1) := by decide +kernel
theorem d_X3_list_23 : decode cX3_list 23 = .ok (.imul, 1) := by decide +kernel
theorem d_X3_list_24 : decode cX3_list 24 = .ok (.istore_n 2, 1) := by decide +kernel
theorem d_X3_list_25 : decode cX3_list 25 = .ok (.iinc 3 1, 3) := by decide +kernel
theorem d_X3_list_28 : decode cX3_list 28 = .ok (.goto (-24), 3) := by decide +kernel
theorem d_X3_list_31 : decode cX3_list 31 = .ok (.aload_n 0, 1) := by decide +kernel
theorem d_X3_list_32 : decode cX3_list 32 = .ok (.iconst 0, 1) := by decide +kernel
theorem d_X3_list_33 : decode cX3_list 33 = .ok (.putfield 9, 3) := by decide +kernel
theorem d_X3_list_36 : decode cX3_list 36 = .ok (.iconst 0, 1) := by decide +kernel
theorem d_X3_list_37 : decode cX3_list 37 = .ok (.istore_n 3, 1) := by decide +kernel
theorem d_X3_list_38 : decode cX3_list 38 = .ok (.iload_n 3, 1) := by decide +kernel
theorem d_X3_list_39 : decode cX3_list 39 = .ok (.iload_n 2, 1) := by decide +kernel
theorem d_X3_list_40 : decode cX3_list 40 = .ok (.if_icmp .ge 51, 3) := by decide +kernel
theorem d_X3_list_43 : decode cX3_list 43 = .ok (.aload_n 0, 1) := by decide +kernel
theorem d_X3_list_44 : decode cX3_list 44 = .ok (.iload_n 3, 1) := by decide +kernel
theorem d_X3_list_45 : decode cX3_list 45 = .ok (.aload_n 1, 1) := by decide +kernel
theorem d_X3_list_46 : decode cX3_list 46 = .ok (.invokevirtual 42, 3) := by decide +kernel
theorem d_X3_list_49 : decode cX3_list 49 = .ok (.aload_n 0, 1) := by decide +kernel
theorem d_X3_list_50 : decode cX3_list 50 = .ok (.getfield 23, 3) := by decide +kernel
theorem d_X3_list_53 : decode cX3_list 53 = .ok (.iload_n 3, 1) := by decide +kernel
theorem d_X3_list_54 : decode cX3_list 54 = .ok (.iconst (-1), 1) := by decide +kernel
theorem d_X3_list_55 : decode cX3_list 55 = .ok (.sastore, 1) := by decide +kernel
theorem d_X3_list_56 : decode cX3_list 56 = .ok (.aload_n 0, 1) := by decide +kernel
theorem d_X3_list_57 : decode cX3_list 57 = .ok (.aload_n 1, 1) := by decide +kernel
theorem d_X3_list_58 : decode cX3_list 58 = .ok (.invokevirtual 46, 3) := by decide +kernel
theorem d_X3_list_61 : decode cX3_list 61 = .ok (.ifCond .eq 24, 3) := by decide +kernel
theorem d_X3_list_64 : decode cX3_list 64 = .ok (.aload_n 0, 1) := by decide +kernel
theorem d_X3_list_65 : decode cX3_list 65 = .ok (.getfield 23, 3) := by decide +kernel
theorem d_X3_list_68 : decode cX3_list 68 = .ok (.iload_n 3, 1) := by decide +kernel
theorem d_X3_list_69 : decode cX3_list 69 = .ok (.aload_n 0, 1) := by decide +kernel
theorem d_X3_list_70 : decode cX3_list 70 = .ok (.getfield 9, 3) := by decide +kernel
theorem d_X3_list_73 : decode cX3_list 73 = .ok (.i2s, 1) := by decide +kernel
theorem d_X3_list_74 : decode cX3_list 74 = .ok (.sastore, 1) := by decide +kernel
theorem d_X3_list_75 : decode cX3_list 75 = .ok (.aload_n 0, 1) := by decide +kernel
theorem d_X3_list_76 : decode cX3_list 76 = .ok (.dup, 1) := by decide +kernel
theorem d_X3_list_77 : decode cX3_list 77 = .ok (.getfield 9, 3) := by decide +kernel
theorem d_X3_list_80 : decode cX3_list 80 = .ok (.iconst 1, 1) := by decide +kernel
theorem d_X3_list_81 : decode cX3_list 81 = .ok (.iadd, 1) := by decide +kernel
theorem d_X3_list_82 : decode cX3_list 82 = .ok (.putfield 9, 3) := by decide +kernel
theorem d_X3_list_85 : decode cX3_list 85 = .ok (.iinc 3 1, 3) := by decide +kernel
theorem d_X3_list_88 : decode cX3_list 88 = .ok (.goto (-50), 3) := by decide +kernel
theorem d_X3_list_91 : decode cX3_list 91 = .ok (.return_, 1) := by decide +kernel
theorem d_X3_spell_0 : decode cX3_spell 0 = .ok (.iconst 2, 1) := by decide +kernel
theorem d_X3_spell_1 : decode cX3_spell 1 = .ok (.aload_n 2, 1) := by decide +kernel
theorem d_X3_spell_2 : decode cX3_spell 2 = .ok (.getfield 39, 3) := by decide +kernel
theorem d_X3_spell_5 : decode cX3_spell 5 = .ok (.imul, 1) := by decide +kernel
theorem d_X3_spell_6 : decode cX3_spell 6 = .ok (.iconst 1, 1) := by decide +kernel
theorem d_X3_spell_7 : decode cX3_spell 7 = .ok (.iadd, 1) := by decide +kernel
theorem d_X3_spell_8 : decode cX3_spell 8 = .ok (.istore_n 3, 1) := by decide +kernel
theorem d_X3_spell_9 : decode cX3_spell 9 = .ok (.iload_n 1, 1) := by decide +kernel
theorem d_X3_spell_10 : decode cX3_spell 10 = .ok (.istore 4, 2) := by decide +kernel
theorem d_X3_spell_12 : decode cX3_spell 12 = .ok (.aload_n 0, 1) := by decide +kernel
theorem d_X3_spell_13 : decode cX3_spell 13 = .ok (.getfield 9, 3) := by decide +kernel
theorem d_X3_spell_16 : decode cX3_spell 16 = .ok (.iconst 5, 1) := by decide +kernel
theorem d_X3_spell_17 : decode cX3_spell 17 = .ok (.imul, 1) := by decide +kernel
theorem d_X3_spell_18 : decode cX3_spell 18 = .ok (.istore 5, 2) := by decide +kernel
theorem d_X3_spell_20 : decode cX3_spell 20 = .ok (.aload_n 0, 1) := by decide +kernel
theorem d_X3_spell_21 : decode cX3_spell 21 = .ok (.getfield 19, 3) := by decide +kernel
theorem d_X3_spell_24 : decode cX3_spell 24 = .ok (.iload 5, 2) := by decide +kernel
theorem d_X3_spell_26 : decode cX3_spell 26 = .ok (.aload_n 2, 1) := by decide +kernel
theorem d_X3_spell_27 : decode cX3_spell 27 = .ok (.getfield 34, 3) := by decide +kernel
theorem d_X3_spell_30 : decode cX3_spell 30 = .ok (.iadd, 1) := by decide +kernel
theorem d_X3_spell_31 : decode cX3_spell 31 = .ok (.iconst 1, 1) := by decide +kernel
theorem d_X3_spell_32 : decode cX3_spell 32 = .ok (.isub, 1) := by decide +kernel
theorem d_X3_spell_33 : decode cX3_spell 33 = .ok (.iconst (-1), 1) := by decide +kernel
theorem d_X3_spell_34 : decode cX3_spell 34 = .ok (.bastore, 1) := by decide +kernel
theorem d_X3_spell_35 : decode cX3_spell 35 = .ok (.aload_n 2, 1) := by decide +kernel
theorem d_X3_spell_36 : decode cX3_spell 36 = .ok (.getfield 34, 3) := by decide +kernel
theorem d_X3_spell_39 : decode cX3_spell 39 = .ok (.iconst 2, 1) := by decide +kernel
theorem d_X3_spell_40 : decode cX3_spell 40 = .ok (.isub, 1) := by decide +kernel
theorem d_X3_spell_41 : decode cX3_spell 41 = .ok (.istore 6, 2) := by decide +kernel
theorem d_X3_spell_43 : decode cX3_spell 43 = .ok (.iload 6, 2) := by decide +kernel
theorem d_X3_spell_45 : decode cX3_spell 45 = .ok (.ifCond .lt 35, 3) := by decide +kernel
theorem d_X3_spell_48 : decode cX3_spell 48 = .ok (.aload_n 0, 1) := by decide +kernel
theorem d_X3_spell_49 : decode cX3_spell 49 = .ok (.getfield 19, 3) := by decide +kernel
theorem d_X3_spell_52 : decode cX3_spell 52 = .ok (.iload 5, 2) := by decide +kernel
theorem d_X3_spell_54 : decode cX3_spell 54 = .ok (.iload 6, 2) := by decide +kernel
theorem d_X3_spell_56 : decode cX3_spell 56 = .ok (.iadd, 1) := by decide +kernel
theorem d_X3_spell_57 : decode cX3_spell 57 = .ok (.iload 4, 2) := by decide +kernel
theorem d_X3_spell_59 : decode cX3_spell 59 = .ok (.iload_n 3, 1) := by decide +kernel
theorem d_X3_spell_60 : decode cX3_spell 60 = .ok (.irem, 1) := by decide +kernel
theorem d_X3_spell_61 : decode cX3_spell 61 = .ok (.aload_n 2, 1) := by decide +kernel
theorem d_X3_spell_62 : decode cX3_spell 62 = .ok (.getfield 39, 3) := by decide +kernel
theorem d_X3_spell_65 : decode cX3_spell 65 = .ok (.isub, 1) := by decide +kernel
theorem d_X3_spell_66 : decode cX3_spell 66 = .ok (.i2b, 1) := by decide +kernel
theorem d_X3_spell_67 : decode cX3_spell 67 = .ok (.bastore, 1) := by decide +kernel
theorem d_X3_spell_68 : decode cX3_spell 68 = .ok (.iload 4, 2) := by decide +kernel
theorem d_X3_spell_70 : decode cX3_spell 70 = .ok (.iload_n 3, 1) := by decide +kernel
theorem d_X3_spell_71 : decode cX3_spell 71 = .ok (.idiv, 1) := by decide +kernel
theorem d_X3_spell_72 : decode cX3_spell 72 = .ok (.istore 4, 2) := by decide +kernel
theorem d_X3_spell_74 : decode cX3_spell 74 = .ok (.iinc 6 (-1), 3) := by decide +kernel
theorem d_X3_spell_77 : decode cX3_spell 77 = .ok (.goto (-34), 3) := by decide +kernel
theorem d_X3_spell_80 : decode cX3_spell 80 = .ok (.return_, 1) := by decide +kernel
theorem d_X3_keepsKinds_0 : decode cX3_keepsKinds 0 = .ok (.iconst 0, 1) := by decide +kernel
theorem d_X3_keepsKinds_1 : decode cX3_keepsKinds 1 = .ok (.istore_n 2, 1) := by decide +kernel
theorem d_X3_keepsKinds_2 : decode cX3_keepsKinds 2 = .ok (.iconst 0, 1) := by decide +kernel
theorem d_X3_keepsKinds_3 : decode cX3_keepsKinds 3 = .ok (.istore_n 3, 1) := by decide +kernel
theorem d_X3_keepsKinds_4 : decode cX3_keepsKinds 4 = .ok (.iload_n 3, 1) := by decide +kernel
theorem d_X3_keepsKinds_5 : decode cX3_keepsKinds 5 = .ok (.aload_n 1, 1) := by decide +kernel
theorem d_X3_keepsKinds_6 : decode cX3_keepsKinds 6 = .ok (.getfield 34, 3) := by decide +kernel
theorem d_X3_keepsKinds_9 : decode cX3_keepsKinds 9 = .ok (.if_icmp .ge 65, 3) := by decide +kernel
theorem d_X3_keepsKinds_12 : decode cX3_keepsKinds 12 = .ok (.aload_n 0, 1) := by decide +kernel
theorem d_X3_keepsKinds_13 : decode cX3_keepsKinds 13 = .ok (.aload_n 0, 1) := by decide +kernel
theorem d_X3_keepsKinds_14 : decode cX3_keepsKinds 14 = .ok (.getfield 9, 3) := by decide +kernel
theorem d_X3_keepsKinds_17 : decode cX3_keepsKinds 17 = .ok (.iload_n 3, 1) := by decide +kernel
theorem d_X3_keepsKinds_18 : decode cX3_keepsKinds 18 = .ok (.invokevirtual 50, 3) := by decide +kernel
theorem d_X3_keepsKinds_21 : decode cX3_keepsKinds 21 = .ok (.istore 4, 2) := by decide +kernel
theorem d_X3_keepsKinds_23 : decode cX3_keepsKinds 23 = .ok (.aload_n 1, 1) := by decide +kernel
theorem d_X3_keepsKinds_24 : decode cX3_keepsKinds 24 = .ok (.getfield 54, 3) := by decide +kernel
theorem d_X3_keepsKinds_27 : decode cX3_keepsKinds 27 = .ok (.iload_n 3, 1) := by decide +kernel
theorem d_X3_keepsKinds_28 : decode cX3_keepsKinds 28 = .ok (.iaload, 1) := by decide +kernel
theorem d_X3_keepsKinds_29 : decode cX3_keepsKinds 29 = .ok (.istore 5, 2) := by decide +kernel
theorem d_X3_keepsKinds_31 : decode cX3_keepsKinds 31 = .ok (.iload 5, 2) := by decide +kernel
theorem d_X3_keepsKinds_33 : decode cX3_keepsKinds 33 = .ok (.iconst 1, 1) := by decide +kernel
theorem d_X3_keepsKinds_34 : decode cX3_keepsKinds 34 = .ok (.if_icmp .ne 12, 3) := by decide +kernel
theorem d_X3_keepsKinds_37 : decode cX3_keepsKinds 37 = .ok (.iload 4, 2) := by decide +kernel
theorem d_X3_keepsKinds_39 : decode cX3_keepsKinds 39 = .ok (.iload_n 2, 1) := by decide +kernel
theorem d_X3_keepsKinds_40 : decode cX3_keepsKinds 40 = .ok (.ineg, 1) := by decide +kernel
theorem d_X3_keepsKinds_41 : decode cX3_keepsKinds 41 = .ok (.if_icmp .eq 5, 3) := by decide +kernel
theorem d_X3_keepsKinds_44 : decode cX3_keepsKinds 44 = .ok (.iconst 0, 1) := by decide +kernel
theorem d_X3_keepsKinds_45 : decode cX3_keepsKinds 45 = .ok (.ireturn, 1) := by decide +kernel
theorem d_X3_keepsKinds_46 : decode cX3_keepsKinds 46 = .ok (.iload 5, 2) := by decide +kernel
theorem d_X3_keepsKinds_48 : decode cX3_keepsKinds 48 = .ok (.iconst 2, 1) := by decide +kernel
theorem d_X3_keepsKinds_49 : decode cX3_keepsKinds 49 = .ok (.if_icmp .ne 16, 3) := by decide +kernel
theorem d_X3_keepsKinds_52 : decode cX3_keepsKinds 52 = .ok (.iload 4, 2) := by decide +kernel
theorem d_X3_keepsKinds_54 : decode cX3_keepsKinds 54 = .ok (.iload_n 2, 1) := by decide +kernel
theorem d_X3_keepsKinds_55 : decode cX3_keepsKinds 55 = .ok (.isub, 1) := by decide +kernel
theorem d_X3_keepsKinds_56 : decode cX3_keepsKinds 56 = .ok (.invokestatic 57, 3) := by decide +kernel
theorem d_X3_keepsKinds_59 : decode cX3_keepsKinds 59 = .ok (.iconst 1, 1) := by decide +kernel
theorem d_X3_keepsKinds_60 : decode cX3_keepsKinds 60 = .ok (.if_icmp .le 5, 3) := by decide +kernel
theorem d_X3_keepsKinds_63 : decode cX3_keepsKinds 63 = .ok (.iconst 0, 1) := by decide +kernel
theorem d_X3_keepsKinds_64 : decode cX3_keepsKinds 64 = .ok (.ireturn, 1) := by decide +kernel
theorem d_X3_keepsKinds_65 : decode cX3_keepsKinds 65 = .ok (.iload 4, 2) := by decide +kernel
theorem d_X3_keepsKinds_67 : decode cX3_keepsKinds 67 = .ok (.istore_n 2, 1) := by decide +kernel
theorem d_X3_keepsKinds_68 : decode cX3_keepsKinds 68 = .ok (.iinc 3 1, 3) := by decide +kernel
theorem d_X3_keepsKinds_71 : decode cX3_keepsKinds 71 = .ok (.goto (-67), 3) := by decide +kernel
theorem d_X3_keepsKinds_74 : decode cX3_keepsKinds 74 = .ok (.iconst 1, 1) := by decide +kernel
theorem d_X3_keepsKinds_75 : decode cX3_keepsKinds 75 = .ok (.ireturn, 1) := by decide +kernel
theorem d_X3_weigh_0 : decode cX3_weigh 0 = .ok (.iconst 0, 1) := by decide +kernel
theorem d_X3_weigh_1 : decode cX3_weigh 1 = .ok (.istore_n 2, 1) := by decide +kernel
theorem d_X3_weigh_2 : decode cX3_weigh 2 = .ok (.iload_n 2, 1) := by decide +kernel
theorem d_X3_weigh_3 : decode cX3_weigh 3 = .ok (.aload_n 0, 1) := by decide +kernel
theorem d_X3_weigh_4 : decode cX3_weigh 4 = .ok (.getfield 9, 3) := by decide +kernel
theorem d_X3_weigh_7 : decode cX3_weigh 7 = .ok (.if_icmp .ge 100, 3) := by decide +kernel
theorem d_X3_weigh_10 : decode cX3_weigh 10 = .ok (.iconst 1, 1) := by decide +kernel
theorem d_X3_weigh_11 : decode cX3_weigh 11 = .ok (.istore_n 3, 1) := by decide +kernel
theorem d_X3_weigh_12 : decode cX3_weigh 12 = .ok (.iconst 0, 1) := by decide +kernel
theorem d_X3_weigh_13 : decode cX3_weigh 13 = .ok (.istore 4, 2) := by decide +kernel
theorem d_X3_weigh_15 : decode cX3_weigh 15 = .ok (.iconst 0, 1) := by decide +kernel
theorem d_X3_weigh_16 : decode cX3_weigh 16 = .ok (.istore 5, 2) := by decide +kernel
theorem d_X3_weigh_18 : decode cX3_weigh 18 = .ok (.iload 5, 2) := by decide +kernel
theorem d_X3_weigh_20 : decode cX3_weigh 20 = .ok (.aload_n 1, 1) := by decide +kernel
theorem d_X3_weigh_21 : decode cX3_weigh 21 = .ok (.getfield 34, 3) := by decide +kernel
theorem d_X3_weigh_24 : decode cX3_weigh 24 = .ok (.if_icmp .ge 53, 3) := by decide +kernel
theorem d_X3_weigh_27 : decode cX3_weigh 27 = .ok (.iload_n 3, 1) := by decide +kernel
theorem d_X3_weigh_28 : decode cX3_weigh 28 = .ok (.aload_n 1, 1) := by decide +kernel
theorem d_X3_weigh_29 : decode cX3_weigh 29 = .ok (.getfield 63, 3) := by decide +kernel
theorem d_X3_weigh_32 : decode cX3_weigh 32 = .ok (.iload 5, 2) := by decide +kernel
theorem d_X3_weigh_34 : decode cX3_weigh 34 = .ok (.bipush 7, 2) := by decide +kernel
theorem d_X3_weigh_36 : decode cX3_weigh 36 = .ok (.imul, 1) := by decide +kernel
theorem d_X3_weigh_37 : decode cX3_weigh 37 = .ok (.aload_n 0, 1) := by decide +kernel
theorem d_X3_weigh_38 : decode cX3_weigh 38 = .ok (.iload_n 2, 1) := by decide +kernel
theorem d_X3_weigh_39 : decode cX3_weigh 39 = .ok (.iload 5, 2) := by decide +kernel
theorem d_X3_weigh_41 : decode cX3_weigh 41 = .ok (.invokevirtual 64, 3) := by decide +kernel
theorem d_X3_weigh_44 : decode cX3_weigh 44 = .ok (.invokestatic 57, 3) := by decide +kernel
theorem d_X3_weigh_47 : decode cX3_weigh 47 = .ok (.iadd, 1) := by decide +kernel
theorem d_X3_weigh_48 : decode cX3_weigh 48 = .ok (.iaload, 1) := by decide +kernel
theorem d_X3_weigh_49 : decode cX3_weigh 49 = .ok (.imul, 1) := by decide +kernel
theorem d_X3_weigh_50 : decode cX3_weigh 50 = .ok (.istore_n 3, 1) := by decide +kernel
theorem d_X3_weigh_51 : decode cX3_weigh 51 = .ok (.iload 4, 2) := by decide +kernel
theorem d_X3_weigh_53 : decode cX3_weigh 53 = .ok (.aload_n 0, 1) := by decide +kernel
theorem d_X3_weigh_54 : decode cX3_weigh 54 = .ok (.iload_n 2, 1) := by decide +kernel
theorem d_X3_weigh_55 : decode cX3_weigh 55 = .ok (.iload 5, 2) := by decide +kernel
theorem d_X3_weigh_57 : decode cX3_weigh 57 = .ok (.invokevirtual 50, 3) := by decide +kernel
theorem d_X3_weigh_60 : decode cX3_weigh 60 = .ok (.aload_n 1, 1) := by decide +kernel
theorem d_X3_weigh_61 : decode cX3_weigh 61 = .ok (.getfield 67, 3) := by decide +kernel
theorem d_X3_weigh_64 : decode cX3_weigh 64 = .ok (.iload 5, 2) := by decide +kernel
theorem d_X3_weigh_66 : decode cX3_weigh 66 = .ok (.iaload, 1) := by decide +kernel
theorem d_X3_weigh_67 : decode cX3_weigh 67 = .ok (.imul, 1) := by decide +kernel
theorem d_X3_weigh_68 : decode cX3_weigh 68 = .ok (.iadd, 1) := by decide +kernel
theorem d_X3_weigh_69 : decode cX3_weigh 69 = .ok (.istore 4, 2) := by decide +kernel
theorem d_X3_weigh_71 : decode cX3_weigh 71 = .ok (.iinc 5 1, 3) := by decide +kernel
theorem d_X3_weigh_74 : decode cX3_weigh 74 = .ok (.goto (-56), 3) := by decide +kernel
theorem d_X3_weigh_77 : decode cX3_weigh 77 = .ok (.aload_n 0, 1) := by decide +kernel
theorem d_X3_weigh_78 : decode cX3_weigh 78 = .ok (.getfield 27, 3) := by decide +kernel
theorem d_X3_weigh_81 : decode cX3_weigh 81 = .ok (.iload_n 2, 1) := by decide +kernel
theorem d_X3_weigh_82 : decode cX3_weigh 82 = .ok (.iload_n 3, 1) := by decide +kernel
theorem d_X3_weigh_83 : decode cX3_weigh 83 = .ok (.iastore, 1) := by decide +kernel
theorem d_X3_weigh_84 : decode cX3_weigh 84 = .ok (.aload_n 0, 1) := by decide +kernel
theorem d_X3_weigh_85 : decode cX3_weigh 85 = .ok (.getfield 31, 3) := by decide +kernel
theorem d_X3_weigh_88 : decode cX3_weigh 88 = .ok (.iload_n 2, 1) := by decide +kernel
theorem d_X3_weigh_89 : decode cX3_weigh 89 = .ok (.iload 4, 2) := by decide +kernel
theorem d_X3_weigh_91 : decode cX3_weigh 91 = .ok (.ifCond .eq 7, 3) := by decide +kernel
theorem d_X3_weigh_94 : decode cX3_weigh 94 = .ok (.iconst 1, 1) := by decide +kernel
theorem d_X3_weigh_95 : decode cX3_weigh 95 = .ok (.goto 4, 3) := by decide +kernel
theorem d_X3_weigh_98 : decode cX3_weigh 98 = .ok (.iconst 0, 1) := by decide +kernel
theorem d_X3_weigh_99 : decode cX3_weigh 99 = .ok (.i2b, 1) := by decide +kernel
theorem d_X3_weigh_100 : decode cX3_weigh 100 = .ok (.bastore, 1) := by decide +kernel
theorem d_X3_weigh_101 : decode cX3_weigh 101 = .ok (.iinc 2 1, 3) := by decide +kernel
theorem d_X3_weigh_104 : decode cX3_weigh 104 = .ok (.goto (-102), 3) := by decide +kernel
theorem d_X3_weigh_107 : decode cX3_weigh 107 = .ok (.aload_n 0, 1) := by decide +kernel
theorem d_X3_weigh_108 : decode cX3_weigh 108 = .ok (.iconst 1, 1) := by decide +kernel
theorem d_X3_weigh_109 : decode cX3_weigh 109 = .ok (.putfield 15, 3) := by decide +kernel
theorem d_X3_weigh_112 : decode cX3_weigh 112 = .ok (.return_, 1) := by decide +kernel
theorem d_X3_isGone_0 : decode cX3_isGone 0 = .ok (.aload_n 0, 1) := by decide +kernel
theorem d_X3_isGone_1 : decode cX3_isGone 1 = .ok (.getfield 31, 3) := by decide +kernel
theorem d_X3_isGone_4 : decode cX3_isGone 4 = .ok (.iload_n 1, 1) := by decide +kernel
theorem d_X3_isGone_5 : decode cX3_isGone 5 = .ok (.baload, 1) := by decide +kernel
theorem d_X3_isGone_6 : decode cX3_isGone 6 = .ok (.ifCond .ne 12, 3) := by decide +kernel
theorem d_X3_isGone_9 : decode cX3_isGone 9 = .ok (.aload_n 0, 1) := by decide +kernel
theorem d_X3_isGone_10 : decode cX3_isGone 10 = .ok (.getfield 27, 3) := by decide +kernel
theorem d_X3_isGone_13 : decode cX3_isGone 13 = .ok (.iload_n 1, 1) := by decide +kernel
theorem d_X3_isGone_14 : decode cX3_isGone 14 = .ok (.iaload, 1) := by decide +kernel
theorem d_X3_isGone_15 : decode cX3_isGone 15 = .ok (.ifCond .ne 7, 3) := by decide +kernel
theorem d_X3_isGone_18 : decode cX3_isGone 18 = .ok (.iconst 1, 1) := by decide +kernel
theorem d_X3_isGone_19 : decode cX3_isGone 19 = .ok (.goto 4, 3) := by decide +kernel
theorem d_X3_isGone_22 : decode cX3_isGone 22 = .ok (.iconst 0, 1) := by decide +kernel
theorem d_X3_isGone_23 : decode cX3_isGone 23 = .ok (.ireturn, 1) := by decide +kernel
theorem d_X3_orderOf_0 : decode cX3_orderOf 0 = .ok (.aload_n 0, 1) := by decide +kernel
theorem d_X3_orderOf_1 : decode cX3_orderOf 1 = .ok (.getfield 19, 3) := by decide +kernel
theorem d_X3_orderOf_4 : decode cX3_orderOf 4 = .ok (.iload_n 1, 1) := by decide +kernel
theorem d_X3_orderOf_5 : decode cX3_orderOf 5 = .ok (.iconst 5, 1) := by decide +kernel
theorem d_X3_orderOf_6 : decode cX3_orderOf 6 = .ok (.imul, 1) := by decide +kernel
theorem d_X3_orderOf_7 : decode cX3_orderOf 7 = .ok (.iload_n 2, 1) := by decide +kernel
theorem d_X3_orderOf_8 : decode cX3_orderOf 8 = .ok (.iadd, 1) := by decide +kernel
theorem d_X3_orderOf_9 : decode cX3_orderOf 9 = .ok (.baload, 1) := by decide +kernel
theorem d_X3_orderOf_10 : decode cX3_orderOf 10 = .ok (.ireturn, 1) := by decide +kernel
theorem d_X3_changeOf_0 : decode cX3_changeOf 0 = .ok (.iload_n 1, 1) := by decide +kernel
theorem d_X3_changeOf_1 : decode cX3_changeOf 1 = .ok (.iconst 5, 1) := by decide +kernel
theorem d_X3_changeOf_2 : decode cX3_changeOf 2 = .ok (.imul, 1) := by decide +kernel
theorem d_X3_changeOf_3 : decode cX3_changeOf 3 = .ok (.iload_n 2, 1) := by decide +kernel
theorem d_X3_changeOf_4 : decode cX3_changeOf 4 = .ok (.iadd, 1) := by decide +kernel
theorem d_X3_changeOf_5 : decode cX3_changeOf 5 = .ok (.istore_n 3, 1) := by decide +kernel
theorem d_X3_changeOf_6 : decode cX3_changeOf 6 = .ok (.iload_n 2, 1) := by decide +kernel
theorem d_X3_changeOf_7 : decode cX3_changeOf 7 = .ok (.ifCond .ne 12, 3) := by decide +kernel
theorem d_X3_changeOf_10 : decode cX3_changeOf 10 = .ok (.aload_n 0, 1) := by decide +kernel
theorem d_X3_changeOf_11 : decode cX3_changeOf 11 = .ok (.getfield 19, 3) := by decide +kernel
theorem d_X3_changeOf_14 : decode cX3_changeOf 14 = .ok (.iload_n 3, 1) := by decide +kernel
theorem d_X3_changeOf_15 : decode cX3_changeOf 15 = .ok (.baload, 1) := by decide +kernel
theorem d_X3_changeOf_16 : decode cX3_changeOf 16 = .ok (.goto 18, 3) := by decide +kernel
theorem d_X3_changeOf_19 : decode cX3_changeOf 19 = .ok (.aload_n 0, 1) := by decide +kernel
theorem d_X3_changeOf_20 : decode cX3_changeOf 20 = .ok (.getfield 19, 3) := by decide +kernel
theorem d_X3_changeOf_23 : decode cX3_changeOf 23 = .ok (.iload_n 3, 1) := by decide +kernel
theorem d_X3_changeOf_24 : decode cX3_changeOf 24 = .ok (.baload, 1) := by decide +kernel
theorem d_X3_changeOf_25 : decode cX3_changeOf 25 = .ok (.aload_n 0, 1) := by decide +kernel
theorem d_X3_changeOf_26 : decode cX3_changeOf 26 = .ok (.getfield 19, 3) := by decide +kernel
theorem d_X3_changeOf_29 : decode cX3_changeOf 29 = .ok (.iload_n 3, 1) := by decide +kernel
theorem d_X3_changeOf_30 : decode cX3_changeOf 30 = .ok (.iconst 1, 1) := by decide +kernel
theorem d_X3_changeOf_31 : decode cX3_changeOf 31 = .ok (.isub, 1) := by decide +kernel
theorem d_X3_changeOf_32 : decode cX3_changeOf 32 = .ok (.baload, 1) := by decide +kernel
theorem d_X3_changeOf_33 : decode cX3_changeOf 33 = .ok (.isub, 1) := by decide +kernel
theorem d_X3_changeOf_34 : decode cX3_changeOf 34 = .ok (.ireturn, 1) := by decide +kernel
theorem d_X3_countChanges_0 : decode cX3_countChanges 0 = .ok (.iconst 0, 1) := by decide +kernel
theorem d_X3_countChanges_1 : decode cX3_countChanges 1 = .ok (.istore_n 3, 1) := by decide +kernel
theorem d_X3_countChanges_2 : decode cX3_countChanges 2 = .ok (.iconst 0, 1) := by decide +kernel
theorem d_X3_countChanges_3 : decode cX3_countChanges 3 = .ok (.istore 4, 2) := by decide +kernel
theorem d_X3_countChanges_5 : decode cX3_countChanges 5 = .ok (.iload 4, 2) := by decide +kernel
theorem d_X3_countChanges_7 : decode cX3_countChanges 7 = .ok (.iload_n 2, 1) := by decide +kernel
theorem d_X3_countChanges_8 : decode cX3_countChanges 8 = .ok (.if_icmp .ge 22, 3) := by decide +kernel
theorem d_X3_countChanges_11 : decode cX3_countChanges 11 = .ok (.aload_n 0, 1) := by decide +kernel
theorem d_X3_countChanges_12 : decode cX3_countChanges 12 = .ok (.iload_n 1, 1) := by decide +kernel
theorem d_X3_countChanges_13 : decode cX3_countChanges 13 = .ok (.iload 4, 2) := by decide +kernel
theorem d_X3_countChanges_15 : decode cX3_countChanges 15 = .ok (.invokevirtual 64, 3) := by decide +kernel
theorem d_X3_countChanges_18 : decode cX3_countChanges 18 = .ok (.ifCond .eq 6, 3) := by decide +kernel
theorem d_X3_countChanges_21 : decode cX3_countChanges 21 = .ok (.iinc 3 1, 3) := by decide +kernel
theorem d_X3_countChanges_24 : decode cX3_countChanges 24 = .ok (.iinc 4 1, 3) := by decide +kernel
theorem d_X3_countChanges_27 : decode cX3_countChanges 27 = .ok (.goto (-22), 3) := by decide +kernel
theorem d_X3_countChanges_30 : decode cX3_countChanges 30 = .ok (.iload_n 3, 1) := by decide +kernel
theorem d_X3_countChanges_31 : decode cX3_countChanges 31 = .ok (.ireturn, 1) := by decide +kernel
theorem d_X3_greatestOrder_0 : decode cX3_greatestOrder 0 = .ok (.iconst 0, 1) := by decide +kernel
theorem d_X3_greatestOrder_1 : decode cX3_greatestOrder 1 = .ok (.istore_n 3, 1) := by decide +kernel
theorem d_X3_greatestOrder_2 : decode cX3_greatestOrder 2 = .ok (.iconst 0, 1) := by decide +kernel
theorem d_X3_greatestOrder_3 : decode cX3_greatestOrder 3 = .ok (.istore 4, 2) := by decide +kernel
theorem d_X3_greatestOrder_5 : decode cX3_greatestOrder 5 = .ok (.iload 4, 2) := by decide +kernel
theorem d_X3_greatestOrder_7 : decode cX3_greatestOrder 7 = .ok (.iload_n 2, 1) := by decide +kernel
theorem d_X3_greatestOrder_8 : decode cX3_greatestOrder 8 = .ok (.if_icmp .ge 24, 3) := by decide +kernel
theorem d_X3_greatestOrder_11 : decode cX3_greatestOrder 11 = .ok (.iload_n 3, 1) := by decide +kernel
theorem d_X3_greatestOrder_12 : decode cX3_greatestOrder 12 = .ok (.aload_n 0, 1) := by decide +kernel
theorem d_X3_greatestOrder_13 : decode cX3_greatestOrder 13 = .ok (.iload_n 1, 1) := by decide +kernel
theorem d_X3_greatestOrder_14 : decode cX3_greatestOrder 14 = .ok (.iload 4, 2) := by decide +kernel
theorem d_X3_greatestOrder_16 : decode cX3_greatestOrder 16 = .ok (.invokevirtual 50, 3) := by decide +kernel
theorem d_X3_greatestOrder_19 : decode cX3_greatestOrder 19 = .ok (.invokestatic 57, 3) := by decide +kernel
theorem d_X3_greatestOrder_22 : decode cX3_greatestOrder 22 = .ok (.invokestatic 70, 3) := by decide +kernel
theorem d_X3_greatestOrder_25 : decode cX3_greatestOrder 25 = .ok (.istore_n 3, 1) := by decide +kernel
theorem d_X3_greatestOrder_26 : decode cX3_greatestOrder 26 = .ok (.iinc 4 1, 3) := by decide +kernel
theorem d_X3_greatestOrder_29 : decode cX3_greatestOrder 29 = .ok (.goto (-24), 3) := by decide +kernel
theorem d_X3_greatestOrder_32 : decode cX3_greatestOrder 32 = .ok (.iload_n 3, 1) := by decide +kernel
theorem d_X3_greatestOrder_33 : decode cX3_greatestOrder 33 = .ok (.ireturn, 1) := by decide +kernel
theorem d_X4_init_0 : decode cX4_init 0 = .ok (.aload_n 0, 1) := by decide +kernel
theorem d_X4_init_1 : decode cX4_init 1 = .ok (.invokespecial 3, 3) := by decide +kernel
theorem d_X4_init_4 : decode cX4_init 4 = .ok (.aload_n 0, 1) := by decide +kernel
theorem d_X4_init_5 : decode cX4_init 5 = .ok (.iconst 3, 1) := by decide +kernel
theorem d_X4_init_6 : decode cX4_init 6 = .ok (.putfield 9, 3) := by decide +kernel
theorem d_X4_init_9 : decode cX4_init 9 = .ok (.aload_n 0, 1) := by decide +kernel
theorem d_X4_init_10 : decode cX4_init 10 = .ok (.iconst 1, 1) := by decide +kernel
theorem d_X4_init_11 : decode cX4_init 11 = .ok (.putfield 15, 3) := by decide +kernel
theorem d_X4_init_14 : decode cX4_init 14 = .ok (.aload_n 0, 1) := by decide +kernel
theorem d_X4_init_15 : decode cX4_init 15 = .ok (.iconst 5, 1) := by decide +kernel
theorem d_X4_init_16 : decode cX4_init 16 = .ok (.newarray .int, 2) := by decide +kernel
theorem d_X4_init_18 : decode cX4_init 18 = .ok (.putfield 18, 3) := by decide +kernel
theorem d_X4_init_21 : decode cX4_init 21 = .ok (.aload_n 0, 1) := by decide +kernel
theorem d_X4_init_22 : decode cX4_init 22 = .ok (.iconst 5, 1) := by decide +kernel
theorem d_X4_init_23 : decode cX4_init 23 = .ok (.newarray .int, 2) := by decide +kernel
theorem d_X4_init_25 : decode cX4_init 25 = .ok (.putfield 22, 3) := by decide +kernel
theorem d_X4_init_28 : decode cX4_init 28 = .ok (.aload_n 0, 1) := by decide +kernel
theorem d_X4_init_29 : decode cX4_init 29 = .ok (.bipush 35, 2) := by decide +kernel
theorem d_X4_init_31 : decode cX4_init 31 = .ok (.newarray .int, 2) := by decide +kernel
theorem d_X4_init_33 : decode cX4_init 33 = .ok (.putfield 25, 3) := by decide +kernel
theorem d_X4_init_36 : decode cX4_init 36 = .ok (.aload_n 0, 1) := by decide +kernel
theorem d_X4_init_37 : decode cX4_init 37 = .ok (.sipush 2401, 3) := by decide +kernel
theorem d_X4_init_40 : decode cX4_init 40 = .ok (.newarray .byte, 2) := by decide +kernel
theorem d_X4_init_42 : decode cX4_init 42 = .ok (.putfield 28, 3) := by decide +kernel
theorem d_X4_init_45 : decode cX4_init 45 = .ok (.aload_n 0, 1) := by decide +kernel
theorem d_X4_init_46 : decode cX4_init 46 = .ok (.getfield 25, 3) := by decide +kernel
theorem d_X4_init_49 : decode cX4_init 49 = .ok (.iconst 1, 1) := by decide +kernel
theorem d_X4_init_50 : decode cX4_init 50 = .ok (.invokestatic 32, 3) := by decide +kernel
theorem d_X4_init_53 : decode cX4_init 53 = .ok (.return_, 1) := by decide +kernel
theorem d_X4_begin_0 : decode cX4_begin 0 = .ok (.aload_n 0, 1) := by decide +kernel
theorem d_X4_begin_1 : decode cX4_begin 1 = .ok (.iload_n 1, 1) := by decide +kernel
theorem d_X4_begin_2 : decode cX4_begin 2 = .ok (.putfield 9, 3) := by decide +kernel
theorem d_X4_begin_5 : decode cX4_begin 5 = .ok (.aload_n 0, 1) := by decide +kernel
theorem d_X4_begin_6 : decode cX4_begin 6 = .ok (.iload_n 2, 1) := by decide +kernel
theorem d_X4_begin_7 : decode cX4_begin 7 = .ok (.putfield 15, 3) := by decide +kernel
theorem d_X4_begin_10 : decode cX4_begin 10 = .ok (.aload_n 0, 1) := by decide +kernel
theorem d_X4_begin_11 : decode cX4_begin 11 = .ok (.getfield 18, 3) := by decide +kernel
theorem d_X4_begin_14 : decode cX4_begin 14 = .ok (.iconst 0, 1) := by decide +kernel
theorem d_X4_begin_15 : decode cX4_begin 15 = .ok (.invokestatic 32, 3) := by decide +kernel
theorem d_X4_begin_18 : decode cX4_begin 18 = .ok (.aload_n 0, 1) := by decide +kernel
theorem d_X4_begin_19 : decode cX4_begin 19 = .ok (.getfield 22, 3) := by decide +kernel
theorem d_X4_begin_22 : decode cX4_begin 22 = .ok (.iconst 0, 1) := by decide +kernel
theorem d_X4_begin_23 : decode cX4_begin 23 = .ok (.invokestatic 32, 3) := by decide +kernel
theorem d_X4_begin_26 : decode cX4_begin 26 = .ok (.aload_n 0, 1) := by decide +kernel
theorem d_X4_begin_27 : decode cX4_begin 27 = .ok (.getfield 25, 3) := by decide +kernel
theorem d_X4_begin_30 : decode cX4_begin 30 = .ok (.iconst 1, 1) := by decide +kernel
theorem d_X4_begin_31 : decode cX4_begin 31 = .ok (.invokestatic 32, 3) := by decide +kernel
theorem d_X4_begin_34 : decode cX4_begin 34 = .ok (.aload_n 0, 1) := by decide +kernel
theorem d_X4_begin_35 : decode cX4_begin 35 = .ok (.invokevirtual 38, 3) := by decide +kernel
theorem d_X4_begin_38 : decode cX4_begin 38 = .ok (.return_, 1) := by decide +kernel
theorem d_X4_unmark_0 : decode cX4_unmark 0 = .ok (.aload_n 0, 1) := by decide +kernel
theorem d_X4_unmark_1 : decode cX4_unmark 1 = .ok (.getfield 28, 3) := by decide +kernel
theorem d_X4_unmark_4 : decode cX4_unmark 4 = .ok (.iconst 0, 1) := by decide +kernel
theorem d_X4_unmark_5 : decode cX4_unmark 5 = .ok (.invokestatic 41, 3) := by decide +kernel
theorem d_X4_unmark_8 : decode cX4_unmark 8 = .ok (.return_, 1) := by decide +kernel
theorem d_X4_copyFrom_0 : decode cX4_copyFrom 0 = .ok (.aload_n 0, 1) := by decide +kernel
theorem d_X4_copyFrom_1 : decode cX4_copyFrom 1 = .ok (.aload_n 1, 1) := by decide +kernel
theorem d_X4_copyFrom_2 : decode cX4_copyFrom 2 = .ok (.getfield 9, 3) := by decide +kernel
theorem d_X4_copyFrom_5 : decode cX4_copyFrom 5 = .ok (.putfield 9, 3) := by decide +kernel
theorem d_X4_copyFrom_8 : decode cX4_copyFrom 8 = .ok (.aload_n 0, 1) := by decide +kernel
theorem d_X4_copyFrom_9 : decode cX4_copyFrom 9 = .ok (.aload_n 1, 1) := by decide +kernel
theorem d_X4_copyFrom_10 : decode cX4_copyFrom 10 = .ok (.getfield 15, 3) := by decide +kernel
theorem d_X4_copyFrom_13 : decode cX4_copyFrom 13 = .ok (.putfield 15, 3) := by decide +kernel
theorem d_X4_copyFrom_16 : decode cX4_copyFrom 16 = .ok (.aload_n 1, 1) := by decide +kernel
theorem d_X4_copyFrom_17 : decode cX4_copyFrom 17 = .ok (.getfield 18, 3) := by decide +kernel
theorem d_X4_copyFrom_20 : decode cX4_copyFrom 20 = .ok (.iconst 0, 1) := by decide +kernel
theorem d_X4_copyFrom_21 : decode cX4_copyFrom 21 = .ok (.aload_n 0, 1) := by decide +kernel
theorem d_X4_copyFrom_22 : decode cX4_copyFrom 22 = .ok (.getfield 18, 3) := by decide +kernel
theorem d_X4_copyFrom_25 : decode cX4_copyFrom 25 = .ok (.iconst 0, 1) := by decide +kernel
theorem d_X4_copyFrom_26 : decode cX4_copyFrom 26 = .ok (.aload_n 0, 1) := by decide +kernel
theorem d_X4_copyFrom_27 : decode cX4_copyFrom 27 = .ok (.getfield 18, 3) := by decide +kernel
theorem d_X4_copyFrom_30 : decode cX4_copyFrom 30 = .ok (.arraylength, 1) := by decide +kernel
theorem d_X4_copyFrom_31 : decode cX4_copyFrom 31 = .ok (.invokestatic 44, 3) := by decide +kernel
theorem d_X4_copyFrom_34 : decode cX4_copyFrom 34 = .ok (.aload_n 1, 1) := by decide +kernel
theorem d_X4_copyFrom_35 : decode cX4_copyFrom 35 = .ok (.getfield 22, 3) := by decide +kernel
theorem d_X4_copyFrom_38 : decode cX4_copyFrom 38 = .ok (.iconst 0, 1) := by decide +kernel
theorem d_X4_copyFrom_39 : decode cX4_copyFrom 39 = .ok (.aload_n 0, 1) := by decide +kernel
theorem d_X4_copyFrom_40 : decode cX4_copyFrom 40 = .ok (.getfield 22, 3) := by decide +kernel
theorem d_X4_copyFrom_43 : decode cX4_copyFrom 43 = .ok (.iconst 0, 1) := by decide +kernel
theorem d_X4_copyFrom_44 : decode cX4_copyFrom 44 = .ok (.aload_n 0, 1) := by decide +kernel
theorem d_X4_copyFrom_45 : decode cX4_copyFrom 45 = .ok (.getfield 22, 3) := by decide +kernel
theorem d_X4_copyFrom_48 : decode cX4_copyFrom 48 = .ok (.arraylength, 1) := by decide +kernel
theorem d_X4_copyFrom_49 : decode cX4_copyFrom 49 = .ok (.invokestatic 44, 3) := by decide +kernel
theorem d_X4_copyFrom_52 : decode cX4_copyFrom 52 = .ok (.aload_n 1, 1) := by decide +kernel
theorem d_X4_copyFrom_53 : decode cX4_copyFrom 53 = .ok (.getfield 25, 3) := by decide +kernel
theorem d_X4_copyFrom_56 : decode cX4_copyFrom 56 = .ok (.iconst 0, 1) := by decide +kernel
theorem d_X4_copyFrom_57 : decode cX4_copyFrom 57 = .ok (.aload_n 0, 1) := by decide +kernel
theorem d_X4_copyFrom_58 : decode cX4_copyFrom 58 = .ok (.getfield 25, 3) := by decide +kernel
theorem d_X4_copyFrom_61 : decode cX4_copyFrom 61 = .ok (.iconst 0, 1) := by decide +kernel
theorem d_X4_copyFrom_62 : decode cX4_copyFrom 62 = .ok (.aload_n 0, 1) := by decide +kernel
theorem d_X4_copyFrom_63 : decode cX4_copyFrom 63 = .ok (.getfield 25, 3) := by decide +kernel
theorem d_X4_copyFrom_66 : decode cX4_copyFrom 66 = .ok (.arraylength, 1) := by decide +kernel
theorem d_X4_copyFrom_67 : decode cX4_copyFrom 67 = .ok (.invokestatic 44, 3) := by decide +kernel
theorem d_X4_copyFrom_70 : decode cX4_copyFrom 70 = .ok (.aload_n 1, 1) := by decide +kernel
theorem d_X4_copyFrom_71 : decode cX4_copyFrom 71 = .ok (.getfield 28, 3) := by decide +kernel
theorem d_X4_copyFrom_74 : decode cX4_copyFrom 74 = .ok (.iconst 0, 1) := by decide +kernel
theorem d_X4_copyFrom_75 : decode cX4_copyFrom 75 = .ok (.aload_n 0, 1) := by decide +kernel
theorem d_X4_copyFrom_76 : decode cX4_copyFrom 76 = .ok (.getfield 28, 3) := by decide +kernel
theorem d_X4_copyFrom_79 : decode cX4_copyFrom 79 = .ok (.iconst 0, 1) := by decide +kernel
theorem d_X4_copyFrom_80 : decode cX4_copyFrom 80 = .ok (.aload_n 0, 1) := by decide +kernel
theorem d_X4_copyFrom_81 : decode cX4_copyFrom 81 = .ok (.getfield 28, 3) := by decide +kernel
theorem d_X4_copyFrom_84 : decode cX4_copyFrom 84 = .ok (.arraylength, 1) := by decide +kernel
theorem d_X4_copyFrom_85 : decode cX4_copyFrom 85 = .ok (.invokestatic 44, 3) := by decide +kernel
theorem d_X4_copyFrom_88 : decode cX4_copyFrom 88 = .ok (.return_, 1) := by decide +kernel
theorem d_X4_firstWished_0 : decode cX4_firstWished 0 = .ok (.iconst 0, 1) := by decide +kernel
theorem d_X4_firstWished_1 : decode cX4_firstWished 1 = .ok (.istore_n 2, 1) := by decide +kernel
theorem d_X4_firstWished_2 : decode cX4_firstWished 2 = .ok (.iload_n 2, 1) := by decide +kernel
theorem d_X4_firstWished_3 : decode cX4_firstWished 3 = .ok (.iload_n 1, 1) := by decide +kernel
theorem d_X4_firstWished_4 : decode cX4_firstWished 4 = .ok (.if_icmp .ge 21, 3) := by decide +kernel
theorem d_X4_firstWished_7 : decode cX4_firstWished 7 = .ok (.aload_n 0, 1) := by decide +kernel
theorem d_X4_firstWished_8 : decode cX4_firstWished 8 = .ok (.getfield 28, 3) := by decide +kernel
theorem d_X4_firstWished_11 : decode cX4_firstWished 11 = .ok (.iload_n 2, 1) := by decide +kernel
theorem d_X4_firstWished_12 : decode cX4_firstWished 12 = .ok (.baload, 1) := by decide +kernel
theorem d_X4_firstWished_13 : decode cX4_firstWished 13 = .ok (.iconst 1, 1) := by decide +kernel
theorem d_X4_firstWished_14 : decode cX4_firstWished 14 = .ok (.if_icmp .ne 5, 3) := by decide +kernel
theorem d_X4_firstWished_17 : decode cX4_firstWished 17 = .ok (.iload_n 2, 1) := by decide +kernel
theorem d_X4_firstWished_18 : decode cX4_firstWished 18 = .ok (.ireturn, 1) := by decide +kernel
theorem d_X4_firstWished_19 : decode cX4_firstWished 19 = .ok (.iinc 2 1, 3) := by decide +kernel
theorem d_X4_firstWished_22 : decode cX4_firstWished 22 = .ok (.goto (-20), 3) := by decide +kernel
theorem d_X4_firstWished_25 : decode cX4_firstWished 25 = .ok (.iconst (-1), 1) := by decide +kernel
theorem d_X4_firstWished_26 : decode cX4_firstWished 26 = .ok (.ireturn, 1) := by decide +kernel
theorem d_X4_countMarks_0 : decode cX4_countMarks 0 = .ok (.iconst 0, 1) := by decide +kernel
theorem d_X4_countMarks_1 : decode cX4_countMarks 1 = .ok (.istore_n 3, 1) := by decide +kernel
theorem d_X4_countMarks_2 : decode cX4_countMarks 2 = .ok (.iconst 0, 1) := by decide +kernel
theorem d_X4_countMarks_3 : decode cX4_countMarks 3 = .ok (.istore 4, 2) := by decide +kernel
theorem d_X4_countMarks_5 : decode cX4_countMarks 5 = .ok (.iload 4, 2) := by decide +kernel
theorem d_X4_countMarks_7 : decode cX4_countMarks 7 = .ok (.iload_n 2, 1) := by decide +kernel
theorem d_X4_countMarks_8 : decode cX4_countMarks 8 = .ok (.if_icmp .ge 23, 3) := by decide +kernel
theorem d_X4_countMarks_11 : decode cX4_countMarks 11 = .ok (.aload_n 0, 1) := by decide +kernel
theorem d_X4_countMarks_12 : decode cX4_countMarks 12 = .ok (.getfield 28, 3) := by decide +kernel
theorem d_X4_countMarks_15 : decode cX4_countMarks 15 = .ok (.iload 4, 2) := by decide +kernel
theorem d_X4_countMarks_17 : decode cX4_countMarks 17 = .ok (.baload, 1) := by decide +kernel
theorem d_X4_countMarks_18 : decode cX4_countMarks 18 = .ok (.iload_n 1, 1) := by decide +kernel
theorem d_X4_countMarks_19 : decode cX4_countMarks 19 = .ok (.if_icmp .ne 6, 3) := by decide +kernel
theorem d_X4_countMarks_22 : decode cX4_countMarks 22 = .ok (.iinc 3 1, 3) := by decide +kernel
theorem d_X4_countMarks_25 : decode cX4_countMarks 25 = .ok (.iinc 4 1, 3) := by decide +kernel
theorem d_X4_countMarks_28 : decode cX4_countMarks 28 = .ok (.goto (-23), 3) := by decide +kernel
theorem d_X4_countMarks_31 : decode cX4_countMarks 31 = .ok (.iload_n 3, 1) := by decide +kernel
theorem d_X4_countMarks_32 : decode cX4_countMarks 32 = .ok (.ireturn, 1) := by decide +kernel
theorem d_X5_init_0 : decode cX5_init 0 = .ok (.aload_n 0, 1) := by decide +kernel
theorem d_X5_init_1 : decode cX5_init 1 = .ok (.invokespecial 3, 3) := by decide +kernel
theorem d_X5_init_4 : decode cX5_init 4 = .ok (.aload_n 0, 1) := by decide +kernel
theorem d_X5_init_5 : decode cX5_init 5 = .ok (.iconst 0, 1) := by decide +kernel
theorem d_X5_init_6 : decode cX5_init 6 = .ok (.putfield 9, 3) := by decide +kernel
theorem d_X5_init_9 : decode cX5_init 9 = .ok (.aload_n 0, 1) := by decide +kernel
theorem d_X5_init_10 : decode cX5_init 10 = .ok (.iconst 0, 1) := by decide +kernel
theorem d_X5_init_11 : decode cX5_init 11 = .ok (.putfield 15, 3) := by decide +kernel
theorem d_X5_init_14 : decode cX5_init 14 = .ok (.aload_n 0, 1) := by decide +kernel
theorem d_X5_init_15 : decode cX5_init 15 = .ok (.iconst 1, 1) := by decide +kernel
theorem d_X5_init_16 : decode cX5_init 16 = .ok (.putfield 19, 3) := by decide +kernel
theorem d_X5_init_19 : decode cX5_init 19 = .ok (.aload_n 0, 1) := by decide +kernel
theorem d_X5_init_20 : decode cX5_init 20 = .ok (.iconst 0, 1) := by decide +kernel
theorem d_X5_init_21 : decode cX5_init 21 = .ok (.putfield 22, 3) := by decide +kernel
theorem d_X5_init_24 : decode cX5_init 24 = .ok (.aload_n 0, 1) := by decide +kernel
theorem d_X5_init_25 : decode cX5_init 25 = .ok (.iconst (-1), 1) := by decide +kernel
theorem d_X5_init_26 : decode cX5_init 26 = .ok (.putfield 25, 3) := by decide +kernel
theorem d_X5_init_29 : decode cX5_init 29 = .ok (.aload_n 0, 1) := by decide +kernel
theorem d_X5_init_30 : decode cX5_init 30 = .ok (.bipush 6, 2) := by decide +kernel
theorem d_X5_init_32 : decode cX5_init 32 = .ok (.sipush 512, 3) := by decide +kernel
theorem d_X5_init_35 : decode cX5_init 35 = .ok (.multianewarray 28 2, 4) := by decide +kernel
theorem d_X5_init_39 : decode cX5_init 39 = .ok (.putfield 30, 3) := by decide +kernel
theorem d_X5_init_42 : decode cX5_init 42 = .ok (.aload_n 0, 1) := by decide +kernel
theorem d_X5_init_43 : decode cX5_init 43 = .ok (.bipush 6, 2) := by decide +kernel
theorem d_X5_init_45 : decode cX5_init 45 = .ok (.sipush 512, 3) := by decide +kernel
theorem d_X5_init_48 : decode cX5_init 48 = .ok (.multianewarray 28 2, 4) := by decide +kernel
theorem d_X5_init_52 : decode cX5_init 52 = .ok (.putfield 33, 3) := by decide +kernel
theorem d_X5_init_55 : decode cX5_init 55 = .ok (.aload_n 0, 1) := by decide +kernel
theorem d_X5_init_56 : decode cX5_init 56 = .ok (.bipush 48, 2) := by decide +kernel
theorem d_X5_init_58 : decode cX5_init 58 = .ok (.newarray .int, 2) := by decide +kernel
theorem d_X5_init_60 : decode cX5_init 60 = .ok (.putfield 36, 3) := by decide +kernel
theorem d_X5_init_63 : decode cX5_init 63 = .ok (.return_, 1) := by decide +kernel
theorem d_X5_build_0 : decode cX5_build 0 = .ok (.aload_n 0, 1) := by decide +kernel
theorem d_X5_build_1 : decode cX5_build 1 = .ok (.aload_n 1, 1) := by decide +kernel
theorem d_X5_build_2 : decode cX5_build 2 = .ok (.invokevirtual 40, 3) := by decide +kernel
theorem d_X5_build_5 : decode cX5_build 5 = .ok (.putfield 15, 3) := by decide +kernel
theorem d_X5_build_8 : decode cX5_build 8 = .ok (.aload_n 0, 1) := by decide +kernel
theorem d_X5_build_9 : decode cX5_build 9 = .ok (.aload_n 1, 1) := by decide +kernel
theorem d_X5_build_10 : decode cX5_build 10 = .ok (.getfield 46, 3) := by decide +kernel
theorem d_X5_build_13 : decode cX5_build 13 = .ok (.putfield 19, 3) := by decide +kernel
theorem d_X5_build_16 : decode cX5_build 16 = .ok (.aload_n 0, 1) := by decide +kernel
theorem d_X5_build_17 : decode cX5_build 17 = .ok (.iload_n 2, 1) := by decide +kernel
theorem d_X5_build_18 : decode cX5_build 18 = .ok (.putfield 22, 3) := by decide +kernel
theorem d_X5_build_21 : decode cX5_build 21 = .ok (.iconst 0, 1) := by decide +kernel
theorem d_X5_build_22 : decode cX5_build 22 = .ok (.istore_n 3, 1) := by decide +kernel
theorem d_X5_build_23 : decode cX5_build 23 = .ok (.iload_n 3, 1) := by decide +kernel
theorem d_X5_build_24 : decode cX5_build 24 = .ok (.aload_n 0, 1) := by decide +kernel
theorem d_X5_build_25 : decode cX5_build 25 = .ok (.getfield 22, 3) := by decide +kernel
theorem d_X5_build_28 : decode cX5_build 28 = .ok (.if_icmp .gt 43, 3) := by decide +kernel
theorem d_X5_build_31 : decode cX5_build 31 = .ok (.iconst 0, 1) := by decide +kernel
theorem d_X5_build_32 : decode cX5_build 32 = .ok (.istore 4, 2) := by decide +kernel
theorem d_X5_build_34 : decode cX5_build 34 = .ok (.iload 4, 2) := by decide +kernel
theorem d_X5_build_36 : decode cX5_build 36 = .ok (.aload_n 0, 1) := by decide +kernel
theorem d_X5_build_37 : decode cX5_build 37 = .ok (.getfield 15, 3) := by decide +kernel
theorem d_X5_build_40 : decode cX5_build 40 = .ok (.if_icmp .ge 25, 3) := by decide +kernel
theorem d_X5_build_43 : decode cX5_build 43 = .ok (.aload_n 0, 1) := by decide +kernel
theorem d_X5_build_44 : decode cX5_build 44 = .ok (.getfield 30, 3) := by decide +kernel
theorem d_X5_build_47 : decode cX5_build 47 = .ok (.iload_n 3, 1) := by decide +kernel
theorem d_X5_build_48 : decode cX5_build 48 = .ok (.aaload, 1) := by decide +kernel
theorem d_X5_build_49 : decode cX5_build 49 = .ok (.iload 4, 2) := by decide +kernel
theorem d_X5_build_51 : decode cX5_build 51 = .ok (.aload_n 1, 1) := by decide +kernel
theorem d_X5_build_52 : decode cX5_build 52 = .ok (.iload_n 3, 1) := by decide +kernel
theorem d_X5_build_53 : decode cX5_build 53 = .ok (.iload 4, 2) := by decide +kernel
theorem d_X5_build_55 : decode cX5_build 55 = .ok (.invokevirtual 47, 3) := by decide +kernel
theorem d_X5_build_58 : decode cX5_build 58 = .ok (.iastore, 1) := by decide +kernel
theorem d_X5_build_59 : decode cX5_build 59 = .ok (.iinc 4 1, 3) := by decide +kernel
theorem d_X5_build_62 : decode cX5_build 62 = .ok (.goto (-28), 3) := by decide +kernel
theorem d_X5_build_65 : decode cX5_build 65 = .ok (.iinc 3 1, 3) := by decide +kernel
theorem d_X5_build_68 : decode cX5_build 68 = .ok (.goto (-45), 3) := by decide +kernel
theorem d_X5_build_71 : decode cX5_build 71 = .ok (.return_, 1) := by decide +kernel
theorem d_X5_trackChief_0 : decode cX5_trackChief 0 = .ok (.aload_n 0, 1) := by decide +kernel
theorem d_X5_trackChief_1 : decode cX5_trackChief 1 = .ok (.getfield 30, 3) := by decide +kernel
theorem d_X5_trackChief_4 : decode cX5_trackChief 4 = .ok (.aload_n 0, 1) := by decide +kernel
theorem d_X5_trackChief_5 : decode cX5_trackChief 5 = .ok (.getfield 22, 3) := by decide +kernel
theorem d_X5_trackChief_8 : decode cX5_trackChief 8 = .ok (.aaload, 1) := by decide +kernel
theorem d_X5_trackChief_9 : decode cX5_trackChief 9 = .ok (.iconst 0, 1) := by decide +kernel
theorem d_X5_trackChief_10 : decode cX5_trackChief 10 = .ok (.invokestatic 51, 3) := by decide +kernel
theorem d_X5_trackChief_13 : decode cX5_trackChief 13 = .ok (.iconst 0, 1) := by decide +kernel
theorem d_X5_trackChief_14 : decode cX5_trackChief 14 = .ok (.istore_n 3, 1) := by decide +kernel
theorem d_X5_trackChief_15 : decode cX5_trackChief 15 = .ok (.iload_n 3, 1) := by decide +kernel
theorem d_X5_trackChief_16 : decode cX5_trackChief 16 = .ok (.aload_n 0, 1) := by decide +kernel
theorem d_X5_trackChief_17 : decode cX5_trackChief 17 = .ok (.getfield 22, 3) := by decide +kernel
theorem d_X5_trackChief_20 : decode cX5_trackChief 20 = .ok (.if_icmp .ge 43, 3) := by decide +kernel
theorem d_X5_trackChief_23 : decode cX5_trackChief 23 = .ok (.iload_n 2, 1) := by decide +kernel
theorem d_X5_trackChief_24 : decode cX5_trackChief 24 = .ok (.iconst (-1), 1) := by decide +kernel
theorem d_X5_trackChief_25 : decode cX5_trackChief 25 = .ok (.if_icmp .eq 38, 3) := by decide +kernel
theorem d_X5_trackChief_28 : decode cX5_trackChief 28 = .ok (.aload_n 0, 1) := by decide +kernel
theorem d_X5_trackChief_29 : decode cX5_trackChief 29 = .ok (.iload_n 3, 1) := by decide +kernel
theorem d_X5_trackChief_30 : decode cX5_trackChief 30 = .ok (.aload_n 1, 1) := by decide +kernel
theorem d_X5_trackChief_31 : decode cX5_trackChief 31 = .ok (.iload_n 2, 1) := by decide +kernel
theorem d_X5_trackChief_32 : decode cX5_trackChief 32 = .ok (.iload_n 3, 1) := by decide +kernel
theorem d_X5_trackChief_33 : decode cX5_trackChief 33 = .ok (.invokevirtual 57, 3) := by decide +kernel
theorem d_X5_trackChief_36 : decode cX5_trackChief 36 = .ok (.aload_n 0, 1) := by decide +kernel
theorem d_X5_trackChief_37 : decode cX5_trackChief 37 = .ok (.getfield 30, 3) := by decide +kernel
theorem d_X5_trackChief_40 : decode cX5_trackChief 40 = .ok (.aload_n 0, 1) := by decide +kernel
theorem d_X5_trackChief_41 : decode cX5_trackChief 41 = .ok (.getfield 22, 3) := by decide +kernel
theorem d_X5_trackChief_44 : decode cX5_trackChief 44 = .ok (.aaload, 1) := by decide +kernel
theorem d_X5_trackChief_45 : decode cX5_trackChief 45 = .ok (.aload_n 0, 1) := by decide +kernel
theorem d_X5_trackChief_46 : decode cX5_trackChief 46 = .ok (.getfield 30, 3) := by decide +kernel
theorem d_X5_trackChief_49 : decode cX5_trackChief 49 = .ok (.aload_n 0, 1) := by decide +kernel
theorem d_X5_trackChief_50 : decode cX5_trackChief 50 = .ok (.getfield 22, 3) := by decide +kernel
theorem d_X5_trackChief_53 : decode cX5_trackChief 53 = .ok (.aaload, 1) := by decide +kernel
theorem d_X5_trackChief_54 : decode cX5_trackChief 54 = .ok (.invokevirtual 62, 3) := by decide +kernel
theorem d_X5_trackChief_57 : decode cX5_trackChief 57 = .ok (.iinc 3 1, 3) := by decide +kernel
theorem d_X5_trackChief_60 : decode cX5_trackChief 60 = .ok (.goto (-45), 3) := by decide +kernel
theorem d_X5_trackChief_63 : decode cX5_trackChief 63 = .ok (.return_, 1) := by decide +kernel
theorem d_X5_begin_0 : decode cX5_begin 0 = .ok (.iconst 0, 1) := by decide +kernel
theorem d_X5_begin_1 : decode cX5_begin 1 = .ok (.istore_n 1, 1) := by decide +kernel
theorem d_X5_begin_2 : decode cX5_begin 2 = .ok (.iload_n 1, 1) := by decide +kernel
theorem d_X5_begin_3 : decode cX5_begin 3 = .ok (.aload_n 0, 1) := by decide +kernel
theorem d_X5_begin_4 : decode cX5_begin 4 = .ok (.getfield 15, 3) := by decide +kernel
theorem d_X5_begin_7 : decode cX5_begin 7 = .ok (.if_icmp .ge 38, 3) := by decide +kernel
theorem d_X5_begin_10 : decode cX5_begin 10 = .ok (.aload_n 0, 1) := by decide +kernel
theorem d_X5_begin_11 : decode cX5_begin 11 = .ok (.getfield 33, 3) := by decide +kernel
theorem d_X5_begin_14 : decode cX5_begin 14 = .ok (.iconst 0, 1) := by decide +kernel
theorem d_X5_begin_15 : decode cX5_begin 15 = .ok (.aaload, 1) := by decide +kernel
theorem d_X5_begin_16 : decode cX5_begin 16 = .ok (.iload_n 1, 1) := by decide +kernel
theorem d_X5_begin_17 : decode cX5_begin 17 = .ok (.aload_n 0, 1) := by decide +kernel
theorem d_X5_begin_18 : decode cX5_begin 18 = .ok (.getfield 19, 3) := by decide +kernel
theorem d_X5_begin_21 : decode cX5_begin 21 = .ok (.aload_n 0, 1) := by decide +kernel
theorem d_X5_begin_22 : decode cX5_begin 22 = .ok (.getfield 30, 3) := by decide +kernel
theorem d_X5_begin_25 : decode cX5_begin 25 = .ok (.aload_n 0, 1) := by decide +kernel
theorem d_X5_begin_26 : decode cX5_begin 26 = .ok (.getfield 22, 3) := by decide +kernel
theorem d_X5_begin_29 : decode cX5_begin 29 = .ok (.aaload, 1) := by decide +kernel
theorem d_X5_begin_30 : decode cX5_begin 30 = .ok (.iload_n 1, 1) := by decide +kernel
theorem d_X5_begin_31 : decode cX5_begin 31 = .ok (.iaload, 1) := by decide +kernel
theorem d_X5_begin_32 : decode cX5_begin 32 = .ok (.isub, 1) := by decide +kernel
theorem d_X5_begin_33 : decode cX5_begin 33 = .ok (.aload_n 0, 1) := by decide +kernel
theorem d_X5_begin_34 : decode cX5_begin 34 = .ok (.getfield 19, 3) := by decide +kernel
theorem d_X5_begin_37 : decode cX5_begin 37 = .ok (.irem, 1) := by decide +kernel
theorem d_X5_begin_38 : decode cX5_begin 38 = .ok (.iastore, 1) := by decide +kernel
theorem d_X5_begin_39 : decode cX5_begin 39 = .ok (.iinc 1 1, 3) := by decide +kernel
theorem d_X5_begin_42 : decode cX5_begin 42 = .ok (.goto (-40), 3) := by decide +kernel
theorem d_X5_begin_45 : decode cX5_begin 45 = .ok (.aload_n 0, 1) := by decide +kernel
theorem d_X5_begin_46 : decode cX5_begin 46 = .ok (.iconst (-1), 1) := by decide +kernel
theorem d_X5_begin_47 : decode cX5_begin 47 = .ok (.putfield 25, 3) := by decide +kernel
theorem d_X5_begin_50 : decode cX5_begin 50 = .ok (.aload_n 0, 1) := by decide +kernel
theorem d_X5_begin_51 : decode cX5_begin 51 = .ok (.iconst 1, 1) := by decide +kernel
theorem d_X5_begin_52 : decode cX5_begin 52 = .ok (.putfield 9, 3) := by decide +kernel
theorem d_X5_begin_55 : decode cX5_begin 55 = .ok (.return_, 1) := by decide +kernel
theorem d_X5_addPulse_0 : decode cX5_addPulse 0 = .ok (.iload_n 2, 1) := by decide +kernel
theorem d_X5_addPulse_1 : decode cX5_addPulse 1 = .ok (.bipush 7, 2) := by decide +kernel
theorem d_X5_addPulse_3 : decode cX5_addPulse 3 = .ok (.aload_n 0, 1) := by decide +kernel
theorem d_X5_addPulse_4 : decode cX5_addPulse 4 = .ok (.getfield 19, 3) := by decide +kernel
theorem d_X5_addPulse_7 : decode cX5_addPulse 7 = .ok (.imul, 1) := by decide +kernel
theorem d_X5_addPulse_8 : decode cX5_addPulse 8 = .ok (.iadd, 1) := by decide +kernel
theorem d_X5_addPulse_9 : decode cX5_addPulse 9 = .ok (.aload_n 0, 1) := by decide +kernel
theorem d_X5_addPulse_10 : decode cX5_addPulse 10 = .ok (.getfield 19, 3) := by decide +kernel
theorem d_X5_addPulse_13 : decode cX5_addPulse 13 = .ok (.irem, 1) := by decide +kernel
theorem d_X5_addPulse_14 : decode cX5_addPulse 14 = .ok (.istore 5, 2) := by decide +kernel
theorem d_X5_addPulse_16 : decode cX5_addPulse 16 = .ok (.aload_n 0, 1) := by decide +kernel
theorem d_X5_addPulse_17 : decode cX5_addPulse 17 = .ok (.getfield 30, 3) := by decide +kernel
theorem d_X5_addPulse_20 : decode cX5_addPulse 20 = .ok (.iload_n 1, 1) := by decide +kernel
theorem d_X5_addPulse_21 : decode cX5_addPulse 21 = .ok (.aaload, 1) := by decide +kernel
theorem d_X5_addPulse_22 : decode cX5_addPulse 22 = .ok (.astore 6, 2) := by decide +kernel
theorem d_X5_addPulse_24 : decode cX5_addPulse 24 = .ok (.iconst 0, 1) := by decide +kernel
theorem d_X5_addPulse_25 : decode cX5_addPulse 25 = .ok (.istore 7, 2) := by decide +kernel
theorem d_X5_addPulse_27 : decode cX5_addPulse 27 = .ok (.iload 7, 2) := by decide +kernel
theorem d_X5_addPulse_29 : decode cX5_addPulse 29 = .ok (.aload_n 0, 1) := by decide +kernel
theorem d_X5_addPulse_30 : decode cX5_addPulse 30 = .ok (.getfield 15, 3) := by decide +kernel
theorem d_X5_addPulse_33 : decode cX5_addPulse 33 = .ok (.if_icmp .ge 32, 3) := by decide +kernel
theorem d_X5_addPulse_36 : decode cX5_addPulse 36 = .ok (.aload 4, 2) := by decide +kernel
theorem d_X5_addPulse_38 : decode cX5_addPulse 38 = .ok (.iload 7, 2) := by decide +kernel
theorem d_X5_addPulse_40 : decode cX5_addPulse 40 = .ok (.aload_n 3, 1) := by decide +kernel
theorem d_X5_addPulse_41 : decode cX5_addPulse 41 = .ok (.iload 7, 2) := by decide +kernel
theorem d_X5_addPulse_43 : decode cX5_addPulse 43 = .ok (.iaload, 1) := by decide +kernel
theorem d_X5_addPulse_44 : decode cX5_addPulse 44 = .ok (.iload 5, 2) := by decide +kernel
theorem d_X5_addPulse_46 : decode cX5_addPulse 46 = .ok (.aload 6, 2) := by decide +kernel
theorem d_X5_addPulse_48 : decode cX5_addPulse 48 = .ok (.iload 7, 2) := by decide +kernel
theorem d_X5_addPulse_50 : decode cX5_addPulse 50 = .ok (.iaload, 1) := by decide +kernel
theorem d_X5_addPulse_51 : decode cX5_addPulse 51 = .ok (.imul, 1) := by decide +kernel
theorem d_X5_addPulse_52 : decode cX5_addPulse 52 = .ok (.iadd, 1) := by decide +kernel
theorem d_X5_addPulse_53 : decode cX5_addPulse 53 = .ok (.aload_n 0, 1) := by decide +kernel
theorem d_X5_addPulse_54 : decode cX5_addPulse 54 = .ok (.getfield 19, 3) := by decide +kernel
theorem d_X5_addPulse_57 : decode cX5_addPulse 57 = .ok (.irem, 1) := by decide +kernel
theorem d_X5_addPulse_58 : decode cX5_addPulse 58 = .ok (.iastore, 1) := by decide +kernel
theorem d_X5_addPulse_59 : decode cX5_addPulse 59 = .ok (.iinc 7 1, 3) := by decide +kernel
theorem d_X5_addPulse_62 : decode cX5_addPulse 62 = .ok (.goto (-35), 3) := by decide +kernel
theorem d_X5_addPulse_65 : decode cX5_addPulse 65 = .ok (.return_, 1) := by decide +kernel
theorem d_X5_residues_0 : decode cX5_residues 0 = .ok (.iconst 0, 1) := by decide +kernel
theorem d_X5_residues_1 : decode cX5_residues 1 = .ok (.istore_n 3, 1) := by decide +kernel
theorem d_X5_residues_2 : decode cX5_residues 2 = .ok (.aload_n 0, 1) := by decide +kernel
theorem d_X5_residues_3 : decode cX5_residues 3 = .ok (.getfield 25, 3) := by decide +kernel
theorem d_X5_residues_6 : decode cX5_residues 6 = .ok (.iconst (-1), 1) := by decide +kernel
theorem d_X5_residues_7 : decode cX5_residues 7 = .ok (.if_icmp .eq 35, 3) := by decide +kernel
theorem d_X5_residues_10 : decode cX5_residues 10 = .ok (.iload_n 3, 1) := by decide +kernel
theorem d_X5_residues_11 : decode cX5_residues 11 = .ok (.aload_n 0, 1) := by decide +kernel
theorem d_X5_residues_12 : decode cX5_residues 12 = .ok (.getfield 22, 3) := by decide +kernel
theorem d_X5_residues_15 : decode cX5_residues 15 = .ok (.if_icmp .ge 27, 3) := by decide +kernel
theorem d_X5_residues_18 : decode cX5_residues 18 = .ok (.aload_n 1, 1) := by decide +kernel
theorem d_X5_residues_19 : decode cX5_residues 19 = .ok (.iload_n 2, 1) := by decide +kernel
theorem d_X5_residues_20 : decode cX5_residues 20 = .ok (.iload_n 3, 1) := by decide +kernel
theorem d_X5_residues_21 : decode cX5_residues 21 = .ok (.invokevirtual 57, 3) := by decide +kernel
theorem d_X5_residues_24 : decode cX5_residues 24 = .ok (.aload_n 1, 1) := by decide +kernel
theorem d_X5_residues_25 : decode cX5_residues 25 = .ok (.aload_n 0, 1) := by decide +kernel
theorem d_X5_residues_26 : decode cX5_residues 26 = .ok (.getfield 25, 3) := by decide +kernel
theorem d_X5_residues_29 : decode cX5_residues 29 = .ok (.iload_n 3, 1) := by decide +kernel
theorem d_X5_residues_30 : decode cX5_residues 30 = .ok (.invokevirtual 57, 3) := by decide +kernel
theorem d_X5_residues_33 : decode cX5_residues 33 = .ok (.if_icmp .ne 9, 3) := by decide +kernel
theorem d_X5_residues_36 : decode cX5_residues 36 = .ok (.iinc 3 1, 3) := by decide +kernel
theorem d_X5_residues_39 : decode cX5_residues 39 = .ok (.goto (-29), 3) := by decide +kernel
theorem d_X5_residues_42 : decode cX5_residues 42 = .ok (.iload_n 3, 1) := by decide +kernel
theorem d_X5_residues_43 : decode cX5_residues 43 = .ok (.aload_n 0, 1) := by decide +kernel
theorem d_X5_residues_44 : decode cX5_residues 44 = .ok (.getfield 22, 3) := by decide +kernel
theorem d_X5_residues_47 : decode cX5_residues 47 = .ok (.if_icmp .ge 34, 3) := by decide +kernel
theorem d_X5_residues_50 : decode cX5_residues 50 = .ok (.aload_n 0, 1) := by decide +kernel
theorem d_X5_residues_51 : decode cX5_residues 51 = .ok (.iload_n 3, 1) := by decide +kernel
theorem d_X5_residues_52 : decode cX5_residues 52 = .ok (.aload_n 1, 1) := by decide +kernel
theorem d_X5_residues_53 : decode cX5_residues 53 = .ok (.iload_n 2, 1) := by decide +kernel
theorem d_X5_residues_54 : decode cX5_residues 54 = .ok (.iload_n 3, 1) := by decide +kernel
theorem d_X5_residues_55 : decode cX5_residues 55 = .ok (.invokevirtual 57, 3) := by decide +kernel
theorem d_X5_residues_58 : decode cX5_residues 58 = .ok (.aload_n 0, 1) := by decide +kernel
theorem d_X5_residues_59 : decode cX5_residues 59 = .ok (.getfield 33, 3) := by decide +kernel
theorem d_X5_residues_62 : decode cX5_residues 62 = .ok (.iload_n 3, 1) := by decide +kernel
theorem d_X5_residues_63 : decode cX5_residues 63 = .ok (.aaload, 1) := by decide +kernel
theorem d_X5_residues_64 : decode cX5_residues 64 = .ok (.aload_n 0, 1) := by decide +kernel
theorem d_X5_residues_65 : decode cX5_residues 65 = .ok (.getfield 33, 3) := by decide +kernel
theorem d_X5_residues_68 : decode cX5_residues 68 = .ok (.iload_n 3, 1) := by decide +kernel
theorem d_X5_residues_69 : decode cX5_residues 69 = .ok (.iconst 1, 1) := by decide +kernel
theorem d_X5_residues_70 : decode cX5_residues 70 = .ok (.iadd, 1) := by decide +kernel
theorem d_X5_residues_71 : decode cX5_residues 71 = .ok (.aaload, 1) := by decide +kernel
theorem d_X5_residues_72 : decode cX5_residues 72 = .ok (.invokevirtual 62, 3) := by decide +kernel
theorem d_X5_residues_75 : decode cX5_residues 75 = .ok (.iinc 3 1, 3) := by decide +kernel
theorem d_X5_residues_78 : decode cX5_residues 78 = .ok (.goto (-36), 3) := by decide +kernel
theorem d_X5_residues_81 : decode cX5_residues 81 = .ok (.aload_n 0, 1) := by decide +kernel
theorem d_X5_residues_82 : decode cX5_residues 82 = .ok (.iload_n 2, 1) := by decide +kernel
theorem d_X5_residues_83 : decode cX5_residues 83 = .ok (.putfield 25, 3) := by decide +kernel
theorem d_X5_residues_86 : decode cX5_residues 86 = .ok (.aload_n 0, 1) := by decide +kernel
theorem d_X5_residues_87 : decode cX5_residues 87 = .ok (.getfield 33, 3) := by decide +kernel
theorem d_X5_residues_90 : decode cX5_residues 90 = .ok (.aload_n 0, 1) := by decide +kernel
theorem d_X5_residues_91 : decode cX5_residues 91 = .ok (.getfield 22, 3) := by decide +kernel
theorem d_X5_residues_94 : decode cX5_residues 94 = .ok (.aaload, 1) := by decide +kernel
theorem d_X5_residues_95 : decode cX5_residues 95 = .ok (.areturn, 1) := by decide +kernel
theorem d_X5_tally_0 : decode cX5_tally 0 = .ok (.aload_n 0, 1) := by decide +kernel
theorem d_X5_tally_1 : decode cX5_tally 1 = .ok (.aload_n 1, 1) := by decide +kernel
theorem d_X5_tally_2 : decode cX5_tally 2 = .ok (.iload_n 2, 1) := by decide +kernel
theorem d_X5_tally_3 : decode cX5_tally 3 = .ok (.invokevirtual 66, 3) := by decide +kernel
theorem d_X5_tally_6 : decode cX5_tally 6 = .ok (.astore 4, 2) := by decide +kernel
theorem d_X5_tally_8 : decode cX5_tally 8 = .ok (.aload_n 0, 1) := by decide +kernel
theorem d_X5_tally_9 : decode cX5_tally 9 = .ok (.getfield 36, 3) := by decide +kernel
theorem d_X5_tally_12 : decode cX5_tally 12 = .ok (.iconst 0, 1) := by decide +kernel
theorem d_X5_tally_13 : decode cX5_tally 13 = .ok (.invokestatic 51, 3) := by decide +kernel
theorem d_X5_tally_16 : decode cX5_tally 16 = .ok (.iconst 0, 1) := by decide +kernel
theorem d_X5_tally_17 : decode cX5_tally 17 = .ok (.istore 5, 2) := by decide +kernel
theorem d_X5_tally_19 : decode cX5_tally 19 = .ok (.iload 5, 2) := by decide +kernel
theorem d_X5_tally_21 : decode cX5_tally 21 = .ok (.iload_n 3, 1) := by decide +kernel
theorem d_X5_tally_22 : decode cX5_tally 22 = .ok (.if_icmp .ge 23, 3) := by decide +kernel
theorem d_X5_tally_25 : decode cX5_tally 25 = .ok (.aload_n 0, 1) := by decide +kernel
theorem d_X5_tally_26 : decode cX5_tally 26 = .ok (.getfield 36, 3) := by decide +kernel
theorem d_X5_tally_29 : decode cX5_tally 29 = .ok (.aload 4, 2) := by decide +kernel
theorem d_X5_tally_31 : decode cX5_tally 31 = .ok (.iload 5, 2) := by decide +kernel
theorem d_X5_tally_33 : decode cX5_tally 33 = .ok (.iaload, 1) := by decide +kernel
theorem d_X5_tally_34 : decode cX5_tally 34 = .ok (.dup2, 1) := by decide +kernel
theorem d_X5_tally_35 : decode cX5_tally 35 = .ok (.iaload, 1) := by decide +kernel
theorem d_X5_tally_36 : decode cX5_tally 36 = .ok (.iconst 1, 1) := by decide +kernel
theorem d_X5_tally_37 : decode cX5_tally 37 = .ok (.iadd, 1) := by decide +kernel
theorem d_X5_tally_38 : decode cX5_tally 38 = .ok (.iastore, 1) := by decide +kernel
theorem d_X5_tally_39 : decode cX5_tally 39 = .ok (.iinc 5 1, 3) := by decide +kernel
theorem d_X5_tally_42 : decode cX5_tally 42 = .ok (.goto (-23), 3) := by decide +kernel
theorem d_X5_tally_45 : decode cX5_tally 45 = .ok (.aload_n 0, 1) := by decide +kernel
theorem d_X5_tally_46 : decode cX5_tally 46 = .ok (.getfield 36, 3) := by decide +kernel
theorem d_X5_tally_49 : decode cX5_tally 49 = .ok (.areturn, 1) := by decide +kernel
theorem d_X6_init_0 : decode cX6_init 0 = .ok (.aload_n 0, 1) := by decide +kernel
theorem d_X6_init_1 : decode cX6_init 1 = .ok (.invokespecial 3, 3) := by decide +kernel
theorem d_X6_init_4 : decode cX6_init 4 = .ok (.aload_n 0, 1) := by decide +kernel
theorem d_X6_init_5 : decode cX6_init 5 = .ok (.iconst 0, 1) := by decide +kernel
theorem d_X6_init_6 : decode cX6_init 6 = .ok (.putfield 9, 3) := by decide +kernel
theorem d_X6_init_9 : decode cX6_init 9 = .ok (.aload_n 0, 1) := by decide +kernel
theorem d_X6_init_10 : decode cX6_init 10 = .ok (.iconst 0, 1) := by decide +kernel
theorem d_X6_init_11 : decode cX6_init 11 = .ok (.putfield 15, 3) := by decide +kernel
theorem d_X6_init_14 : decode cX6_init 14 = .ok (.aload_n 0, 1) := by decide +kernel
theorem d_X6_init_15 : decode cX6_init 15 = .ok (.bipush 8, 2) := by decide +kernel
theorem d_X6_init_17 : decode cX6_init 17 = .ok (.newarray .int, 2) := by decide +kernel
theorem d_X6_init_19 : decode cX6_init 19 = .ok (.putfield 18, 3) := by decide +kernel
theorem d_X6_init_22 : decode cX6_init 22 = .ok (.aload_n 0, 1) := by decide +kernel
theorem d_X6_init_23 : decode cX6_init 23 = .ok (.bipush 8, 2) := by decide +kernel
theorem d_X6_init_25 : decode cX6_init 25 = .ok (.newarray .int, 2) := by decide +kernel
theorem d_X6_init_27 : decode cX6_init 27 = .ok (.putfield 22, 3) := by decide +kernel
theorem d_X6_init_30 : decode cX6_init 30 = .ok (.aload_n 0, 1) := by decide +kernel
theorem d_X6_init_31 : decode cX6_init 31 = .ok (.bipush 48, 2) := by decide +kernel
theorem d_X6_init_33 : decode cX6_init 33 = .ok (.newarray .int, 2) := by decide +kernel
theorem d_X6_init_35 : decode cX6_init 35 = .ok (.putfield 25, 3) := by decide +kernel
theorem d_X6_init_38 : decode cX6_init 38 = .ok (.aload_n 0, 1) := by decide +kernel
theorem d_X6_init_39 : decode cX6_init 39 = .ok (.iconst 0, 1) := by decide +kernel
theorem d_X6_init_40 : decode cX6_init 40 = .ok (.putfield 28, 3) := by decide +kernel
theorem d_X6_init_43 : decode cX6_init 43 = .ok (.aload_n 0, 1) := by decide +kernel
theorem d_X6_init_44 : decode cX6_init 44 = .ok (.iconst (-1), 1) := by decide +kernel
theorem d_X6_init_45 : decode cX6_init 45 = .ok (.putfield 31, 3) := by decide +kernel
theorem d_X6_init_48 : decode cX6_init 48 = .ok (.aload_n 0, 1) := by decide +kernel
theorem d_X6_init_49 : decode cX6_init 49 = .ok (.iconst 0, 1) := by decide +kernel
theorem d_X6_init_50 : decode cX6_init 50 = .ok (.putfield 34, 3) := by decide +kernel
theorem d_X6_init_53 : decode cX6_init 53 = .ok (.return_, 1) := by decide +kernel
theorem d_X6_begin_0 : decode cX6_begin 0 = .ok (.iload_n 1, 1) := by decide +kernel
theorem d_X6_begin_1 : decode cX6_begin 1 = .ok (.aload_n 0, 1) := by decide +kernel
theorem d_X6_begin_2 : decode cX6_begin 2 = .ok (.getfield 9, 3) := by decide +kernel
theorem d_X6_begin_5 : decode cX6_begin 5 = .ok (.if_icmp .eq 8, 3) := by decide +kernel
theorem d_X6_begin_8 : decode cX6_begin 8 = .ok (.aload_n 0, 1) := by decide +kernel
theorem d_X6_begin_9 : decode cX6_begin 9 = .ok (.iload_n 1, 1) := by decide +kernel
theorem d_X6_begin_10 : decode cX6_begin 10 = .ok (.invokevirtual 38, 3) := by decide +kernel
theorem d_X6_begin_13 : decode cX6_begin 13 = .ok (.aload_n 0, 1) := by decide +kernel
theorem d_X6_begin_14 : decode cX6_begin 14 = .ok (.getfield 25, 3) := by decide +kernel
theorem d_X6_begin_17 : decode cX6_begin 17 = .ok (.iconst 0, 1) := by decide +kernel
theorem d_X6_begin_18 : decode cX6_begin 18 = .ok (.invokestatic 42, 3) := by decide +kernel
theorem d_X6_begin_21 : decode cX6_begin 21 = .ok (.aload_n 0, 1) := by decide +kernel
theorem d_X6_begin_22 : decode cX6_begin 22 = .ok (.iconst 0, 1) := by decide +kernel
theorem d_X6_begin_23 : decode cX6_begin 23 = .ok (.putfield 28, 3) := by decide +kernel
theorem d_X6_begin_26 : decode cX6_begin 26 = .ok (.aload_n 0, 1) := by decide +kernel
theorem d_X6_begin_27 : decode cX6_begin 27 = .ok (.iconst (-1), 1) := by decide +kernel
theorem d_X6_begin_28 : decode cX6_begin 28 = .ok (.putfield 31, 3) := by decide +kernel
theorem d_X6_begin_31 : decode cX6_begin 31 = .ok (.aload_n 0, 1) := by decide +kernel
theorem d_X6_begin_32 : decode cX6_begin 32 = .ok (.iconst 0, 1) := by decide +kernel
theorem d_X6_begin_33 : decode cX6_begin 33 = .ok (.putfield 34, 3) := by decide +kernel
theorem d_X6_begin_36 : decode cX6_begin 36 = .ok (.return_, 1) := by decide +kernel
theorem d_X6_factor_0 : decode cX6_factor 0 = .ok (.aload_n 0, 1) := by decide +kernel
theorem d_X6_factor_1 : decode cX6_factor 1 = .ok (.iload_n 1, 1) := by decide +kernel
theorem d_X6_factor_2 : decode cX6_factor 2 = .ok (.putfield 9, 3) := by decide +kernel
theorem d_X6_factor_5 : decode cX6_factor 5 = .ok (.aload_n 0, 1) := by decide +kernel
theorem d_X6_factor_6 : decode cX6_factor 6 = .ok (.iconst 1, 1) := by decide +kernel
theorem d_X6_factor_7 : decode cX6_factor 7 = .ok (.putfield 15, 3) := by decide +kernel
theorem d_X6_factor_10 : decode cX6_factor 10 = .ok (.aload_n 0, 1) := by decide +kernel
theorem d_X6_factor_11 : decode cX6_factor 11 = .ok (.getfield 18, 3) := by decide +kernel
theorem d_X6_factor_14 : decode cX6_factor 14 = .ok (.iconst 0, 1) := by decide +kernel
theorem d_X6_factor_15 : decode cX6_factor 15 = .ok (.iconst 0, 1) := by decide +kernel
theorem d_X6_factor_16 : decode cX6_factor 16 = .ok (.iastore, 1) := by decide +kernel
theorem d_X6_factor_17 : decode cX6_factor 17 = .ok (.aload_n 0, 1) := by decide +kernel
theorem d_X6_factor_18 : decode cX6_factor 18 = .ok (.getfield 22, 3) := by decide +kernel
theorem d_X6_factor_21 : decode cX6_factor 21 = .ok (.iconst 0, 1) := by decide +kernel
theorem d_X6_factor_22 : decode cX6_factor 22 = .ok (.iconst 1, 1) := by decide +kernel
theorem d_X6_factor_23 : decode cX6_factor 23 = .ok (.iastore, 1) := by decide +kernel
theorem d_X6_factor_24 : decode cX6_factor 24 = .ok (.iload_n 1, 1) := by decide +kernel
theorem d_X6_factor_25 : decode cX6_factor 25 = .ok (.istore_n 2, 1) := by decide +kernel
theorem d_X6_factor_26 : decode cX6_factor 26 = .ok (.iconst 2, 1) := by decide +kernel
theorem d_X6_factor_27 : decode cX6_factor 27 = .ok (.istore_n 3, 1) := by decide +kernel
theorem d_X6_factor_28 : decode cX6_factor 28 = .ok (.iload_n 3, 1) := by decide +kernel
theorem d_X6_factor_29 : decode cX6_factor 29 = .ok (.iload_n 1, 1) := by decide +kernel
theorem d_X6_factor_30 : decode cX6_factor 30 = .ok (.if_icmp .gt 128, 3) := by decide +kernel
theorem d_X6_factor_33 : decode cX6_factor 33 = .ok (.iload_n 2, 1) := by decide +kernel
theorem d_X6_factor_34 : decode cX6_factor 34 = .ok (.iload_n 3, 1) := by decide +kernel
theorem d_X6_factor_35 : decode cX6_factor 35 = .ok (.irem, 1) := by decide +kernel
theorem d_X6_factor_36 : decode cX6_factor 36 = .ok (.ifCond .ne 90, 3) := by decide +kernel
theorem d_X6_factor_39 : decode cX6_factor 39 = .ok (.iconst 2, 1) := by decide +kernel
theorem d_X6_factor_40 : decode cX6_factor 40 = .ok (.aload_n 0, 1) := by decide +kernel
theorem d_X6_factor_41 : decode cX6_factor 41 = .ok (.getfield 15, 3) := by decide +kernel
theorem d_X6_factor_44 : decode cX6_factor 44 = .ok (.imul, 1) := by decide +kernel
theorem d_X6_factor_45 : decode cX6_factor 45 = .ok (.aload_n 0, 1) := by decide +kernel
theorem d_X6_factor_46 : decode cX6_factor 46 = .ok (.getfield 18, 3) := by decide +kernel
theorem d_X6_factor_49 : decode cX6_factor 49 = .ok (.arraylength, 1) := by decide +kernel
theorem d_X6_factor_50 : decode cX6_factor 50 = .ok (.if_icmp .gt 76, 3) := by decide +kernel
theorem d_X6_factor_53 : decode cX6_factor 53 = .ok (.iconst 0, 1) := by decide +kernel
theorem d_X6_factor_54 : decode cX6_factor 54 = .ok (.istore 4, 2) := by decide +kernel
theorem d_X6_factor_56 : decode cX6_factor 56 = .ok (.iload 4, 2) := by decide +kernel
theorem d_X6_factor_58 : decode cX6_factor 58 = .ok (.aload_n 0, 1) := by decide +kernel
theorem d_X6_factor_59 : decode cX6_factor 59 = .ok (.getfield 15, 3) := by decide +kernel
theorem d_X6_factor_62 : decode cX6_factor 62 = .ok (.if_icmp .ge 54, 3) := by decide +kernel
theorem d_X6_factor_65 : decode cX6_factor 65 = .ok (.aload_n 0, 1) := by decide +kernel
theorem d_X6_factor_66 : decode cX6_factor 66 = .ok (.getfield 18, 3) := by decide +kernel
theorem d_X6_factor_69 : decode cX6_factor 69 = .ok (.aload_n 0, 1) := by decide +kernel
theorem d_X6_factor_70 : decode cX6_factor 70 = .ok (.getfield 15, 3) := by decide +kernel
theorem d_X6_factor_73 : decode cX6_factor 73 = .ok (.iload 4, 2) := by decide +kernel
theorem d_X6_factor_75 : decode cX6_factor 75 = .ok (.iadd, 1) := by decide +kernel
theorem d_X6_factor_76 : decode cX6_factor 76 = .ok (.aload_n 0, 1) := by decide +kernel
theorem d_X6_factor_77 : decode cX6_factor 77 = .ok (.getfield 18, 3) := by decide +kernel
theorem d_X6_factor_80 : decode cX6_factor 80 = .ok (.iload 4, 2) := by decide +kernel
theorem d_X6_factor_82 : decode cX6_factor 82 = .ok (.iaload, 1) := by decide +kernel
theorem d_X6_factor_83 : decode cX6_factor 83 = .ok (.iload_n 1, 1) := by decide +kernel
theorem d_X6_factor_84 : decode cX6_factor 84 = .ok (.iload_n 3, 1) := by decide +kernel
theorem d_X6_factor_85 : decode cX6_factor 85 = .ok (.idiv, 1) := by decide +kernel
theorem d_X6_factor_86 : decode cX6_factor 86 = .ok (.iadd, 1) := by decide +kernel
theorem d_X6_factor_87 : decode cX6_factor 87 = .ok (.iload_n 1, 1) := by decide +kernel
theorem d_X6_factor_88 : decode cX6_factor 88 = .ok (.irem, 1) := by decide +kernel
theorem d_X6_factor_89 : decode cX6_factor 89 = .ok (.iastore, 1) := by decide +kernel
theorem d_X6_factor_90 : decode cX6_factor 90 = .ok (.aload_n 0, 1) := by decide +kernel
theorem d_X6_factor_91 : decode cX6_factor 91 = .ok (.getfield 22, 3) := by decide +kernel
theorem d_X6_factor_94 : decode cX6_factor 94 = .ok (.aload_n 0, 1) := by decide +kernel
theorem d_X6_factor_95 : decode cX6_factor 95 = .ok (.getfield 15, 3) := by decide +kernel
theorem d_X6_factor_98 : decode cX6_factor 98 = .ok (.iload 4, 2) := by decide +kernel
theorem d_X6_factor_100 : decode cX6_factor 100 = .ok (.iadd, 1) := by decide +kernel
theorem d_X6_factor_101 : decode cX6_factor 101 = .ok (.aload_n 0, 1) := by decide +kernel
theorem d_X6_factor_102 : decode cX6_factor 102 = .ok (.getfield 22, 3) := by decide +kernel
theorem d_X6_factor_105 : decode cX6_factor 105 = .ok (.iload 4, 2) := by decide +kernel
theorem d_X6_factor_107 : decode cX6_factor 107 = .ok (.iaload, 1) := by decide +kernel
theorem d_X6_factor_108 : decode cX6_factor 108 = .ok (.ineg, 1) := by decide +kernel
theorem d_X6_factor_109 : decode cX6_factor 109 = .ok (.iastore, 1) := by decide +kernel
theorem d_X6_factor_110 : decode cX6_factor 110 = .ok (.iinc 4 1, 3) := by decide +kernel
theorem d_X6_factor_113 : decode cX6_factor 113 = .ok (.goto (-57), 3) := by decide +kernel
theorem d_X6_factor_116 : decode cX6_factor 116 = .ok (.aload_n 0, 1) := by decide +kernel
theorem d_X6_factor_117 : decode cX6_factor 117 = .ok (.dup, 1) := by decide +kernel
theorem d_X6_factor_118 : decode cX6_factor 118 = .ok (.getfield 15, 3) := by decide +kernel
theorem d_X6_factor_121 : decode cX6_factor 121 = .ok (.iconst 2, 1) := by decide +kernel
theorem d_X6_factor_122 : decode cX6_factor 122 = .ok (.imul, 1) := by decide +kernel
theorem d_X6_factor_123 : decode cX6_factor 123 = .ok (.putfield 15, 3) := by decide +kernel
theorem d_X6_factor_126 : decode cX6_factor 126 = .ok (.iconst 0, 1) := by decide +kernel
theorem d_X6_factor_127 : decode cX6_factor 127 = .ok (.istore 4, 2) := by decide +kernel
theorem d_X6_factor_129 : decode cX6_factor 129 = .ok (.iload 4, 2) := by decide +kernel
theorem d_X6_factor_131 : decode cX6_factor 131 = .ok (.bipush 48, 2) := by decide +kernel
theorem d_X6_factor_133 : decode cX6_factor 133 = .ok (.if_icmp .ge 19, 3) := by decide +kernel
theorem d_X6_factor_136 : decode cX6_factor 136 = .ok (.iload_n 2, 1) := by decide +kernel
theorem d_X6_factor_137 : decode cX6_factor 137 = .ok (.iload_n 3, 1) := by decide +kernel
theorem d_X6_factor_138 : decode cX6_factor 138 = .ok (.irem, 1) := by decide +kernel
theorem d_X6_factor_139 : decode cX6_factor 139 = .ok (.ifCond .ne 13, 3) := by decide +kernel
theorem d_X6_factor_142 : decode cX6_factor 142 = .ok (.iload_n 2, 1) := by decide +kernel
theorem d_X6_factor_143 : decode cX6_factor 143 = .ok (.iload_n 3, 1) := by decide +kernel
theorem d_X6_factor_144 : decode cX6_factor 144 = .ok (.idiv, 1) := by decide +kernel
theorem d_X6_factor_145 : decode cX6_factor 145 = .ok (.istore_n 2, 1) := by decide +kernel
theorem d_X6_factor_146 : decode cX6_factor 146 = .ok (.iinc 4 1, 3) := by decide +kernel
theorem d_X6_factor_149 : decode cX6_factor 149 = .ok (.goto (-20), 3) := by decide +kernel
theorem d_X6_factor_152 : decode cX6_factor 152 = .ok (.iinc 3 1, 3) := by decide +kernel
theorem d_X6_factor_155 : decode cX6_factor 155 = .ok (.goto (-127), 3) := by decide +kernel
theorem d_X6_factor_158 : decode cX6_factor 158 = .ok (.return_, 1) := by decide +kernel
theorem d_X6_add_0 : decode cX6_add 0 = .ok (.iconst 0, 1) := by decide +kernel
theorem d_X6_add_1 : decode cX6_add 1 = .ok (.istore_n 3, 1) := by decide +kernel
theorem d_X6_add_2 : decode cX6_add 2 = .ok (.iload_n 3, 1) := by decide +kernel
theorem d_X6_add_3 : decode cX6_add 3 = .ok (.aload_n 0, 1) := by decide +kernel
theorem d_X6_add_4 : decode cX6_add 4 = .ok (.getfield 15, 3) := by decide +kernel
theorem d_X6_add_7 : decode cX6_add 7 = .ok (.if_icmp .ge 85, 3) := by decide +kernel
theorem d_X6_add_10 : decode cX6_add 10 = .ok (.iload_n 1, 1) := by decide +kernel
theorem d_X6_add_11 : decode cX6_add 11 = .ok (.aload_n 0, 1) := by decide +kernel
theorem d_X6_add_12 : decode cX6_add 12 = .ok (.getfield 18, 3) := by decide +kernel
theorem d_X6_add_15 : decode cX6_add 15 = .ok (.iload_n 3, 1) := by decide +kernel
theorem d_X6_add_16 : decode cX6_add 16 = .ok (.iaload, 1) := by decide +kernel
theorem d_X6_add_17 : decode cX6_add 17 = .ok (.iadd, 1) := by decide +kernel
theorem d_X6_add_18 : decode cX6_add 18 = .ok (.aload_n 0, 1) := by decide +kernel
theorem d_X6_add_19 : decode cX6_add 19 = .ok (.getfield 9, 3) := by decide +kernel
theorem d_X6_add_22 : decode cX6_add 22 = .ok (.irem, 1) := by decide +kernel
theorem d_X6_add_23 : decode cX6_add 23 = .ok (.istore 4, 2) := by decide +kernel
theorem d_X6_add_25 : decode cX6_add 25 = .ok (.aload_n 0, 1) := by decide +kernel
theorem d_X6_add_26 : decode cX6_add 26 = .ok (.getfield 25, 3) := by decide +kernel
theorem d_X6_add_29 : decode cX6_add 29 = .ok (.iload 4, 2) := by decide +kernel
theorem d_X6_add_31 : decode cX6_add 31 = .ok (.iaload, 1) := by decide +kernel
theorem d_X6_add_32 : decode cX6_add 32 = .ok (.istore 5, 2) := by decide +kernel
theorem d_X6_add_34 : decode cX6_add 34 = .ok (.iload 5, 2) := by decide +kernel
theorem d_X6_add_36 : decode cX6_add 36 = .ok (.aload_n 0, 1) := by decide +kernel
theorem d_X6_add_37 : decode cX6_add 37 = .ok (.getfield 22, 3) := by decide +kernel
theorem d_X6_add_40 : decode cX6_add 40 = .ok (.iload_n 3, 1) := by decide +kernel
theorem d_X6_add_41 : decode cX6_add 41 = .ok (.iaload, 1) := by decide +kernel
theorem d_X6_add_42 : decode cX6_add 42 = .ok (.iload_n 2, 1) := by decide +kernel
theorem d_X6_add_43 : decode cX6_add 43 = .ok (.imul, 1) := by decide +kernel
theorem d_X6_add_44 : decode cX6_add 44 = .ok (.iadd, 1) := by decide +kernel
theorem d_X6_add_45 : decode cX6_add 45 = .ok (.istore 6, 2) := by decide +kernel
theorem d_X6_add_47 : decode cX6_add 47 = .ok (.aload_n 0, 1) := by decide +kernel
theorem d_X6_add_48 : decode cX6_add 48 = .ok (.getfield 25, 3) := by decide +kernel
theorem d_X6_add_51 : decode cX6_add 51 = .ok (.iload 4, 2) := by decide +kernel
theorem d_X6_add_53 : decode cX6_add 53 = .ok (.iload 6, 2) := by decide +kernel
theorem d_X6_add_55 : decode cX6_add 55 = .ok (.iastore, 1) := by decide +kernel
theorem d_X6_add_56 : decode cX6_add 56 = .ok (.iload 5, 2) := by decide +kernel
theorem d_X6_add_58 : decode cX6_add 58 = .ok (.ifCond .ne 13, 3) := by decide +kernel
theorem d_X6_add_61 : decode cX6_add 61 = .ok (.aload_n 0, 1) := by decide +kernel
theorem d_X6_add_62 : decode cX6_add 62 = .ok (.dup, 1) := by decide +kernel
theorem d_X6_add_63 : decode cX6_add 63 = .ok (.getfield 28, 3) := by decide +kernel
theorem d_X6_add_66 : decode cX6_add 66 = .ok (.iconst 1, 1) := by decide +kernel
theorem d_X6_add_67 : decode cX6_add 67 = .ok (.iadd, 1) := by decide +kernel
theorem d_X6_add_68 : decode cX6_add 68 = .ok (.putfield 28, 3) := by decide +kernel
theorem d_X6_add_71 : decode cX6_add 71 = .ok (.iload 6, 2) := by decide +kernel
theorem d_X6_add_73 : decode cX6_add 73 = .ok (.ifCond .ne 13, 3) := by decide +kernel
theorem d_X6_add_76 : decode cX6_add 76 = .ok (.aload_n 0, 1) := by decide +kernel
theorem d_X6_add_77 : decode cX6_add 77 = .ok (.dup, 1) := by decide +kernel
theorem d_X6_add_78 : decode cX6_add 78 = .ok (.getfield 28, 3) := by decide +kernel
theorem d_X6_add_81 : decode cX6_add 81 = .ok (.iconst 1, 1) := by decide +kernel
theorem d_X6_add_82 : decode cX6_add 82 = .ok (.isub, 1) := by decide +kernel
theorem d_X6_add_83 : decode cX6_add 83 = .ok (.putfield 28, 3) := by decide +kernel
theorem d_X6_add_86 : decode cX6_add 86 = .ok (.iinc 3 1, 3) := by decide +kernel
theorem d_X6_add_89 : decode cX6_add 89 = .ok (.goto (-87), 3) := by decide +kernel
theorem d_X6_add_92 : decode cX6_add 92 = .ok (.aload_n 0, 1) := by decide +kernel
theorem d_X6_add_93 : decode cX6_add 93 = .ok (.getfield 31, 3) := by decide +kernel
theorem d_X6_add_96 : decode cX6_add 96 = .ok (.iconst (-1), 1) := by decide +kernel
theorem d_X6_add_97 : decode cX6_add 97 = .ok (.if_icmp .ne 11, 3) := by decide +kernel
theorem d_X6_add_100 : decode cX6_add 100 = .ok (.aload_n 0, 1) := by decide +kernel
theorem d_X6_add_101 : decode cX6_add 101 = .ok (.iload_n 1, 1) := by decide +kernel
theorem d_X6_add_102 : decode cX6_add 102 = .ok (.putfield 31, 3) := by decide +kernel
theorem d_X6_add_105 : decode cX6_add 105 = .ok (.goto 16, 3) := by decide +kernel
theorem d_X6_add_108 : decode cX6_add 108 = .ok (.aload_n 0, 1) := by decide +kernel
theorem d_X6_add_109 : decode cX6_add 109 = .ok (.getfield 31, 3) := by decide +kernel
theorem d_X6_add_112 : decode cX6_add 112 = .ok (.iload_n 1, 1) := by decide +kernel
theorem d_X6_add_113 : decode cX6_add 113 = .ok (.if_icmp .eq 8, 3) := by decide +kernel
theorem d_X6_add_116 : decode cX6_add 116 = .ok (.aload_n 0, 1) := by decide +kernel
theorem d_X6_add_117 : decode cX6_add 117 = .ok (.iconst 1, 1) := by decide +kernel
theorem d_X6_add_118 : decode cX6_add 118 = .ok (.putfield 34, 3) := by decide +kernel
theorem d_X6_add_121 : decode cX6_add 121 = .ok (.return_, 1) := by decide +kernel
theorem d_X6_stateOf_0 : decode cX6_stateOf 0 = .ok (.aload_n 0, 1) := by decide +kernel
theorem d_X6_stateOf_1 : decode cX6_stateOf 1 = .ok (.iload_n 2, 1) := by decide +kernel
theorem d_X6_stateOf_2 : decode cX6_stateOf 2 = .ok (.invokevirtual 48, 3) := by decide +kernel
theorem d_X6_stateOf_5 : decode cX6_stateOf 5 = .ok (.iconst 0, 1) := by decide +kernel
theorem d_X6_stateOf_6 : decode cX6_stateOf 6 = .ok (.istore_n 3, 1) := by decide +kernel
theorem d_X6_stateOf_7 : decode cX6_stateOf 7 = .ok (.iload_n 3, 1) := by decide +kernel
theorem d_X6_stateOf_8 : decode cX6_stateOf 8 = .ok (.iload_n 2, 1) := by decide +kernel
theorem d_X6_stateOf_9 : decode cX6_stateOf 9 = .ok (.if_icmp .ge 23, 3) := by decide +kernel
theorem d_X6_stateOf_12 : decode cX6_stateOf 12 = .ok (.aload_n 1, 1) := by decide +kernel
theorem d_X6_stateOf_13 : decode cX6_stateOf 13 = .ok (.iload_n 3, 1) := by decide +kernel
theorem d_X6_stateOf_14 : decode cX6_stateOf 14 = .ok (.iaload, 1) := by decide +kernel
theorem d_X6_stateOf_15 : decode cX6_stateOf 15 = .ok (.ifCond .le 11, 3) := by decide +kernel
theorem d_X6_stateOf_18 : decode cX6_stateOf 18 = .ok (.aload_n 0, 1) := by decide +kernel
theorem d_X6_stateOf_19 : decode cX6_stateOf 19 = .ok (.iload_n 3, 1) := by decide +kernel
theorem d_X6_stateOf_20 : decode cX6_stateOf 20 = .ok (.aload_n 1, 1) := by decide +kernel
theorem d_X6_stateOf_21 : decode cX6_stateOf 21 = .ok (.iload_n 3, 1) := by decide +kernel
theorem d_X6_stateOf_22 : decode cX6_stateOf 22 = .ok (.iaload, 1) := by decide +kernel
theorem d_X6_stateOf_23 : decode cX6_stateOf 23 = .ok (.invokevirtual 51, 3) := by decide +kernel
theorem d_X6_stateOf_26 : decode cX6_stateOf 26 = .ok (.iinc 3 1, 3) := by decide +kernel
theorem d_X6_stateOf_29 : decode cX6_stateOf 29 = .ok (.goto (-22), 3) := by decide +kernel
theorem d_X6_stateOf_32 : decode cX6_stateOf 32 = .ok (.aload_n 0, 1) := by decide +kernel
theorem d_X6_stateOf_33 : decode cX6_stateOf 33 = .ok (.invokevirtual 55, 3) := by decide +kernel
theorem d_X6_stateOf_36 : decode cX6_stateOf 36 = .ok (.ireturn, 1) := by decide +kernel
theorem d_X6_state_0 : decode cX6_state 0 = .ok (.aload_n 0, 1) := by decide +kernel
theorem d_X6_state_1 : decode cX6_state 1 = .ok (.getfield 28, 3) := by decide +kernel
theorem d_X6_state_4 : decode cX6_state 4 = .ok (.ifCond .ne 5, 3) := by decide +kernel
theorem d_X6_state_7 : decode cX6_state 7 = .ok (.iconst 0, 1) := by decide +kernel
theorem d_X6_state_8 : decode cX6_state 8 = .ok (.ireturn, 1) := by decide +kernel
theorem d_X6_state_9 : decode cX6_state 9 = .ok (.aload_n 0, 1) := by decide +kernel
theorem d_X6_state_10 : decode cX6_state 10 = .ok (.getfield 34, 3) := by decide +kernel
theorem d_X6_state_13 : decode cX6_state 13 = .ok (.ifCond .eq 7, 3) := by decide +kernel
theorem d_X6_state_16 : decode cX6_state 16 = .ok (.iconst 1, 1) := by decide +kernel
theorem d_X6_state_17 : decode cX6_state 17 = .ok (.goto 4, 3) := by decide +kernel
theorem d_X6_state_20 : decode cX6_state 20 = .ok (.iconst 2, 1) := by decide +kernel
theorem d_X6_state_21 : decode cX6_state 21 = .ok (.ireturn, 1) := by decide +kernel
theorem d_X7_init_0 : decode cX7_init 0 = .ok (.aload_n 0, 1) := by decide +kernel
theorem d_X7_init_1 : decode cX7_init 1 = .ok (.invokespecial 3, 3) := by decide +kernel
theorem d_X7_init_4 : decode cX7_init 4 = .ok (.aload_n 0, 1) := by decide +kernel
theorem d_X7_init_5 : decode cX7_init 5 = .ok (.iconst 0, 1) := by decide +kernel
theorem d_X7_init_6 : decode cX7_init 6 = .ok (.putfield 9, 3) := by decide +kernel
theorem d_X7_init_9 : decode cX7_init 9 = .ok (.aload_n 0, 1) := by decide +kernel
theorem d_X7_init_10 : decode cX7_init 10 = .ok (.iconst 0, 1) := by decide +kernel
theorem d_X7_init_11 : decode cX7_init 11 = .ok (.putfield 15, 3) := by decide +kernel
theorem d_X7_init_14 : decode cX7_init 14 = .ok (.aload_n 0, 1) := by decide +kernel
theorem d_X7_init_15 : decode cX7_init 15 = .ok (.iconst (-1), 1) := by decide +kernel
theorem d_X7_init_16 : decode cX7_init 16 = .ok (.putfield 18, 3) := by decide +kernel
theorem d_X7_init_19 : decode cX7_init 19 = .ok (.aload_n 0, 1) := by decide +kernel
theorem d_X7_init_20 : decode cX7_init 20 = .ok (.iconst 0, 1) := by decide +kernel
theorem d_X7_init_21 : decode cX7_init 21 = .ok (.putfield 21, 3) := by decide +kernel
theorem d_X7_init_24 : decode cX7_init 24 = .ok (.aload_n 0, 1) := by decide +kernel
theorem d_X7_init_25 : decode cX7_init 25 = .ok (.sipush 400, 3) := by decide +kernel
theorem d_X7_init_28 : decode cX7_init 28 = .ok (.newarray .byte, 2) := by decide +kernel
theorem d_X7_init_30 : decode cX7_init 30 = .ok (.putfield 24, 3) := by decide +kernel
theorem d_X7_init_33 : decode cX7_init 33 = .ok (.aload_n 0, 1) := by decide +kernel
theorem d_X7_init_34 : decode cX7_init 34 = .ok (.sipush 144, 3) := by decide +kernel
theorem d_X7_init_37 : decode cX7_init 37 = .ok (.newarray .int, 2) := by decide +kernel
theorem d_X7_init_39 : decode cX7_init 39 = .ok (.putfield 28, 3) := by decide +kernel
theorem d_X7_init_42 : decode cX7_init 42 = .ok (.aload_n 0, 1) := by decide +kernel
theorem d_X7_init_43 : decode cX7_init 43 = .ok (.bipush 6, 2) := by decide +kernel
theorem d_X7_init_45 : decode cX7_init 45 = .ok (.newarray .int, 2) := by decide +kernel
theorem d_X7_init_47 : decode cX7_init 47 = .ok (.putfield 32, 3) := by decide +kernel
theorem d_X7_init_50 : decode cX7_init 50 = .ok (.return_, 1) := by decide +kernel
theorem d_X7_put_0 : decode cX7_put 0 = .ok (.bipush 24, 2) := by decide +kernel
theorem d_X7_put_2 : decode cX7_put 2 = .ok (.istore_n 2, 1) := by decide +kernel
theorem d_X7_put_3 : decode cX7_put 3 = .ok (.iload_n 2, 1) := by decide +kernel
theorem d_X7_put_4 : decode cX7_put 4 = .ok (.ifCond .lt 42, 3) := by decide +kernel
theorem d_X7_put_7 : decode cX7_put 7 = .ok (.aload_n 0, 1) := by decide +kernel
theorem d_X7_put_8 : decode cX7_put 8 = .ok (.getfield 9, 3) := by decide +kernel
theorem d_X7_put_11 : decode cX7_put 11 = .ok (.sipush 400, 3) := by decide +kernel
theorem d_X7_put_14 : decode cX7_put 14 = .ok (.if_icmp .ge 32, 3) := by decide +kernel
theorem d_X7_put_17 : decode cX7_put 17 = .ok (.aload_n 0, 1) := by decide +kernel
theorem d_X7_put_18 : decode cX7_put 18 = .ok (.getfield 24, 3) := by decide +kernel
theorem d_X7_put_21 : decode cX7_put 21 = .ok (.aload_n 0, 1) := by decide +kernel
theorem d_X7_put_22 : decode cX7_put 22 = .ok (.getfield 9, 3) := by decide +kernel
theorem d_X7_put_25 : decode cX7_put 25 = .ok (.iload_n 1, 1) := by decide +kernel
theorem d_X7_put_26 : decode cX7_put 26 = .ok (.iload_n 2, 1) := by decide +kernel
theorem d_X7_put_27 : decode cX7_put 27 = .ok (.ishr, 1) := by decide +kernel
theorem d_X7_put_28 : decode cX7_put 28 = .ok (.i2b, 1) := by decide +kernel
theorem d_X7_put_29 : decode cX7_put 29 = .ok (.bastore, 1) := by decide +kernel
theorem d_X7_put_30 : decode cX7_put 30 = .ok (.aload_n 0, 1) := by decide +kernel
theorem d_X7_put_31 : decode cX7_put 31 = .ok (.dup, 1) := by decide +kernel
theorem d_X7_put_32 : decode cX7_put 32 = .ok (.getfield 9, 3) := by decide +kernel
theorem d_X7_put_35 : decode cX7_put 35 = .ok (.iconst 1, 1) := by decide +kernel
theorem d_X7_put_36 : decode cX7_put 36 = .ok (.iadd, 1) := by decide +kernel
theorem d_X7_put_37 : decode cX7_put 37 = .ok (.putfield 9, 3) := by decide +kernel
theorem d_X7_put_40 : decode cX7_put 40 = .ok (.iinc 2 (-8), 3) := by decide +kernel
theorem d_X7_put_43 : decode cX7_put 43 = .ok (.goto (-40), 3) := by decide +kernel
theorem d_X7_put_46 : decode cX7_put 46 = .ok (.return_, 1) := by decide +kernel
theorem d_X7_read_0 : decode cX7_read 0 = .ok (.aload_n 0, 1) := by decide +kernel
theorem d_X7_read_1 : decode cX7_read 1 = .ok (.iconst 0, 1) := by decide +kernel
theorem d_X7_read_2 : decode cX7_read 2 = .ok (.putfield 15, 3) := by decide +kernel
theorem d_X7_read_5 : decode cX7_read 5 = .ok (.aload_n 0, 1) := by decide +kernel
theorem d_X7_read_6 : decode cX7_read 6 = .ok (.iconst (-1), 1) := by decide +kernel
theorem d_X7_read_7 : decode cX7_read 7 = .ok (.putfield 18, 3) := by decide +kernel
theorem d_X7_read_10 : decode cX7_read 10 = .ok (.aload_n 0, 1) := by decide +kernel
theorem d_X7_read_11 : decode cX7_read 11 = .ok (.iconst 0, 1) := by decide +kernel
theorem d_X7_read_12 : decode cX7_read 12 = .ok (.putfield 21, 3) := by decide +kernel
theorem d_X7_read_15 : decode cX7_read 15 = .ok (.aload_n 0, 1) := by decide +kernel
theorem d_X7_read_16 : decode cX7_read 16 = .ok (.getfield 28, 3) := by decide +kernel
theorem d_X7_read_19 : decode cX7_read 19 = .ok (.iconst 0, 1) := by decide +kernel
theorem d_X7_read_20 : decode cX7_read 20 = .ok (.invokestatic 35, 3) := by decide +kernel
theorem d_X7_read_23 : decode cX7_read 23 = .ok (.aload_n 0, 1) := by decide +kernel
theorem d_X7_read_24 : decode cX7_read 24 = .ok (.getfield 32, 3) := by decide +kernel
theorem d_X7_read_27 : decode cX7_read 27 = .ok (.iconst 0, 1) := by decide +kernel
theorem d_X7_read_28 : decode cX7_read 28 = .ok (.invokestatic 35, 3) := by decide +kernel
theorem d_X7_read_31 : decode cX7_read 31 = .ok (.iconst 0, 1) := by decide +kernel
theorem d_X7_read_32 : decode cX7_read 32 = .ok (.istore_n 3, 1) := by decide +kernel
theorem d_X7_read_33 : decode cX7_read 33 = .ok (.iconst 0, 1) := by decide +kernel
theorem d_X7_read_34 : decode cX7_read 34 = .ok (.istore 4, 2) := by decide +kernel
theorem d_X7_read_36 : decode cX7_read 36 = .ok (.iload 4, 2) := by decide +kernel
theorem d_X7_read_38 : decode cX7_read 38 = .ok (.sipush 400, 3) := by decide +kernel
theorem d_X7_read_41 : decode cX7_read 41 = .ok (.if_icmp .ge 40, 3) := by decide +kernel
theorem d_X7_read_44 : decode cX7_read 44 = .ok (.aload_n 0, 1) := by decide +kernel
theorem d_X7_read_45 : decode cX7_read 45 = .ok (.invokevirtual 41, 3) := by decide +kernel
theorem d_X7_read_48 : decode cX7_read 48 = .ok (.aload_n 0, 1) := by decide +kernel
theorem d_X7_read_49 : decode cX7_read 49 = .ok (.getfield 21, 3) := by decide +kernel
theorem d_X7_read_52 : decode cX7_read 52 = .ok (.aload_n 0, 1) := by decide +kernel
theorem d_X7_read_53 : decode cX7_read 53 = .ok (.getfield 9, 3) := by decide +kernel
theorem d_X7_read_56 : decode cX7_read 56 = .ok (.if_icmp .lt 5, 3) := by decide +kernel
theorem d_X7_read_59 : decode cX7_read 59 = .ok (.iload_n 3, 1) := by decide +kernel
theorem d_X7_read_60 : decode cX7_read 60 = .ok (.ireturn, 1) := by decide +kernel
theorem d_X7_read_61 : decode cX7_read 61 = .ok (.aload_n 0, 1) := by decide +kernel
theorem d_X7_read_62 : decode cX7_read 62 = .ok (.iload_n 1, 1) := by decide +kernel
theorem d_X7_read_63 : decode cX7_read 63 = .ok (.iload_n 2, 1) := by decide +kernel
theorem d_X7_read_64 : decode cX7_read 64 = .ok (.invokevirtual 44, 3) := by decide +kernel
theorem d_X7_read_67 : decode cX7_read 67 = .ok (.ifCond .ne 5, 3) := by decide +kernel
theorem d_X7_read_70 : decode cX7_read 70 = .ok (.iconst (-1), 1) := by decide +kernel
theorem d_X7_read_71 : decode cX7_read 71 = .ok (.ireturn, 1) := by decide +kernel
theorem d_X7_read_72 : decode cX7_read 72 = .ok (.iinc 3 1, 3) := by decide +kernel
theorem d_X7_read_75 : decode cX7_read 75 = .ok (.iinc 4 1, 3) := by decide +kernel
theorem d_X7_read_78 : decode cX7_read 78 = .ok (.goto (-42), 3) := by decide +kernel
theorem d_X7_read_81 : decode cX7_read 81 = .ok (.iload_n 3, 1) := by decide +kernel
theorem d_X7_read_82 : decode cX7_read 82 = .ok (.ireturn, 1) := by decide +kernel
theorem d_X7_readRow_0 : decode cX7_readRow 0 = .ok (.aload_n 0, 1) := by decide +kernel
theorem d_X7_readRow_1 : decode cX7_readRow 1 = .ok (.getfield 21, 3) := by decide +kernel
theorem d_X7_readRow_4 : decode cX7_readRow 4 = .ok (.istore_n 3, 1) := by decide +kernel
theorem d_X7_readRow_5 : decode cX7_readRow 5 = .ok (.aload_n 0, 1) := by decide +kernel
theorem d_X7_readRow_6 : decode cX7_readRow 6 = .ok (.iload_n 1, 1) := by decide +kernel
theorem d_X7_readRow_7 : decode cX7_readRow 7 = .ok (.invokevirtual 48, 3) := by decide +kernel
theorem d_X7_readRow_10 : decode cX7_readRow 10 = .ok (.istore 4, 2) := by decide +kernel
theorem d_X7_readRow_12 : decode cX7_readRow 12 = .ok (.iload 4, 2) := by decide +kernel
theorem d_X7_readRow_14 : decode cX7_readRow 14 = .ok (.iconst (-1), 1) := by decide +kernel
theorem d_X7_readRow_15 : decode cX7_readRow 15 = .ok (.if_icmp .ne 10, 3) := by decide +kernel
theorem d_X7_readRow_18 : decode cX7_readRow 18 = .ok (.aload_n 0, 1) := by decide +kernel
theorem d_X7_readRow_19 : decode cX7_readRow 19 = .ok (.iconst 1, 1) := by decide +kernel
theorem d_X7_readRow_20 : decode cX7_readRow 20 = .ok (.iload_n 3, 1) := by decide +kernel
theorem d_X7_readRow_21 : decode cX7_readRow 21 = .ok (.invokevirtual 52, 3) := by decide +kernel
theorem d_X7_readRow_24 : decode cX7_readRow 24 = .ok (.ireturn, 1) := by decide +kernel
theorem d_X7_readRow_25 : decode cX7_readRow 25 = .ok (.aload_n 0, 1) := by decide +kernel
theorem d_X7_readRow_26 : decode cX7_readRow 26 = .ok (.getfield 32, 3) := by decide +kernel
theorem d_X7_readRow_29 : decode cX7_readRow 29 = .ok (.iload 4, 2) := by decide +kernel
theorem d_X7_readRow_31 : decode cX7_readRow 31 = .ok (.iaload, 1) := by decide +kernel
theorem d_X7_readRow_32 : decode cX7_readRow 32 = .ok (.ifCond .le 10, 3) := by decide +kernel
theorem d_X7_readRow_35 : decode cX7_readRow 35 = .ok (.aload_n 0, 1) := by decide +kernel
theorem d_X7_readRow_36 : decode cX7_readRow 36 = .ok (.iconst 3, 1) := by decide +kernel
theorem d_X7_readRow_37 : decode cX7_readRow 37 = .ok (.iload_n 3, 1) := by decide +kernel
theorem d_X7_readRow_38 : decode cX7_readRow 38 = .ok (.invokevirtual 52, 3) := by decide +kernel
theorem d_X7_readRow_41 : decode cX7_readRow 41 = .ok (.ireturn, 1) := by decide +kernel
theorem d_X7_readRow_42 : decode cX7_readRow 42 = .ok (.aload_n 0, 1) := by decide +kernel
theorem d_X7_readRow_43 : decode cX7_readRow 43 = .ok (.invokevirtual 41, 3) := by decide +kernel
theorem d_X7_readRow_46 : decode cX7_readRow 46 = .ok (.aload_n 0, 1) := by decide +kernel
theorem d_X7_readRow_47 : decode cX7_readRow 47 = .ok (.invokevirtual 55, 3) := by decide +kernel
theorem d_X7_readRow_50 : decode cX7_readRow 50 = .ok (.bipush 61, 2) := by decide +kernel
theorem d_X7_readRow_52 : decode cX7_readRow 52 = .ok (.if_icmp .eq 13, 3) := by decide +kernel
theorem d_X7_readRow_55 : decode cX7_readRow 55 = .ok (.aload_n 0, 1) := by decide +kernel
theorem d_X7_readRow_56 : decode cX7_readRow 56 = .ok (.iconst 1, 1) := by decide +kernel
theorem d_X7_readRow_57 : decode cX7_readRow 57 = .ok (.aload_n 0, 1) := by decide +kernel
theorem d_X7_readRow_58 : decode cX7_readRow 58 = .ok (.getfield 21, 3) := by decide +kernel
theorem d_X7_readRow_61 : decode cX7_readRow 61 = .ok (.invokevirtual 52, 3) := by decide +kernel
theorem d_X7_readRow_64 : decode cX7_readRow 64 = .ok (.ireturn, 1) := by decide +kernel
theorem d_X7_readRow_65 : decode cX7_readRow 65 = .ok (.aload_n 0, 1) := by decide +kernel
theorem d_X7_readRow_66 : decode cX7_readRow 66 = .ok (.dup, 1) := by decide +kernel
theorem d_X7_readRow_67 : decode cX7_readRow 67 = .ok (.getfield 21, 3) := by decide +kernel
theorem d_X7_readRow_70 : decode cX7_readRow 70 = .ok (.iconst 1, 1) := by decide +kernel
theorem d_X7_readRow_71 : decode cX7_readRow 71 = .ok (.iadd, 1) := by decide +kernel
theorem d_X7_readRow_72 : decode cX7_readRow 72 = .ok (.putfield 21, 3) := by decide +kernel
theorem d_X7_readRow_75 : decode cX7_readRow 75 = .ok (.aload_n 0, 1) := by decide +kernel
theorem d_X7_readRow_76 : decode cX7_readRow 76 = .ok (.iload 4, 2) := by decide +kernel
theorem d_X7_readRow_78 : decode cX7_readRow 78 = .ok (.iload_n 2, 1) := by decide +kernel
theorem d_X7_readRow_79 : decode cX7_readRow 79 = .ok (.invokevirtual 59, 3) := by decide +kernel
theorem d_X7_readRow_82 : decode cX7_readRow 82 = .ok (.ireturn, 1) := by decide +kernel
theorem d_X7_readName_0 : decode cX7_readName 0 = .ok (.aload_n 0, 1) := by decide +kernel
theorem d_X7_readName_1 : decode cX7_readName 1 = .ok (.invokevirtual 55, 3) := by decide +kernel
theorem d_X7_readName_4 : decode cX7_readName 4 = .ok (.istore_n 2, 1) := by decide +kernel
theorem d_X7_readName_5 : decode cX7_readName 5 = .ok (.aload_n 0, 1) := by decide +kernel
theorem d_X7_readName_6 : decode cX7_readName 6 = .ok (.dup, 1) := by decide +kernel
theorem d_X7_readName_7 : decode cX7_readName 7 = .ok (.getfield 21, 3) := by decide +kernel
theorem d_X7_readName_10 : decode cX7_readName 10 = .ok (.iconst 1, 1) := by decide +kernel
theorem d_X7_readName_11 : decode cX7_readName 11 = .ok (.iadd, 1) := by decide +kernel
theorem d_X7_readName_12 : decode cX7_readName 12 = .ok (.putfield 21, 3) := by decide +kernel
theorem d_X7_readName_15 : decode cX7_readName 15 = .ok (.iload_n 2, 1) := by decide +kernel
theorem d_X7_readName_16 : decode cX7_readName 16 = .ok (.bipush 114, 2) := by decide +kernel
theorem d_X7_readName_18 : decode cX7_readName 18 = .ok (.if_icmp .ne 5, 3) := by decide +kernel
theorem d_X7_readName_21 : decode cX7_readName 21 = .ok (.iload_n 1, 1) := by decide +kernel
theorem d_X7_readName_22 : decode cX7_readName 22 = .ok (.ireturn, 1) := by decide +kernel
theorem d_X7_readName_23 : decode cX7_readName 23 = .ok (.aload_n 0, 1) := by decide +kernel
theorem d_X7_readName_24 : decode cX7_readName 24 = .ok (.invokevirtual 55, 3) := by decide +kernel
theorem d_X7_readName_27 : decode cX7_readName 27 = .ok (.istore_n 3, 1) := by decide +kernel
theorem d_X7_readName_28 : decode cX7_readName 28 = .ok (.aload_n 0, 1) := by decide +kernel
theorem d_X7_readName_29 : decode cX7_readName 29 = .ok (.dup, 1) := by decide +kernel
theorem d_X7_readName_30 : decode cX7_readName 30 = .ok (.getfield 21, 3) := by decide +kernel
theorem d_X7_readName_33 : decode cX7_readName 33 = .ok (.iconst 1, 1) := by decide +kernel
theorem d_X7_readName_34 : decode cX7_readName 34 = .ok (.iadd, 1) := by decide +kernel
theorem d_X7_readName_35 : decode cX7_readName 35 = .ok (.putfield 21, 3) := by decide +kernel
theorem d_X7_readName_38 : decode cX7_readName 38 = .ok (.iload_n 2, 1) := by decide +kernel
theorem d_X7_readName_39 : decode cX7_readName 39 = .ok (.bipush 112, 2) := by decide +kernel
theorem d_X7_readName_41 : decode cX7_readName 41 = .ok (.if_icmp .ne 24, 3) := by decide +kernel
theorem d_X7_readName_44 : decode cX7_readName 44 = .ok (.iload_n 3, 1) := by decide +kernel
theorem d_X7_readName_45 : decode cX7_readName 45 = .ok (.bipush 49, 2) := by decide +kernel
theorem d_X7_readName_47 : decode cX7_readName 47 = .ok (.if_icmp .lt 18, 3) := by decide +kernel
theorem d_X7_readName_50 : decode cX7_readName 50 = .ok (.iload_n 3, 1) := by decide +kernel
theorem d_X7_readName_51 : decode cX7_readName 51 = .ok (.bipush 49, 2) := by decide +kernel
theorem d_X7_readName_53 : decode cX7_readName 53 = .ok (.iload_n 1, 1) := by decide +kernel
theorem d_X7_readName_54 : decode cX7_readName 54 = .ok (.iadd, 1) := by decide +kernel
theorem d_X7_readName_55 : decode cX7_readName 55 = .ok (.if_icmp .ge 10, 3) := by decide +kernel
theorem d_X7_readName_58 : decode cX7_readName 58 = .ok (.iload_n 3, 1) := by decide +kernel
theorem d_X7_readName_59 : decode cX7_readName 59 = .ok (.bipush 49, 2) := by decide +kernel
theorem d_X7_readName_61 : decode cX7_readName 61 = .ok (.isub, 1) := by decide +kernel
theorem d_X7_readName_62 : decode cX7_readName 62 = .ok (.goto 4, 3) := by decide +kernel
theorem d_X7_readName_65 : decode cX7_readName 65 = .ok (.iconst (-1), 1) := by decide +kernel
theorem d_X7_readName_66 : decode cX7_readName 66 = .ok (.ireturn, 1) := by decide +kernel
theorem d_X7_readNumbers_0 : decode cX7_readNumbers 0 = .ok (.iconst 0, 1) := by decide +kernel
theorem d_X7_readNumbers_1 : decode cX7_readNumbers 1 = .ok (.istore_n 3, 1) := by decide +kernel
theorem d_X7_readNumbers_2 : decode cX7_readNumbers 2 = .ok (.iload_n 3, 1) := by decide +kernel
theorem d_X7_readNumbers_3 : decode cX7_readNumbers 3 = .ok (.bipush 24, 2) := by decide +kernel
theorem d_X7_readNumbers_5 : decode cX7_readNumbers 5 = .ok (.if_icmp .gt 109, 3) := by decide +kernel
theorem d_X7_readNumbers_8 : decode cX7_readNumbers 8 = .ok (.aload_n 0, 1) := by decide +kernel
theorem d_X7_readNumbers_9 : decode cX7_readNumbers 9 = .ok (.invokevirtual 41, 3) := by decide +kernel
theorem d_X7_readNumbers_12 : decode cX7_readNumbers 12 = .ok (.iload_n 3, 1) := by decide +kernel
theorem d_X7_readNumbers_13 : decode cX7_readNumbers 13 = .ok (.ifCond .le 24, 3) := by decide +kernel
theorem d_X7_readNumbers_16 : decode cX7_readNumbers 16 = .ok (.aload_n 0, 1) := by decide +kernel
theorem d_X7_readNumbers_17 : decode cX7_readNumbers 17 = .ok (.invokevirtual 55, 3) := by decide +kernel
theorem d_X7_readNumbers_20 : decode cX7_readNumbers 20 = .ok (.bipush 59, 2) := by decide +kernel
theorem d_X7_readNumbers_22 : decode cX7_readNumbers 22 = .ok (.if_icmp .ne 15, 3) := by decide +kernel
theorem d_X7_readNumbers_25 : decode cX7_readNumbers 25 = .ok (.aload_n 0, 1) := by decide +kernel
theorem d_X7_readNumbers_26 : decode cX7_readNumbers 26 = .ok (.dup, 1) := by decide +kernel
theorem d_X7_readNumbers_27 : decode cX7_readNumbers 27 = .ok (.getfield 21, 3) := by decide +kernel
theorem d_X7_readNumbers_30 : decode cX7_readNumbers 30 = .ok (.iconst 1, 1) := by decide +kernel
theorem d_X7_readNumbers_31 : decode cX7_readNumbers 31 = .ok (.iadd, 1) := by decide +kernel
theorem d_X7_readNumbers_32 : decode cX7_readNumbers 32 = .ok (.putfield 21, 3) := by decide +kernel
theorem d_X7_readNumbers_35 : decode cX7_readNumbers 35 = .ok (.iconst 1, 1) := by decide +kernel
theorem d_X7_readNumbers_36 : decode cX7_readNumbers 36 = .ok (.ireturn, 1) := by decide +kernel
theorem d_X7_readNumbers_37 : decode cX7_readNumbers 37 = .ok (.aload_n 0, 1) := by decide +kernel
theorem d_X7_readNumbers_38 : decode cX7_readNumbers 38 = .ok (.invokevirtual 62, 3) := by decide +kernel
theorem d_X7_readNumbers_41 : decode cX7_readNumbers 41 = .ok (.ifCond .eq 9, 3) := by decide +kernel
theorem d_X7_readNumbers_44 : decode cX7_readNumbers 44 = .ok (.iload_n 3, 1) := by decide +kernel
theorem d_X7_readNumbers_45 : decode cX7_readNumbers 45 = .ok (.bipush 24, 2) := by decide +kernel
theorem d_X7_readNumbers_47 : decode cX7_readNumbers 47 = .ok (.if_icmp .ne 13, 3) := by decide +kernel
theorem d_X7_readNumbers_50 : decode cX7_readNumbers 50 = .ok (.aload_n 0, 1) := by decide +kernel
theorem d_X7_readNumbers_51 : decode cX7_readNumbers 51 = .ok (.iconst 1, 1) := by decide +kernel
theorem d_X7_readNumbers_52 : decode cX7_readNumbers 52 = .ok (.aload_n 0, 1) := by decide +kernel
theorem d_X7_readNumbers_53 : decode cX7_readNumbers 53 = .ok (.getfield 21, 3) := by decide +kernel
theorem d_X7_readNumbers_56 : decode cX7_readNumbers 56 = .ok (.invokevirtual 52, 3) := by decide +kernel
theorem d_X7_readNumbers_59 : decode cX7_readNumbers 59 = .ok (.ireturn, 1) := by decide +kernel
theorem d_X7_readNumbers_60 : decode cX7_readNumbers 60 = .ok (.aload_n 0, 1) := by decide +kernel
theorem d_X7_readNumbers_61 : decode cX7_readNumbers 61 = .ok (.getfield 21, 3) := by decide +kernel
theorem d_X7_readNumbers_64 : decode cX7_readNumbers 64 = .ok (.istore 4, 2) := by decide +kernel
theorem d_X7_readNumbers_66 : decode cX7_readNumbers 66 = .ok (.aload_n 0, 1) := by decide +kernel
theorem d_X7_readNumbers_67 : decode cX7_readNumbers 67 = .ok (.invokevirtual 66, 3) := by decide +kernel
theorem d_X7_readNumbers_70 : decode cX7_readNumbers 70 = .ok (.istore 5, 2) := by decide +kernel
theorem d_X7_readNumbers_72 : decode cX7_readNumbers 72 = .ok (.iload 5, 2) := by decide +kernel
theorem d_X7_readNumbers_74 : decode cX7_readNumbers 74 = .ok (.iload_n 2, 1) := by decide +kernel
theorem d_X7_readNumbers_75 : decode cX7_readNumbers 75 = .ok (.if_icmp .lt 11, 3) := by decide +kernel
theorem d_X7_readNumbers_78 : decode cX7_readNumbers 78 = .ok (.aload_n 0, 1) := by decide +kernel
theorem d_X7_readNumbers_79 : decode cX7_readNumbers 79 = .ok (.iconst 2, 1) := by decide +kernel
theorem d_X7_readNumbers_80 : decode cX7_readNumbers 80 = .ok (.iload 4, 2) := by decide +kernel
theorem d_X7_readNumbers_82 : decode cX7_readNumbers 82 = .ok (.invokevirtual 52, 3) := by decide +kernel
theorem d_X7_readNumbers_85 : decode cX7_readNumbers 85 = .ok (.ireturn, 1) := by decide +kernel
theorem d_X7_readNumbers_86 : decode cX7_readNumbers 86 = .ok (.aload_n 0, 1) := by decide +kernel
theorem d_X7_readNumbers_87 : decode cX7_readNumbers 87 = .ok (.getfield 28, 3) := by decide +kernel
theorem d_X7_readNumbers_90 : decode cX7_readNumbers 90 = .ok (.iload_n 1, 1) := by decide +kernel
theorem d_X7_readNumbers_91 : decode cX7_readNumbers 91 = .ok (.bipush 24, 2) := by decide +kernel
theorem d_X7_readNumbers_93 : decode cX7_readNumbers 93 = .ok (.imul, 1) := by decide +kernel
theorem d_X7_readNumbers_94 : decode cX7_readNumbers 94 = .ok (.iload_n 3, 1) := by decide +kernel
theorem d_X7_readNumbers_95 : decode cX7_readNumbers 95 = .ok (.iadd, 1) := by decide +kernel
theorem d_X7_readNumbers_96 : decode cX7_readNumbers 96 = .ok (.iload 5, 2) := by decide +kernel
theorem d_X7_readNumbers_98 : decode cX7_readNumbers 98 = .ok (.iastore, 1) := by decide +kernel
theorem d_X7_readNumbers_99 : decode cX7_readNumbers 99 = .ok (.aload_n 0, 1) := by decide +kernel
theorem d_X7_readNumbers_100 : decode cX7_readNumbers 100 = .ok (.getfield 32, 3) := by decide +kernel
theorem d_X7_readNumbers_103 : decode cX7_readNumbers 103 = .ok (.iload_n 1, 1) := by decide +kernel
theorem d_X7_readNumbers_104 : decode cX7_readNumbers 104 = .ok (.iload_n 3, 1) := by decide +kernel
theorem d_X7_readNumbers_105 : decode cX7_readNumbers 105 = .ok (.iconst 1, 1) := by decide +kernel
theorem d_X7_readNumbers_106 : decode cX7_readNumbers 106 = .ok (.iadd, 1) := by decide +kernel
theorem d_X7_readNumbers_107 : decode cX7_readNumbers 107 = .ok (.iastore, 1) := by decide +kernel
theorem d_X7_readNumbers_108 : decode cX7_readNumbers 108 = .ok (.iinc 3 1, 3) := by decide +kernel
theorem d_X7_readNumbers_111 : decode cX7_readNumbers 111 = .ok (.goto (-109), 3) := by decide +kernel
theorem d_X7_readNumbers_114 : decode cX7_readNumbers 114 = .ok (.iconst 0, 1) := by decide +kernel
theorem d_X7_readNumbers_115 : decode cX7_readNumbers 115 = .ok (.ireturn, 1) := by decide +kernel
theorem d_X7_readNumber_0 : decode cX7_readNumber 0 = .ok (.iconst 0, 1) := by decide +kernel
theorem d_X7_readNumber_1 : decode cX7_readNumber 1 = .ok (.istore_n 1, 1) := by decide +kernel
theorem d_X7_readNumber_2 : decode cX7_readNumber 2 = .ok (.iconst 0, 1) := by decide +kernel
theorem d_X7_readNumber_3 : decode cX7_readNumber 3 = .ok (.istore_n 2, 1) := by decide +kernel
theorem d_X7_readNumber_4 : decode cX7_readNumber 4 = .ok (.iload_n 2, 1) := by decide +kernel
theorem d_X7_readNumber_5 : decode cX7_readNumber 5 = .ok (.sipush 400, 3) := by decide +kernel
theorem d_X7_readNumber_8 : decode cX7_readNumber 8 = .ok (.if_icmp .ge 44, 3) := by decide +kernel
theorem d_X7_readNumber_11 : decode cX7_readNumber 11 = .ok (.aload_n 0, 1) := by decide +kernel
theorem d_X7_readNumber_12 : decode cX7_readNumber 12 = .ok (.invokevirtual 62, 3) := by decide +kernel
theorem d_X7_readNumber_15 : decode cX7_readNumber 15 = .ok (.ifCond .eq 37, 3) := by decide +kernel
theorem d_X7_readNumber_18 : decode cX7_readNumber 18 = .ok (.iload_n 1, 1) := by decide +kernel
theorem d_X7_readNumber_19 : decode cX7_readNumber 19 = .ok (.bipush 10, 2) := by decide +kernel
theorem d_X7_readNumber_21 : decode cX7_readNumber 21 = .ok (.imul, 1) := by decide +kernel
theorem d_X7_readNumber_22 : decode cX7_readNumber 22 = .ok (.aload_n 0, 1) := by decide +kernel
theorem d_X7_readNumber_23 : decode cX7_readNumber 23 = .ok (.invokevirtual 55, 3) := by decide +kernel
theorem d_X7_readNumber_26 : decode cX7_readNumber 26 = .ok (.iadd, 1) := by decide +kernel
theorem d_X7_readNumber_27 : decode cX7_readNumber 27 = .ok (.bipush 48, 2) := by decide +kernel
theorem d_X7_readNumber_29 : decode cX7_readNumber 29 = .ok (.isub, 1) := by decide +kernel
theorem d_X7_readNumber_30 : decode cX7_readNumber 30 = .ok (.bipush 48, 2) := by decide +kernel
theorem d_X7_readNumber_32 : decode cX7_readNumber 32 = .ok (.invokestatic 69, 3) := by decide +kernel
theorem d_X7_readNumber_35 : decode cX7_readNumber 35 = .ok (.istore_n 1, 1) := by decide +kernel
theorem d_X7_readNumber_36 : decode cX7_readNumber 36 = .ok (.aload_n 0, 1) := by decide +kernel
theorem d_X7_readNumber_37 : decode cX7_readNumber 37 = .ok (.dup, 1) := by decide +kernel
theorem d_X7_readNumber_38 : decode cX7_readNumber 38 = .ok (.getfield 21, 3) := by decide +kernel
theorem d_X7_readNumber_41 : decode cX7_readNumber 41 = .ok (.iconst 1, 1) := by decide +kernel
theorem d_X7_readNumber_42 : decode cX7_readNumber 42 = .ok (.iadd, 1) := by decide +kernel
theorem d_X7_readNumber_43 : decode cX7_readNumber 43 = .ok (.putfield 21, 3) := by decide +kernel
theorem d_X7_readNumber_46 : decode cX7_readNumber 46 = .ok (.iinc 2 1, 3) := by decide +kernel
theorem d_X7_readNumber_49 : decode cX7_readNumber 49 = .ok (.goto (-45), 3) := by decide +kernel
theorem d_X7_readNumber_52 : decode cX7_readNumber 52 = .ok (.iload_n 1, 1) := by decide +kernel
theorem d_X7_readNumber_53 : decode cX7_readNumber 53 = .ok (.ireturn, 1) := by decide +kernel
theorem d_X7_skipBlanks_0 : decode cX7_skipBlanks 0 = .ok (.iconst 0, 1) := by decide +kernel
theorem d_X7_skipBlanks_1 : decode cX7_skipBlanks 1 = .ok (.istore_n 1, 1) := by decide +kernel
theorem d_X7_skipBlanks_2 : decode cX7_skipBlanks 2 = .ok (.iload_n 1, 1) := by decide +kernel
theorem d_X7_skipBlanks_3 : decode cX7_skipBlanks 3 = .ok (.sipush 400, 3) := by decide +kernel
theorem d_X7_skipBlanks_6 : decode cX7_skipBlanks 6 = .ok (.if_icmp .ge 28, 3) := by decide +kernel
theorem d_X7_skipBlanks_9 : decode cX7_skipBlanks 9 = .ok (.aload_n 0, 1) := by decide +kernel
theorem d_X7_skipBlanks_10 : decode cX7_skipBlanks 10 = .ok (.invokevirtual 55, 3) := by decide +kernel
theorem d_X7_skipBlanks_13 : decode cX7_skipBlanks 13 = .ok (.bipush 32, 2) := by decide +kernel
theorem d_X7_skipBlanks_15 : decode cX7_skipBlanks 15 = .ok (.if_icmp .ne 19, 3) := by decide +kernel
theorem d_X7_skipBlanks_18 : decode cX7_skipBlanks 18 = .ok (.aload_n 0, 1) := by decide +kernel
theorem d_X7_skipBlanks_19 : decode cX7_skipBlanks 19 = .ok (.dup, 1) := by decide +kernel
theorem d_X7_skipBlanks_20 : decode cX7_skipBlanks 20 = .ok (.getfield 21, 3) := by decide +kernel
theorem d_X7_skipBlanks_23 : decode cX7_skipBlanks 23 = .ok (.iconst 1, 1) := by decide +kernel
theorem d_X7_skipBlanks_24 : decode cX7_skipBlanks 24 = .ok (.iadd, 1) := by decide +kernel
theorem d_X7_skipBlanks_25 : decode cX7_skipBlanks 25 = .ok (.putfield 21, 3) := by decide +kernel
theorem d_X7_skipBlanks_28 : decode cX7_skipBlanks 28 = .ok (.iinc 1 1, 3) := by decide +kernel
theorem d_X7_skipBlanks_31 : decode cX7_skipBlanks 31 = .ok (.goto (-29), 3) := by decide +kernel
theorem d_X7_skipBlanks_34 : decode cX7_skipBlanks 34 = .ok (.return_, 1) := by decide +kernel
theorem d_X7_digitHere_0 : decode cX7_digitHere 0 = .ok (.aload_n 0, 1) := by decide +kernel
theorem d_X7_digitHere_1 : decode cX7_digitHere 1 = .ok (.invokevirtual 55, 3) := by decide +kernel
theorem d_X7_digitHere_4 : decode cX7_digitHere 4 = .ok (.istore_n 1, 1) := by decide +kernel
theorem d_X7_digitHere_5 : decode cX7_digitHere 5 = .ok (.iload_n 1, 1) := by decide +kernel
theorem d_X7_digitHere_6 : decode cX7_digitHere 6 = .ok (.bipush 48, 2) := by decide +kernel
theorem d_X7_digitHere_8 : decode cX7_digitHere 8 = .ok (.if_icmp .lt 13, 3) := by decide +kernel
theorem d_X7_digitHere_11 : decode cX7_digitHere 11 = .ok (.iload_n 1, 1) := by decide +kernel
theorem d_X7_digitHere_12 : decode cX7_digitHere 12 = .ok (.bipush 57, 2) := by decide +kernel
theorem d_X7_digitHere_14 : decode cX7_digitHere 14 = .ok (.if_icmp .gt 7, 3) := by decide +kernel
theorem d_X7_digitHere_17 : decode cX7_digitHere 17 = .ok (.iconst 1, 1) := by decide +kernel
theorem d_X7_digitHere_18 : decode cX7_digitHere 18 = .ok (.goto 4, 3) := by decide +kernel
theorem d_X7_digitHere_21 : decode cX7_digitHere 21 = .ok (.iconst 0, 1) := by decide +kernel
theorem d_X7_digitHere_22 : decode cX7_digitHere 22 = .ok (.ireturn, 1) := by decide +kernel
theorem d_X7_byteHere_0 : decode cX7_byteHere 0 = .ok (.aload_n 0, 1) := by decide +kernel
theorem d_X7_byteHere_1 : decode cX7_byteHere 1 = .ok (.getfield 21, 3) := by decide +kernel
theorem d_X7_byteHere_4 : decode cX7_byteHere 4 = .ok (.aload_n 0, 1) := by decide +kernel
theorem d_X7_byteHere_5 : decode cX7_byteHere 5 = .ok (.getfield 9, 3) := by decide +kernel
theorem d_X7_byteHere_8 : decode cX7_byteHere 8 = .ok (.if_icmp .ge 19, 3) := by decide +kernel
theorem d_X7_byteHere_11 : decode cX7_byteHere 11 = .ok (.aload_n 0, 1) := by decide +kernel
theorem d_X7_byteHere_12 : decode cX7_byteHere 12 = .ok (.getfield 24, 3) := by decide +kernel
theorem d_X7_byteHere_15 : decode cX7_byteHere 15 = .ok (.aload_n 0, 1) := by decide +kernel
theorem d_X7_byteHere_16 : decode cX7_byteHere 16 = .ok (.getfield 21, 3) := by decide +kernel
theorem d_X7_byteHere_19 : decode cX7_byteHere 19 = .ok (.baload, 1) := by decide +kernel
theorem d_X7_byteHere_20 : decode cX7_byteHere 20 = .ok (.sipush 255, 3) := by decide +kernel
theorem d_X7_byteHere_23 : decode cX7_byteHere 23 = .ok (.iand, 1) := by decide +kernel
theorem d_X7_byteHere_24 : decode cX7_byteHere 24 = .ok (.goto 4, 3) := by decide +kernel
theorem d_X7_byteHere_27 : decode cX7_byteHere 27 = .ok (.iconst (-1), 1) := by decide +kernel
theorem d_X7_byteHere_28 : decode cX7_byteHere 28 = .ok (.ireturn, 1) := by decide +kernel
theorem d_X7_fail_0 : decode cX7_fail 0 = .ok (.aload_n 0, 1) := by decide +kernel
theorem d_X7_fail_1 : decode cX7_fail 1 = .ok (.iload_n 1, 1) := by decide +kernel
theorem d_X7_fail_2 : decode cX7_fail 2 = .ok (.putfield 15, 3) := by decide +kernel
theorem d_X7_fail_5 : decode cX7_fail 5 = .ok (.aload_n 0, 1) := by decide +kernel
theorem d_X7_fail_6 : decode cX7_fail 6 = .ok (.iload_n 2, 1) := by decide +kernel
theorem d_X7_fail_7 : decode cX7_fail 7 = .ok (.putfield 18, 3) := by decide +kernel
theorem d_X7_fail_10 : decode cX7_fail 10 = .ok (.iconst 0, 1) := by decide +kernel
theorem d_X7_fail_11 : decode cX7_fail 11 = .ok (.ireturn, 1) := by decide +kernel
theorem d_X8_init_0 : decode cX8_init 0 = .ok (.aload_n 0, 1) := by decide +kernel
theorem d_X8_init_1 : decode cX8_init 1 = .ok (.invokespecial 3, 3) := by decide +kernel
theorem d_X8_init_4 : decode cX8_init 4 = .ok (.aload_n 0, 1) := by decide +kernel
theorem d_X8_init_5 : decode cX8_init 5 = .ok (.iconst 0, 1) := by decide +kernel
theorem d_X8_init_6 : decode cX8_init 6 = .ok (.putfield 9, 3) := by decide +kernel
theorem d_X8_init_9 : decode cX8_init 9 = .ok (.aload_n 0, 1) := by decide +kernel
theorem d_X8_init_10 : decode cX8_init 10 = .ok (.iconst 0, 1) := by decide +kernel
theorem d_X8_init_11 : decode cX8_init 11 = .ok (.putfield 15, 3) := by decide +kernel
theorem d_X8_init_14 : decode cX8_init 14 = .ok (.aload_n 0, 1) := by decide +kernel
theorem d_X8_init_15 : decode cX8_init 15 = .ok (.iconst 0, 1) := by decide +kernel
theorem d_X8_init_16 : decode cX8_init 16 = .ok (.putfield 18, 3) := by decide +kernel
theorem d_X8_init_19 : decode cX8_init 19 = .ok (.aload_n 0, 1) := by decide +kernel
theorem d_X8_init_20 : decode cX8_init 20 = .ok (.iconst 0, 1) := by decide +kernel
theorem d_X8_init_21 : decode cX8_init 21 = .ok (.putfield 22, 3) := by decide +kernel
theorem d_X8_init_24 : decode cX8_init 24 = .ok (.aload_n 0, 1) := by decide +kernel
theorem d_X8_init_25 : decode cX8_init 25 = .ok (.iconst 5, 1) := by decide +kernel
theorem d_X8_init_26 : decode cX8_init 26 = .ok (.newarray .int, 2) := by decide +kernel
theorem d_X8_init_28 : decode cX8_init 28 = .ok (.putfield 25, 3) := by decide +kernel
theorem d_X8_init_31 : decode cX8_init 31 = .ok (.aload_n 0, 1) := by decide +kernel
theorem d_X8_init_32 : decode cX8_init 32 = .ok (.iconst 5, 1) := by decide +kernel
theorem d_X8_init_33 : decode cX8_init 33 = .ok (.newarray .int, 2) := by decide +kernel
theorem d_X8_init_35 : decode cX8_init 35 = .ok (.putfield 29, 3) := by decide +kernel
theorem d_X8_init_38 : decode cX8_init 38 = .ok (.aload_n 0, 1) := by decide +kernel
theorem d_X8_init_39 : decode cX8_init 39 = .ok (.iconst 0, 1) := by decide +kernel
theorem d_X8_init_40 : decode cX8_init 40 = .ok (.putfield 32, 3) := by decide +kernel
theorem d_X8_init_43 : decode cX8_init 43 = .ok (.aload_n 0, 1) := by decide +kernel
theorem d_X8_init_44 : decode cX8_init 44 = .ok (.sipush 2401, 3) := by decide +kernel
theorem d_X8_init_47 : decode cX8_init 47 = .ok (.newarray .int, 2) := by decide +kernel
theorem d_X8_init_49 : decode cX8_init 49 = .ok (.putfield 35, 3) := by decide +kernel
theorem d_X8_init_52 : decode cX8_init 52 = .ok (.aload_n 0, 1) := by decide +kernel
theorem d_X8_init_53 : decode cX8_init 53 = .ok (.sipush 2401, 3) := by decide +kernel
theorem d_X8_init_56 : decode cX8_init 56 = .ok (.newarray .byte, 2) := by decide +kernel
theorem d_X8_init_58 : decode cX8_init 58 = .ok (.putfield 38, 3) := by decide +kernel
theorem d_X8_init_61 : decode cX8_init 61 = .ok (.return_, 1) := by decide +kernel
theorem d_X8_gather_0 : decode cX8_gather 0 = .ok (.aload_n 0, 1) := by decide +kernel
theorem d_X8_gather_1 : decode cX8_gather 1 = .ok (.iconst 1, 1) := by decide +kernel
theorem d_X8_gather_2 : decode cX8_gather 2 = .ok (.putfield 9, 3) := by decide +kernel
theorem d_X8_gather_5 : decode cX8_gather 5 = .ok (.aload_n 0, 1) := by decide +kernel
theorem d_X8_gather_6 : decode cX8_gather 6 = .ok (.aload_n 1, 1) := by decide +kernel
theorem d_X8_gather_7 : decode cX8_gather 7 = .ok (.getfield 42, 3) := by decide +kernel
theorem d_X8_gather_10 : decode cX8_gather 10 = .ok (.putfield 18, 3) := by decide +kernel
theorem d_X8_gather_13 : decode cX8_gather 13 = .ok (.aload_n 0, 1) := by decide +kernel
theorem d_X8_gather_14 : decode cX8_gather 14 = .ok (.aload_n 2, 1) := by decide +kernel
theorem d_X8_gather_15 : decode cX8_gather 15 = .ok (.getfield 45, 3) := by decide +kernel
theorem d_X8_gather_18 : decode cX8_gather 18 = .ok (.putfield 22, 3) := by decide +kernel
theorem d_X8_gather_21 : decode cX8_gather 21 = .ok (.aload_n 0, 1) := by decide +kernel
theorem d_X8_gather_22 : decode cX8_gather 22 = .ok (.iload_n 3, 1) := by decide +kernel
theorem d_X8_gather_23 : decode cX8_gather 23 = .ok (.iconst (-1), 1) := by decide +kernel
theorem d_X8_gather_24 : decode cX8_gather 24 = .ok (.if_icmp .eq 7, 3) := by decide +kernel
theorem d_X8_gather_27 : decode cX8_gather 27 = .ok (.iconst 1, 1) := by decide +kernel
theorem d_X8_gather_28 : decode cX8_gather 28 = .ok (.goto 4, 3) := by decide +kernel
theorem d_X8_gather_31 : decode cX8_gather 31 = .ok (.iconst 0, 1) := by decide +kernel
theorem d_X8_gather_32 : decode cX8_gather 32 = .ok (.putfield 15, 3) := by decide +kernel
theorem d_X8_gather_35 : decode cX8_gather 35 = .ok (.aload_n 0, 1) := by decide +kernel
theorem d_X8_gather_36 : decode cX8_gather 36 = .ok (.iconst 0, 1) := by decide +kernel
theorem d_X8_gather_37 : decode cX8_gather 37 = .ok (.putfield 32, 3) := by decide +kernel
theorem d_X8_gather_40 : decode cX8_gather 40 = .ok (.aload_n 0, 1) := by decide +kernel
theorem d_X8_gather_41 : decode cX8_gather 41 = .ok (.getfield 29, 3) := by decide +kernel
theorem d_X8_gather_44 : decode cX8_gather 44 = .ok (.iconst 0, 1) := by decide +kernel
theorem d_X8_gather_45 : decode cX8_gather 45 = .ok (.invokestatic 48, 3) := by decide +kernel
theorem d_X8_gather_48 : decode cX8_gather 48 = .ok (.iload_n 3, 1) := by decide +kernel
theorem d_X8_gather_49 : decode cX8_gather 49 = .ok (.iconst (-1), 1) := by decide +kernel
theorem d_X8_gather_50 : decode cX8_gather 50 = .ok (.if_icmp .ne 4, 3) := by decide +kernel
theorem d_X8_gather_53 : decode cX8_gather 53 = .ok (.return_, 1) := by decide +kernel
theorem d_X8_gather_54 : decode cX8_gather 54 = .ok (.iconst 0, 1) := by decide +kernel
theorem d_X8_gather_55 : decode cX8_gather 55 = .ok (.istore 4, 2) := by decide +kernel
theorem d_X8_gather_57 : decode cX8_gather 57 = .ok (.iload 4, 2) := by decide +kernel
theorem d_X8_gather_59 : decode cX8_gather 59 = .ok (.aload_n 0, 1) := by decide +kernel
theorem d_X8_gather_60 : decode cX8_gather 60 = .ok (.getfield 18, 3) := by decide +kernel
theorem d_X8_gather_63 : decode cX8_gather 63 = .ok (.if_icmp .ge 23, 3) := by decide +kernel
theorem d_X8_gather_66 : decode cX8_gather 66 = .ok (.aload_n 0, 1) := by decide +kernel
theorem d_X8_gather_67 : decode cX8_gather 67 = .ok (.getfield 25, 3) := by decide +kernel
theorem d_X8_gather_70 : decode cX8_gather 70 = .ok (.iload 4, 2) := by decide +kernel
theorem d_X8_gather_72 : decode cX8_gather 72 = .ok (.aload_n 2, 1) := by decide +kernel
theorem d_X8_gather_73 : decode cX8_gather 73 = .ok (.iload_n 3, 1) := by decide +kernel
theorem d_X8_gather_74 : decode cX8_gather 74 = .ok (.iload 4, 2) := by decide +kernel
theorem d_X8_gather_76 : decode cX8_gather 76 = .ok (.invokevirtual 54, 3) := by decide +kernel
theorem d_X8_gather_79 : decode cX8_gather 79 = .ok (.iastore, 1) := by decide +kernel
theorem d_X8_gather_80 : decode cX8_gather 80 = .ok (.iinc 4 1, 3) := by decide +kernel
theorem d_X8_gather_83 : decode cX8_gather 83 = .ok (.goto (-26), 3) := by decide +kernel
theorem d_X8_gather_86 : decode cX8_gather 86 = .ok (.iconst 0, 1) := by decide +kernel
theorem d_X8_gather_87 : decode cX8_gather 87 = .ok (.istore 4, 2) := by decide +kernel
theorem d_X8_gather_89 : decode cX8_gather 89 = .ok (.iload 4, 2) := by decide +kernel
theorem d_X8_gather_91 : decode cX8_gather 91 = .ok (.aload_n 0, 1) := by decide +kernel
theorem d_X8_gather_92 : decode cX8_gather 92 = .ok (.getfield 22, 3) := by decide +kernel
theorem d_X8_gather_95 : decode cX8_gather 95 = .ok (.if_icmp .ge 17, 3) := by decide +kernel
theorem d_X8_gather_98 : decode cX8_gather 98 = .ok (.aload_n 0, 1) := by decide +kernel
theorem d_X8_gather_99 : decode cX8_gather 99 = .ok (.aload_n 1, 1) := by decide +kernel
theorem d_X8_gather_100 : decode cX8_gather 100 = .ok (.aload_n 2, 1) := by decide +kernel
theorem d_X8_gather_101 : decode cX8_gather 101 = .ok (.iload 4, 2) := by decide +kernel
theorem d_X8_gather_103 : decode cX8_gather 103 = .ok (.invokevirtual 58, 3) := by decide +kernel
theorem d_X8_gather_106 : decode cX8_gather 106 = .ok (.iinc 4 1, 3) := by decide +kernel
theorem d_X8_gather_109 : decode cX8_gather 109 = .ok (.goto (-20), 3) := by decide +kernel
theorem d_X8_gather_112 : decode cX8_gather 112 = .ok (.return_, 1) := by decide +kernel
theorem d_X8_sort_0 : decode cX8_sort 0 = .ok (.aload_n 2, 1) := by decide +kernel
theorem d_X8_sort_1 : decode cX8_sort 1 = .ok (.iload_n 3, 1) := by decide +kernel
theorem d_X8_sort_2 : decode cX8_sort 2 = .ok (.invokevirtual 62, 3) := by decide +kernel
theorem d_X8_sort_5 : decode cX8_sort 5 = .ok (.istore 4, 2) := by decide +kernel
theorem d_X8_sort_7 : decode cX8_sort 7 = .ok (.aload_n 1, 1) := by decide +kernel
theorem d_X8_sort_8 : decode cX8_sort 8 = .ok (.getfield 66, 3) := by decide +kernel
theorem d_X8_sort_11 : decode cX8_sort 11 = .ok (.iload_n 3, 1) := by decide +kernel
theorem d_X8_sort_12 : decode cX8_sort 12 = .ok (.baload, 1) := by decide +kernel
theorem d_X8_sort_13 : decode cX8_sort 13 = .ok (.iconst 1, 1) := by decide +kernel
theorem d_X8_sort_14 : decode cX8_sort 14 = .ok (.if_icmp .ne 7, 3) := by decide +kernel
theorem d_X8_sort_17 : decode cX8_sort 17 = .ok (.iconst 1, 1) := by decide +kernel
theorem d_X8_sort_18 : decode cX8_sort 18 = .ok (.goto 4, 3) := by decide +kernel
theorem d_X8_sort_21 : decode cX8_sort 21 = .ok (.iconst 0, 1) := by decide +kernel
theorem d_X8_sort_22 : decode cX8_sort 22 = .ok (.istore 5, 2) := by decide +kernel
theorem d_X8_sort_24 : decode cX8_sort 24 = .ok (.aload_n 0, 1) := by decide +kernel
theorem d_X8_sort_25 : decode cX8_sort 25 = .ok (.getfield 38, 3) := by decide +kernel
theorem d_X8_sort_28 : decode cX8_sort 28 = .ok (.iload_n 3, 1) := by decide +kernel
theorem d_X8_sort_29 : decode cX8_sort 29 = .ok (.iconst (-1), 1) := by decide +kernel
theorem d_X8_sort_30 : decode cX8_sort 30 = .ok (.bastore, 1) := by decide +kernel
theorem d_X8_sort_31 : decode cX8_sort 31 = .ok (.iconst 0, 1) := by decide +kernel
theorem d_X8_sort_32 : decode cX8_sort 32 = .ok (.istore 6, 2) := by decide +kernel
theorem d_X8_sort_34 : decode cX8_sort 34 = .ok (.iload 6, 2) := by decide +kernel
theorem d_X8_sort_36 : decode cX8_sort 36 = .ok (.aload_n 0, 1) := by decide +kernel
theorem d_X8_sort_37 : decode cX8_sort 37 = .ok (.getfield 18, 3) := by decide +kernel
theorem d_X8_sort_40 : decode cX8_sort 40 = .ok (.if_icmp .ge 60, 3) := by decide +kernel
theorem d_X8_sort_43 : decode cX8_sort 43 = .ok (.aload_n 0, 1) := by decide +kernel
theorem d_X8_sort_44 : decode cX8_sort 44 = .ok (.aload_n 2, 1) := by decide +kernel
theorem d_X8_sort_45 : decode cX8_sort 45 = .ok (.iload_n 3, 1) := by decide +kernel
theorem d_X8_sort_46 : decode cX8_sort 46 = .ok (.iload 6, 2) := by decide +kernel
theorem d_X8_sort_48 : decode cX8_sort 48 = .ok (.invokevirtual 69, 3) := by decide +kernel
theorem d_X8_sort_51 : decode cX8_sort 51 = .ok (.istore 7, 2) := by decide +kernel
theorem d_X8_sort_53 : decode cX8_sort 53 = .ok (.iload 7, 2) := by decide +kernel
theorem d_X8_sort_55 : decode cX8_sort 55 = .ok (.ifCond .eq 12, 3) := by decide +kernel
theorem d_X8_sort_58 : decode cX8_sort 58 = .ok (.aload_n 0, 1) := by decide +kernel
theorem d_X8_sort_59 : decode cX8_sort 59 = .ok (.getfield 38, 3) := by decide +kernel
theorem d_X8_sort_62 : decode cX8_sort 62 = .ok (.iload_n 3, 1) := by decide +kernel
theorem d_X8_sort_63 : decode cX8_sort 63 = .ok (.iload 6, 2) := by decide +kernel
theorem d_X8_sort_65 : decode cX8_sort 65 = .ok (.i2b, 1) := by decide +kernel
theorem d_X8_sort_66 : decode cX8_sort 66 = .ok (.bastore, 1) := by decide +kernel
theorem d_X8_sort_67 : decode cX8_sort 67 = .ok (.iload 5, 2) := by decide +kernel
theorem d_X8_sort_69 : decode cX8_sort 69 = .ok (.ifCond .eq 25, 3) := by decide +kernel
theorem d_X8_sort_72 : decode cX8_sort 72 = .ok (.aload_n 0, 1) := by decide +kernel
theorem d_X8_sort_73 : decode cX8_sort 73 = .ok (.getfield 29, 3) := by decide +kernel
theorem d_X8_sort_76 : decode cX8_sort 76 = .ok (.iload 6, 2) := by decide +kernel
theorem d_X8_sort_78 : decode cX8_sort 78 = .ok (.aload_n 0, 1) := by decide +kernel
theorem d_X8_sort_79 : decode cX8_sort 79 = .ok (.getfield 29, 3) := by decide +kernel
theorem d_X8_sort_82 : decode cX8_sort 82 = .ok (.iload 6, 2) := by decide +kernel
theorem d_X8_sort_84 : decode cX8_sort 84 = .ok (.iaload, 1) := by decide +kernel
theorem d_X8_sort_85 : decode cX8_sort 85 = .ok (.iload 7, 2) := by decide +kernel
theorem d_X8_sort_87 : decode cX8_sort 87 = .ok (.invokestatic 73, 3) := by decide +kernel
theorem d_X8_sort_90 : decode cX8_sort 90 = .ok (.invokestatic 79, 3) := by decide +kernel
theorem d_X8_sort_93 : decode cX8_sort 93 = .ok (.iastore, 1) := by decide +kernel
theorem d_X8_sort_94 : decode cX8_sort 94 = .ok (.iinc 6 1, 3) := by decide +kernel
theorem d_X8_sort_97 : decode cX8_sort 97 = .ok (.goto (-63), 3) := by decide +kernel
theorem d_X8_sort_100 : decode cX8_sort 100 = .ok (.iload 5, 2) := by decide +kernel
theorem d_X8_sort_102 : decode cX8_sort 102 = .ok (.ifCond .eq 13, 3) := by decide +kernel
theorem d_X8_sort_105 : decode cX8_sort 105 = .ok (.iload 4, 2) := by decide +kernel
theorem d_X8_sort_107 : decode cX8_sort 107 = .ok (.ifCond .eq 8, 3) := by decide +kernel
theorem d_X8_sort_110 : decode cX8_sort 110 = .ok (.aload_n 0, 1) := by decide +kernel
theorem d_X8_sort_111 : decode cX8_sort 111 = .ok (.iconst 0, 1) := by decide +kernel
theorem d_X8_sort_112 : decode cX8_sort 112 = .ok (.putfield 15, 3) := by decide +kernel
theorem d_X8_sort_115 : decode cX8_sort 115 = .ok (.aload_n 1, 1) := by decide +kernel
theorem d_X8_sort_116 : decode cX8_sort 116 = .ok (.getfield 66, 3) := by decide +kernel
theorem d_X8_sort_119 : decode cX8_sort 119 = .ok (.iload_n 3, 1) := by decide +kernel
theorem d_X8_sort_120 : decode cX8_sort 120 = .ok (.baload, 1) := by decide +kernel
theorem d_X8_sort_121 : decode cX8_sort 121 = .ok (.ifCond .ne 28, 3) := by decide +kernel
theorem d_X8_sort_124 : decode cX8_sort 124 = .ok (.iload 4, 2) := by decide +kernel
theorem d_X8_sort_126 : decode cX8_sort 126 = .ok (.ifCond .ne 23, 3) := by decide +kernel
theorem d_X8_sort_129 : decode cX8_sort 129 = .ok (.aload_n 0, 1) := by decide +kernel
theorem d_X8_sort_130 : decode cX8_sort 130 = .ok (.getfield 35, 3) := by decide +kernel
theorem d_X8_sort_133 : decode cX8_sort 133 = .ok (.aload_n 0, 1) := by decide +kernel
theorem d_X8_sort_134 : decode cX8_sort 134 = .ok (.getfield 32, 3) := by decide +kernel
theorem d_X8_sort_137 : decode cX8_sort 137 = .ok (.iload_n 3, 1) := by decide +kernel
theorem d_X8_sort_138 : decode cX8_sort 138 = .ok (.iastore, 1) := by decide +kernel
theorem d_X8_sort_139 : decode cX8_sort 139 = .ok (.aload_n 0, 1) := by decide +kernel
theorem d_X8_sort_140 : decode cX8_sort 140 = .ok (.dup, 1) := by decide +kernel
theorem d_X8_sort_141 : decode cX8_sort 141 = .ok (.getfield 32, 3) := by decide +kernel
theorem d_X8_sort_144 : decode cX8_sort 144 = .ok (.iconst 1, 1) := by decide +kernel
theorem d_X8_sort_145 : decode cX8_sort 145 = .ok (.iadd, 1) := by decide +kernel
theorem d_X8_sort_146 : decode cX8_sort 146 = .ok (.putfield 32, 3) := by decide +kernel
theorem d_X8_sort_149 : decode cX8_sort 149 = .ok (.return_, 1) := by decide +kernel
theorem d_X8_gap_0 : decode cX8_gap 0 = .ok (.aload_n 1, 1) := by decide +kernel
theorem d_X8_gap_1 : decode cX8_gap 1 = .ok (.iload_n 2, 1) := by decide +kernel
theorem d_X8_gap_2 : decode cX8_gap 2 = .ok (.iload_n 3, 1) := by decide +kernel
theorem d_X8_gap_3 : decode cX8_gap 3 = .ok (.invokevirtual 54, 3) := by decide +kernel
theorem d_X8_gap_6 : decode cX8_gap 6 = .ok (.aload_n 0, 1) := by decide +kernel
theorem d_X8_gap_7 : decode cX8_gap 7 = .ok (.getfield 25, 3) := by decide +kernel
theorem d_X8_gap_10 : decode cX8_gap 10 = .ok (.iload_n 3, 1) := by decide +kernel
theorem d_X8_gap_11 : decode cX8_gap 11 = .ok (.iaload, 1) := by decide +kernel
theorem d_X8_gap_12 : decode cX8_gap 12 = .ok (.isub, 1) := by decide +kernel
theorem d_X8_gap_13 : decode cX8_gap 13 = .ok (.ireturn, 1) := by decide +kernel
theorem d_X8_divisorOf_0 : decode cX8_divisorOf 0 = .ok (.iload_n 0, 1) := by decide +kernel
theorem d_X8_divisorOf_1 : decode cX8_divisorOf 1 = .ok (.istore_n 2, 1) := by decide +kernel
theorem d_X8_divisorOf_2 : decode cX8_divisorOf 2 = .ok (.iload_n 1, 1) := by decide +kernel
theorem d_X8_divisorOf_3 : decode cX8_divisorOf 3 = .ok (.istore_n 3, 1) := by decide +kernel
theorem d_X8_divisorOf_4 : decode cX8_divisorOf 4 = .ok (.iconst 0, 1) := by decide +kernel
theorem d_X8_divisorOf_5 : decode cX8_divisorOf 5 = .ok (.istore 4, 2) := by decide +kernel
theorem d_X8_divisorOf_7 : decode cX8_divisorOf 7 = .ok (.iload 4, 2) := by decide +kernel
theorem d_X8_divisorOf_9 : decode cX8_divisorOf 9 = .ok (.bipush 100, 2) := by decide +kernel
theorem d_X8_divisorOf_11 : decode cX8_divisorOf 11 = .ok (.if_icmp .ge 23, 3) := by decide +kernel
theorem d_X8_divisorOf_14 : decode cX8_divisorOf 14 = .ok (.iload_n 3, 1) := by decide +kernel
theorem d_X8_divisorOf_15 : decode cX8_divisorOf 15 = .ok (.ifCond .eq 19, 3) := by decide +kernel
theorem d_X8_divisorOf_18 : decode cX8_divisorOf 18 = .ok (.iload_n 2, 1) := by decide +kernel
theorem d_X8_divisorOf_19 : decode cX8_divisorOf 19 = .ok (.iload_n 3, 1) := by decide +kernel
theorem d_X8_divisorOf_20 : decode cX8_divisorOf 20 = .ok (.irem, 1) := by decide +kernel
theorem d_X8_divisorOf_21 : decode cX8_divisorOf 21 = .ok (.istore 5, 2) := by decide +kernel
theorem d_X8_divisorOf_23 : decode cX8_divisorOf 23 = .ok (.iload_n 3, 1) := by decide +kernel
theorem d_X8_divisorOf_24 : decode cX8_divisorOf 24 = .ok (.istore_n 2, 1) := by decide +kernel
theorem d_X8_divisorOf_25 : decode cX8_divisorOf 25 = .ok (.iload 5, 2) := by decide +kernel
theorem d_X8_divisorOf_27 : decode cX8_divisorOf 27 = .ok (.istore_n 3, 1) := by decide +kernel
theorem d_X8_divisorOf_28 : decode cX8_divisorOf 28 = .ok (.iinc 4 1, 3) := by decide +kernel
theorem d_X8_divisorOf_31 : decode cX8_divisorOf 31 = .ok (.goto (-24), 3) := by decide +kernel
theorem d_X8_divisorOf_34 : decode cX8_divisorOf 34 = .ok (.iload_n 2, 1) := by decide +kernel
theorem d_X8_divisorOf_35 : decode cX8_divisorOf 35 = .ok (.ireturn, 1) := by decide +kernel
theorem d_X8_countLeft_0 : decode cX8_countLeft 0 = .ok (.iconst 0, 1) := by decide +kernel
theorem d_X8_countLeft_1 : decode cX8_countLeft 1 = .ok (.istore_n 3, 1) := by decide +kernel
theorem d_X8_countLeft_2 : decode cX8_countLeft 2 = .ok (.iconst 0, 1) := by decide +kernel
theorem d_X8_countLeft_3 : decode cX8_countLeft 3 = .ok (.istore 4, 2) := by decide +kernel
theorem d_X8_countLeft_5 : decode cX8_countLeft 5 = .ok (.iload 4, 2) := by decide +kernel
theorem d_X8_countLeft_7 : decode cX8_countLeft 7 = .ok (.aload_n 0, 1) := by decide +kernel
theorem d_X8_countLeft_8 : decode cX8_countLeft 8 = .ok (.getfield 32, 3) := by decide +kernel
theorem d_X8_countLeft_11 : decode cX8_countLeft 11 = .ok (.if_icmp .ge 72, 3) := by decide +kernel
theorem d_X8_countLeft_14 : decode cX8_countLeft 14 = .ok (.iconst 1, 1) := by decide +kernel
theorem d_X8_countLeft_15 : decode cX8_countLeft 15 = .ok (.istore 5, 2) := by decide +kernel
theorem d_X8_countLeft_17 : decode cX8_countLeft 17 = .ok (.iconst 0, 1) := by decide +kernel
theorem d_X8_countLeft_18 : decode cX8_countLeft 18 = .ok (.istore 6, 2) := by decide +kernel
theorem d_X8_countLeft_20 : decode cX8_countLeft 20 = .ok (.iload 6, 2) := by decide +kernel
theorem d_X8_countLeft_22 : decode cX8_countLeft 22 = .ok (.aload_n 0, 1) := by decide +kernel
theorem d_X8_countLeft_23 : decode cX8_countLeft 23 = .ok (.getfield 18, 3) := by decide +kernel
theorem d_X8_countLeft_26 : decode cX8_countLeft 26 = .ok (.if_icmp .ge 43, 3) := by decide +kernel
theorem d_X8_countLeft_29 : decode cX8_countLeft 29 = .ok (.iload 5, 2) := by decide +kernel
theorem d_X8_countLeft_31 : decode cX8_countLeft 31 = .ok (.ifCond .eq 38, 3) := by decide +kernel
theorem d_X8_countLeft_34 : decode cX8_countLeft 34 = .ok (.aload_n 0, 1) := by decide +kernel
theorem d_X8_countLeft_35 : decode cX8_countLeft 35 = .ok (.aload_n 1, 1) := by decide +kernel
theorem d_X8_countLeft_36 : decode cX8_countLeft 36 = .ok (.aload_n 0, 1) := by decide +kernel
theorem d_X8_countLeft_37 : decode cX8_countLeft 37 = .ok (.getfield 35, 3) := by decide +kernel
theorem d_X8_countLeft_40 : decode cX8_countLeft 40 = .ok (.iload 4, 2) := by decide +kernel
theorem d_X8_countLeft_42 : decode cX8_countLeft 42 = .ok (.iaload, 1) := by decide +kernel
theorem d_X8_countLeft_43 : decode cX8_countLeft 43 = .ok (.iload 6, 2) := by decide +kernel
theorem d_X8_countLeft_45 : decode cX8_countLeft 45 = .ok (.invokevirtual 69, 3) := by decide +kernel
theorem d_X8_countLeft_48 : decode cX8_countLeft 48 = .ok (.aload_n 2, 1) := by decide +kernel
theorem d_X8_countLeft_49 : decode cX8_countLeft 49 = .ok (.iload 6, 2) := by decide +kernel
theorem d_X8_countLeft_51 : decode cX8_countLeft 51 = .ok (.iaload, 1) := by decide +kernel
theorem d_X8_countLeft_52 : decode cX8_countLeft 52 = .ok (.irem, 1) := by decide +kernel
theorem d_X8_countLeft_53 : decode cX8_countLeft 53 = .ok (.ifCond .ne 7, 3) := by decide +kernel
theorem d_X8_countLeft_56 : decode cX8_countLeft 56 = .ok (.iconst 1, 1) := by decide +kernel
theorem d_X8_countLeft_57 : decode cX8_countLeft 57 = .ok (.goto 4, 3) := by decide +kernel
theorem d_X8_countLeft_60 : decode cX8_countLeft 60 = .ok (.iconst 0, 1) := by decide +kernel
theorem d_X8_countLeft_61 : decode cX8_countLeft 61 = .ok (.istore 5, 2) := by decide +kernel
theorem d_X8_countLeft_63 : decode cX8_countLeft 63 = .ok (.iinc 6 1, 3) := by decide +kernel
theorem d_X8_countLeft_66 : decode cX8_countLeft 66 = .ok (.goto (-46), 3) := by decide +kernel
theorem d_X8_countLeft_69 : decode cX8_countLeft 69 = .ok (.iload 5, 2) := by decide +kernel
theorem d_X8_countLeft_71 : decode cX8_countLeft 71 = .ok (.ifCond .eq 6, 3) := by decide +kernel
theorem d_X8_countLeft_74 : decode cX8_countLeft 74 = .ok (.iinc 3 1, 3) := by decide +kernel
theorem d_X8_countLeft_77 : decode cX8_countLeft 77 = .ok (.iinc 4 1, 3) := by decide +kernel
theorem d_X8_countLeft_80 : decode cX8_countLeft 80 = .ok (.goto (-75), 3) := by decide +kernel
theorem d_X8_countLeft_83 : decode cX8_countLeft 83 = .ok (.iload_n 3, 1) := by decide +kernel
theorem d_X8_countLeft_84 : decode cX8_countLeft 84 = .ok (.ireturn, 1) := by decide +kernel
theorem d_X8_keepLeft_0 : decode cX8_keepLeft 0 = .ok (.iconst 0, 1) := by decide +kernel
theorem d_X8_keepLeft_1 : decode cX8_keepLeft 1 = .ok (.istore 5, 2) := by decide +kernel
theorem d_X8_keepLeft_3 : decode cX8_keepLeft 3 = .ok (.iconst 0, 1) := by decide +kernel
theorem d_X8_keepLeft_4 : decode cX8_keepLeft 4 = .ok (.istore 6, 2) := by decide +kernel
theorem d_X8_keepLeft_6 : decode cX8_keepLeft 6 = .ok (.iload 6, 2) := by decide +kernel
theorem d_X8_keepLeft_8 : decode cX8_keepLeft 8 = .ok (.iload 4, 2) := by decide +kernel
theorem d_X8_keepLeft_10 : decode cX8_keepLeft 10 = .ok (.if_icmp .ge 70, 3) := by decide +kernel
theorem d_X8_keepLeft_13 : decode cX8_keepLeft 13 = .ok (.aload_n 0, 1) := by decide +kernel
theorem d_X8_keepLeft_14 : decode cX8_keepLeft 14 = .ok (.getfield 35, 3) := by decide +kernel
theorem d_X8_keepLeft_17 : decode cX8_keepLeft 17 = .ok (.iload 6, 2) := by decide +kernel
theorem d_X8_keepLeft_19 : decode cX8_keepLeft 19 = .ok (.iaload, 1) := by decide +kernel
theorem d_X8_keepLeft_20 : decode cX8_keepLeft 20 = .ok (.istore 7, 2) := by decide +kernel
theorem d_X8_keepLeft_22 : decode cX8_keepLeft 22 = .ok (.aload_n 0, 1) := by decide +kernel
theorem d_X8_keepLeft_23 : decode cX8_keepLeft 23 = .ok (.aload_n 1, 1) := by decide +kernel
theorem d_X8_keepLeft_24 : decode cX8_keepLeft 24 = .ok (.iload 7, 2) := by decide +kernel
theorem d_X8_keepLeft_26 : decode cX8_keepLeft 26 = .ok (.iload_n 2, 1) := by decide +kernel
theorem d_X8_keepLeft_27 : decode cX8_keepLeft 27 = .ok (.invokevirtual 69, 3) := by decide +kernel
theorem d_X8_keepLeft_30 : decode cX8_keepLeft 30 = .ok (.iload_n 3, 1) := by decide +kernel
theorem d_X8_keepLeft_31 : decode cX8_keepLeft 31 = .ok (.irem, 1) := by decide +kernel
theorem d_X8_keepLeft_32 : decode cX8_keepLeft 32 = .ok (.ifCond .ne 42, 3) := by decide +kernel
theorem d_X8_keepLeft_35 : decode cX8_keepLeft 35 = .ok (.aload_n 0, 1) := by decide +kernel
theorem d_X8_keepLeft_36 : decode cX8_keepLeft 36 = .ok (.getfield 38, 3) := by decide +kernel
theorem d_X8_keepLeft_39 : decode cX8_keepLeft 39 = .ok (.iload 7, 2) := by decide +kernel
theorem d_X8_keepLeft_41 : decode cX8_keepLeft 41 = .ok (.baload, 1) := by decide +kernel
theorem d_X8_keepLeft_42 : decode cX8_keepLeft 42 = .ok (.iload_n 2, 1) := by decide +kernel
theorem d_X8_keepLeft_43 : decode cX8_keepLeft 43 = .ok (.if_icmp .gt 5, 3) := by decide +kernel
theorem d_X8_keepLeft_46 : decode cX8_keepLeft 46 = .ok (.iconst (-1), 1) := by decide +kernel
theorem d_X8_keepLeft_47 : decode cX8_keepLeft 47 = .ok (.ireturn, 1) := by decide +kernel
theorem d_X8_keepLeft_48 : decode cX8_keepLeft 48 = .ok (.aload_n 0, 1) := by decide +kernel
theorem d_X8_keepLeft_49 : decode cX8_keepLeft 49 = .ok (.getfield 35, 3) := by decide +kernel
theorem d_X8_keepLeft_52 : decode cX8_keepLeft 52 = .ok (.iload 6, 2) := by decide +kernel
theorem d_X8_keepLeft_54 : decode cX8_keepLeft 54 = .ok (.aload_n 0, 1) := by decide +kernel
theorem d_X8_keepLeft_55 : decode cX8_keepLeft 55 = .ok (.getfield 35, 3) := by decide +kernel
theorem d_X8_keepLeft_58 : decode cX8_keepLeft 58 = .ok (.iload 5, 2) := by decide +kernel
theorem d_X8_keepLeft_60 : decode cX8_keepLeft 60 = .ok (.iaload, 1) := by decide +kernel
theorem d_X8_keepLeft_61 : decode cX8_keepLeft 61 = .ok (.iastore, 1) := by decide +kernel
theorem d_X8_keepLeft_62 : decode cX8_keepLeft 62 = .ok (.aload_n 0, 1) := by decide +kernel
theorem d_X8_keepLeft_63 : decode cX8_keepLeft 63 = .ok (.getfield 35, 3) := by decide +kernel
theorem d_X8_keepLeft_66 : decode cX8_keepLeft 66 = .ok (.iload 5, 2) := by decide +kernel
theorem d_X8_keepLeft_68 : decode cX8_keepLeft 68 = .ok (.iload 7, 2) := by decide +kernel
theorem d_X8_keepLeft_70 : decode cX8_keepLeft 70 = .ok (.iastore, 1) := by decide +kernel
theorem d_X8_keepLeft_71 : decode cX8_keepLeft 71 = .ok (.iinc 5 1, 3) := by decide +kernel
theorem d_X8_keepLeft_74 : decode cX8_keepLeft 74 = .ok (.iinc 6 1, 3) := by decide +kernel
theorem d_X8_keepLeft_77 : decode cX8_keepLeft 77 = .ok (.goto (-71), 3) := by decide +kernel
theorem d_X8_keepLeft_80 : decode cX8_keepLeft 80 = .ok (.iload 5, 2) := by decide +kernel
theorem d_X8_keepLeft_82 : decode cX8_keepLeft 82 = .ok (.ireturn, 1) := by decide +kernel
theorem d_Jxe99ae_isNaN_b9ae7_0 : decode cJxe99ae_isNaN_b9ae7 0 = .ok (.dload_n 0, 1) := by decide +kernel
theorem d_Jxe99ae_isNaN_b9ae7_1 : decode cJxe99ae_isNaN_b9ae7 1 = .ok (.dload_n 0, 1) := by decide +kernel
theorem d_Jxe99ae_isNaN_b9ae7_2 : decode cJxe99ae_isNaN_b9ae7 2 = .ok (.dcmp .l, 1) := by decide +kernel
theorem d_Jxe99ae_isNaN_b9ae7_3 : decode cJxe99ae_isNaN_b9ae7 3 = .ok (.ifCond .eq 7, 3) := by decide +kernel
theorem d_Jxe99ae_isNaN_b9ae7_6 : decode cJxe99ae_isNaN_b9ae7 6 = .ok (.iconst 1, 1) := by decide +kernel
theorem d_Jxe99ae_isNaN_b9ae7_7 : decode cJxe99ae_isNaN_b9ae7 7 = .ok (.goto 4, 3) := by decide +kernel
theorem d_Jxe99ae_isNaN_b9ae7_10 : decode cJxe99ae_isNaN_b9ae7 10 = .ok (.iconst 0, 1) := by decide +kernel
theorem d_Jxe99ae_isNaN_b9ae7_11 : decode cJxe99ae_isNaN_b9ae7 11 = .ok (.ireturn, 1) := by decide +kernel
theorem d_Jxe99ae_doubleToLongBits_ccdee_0 : decode cJxe99ae_doubleToLongBits_ccdee 0 = .ok (.dload_n 0, 1) := by decide +kernel
theorem d_Jxe99ae_doubleToLongBits_ccdee_1 : decode cJxe99ae_doubleToLongBits_ccdee 1 = .ok (.invokestatic 122, 3) := by decide +kernel
theorem d_Jxe99ae_doubleToLongBits_ccdee_4 : decode cJxe99ae_doubleToLongBits_ccdee 4 = .ok (.ifCond .ne 8, 3) := by decide +kernel
theorem d_Jxe99ae_doubleToLongBits_ccdee_7 : decode cJxe99ae_doubleToLongBits_ccdee 7 = .ok (.dload_n 0, 1) := by decide +kernel
theorem d_Jxe99ae_doubleToLongBits_ccdee_8 : decode cJxe99ae_doubleToLongBits_ccdee 8 = .ok (.invokestatic 134, 3) := by decide +kernel
theorem d_Jxe99ae_doubleToLongBits_ccdee_11 : decode cJxe99ae_doubleToLongBits_ccdee 11 = .ok (.lreturn, 1) := by decide +kernel
theorem d_Jxe99ae_doubleToLongBits_ccdee_12 : decode cJxe99ae_doubleToLongBits_ccdee 12 = .ok (.ldc2_w 137, 3) := by decide +kernel
theorem d_Jxe99ae_doubleToLongBits_ccdee_15 : decode cJxe99ae_doubleToLongBits_ccdee 15 = .ok (.lreturn, 1) := by decide +kernel
theorem d_Jxf58ca_isNaN_12338_0 : decode cJxf58ca_isNaN_12338 0 = .ok (.fload_n 0, 1) := by decide +kernel
theorem d_Jxf58ca_isNaN_12338_1 : decode cJxf58ca_isNaN_12338 1 = .ok (.fload_n 0, 1) := by decide +kernel
theorem d_Jxf58ca_isNaN_12338_2 : decode cJxf58ca_isNaN_12338 2 = .ok (.fcmp .l, 1) := by decide +kernel
theorem d_Jxf58ca_isNaN_12338_3 : decode cJxf58ca_isNaN_12338 3 = .ok (.ifCond .eq 7, 3) := by decide +kernel
theorem d_Jxf58ca_isNaN_12338_6 : decode cJxf58ca_isNaN_12338 6 = .ok (.iconst 1, 1) := by decide +kernel
theorem d_Jxf58ca_isNaN_12338_7 : decode cJxf58ca_isNaN_12338 7 = .ok (.goto 4, 3) := by decide +kernel
theorem d_Jxf58ca_isNaN_12338_10 : decode cJxf58ca_isNaN_12338 10 = .ok (.iconst 0, 1) := by decide +kernel
theorem d_Jxf58ca_isNaN_12338_11 : decode cJxf58ca_isNaN_12338 11 = .ok (.ireturn, 1) := by decide +kernel
theorem d_Jxf58ca_floatToIntBits_5c35a_0 : decode cJxf58ca_floatToIntBits_5c35a 0 = .ok (.fload_n 0, 1) := by decide +kernel
theorem d_Jxf58ca_floatToIntBits_5c35a_1 : decode cJxf58ca_floatToIntBits_5c35a 1 = .ok (.invokestatic 59, 3) := by decide +kernel
theorem d_Jxf58ca_floatToIntBits_5c35a_4 : decode cJxf58ca_floatToIntBits_5c35a 4 = .ok (.ifCond .ne 8, 3) := by decide +kernel
theorem d_Jxf58ca_floatToIntBits_5c35a_7 : decode cJxf58ca_floatToIntBits_5c35a 7 = .ok (.fload_n 0, 1) := by decide +kernel
theorem d_Jxf58ca_floatToIntBits_5c35a_8 : decode cJxf58ca_floatToIntBits_5c35a 8 = .ok (.invokestatic 74, 3) := by decide +kernel
theorem d_Jxf58ca_floatToIntBits_5c35a_11 : decode cJxf58ca_floatToIntBits_5c35a 11 = .ok (.ireturn, 1) := by decide +kernel
theorem d_Jxf58ca_floatToIntBits_5c35a_12 : decode cJxf58ca_floatToIntBits_5c35a 12 = .ok (.ldc 77, 2) := by decide +kernel
theorem d_Jxf58ca_floatToIntBits_5c35a_14 : decode cJxf58ca_floatToIntBits_5c35a 14 = .ok (.ireturn, 1) := by decide +kernel
theorem d_J9_floorMod_7cf53_0 : decode cJ9_floorMod_7cf53 0 = .ok (.iload_n 0, 1) := by decide +kernel
theorem d_J9_floorMod_7cf53_1 : decode cJ9_floorMod_7cf53 1 = .ok (.iload_n 1, 1) := by decide +kernel
theorem d_J9_floorMod_7cf53_2 : decode cJ9_floorMod_7cf53 2 = .ok (.irem, 1) := by decide +kernel
theorem d_J9_floorMod_7cf53_3 : decode cJ9_floorMod_7cf53 3 = .ok (.istore_n 2, 1) := by decide +kernel
theorem d_J9_floorMod_7cf53_4 : decode cJ9_floorMod_7cf53 4 = .ok (.iload_n 0, 1) := by decide +kernel
theorem d_J9_floorMod_7cf53_5 : decode cJ9_floorMod_7cf53 5 = .ok (.iload_n 1, 1) := by decide +kernel
theorem d_J9_floorMod_7cf53_6 : decode cJ9_floorMod_7cf53 6 = .ok (.ixor, 1) := by decide +kernel
theorem d_J9_floorMod_7cf53_7 : decode cJ9_floorMod_7cf53 7 = .ok (.ifCond .ge 11, 3) := by decide +kernel
theorem d_J9_floorMod_7cf53_10 : decode cJ9_floorMod_7cf53 10 = .ok (.iload_n 2, 1) := by decide +kernel
theorem d_J9_floorMod_7cf53_11 : decode cJ9_floorMod_7cf53 11 = .ok (.ifCond .eq 7, 3) := by decide +kernel
theorem d_J9_floorMod_7cf53_14 : decode cJ9_floorMod_7cf53 14 = .ok (.iload_n 2, 1) := by decide +kernel
theorem d_J9_floorMod_7cf53_15 : decode cJ9_floorMod_7cf53 15 = .ok (.iload_n 1, 1) := by decide +kernel
theorem d_J9_floorMod_7cf53_16 : decode cJ9_floorMod_7cf53 16 = .ok (.iadd, 1) := by decide +kernel
theorem d_J9_floorMod_7cf53_17 : decode cJ9_floorMod_7cf53 17 = .ok (.ireturn, 1) := by decide +kernel
theorem d_J9_floorMod_7cf53_18 : decode cJ9_floorMod_7cf53 18 = .ok (.iload_n 2, 1) := by decide +kernel
theorem d_J9_floorMod_7cf53_19 : decode cJ9_floorMod_7cf53 19 = .ok (.ireturn, 1) := by decide +kernel
theorem d_J9_abs_0f7a4_0 : decode cJ9_abs_0f7a4 0 = .ok (.iload_n 0, 1) := by decide +kernel
theorem d_J9_abs_0f7a4_1 : decode cJ9_abs_0f7a4 1 = .ok (.ifCond .ge 8, 3) := by decide +kernel
theorem d_J9_abs_0f7a4_4 : decode cJ9_abs_0f7a4 4 = .ok (.iload_n 0, 1) := by decide +kernel
theorem d_J9_abs_0f7a4_5 : decode cJ9_abs_0f7a4 5 = .ok (.ineg, 1) := by decide +kernel
theorem d_J9_abs_0f7a4_6 : decode cJ9_abs_0f7a4 6 = .ok (.goto 4, 3) := by decide +kernel
theorem d_J9_abs_0f7a4_9 : decode cJ9_abs_0f7a4 9 = .ok (.iload_n 0, 1) := by decide +kernel
theorem d_J9_abs_0f7a4_10 : decode cJ9_abs_0f7a4 10 = .ok (.ireturn, 1) := by decide +kernel
theorem d_J9_max_7cf53_0 : decode cJ9_max_7cf53 0 = .ok (.iload_n 0, 1) := by decide +kernel
theorem d_J9_max_7cf53_1 : decode cJ9_max_7cf53 1 = .ok (.iload_n 1, 1) := by decide +kernel
theorem d_J9_max_7cf53_2 : decode cJ9_max_7cf53 2 = .ok (.if_icmp .lt 7, 3) := by decide +kernel
theorem d_J9_max_7cf53_5 : decode cJ9_max_7cf53 5 = .ok (.iload_n 0, 1) := by decide +kernel
theorem d_J9_max_7cf53_6 : decode cJ9_max_7cf53 6 = .ok (.goto 4, 3) := by decide +kernel
theorem d_J9_max_7cf53_9 : decode cJ9_max_7cf53 9 = .ok (.iload_n 1, 1) := by decide +kernel
theorem d_J9_max_7cf53_10 : decode cJ9_max_7cf53 10 = .ok (.ireturn, 1) := by decide +kernel
theorem d_J9_min_7cf53_0 : decode cJ9_min_7cf53 0 = .ok (.iload_n 0, 1) := by decide +kernel
theorem d_J9_min_7cf53_1 : decode cJ9_min_7cf53 1 = .ok (.iload_n 1, 1) := by decide +kernel
theorem d_J9_min_7cf53_2 : decode cJ9_min_7cf53 2 = .ok (.if_icmp .gt 7, 3) := by decide +kernel
theorem d_J9_min_7cf53_5 : decode cJ9_min_7cf53 5 = .ok (.iload_n 0, 1) := by decide +kernel
theorem d_J9_min_7cf53_6 : decode cJ9_min_7cf53 6 = .ok (.goto 4, 3) := by decide +kernel
theorem d_J9_min_7cf53_9 : decode cJ9_min_7cf53 9 = .ok (.iload_n 1, 1) := by decide +kernel
theorem d_J9_min_7cf53_10 : decode cJ9_min_7cf53 10 = .ok (.ireturn, 1) := by decide +kernel
theorem d_J7_rangeCheck_23922_0 : decode cJ7_rangeCheck_23922 0 = .ok (.iload_n 1, 1) := by decide +kernel
theorem d_J7_rangeCheck_23922_1 : decode cJ7_rangeCheck_23922 1 = .ok (.iload_n 2, 1) := by decide +kernel
theorem d_J7_rangeCheck_23922_2 : decode cJ7_rangeCheck_23922 2 = .ok (.if_icmp .le 44, 3) := by decide +kernel
theorem d_J7_rangeCheck_23922_5 : decode cJ7_rangeCheck_23922 5 = .ok (.new 43, 3) := by decide +kernel
theorem d_J7_rangeCheck_23922_8 : decode cJ7_rangeCheck_23922 8 = .ok (.dup, 1) := by decide +kernel
theorem d_J7_rangeCheck_23922_9 : decode cJ7_rangeCheck_23922 9 = .ok (.new 45, 3) := by decide +kernel
theorem d_J7_rangeCheck_23922_12 : decode cJ7_rangeCheck_23922 12 = .ok (.dup, 1) := by decide +kernel
theorem d_J7_rangeCheck_23922_13 : decode cJ7_rangeCheck_23922 13 = .ok (.invokespecial 47, 3) := by decide +kernel
theorem d_J7_rangeCheck_23922_16 : decode cJ7_rangeCheck_23922 16 = .ok (.ldc 48, 2) := by decide +kernel
theorem d_J7_rangeCheck_23922_18 : decode cJ7_rangeCheck_23922 18 = .ok (.invokevirtual 50, 3) := by decide +kernel
theorem d_J7_rangeCheck_23922_21 : decode cJ7_rangeCheck_23922 21 = .ok (.iload_n 1, 1) := by decide +kernel
theorem d_J7_rangeCheck_23922_22 : decode cJ7_rangeCheck_23922 22 = .ok (.invokevirtual 54, 3) := by decide +kernel
theorem d_J7_rangeCheck_23922_25 : decode cJ7_rangeCheck_23922 25 = .ok (.ldc 57, 2) := by decide +kernel
theorem d_J7_rangeCheck_23922_27 : decode cJ7_rangeCheck_23922 27 = .ok (.invokevirtual 50, 3) := by decide +kernel
theorem d_J7_rangeCheck_23922_30 : decode cJ7_rangeCheck_23922 30 = .ok (.iload_n 2, 1) := by decide +kernel
theorem d_J7_rangeCheck_23922_31 : decode cJ7_rangeCheck_23922 31 = .ok (.invokevirtual 54, 3) := by decide +kernel
theorem d_J7_rangeCheck_23922_34 : decode cJ7_rangeCheck_23922 34 = .ok (.ldc 59, 2) := by decide +kernel
theorem d_J7_rangeCheck_23922_36 : decode cJ7_rangeCheck_23922 36 = .ok (.invokevirtual 50, 3) := by decide +kernel
theorem d_J7_rangeCheck_23922_39 : decode cJ7_rangeCheck_23922 39 = .ok (.invokevirtual 61, 3) := by decide +kernel
theorem d_J7_rangeCheck_23922_42 : decode cJ7_rangeCheck_23922 42 = .ok (.invokespecial 65, 3) := by decide +kernel
theorem d_J7_rangeCheck_23922_45 : decode cJ7_rangeCheck_23922 45 = .ok (.athrow, 1) := by decide +kernel
theorem d_J7_rangeCheck_23922_46 : decode cJ7_rangeCheck_23922 46 = .ok (.iload_n 1, 1) := by decide +kernel
theorem d_J7_rangeCheck_23922_47 : decode cJ7_rangeCheck_23922 47 = .ok (.ifCond .ge 12, 3) := by decide +kernel
theorem d_J7_rangeCheck_23922_50 : decode cJ7_rangeCheck_23922 50 = .ok (.new 68, 3) := by decide +kernel
theorem d_J7_rangeCheck_23922_53 : decode cJ7_rangeCheck_23922 53 = .ok (.dup, 1) := by decide +kernel
theorem d_J7_rangeCheck_23922_54 : decode cJ7_rangeCheck_23922 54 = .ok (.iload_n 1, 1) := by decide +kernel
theorem d_J7_rangeCheck_23922_55 : decode cJ7_rangeCheck_23922 55 = .ok (.invokespecial 70, 3) := by decide +kernel
theorem d_J7_rangeCheck_23922_58 : decode cJ7_rangeCheck_23922 58 = .ok (.athrow, 1) := by decide +kernel
theorem d_J7_rangeCheck_23922_59 : decode cJ7_rangeCheck_23922 59 = .ok (.iload_n 2, 1) := by decide +kernel
theorem d_J7_rangeCheck_23922_60 : decode cJ7_rangeCheck_23922 60 = .ok (.iload_n 0, 1) := by decide +kernel
theorem d_J7_rangeCheck_23922_61 : decode cJ7_rangeCheck_23922 61 = .ok (.if_icmp .le 12, 3) := by decide +kernel
theorem d_J7_rangeCheck_23922_64 : decode cJ7_rangeCheck_23922 64 = .ok (.new 68, 3) := by decide +kernel
theorem d_J7_rangeCheck_23922_67 : decode cJ7_rangeCheck_23922 67 = .ok (.dup, 1) := by decide +kernel
theorem d_J7_rangeCheck_23922_68 : decode cJ7_rangeCheck_23922 68 = .ok (.iload_n 2, 1) := by decide +kernel
theorem d_J7_rangeCheck_23922_69 : decode cJ7_rangeCheck_23922 69 = .ok (.invokespecial 70, 3) := by decide +kernel
theorem d_J7_rangeCheck_23922_72 : decode cJ7_rangeCheck_23922 72 = .ok (.athrow, 1) := by decide +kernel
theorem d_J7_rangeCheck_23922_73 : decode cJ7_rangeCheck_23922 73 = .ok (.return_, 1) := by decide +kernel
theorem d_J7_fill_53178_0 : decode cJ7_fill_53178 0 = .ok (.iconst 0, 1) := by decide +kernel
theorem d_J7_fill_53178_1 : decode cJ7_fill_53178 1 = .ok (.istore_n 2, 1) := by decide +kernel
theorem d_J7_fill_53178_2 : decode cJ7_fill_53178 2 = .ok (.aload_n 0, 1) := by decide +kernel
theorem d_J7_fill_53178_3 : decode cJ7_fill_53178 3 = .ok (.arraylength, 1) := by decide +kernel
theorem d_J7_fill_53178_4 : decode cJ7_fill_53178 4 = .ok (.istore_n 3, 1) := by decide +kernel
theorem d_J7_fill_53178_5 : decode cJ7_fill_53178 5 = .ok (.iload_n 2, 1) := by decide +kernel
theorem d_J7_fill_53178_6 : decode cJ7_fill_53178 6 = .ok (.iload_n 3, 1) := by decide +kernel
theorem d_J7_fill_53178_7 : decode cJ7_fill_53178 7 = .ok (.if_icmp .ge 13, 3) := by decide +kernel
theorem d_J7_fill_53178_10 : decode cJ7_fill_53178 10 = .ok (.aload_n 0, 1) := by decide +kernel
theorem d_J7_fill_53178_11 : decode cJ7_fill_53178 11 = .ok (.iload_n 2, 1) := by decide +kernel
theorem d_J7_fill_53178_12 : decode cJ7_fill_53178 12 = .ok (.iload_n 1, 1) := by decide +kernel
theorem d_J7_fill_53178_13 : decode cJ7_fill_53178 13 = .ok (.iastore, 1) := by decide +kernel
theorem d_J7_fill_53178_14 : decode cJ7_fill_53178 14 = .ok (.iinc 2 1, 3) := by decide +kernel
theorem d_J7_fill_53178_17 : decode cJ7_fill_53178 17 = .ok (.goto (-12), 3) := by decide +kernel
theorem d_J7_fill_53178_20 : decode cJ7_fill_53178 20 = .ok (.return_, 1) := by decide +kernel
theorem d_J7_fill_fda19_0 : decode cJ7_fill_fda19 0 = .ok (.aload_n 0, 1) := by decide +kernel
theorem d_J7_fill_fda19_1 : decode cJ7_fill_fda19 1 = .ok (.arraylength, 1) := by decide +kernel
theorem d_J7_fill_fda19_2 : decode cJ7_fill_fda19 2 = .ok (.iload_n 1, 1) := by decide +kernel
theorem d_J7_fill_fda19_3 : decode cJ7_fill_fda19 3 = .ok (.iload_n 2, 1) := by decide +kernel
theorem d_J7_fill_fda19_4 : decode cJ7_fill_fda19 4 = .ok (.invokestatic 13, 3) := by decide +kernel
theorem d_J7_fill_fda19_7 : decode cJ7_fill_fda19 7 = .ok (.iload_n 1, 1) := by decide +kernel
theorem d_J7_fill_fda19_8 : decode cJ7_fill_fda19 8 = .ok (.istore 4, 2) := by decide +kernel
theorem d_J7_fill_fda19_10 : decode cJ7_fill_fda19 10 = .ok (.iload 4, 2) := by decide +kernel
theorem d_J7_fill_fda19_12 : decode cJ7_fill_fda19 12 = .ok (.iload_n 2, 1) := by decide +kernel
theorem d_J7_fill_fda19_13 : decode cJ7_fill_fda19 13 = .ok (.if_icmp .ge 14, 3) := by decide +kernel
theorem d_J7_fill_fda19_16 : decode cJ7_fill_fda19 16 = .ok (.aload_n 0, 1) := by decide +kernel
theorem d_J7_fill_fda19_17 : decode cJ7_fill_fda19 17 = .ok (.iload 4, 2) := by decide +kernel
theorem d_J7_fill_fda19_19 : decode cJ7_fill_fda19 19 = .ok (.iload_n 3, 1) := by decide +kernel
theorem d_J7_fill_fda19_20 : decode cJ7_fill_fda19 20 = .ok (.iastore, 1) := by decide +kernel
theorem d_J7_fill_fda19_21 : decode cJ7_fill_fda19 21 = .ok (.iinc 4 1, 3) := by decide +kernel
theorem d_J7_fill_fda19_24 : decode cJ7_fill_fda19 24 = .ok (.goto (-14), 3) := by decide +kernel
theorem d_J7_fill_fda19_27 : decode cJ7_fill_fda19 27 = .ok (.return_, 1) := by decide +kernel
theorem d_J7_fill_031fb_0 : decode cJ7_fill_031fb 0 = .ok (.iconst 0, 1) := by decide +kernel
theorem d_J7_fill_031fb_1 : decode cJ7_fill_031fb 1 = .ok (.istore_n 2, 1) := by decide +kernel
theorem d_J7_fill_031fb_2 : decode cJ7_fill_031fb 2 = .ok (.aload_n 0, 1) := by decide +kernel
theorem d_J7_fill_031fb_3 : decode cJ7_fill_031fb 3 = .ok (.arraylength, 1) := by decide +kernel
theorem d_J7_fill_031fb_4 : decode cJ7_fill_031fb 4 = .ok (.istore_n 3, 1) := by decide +kernel
theorem d_J7_fill_031fb_5 : decode cJ7_fill_031fb 5 = .ok (.iload_n 2, 1) := by decide +kernel
theorem d_J7_fill_031fb_6 : decode cJ7_fill_031fb 6 = .ok (.iload_n 3, 1) := by decide +kernel
theorem d_J7_fill_031fb_7 : decode cJ7_fill_031fb 7 = .ok (.if_icmp .ge 13, 3) := by decide +kernel
theorem d_J7_fill_031fb_10 : decode cJ7_fill_031fb 10 = .ok (.aload_n 0, 1) := by decide +kernel
theorem d_J7_fill_031fb_11 : decode cJ7_fill_031fb 11 = .ok (.iload_n 2, 1) := by decide +kernel
theorem d_J7_fill_031fb_12 : decode cJ7_fill_031fb 12 = .ok (.iload_n 1, 1) := by decide +kernel
theorem d_J7_fill_031fb_13 : decode cJ7_fill_031fb 13 = .ok (.bastore, 1) := by decide +kernel
theorem d_J7_fill_031fb_14 : decode cJ7_fill_031fb 14 = .ok (.iinc 2 1, 3) := by decide +kernel
theorem d_J7_fill_031fb_17 : decode cJ7_fill_031fb 17 = .ok (.goto (-12), 3) := by decide +kernel
theorem d_J7_fill_031fb_20 : decode cJ7_fill_031fb 20 = .ok (.return_, 1) := by decide +kernel
