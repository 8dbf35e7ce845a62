theorem d_X10_isIn_0 : decode cX10_isIn 0 = .ok (.iload_n 1, 1) := by decide +kernel
theorem d_X10_isIn_1 : decode cX10_isIn 1 = .ok (.iload_n 2, 1) := by decide +kernel
theorem d_X10_isIn_2 : decode cX10_isIn 2 = .ok (.if_icmp .lt 12, 3) := by decide +kernel
theorem d_X10_isIn_5 : decode cX10_isIn 5 = .ok (.iload_n 1, 1) := by decide +kernel
theorem d_X10_isIn_6 : decode cX10_isIn 6 = .ok (.iload_n 3, 1) := by decide +kernel
theorem d_X10_isIn_7 : decode cX10_isIn 7 = .ok (.if_icmp .gt 7, 3) := by decide +kernel
theorem d_X10_isIn_10 : decode cX10_isIn 10 = .ok (.iconst 1, 1) := by decide +kernel
theorem d_X10_isIn_11 : decode cX10_isIn 11 = .ok (.goto 4, 3) := by decide +kernel
theorem d_X10_isIn_14 : decode cX10_isIn 14 = .ok (.iconst 0, 1) := by decide +kernel
theorem d_X10_isIn_15 : decode cX10_isIn 15 = .ok (.ireturn, 1) := by decide +kernel
theorem d_X10_n_0 : decode cX10_n 0 = .ok (.aload_n 0, 1) := by decide +kernel
theorem d_X10_n_1 : decode cX10_n 1 = .ok (.getfield 7, 3) := by decide +kernel
theorem d_X10_n_4 : decode cX10_n 4 = .ok (.iconst 0, 1) := by decide +kernel
theorem d_X10_n_5 : decode cX10_n 5 = .ok (.iaload, 1) := by decide +kernel
theorem d_X10_n_6 : decode cX10_n 6 = .ok (.iconst 3, 1) := by decide +kernel
theorem d_X10_n_7 : decode cX10_n 7 = .ok (.iadd, 1) := by decide +kernel
theorem d_X10_n_8 : decode cX10_n 8 = .ok (.ireturn, 1) := by decide +kernel
theorem d_X10_m_0 : decode cX10_m 0 = .ok (.aload_n 0, 1) := by decide +kernel
theorem d_X10_m_1 : decode cX10_m 1 = .ok (.getfield 7, 3) := by decide +kernel
theorem d_X10_m_4 : decode cX10_m 4 = .ok (.iconst 1, 1) := by decide +kernel
theorem d_X10_m_5 : decode cX10_m 5 = .ok (.iaload, 1) := by decide +kernel
theorem d_X10_m_6 : decode cX10_m 6 = .ok (.iconst 1, 1) := by decide +kernel
theorem d_X10_m_7 : decode cX10_m 7 = .ok (.iadd, 1) := by decide +kernel
theorem d_X10_m_8 : decode cX10_m 8 = .ok (.ireturn, 1) := by decide +kernel
theorem d_X10_turnOf_0 : decode cX10_turnOf 0 = .ok (.aload_n 0, 1) := by decide +kernel
theorem d_X10_turnOf_1 : decode cX10_turnOf 1 = .ok (.getfield 7, 3) := by decide +kernel
theorem d_X10_turnOf_4 : decode cX10_turnOf 4 = .ok (.iconst 2, 1) := by decide +kernel
theorem d_X10_turnOf_5 : decode cX10_turnOf 5 = .ok (.iaload, 1) := by decide +kernel
theorem d_X10_turnOf_6 : decode cX10_turnOf 6 = .ok (.bipush 24, 2) := by decide +kernel
theorem d_X10_turnOf_8 : decode cX10_turnOf 8 = .ok (.iadd, 1) := by decide +kernel
theorem d_X10_turnOf_9 : decode cX10_turnOf 9 = .ok (.ireturn, 1) := by decide +kernel
theorem d_X10_follows_0 : decode cX10_follows 0 = .ok (.aload_n 0, 1) := by decide +kernel
theorem d_X10_follows_1 : decode cX10_follows 1 = .ok (.getfield 7, 3) := by decide +kernel
theorem d_X10_follows_4 : decode cX10_follows 4 = .ok (.iconst 3, 1) := by decide +kernel
theorem d_X10_follows_5 : decode cX10_follows 5 = .ok (.iaload, 1) := by decide +kernel
theorem d_X10_follows_6 : decode cX10_follows 6 = .ok (.ifCond .ne 7, 3) := by decide +kernel
theorem d_X10_follows_9 : decode cX10_follows 9 = .ok (.iconst 1, 1) := by decide +kernel
theorem d_X10_follows_10 : decode cX10_follows 10 = .ok (.goto 4, 3) := by decide +kernel
theorem d_X10_follows_13 : decode cX10_follows 13 = .ok (.iconst 0, 1) := by decide +kernel
theorem d_X10_follows_14 : decode cX10_follows 14 = .ok (.ireturn, 1) := by decide +kernel
theorem d_X10_weightOf_0 : decode cX10_weightOf 0 = .ok (.aload_n 0, 1) := by decide +kernel
theorem d_X10_weightOf_1 : decode cX10_weightOf 1 = .ok (.getfield 7, 3) := by decide +kernel
theorem d_X10_weightOf_4 : decode cX10_weightOf 4 = .ok (.bipush 14, 2) := by decide +kernel
theorem d_X10_weightOf_6 : decode cX10_weightOf 6 = .ok (.bipush 7, 2) := by decide +kernel
theorem d_X10_weightOf_8 : decode cX10_weightOf 8 = .ok (.iload_n 1, 1) := by decide +kernel
theorem d_X10_weightOf_9 : decode cX10_weightOf 9 = .ok (.imul, 1) := by decide +kernel
theorem d_X10_weightOf_10 : decode cX10_weightOf 10 = .ok (.iadd, 1) := by decide +kernel
theorem d_X10_weightOf_11 : decode cX10_weightOf 11 = .ok (.iload_n 2, 1) := by decide +kernel
theorem d_X10_weightOf_12 : decode cX10_weightOf 12 = .ok (.iadd, 1) := by decide +kernel
theorem d_X10_weightOf_13 : decode cX10_weightOf 13 = .ok (.iaload, 1) := by decide +kernel
theorem d_X10_weightOf_14 : decode cX10_weightOf 14 = .ok (.iconst 1, 1) := by decide +kernel
theorem d_X10_weightOf_15 : decode cX10_weightOf 15 = .ok (.iadd, 1) := by decide +kernel
theorem d_X10_weightOf_16 : decode cX10_weightOf 16 = .ok (.ireturn, 1) := by decide +kernel
theorem d_X10_lengthOf_0 : decode cX10_lengthOf 0 = .ok (.aload_n 0, 1) := by decide +kernel
theorem d_X10_lengthOf_1 : decode cX10_lengthOf 1 = .ok (.getfield 7, 3) := by decide +kernel
theorem d_X10_lengthOf_4 : decode cX10_lengthOf 4 = .ok (.bipush 49, 2) := by decide +kernel
theorem d_X10_lengthOf_6 : decode cX10_lengthOf 6 = .ok (.iload_n 1, 1) := by decide +kernel
theorem d_X10_lengthOf_7 : decode cX10_lengthOf 7 = .ok (.iadd, 1) := by decide +kernel
theorem d_X10_lengthOf_8 : decode cX10_lengthOf 8 = .ok (.iaload, 1) := by decide +kernel
theorem d_X10_lengthOf_9 : decode cX10_lengthOf 9 = .ok (.iconst 1, 1) := by decide +kernel
theorem d_X10_lengthOf_10 : decode cX10_lengthOf 10 = .ok (.iadd, 1) := by decide +kernel
theorem d_X10_lengthOf_11 : decode cX10_lengthOf 11 = .ok (.ireturn, 1) := by decide +kernel
theorem d_X10_stepOf_0 : decode cX10_stepOf 0 = .ok (.aload_n 0, 1) := by decide +kernel
theorem d_X10_stepOf_1 : decode cX10_stepOf 1 = .ok (.getfield 7, 3) := by decide +kernel
theorem d_X10_stepOf_4 : decode cX10_stepOf 4 = .ok (.bipush 53, 2) := by decide +kernel
theorem d_X10_stepOf_6 : decode cX10_stepOf 6 = .ok (.iconst 4, 1) := by decide +kernel
theorem d_X10_stepOf_7 : decode cX10_stepOf 7 = .ok (.iload_n 1, 1) := by decide +kernel
theorem d_X10_stepOf_8 : decode cX10_stepOf 8 = .ok (.imul, 1) := by decide +kernel
theorem d_X10_stepOf_9 : decode cX10_stepOf 9 = .ok (.iadd, 1) := by decide +kernel
theorem d_X10_stepOf_10 : decode cX10_stepOf 10 = .ok (.iload_n 2, 1) := by decide +kernel
theorem d_X10_stepOf_11 : decode cX10_stepOf 11 = .ok (.iadd, 1) := by decide +kernel
theorem d_X10_stepOf_12 : decode cX10_stepOf 12 = .ok (.iaload, 1) := by decide +kernel
theorem d_X10_stepOf_13 : decode cX10_stepOf 13 = .ok (.ireturn, 1) := by decide +kernel
theorem d_X10_rowLong_0 : decode cX10_rowLong 0 = .ok (.aload_n 0, 1) := by decide +kernel
theorem d_X10_rowLong_1 : decode cX10_rowLong 1 = .ok (.getfield 7, 3) := by decide +kernel
theorem d_X10_rowLong_4 : decode cX10_rowLong 4 = .ok (.bipush 77, 2) := by decide +kernel
theorem d_X10_rowLong_6 : decode cX10_rowLong 6 = .ok (.iload_n 1, 1) := by decide +kernel
theorem d_X10_rowLong_7 : decode cX10_rowLong 7 = .ok (.iadd, 1) := by decide +kernel
theorem d_X10_rowLong_8 : decode cX10_rowLong 8 = .ok (.iaload, 1) := by decide +kernel
theorem d_X10_rowLong_9 : decode cX10_rowLong 9 = .ok (.iconst 1, 1) := by decide +kernel
theorem d_X10_rowLong_10 : decode cX10_rowLong 10 = .ok (.iadd, 1) := by decide +kernel
theorem d_X10_rowLong_11 : decode cX10_rowLong 11 = .ok (.ireturn, 1) := by decide +kernel
theorem d_X10_rowOf_0 : decode cX10_rowOf 0 = .ok (.aload_n 0, 1) := by decide +kernel
theorem d_X10_rowOf_1 : decode cX10_rowOf 1 = .ok (.getfield 7, 3) := by decide +kernel
theorem d_X10_rowOf_4 : decode cX10_rowOf 4 = .ok (.bipush 83, 2) := by decide +kernel
theorem d_X10_rowOf_6 : decode cX10_rowOf 6 = .ok (.bipush 24, 2) := by decide +kernel
theorem d_X10_rowOf_8 : decode cX10_rowOf 8 = .ok (.iload_n 1, 1) := by decide +kernel
theorem d_X10_rowOf_9 : decode cX10_rowOf 9 = .ok (.imul, 1) := by decide +kernel
theorem d_X10_rowOf_10 : decode cX10_rowOf 10 = .ok (.iadd, 1) := by decide +kernel
theorem d_X10_rowOf_11 : decode cX10_rowOf 11 = .ok (.iload_n 2, 1) := by decide +kernel
theorem d_X10_rowOf_12 : decode cX10_rowOf 12 = .ok (.iadd, 1) := by decide +kernel
theorem d_X10_rowOf_13 : decode cX10_rowOf 13 = .ok (.iaload, 1) := by decide +kernel
theorem d_X10_rowOf_14 : decode cX10_rowOf 14 = .ok (.ireturn, 1) := by decide +kernel
theorem d_X10_isPulse_0 : decode cX10_isPulse 0 = .ok (.iload_n 1, 1) := by decide +kernel
theorem d_X10_isPulse_1 : decode cX10_isPulse 1 = .ok (.ifCond .lt 15, 3) := by decide +kernel
theorem d_X10_isPulse_4 : decode cX10_isPulse 4 = .ok (.iload_n 1, 1) := by decide +kernel
theorem d_X10_isPulse_5 : decode cX10_isPulse 5 = .ok (.aload_n 0, 1) := by decide +kernel
theorem d_X10_isPulse_6 : decode cX10_isPulse 6 = .ok (.invokevirtual 11, 3) := by decide +kernel
theorem d_X10_isPulse_9 : decode cX10_isPulse 9 = .ok (.if_icmp .ge 7, 3) := by decide +kernel
theorem d_X10_isPulse_12 : decode cX10_isPulse 12 = .ok (.iconst 1, 1) := by decide +kernel
theorem d_X10_isPulse_13 : decode cX10_isPulse 13 = .ok (.goto 4, 3) := by decide +kernel
theorem d_X10_isPulse_16 : decode cX10_isPulse 16 = .ok (.iconst 0, 1) := by decide +kernel
theorem d_X10_isPulse_17 : decode cX10_isPulse 17 = .ok (.ireturn, 1) := by decide +kernel
theorem d_X10_isCounter_0 : decode cX10_isCounter 0 = .ok (.iload_n 1, 1) := by decide +kernel
theorem d_X10_isCounter_1 : decode cX10_isCounter 1 = .ok (.ifCond .lt 12, 3) := by decide +kernel
theorem d_X10_isCounter_4 : decode cX10_isCounter 4 = .ok (.iload_n 1, 1) := by decide +kernel
theorem d_X10_isCounter_5 : decode cX10_isCounter 5 = .ok (.iconst 4, 1) := by decide +kernel
theorem d_X10_isCounter_6 : decode cX10_isCounter 6 = .ok (.if_icmp .ge 7, 3) := by decide +kernel
theorem d_X10_isCounter_9 : decode cX10_isCounter 9 = .ok (.iconst 1, 1) := by decide +kernel
theorem d_X10_isCounter_10 : decode cX10_isCounter 10 = .ok (.goto 4, 3) := by decide +kernel
theorem d_X10_isCounter_13 : decode cX10_isCounter 13 = .ok (.iconst 0, 1) := by decide +kernel
theorem d_X10_isCounter_14 : decode cX10_isCounter 14 = .ok (.ireturn, 1) := by decide +kernel
theorem d_X10_mayFollow_0 : decode cX10_mayFollow 0 = .ok (.aload_n 0, 1) := by decide +kernel
theorem d_X10_mayFollow_1 : decode cX10_mayFollow 1 = .ok (.getfield 7, 3) := by decide +kernel
theorem d_X10_mayFollow_4 : decode cX10_mayFollow 4 = .ok (.iconst 4, 1) := by decide +kernel
theorem d_X10_mayFollow_5 : decode cX10_mayFollow 5 = .ok (.iload_n 1, 1) := by decide +kernel
theorem d_X10_mayFollow_6 : decode cX10_mayFollow 6 = .ok (.iadd, 1) := by decide +kernel
theorem d_X10_mayFollow_7 : decode cX10_mayFollow 7 = .ok (.iaload, 1) := by decide +kernel
theorem d_X10_mayFollow_8 : decode cX10_mayFollow 8 = .ok (.istore 4, 2) := by decide +kernel
theorem d_X10_mayFollow_10 : decode cX10_mayFollow 10 = .ok (.iload 4, 2) := by decide +kernel
theorem d_X10_mayFollow_12 : decode cX10_mayFollow 12 = .ok (.iconst 1, 1) := by decide +kernel
theorem d_X10_mayFollow_13 : decode cX10_mayFollow 13 = .ok (.if_icmp .ne 15, 3) := by decide +kernel
theorem d_X10_mayFollow_16 : decode cX10_mayFollow 16 = .ok (.iload_n 3, 1) := by decide +kernel
theorem d_X10_mayFollow_17 : decode cX10_mayFollow 17 = .ok (.iload_n 2, 1) := by decide +kernel
theorem d_X10_mayFollow_18 : decode cX10_mayFollow 18 = .ok (.ineg, 1) := by decide +kernel
theorem d_X10_mayFollow_19 : decode cX10_mayFollow 19 = .ok (.if_icmp .ne 7, 3) := by decide +kernel
theorem d_X10_mayFollow_22 : decode cX10_mayFollow 22 = .ok (.iconst 1, 1) := by decide +kernel
theorem d_X10_mayFollow_23 : decode cX10_mayFollow 23 = .ok (.goto 4, 3) := by decide +kernel
theorem d_X10_mayFollow_26 : decode cX10_mayFollow 26 = .ok (.iconst 0, 1) := by decide +kernel
theorem d_X10_mayFollow_27 : decode cX10_mayFollow 27 = .ok (.ireturn, 1) := by decide +kernel
theorem d_X10_mayFollow_28 : decode cX10_mayFollow 28 = .ok (.iload 4, 2) := by decide +kernel
theorem d_X10_mayFollow_30 : decode cX10_mayFollow 30 = .ok (.ifCond .eq 17, 3) := by decide +kernel
theorem d_X10_mayFollow_33 : decode cX10_mayFollow 33 = .ok (.iload_n 3, 1) := by decide +kernel
theorem d_X10_mayFollow_34 : decode cX10_mayFollow 34 = .ok (.iload_n 2, 1) := by decide +kernel
theorem d_X10_mayFollow_35 : decode cX10_mayFollow 35 = .ok (.isub, 1) := by decide +kernel
theorem d_X10_mayFollow_36 : decode cX10_mayFollow 36 = .ok (.iconst 1, 1) := by decide +kernel
theorem d_X10_mayFollow_37 : decode cX10_mayFollow 37 = .ok (.if_icmp .gt 14, 3) := by decide +kernel
theorem d_X10_mayFollow_40 : decode cX10_mayFollow 40 = .ok (.iload_n 2, 1) := by decide +kernel
theorem d_X10_mayFollow_41 : decode cX10_mayFollow 41 = .ok (.iload_n 3, 1) := by decide +kernel
theorem d_X10_mayFollow_42 : decode cX10_mayFollow 42 = .ok (.isub, 1) := by decide +kernel
theorem d_X10_mayFollow_43 : decode cX10_mayFollow 43 = .ok (.iconst 1, 1) := by decide +kernel
theorem d_X10_mayFollow_44 : decode cX10_mayFollow 44 = .ok (.if_icmp .gt 7, 3) := by decide +kernel
theorem d_X10_mayFollow_47 : decode cX10_mayFollow 47 = .ok (.iconst 1, 1) := by decide +kernel
theorem d_X10_mayFollow_48 : decode cX10_mayFollow 48 = .ok (.goto 4, 3) := by decide +kernel
theorem d_X10_mayFollow_51 : decode cX10_mayFollow 51 = .ok (.iconst 0, 1) := by decide +kernel
theorem d_X10_mayFollow_52 : decode cX10_mayFollow 52 = .ok (.ireturn, 1) := by decide +kernel
theorem d_X10_orderOf_0 : decode cX10_orderOf 0 = .ok (.iload_n 2, 1) := by decide +kernel
theorem d_X10_orderOf_1 : decode cX10_orderOf 1 = .ok (.ifCond .ge 7, 3) := by decide +kernel
theorem d_X10_orderOf_4 : decode cX10_orderOf 4 = .ok (.iconst 0, 1) := by decide +kernel
theorem d_X10_orderOf_5 : decode cX10_orderOf 5 = .ok (.goto 13, 3) := by decide +kernel
theorem d_X10_orderOf_8 : decode cX10_orderOf 8 = .ok (.aload_n 0, 1) := by decide +kernel
theorem d_X10_orderOf_9 : decode cX10_orderOf 9 = .ok (.getfield 15, 3) := by decide +kernel
theorem d_X10_orderOf_12 : decode cX10_orderOf 12 = .ok (.iconst 5, 1) := by decide +kernel
theorem d_X10_orderOf_13 : decode cX10_orderOf 13 = .ok (.iload_n 1, 1) := by decide +kernel
theorem d_X10_orderOf_14 : decode cX10_orderOf 14 = .ok (.imul, 1) := by decide +kernel
theorem d_X10_orderOf_15 : decode cX10_orderOf 15 = .ok (.iload_n 2, 1) := by decide +kernel
theorem d_X10_orderOf_16 : decode cX10_orderOf 16 = .ok (.iadd, 1) := by decide +kernel
theorem d_X10_orderOf_17 : decode cX10_orderOf 17 = .ok (.iaload, 1) := by decide +kernel
theorem d_X10_orderOf_18 : decode cX10_orderOf 18 = .ok (.ireturn, 1) := by decide +kernel
theorem d_X10_changeOf_0 : decode cX10_changeOf 0 = .ok (.aload_n 0, 1) := by decide +kernel
theorem d_X10_changeOf_1 : decode cX10_changeOf 1 = .ok (.iload_n 1, 1) := by decide +kernel
theorem d_X10_changeOf_2 : decode cX10_changeOf 2 = .ok (.iload_n 2, 1) := by decide +kernel
theorem d_X10_changeOf_3 : decode cX10_changeOf 3 = .ok (.invokevirtual 18, 3) := by decide +kernel
theorem d_X10_changeOf_6 : decode cX10_changeOf 6 = .ok (.aload_n 0, 1) := by decide +kernel
theorem d_X10_changeOf_7 : decode cX10_changeOf 7 = .ok (.iload_n 1, 1) := by decide +kernel
theorem d_X10_changeOf_8 : decode cX10_changeOf 8 = .ok (.iload_n 2, 1) := by decide +kernel
theorem d_X10_changeOf_9 : decode cX10_changeOf 9 = .ok (.iconst 1, 1) := by decide +kernel
theorem d_X10_changeOf_10 : decode cX10_changeOf 10 = .ok (.isub, 1) := by decide +kernel
theorem d_X10_changeOf_11 : decode cX10_changeOf 11 = .ok (.invokevirtual 18, 3) := by decide +kernel
theorem d_X10_changeOf_14 : decode cX10_changeOf 14 = .ok (.isub, 1) := by decide +kernel
theorem d_X10_changeOf_15 : decode cX10_changeOf 15 = .ok (.ireturn, 1) := by decide +kernel
theorem d_X10_laysPaths_0 : decode cX10_laysPaths 0 = .ok (.iconst 2, 1) := by decide +kernel
theorem d_X10_laysPaths_1 : decode cX10_laysPaths 1 = .ok (.aload_n 0, 1) := by decide +kernel
theorem d_X10_laysPaths_2 : decode cX10_laysPaths 2 = .ok (.invokevirtual 22, 3) := by decide +kernel
theorem d_X10_laysPaths_5 : decode cX10_laysPaths 5 = .ok (.imul, 1) := by decide +kernel
theorem d_X10_laysPaths_6 : decode cX10_laysPaths 6 = .ok (.iconst 1, 1) := by decide +kernel
theorem d_X10_laysPaths_7 : decode cX10_laysPaths 7 = .ok (.iadd, 1) := by decide +kernel
theorem d_X10_laysPaths_8 : decode cX10_laysPaths 8 = .ok (.istore_n 1, 1) := by decide +kernel
theorem d_X10_laysPaths_9 : decode cX10_laysPaths 9 = .ok (.iconst 1, 1) := by decide +kernel
theorem d_X10_laysPaths_10 : decode cX10_laysPaths 10 = .ok (.istore_n 2, 1) := by decide +kernel
theorem d_X10_laysPaths_11 : decode cX10_laysPaths 11 = .ok (.iconst 1, 1) := by decide +kernel
theorem d_X10_laysPaths_12 : decode cX10_laysPaths 12 = .ok (.istore_n 3, 1) := by decide +kernel
theorem d_X10_laysPaths_13 : decode cX10_laysPaths 13 = .ok (.iload_n 3, 1) := by decide +kernel
theorem d_X10_laysPaths_14 : decode cX10_laysPaths 14 = .ok (.aload_n 0, 1) := by decide +kernel
theorem d_X10_laysPaths_15 : decode cX10_laysPaths 15 = .ok (.invokevirtual 11, 3) := by decide +kernel
theorem d_X10_laysPaths_18 : decode cX10_laysPaths 18 = .ok (.if_icmp .ge 13, 3) := by decide +kernel
theorem d_X10_laysPaths_21 : decode cX10_laysPaths 21 = .ok (.iload_n 2, 1) := by decide +kernel
theorem d_X10_laysPaths_22 : decode cX10_laysPaths 22 = .ok (.iload_n 1, 1) := by decide +kernel
theorem d_X10_laysPaths_23 : decode cX10_laysPaths 23 = .ok (.imul, 1) := by decide +kernel
theorem d_X10_laysPaths_24 : decode cX10_laysPaths 24 = .ok (.istore_n 2, 1) := by decide +kernel
theorem d_X10_laysPaths_25 : decode cX10_laysPaths 25 = .ok (.iinc 3 1, 3) := by decide +kernel
theorem d_X10_laysPaths_28 : decode cX10_laysPaths 28 = .ok (.goto (-15), 3) := by decide +kernel
theorem d_X10_laysPaths_31 : decode cX10_laysPaths 31 = .ok (.aload_n 0, 1) := by decide +kernel
theorem d_X10_laysPaths_32 : decode cX10_laysPaths 32 = .ok (.iconst 0, 1) := by decide +kernel
theorem d_X10_laysPaths_33 : decode cX10_laysPaths 33 = .ok (.putfield 25, 3) := by decide +kernel
theorem d_X10_laysPaths_36 : decode cX10_laysPaths 36 = .ok (.iconst 0, 1) := by decide +kernel
theorem d_X10_laysPaths_37 : decode cX10_laysPaths 37 = .ok (.istore_n 3, 1) := by decide +kernel
theorem d_X10_laysPaths_38 : decode cX10_laysPaths 38 = .ok (.iload_n 3, 1) := by decide +kernel
theorem d_X10_laysPaths_39 : decode cX10_laysPaths 39 = .ok (.iload_n 2, 1) := by decide +kernel
theorem d_X10_laysPaths_40 : decode cX10_laysPaths 40 = .ok (.if_icmp .ge 158, 3) := by decide +kernel
theorem d_X10_laysPaths_43 : decode cX10_laysPaths 43 = .ok (.iconst 5, 1) := by decide +kernel
theorem d_X10_laysPaths_44 : decode cX10_laysPaths 44 = .ok (.aload_n 0, 1) := by decide +kernel
theorem d_X10_laysPaths_45 : decode cX10_laysPaths 45 = .ok (.getfield 25, 3) := by decide +kernel
theorem d_X10_laysPaths_48 : decode cX10_laysPaths 48 = .ok (.imul, 1) := by decide +kernel
theorem d_X10_laysPaths_49 : decode cX10_laysPaths 49 = .ok (.istore 4, 2) := by decide +kernel
theorem d_X10_laysPaths_51 : decode cX10_laysPaths 51 = .ok (.iload_n 3, 1) := by decide +kernel
theorem d_X10_laysPaths_52 : decode cX10_laysPaths 52 = .ok (.istore 5, 2) := by decide +kernel
theorem d_X10_laysPaths_54 : decode cX10_laysPaths 54 = .ok (.aload_n 0, 1) := by decide +kernel
theorem d_X10_laysPaths_55 : decode cX10_laysPaths 55 = .ok (.getfield 15, 3) := by decide +kernel
theorem d_X10_laysPaths_58 : decode cX10_laysPaths 58 = .ok (.iload 4, 2) := by decide +kernel
theorem d_X10_laysPaths_60 : decode cX10_laysPaths 60 = .ok (.aload_n 0, 1) := by decide +kernel
theorem d_X10_laysPaths_61 : decode cX10_laysPaths 61 = .ok (.invokevirtual 11, 3) := by decide +kernel
theorem d_X10_laysPaths_64 : decode cX10_laysPaths 64 = .ok (.iadd, 1) := by decide +kernel
theorem d_X10_laysPaths_65 : decode cX10_laysPaths 65 = .ok (.iconst 1, 1) := by decide +kernel
theorem d_X10_laysPaths_66 : decode cX10_laysPaths 66 = .ok (.isub, 1) := by decide +kernel
theorem d_X10_laysPaths_67 : decode cX10_laysPaths 67 = .ok (.iconst (-1), 1) := by decide +kernel
theorem d_X10_laysPaths_68 : decode cX10_laysPaths 68 = .ok (.iastore, 1) := by decide +kernel
theorem d_X10_laysPaths_69 : decode cX10_laysPaths 69 = .ok (.aload_n 0, 1) := by decide +kernel
theorem d_X10_laysPaths_70 : decode cX10_laysPaths 70 = .ok (.invokevirtual 11, 3) := by decide +kernel
theorem d_X10_laysPaths_73 : decode cX10_laysPaths 73 = .ok (.iconst 2, 1) := by decide +kernel
theorem d_X10_laysPaths_74 : decode cX10_laysPaths 74 = .ok (.isub, 1) := by decide +kernel
theorem d_X10_laysPaths_75 : decode cX10_laysPaths 75 = .ok (.istore 6, 2) := by decide +kernel
theorem d_X10_laysPaths_77 : decode cX10_laysPaths 77 = .ok (.iload 6, 2) := by decide +kernel
theorem d_X10_laysPaths_79 : decode cX10_laysPaths 79 = .ok (.ifCond .lt 34, 3) := by decide +kernel
theorem d_X10_laysPaths_82 : decode cX10_laysPaths 82 = .ok (.aload_n 0, 1) := by decide +kernel
theorem d_X10_laysPaths_83 : decode cX10_laysPaths 83 = .ok (.getfield 15, 3) := by decide +kernel
theorem d_X10_laysPaths_86 : decode cX10_laysPaths 86 = .ok (.iload 4, 2) := by decide +kernel
theorem d_X10_laysPaths_88 : decode cX10_laysPaths 88 = .ok (.iload 6, 2) := by decide +kernel
theorem d_X10_laysPaths_90 : decode cX10_laysPaths 90 = .ok (.iadd, 1) := by decide +kernel
theorem d_X10_laysPaths_91 : decode cX10_laysPaths 91 = .ok (.iload 5, 2) := by decide +kernel
theorem d_X10_laysPaths_93 : decode cX10_laysPaths 93 = .ok (.iload_n 1, 1) := by decide +kernel
theorem d_X10_laysPaths_94 : decode cX10_laysPaths 94 = .ok (.irem, 1) := by decide +kernel
theorem d_X10_laysPaths_95 : decode cX10_laysPaths 95 = .ok (.aload_n 0, 1) := by decide +kernel
theorem d_X10_laysPaths_96 : decode cX10_laysPaths 96 = .ok (.invokevirtual 22, 3) := by decide +kernel
theorem d_X10_laysPaths_99 : decode cX10_laysPaths 99 = .ok (.isub, 1) := by decide +kernel
theorem d_X10_laysPaths_100 : decode cX10_laysPaths 100 = .ok (.iastore, 1) := by decide +kernel
theorem d_X10_laysPaths_101 : decode cX10_laysPaths 101 = .ok (.iload 5, 2) := by decide +kernel
theorem d_X10_laysPaths_103 : decode cX10_laysPaths 103 = .ok (.iload_n 1, 1) := by decide +kernel
theorem d_X10_laysPaths_104 : decode cX10_laysPaths 104 = .ok (.idiv, 1) := by decide +kernel
theorem d_X10_laysPaths_105 : decode cX10_laysPaths 105 = .ok (.istore 5, 2) := by decide +kernel
theorem d_X10_laysPaths_107 : decode cX10_laysPaths 107 = .ok (.iinc 6 (-1), 3) := by decide +kernel
theorem d_X10_laysPaths_110 : decode cX10_laysPaths 110 = .ok (.goto (-33), 3) := by decide +kernel
theorem d_X10_laysPaths_113 : decode cX10_laysPaths 113 = .ok (.iconst 1, 1) := by decide +kernel
theorem d_X10_laysPaths_114 : decode cX10_laysPaths 114 = .ok (.istore 6, 2) := by decide +kernel
theorem d_X10_laysPaths_116 : decode cX10_laysPaths 116 = .ok (.iconst 0, 1) := by decide +kernel
theorem d_X10_laysPaths_117 : decode cX10_laysPaths 117 = .ok (.istore 7, 2) := by decide +kernel
theorem d_X10_laysPaths_119 : decode cX10_laysPaths 119 = .ok (.iload 7, 2) := by decide +kernel
theorem d_X10_laysPaths_121 : decode cX10_laysPaths 121 = .ok (.aload_n 0, 1) := by decide +kernel
theorem d_X10_laysPaths_122 : decode cX10_laysPaths 122 = .ok (.invokevirtual 11, 3) := by decide +kernel
theorem d_X10_laysPaths_125 : decode cX10_laysPaths 125 = .ok (.if_icmp .ge 52, 3) := by decide +kernel
theorem d_X10_laysPaths_128 : decode cX10_laysPaths 128 = .ok (.iload 6, 2) := by decide +kernel
theorem d_X10_laysPaths_130 : decode cX10_laysPaths 130 = .ok (.ifCond .eq 38, 3) := by decide +kernel
theorem d_X10_laysPaths_133 : decode cX10_laysPaths 133 = .ok (.aload_n 0, 1) := by decide +kernel
theorem d_X10_laysPaths_134 : decode cX10_laysPaths 134 = .ok (.iload 7, 2) := by decide +kernel
theorem d_X10_laysPaths_136 : decode cX10_laysPaths 136 = .ok (.aload_n 0, 1) := by decide +kernel
theorem d_X10_laysPaths_137 : decode cX10_laysPaths 137 = .ok (.aload_n 0, 1) := by decide +kernel
theorem d_X10_laysPaths_138 : decode cX10_laysPaths 138 = .ok (.getfield 25, 3) := by decide +kernel
theorem d_X10_laysPaths_141 : decode cX10_laysPaths 141 = .ok (.iload 7, 2) := by decide +kernel
theorem d_X10_laysPaths_143 : decode cX10_laysPaths 143 = .ok (.iconst 1, 1) := by decide +kernel
theorem d_X10_laysPaths_144 : decode cX10_laysPaths 144 = .ok (.isub, 1) := by decide +kernel
theorem d_X10_laysPaths_145 : decode cX10_laysPaths 145 = .ok (.invokevirtual 18, 3) := by decide +kernel
theorem d_X10_laysPaths_148 : decode cX10_laysPaths 148 = .ok (.aload_n 0, 1) := by decide +kernel
theorem d_X10_laysPaths_149 : decode cX10_laysPaths 149 = .ok (.aload_n 0, 1) := by decide +kernel
theorem d_X10_laysPaths_150 : decode cX10_laysPaths 150 = .ok (.getfield 25, 3) := by decide +kernel
theorem d_X10_laysPaths_153 : decode cX10_laysPaths 153 = .ok (.iload 7, 2) := by decide +kernel
theorem d_X10_laysPaths_155 : decode cX10_laysPaths 155 = .ok (.invokevirtual 18, 3) := by decide +kernel
theorem d_X10_laysPaths_158 : decode cX10_laysPaths 158 = .ok (.invokevirtual 28, 3) := by decide +kernel
theorem d_X10_laysPaths_161 : decode cX10_laysPaths 161 = .ok (.ifCond .eq 7, 3) := by decide +kernel
theorem d_X10_laysPaths_164 : decode cX10_laysPaths 164 = .ok (.iconst 1, 1) := by decide +kernel
theorem d_X10_laysPaths_165 : decode cX10_laysPaths 165 = .ok (.goto 4, 3) := by decide +kernel
theorem d_X10_laysPaths_168 : decode cX10_laysPaths 168 = .ok (.iconst 0, 1) := by decide +kernel
theorem d_X10_laysPaths_169 : decode cX10_laysPaths 169 = .ok (.istore 6, 2) := by decide +kernel
theorem d_X10_laysPaths_171 : decode cX10_laysPaths 171 = .ok (.iinc 7 1, 3) := by decide +kernel
theorem d_X10_laysPaths_174 : decode cX10_laysPaths 174 = .ok (.goto (-55), 3) := by decide +kernel
theorem d_X10_laysPaths_177 : decode cX10_laysPaths 177 = .ok (.iload 6, 2) := by decide +kernel
theorem d_X10_laysPaths_179 : decode cX10_laysPaths 179 = .ok (.ifCond .eq 13, 3) := by decide +kernel
theorem d_X10_laysPaths_182 : decode cX10_laysPaths 182 = .ok (.aload_n 0, 1) := by decide +kernel
theorem d_X10_laysPaths_183 : decode cX10_laysPaths 183 = .ok (.aload_n 0, 1) := by decide +kernel
theorem d_X10_laysPaths_184 : decode cX10_laysPaths 184 = .ok (.getfield 25, 3) := by decide +kernel
theorem d_X10_laysPaths_187 : decode cX10_laysPaths 187 = .ok (.iconst 1, 1) := by decide +kernel
theorem d_X10_laysPaths_188 : decode cX10_laysPaths 188 = .ok (.iadd, 1) := by decide +kernel
theorem d_X10_laysPaths_189 : decode cX10_laysPaths 189 = .ok (.putfield 25, 3) := by decide +kernel
theorem d_X10_laysPaths_192 : decode cX10_laysPaths 192 = .ok (.iinc 3 1, 3) := by decide +kernel
theorem d_X10_laysPaths_195 : decode cX10_laysPaths 195 = .ok (.goto (-157), 3) := by decide +kernel
theorem d_X10_laysPaths_198 : decode cX10_laysPaths 198 = .ok (.aload_n 0, 1) := by decide +kernel
theorem d_X10_laysPaths_199 : decode cX10_laysPaths 199 = .ok (.iconst 0, 1) := by decide +kernel
theorem d_X10_laysPaths_200 : decode cX10_laysPaths 200 = .ok (.putfield 32, 3) := by decide +kernel
theorem d_X10_laysPaths_203 : decode cX10_laysPaths 203 = .ok (.return_, 1) := by decide +kernel
theorem d_X10_init_0 : decode cX10_init 0 = .ok (.aload_n 0, 1) := by decide +kernel
theorem d_X10_init_1 : decode cX10_init 1 = .ok (.invokespecial 36, 3) := by decide +kernel
theorem d_X10_init_4 : decode cX10_init 4 = .ok (.aload_n 0, 1) := by decide +kernel
theorem d_X10_init_5 : decode cX10_init 5 = .ok (.sipush 2628, 3) := by decide +kernel
theorem d_X10_init_8 : decode cX10_init 8 = .ok (.newarray .int, 2) := by decide +kernel
theorem d_X10_init_10 : decode cX10_init 10 = .ok (.putfield 7, 3) := by decide +kernel
theorem d_X10_init_13 : decode cX10_init 13 = .ok (.aload_n 0, 1) := by decide +kernel
theorem d_X10_init_14 : decode cX10_init 14 = .ok (.sipush 12005, 3) := by decide +kernel
theorem d_X10_init_17 : decode cX10_init 17 = .ok (.newarray .int, 2) := by decide +kernel
theorem d_X10_init_19 : decode cX10_init 19 = .ok (.putfield 15, 3) := by decide +kernel
theorem d_X10_init_22 : decode cX10_init 22 = .ok (.aload_n 0, 1) := by decide +kernel
theorem d_X10_init_23 : decode cX10_init 23 = .ok (.sipush 400, 3) := by decide +kernel
theorem d_X10_init_26 : decode cX10_init 26 = .ok (.newarray .int, 2) := by decide +kernel
theorem d_X10_init_28 : decode cX10_init 28 = .ok (.putfield 42, 3) := by decide +kernel
theorem d_X10_init_31 : decode cX10_init 31 = .ok (.aload_n 0, 1) := by decide +kernel
theorem d_X10_init_32 : decode cX10_init 32 = .ok (.iconst (-1), 1) := by decide +kernel
theorem d_X10_init_33 : decode cX10_init 33 = .ok (.putfield 45, 3) := by decide +kernel
theorem d_X10_init_36 : decode cX10_init 36 = .ok (.aload_n 0, 1) := by decide +kernel
theorem d_X10_init_37 : decode cX10_init 37 = .ok (.bipush 6, 2) := by decide +kernel
theorem d_X10_init_39 : decode cX10_init 39 = .ok (.newarray .int, 2) := by decide +kernel
theorem d_X10_init_41 : decode cX10_init 41 = .ok (.putfield 48, 3) := by decide +kernel
theorem d_X10_init_44 : decode cX10_init 44 = .ok (.aload_n 0, 1) := by decide +kernel
theorem d_X10_init_45 : decode cX10_init 45 = .ok (.sipush 144, 3) := by decide +kernel
theorem d_X10_init_48 : decode cX10_init 48 = .ok (.newarray .int, 2) := by decide +kernel
theorem d_X10_init_50 : decode cX10_init 50 = .ok (.putfield 51, 3) := by decide +kernel
theorem d_X10_init_53 : decode cX10_init 53 = .ok (.aload_n 0, 1) := by decide +kernel
theorem d_X10_init_54 : decode cX10_init 54 = .ok (.sipush 3072, 3) := by decide +kernel
theorem d_X10_init_57 : decode cX10_init 57 = .ok (.newarray .int, 2) := by decide +kernel
theorem d_X10_init_59 : decode cX10_init 59 = .ok (.putfield 54, 3) := by decide +kernel
theorem d_X10_init_62 : decode cX10_init 62 = .ok (.aload_n 0, 1) := by decide +kernel
theorem d_X10_init_63 : decode cX10_init 63 = .ok (.bipush 48, 2) := by decide +kernel
theorem d_X10_init_65 : decode cX10_init 65 = .ok (.newarray .int, 2) := by decide +kernel
theorem d_X10_init_67 : decode cX10_init 67 = .ok (.putfield 57, 3) := by decide +kernel
theorem d_X10_init_70 : decode cX10_init 70 = .ok (.aload_n 0, 1) := by decide +kernel
theorem d_X10_init_71 : decode cX10_init 71 = .ok (.bipush 49, 2) := by decide +kernel
theorem d_X10_init_73 : decode cX10_init 73 = .ok (.newarray .long, 2) := by decide +kernel
theorem d_X10_init_75 : decode cX10_init 75 = .ok (.putfield 60, 3) := by decide +kernel
theorem d_X10_init_78 : decode cX10_init 78 = .ok (.aload_n 0, 1) := by decide +kernel
theorem d_X10_init_79 : decode cX10_init 79 = .ok (.bipush 49, 2) := by decide +kernel
theorem d_X10_init_81 : decode cX10_init 81 = .ok (.newarray .long, 2) := by decide +kernel
theorem d_X10_init_83 : decode cX10_init 83 = .ok (.putfield 64, 3) := by decide +kernel
theorem d_X10_init_86 : decode cX10_init 86 = .ok (.aload_n 0, 1) := by decide +kernel
theorem d_X10_init_87 : decode cX10_init 87 = .ok (.sipush 2401, 3) := by decide +kernel
theorem d_X10_init_90 : decode cX10_init 90 = .ok (.newarray .long, 2) := by decide +kernel
theorem d_X10_init_92 : decode cX10_init 92 = .ok (.putfield 67, 3) := by decide +kernel
theorem d_X10_init_95 : decode cX10_init 95 = .ok (.aload_n 0, 1) := by decide +kernel
theorem d_X10_init_96 : decode cX10_init 96 = .ok (.bipush 49, 2) := by decide +kernel
theorem d_X10_init_98 : decode cX10_init 98 = .ok (.newarray .int, 2) := by decide +kernel
theorem d_X10_init_100 : decode cX10_init 100 = .ok (.putfield 70, 3) := by decide +kernel
theorem d_X10_init_103 : decode cX10_init 103 = .ok (.aload_n 0, 1) := by decide +kernel
theorem d_X10_init_104 : decode cX10_init 104 = .ok (.sipush 2401, 3) := by decide +kernel
theorem d_X10_init_107 : decode cX10_init 107 = .ok (.newarray .int, 2) := by decide +kernel
theorem d_X10_init_109 : decode cX10_init 109 = .ok (.putfield 73, 3) := by decide +kernel
theorem d_X10_init_112 : decode cX10_init 112 = .ok (.aload_n 0, 1) := by decide +kernel
theorem d_X10_init_113 : decode cX10_init 113 = .ok (.sipush 12005, 3) := by decide +kernel
theorem d_X10_init_116 : decode cX10_init 116 = .ok (.newarray .int, 2) := by decide +kernel
theorem d_X10_init_118 : decode cX10_init 118 = .ok (.putfield 76, 3) := by decide +kernel
theorem d_X10_init_121 : decode cX10_init 121 = .ok (.aload_n 0, 1) := by decide +kernel
theorem d_X10_init_122 : decode cX10_init 122 = .ok (.sipush 2401, 3) := by decide +kernel
theorem d_X10_init_125 : decode cX10_init 125 = .ok (.newarray .boolean, 2) := by decide +kernel
theorem d_X10_init_127 : decode cX10_init 127 = .ok (.putfield 79, 3) := by decide +kernel
theorem d_X10_init_130 : decode cX10_init 130 = .ok (.aload_n 0, 1) := by decide +kernel
theorem d_X10_init_131 : decode cX10_init 131 = .ok (.iconst 5, 1) := by decide +kernel
theorem d_X10_init_132 : decode cX10_init 132 = .ok (.newarray .int, 2) := by decide +kernel
theorem d_X10_init_134 : decode cX10_init 134 = .ok (.putfield 83, 3) := by decide +kernel
theorem d_X10_init_137 : decode cX10_init 137 = .ok (.aload_n 0, 1) := by decide +kernel
theorem d_X10_init_138 : decode cX10_init 138 = .ok (.iconst 5, 1) := by decide +kernel
theorem d_X10_init_139 : decode cX10_init 139 = .ok (.newarray .int, 2) := by decide +kernel
theorem d_X10_init_141 : decode cX10_init 141 = .ok (.putfield 86, 3) := by decide +kernel
theorem d_X10_init_144 : decode cX10_init 144 = .ok (.aload_n 0, 1) := by decide +kernel
theorem d_X10_init_145 : decode cX10_init 145 = .ok (.sipush 2401, 3) := by decide +kernel
theorem d_X10_init_148 : decode cX10_init 148 = .ok (.newarray .int, 2) := by decide +kernel
theorem d_X10_init_150 : decode cX10_init 150 = .ok (.putfield 89, 3) := by decide +kernel
theorem d_X10_init_153 : decode cX10_init 153 = .ok (.aload_n 0, 1) := by decide +kernel
theorem d_X10_init_154 : decode cX10_init 154 = .ok (.sipush 9600, 3) := by decide +kernel
theorem d_X10_init_157 : decode cX10_init 157 = .ok (.newarray .int, 2) := by decide +kernel
theorem d_X10_init_159 : decode cX10_init 159 = .ok (.putfield 92, 3) := by decide +kernel
theorem d_X10_init_162 : decode cX10_init 162 = .ok (.aload_n 0, 1) := by decide +kernel
theorem d_X10_init_163 : decode cX10_init 163 = .ok (.sipush 2628, 3) := by decide +kernel
theorem d_X10_init_166 : decode cX10_init 166 = .ok (.newarray .int, 2) := by decide +kernel
theorem d_X10_init_168 : decode cX10_init 168 = .ok (.putfield 95, 3) := by decide +kernel
theorem d_X10_init_171 : decode cX10_init 171 = .ok (.aload_n 0, 1) := by decide +kernel
theorem d_X10_init_172 : decode cX10_init 172 = .ok (.invokevirtual 98, 3) := by decide +kernel
theorem d_X10_init_175 : decode cX10_init 175 = .ok (.aload_n 0, 1) := by decide +kernel
theorem d_X10_init_176 : decode cX10_init 176 = .ok (.invokevirtual 101, 3) := by decide +kernel
theorem d_X10_init_179 : decode cX10_init 179 = .ok (.return_, 1) := by decide +kernel
theorem d_X10_isPath_0 : decode cX10_isPath 0 = .ok (.iload_n 1, 1) := by decide +kernel
theorem d_X10_isPath_1 : decode cX10_isPath 1 = .ok (.ifCond .lt 15, 3) := by decide +kernel
theorem d_X10_isPath_4 : decode cX10_isPath 4 = .ok (.iload_n 1, 1) := by decide +kernel
theorem d_X10_isPath_5 : decode cX10_isPath 5 = .ok (.aload_n 0, 1) := by decide +kernel
theorem d_X10_isPath_6 : decode cX10_isPath 6 = .ok (.getfield 25, 3) := by decide +kernel
theorem d_X10_isPath_9 : decode cX10_isPath 9 = .ok (.if_icmp .ge 7, 3) := by decide +kernel
theorem d_X10_isPath_12 : decode cX10_isPath 12 = .ok (.iconst 1, 1) := by decide +kernel
theorem d_X10_isPath_13 : decode cX10_isPath 13 = .ok (.goto 4, 3) := by decide +kernel
theorem d_X10_isPath_16 : decode cX10_isPath 16 = .ok (.iconst 0, 1) := by decide +kernel
theorem d_X10_isPath_17 : decode cX10_isPath 17 = .ok (.ireturn, 1) := by decide +kernel
theorem d_X10_isWished_0 : decode cX10_isWished 0 = .ok (.aload_n 0, 1) := by decide +kernel
theorem d_X10_isWished_1 : decode cX10_isWished 1 = .ok (.getfield 7, 3) := by decide +kernel
theorem d_X10_isWished_4 : decode cX10_isWished 4 = .ok (.sipush 227, 3) := by decide +kernel
theorem d_X10_isWished_7 : decode cX10_isWished 7 = .ok (.iload_n 1, 1) := by decide +kernel
theorem d_X10_isWished_8 : decode cX10_isWished 8 = .ok (.iadd, 1) := by decide +kernel
theorem d_X10_isWished_9 : decode cX10_isWished 9 = .ok (.iaload, 1) := by decide +kernel
theorem d_X10_isWished_10 : decode cX10_isWished 10 = .ok (.iconst 1, 1) := by decide +kernel
theorem d_X10_isWished_11 : decode cX10_isWished 11 = .ok (.if_icmp .ne 7, 3) := by decide +kernel
theorem d_X10_isWished_14 : decode cX10_isWished 14 = .ok (.iconst 1, 1) := by decide +kernel
theorem d_X10_isWished_15 : decode cX10_isWished 15 = .ok (.goto 4, 3) := by decide +kernel
theorem d_X10_isWished_18 : decode cX10_isWished 18 = .ok (.iconst 0, 1) := by decide +kernel
theorem d_X10_isWished_19 : decode cX10_isWished 19 = .ok (.ireturn, 1) := by decide +kernel
theorem d_X10_isFree_0 : decode cX10_isFree 0 = .ok (.aload_n 0, 1) := by decide +kernel
theorem d_X10_isFree_1 : decode cX10_isFree 1 = .ok (.getfield 7, 3) := by decide +kernel
theorem d_X10_isFree_4 : decode cX10_isFree 4 = .ok (.sipush 227, 3) := by decide +kernel
theorem d_X10_isFree_7 : decode cX10_isFree 7 = .ok (.iload_n 1, 1) := by decide +kernel
theorem d_X10_isFree_8 : decode cX10_isFree 8 = .ok (.iadd, 1) := by decide +kernel
theorem d_X10_isFree_9 : decode cX10_isFree 9 = .ok (.iaload, 1) := by decide +kernel
theorem d_X10_isFree_10 : decode cX10_isFree 10 = .ok (.iconst 2, 1) := by decide +kernel
theorem d_X10_isFree_11 : decode cX10_isFree 11 = .ok (.if_icmp .ne 7, 3) := by decide +kernel
theorem d_X10_isFree_14 : decode cX10_isFree 14 = .ok (.iconst 1, 1) := by decide +kernel
theorem d_X10_isFree_15 : decode cX10_isFree 15 = .ok (.goto 4, 3) := by decide +kernel
theorem d_X10_isFree_18 : decode cX10_isFree 18 = .ok (.iconst 0, 1) := by decide +kernel
theorem d_X10_isFree_19 : decode cX10_isFree 19 = .ok (.ireturn, 1) := by decide +kernel
theorem d_X10_chief_0 : decode cX10_chief 0 = .ok (.iconst 0, 1) := by decide +kernel
theorem d_X10_chief_1 : decode cX10_chief 1 = .ok (.istore_n 1, 1) := by decide +kernel
theorem d_X10_chief_2 : decode cX10_chief 2 = .ok (.iload_n 1, 1) := by decide +kernel
theorem d_X10_chief_3 : decode cX10_chief 3 = .ok (.aload_n 0, 1) := by decide +kernel
theorem d_X10_chief_4 : decode cX10_chief 4 = .ok (.getfield 25, 3) := by decide +kernel
theorem d_X10_chief_7 : decode cX10_chief 7 = .ok (.if_icmp .ge 19, 3) := by decide +kernel
theorem d_X10_chief_10 : decode cX10_chief 10 = .ok (.aload_n 0, 1) := by decide +kernel
theorem d_X10_chief_11 : decode cX10_chief 11 = .ok (.iload_n 1, 1) := by decide +kernel
theorem d_X10_chief_12 : decode cX10_chief 12 = .ok (.invokevirtual 104, 3) := by decide +kernel
theorem d_X10_chief_15 : decode cX10_chief 15 = .ok (.ifCond .eq 5, 3) := by decide +kernel
theorem d_X10_chief_18 : decode cX10_chief 18 = .ok (.iload_n 1, 1) := by decide +kernel
theorem d_X10_chief_19 : decode cX10_chief 19 = .ok (.ireturn, 1) := by decide +kernel
theorem d_X10_chief_20 : decode cX10_chief 20 = .ok (.iinc 1 1, 3) := by decide +kernel
theorem d_X10_chief_23 : decode cX10_chief 23 = .ok (.goto (-21), 3) := by decide +kernel
theorem d_X10_chief_26 : decode cX10_chief 26 = .ok (.iconst (-1), 1) := by decide +kernel
theorem d_X10_chief_27 : decode cX10_chief 27 = .ok (.ireturn, 1) := by decide +kernel
theorem d_X10_isSpoiled_0 : decode cX10_isSpoiled 0 = .ok (.iconst 0, 1) := by decide +kernel
theorem d_X10_isSpoiled_1 : decode cX10_isSpoiled 1 = .ok (.istore_n 2, 1) := by decide +kernel
theorem d_X10_isSpoiled_2 : decode cX10_isSpoiled 2 = .ok (.iconst 0, 1) := by decide +kernel
theorem d_X10_isSpoiled_3 : decode cX10_isSpoiled 3 = .ok (.istore_n 3, 1) := by decide +kernel
theorem d_X10_isSpoiled_4 : decode cX10_isSpoiled 4 = .ok (.iload_n 3, 1) := by decide +kernel
theorem d_X10_isSpoiled_5 : decode cX10_isSpoiled 5 = .ok (.aload_n 0, 1) := by decide +kernel
theorem d_X10_isSpoiled_6 : decode cX10_isSpoiled 6 = .ok (.invokevirtual 11, 3) := by decide +kernel
theorem d_X10_isSpoiled_9 : decode cX10_isSpoiled 9 = .ok (.if_icmp .ge 28, 3) := by decide +kernel
theorem d_X10_isSpoiled_12 : decode cX10_isSpoiled 12 = .ok (.iload_n 2, 1) := by decide +kernel
theorem d_X10_isSpoiled_13 : decode cX10_isSpoiled 13 = .ok (.aload_n 0, 1) := by decide +kernel
theorem d_X10_isSpoiled_14 : decode cX10_isSpoiled 14 = .ok (.iload_n 1, 1) := by decide +kernel
theorem d_X10_isSpoiled_15 : decode cX10_isSpoiled 15 = .ok (.iload_n 3, 1) := by decide +kernel
theorem d_X10_isSpoiled_16 : decode cX10_isSpoiled 16 = .ok (.invokevirtual 18, 3) := by decide +kernel
theorem d_X10_isSpoiled_19 : decode cX10_isSpoiled 19 = .ok (.aload_n 0, 1) := by decide +kernel
theorem d_X10_isSpoiled_20 : decode cX10_isSpoiled 20 = .ok (.getfield 7, 3) := by decide +kernel
theorem d_X10_isSpoiled_23 : decode cX10_isSpoiled 23 = .ok (.bipush 9, 2) := by decide +kernel
theorem d_X10_isSpoiled_25 : decode cX10_isSpoiled 25 = .ok (.iload_n 3, 1) := by decide +kernel
theorem d_X10_isSpoiled_26 : decode cX10_isSpoiled 26 = .ok (.iadd, 1) := by decide +kernel
theorem d_X10_isSpoiled_27 : decode cX10_isSpoiled 27 = .ok (.iaload, 1) := by decide +kernel
theorem d_X10_isSpoiled_28 : decode cX10_isSpoiled 28 = .ok (.imul, 1) := by decide +kernel
theorem d_X10_isSpoiled_29 : decode cX10_isSpoiled 29 = .ok (.iadd, 1) := by decide +kernel
theorem d_X10_isSpoiled_30 : decode cX10_isSpoiled 30 = .ok (.istore_n 2, 1) := by decide +kernel
theorem d_X10_isSpoiled_31 : decode cX10_isSpoiled 31 = .ok (.iinc 3 1, 3) := by decide +kernel
theorem d_X10_isSpoiled_34 : decode cX10_isSpoiled 34 = .ok (.goto (-30), 3) := by decide +kernel
theorem d_X10_isSpoiled_37 : decode cX10_isSpoiled 37 = .ok (.iload_n 2, 1) := by decide +kernel
theorem d_X10_isSpoiled_38 : decode cX10_isSpoiled 38 = .ok (.ifCond .eq 7, 3) := by decide +kernel
theorem d_X10_isSpoiled_41 : decode cX10_isSpoiled 41 = .ok (.iconst 1, 1) := by decide +kernel
theorem d_X10_isSpoiled_42 : decode cX10_isSpoiled 42 = .ok (.goto 4, 3) := by decide +kernel
theorem d_X10_isSpoiled_45 : decode cX10_isSpoiled 45 = .ok (.iconst 0, 1) := by decide +kernel
theorem d_X10_isSpoiled_46 : decode cX10_isSpoiled 46 = .ok (.ireturn, 1) := by decide +kernel
theorem d_X10_size_0 : decode cX10_size 0 = .ok (.iload_n 1, 1) := by decide +kernel
theorem d_X10_size_1 : decode cX10_size 1 = .ok (.ifCond .ge 8, 3) := by decide +kernel
theorem d_X10_size_4 : decode cX10_size 4 = .ok (.iload_n 1, 1) := by decide +kernel
theorem d_X10_size_5 : decode cX10_size 5 = .ok (.ineg, 1) := by decide +kernel
theorem d_X10_size_6 : decode cX10_size 6 = .ok (.goto 4, 3) := by decide +kernel
theorem d_X10_size_9 : decode cX10_size 9 = .ok (.iload_n 1, 1) := by decide +kernel
theorem d_X10_size_10 : decode cX10_size 10 = .ok (.ireturn, 1) := by decide +kernel
theorem d_X10_weighs_0 : decode cX10_weighs 0 = .ok (.iconst 1, 1) := by decide +kernel
theorem d_X10_weighs_1 : decode cX10_weighs 1 = .ok (.istore_n 2, 1) := by decide +kernel
theorem d_X10_weighs_2 : decode cX10_weighs 2 = .ok (.iconst 0, 1) := by decide +kernel
theorem d_X10_weighs_3 : decode cX10_weighs 3 = .ok (.istore_n 3, 1) := by decide +kernel
theorem d_X10_weighs_4 : decode cX10_weighs 4 = .ok (.iload_n 3, 1) := by decide +kernel
theorem d_X10_weighs_5 : decode cX10_weighs 5 = .ok (.aload_n 0, 1) := by decide +kernel
theorem d_X10_weighs_6 : decode cX10_weighs 6 = .ok (.invokevirtual 11, 3) := by decide +kernel
theorem d_X10_weighs_9 : decode cX10_weighs 9 = .ok (.if_icmp .ge 27, 3) := by decide +kernel
theorem d_X10_weighs_12 : decode cX10_weighs 12 = .ok (.iload_n 2, 1) := by decide +kernel
theorem d_X10_weighs_13 : decode cX10_weighs 13 = .ok (.aload_n 0, 1) := by decide +kernel
theorem d_X10_weighs_14 : decode cX10_weighs 14 = .ok (.iload_n 3, 1) := by decide +kernel
theorem d_X10_weighs_15 : decode cX10_weighs 15 = .ok (.aload_n 0, 1) := by decide +kernel
theorem d_X10_weighs_16 : decode cX10_weighs 16 = .ok (.aload_n 0, 1) := by decide +kernel
theorem d_X10_weighs_17 : decode cX10_weighs 17 = .ok (.iload_n 1, 1) := by decide +kernel
theorem d_X10_weighs_18 : decode cX10_weighs 18 = .ok (.iload_n 3, 1) := by decide +kernel
theorem d_X10_weighs_19 : decode cX10_weighs 19 = .ok (.invokevirtual 108, 3) := by decide +kernel
theorem d_X10_weighs_22 : decode cX10_weighs 22 = .ok (.invokevirtual 111, 3) := by decide +kernel
theorem d_X10_weighs_25 : decode cX10_weighs 25 = .ok (.invokevirtual 115, 3) := by decide +kernel
theorem d_X10_weighs_28 : decode cX10_weighs 28 = .ok (.imul, 1) := by decide +kernel
theorem d_X10_weighs_29 : decode cX10_weighs 29 = .ok (.istore_n 2, 1) := by decide +kernel
theorem d_X10_weighs_30 : decode cX10_weighs 30 = .ok (.iinc 3 1, 3) := by decide +kernel
theorem d_X10_weighs_33 : decode cX10_weighs 33 = .ok (.goto (-29), 3) := by decide +kernel
theorem d_X10_weighs_36 : decode cX10_weighs 36 = .ok (.iload_n 2, 1) := by decide +kernel
theorem d_X10_weighs_37 : decode cX10_weighs 37 = .ok (.ireturn, 1) := by decide +kernel
theorem d_X10_isGone_0 : decode cX10_isGone 0 = .ok (.aload_n 0, 1) := by decide +kernel
theorem d_X10_isGone_1 : decode cX10_isGone 1 = .ok (.iload_n 1, 1) := by decide +kernel
theorem d_X10_isGone_2 : decode cX10_isGone 2 = .ok (.invokevirtual 118, 3) := by decide +kernel
theorem d_X10_isGone_5 : decode cX10_isGone 5 = .ok (.ifCond .ne 11, 3) := by decide +kernel
theorem d_X10_isGone_8 : decode cX10_isGone 8 = .ok (.aload_n 0, 1) := by decide +kernel
theorem d_X10_isGone_9 : decode cX10_isGone 9 = .ok (.iload_n 1, 1) := by decide +kernel
theorem d_X10_isGone_10 : decode cX10_isGone 10 = .ok (.invokevirtual 121, 3) := by decide +kernel
theorem d_X10_isGone_13 : decode cX10_isGone 13 = .ok (.ifCond .ne 7, 3) := by decide +kernel
theorem d_X10_isGone_16 : decode cX10_isGone 16 = .ok (.iconst 1, 1) := by decide +kernel
theorem d_X10_isGone_17 : decode cX10_isGone 17 = .ok (.goto 4, 3) := by decide +kernel
theorem d_X10_isGone_20 : decode cX10_isGone 20 = .ok (.iconst 0, 1) := by decide +kernel
theorem d_X10_isGone_21 : decode cX10_isGone 21 = .ok (.ireturn, 1) := by decide +kernel
theorem d_X10_wishesNothing_0 : decode cX10_wishesNothing 0 = .ok (.iconst 0, 1) := by decide +kernel
theorem d_X10_wishesNothing_1 : decode cX10_wishesNothing 1 = .ok (.istore_n 1, 1) := by decide +kernel
theorem d_X10_wishesNothing_2 : decode cX10_wishesNothing 2 = .ok (.iload_n 1, 1) := by decide +kernel
theorem d_X10_wishesNothing_3 : decode cX10_wishesNothing 3 = .ok (.sipush 2401, 3) := by decide +kernel
theorem d_X10_wishesNothing_6 : decode cX10_wishesNothing 6 = .ok (.if_icmp .ge 20, 3) := by decide +kernel
theorem d_X10_wishesNothing_9 : decode cX10_wishesNothing 9 = .ok (.aload_n 0, 1) := by decide +kernel
theorem d_X10_wishesNothing_10 : decode cX10_wishesNothing 10 = .ok (.getfield 7, 3) := by decide +kernel
theorem d_X10_wishesNothing_13 : decode cX10_wishesNothing 13 = .ok (.sipush 227, 3) := by decide +kernel
theorem d_X10_wishesNothing_16 : decode cX10_wishesNothing 16 = .ok (.iload_n 1, 1) := by decide +kernel
theorem d_X10_wishesNothing_17 : decode cX10_wishesNothing 17 = .ok (.iadd, 1) := by decide +kernel
theorem d_X10_wishesNothing_18 : decode cX10_wishesNothing 18 = .ok (.iconst 0, 1) := by decide +kernel
theorem d_X10_wishesNothing_19 : decode cX10_wishesNothing 19 = .ok (.iastore, 1) := by decide +kernel
theorem d_X10_wishesNothing_20 : decode cX10_wishesNothing 20 = .ok (.iinc 1 1, 3) := by decide +kernel
theorem d_X10_wishesNothing_23 : decode cX10_wishesNothing 23 = .ok (.goto (-21), 3) := by decide +kernel
theorem d_X10_wishesNothing_26 : decode cX10_wishesNothing 26 = .ok (.aload_n 0, 1) := by decide +kernel
theorem d_X10_wishesNothing_27 : decode cX10_wishesNothing 27 = .ok (.invokevirtual 98, 3) := by decide +kernel
theorem d_X10_wishesNothing_30 : decode cX10_wishesNothing 30 = .ok (.return_, 1) := by decide +kernel
theorem d_X10_clearsCycle_0 : decode cX10_clearsCycle 0 = .ok (.bipush 49, 2) := by decide +kernel
theorem d_X10_clearsCycle_2 : decode cX10_clearsCycle 2 = .ok (.istore_n 1, 1) := by decide +kernel
theorem d_X10_clearsCycle_3 : decode cX10_clearsCycle 3 = .ok (.iload_n 1, 1) := by decide +kernel
theorem d_X10_clearsCycle_4 : decode cX10_clearsCycle 4 = .ok (.sipush 227, 3) := by decide +kernel
theorem d_X10_clearsCycle_7 : decode cX10_clearsCycle 7 = .ok (.if_icmp .ge 16, 3) := by decide +kernel
theorem d_X10_clearsCycle_10 : decode cX10_clearsCycle 10 = .ok (.aload_n 0, 1) := by decide +kernel
theorem d_X10_clearsCycle_11 : decode cX10_clearsCycle 11 = .ok (.getfield 7, 3) := by decide +kernel
theorem d_X10_clearsCycle_14 : decode cX10_clearsCycle 14 = .ok (.iload_n 1, 1) := by decide +kernel
theorem d_X10_clearsCycle_15 : decode cX10_clearsCycle 15 = .ok (.iconst 0, 1) := by decide +kernel
theorem d_X10_clearsCycle_16 : decode cX10_clearsCycle 16 = .ok (.iastore, 1) := by decide +kernel
theorem d_X10_clearsCycle_17 : decode cX10_clearsCycle 17 = .ok (.iinc 1 1, 3) := by decide +kernel
theorem d_X10_clearsCycle_20 : decode cX10_clearsCycle 20 = .ok (.goto (-17), 3) := by decide +kernel
theorem d_X10_clearsCycle_23 : decode cX10_clearsCycle 23 = .ok (.aload_n 0, 1) := by decide +kernel
theorem d_X10_clearsCycle_24 : decode cX10_clearsCycle 24 = .ok (.iconst 0, 1) := by decide +kernel
theorem d_X10_clearsCycle_25 : decode cX10_clearsCycle 25 = .ok (.putfield 32, 3) := by decide +kernel
theorem d_X10_clearsCycle_28 : decode cX10_clearsCycle 28 = .ok (.return_, 1) := by decide +kernel
theorem d_X10_pulses_0 : decode cX10_pulses 0 = .ok (.aload_n 0, 1) := by decide +kernel
theorem d_X10_pulses_1 : decode cX10_pulses 1 = .ok (.iconst 0, 1) := by decide +kernel
theorem d_X10_pulses_2 : decode cX10_pulses 2 = .ok (.putfield 1, 3) := by decide +kernel
theorem d_X10_pulses_5 : decode cX10_pulses 5 = .ok (.aload_n 0, 1) := by decide +kernel
theorem d_X10_pulses_6 : decode cX10_pulses 6 = .ok (.iload_n 1, 1) := by decide +kernel
theorem d_X10_pulses_7 : decode cX10_pulses 7 = .ok (.iconst 1, 1) := by decide +kernel
theorem d_X10_pulses_8 : decode cX10_pulses 8 = .ok (.iconst 5, 1) := by decide +kernel
theorem d_X10_pulses_9 : decode cX10_pulses 9 = .ok (.invokevirtual 124, 3) := by decide +kernel
theorem d_X10_pulses_12 : decode cX10_pulses 12 = .ok (.ifCond .eq 13, 3) := by decide +kernel
theorem d_X10_pulses_15 : decode cX10_pulses 15 = .ok (.aload_n 0, 1) := by decide +kernel
theorem d_X10_pulses_16 : decode cX10_pulses 16 = .ok (.iload_n 2, 1) := by decide +kernel
theorem d_X10_pulses_17 : decode cX10_pulses 17 = .ok (.iconst 1, 1) := by decide +kernel
theorem d_X10_pulses_18 : decode cX10_pulses 18 = .ok (.iconst 3, 1) := by decide +kernel
theorem d_X10_pulses_19 : decode cX10_pulses 19 = .ok (.invokevirtual 124, 3) := by decide +kernel
theorem d_X10_pulses_22 : decode cX10_pulses 22 = .ok (.ifCond .ne 5, 3) := by decide +kernel
theorem d_X10_pulses_25 : decode cX10_pulses 25 = .ok (.iconst (-1), 1) := by decide +kernel
theorem d_X10_pulses_26 : decode cX10_pulses 26 = .ok (.ireturn, 1) := by decide +kernel
theorem d_X10_pulses_27 : decode cX10_pulses 27 = .ok (.iconst 4, 1) := by decide +kernel
theorem d_X10_pulses_28 : decode cX10_pulses 28 = .ok (.istore_n 3, 1) := by decide +kernel
theorem d_X10_pulses_29 : decode cX10_pulses 29 = .ok (.iload_n 3, 1) := by decide +kernel
theorem d_X10_pulses_30 : decode cX10_pulses 30 = .ok (.bipush 49, 2) := by decide +kernel
theorem d_X10_pulses_32 : decode cX10_pulses 32 = .ok (.if_icmp .ge 16, 3) := by decide +kernel
theorem d_X10_pulses_35 : decode cX10_pulses 35 = .ok (.aload_n 0, 1) := by decide +kernel
theorem d_X10_pulses_36 : decode cX10_pulses 36 = .ok (.getfield 7, 3) := by decide +kernel
theorem d_X10_pulses_39 : decode cX10_pulses 39 = .ok (.iload_n 3, 1) := by decide +kernel
theorem d_X10_pulses_40 : decode cX10_pulses 40 = .ok (.iconst 0, 1) := by decide +kernel
theorem d_X10_pulses_41 : decode cX10_pulses 41 = .ok (.iastore, 1) := by decide +kernel
theorem d_X10_pulses_42 : decode cX10_pulses 42 = .ok (.iinc 3 1, 3) := by decide +kernel
theorem d_X10_pulses_45 : decode cX10_pulses 45 = .ok (.goto (-16), 3) := by decide +kernel
theorem d_X10_pulses_48 : decode cX10_pulses 48 = .ok (.aload_n 0, 1) := by decide +kernel
theorem d_X10_pulses_49 : decode cX10_pulses 49 = .ok (.getfield 7, 3) := by decide +kernel
theorem d_X10_pulses_52 : decode cX10_pulses 52 = .ok (.iconst 0, 1) := by decide +kernel
theorem d_X10_pulses_53 : decode cX10_pulses 53 = .ok (.iload_n 1, 1) := by decide +kernel
theorem d_X10_pulses_54 : decode cX10_pulses 54 = .ok (.iconst 3, 1) := by decide +kernel
theorem d_X10_pulses_55 : decode cX10_pulses 55 = .ok (.isub, 1) := by decide +kernel
theorem d_X10_pulses_56 : decode cX10_pulses 56 = .ok (.iastore, 1) := by decide +kernel
theorem d_X10_pulses_57 : decode cX10_pulses 57 = .ok (.aload_n 0, 1) := by decide +kernel
theorem d_X10_pulses_58 : decode cX10_pulses 58 = .ok (.getfield 7, 3) := by decide +kernel
theorem d_X10_pulses_61 : decode cX10_pulses 61 = .ok (.iconst 1, 1) := by decide +kernel
theorem d_X10_pulses_62 : decode cX10_pulses 62 = .ok (.iload_n 2, 1) := by decide +kernel
theorem d_X10_pulses_63 : decode cX10_pulses 63 = .ok (.iconst 1, 1) := by decide +kernel
theorem d_X10_pulses_64 : decode cX10_pulses 64 = .ok (.isub, 1) := by decide +kernel
theorem d_X10_pulses_65 : decode cX10_pulses 65 = .ok (.iastore, 1) := by decide +kernel
theorem d_X10_pulses_66 : decode cX10_pulses 66 = .ok (.aload_n 0, 1) := by decide +kernel
theorem d_X10_pulses_67 : decode cX10_pulses 67 = .ok (.invokevirtual 127, 3) := by decide +kernel
theorem d_X10_pulses_70 : decode cX10_pulses 70 = .ok (.aload_n 0, 1) := by decide +kernel
theorem d_X10_pulses_71 : decode cX10_pulses 71 = .ok (.invokevirtual 130, 3) := by decide +kernel
theorem d_X10_pulses_74 : decode cX10_pulses 74 = .ok (.aload_n 0, 1) := by decide +kernel
theorem d_X10_pulses_75 : decode cX10_pulses 75 = .ok (.getfield 25, 3) := by decide +kernel
theorem d_X10_pulses_78 : decode cX10_pulses 78 = .ok (.ireturn, 1) := by decide +kernel
theorem d_X10_kind_0 : decode cX10_kind 0 = .ok (.aload_n 0, 1) := by decide +kernel
theorem d_X10_kind_1 : decode cX10_kind 1 = .ok (.iconst 0, 1) := by decide +kernel
theorem d_X10_kind_2 : decode cX10_kind 2 = .ok (.putfield 1, 3) := by decide +kernel
theorem d_X10_kind_5 : decode cX10_kind 5 = .ok (.aload_n 0, 1) := by decide +kernel
theorem d_X10_kind_6 : decode cX10_kind 6 = .ok (.iload_n 1, 1) := by decide +kernel
theorem d_X10_kind_7 : decode cX10_kind 7 = .ok (.invokevirtual 133, 3) := by decide +kernel
theorem d_X10_kind_10 : decode cX10_kind 10 = .ok (.ifCond .eq 13, 3) := by decide +kernel
theorem d_X10_kind_13 : decode cX10_kind 13 = .ok (.aload_n 0, 1) := by decide +kernel
theorem d_X10_kind_14 : decode cX10_kind 14 = .ok (.iload_n 2, 1) := by decide +kernel
theorem d_X10_kind_15 : decode cX10_kind 15 = .ok (.iconst 0, 1) := by decide +kernel
theorem d_X10_kind_16 : decode cX10_kind 16 = .ok (.iconst 2, 1) := by decide +kernel
theorem d_X10_kind_17 : decode cX10_kind 17 = .ok (.invokevirtual 124, 3) := by decide +kernel
theorem d_X10_kind_20 : decode cX10_kind 20 = .ok (.ifCond .ne 5, 3) := by decide +kernel
theorem d_X10_kind_23 : decode cX10_kind 23 = .ok (.iconst 0, 1) := by decide +kernel
theorem d_X10_kind_24 : decode cX10_kind 24 = .ok (.ireturn, 1) := by decide +kernel
theorem d_X10_kind_25 : decode cX10_kind 25 = .ok (.aload_n 0, 1) := by decide +kernel
theorem d_X10_kind_26 : decode cX10_kind 26 = .ok (.getfield 7, 3) := by decide +kernel
theorem d_X10_kind_29 : decode cX10_kind 29 = .ok (.iconst 4, 1) := by decide +kernel
theorem d_X10_kind_30 : decode cX10_kind 30 = .ok (.iload_n 1, 1) := by decide +kernel
theorem d_X10_kind_31 : decode cX10_kind 31 = .ok (.iadd, 1) := by decide +kernel
theorem d_X10_kind_32 : decode cX10_kind 32 = .ok (.iload_n 2, 1) := by decide +kernel
theorem d_X10_kind_33 : decode cX10_kind 33 = .ok (.iastore, 1) := by decide +kernel
theorem d_X10_kind_34 : decode cX10_kind 34 = .ok (.aload_n 0, 1) := by decide +kernel
theorem d_X10_kind_35 : decode cX10_kind 35 = .ok (.invokevirtual 130, 3) := by decide +kernel
theorem d_X10_kind_38 : decode cX10_kind 38 = .ok (.iconst 1, 1) := by decide +kernel
theorem d_X10_kind_39 : decode cX10_kind 39 = .ok (.ireturn, 1) := by decide +kernel
theorem d_X10_turn_0 : decode cX10_turn 0 = .ok (.aload_n 0, 1) := by decide +kernel
theorem d_X10_turn_1 : decode cX10_turn 1 = .ok (.iconst 0, 1) := by decide +kernel
theorem d_X10_turn_2 : decode cX10_turn 2 = .ok (.putfield 1, 3) := by decide +kernel
theorem d_X10_turn_5 : decode cX10_turn 5 = .ok (.aload_n 0, 1) := by decide +kernel
theorem d_X10_turn_6 : decode cX10_turn 6 = .ok (.iload_n 1, 1) := by decide +kernel
theorem d_X10_turn_7 : decode cX10_turn 7 = .ok (.iconst 2, 1) := by decide +kernel
theorem d_X10_turn_8 : decode cX10_turn 8 = .ok (.bipush 48, 2) := by decide +kernel
theorem d_X10_turn_10 : decode cX10_turn 10 = .ok (.invokevirtual 124, 3) := by decide +kernel
theorem d_X10_turn_13 : decode cX10_turn 13 = .ok (.ifCond .ne 5, 3) := by decide +kernel
theorem d_X10_turn_16 : decode cX10_turn 16 = .ok (.iconst 0, 1) := by decide +kernel
theorem d_X10_turn_17 : decode cX10_turn 17 = .ok (.ireturn, 1) := by decide +kernel
theorem d_X10_turn_18 : decode cX10_turn 18 = .ok (.aload_n 0, 1) := by decide +kernel
theorem d_X10_turn_19 : decode cX10_turn 19 = .ok (.getfield 7, 3) := by decide +kernel
theorem d_X10_turn_22 : decode cX10_turn 22 = .ok (.iconst 2, 1) := by decide +kernel
theorem d_X10_turn_23 : decode cX10_turn 23 = .ok (.iload_n 1, 1) := by decide +kernel
theorem d_X10_turn_24 : decode cX10_turn 24 = .ok (.bipush 24, 2) := by decide +kernel
theorem d_X10_turn_26 : decode cX10_turn 26 = .ok (.isub, 1) := by decide +kernel
theorem d_X10_turn_27 : decode cX10_turn 27 = .ok (.iastore, 1) := by decide +kernel
theorem d_X10_turn_28 : decode cX10_turn 28 = .ok (.aload_n 0, 1) := by decide +kernel
theorem d_X10_turn_29 : decode cX10_turn 29 = .ok (.invokevirtual 127, 3) := by decide +kernel
theorem d_X10_turn_32 : decode cX10_turn 32 = .ok (.aload_n 0, 1) := by decide +kernel
theorem d_X10_turn_33 : decode cX10_turn 33 = .ok (.invokevirtual 101, 3) := by decide +kernel
theorem d_X10_turn_36 : decode cX10_turn 36 = .ok (.iconst 1, 1) := by decide +kernel
theorem d_X10_turn_37 : decode cX10_turn 37 = .ok (.ireturn, 1) := by decide +kernel
theorem d_X10_scans_0 : decode cX10_scans 0 = .ok (.iconst 1, 1) := by decide +kernel
theorem d_X10_scans_1 : decode cX10_scans 1 = .ok (.istore_n 1, 1) := by decide +kernel
theorem d_X10_scans_2 : decode cX10_scans 2 = .ok (.iconst 0, 1) := by decide +kernel
theorem d_X10_scans_3 : decode cX10_scans 3 = .ok (.istore_n 2, 1) := by decide +kernel
theorem d_X10_scans_4 : decode cX10_scans 4 = .ok (.iload_n 2, 1) := by decide +kernel
theorem d_X10_scans_5 : decode cX10_scans 5 = .ok (.iconst 4, 1) := by decide +kernel
theorem d_X10_scans_6 : decode cX10_scans 6 = .ok (.if_icmp .ge 17, 3) := by decide +kernel
theorem d_X10_scans_9 : decode cX10_scans 9 = .ok (.iload_n 1, 1) := by decide +kernel
theorem d_X10_scans_10 : decode cX10_scans 10 = .ok (.aload_n 0, 1) := by decide +kernel
theorem d_X10_scans_11 : decode cX10_scans 11 = .ok (.iload_n 2, 1) := by decide +kernel
theorem d_X10_scans_12 : decode cX10_scans 12 = .ok (.invokevirtual 136, 3) := by decide +kernel
theorem d_X10_scans_15 : decode cX10_scans 15 = .ok (.imul, 1) := by decide +kernel
theorem d_X10_scans_16 : decode cX10_scans 16 = .ok (.istore_n 1, 1) := by decide +kernel
theorem d_X10_scans_17 : decode cX10_scans 17 = .ok (.iinc 2 1, 3) := by decide +kernel
theorem d_X10_scans_20 : decode cX10_scans 20 = .ok (.goto (-16), 3) := by decide +kernel
theorem d_X10_scans_23 : decode cX10_scans 23 = .ok (.iload_n 1, 1) := by decide +kernel
theorem d_X10_scans_24 : decode cX10_scans 24 = .ok (.ireturn, 1) := by decide +kernel
theorem d_X10_counter_0 : decode cX10_counter 0 = .ok (.aload_n 0, 1) := by decide +kernel
theorem d_X10_counter_1 : decode cX10_counter 1 = .ok (.iconst 0, 1) := by decide +kernel
theorem d_X10_counter_2 : decode cX10_counter 2 = .ok (.putfield 1, 3) := by decide +kernel
theorem d_X10_counter_5 : decode cX10_counter 5 = .ok (.aload_n 0, 1) := by decide +kernel
theorem d_X10_counter_6 : decode cX10_counter 6 = .ok (.iload_n 1, 1) := by decide +kernel
theorem d_X10_counter_7 : decode cX10_counter 7 = .ok (.invokevirtual 139, 3) := by decide +kernel
theorem d_X10_counter_10 : decode cX10_counter 10 = .ok (.ifCond .eq 32, 3) := by decide +kernel
theorem d_X10_counter_13 : decode cX10_counter 13 = .ok (.aload_n 0, 1) := by decide +kernel
theorem d_X10_counter_14 : decode cX10_counter 14 = .ok (.iload_n 2, 1) := by decide +kernel
theorem d_X10_counter_15 : decode cX10_counter 15 = .ok (.iconst 1, 1) := by decide +kernel
theorem d_X10_counter_16 : decode cX10_counter 16 = .ok (.bipush 12, 2) := by decide +kernel
theorem d_X10_counter_18 : decode cX10_counter 18 = .ok (.invokevirtual 124, 3) := by decide +kernel
theorem d_X10_counter_21 : decode cX10_counter 21 = .ok (.ifCond .eq 21, 3) := by decide +kernel
theorem d_X10_counter_24 : decode cX10_counter 24 = .ok (.aload_n 0, 1) := by decide +kernel
theorem d_X10_counter_25 : decode cX10_counter 25 = .ok (.invokevirtual 142, 3) := by decide +kernel
theorem d_X10_counter_28 : decode cX10_counter 28 = .ok (.aload_n 0, 1) := by decide +kernel
theorem d_X10_counter_29 : decode cX10_counter 29 = .ok (.iload_n 1, 1) := by decide +kernel
theorem d_X10_counter_30 : decode cX10_counter 30 = .ok (.invokevirtual 136, 3) := by decide +kernel
theorem d_X10_counter_33 : decode cX10_counter 33 = .ok (.idiv, 1) := by decide +kernel
theorem d_X10_counter_34 : decode cX10_counter 34 = .ok (.iload_n 2, 1) := by decide +kernel
theorem d_X10_counter_35 : decode cX10_counter 35 = .ok (.imul, 1) := by decide +kernel
theorem d_X10_counter_36 : decode cX10_counter 36 = .ok (.sipush 512, 3) := by decide +kernel
theorem d_X10_counter_39 : decode cX10_counter 39 = .ok (.if_icmp .le 5, 3) := by decide +kernel
theorem d_X10_counter_42 : decode cX10_counter 42 = .ok (.iconst (-1), 1) := by decide +kernel
theorem d_X10_counter_43 : decode cX10_counter 43 = .ok (.ireturn, 1) := by decide +kernel
theorem d_X10_counter_44 : decode cX10_counter 44 = .ok (.aload_n 0, 1) := by decide +kernel
theorem d_X10_counter_45 : decode cX10_counter 45 = .ok (.getfield 7, 3) := by decide +kernel
theorem d_X10_counter_48 : decode cX10_counter 48 = .ok (.bipush 49, 2) := by decide +kernel
theorem d_X10_counter_50 : decode cX10_counter 50 = .ok (.iload_n 1, 1) := by decide +kernel
theorem d_X10_counter_51 : decode cX10_counter 51 = .ok (.iadd, 1) := by decide +kernel
theorem d_X10_counter_52 : decode cX10_counter 52 = .ok (.iload_n 2, 1) := by decide +kernel
theorem d_X10_counter_53 : decode cX10_counter 53 = .ok (.iconst 1, 1) := by decide +kernel
theorem d_X10_counter_54 : decode cX10_counter 54 = .ok (.isub, 1) := by decide +kernel
theorem d_X10_counter_55 : decode cX10_counter 55 = .ok (.iastore, 1) := by decide +kernel
theorem d_X10_counter_56 : decode cX10_counter 56 = .ok (.aload_n 0, 1) := by decide +kernel
theorem d_X10_counter_57 : decode cX10_counter 57 = .ok (.iconst 0, 1) := by decide +kernel
theorem d_X10_counter_58 : decode cX10_counter 58 = .ok (.putfield 32, 3) := by decide +kernel
theorem d_X10_counter_61 : decode cX10_counter 61 = .ok (.aload_n 0, 1) := by decide +kernel
theorem d_X10_counter_62 : decode cX10_counter 62 = .ok (.invokevirtual 142, 3) := by decide +kernel
theorem d_X10_counter_65 : decode cX10_counter 65 = .ok (.ireturn, 1) := by decide +kernel
theorem d_X10_isSource_0 : decode cX10_isSource 0 = .ok (.iload_n 1, 1) := by decide +kernel
theorem d_X10_isSource_1 : decode cX10_isSource 1 = .ok (.ifCond .lt 15, 3) := by decide +kernel
theorem d_X10_isSource_4 : decode cX10_isSource 4 = .ok (.iload_n 1, 1) := by decide +kernel
theorem d_X10_isSource_5 : decode cX10_isSource 5 = .ok (.aload_n 0, 1) := by decide +kernel
theorem d_X10_isSource_6 : decode cX10_isSource 6 = .ok (.invokevirtual 11, 3) := by decide +kernel
theorem d_X10_isSource_9 : decode cX10_isSource 9 = .ok (.if_icmp .gt 7, 3) := by decide +kernel
theorem d_X10_isSource_12 : decode cX10_isSource 12 = .ok (.iconst 1, 1) := by decide +kernel
theorem d_X10_isSource_13 : decode cX10_isSource 13 = .ok (.goto 4, 3) := by decide +kernel
theorem d_X10_isSource_16 : decode cX10_isSource 16 = .ok (.iconst 0, 1) := by decide +kernel
theorem d_X10_isSource_17 : decode cX10_isSource 17 = .ok (.ireturn, 1) := by decide +kernel
theorem d_X10_step_0 : decode cX10_step 0 = .ok (.aload_n 0, 1) := by decide +kernel
theorem d_X10_step_1 : decode cX10_step 1 = .ok (.iconst 0, 1) := by decide +kernel
theorem d_X10_step_2 : decode cX10_step 2 = .ok (.putfield 1, 3) := by decide +kernel
theorem d_X10_step_5 : decode cX10_step 5 = .ok (.aload_n 0, 1) := by decide +kernel
theorem d_X10_step_6 : decode cX10_step 6 = .ok (.iload_n 1, 1) := by decide +kernel
theorem d_X10_step_7 : decode cX10_step 7 = .ok (.invokevirtual 145, 3) := by decide +kernel
theorem d_X10_step_10 : decode cX10_step 10 = .ok (.ifCond .eq 26, 3) := by decide +kernel
theorem d_X10_step_13 : decode cX10_step 13 = .ok (.aload_n 0, 1) := by decide +kernel
theorem d_X10_step_14 : decode cX10_step 14 = .ok (.iload_n 2, 1) := by decide +kernel
theorem d_X10_step_15 : decode cX10_step 15 = .ok (.invokevirtual 139, 3) := by decide +kernel
theorem d_X10_step_18 : decode cX10_step 18 = .ok (.ifCond .eq 18, 3) := by decide +kernel
theorem d_X10_step_21 : decode cX10_step 21 = .ok (.aload_n 0, 1) := by decide +kernel
theorem d_X10_step_22 : decode cX10_step 22 = .ok (.iload_n 3, 1) := by decide +kernel
theorem d_X10_step_23 : decode cX10_step 23 = .ok (.iconst 0, 1) := by decide +kernel
theorem d_X10_step_24 : decode cX10_step 24 = .ok (.aload_n 0, 1) := by decide +kernel
theorem d_X10_step_25 : decode cX10_step 25 = .ok (.invokevirtual 148, 3) := by decide +kernel
theorem d_X10_step_28 : decode cX10_step 28 = .ok (.iconst 1, 1) := by decide +kernel
theorem d_X10_step_29 : decode cX10_step 29 = .ok (.isub, 1) := by decide +kernel
theorem d_X10_step_30 : decode cX10_step 30 = .ok (.invokevirtual 124, 3) := by decide +kernel
theorem d_X10_step_33 : decode cX10_step 33 = .ok (.ifCond .ne 5, 3) := by decide +kernel
theorem d_X10_step_36 : decode cX10_step 36 = .ok (.iconst 0, 1) := by decide +kernel
theorem d_X10_step_37 : decode cX10_step 37 = .ok (.ireturn, 1) := by decide +kernel
theorem d_X10_step_38 : decode cX10_step 38 = .ok (.aload_n 0, 1) := by decide +kernel
theorem d_X10_step_39 : decode cX10_step 39 = .ok (.getfield 7, 3) := by decide +kernel
theorem d_X10_step_42 : decode cX10_step 42 = .ok (.bipush 53, 2) := by decide +kernel
theorem d_X10_step_44 : decode cX10_step 44 = .ok (.iconst 4, 1) := by decide +kernel
theorem d_X10_step_45 : decode cX10_step 45 = .ok (.iload_n 1, 1) := by decide +kernel
theorem d_X10_step_46 : decode cX10_step 46 = .ok (.imul, 1) := by decide +kernel
theorem d_X10_step_47 : decode cX10_step 47 = .ok (.iadd, 1) := by decide +kernel
theorem d_X10_step_48 : decode cX10_step 48 = .ok (.iload_n 2, 1) := by decide +kernel
theorem d_X10_step_49 : decode cX10_step 49 = .ok (.iadd, 1) := by decide +kernel
theorem d_X10_step_50 : decode cX10_step 50 = .ok (.iload_n 3, 1) := by decide +kernel
theorem d_X10_step_51 : decode cX10_step 51 = .ok (.iastore, 1) := by decide +kernel
theorem d_X10_step_52 : decode cX10_step 52 = .ok (.aload_n 0, 1) := by decide +kernel
theorem d_X10_step_53 : decode cX10_step 53 = .ok (.iconst 0, 1) := by decide +kernel
theorem d_X10_step_54 : decode cX10_step 54 = .ok (.putfield 32, 3) := by decide +kernel
theorem d_X10_step_57 : decode cX10_step 57 = .ok (.iconst 1, 1) := by decide +kernel
theorem d_X10_step_58 : decode cX10_step 58 = .ok (.ireturn, 1) := by decide +kernel
theorem d_X10_gradient_0 : decode cX10_gradient 0 = .ok (.aload_n 0, 1) := by decide +kernel
theorem d_X10_gradient_1 : decode cX10_gradient 1 = .ok (.iconst 0, 1) := by decide +kernel
theorem d_X10_gradient_2 : decode cX10_gradient 2 = .ok (.putfield 1, 3) := by decide +kernel
theorem d_X10_gradient_5 : decode cX10_gradient 5 = .ok (.aload_n 0, 1) := by decide +kernel
theorem d_X10_gradient_6 : decode cX10_gradient 6 = .ok (.iload_n 1, 1) := by decide +kernel
theorem d_X10_gradient_7 : decode cX10_gradient 7 = .ok (.invokevirtual 133, 3) := by decide +kernel
theorem d_X10_gradient_10 : decode cX10_gradient 10 = .ok (.ifCond .eq 15, 3) := by decide +kernel
theorem d_X10_gradient_13 : decode cX10_gradient 13 = .ok (.aload_n 0, 1) := by decide +kernel
theorem d_X10_gradient_14 : decode cX10_gradient 14 = .ok (.iload_n 2, 1) := by decide +kernel
theorem d_X10_gradient_15 : decode cX10_gradient 15 = .ok (.bipush (-9), 2) := by decide +kernel
theorem d_X10_gradient_17 : decode cX10_gradient 17 = .ok (.bipush 9, 2) := by decide +kernel
theorem d_X10_gradient_19 : decode cX10_gradient 19 = .ok (.invokevirtual 124, 3) := by decide +kernel
theorem d_X10_gradient_22 : decode cX10_gradient 22 = .ok (.ifCond .ne 5, 3) := by decide +kernel
theorem d_X10_gradient_25 : decode cX10_gradient 25 = .ok (.iconst 0, 1) := by decide +kernel
theorem d_X10_gradient_26 : decode cX10_gradient 26 = .ok (.ireturn, 1) := by decide +kernel
theorem d_X10_gradient_27 : decode cX10_gradient 27 = .ok (.aload_n 0, 1) := by decide +kernel
theorem d_X10_gradient_28 : decode cX10_gradient 28 = .ok (.getfield 7, 3) := by decide +kernel
theorem d_X10_gradient_31 : decode cX10_gradient 31 = .ok (.bipush 9, 2) := by decide +kernel
theorem d_X10_gradient_33 : decode cX10_gradient 33 = .ok (.iload_n 1, 1) := by decide +kernel
theorem d_X10_gradient_34 : decode cX10_gradient 34 = .ok (.iadd, 1) := by decide +kernel
theorem d_X10_gradient_35 : decode cX10_gradient 35 = .ok (.iload_n 2, 1) := by decide +kernel
theorem d_X10_gradient_36 : decode cX10_gradient 36 = .ok (.iastore, 1) := by decide +kernel
theorem d_X10_gradient_37 : decode cX10_gradient 37 = .ok (.iconst 1, 1) := by decide +kernel
theorem d_X10_gradient_38 : decode cX10_gradient 38 = .ok (.ireturn, 1) := by decide +kernel
theorem d_X10_weight_0 : decode cX10_weight 0 = .ok (.aload_n 0, 1) := by decide +kernel
theorem d_X10_weight_1 : decode cX10_weight 1 = .ok (.iconst 0, 1) := by decide +kernel
theorem d_X10_weight_2 : decode cX10_weight 2 = .ok (.putfield 1, 3) := by decide +kernel
theorem d_X10_weight_5 : decode cX10_weight 5 = .ok (.aload_n 0, 1) := by decide +kernel
theorem d_X10_weight_6 : decode cX10_weight 6 = .ok (.iload_n 1, 1) := by decide +kernel
theorem d_X10_weight_7 : decode cX10_weight 7 = .ok (.invokevirtual 133, 3) := by decide +kernel
theorem d_X10_weight_10 : decode cX10_weight 10 = .ok (.ifCond .eq 25, 3) := by decide +kernel
theorem d_X10_weight_13 : decode cX10_weight 13 = .ok (.aload_n 0, 1) := by decide +kernel
theorem d_X10_weight_14 : decode cX10_weight 14 = .ok (.iload_n 2, 1) := by decide +kernel
theorem d_X10_weight_15 : decode cX10_weight 15 = .ok (.iconst 0, 1) := by decide +kernel
theorem d_X10_weight_16 : decode cX10_weight 16 = .ok (.bipush 6, 2) := by decide +kernel
theorem d_X10_weight_18 : decode cX10_weight 18 = .ok (.invokevirtual 124, 3) := by decide +kernel
theorem d_X10_weight_21 : decode cX10_weight 21 = .ok (.ifCond .eq 14, 3) := by decide +kernel
theorem d_X10_weight_24 : decode cX10_weight 24 = .ok (.aload_n 0, 1) := by decide +kernel
theorem d_X10_weight_25 : decode cX10_weight 25 = .ok (.iload_n 3, 1) := by decide +kernel
theorem d_X10_weight_26 : decode cX10_weight 26 = .ok (.iconst 0, 1) := by decide +kernel
theorem d_X10_weight_27 : decode cX10_weight 27 = .ok (.bipush 9, 2) := by decide +kernel
theorem d_X10_weight_29 : decode cX10_weight 29 = .ok (.invokevirtual 124, 3) := by decide +kernel
theorem d_X10_weight_32 : decode cX10_weight 32 = .ok (.ifCond .ne 5, 3) := by decide +kernel
theorem d_X10_weight_35 : decode cX10_weight 35 = .ok (.iconst 0, 1) := by decide +kernel
theorem d_X10_weight_36 : decode cX10_weight 36 = .ok (.ireturn, 1) := by decide +kernel
theorem d_X10_weight_37 : decode cX10_weight 37 = .ok (.aload_n 0, 1) := by decide +kernel
theorem d_X10_weight_38 : decode cX10_weight 38 = .ok (.getfield 7, 3) := by decide +kernel
theorem d_X10_weight_41 : decode cX10_weight 41 = .ok (.bipush 14, 2) := by decide +kernel
theorem d_X10_weight_43 : decode cX10_weight 43 = .ok (.bipush 7, 2) := by decide +kernel
theorem d_X10_weight_45 : decode cX10_weight 45 = .ok (.iload_n 1, 1) := by decide +kernel
theorem d_X10_weight_46 : decode cX10_weight 46 = .ok (.imul, 1) := by decide +kernel
theorem d_X10_weight_47 : decode cX10_weight 47 = .ok (.iadd, 1) := by decide +kernel
theorem d_X10_weight_48 : decode cX10_weight 48 = .ok (.iload_n 2, 1) := by decide +kernel
theorem d_X10_weight_49 : decode cX10_weight 49 = .ok (.iadd, 1) := by decide +kernel
theorem d_X10_weight_50 : decode cX10_weight 50 = .ok (.iload_n 3, 1) := by decide +kernel
theorem d_X10_weight_51 : decode cX10_weight 51 = .ok (.iconst 1, 1) := by decide +kernel
theorem d_X10_weight_52 : decode cX10_weight 52 = .ok (.isub, 1) := by decide +kernel
theorem d_X10_weight_53 : decode cX10_weight 53 = .ok (.iastore, 1) := by decide +kernel
theorem d_X10_weight_54 : decode cX10_weight 54 = .ok (.iconst 1, 1) := by decide +kernel
theorem d_X10_weight_55 : decode cX10_weight 55 = .ok (.ireturn, 1) := by decide +kernel
theorem d_X10_swaps_0 : decode cX10_swaps 0 = .ok (.aload_n 0, 1) := by decide +kernel
theorem d_X10_swaps_1 : decode cX10_swaps 1 = .ok (.getfield 7, 3) := by decide +kernel
theorem d_X10_swaps_4 : decode cX10_swaps 4 = .ok (.iload_n 1, 1) := by decide +kernel
theorem d_X10_swaps_5 : decode cX10_swaps 5 = .ok (.iaload, 1) := by decide +kernel
theorem d_X10_swaps_6 : decode cX10_swaps 6 = .ok (.istore_n 3, 1) := by decide +kernel
theorem d_X10_swaps_7 : decode cX10_swaps 7 = .ok (.aload_n 0, 1) := by decide +kernel
theorem d_X10_swaps_8 : decode cX10_swaps 8 = .ok (.getfield 7, 3) := by decide +kernel
theorem d_X10_swaps_11 : decode cX10_swaps 11 = .ok (.iload_n 1, 1) := by decide +kernel
theorem d_X10_swaps_12 : decode cX10_swaps 12 = .ok (.aload_n 0, 1) := by decide +kernel
theorem d_X10_swaps_13 : decode cX10_swaps 13 = .ok (.getfield 7, 3) := by decide +kernel
theorem d_X10_swaps_16 : decode cX10_swaps 16 = .ok (.iload_n 2, 1) := by decide +kernel
theorem d_X10_swaps_17 : decode cX10_swaps 17 = .ok (.iaload, 1) := by decide +kernel
theorem d_X10_swaps_18 : decode cX10_swaps 18 = .ok (.iastore, 1) := by decide +kernel
theorem d_X10_swaps_19 : decode cX10_swaps 19 = .ok (.aload_n 0, 1) := by decide +kernel
theorem d_X10_swaps_20 : decode cX10_swaps 20 = .ok (.getfield 7, 3) := by decide +kernel
theorem d_X10_swaps_23 : decode cX10_swaps 23 = .ok (.iload_n 2, 1) := by decide +kernel
theorem d_X10_swaps_24 : decode cX10_swaps 24 = .ok (.iload_n 3, 1) := by decide +kernel
theorem d_X10_swaps_25 : decode cX10_swaps 25 = .ok (.iastore, 1) := by decide +kernel
theorem d_X10_swaps_26 : decode cX10_swaps 26 = .ok (.return_, 1) := by decide +kernel
theorem d_X10_swap_0 : decode cX10_swap 0 = .ok (.aload_n 0, 1) := by decide +kernel
theorem d_X10_swap_1 : decode cX10_swap 1 = .ok (.iconst 0, 1) := by decide +kernel
theorem d_X10_swap_2 : decode cX10_swap 2 = .ok (.putfield 1, 3) := by decide +kernel
theorem d_X10_swap_5 : decode cX10_swap 5 = .ok (.aload_n 0, 1) := by decide +kernel
theorem d_X10_swap_6 : decode cX10_swap 6 = .ok (.iload_n 1, 1) := by decide +kernel
theorem d_X10_swap_7 : decode cX10_swap 7 = .ok (.invokevirtual 139, 3) := by decide +kernel
theorem d_X10_swap_10 : decode cX10_swap 10 = .ok (.ifCond .eq 16, 3) := by decide +kernel
theorem d_X10_swap_13 : decode cX10_swap 13 = .ok (.aload_n 0, 1) := by decide +kernel
theorem d_X10_swap_14 : decode cX10_swap 14 = .ok (.iload_n 2, 1) := by decide +kernel
theorem d_X10_swap_15 : decode cX10_swap 15 = .ok (.invokevirtual 139, 3) := by decide +kernel
theorem d_X10_swap_18 : decode cX10_swap 18 = .ok (.ifCond .eq 8, 3) := by decide +kernel
theorem d_X10_swap_21 : decode cX10_swap 21 = .ok (.iload_n 1, 1) := by decide +kernel
theorem d_X10_swap_22 : decode cX10_swap 22 = .ok (.iload_n 2, 1) := by decide +kernel
theorem d_X10_swap_23 : decode cX10_swap 23 = .ok (.if_icmp .ne 5, 3) := by decide +kernel
theorem d_X10_swap_26 : decode cX10_swap 26 = .ok (.iconst 0, 1) := by decide +kernel
theorem d_X10_swap_27 : decode cX10_swap 27 = .ok (.ireturn, 1) := by decide +kernel
theorem d_X10_swap_28 : decode cX10_swap 28 = .ok (.aload_n 0, 1) := by decide +kernel
theorem d_X10_swap_29 : decode cX10_swap 29 = .ok (.bipush 49, 2) := by decide +kernel
theorem d_X10_swap_31 : decode cX10_swap 31 = .ok (.iload_n 1, 1) := by decide +kernel
theorem d_X10_swap_32 : decode cX10_swap 32 = .ok (.iadd, 1) := by decide +kernel
theorem d_X10_swap_33 : decode cX10_swap 33 = .ok (.bipush 49, 2) := by decide +kernel
theorem d_X10_swap_35 : decode cX10_swap 35 = .ok (.iload_n 2, 1) := by decide +kernel
theorem d_X10_swap_36 : decode cX10_swap 36 = .ok (.iadd, 1) := by decide +kernel
theorem d_X10_swap_37 : decode cX10_swap 37 = .ok (.invokevirtual 151, 3) := by decide +kernel
theorem d_X10_swap_40 : decode cX10_swap 40 = .ok (.iconst 0, 1) := by decide +kernel
theorem d_X10_swap_41 : decode cX10_swap 41 = .ok (.istore_n 3, 1) := by decide +kernel
theorem d_X10_swap_42 : decode cX10_swap 42 = .ok (.iload_n 3, 1) := by decide +kernel
theorem d_X10_swap_43 : decode cX10_swap 43 = .ok (.iconst 5, 1) := by decide +kernel
theorem d_X10_swap_44 : decode cX10_swap 44 = .ok (.if_icmp .gt 29, 3) := by decide +kernel
theorem d_X10_swap_47 : decode cX10_swap 47 = .ok (.aload_n 0, 1) := by decide +kernel
theorem d_X10_swap_48 : decode cX10_swap 48 = .ok (.bipush 53, 2) := by decide +kernel
theorem d_X10_swap_50 : decode cX10_swap 50 = .ok (.iconst 4, 1) := by decide +kernel
theorem d_X10_swap_51 : decode cX10_swap 51 = .ok (.iload_n 3, 1) := by decide +kernel
theorem d_X10_swap_52 : decode cX10_swap 52 = .ok (.imul, 1) := by decide +kernel
theorem d_X10_swap_53 : decode cX10_swap 53 = .ok (.iadd, 1) := by decide +kernel
theorem d_X10_swap_54 : decode cX10_swap 54 = .ok (.iload_n 1, 1) := by decide +kernel
theorem d_X10_swap_55 : decode cX10_swap 55 = .ok (.iadd, 1) := by decide +kernel
theorem d_X10_swap_56 : decode cX10_swap 56 = .ok (.bipush 53, 2) := by decide +kernel
theorem d_X10_swap_58 : decode cX10_swap 58 = .ok (.iconst 4, 1) := by decide +kernel
theorem d_X10_swap_59 : decode cX10_swap 59 = .ok (.iload_n 3, 1) := by decide +kernel
theorem d_X10_swap_60 : decode cX10_swap 60 = .ok (.imul, 1) := by decide +kernel
theorem d_X10_swap_61 : decode cX10_swap 61 = .ok (.iadd, 1) := by decide +kernel
theorem d_X10_swap_62 : decode cX10_swap 62 = .ok (.iload_n 2, 1) := by decide +kernel
theorem d_X10_swap_63 : decode cX10_swap 63 = .ok (.iadd, 1) := by decide +kernel
theorem d_X10_swap_64 : decode cX10_swap 64 = .ok (.invokevirtual 151, 3) := by decide +kernel
theorem d_X10_swap_67 : decode cX10_swap 67 = .ok (.iinc 3 1, 3) := by decide +kernel
theorem d_X10_swap_70 : decode cX10_swap 70 = .ok (.goto (-28), 3) := by decide +kernel
theorem d_X10_swap_73 : decode cX10_swap 73 = .ok (.aload_n 0, 1) := by decide +kernel
theorem d_X10_swap_74 : decode cX10_swap 74 = .ok (.iconst 0, 1) := by decide +kernel
theorem d_X10_swap_75 : decode cX10_swap 75 = .ok (.putfield 32, 3) := by decide +kernel
theorem d_X10_swap_78 : decode cX10_swap 78 = .ok (.iconst 1, 1) := by decide +kernel
theorem d_X10_swap_79 : decode cX10_swap 79 = .ok (.ireturn, 1) := by decide +kernel
theorem d_X10_follow_0 : decode cX10_follow 0 = .ok (.aload_n 0, 1) := by decide +kernel
theorem d_X10_follow_1 : decode cX10_follow 1 = .ok (.iconst 0, 1) := by decide +kernel
theorem d_X10_follow_2 : decode cX10_follow 2 = .ok (.putfield 1, 3) := by decide +kernel
theorem d_X10_follow_5 : decode cX10_follow 5 = .ok (.aload_n 0, 1) := by decide +kernel
theorem d_X10_follow_6 : decode cX10_follow 6 = .ok (.invokevirtual 155, 3) := by decide +kernel
theorem d_X10_follow_9 : decode cX10_follow 9 = .ok (.iload_n 1, 1) := by decide +kernel
theorem d_X10_follow_10 : decode cX10_follow 10 = .ok (.if_icmp .ne 5, 3) := by decide +kernel
theorem d_X10_follow_13 : decode cX10_follow 13 = .ok (.iconst 0, 1) := by decide +kernel
theorem d_X10_follow_14 : decode cX10_follow 14 = .ok (.ireturn, 1) := by decide +kernel
theorem d_X10_follow_15 : decode cX10_follow 15 = .ok (.aload_n 0, 1) := by decide +kernel
theorem d_X10_follow_16 : decode cX10_follow 16 = .ok (.getfield 7, 3) := by decide +kernel
theorem d_X10_follow_19 : decode cX10_follow 19 = .ok (.iconst 3, 1) := by decide +kernel
theorem d_X10_follow_20 : decode cX10_follow 20 = .ok (.iload_n 1, 1) := by decide +kernel
theorem d_X10_follow_21 : decode cX10_follow 21 = .ok (.ifCond .eq 7, 3) := by decide +kernel
theorem d_X10_follow_24 : decode cX10_follow 24 = .ok (.iconst 0, 1) := by decide +kernel
theorem d_X10_follow_25 : decode cX10_follow 25 = .ok (.goto 4, 3) := by decide +kernel
theorem d_X10_follow_28 : decode cX10_follow 28 = .ok (.iconst 1, 1) := by decide +kernel
theorem d_X10_follow_29 : decode cX10_follow 29 = .ok (.iastore, 1) := by decide +kernel
theorem d_X10_follow_30 : decode cX10_follow 30 = .ok (.aload_n 0, 1) := by decide +kernel
theorem d_X10_follow_31 : decode cX10_follow 31 = .ok (.iconst 0, 1) := by decide +kernel
theorem d_X10_follow_32 : decode cX10_follow 32 = .ok (.putfield 32, 3) := by decide +kernel
theorem d_X10_follow_35 : decode cX10_follow 35 = .ok (.iconst 1, 1) := by decide +kernel
theorem d_X10_follow_36 : decode cX10_follow 36 = .ok (.ireturn, 1) := by decide +kernel
theorem d_X10_becomes_0 : decode cX10_becomes 0 = .ok (.aload_n 0, 1) := by decide +kernel
theorem d_X10_becomes_1 : decode cX10_becomes 1 = .ok (.iload_n 1, 1) := by decide +kernel
theorem d_X10_becomes_2 : decode cX10_becomes 2 = .ok (.invokevirtual 159, 3) := by decide +kernel
theorem d_X10_becomes_5 : decode cX10_becomes 5 = .ok (.ifCond .eq 26, 3) := by decide +kernel
theorem d_X10_becomes_8 : decode cX10_becomes 8 = .ok (.aload_n 0, 1) := by decide +kernel
theorem d_X10_becomes_9 : decode cX10_becomes 9 = .ok (.getfield 7, 3) := by decide +kernel
theorem d_X10_becomes_12 : decode cX10_becomes 12 = .ok (.sipush 227, 3) := by decide +kernel
theorem d_X10_becomes_15 : decode cX10_becomes 15 = .ok (.iload_n 1, 1) := by decide +kernel
theorem d_X10_becomes_16 : decode cX10_becomes 16 = .ok (.iadd, 1) := by decide +kernel
theorem d_X10_becomes_17 : decode cX10_becomes 17 = .ok (.iaload, 1) := by decide +kernel
theorem d_X10_becomes_18 : decode cX10_becomes 18 = .ok (.iload_n 2, 1) := by decide +kernel
theorem d_X10_becomes_19 : decode cX10_becomes 19 = .ok (.if_icmp .ne 7, 3) := by decide +kernel
theorem d_X10_becomes_22 : decode cX10_becomes 22 = .ok (.iconst 1, 1) := by decide +kernel
theorem d_X10_becomes_23 : decode cX10_becomes 23 = .ok (.goto 4, 3) := by decide +kernel
theorem d_X10_becomes_26 : decode cX10_becomes 26 = .ok (.iconst 0, 1) := by decide +kernel
theorem d_X10_becomes_27 : decode cX10_becomes 27 = .ok (.iload_n 3, 1) := by decide +kernel
theorem d_X10_becomes_28 : decode cX10_becomes 28 = .ok (.if_icmp .ne 5, 3) := by decide +kernel
theorem d_X10_becomes_31 : decode cX10_becomes 31 = .ok (.iconst 0, 1) := by decide +kernel
theorem d_X10_becomes_32 : decode cX10_becomes 32 = .ok (.ireturn, 1) := by decide +kernel
theorem d_X10_becomes_33 : decode cX10_becomes 33 = .ok (.aload_n 0, 1) := by decide +kernel
theorem d_X10_becomes_34 : decode cX10_becomes 34 = .ok (.getfield 7, 3) := by decide +kernel
theorem d_X10_becomes_37 : decode cX10_becomes 37 = .ok (.sipush 227, 3) := by decide +kernel
theorem d_X10_becomes_40 : decode cX10_becomes 40 = .ok (.iload_n 1, 1) := by decide +kernel
theorem d_X10_becomes_41 : decode cX10_becomes 41 = .ok (.iadd, 1) := by decide +kernel
theorem d_X10_becomes_42 : decode cX10_becomes 42 = .ok (.iload_n 3, 1) := by decide +kernel
theorem d_X10_becomes_43 : decode cX10_becomes 43 = .ok (.ifCond .eq 7, 3) := by decide +kernel
theorem d_X10_becomes_46 : decode cX10_becomes 46 = .ok (.iload_n 2, 1) := by decide +kernel
theorem d_X10_becomes_47 : decode cX10_becomes 47 = .ok (.goto 4, 3) := by decide +kernel
theorem d_X10_becomes_50 : decode cX10_becomes 50 = .ok (.iconst 0, 1) := by decide +kernel
theorem d_X10_becomes_51 : decode cX10_becomes 51 = .ok (.iastore, 1) := by decide +kernel
theorem d_X10_becomes_52 : decode cX10_becomes 52 = .ok (.aload_n 0, 1) := by decide +kernel
theorem d_X10_becomes_53 : decode cX10_becomes 53 = .ok (.iconst 0, 1) := by decide +kernel
theorem d_X10_becomes_54 : decode cX10_becomes 54 = .ok (.putfield 32, 3) := by decide +kernel
theorem d_X10_becomes_57 : decode cX10_becomes 57 = .ok (.iconst 1, 1) := by decide +kernel
theorem d_X10_becomes_58 : decode cX10_becomes 58 = .ok (.ireturn, 1) := by decide +kernel
theorem d_X10_wish_0 : decode cX10_wish 0 = .ok (.aload_n 0, 1) := by decide +kernel
theorem d_X10_wish_1 : decode cX10_wish 1 = .ok (.iconst 0, 1) := by decide +kernel
theorem d_X10_wish_2 : decode cX10_wish 2 = .ok (.putfield 1, 3) := by decide +kernel
theorem d_X10_wish_5 : decode cX10_wish 5 = .ok (.aload_n 0, 1) := by decide +kernel
theorem d_X10_wish_6 : decode cX10_wish 6 = .ok (.iload_n 1, 1) := by decide +kernel
theorem d_X10_wish_7 : decode cX10_wish 7 = .ok (.iconst 1, 1) := by decide +kernel
theorem d_X10_wish_8 : decode cX10_wish 8 = .ok (.iload_n 2, 1) := by decide +kernel
theorem d_X10_wish_9 : decode cX10_wish 9 = .ok (.invokevirtual 162, 3) := by decide +kernel
theorem d_X10_wish_12 : decode cX10_wish 12 = .ok (.ireturn, 1) := by decide +kernel
theorem d_X10_free_0 : decode cX10_free 0 = .ok (.aload_n 0, 1) := by decide +kernel
theorem d_X10_free_1 : decode cX10_free 1 = .ok (.iconst 0, 1) := by decide +kernel
theorem d_X10_free_2 : decode cX10_free 2 = .ok (.putfield 1, 3) := by decide +kernel
theorem d_X10_free_5 : decode cX10_free 5 = .ok (.aload_n 0, 1) := by decide +kernel
theorem d_X10_free_6 : decode cX10_free 6 = .ok (.iload_n 1, 1) := by decide +kernel
theorem d_X10_free_7 : decode cX10_free 7 = .ok (.iconst 2, 1) := by decide +kernel
theorem d_X10_free_8 : decode cX10_free 8 = .ok (.iload_n 2, 1) := by decide +kernel
theorem d_X10_free_9 : decode cX10_free 9 = .ok (.invokevirtual 162, 3) := by decide +kernel
theorem d_X10_free_12 : decode cX10_free 12 = .ok (.ireturn, 1) := by decide +kernel
theorem d_X10_freeAll_0 : decode cX10_freeAll 0 = .ok (.aload_n 0, 1) := by decide +kernel
theorem d_X10_freeAll_1 : decode cX10_freeAll 1 = .ok (.iconst 0, 1) := by decide +kernel
theorem d_X10_freeAll_2 : decode cX10_freeAll 2 = .ok (.putfield 1, 3) := by decide +kernel
theorem d_X10_freeAll_5 : decode cX10_freeAll 5 = .ok (.aload_n 0, 1) := by decide +kernel
theorem d_X10_freeAll_6 : decode cX10_freeAll 6 = .ok (.iload_n 1, 1) := by decide +kernel
theorem d_X10_freeAll_7 : decode cX10_freeAll 7 = .ok (.invokevirtual 133, 3) := by decide +kernel
theorem d_X10_freeAll_10 : decode cX10_freeAll 10 = .ok (.ifCond .eq 20, 3) := by decide +kernel
theorem d_X10_freeAll_13 : decode cX10_freeAll 13 = .ok (.aload_n 0, 1) := by decide +kernel
theorem d_X10_freeAll_14 : decode cX10_freeAll 14 = .ok (.iload_n 2, 1) := by decide +kernel
theorem d_X10_freeAll_15 : decode cX10_freeAll 15 = .ok (.aload_n 0, 1) := by decide +kernel
theorem d_X10_freeAll_16 : decode cX10_freeAll 16 = .ok (.invokevirtual 22, 3) := by decide +kernel
theorem d_X10_freeAll_19 : decode cX10_freeAll 19 = .ok (.ineg, 1) := by decide +kernel
theorem d_X10_freeAll_20 : decode cX10_freeAll 20 = .ok (.aload_n 0, 1) := by decide +kernel
theorem d_X10_freeAll_21 : decode cX10_freeAll 21 = .ok (.invokevirtual 22, 3) := by decide +kernel
theorem d_X10_freeAll_24 : decode cX10_freeAll 24 = .ok (.invokevirtual 124, 3) := by decide +kernel
theorem d_X10_freeAll_27 : decode cX10_freeAll 27 = .ok (.ifCond .ne 5, 3) := by decide +kernel
theorem d_X10_freeAll_30 : decode cX10_freeAll 30 = .ok (.iconst (-1), 1) := by decide +kernel
theorem d_X10_freeAll_31 : decode cX10_freeAll 31 = .ok (.ireturn, 1) := by decide +kernel
theorem d_X10_freeAll_32 : decode cX10_freeAll 32 = .ok (.iconst 0, 1) := by decide +kernel
theorem d_X10_freeAll_33 : decode cX10_freeAll 33 = .ok (.istore_n 3, 1) := by decide +kernel
theorem d_X10_freeAll_34 : decode cX10_freeAll 34 = .ok (.iconst 0, 1) := by decide +kernel
theorem d_X10_freeAll_35 : decode cX10_freeAll 35 = .ok (.istore 4, 2) := by decide +kernel
theorem d_X10_freeAll_37 : decode cX10_freeAll 37 = .ok (.iload 4, 2) := by decide +kernel
theorem d_X10_freeAll_39 : decode cX10_freeAll 39 = .ok (.aload_n 0, 1) := by decide +kernel
theorem d_X10_freeAll_40 : decode cX10_freeAll 40 = .ok (.getfield 25, 3) := by decide +kernel
theorem d_X10_freeAll_43 : decode cX10_freeAll 43 = .ok (.if_icmp .ge 53, 3) := by decide +kernel
theorem d_X10_freeAll_46 : decode cX10_freeAll 46 = .ok (.aload_n 0, 1) := by decide +kernel
theorem d_X10_freeAll_47 : decode cX10_freeAll 47 = .ok (.iload 4, 2) := by decide +kernel
theorem d_X10_freeAll_49 : decode cX10_freeAll 49 = .ok (.iload_n 1, 1) := by decide +kernel
theorem d_X10_freeAll_50 : decode cX10_freeAll 50 = .ok (.invokevirtual 18, 3) := by decide +kernel
theorem d_X10_freeAll_53 : decode cX10_freeAll 53 = .ok (.iload_n 2, 1) := by decide +kernel
theorem d_X10_freeAll_54 : decode cX10_freeAll 54 = .ok (.if_icmp .ne 36, 3) := by decide +kernel
theorem d_X10_freeAll_57 : decode cX10_freeAll 57 = .ok (.aload_n 0, 1) := by decide +kernel
theorem d_X10_freeAll_58 : decode cX10_freeAll 58 = .ok (.getfield 7, 3) := by decide +kernel
theorem d_X10_freeAll_61 : decode cX10_freeAll 61 = .ok (.sipush 227, 3) := by decide +kernel
theorem d_X10_freeAll_64 : decode cX10_freeAll 64 = .ok (.iload 4, 2) := by decide +kernel
theorem d_X10_freeAll_66 : decode cX10_freeAll 66 = .ok (.iadd, 1) := by decide +kernel
theorem d_X10_freeAll_67 : decode cX10_freeAll 67 = .ok (.iaload, 1) := by decide +kernel
theorem d_X10_freeAll_68 : decode cX10_freeAll 68 = .ok (.ifCond .eq 6, 3) := by decide +kernel
theorem d_X10_freeAll_71 : decode cX10_freeAll 71 = .ok (.goto 19, 3) := by decide +kernel
theorem d_X10_freeAll_74 : decode cX10_freeAll 74 = .ok (.aload_n 0, 1) := by decide +kernel
theorem d_X10_freeAll_75 : decode cX10_freeAll 75 = .ok (.getfield 7, 3) := by decide +kernel
theorem d_X10_freeAll_78 : decode cX10_freeAll 78 = .ok (.sipush 227, 3) := by decide +kernel
theorem d_X10_freeAll_81 : decode cX10_freeAll 81 = .ok (.iload 4, 2) := by decide +kernel
theorem d_X10_freeAll_83 : decode cX10_freeAll 83 = .ok (.iadd, 1) := by decide +kernel
theorem d_X10_freeAll_84 : decode cX10_freeAll 84 = .ok (.iconst 2, 1) := by decide +kernel
theorem d_X10_freeAll_85 : decode cX10_freeAll 85 = .ok (.iastore, 1) := by decide +kernel
theorem d_X10_freeAll_86 : decode cX10_freeAll 86 = .ok (.iload_n 3, 1) := by decide +kernel
theorem d_X10_freeAll_87 : decode cX10_freeAll 87 = .ok (.iconst 1, 1) := by decide +kernel
theorem d_X10_freeAll_88 : decode cX10_freeAll 88 = .ok (.iadd, 1) := by decide +kernel
theorem d_X10_freeAll_89 : decode cX10_freeAll 89 = .ok (.istore_n 3, 1) := by decide +kernel
theorem d_X10_freeAll_90 : decode cX10_freeAll 90 = .ok (.iinc 4 1, 3) := by decide +kernel
theorem d_X10_freeAll_93 : decode cX10_freeAll 93 = .ok (.goto (-56), 3) := by decide +kernel
theorem d_X10_freeAll_96 : decode cX10_freeAll 96 = .ok (.iload_n 3, 1) := by decide +kernel
theorem d_X10_freeAll_97 : decode cX10_freeAll 97 = .ok (.ireturn, 1) := by decide +kernel
theorem d_X10_types_0 : decode cX10_types 0 = .ok (.bipush 24, 2) := by decide +kernel
theorem d_X10_types_2 : decode cX10_types 2 = .ok (.istore_n 2, 1) := by decide +kernel
theorem d_X10_types_3 : decode cX10_types 3 = .ok (.iload_n 2, 1) := by decide +kernel
theorem d_X10_types_4 : decode cX10_types 4 = .ok (.ifCond .lt 35, 3) := by decide +kernel
theorem d_X10_types_7 : decode cX10_types 7 = .ok (.aload_n 0, 1) := by decide +kernel
theorem d_X10_types_8 : decode cX10_types 8 = .ok (.getfield 42, 3) := by decide +kernel
theorem d_X10_types_11 : decode cX10_types 11 = .ok (.aload_n 0, 1) := by decide +kernel
theorem d_X10_types_12 : decode cX10_types 12 = .ok (.getfield 166, 3) := by decide +kernel
theorem d_X10_types_15 : decode cX10_types 15 = .ok (.iload_n 1, 1) := by decide +kernel
theorem d_X10_types_16 : decode cX10_types 16 = .ok (.iload_n 2, 1) := by decide +kernel
theorem d_X10_types_17 : decode cX10_types 17 = .ok (.ishr, 1) := by decide +kernel
theorem d_X10_types_18 : decode cX10_types 18 = .ok (.sipush 255, 3) := by decide +kernel
theorem d_X10_types_21 : decode cX10_types 21 = .ok (.iand, 1) := by decide +kernel
theorem d_X10_types_22 : decode cX10_types 22 = .ok (.iastore, 1) := by decide +kernel
theorem d_X10_types_23 : decode cX10_types 23 = .ok (.aload_n 0, 1) := by decide +kernel
theorem d_X10_types_24 : decode cX10_types 24 = .ok (.aload_n 0, 1) := by decide +kernel
theorem d_X10_types_25 : decode cX10_types 25 = .ok (.getfield 166, 3) := by decide +kernel
theorem d_X10_types_28 : decode cX10_types 28 = .ok (.iconst 1, 1) := by decide +kernel
theorem d_X10_types_29 : decode cX10_types 29 = .ok (.iadd, 1) := by decide +kernel
theorem d_X10_types_30 : decode cX10_types 30 = .ok (.putfield 166, 3) := by decide +kernel
theorem d_X10_types_33 : decode cX10_types 33 = .ok (.iinc 2 (-8), 3) := by decide +kernel
theorem d_X10_types_36 : decode cX10_types 36 = .ok (.goto (-33), 3) := by decide +kernel
theorem d_X10_types_39 : decode cX10_types 39 = .ok (.return_, 1) := by decide +kernel
theorem d_X10_feed_0 : decode cX10_feed 0 = .ok (.aload_n 0, 1) := by decide +kernel
theorem d_X10_feed_1 : decode cX10_feed 1 = .ok (.iconst 0, 1) := by decide +kernel
theorem d_X10_feed_2 : decode cX10_feed 2 = .ok (.putfield 1, 3) := by decide +kernel
theorem d_X10_feed_5 : decode cX10_feed 5 = .ok (.aload_n 0, 1) := by decide +kernel
theorem d_X10_feed_6 : decode cX10_feed 6 = .ok (.getfield 166, 3) := by decide +kernel
theorem d_X10_feed_9 : decode cX10_feed 9 = .ok (.sipush 380, 3) := by decide +kernel
theorem d_X10_feed_12 : decode cX10_feed 12 = .ok (.if_icmp .le 5, 3) := by decide +kernel
theorem d_X10_feed_15 : decode cX10_feed 15 = .ok (.iconst (-1), 1) := by decide +kernel
theorem d_X10_feed_16 : decode cX10_feed 16 = .ok (.ireturn, 1) := by decide +kernel
theorem d_X10_feed_17 : decode cX10_feed 17 = .ok (.aload_n 0, 1) := by decide +kernel
theorem d_X10_feed_18 : decode cX10_feed 18 = .ok (.iload_n 1, 1) := by decide +kernel
theorem d_X10_feed_19 : decode cX10_feed 19 = .ok (.invokevirtual 169, 3) := by decide +kernel
theorem d_X10_feed_22 : decode cX10_feed 22 = .ok (.aload_n 0, 1) := by decide +kernel
theorem d_X10_feed_23 : decode cX10_feed 23 = .ok (.iload_n 2, 1) := by decide +kernel
theorem d_X10_feed_24 : decode cX10_feed 24 = .ok (.invokevirtual 169, 3) := by decide +kernel
theorem d_X10_feed_27 : decode cX10_feed 27 = .ok (.aload_n 0, 1) := by decide +kernel
theorem d_X10_feed_28 : decode cX10_feed 28 = .ok (.iload_n 3, 1) := by decide +kernel
theorem d_X10_feed_29 : decode cX10_feed 29 = .ok (.invokevirtual 169, 3) := by decide +kernel
theorem d_X10_feed_32 : decode cX10_feed 32 = .ok (.aload_n 0, 1) := by decide +kernel
theorem d_X10_feed_33 : decode cX10_feed 33 = .ok (.iload 4, 2) := by decide +kernel
theorem d_X10_feed_35 : decode cX10_feed 35 = .ok (.invokevirtual 169, 3) := by decide +kernel
theorem d_X10_feed_38 : decode cX10_feed 38 = .ok (.aload_n 0, 1) := by decide +kernel
theorem d_X10_feed_39 : decode cX10_feed 39 = .ok (.iload 5, 2) := by decide +kernel
theorem d_X10_feed_41 : decode cX10_feed 41 = .ok (.invokevirtual 169, 3) := by decide +kernel
theorem d_X10_feed_44 : decode cX10_feed 44 = .ok (.aload_n 0, 1) := by decide +kernel
theorem d_X10_feed_45 : decode cX10_feed 45 = .ok (.getfield 166, 3) := by decide +kernel
theorem d_X10_feed_48 : decode cX10_feed 48 = .ok (.ireturn, 1) := by decide +kernel
theorem d_X10_end_0 : decode cX10_end 0 = .ok (.aload_n 0, 1) := by decide +kernel
theorem d_X10_end_1 : decode cX10_end 1 = .ok (.iconst 0, 1) := by decide +kernel
theorem d_X10_end_2 : decode cX10_end 2 = .ok (.putfield 1, 3) := by decide +kernel
theorem d_X10_end_5 : decode cX10_end 5 = .ok (.aload_n 0, 1) := by decide +kernel
theorem d_X10_end_6 : decode cX10_end 6 = .ok (.iload_n 1, 1) := by decide +kernel
theorem d_X10_end_7 : decode cX10_end 7 = .ok (.iconst 0, 1) := by decide +kernel
theorem d_X10_end_8 : decode cX10_end 8 = .ok (.aload_n 0, 1) := by decide +kernel
theorem d_X10_end_9 : decode cX10_end 9 = .ok (.getfield 166, 3) := by decide +kernel
theorem d_X10_end_12 : decode cX10_end 12 = .ok (.invokevirtual 124, 3) := by decide +kernel
theorem d_X10_end_15 : decode cX10_end 15 = .ok (.ifCond .ne 5, 3) := by decide +kernel
theorem d_X10_end_18 : decode cX10_end 18 = .ok (.iconst 0, 1) := by decide +kernel
theorem d_X10_end_19 : decode cX10_end 19 = .ok (.ireturn, 1) := by decide +kernel
theorem d_X10_end_20 : decode cX10_end 20 = .ok (.aload_n 0, 1) := by decide +kernel
theorem d_X10_end_21 : decode cX10_end 21 = .ok (.iload_n 1, 1) := by decide +kernel
theorem d_X10_end_22 : decode cX10_end 22 = .ok (.putfield 166, 3) := by decide +kernel
theorem d_X10_end_25 : decode cX10_end 25 = .ok (.iconst 1, 1) := by decide +kernel
theorem d_X10_end_26 : decode cX10_end 26 = .ok (.ireturn, 1) := by decide +kernel
theorem d_X10_here_0 : decode cX10_here 0 = .ok (.aload_n 0, 1) := by decide +kernel
theorem d_X10_here_1 : decode cX10_here 1 = .ok (.getfield 173, 3) := by decide +kernel
theorem d_X10_here_4 : decode cX10_here 4 = .ok (.aload_n 0, 1) := by decide +kernel
theorem d_X10_here_5 : decode cX10_here 5 = .ok (.getfield 176, 3) := by decide +kernel
theorem d_X10_here_8 : decode cX10_here 8 = .ok (.if_icmp .ge 15, 3) := by decide +kernel
theorem d_X10_here_11 : decode cX10_here 11 = .ok (.aload_n 0, 1) := by decide +kernel
theorem d_X10_here_12 : decode cX10_here 12 = .ok (.getfield 42, 3) := by decide +kernel
theorem d_X10_here_15 : decode cX10_here 15 = .ok (.aload_n 0, 1) := by decide +kernel
theorem d_X10_here_16 : decode cX10_here 16 = .ok (.getfield 173, 3) := by decide +kernel
theorem d_X10_here_19 : decode cX10_here 19 = .ok (.iaload, 1) := by decide +kernel
theorem d_X10_here_20 : decode cX10_here 20 = .ok (.goto 4, 3) := by decide +kernel
theorem d_X10_here_23 : decode cX10_here 23 = .ok (.iconst (-1), 1) := by decide +kernel
theorem d_X10_here_24 : decode cX10_here 24 = .ok (.ireturn, 1) := by decide +kernel
theorem d_X10_behindBlanks_0 : decode cX10_behindBlanks 0 = .ok (.aload_n 0, 1) := by decide +kernel
theorem d_X10_behindBlanks_1 : decode cX10_behindBlanks 1 = .ok (.invokevirtual 179, 3) := by decide +kernel
theorem d_X10_behindBlanks_4 : decode cX10_behindBlanks 4 = .ok (.bipush 32, 2) := by decide +kernel
theorem d_X10_behindBlanks_6 : decode cX10_behindBlanks 6 = .ok (.if_icmp .ne 16, 3) := by decide +kernel
theorem d_X10_behindBlanks_9 : decode cX10_behindBlanks 9 = .ok (.aload_n 0, 1) := by decide +kernel
theorem d_X10_behindBlanks_10 : decode cX10_behindBlanks 10 = .ok (.aload_n 0, 1) := by decide +kernel
theorem d_X10_behindBlanks_11 : decode cX10_behindBlanks 11 = .ok (.getfield 173, 3) := by decide +kernel
theorem d_X10_behindBlanks_14 : decode cX10_behindBlanks 14 = .ok (.iconst 1, 1) := by decide +kernel
theorem d_X10_behindBlanks_15 : decode cX10_behindBlanks 15 = .ok (.iadd, 1) := by decide +kernel
theorem d_X10_behindBlanks_16 : decode cX10_behindBlanks 16 = .ok (.putfield 173, 3) := by decide +kernel
theorem d_X10_behindBlanks_19 : decode cX10_behindBlanks 19 = .ok (.goto (-19), 3) := by decide +kernel
theorem d_X10_behindBlanks_22 : decode cX10_behindBlanks 22 = .ok (.aload_n 0, 1) := by decide +kernel
theorem d_X10_behindBlanks_23 : decode cX10_behindBlanks 23 = .ok (.invokevirtual 179, 3) := by decide +kernel
theorem d_X10_behindBlanks_26 : decode cX10_behindBlanks 26 = .ok (.ireturn, 1) := by decide +kernel
theorem d_X10_isDigit_0 : decode cX10_isDigit 0 = .ok (.iload_n 1, 1) := by decide +kernel
theorem d_X10_isDigit_1 : decode cX10_isDigit 1 = .ok (.bipush 48, 2) := by decide +kernel
theorem d_X10_isDigit_3 : decode cX10_isDigit 3 = .ok (.if_icmp .lt 13, 3) := by decide +kernel
theorem d_X10_isDigit_6 : decode cX10_isDigit 6 = .ok (.iload_n 1, 1) := by decide +kernel
theorem d_X10_isDigit_7 : decode cX10_isDigit 7 = .ok (.bipush 57, 2) := by decide +kernel
theorem d_X10_isDigit_9 : decode cX10_isDigit 9 = .ok (.if_icmp .gt 7, 3) := by decide +kernel
theorem d_X10_isDigit_12 : decode cX10_isDigit 12 = .ok (.iconst 1, 1) := by decide +kernel
theorem d_X10_isDigit_13 : decode cX10_isDigit 13 = .ok (.goto 4, 3) := by decide +kernel
theorem d_X10_isDigit_16 : decode cX10_isDigit 16 = .ok (.iconst 0, 1) := by decide +kernel
theorem d_X10_isDigit_17 : decode cX10_isDigit 17 = .ok (.ireturn, 1) := by decide +kernel
theorem d_X10_errs_0 : decode cX10_errs 0 = .ok (.aload_n 0, 1) := by decide +kernel
theorem d_X10_errs_1 : decode cX10_errs 1 = .ok (.iload_n 1, 1) := by decide +kernel
theorem d_X10_errs_2 : decode cX10_errs 2 = .ok (.putfield 182, 3) := by decide +kernel
theorem d_X10_errs_5 : decode cX10_errs 5 = .ok (.aload_n 0, 1) := by decide +kernel
theorem d_X10_errs_6 : decode cX10_errs 6 = .ok (.iload_n 2, 1) := by decide +kernel
theorem d_X10_errs_7 : decode cX10_errs 7 = .ok (.putfield 45, 3) := by decide +kernel
theorem d_X10_errs_10 : decode cX10_errs 10 = .ok (.iconst 0, 1) := by decide +kernel
theorem d_X10_errs_11 : decode cX10_errs 11 = .ok (.ireturn, 1) := by decide +kernel
theorem d_X10_readName_0 : decode cX10_readName 0 = .ok (.aload_n 0, 1) := by decide +kernel
theorem d_X10_readName_1 : decode cX10_readName 1 = .ok (.invokevirtual 185, 3) := by decide +kernel
theorem d_X10_readName_4 : decode cX10_readName 4 = .ok (.istore_n 1, 1) := by decide +kernel
theorem d_X10_readName_5 : decode cX10_readName 5 = .ok (.iload_n 1, 1) := by decide +kernel
theorem d_X10_readName_6 : decode cX10_readName 6 = .ok (.bipush 114, 2) := by decide +kernel
theorem d_X10_readName_8 : decode cX10_readName 8 = .ok (.if_icmp .ne 18, 3) := by decide +kernel
theorem d_X10_readName_11 : decode cX10_readName 11 = .ok (.aload_n 0, 1) := by decide +kernel
theorem d_X10_readName_12 : decode cX10_readName 12 = .ok (.aload_n 0, 1) := by decide +kernel
theorem d_X10_readName_13 : decode cX10_readName 13 = .ok (.getfield 173, 3) := by decide +kernel
theorem d_X10_readName_16 : decode cX10_readName 16 = .ok (.iconst 1, 1) := by decide +kernel
theorem d_X10_readName_17 : decode cX10_readName 17 = .ok (.iadd, 1) := by decide +kernel
theorem d_X10_readName_18 : decode cX10_readName 18 = .ok (.putfield 173, 3) := by decide +kernel
theorem d_X10_readName_21 : decode cX10_readName 21 = .ok (.aload_n 0, 1) := by decide +kernel
theorem d_X10_readName_22 : decode cX10_readName 22 = .ok (.invokevirtual 11, 3) := by decide +kernel
theorem d_X10_readName_25 : decode cX10_readName 25 = .ok (.ireturn, 1) := by decide +kernel
theorem d_X10_readName_26 : decode cX10_readName 26 = .ok (.iload_n 1, 1) := by decide +kernel
theorem d_X10_readName_27 : decode cX10_readName 27 = .ok (.bipush 112, 2) := by decide +kernel
theorem d_X10_readName_29 : decode cX10_readName 29 = .ok (.if_icmp .ne 33, 3) := by decide +kernel
theorem d_X10_readName_32 : decode cX10_readName 32 = .ok (.aload_n 0, 1) := by decide +kernel
theorem d_X10_readName_33 : decode cX10_readName 33 = .ok (.getfield 173, 3) := by decide +kernel
theorem d_X10_readName_36 : decode cX10_readName 36 = .ok (.iconst 1, 1) := by decide +kernel
theorem d_X10_readName_37 : decode cX10_readName 37 = .ok (.iadd, 1) := by decide +kernel
theorem d_X10_readName_38 : decode cX10_readName 38 = .ok (.aload_n 0, 1) := by decide +kernel
theorem d_X10_readName_39 : decode cX10_readName 39 = .ok (.getfield 176, 3) := by decide +kernel
theorem d_X10_readName_42 : decode cX10_readName 42 = .ok (.if_icmp .ge 20, 3) := by decide +kernel
theorem d_X10_readName_45 : decode cX10_readName 45 = .ok (.aload_n 0, 1) := by decide +kernel
theorem d_X10_readName_46 : decode cX10_readName 46 = .ok (.getfield 42, 3) := by decide +kernel
theorem d_X10_readName_49 : decode cX10_readName 49 = .ok (.aload_n 0, 1) := by decide +kernel
theorem d_X10_readName_50 : decode cX10_readName 50 = .ok (.getfield 173, 3) := by decide +kernel
theorem d_X10_readName_53 : decode cX10_readName 53 = .ok (.iconst 1, 1) := by decide +kernel
theorem d_X10_readName_54 : decode cX10_readName 54 = .ok (.iadd, 1) := by decide +kernel
theorem d_X10_readName_55 : decode cX10_readName 55 = .ok (.iaload, 1) := by decide +kernel
theorem d_X10_readName_56 : decode cX10_readName 56 = .ok (.bipush 48, 2) := by decide +kernel
theorem d_X10_readName_58 : decode cX10_readName 58 = .ok (.isub, 1) := by decide +kernel
theorem d_X10_readName_59 : decode cX10_readName 59 = .ok (.goto 4, 3) := by decide +kernel
theorem d_X10_readName_62 : decode cX10_readName 62 = .ok (.iconst 0, 1) := by decide +kernel
theorem d_X10_readName_63 : decode cX10_readName 63 = .ok (.istore_n 2, 1) := by decide +kernel
theorem d_X10_readName_64 : decode cX10_readName 64 = .ok (.iload_n 2, 1) := by decide +kernel
theorem d_X10_readName_65 : decode cX10_readName 65 = .ok (.iconst 1, 1) := by decide +kernel
theorem d_X10_readName_66 : decode cX10_readName 66 = .ok (.if_icmp .lt 11, 3) := by decide +kernel
theorem d_X10_readName_69 : decode cX10_readName 69 = .ok (.iload_n 2, 1) := by decide +kernel
theorem d_X10_readName_70 : decode cX10_readName 70 = .ok (.aload_n 0, 1) := by decide +kernel
theorem d_X10_readName_71 : decode cX10_readName 71 = .ok (.invokevirtual 11, 3) := by decide +kernel
theorem d_X10_readName_74 : decode cX10_readName 74 = .ok (.if_icmp .le 5, 3) := by decide +kernel
theorem d_X10_readName_77 : decode cX10_readName 77 = .ok (.iconst (-1), 1) := by decide +kernel
theorem d_X10_readName_78 : decode cX10_readName 78 = .ok (.ireturn, 1) := by decide +kernel
theorem d_X10_readName_79 : decode cX10_readName 79 = .ok (.aload_n 0, 1) := by decide +kernel
theorem d_X10_readName_80 : decode cX10_readName 80 = .ok (.aload_n 0, 1) := by decide +kernel
theorem d_X10_readName_81 : decode cX10_readName 81 = .ok (.getfield 173, 3) := by decide +kernel
theorem d_X10_readName_84 : decode cX10_readName 84 = .ok (.iconst 2, 1) := by decide +kernel
theorem d_X10_readName_85 : decode cX10_readName 85 = .ok (.iadd, 1) := by decide +kernel
theorem d_X10_readName_86 : decode cX10_readName 86 = .ok (.putfield 173, 3) := by decide +kernel
theorem d_X10_readName_89 : decode cX10_readName 89 = .ok (.iload_n 2, 1) := by decide +kernel
theorem d_X10_readName_90 : decode cX10_readName 90 = .ok (.iconst 1, 1) := by decide +kernel
theorem d_X10_readName_91 : decode cX10_readName 91 = .ok (.isub, 1) := by decide +kernel
theorem d_X10_readName_92 : decode cX10_readName 92 = .ok (.ireturn, 1) := by decide +kernel
theorem d_X10_readLine_0 : decode cX10_readLine 0 = .ok (.aload_n 0, 1) := by decide +kernel
theorem d_X10_readLine_1 : decode cX10_readLine 1 = .ok (.invokevirtual 185, 3) := by decide +kernel
theorem d_X10_readLine_4 : decode cX10_readLine 4 = .ok (.pop, 1) := by decide +kernel
theorem d_X10_readLine_5 : decode cX10_readLine 5 = .ok (.aload_n 0, 1) := by decide +kernel
theorem d_X10_readLine_6 : decode cX10_readLine 6 = .ok (.getfield 173, 3) := by decide +kernel
theorem d_X10_readLine_9 : decode cX10_readLine 9 = .ok (.istore_n 1, 1) := by decide +kernel
theorem d_X10_readLine_10 : decode cX10_readLine 10 = .ok (.aload_n 0, 1) := by decide +kernel
theorem d_X10_readLine_11 : decode cX10_readLine 11 = .ok (.invokevirtual 188, 3) := by decide +kernel
theorem d_X10_readLine_14 : decode cX10_readLine 14 = .ok (.istore_n 2, 1) := by decide +kernel
theorem d_X10_readLine_15 : decode cX10_readLine 15 = .ok (.iload_n 2, 1) := by decide +kernel
theorem d_X10_readLine_16 : decode cX10_readLine 16 = .ok (.iconst (-1), 1) := by decide +kernel
theorem d_X10_readLine_17 : decode cX10_readLine 17 = .ok (.if_icmp .ne 10, 3) := by decide +kernel
theorem d_X10_readLine_20 : decode cX10_readLine 20 = .ok (.aload_n 0, 1) := by decide +kernel
theorem d_X10_readLine_21 : decode cX10_readLine 21 = .ok (.iconst 1, 1) := by decide +kernel
theorem d_X10_readLine_22 : decode cX10_readLine 22 = .ok (.iload_n 1, 1) := by decide +kernel
theorem d_X10_readLine_23 : decode cX10_readLine 23 = .ok (.invokevirtual 191, 3) := by decide +kernel
theorem d_X10_readLine_26 : decode cX10_readLine 26 = .ok (.ireturn, 1) := by decide +kernel
theorem d_X10_readLine_27 : decode cX10_readLine 27 = .ok (.aload_n 0, 1) := by decide +kernel
theorem d_X10_readLine_28 : decode cX10_readLine 28 = .ok (.getfield 48, 3) := by decide +kernel
theorem d_X10_readLine_31 : decode cX10_readLine 31 = .ok (.iload_n 2, 1) := by decide +kernel
theorem d_X10_readLine_32 : decode cX10_readLine 32 = .ok (.iaload, 1) := by decide +kernel
theorem d_X10_readLine_33 : decode cX10_readLine 33 = .ok (.ifCond .le 10, 3) := by decide +kernel
theorem d_X10_readLine_36 : decode cX10_readLine 36 = .ok (.aload_n 0, 1) := by decide +kernel
theorem d_X10_readLine_37 : decode cX10_readLine 37 = .ok (.iconst 3, 1) := by decide +kernel
theorem d_X10_readLine_38 : decode cX10_readLine 38 = .ok (.iload_n 1, 1) := by decide +kernel
theorem d_X10_readLine_39 : decode cX10_readLine 39 = .ok (.invokevirtual 191, 3) := by decide +kernel
theorem d_X10_readLine_42 : decode cX10_readLine 42 = .ok (.ireturn, 1) := by decide +kernel
theorem d_X10_readLine_43 : decode cX10_readLine 43 = .ok (.aload_n 0, 1) := by decide +kernel
theorem d_X10_readLine_44 : decode cX10_readLine 44 = .ok (.invokevirtual 185, 3) := by decide +kernel
theorem d_X10_readLine_47 : decode cX10_readLine 47 = .ok (.bipush 61, 2) := by decide +kernel
theorem d_X10_readLine_49 : decode cX10_readLine 49 = .ok (.if_icmp .eq 13, 3) := by decide +kernel
theorem d_X10_readLine_52 : decode cX10_readLine 52 = .ok (.aload_n 0, 1) := by decide +kernel
theorem d_X10_readLine_53 : decode cX10_readLine 53 = .ok (.iconst 1, 1) := by decide +kernel
theorem d_X10_readLine_54 : decode cX10_readLine 54 = .ok (.aload_n 0, 1) := by decide +kernel
theorem d_X10_readLine_55 : decode cX10_readLine 55 = .ok (.getfield 173, 3) := by decide +kernel
theorem d_X10_readLine_58 : decode cX10_readLine 58 = .ok (.invokevirtual 191, 3) := by decide +kernel
theorem d_X10_readLine_61 : decode cX10_readLine 61 = .ok (.ireturn, 1) := by decide +kernel
theorem d_X10_readLine_62 : decode cX10_readLine 62 = .ok (.aload_n 0, 1) := by decide +kernel
theorem d_X10_readLine_63 : decode cX10_readLine 63 = .ok (.aload_n 0, 1) := by decide +kernel
theorem d_X10_readLine_64 : decode cX10_readLine 64 = .ok (.getfield 173, 3) := by decide +kernel
theorem d_X10_readLine_67 : decode cX10_readLine 67 = .ok (.iconst 1, 1) := by decide +kernel
theorem d_X10_readLine_68 : decode cX10_readLine 68 = .ok (.iadd, 1) := by decide +kernel
theorem d_X10_readLine_69 : decode cX10_readLine 69 = .ok (.putfield 173, 3) := by decide +kernel
theorem d_X10_readLine_72 : decode cX10_readLine 72 = .ok (.aload_n 0, 1) := by decide +kernel
theorem d_X10_readLine_73 : decode cX10_readLine 73 = .ok (.getfield 48, 3) := by decide +kernel
theorem d_X10_readLine_76 : decode cX10_readLine 76 = .ok (.iload_n 2, 1) := by decide +kernel
theorem d_X10_readLine_77 : decode cX10_readLine 77 = .ok (.iaload, 1) := by decide +kernel
theorem d_X10_readLine_78 : decode cX10_readLine 78 = .ok (.ifCond .eq 12, 3) := by decide +kernel
theorem d_X10_readLine_81 : decode cX10_readLine 81 = .ok (.aload_n 0, 1) := by decide +kernel
theorem d_X10_readLine_82 : decode cX10_readLine 82 = .ok (.invokevirtual 185, 3) := by decide +kernel
theorem d_X10_readLine_85 : decode cX10_readLine 85 = .ok (.bipush 59, 2) := by decide +kernel
theorem d_X10_readLine_87 : decode cX10_readLine 87 = .ok (.if_icmp .eq 146, 3) := by decide +kernel
theorem d_X10_readLine_90 : decode cX10_readLine 90 = .ok (.aload_n 0, 1) := by decide +kernel
theorem d_X10_readLine_91 : decode cX10_readLine 91 = .ok (.aload_n 0, 1) := by decide +kernel
theorem d_X10_readLine_92 : decode cX10_readLine 92 = .ok (.invokevirtual 185, 3) := by decide +kernel
theorem d_X10_readLine_95 : decode cX10_readLine 95 = .ok (.invokevirtual 195, 3) := by decide +kernel
theorem d_X10_readLine_98 : decode cX10_readLine 98 = .ok (.ifCond .eq 14, 3) := by decide +kernel
theorem d_X10_readLine_101 : decode cX10_readLine 101 = .ok (.aload_n 0, 1) := by decide +kernel
theorem d_X10_readLine_102 : decode cX10_readLine 102 = .ok (.getfield 48, 3) := by decide +kernel
theorem d_X10_readLine_105 : decode cX10_readLine 105 = .ok (.iload_n 2, 1) := by decide +kernel
theorem d_X10_readLine_106 : decode cX10_readLine 106 = .ok (.iaload, 1) := by decide +kernel
theorem d_X10_readLine_107 : decode cX10_readLine 107 = .ok (.bipush 24, 2) := by decide +kernel
theorem d_X10_readLine_109 : decode cX10_readLine 109 = .ok (.if_icmp .ne 13, 3) := by decide +kernel
theorem d_X10_readLine_112 : decode cX10_readLine 112 = .ok (.aload_n 0, 1) := by decide +kernel
theorem d_X10_readLine_113 : decode cX10_readLine 113 = .ok (.iconst 1, 1) := by decide +kernel
theorem d_X10_readLine_114 : decode cX10_readLine 114 = .ok (.aload_n 0, 1) := by decide +kernel
theorem d_X10_readLine_115 : decode cX10_readLine 115 = .ok (.getfield 173, 3) := by decide +kernel
theorem d_X10_readLine_118 : decode cX10_readLine 118 = .ok (.invokevirtual 191, 3) := by decide +kernel
theorem d_X10_readLine_121 : decode cX10_readLine 121 = .ok (.ireturn, 1) := by decide +kernel
theorem d_X10_readLine_122 : decode cX10_readLine 122 = .ok (.aload_n 0, 1) := by decide +kernel
theorem d_X10_readLine_123 : decode cX10_readLine 123 = .ok (.getfield 173, 3) := by decide +kernel
theorem d_X10_readLine_126 : decode cX10_readLine 126 = .ok (.istore_n 3, 1) := by decide +kernel
theorem d_X10_readLine_127 : decode cX10_readLine 127 = .ok (.iconst 0, 1) := by decide +kernel
theorem d_X10_readLine_128 : decode cX10_readLine 128 = .ok (.istore 4, 2) := by decide +kernel
theorem d_X10_readLine_130 : decode cX10_readLine 130 = .ok (.aload_n 0, 1) := by decide +kernel
theorem d_X10_readLine_131 : decode cX10_readLine 131 = .ok (.aload_n 0, 1) := by decide +kernel
theorem d_X10_readLine_132 : decode cX10_readLine 132 = .ok (.invokevirtual 179, 3) := by decide +kernel
theorem d_X10_readLine_135 : decode cX10_readLine 135 = .ok (.invokevirtual 195, 3) := by decide +kernel
theorem d_X10_readLine_138 : decode cX10_readLine 138 = .ok (.ifCond .eq 44, 3) := by decide +kernel
theorem d_X10_readLine_141 : decode cX10_readLine 141 = .ok (.iload 4, 2) := by decide +kernel
theorem d_X10_readLine_143 : decode cX10_readLine 143 = .ok (.sipush 999, 3) := by decide +kernel
theorem d_X10_readLine_146 : decode cX10_readLine 146 = .ok (.if_icmp .le 8, 3) := by decide +kernel
theorem d_X10_readLine_149 : decode cX10_readLine 149 = .ok (.iload 4, 2) := by decide +kernel
theorem d_X10_readLine_151 : decode cX10_readLine 151 = .ok (.goto 16, 3) := by decide +kernel
theorem d_X10_readLine_154 : decode cX10_readLine 154 = .ok (.bipush 10, 2) := by decide +kernel
theorem d_X10_readLine_156 : decode cX10_readLine 156 = .ok (.iload 4, 2) := by decide +kernel
theorem d_X10_readLine_158 : decode cX10_readLine 158 = .ok (.imul, 1) := by decide +kernel
theorem d_X10_readLine_159 : decode cX10_readLine 159 = .ok (.aload_n 0, 1) := by decide +kernel
theorem d_X10_readLine_160 : decode cX10_readLine 160 = .ok (.invokevirtual 179, 3) := by decide +kernel
theorem d_X10_readLine_163 : decode cX10_readLine 163 = .ok (.iadd, 1) := by decide +kernel
theorem d_X10_readLine_164 : decode cX10_readLine 164 = .ok (.bipush 48, 2) := by decide +kernel
theorem d_X10_readLine_166 : decode cX10_readLine 166 = .ok (.isub, 1) := by decide +kernel
theorem d_X10_readLine_167 : decode cX10_readLine 167 = .ok (.istore 4, 2) := by decide +kernel
theorem d_X10_readLine_169 : decode cX10_readLine 169 = .ok (.aload_n 0, 1) := by decide +kernel
theorem d_X10_readLine_170 : decode cX10_readLine 170 = .ok (.aload_n 0, 1) := by decide +kernel
theorem d_X10_readLine_171 : decode cX10_readLine 171 = .ok (.getfield 173, 3) := by decide +kernel
theorem d_X10_readLine_174 : decode cX10_readLine 174 = .ok (.iconst 1, 1) := by decide +kernel
theorem d_X10_readLine_175 : decode cX10_readLine 175 = .ok (.iadd, 1) := by decide +kernel
theorem d_X10_readLine_176 : decode cX10_readLine 176 = .ok (.putfield 173, 3) := by decide +kernel
theorem d_X10_readLine_179 : decode cX10_readLine 179 = .ok (.goto (-49), 3) := by decide +kernel
theorem d_X10_readLine_182 : decode cX10_readLine 182 = .ok (.iload 4, 2) := by decide +kernel
theorem d_X10_readLine_184 : decode cX10_readLine 184 = .ok (.aload_n 0, 1) := by decide +kernel
theorem d_X10_readLine_185 : decode cX10_readLine 185 = .ok (.invokevirtual 148, 3) := by decide +kernel
theorem d_X10_readLine_188 : decode cX10_readLine 188 = .ok (.if_icmp .lt 10, 3) := by decide +kernel
theorem d_X10_readLine_191 : decode cX10_readLine 191 = .ok (.aload_n 0, 1) := by decide +kernel
theorem d_X10_readLine_192 : decode cX10_readLine 192 = .ok (.iconst 2, 1) := by decide +kernel
theorem d_X10_readLine_193 : decode cX10_readLine 193 = .ok (.iload_n 3, 1) := by decide +kernel
theorem d_X10_readLine_194 : decode cX10_readLine 194 = .ok (.invokevirtual 191, 3) := by decide +kernel
theorem d_X10_readLine_197 : decode cX10_readLine 197 = .ok (.ireturn, 1) := by decide +kernel
theorem d_X10_readLine_198 : decode cX10_readLine 198 = .ok (.aload_n 0, 1) := by decide +kernel
theorem d_X10_readLine_199 : decode cX10_readLine 199 = .ok (.getfield 51, 3) := by decide +kernel
theorem d_X10_readLine_202 : decode cX10_readLine 202 = .ok (.bipush 24, 2) := by decide +kernel
theorem d_X10_readLine_204 : decode cX10_readLine 204 = .ok (.iload_n 2, 1) := by decide +kernel
theorem d_X10_readLine_205 : decode cX10_readLine 205 = .ok (.imul, 1) := by decide +kernel
theorem d_X10_readLine_206 : decode cX10_readLine 206 = .ok (.aload_n 0, 1) := by decide +kernel
theorem d_X10_readLine_207 : decode cX10_readLine 207 = .ok (.getfield 48, 3) := by decide +kernel
theorem d_X10_readLine_210 : decode cX10_readLine 210 = .ok (.iload_n 2, 1) := by decide +kernel
theorem d_X10_readLine_211 : decode cX10_readLine 211 = .ok (.iaload, 1) := by decide +kernel
theorem d_X10_readLine_212 : decode cX10_readLine 212 = .ok (.iadd, 1) := by decide +kernel
theorem d_X10_readLine_213 : decode cX10_readLine 213 = .ok (.iload 4, 2) := by decide +kernel
theorem d_X10_readLine_215 : decode cX10_readLine 215 = .ok (.iastore, 1) := by decide +kernel
theorem d_X10_readLine_216 : decode cX10_readLine 216 = .ok (.aload_n 0, 1) := by decide +kernel
theorem d_X10_readLine_217 : decode cX10_readLine 217 = .ok (.getfield 48, 3) := by decide +kernel
theorem d_X10_readLine_220 : decode cX10_readLine 220 = .ok (.iload_n 2, 1) := by decide +kernel
theorem d_X10_readLine_221 : decode cX10_readLine 221 = .ok (.aload_n 0, 1) := by decide +kernel
theorem d_X10_readLine_222 : decode cX10_readLine 222 = .ok (.getfield 48, 3) := by decide +kernel
theorem d_X10_readLine_225 : decode cX10_readLine 225 = .ok (.iload_n 2, 1) := by decide +kernel
theorem d_X10_readLine_226 : decode cX10_readLine 226 = .ok (.iaload, 1) := by decide +kernel
theorem d_X10_readLine_227 : decode cX10_readLine 227 = .ok (.iconst 1, 1) := by decide +kernel
theorem d_X10_readLine_228 : decode cX10_readLine 228 = .ok (.iadd, 1) := by decide +kernel
theorem d_X10_readLine_229 : decode cX10_readLine 229 = .ok (.iastore, 1) := by decide +kernel
theorem d_X10_readLine_230 : decode cX10_readLine 230 = .ok (.goto (-158), 3) := by decide +kernel
theorem d_X10_readLine_233 : decode cX10_readLine 233 = .ok (.aload_n 0, 1) := by decide +kernel
theorem d_X10_readLine_234 : decode cX10_readLine 234 = .ok (.aload_n 0, 1) := by decide +kernel
theorem d_X10_readLine_235 : decode cX10_readLine 235 = .ok (.getfield 173, 3) := by decide +kernel
theorem d_X10_readLine_238 : decode cX10_readLine 238 = .ok (.iconst 1, 1) := by decide +kernel
theorem d_X10_readLine_239 : decode cX10_readLine 239 = .ok (.iadd, 1) := by decide +kernel
theorem d_X10_readLine_240 : decode cX10_readLine 240 = .ok (.putfield 173, 3) := by decide +kernel
theorem d_X10_readLine_243 : decode cX10_readLine 243 = .ok (.iconst 1, 1) := by decide +kernel
theorem d_X10_readLine_244 : decode cX10_readLine 244 = .ok (.ireturn, 1) := by decide +kernel
theorem d_X10_rows_0 : decode cX10_rows 0 = .ok (.aload_n 0, 1) := by decide +kernel
theorem d_X10_rows_1 : decode cX10_rows 1 = .ok (.iconst 0, 1) := by decide +kernel
theorem d_X10_rows_2 : decode cX10_rows 2 = .ok (.putfield 1, 3) := by decide +kernel
theorem d_X10_rows_5 : decode cX10_rows 5 = .ok (.aload_n 0, 1) := by decide +kernel
theorem d_X10_rows_6 : decode cX10_rows 6 = .ok (.iconst 0, 1) := by decide +kernel
theorem d_X10_rows_7 : decode cX10_rows 7 = .ok (.putfield 173, 3) := by decide +kernel
theorem d_X10_rows_10 : decode cX10_rows 10 = .ok (.aload_n 0, 1) := by decide +kernel
theorem d_X10_rows_11 : decode cX10_rows 11 = .ok (.aload_n 0, 1) := by decide +kernel
theorem d_X10_rows_12 : decode cX10_rows 12 = .ok (.getfield 166, 3) := by decide +kernel
theorem d_X10_rows_15 : decode cX10_rows 15 = .ok (.putfield 176, 3) := by decide +kernel
theorem d_X10_rows_18 : decode cX10_rows 18 = .ok (.aload_n 0, 1) := by decide +kernel
theorem d_X10_rows_19 : decode cX10_rows 19 = .ok (.iconst 0, 1) := by decide +kernel
theorem d_X10_rows_20 : decode cX10_rows 20 = .ok (.putfield 166, 3) := by decide +kernel
theorem d_X10_rows_23 : decode cX10_rows 23 = .ok (.aload_n 0, 1) := by decide +kernel
theorem d_X10_rows_24 : decode cX10_rows 24 = .ok (.iconst 0, 1) := by decide +kernel
theorem d_X10_rows_25 : decode cX10_rows 25 = .ok (.putfield 182, 3) := by decide +kernel
theorem d_X10_rows_28 : decode cX10_rows 28 = .ok (.aload_n 0, 1) := by decide +kernel
theorem d_X10_rows_29 : decode cX10_rows 29 = .ok (.iconst (-1), 1) := by decide +kernel
theorem d_X10_rows_30 : decode cX10_rows 30 = .ok (.putfield 45, 3) := by decide +kernel
theorem d_X10_rows_33 : decode cX10_rows 33 = .ok (.iconst 0, 1) := by decide +kernel
theorem d_X10_rows_34 : decode cX10_rows 34 = .ok (.istore_n 1, 1) := by decide +kernel
theorem d_X10_rows_35 : decode cX10_rows 35 = .ok (.iconst 0, 1) := by decide +kernel
theorem d_X10_rows_36 : decode cX10_rows 36 = .ok (.istore_n 2, 1) := by decide +kernel
theorem d_X10_rows_37 : decode cX10_rows 37 = .ok (.iload_n 2, 1) := by decide +kernel
theorem d_X10_rows_38 : decode cX10_rows 38 = .ok (.bipush 6, 2) := by decide +kernel
theorem d_X10_rows_40 : decode cX10_rows 40 = .ok (.if_icmp .ge 16, 3) := by decide +kernel
theorem d_X10_rows_43 : decode cX10_rows 43 = .ok (.aload_n 0, 1) := by decide +kernel
theorem d_X10_rows_44 : decode cX10_rows 44 = .ok (.getfield 48, 3) := by decide +kernel
theorem d_X10_rows_47 : decode cX10_rows 47 = .ok (.iload_n 2, 1) := by decide +kernel
theorem d_X10_rows_48 : decode cX10_rows 48 = .ok (.iconst 0, 1) := by decide +kernel
theorem d_X10_rows_49 : decode cX10_rows 49 = .ok (.iastore, 1) := by decide +kernel
theorem d_X10_rows_50 : decode cX10_rows 50 = .ok (.iinc 2 1, 3) := by decide +kernel
theorem d_X10_rows_53 : decode cX10_rows 53 = .ok (.goto (-16), 3) := by decide +kernel
theorem d_X10_rows_56 : decode cX10_rows 56 = .ok (.aload_n 0, 1) := by decide +kernel
theorem d_X10_rows_57 : decode cX10_rows 57 = .ok (.invokevirtual 185, 3) := by decide +kernel
theorem d_X10_rows_60 : decode cX10_rows 60 = .ok (.iconst (-1), 1) := by decide +kernel
theorem d_X10_rows_61 : decode cX10_rows 61 = .ok (.if_icmp .eq 19, 3) := by decide +kernel
theorem d_X10_rows_64 : decode cX10_rows 64 = .ok (.aload_n 0, 1) := by decide +kernel
theorem d_X10_rows_65 : decode cX10_rows 65 = .ok (.invokevirtual 198, 3) := by decide +kernel
theorem d_X10_rows_68 : decode cX10_rows 68 = .ok (.ifCond .ne 5, 3) := by decide +kernel
theorem d_X10_rows_71 : decode cX10_rows 71 = .ok (.iconst (-1), 1) := by decide +kernel
theorem d_X10_rows_72 : decode cX10_rows 72 = .ok (.ireturn, 1) := by decide +kernel
theorem d_X10_rows_73 : decode cX10_rows 73 = .ok (.iload_n 1, 1) := by decide +kernel
theorem d_X10_rows_74 : decode cX10_rows 74 = .ok (.iconst 1, 1) := by decide +kernel
theorem d_X10_rows_75 : decode cX10_rows 75 = .ok (.iadd, 1) := by decide +kernel
theorem d_X10_rows_76 : decode cX10_rows 76 = .ok (.istore_n 1, 1) := by decide +kernel
theorem d_X10_rows_77 : decode cX10_rows 77 = .ok (.goto (-21), 3) := by decide +kernel
theorem d_X10_rows_80 : decode cX10_rows 80 = .ok (.iconst 0, 1) := by decide +kernel
theorem d_X10_rows_81 : decode cX10_rows 81 = .ok (.istore_n 2, 1) := by decide +kernel
theorem d_X10_rows_82 : decode cX10_rows 82 = .ok (.iload_n 2, 1) := by decide +kernel
theorem d_X10_rows_83 : decode cX10_rows 83 = .ok (.bipush 6, 2) := by decide +kernel
theorem d_X10_rows_85 : decode cX10_rows 85 = .ok (.if_icmp .ge 92, 3) := by decide +kernel
theorem d_X10_rows_88 : decode cX10_rows 88 = .ok (.aload_n 0, 1) := by decide +kernel
theorem d_X10_rows_89 : decode cX10_rows 89 = .ok (.getfield 7, 3) := by decide +kernel
theorem d_X10_rows_92 : decode cX10_rows 92 = .ok (.bipush 77, 2) := by decide +kernel
theorem d_X10_rows_94 : decode cX10_rows 94 = .ok (.iload_n 2, 1) := by decide +kernel
theorem d_X10_rows_95 : decode cX10_rows 95 = .ok (.iadd, 1) := by decide +kernel
theorem d_X10_rows_96 : decode cX10_rows 96 = .ok (.aload_n 0, 1) := by decide +kernel
theorem d_X10_rows_97 : decode cX10_rows 97 = .ok (.getfield 48, 3) := by decide +kernel
theorem d_X10_rows_100 : decode cX10_rows 100 = .ok (.iload_n 2, 1) := by decide +kernel
theorem d_X10_rows_101 : decode cX10_rows 101 = .ok (.iaload, 1) := by decide +kernel
theorem d_X10_rows_102 : decode cX10_rows 102 = .ok (.ifCond .ne 7, 3) := by decide +kernel
theorem d_X10_rows_105 : decode cX10_rows 105 = .ok (.iconst 0, 1) := by decide +kernel
theorem d_X10_rows_106 : decode cX10_rows 106 = .ok (.goto 11, 3) := by decide +kernel
theorem d_X10_rows_109 : decode cX10_rows 109 = .ok (.aload_n 0, 1) := by decide +kernel
theorem d_X10_rows_110 : decode cX10_rows 110 = .ok (.getfield 48, 3) := by decide +kernel
theorem d_X10_rows_113 : decode cX10_rows 113 = .ok (.iload_n 2, 1) := by decide +kernel
theorem d_X10_rows_114 : decode cX10_rows 114 = .ok (.iaload, 1) := by decide +kernel
theorem d_X10_rows_115 : decode cX10_rows 115 = .ok (.iconst 1, 1) := by decide +kernel
theorem d_X10_rows_116 : decode cX10_rows 116 = .ok (.isub, 1) := by decide +kernel
theorem d_X10_rows_117 : decode cX10_rows 117 = .ok (.iastore, 1) := by decide +kernel
theorem d_X10_rows_118 : decode cX10_rows 118 = .ok (.iconst 0, 1) := by decide +kernel
theorem d_X10_rows_119 : decode cX10_rows 119 = .ok (.istore_n 3, 1) := by decide +kernel
theorem d_X10_rows_120 : decode cX10_rows 120 = .ok (.iload_n 3, 1) := by decide +kernel
theorem d_X10_rows_121 : decode cX10_rows 121 = .ok (.bipush 24, 2) := by decide +kernel
theorem d_X10_rows_123 : decode cX10_rows 123 = .ok (.if_icmp .ge 48, 3) := by decide +kernel
theorem d_X10_rows_126 : decode cX10_rows 126 = .ok (.aload_n 0, 1) := by decide +kernel
theorem d_X10_rows_127 : decode cX10_rows 127 = .ok (.getfield 7, 3) := by decide +kernel
theorem d_X10_rows_130 : decode cX10_rows 130 = .ok (.bipush 83, 2) := by decide +kernel
theorem d_X10_rows_132 : decode cX10_rows 132 = .ok (.bipush 24, 2) := by decide +kernel
theorem d_X10_rows_134 : decode cX10_rows 134 = .ok (.iload_n 2, 1) := by decide +kernel
theorem d_X10_rows_135 : decode cX10_rows 135 = .ok (.imul, 1) := by decide +kernel
theorem d_X10_rows_136 : decode cX10_rows 136 = .ok (.iadd, 1) := by decide +kernel
theorem d_X10_rows_137 : decode cX10_rows 137 = .ok (.iload_n 3, 1) := by decide +kernel
theorem d_X10_rows_138 : decode cX10_rows 138 = .ok (.iadd, 1) := by decide +kernel
theorem d_X10_rows_139 : decode cX10_rows 139 = .ok (.iload_n 3, 1) := by decide +kernel
theorem d_X10_rows_140 : decode cX10_rows 140 = .ok (.aload_n 0, 1) := by decide +kernel
theorem d_X10_rows_141 : decode cX10_rows 141 = .ok (.getfield 48, 3) := by decide +kernel
theorem d_X10_rows_144 : decode cX10_rows 144 = .ok (.iload_n 2, 1) := by decide +kernel
theorem d_X10_rows_145 : decode cX10_rows 145 = .ok (.iaload, 1) := by decide +kernel
theorem d_X10_rows_146 : decode cX10_rows 146 = .ok (.if_icmp .ge 17, 3) := by decide +kernel
theorem d_X10_rows_149 : decode cX10_rows 149 = .ok (.aload_n 0, 1) := by decide +kernel
theorem d_X10_rows_150 : decode cX10_rows 150 = .ok (.getfield 51, 3) := by decide +kernel
theorem d_X10_rows_153 : decode cX10_rows 153 = .ok (.bipush 24, 2) := by decide +kernel
theorem d_X10_rows_155 : decode cX10_rows 155 = .ok (.iload_n 2, 1) := by decide +kernel
theorem d_X10_rows_156 : decode cX10_rows 156 = .ok (.imul, 1) := by decide +kernel
theorem d_X10_rows_157 : decode cX10_rows 157 = .ok (.iload_n 3, 1) := by decide +kernel
theorem d_X10_rows_158 : decode cX10_rows 158 = .ok (.iadd, 1) := by decide +kernel
theorem d_X10_rows_159 : decode cX10_rows 159 = .ok (.iaload, 1) := by decide +kernel
theorem d_X10_rows_160 : decode cX10_rows 160 = .ok (.goto 4, 3) := by decide +kernel
theorem d_X10_rows_163 : decode cX10_rows 163 = .ok (.iconst 0, 1) := by decide +kernel
theorem d_X10_rows_164 : decode cX10_rows 164 = .ok (.iastore, 1) := by decide +kernel
theorem d_X10_rows_165 : decode cX10_rows 165 = .ok (.iinc 3 1, 3) := by decide +kernel
theorem d_X10_rows_168 : decode cX10_rows 168 = .ok (.goto (-48), 3) := by decide +kernel
theorem d_X10_rows_171 : decode cX10_rows 171 = .ok (.iinc 2 1, 3) := by decide +kernel
theorem d_X10_rows_174 : decode cX10_rows 174 = .ok (.goto (-92), 3) := by decide +kernel
theorem d_X10_rows_177 : decode cX10_rows 177 = .ok (.aload_n 0, 1) := by decide +kernel
theorem d_X10_rows_178 : decode cX10_rows 178 = .ok (.iconst 0, 1) := by decide +kernel
theorem d_X10_rows_179 : decode cX10_rows 179 = .ok (.putfield 32, 3) := by decide +kernel
theorem d_X10_rows_182 : decode cX10_rows 182 = .ok (.iload_n 1, 1) := by decide +kernel
theorem d_X10_rows_183 : decode cX10_rows 183 = .ok (.ireturn, 1) := by decide +kernel
theorem d_X10_fault_0 : decode cX10_fault 0 = .ok (.aload_n 0, 1) := by decide +kernel
theorem d_X10_fault_1 : decode cX10_fault 1 = .ok (.iconst 0, 1) := by decide +kernel
theorem d_X10_fault_2 : decode cX10_fault 2 = .ok (.putfield 1, 3) := by decide +kernel
theorem d_X10_fault_5 : decode cX10_fault 5 = .ok (.iload_n 1, 1) := by decide +kernel
theorem d_X10_fault_6 : decode cX10_fault 6 = .ok (.ifCond .ne 10, 3) := by decide +kernel
theorem d_X10_fault_9 : decode cX10_fault 9 = .ok (.aload_n 0, 1) := by decide +kernel
theorem d_X10_fault_10 : decode cX10_fault 10 = .ok (.getfield 182, 3) := by decide +kernel
theorem d_X10_fault_13 : decode cX10_fault 13 = .ok (.goto 16, 3) := by decide +kernel
theorem d_X10_fault_16 : decode cX10_fault 16 = .ok (.iload_n 1, 1) := by decide +kernel
theorem d_X10_fault_17 : decode cX10_fault 17 = .ok (.iconst 1, 1) := by decide +kernel
theorem d_X10_fault_18 : decode cX10_fault 18 = .ok (.if_icmp .ne 10, 3) := by decide +kernel
theorem d_X10_fault_21 : decode cX10_fault 21 = .ok (.aload_n 0, 1) := by decide +kernel
theorem d_X10_fault_22 : decode cX10_fault 22 = .ok (.getfield 45, 3) := by decide +kernel
theorem d_X10_fault_25 : decode cX10_fault 25 = .ok (.goto 4, 3) := by decide +kernel
theorem d_X10_fault_28 : decode cX10_fault 28 = .ok (.iconst (-1), 1) := by decide +kernel
theorem d_X10_fault_29 : decode cX10_fault 29 = .ok (.ireturn, 1) := by decide +kernel
theorem d_X10_rest_0 : decode cX10_rest 0 = .ok (.iload_n 1, 1) := by decide +kernel
theorem d_X10_rest_1 : decode cX10_rest 1 = .ok (.aload_n 0, 1) := by decide +kernel
theorem d_X10_rest_2 : decode cX10_rest 2 = .ok (.invokevirtual 148, 3) := by decide +kernel
theorem d_X10_rest_5 : decode cX10_rest 5 = .ok (.irem, 1) := by decide +kernel
theorem d_X10_rest_6 : decode cX10_rest 6 = .ok (.istore_n 2, 1) := by decide +kernel
theorem d_X10_rest_7 : decode cX10_rest 7 = .ok (.iload_n 2, 1) := by decide +kernel
theorem d_X10_rest_8 : decode cX10_rest 8 = .ok (.ifCond .ge 12, 3) := by decide +kernel
theorem d_X10_rest_11 : decode cX10_rest 11 = .ok (.iload_n 2, 1) := by decide +kernel
theorem d_X10_rest_12 : decode cX10_rest 12 = .ok (.aload_n 0, 1) := by decide +kernel
theorem d_X10_rest_13 : decode cX10_rest 13 = .ok (.invokevirtual 148, 3) := by decide +kernel
theorem d_X10_rest_16 : decode cX10_rest 16 = .ok (.iadd, 1) := by decide +kernel
theorem d_X10_rest_17 : decode cX10_rest 17 = .ok (.goto 4, 3) := by decide +kernel
theorem d_X10_rest_20 : decode cX10_rest 20 = .ok (.iload_n 2, 1) := by decide +kernel
theorem d_X10_rest_21 : decode cX10_rest 21 = .ok (.ireturn, 1) := by decide +kernel
theorem d_X10_ownPhase_0 : decode cX10_ownPhase 0 = .ok (.aload_n 0, 1) := by decide +kernel
theorem d_X10_ownPhase_1 : decode cX10_ownPhase 1 = .ok (.iload_n 1, 1) := by decide +kernel
theorem d_X10_ownPhase_2 : decode cX10_ownPhase 2 = .ok (.iload_n 2, 1) := by decide +kernel
theorem d_X10_ownPhase_3 : decode cX10_ownPhase 3 = .ok (.aload_n 0, 1) := by decide +kernel
theorem d_X10_ownPhase_4 : decode cX10_ownPhase 4 = .ok (.iload_n 1, 1) := by decide +kernel
theorem d_X10_ownPhase_5 : decode cX10_ownPhase 5 = .ok (.invokevirtual 201, 3) := by decide +kernel
theorem d_X10_ownPhase_8 : decode cX10_ownPhase 8 = .ok (.irem, 1) := by decide +kernel
theorem d_X10_ownPhase_9 : decode cX10_ownPhase 9 = .ok (.invokevirtual 204, 3) := by decide +kernel
theorem d_X10_ownPhase_12 : decode cX10_ownPhase 12 = .ok (.istore_n 3, 1) := by decide +kernel
theorem d_X10_ownPhase_13 : decode cX10_ownPhase 13 = .ok (.iconst 1, 1) := by decide +kernel
theorem d_X10_ownPhase_14 : decode cX10_ownPhase 14 = .ok (.istore 4, 2) := by decide +kernel
theorem d_X10_ownPhase_16 : decode cX10_ownPhase 16 = .ok (.iconst 0, 1) := by decide +kernel
theorem d_X10_ownPhase_17 : decode cX10_ownPhase 17 = .ok (.istore 5, 2) := by decide +kernel
theorem d_X10_ownPhase_19 : decode cX10_ownPhase 19 = .ok (.iload 5, 2) := by decide +kernel
theorem d_X10_ownPhase_21 : decode cX10_ownPhase 21 = .ok (.iconst 4, 1) := by decide +kernel
theorem d_X10_ownPhase_22 : decode cX10_ownPhase 22 = .ok (.if_icmp .ge 42, 3) := by decide +kernel
theorem d_X10_ownPhase_25 : decode cX10_ownPhase 25 = .ok (.iload_n 3, 1) := by decide +kernel
theorem d_X10_ownPhase_26 : decode cX10_ownPhase 26 = .ok (.iload_n 2, 1) := by decide +kernel
theorem d_X10_ownPhase_27 : decode cX10_ownPhase 27 = .ok (.iload 4, 2) := by decide +kernel
theorem d_X10_ownPhase_29 : decode cX10_ownPhase 29 = .ok (.idiv, 1) := by decide +kernel
theorem d_X10_ownPhase_30 : decode cX10_ownPhase 30 = .ok (.aload_n 0, 1) := by decide +kernel
theorem d_X10_ownPhase_31 : decode cX10_ownPhase 31 = .ok (.iload 5, 2) := by decide +kernel
theorem d_X10_ownPhase_33 : decode cX10_ownPhase 33 = .ok (.invokevirtual 136, 3) := by decide +kernel
theorem d_X10_ownPhase_36 : decode cX10_ownPhase 36 = .ok (.irem, 1) := by decide +kernel
theorem d_X10_ownPhase_37 : decode cX10_ownPhase 37 = .ok (.aload_n 0, 1) := by decide +kernel
theorem d_X10_ownPhase_38 : decode cX10_ownPhase 38 = .ok (.iload_n 1, 1) := by decide +kernel
theorem d_X10_ownPhase_39 : decode cX10_ownPhase 39 = .ok (.iload 5, 2) := by decide +kernel
theorem d_X10_ownPhase_41 : decode cX10_ownPhase 41 = .ok (.invokevirtual 207, 3) := by decide +kernel
theorem d_X10_ownPhase_44 : decode cX10_ownPhase 44 = .ok (.imul, 1) := by decide +kernel
theorem d_X10_ownPhase_45 : decode cX10_ownPhase 45 = .ok (.iadd, 1) := by decide +kernel
theorem d_X10_ownPhase_46 : decode cX10_ownPhase 46 = .ok (.istore_n 3, 1) := by decide +kernel
theorem d_X10_ownPhase_47 : decode cX10_ownPhase 47 = .ok (.iload 4, 2) := by decide +kernel
theorem d_X10_ownPhase_49 : decode cX10_ownPhase 49 = .ok (.aload_n 0, 1) := by decide +kernel
theorem d_X10_ownPhase_50 : decode cX10_ownPhase 50 = .ok (.iload 5, 2) := by decide +kernel
theorem d_X10_ownPhase_52 : decode cX10_ownPhase 52 = .ok (.invokevirtual 136, 3) := by decide +kernel
theorem d_X10_ownPhase_55 : decode cX10_ownPhase 55 = .ok (.imul, 1) := by decide +kernel
theorem d_X10_ownPhase_56 : decode cX10_ownPhase 56 = .ok (.istore 4, 2) := by decide +kernel
theorem d_X10_ownPhase_58 : decode cX10_ownPhase 58 = .ok (.iinc 5 1, 3) := by decide +kernel
theorem d_X10_ownPhase_61 : decode cX10_ownPhase 61 = .ok (.goto (-42), 3) := by decide +kernel
theorem d_X10_ownPhase_64 : decode cX10_ownPhase 64 = .ok (.aload_n 0, 1) := by decide +kernel
theorem d_X10_ownPhase_65 : decode cX10_ownPhase 65 = .ok (.iload_n 3, 1) := by decide +kernel
theorem d_X10_ownPhase_66 : decode cX10_ownPhase 66 = .ok (.invokevirtual 210, 3) := by decide +kernel
theorem d_X10_ownPhase_69 : decode cX10_ownPhase 69 = .ok (.ireturn, 1) := by decide +kernel
theorem d_X10_laysPhases_0 : decode cX10_laysPhases 0 = .ok (.aload_n 0, 1) := by decide +kernel
theorem d_X10_laysPhases_1 : decode cX10_laysPhases 1 = .ok (.invokevirtual 213, 3) := by decide +kernel
theorem d_X10_laysPhases_4 : decode cX10_laysPhases 4 = .ok (.istore_n 1, 1) := by decide +kernel
theorem d_X10_laysPhases_5 : decode cX10_laysPhases 5 = .ok (.iconst 0, 1) := by decide +kernel
theorem d_X10_laysPhases_6 : decode cX10_laysPhases 6 = .ok (.istore_n 2, 1) := by decide +kernel
theorem d_X10_laysPhases_7 : decode cX10_laysPhases 7 = .ok (.iload_n 2, 1) := by decide +kernel
theorem d_X10_laysPhases_8 : decode cX10_laysPhases 8 = .ok (.aload_n 0, 1) := by decide +kernel
theorem d_X10_laysPhases_9 : decode cX10_laysPhases 9 = .ok (.invokevirtual 142, 3) := by decide +kernel
theorem d_X10_laysPhases_12 : decode cX10_laysPhases 12 = .ok (.if_icmp .ge 114, 3) := by decide +kernel
theorem d_X10_laysPhases_15 : decode cX10_laysPhases 15 = .ok (.iconst 0, 1) := by decide +kernel
theorem d_X10_laysPhases_16 : decode cX10_laysPhases 16 = .ok (.istore_n 3, 1) := by decide +kernel
theorem d_X10_laysPhases_17 : decode cX10_laysPhases 17 = .ok (.iconst 0, 1) := by decide +kernel
theorem d_X10_laysPhases_18 : decode cX10_laysPhases 18 = .ok (.istore 4, 2) := by decide +kernel
theorem d_X10_laysPhases_20 : decode cX10_laysPhases 20 = .ok (.iload 4, 2) := by decide +kernel
theorem d_X10_laysPhases_22 : decode cX10_laysPhases 22 = .ok (.aload_n 0, 1) := by decide +kernel
theorem d_X10_laysPhases_23 : decode cX10_laysPhases 23 = .ok (.invokevirtual 11, 3) := by decide +kernel
theorem d_X10_laysPhases_26 : decode cX10_laysPhases 26 = .ok (.if_icmp .ge 56, 3) := by decide +kernel
theorem d_X10_laysPhases_29 : decode cX10_laysPhases 29 = .ok (.aload_n 0, 1) := by decide +kernel
theorem d_X10_laysPhases_30 : decode cX10_laysPhases 30 = .ok (.getfield 54, 3) := by decide +kernel
theorem d_X10_laysPhases_33 : decode cX10_laysPhases 33 = .ok (.bipush 6, 2) := by decide +kernel
theorem d_X10_laysPhases_35 : decode cX10_laysPhases 35 = .ok (.iload_n 2, 1) := by decide +kernel
theorem d_X10_laysPhases_36 : decode cX10_laysPhases 36 = .ok (.imul, 1) := by decide +kernel
theorem d_X10_laysPhases_37 : decode cX10_laysPhases 37 = .ok (.iload 4, 2) := by decide +kernel
theorem d_X10_laysPhases_39 : decode cX10_laysPhases 39 = .ok (.iadd, 1) := by decide +kernel
theorem d_X10_laysPhases_40 : decode cX10_laysPhases 40 = .ok (.aload_n 0, 1) := by decide +kernel
theorem d_X10_laysPhases_41 : decode cX10_laysPhases 41 = .ok (.iload 4, 2) := by decide +kernel
theorem d_X10_laysPhases_43 : decode cX10_laysPhases 43 = .ok (.iload_n 2, 1) := by decide +kernel
theorem d_X10_laysPhases_44 : decode cX10_laysPhases 44 = .ok (.invokevirtual 216, 3) := by decide +kernel
theorem d_X10_laysPhases_47 : decode cX10_laysPhases 47 = .ok (.iastore, 1) := by decide +kernel
theorem d_X10_laysPhases_48 : decode cX10_laysPhases 48 = .ok (.iload_n 1, 1) := by decide +kernel
theorem d_X10_laysPhases_49 : decode cX10_laysPhases 49 = .ok (.iconst (-1), 1) := by decide +kernel
theorem d_X10_laysPhases_50 : decode cX10_laysPhases 50 = .ok (.if_icmp .eq 26, 3) := by decide +kernel
theorem d_X10_laysPhases_53 : decode cX10_laysPhases 53 = .ok (.iload_n 3, 1) := by decide +kernel
theorem d_X10_laysPhases_54 : decode cX10_laysPhases 54 = .ok (.aload_n 0, 1) := by decide +kernel
theorem d_X10_laysPhases_55 : decode cX10_laysPhases 55 = .ok (.iload_n 1, 1) := by decide +kernel
theorem d_X10_laysPhases_56 : decode cX10_laysPhases 56 = .ok (.iload 4, 2) := by decide +kernel
theorem d_X10_laysPhases_58 : decode cX10_laysPhases 58 = .ok (.invokevirtual 108, 3) := by decide +kernel
theorem d_X10_laysPhases_61 : decode cX10_laysPhases 61 = .ok (.aload_n 0, 1) := by decide +kernel
theorem d_X10_laysPhases_62 : decode cX10_laysPhases 62 = .ok (.getfield 54, 3) := by decide +kernel
theorem d_X10_laysPhases_65 : decode cX10_laysPhases 65 = .ok (.bipush 6, 2) := by decide +kernel
theorem d_X10_laysPhases_67 : decode cX10_laysPhases 67 = .ok (.iload_n 2, 1) := by decide +kernel
theorem d_X10_laysPhases_68 : decode cX10_laysPhases 68 = .ok (.imul, 1) := by decide +kernel
theorem d_X10_laysPhases_69 : decode cX10_laysPhases 69 = .ok (.iload 4, 2) := by decide +kernel
theorem d_X10_laysPhases_71 : decode cX10_laysPhases 71 = .ok (.iadd, 1) := by decide +kernel
theorem d_X10_laysPhases_72 : decode cX10_laysPhases 72 = .ok (.iaload, 1) := by decide +kernel
theorem d_X10_laysPhases_73 : decode cX10_laysPhases 73 = .ok (.imul, 1) := by decide +kernel
theorem d_X10_laysPhases_74 : decode cX10_laysPhases 74 = .ok (.iadd, 1) := by decide +kernel
theorem d_X10_laysPhases_75 : decode cX10_laysPhases 75 = .ok (.istore_n 3, 1) := by decide +kernel
theorem d_X10_laysPhases_76 : decode cX10_laysPhases 76 = .ok (.iinc 4 1, 3) := by decide +kernel
theorem d_X10_laysPhases_79 : decode cX10_laysPhases 79 = .ok (.goto (-59), 3) := by decide +kernel
theorem d_X10_laysPhases_82 : decode cX10_laysPhases 82 = .ok (.aload_n 0, 1) := by decide +kernel
theorem d_X10_laysPhases_83 : decode cX10_laysPhases 83 = .ok (.getfield 54, 3) := by decide +kernel
theorem d_X10_laysPhases_86 : decode cX10_laysPhases 86 = .ok (.bipush 6, 2) := by decide +kernel
theorem d_X10_laysPhases_88 : decode cX10_laysPhases 88 = .ok (.iload_n 2, 1) := by decide +kernel
theorem d_X10_laysPhases_89 : decode cX10_laysPhases 89 = .ok (.imul, 1) := by decide +kernel
theorem d_X10_laysPhases_90 : decode cX10_laysPhases 90 = .ok (.aload_n 0, 1) := by decide +kernel
theorem d_X10_laysPhases_91 : decode cX10_laysPhases 91 = .ok (.invokevirtual 11, 3) := by decide +kernel
theorem d_X10_laysPhases_94 : decode cX10_laysPhases 94 = .ok (.iadd, 1) := by decide +kernel
theorem d_X10_laysPhases_95 : decode cX10_laysPhases 95 = .ok (.aload_n 0, 1) := by decide +kernel
theorem d_X10_laysPhases_96 : decode cX10_laysPhases 96 = .ok (.invokevirtual 155, 3) := by decide +kernel
theorem d_X10_laysPhases_99 : decode cX10_laysPhases 99 = .ok (.ifCond .eq 11, 3) := by decide +kernel
theorem d_X10_laysPhases_102 : decode cX10_laysPhases 102 = .ok (.aload_n 0, 1) := by decide +kernel
theorem d_X10_laysPhases_103 : decode cX10_laysPhases 103 = .ok (.iload_n 3, 1) := by decide +kernel
theorem d_X10_laysPhases_104 : decode cX10_laysPhases 104 = .ok (.invokevirtual 210, 3) := by decide +kernel
theorem d_X10_laysPhases_107 : decode cX10_laysPhases 107 = .ok (.goto 12, 3) := by decide +kernel
theorem d_X10_laysPhases_110 : decode cX10_laysPhases 110 = .ok (.aload_n 0, 1) := by decide +kernel
theorem d_X10_laysPhases_111 : decode cX10_laysPhases 111 = .ok (.aload_n 0, 1) := by decide +kernel
theorem d_X10_laysPhases_112 : decode cX10_laysPhases 112 = .ok (.invokevirtual 11, 3) := by decide +kernel
theorem d_X10_laysPhases_115 : decode cX10_laysPhases 115 = .ok (.iload_n 2, 1) := by decide +kernel
theorem d_X10_laysPhases_116 : decode cX10_laysPhases 116 = .ok (.invokevirtual 216, 3) := by decide +kernel
theorem d_X10_laysPhases_119 : decode cX10_laysPhases 119 = .ok (.iastore, 1) := by decide +kernel
theorem d_X10_laysPhases_120 : decode cX10_laysPhases 120 = .ok (.iinc 2 1, 3) := by decide +kernel
theorem d_X10_laysPhases_123 : decode cX10_laysPhases 123 = .ok (.goto (-116), 3) := by decide +kernel
theorem d_X10_laysPhases_126 : decode cX10_laysPhases 126 = .ok (.return_, 1) := by decide +kernel
theorem d_X10_residueOf_0 : decode cX10_residueOf 0 = .ok (.aload_n 0, 1) := by decide +kernel
theorem d_X10_residueOf_1 : decode cX10_residueOf 1 = .ok (.getfield 54, 3) := by decide +kernel
theorem d_X10_residueOf_4 : decode cX10_residueOf 4 = .ok (.bipush 6, 2) := by decide +kernel
theorem d_X10_residueOf_6 : decode cX10_residueOf 6 = .ok (.iload_n 2, 1) := by decide +kernel
theorem d_X10_residueOf_7 : decode cX10_residueOf 7 = .ok (.imul, 1) := by decide +kernel
theorem d_X10_residueOf_8 : decode cX10_residueOf 8 = .ok (.aload_n 0, 1) := by decide +kernel
theorem d_X10_residueOf_9 : decode cX10_residueOf 9 = .ok (.invokevirtual 11, 3) := by decide +kernel
theorem d_X10_residueOf_12 : decode cX10_residueOf 12 = .ok (.iadd, 1) := by decide +kernel
theorem d_X10_residueOf_13 : decode cX10_residueOf 13 = .ok (.iaload, 1) := by decide +kernel
theorem d_X10_residueOf_14 : decode cX10_residueOf 14 = .ok (.ineg, 1) := by decide +kernel
theorem d_X10_residueOf_15 : decode cX10_residueOf 15 = .ok (.istore_n 3, 1) := by decide +kernel
theorem d_X10_residueOf_16 : decode cX10_residueOf 16 = .ok (.iconst 0, 1) := by decide +kernel
theorem d_X10_residueOf_17 : decode cX10_residueOf 17 = .ok (.istore 4, 2) := by decide +kernel
theorem d_X10_residueOf_19 : decode cX10_residueOf 19 = .ok (.iload 4, 2) := by decide +kernel
theorem d_X10_residueOf_21 : decode cX10_residueOf 21 = .ok (.aload_n 0, 1) := by decide +kernel
theorem d_X10_residueOf_22 : decode cX10_residueOf 22 = .ok (.invokevirtual 11, 3) := by decide +kernel
theorem d_X10_residueOf_25 : decode cX10_residueOf 25 = .ok (.if_icmp .ge 32, 3) := by decide +kernel
theorem d_X10_residueOf_28 : decode cX10_residueOf 28 = .ok (.iload_n 3, 1) := by decide +kernel
theorem d_X10_residueOf_29 : decode cX10_residueOf 29 = .ok (.aload_n 0, 1) := by decide +kernel
theorem d_X10_residueOf_30 : decode cX10_residueOf 30 = .ok (.iload_n 1, 1) := by decide +kernel
theorem d_X10_residueOf_31 : decode cX10_residueOf 31 = .ok (.iload 4, 2) := by decide +kernel
theorem d_X10_residueOf_33 : decode cX10_residueOf 33 = .ok (.invokevirtual 108, 3) := by decide +kernel
theorem d_X10_residueOf_36 : decode cX10_residueOf 36 = .ok (.aload_n 0, 1) := by decide +kernel
theorem d_X10_residueOf_37 : decode cX10_residueOf 37 = .ok (.getfield 54, 3) := by decide +kernel
theorem d_X10_residueOf_40 : decode cX10_residueOf 40 = .ok (.bipush 6, 2) := by decide +kernel
theorem d_X10_residueOf_42 : decode cX10_residueOf 42 = .ok (.iload_n 2, 1) := by decide +kernel
theorem d_X10_residueOf_43 : decode cX10_residueOf 43 = .ok (.imul, 1) := by decide +kernel
theorem d_X10_residueOf_44 : decode cX10_residueOf 44 = .ok (.iload 4, 2) := by decide +kernel
theorem d_X10_residueOf_46 : decode cX10_residueOf 46 = .ok (.iadd, 1) := by decide +kernel
theorem d_X10_residueOf_47 : decode cX10_residueOf 47 = .ok (.iaload, 1) := by decide +kernel
theorem d_X10_residueOf_48 : decode cX10_residueOf 48 = .ok (.imul, 1) := by decide +kernel
theorem d_X10_residueOf_49 : decode cX10_residueOf 49 = .ok (.iadd, 1) := by decide +kernel
theorem d_X10_residueOf_50 : decode cX10_residueOf 50 = .ok (.istore_n 3, 1) := by decide +kernel
theorem d_X10_residueOf_51 : decode cX10_residueOf 51 = .ok (.iinc 4 1, 3) := by decide +kernel
theorem d_X10_residueOf_54 : decode cX10_residueOf 54 = .ok (.goto (-35), 3) := by decide +kernel
theorem d_X10_residueOf_57 : decode cX10_residueOf 57 = .ok (.aload_n 0, 1) := by decide +kernel
theorem d_X10_residueOf_58 : decode cX10_residueOf 58 = .ok (.iload_n 3, 1) := by decide +kernel
theorem d_X10_residueOf_59 : decode cX10_residueOf 59 = .ok (.invokevirtual 210, 3) := by decide +kernel
theorem d_X10_residueOf_62 : decode cX10_residueOf 62 = .ok (.ireturn, 1) := by decide +kernel
theorem d_X10_laysPrimitive_0 : decode cX10_laysPrimitive 0 = .ok (.iconst 1, 1) := by decide +kernel
theorem d_X10_laysPrimitive_1 : decode cX10_laysPrimitive 1 = .ok (.istore_n 1, 1) := by decide +kernel
theorem d_X10_laysPrimitive_2 : decode cX10_laysPrimitive 2 = .ok (.iload_n 1, 1) := by decide +kernel
theorem d_X10_laysPrimitive_3 : decode cX10_laysPrimitive 3 = .ok (.aload_n 0, 1) := by decide +kernel
theorem d_X10_laysPrimitive_4 : decode cX10_laysPrimitive 4 = .ok (.invokevirtual 148, 3) := by decide +kernel
theorem d_X10_laysPrimitive_7 : decode cX10_laysPrimitive 7 = .ok (.if_icmp .gt 123, 3) := by decide +kernel
theorem d_X10_laysPrimitive_10 : decode cX10_laysPrimitive 10 = .ok (.aload_n 0, 1) := by decide +kernel
theorem d_X10_laysPrimitive_11 : decode cX10_laysPrimitive 11 = .ok (.invokevirtual 148, 3) := by decide +kernel
theorem d_X10_laysPrimitive_14 : decode cX10_laysPrimitive 14 = .ok (.iload_n 1, 1) := by decide +kernel
theorem d_X10_laysPrimitive_15 : decode cX10_laysPrimitive 15 = .ok (.irem, 1) := by decide +kernel
theorem d_X10_laysPrimitive_16 : decode cX10_laysPrimitive 16 = .ok (.ifCond .eq 6, 3) := by decide +kernel
theorem d_X10_laysPrimitive_19 : decode cX10_laysPrimitive 19 = .ok (.goto 105, 3) := by decide +kernel
theorem d_X10_laysPrimitive_22 : decode cX10_laysPrimitive 22 = .ok (.iconst 0, 1) := by decide +kernel
theorem d_X10_laysPrimitive_23 : decode cX10_laysPrimitive 23 = .ok (.istore_n 2, 1) := by decide +kernel
theorem d_X10_laysPrimitive_24 : decode cX10_laysPrimitive 24 = .ok (.iload_n 2, 1) := by decide +kernel
theorem d_X10_laysPrimitive_25 : decode cX10_laysPrimitive 25 = .ok (.bipush 48, 2) := by decide +kernel
theorem d_X10_laysPrimitive_27 : decode cX10_laysPrimitive 27 = .ok (.if_icmp .gt 16, 3) := by decide +kernel
theorem d_X10_laysPrimitive_30 : decode cX10_laysPrimitive 30 = .ok (.aload_n 0, 1) := by decide +kernel
theorem d_X10_laysPrimitive_31 : decode cX10_laysPrimitive 31 = .ok (.getfield 64, 3) := by decide +kernel
theorem d_X10_laysPrimitive_34 : decode cX10_laysPrimitive 34 = .ok (.iload_n 2, 1) := by decide +kernel
theorem d_X10_laysPrimitive_35 : decode cX10_laysPrimitive 35 = .ok (.lconst 0, 1) := by decide +kernel
theorem d_X10_laysPrimitive_36 : decode cX10_laysPrimitive 36 = .ok (.lastore, 1) := by decide +kernel
theorem d_X10_laysPrimitive_37 : decode cX10_laysPrimitive 37 = .ok (.iinc 2 1, 3) := by decide +kernel
theorem d_X10_laysPrimitive_40 : decode cX10_laysPrimitive 40 = .ok (.goto (-16), 3) := by decide +kernel
theorem d_X10_laysPrimitive_43 : decode cX10_laysPrimitive 43 = .ok (.aload_n 0, 1) := by decide +kernel
theorem d_X10_laysPrimitive_44 : decode cX10_laysPrimitive 44 = .ok (.getfield 64, 3) := by decide +kernel
theorem d_X10_laysPrimitive_47 : decode cX10_laysPrimitive 47 = .ok (.iconst 0, 1) := by decide +kernel
theorem d_X10_laysPrimitive_48 : decode cX10_laysPrimitive 48 = .ok (.ldc2_w 219, 3) := by decide +kernel
theorem d_X10_laysPrimitive_51 : decode cX10_laysPrimitive 51 = .ok (.lastore, 1) := by decide +kernel
theorem d_X10_laysPrimitive_52 : decode cX10_laysPrimitive 52 = .ok (.aload_n 0, 1) := by decide +kernel
theorem d_X10_laysPrimitive_53 : decode cX10_laysPrimitive 53 = .ok (.getfield 64, 3) := by decide +kernel
theorem d_X10_laysPrimitive_56 : decode cX10_laysPrimitive 56 = .ok (.iload_n 1, 1) := by decide +kernel
theorem d_X10_laysPrimitive_57 : decode cX10_laysPrimitive 57 = .ok (.lconst 1, 1) := by decide +kernel
theorem d_X10_laysPrimitive_58 : decode cX10_laysPrimitive 58 = .ok (.lastore, 1) := by decide +kernel
theorem d_X10_laysPrimitive_59 : decode cX10_laysPrimitive 59 = .ok (.iload_n 1, 1) := by decide +kernel
theorem d_X10_laysPrimitive_60 : decode cX10_laysPrimitive 60 = .ok (.istore_n 2, 1) := by decide +kernel
theorem d_X10_laysPrimitive_61 : decode cX10_laysPrimitive 61 = .ok (.iconst 1, 1) := by decide +kernel
theorem d_X10_laysPrimitive_62 : decode cX10_laysPrimitive 62 = .ok (.istore_n 3, 1) := by decide +kernel
theorem d_X10_laysPrimitive_63 : decode cX10_laysPrimitive 63 = .ok (.iload_n 3, 1) := by decide +kernel
theorem d_X10_laysPrimitive_64 : decode cX10_laysPrimitive 64 = .ok (.iload_n 1, 1) := by decide +kernel
theorem d_X10_laysPrimitive_65 : decode cX10_laysPrimitive 65 = .ok (.if_icmp .ge 22, 3) := by decide +kernel
theorem d_X10_laysPrimitive_68 : decode cX10_laysPrimitive 68 = .ok (.iload_n 1, 1) := by decide +kernel
theorem d_X10_laysPrimitive_69 : decode cX10_laysPrimitive 69 = .ok (.iload_n 3, 1) := by decide +kernel
theorem d_X10_laysPrimitive_70 : decode cX10_laysPrimitive 70 = .ok (.irem, 1) := by decide +kernel
theorem d_X10_laysPrimitive_71 : decode cX10_laysPrimitive 71 = .ok (.ifCond .ne 10, 3) := by decide +kernel
theorem d_X10_laysPrimitive_74 : decode cX10_laysPrimitive 74 = .ok (.aload_n 0, 1) := by decide +kernel
theorem d_X10_laysPrimitive_75 : decode cX10_laysPrimitive 75 = .ok (.iload_n 3, 1) := by decide +kernel
theorem d_X10_laysPrimitive_76 : decode cX10_laysPrimitive 76 = .ok (.iload_n 2, 1) := by decide +kernel
theorem d_X10_laysPrimitive_77 : decode cX10_laysPrimitive 77 = .ok (.invokevirtual 221, 3) := by decide +kernel
theorem d_X10_laysPrimitive_80 : decode cX10_laysPrimitive 80 = .ok (.istore_n 2, 1) := by decide +kernel
theorem d_X10_laysPrimitive_81 : decode cX10_laysPrimitive 81 = .ok (.iinc 3 1, 3) := by decide +kernel
theorem d_X10_laysPrimitive_84 : decode cX10_laysPrimitive 84 = .ok (.goto (-21), 3) := by decide +kernel
theorem d_X10_laysPrimitive_87 : decode cX10_laysPrimitive 87 = .ok (.aload_n 0, 1) := by decide +kernel
theorem d_X10_laysPrimitive_88 : decode cX10_laysPrimitive 88 = .ok (.getfield 70, 3) := by decide +kernel
theorem d_X10_laysPrimitive_91 : decode cX10_laysPrimitive 91 = .ok (.iload_n 1, 1) := by decide +kernel
theorem d_X10_laysPrimitive_92 : decode cX10_laysPrimitive 92 = .ok (.iload_n 2, 1) := by decide +kernel
theorem d_X10_laysPrimitive_93 : decode cX10_laysPrimitive 93 = .ok (.iastore, 1) := by decide +kernel
theorem d_X10_laysPrimitive_94 : decode cX10_laysPrimitive 94 = .ok (.iconst 0, 1) := by decide +kernel
theorem d_X10_laysPrimitive_95 : decode cX10_laysPrimitive 95 = .ok (.istore_n 3, 1) := by decide +kernel
theorem d_X10_laysPrimitive_96 : decode cX10_laysPrimitive 96 = .ok (.iload_n 3, 1) := by decide +kernel
theorem d_X10_laysPrimitive_97 : decode cX10_laysPrimitive 97 = .ok (.iload_n 2, 1) := by decide +kernel
theorem d_X10_laysPrimitive_98 : decode cX10_laysPrimitive 98 = .ok (.if_icmp .gt 26, 3) := by decide +kernel
theorem d_X10_laysPrimitive_101 : decode cX10_laysPrimitive 101 = .ok (.aload_n 0, 1) := by decide +kernel
theorem d_X10_laysPrimitive_102 : decode cX10_laysPrimitive 102 = .ok (.getfield 67, 3) := by decide +kernel
theorem d_X10_laysPrimitive_105 : decode cX10_laysPrimitive 105 = .ok (.bipush 49, 2) := by decide +kernel
theorem d_X10_laysPrimitive_107 : decode cX10_laysPrimitive 107 = .ok (.iload_n 1, 1) := by decide +kernel
theorem d_X10_laysPrimitive_108 : decode cX10_laysPrimitive 108 = .ok (.imul, 1) := by decide +kernel
theorem d_X10_laysPrimitive_109 : decode cX10_laysPrimitive 109 = .ok (.iload_n 3, 1) := by decide +kernel
theorem d_X10_laysPrimitive_110 : decode cX10_laysPrimitive 110 = .ok (.iadd, 1) := by decide +kernel
theorem d_X10_laysPrimitive_111 : decode cX10_laysPrimitive 111 = .ok (.aload_n 0, 1) := by decide +kernel
theorem d_X10_laysPrimitive_112 : decode cX10_laysPrimitive 112 = .ok (.getfield 64, 3) := by decide +kernel
theorem d_X10_laysPrimitive_115 : decode cX10_laysPrimitive 115 = .ok (.iload_n 3, 1) := by decide +kernel
theorem d_X10_laysPrimitive_116 : decode cX10_laysPrimitive 116 = .ok (.laload, 1) := by decide +kernel
theorem d_X10_laysPrimitive_117 : decode cX10_laysPrimitive 117 = .ok (.lastore, 1) := by decide +kernel
theorem d_X10_laysPrimitive_118 : decode cX10_laysPrimitive 118 = .ok (.iinc 3 1, 3) := by decide +kernel
theorem d_X10_laysPrimitive_121 : decode cX10_laysPrimitive 121 = .ok (.goto (-25), 3) := by decide +kernel
theorem d_X10_laysPrimitive_124 : decode cX10_laysPrimitive 124 = .ok (.iinc 1 1, 3) := by decide +kernel
theorem d_X10_laysPrimitive_127 : decode cX10_laysPrimitive 127 = .ok (.goto (-125), 3) := by decide +kernel
theorem d_X10_laysPrimitive_130 : decode cX10_laysPrimitive 130 = .ok (.aload_n 0, 1) := by decide +kernel
theorem d_X10_laysPrimitive_131 : decode cX10_laysPrimitive 131 = .ok (.aload_n 0, 1) := by decide +kernel
theorem d_X10_laysPrimitive_132 : decode cX10_laysPrimitive 132 = .ok (.getfield 70, 3) := by decide +kernel
theorem d_X10_laysPrimitive_135 : decode cX10_laysPrimitive 135 = .ok (.aload_n 0, 1) := by decide +kernel
theorem d_X10_laysPrimitive_136 : decode cX10_laysPrimitive 136 = .ok (.invokevirtual 148, 3) := by decide +kernel
theorem d_X10_laysPrimitive_139 : decode cX10_laysPrimitive 139 = .ok (.iaload, 1) := by decide +kernel
theorem d_X10_laysPrimitive_140 : decode cX10_laysPrimitive 140 = .ok (.putfield 224, 3) := by decide +kernel
theorem d_X10_laysPrimitive_143 : decode cX10_laysPrimitive 143 = .ok (.iconst 0, 1) := by decide +kernel
theorem d_X10_laysPrimitive_144 : decode cX10_laysPrimitive 144 = .ok (.istore_n 1, 1) := by decide +kernel
theorem d_X10_laysPrimitive_145 : decode cX10_laysPrimitive 145 = .ok (.iload_n 1, 1) := by decide +kernel
theorem d_X10_laysPrimitive_146 : decode cX10_laysPrimitive 146 = .ok (.aload_n 0, 1) := by decide +kernel
theorem d_X10_laysPrimitive_147 : decode cX10_laysPrimitive 147 = .ok (.getfield 224, 3) := by decide +kernel
theorem d_X10_laysPrimitive_150 : decode cX10_laysPrimitive 150 = .ok (.if_icmp .gt 29, 3) := by decide +kernel
theorem d_X10_laysPrimitive_153 : decode cX10_laysPrimitive 153 = .ok (.aload_n 0, 1) := by decide +kernel
theorem d_X10_laysPrimitive_154 : decode cX10_laysPrimitive 154 = .ok (.getfield 60, 3) := by decide +kernel
theorem d_X10_laysPrimitive_157 : decode cX10_laysPrimitive 157 = .ok (.iload_n 1, 1) := by decide +kernel
theorem d_X10_laysPrimitive_158 : decode cX10_laysPrimitive 158 = .ok (.aload_n 0, 1) := by decide +kernel
theorem d_X10_laysPrimitive_159 : decode cX10_laysPrimitive 159 = .ok (.getfield 67, 3) := by decide +kernel
theorem d_X10_laysPrimitive_162 : decode cX10_laysPrimitive 162 = .ok (.bipush 49, 2) := by decide +kernel
theorem d_X10_laysPrimitive_164 : decode cX10_laysPrimitive 164 = .ok (.aload_n 0, 1) := by decide +kernel
theorem d_X10_laysPrimitive_165 : decode cX10_laysPrimitive 165 = .ok (.invokevirtual 148, 3) := by decide +kernel
theorem d_X10_laysPrimitive_168 : decode cX10_laysPrimitive 168 = .ok (.imul, 1) := by decide +kernel
theorem d_X10_laysPrimitive_169 : decode cX10_laysPrimitive 169 = .ok (.iload_n 1, 1) := by decide +kernel
theorem d_X10_laysPrimitive_170 : decode cX10_laysPrimitive 170 = .ok (.iadd, 1) := by decide +kernel
theorem d_X10_laysPrimitive_171 : decode cX10_laysPrimitive 171 = .ok (.laload, 1) := by decide +kernel
theorem d_X10_laysPrimitive_172 : decode cX10_laysPrimitive 172 = .ok (.lastore, 1) := by decide +kernel
theorem d_X10_laysPrimitive_173 : decode cX10_laysPrimitive 173 = .ok (.iinc 1 1, 3) := by decide +kernel
theorem d_X10_laysPrimitive_176 : decode cX10_laysPrimitive 176 = .ok (.goto (-31), 3) := by decide +kernel
theorem d_X10_laysPrimitive_179 : decode cX10_laysPrimitive 179 = .ok (.return_, 1) := by decide +kernel
theorem d_X10_dividesBy_0 : decode cX10_dividesBy 0 = .ok (.aload_n 0, 1) := by decide +kernel
theorem d_X10_dividesBy_1 : decode cX10_dividesBy 1 = .ok (.getfield 70, 3) := by decide +kernel
theorem d_X10_dividesBy_4 : decode cX10_dividesBy 4 = .ok (.iload_n 1, 1) := by decide +kernel
theorem d_X10_dividesBy_5 : decode cX10_dividesBy 5 = .ok (.iaload, 1) := by decide +kernel
theorem d_X10_dividesBy_6 : decode cX10_dividesBy 6 = .ok (.istore_n 3, 1) := by decide +kernel
theorem d_X10_dividesBy_7 : decode cX10_dividesBy 7 = .ok (.iload_n 2, 1) := by decide +kernel
theorem d_X10_dividesBy_8 : decode cX10_dividesBy 8 = .ok (.istore 4, 2) := by decide +kernel
theorem d_X10_dividesBy_10 : decode cX10_dividesBy 10 = .ok (.iload 4, 2) := by decide +kernel
theorem d_X10_dividesBy_12 : decode cX10_dividesBy 12 = .ok (.iload_n 3, 1) := by decide +kernel
theorem d_X10_dividesBy_13 : decode cX10_dividesBy 13 = .ok (.if_icmp .lt 82, 3) := by decide +kernel
theorem d_X10_dividesBy_16 : decode cX10_dividesBy 16 = .ok (.aload_n 0, 1) := by decide +kernel
theorem d_X10_dividesBy_17 : decode cX10_dividesBy 17 = .ok (.getfield 64, 3) := by decide +kernel
theorem d_X10_dividesBy_20 : decode cX10_dividesBy 20 = .ok (.iload 4, 2) := by decide +kernel
theorem d_X10_dividesBy_22 : decode cX10_dividesBy 22 = .ok (.laload, 1) := by decide +kernel
theorem d_X10_dividesBy_23 : decode cX10_dividesBy 23 = .ok (.lstore 5, 2) := by decide +kernel
theorem d_X10_dividesBy_25 : decode cX10_dividesBy 25 = .ok (.iconst 0, 1) := by decide +kernel
theorem d_X10_dividesBy_26 : decode cX10_dividesBy 26 = .ok (.istore 7, 2) := by decide +kernel
theorem d_X10_dividesBy_28 : decode cX10_dividesBy 28 = .ok (.iload 7, 2) := by decide +kernel
theorem d_X10_dividesBy_30 : decode cX10_dividesBy 30 = .ok (.iload_n 3, 1) := by decide +kernel
theorem d_X10_dividesBy_31 : decode cX10_dividesBy 31 = .ok (.if_icmp .gt 49, 3) := by decide +kernel
theorem d_X10_dividesBy_34 : decode cX10_dividesBy 34 = .ok (.aload_n 0, 1) := by decide +kernel
theorem d_X10_dividesBy_35 : decode cX10_dividesBy 35 = .ok (.getfield 64, 3) := by decide +kernel
theorem d_X10_dividesBy_38 : decode cX10_dividesBy 38 = .ok (.iload 4, 2) := by decide +kernel
theorem d_X10_dividesBy_40 : decode cX10_dividesBy 40 = .ok (.iload_n 3, 1) := by decide +kernel
theorem d_X10_dividesBy_41 : decode cX10_dividesBy 41 = .ok (.isub, 1) := by decide +kernel
theorem d_X10_dividesBy_42 : decode cX10_dividesBy 42 = .ok (.iload 7, 2) := by decide +kernel
theorem d_X10_dividesBy_44 : decode cX10_dividesBy 44 = .ok (.iadd, 1) := by decide +kernel
theorem d_X10_dividesBy_45 : decode cX10_dividesBy 45 = .ok (.aload_n 0, 1) := by decide +kernel
theorem d_X10_dividesBy_46 : decode cX10_dividesBy 46 = .ok (.getfield 64, 3) := by decide +kernel
theorem d_X10_dividesBy_49 : decode cX10_dividesBy 49 = .ok (.iload 4, 2) := by decide +kernel
theorem d_X10_dividesBy_51 : decode cX10_dividesBy 51 = .ok (.iload_n 3, 1) := by decide +kernel
theorem d_X10_dividesBy_52 : decode cX10_dividesBy 52 = .ok (.isub, 1) := by decide +kernel
theorem d_X10_dividesBy_53 : decode cX10_dividesBy 53 = .ok (.iload 7, 2) := by decide +kernel
theorem d_X10_dividesBy_55 : decode cX10_dividesBy 55 = .ok (.iadd, 1) := by decide +kernel
theorem d_X10_dividesBy_56 : decode cX10_dividesBy 56 = .ok (.laload, 1) := by decide +kernel
theorem d_X10_dividesBy_57 : decode cX10_dividesBy 57 = .ok (.lload 5, 2) := by decide +kernel
theorem d_X10_dividesBy_59 : decode cX10_dividesBy 59 = .ok (.aload_n 0, 1) := by decide +kernel
theorem d_X10_dividesBy_60 : decode cX10_dividesBy 60 = .ok (.getfield 67, 3) := by decide +kernel
theorem d_X10_dividesBy_63 : decode cX10_dividesBy 63 = .ok (.bipush 49, 2) := by decide +kernel
theorem d_X10_dividesBy_65 : decode cX10_dividesBy 65 = .ok (.iload_n 1, 1) := by decide +kernel
theorem d_X10_dividesBy_66 : decode cX10_dividesBy 66 = .ok (.imul, 1) := by decide +kernel
theorem d_X10_dividesBy_67 : decode cX10_dividesBy 67 = .ok (.iload 7, 2) := by decide +kernel
theorem d_X10_dividesBy_69 : decode cX10_dividesBy 69 = .ok (.iadd, 1) := by decide +kernel
theorem d_X10_dividesBy_70 : decode cX10_dividesBy 70 = .ok (.laload, 1) := by decide +kernel
theorem d_X10_dividesBy_71 : decode cX10_dividesBy 71 = .ok (.lmul, 1) := by decide +kernel
theorem d_X10_dividesBy_72 : decode cX10_dividesBy 72 = .ok (.lsub, 1) := by decide +kernel
theorem d_X10_dividesBy_73 : decode cX10_dividesBy 73 = .ok (.lastore, 1) := by decide +kernel
theorem d_X10_dividesBy_74 : decode cX10_dividesBy 74 = .ok (.iinc 7 1, 3) := by decide +kernel
theorem d_X10_dividesBy_77 : decode cX10_dividesBy 77 = .ok (.goto (-49), 3) := by decide +kernel
theorem d_X10_dividesBy_80 : decode cX10_dividesBy 80 = .ok (.aload_n 0, 1) := by decide +kernel
theorem d_X10_dividesBy_81 : decode cX10_dividesBy 81 = .ok (.getfield 64, 3) := by decide +kernel
theorem d_X10_dividesBy_84 : decode cX10_dividesBy 84 = .ok (.iload 4, 2) := by decide +kernel
theorem d_X10_dividesBy_86 : decode cX10_dividesBy 86 = .ok (.lload 5, 2) := by decide +kernel
theorem d_X10_dividesBy_88 : decode cX10_dividesBy 88 = .ok (.lastore, 1) := by decide +kernel
theorem d_X10_dividesBy_89 : decode cX10_dividesBy 89 = .ok (.iinc 4 (-1), 3) := by decide +kernel
theorem d_X10_dividesBy_92 : decode cX10_dividesBy 92 = .ok (.goto (-82), 3) := by decide +kernel
theorem d_X10_dividesBy_95 : decode cX10_dividesBy 95 = .ok (.iconst 0, 1) := by decide +kernel
theorem d_X10_dividesBy_96 : decode cX10_dividesBy 96 = .ok (.istore 4, 2) := by decide +kernel
theorem d_X10_dividesBy_98 : decode cX10_dividesBy 98 = .ok (.iload 4, 2) := by decide +kernel
theorem d_X10_dividesBy_100 : decode cX10_dividesBy 100 = .ok (.iload_n 2, 1) := by decide +kernel
theorem d_X10_dividesBy_101 : decode cX10_dividesBy 101 = .ok (.iload_n 3, 1) := by decide +kernel
theorem d_X10_dividesBy_102 : decode cX10_dividesBy 102 = .ok (.isub, 1) := by decide +kernel
theorem d_X10_dividesBy_103 : decode cX10_dividesBy 103 = .ok (.if_icmp .gt 25, 3) := by decide +kernel
theorem d_X10_dividesBy_106 : decode cX10_dividesBy 106 = .ok (.aload_n 0, 1) := by decide +kernel
theorem d_X10_dividesBy_107 : decode cX10_dividesBy 107 = .ok (.getfield 64, 3) := by decide +kernel
theorem d_X10_dividesBy_110 : decode cX10_dividesBy 110 = .ok (.iload 4, 2) := by decide +kernel
theorem d_X10_dividesBy_112 : decode cX10_dividesBy 112 = .ok (.aload_n 0, 1) := by decide +kernel
theorem d_X10_dividesBy_113 : decode cX10_dividesBy 113 = .ok (.getfield 64, 3) := by decide +kernel
theorem d_X10_dividesBy_116 : decode cX10_dividesBy 116 = .ok (.iload 4, 2) := by decide +kernel
theorem d_X10_dividesBy_118 : decode cX10_dividesBy 118 = .ok (.iload_n 3, 1) := by decide +kernel
theorem d_X10_dividesBy_119 : decode cX10_dividesBy 119 = .ok (.iadd, 1) := by decide +kernel
theorem d_X10_dividesBy_120 : decode cX10_dividesBy 120 = .ok (.laload, 1) := by decide +kernel
theorem d_X10_dividesBy_121 : decode cX10_dividesBy 121 = .ok (.lastore, 1) := by decide +kernel
theorem d_X10_dividesBy_122 : decode cX10_dividesBy 122 = .ok (.iinc 4 1, 3) := by decide +kernel
theorem d_X10_dividesBy_125 : decode cX10_dividesBy 125 = .ok (.goto (-27), 3) := by decide +kernel
theorem d_X10_dividesBy_128 : decode cX10_dividesBy 128 = .ok (.iload_n 2, 1) := by decide +kernel
theorem d_X10_dividesBy_129 : decode cX10_dividesBy 129 = .ok (.iload_n 3, 1) := by decide +kernel
theorem d_X10_dividesBy_130 : decode cX10_dividesBy 130 = .ok (.isub, 1) := by decide +kernel
theorem d_X10_dividesBy_131 : decode cX10_dividesBy 131 = .ok (.iconst 1, 1) := by decide +kernel
theorem d_X10_dividesBy_132 : decode cX10_dividesBy 132 = .ok (.iadd, 1) := by decide +kernel
theorem d_X10_dividesBy_133 : decode cX10_dividesBy 133 = .ok (.istore 4, 2) := by decide +kernel
theorem d_X10_dividesBy_135 : decode cX10_dividesBy 135 = .ok (.iload 4, 2) := by decide +kernel
theorem d_X10_dividesBy_137 : decode cX10_dividesBy 137 = .ok (.iload_n 2, 1) := by decide +kernel
theorem d_X10_dividesBy_138 : decode cX10_dividesBy 138 = .ok (.if_icmp .gt 17, 3) := by decide +kernel
theorem d_X10_dividesBy_141 : decode cX10_dividesBy 141 = .ok (.aload_n 0, 1) := by decide +kernel
theorem d_X10_dividesBy_142 : decode cX10_dividesBy 142 = .ok (.getfield 64, 3) := by decide +kernel
theorem d_X10_dividesBy_145 : decode cX10_dividesBy 145 = .ok (.iload 4, 2) := by decide +kernel
theorem d_X10_dividesBy_147 : decode cX10_dividesBy 147 = .ok (.lconst 0, 1) := by decide +kernel
theorem d_X10_dividesBy_148 : decode cX10_dividesBy 148 = .ok (.lastore, 1) := by decide +kernel
theorem d_X10_dividesBy_149 : decode cX10_dividesBy 149 = .ok (.iinc 4 1, 3) := by decide +kernel
theorem d_X10_dividesBy_152 : decode cX10_dividesBy 152 = .ok (.goto (-17), 3) := by decide +kernel
theorem d_X10_dividesBy_155 : decode cX10_dividesBy 155 = .ok (.iload_n 2, 1) := by decide +kernel
theorem d_X10_dividesBy_156 : decode cX10_dividesBy 156 = .ok (.iload_n 3, 1) := by decide +kernel
theorem d_X10_dividesBy_157 : decode cX10_dividesBy 157 = .ok (.isub, 1) := by decide +kernel
theorem d_X10_dividesBy_158 : decode cX10_dividesBy 158 = .ok (.ireturn, 1) := by decide +kernel
theorem d_X10_isNothing_0 : decode cX10_isNothing 0 = .ok (.aload_n 0, 1) := by decide +kernel
theorem d_X10_isNothing_1 : decode cX10_isNothing 1 = .ok (.invokevirtual 148, 3) := by decide +kernel
theorem d_X10_isNothing_4 : decode cX10_isNothing 4 = .ok (.istore_n 1, 1) := by decide +kernel
theorem d_X10_isNothing_5 : decode cX10_isNothing 5 = .ok (.iconst 0, 1) := by decide +kernel
theorem d_X10_isNothing_6 : decode cX10_isNothing 6 = .ok (.istore_n 2, 1) := by decide +kernel
theorem d_X10_isNothing_7 : decode cX10_isNothing 7 = .ok (.iload_n 2, 1) := by decide +kernel
theorem d_X10_isNothing_8 : decode cX10_isNothing 8 = .ok (.iload_n 1, 1) := by decide +kernel
theorem d_X10_isNothing_9 : decode cX10_isNothing 9 = .ok (.if_icmp .ge 22, 3) := by decide +kernel
theorem d_X10_isNothing_12 : decode cX10_isNothing 12 = .ok (.aload_n 0, 1) := by decide +kernel
theorem d_X10_isNothing_13 : decode cX10_isNothing 13 = .ok (.getfield 64, 3) := by decide +kernel
theorem d_X10_isNothing_16 : decode cX10_isNothing 16 = .ok (.iload_n 2, 1) := by decide +kernel
theorem d_X10_isNothing_17 : decode cX10_isNothing 17 = .ok (.aload_n 0, 1) := by decide +kernel
theorem d_X10_isNothing_18 : decode cX10_isNothing 18 = .ok (.getfield 57, 3) := by decide +kernel
theorem d_X10_isNothing_21 : decode cX10_isNothing 21 = .ok (.iload_n 2, 1) := by decide +kernel
theorem d_X10_isNothing_22 : decode cX10_isNothing 22 = .ok (.iaload, 1) := by decide +kernel
theorem d_X10_isNothing_23 : decode cX10_isNothing 23 = .ok (.i2l, 1) := by decide +kernel
theorem d_X10_isNothing_24 : decode cX10_isNothing 24 = .ok (.lastore, 1) := by decide +kernel
theorem d_X10_isNothing_25 : decode cX10_isNothing 25 = .ok (.iinc 2 1, 3) := by decide +kernel
theorem d_X10_isNothing_28 : decode cX10_isNothing 28 = .ok (.goto (-21), 3) := by decide +kernel
theorem d_X10_isNothing_31 : decode cX10_isNothing 31 = .ok (.iload_n 1, 1) := by decide +kernel
theorem d_X10_isNothing_32 : decode cX10_isNothing 32 = .ok (.iconst 1, 1) := by decide +kernel
theorem d_X10_isNothing_33 : decode cX10_isNothing 33 = .ok (.isub, 1) := by decide +kernel
theorem d_X10_isNothing_34 : decode cX10_isNothing 34 = .ok (.istore_n 2, 1) := by decide +kernel
theorem d_X10_isNothing_35 : decode cX10_isNothing 35 = .ok (.iload_n 2, 1) := by decide +kernel
theorem d_X10_isNothing_36 : decode cX10_isNothing 36 = .ok (.aload_n 0, 1) := by decide +kernel
theorem d_X10_isNothing_37 : decode cX10_isNothing 37 = .ok (.getfield 224, 3) := by decide +kernel
theorem d_X10_isNothing_40 : decode cX10_isNothing 40 = .ok (.if_icmp .lt 81, 3) := by decide +kernel
theorem d_X10_isNothing_43 : decode cX10_isNothing 43 = .ok (.aload_n 0, 1) := by decide +kernel
theorem d_X10_isNothing_44 : decode cX10_isNothing 44 = .ok (.getfield 64, 3) := by decide +kernel
theorem d_X10_isNothing_47 : decode cX10_isNothing 47 = .ok (.iload_n 2, 1) := by decide +kernel
theorem d_X10_isNothing_48 : decode cX10_isNothing 48 = .ok (.laload, 1) := by decide +kernel
theorem d_X10_isNothing_49 : decode cX10_isNothing 49 = .ok (.lstore_n 3, 1) := by decide +kernel
theorem d_X10_isNothing_50 : decode cX10_isNothing 50 = .ok (.lload_n 3, 1) := by decide +kernel
theorem d_X10_isNothing_51 : decode cX10_isNothing 51 = .ok (.lconst 0, 1) := by decide +kernel
theorem d_X10_isNothing_52 : decode cX10_isNothing 52 = .ok (.lcmp, 1) := by decide +kernel
theorem d_X10_isNothing_53 : decode cX10_isNothing 53 = .ok (.ifCond .ne 6, 3) := by decide +kernel
theorem d_X10_isNothing_56 : decode cX10_isNothing 56 = .ok (.goto 59, 3) := by decide +kernel
theorem d_X10_isNothing_59 : decode cX10_isNothing 59 = .ok (.iconst 0, 1) := by decide +kernel
theorem d_X10_isNothing_60 : decode cX10_isNothing 60 = .ok (.istore 5, 2) := by decide +kernel
theorem d_X10_isNothing_62 : decode cX10_isNothing 62 = .ok (.iload 5, 2) := by decide +kernel
theorem d_X10_isNothing_64 : decode cX10_isNothing 64 = .ok (.aload_n 0, 1) := by decide +kernel
theorem d_X10_isNothing_65 : decode cX10_isNothing 65 = .ok (.getfield 224, 3) := by decide +kernel
theorem d_X10_isNothing_68 : decode cX10_isNothing 68 = .ok (.if_icmp .gt 47, 3) := by decide +kernel
theorem d_X10_isNothing_71 : decode cX10_isNothing 71 = .ok (.aload_n 0, 1) := by decide +kernel
theorem d_X10_isNothing_72 : decode cX10_isNothing 72 = .ok (.getfield 64, 3) := by decide +kernel
theorem d_X10_isNothing_75 : decode cX10_isNothing 75 = .ok (.iload_n 2, 1) := by decide +kernel
theorem d_X10_isNothing_76 : decode cX10_isNothing 76 = .ok (.aload_n 0, 1) := by decide +kernel
theorem d_X10_isNothing_77 : decode cX10_isNothing 77 = .ok (.getfield 224, 3) := by decide +kernel
theorem d_X10_isNothing_80 : decode cX10_isNothing 80 = .ok (.isub, 1) := by decide +kernel
theorem d_X10_isNothing_81 : decode cX10_isNothing 81 = .ok (.iload 5, 2) := by decide +kernel
theorem d_X10_isNothing_83 : decode cX10_isNothing 83 = .ok (.iadd, 1) := by decide +kernel
theorem d_X10_isNothing_84 : decode cX10_isNothing 84 = .ok (.aload_n 0, 1) := by decide +kernel
theorem d_X10_isNothing_85 : decode cX10_isNothing 85 = .ok (.getfield 64, 3) := by decide +kernel
theorem d_X10_isNothing_88 : decode cX10_isNothing 88 = .ok (.iload_n 2, 1) := by decide +kernel
theorem d_X10_isNothing_89 : decode cX10_isNothing 89 = .ok (.aload_n 0, 1) := by decide +kernel
theorem d_X10_isNothing_90 : decode cX10_isNothing 90 = .ok (.getfield 224, 3) := by decide +kernel
theorem d_X10_isNothing_93 : decode cX10_isNothing 93 = .ok (.isub, 1) := by decide +kernel
theorem d_X10_isNothing_94 : decode cX10_isNothing 94 = .ok (.iload 5, 2) := by decide +kernel
theorem d_X10_isNothing_96 : decode cX10_isNothing 96 = .ok (.iadd, 1) := by decide +kernel
theorem d_X10_isNothing_97 : decode cX10_isNothing 97 = .ok (.laload, 1) := by decide +kernel
theorem d_X10_isNothing_98 : decode cX10_isNothing 98 = .ok (.lload_n 3, 1) := by decide +kernel
theorem d_X10_isNothing_99 : decode cX10_isNothing 99 = .ok (.aload_n 0, 1) := by decide +kernel
theorem d_X10_isNothing_100 : decode cX10_isNothing 100 = .ok (.getfield 60, 3) := by decide +kernel
theorem d_X10_isNothing_103 : decode cX10_isNothing 103 = .ok (.iload 5, 2) := by decide +kernel
theorem d_X10_isNothing_105 : decode cX10_isNothing 105 = .ok (.laload, 1) := by decide +kernel
theorem d_X10_isNothing_106 : decode cX10_isNothing 106 = .ok (.lmul, 1) := by decide +kernel
theorem d_X10_isNothing_107 : decode cX10_isNothing 107 = .ok (.lsub, 1) := by decide +kernel
theorem d_X10_isNothing_108 : decode cX10_isNothing 108 = .ok (.lastore, 1) := by decide +kernel
theorem d_X10_isNothing_109 : decode cX10_isNothing 109 = .ok (.iinc 5 1, 3) := by decide +kernel
theorem d_X10_isNothing_112 : decode cX10_isNothing 112 = .ok (.goto (-50), 3) := by decide +kernel
theorem d_X10_isNothing_115 : decode cX10_isNothing 115 = .ok (.iinc 2 (-1), 3) := by decide +kernel
theorem d_X10_isNothing_118 : decode cX10_isNothing 118 = .ok (.goto (-83), 3) := by decide +kernel
theorem d_X10_isNothing_121 : decode cX10_isNothing 121 = .ok (.iconst 0, 1) := by decide +kernel
theorem d_X10_isNothing_122 : decode cX10_isNothing 122 = .ok (.istore_n 2, 1) := by decide +kernel
theorem d_X10_isNothing_123 : decode cX10_isNothing 123 = .ok (.iload_n 2, 1) := by decide +kernel
theorem d_X10_isNothing_124 : decode cX10_isNothing 124 = .ok (.aload_n 0, 1) := by decide +kernel
theorem d_X10_isNothing_125 : decode cX10_isNothing 125 = .ok (.getfield 224, 3) := by decide +kernel
theorem d_X10_isNothing_128 : decode cX10_isNothing 128 = .ok (.if_icmp .ge 22, 3) := by decide +kernel
theorem d_X10_isNothing_131 : decode cX10_isNothing 131 = .ok (.aload_n 0, 1) := by decide +kernel
theorem d_X10_isNothing_132 : decode cX10_isNothing 132 = .ok (.getfield 64, 3) := by decide +kernel
theorem d_X10_isNothing_135 : decode cX10_isNothing 135 = .ok (.iload_n 2, 1) := by decide +kernel
theorem d_X10_isNothing_136 : decode cX10_isNothing 136 = .ok (.laload, 1) := by decide +kernel
theorem d_X10_isNothing_137 : decode cX10_isNothing 137 = .ok (.lconst 0, 1) := by decide +kernel
theorem d_X10_isNothing_138 : decode cX10_isNothing 138 = .ok (.lcmp, 1) := by decide +kernel
theorem d_X10_isNothing_139 : decode cX10_isNothing 139 = .ok (.ifCond .eq 5, 3) := by decide +kernel
theorem d_X10_isNothing_142 : decode cX10_isNothing 142 = .ok (.iconst 0, 1) := by decide +kernel
theorem d_X10_isNothing_143 : decode cX10_isNothing 143 = .ok (.ireturn, 1) := by decide +kernel
theorem d_X10_isNothing_144 : decode cX10_isNothing 144 = .ok (.iinc 2 1, 3) := by decide +kernel
theorem d_X10_isNothing_147 : decode cX10_isNothing 147 = .ok (.goto (-24), 3) := by decide +kernel
theorem d_X10_isNothing_150 : decode cX10_isNothing 150 = .ok (.iconst 1, 1) := by decide +kernel
theorem d_X10_isNothing_151 : decode cX10_isNothing 151 = .ok (.ireturn, 1) := by decide +kernel
theorem d_X10_isOneAlone_0 : decode cX10_isOneAlone 0 = .ok (.iconst 0, 1) := by decide +kernel
theorem d_X10_isOneAlone_1 : decode cX10_isOneAlone 1 = .ok (.istore_n 1, 1) := by decide +kernel
theorem d_X10_isOneAlone_2 : decode cX10_isOneAlone 2 = .ok (.iconst 0, 1) := by decide +kernel
theorem d_X10_isOneAlone_3 : decode cX10_isOneAlone 3 = .ok (.istore_n 2, 1) := by decide +kernel
theorem d_X10_isOneAlone_4 : decode cX10_isOneAlone 4 = .ok (.iload_n 2, 1) := by decide +kernel
theorem d_X10_isOneAlone_5 : decode cX10_isOneAlone 5 = .ok (.aload_n 0, 1) := by decide +kernel
theorem d_X10_isOneAlone_6 : decode cX10_isOneAlone 6 = .ok (.invokevirtual 148, 3) := by decide +kernel
theorem d_X10_isOneAlone_9 : decode cX10_isOneAlone 9 = .ok (.if_icmp .ge 22, 3) := by decide +kernel
theorem d_X10_isOneAlone_12 : decode cX10_isOneAlone 12 = .ok (.aload_n 0, 1) := by decide +kernel
theorem d_X10_isOneAlone_13 : decode cX10_isOneAlone 13 = .ok (.getfield 57, 3) := by decide +kernel
theorem d_X10_isOneAlone_16 : decode cX10_isOneAlone 16 = .ok (.iload_n 2, 1) := by decide +kernel
theorem d_X10_isOneAlone_17 : decode cX10_isOneAlone 17 = .ok (.iaload, 1) := by decide +kernel
theorem d_X10_isOneAlone_18 : decode cX10_isOneAlone 18 = .ok (.ifCond .le 7, 3) := by decide +kernel
theorem d_X10_isOneAlone_21 : decode cX10_isOneAlone 21 = .ok (.iload_n 1, 1) := by decide +kernel
theorem d_X10_isOneAlone_22 : decode cX10_isOneAlone 22 = .ok (.iconst 1, 1) := by decide +kernel
theorem d_X10_isOneAlone_23 : decode cX10_isOneAlone 23 = .ok (.iadd, 1) := by decide +kernel
theorem d_X10_isOneAlone_24 : decode cX10_isOneAlone 24 = .ok (.istore_n 1, 1) := by decide +kernel
theorem d_X10_isOneAlone_25 : decode cX10_isOneAlone 25 = .ok (.iinc 2 1, 3) := by decide +kernel
theorem d_X10_isOneAlone_28 : decode cX10_isOneAlone 28 = .ok (.goto (-24), 3) := by decide +kernel
theorem d_X10_isOneAlone_31 : decode cX10_isOneAlone 31 = .ok (.iload_n 1, 1) := by decide +kernel
theorem d_X10_isOneAlone_32 : decode cX10_isOneAlone 32 = .ok (.iconst 1, 1) := by decide +kernel
theorem d_X10_isOneAlone_33 : decode cX10_isOneAlone 33 = .ok (.if_icmp .ne 7, 3) := by decide +kernel
theorem d_X10_isOneAlone_36 : decode cX10_isOneAlone 36 = .ok (.iconst 1, 1) := by decide +kernel
theorem d_X10_isOneAlone_37 : decode cX10_isOneAlone 37 = .ok (.goto 4, 3) := by decide +kernel
theorem d_X10_isOneAlone_40 : decode cX10_isOneAlone 40 = .ok (.iconst 0, 1) := by decide +kernel
theorem d_X10_isOneAlone_41 : decode cX10_isOneAlone 41 = .ok (.ireturn, 1) := by decide +kernel
theorem d_X10_stateNow_0 : decode cX10_stateNow 0 = .ok (.aload_n 0, 1) := by decide +kernel
theorem d_X10_stateNow_1 : decode cX10_stateNow 1 = .ok (.invokevirtual 227, 3) := by decide +kernel
theorem d_X10_stateNow_4 : decode cX10_stateNow 4 = .ok (.ifCond .eq 7, 3) := by decide +kernel
theorem d_X10_stateNow_7 : decode cX10_stateNow 7 = .ok (.iconst 0, 1) := by decide +kernel
theorem d_X10_stateNow_8 : decode cX10_stateNow 8 = .ok (.goto 15, 3) := by decide +kernel
theorem d_X10_stateNow_11 : decode cX10_stateNow 11 = .ok (.aload_n 0, 1) := by decide +kernel
theorem d_X10_stateNow_12 : decode cX10_stateNow 12 = .ok (.invokevirtual 230, 3) := by decide +kernel
theorem d_X10_stateNow_15 : decode cX10_stateNow 15 = .ok (.ifCond .eq 7, 3) := by decide +kernel
theorem d_X10_stateNow_18 : decode cX10_stateNow 18 = .ok (.iconst 2, 1) := by decide +kernel
theorem d_X10_stateNow_19 : decode cX10_stateNow 19 = .ok (.goto 4, 3) := by decide +kernel
theorem d_X10_stateNow_22 : decode cX10_stateNow 22 = .ok (.iconst 1, 1) := by decide +kernel
theorem d_X10_stateNow_23 : decode cX10_stateNow 23 = .ok (.ireturn, 1) := by decide +kernel
theorem d_X10_countsFirst_0 : decode cX10_countsFirst 0 = .ok (.iconst 0, 1) := by decide +kernel
theorem d_X10_countsFirst_1 : decode cX10_countsFirst 1 = .ok (.istore_n 3, 1) := by decide +kernel
theorem d_X10_countsFirst_2 : decode cX10_countsFirst 2 = .ok (.iload_n 3, 1) := by decide +kernel
theorem d_X10_countsFirst_3 : decode cX10_countsFirst 3 = .ok (.bipush 48, 2) := by decide +kernel
theorem d_X10_countsFirst_5 : decode cX10_countsFirst 5 = .ok (.if_icmp .ge 16, 3) := by decide +kernel
theorem d_X10_countsFirst_8 : decode cX10_countsFirst 8 = .ok (.aload_n 0, 1) := by decide +kernel
theorem d_X10_countsFirst_9 : decode cX10_countsFirst 9 = .ok (.getfield 57, 3) := by decide +kernel
theorem d_X10_countsFirst_12 : decode cX10_countsFirst 12 = .ok (.iload_n 3, 1) := by decide +kernel
theorem d_X10_countsFirst_13 : decode cX10_countsFirst 13 = .ok (.iconst 0, 1) := by decide +kernel
theorem d_X10_countsFirst_14 : decode cX10_countsFirst 14 = .ok (.iastore, 1) := by decide +kernel
theorem d_X10_countsFirst_15 : decode cX10_countsFirst 15 = .ok (.iinc 3 1, 3) := by decide +kernel
theorem d_X10_countsFirst_18 : decode cX10_countsFirst 18 = .ok (.goto (-16), 3) := by decide +kernel
theorem d_X10_countsFirst_21 : decode cX10_countsFirst 21 = .ok (.iconst 0, 1) := by decide +kernel
theorem d_X10_countsFirst_22 : decode cX10_countsFirst 22 = .ok (.istore_n 3, 1) := by decide +kernel
theorem d_X10_countsFirst_23 : decode cX10_countsFirst 23 = .ok (.iload_n 3, 1) := by decide +kernel
theorem d_X10_countsFirst_24 : decode cX10_countsFirst 24 = .ok (.iload_n 2, 1) := by decide +kernel
theorem d_X10_countsFirst_25 : decode cX10_countsFirst 25 = .ok (.if_icmp .ge 33, 3) := by decide +kernel
theorem d_X10_countsFirst_28 : decode cX10_countsFirst 28 = .ok (.aload_n 0, 1) := by decide +kernel
theorem d_X10_countsFirst_29 : decode cX10_countsFirst 29 = .ok (.iload_n 1, 1) := by decide +kernel
theorem d_X10_countsFirst_30 : decode cX10_countsFirst 30 = .ok (.iload_n 3, 1) := by decide +kernel
theorem d_X10_countsFirst_31 : decode cX10_countsFirst 31 = .ok (.invokevirtual 233, 3) := by decide +kernel
theorem d_X10_countsFirst_34 : decode cX10_countsFirst 34 = .ok (.istore 4, 2) := by decide +kernel
theorem d_X10_countsFirst_36 : decode cX10_countsFirst 36 = .ok (.aload_n 0, 1) := by decide +kernel
theorem d_X10_countsFirst_37 : decode cX10_countsFirst 37 = .ok (.getfield 57, 3) := by decide +kernel
theorem d_X10_countsFirst_40 : decode cX10_countsFirst 40 = .ok (.iload 4, 2) := by decide +kernel
theorem d_X10_countsFirst_42 : decode cX10_countsFirst 42 = .ok (.aload_n 0, 1) := by decide +kernel
theorem d_X10_countsFirst_43 : decode cX10_countsFirst 43 = .ok (.getfield 57, 3) := by decide +kernel
theorem d_X10_countsFirst_46 : decode cX10_countsFirst 46 = .ok (.iload 4, 2) := by decide +kernel
theorem d_X10_countsFirst_48 : decode cX10_countsFirst 48 = .ok (.iaload, 1) := by decide +kernel
theorem d_X10_countsFirst_49 : decode cX10_countsFirst 49 = .ok (.iconst 1, 1) := by decide +kernel
theorem d_X10_countsFirst_50 : decode cX10_countsFirst 50 = .ok (.iadd, 1) := by decide +kernel
theorem d_X10_countsFirst_51 : decode cX10_countsFirst 51 = .ok (.iastore, 1) := by decide +kernel
theorem d_X10_countsFirst_52 : decode cX10_countsFirst 52 = .ok (.iinc 3 1, 3) := by decide +kernel
theorem d_X10_countsFirst_55 : decode cX10_countsFirst 55 = .ok (.goto (-32), 3) := by decide +kernel
theorem d_X10_countsFirst_58 : decode cX10_countsFirst 58 = .ok (.return_, 1) := by decide +kernel
theorem d_X10_stateOf_0 : decode cX10_stateOf 0 = .ok (.aload_n 0, 1) := by decide +kernel
theorem d_X10_stateOf_1 : decode cX10_stateOf 1 = .ok (.getfield 32, 3) := by decide +kernel
theorem d_X10_stateOf_4 : decode cX10_stateOf 4 = .ok (.ifCond .ne 49, 3) := by decide +kernel
theorem d_X10_stateOf_7 : decode cX10_stateOf 7 = .ok (.aload_n 0, 1) := by decide +kernel
theorem d_X10_stateOf_8 : decode cX10_stateOf 8 = .ok (.invokevirtual 236, 3) := by decide +kernel
theorem d_X10_stateOf_11 : decode cX10_stateOf 11 = .ok (.aload_n 0, 1) := by decide +kernel
theorem d_X10_stateOf_12 : decode cX10_stateOf 12 = .ok (.invokevirtual 142, 3) := by decide +kernel
theorem d_X10_stateOf_15 : decode cX10_stateOf 15 = .ok (.istore_n 2, 1) := by decide +kernel
theorem d_X10_stateOf_16 : decode cX10_stateOf 16 = .ok (.iconst 0, 1) := by decide +kernel
theorem d_X10_stateOf_17 : decode cX10_stateOf 17 = .ok (.istore_n 3, 1) := by decide +kernel
theorem d_X10_stateOf_18 : decode cX10_stateOf 18 = .ok (.iload_n 3, 1) := by decide +kernel
theorem d_X10_stateOf_19 : decode cX10_stateOf 19 = .ok (.aload_n 0, 1) := by decide +kernel
theorem d_X10_stateOf_20 : decode cX10_stateOf 20 = .ok (.getfield 25, 3) := by decide +kernel
theorem d_X10_stateOf_23 : decode cX10_stateOf 23 = .ok (.if_icmp .ge 25, 3) := by decide +kernel
theorem d_X10_stateOf_26 : decode cX10_stateOf 26 = .ok (.aload_n 0, 1) := by decide +kernel
theorem d_X10_stateOf_27 : decode cX10_stateOf 27 = .ok (.iload_n 3, 1) := by decide +kernel
theorem d_X10_stateOf_28 : decode cX10_stateOf 28 = .ok (.iload_n 2, 1) := by decide +kernel
theorem d_X10_stateOf_29 : decode cX10_stateOf 29 = .ok (.invokevirtual 239, 3) := by decide +kernel
theorem d_X10_stateOf_32 : decode cX10_stateOf 32 = .ok (.aload_n 0, 1) := by decide +kernel
theorem d_X10_stateOf_33 : decode cX10_stateOf 33 = .ok (.getfield 73, 3) := by decide +kernel
theorem d_X10_stateOf_36 : decode cX10_stateOf 36 = .ok (.iload_n 3, 1) := by decide +kernel
theorem d_X10_stateOf_37 : decode cX10_stateOf 37 = .ok (.aload_n 0, 1) := by decide +kernel
theorem d_X10_stateOf_38 : decode cX10_stateOf 38 = .ok (.invokevirtual 242, 3) := by decide +kernel
theorem d_X10_stateOf_41 : decode cX10_stateOf 41 = .ok (.iastore, 1) := by decide +kernel
theorem d_X10_stateOf_42 : decode cX10_stateOf 42 = .ok (.iinc 3 1, 3) := by decide +kernel
theorem d_X10_stateOf_45 : decode cX10_stateOf 45 = .ok (.goto (-27), 3) := by decide +kernel
theorem d_X10_stateOf_48 : decode cX10_stateOf 48 = .ok (.aload_n 0, 1) := by decide +kernel
theorem d_X10_stateOf_49 : decode cX10_stateOf 49 = .ok (.iconst 1, 1) := by decide +kernel
theorem d_X10_stateOf_50 : decode cX10_stateOf 50 = .ok (.putfield 32, 3) := by decide +kernel
theorem d_X10_stateOf_53 : decode cX10_stateOf 53 = .ok (.aload_n 0, 1) := by decide +kernel
theorem d_X10_stateOf_54 : decode cX10_stateOf 54 = .ok (.getfield 73, 3) := by decide +kernel
theorem d_X10_stateOf_57 : decode cX10_stateOf 57 = .ok (.iload_n 1, 1) := by decide +kernel
theorem d_X10_stateOf_58 : decode cX10_stateOf 58 = .ok (.iaload, 1) := by decide +kernel
theorem d_X10_stateOf_59 : decode cX10_stateOf 59 = .ok (.ireturn, 1) := by decide +kernel
theorem d_X10_isOther_0 : decode cX10_isOther 0 = .ok (.aload_n 0, 1) := by decide +kernel
theorem d_X10_isOther_1 : decode cX10_isOther 1 = .ok (.getfield 7, 3) := by decide +kernel
theorem d_X10_isOther_4 : decode cX10_isOther 4 = .ok (.sipush 227, 3) := by decide +kernel
theorem d_X10_isOther_7 : decode cX10_isOther 7 = .ok (.iload_n 1, 1) := by decide +kernel
theorem d_X10_isOther_8 : decode cX10_isOther 8 = .ok (.iadd, 1) := by decide +kernel
theorem d_X10_isOther_9 : decode cX10_isOther 9 = .ok (.iaload, 1) := by decide +kernel
theorem d_X10_isOther_10 : decode cX10_isOther 10 = .ok (.ifCond .ne 15, 3) := by decide +kernel
theorem d_X10_isOther_13 : decode cX10_isOther 13 = .ok (.aload_n 0, 1) := by decide +kernel
theorem d_X10_isOther_14 : decode cX10_isOther 14 = .ok (.iload_n 1, 1) := by decide +kernel
theorem d_X10_isOther_15 : decode cX10_isOther 15 = .ok (.invokevirtual 245, 3) := by decide +kernel
theorem d_X10_isOther_18 : decode cX10_isOther 18 = .ok (.ifCond .ne 7, 3) := by decide +kernel
theorem d_X10_isOther_21 : decode cX10_isOther 21 = .ok (.iconst 1, 1) := by decide +kernel
theorem d_X10_isOther_22 : decode cX10_isOther 22 = .ok (.goto 4, 3) := by decide +kernel
theorem d_X10_isOther_25 : decode cX10_isOther 25 = .ok (.iconst 0, 1) := by decide +kernel
theorem d_X10_isOther_26 : decode cX10_isOther 26 = .ok (.ireturn, 1) := by decide +kernel
theorem d_X10_isLeak_0 : decode cX10_isLeak 0 = .ok (.aload_n 0, 1) := by decide +kernel
theorem d_X10_isLeak_1 : decode cX10_isLeak 1 = .ok (.iload_n 1, 1) := by decide +kernel
theorem d_X10_isLeak_2 : decode cX10_isLeak 2 = .ok (.invokevirtual 248, 3) := by decide +kernel
theorem d_X10_isLeak_5 : decode cX10_isLeak 5 = .ok (.ifCond .eq 15, 3) := by decide +kernel
theorem d_X10_isLeak_8 : decode cX10_isLeak 8 = .ok (.aload_n 0, 1) := by decide +kernel
theorem d_X10_isLeak_9 : decode cX10_isLeak 9 = .ok (.iload_n 1, 1) := by decide +kernel
theorem d_X10_isLeak_10 : decode cX10_isLeak 10 = .ok (.invokevirtual 251, 3) := by decide +kernel
theorem d_X10_isLeak_13 : decode cX10_isLeak 13 = .ok (.ifCond .eq 7, 3) := by decide +kernel
theorem d_X10_isLeak_16 : decode cX10_isLeak 16 = .ok (.iconst 1, 1) := by decide +kernel
theorem d_X10_isLeak_17 : decode cX10_isLeak 17 = .ok (.goto 4, 3) := by decide +kernel
theorem d_X10_isLeak_20 : decode cX10_isLeak 20 = .ok (.iconst 0, 1) := by decide +kernel
theorem d_X10_isLeak_21 : decode cX10_isLeak 21 = .ok (.ireturn, 1) := by decide +kernel
theorem d_X10_isLost_0 : decode cX10_isLost 0 = .ok (.aload_n 0, 1) := by decide +kernel
theorem d_X10_isLost_1 : decode cX10_isLost 1 = .ok (.iload_n 1, 1) := by decide +kernel
theorem d_X10_isLost_2 : decode cX10_isLost 2 = .ok (.invokevirtual 104, 3) := by decide +kernel
theorem d_X10_isLost_5 : decode cX10_isLost 5 = .ok (.ifCond .eq 23, 3) := by decide +kernel
theorem d_X10_isLost_8 : decode cX10_isLost 8 = .ok (.aload_n 0, 1) := by decide +kernel
theorem d_X10_isLost_9 : decode cX10_isLost 9 = .ok (.iload_n 1, 1) := by decide +kernel
theorem d_X10_isLost_10 : decode cX10_isLost 10 = .ok (.invokevirtual 245, 3) := by decide +kernel
theorem d_X10_isLost_13 : decode cX10_isLost 13 = .ok (.ifCond .ne 11, 3) := by decide +kernel
theorem d_X10_isLost_16 : decode cX10_isLost 16 = .ok (.aload_n 0, 1) := by decide +kernel
theorem d_X10_isLost_17 : decode cX10_isLost 17 = .ok (.iload_n 1, 1) := by decide +kernel
theorem d_X10_isLost_18 : decode cX10_isLost 18 = .ok (.invokevirtual 251, 3) := by decide +kernel
theorem d_X10_isLost_21 : decode cX10_isLost 21 = .ok (.ifCond .ne 7, 3) := by decide +kernel
theorem d_X10_isLost_24 : decode cX10_isLost 24 = .ok (.iconst 1, 1) := by decide +kernel
theorem d_X10_isLost_25 : decode cX10_isLost 25 = .ok (.goto 4, 3) := by decide +kernel
theorem d_X10_isLost_28 : decode cX10_isLost 28 = .ok (.iconst 0, 1) := by decide +kernel
theorem d_X10_isLost_29 : decode cX10_isLost 29 = .ok (.ireturn, 1) := by decide +kernel
theorem d_X10_leaks_0 : decode cX10_leaks 0 = .ok (.iconst 0, 1) := by decide +kernel
theorem d_X10_leaks_1 : decode cX10_leaks 1 = .ok (.istore_n 1, 1) := by decide +kernel
theorem d_X10_leaks_2 : decode cX10_leaks 2 = .ok (.iconst 0, 1) := by decide +kernel
theorem d_X10_leaks_3 : decode cX10_leaks 3 = .ok (.istore_n 2, 1) := by decide +kernel
theorem d_X10_leaks_4 : decode cX10_leaks 4 = .ok (.iload_n 2, 1) := by decide +kernel
theorem d_X10_leaks_5 : decode cX10_leaks 5 = .ok (.aload_n 0, 1) := by decide +kernel
theorem d_X10_leaks_6 : decode cX10_leaks 6 = .ok (.getfield 25, 3) := by decide +kernel
theorem d_X10_leaks_9 : decode cX10_leaks 9 = .ok (.if_icmp .ge 21, 3) := by decide +kernel
theorem d_X10_leaks_12 : decode cX10_leaks 12 = .ok (.aload_n 0, 1) := by decide +kernel
theorem d_X10_leaks_13 : decode cX10_leaks 13 = .ok (.iload_n 2, 1) := by decide +kernel
theorem d_X10_leaks_14 : decode cX10_leaks 14 = .ok (.invokevirtual 254, 3) := by decide +kernel
theorem d_X10_leaks_17 : decode cX10_leaks 17 = .ok (.ifCond .eq 7, 3) := by decide +kernel
theorem d_X10_leaks_20 : decode cX10_leaks 20 = .ok (.iload_n 1, 1) := by decide +kernel
theorem d_X10_leaks_21 : decode cX10_leaks 21 = .ok (.iconst 1, 1) := by decide +kernel
theorem d_X10_leaks_22 : decode cX10_leaks 22 = .ok (.iadd, 1) := by decide +kernel
theorem d_X10_leaks_23 : decode cX10_leaks 23 = .ok (.istore_n 1, 1) := by decide +kernel
theorem d_X10_leaks_24 : decode cX10_leaks 24 = .ok (.iinc 2 1, 3) := by decide +kernel
theorem d_X10_leaks_27 : decode cX10_leaks 27 = .ok (.goto (-23), 3) := by decide +kernel
theorem d_X10_leaks_30 : decode cX10_leaks 30 = .ok (.iload_n 1, 1) := by decide +kernel
theorem d_X10_leaks_31 : decode cX10_leaks 31 = .ok (.ireturn, 1) := by decide +kernel
theorem d_X10_losts_0 : decode cX10_losts 0 = .ok (.iconst 0, 1) := by decide +kernel
theorem d_X10_losts_1 : decode cX10_losts 1 = .ok (.istore_n 1, 1) := by decide +kernel
theorem d_X10_losts_2 : decode cX10_losts 2 = .ok (.iconst 0, 1) := by decide +kernel
theorem d_X10_losts_3 : decode cX10_losts 3 = .ok (.istore_n 2, 1) := by decide +kernel
theorem d_X10_losts_4 : decode cX10_losts 4 = .ok (.iload_n 2, 1) := by decide +kernel
theorem d_X10_losts_5 : decode cX10_losts 5 = .ok (.aload_n 0, 1) := by decide +kernel
theorem d_X10_losts_6 : decode cX10_losts 6 = .ok (.getfield 25, 3) := by decide +kernel
theorem d_X10_losts_9 : decode cX10_losts 9 = .ok (.if_icmp .ge 21, 3) := by decide +kernel
theorem d_X10_losts_12 : decode cX10_losts 12 = .ok (.aload_n 0, 1) := by decide +kernel
theorem d_X10_losts_13 : decode cX10_losts 13 = .ok (.iload_n 2, 1) := by decide +kernel
theorem d_X10_losts_14 : decode cX10_losts 14 = .ok (.invokevirtual 257, 3) := by decide +kernel
theorem d_X10_losts_17 : decode cX10_losts 17 = .ok (.ifCond .eq 7, 3) := by decide +kernel
theorem d_X10_losts_20 : decode cX10_losts 20 = .ok (.iload_n 1, 1) := by decide +kernel
theorem d_X10_losts_21 : decode cX10_losts 21 = .ok (.iconst 1, 1) := by decide +kernel
theorem d_X10_losts_22 : decode cX10_losts 22 = .ok (.iadd, 1) := by decide +kernel
theorem d_X10_losts_23 : decode cX10_losts 23 = .ok (.istore_n 1, 1) := by decide +kernel
theorem d_X10_losts_24 : decode cX10_losts 24 = .ok (.iinc 2 1, 3) := by decide +kernel
theorem d_X10_losts_27 : decode cX10_losts 27 = .ok (.goto (-23), 3) := by decide +kernel
theorem d_X10_losts_30 : decode cX10_losts 30 = .ok (.iload_n 1, 1) := by decide +kernel
theorem d_X10_losts_31 : decode cX10_losts 31 = .ok (.ireturn, 1) := by decide +kernel
theorem d_X10_isGood_0 : decode cX10_isGood 0 = .ok (.aload_n 0, 1) := by decide +kernel
theorem d_X10_isGood_1 : decode cX10_isGood 1 = .ok (.invokevirtual 213, 3) := by decide +kernel
theorem d_X10_isGood_4 : decode cX10_isGood 4 = .ok (.iconst (-1), 1) := by decide +kernel
theorem d_X10_isGood_5 : decode cX10_isGood 5 = .ok (.if_icmp .ne 5, 3) := by decide +kernel
theorem d_X10_isGood_8 : decode cX10_isGood 8 = .ok (.iconst 0, 1) := by decide +kernel
theorem d_X10_isGood_9 : decode cX10_isGood 9 = .ok (.ireturn, 1) := by decide +kernel
theorem d_X10_isGood_10 : decode cX10_isGood 10 = .ok (.aload_n 0, 1) := by decide +kernel
theorem d_X10_isGood_11 : decode cX10_isGood 11 = .ok (.getfield 32, 3) := by decide +kernel
theorem d_X10_isGood_14 : decode cX10_isGood 14 = .ok (.ifCond .ne 7, 3) := by decide +kernel
theorem d_X10_isGood_17 : decode cX10_isGood 17 = .ok (.aload_n 0, 1) := by decide +kernel
theorem d_X10_isGood_18 : decode cX10_isGood 18 = .ok (.invokevirtual 236, 3) := by decide +kernel
theorem d_X10_isGood_21 : decode cX10_isGood 21 = .ok (.aload_n 0, 1) := by decide +kernel
theorem d_X10_isGood_22 : decode cX10_isGood 22 = .ok (.invokevirtual 142, 3) := by decide +kernel
theorem d_X10_isGood_25 : decode cX10_isGood 25 = .ok (.istore_n 1, 1) := by decide +kernel
theorem d_X10_isGood_26 : decode cX10_isGood 26 = .ok (.iconst 0, 1) := by decide +kernel
theorem d_X10_isGood_27 : decode cX10_isGood 27 = .ok (.istore_n 2, 1) := by decide +kernel
theorem d_X10_isGood_28 : decode cX10_isGood 28 = .ok (.iload_n 2, 1) := by decide +kernel
theorem d_X10_isGood_29 : decode cX10_isGood 29 = .ok (.aload_n 0, 1) := by decide +kernel
theorem d_X10_isGood_30 : decode cX10_isGood 30 = .ok (.getfield 25, 3) := by decide +kernel
theorem d_X10_isGood_33 : decode cX10_isGood 33 = .ok (.if_icmp .ge 99, 3) := by decide +kernel
theorem d_X10_isGood_36 : decode cX10_isGood 36 = .ok (.aload_n 0, 1) := by decide +kernel
theorem d_X10_isGood_37 : decode cX10_isGood 37 = .ok (.iload_n 2, 1) := by decide +kernel
theorem d_X10_isGood_38 : decode cX10_isGood 38 = .ok (.invokevirtual 248, 3) := by decide +kernel
theorem d_X10_isGood_41 : decode cX10_isGood 41 = .ok (.istore_n 3, 1) := by decide +kernel
theorem d_X10_isGood_42 : decode cX10_isGood 42 = .ok (.aload_n 0, 1) := by decide +kernel
theorem d_X10_isGood_43 : decode cX10_isGood 43 = .ok (.iload_n 2, 1) := by decide +kernel
theorem d_X10_isGood_44 : decode cX10_isGood 44 = .ok (.invokevirtual 104, 3) := by decide +kernel
theorem d_X10_isGood_47 : decode cX10_isGood 47 = .ok (.ifCond .eq 13, 3) := by decide +kernel
theorem d_X10_isGood_50 : decode cX10_isGood 50 = .ok (.aload_n 0, 1) := by decide +kernel
theorem d_X10_isGood_51 : decode cX10_isGood 51 = .ok (.iload_n 2, 1) := by decide +kernel
theorem d_X10_isGood_52 : decode cX10_isGood 52 = .ok (.invokevirtual 245, 3) := by decide +kernel
theorem d_X10_isGood_55 : decode cX10_isGood 55 = .ok (.ifCond .eq 5, 3) := by decide +kernel
theorem d_X10_isGood_58 : decode cX10_isGood 58 = .ok (.iconst 0, 1) := by decide +kernel
theorem d_X10_isGood_59 : decode cX10_isGood 59 = .ok (.ireturn, 1) := by decide +kernel
theorem d_X10_isGood_60 : decode cX10_isGood 60 = .ok (.iload_n 3, 1) := by decide +kernel
theorem d_X10_isGood_61 : decode cX10_isGood 61 = .ok (.ifCond .ne 14, 3) := by decide +kernel
theorem d_X10_isGood_64 : decode cX10_isGood 64 = .ok (.aload_n 0, 1) := by decide +kernel
theorem d_X10_isGood_65 : decode cX10_isGood 65 = .ok (.iload_n 2, 1) := by decide +kernel
theorem d_X10_isGood_66 : decode cX10_isGood 66 = .ok (.invokevirtual 104, 3) := by decide +kernel
theorem d_X10_isGood_69 : decode cX10_isGood 69 = .ok (.ifCond .ne 6, 3) := by decide +kernel
theorem d_X10_isGood_72 : decode cX10_isGood 72 = .ok (.goto 54, 3) := by decide +kernel
theorem d_X10_isGood_75 : decode cX10_isGood 75 = .ok (.aload_n 0, 1) := by decide +kernel
theorem d_X10_isGood_76 : decode cX10_isGood 76 = .ok (.getfield 32, 3) := by decide +kernel
theorem d_X10_isGood_79 : decode cX10_isGood 79 = .ok (.ifCond .ne 9, 3) := by decide +kernel
theorem d_X10_isGood_82 : decode cX10_isGood 82 = .ok (.aload_n 0, 1) := by decide +kernel
theorem d_X10_isGood_83 : decode cX10_isGood 83 = .ok (.iload_n 2, 1) := by decide +kernel
theorem d_X10_isGood_84 : decode cX10_isGood 84 = .ok (.iload_n 1, 1) := by decide +kernel
theorem d_X10_isGood_85 : decode cX10_isGood 85 = .ok (.invokevirtual 239, 3) := by decide +kernel
theorem d_X10_isGood_88 : decode cX10_isGood 88 = .ok (.aload_n 0, 1) := by decide +kernel
theorem d_X10_isGood_89 : decode cX10_isGood 89 = .ok (.getfield 32, 3) := by decide +kernel
theorem d_X10_isGood_92 : decode cX10_isGood 92 = .ok (.ifCond .eq 20, 3) := by decide +kernel
theorem d_X10_isGood_95 : decode cX10_isGood 95 = .ok (.aload_n 0, 1) := by decide +kernel
theorem d_X10_isGood_96 : decode cX10_isGood 96 = .ok (.getfield 73, 3) := by decide +kernel
theorem d_X10_isGood_99 : decode cX10_isGood 99 = .ok (.iload_n 2, 1) := by decide +kernel
theorem d_X10_isGood_100 : decode cX10_isGood 100 = .ok (.iaload, 1) := by decide +kernel
theorem d_X10_isGood_101 : decode cX10_isGood 101 = .ok (.ifCond .ne 7, 3) := by decide +kernel
theorem d_X10_isGood_104 : decode cX10_isGood 104 = .ok (.iconst 1, 1) := by decide +kernel
theorem d_X10_isGood_105 : decode cX10_isGood 105 = .ok (.goto 11, 3) := by decide +kernel
theorem d_X10_isGood_108 : decode cX10_isGood 108 = .ok (.iconst 0, 1) := by decide +kernel
theorem d_X10_isGood_109 : decode cX10_isGood 109 = .ok (.goto 7, 3) := by decide +kernel
theorem d_X10_isGood_112 : decode cX10_isGood 112 = .ok (.aload_n 0, 1) := by decide +kernel
theorem d_X10_isGood_113 : decode cX10_isGood 113 = .ok (.invokevirtual 227, 3) := by decide +kernel
theorem d_X10_isGood_116 : decode cX10_isGood 116 = .ok (.istore 4, 2) := by decide +kernel
theorem d_X10_isGood_118 : decode cX10_isGood 118 = .ok (.iload 4, 2) := by decide +kernel
theorem d_X10_isGood_120 : decode cX10_isGood 120 = .ok (.iload_n 3, 1) := by decide +kernel
theorem d_X10_isGood_121 : decode cX10_isGood 121 = .ok (.if_icmp .eq 5, 3) := by decide +kernel
theorem d_X10_isGood_124 : decode cX10_isGood 124 = .ok (.iconst 0, 1) := by decide +kernel
theorem d_X10_isGood_125 : decode cX10_isGood 125 = .ok (.ireturn, 1) := by decide +kernel
theorem d_X10_isGood_126 : decode cX10_isGood 126 = .ok (.iinc 2 1, 3) := by decide +kernel
theorem d_X10_isGood_129 : decode cX10_isGood 129 = .ok (.goto (-101), 3) := by decide +kernel
theorem d_X10_isGood_132 : decode cX10_isGood 132 = .ok (.iconst 1, 1) := by decide +kernel
theorem d_X10_isGood_133 : decode cX10_isGood 133 = .ok (.ireturn, 1) := by decide +kernel
theorem d_X10_matters_0 : decode cX10_matters 0 = .ok (.iconst 0, 1) := by decide +kernel
theorem d_X10_matters_1 : decode cX10_matters 1 = .ok (.istore 4, 2) := by decide +kernel
theorem d_X10_matters_3 : decode cX10_matters 3 = .ok (.iload 4, 2) := by decide +kernel
theorem d_X10_matters_5 : decode cX10_matters 5 = .ok (.aload_n 0, 1) := by decide +kernel
theorem d_X10_matters_6 : decode cX10_matters 6 = .ok (.invokevirtual 11, 3) := by decide +kernel
theorem d_X10_matters_9 : decode cX10_matters 9 = .ok (.if_icmp .ge 38, 3) := by decide +kernel
theorem d_X10_matters_12 : decode cX10_matters 12 = .ok (.aload_n 0, 1) := by decide +kernel
theorem d_X10_matters_13 : decode cX10_matters 13 = .ok (.getfield 76, 3) := by decide +kernel
theorem d_X10_matters_16 : decode cX10_matters 16 = .ok (.iconst 5, 1) := by decide +kernel
theorem d_X10_matters_17 : decode cX10_matters 17 = .ok (.aload_n 0, 1) := by decide +kernel
theorem d_X10_matters_18 : decode cX10_matters 18 = .ok (.getfield 260, 3) := by decide +kernel
theorem d_X10_matters_21 : decode cX10_matters 21 = .ok (.imul, 1) := by decide +kernel
theorem d_X10_matters_22 : decode cX10_matters 22 = .ok (.iload 4, 2) := by decide +kernel
theorem d_X10_matters_24 : decode cX10_matters 24 = .ok (.iadd, 1) := by decide +kernel
theorem d_X10_matters_25 : decode cX10_matters 25 = .ok (.aload_n 0, 1) := by decide +kernel
theorem d_X10_matters_26 : decode cX10_matters 26 = .ok (.iload_n 1, 1) := by decide +kernel
theorem d_X10_matters_27 : decode cX10_matters 27 = .ok (.iload 4, 2) := by decide +kernel
theorem d_X10_matters_29 : decode cX10_matters 29 = .ok (.invokevirtual 108, 3) := by decide +kernel
theorem d_X10_matters_32 : decode cX10_matters 32 = .ok (.aload_n 0, 1) := by decide +kernel
theorem d_X10_matters_33 : decode cX10_matters 33 = .ok (.iload_n 2, 1) := by decide +kernel
theorem d_X10_matters_34 : decode cX10_matters 34 = .ok (.iload 4, 2) := by decide +kernel
theorem d_X10_matters_36 : decode cX10_matters 36 = .ok (.invokevirtual 108, 3) := by decide +kernel
theorem d_X10_matters_39 : decode cX10_matters 39 = .ok (.isub, 1) := by decide +kernel
theorem d_X10_matters_40 : decode cX10_matters 40 = .ok (.iastore, 1) := by decide +kernel
theorem d_X10_matters_41 : decode cX10_matters 41 = .ok (.iinc 4 1, 3) := by decide +kernel
theorem d_X10_matters_44 : decode cX10_matters 44 = .ok (.goto (-41), 3) := by decide +kernel
theorem d_X10_matters_47 : decode cX10_matters 47 = .ok (.aload_n 0, 1) := by decide +kernel
theorem d_X10_matters_48 : decode cX10_matters 48 = .ok (.getfield 79, 3) := by decide +kernel
theorem d_X10_matters_51 : decode cX10_matters 51 = .ok (.aload_n 0, 1) := by decide +kernel
theorem d_X10_matters_52 : decode cX10_matters 52 = .ok (.getfield 260, 3) := by decide +kernel
theorem d_X10_matters_55 : decode cX10_matters 55 = .ok (.iload_n 3, 1) := by decide +kernel
theorem d_X10_matters_56 : decode cX10_matters 56 = .ok (.bastore, 1) := by decide +kernel
theorem d_X10_matters_57 : decode cX10_matters 57 = .ok (.aload_n 0, 1) := by decide +kernel
theorem d_X10_matters_58 : decode cX10_matters 58 = .ok (.aload_n 0, 1) := by decide +kernel
theorem d_X10_matters_59 : decode cX10_matters 59 = .ok (.getfield 260, 3) := by decide +kernel
theorem d_X10_matters_62 : decode cX10_matters 62 = .ok (.iconst 1, 1) := by decide +kernel
theorem d_X10_matters_63 : decode cX10_matters 63 = .ok (.iadd, 1) := by decide +kernel
theorem d_X10_matters_64 : decode cX10_matters 64 = .ok (.putfield 260, 3) := by decide +kernel
theorem d_X10_matters_67 : decode cX10_matters 67 = .ok (.return_, 1) := by decide +kernel
theorem d_X10_laysMattering_0 : decode cX10_laysMattering 0 = .ok (.aload_n 0, 1) := by decide +kernel
theorem d_X10_laysMattering_1 : decode cX10_laysMattering 1 = .ok (.invokevirtual 213, 3) := by decide +kernel
theorem d_X10_laysMattering_4 : decode cX10_laysMattering 4 = .ok (.istore_n 1, 1) := by decide +kernel
theorem d_X10_laysMattering_5 : decode cX10_laysMattering 5 = .ok (.aload_n 0, 1) := by decide +kernel
theorem d_X10_laysMattering_6 : decode cX10_laysMattering 6 = .ok (.iconst 0, 1) := by decide +kernel
theorem d_X10_laysMattering_7 : decode cX10_laysMattering 7 = .ok (.putfield 260, 3) := by decide +kernel
theorem d_X10_laysMattering_10 : decode cX10_laysMattering 10 = .ok (.iload_n 1, 1) := by decide +kernel
theorem d_X10_laysMattering_11 : decode cX10_laysMattering 11 = .ok (.iconst (-1), 1) := by decide +kernel
theorem d_X10_laysMattering_12 : decode cX10_laysMattering 12 = .ok (.if_icmp .ne 5, 3) := by decide +kernel
theorem d_X10_laysMattering_15 : decode cX10_laysMattering 15 = .ok (.iconst 0, 1) := by decide +kernel
theorem d_X10_laysMattering_16 : decode cX10_laysMattering 16 = .ok (.ireturn, 1) := by decide +kernel
theorem d_X10_laysMattering_17 : decode cX10_laysMattering 17 = .ok (.iconst 0, 1) := by decide +kernel
theorem d_X10_laysMattering_18 : decode cX10_laysMattering 18 = .ok (.istore_n 2, 1) := by decide +kernel
theorem d_X10_laysMattering_19 : decode cX10_laysMattering 19 = .ok (.iload_n 2, 1) := by decide +kernel
theorem d_X10_laysMattering_20 : decode cX10_laysMattering 20 = .ok (.aload_n 0, 1) := by decide +kernel
theorem d_X10_laysMattering_21 : decode cX10_laysMattering 21 = .ok (.getfield 25, 3) := by decide +kernel
theorem d_X10_laysMattering_24 : decode cX10_laysMattering 24 = .ok (.if_icmp .ge 24, 3) := by decide +kernel
theorem d_X10_laysMattering_27 : decode cX10_laysMattering 27 = .ok (.aload_n 0, 1) := by decide +kernel
theorem d_X10_laysMattering_28 : decode cX10_laysMattering 28 = .ok (.iload_n 2, 1) := by decide +kernel
theorem d_X10_laysMattering_29 : decode cX10_laysMattering 29 = .ok (.invokevirtual 248, 3) := by decide +kernel
theorem d_X10_laysMattering_32 : decode cX10_laysMattering 32 = .ok (.ifCond .eq 10, 3) := by decide +kernel
theorem d_X10_laysMattering_35 : decode cX10_laysMattering 35 = .ok (.aload_n 0, 1) := by decide +kernel
theorem d_X10_laysMattering_36 : decode cX10_laysMattering 36 = .ok (.iload_n 2, 1) := by decide +kernel
theorem d_X10_laysMattering_37 : decode cX10_laysMattering 37 = .ok (.iload_n 1, 1) := by decide +kernel
theorem d_X10_laysMattering_38 : decode cX10_laysMattering 38 = .ok (.iconst 0, 1) := by decide +kernel
theorem d_X10_laysMattering_39 : decode cX10_laysMattering 39 = .ok (.invokevirtual 263, 3) := by decide +kernel
theorem d_X10_laysMattering_42 : decode cX10_laysMattering 42 = .ok (.iinc 2 1, 3) := by decide +kernel
theorem d_X10_laysMattering_45 : decode cX10_laysMattering 45 = .ok (.goto (-26), 3) := by decide +kernel
theorem d_X10_laysMattering_48 : decode cX10_laysMattering 48 = .ok (.iconst 0, 1) := by decide +kernel
theorem d_X10_laysMattering_49 : decode cX10_laysMattering 49 = .ok (.istore_n 2, 1) := by decide +kernel
theorem d_X10_laysMattering_50 : decode cX10_laysMattering 50 = .ok (.iload_n 2, 1) := by decide +kernel
theorem d_X10_laysMattering_51 : decode cX10_laysMattering 51 = .ok (.aload_n 0, 1) := by decide +kernel
theorem d_X10_laysMattering_52 : decode cX10_laysMattering 52 = .ok (.getfield 25, 3) := by decide +kernel
theorem d_X10_laysMattering_55 : decode cX10_laysMattering 55 = .ok (.if_icmp .ge 37, 3) := by decide +kernel
theorem d_X10_laysMattering_58 : decode cX10_laysMattering 58 = .ok (.aload_n 0, 1) := by decide +kernel
theorem d_X10_laysMattering_59 : decode cX10_laysMattering 59 = .ok (.iload_n 2, 1) := by decide +kernel
theorem d_X10_laysMattering_60 : decode cX10_laysMattering 60 = .ok (.invokevirtual 104, 3) := by decide +kernel
theorem d_X10_laysMattering_63 : decode cX10_laysMattering 63 = .ok (.ifCond .ne 6, 3) := by decide +kernel
theorem d_X10_laysMattering_66 : decode cX10_laysMattering 66 = .ok (.goto 20, 3) := by decide +kernel
theorem d_X10_laysMattering_69 : decode cX10_laysMattering 69 = .ok (.aload_n 0, 1) := by decide +kernel
theorem d_X10_laysMattering_70 : decode cX10_laysMattering 70 = .ok (.iload_n 2, 1) := by decide +kernel
theorem d_X10_laysMattering_71 : decode cX10_laysMattering 71 = .ok (.invokevirtual 245, 3) := by decide +kernel
theorem d_X10_laysMattering_74 : decode cX10_laysMattering 74 = .ok (.ifCond .eq 5, 3) := by decide +kernel
theorem d_X10_laysMattering_77 : decode cX10_laysMattering 77 = .ok (.iconst 0, 1) := by decide +kernel
theorem d_X10_laysMattering_78 : decode cX10_laysMattering 78 = .ok (.ireturn, 1) := by decide +kernel
theorem d_X10_laysMattering_79 : decode cX10_laysMattering 79 = .ok (.aload_n 0, 1) := by decide +kernel
theorem d_X10_laysMattering_80 : decode cX10_laysMattering 80 = .ok (.iload_n 2, 1) := by decide +kernel
theorem d_X10_laysMattering_81 : decode cX10_laysMattering 81 = .ok (.iload_n 1, 1) := by decide +kernel
theorem d_X10_laysMattering_82 : decode cX10_laysMattering 82 = .ok (.iconst 1, 1) := by decide +kernel
theorem d_X10_laysMattering_83 : decode cX10_laysMattering 83 = .ok (.invokevirtual 263, 3) := by decide +kernel
theorem d_X10_laysMattering_86 : decode cX10_laysMattering 86 = .ok (.iinc 2 1, 3) := by decide +kernel
theorem d_X10_laysMattering_89 : decode cX10_laysMattering 89 = .ok (.goto (-39), 3) := by decide +kernel
theorem d_X10_laysMattering_92 : decode cX10_laysMattering 92 = .ok (.iconst 1, 1) := by decide +kernel
theorem d_X10_laysMattering_93 : decode cX10_laysMattering 93 = .ok (.ireturn, 1) := by decide +kernel
theorem d_X10_isLeftBySteps_0 : decode cX10_isLeftBySteps 0 = .ok (.iconst 0, 1) := by decide +kernel
theorem d_X10_isLeftBySteps_1 : decode cX10_isLeftBySteps 1 = .ok (.istore_n 2, 1) := by decide +kernel
theorem d_X10_isLeftBySteps_2 : decode cX10_isLeftBySteps 2 = .ok (.iload_n 2, 1) := by decide +kernel
theorem d_X10_isLeftBySteps_3 : decode cX10_isLeftBySteps 3 = .ok (.aload_n 0, 1) := by decide +kernel
theorem d_X10_isLeftBySteps_4 : decode cX10_isLeftBySteps 4 = .ok (.invokevirtual 11, 3) := by decide +kernel
theorem d_X10_isLeftBySteps_7 : decode cX10_isLeftBySteps 7 = .ok (.if_icmp .ge 31, 3) := by decide +kernel
theorem d_X10_isLeftBySteps_10 : decode cX10_isLeftBySteps 10 = .ok (.aload_n 0, 1) := by decide +kernel
theorem d_X10_isLeftBySteps_11 : decode cX10_isLeftBySteps 11 = .ok (.getfield 76, 3) := by decide +kernel
theorem d_X10_isLeftBySteps_14 : decode cX10_isLeftBySteps 14 = .ok (.iconst 5, 1) := by decide +kernel
theorem d_X10_isLeftBySteps_15 : decode cX10_isLeftBySteps 15 = .ok (.iload_n 1, 1) := by decide +kernel
theorem d_X10_isLeftBySteps_16 : decode cX10_isLeftBySteps 16 = .ok (.imul, 1) := by decide +kernel
theorem d_X10_isLeftBySteps_17 : decode cX10_isLeftBySteps 17 = .ok (.iload_n 2, 1) := by decide +kernel
theorem d_X10_isLeftBySteps_18 : decode cX10_isLeftBySteps 18 = .ok (.iadd, 1) := by decide +kernel
theorem d_X10_isLeftBySteps_19 : decode cX10_isLeftBySteps 19 = .ok (.iaload, 1) := by decide +kernel
theorem d_X10_isLeftBySteps_20 : decode cX10_isLeftBySteps 20 = .ok (.aload_n 0, 1) := by decide +kernel
theorem d_X10_isLeftBySteps_21 : decode cX10_isLeftBySteps 21 = .ok (.getfield 83, 3) := by decide +kernel
theorem d_X10_isLeftBySteps_24 : decode cX10_isLeftBySteps 24 = .ok (.iload_n 2, 1) := by decide +kernel
theorem d_X10_isLeftBySteps_25 : decode cX10_isLeftBySteps 25 = .ok (.iaload, 1) := by decide +kernel
theorem d_X10_isLeftBySteps_26 : decode cX10_isLeftBySteps 26 = .ok (.irem, 1) := by decide +kernel
theorem d_X10_isLeftBySteps_27 : decode cX10_isLeftBySteps 27 = .ok (.ifCond .eq 5, 3) := by decide +kernel
theorem d_X10_isLeftBySteps_30 : decode cX10_isLeftBySteps 30 = .ok (.iconst 0, 1) := by decide +kernel
theorem d_X10_isLeftBySteps_31 : decode cX10_isLeftBySteps 31 = .ok (.ireturn, 1) := by decide +kernel
theorem d_X10_isLeftBySteps_32 : decode cX10_isLeftBySteps 32 = .ok (.iinc 2 1, 3) := by decide +kernel
theorem d_X10_isLeftBySteps_35 : decode cX10_isLeftBySteps 35 = .ok (.goto (-33), 3) := by decide +kernel
theorem d_X10_isLeftBySteps_38 : decode cX10_isLeftBySteps 38 = .ok (.iconst 1, 1) := by decide +kernel
theorem d_X10_isLeftBySteps_39 : decode cX10_isLeftBySteps 39 = .ok (.ireturn, 1) := by decide +kernel
theorem d_X10_isLeftByCogs_0 : decode cX10_isLeftByCogs 0 = .ok (.iconst 0, 1) := by decide +kernel
theorem d_X10_isLeftByCogs_1 : decode cX10_isLeftByCogs 1 = .ok (.istore_n 3, 1) := by decide +kernel
theorem d_X10_isLeftByCogs_2 : decode cX10_isLeftByCogs 2 = .ok (.iconst 0, 1) := by decide +kernel
theorem d_X10_isLeftByCogs_3 : decode cX10_isLeftByCogs 3 = .ok (.istore 4, 2) := by decide +kernel
theorem d_X10_isLeftByCogs_5 : decode cX10_isLeftByCogs 5 = .ok (.iload 4, 2) := by decide +kernel
theorem d_X10_isLeftByCogs_7 : decode cX10_isLeftByCogs 7 = .ok (.aload_n 0, 1) := by decide +kernel
theorem d_X10_isLeftByCogs_8 : decode cX10_isLeftByCogs 8 = .ok (.invokevirtual 11, 3) := by decide +kernel
theorem d_X10_isLeftByCogs_11 : decode cX10_isLeftByCogs 11 = .ok (.if_icmp .ge 31, 3) := by decide +kernel
theorem d_X10_isLeftByCogs_14 : decode cX10_isLeftByCogs 14 = .ok (.iload_n 3, 1) := by decide +kernel
theorem d_X10_isLeftByCogs_15 : decode cX10_isLeftByCogs 15 = .ok (.aload_n 0, 1) := by decide +kernel
theorem d_X10_isLeftByCogs_16 : decode cX10_isLeftByCogs 16 = .ok (.getfield 76, 3) := by decide +kernel
theorem d_X10_isLeftByCogs_19 : decode cX10_isLeftByCogs 19 = .ok (.iconst 5, 1) := by decide +kernel
theorem d_X10_isLeftByCogs_20 : decode cX10_isLeftByCogs 20 = .ok (.iload_n 1, 1) := by decide +kernel
theorem d_X10_isLeftByCogs_21 : decode cX10_isLeftByCogs 21 = .ok (.imul, 1) := by decide +kernel
theorem d_X10_isLeftByCogs_22 : decode cX10_isLeftByCogs 22 = .ok (.iload 4, 2) := by decide +kernel
theorem d_X10_isLeftByCogs_24 : decode cX10_isLeftByCogs 24 = .ok (.iadd, 1) := by decide +kernel
theorem d_X10_isLeftByCogs_25 : decode cX10_isLeftByCogs 25 = .ok (.iaload, 1) := by decide +kernel
theorem d_X10_isLeftByCogs_26 : decode cX10_isLeftByCogs 26 = .ok (.aload_n 0, 1) := by decide +kernel
theorem d_X10_isLeftByCogs_27 : decode cX10_isLeftByCogs 27 = .ok (.getfield 83, 3) := by decide +kernel
theorem d_X10_isLeftByCogs_30 : decode cX10_isLeftByCogs 30 = .ok (.iload 4, 2) := by decide +kernel
theorem d_X10_isLeftByCogs_32 : decode cX10_isLeftByCogs 32 = .ok (.iaload, 1) := by decide +kernel
theorem d_X10_isLeftByCogs_33 : decode cX10_isLeftByCogs 33 = .ok (.imul, 1) := by decide +kernel
theorem d_X10_isLeftByCogs_34 : decode cX10_isLeftByCogs 34 = .ok (.iadd, 1) := by decide +kernel
theorem d_X10_isLeftByCogs_35 : decode cX10_isLeftByCogs 35 = .ok (.istore_n 3, 1) := by decide +kernel
theorem d_X10_isLeftByCogs_36 : decode cX10_isLeftByCogs 36 = .ok (.iinc 4 1, 3) := by decide +kernel
theorem d_X10_isLeftByCogs_39 : decode cX10_isLeftByCogs 39 = .ok (.goto (-34), 3) := by decide +kernel
theorem d_X10_isLeftByCogs_42 : decode cX10_isLeftByCogs 42 = .ok (.iload_n 3, 1) := by decide +kernel
theorem d_X10_isLeftByCogs_43 : decode cX10_isLeftByCogs 43 = .ok (.iload_n 2, 1) := by decide +kernel
theorem d_X10_isLeftByCogs_44 : decode cX10_isLeftByCogs 44 = .ok (.irem, 1) := by decide +kernel
theorem d_X10_isLeftByCogs_45 : decode cX10_isLeftByCogs 45 = .ok (.ifCond .ne 7, 3) := by decide +kernel
theorem d_X10_isLeftByCogs_48 : decode cX10_isLeftByCogs 48 = .ok (.iconst 1, 1) := by decide +kernel
theorem d_X10_isLeftByCogs_49 : decode cX10_isLeftByCogs 49 = .ok (.goto 4, 3) := by decide +kernel
theorem d_X10_isLeftByCogs_52 : decode cX10_isLeftByCogs 52 = .ok (.iconst 0, 1) := by decide +kernel
theorem d_X10_isLeftByCogs_53 : decode cX10_isLeftByCogs 53 = .ok (.ireturn, 1) := by decide +kernel
theorem d_X10_doSteps_0 : decode cX10_doSteps 0 = .ok (.iconst 0, 1) := by decide +kernel
theorem d_X10_doSteps_1 : decode cX10_doSteps 1 = .ok (.istore_n 1, 1) := by decide +kernel
theorem d_X10_doSteps_2 : decode cX10_doSteps 2 = .ok (.iload_n 1, 1) := by decide +kernel
theorem d_X10_doSteps_3 : decode cX10_doSteps 3 = .ok (.aload_n 0, 1) := by decide +kernel
theorem d_X10_doSteps_4 : decode cX10_doSteps 4 = .ok (.getfield 260, 3) := by decide +kernel
theorem d_X10_doSteps_7 : decode cX10_doSteps 7 = .ok (.if_icmp .ge 25, 3) := by decide +kernel
theorem d_X10_doSteps_10 : decode cX10_doSteps 10 = .ok (.aload_n 0, 1) := by decide +kernel
theorem d_X10_doSteps_11 : decode cX10_doSteps 11 = .ok (.iload_n 1, 1) := by decide +kernel
theorem d_X10_doSteps_12 : decode cX10_doSteps 12 = .ok (.invokevirtual 267, 3) := by decide +kernel
theorem d_X10_doSteps_15 : decode cX10_doSteps 15 = .ok (.aload_n 0, 1) := by decide +kernel
theorem d_X10_doSteps_16 : decode cX10_doSteps 16 = .ok (.getfield 79, 3) := by decide +kernel
theorem d_X10_doSteps_19 : decode cX10_doSteps 19 = .ok (.iload_n 1, 1) := by decide +kernel
theorem d_X10_doSteps_20 : decode cX10_doSteps 20 = .ok (.baload, 1) := by decide +kernel
theorem d_X10_doSteps_21 : decode cX10_doSteps 21 = .ok (.if_icmp .eq 5, 3) := by decide +kernel
theorem d_X10_doSteps_24 : decode cX10_doSteps 24 = .ok (.iconst 0, 1) := by decide +kernel
theorem d_X10_doSteps_25 : decode cX10_doSteps 25 = .ok (.ireturn, 1) := by decide +kernel
theorem d_X10_doSteps_26 : decode cX10_doSteps 26 = .ok (.iinc 1 1, 3) := by decide +kernel
theorem d_X10_doSteps_29 : decode cX10_doSteps 29 = .ok (.goto (-27), 3) := by decide +kernel
theorem d_X10_doSteps_32 : decode cX10_doSteps 32 = .ok (.iconst 1, 1) := by decide +kernel
theorem d_X10_doSteps_33 : decode cX10_doSteps 33 = .ok (.ireturn, 1) := by decide +kernel
theorem d_X10_doCogs_0 : decode cX10_doCogs 0 = .ok (.iconst 0, 1) := by decide +kernel
theorem d_X10_doCogs_1 : decode cX10_doCogs 1 = .ok (.istore_n 2, 1) := by decide +kernel
theorem d_X10_doCogs_2 : decode cX10_doCogs 2 = .ok (.iload_n 2, 1) := by decide +kernel
theorem d_X10_doCogs_3 : decode cX10_doCogs 3 = .ok (.aload_n 0, 1) := by decide +kernel
theorem d_X10_doCogs_4 : decode cX10_doCogs 4 = .ok (.getfield 260, 3) := by decide +kernel
theorem d_X10_doCogs_7 : decode cX10_doCogs 7 = .ok (.if_icmp .ge 26, 3) := by decide +kernel
theorem d_X10_doCogs_10 : decode cX10_doCogs 10 = .ok (.aload_n 0, 1) := by decide +kernel
theorem d_X10_doCogs_11 : decode cX10_doCogs 11 = .ok (.iload_n 2, 1) := by decide +kernel
theorem d_X10_doCogs_12 : decode cX10_doCogs 12 = .ok (.iload_n 1, 1) := by decide +kernel
theorem d_X10_doCogs_13 : decode cX10_doCogs 13 = .ok (.invokevirtual 270, 3) := by decide +kernel
theorem d_X10_doCogs_16 : decode cX10_doCogs 16 = .ok (.aload_n 0, 1) := by decide +kernel
theorem d_X10_doCogs_17 : decode cX10_doCogs 17 = .ok (.getfield 79, 3) := by decide +kernel
theorem d_X10_doCogs_20 : decode cX10_doCogs 20 = .ok (.iload_n 2, 1) := by decide +kernel
theorem d_X10_doCogs_21 : decode cX10_doCogs 21 = .ok (.baload, 1) := by decide +kernel
theorem d_X10_doCogs_22 : decode cX10_doCogs 22 = .ok (.if_icmp .eq 5, 3) := by decide +kernel
theorem d_X10_doCogs_25 : decode cX10_doCogs 25 = .ok (.iconst 0, 1) := by decide +kernel
theorem d_X10_doCogs_26 : decode cX10_doCogs 26 = .ok (.ireturn, 1) := by decide +kernel
theorem d_X10_doCogs_27 : decode cX10_doCogs 27 = .ok (.iinc 2 1, 3) := by decide +kernel
theorem d_X10_doCogs_30 : decode cX10_doCogs 30 = .ok (.goto (-28), 3) := by decide +kernel
theorem d_X10_doCogs_33 : decode cX10_doCogs 33 = .ok (.iconst 1, 1) := by decide +kernel
theorem d_X10_doCogs_34 : decode cX10_doCogs 34 = .ok (.ireturn, 1) := by decide +kernel
theorem d_X10_product_0 : decode cX10_product 0 = .ok (.iconst 1, 1) := by decide +kernel
theorem d_X10_product_1 : decode cX10_product 1 = .ok (.istore_n 1, 1) := by decide +kernel
theorem d_X10_product_2 : decode cX10_product 2 = .ok (.iconst 0, 1) := by decide +kernel
theorem d_X10_product_3 : decode cX10_product 3 = .ok (.istore_n 2, 1) := by decide +kernel
theorem d_X10_product_4 : decode cX10_product 4 = .ok (.iload_n 2, 1) := by decide +kernel
theorem d_X10_product_5 : decode cX10_product 5 = .ok (.aload_n 0, 1) := by decide +kernel
theorem d_X10_product_6 : decode cX10_product 6 = .ok (.invokevirtual 11, 3) := by decide +kernel
theorem d_X10_product_9 : decode cX10_product 9 = .ok (.if_icmp .ge 18, 3) := by decide +kernel
theorem d_X10_product_12 : decode cX10_product 12 = .ok (.iload_n 1, 1) := by decide +kernel
theorem d_X10_product_13 : decode cX10_product 13 = .ok (.aload_n 0, 1) := by decide +kernel
theorem d_X10_product_14 : decode cX10_product 14 = .ok (.getfield 83, 3) := by decide +kernel
theorem d_X10_product_17 : decode cX10_product 17 = .ok (.iload_n 2, 1) := by decide +kernel
theorem d_X10_product_18 : decode cX10_product 18 = .ok (.iaload, 1) := by decide +kernel
theorem d_X10_product_19 : decode cX10_product 19 = .ok (.imul, 1) := by decide +kernel
theorem d_X10_product_20 : decode cX10_product 20 = .ok (.istore_n 1, 1) := by decide +kernel
theorem d_X10_product_21 : decode cX10_product 21 = .ok (.iinc 2 1, 3) := by decide +kernel
theorem d_X10_product_24 : decode cX10_product 24 = .ok (.goto (-20), 3) := by decide +kernel
theorem d_X10_product_27 : decode cX10_product 27 = .ok (.iload_n 1, 1) := by decide +kernel
theorem d_X10_product_28 : decode cX10_product 28 = .ok (.ireturn, 1) := by decide +kernel
theorem d_X10_goesOn_0 : decode cX10_goesOn 0 = .ok (.aload_n 0, 1) := by decide +kernel
theorem d_X10_goesOn_1 : decode cX10_goesOn 1 = .ok (.invokevirtual 11, 3) := by decide +kernel
theorem d_X10_goesOn_4 : decode cX10_goesOn 4 = .ok (.iconst 1, 1) := by decide +kernel
theorem d_X10_goesOn_5 : decode cX10_goesOn 5 = .ok (.isub, 1) := by decide +kernel
theorem d_X10_goesOn_6 : decode cX10_goesOn 6 = .ok (.istore_n 3, 1) := by decide +kernel
theorem d_X10_goesOn_7 : decode cX10_goesOn 7 = .ok (.iload_n 3, 1) := by decide +kernel
theorem d_X10_goesOn_8 : decode cX10_goesOn 8 = .ok (.ifCond .lt 46, 3) := by decide +kernel
theorem d_X10_goesOn_11 : decode cX10_goesOn 11 = .ok (.aload_n 0, 1) := by decide +kernel
theorem d_X10_goesOn_12 : decode cX10_goesOn 12 = .ok (.getfield 83, 3) := by decide +kernel
theorem d_X10_goesOn_15 : decode cX10_goesOn 15 = .ok (.iload_n 3, 1) := by decide +kernel
theorem d_X10_goesOn_16 : decode cX10_goesOn 16 = .ok (.aload_n 0, 1) := by decide +kernel
theorem d_X10_goesOn_17 : decode cX10_goesOn 17 = .ok (.aload_n 0, 1) := by decide +kernel
theorem d_X10_goesOn_18 : decode cX10_goesOn 18 = .ok (.getfield 83, 3) := by decide +kernel
theorem d_X10_goesOn_21 : decode cX10_goesOn 21 = .ok (.iload_n 3, 1) := by decide +kernel
theorem d_X10_goesOn_22 : decode cX10_goesOn 22 = .ok (.iaload, 1) := by decide +kernel
theorem d_X10_goesOn_23 : decode cX10_goesOn 23 = .ok (.iload_n 1, 1) := by decide +kernel
theorem d_X10_goesOn_24 : decode cX10_goesOn 24 = .ok (.iload_n 2, 1) := by decide +kernel
theorem d_X10_goesOn_25 : decode cX10_goesOn 25 = .ok (.invokevirtual 273, 3) := by decide +kernel
theorem d_X10_goesOn_28 : decode cX10_goesOn 28 = .ok (.iastore, 1) := by decide +kernel
theorem d_X10_goesOn_29 : decode cX10_goesOn 29 = .ok (.aload_n 0, 1) := by decide +kernel
theorem d_X10_goesOn_30 : decode cX10_goesOn 30 = .ok (.getfield 83, 3) := by decide +kernel
theorem d_X10_goesOn_33 : decode cX10_goesOn 33 = .ok (.iload_n 3, 1) := by decide +kernel
theorem d_X10_goesOn_34 : decode cX10_goesOn 34 = .ok (.iaload, 1) := by decide +kernel
theorem d_X10_goesOn_35 : decode cX10_goesOn 35 = .ok (.iload_n 2, 1) := by decide +kernel
theorem d_X10_goesOn_36 : decode cX10_goesOn 36 = .ok (.if_icmp .gt 5, 3) := by decide +kernel
theorem d_X10_goesOn_39 : decode cX10_goesOn 39 = .ok (.iconst 1, 1) := by decide +kernel
theorem d_X10_goesOn_40 : decode cX10_goesOn 40 = .ok (.ireturn, 1) := by decide +kernel
theorem d_X10_goesOn_41 : decode cX10_goesOn 41 = .ok (.aload_n 0, 1) := by decide +kernel
theorem d_X10_goesOn_42 : decode cX10_goesOn 42 = .ok (.getfield 83, 3) := by decide +kernel
theorem d_X10_goesOn_45 : decode cX10_goesOn 45 = .ok (.iload_n 3, 1) := by decide +kernel
theorem d_X10_goesOn_46 : decode cX10_goesOn 46 = .ok (.iload_n 1, 1) := by decide +kernel
theorem d_X10_goesOn_47 : decode cX10_goesOn 47 = .ok (.iastore, 1) := by decide +kernel
theorem d_X10_goesOn_48 : decode cX10_goesOn 48 = .ok (.iinc 3 (-1), 3) := by decide +kernel
theorem d_X10_goesOn_51 : decode cX10_goesOn 51 = .ok (.goto (-44), 3) := by decide +kernel
theorem d_X10_goesOn_54 : decode cX10_goesOn 54 = .ok (.iconst 0, 1) := by decide +kernel
theorem d_X10_goesOn_55 : decode cX10_goesOn 55 = .ok (.ireturn, 1) := by decide +kernel
theorem d_X10_nextNumber_0 : decode cX10_nextNumber 0 = .ok (.iload_n 1, 1) := by decide +kernel
theorem d_X10_nextNumber_1 : decode cX10_nextNumber 1 = .ok (.iconst 1, 1) := by decide +kernel
theorem d_X10_nextNumber_2 : decode cX10_nextNumber 2 = .ok (.iadd, 1) := by decide +kernel
theorem d_X10_nextNumber_3 : decode cX10_nextNumber 3 = .ok (.istore 4, 2) := by decide +kernel
theorem d_X10_nextNumber_5 : decode cX10_nextNumber 5 = .ok (.iload_n 2, 1) := by decide +kernel
theorem d_X10_nextNumber_6 : decode cX10_nextNumber 6 = .ok (.iconst 1, 1) := by decide +kernel
theorem d_X10_nextNumber_7 : decode cX10_nextNumber 7 = .ok (.if_icmp .ne 28, 3) := by decide +kernel
theorem d_X10_nextNumber_10 : decode cX10_nextNumber 10 = .ok (.iload 4, 2) := by decide +kernel
theorem d_X10_nextNumber_12 : decode cX10_nextNumber 12 = .ok (.iload_n 3, 1) := by decide +kernel
theorem d_X10_nextNumber_13 : decode cX10_nextNumber 13 = .ok (.if_icmp .gt 22, 3) := by decide +kernel
theorem d_X10_nextNumber_16 : decode cX10_nextNumber 16 = .ok (.aload_n 0, 1) := by decide +kernel
theorem d_X10_nextNumber_17 : decode cX10_nextNumber 17 = .ok (.invokevirtual 148, 3) := by decide +kernel
theorem d_X10_nextNumber_20 : decode cX10_nextNumber 20 = .ok (.iload 4, 2) := by decide +kernel
theorem d_X10_nextNumber_22 : decode cX10_nextNumber 22 = .ok (.irem, 1) := by decide +kernel
theorem d_X10_nextNumber_23 : decode cX10_nextNumber 23 = .ok (.ifCond .eq 12, 3) := by decide +kernel
theorem d_X10_nextNumber_26 : decode cX10_nextNumber 26 = .ok (.iload 4, 2) := by decide +kernel
theorem d_X10_nextNumber_28 : decode cX10_nextNumber 28 = .ok (.iconst 1, 1) := by decide +kernel
theorem d_X10_nextNumber_29 : decode cX10_nextNumber 29 = .ok (.iadd, 1) := by decide +kernel
theorem d_X10_nextNumber_30 : decode cX10_nextNumber 30 = .ok (.istore 4, 2) := by decide +kernel
theorem d_X10_nextNumber_32 : decode cX10_nextNumber 32 = .ok (.goto (-27), 3) := by decide +kernel
theorem d_X10_nextNumber_35 : decode cX10_nextNumber 35 = .ok (.iload 4, 2) := by decide +kernel
theorem d_X10_nextNumber_37 : decode cX10_nextNumber 37 = .ok (.ireturn, 1) := by decide +kernel
theorem d_X10_laysFewest_0 : decode cX10_laysFewest 0 = .ok (.iconst (-1), 1) := by decide +kernel
theorem d_X10_laysFewest_1 : decode cX10_laysFewest 1 = .ok (.istore_n 1, 1) := by decide +kernel
theorem d_X10_laysFewest_2 : decode cX10_laysFewest 2 = .ok (.aload_n 0, 1) := by decide +kernel
theorem d_X10_laysFewest_3 : decode cX10_laysFewest 3 = .ok (.invokevirtual 277, 3) := by decide +kernel
theorem d_X10_laysFewest_6 : decode cX10_laysFewest 6 = .ok (.ifCond .ne 5, 3) := by decide +kernel
theorem d_X10_laysFewest_9 : decode cX10_laysFewest 9 = .ok (.iconst (-1), 1) := by decide +kernel
theorem d_X10_laysFewest_10 : decode cX10_laysFewest 10 = .ok (.ireturn, 1) := by decide +kernel
theorem d_X10_laysFewest_11 : decode cX10_laysFewest 11 = .ok (.iconst 0, 1) := by decide +kernel
theorem d_X10_laysFewest_12 : decode cX10_laysFewest 12 = .ok (.istore_n 2, 1) := by decide +kernel
theorem d_X10_laysFewest_13 : decode cX10_laysFewest 13 = .ok (.iload_n 2, 1) := by decide +kernel
theorem d_X10_laysFewest_14 : decode cX10_laysFewest 14 = .ok (.aload_n 0, 1) := by decide +kernel
theorem d_X10_laysFewest_15 : decode cX10_laysFewest 15 = .ok (.invokevirtual 11, 3) := by decide +kernel
theorem d_X10_laysFewest_18 : decode cX10_laysFewest 18 = .ok (.if_icmp .ge 16, 3) := by decide +kernel
theorem d_X10_laysFewest_21 : decode cX10_laysFewest 21 = .ok (.aload_n 0, 1) := by decide +kernel
theorem d_X10_laysFewest_22 : decode cX10_laysFewest 22 = .ok (.getfield 83, 3) := by decide +kernel
theorem d_X10_laysFewest_25 : decode cX10_laysFewest 25 = .ok (.iload_n 2, 1) := by decide +kernel
theorem d_X10_laysFewest_26 : decode cX10_laysFewest 26 = .ok (.iconst 1, 1) := by decide +kernel
theorem d_X10_laysFewest_27 : decode cX10_laysFewest 27 = .ok (.iastore, 1) := by decide +kernel
theorem d_X10_laysFewest_28 : decode cX10_laysFewest 28 = .ok (.iinc 2 1, 3) := by decide +kernel
theorem d_X10_laysFewest_31 : decode cX10_laysFewest 31 = .ok (.goto (-18), 3) := by decide +kernel
theorem d_X10_laysFewest_34 : decode cX10_laysFewest 34 = .ok (.iconst 1, 1) := by decide +kernel
theorem d_X10_laysFewest_35 : decode cX10_laysFewest 35 = .ok (.istore_n 2, 1) := by decide +kernel
theorem d_X10_laysFewest_36 : decode cX10_laysFewest 36 = .ok (.iload_n 2, 1) := by decide +kernel
theorem d_X10_laysFewest_37 : decode cX10_laysFewest 37 = .ok (.ifCond .eq 67, 3) := by decide +kernel
theorem d_X10_laysFewest_40 : decode cX10_laysFewest 40 = .ok (.iload_n 1, 1) := by decide +kernel
theorem d_X10_laysFewest_41 : decode cX10_laysFewest 41 = .ok (.iconst (-1), 1) := by decide +kernel
theorem d_X10_laysFewest_42 : decode cX10_laysFewest 42 = .ok (.if_icmp .eq 11, 3) := by decide +kernel
theorem d_X10_laysFewest_45 : decode cX10_laysFewest 45 = .ok (.aload_n 0, 1) := by decide +kernel
theorem d_X10_laysFewest_46 : decode cX10_laysFewest 46 = .ok (.invokevirtual 280, 3) := by decide +kernel
theorem d_X10_laysFewest_49 : decode cX10_laysFewest 49 = .ok (.iload_n 1, 1) := by decide +kernel
theorem d_X10_laysFewest_50 : decode cX10_laysFewest 50 = .ok (.if_icmp .ge 43, 3) := by decide +kernel
theorem d_X10_laysFewest_53 : decode cX10_laysFewest 53 = .ok (.aload_n 0, 1) := by decide +kernel
theorem d_X10_laysFewest_54 : decode cX10_laysFewest 54 = .ok (.invokevirtual 283, 3) := by decide +kernel
theorem d_X10_laysFewest_57 : decode cX10_laysFewest 57 = .ok (.ifCond .eq 36, 3) := by decide +kernel
theorem d_X10_laysFewest_60 : decode cX10_laysFewest 60 = .ok (.aload_n 0, 1) := by decide +kernel
theorem d_X10_laysFewest_61 : decode cX10_laysFewest 61 = .ok (.invokevirtual 280, 3) := by decide +kernel
theorem d_X10_laysFewest_64 : decode cX10_laysFewest 64 = .ok (.istore_n 1, 1) := by decide +kernel
theorem d_X10_laysFewest_65 : decode cX10_laysFewest 65 = .ok (.iconst 0, 1) := by decide +kernel
theorem d_X10_laysFewest_66 : decode cX10_laysFewest 66 = .ok (.istore_n 3, 1) := by decide +kernel
theorem d_X10_laysFewest_67 : decode cX10_laysFewest 67 = .ok (.iload_n 3, 1) := by decide +kernel
theorem d_X10_laysFewest_68 : decode cX10_laysFewest 68 = .ok (.aload_n 0, 1) := by decide +kernel
theorem d_X10_laysFewest_69 : decode cX10_laysFewest 69 = .ok (.invokevirtual 11, 3) := by decide +kernel
theorem d_X10_laysFewest_72 : decode cX10_laysFewest 72 = .ok (.if_icmp .ge 21, 3) := by decide +kernel
theorem d_X10_laysFewest_75 : decode cX10_laysFewest 75 = .ok (.aload_n 0, 1) := by decide +kernel
theorem d_X10_laysFewest_76 : decode cX10_laysFewest 76 = .ok (.getfield 86, 3) := by decide +kernel
theorem d_X10_laysFewest_79 : decode cX10_laysFewest 79 = .ok (.iload_n 3, 1) := by decide +kernel
theorem d_X10_laysFewest_80 : decode cX10_laysFewest 80 = .ok (.aload_n 0, 1) := by decide +kernel
theorem d_X10_laysFewest_81 : decode cX10_laysFewest 81 = .ok (.getfield 83, 3) := by decide +kernel
theorem d_X10_laysFewest_84 : decode cX10_laysFewest 84 = .ok (.iload_n 3, 1) := by decide +kernel
theorem d_X10_laysFewest_85 : decode cX10_laysFewest 85 = .ok (.iaload, 1) := by decide +kernel
theorem d_X10_laysFewest_86 : decode cX10_laysFewest 86 = .ok (.iastore, 1) := by decide +kernel
theorem d_X10_laysFewest_87 : decode cX10_laysFewest 87 = .ok (.iinc 3 1, 3) := by decide +kernel
theorem d_X10_laysFewest_90 : decode cX10_laysFewest 90 = .ok (.goto (-23), 3) := by decide +kernel
theorem d_X10_laysFewest_93 : decode cX10_laysFewest 93 = .ok (.aload_n 0, 1) := by decide +kernel
theorem d_X10_laysFewest_94 : decode cX10_laysFewest 94 = .ok (.iconst 1, 1) := by decide +kernel
theorem d_X10_laysFewest_95 : decode cX10_laysFewest 95 = .ok (.bipush 12, 2) := by decide +kernel
theorem d_X10_laysFewest_97 : decode cX10_laysFewest 97 = .ok (.invokevirtual 286, 3) := by decide +kernel
theorem d_X10_laysFewest_100 : decode cX10_laysFewest 100 = .ok (.istore_n 2, 1) := by decide +kernel
theorem d_X10_laysFewest_101 : decode cX10_laysFewest 101 = .ok (.goto (-65), 3) := by decide +kernel
theorem d_X10_laysFewest_104 : decode cX10_laysFewest 104 = .ok (.iload_n 1, 1) := by decide +kernel
theorem d_X10_laysFewest_105 : decode cX10_laysFewest 105 = .ok (.ireturn, 1) := by decide +kernel
theorem d_X10_laysCogs_0 : decode cX10_laysCogs 0 = .ok (.aload_n 0, 1) := by decide +kernel
theorem d_X10_laysCogs_1 : decode cX10_laysCogs 1 = .ok (.getfield 25, 3) := by decide +kernel
theorem d_X10_laysCogs_4 : decode cX10_laysCogs 4 = .ok (.sipush 200, 3) := by decide +kernel
theorem d_X10_laysCogs_7 : decode cX10_laysCogs 7 = .ok (.if_icmp .gt 10, 3) := by decide +kernel
theorem d_X10_laysCogs_10 : decode cX10_laysCogs 10 = .ok (.aload_n 0, 1) := by decide +kernel
theorem d_X10_laysCogs_11 : decode cX10_laysCogs 11 = .ok (.invokevirtual 277, 3) := by decide +kernel
theorem d_X10_laysCogs_14 : decode cX10_laysCogs 14 = .ok (.ifCond .ne 5, 3) := by decide +kernel
theorem d_X10_laysCogs_17 : decode cX10_laysCogs 17 = .ok (.iconst (-1), 1) := by decide +kernel
theorem d_X10_laysCogs_18 : decode cX10_laysCogs 18 = .ok (.ireturn, 1) := by decide +kernel
theorem d_X10_laysCogs_19 : decode cX10_laysCogs 19 = .ok (.iconst 1, 1) := by decide +kernel
theorem d_X10_laysCogs_20 : decode cX10_laysCogs 20 = .ok (.istore_n 1, 1) := by decide +kernel
theorem d_X10_laysCogs_21 : decode cX10_laysCogs 21 = .ok (.iload_n 1, 1) := by decide +kernel
theorem d_X10_laysCogs_22 : decode cX10_laysCogs 22 = .ok (.bipush 12, 2) := by decide +kernel
theorem d_X10_laysCogs_24 : decode cX10_laysCogs 24 = .ok (.if_icmp .gt 100, 3) := by decide +kernel
theorem d_X10_laysCogs_27 : decode cX10_laysCogs 27 = .ok (.aload_n 0, 1) := by decide +kernel
theorem d_X10_laysCogs_28 : decode cX10_laysCogs 28 = .ok (.invokevirtual 148, 3) := by decide +kernel
theorem d_X10_laysCogs_31 : decode cX10_laysCogs 31 = .ok (.iload_n 1, 1) := by decide +kernel
theorem d_X10_laysCogs_32 : decode cX10_laysCogs 32 = .ok (.irem, 1) := by decide +kernel
theorem d_X10_laysCogs_33 : decode cX10_laysCogs 33 = .ok (.ifCond .eq 6, 3) := by decide +kernel
theorem d_X10_laysCogs_36 : decode cX10_laysCogs 36 = .ok (.goto 82, 3) := by decide +kernel
theorem d_X10_laysCogs_39 : decode cX10_laysCogs 39 = .ok (.iconst 0, 1) := by decide +kernel
theorem d_X10_laysCogs_40 : decode cX10_laysCogs 40 = .ok (.istore_n 2, 1) := by decide +kernel
theorem d_X10_laysCogs_41 : decode cX10_laysCogs 41 = .ok (.iload_n 2, 1) := by decide +kernel
theorem d_X10_laysCogs_42 : decode cX10_laysCogs 42 = .ok (.aload_n 0, 1) := by decide +kernel
theorem d_X10_laysCogs_43 : decode cX10_laysCogs 43 = .ok (.invokevirtual 11, 3) := by decide +kernel
theorem d_X10_laysCogs_46 : decode cX10_laysCogs 46 = .ok (.if_icmp .ge 16, 3) := by decide +kernel
theorem d_X10_laysCogs_49 : decode cX10_laysCogs 49 = .ok (.aload_n 0, 1) := by decide +kernel
theorem d_X10_laysCogs_50 : decode cX10_laysCogs 50 = .ok (.getfield 83, 3) := by decide +kernel
theorem d_X10_laysCogs_53 : decode cX10_laysCogs 53 = .ok (.iload_n 2, 1) := by decide +kernel
theorem d_X10_laysCogs_54 : decode cX10_laysCogs 54 = .ok (.iconst 0, 1) := by decide +kernel
theorem d_X10_laysCogs_55 : decode cX10_laysCogs 55 = .ok (.iastore, 1) := by decide +kernel
theorem d_X10_laysCogs_56 : decode cX10_laysCogs 56 = .ok (.iinc 2 1, 3) := by decide +kernel
theorem d_X10_laysCogs_59 : decode cX10_laysCogs 59 = .ok (.goto (-18), 3) := by decide +kernel
theorem d_X10_laysCogs_62 : decode cX10_laysCogs 62 = .ok (.iconst 1, 1) := by decide +kernel
theorem d_X10_laysCogs_63 : decode cX10_laysCogs 63 = .ok (.istore_n 2, 1) := by decide +kernel
theorem d_X10_laysCogs_64 : decode cX10_laysCogs 64 = .ok (.iload_n 2, 1) := by decide +kernel
theorem d_X10_laysCogs_65 : decode cX10_laysCogs 65 = .ok (.ifCond .eq 53, 3) := by decide +kernel
theorem d_X10_laysCogs_68 : decode cX10_laysCogs 68 = .ok (.aload_n 0, 1) := by decide +kernel
theorem d_X10_laysCogs_69 : decode cX10_laysCogs 69 = .ok (.iload_n 1, 1) := by decide +kernel
theorem d_X10_laysCogs_70 : decode cX10_laysCogs 70 = .ok (.invokevirtual 289, 3) := by decide +kernel
theorem d_X10_laysCogs_73 : decode cX10_laysCogs 73 = .ok (.ifCond .eq 33, 3) := by decide +kernel
theorem d_X10_laysCogs_76 : decode cX10_laysCogs 76 = .ok (.iconst 0, 1) := by decide +kernel
theorem d_X10_laysCogs_77 : decode cX10_laysCogs 77 = .ok (.istore_n 3, 1) := by decide +kernel
theorem d_X10_laysCogs_78 : decode cX10_laysCogs 78 = .ok (.iload_n 3, 1) := by decide +kernel
theorem d_X10_laysCogs_79 : decode cX10_laysCogs 79 = .ok (.aload_n 0, 1) := by decide +kernel
theorem d_X10_laysCogs_80 : decode cX10_laysCogs 80 = .ok (.invokevirtual 11, 3) := by decide +kernel
theorem d_X10_laysCogs_83 : decode cX10_laysCogs 83 = .ok (.if_icmp .ge 21, 3) := by decide +kernel
theorem d_X10_laysCogs_86 : decode cX10_laysCogs 86 = .ok (.aload_n 0, 1) := by decide +kernel
theorem d_X10_laysCogs_87 : decode cX10_laysCogs 87 = .ok (.getfield 86, 3) := by decide +kernel
theorem d_X10_laysCogs_90 : decode cX10_laysCogs 90 = .ok (.iload_n 3, 1) := by decide +kernel
theorem d_X10_laysCogs_91 : decode cX10_laysCogs 91 = .ok (.aload_n 0, 1) := by decide +kernel
theorem d_X10_laysCogs_92 : decode cX10_laysCogs 92 = .ok (.getfield 83, 3) := by decide +kernel
theorem d_X10_laysCogs_95 : decode cX10_laysCogs 95 = .ok (.iload_n 3, 1) := by decide +kernel
theorem d_X10_laysCogs_96 : decode cX10_laysCogs 96 = .ok (.iaload, 1) := by decide +kernel
theorem d_X10_laysCogs_97 : decode cX10_laysCogs 97 = .ok (.iastore, 1) := by decide +kernel
theorem d_X10_laysCogs_98 : decode cX10_laysCogs 98 = .ok (.iinc 3 1, 3) := by decide +kernel
theorem d_X10_laysCogs_101 : decode cX10_laysCogs 101 = .ok (.goto (-23), 3) := by decide +kernel
theorem d_X10_laysCogs_104 : decode cX10_laysCogs 104 = .ok (.iload_n 1, 1) := by decide +kernel
theorem d_X10_laysCogs_105 : decode cX10_laysCogs 105 = .ok (.ireturn, 1) := by decide +kernel
theorem d_X10_laysCogs_106 : decode cX10_laysCogs 106 = .ok (.aload_n 0, 1) := by decide +kernel
theorem d_X10_laysCogs_107 : decode cX10_laysCogs 107 = .ok (.iconst 0, 1) := by decide +kernel
theorem d_X10_laysCogs_108 : decode cX10_laysCogs 108 = .ok (.iload_n 1, 1) := by decide +kernel
theorem d_X10_laysCogs_109 : decode cX10_laysCogs 109 = .ok (.iconst 1, 1) := by decide +kernel
theorem d_X10_laysCogs_110 : decode cX10_laysCogs 110 = .ok (.isub, 1) := by decide +kernel
theorem d_X10_laysCogs_111 : decode cX10_laysCogs 111 = .ok (.invokevirtual 286, 3) := by decide +kernel
theorem d_X10_laysCogs_114 : decode cX10_laysCogs 114 = .ok (.istore_n 2, 1) := by decide +kernel
theorem d_X10_laysCogs_115 : decode cX10_laysCogs 115 = .ok (.goto (-51), 3) := by decide +kernel
theorem d_X10_laysCogs_118 : decode cX10_laysCogs 118 = .ok (.iinc 1 1, 3) := by decide +kernel
theorem d_X10_laysCogs_121 : decode cX10_laysCogs 121 = .ok (.goto (-100), 3) := by decide +kernel
theorem d_X10_laysCogs_124 : decode cX10_laysCogs 124 = .ok (.iconst (-1), 1) := by decide +kernel
theorem d_X10_laysCogs_125 : decode cX10_laysCogs 125 = .ok (.ireturn, 1) := by decide +kernel
theorem d_X10_fewest_0 : decode cX10_fewest 0 = .ok (.aload_n 0, 1) := by decide +kernel
theorem d_X10_fewest_1 : decode cX10_fewest 1 = .ok (.iconst 0, 1) := by decide +kernel
theorem d_X10_fewest_2 : decode cX10_fewest 2 = .ok (.putfield 1, 3) := by decide +kernel
theorem d_X10_fewest_5 : decode cX10_fewest 5 = .ok (.aload_n 0, 1) := by decide +kernel
theorem d_X10_fewest_6 : decode cX10_fewest 6 = .ok (.invokevirtual 292, 3) := by decide +kernel
theorem d_X10_fewest_9 : decode cX10_fewest 9 = .ok (.istore_n 2, 1) := by decide +kernel
theorem d_X10_fewest_10 : decode cX10_fewest 10 = .ok (.iload_n 2, 1) := by decide +kernel
theorem d_X10_fewest_11 : decode cX10_fewest 11 = .ok (.iconst (-1), 1) := by decide +kernel
theorem d_X10_fewest_12 : decode cX10_fewest 12 = .ok (.if_icmp .ne 5, 3) := by decide +kernel
theorem d_X10_fewest_15 : decode cX10_fewest 15 = .ok (.iconst (-1), 1) := by decide +kernel
theorem d_X10_fewest_16 : decode cX10_fewest 16 = .ok (.ireturn, 1) := by decide +kernel
theorem d_X10_fewest_17 : decode cX10_fewest 17 = .ok (.iload_n 1, 1) := by decide +kernel
theorem d_X10_fewest_18 : decode cX10_fewest 18 = .ok (.bipush 10, 2) := by decide +kernel
theorem d_X10_fewest_20 : decode cX10_fewest 20 = .ok (.if_icmp .ne 7, 3) := by decide +kernel
theorem d_X10_fewest_23 : decode cX10_fewest 23 = .ok (.iload_n 2, 1) := by decide +kernel
theorem d_X10_fewest_24 : decode cX10_fewest 24 = .ok (.goto 21, 3) := by decide +kernel
theorem d_X10_fewest_27 : decode cX10_fewest 27 = .ok (.aload_n 0, 1) := by decide +kernel
theorem d_X10_fewest_28 : decode cX10_fewest 28 = .ok (.iload_n 1, 1) := by decide +kernel
theorem d_X10_fewest_29 : decode cX10_fewest 29 = .ok (.invokevirtual 133, 3) := by decide +kernel
theorem d_X10_fewest_32 : decode cX10_fewest 32 = .ok (.ifCond .eq 12, 3) := by decide +kernel
theorem d_X10_fewest_35 : decode cX10_fewest 35 = .ok (.aload_n 0, 1) := by decide +kernel
theorem d_X10_fewest_36 : decode cX10_fewest 36 = .ok (.getfield 86, 3) := by decide +kernel
theorem d_X10_fewest_39 : decode cX10_fewest 39 = .ok (.iload_n 1, 1) := by decide +kernel
theorem d_X10_fewest_40 : decode cX10_fewest 40 = .ok (.iaload, 1) := by decide +kernel
theorem d_X10_fewest_41 : decode cX10_fewest 41 = .ok (.goto 4, 3) := by decide +kernel
theorem d_X10_fewest_44 : decode cX10_fewest 44 = .ok (.iconst (-1), 1) := by decide +kernel
theorem d_X10_fewest_45 : decode cX10_fewest 45 = .ok (.ireturn, 1) := by decide +kernel
theorem d_X10_cogs_0 : decode cX10_cogs 0 = .ok (.aload_n 0, 1) := by decide +kernel
theorem d_X10_cogs_1 : decode cX10_cogs 1 = .ok (.iconst 0, 1) := by decide +kernel
theorem d_X10_cogs_2 : decode cX10_cogs 2 = .ok (.putfield 1, 3) := by decide +kernel
theorem d_X10_cogs_5 : decode cX10_cogs 5 = .ok (.aload_n 0, 1) := by decide +kernel
theorem d_X10_cogs_6 : decode cX10_cogs 6 = .ok (.invokevirtual 295, 3) := by decide +kernel
theorem d_X10_cogs_9 : decode cX10_cogs 9 = .ok (.istore_n 2, 1) := by decide +kernel
theorem d_X10_cogs_10 : decode cX10_cogs 10 = .ok (.iload_n 2, 1) := by decide +kernel
theorem d_X10_cogs_11 : decode cX10_cogs 11 = .ok (.iconst (-1), 1) := by decide +kernel
theorem d_X10_cogs_12 : decode cX10_cogs 12 = .ok (.if_icmp .ne 5, 3) := by decide +kernel
theorem d_X10_cogs_15 : decode cX10_cogs 15 = .ok (.iconst (-1), 1) := by decide +kernel
theorem d_X10_cogs_16 : decode cX10_cogs 16 = .ok (.ireturn, 1) := by decide +kernel
theorem d_X10_cogs_17 : decode cX10_cogs 17 = .ok (.iload_n 1, 1) := by decide +kernel
theorem d_X10_cogs_18 : decode cX10_cogs 18 = .ok (.bipush 10, 2) := by decide +kernel
theorem d_X10_cogs_20 : decode cX10_cogs 20 = .ok (.if_icmp .ne 7, 3) := by decide +kernel
theorem d_X10_cogs_23 : decode cX10_cogs 23 = .ok (.iload_n 2, 1) := by decide +kernel
theorem d_X10_cogs_24 : decode cX10_cogs 24 = .ok (.goto 21, 3) := by decide +kernel
theorem d_X10_cogs_27 : decode cX10_cogs 27 = .ok (.aload_n 0, 1) := by decide +kernel
theorem d_X10_cogs_28 : decode cX10_cogs 28 = .ok (.iload_n 1, 1) := by decide +kernel
theorem d_X10_cogs_29 : decode cX10_cogs 29 = .ok (.invokevirtual 133, 3) := by decide +kernel
theorem d_X10_cogs_32 : decode cX10_cogs 32 = .ok (.ifCond .eq 12, 3) := by decide +kernel
theorem d_X10_cogs_35 : decode cX10_cogs 35 = .ok (.aload_n 0, 1) := by decide +kernel
theorem d_X10_cogs_36 : decode cX10_cogs 36 = .ok (.getfield 86, 3) := by decide +kernel
theorem d_X10_cogs_39 : decode cX10_cogs 39 = .ok (.iload_n 1, 1) := by decide +kernel
theorem d_X10_cogs_40 : decode cX10_cogs 40 = .ok (.iaload, 1) := by decide +kernel
theorem d_X10_cogs_41 : decode cX10_cogs 41 = .ok (.goto 4, 3) := by decide +kernel
theorem d_X10_cogs_44 : decode cX10_cogs 44 = .ok (.iconst (-1), 1) := by decide +kernel
theorem d_X10_cogs_45 : decode cX10_cogs 45 = .ok (.ireturn, 1) := by decide +kernel
theorem d_X10_layFewest_0 : decode cX10_layFewest 0 = .ok (.aload_n 0, 1) := by decide +kernel
theorem d_X10_layFewest_1 : decode cX10_layFewest 1 = .ok (.invokevirtual 292, 3) := by decide +kernel
theorem d_X10_layFewest_4 : decode cX10_layFewest 4 = .ok (.istore_n 1, 1) := by decide +kernel
theorem d_X10_layFewest_5 : decode cX10_layFewest 5 = .ok (.iconst 0, 1) := by decide +kernel
theorem d_X10_layFewest_6 : decode cX10_layFewest 6 = .ok (.istore_n 2, 1) := by decide +kernel
theorem d_X10_layFewest_7 : decode cX10_layFewest 7 = .ok (.iconst 0, 1) := by decide +kernel
theorem d_X10_layFewest_8 : decode cX10_layFewest 8 = .ok (.istore_n 3, 1) := by decide +kernel
theorem d_X10_layFewest_9 : decode cX10_layFewest 9 = .ok (.iload_n 3, 1) := by decide +kernel
theorem d_X10_layFewest_10 : decode cX10_layFewest 10 = .ok (.aload_n 0, 1) := by decide +kernel
theorem d_X10_layFewest_11 : decode cX10_layFewest 11 = .ok (.invokevirtual 11, 3) := by decide +kernel
theorem d_X10_layFewest_14 : decode cX10_layFewest 14 = .ok (.if_icmp .ge 28, 3) := by decide +kernel
theorem d_X10_layFewest_17 : decode cX10_layFewest 17 = .ok (.iload_n 1, 1) := by decide +kernel
theorem d_X10_layFewest_18 : decode cX10_layFewest 18 = .ok (.iconst (-1), 1) := by decide +kernel
theorem d_X10_layFewest_19 : decode cX10_layFewest 19 = .ok (.if_icmp .eq 23, 3) := by decide +kernel
theorem d_X10_layFewest_22 : decode cX10_layFewest 22 = .ok (.aload_n 0, 1) := by decide +kernel
theorem d_X10_layFewest_23 : decode cX10_layFewest 23 = .ok (.getfield 86, 3) := by decide +kernel
theorem d_X10_layFewest_26 : decode cX10_layFewest 26 = .ok (.iload_n 3, 1) := by decide +kernel
theorem d_X10_layFewest_27 : decode cX10_layFewest 27 = .ok (.iaload, 1) := by decide +kernel
theorem d_X10_layFewest_28 : decode cX10_layFewest 28 = .ok (.iconst 1, 1) := by decide +kernel
theorem d_X10_layFewest_29 : decode cX10_layFewest 29 = .ok (.if_icmp .le 7, 3) := by decide +kernel
theorem d_X10_layFewest_32 : decode cX10_layFewest 32 = .ok (.iload_n 2, 1) := by decide +kernel
theorem d_X10_layFewest_33 : decode cX10_layFewest 33 = .ok (.iconst 1, 1) := by decide +kernel
theorem d_X10_layFewest_34 : decode cX10_layFewest 34 = .ok (.iadd, 1) := by decide +kernel
theorem d_X10_layFewest_35 : decode cX10_layFewest 35 = .ok (.istore_n 2, 1) := by decide +kernel
theorem d_X10_layFewest_36 : decode cX10_layFewest 36 = .ok (.iinc 3 1, 3) := by decide +kernel
theorem d_X10_layFewest_39 : decode cX10_layFewest 39 = .ok (.goto (-30), 3) := by decide +kernel
theorem d_X10_layFewest_42 : decode cX10_layFewest 42 = .ok (.iload_n 1, 1) := by decide +kernel
theorem d_X10_layFewest_43 : decode cX10_layFewest 43 = .ok (.iconst (-1), 1) := by decide +kernel
theorem d_X10_layFewest_44 : decode cX10_layFewest 44 = .ok (.if_icmp .eq 15, 3) := by decide +kernel
theorem d_X10_layFewest_47 : decode cX10_layFewest 47 = .ok (.iload_n 2, 1) := by decide +kernel
theorem d_X10_layFewest_48 : decode cX10_layFewest 48 = .ok (.iconst 4, 1) := by decide +kernel
theorem d_X10_layFewest_49 : decode cX10_layFewest 49 = .ok (.if_icmp .gt 10, 3) := by decide +kernel
theorem d_X10_layFewest_52 : decode cX10_layFewest 52 = .ok (.iload_n 1, 1) := by decide +kernel
theorem d_X10_layFewest_53 : decode cX10_layFewest 53 = .ok (.sipush 512, 3) := by decide +kernel
theorem d_X10_layFewest_56 : decode cX10_layFewest 56 = .ok (.if_icmp .le 5, 3) := by decide +kernel
theorem d_X10_layFewest_59 : decode cX10_layFewest 59 = .ok (.iconst (-1), 1) := by decide +kernel
theorem d_X10_layFewest_60 : decode cX10_layFewest 60 = .ok (.ireturn, 1) := by decide +kernel
theorem d_X10_layFewest_61 : decode cX10_layFewest 61 = .ok (.aload_n 0, 1) := by decide +kernel
theorem d_X10_layFewest_62 : decode cX10_layFewest 62 = .ok (.invokevirtual 127, 3) := by decide +kernel
theorem d_X10_layFewest_65 : decode cX10_layFewest 65 = .ok (.aload_n 0, 1) := by decide +kernel
theorem d_X10_layFewest_66 : decode cX10_layFewest 66 = .ok (.getfield 7, 3) := by decide +kernel
theorem d_X10_layFewest_69 : decode cX10_layFewest 69 = .ok (.iconst 3, 1) := by decide +kernel
theorem d_X10_layFewest_70 : decode cX10_layFewest 70 = .ok (.iconst 0, 1) := by decide +kernel
theorem d_X10_layFewest_71 : decode cX10_layFewest 71 = .ok (.iastore, 1) := by decide +kernel
theorem d_X10_layFewest_72 : decode cX10_layFewest 72 = .ok (.iconst 0, 1) := by decide +kernel
theorem d_X10_layFewest_73 : decode cX10_layFewest 73 = .ok (.istore_n 3, 1) := by decide +kernel
theorem d_X10_layFewest_74 : decode cX10_layFewest 74 = .ok (.iconst 0, 1) := by decide +kernel
theorem d_X10_layFewest_75 : decode cX10_layFewest 75 = .ok (.istore 4, 2) := by decide +kernel
theorem d_X10_layFewest_77 : decode cX10_layFewest 77 = .ok (.iload 4, 2) := by decide +kernel
theorem d_X10_layFewest_79 : decode cX10_layFewest 79 = .ok (.aload_n 0, 1) := by decide +kernel
theorem d_X10_layFewest_80 : decode cX10_layFewest 80 = .ok (.invokevirtual 11, 3) := by decide +kernel
theorem d_X10_layFewest_83 : decode cX10_layFewest 83 = .ok (.if_icmp .ge 71, 3) := by decide +kernel
theorem d_X10_layFewest_86 : decode cX10_layFewest 86 = .ok (.aload_n 0, 1) := by decide +kernel
theorem d_X10_layFewest_87 : decode cX10_layFewest 87 = .ok (.getfield 86, 3) := by decide +kernel
theorem d_X10_layFewest_90 : decode cX10_layFewest 90 = .ok (.iload 4, 2) := by decide +kernel
theorem d_X10_layFewest_92 : decode cX10_layFewest 92 = .ok (.iaload, 1) := by decide +kernel
theorem d_X10_layFewest_93 : decode cX10_layFewest 93 = .ok (.iconst 1, 1) := by decide +kernel
theorem d_X10_layFewest_94 : decode cX10_layFewest 94 = .ok (.if_icmp .ne 6, 3) := by decide +kernel
theorem d_X10_layFewest_97 : decode cX10_layFewest 97 = .ok (.goto 51, 3) := by decide +kernel
theorem d_X10_layFewest_100 : decode cX10_layFewest 100 = .ok (.aload_n 0, 1) := by decide +kernel
theorem d_X10_layFewest_101 : decode cX10_layFewest 101 = .ok (.getfield 7, 3) := by decide +kernel
theorem d_X10_layFewest_104 : decode cX10_layFewest 104 = .ok (.bipush 49, 2) := by decide +kernel
theorem d_X10_layFewest_106 : decode cX10_layFewest 106 = .ok (.iload_n 3, 1) := by decide +kernel
theorem d_X10_layFewest_107 : decode cX10_layFewest 107 = .ok (.iadd, 1) := by decide +kernel
theorem d_X10_layFewest_108 : decode cX10_layFewest 108 = .ok (.aload_n 0, 1) := by decide +kernel
theorem d_X10_layFewest_109 : decode cX10_layFewest 109 = .ok (.getfield 86, 3) := by decide +kernel
theorem d_X10_layFewest_112 : decode cX10_layFewest 112 = .ok (.iload 4, 2) := by decide +kernel
theorem d_X10_layFewest_114 : decode cX10_layFewest 114 = .ok (.iaload, 1) := by decide +kernel
theorem d_X10_layFewest_115 : decode cX10_layFewest 115 = .ok (.iconst 1, 1) := by decide +kernel
theorem d_X10_layFewest_116 : decode cX10_layFewest 116 = .ok (.isub, 1) := by decide +kernel
theorem d_X10_layFewest_117 : decode cX10_layFewest 117 = .ok (.iastore, 1) := by decide +kernel
theorem d_X10_layFewest_118 : decode cX10_layFewest 118 = .ok (.aload_n 0, 1) := by decide +kernel
theorem d_X10_layFewest_119 : decode cX10_layFewest 119 = .ok (.getfield 7, 3) := by decide +kernel
theorem d_X10_layFewest_122 : decode cX10_layFewest 122 = .ok (.bipush 53, 2) := by decide +kernel
theorem d_X10_layFewest_124 : decode cX10_layFewest 124 = .ok (.iconst 4, 1) := by decide +kernel
theorem d_X10_layFewest_125 : decode cX10_layFewest 125 = .ok (.iload 4, 2) := by decide +kernel
theorem d_X10_layFewest_127 : decode cX10_layFewest 127 = .ok (.imul, 1) := by decide +kernel
theorem d_X10_layFewest_128 : decode cX10_layFewest 128 = .ok (.iadd, 1) := by decide +kernel
theorem d_X10_layFewest_129 : decode cX10_layFewest 129 = .ok (.iload_n 3, 1) := by decide +kernel
theorem d_X10_layFewest_130 : decode cX10_layFewest 130 = .ok (.iadd, 1) := by decide +kernel
theorem d_X10_layFewest_131 : decode cX10_layFewest 131 = .ok (.aload_n 0, 1) := by decide +kernel
theorem d_X10_layFewest_132 : decode cX10_layFewest 132 = .ok (.invokevirtual 148, 3) := by decide +kernel
theorem d_X10_layFewest_135 : decode cX10_layFewest 135 = .ok (.aload_n 0, 1) := by decide +kernel
theorem d_X10_layFewest_136 : decode cX10_layFewest 136 = .ok (.getfield 86, 3) := by decide +kernel
theorem d_X10_layFewest_139 : decode cX10_layFewest 139 = .ok (.iload 4, 2) := by decide +kernel
theorem d_X10_layFewest_141 : decode cX10_layFewest 141 = .ok (.iaload, 1) := by decide +kernel
theorem d_X10_layFewest_142 : decode cX10_layFewest 142 = .ok (.idiv, 1) := by decide +kernel
theorem d_X10_layFewest_143 : decode cX10_layFewest 143 = .ok (.iastore, 1) := by decide +kernel
theorem d_X10_layFewest_144 : decode cX10_layFewest 144 = .ok (.iload_n 3, 1) := by decide +kernel
theorem d_X10_layFewest_145 : decode cX10_layFewest 145 = .ok (.iconst 1, 1) := by decide +kernel
theorem d_X10_layFewest_146 : decode cX10_layFewest 146 = .ok (.iadd, 1) := by decide +kernel
theorem d_X10_layFewest_147 : decode cX10_layFewest 147 = .ok (.istore_n 3, 1) := by decide +kernel
theorem d_X10_layFewest_148 : decode cX10_layFewest 148 = .ok (.iinc 4 1, 3) := by decide +kernel
theorem d_X10_layFewest_151 : decode cX10_layFewest 151 = .ok (.goto (-74), 3) := by decide +kernel
theorem d_X10_layFewest_154 : decode cX10_layFewest 154 = .ok (.aload_n 0, 1) := by decide +kernel
theorem d_X10_layFewest_155 : decode cX10_layFewest 155 = .ok (.invokevirtual 142, 3) := by decide +kernel
theorem d_X10_layFewest_158 : decode cX10_layFewest 158 = .ok (.ireturn, 1) := by decide +kernel
theorem d_X10_layCogs_0 : decode cX10_layCogs 0 = .ok (.aload_n 0, 1) := by decide +kernel
theorem d_X10_layCogs_1 : decode cX10_layCogs 1 = .ok (.invokevirtual 295, 3) := by decide +kernel
theorem d_X10_layCogs_4 : decode cX10_layCogs 4 = .ok (.istore_n 1, 1) := by decide +kernel
theorem d_X10_layCogs_5 : decode cX10_layCogs 5 = .ok (.iload_n 1, 1) := by decide +kernel
theorem d_X10_layCogs_6 : decode cX10_layCogs 6 = .ok (.iconst (-1), 1) := by decide +kernel
theorem d_X10_layCogs_7 : decode cX10_layCogs 7 = .ok (.if_icmp .ne 5, 3) := by decide +kernel
theorem d_X10_layCogs_10 : decode cX10_layCogs 10 = .ok (.iconst (-1), 1) := by decide +kernel
theorem d_X10_layCogs_11 : decode cX10_layCogs 11 = .ok (.ireturn, 1) := by decide +kernel
theorem d_X10_layCogs_12 : decode cX10_layCogs 12 = .ok (.aload_n 0, 1) := by decide +kernel
theorem d_X10_layCogs_13 : decode cX10_layCogs 13 = .ok (.invokevirtual 127, 3) := by decide +kernel
theorem d_X10_layCogs_16 : decode cX10_layCogs 16 = .ok (.aload_n 0, 1) := by decide +kernel
theorem d_X10_layCogs_17 : decode cX10_layCogs 17 = .ok (.getfield 7, 3) := by decide +kernel
theorem d_X10_layCogs_20 : decode cX10_layCogs 20 = .ok (.iconst 3, 1) := by decide +kernel
theorem d_X10_layCogs_21 : decode cX10_layCogs 21 = .ok (.iconst 0, 1) := by decide +kernel
theorem d_X10_layCogs_22 : decode cX10_layCogs 22 = .ok (.iastore, 1) := by decide +kernel
theorem d_X10_layCogs_23 : decode cX10_layCogs 23 = .ok (.aload_n 0, 1) := by decide +kernel
theorem d_X10_layCogs_24 : decode cX10_layCogs 24 = .ok (.getfield 7, 3) := by decide +kernel
theorem d_X10_layCogs_27 : decode cX10_layCogs 27 = .ok (.bipush 49, 2) := by decide +kernel
theorem d_X10_layCogs_29 : decode cX10_layCogs 29 = .ok (.iload_n 1, 1) := by decide +kernel
theorem d_X10_layCogs_30 : decode cX10_layCogs 30 = .ok (.iconst 1, 1) := by decide +kernel
theorem d_X10_layCogs_31 : decode cX10_layCogs 31 = .ok (.isub, 1) := by decide +kernel
theorem d_X10_layCogs_32 : decode cX10_layCogs 32 = .ok (.iastore, 1) := by decide +kernel
theorem d_X10_layCogs_33 : decode cX10_layCogs 33 = .ok (.iconst 0, 1) := by decide +kernel
theorem d_X10_layCogs_34 : decode cX10_layCogs 34 = .ok (.istore_n 2, 1) := by decide +kernel
theorem d_X10_layCogs_35 : decode cX10_layCogs 35 = .ok (.iload_n 2, 1) := by decide +kernel
theorem d_X10_layCogs_36 : decode cX10_layCogs 36 = .ok (.aload_n 0, 1) := by decide +kernel
theorem d_X10_layCogs_37 : decode cX10_layCogs 37 = .ok (.invokevirtual 11, 3) := by decide +kernel
theorem d_X10_layCogs_40 : decode cX10_layCogs 40 = .ok (.if_icmp .ge 33, 3) := by decide +kernel
theorem d_X10_layCogs_43 : decode cX10_layCogs 43 = .ok (.aload_n 0, 1) := by decide +kernel
theorem d_X10_layCogs_44 : decode cX10_layCogs 44 = .ok (.getfield 7, 3) := by decide +kernel
theorem d_X10_layCogs_47 : decode cX10_layCogs 47 = .ok (.bipush 53, 2) := by decide +kernel
theorem d_X10_layCogs_49 : decode cX10_layCogs 49 = .ok (.iconst 4, 1) := by decide +kernel
theorem d_X10_layCogs_50 : decode cX10_layCogs 50 = .ok (.iload_n 2, 1) := by decide +kernel
theorem d_X10_layCogs_51 : decode cX10_layCogs 51 = .ok (.imul, 1) := by decide +kernel
theorem d_X10_layCogs_52 : decode cX10_layCogs 52 = .ok (.iadd, 1) := by decide +kernel
theorem d_X10_layCogs_53 : decode cX10_layCogs 53 = .ok (.aload_n 0, 1) := by decide +kernel
theorem d_X10_layCogs_54 : decode cX10_layCogs 54 = .ok (.getfield 86, 3) := by decide +kernel
theorem d_X10_layCogs_57 : decode cX10_layCogs 57 = .ok (.iload_n 2, 1) := by decide +kernel
theorem d_X10_layCogs_58 : decode cX10_layCogs 58 = .ok (.iaload, 1) := by decide +kernel
theorem d_X10_layCogs_59 : decode cX10_layCogs 59 = .ok (.aload_n 0, 1) := by decide +kernel
theorem d_X10_layCogs_60 : decode cX10_layCogs 60 = .ok (.invokevirtual 148, 3) := by decide +kernel
theorem d_X10_layCogs_63 : decode cX10_layCogs 63 = .ok (.iload_n 1, 1) := by decide +kernel
theorem d_X10_layCogs_64 : decode cX10_layCogs 64 = .ok (.idiv, 1) := by decide +kernel
theorem d_X10_layCogs_65 : decode cX10_layCogs 65 = .ok (.imul, 1) := by decide +kernel
theorem d_X10_layCogs_66 : decode cX10_layCogs 66 = .ok (.iastore, 1) := by decide +kernel
theorem d_X10_layCogs_67 : decode cX10_layCogs 67 = .ok (.iinc 2 1, 3) := by decide +kernel
theorem d_X10_layCogs_70 : decode cX10_layCogs 70 = .ok (.goto (-35), 3) := by decide +kernel
theorem d_X10_layCogs_73 : decode cX10_layCogs 73 = .ok (.aload_n 0, 1) := by decide +kernel
theorem d_X10_layCogs_74 : decode cX10_layCogs 74 = .ok (.invokevirtual 142, 3) := by decide +kernel
theorem d_X10_layCogs_77 : decode cX10_layCogs 77 = .ok (.ireturn, 1) := by decide +kernel
theorem d_X10_lay_0 : decode cX10_lay 0 = .ok (.aload_n 0, 1) := by decide +kernel
theorem d_X10_lay_1 : decode cX10_lay 1 = .ok (.iconst 0, 1) := by decide +kernel
theorem d_X10_lay_2 : decode cX10_lay 2 = .ok (.putfield 1, 3) := by decide +kernel
theorem d_X10_lay_5 : decode cX10_lay 5 = .ok (.iload_n 1, 1) := by decide +kernel
theorem d_X10_lay_6 : decode cX10_lay 6 = .ok (.ifCond .ne 10, 3) := by decide +kernel
theorem d_X10_lay_9 : decode cX10_lay 9 = .ok (.aload_n 0, 1) := by decide +kernel
theorem d_X10_lay_10 : decode cX10_lay 10 = .ok (.invokevirtual 298, 3) := by decide +kernel
theorem d_X10_lay_13 : decode cX10_lay 13 = .ok (.goto 16, 3) := by decide +kernel
theorem d_X10_lay_16 : decode cX10_lay 16 = .ok (.iload_n 1, 1) := by decide +kernel
theorem d_X10_lay_17 : decode cX10_lay 17 = .ok (.iconst 1, 1) := by decide +kernel
theorem d_X10_lay_18 : decode cX10_lay 18 = .ok (.if_icmp .ne 10, 3) := by decide +kernel
theorem d_X10_lay_21 : decode cX10_lay 21 = .ok (.aload_n 0, 1) := by decide +kernel
theorem d_X10_lay_22 : decode cX10_lay 22 = .ok (.invokevirtual 301, 3) := by decide +kernel
theorem d_X10_lay_25 : decode cX10_lay 25 = .ok (.goto 4, 3) := by decide +kernel
theorem d_X10_lay_28 : decode cX10_lay 28 = .ok (.iconst (-1), 1) := by decide +kernel
theorem d_X10_lay_29 : decode cX10_lay 29 = .ok (.ireturn, 1) := by decide +kernel
theorem d_X10_isStep_0 : decode cX10_isStep 0 = .ok (.aload_n 0, 1) := by decide +kernel
theorem d_X10_isStep_1 : decode cX10_isStep 1 = .ok (.iload_n 1, 1) := by decide +kernel
theorem d_X10_isStep_2 : decode cX10_isStep 2 = .ok (.iconst 1, 1) := by decide +kernel
theorem d_X10_isStep_3 : decode cX10_isStep 3 = .ok (.bipush 12, 2) := by decide +kernel
theorem d_X10_isStep_5 : decode cX10_isStep 5 = .ok (.invokevirtual 124, 3) := by decide +kernel
theorem d_X10_isStep_8 : decode cX10_isStep 8 = .ok (.ifCond .eq 16, 3) := by decide +kernel
theorem d_X10_isStep_11 : decode cX10_isStep 11 = .ok (.aload_n 0, 1) := by decide +kernel
theorem d_X10_isStep_12 : decode cX10_isStep 12 = .ok (.invokevirtual 148, 3) := by decide +kernel
theorem d_X10_isStep_15 : decode cX10_isStep 15 = .ok (.iload_n 1, 1) := by decide +kernel
theorem d_X10_isStep_16 : decode cX10_isStep 16 = .ok (.irem, 1) := by decide +kernel
theorem d_X10_isStep_17 : decode cX10_isStep 17 = .ok (.ifCond .ne 7, 3) := by decide +kernel
theorem d_X10_isStep_20 : decode cX10_isStep 20 = .ok (.iconst 1, 1) := by decide +kernel
theorem d_X10_isStep_21 : decode cX10_isStep 21 = .ok (.goto 4, 3) := by decide +kernel
theorem d_X10_isStep_24 : decode cX10_isStep 24 = .ok (.iconst 0, 1) := by decide +kernel
theorem d_X10_isStep_25 : decode cX10_isStep 25 = .ok (.ireturn, 1) := by decide +kernel
theorem d_X10_would_0 : decode cX10_would 0 = .ok (.aload_n 0, 1) := by decide +kernel
theorem d_X10_would_1 : decode cX10_would 1 = .ok (.iconst 0, 1) := by decide +kernel
theorem d_X10_would_2 : decode cX10_would 2 = .ok (.putfield 1, 3) := by decide +kernel
theorem d_X10_would_5 : decode cX10_would 5 = .ok (.aload_n 0, 1) := by decide +kernel
theorem d_X10_would_6 : decode cX10_would 6 = .ok (.invokevirtual 213, 3) := by decide +kernel
theorem d_X10_would_9 : decode cX10_would 9 = .ok (.istore 6, 2) := by decide +kernel
theorem d_X10_would_11 : decode cX10_would 11 = .ok (.iload 6, 2) := by decide +kernel
theorem d_X10_would_13 : decode cX10_would 13 = .ok (.iconst (-1), 1) := by decide +kernel
theorem d_X10_would_14 : decode cX10_would 14 = .ok (.if_icmp .ne 5, 3) := by decide +kernel
theorem d_X10_would_17 : decode cX10_would 17 = .ok (.iconst (-1), 1) := by decide +kernel
theorem d_X10_would_18 : decode cX10_would 18 = .ok (.ireturn, 1) := by decide +kernel
theorem d_X10_would_19 : decode cX10_would 19 = .ok (.iconst 0, 1) := by decide +kernel
theorem d_X10_would_20 : decode cX10_would 20 = .ok (.istore 7, 2) := by decide +kernel
theorem d_X10_would_22 : decode cX10_would 22 = .ok (.iload 7, 2) := by decide +kernel
theorem d_X10_would_24 : decode cX10_would 24 = .ok (.aload_n 0, 1) := by decide +kernel
theorem d_X10_would_25 : decode cX10_would 25 = .ok (.invokevirtual 11, 3) := by decide +kernel
theorem d_X10_would_28 : decode cX10_would 28 = .ok (.if_icmp .ge 74, 3) := by decide +kernel
theorem d_X10_would_31 : decode cX10_would 31 = .ok (.aload_n 0, 1) := by decide +kernel
theorem d_X10_would_32 : decode cX10_would 32 = .ok (.getfield 83, 3) := by decide +kernel
theorem d_X10_would_35 : decode cX10_would 35 = .ok (.iload 7, 2) := by decide +kernel
theorem d_X10_would_37 : decode cX10_would 37 = .ok (.iload 7, 2) := by decide +kernel
theorem d_X10_would_39 : decode cX10_would 39 = .ok (.ifCond .ne 7, 3) := by decide +kernel
theorem d_X10_would_42 : decode cX10_would 42 = .ok (.iload_n 1, 1) := by decide +kernel
theorem d_X10_would_43 : decode cX10_would 43 = .ok (.goto 36, 3) := by decide +kernel
theorem d_X10_would_46 : decode cX10_would 46 = .ok (.iload 7, 2) := by decide +kernel
theorem d_X10_would_48 : decode cX10_would 48 = .ok (.iconst 1, 1) := by decide +kernel
theorem d_X10_would_49 : decode cX10_would 49 = .ok (.if_icmp .ne 7, 3) := by decide +kernel
theorem d_X10_would_52 : decode cX10_would 52 = .ok (.iload_n 2, 1) := by decide +kernel
theorem d_X10_would_53 : decode cX10_would 53 = .ok (.goto 26, 3) := by decide +kernel
theorem d_X10_would_56 : decode cX10_would 56 = .ok (.iload 7, 2) := by decide +kernel
theorem d_X10_would_58 : decode cX10_would 58 = .ok (.iconst 2, 1) := by decide +kernel
theorem d_X10_would_59 : decode cX10_would 59 = .ok (.if_icmp .ne 7, 3) := by decide +kernel
theorem d_X10_would_62 : decode cX10_would 62 = .ok (.iload_n 3, 1) := by decide +kernel
theorem d_X10_would_63 : decode cX10_would 63 = .ok (.goto 16, 3) := by decide +kernel
theorem d_X10_would_66 : decode cX10_would 66 = .ok (.iload 7, 2) := by decide +kernel
theorem d_X10_would_68 : decode cX10_would 68 = .ok (.iconst 3, 1) := by decide +kernel
theorem d_X10_would_69 : decode cX10_would 69 = .ok (.if_icmp .ne 8, 3) := by decide +kernel
theorem d_X10_would_72 : decode cX10_would 72 = .ok (.iload 4, 2) := by decide +kernel
theorem d_X10_would_74 : decode cX10_would 74 = .ok (.goto 5, 3) := by decide +kernel
theorem d_X10_would_77 : decode cX10_would 77 = .ok (.iload 5, 2) := by decide +kernel
theorem d_X10_would_79 : decode cX10_would 79 = .ok (.iastore, 1) := by decide +kernel
theorem d_X10_would_80 : decode cX10_would 80 = .ok (.aload_n 0, 1) := by decide +kernel
theorem d_X10_would_81 : decode cX10_would 81 = .ok (.aload_n 0, 1) := by decide +kernel
theorem d_X10_would_82 : decode cX10_would 82 = .ok (.getfield 83, 3) := by decide +kernel
theorem d_X10_would_85 : decode cX10_would 85 = .ok (.iload 7, 2) := by decide +kernel
theorem d_X10_would_87 : decode cX10_would 87 = .ok (.iaload, 1) := by decide +kernel
theorem d_X10_would_88 : decode cX10_would 88 = .ok (.invokevirtual 304, 3) := by decide +kernel
theorem d_X10_would_91 : decode cX10_would 91 = .ok (.ifCond .ne 5, 3) := by decide +kernel
theorem d_X10_would_94 : decode cX10_would 94 = .ok (.iconst (-1), 1) := by decide +kernel
theorem d_X10_would_95 : decode cX10_would 95 = .ok (.ireturn, 1) := by decide +kernel
theorem d_X10_would_96 : decode cX10_would 96 = .ok (.iinc 7 1, 3) := by decide +kernel
theorem d_X10_would_99 : decode cX10_would 99 = .ok (.goto (-77), 3) := by decide +kernel
theorem d_X10_would_102 : decode cX10_would 102 = .ok (.iconst 0, 1) := by decide +kernel
theorem d_X10_would_103 : decode cX10_would 103 = .ok (.istore 7, 2) := by decide +kernel
theorem d_X10_would_105 : decode cX10_would 105 = .ok (.aload_n 0, 1) := by decide +kernel
theorem d_X10_would_106 : decode cX10_would 106 = .ok (.iconst 0, 1) := by decide +kernel
theorem d_X10_would_107 : decode cX10_would 107 = .ok (.putfield 260, 3) := by decide +kernel
theorem d_X10_would_110 : decode cX10_would 110 = .ok (.iconst 0, 1) := by decide +kernel
theorem d_X10_would_111 : decode cX10_would 111 = .ok (.istore 8, 2) := by decide +kernel
theorem d_X10_would_113 : decode cX10_would 113 = .ok (.iload 8, 2) := by decide +kernel
theorem d_X10_would_115 : decode cX10_would 115 = .ok (.aload_n 0, 1) := by decide +kernel
theorem d_X10_would_116 : decode cX10_would 116 = .ok (.getfield 25, 3) := by decide +kernel
theorem d_X10_would_119 : decode cX10_would 119 = .ok (.if_icmp .ge 27, 3) := by decide +kernel
theorem d_X10_would_122 : decode cX10_would 122 = .ok (.aload_n 0, 1) := by decide +kernel
theorem d_X10_would_123 : decode cX10_would 123 = .ok (.iload 8, 2) := by decide +kernel
theorem d_X10_would_125 : decode cX10_would 125 = .ok (.invokevirtual 248, 3) := by decide +kernel
theorem d_X10_would_128 : decode cX10_would 128 = .ok (.ifCond .eq 12, 3) := by decide +kernel
theorem d_X10_would_131 : decode cX10_would 131 = .ok (.aload_n 0, 1) := by decide +kernel
theorem d_X10_would_132 : decode cX10_would 132 = .ok (.iload 8, 2) := by decide +kernel
theorem d_X10_would_134 : decode cX10_would 134 = .ok (.iload 6, 2) := by decide +kernel
theorem d_X10_would_136 : decode cX10_would 136 = .ok (.iconst 0, 1) := by decide +kernel
theorem d_X10_would_137 : decode cX10_would 137 = .ok (.invokevirtual 263, 3) := by decide +kernel
theorem d_X10_would_140 : decode cX10_would 140 = .ok (.iinc 8 1, 3) := by decide +kernel
theorem d_X10_would_143 : decode cX10_would 143 = .ok (.goto (-30), 3) := by decide +kernel
theorem d_X10_would_146 : decode cX10_would 146 = .ok (.iconst 0, 1) := by decide +kernel
theorem d_X10_would_147 : decode cX10_would 147 = .ok (.istore 8, 2) := by decide +kernel
theorem d_X10_would_149 : decode cX10_would 149 = .ok (.iload 8, 2) := by decide +kernel
theorem d_X10_would_151 : decode cX10_would 151 = .ok (.aload_n 0, 1) := by decide +kernel
theorem d_X10_would_152 : decode cX10_would 152 = .ok (.getfield 260, 3) := by decide +kernel
theorem d_X10_would_155 : decode cX10_would 155 = .ok (.if_icmp .ge 24, 3) := by decide +kernel
theorem d_X10_would_158 : decode cX10_would 158 = .ok (.aload_n 0, 1) := by decide +kernel
theorem d_X10_would_159 : decode cX10_would 159 = .ok (.iload 8, 2) := by decide +kernel
theorem d_X10_would_161 : decode cX10_would 161 = .ok (.invokevirtual 267, 3) := by decide +kernel
theorem d_X10_would_164 : decode cX10_would 164 = .ok (.ifCond .eq 9, 3) := by decide +kernel
theorem d_X10_would_167 : decode cX10_would 167 = .ok (.iload 7, 2) := by decide +kernel
theorem d_X10_would_169 : decode cX10_would 169 = .ok (.iconst 1, 1) := by decide +kernel
theorem d_X10_would_170 : decode cX10_would 170 = .ok (.iadd, 1) := by decide +kernel
theorem d_X10_would_171 : decode cX10_would 171 = .ok (.istore 7, 2) := by decide +kernel
theorem d_X10_would_173 : decode cX10_would 173 = .ok (.iinc 8 1, 3) := by decide +kernel
theorem d_X10_would_176 : decode cX10_would 176 = .ok (.goto (-27), 3) := by decide +kernel
theorem d_X10_would_179 : decode cX10_would 179 = .ok (.iload 7, 2) := by decide +kernel
theorem d_X10_would_181 : decode cX10_would 181 = .ok (.ireturn, 1) := by decide +kernel
theorem d_X10_order_0 : decode cX10_order 0 = .ok (.aload_n 0, 1) := by decide +kernel
theorem d_X10_order_1 : decode cX10_order 1 = .ok (.iconst 0, 1) := by decide +kernel
theorem d_X10_order_2 : decode cX10_order 2 = .ok (.putfield 1, 3) := by decide +kernel
theorem d_X10_order_5 : decode cX10_order 5 = .ok (.aload_n 0, 1) := by decide +kernel
theorem d_X10_order_6 : decode cX10_order 6 = .ok (.iload_n 1, 1) := by decide +kernel
theorem d_X10_order_7 : decode cX10_order 7 = .ok (.invokevirtual 159, 3) := by decide +kernel
theorem d_X10_order_10 : decode cX10_order 10 = .ok (.ifCond .eq 20, 3) := by decide +kernel
theorem d_X10_order_13 : decode cX10_order 13 = .ok (.aload_n 0, 1) := by decide +kernel
theorem d_X10_order_14 : decode cX10_order 14 = .ok (.iload_n 2, 1) := by decide +kernel
theorem d_X10_order_15 : decode cX10_order 15 = .ok (.invokevirtual 133, 3) := by decide +kernel
theorem d_X10_order_18 : decode cX10_order 18 = .ok (.ifCond .eq 12, 3) := by decide +kernel
theorem d_X10_order_21 : decode cX10_order 21 = .ok (.aload_n 0, 1) := by decide +kernel
theorem d_X10_order_22 : decode cX10_order 22 = .ok (.iload_n 1, 1) := by decide +kernel
theorem d_X10_order_23 : decode cX10_order 23 = .ok (.iload_n 2, 1) := by decide +kernel
theorem d_X10_order_24 : decode cX10_order 24 = .ok (.invokevirtual 18, 3) := by decide +kernel
theorem d_X10_order_27 : decode cX10_order 27 = .ok (.goto 5, 3) := by decide +kernel
theorem d_X10_order_30 : decode cX10_order 30 = .ok (.bipush (-10), 2) := by decide +kernel
theorem d_X10_order_32 : decode cX10_order 32 = .ok (.ireturn, 1) := by decide +kernel
theorem d_X10_find_0 : decode cX10_find 0 = .ok (.aload_n 0, 1) := by decide +kernel
theorem d_X10_find_1 : decode cX10_find 1 = .ok (.iconst 0, 1) := by decide +kernel
theorem d_X10_find_2 : decode cX10_find 2 = .ok (.putfield 1, 3) := by decide +kernel
theorem d_X10_find_5 : decode cX10_find 5 = .ok (.iconst 0, 1) := by decide +kernel
theorem d_X10_find_6 : decode cX10_find 6 = .ok (.istore 5, 2) := by decide +kernel
theorem d_X10_find_8 : decode cX10_find 8 = .ok (.iload 5, 2) := by decide +kernel
theorem d_X10_find_10 : decode cX10_find 10 = .ok (.aload_n 0, 1) := by decide +kernel
theorem d_X10_find_11 : decode cX10_find 11 = .ok (.getfield 25, 3) := by decide +kernel
theorem d_X10_find_14 : decode cX10_find 14 = .ok (.if_icmp .ge 94, 3) := by decide +kernel
theorem d_X10_find_17 : decode cX10_find 17 = .ok (.iconst 1, 1) := by decide +kernel
theorem d_X10_find_18 : decode cX10_find 18 = .ok (.istore 6, 2) := by decide +kernel
theorem d_X10_find_20 : decode cX10_find 20 = .ok (.iconst 0, 1) := by decide +kernel
theorem d_X10_find_21 : decode cX10_find 21 = .ok (.istore 7, 2) := by decide +kernel
theorem d_X10_find_23 : decode cX10_find 23 = .ok (.iload 7, 2) := by decide +kernel
theorem d_X10_find_25 : decode cX10_find 25 = .ok (.aload_n 0, 1) := by decide +kernel
theorem d_X10_find_26 : decode cX10_find 26 = .ok (.invokevirtual 11, 3) := by decide +kernel
theorem d_X10_find_29 : decode cX10_find 29 = .ok (.iconst 1, 1) := by decide +kernel
theorem d_X10_find_30 : decode cX10_find 30 = .ok (.isub, 1) := by decide +kernel
theorem d_X10_find_31 : decode cX10_find 31 = .ok (.if_icmp .ge 63, 3) := by decide +kernel
theorem d_X10_find_34 : decode cX10_find 34 = .ok (.iload 6, 2) := by decide +kernel
theorem d_X10_find_36 : decode cX10_find 36 = .ok (.ifCond .eq 49, 3) := by decide +kernel
theorem d_X10_find_39 : decode cX10_find 39 = .ok (.aload_n 0, 1) := by decide +kernel
theorem d_X10_find_40 : decode cX10_find 40 = .ok (.iload 5, 2) := by decide +kernel
theorem d_X10_find_42 : decode cX10_find 42 = .ok (.iload 7, 2) := by decide +kernel
theorem d_X10_find_44 : decode cX10_find 44 = .ok (.invokevirtual 18, 3) := by decide +kernel
theorem d_X10_find_47 : decode cX10_find 47 = .ok (.iload 7, 2) := by decide +kernel
theorem d_X10_find_49 : decode cX10_find 49 = .ok (.ifCond .ne 7, 3) := by decide +kernel
theorem d_X10_find_52 : decode cX10_find 52 = .ok (.iload_n 1, 1) := by decide +kernel
theorem d_X10_find_53 : decode cX10_find 53 = .ok (.goto 25, 3) := by decide +kernel
theorem d_X10_find_56 : decode cX10_find 56 = .ok (.iload 7, 2) := by decide +kernel
theorem d_X10_find_58 : decode cX10_find 58 = .ok (.iconst 1, 1) := by decide +kernel
theorem d_X10_find_59 : decode cX10_find 59 = .ok (.if_icmp .ne 7, 3) := by decide +kernel
theorem d_X10_find_62 : decode cX10_find 62 = .ok (.iload_n 2, 1) := by decide +kernel
theorem d_X10_find_63 : decode cX10_find 63 = .ok (.goto 15, 3) := by decide +kernel
theorem d_X10_find_66 : decode cX10_find 66 = .ok (.iload 7, 2) := by decide +kernel
theorem d_X10_find_68 : decode cX10_find 68 = .ok (.iconst 2, 1) := by decide +kernel
theorem d_X10_find_69 : decode cX10_find 69 = .ok (.if_icmp .ne 7, 3) := by decide +kernel
theorem d_X10_find_72 : decode cX10_find 72 = .ok (.iload_n 3, 1) := by decide +kernel
theorem d_X10_find_73 : decode cX10_find 73 = .ok (.goto 5, 3) := by decide +kernel
theorem d_X10_find_76 : decode cX10_find 76 = .ok (.iload 4, 2) := by decide +kernel
theorem d_X10_find_78 : decode cX10_find 78 = .ok (.if_icmp .ne 7, 3) := by decide +kernel
theorem d_X10_find_81 : decode cX10_find 81 = .ok (.iconst 1, 1) := by decide +kernel
theorem d_X10_find_82 : decode cX10_find 82 = .ok (.goto 4, 3) := by decide +kernel
theorem d_X10_find_85 : decode cX10_find 85 = .ok (.iconst 0, 1) := by decide +kernel
theorem d_X10_find_86 : decode cX10_find 86 = .ok (.istore 6, 2) := by decide +kernel
theorem d_X10_find_88 : decode cX10_find 88 = .ok (.iinc 7 1, 3) := by decide +kernel
theorem d_X10_find_91 : decode cX10_find 91 = .ok (.goto (-68), 3) := by decide +kernel
theorem d_X10_find_94 : decode cX10_find 94 = .ok (.iload 6, 2) := by decide +kernel
theorem d_X10_find_96 : decode cX10_find 96 = .ok (.ifCond .eq 6, 3) := by decide +kernel
theorem d_X10_find_99 : decode cX10_find 99 = .ok (.iload 5, 2) := by decide +kernel
theorem d_X10_find_101 : decode cX10_find 101 = .ok (.ireturn, 1) := by decide +kernel
theorem d_X10_find_102 : decode cX10_find 102 = .ok (.iinc 5 1, 3) := by decide +kernel
theorem d_X10_find_105 : decode cX10_find 105 = .ok (.goto (-97), 3) := by decide +kernel
theorem d_X10_find_108 : decode cX10_find 108 = .ok (.iconst (-1), 1) := by decide +kernel
theorem d_X10_find_109 : decode cX10_find 109 = .ok (.ireturn, 1) := by decide +kernel
theorem d_X10_isScan_0 : decode cX10_isScan 0 = .ok (.iload_n 1, 1) := by decide +kernel
theorem d_X10_isScan_1 : decode cX10_isScan 1 = .ok (.ifCond .lt 15, 3) := by decide +kernel
theorem d_X10_isScan_4 : decode cX10_isScan 4 = .ok (.iload_n 1, 1) := by decide +kernel
theorem d_X10_isScan_5 : decode cX10_isScan 5 = .ok (.aload_n 0, 1) := by decide +kernel
theorem d_X10_isScan_6 : decode cX10_isScan 6 = .ok (.invokevirtual 142, 3) := by decide +kernel
theorem d_X10_isScan_9 : decode cX10_isScan 9 = .ok (.if_icmp .ge 7, 3) := by decide +kernel
theorem d_X10_isScan_12 : decode cX10_isScan 12 = .ok (.iconst 1, 1) := by decide +kernel
theorem d_X10_isScan_13 : decode cX10_isScan 13 = .ok (.goto 4, 3) := by decide +kernel
theorem d_X10_isScan_16 : decode cX10_isScan 16 = .ok (.iconst 0, 1) := by decide +kernel
theorem d_X10_isScan_17 : decode cX10_isScan 17 = .ok (.ireturn, 1) := by decide +kernel
theorem d_X10_phase_0 : decode cX10_phase 0 = .ok (.aload_n 0, 1) := by decide +kernel
theorem d_X10_phase_1 : decode cX10_phase 1 = .ok (.iconst 0, 1) := by decide +kernel
theorem d_X10_phase_2 : decode cX10_phase 2 = .ok (.putfield 1, 3) := by decide +kernel
theorem d_X10_phase_5 : decode cX10_phase 5 = .ok (.aload_n 0, 1) := by decide +kernel
theorem d_X10_phase_6 : decode cX10_phase 6 = .ok (.iload_n 1, 1) := by decide +kernel
theorem d_X10_phase_7 : decode cX10_phase 7 = .ok (.invokevirtual 145, 3) := by decide +kernel
theorem d_X10_phase_10 : decode cX10_phase 10 = .ok (.ifCond .eq 11, 3) := by decide +kernel
theorem d_X10_phase_13 : decode cX10_phase 13 = .ok (.aload_n 0, 1) := by decide +kernel
theorem d_X10_phase_14 : decode cX10_phase 14 = .ok (.iload_n 2, 1) := by decide +kernel
theorem d_X10_phase_15 : decode cX10_phase 15 = .ok (.invokevirtual 307, 3) := by decide +kernel
theorem d_X10_phase_18 : decode cX10_phase 18 = .ok (.ifCond .ne 5, 3) := by decide +kernel
theorem d_X10_phase_21 : decode cX10_phase 21 = .ok (.iconst (-1), 1) := by decide +kernel
theorem d_X10_phase_22 : decode cX10_phase 22 = .ok (.ireturn, 1) := by decide +kernel
theorem d_X10_phase_23 : decode cX10_phase 23 = .ok (.aload_n 0, 1) := by decide +kernel
theorem d_X10_phase_24 : decode cX10_phase 24 = .ok (.invokevirtual 236, 3) := by decide +kernel
theorem d_X10_phase_27 : decode cX10_phase 27 = .ok (.aload_n 0, 1) := by decide +kernel
theorem d_X10_phase_28 : decode cX10_phase 28 = .ok (.getfield 54, 3) := by decide +kernel
theorem d_X10_phase_31 : decode cX10_phase 31 = .ok (.bipush 6, 2) := by decide +kernel
theorem d_X10_phase_33 : decode cX10_phase 33 = .ok (.iload_n 2, 1) := by decide +kernel
theorem d_X10_phase_34 : decode cX10_phase 34 = .ok (.imul, 1) := by decide +kernel
theorem d_X10_phase_35 : decode cX10_phase 35 = .ok (.iload_n 1, 1) := by decide +kernel
theorem d_X10_phase_36 : decode cX10_phase 36 = .ok (.iadd, 1) := by decide +kernel
theorem d_X10_phase_37 : decode cX10_phase 37 = .ok (.iaload, 1) := by decide +kernel
theorem d_X10_phase_38 : decode cX10_phase 38 = .ok (.ireturn, 1) := by decide +kernel
theorem d_X10_residue_0 : decode cX10_residue 0 = .ok (.aload_n 0, 1) := by decide +kernel
theorem d_X10_residue_1 : decode cX10_residue 1 = .ok (.iconst 0, 1) := by decide +kernel
theorem d_X10_residue_2 : decode cX10_residue 2 = .ok (.putfield 1, 3) := by decide +kernel
theorem d_X10_residue_5 : decode cX10_residue 5 = .ok (.aload_n 0, 1) := by decide +kernel
theorem d_X10_residue_6 : decode cX10_residue 6 = .ok (.iload_n 1, 1) := by decide +kernel
theorem d_X10_residue_7 : decode cX10_residue 7 = .ok (.invokevirtual 159, 3) := by decide +kernel
theorem d_X10_residue_10 : decode cX10_residue 10 = .ok (.ifCond .eq 11, 3) := by decide +kernel
theorem d_X10_residue_13 : decode cX10_residue 13 = .ok (.aload_n 0, 1) := by decide +kernel
theorem d_X10_residue_14 : decode cX10_residue 14 = .ok (.iload_n 2, 1) := by decide +kernel
theorem d_X10_residue_15 : decode cX10_residue 15 = .ok (.invokevirtual 307, 3) := by decide +kernel
theorem d_X10_residue_18 : decode cX10_residue 18 = .ok (.ifCond .ne 5, 3) := by decide +kernel
theorem d_X10_residue_21 : decode cX10_residue 21 = .ok (.iconst (-1), 1) := by decide +kernel
theorem d_X10_residue_22 : decode cX10_residue 22 = .ok (.ireturn, 1) := by decide +kernel
theorem d_X10_residue_23 : decode cX10_residue 23 = .ok (.aload_n 0, 1) := by decide +kernel
theorem d_X10_residue_24 : decode cX10_residue 24 = .ok (.invokevirtual 236, 3) := by decide +kernel
theorem d_X10_residue_27 : decode cX10_residue 27 = .ok (.aload_n 0, 1) := by decide +kernel
theorem d_X10_residue_28 : decode cX10_residue 28 = .ok (.iload_n 1, 1) := by decide +kernel
theorem d_X10_residue_29 : decode cX10_residue 29 = .ok (.iload_n 2, 1) := by decide +kernel
theorem d_X10_residue_30 : decode cX10_residue 30 = .ok (.invokevirtual 233, 3) := by decide +kernel
theorem d_X10_residue_33 : decode cX10_residue 33 = .ok (.ireturn, 1) := by decide +kernel
theorem d_X10_many_0 : decode cX10_many 0 = .ok (.aload_n 0, 1) := by decide +kernel
theorem d_X10_many_1 : decode cX10_many 1 = .ok (.iconst 0, 1) := by decide +kernel
theorem d_X10_many_2 : decode cX10_many 2 = .ok (.putfield 1, 3) := by decide +kernel
theorem d_X10_many_5 : decode cX10_many 5 = .ok (.aload_n 0, 1) := by decide +kernel
theorem d_X10_many_6 : decode cX10_many 6 = .ok (.iload_n 1, 1) := by decide +kernel
theorem d_X10_many_7 : decode cX10_many 7 = .ok (.invokevirtual 159, 3) := by decide +kernel
theorem d_X10_many_10 : decode cX10_many 10 = .ok (.ifCond .eq 18, 3) := by decide +kernel
theorem d_X10_many_13 : decode cX10_many 13 = .ok (.aload_n 0, 1) := by decide +kernel
theorem d_X10_many_14 : decode cX10_many 14 = .ok (.iload_n 2, 1) := by decide +kernel
theorem d_X10_many_15 : decode cX10_many 15 = .ok (.iconst 0, 1) := by decide +kernel
theorem d_X10_many_16 : decode cX10_many 16 = .ok (.aload_n 0, 1) := by decide +kernel
theorem d_X10_many_17 : decode cX10_many 17 = .ok (.invokevirtual 148, 3) := by decide +kernel
theorem d_X10_many_20 : decode cX10_many 20 = .ok (.iconst 1, 1) := by decide +kernel
theorem d_X10_many_21 : decode cX10_many 21 = .ok (.isub, 1) := by decide +kernel
theorem d_X10_many_22 : decode cX10_many 22 = .ok (.invokevirtual 124, 3) := by decide +kernel
theorem d_X10_many_25 : decode cX10_many 25 = .ok (.ifCond .ne 5, 3) := by decide +kernel
theorem d_X10_many_28 : decode cX10_many 28 = .ok (.iconst (-1), 1) := by decide +kernel
theorem d_X10_many_29 : decode cX10_many 29 = .ok (.ireturn, 1) := by decide +kernel
theorem d_X10_many_30 : decode cX10_many 30 = .ok (.aload_n 0, 1) := by decide +kernel
theorem d_X10_many_31 : decode cX10_many 31 = .ok (.invokevirtual 236, 3) := by decide +kernel
theorem d_X10_many_34 : decode cX10_many 34 = .ok (.aload_n 0, 1) := by decide +kernel
theorem d_X10_many_35 : decode cX10_many 35 = .ok (.iload_n 1, 1) := by decide +kernel
theorem d_X10_many_36 : decode cX10_many 36 = .ok (.aload_n 0, 1) := by decide +kernel
theorem d_X10_many_37 : decode cX10_many 37 = .ok (.invokevirtual 142, 3) := by decide +kernel
theorem d_X10_many_40 : decode cX10_many 40 = .ok (.invokevirtual 239, 3) := by decide +kernel
theorem d_X10_many_43 : decode cX10_many 43 = .ok (.aload_n 0, 1) := by decide +kernel
theorem d_X10_many_44 : decode cX10_many 44 = .ok (.getfield 57, 3) := by decide +kernel
theorem d_X10_many_47 : decode cX10_many 47 = .ok (.iload_n 2, 1) := by decide +kernel
theorem d_X10_many_48 : decode cX10_many 48 = .ok (.iaload, 1) := by decide +kernel
theorem d_X10_many_49 : decode cX10_many 49 = .ok (.ireturn, 1) := by decide +kernel
theorem d_X10_changesOf_0 : decode cX10_changesOf 0 = .ok (.iconst 0, 1) := by decide +kernel
theorem d_X10_changesOf_1 : decode cX10_changesOf 1 = .ok (.istore_n 2, 1) := by decide +kernel
theorem d_X10_changesOf_2 : decode cX10_changesOf 2 = .ok (.iconst 0, 1) := by decide +kernel
theorem d_X10_changesOf_3 : decode cX10_changesOf 3 = .ok (.istore_n 3, 1) := by decide +kernel
theorem d_X10_changesOf_4 : decode cX10_changesOf 4 = .ok (.iload_n 3, 1) := by decide +kernel
theorem d_X10_changesOf_5 : decode cX10_changesOf 5 = .ok (.aload_n 0, 1) := by decide +kernel
theorem d_X10_changesOf_6 : decode cX10_changesOf 6 = .ok (.invokevirtual 11, 3) := by decide +kernel
theorem d_X10_changesOf_9 : decode cX10_changesOf 9 = .ok (.if_icmp .ge 22, 3) := by decide +kernel
theorem d_X10_changesOf_12 : decode cX10_changesOf 12 = .ok (.aload_n 0, 1) := by decide +kernel
theorem d_X10_changesOf_13 : decode cX10_changesOf 13 = .ok (.iload_n 1, 1) := by decide +kernel
theorem d_X10_changesOf_14 : decode cX10_changesOf 14 = .ok (.iload_n 3, 1) := by decide +kernel
theorem d_X10_changesOf_15 : decode cX10_changesOf 15 = .ok (.invokevirtual 108, 3) := by decide +kernel
theorem d_X10_changesOf_18 : decode cX10_changesOf 18 = .ok (.ifCond .eq 7, 3) := by decide +kernel
theorem d_X10_changesOf_21 : decode cX10_changesOf 21 = .ok (.iload_n 2, 1) := by decide +kernel
theorem d_X10_changesOf_22 : decode cX10_changesOf 22 = .ok (.iconst 1, 1) := by decide +kernel
theorem d_X10_changesOf_23 : decode cX10_changesOf 23 = .ok (.iadd, 1) := by decide +kernel
theorem d_X10_changesOf_24 : decode cX10_changesOf 24 = .ok (.istore_n 2, 1) := by decide +kernel
theorem d_X10_changesOf_25 : decode cX10_changesOf 25 = .ok (.iinc 3 1, 3) := by decide +kernel
theorem d_X10_changesOf_28 : decode cX10_changesOf 28 = .ok (.goto (-24), 3) := by decide +kernel
theorem d_X10_changesOf_31 : decode cX10_changesOf 31 = .ok (.iload_n 2, 1) := by decide +kernel
theorem d_X10_changesOf_32 : decode cX10_changesOf 32 = .ok (.ireturn, 1) := by decide +kernel
theorem d_X10_greatestOrder_0 : decode cX10_greatestOrder 0 = .ok (.iconst 0, 1) := by decide +kernel
theorem d_X10_greatestOrder_1 : decode cX10_greatestOrder 1 = .ok (.istore_n 2, 1) := by decide +kernel
theorem d_X10_greatestOrder_2 : decode cX10_greatestOrder 2 = .ok (.iconst 0, 1) := by decide +kernel
theorem d_X10_greatestOrder_3 : decode cX10_greatestOrder 3 = .ok (.istore_n 3, 1) := by decide +kernel
theorem d_X10_greatestOrder_4 : decode cX10_greatestOrder 4 = .ok (.iload_n 3, 1) := by decide +kernel
theorem d_X10_greatestOrder_5 : decode cX10_greatestOrder 5 = .ok (.aload_n 0, 1) := by decide +kernel
theorem d_X10_greatestOrder_6 : decode cX10_greatestOrder 6 = .ok (.invokevirtual 11, 3) := by decide +kernel
theorem d_X10_greatestOrder_9 : decode cX10_greatestOrder 9 = .ok (.if_icmp .ge 34, 3) := by decide +kernel
theorem d_X10_greatestOrder_12 : decode cX10_greatestOrder 12 = .ok (.aload_n 0, 1) := by decide +kernel
theorem d_X10_greatestOrder_13 : decode cX10_greatestOrder 13 = .ok (.aload_n 0, 1) := by decide +kernel
theorem d_X10_greatestOrder_14 : decode cX10_greatestOrder 14 = .ok (.iload_n 1, 1) := by decide +kernel
theorem d_X10_greatestOrder_15 : decode cX10_greatestOrder 15 = .ok (.iload_n 3, 1) := by decide +kernel
theorem d_X10_greatestOrder_16 : decode cX10_greatestOrder 16 = .ok (.invokevirtual 18, 3) := by decide +kernel
theorem d_X10_greatestOrder_19 : decode cX10_greatestOrder 19 = .ok (.invokevirtual 111, 3) := by decide +kernel
theorem d_X10_greatestOrder_22 : decode cX10_greatestOrder 22 = .ok (.iload_n 2, 1) := by decide +kernel
theorem d_X10_greatestOrder_23 : decode cX10_greatestOrder 23 = .ok (.if_icmp .le 14, 3) := by decide +kernel
theorem d_X10_greatestOrder_26 : decode cX10_greatestOrder 26 = .ok (.aload_n 0, 1) := by decide +kernel
theorem d_X10_greatestOrder_27 : decode cX10_greatestOrder 27 = .ok (.aload_n 0, 1) := by decide +kernel
theorem d_X10_greatestOrder_28 : decode cX10_greatestOrder 28 = .ok (.iload_n 1, 1) := by decide +kernel
theorem d_X10_greatestOrder_29 : decode cX10_greatestOrder 29 = .ok (.iload_n 3, 1) := by decide +kernel
theorem d_X10_greatestOrder_30 : decode cX10_greatestOrder 30 = .ok (.invokevirtual 18, 3) := by decide +kernel
theorem d_X10_greatestOrder_33 : decode cX10_greatestOrder 33 = .ok (.invokevirtual 111, 3) := by decide +kernel
theorem d_X10_greatestOrder_36 : decode cX10_greatestOrder 36 = .ok (.istore_n 2, 1) := by decide +kernel
theorem d_X10_greatestOrder_37 : decode cX10_greatestOrder 37 = .ok (.iinc 3 1, 3) := by decide +kernel
theorem d_X10_greatestOrder_40 : decode cX10_greatestOrder 40 = .ok (.goto (-36), 3) := by decide +kernel
theorem d_X10_greatestOrder_43 : decode cX10_greatestOrder 43 = .ok (.iload_n 2, 1) := by decide +kernel
theorem d_X10_greatestOrder_44 : decode cX10_greatestOrder 44 = .ok (.ireturn, 1) := by decide +kernel
theorem d_X10_one_0 : decode cX10_one 0 = .ok (.iload_n 1, 1) := by decide +kernel
theorem d_X10_one_1 : decode cX10_one 1 = .ok (.ifCond .eq 7, 3) := by decide +kernel
theorem d_X10_one_4 : decode cX10_one 4 = .ok (.iconst 1, 1) := by decide +kernel
theorem d_X10_one_5 : decode cX10_one 5 = .ok (.goto 4, 3) := by decide +kernel
theorem d_X10_one_8 : decode cX10_one 8 = .ok (.iconst 0, 1) := by decide +kernel
theorem d_X10_one_9 : decode cX10_one 9 = .ok (.ireturn, 1) := by decide +kernel
theorem d_X10_path_0 : decode cX10_path 0 = .ok (.aload_n 0, 1) := by decide +kernel
theorem d_X10_path_1 : decode cX10_path 1 = .ok (.iconst 0, 1) := by decide +kernel
theorem d_X10_path_2 : decode cX10_path 2 = .ok (.putfield 1, 3) := by decide +kernel
theorem d_X10_path_5 : decode cX10_path 5 = .ok (.aload_n 0, 1) := by decide +kernel
theorem d_X10_path_6 : decode cX10_path 6 = .ok (.iload_n 1, 1) := by decide +kernel
theorem d_X10_path_7 : decode cX10_path 7 = .ok (.invokevirtual 159, 3) := by decide +kernel
theorem d_X10_path_10 : decode cX10_path 10 = .ok (.ifCond .ne 5, 3) := by decide +kernel
theorem d_X10_path_13 : decode cX10_path 13 = .ok (.iconst (-1), 1) := by decide +kernel
theorem d_X10_path_14 : decode cX10_path 14 = .ok (.ireturn, 1) := by decide +kernel
theorem d_X10_path_15 : decode cX10_path 15 = .ok (.iload_n 2, 1) := by decide +kernel
theorem d_X10_path_16 : decode cX10_path 16 = .ok (.ifCond .ne 9, 3) := by decide +kernel
theorem d_X10_path_19 : decode cX10_path 19 = .ok (.aload_n 0, 1) := by decide +kernel
theorem d_X10_path_20 : decode cX10_path 20 = .ok (.iload_n 1, 1) := by decide +kernel
theorem d_X10_path_21 : decode cX10_path 21 = .ok (.invokevirtual 251, 3) := by decide +kernel
theorem d_X10_path_24 : decode cX10_path 24 = .ok (.ireturn, 1) := by decide +kernel
theorem d_X10_path_25 : decode cX10_path 25 = .ok (.iload_n 2, 1) := by decide +kernel
theorem d_X10_path_26 : decode cX10_path 26 = .ok (.iconst 1, 1) := by decide +kernel
theorem d_X10_path_27 : decode cX10_path 27 = .ok (.if_icmp .ne 13, 3) := by decide +kernel
theorem d_X10_path_30 : decode cX10_path 30 = .ok (.aload_n 0, 1) := by decide +kernel
theorem d_X10_path_31 : decode cX10_path 31 = .ok (.aload_n 0, 1) := by decide +kernel
theorem d_X10_path_32 : decode cX10_path 32 = .ok (.iload_n 1, 1) := by decide +kernel
theorem d_X10_path_33 : decode cX10_path 33 = .ok (.invokevirtual 104, 3) := by decide +kernel
theorem d_X10_path_36 : decode cX10_path 36 = .ok (.invokevirtual 310, 3) := by decide +kernel
theorem d_X10_path_39 : decode cX10_path 39 = .ok (.ireturn, 1) := by decide +kernel
theorem d_X10_path_40 : decode cX10_path 40 = .ok (.iload_n 2, 1) := by decide +kernel
theorem d_X10_path_41 : decode cX10_path 41 = .ok (.iconst 2, 1) := by decide +kernel
theorem d_X10_path_42 : decode cX10_path 42 = .ok (.if_icmp .ne 13, 3) := by decide +kernel
theorem d_X10_path_45 : decode cX10_path 45 = .ok (.aload_n 0, 1) := by decide +kernel
theorem d_X10_path_46 : decode cX10_path 46 = .ok (.aload_n 0, 1) := by decide +kernel
theorem d_X10_path_47 : decode cX10_path 47 = .ok (.iload_n 1, 1) := by decide +kernel
theorem d_X10_path_48 : decode cX10_path 48 = .ok (.invokevirtual 314, 3) := by decide +kernel
theorem d_X10_path_51 : decode cX10_path 51 = .ok (.invokevirtual 310, 3) := by decide +kernel
theorem d_X10_path_54 : decode cX10_path 54 = .ok (.ireturn, 1) := by decide +kernel
theorem d_X10_path_55 : decode cX10_path 55 = .ok (.iload_n 2, 1) := by decide +kernel
theorem d_X10_path_56 : decode cX10_path 56 = .ok (.iconst 3, 1) := by decide +kernel
theorem d_X10_path_57 : decode cX10_path 57 = .ok (.if_icmp .ne 13, 3) := by decide +kernel
theorem d_X10_path_60 : decode cX10_path 60 = .ok (.aload_n 0, 1) := by decide +kernel
theorem d_X10_path_61 : decode cX10_path 61 = .ok (.aload_n 0, 1) := by decide +kernel
theorem d_X10_path_62 : decode cX10_path 62 = .ok (.iload_n 1, 1) := by decide +kernel
theorem d_X10_path_63 : decode cX10_path 63 = .ok (.invokevirtual 254, 3) := by decide +kernel
theorem d_X10_path_66 : decode cX10_path 66 = .ok (.invokevirtual 310, 3) := by decide +kernel
theorem d_X10_path_69 : decode cX10_path 69 = .ok (.ireturn, 1) := by decide +kernel
theorem d_X10_path_70 : decode cX10_path 70 = .ok (.iload_n 2, 1) := by decide +kernel
theorem d_X10_path_71 : decode cX10_path 71 = .ok (.iconst 4, 1) := by decide +kernel
theorem d_X10_path_72 : decode cX10_path 72 = .ok (.if_icmp .ne 9, 3) := by decide +kernel
theorem d_X10_path_75 : decode cX10_path 75 = .ok (.aload_n 0, 1) := by decide +kernel
theorem d_X10_path_76 : decode cX10_path 76 = .ok (.iload_n 1, 1) := by decide +kernel
theorem d_X10_path_77 : decode cX10_path 77 = .ok (.invokevirtual 317, 3) := by decide +kernel
theorem d_X10_path_80 : decode cX10_path 80 = .ok (.ireturn, 1) := by decide +kernel
theorem d_X10_path_81 : decode cX10_path 81 = .ok (.iload_n 2, 1) := by decide +kernel
theorem d_X10_path_82 : decode cX10_path 82 = .ok (.iconst 5, 1) := by decide +kernel
theorem d_X10_path_83 : decode cX10_path 83 = .ok (.if_icmp .ne 9, 3) := by decide +kernel
theorem d_X10_path_86 : decode cX10_path 86 = .ok (.aload_n 0, 1) := by decide +kernel
theorem d_X10_path_87 : decode cX10_path 87 = .ok (.iload_n 1, 1) := by decide +kernel
theorem d_X10_path_88 : decode cX10_path 88 = .ok (.invokevirtual 320, 3) := by decide +kernel
theorem d_X10_path_91 : decode cX10_path 91 = .ok (.ireturn, 1) := by decide +kernel
theorem d_X10_path_92 : decode cX10_path 92 = .ok (.iload_n 2, 1) := by decide +kernel
theorem d_X10_path_93 : decode cX10_path 93 = .ok (.bipush 6, 2) := by decide +kernel
theorem d_X10_path_95 : decode cX10_path 95 = .ok (.if_icmp .ne 13, 3) := by decide +kernel
theorem d_X10_path_98 : decode cX10_path 98 = .ok (.aload_n 0, 1) := by decide +kernel
theorem d_X10_path_99 : decode cX10_path 99 = .ok (.aload_n 0, 1) := by decide +kernel
theorem d_X10_path_100 : decode cX10_path 100 = .ok (.iload_n 1, 1) := by decide +kernel
theorem d_X10_path_101 : decode cX10_path 101 = .ok (.invokevirtual 118, 3) := by decide +kernel
theorem d_X10_path_104 : decode cX10_path 104 = .ok (.invokevirtual 310, 3) := by decide +kernel
theorem d_X10_path_107 : decode cX10_path 107 = .ok (.ireturn, 1) := by decide +kernel
theorem d_X10_path_108 : decode cX10_path 108 = .ok (.iload_n 2, 1) := by decide +kernel
theorem d_X10_path_109 : decode cX10_path 109 = .ok (.bipush 7, 2) := by decide +kernel
theorem d_X10_path_111 : decode cX10_path 111 = .ok (.if_icmp .ne 11, 3) := by decide +kernel
theorem d_X10_path_114 : decode cX10_path 114 = .ok (.aload_n 0, 1) := by decide +kernel
theorem d_X10_path_115 : decode cX10_path 115 = .ok (.iload_n 1, 1) := by decide +kernel
theorem d_X10_path_116 : decode cX10_path 116 = .ok (.invokevirtual 121, 3) := by decide +kernel
theorem d_X10_path_119 : decode cX10_path 119 = .ok (.goto 22, 3) := by decide +kernel
theorem d_X10_path_122 : decode cX10_path 122 = .ok (.iload_n 2, 1) := by decide +kernel
theorem d_X10_path_123 : decode cX10_path 123 = .ok (.bipush 8, 2) := by decide +kernel
theorem d_X10_path_125 : decode cX10_path 125 = .ok (.if_icmp .ne 15, 3) := by decide +kernel
theorem d_X10_path_128 : decode cX10_path 128 = .ok (.aload_n 0, 1) := by decide +kernel
theorem d_X10_path_129 : decode cX10_path 129 = .ok (.aload_n 0, 1) := by decide +kernel
theorem d_X10_path_130 : decode cX10_path 130 = .ok (.iload_n 1, 1) := by decide +kernel
theorem d_X10_path_131 : decode cX10_path 131 = .ok (.invokevirtual 245, 3) := by decide +kernel
theorem d_X10_path_134 : decode cX10_path 134 = .ok (.invokevirtual 310, 3) := by decide +kernel
theorem d_X10_path_137 : decode cX10_path 137 = .ok (.goto 4, 3) := by decide +kernel
theorem d_X10_path_140 : decode cX10_path 140 = .ok (.iconst (-1), 1) := by decide +kernel
theorem d_X10_path_141 : decode cX10_path 141 = .ok (.ireturn, 1) := by decide +kernel
theorem d_X10_leak_0 : decode cX10_leak 0 = .ok (.aload_n 0, 1) := by decide +kernel
theorem d_X10_leak_1 : decode cX10_leak 1 = .ok (.iconst 0, 1) := by decide +kernel
theorem d_X10_leak_2 : decode cX10_leak 2 = .ok (.putfield 1, 3) := by decide +kernel
theorem d_X10_leak_5 : decode cX10_leak 5 = .ok (.iload_n 1, 1) := by decide +kernel
theorem d_X10_leak_6 : decode cX10_leak 6 = .ok (.iconst (-1), 1) := by decide +kernel
theorem d_X10_leak_7 : decode cX10_leak 7 = .ok (.if_icmp .ne 8, 3) := by decide +kernel
theorem d_X10_leak_10 : decode cX10_leak 10 = .ok (.aload_n 0, 1) := by decide +kernel
theorem d_X10_leak_11 : decode cX10_leak 11 = .ok (.invokevirtual 323, 3) := by decide +kernel
theorem d_X10_leak_14 : decode cX10_leak 14 = .ok (.ireturn, 1) := by decide +kernel
theorem d_X10_leak_15 : decode cX10_leak 15 = .ok (.iconst 0, 1) := by decide +kernel
theorem d_X10_leak_16 : decode cX10_leak 16 = .ok (.istore_n 2, 1) := by decide +kernel
theorem d_X10_leak_17 : decode cX10_leak 17 = .ok (.iconst 0, 1) := by decide +kernel
theorem d_X10_leak_18 : decode cX10_leak 18 = .ok (.istore_n 3, 1) := by decide +kernel
theorem d_X10_leak_19 : decode cX10_leak 19 = .ok (.iload_n 3, 1) := by decide +kernel
theorem d_X10_leak_20 : decode cX10_leak 20 = .ok (.aload_n 0, 1) := by decide +kernel
theorem d_X10_leak_21 : decode cX10_leak 21 = .ok (.getfield 25, 3) := by decide +kernel
theorem d_X10_leak_24 : decode cX10_leak 24 = .ok (.if_icmp .ge 31, 3) := by decide +kernel
theorem d_X10_leak_27 : decode cX10_leak 27 = .ok (.aload_n 0, 1) := by decide +kernel
theorem d_X10_leak_28 : decode cX10_leak 28 = .ok (.iload_n 3, 1) := by decide +kernel
theorem d_X10_leak_29 : decode cX10_leak 29 = .ok (.invokevirtual 254, 3) := by decide +kernel
theorem d_X10_leak_32 : decode cX10_leak 32 = .ok (.ifCond .ne 6, 3) := by decide +kernel
theorem d_X10_leak_35 : decode cX10_leak 35 = .ok (.goto 14, 3) := by decide +kernel
theorem d_X10_leak_38 : decode cX10_leak 38 = .ok (.iload_n 2, 1) := by decide +kernel
theorem d_X10_leak_39 : decode cX10_leak 39 = .ok (.iload_n 1, 1) := by decide +kernel
theorem d_X10_leak_40 : decode cX10_leak 40 = .ok (.if_icmp .ne 5, 3) := by decide +kernel
theorem d_X10_leak_43 : decode cX10_leak 43 = .ok (.iload_n 3, 1) := by decide +kernel
theorem d_X10_leak_44 : decode cX10_leak 44 = .ok (.ireturn, 1) := by decide +kernel
theorem d_X10_leak_45 : decode cX10_leak 45 = .ok (.iload_n 2, 1) := by decide +kernel
theorem d_X10_leak_46 : decode cX10_leak 46 = .ok (.iconst 1, 1) := by decide +kernel
theorem d_X10_leak_47 : decode cX10_leak 47 = .ok (.iadd, 1) := by decide +kernel
theorem d_X10_leak_48 : decode cX10_leak 48 = .ok (.istore_n 2, 1) := by decide +kernel
theorem d_X10_leak_49 : decode cX10_leak 49 = .ok (.iinc 3 1, 3) := by decide +kernel
theorem d_X10_leak_52 : decode cX10_leak 52 = .ok (.goto (-33), 3) := by decide +kernel
theorem d_X10_leak_55 : decode cX10_leak 55 = .ok (.iconst (-1), 1) := by decide +kernel
theorem d_X10_leak_56 : decode cX10_leak 56 = .ok (.ireturn, 1) := by decide +kernel
theorem d_X10_lost_0 : decode cX10_lost 0 = .ok (.aload_n 0, 1) := by decide +kernel
theorem d_X10_lost_1 : decode cX10_lost 1 = .ok (.iconst 0, 1) := by decide +kernel
theorem d_X10_lost_2 : decode cX10_lost 2 = .ok (.putfield 1, 3) := by decide +kernel
theorem d_X10_lost_5 : decode cX10_lost 5 = .ok (.iload_n 1, 1) := by decide +kernel
theorem d_X10_lost_6 : decode cX10_lost 6 = .ok (.iconst (-1), 1) := by decide +kernel
theorem d_X10_lost_7 : decode cX10_lost 7 = .ok (.if_icmp .ne 8, 3) := by decide +kernel
theorem d_X10_lost_10 : decode cX10_lost 10 = .ok (.aload_n 0, 1) := by decide +kernel
theorem d_X10_lost_11 : decode cX10_lost 11 = .ok (.invokevirtual 326, 3) := by decide +kernel
theorem d_X10_lost_14 : decode cX10_lost 14 = .ok (.ireturn, 1) := by decide +kernel
theorem d_X10_lost_15 : decode cX10_lost 15 = .ok (.iconst 0, 1) := by decide +kernel
theorem d_X10_lost_16 : decode cX10_lost 16 = .ok (.istore_n 2, 1) := by decide +kernel
theorem d_X10_lost_17 : decode cX10_lost 17 = .ok (.iconst 0, 1) := by decide +kernel
theorem d_X10_lost_18 : decode cX10_lost 18 = .ok (.istore_n 3, 1) := by decide +kernel
theorem d_X10_lost_19 : decode cX10_lost 19 = .ok (.iload_n 3, 1) := by decide +kernel
theorem d_X10_lost_20 : decode cX10_lost 20 = .ok (.aload_n 0, 1) := by decide +kernel
theorem d_X10_lost_21 : decode cX10_lost 21 = .ok (.getfield 25, 3) := by decide +kernel
theorem d_X10_lost_24 : decode cX10_lost 24 = .ok (.if_icmp .ge 31, 3) := by decide +kernel
theorem d_X10_lost_27 : decode cX10_lost 27 = .ok (.aload_n 0, 1) := by decide +kernel
theorem d_X10_lost_28 : decode cX10_lost 28 = .ok (.iload_n 3, 1) := by decide +kernel
theorem d_X10_lost_29 : decode cX10_lost 29 = .ok (.invokevirtual 257, 3) := by decide +kernel
theorem d_X10_lost_32 : decode cX10_lost 32 = .ok (.ifCond .ne 6, 3) := by decide +kernel
theorem d_X10_lost_35 : decode cX10_lost 35 = .ok (.goto 14, 3) := by decide +kernel
theorem d_X10_lost_38 : decode cX10_lost 38 = .ok (.iload_n 2, 1) := by decide +kernel
theorem d_X10_lost_39 : decode cX10_lost 39 = .ok (.iload_n 1, 1) := by decide +kernel
theorem d_X10_lost_40 : decode cX10_lost 40 = .ok (.if_icmp .ne 5, 3) := by decide +kernel
theorem d_X10_lost_43 : decode cX10_lost 43 = .ok (.iload_n 3, 1) := by decide +kernel
theorem d_X10_lost_44 : decode cX10_lost 44 = .ok (.ireturn, 1) := by decide +kernel
theorem d_X10_lost_45 : decode cX10_lost 45 = .ok (.iload_n 2, 1) := by decide +kernel
theorem d_X10_lost_46 : decode cX10_lost 46 = .ok (.iconst 1, 1) := by decide +kernel
theorem d_X10_lost_47 : decode cX10_lost 47 = .ok (.iadd, 1) := by decide +kernel
theorem d_X10_lost_48 : decode cX10_lost 48 = .ok (.istore_n 2, 1) := by decide +kernel
theorem d_X10_lost_49 : decode cX10_lost 49 = .ok (.iinc 3 1, 3) := by decide +kernel
theorem d_X10_lost_52 : decode cX10_lost 52 = .ok (.goto (-33), 3) := by decide +kernel
theorem d_X10_lost_55 : decode cX10_lost 55 = .ok (.iconst (-1), 1) := by decide +kernel
theorem d_X10_lost_56 : decode cX10_lost 56 = .ok (.ireturn, 1) := by decide +kernel
theorem d_X10_worst_0 : decode cX10_worst 0 = .ok (.aload_n 0, 1) := by decide +kernel
theorem d_X10_worst_1 : decode cX10_worst 1 = .ok (.iconst 0, 1) := by decide +kernel
theorem d_X10_worst_2 : decode cX10_worst 2 = .ok (.putfield 1, 3) := by decide +kernel
theorem d_X10_worst_5 : decode cX10_worst 5 = .ok (.iload_n 1, 1) := by decide +kernel
theorem d_X10_worst_6 : decode cX10_worst 6 = .ok (.ifCond .lt 13, 3) := by decide +kernel
theorem d_X10_worst_9 : decode cX10_worst 9 = .ok (.aload_n 0, 1) := by decide +kernel
theorem d_X10_worst_10 : decode cX10_worst 10 = .ok (.iload_n 2, 1) := by decide +kernel
theorem d_X10_worst_11 : decode cX10_worst 11 = .ok (.iconst 0, 1) := by decide +kernel
theorem d_X10_worst_12 : decode cX10_worst 12 = .ok (.iconst 1, 1) := by decide +kernel
theorem d_X10_worst_13 : decode cX10_worst 13 = .ok (.invokevirtual 124, 3) := by decide +kernel
theorem d_X10_worst_16 : decode cX10_worst 16 = .ok (.ifCond .ne 5, 3) := by decide +kernel
theorem d_X10_worst_19 : decode cX10_worst 19 = .ok (.iconst (-1), 1) := by decide +kernel
theorem d_X10_worst_20 : decode cX10_worst 20 = .ok (.ireturn, 1) := by decide +kernel
theorem d_X10_worst_21 : decode cX10_worst 21 = .ok (.iconst 0, 1) := by decide +kernel
theorem d_X10_worst_22 : decode cX10_worst 22 = .ok (.istore_n 3, 1) := by decide +kernel
theorem d_X10_worst_23 : decode cX10_worst 23 = .ok (.iload_n 3, 1) := by decide +kernel
theorem d_X10_worst_24 : decode cX10_worst 24 = .ok (.aload_n 0, 1) := by decide +kernel
theorem d_X10_worst_25 : decode cX10_worst 25 = .ok (.getfield 25, 3) := by decide +kernel
theorem d_X10_worst_28 : decode cX10_worst 28 = .ok (.if_icmp .ge 32, 3) := by decide +kernel
theorem d_X10_worst_31 : decode cX10_worst 31 = .ok (.aload_n 0, 1) := by decide +kernel
theorem d_X10_worst_32 : decode cX10_worst 32 = .ok (.getfield 89, 3) := by decide +kernel
theorem d_X10_worst_35 : decode cX10_worst 35 = .ok (.iload_n 3, 1) := by decide +kernel
theorem d_X10_worst_36 : decode cX10_worst 36 = .ok (.aload_n 0, 1) := by decide +kernel
theorem d_X10_worst_37 : decode cX10_worst 37 = .ok (.iload_n 3, 1) := by decide +kernel
theorem d_X10_worst_38 : decode cX10_worst 38 = .ok (.invokevirtual 254, 3) := by decide +kernel
theorem d_X10_worst_41 : decode cX10_worst 41 = .ok (.ifCond .eq 11, 3) := by decide +kernel
theorem d_X10_worst_44 : decode cX10_worst 44 = .ok (.aload_n 0, 1) := by decide +kernel
theorem d_X10_worst_45 : decode cX10_worst 45 = .ok (.iload_n 3, 1) := by decide +kernel
theorem d_X10_worst_46 : decode cX10_worst 46 = .ok (.invokevirtual 121, 3) := by decide +kernel
theorem d_X10_worst_49 : decode cX10_worst 49 = .ok (.goto 4, 3) := by decide +kernel
theorem d_X10_worst_52 : decode cX10_worst 52 = .ok (.iconst (-1), 1) := by decide +kernel
theorem d_X10_worst_53 : decode cX10_worst 53 = .ok (.iastore, 1) := by decide +kernel
theorem d_X10_worst_54 : decode cX10_worst 54 = .ok (.iinc 3 1, 3) := by decide +kernel
theorem d_X10_worst_57 : decode cX10_worst 57 = .ok (.goto (-34), 3) := by decide +kernel
theorem d_X10_worst_60 : decode cX10_worst 60 = .ok (.iconst 0, 1) := by decide +kernel
theorem d_X10_worst_61 : decode cX10_worst 61 = .ok (.istore_n 3, 1) := by decide +kernel
theorem d_X10_worst_62 : decode cX10_worst 62 = .ok (.iload_n 3, 1) := by decide +kernel
theorem d_X10_worst_63 : decode cX10_worst 63 = .ok (.aload_n 0, 1) := by decide +kernel
theorem d_X10_worst_64 : decode cX10_worst 64 = .ok (.getfield 25, 3) := by decide +kernel
theorem d_X10_worst_67 : decode cX10_worst 67 = .ok (.if_icmp .ge 94, 3) := by decide +kernel
theorem d_X10_worst_70 : decode cX10_worst 70 = .ok (.iconst 0, 1) := by decide +kernel
theorem d_X10_worst_71 : decode cX10_worst 71 = .ok (.istore 4, 2) := by decide +kernel
theorem d_X10_worst_73 : decode cX10_worst 73 = .ok (.iconst 1, 1) := by decide +kernel
theorem d_X10_worst_74 : decode cX10_worst 74 = .ok (.istore 5, 2) := by decide +kernel
theorem d_X10_worst_76 : decode cX10_worst 76 = .ok (.iload 5, 2) := by decide +kernel
theorem d_X10_worst_78 : decode cX10_worst 78 = .ok (.aload_n 0, 1) := by decide +kernel
theorem d_X10_worst_79 : decode cX10_worst 79 = .ok (.getfield 25, 3) := by decide +kernel
theorem d_X10_worst_82 : decode cX10_worst 82 = .ok (.if_icmp .ge 30, 3) := by decide +kernel
theorem d_X10_worst_85 : decode cX10_worst 85 = .ok (.aload_n 0, 1) := by decide +kernel
theorem d_X10_worst_86 : decode cX10_worst 86 = .ok (.getfield 89, 3) := by decide +kernel
theorem d_X10_worst_89 : decode cX10_worst 89 = .ok (.iload 5, 2) := by decide +kernel
theorem d_X10_worst_91 : decode cX10_worst 91 = .ok (.iaload, 1) := by decide +kernel
theorem d_X10_worst_92 : decode cX10_worst 92 = .ok (.aload_n 0, 1) := by decide +kernel
theorem d_X10_worst_93 : decode cX10_worst 93 = .ok (.getfield 89, 3) := by decide +kernel
theorem d_X10_worst_96 : decode cX10_worst 96 = .ok (.iload 4, 2) := by decide +kernel
theorem d_X10_worst_98 : decode cX10_worst 98 = .ok (.iaload, 1) := by decide +kernel
theorem d_X10_worst_99 : decode cX10_worst 99 = .ok (.if_icmp .le 7, 3) := by decide +kernel
theorem d_X10_worst_102 : decode cX10_worst 102 = .ok (.iload 5, 2) := by decide +kernel
theorem d_X10_worst_104 : decode cX10_worst 104 = .ok (.istore 4, 2) := by decide +kernel
theorem d_X10_worst_106 : decode cX10_worst 106 = .ok (.iinc 5 1, 3) := by decide +kernel
theorem d_X10_worst_109 : decode cX10_worst 109 = .ok (.goto (-33), 3) := by decide +kernel
theorem d_X10_worst_112 : decode cX10_worst 112 = .ok (.aload_n 0, 1) := by decide +kernel
theorem d_X10_worst_113 : decode cX10_worst 113 = .ok (.getfield 89, 3) := by decide +kernel
theorem d_X10_worst_116 : decode cX10_worst 116 = .ok (.iload 4, 2) := by decide +kernel
theorem d_X10_worst_118 : decode cX10_worst 118 = .ok (.iaload, 1) := by decide +kernel
theorem d_X10_worst_119 : decode cX10_worst 119 = .ok (.iconst (-1), 1) := by decide +kernel
theorem d_X10_worst_120 : decode cX10_worst 120 = .ok (.if_icmp .ne 5, 3) := by decide +kernel
theorem d_X10_worst_123 : decode cX10_worst 123 = .ok (.iconst (-1), 1) := by decide +kernel
theorem d_X10_worst_124 : decode cX10_worst 124 = .ok (.ireturn, 1) := by decide +kernel
theorem d_X10_worst_125 : decode cX10_worst 125 = .ok (.iload_n 3, 1) := by decide +kernel
theorem d_X10_worst_126 : decode cX10_worst 126 = .ok (.iload_n 1, 1) := by decide +kernel
theorem d_X10_worst_127 : decode cX10_worst 127 = .ok (.if_icmp .ne 20, 3) := by decide +kernel
theorem d_X10_worst_130 : decode cX10_worst 130 = .ok (.iload_n 2, 1) := by decide +kernel
theorem d_X10_worst_131 : decode cX10_worst 131 = .ok (.ifCond .ne 8, 3) := by decide +kernel
theorem d_X10_worst_134 : decode cX10_worst 134 = .ok (.iload 4, 2) := by decide +kernel
theorem d_X10_worst_136 : decode cX10_worst 136 = .ok (.goto 10, 3) := by decide +kernel
theorem d_X10_worst_139 : decode cX10_worst 139 = .ok (.aload_n 0, 1) := by decide +kernel
theorem d_X10_worst_140 : decode cX10_worst 140 = .ok (.getfield 89, 3) := by decide +kernel
theorem d_X10_worst_143 : decode cX10_worst 143 = .ok (.iload 4, 2) := by decide +kernel
theorem d_X10_worst_145 : decode cX10_worst 145 = .ok (.iaload, 1) := by decide +kernel
theorem d_X10_worst_146 : decode cX10_worst 146 = .ok (.ireturn, 1) := by decide +kernel
theorem d_X10_worst_147 : decode cX10_worst 147 = .ok (.aload_n 0, 1) := by decide +kernel
theorem d_X10_worst_148 : decode cX10_worst 148 = .ok (.getfield 89, 3) := by decide +kernel
theorem d_X10_worst_151 : decode cX10_worst 151 = .ok (.iload 4, 2) := by decide +kernel
theorem d_X10_worst_153 : decode cX10_worst 153 = .ok (.iconst (-1), 1) := by decide +kernel
theorem d_X10_worst_154 : decode cX10_worst 154 = .ok (.iastore, 1) := by decide +kernel
theorem d_X10_worst_155 : decode cX10_worst 155 = .ok (.iinc 3 1, 3) := by decide +kernel
theorem d_X10_worst_158 : decode cX10_worst 158 = .ok (.goto (-96), 3) := by decide +kernel
theorem d_X10_worst_161 : decode cX10_worst 161 = .ok (.iconst (-1), 1) := by decide +kernel
theorem d_X10_worst_162 : decode cX10_worst 162 = .ok (.ireturn, 1) := by decide +kernel
theorem d_X10_isStoppedBy_0 : decode cX10_isStoppedBy 0 = .ok (.iconst 0, 1) := by decide +kernel
theorem d_X10_isStoppedBy_1 : decode cX10_isStoppedBy 1 = .ok (.istore 4, 2) := by decide +kernel
theorem d_X10_isStoppedBy_3 : decode cX10_isStoppedBy 3 = .ok (.iload 4, 2) := by decide +kernel
theorem d_X10_isStoppedBy_5 : decode cX10_isStoppedBy 5 = .ok (.bipush 48, 2) := by decide +kernel
theorem d_X10_isStoppedBy_7 : decode cX10_isStoppedBy 7 = .ok (.if_icmp .ge 17, 3) := by decide +kernel
theorem d_X10_isStoppedBy_10 : decode cX10_isStoppedBy 10 = .ok (.aload_n 0, 1) := by decide +kernel
theorem d_X10_isStoppedBy_11 : decode cX10_isStoppedBy 11 = .ok (.getfield 57, 3) := by decide +kernel
theorem d_X10_isStoppedBy_14 : decode cX10_isStoppedBy 14 = .ok (.iload 4, 2) := by decide +kernel
theorem d_X10_isStoppedBy_16 : decode cX10_isStoppedBy 16 = .ok (.iconst 0, 1) := by decide +kernel
theorem d_X10_isStoppedBy_17 : decode cX10_isStoppedBy 17 = .ok (.iastore, 1) := by decide +kernel
theorem d_X10_isStoppedBy_18 : decode cX10_isStoppedBy 18 = .ok (.iinc 4 1, 3) := by decide +kernel
theorem d_X10_isStoppedBy_21 : decode cX10_isStoppedBy 21 = .ok (.goto (-18), 3) := by decide +kernel
theorem d_X10_isStoppedBy_24 : decode cX10_isStoppedBy 24 = .ok (.iconst 0, 1) := by decide +kernel
theorem d_X10_isStoppedBy_25 : decode cX10_isStoppedBy 25 = .ok (.istore 4, 2) := by decide +kernel
theorem d_X10_isStoppedBy_27 : decode cX10_isStoppedBy 27 = .ok (.iload 4, 2) := by decide +kernel
theorem d_X10_isStoppedBy_29 : decode cX10_isStoppedBy 29 = .ok (.aload_n 0, 1) := by decide +kernel
theorem d_X10_isStoppedBy_30 : decode cX10_isStoppedBy 30 = .ok (.iload_n 3, 1) := by decide +kernel
theorem d_X10_isStoppedBy_31 : decode cX10_isStoppedBy 31 = .ok (.invokevirtual 136, 3) := by decide +kernel
theorem d_X10_isStoppedBy_34 : decode cX10_isStoppedBy 34 = .ok (.if_icmp .ge 129, 3) := by decide +kernel
theorem d_X10_isStoppedBy_37 : decode cX10_isStoppedBy 37 = .ok (.iconst 0, 1) := by decide +kernel
theorem d_X10_isStoppedBy_38 : decode cX10_isStoppedBy 38 = .ok (.istore 5, 2) := by decide +kernel
theorem d_X10_isStoppedBy_40 : decode cX10_isStoppedBy 40 = .ok (.iconst 0, 1) := by decide +kernel
theorem d_X10_isStoppedBy_41 : decode cX10_isStoppedBy 41 = .ok (.istore 6, 2) := by decide +kernel
theorem d_X10_isStoppedBy_43 : decode cX10_isStoppedBy 43 = .ok (.iconst 0, 1) := by decide +kernel
theorem d_X10_isStoppedBy_44 : decode cX10_isStoppedBy 44 = .ok (.istore 7, 2) := by decide +kernel
theorem d_X10_isStoppedBy_46 : decode cX10_isStoppedBy 46 = .ok (.iload 7, 2) := by decide +kernel
theorem d_X10_isStoppedBy_48 : decode cX10_isStoppedBy 48 = .ok (.aload_n 0, 1) := by decide +kernel
theorem d_X10_isStoppedBy_49 : decode cX10_isStoppedBy 49 = .ok (.invokevirtual 11, 3) := by decide +kernel
theorem d_X10_isStoppedBy_52 : decode cX10_isStoppedBy 52 = .ok (.if_icmp .ge 56, 3) := by decide +kernel
theorem d_X10_isStoppedBy_55 : decode cX10_isStoppedBy 55 = .ok (.iload 4, 2) := by decide +kernel
theorem d_X10_isStoppedBy_57 : decode cX10_isStoppedBy 57 = .ok (.aload_n 0, 1) := by decide +kernel
theorem d_X10_isStoppedBy_58 : decode cX10_isStoppedBy 58 = .ok (.iload 7, 2) := by decide +kernel
theorem d_X10_isStoppedBy_60 : decode cX10_isStoppedBy 60 = .ok (.iload_n 3, 1) := by decide +kernel
theorem d_X10_isStoppedBy_61 : decode cX10_isStoppedBy 61 = .ok (.invokevirtual 207, 3) := by decide +kernel
theorem d_X10_isStoppedBy_64 : decode cX10_isStoppedBy 64 = .ok (.imul, 1) := by decide +kernel
theorem d_X10_isStoppedBy_65 : decode cX10_isStoppedBy 65 = .ok (.istore 8, 2) := by decide +kernel
theorem d_X10_isStoppedBy_67 : decode cX10_isStoppedBy 67 = .ok (.iload 5, 2) := by decide +kernel
theorem d_X10_isStoppedBy_69 : decode cX10_isStoppedBy 69 = .ok (.aload_n 0, 1) := by decide +kernel
theorem d_X10_isStoppedBy_70 : decode cX10_isStoppedBy 70 = .ok (.iload_n 1, 1) := by decide +kernel
theorem d_X10_isStoppedBy_71 : decode cX10_isStoppedBy 71 = .ok (.iload 7, 2) := by decide +kernel
theorem d_X10_isStoppedBy_73 : decode cX10_isStoppedBy 73 = .ok (.invokevirtual 108, 3) := by decide +kernel
theorem d_X10_isStoppedBy_76 : decode cX10_isStoppedBy 76 = .ok (.iload 8, 2) := by decide +kernel
theorem d_X10_isStoppedBy_78 : decode cX10_isStoppedBy 78 = .ok (.imul, 1) := by decide +kernel
theorem d_X10_isStoppedBy_79 : decode cX10_isStoppedBy 79 = .ok (.iadd, 1) := by decide +kernel
theorem d_X10_isStoppedBy_80 : decode cX10_isStoppedBy 80 = .ok (.istore 5, 2) := by decide +kernel
theorem d_X10_isStoppedBy_82 : decode cX10_isStoppedBy 82 = .ok (.iload_n 2, 1) := by decide +kernel
theorem d_X10_isStoppedBy_83 : decode cX10_isStoppedBy 83 = .ok (.iconst (-1), 1) := by decide +kernel
theorem d_X10_isStoppedBy_84 : decode cX10_isStoppedBy 84 = .ok (.if_icmp .eq 18, 3) := by decide +kernel
theorem d_X10_isStoppedBy_87 : decode cX10_isStoppedBy 87 = .ok (.iload 6, 2) := by decide +kernel
theorem d_X10_isStoppedBy_89 : decode cX10_isStoppedBy 89 = .ok (.aload_n 0, 1) := by decide +kernel
theorem d_X10_isStoppedBy_90 : decode cX10_isStoppedBy 90 = .ok (.iload_n 2, 1) := by decide +kernel
theorem d_X10_isStoppedBy_91 : decode cX10_isStoppedBy 91 = .ok (.iload 7, 2) := by decide +kernel
theorem d_X10_isStoppedBy_93 : decode cX10_isStoppedBy 93 = .ok (.invokevirtual 108, 3) := by decide +kernel
theorem d_X10_isStoppedBy_96 : decode cX10_isStoppedBy 96 = .ok (.iload 8, 2) := by decide +kernel
theorem d_X10_isStoppedBy_98 : decode cX10_isStoppedBy 98 = .ok (.imul, 1) := by decide +kernel
theorem d_X10_isStoppedBy_99 : decode cX10_isStoppedBy 99 = .ok (.iadd, 1) := by decide +kernel
theorem d_X10_isStoppedBy_100 : decode cX10_isStoppedBy 100 = .ok (.istore 6, 2) := by decide +kernel
theorem d_X10_isStoppedBy_102 : decode cX10_isStoppedBy 102 = .ok (.iinc 7 1, 3) := by decide +kernel
theorem d_X10_isStoppedBy_105 : decode cX10_isStoppedBy 105 = .ok (.goto (-59), 3) := by decide +kernel
theorem d_X10_isStoppedBy_108 : decode cX10_isStoppedBy 108 = .ok (.aload_n 0, 1) := by decide +kernel
theorem d_X10_isStoppedBy_109 : decode cX10_isStoppedBy 109 = .ok (.iload 5, 2) := by decide +kernel
theorem d_X10_isStoppedBy_111 : decode cX10_isStoppedBy 111 = .ok (.aload_n 0, 1) := by decide +kernel
theorem d_X10_isStoppedBy_112 : decode cX10_isStoppedBy 112 = .ok (.invokevirtual 155, 3) := by decide +kernel
theorem d_X10_isStoppedBy_115 : decode cX10_isStoppedBy 115 = .ok (.ifCond .eq 8, 3) := by decide +kernel
theorem d_X10_isStoppedBy_118 : decode cX10_isStoppedBy 118 = .ok (.iload 6, 2) := by decide +kernel
theorem d_X10_isStoppedBy_120 : decode cX10_isStoppedBy 120 = .ok (.goto 15, 3) := by decide +kernel
theorem d_X10_isStoppedBy_123 : decode cX10_isStoppedBy 123 = .ok (.iload 4, 2) := by decide +kernel
theorem d_X10_isStoppedBy_125 : decode cX10_isStoppedBy 125 = .ok (.aload_n 0, 1) := by decide +kernel
theorem d_X10_isStoppedBy_126 : decode cX10_isStoppedBy 126 = .ok (.aload_n 0, 1) := by decide +kernel
theorem d_X10_isStoppedBy_127 : decode cX10_isStoppedBy 127 = .ok (.invokevirtual 11, 3) := by decide +kernel
theorem d_X10_isStoppedBy_130 : decode cX10_isStoppedBy 130 = .ok (.iload_n 3, 1) := by decide +kernel
theorem d_X10_isStoppedBy_131 : decode cX10_isStoppedBy 131 = .ok (.invokevirtual 207, 3) := by decide +kernel
theorem d_X10_isStoppedBy_134 : decode cX10_isStoppedBy 134 = .ok (.imul, 1) := by decide +kernel
theorem d_X10_isStoppedBy_135 : decode cX10_isStoppedBy 135 = .ok (.isub, 1) := by decide +kernel
theorem d_X10_isStoppedBy_136 : decode cX10_isStoppedBy 136 = .ok (.invokevirtual 210, 3) := by decide +kernel
theorem d_X10_isStoppedBy_139 : decode cX10_isStoppedBy 139 = .ok (.istore 7, 2) := by decide +kernel
theorem d_X10_isStoppedBy_141 : decode cX10_isStoppedBy 141 = .ok (.aload_n 0, 1) := by decide +kernel
theorem d_X10_isStoppedBy_142 : decode cX10_isStoppedBy 142 = .ok (.getfield 57, 3) := by decide +kernel
theorem d_X10_isStoppedBy_145 : decode cX10_isStoppedBy 145 = .ok (.iload 7, 2) := by decide +kernel
theorem d_X10_isStoppedBy_147 : decode cX10_isStoppedBy 147 = .ok (.aload_n 0, 1) := by decide +kernel
theorem d_X10_isStoppedBy_148 : decode cX10_isStoppedBy 148 = .ok (.getfield 57, 3) := by decide +kernel
theorem d_X10_isStoppedBy_151 : decode cX10_isStoppedBy 151 = .ok (.iload 7, 2) := by decide +kernel
theorem d_X10_isStoppedBy_153 : decode cX10_isStoppedBy 153 = .ok (.iaload, 1) := by decide +kernel
theorem d_X10_isStoppedBy_154 : decode cX10_isStoppedBy 154 = .ok (.iconst 1, 1) := by decide +kernel
theorem d_X10_isStoppedBy_155 : decode cX10_isStoppedBy 155 = .ok (.iadd, 1) := by decide +kernel
theorem d_X10_isStoppedBy_156 : decode cX10_isStoppedBy 156 = .ok (.iastore, 1) := by decide +kernel
theorem d_X10_isStoppedBy_157 : decode cX10_isStoppedBy 157 = .ok (.iinc 4 1, 3) := by decide +kernel
theorem d_X10_isStoppedBy_160 : decode cX10_isStoppedBy 160 = .ok (.goto (-133), 3) := by decide +kernel
theorem d_X10_isStoppedBy_163 : decode cX10_isStoppedBy 163 = .ok (.aload_n 0, 1) := by decide +kernel
theorem d_X10_isStoppedBy_164 : decode cX10_isStoppedBy 164 = .ok (.invokevirtual 227, 3) := by decide +kernel
theorem d_X10_isStoppedBy_167 : decode cX10_isStoppedBy 167 = .ok (.ireturn, 1) := by decide +kernel
theorem d_X10_stopped_0 : decode cX10_stopped 0 = .ok (.aload_n 0, 1) := by decide +kernel
theorem d_X10_stopped_1 : decode cX10_stopped 1 = .ok (.iconst 0, 1) := by decide +kernel
theorem d_X10_stopped_2 : decode cX10_stopped 2 = .ok (.putfield 1, 3) := by decide +kernel
theorem d_X10_stopped_5 : decode cX10_stopped 5 = .ok (.aload_n 0, 1) := by decide +kernel
theorem d_X10_stopped_6 : decode cX10_stopped 6 = .ok (.iload_n 1, 1) := by decide +kernel
theorem d_X10_stopped_7 : decode cX10_stopped 7 = .ok (.invokevirtual 159, 3) := by decide +kernel
theorem d_X10_stopped_10 : decode cX10_stopped 10 = .ok (.ifCond .ne 5, 3) := by decide +kernel
theorem d_X10_stopped_13 : decode cX10_stopped 13 = .ok (.iconst (-1), 1) := by decide +kernel
theorem d_X10_stopped_14 : decode cX10_stopped 14 = .ok (.ireturn, 1) := by decide +kernel
theorem d_X10_stopped_15 : decode cX10_stopped 15 = .ok (.iconst 0, 1) := by decide +kernel
theorem d_X10_stopped_16 : decode cX10_stopped 16 = .ok (.istore_n 2, 1) := by decide +kernel
theorem d_X10_stopped_17 : decode cX10_stopped 17 = .ok (.iconst 0, 1) := by decide +kernel
theorem d_X10_stopped_18 : decode cX10_stopped 18 = .ok (.istore_n 3, 1) := by decide +kernel
theorem d_X10_stopped_19 : decode cX10_stopped 19 = .ok (.iload_n 3, 1) := by decide +kernel
theorem d_X10_stopped_20 : decode cX10_stopped 20 = .ok (.iconst 4, 1) := by decide +kernel
theorem d_X10_stopped_21 : decode cX10_stopped 21 = .ok (.if_icmp .ge 28, 3) := by decide +kernel
theorem d_X10_stopped_24 : decode cX10_stopped 24 = .ok (.aload_n 0, 1) := by decide +kernel
theorem d_X10_stopped_25 : decode cX10_stopped 25 = .ok (.iload_n 1, 1) := by decide +kernel
theorem d_X10_stopped_26 : decode cX10_stopped 26 = .ok (.aload_n 0, 1) := by decide +kernel
theorem d_X10_stopped_27 : decode cX10_stopped 27 = .ok (.invokevirtual 213, 3) := by decide +kernel
theorem d_X10_stopped_30 : decode cX10_stopped 30 = .ok (.iload_n 3, 1) := by decide +kernel
theorem d_X10_stopped_31 : decode cX10_stopped 31 = .ok (.invokevirtual 329, 3) := by decide +kernel
theorem d_X10_stopped_34 : decode cX10_stopped 34 = .ok (.ifCond .eq 9, 3) := by decide +kernel
theorem d_X10_stopped_37 : decode cX10_stopped 37 = .ok (.iload_n 2, 1) := by decide +kernel
theorem d_X10_stopped_38 : decode cX10_stopped 38 = .ok (.iconst 1, 1) := by decide +kernel
theorem d_X10_stopped_39 : decode cX10_stopped 39 = .ok (.iload_n 3, 1) := by decide +kernel
theorem d_X10_stopped_40 : decode cX10_stopped 40 = .ok (.ishl, 1) := by decide +kernel
theorem d_X10_stopped_41 : decode cX10_stopped 41 = .ok (.ior, 1) := by decide +kernel
theorem d_X10_stopped_42 : decode cX10_stopped 42 = .ok (.istore_n 2, 1) := by decide +kernel
theorem d_X10_stopped_43 : decode cX10_stopped 43 = .ok (.iinc 3 1, 3) := by decide +kernel
theorem d_X10_stopped_46 : decode cX10_stopped 46 = .ok (.goto (-27), 3) := by decide +kernel
theorem d_X10_stopped_49 : decode cX10_stopped 49 = .ok (.iload_n 2, 1) := by decide +kernel
theorem d_X10_stopped_50 : decode cX10_stopped 50 = .ok (.ireturn, 1) := by decide +kernel
theorem d_X10_spare_0 : decode cX10_spare 0 = .ok (.aload_n 0, 1) := by decide +kernel
theorem d_X10_spare_1 : decode cX10_spare 1 = .ok (.iconst 0, 1) := by decide +kernel
theorem d_X10_spare_2 : decode cX10_spare 2 = .ok (.putfield 1, 3) := by decide +kernel
theorem d_X10_spare_5 : decode cX10_spare 5 = .ok (.aload_n 0, 1) := by decide +kernel
theorem d_X10_spare_6 : decode cX10_spare 6 = .ok (.iload_n 1, 1) := by decide +kernel
theorem d_X10_spare_7 : decode cX10_spare 7 = .ok (.invokevirtual 139, 3) := by decide +kernel
theorem d_X10_spare_10 : decode cX10_spare 10 = .ok (.ifCond .ne 5, 3) := by decide +kernel
theorem d_X10_spare_13 : decode cX10_spare 13 = .ok (.iconst (-1), 1) := by decide +kernel
theorem d_X10_spare_14 : decode cX10_spare 14 = .ok (.ireturn, 1) := by decide +kernel
theorem d_X10_spare_15 : decode cX10_spare 15 = .ok (.aload_n 0, 1) := by decide +kernel
theorem d_X10_spare_16 : decode cX10_spare 16 = .ok (.getfield 7, 3) := by decide +kernel
theorem d_X10_spare_19 : decode cX10_spare 19 = .ok (.bipush 49, 2) := by decide +kernel
theorem d_X10_spare_21 : decode cX10_spare 21 = .ok (.iload_n 1, 1) := by decide +kernel
theorem d_X10_spare_22 : decode cX10_spare 22 = .ok (.iadd, 1) := by decide +kernel
theorem d_X10_spare_23 : decode cX10_spare 23 = .ok (.iaload, 1) := by decide +kernel
theorem d_X10_spare_24 : decode cX10_spare 24 = .ok (.istore_n 2, 1) := by decide +kernel
theorem d_X10_spare_25 : decode cX10_spare 25 = .ok (.aload_n 0, 1) := by decide +kernel
theorem d_X10_spare_26 : decode cX10_spare 26 = .ok (.invokevirtual 142, 3) := by decide +kernel
theorem d_X10_spare_29 : decode cX10_spare 29 = .ok (.aload_n 0, 1) := by decide +kernel
theorem d_X10_spare_30 : decode cX10_spare 30 = .ok (.iload_n 1, 1) := by decide +kernel
theorem d_X10_spare_31 : decode cX10_spare 31 = .ok (.invokevirtual 136, 3) := by decide +kernel
theorem d_X10_spare_34 : decode cX10_spare 34 = .ok (.idiv, 1) := by decide +kernel
theorem d_X10_spare_35 : decode cX10_spare 35 = .ok (.istore_n 3, 1) := by decide +kernel
theorem d_X10_spare_36 : decode cX10_spare 36 = .ok (.iconst (-1), 1) := by decide +kernel
theorem d_X10_spare_37 : decode cX10_spare 37 = .ok (.istore 4, 2) := by decide +kernel
theorem d_X10_spare_39 : decode cX10_spare 39 = .ok (.iconst 1, 1) := by decide +kernel
theorem d_X10_spare_40 : decode cX10_spare 40 = .ok (.istore 5, 2) := by decide +kernel
theorem d_X10_spare_42 : decode cX10_spare 42 = .ok (.iload 5, 2) := by decide +kernel
theorem d_X10_spare_44 : decode cX10_spare 44 = .ok (.bipush 12, 2) := by decide +kernel
theorem d_X10_spare_46 : decode cX10_spare 46 = .ok (.if_icmp .gt 57, 3) := by decide +kernel
theorem d_X10_spare_49 : decode cX10_spare 49 = .ok (.iload 4, 2) := by decide +kernel
theorem d_X10_spare_51 : decode cX10_spare 51 = .ok (.iconst (-1), 1) := by decide +kernel
theorem d_X10_spare_52 : decode cX10_spare 52 = .ok (.if_icmp .ne 51, 3) := by decide +kernel
theorem d_X10_spare_55 : decode cX10_spare 55 = .ok (.iload_n 3, 1) := by decide +kernel
theorem d_X10_spare_56 : decode cX10_spare 56 = .ok (.iload 5, 2) := by decide +kernel
theorem d_X10_spare_58 : decode cX10_spare 58 = .ok (.imul, 1) := by decide +kernel
theorem d_X10_spare_59 : decode cX10_spare 59 = .ok (.sipush 512, 3) := by decide +kernel
theorem d_X10_spare_62 : decode cX10_spare 62 = .ok (.if_icmp .le 6, 3) := by decide +kernel
theorem d_X10_spare_65 : decode cX10_spare 65 = .ok (.goto 32, 3) := by decide +kernel
theorem d_X10_spare_68 : decode cX10_spare 68 = .ok (.aload_n 0, 1) := by decide +kernel
theorem d_X10_spare_69 : decode cX10_spare 69 = .ok (.getfield 7, 3) := by decide +kernel
theorem d_X10_spare_72 : decode cX10_spare 72 = .ok (.bipush 49, 2) := by decide +kernel
theorem d_X10_spare_74 : decode cX10_spare 74 = .ok (.iload_n 1, 1) := by decide +kernel
theorem d_X10_spare_75 : decode cX10_spare 75 = .ok (.iadd, 1) := by decide +kernel
theorem d_X10_spare_76 : decode cX10_spare 76 = .ok (.iload 5, 2) := by decide +kernel
theorem d_X10_spare_78 : decode cX10_spare 78 = .ok (.iconst 1, 1) := by decide +kernel
theorem d_X10_spare_79 : decode cX10_spare 79 = .ok (.isub, 1) := by decide +kernel
theorem d_X10_spare_80 : decode cX10_spare 80 = .ok (.iastore, 1) := by decide +kernel
theorem d_X10_spare_81 : decode cX10_spare 81 = .ok (.aload_n 0, 1) := by decide +kernel
theorem d_X10_spare_82 : decode cX10_spare 82 = .ok (.iconst 0, 1) := by decide +kernel
theorem d_X10_spare_83 : decode cX10_spare 83 = .ok (.putfield 32, 3) := by decide +kernel
theorem d_X10_spare_86 : decode cX10_spare 86 = .ok (.aload_n 0, 1) := by decide +kernel
theorem d_X10_spare_87 : decode cX10_spare 87 = .ok (.invokevirtual 332, 3) := by decide +kernel
theorem d_X10_spare_90 : decode cX10_spare 90 = .ok (.ifCond .eq 7, 3) := by decide +kernel
theorem d_X10_spare_93 : decode cX10_spare 93 = .ok (.iload 5, 2) := by decide +kernel
theorem d_X10_spare_95 : decode cX10_spare 95 = .ok (.istore 4, 2) := by decide +kernel
theorem d_X10_spare_97 : decode cX10_spare 97 = .ok (.iinc 5 1, 3) := by decide +kernel
theorem d_X10_spare_100 : decode cX10_spare 100 = .ok (.goto (-58), 3) := by decide +kernel
theorem d_X10_spare_103 : decode cX10_spare 103 = .ok (.aload_n 0, 1) := by decide +kernel
theorem d_X10_spare_104 : decode cX10_spare 104 = .ok (.getfield 7, 3) := by decide +kernel
theorem d_X10_spare_107 : decode cX10_spare 107 = .ok (.bipush 49, 2) := by decide +kernel
theorem d_X10_spare_109 : decode cX10_spare 109 = .ok (.iload_n 1, 1) := by decide +kernel
theorem d_X10_spare_110 : decode cX10_spare 110 = .ok (.iadd, 1) := by decide +kernel
theorem d_X10_spare_111 : decode cX10_spare 111 = .ok (.iload_n 2, 1) := by decide +kernel
theorem d_X10_spare_112 : decode cX10_spare 112 = .ok (.iastore, 1) := by decide +kernel
theorem d_X10_spare_113 : decode cX10_spare 113 = .ok (.aload_n 0, 1) := by decide +kernel
theorem d_X10_spare_114 : decode cX10_spare 114 = .ok (.iconst 0, 1) := by decide +kernel
theorem d_X10_spare_115 : decode cX10_spare 115 = .ok (.putfield 32, 3) := by decide +kernel
theorem d_X10_spare_118 : decode cX10_spare 118 = .ok (.iload 4, 2) := by decide +kernel
theorem d_X10_spare_120 : decode cX10_spare 120 = .ok (.ireturn, 1) := by decide +kernel
theorem d_X10_isGoodSoFar_0 : decode cX10_isGoodSoFar 0 = .ok (.iconst 0, 1) := by decide +kernel
theorem d_X10_isGoodSoFar_1 : decode cX10_isGoodSoFar 1 = .ok (.istore_n 1, 1) := by decide +kernel
theorem d_X10_isGoodSoFar_2 : decode cX10_isGoodSoFar 2 = .ok (.iload_n 1, 1) := by decide +kernel
theorem d_X10_isGoodSoFar_3 : decode cX10_isGoodSoFar 3 = .ok (.aload_n 0, 1) := by decide +kernel
theorem d_X10_isGoodSoFar_4 : decode cX10_isGoodSoFar 4 = .ok (.getfield 25, 3) := by decide +kernel
theorem d_X10_isGoodSoFar_7 : decode cX10_isGoodSoFar 7 = .ok (.if_icmp .ge 71, 3) := by decide +kernel
theorem d_X10_isGoodSoFar_10 : decode cX10_isGoodSoFar 10 = .ok (.aload_n 0, 1) := by decide +kernel
theorem d_X10_isGoodSoFar_11 : decode cX10_isGoodSoFar 11 = .ok (.iload_n 1, 1) := by decide +kernel
theorem d_X10_isGoodSoFar_12 : decode cX10_isGoodSoFar 12 = .ok (.invokevirtual 248, 3) := by decide +kernel
theorem d_X10_isGoodSoFar_15 : decode cX10_isGoodSoFar 15 = .ok (.istore_n 2, 1) := by decide +kernel
theorem d_X10_isGoodSoFar_16 : decode cX10_isGoodSoFar 16 = .ok (.iload_n 2, 1) := by decide +kernel
theorem d_X10_isGoodSoFar_17 : decode cX10_isGoodSoFar 17 = .ok (.ifCond .ne 14, 3) := by decide +kernel
theorem d_X10_isGoodSoFar_20 : decode cX10_isGoodSoFar 20 = .ok (.aload_n 0, 1) := by decide +kernel
theorem d_X10_isGoodSoFar_21 : decode cX10_isGoodSoFar 21 = .ok (.iload_n 1, 1) := by decide +kernel
theorem d_X10_isGoodSoFar_22 : decode cX10_isGoodSoFar 22 = .ok (.invokevirtual 104, 3) := by decide +kernel
theorem d_X10_isGoodSoFar_25 : decode cX10_isGoodSoFar 25 = .ok (.ifCond .ne 6, 3) := by decide +kernel
theorem d_X10_isGoodSoFar_28 : decode cX10_isGoodSoFar 28 = .ok (.goto 44, 3) := by decide +kernel
theorem d_X10_isGoodSoFar_31 : decode cX10_isGoodSoFar 31 = .ok (.iconst 0, 1) := by decide +kernel
theorem d_X10_isGoodSoFar_32 : decode cX10_isGoodSoFar 32 = .ok (.istore_n 3, 1) := by decide +kernel
theorem d_X10_isGoodSoFar_33 : decode cX10_isGoodSoFar 33 = .ok (.iload_n 3, 1) := by decide +kernel
theorem d_X10_isGoodSoFar_34 : decode cX10_isGoodSoFar 34 = .ok (.bipush 48, 2) := by decide +kernel
theorem d_X10_isGoodSoFar_36 : decode cX10_isGoodSoFar 36 = .ok (.if_icmp .ge 26, 3) := by decide +kernel
theorem d_X10_isGoodSoFar_39 : decode cX10_isGoodSoFar 39 = .ok (.aload_n 0, 1) := by decide +kernel
theorem d_X10_isGoodSoFar_40 : decode cX10_isGoodSoFar 40 = .ok (.getfield 57, 3) := by decide +kernel
theorem d_X10_isGoodSoFar_43 : decode cX10_isGoodSoFar 43 = .ok (.iload_n 3, 1) := by decide +kernel
theorem d_X10_isGoodSoFar_44 : decode cX10_isGoodSoFar 44 = .ok (.aload_n 0, 1) := by decide +kernel
theorem d_X10_isGoodSoFar_45 : decode cX10_isGoodSoFar 45 = .ok (.getfield 92, 3) := by decide +kernel
theorem d_X10_isGoodSoFar_48 : decode cX10_isGoodSoFar 48 = .ok (.bipush 48, 2) := by decide +kernel
theorem d_X10_isGoodSoFar_50 : decode cX10_isGoodSoFar 50 = .ok (.iload_n 1, 1) := by decide +kernel
theorem d_X10_isGoodSoFar_51 : decode cX10_isGoodSoFar 51 = .ok (.imul, 1) := by decide +kernel
theorem d_X10_isGoodSoFar_52 : decode cX10_isGoodSoFar 52 = .ok (.iload_n 3, 1) := by decide +kernel
theorem d_X10_isGoodSoFar_53 : decode cX10_isGoodSoFar 53 = .ok (.iadd, 1) := by decide +kernel
theorem d_X10_isGoodSoFar_54 : decode cX10_isGoodSoFar 54 = .ok (.iaload, 1) := by decide +kernel
theorem d_X10_isGoodSoFar_55 : decode cX10_isGoodSoFar 55 = .ok (.iastore, 1) := by decide +kernel
theorem d_X10_isGoodSoFar_56 : decode cX10_isGoodSoFar 56 = .ok (.iinc 3 1, 3) := by decide +kernel
theorem d_X10_isGoodSoFar_59 : decode cX10_isGoodSoFar 59 = .ok (.goto (-26), 3) := by decide +kernel
theorem d_X10_isGoodSoFar_62 : decode cX10_isGoodSoFar 62 = .ok (.aload_n 0, 1) := by decide +kernel
theorem d_X10_isGoodSoFar_63 : decode cX10_isGoodSoFar 63 = .ok (.invokevirtual 227, 3) := by decide +kernel
theorem d_X10_isGoodSoFar_66 : decode cX10_isGoodSoFar 66 = .ok (.iload_n 2, 1) := by decide +kernel
theorem d_X10_isGoodSoFar_67 : decode cX10_isGoodSoFar 67 = .ok (.if_icmp .eq 5, 3) := by decide +kernel
theorem d_X10_isGoodSoFar_70 : decode cX10_isGoodSoFar 70 = .ok (.iconst 0, 1) := by decide +kernel
theorem d_X10_isGoodSoFar_71 : decode cX10_isGoodSoFar 71 = .ok (.ireturn, 1) := by decide +kernel
theorem d_X10_isGoodSoFar_72 : decode cX10_isGoodSoFar 72 = .ok (.iinc 1 1, 3) := by decide +kernel
theorem d_X10_isGoodSoFar_75 : decode cX10_isGoodSoFar 75 = .ok (.goto (-73), 3) := by decide +kernel
theorem d_X10_isGoodSoFar_78 : decode cX10_isGoodSoFar 78 = .ok (.iconst 1, 1) := by decide +kernel
theorem d_X10_isGoodSoFar_79 : decode cX10_isGoodSoFar 79 = .ok (.ireturn, 1) := by decide +kernel
theorem d_X10_areAnyGone_0 : decode cX10_areAnyGone 0 = .ok (.iconst 0, 1) := by decide +kernel
theorem d_X10_areAnyGone_1 : decode cX10_areAnyGone 1 = .ok (.istore_n 1, 1) := by decide +kernel
theorem d_X10_areAnyGone_2 : decode cX10_areAnyGone 2 = .ok (.iload_n 1, 1) := by decide +kernel
theorem d_X10_areAnyGone_3 : decode cX10_areAnyGone 3 = .ok (.aload_n 0, 1) := by decide +kernel
theorem d_X10_areAnyGone_4 : decode cX10_areAnyGone 4 = .ok (.getfield 25, 3) := by decide +kernel
theorem d_X10_areAnyGone_7 : decode cX10_areAnyGone 7 = .ok (.if_icmp .ge 27, 3) := by decide +kernel
theorem d_X10_areAnyGone_10 : decode cX10_areAnyGone 10 = .ok (.aload_n 0, 1) := by decide +kernel
theorem d_X10_areAnyGone_11 : decode cX10_areAnyGone 11 = .ok (.iload_n 1, 1) := by decide +kernel
theorem d_X10_areAnyGone_12 : decode cX10_areAnyGone 12 = .ok (.invokevirtual 104, 3) := by decide +kernel
theorem d_X10_areAnyGone_15 : decode cX10_areAnyGone 15 = .ok (.ifCond .eq 13, 3) := by decide +kernel
theorem d_X10_areAnyGone_18 : decode cX10_areAnyGone 18 = .ok (.aload_n 0, 1) := by decide +kernel
theorem d_X10_areAnyGone_19 : decode cX10_areAnyGone 19 = .ok (.iload_n 1, 1) := by decide +kernel
theorem d_X10_areAnyGone_20 : decode cX10_areAnyGone 20 = .ok (.invokevirtual 245, 3) := by decide +kernel
theorem d_X10_areAnyGone_23 : decode cX10_areAnyGone 23 = .ok (.ifCond .eq 5, 3) := by decide +kernel
theorem d_X10_areAnyGone_26 : decode cX10_areAnyGone 26 = .ok (.iconst 1, 1) := by decide +kernel
theorem d_X10_areAnyGone_27 : decode cX10_areAnyGone 27 = .ok (.ireturn, 1) := by decide +kernel
theorem d_X10_areAnyGone_28 : decode cX10_areAnyGone 28 = .ok (.iinc 1 1, 3) := by decide +kernel
theorem d_X10_areAnyGone_31 : decode cX10_areAnyGone 31 = .ok (.goto (-29), 3) := by decide +kernel
theorem d_X10_areAnyGone_34 : decode cX10_areAnyGone 34 = .ok (.iconst 0, 1) := by decide +kernel
theorem d_X10_areAnyGone_35 : decode cX10_areAnyGone 35 = .ok (.ireturn, 1) := by decide +kernel
theorem d_X10_soonest_0 : decode cX10_soonest 0 = .ok (.aload_n 0, 1) := by decide +kernel
theorem d_X10_soonest_1 : decode cX10_soonest 1 = .ok (.iconst 0, 1) := by decide +kernel
theorem d_X10_soonest_2 : decode cX10_soonest 2 = .ok (.putfield 1, 3) := by decide +kernel
theorem d_X10_soonest_5 : decode cX10_soonest 5 = .ok (.aload_n 0, 1) := by decide +kernel
theorem d_X10_soonest_6 : decode cX10_soonest 6 = .ok (.getfield 25, 3) := by decide +kernel
theorem d_X10_soonest_9 : decode cX10_soonest 9 = .ok (.sipush 200, 3) := by decide +kernel
theorem d_X10_soonest_12 : decode cX10_soonest 12 = .ok (.if_icmp .gt 18, 3) := by decide +kernel
theorem d_X10_soonest_15 : decode cX10_soonest 15 = .ok (.aload_n 0, 1) := by decide +kernel
theorem d_X10_soonest_16 : decode cX10_soonest 16 = .ok (.invokevirtual 213, 3) := by decide +kernel
theorem d_X10_soonest_19 : decode cX10_soonest 19 = .ok (.iconst (-1), 1) := by decide +kernel
theorem d_X10_soonest_20 : decode cX10_soonest 20 = .ok (.if_icmp .eq 10, 3) := by decide +kernel
theorem d_X10_soonest_23 : decode cX10_soonest 23 = .ok (.aload_n 0, 1) := by decide +kernel
theorem d_X10_soonest_24 : decode cX10_soonest 24 = .ok (.invokevirtual 335, 3) := by decide +kernel
theorem d_X10_soonest_27 : decode cX10_soonest 27 = .ok (.ifCond .eq 5, 3) := by decide +kernel
theorem d_X10_soonest_30 : decode cX10_soonest 30 = .ok (.iconst (-1), 1) := by decide +kernel
theorem d_X10_soonest_31 : decode cX10_soonest 31 = .ok (.ireturn, 1) := by decide +kernel
theorem d_X10_soonest_32 : decode cX10_soonest 32 = .ok (.aload_n 0, 1) := by decide +kernel
theorem d_X10_soonest_33 : decode cX10_soonest 33 = .ok (.invokevirtual 236, 3) := by decide +kernel
theorem d_X10_soonest_36 : decode cX10_soonest 36 = .ok (.iconst 0, 1) := by decide +kernel
theorem d_X10_soonest_37 : decode cX10_soonest 37 = .ok (.istore_n 1, 1) := by decide +kernel
theorem d_X10_soonest_38 : decode cX10_soonest 38 = .ok (.iload_n 1, 1) := by decide +kernel
theorem d_X10_soonest_39 : decode cX10_soonest 39 = .ok (.sipush 9600, 3) := by decide +kernel
theorem d_X10_soonest_42 : decode cX10_soonest 42 = .ok (.if_icmp .ge 16, 3) := by decide +kernel
theorem d_X10_soonest_45 : decode cX10_soonest 45 = .ok (.aload_n 0, 1) := by decide +kernel
theorem d_X10_soonest_46 : decode cX10_soonest 46 = .ok (.getfield 92, 3) := by decide +kernel
theorem d_X10_soonest_49 : decode cX10_soonest 49 = .ok (.iload_n 1, 1) := by decide +kernel
theorem d_X10_soonest_50 : decode cX10_soonest 50 = .ok (.iconst 0, 1) := by decide +kernel
theorem d_X10_soonest_51 : decode cX10_soonest 51 = .ok (.iastore, 1) := by decide +kernel
theorem d_X10_soonest_52 : decode cX10_soonest 52 = .ok (.iinc 1 1, 3) := by decide +kernel
theorem d_X10_soonest_55 : decode cX10_soonest 55 = .ok (.goto (-17), 3) := by decide +kernel
theorem d_X10_soonest_58 : decode cX10_soonest 58 = .ok (.aload_n 0, 1) := by decide +kernel
theorem d_X10_soonest_59 : decode cX10_soonest 59 = .ok (.invokevirtual 142, 3) := by decide +kernel
theorem d_X10_soonest_62 : decode cX10_soonest 62 = .ok (.istore_n 1, 1) := by decide +kernel
theorem d_X10_soonest_63 : decode cX10_soonest 63 = .ok (.iconst 0, 1) := by decide +kernel
theorem d_X10_soonest_64 : decode cX10_soonest 64 = .ok (.istore_n 2, 1) := by decide +kernel
theorem d_X10_soonest_65 : decode cX10_soonest 65 = .ok (.iload_n 2, 1) := by decide +kernel
theorem d_X10_soonest_66 : decode cX10_soonest 66 = .ok (.iload_n 1, 1) := by decide +kernel
theorem d_X10_soonest_67 : decode cX10_soonest 67 = .ok (.if_icmp .ge 65, 3) := by decide +kernel
theorem d_X10_soonest_70 : decode cX10_soonest 70 = .ok (.iconst 0, 1) := by decide +kernel
theorem d_X10_soonest_71 : decode cX10_soonest 71 = .ok (.istore_n 3, 1) := by decide +kernel
theorem d_X10_soonest_72 : decode cX10_soonest 72 = .ok (.iload_n 3, 1) := by decide +kernel
theorem d_X10_soonest_73 : decode cX10_soonest 73 = .ok (.aload_n 0, 1) := by decide +kernel
theorem d_X10_soonest_74 : decode cX10_soonest 74 = .ok (.getfield 25, 3) := by decide +kernel
theorem d_X10_soonest_77 : decode cX10_soonest 77 = .ok (.if_icmp .ge 38, 3) := by decide +kernel
theorem d_X10_soonest_80 : decode cX10_soonest 80 = .ok (.bipush 48, 2) := by decide +kernel
theorem d_X10_soonest_82 : decode cX10_soonest 82 = .ok (.iload_n 3, 1) := by decide +kernel
theorem d_X10_soonest_83 : decode cX10_soonest 83 = .ok (.imul, 1) := by decide +kernel
theorem d_X10_soonest_84 : decode cX10_soonest 84 = .ok (.aload_n 0, 1) := by decide +kernel
theorem d_X10_soonest_85 : decode cX10_soonest 85 = .ok (.iload_n 3, 1) := by decide +kernel
theorem d_X10_soonest_86 : decode cX10_soonest 86 = .ok (.iload_n 2, 1) := by decide +kernel
theorem d_X10_soonest_87 : decode cX10_soonest 87 = .ok (.invokevirtual 233, 3) := by decide +kernel
theorem d_X10_soonest_90 : decode cX10_soonest 90 = .ok (.iadd, 1) := by decide +kernel
theorem d_X10_soonest_91 : decode cX10_soonest 91 = .ok (.istore 4, 2) := by decide +kernel
theorem d_X10_soonest_93 : decode cX10_soonest 93 = .ok (.aload_n 0, 1) := by decide +kernel
theorem d_X10_soonest_94 : decode cX10_soonest 94 = .ok (.getfield 92, 3) := by decide +kernel
theorem d_X10_soonest_97 : decode cX10_soonest 97 = .ok (.iload 4, 2) := by decide +kernel
theorem d_X10_soonest_99 : decode cX10_soonest 99 = .ok (.aload_n 0, 1) := by decide +kernel
theorem d_X10_soonest_100 : decode cX10_soonest 100 = .ok (.getfield 92, 3) := by decide +kernel
theorem d_X10_soonest_103 : decode cX10_soonest 103 = .ok (.iload 4, 2) := by decide +kernel
theorem d_X10_soonest_105 : decode cX10_soonest 105 = .ok (.iaload, 1) := by decide +kernel
theorem d_X10_soonest_106 : decode cX10_soonest 106 = .ok (.iconst 1, 1) := by decide +kernel
theorem d_X10_soonest_107 : decode cX10_soonest 107 = .ok (.iadd, 1) := by decide +kernel
theorem d_X10_soonest_108 : decode cX10_soonest 108 = .ok (.iastore, 1) := by decide +kernel
theorem d_X10_soonest_109 : decode cX10_soonest 109 = .ok (.iinc 3 1, 3) := by decide +kernel
theorem d_X10_soonest_112 : decode cX10_soonest 112 = .ok (.goto (-40), 3) := by decide +kernel
theorem d_X10_soonest_115 : decode cX10_soonest 115 = .ok (.aload_n 0, 1) := by decide +kernel
theorem d_X10_soonest_116 : decode cX10_soonest 116 = .ok (.invokevirtual 338, 3) := by decide +kernel
theorem d_X10_soonest_119 : decode cX10_soonest 119 = .ok (.ifCond .eq 7, 3) := by decide +kernel
theorem d_X10_soonest_122 : decode cX10_soonest 122 = .ok (.iload_n 2, 1) := by decide +kernel
theorem d_X10_soonest_123 : decode cX10_soonest 123 = .ok (.iconst 1, 1) := by decide +kernel
theorem d_X10_soonest_124 : decode cX10_soonest 124 = .ok (.iadd, 1) := by decide +kernel
theorem d_X10_soonest_125 : decode cX10_soonest 125 = .ok (.ireturn, 1) := by decide +kernel
theorem d_X10_soonest_126 : decode cX10_soonest 126 = .ok (.iinc 2 1, 3) := by decide +kernel
theorem d_X10_soonest_129 : decode cX10_soonest 129 = .ok (.goto (-64), 3) := by decide +kernel
theorem d_X10_soonest_132 : decode cX10_soonest 132 = .ok (.iconst (-1), 1) := by decide +kernel
theorem d_X10_soonest_133 : decode cX10_soonest 133 = .ok (.ireturn, 1) := by decide +kernel
theorem d_X10_early_0 : decode cX10_early 0 = .ok (.aload_n 0, 1) := by decide +kernel
theorem d_X10_early_1 : decode cX10_early 1 = .ok (.iconst 0, 1) := by decide +kernel
theorem d_X10_early_2 : decode cX10_early 2 = .ok (.putfield 1, 3) := by decide +kernel
theorem d_X10_early_5 : decode cX10_early 5 = .ok (.aload_n 0, 1) := by decide +kernel
theorem d_X10_early_6 : decode cX10_early 6 = .ok (.iload_n 1, 1) := by decide +kernel
theorem d_X10_early_7 : decode cX10_early 7 = .ok (.invokevirtual 159, 3) := by decide +kernel
theorem d_X10_early_10 : decode cX10_early 10 = .ok (.ifCond .eq 16, 3) := by decide +kernel
theorem d_X10_early_13 : decode cX10_early 13 = .ok (.aload_n 0, 1) := by decide +kernel
theorem d_X10_early_14 : decode cX10_early 14 = .ok (.iload_n 2, 1) := by decide +kernel
theorem d_X10_early_15 : decode cX10_early 15 = .ok (.iconst 1, 1) := by decide +kernel
theorem d_X10_early_16 : decode cX10_early 16 = .ok (.aload_n 0, 1) := by decide +kernel
theorem d_X10_early_17 : decode cX10_early 17 = .ok (.invokevirtual 142, 3) := by decide +kernel
theorem d_X10_early_20 : decode cX10_early 20 = .ok (.invokevirtual 124, 3) := by decide +kernel
theorem d_X10_early_23 : decode cX10_early 23 = .ok (.ifCond .ne 5, 3) := by decide +kernel
theorem d_X10_early_26 : decode cX10_early 26 = .ok (.iconst (-1), 1) := by decide +kernel
theorem d_X10_early_27 : decode cX10_early 27 = .ok (.ireturn, 1) := by decide +kernel
theorem d_X10_early_28 : decode cX10_early 28 = .ok (.aload_n 0, 1) := by decide +kernel
theorem d_X10_early_29 : decode cX10_early 29 = .ok (.invokevirtual 236, 3) := by decide +kernel
theorem d_X10_early_32 : decode cX10_early 32 = .ok (.aload_n 0, 1) := by decide +kernel
theorem d_X10_early_33 : decode cX10_early 33 = .ok (.iload_n 1, 1) := by decide +kernel
theorem d_X10_early_34 : decode cX10_early 34 = .ok (.iload_n 2, 1) := by decide +kernel
theorem d_X10_early_35 : decode cX10_early 35 = .ok (.invokevirtual 239, 3) := by decide +kernel
theorem d_X10_early_38 : decode cX10_early 38 = .ok (.aload_n 0, 1) := by decide +kernel
theorem d_X10_early_39 : decode cX10_early 39 = .ok (.invokevirtual 242, 3) := by decide +kernel
theorem d_X10_early_42 : decode cX10_early 42 = .ok (.ireturn, 1) := by decide +kernel
theorem d_X10_until_0 : decode cX10_until 0 = .ok (.aload_n 0, 1) := by decide +kernel
theorem d_X10_until_1 : decode cX10_until 1 = .ok (.iconst 0, 1) := by decide +kernel
theorem d_X10_until_2 : decode cX10_until 2 = .ok (.putfield 1, 3) := by decide +kernel
theorem d_X10_until_5 : decode cX10_until 5 = .ok (.aload_n 0, 1) := by decide +kernel
theorem d_X10_until_6 : decode cX10_until 6 = .ok (.invokevirtual 142, 3) := by decide +kernel
theorem d_X10_until_9 : decode cX10_until 9 = .ok (.istore_n 3, 1) := by decide +kernel
theorem d_X10_until_10 : decode cX10_until 10 = .ok (.aload_n 0, 1) := by decide +kernel
theorem d_X10_until_11 : decode cX10_until 11 = .ok (.iload_n 1, 1) := by decide +kernel
theorem d_X10_until_12 : decode cX10_until 12 = .ok (.invokevirtual 159, 3) := by decide +kernel
theorem d_X10_until_15 : decode cX10_until 15 = .ok (.ifCond .eq 13, 3) := by decide +kernel
theorem d_X10_until_18 : decode cX10_until 18 = .ok (.aload_n 0, 1) := by decide +kernel
theorem d_X10_until_19 : decode cX10_until 19 = .ok (.iload_n 2, 1) := by decide +kernel
theorem d_X10_until_20 : decode cX10_until 20 = .ok (.iconst 1, 1) := by decide +kernel
theorem d_X10_until_21 : decode cX10_until 21 = .ok (.iload_n 3, 1) := by decide +kernel
theorem d_X10_until_22 : decode cX10_until 22 = .ok (.invokevirtual 124, 3) := by decide +kernel
theorem d_X10_until_25 : decode cX10_until 25 = .ok (.ifCond .ne 5, 3) := by decide +kernel
theorem d_X10_until_28 : decode cX10_until 28 = .ok (.iconst (-1), 1) := by decide +kernel
theorem d_X10_until_29 : decode cX10_until 29 = .ok (.ireturn, 1) := by decide +kernel
theorem d_X10_until_30 : decode cX10_until 30 = .ok (.aload_n 0, 1) := by decide +kernel
theorem d_X10_until_31 : decode cX10_until 31 = .ok (.invokevirtual 236, 3) := by decide +kernel
theorem d_X10_until_34 : decode cX10_until 34 = .ok (.aload_n 0, 1) := by decide +kernel
theorem d_X10_until_35 : decode cX10_until 35 = .ok (.iload_n 1, 1) := by decide +kernel
theorem d_X10_until_36 : decode cX10_until 36 = .ok (.iload_n 2, 1) := by decide +kernel
theorem d_X10_until_37 : decode cX10_until 37 = .ok (.iconst 1, 1) := by decide +kernel
theorem d_X10_until_38 : decode cX10_until 38 = .ok (.isub, 1) := by decide +kernel
theorem d_X10_until_39 : decode cX10_until 39 = .ok (.invokevirtual 239, 3) := by decide +kernel
theorem d_X10_until_42 : decode cX10_until 42 = .ok (.iload_n 2, 1) := by decide +kernel
theorem d_X10_until_43 : decode cX10_until 43 = .ok (.iconst 1, 1) := by decide +kernel
theorem d_X10_until_44 : decode cX10_until 44 = .ok (.isub, 1) := by decide +kernel
theorem d_X10_until_45 : decode cX10_until 45 = .ok (.istore 4, 2) := by decide +kernel
theorem d_X10_until_47 : decode cX10_until 47 = .ok (.iload 4, 2) := by decide +kernel
theorem d_X10_until_49 : decode cX10_until 49 = .ok (.iload_n 3, 1) := by decide +kernel
theorem d_X10_until_50 : decode cX10_until 50 = .ok (.if_icmp .ge 46, 3) := by decide +kernel
theorem d_X10_until_53 : decode cX10_until 53 = .ok (.aload_n 0, 1) := by decide +kernel
theorem d_X10_until_54 : decode cX10_until 54 = .ok (.iload_n 1, 1) := by decide +kernel
theorem d_X10_until_55 : decode cX10_until 55 = .ok (.iload 4, 2) := by decide +kernel
theorem d_X10_until_57 : decode cX10_until 57 = .ok (.invokevirtual 233, 3) := by decide +kernel
theorem d_X10_until_60 : decode cX10_until 60 = .ok (.istore 5, 2) := by decide +kernel
theorem d_X10_until_62 : decode cX10_until 62 = .ok (.aload_n 0, 1) := by decide +kernel
theorem d_X10_until_63 : decode cX10_until 63 = .ok (.getfield 57, 3) := by decide +kernel
theorem d_X10_until_66 : decode cX10_until 66 = .ok (.iload 5, 2) := by decide +kernel
theorem d_X10_until_68 : decode cX10_until 68 = .ok (.aload_n 0, 1) := by decide +kernel
theorem d_X10_until_69 : decode cX10_until 69 = .ok (.getfield 57, 3) := by decide +kernel
theorem d_X10_until_72 : decode cX10_until 72 = .ok (.iload 5, 2) := by decide +kernel
theorem d_X10_until_74 : decode cX10_until 74 = .ok (.iaload, 1) := by decide +kernel
theorem d_X10_until_75 : decode cX10_until 75 = .ok (.iconst 1, 1) := by decide +kernel
theorem d_X10_until_76 : decode cX10_until 76 = .ok (.iadd, 1) := by decide +kernel
theorem d_X10_until_77 : decode cX10_until 77 = .ok (.iastore, 1) := by decide +kernel
theorem d_X10_until_78 : decode cX10_until 78 = .ok (.aload_n 0, 1) := by decide +kernel
theorem d_X10_until_79 : decode cX10_until 79 = .ok (.invokevirtual 227, 3) := by decide +kernel
theorem d_X10_until_82 : decode cX10_until 82 = .ok (.ifCond .eq 8, 3) := by decide +kernel
theorem d_X10_until_85 : decode cX10_until 85 = .ok (.iload 4, 2) := by decide +kernel
theorem d_X10_until_87 : decode cX10_until 87 = .ok (.iconst 1, 1) := by decide +kernel
theorem d_X10_until_88 : decode cX10_until 88 = .ok (.iadd, 1) := by decide +kernel
theorem d_X10_until_89 : decode cX10_until 89 = .ok (.ireturn, 1) := by decide +kernel
theorem d_X10_until_90 : decode cX10_until 90 = .ok (.iinc 4 1, 3) := by decide +kernel
theorem d_X10_until_93 : decode cX10_until 93 = .ok (.goto (-46), 3) := by decide +kernel
theorem d_X10_until_96 : decode cX10_until 96 = .ok (.iconst (-1), 1) := by decide +kernel
theorem d_X10_until_97 : decode cX10_until 97 = .ok (.ireturn, 1) := by decide +kernel
theorem d_X10_power_0 : decode cX10_power 0 = .ok (.aload_n 0, 1) := by decide +kernel
theorem d_X10_power_1 : decode cX10_power 1 = .ok (.iconst 0, 1) := by decide +kernel
theorem d_X10_power_2 : decode cX10_power 2 = .ok (.putfield 1, 3) := by decide +kernel
theorem d_X10_power_5 : decode cX10_power 5 = .ok (.aload_n 0, 1) := by decide +kernel
theorem d_X10_power_6 : decode cX10_power 6 = .ok (.invokevirtual 148, 3) := by decide +kernel
theorem d_X10_power_9 : decode cX10_power 9 = .ok (.istore_n 2, 1) := by decide +kernel
theorem d_X10_power_10 : decode cX10_power 10 = .ok (.aload_n 0, 1) := by decide +kernel
theorem d_X10_power_11 : decode cX10_power 11 = .ok (.iload_n 1, 1) := by decide +kernel
theorem d_X10_power_12 : decode cX10_power 12 = .ok (.invokevirtual 159, 3) := by decide +kernel
theorem d_X10_power_15 : decode cX10_power 15 = .ok (.ifCond .eq 24, 3) := by decide +kernel
theorem d_X10_power_18 : decode cX10_power 18 = .ok (.iload_n 2, 1) := by decide +kernel
theorem d_X10_power_19 : decode cX10_power 19 = .ok (.iconst 2, 1) := by decide +kernel
theorem d_X10_power_20 : decode cX10_power 20 = .ok (.if_icmp .eq 23, 3) := by decide +kernel
theorem d_X10_power_23 : decode cX10_power 23 = .ok (.iload_n 2, 1) := by decide +kernel
theorem d_X10_power_24 : decode cX10_power 24 = .ok (.iconst 3, 1) := by decide +kernel
theorem d_X10_power_25 : decode cX10_power 25 = .ok (.if_icmp .eq 18, 3) := by decide +kernel
theorem d_X10_power_28 : decode cX10_power 28 = .ok (.iload_n 2, 1) := by decide +kernel
theorem d_X10_power_29 : decode cX10_power 29 = .ok (.iconst 4, 1) := by decide +kernel
theorem d_X10_power_30 : decode cX10_power 30 = .ok (.if_icmp .eq 13, 3) := by decide +kernel
theorem d_X10_power_33 : decode cX10_power 33 = .ok (.iload_n 2, 1) := by decide +kernel
theorem d_X10_power_34 : decode cX10_power 34 = .ok (.bipush 6, 2) := by decide +kernel
theorem d_X10_power_36 : decode cX10_power 36 = .ok (.if_icmp .eq 7, 3) := by decide +kernel
theorem d_X10_power_39 : decode cX10_power 39 = .ok (.ldc2_w 219, 3) := by decide +kernel
theorem d_X10_power_42 : decode cX10_power 42 = .ok (.lreturn, 1) := by decide +kernel
theorem d_X10_power_43 : decode cX10_power 43 = .ok (.aload_n 0, 1) := by decide +kernel
theorem d_X10_power_44 : decode cX10_power 44 = .ok (.invokevirtual 236, 3) := by decide +kernel
theorem d_X10_power_47 : decode cX10_power 47 = .ok (.aload_n 0, 1) := by decide +kernel
theorem d_X10_power_48 : decode cX10_power 48 = .ok (.iload_n 1, 1) := by decide +kernel
theorem d_X10_power_49 : decode cX10_power 49 = .ok (.aload_n 0, 1) := by decide +kernel
theorem d_X10_power_50 : decode cX10_power 50 = .ok (.invokevirtual 142, 3) := by decide +kernel
theorem d_X10_power_53 : decode cX10_power 53 = .ok (.invokevirtual 239, 3) := by decide +kernel
theorem d_X10_power_56 : decode cX10_power 56 = .ok (.aload_n 0, 1) := by decide +kernel
theorem d_X10_power_57 : decode cX10_power 57 = .ok (.getfield 57, 3) := by decide +kernel
theorem d_X10_power_60 : decode cX10_power 60 = .ok (.iconst 0, 1) := by decide +kernel
theorem d_X10_power_61 : decode cX10_power 61 = .ok (.iaload, 1) := by decide +kernel
theorem d_X10_power_62 : decode cX10_power 62 = .ok (.i2l, 1) := by decide +kernel
theorem d_X10_power_63 : decode cX10_power 63 = .ok (.lstore_n 3, 1) := by decide +kernel
theorem d_X10_power_64 : decode cX10_power 64 = .ok (.aload_n 0, 1) := by decide +kernel
theorem d_X10_power_65 : decode cX10_power 65 = .ok (.getfield 57, 3) := by decide +kernel
theorem d_X10_power_68 : decode cX10_power 68 = .ok (.iconst 1, 1) := by decide +kernel
theorem d_X10_power_69 : decode cX10_power 69 = .ok (.iaload, 1) := by decide +kernel
theorem d_X10_power_70 : decode cX10_power 70 = .ok (.i2l, 1) := by decide +kernel
theorem d_X10_power_71 : decode cX10_power 71 = .ok (.lstore 5, 2) := by decide +kernel
theorem d_X10_power_73 : decode cX10_power 73 = .ok (.iload_n 2, 1) := by decide +kernel
theorem d_X10_power_74 : decode cX10_power 74 = .ok (.iconst 2, 1) := by decide +kernel
theorem d_X10_power_75 : decode cX10_power 75 = .ok (.if_icmp .ne 13, 3) := by decide +kernel
theorem d_X10_power_78 : decode cX10_power 78 = .ok (.lload_n 3, 1) := by decide +kernel
theorem d_X10_power_79 : decode cX10_power 79 = .ok (.lload 5, 2) := by decide +kernel
theorem d_X10_power_81 : decode cX10_power 81 = .ok (.lsub, 1) := by decide +kernel
theorem d_X10_power_82 : decode cX10_power 82 = .ok (.lload_n 3, 1) := by decide +kernel
theorem d_X10_power_83 : decode cX10_power 83 = .ok (.lload 5, 2) := by decide +kernel
theorem d_X10_power_85 : decode cX10_power 85 = .ok (.lsub, 1) := by decide +kernel
theorem d_X10_power_86 : decode cX10_power 86 = .ok (.lmul, 1) := by decide +kernel
theorem d_X10_power_87 : decode cX10_power 87 = .ok (.lreturn, 1) := by decide +kernel
theorem d_X10_power_88 : decode cX10_power 88 = .ok (.iload_n 2, 1) := by decide +kernel
theorem d_X10_power_89 : decode cX10_power 89 = .ok (.iconst 4, 1) := by decide +kernel
theorem d_X10_power_90 : decode cX10_power 90 = .ok (.if_icmp .ne 45, 3) := by decide +kernel
theorem d_X10_power_93 : decode cX10_power 93 = .ok (.lload_n 3, 1) := by decide +kernel
theorem d_X10_power_94 : decode cX10_power 94 = .ok (.aload_n 0, 1) := by decide +kernel
theorem d_X10_power_95 : decode cX10_power 95 = .ok (.getfield 57, 3) := by decide +kernel
theorem d_X10_power_98 : decode cX10_power 98 = .ok (.iconst 2, 1) := by decide +kernel
theorem d_X10_power_99 : decode cX10_power 99 = .ok (.iaload, 1) := by decide +kernel
theorem d_X10_power_100 : decode cX10_power 100 = .ok (.i2l, 1) := by decide +kernel
theorem d_X10_power_101 : decode cX10_power 101 = .ok (.lsub, 1) := by decide +kernel
theorem d_X10_power_102 : decode cX10_power 102 = .ok (.lload_n 3, 1) := by decide +kernel
theorem d_X10_power_103 : decode cX10_power 103 = .ok (.aload_n 0, 1) := by decide +kernel
theorem d_X10_power_104 : decode cX10_power 104 = .ok (.getfield 57, 3) := by decide +kernel
theorem d_X10_power_107 : decode cX10_power 107 = .ok (.iconst 2, 1) := by decide +kernel
theorem d_X10_power_108 : decode cX10_power 108 = .ok (.iaload, 1) := by decide +kernel
theorem d_X10_power_109 : decode cX10_power 109 = .ok (.i2l, 1) := by decide +kernel
theorem d_X10_power_110 : decode cX10_power 110 = .ok (.lsub, 1) := by decide +kernel
theorem d_X10_power_111 : decode cX10_power 111 = .ok (.lmul, 1) := by decide +kernel
theorem d_X10_power_112 : decode cX10_power 112 = .ok (.lload 5, 2) := by decide +kernel
theorem d_X10_power_114 : decode cX10_power 114 = .ok (.aload_n 0, 1) := by decide +kernel
theorem d_X10_power_115 : decode cX10_power 115 = .ok (.getfield 57, 3) := by decide +kernel
theorem d_X10_power_118 : decode cX10_power 118 = .ok (.iconst 3, 1) := by decide +kernel
theorem d_X10_power_119 : decode cX10_power 119 = .ok (.iaload, 1) := by decide +kernel
theorem d_X10_power_120 : decode cX10_power 120 = .ok (.i2l, 1) := by decide +kernel
theorem d_X10_power_121 : decode cX10_power 121 = .ok (.lsub, 1) := by decide +kernel
theorem d_X10_power_122 : decode cX10_power 122 = .ok (.lload 5, 2) := by decide +kernel
theorem d_X10_power_124 : decode cX10_power 124 = .ok (.aload_n 0, 1) := by decide +kernel
theorem d_X10_power_125 : decode cX10_power 125 = .ok (.getfield 57, 3) := by decide +kernel
theorem d_X10_power_128 : decode cX10_power 128 = .ok (.iconst 3, 1) := by decide +kernel
theorem d_X10_power_129 : decode cX10_power 129 = .ok (.iaload, 1) := by decide +kernel
theorem d_X10_power_130 : decode cX10_power 130 = .ok (.i2l, 1) := by decide +kernel
theorem d_X10_power_131 : decode cX10_power 131 = .ok (.lsub, 1) := by decide +kernel
theorem d_X10_power_132 : decode cX10_power 132 = .ok (.lmul, 1) := by decide +kernel
theorem d_X10_power_133 : decode cX10_power 133 = .ok (.ladd, 1) := by decide +kernel
theorem d_X10_power_134 : decode cX10_power 134 = .ok (.lreturn, 1) := by decide +kernel
theorem d_X10_power_135 : decode cX10_power 135 = .ok (.iload_n 2, 1) := by decide +kernel
theorem d_X10_power_136 : decode cX10_power 136 = .ok (.iconst 3, 1) := by decide +kernel
theorem d_X10_power_137 : decode cX10_power 137 = .ok (.if_icmp .ne 40, 3) := by decide +kernel
theorem d_X10_power_140 : decode cX10_power 140 = .ok (.lload_n 3, 1) := by decide +kernel
theorem d_X10_power_141 : decode cX10_power 141 = .ok (.aload_n 0, 1) := by decide +kernel
theorem d_X10_power_142 : decode cX10_power 142 = .ok (.getfield 57, 3) := by decide +kernel
theorem d_X10_power_145 : decode cX10_power 145 = .ok (.iconst 2, 1) := by decide +kernel
theorem d_X10_power_146 : decode cX10_power 146 = .ok (.iaload, 1) := by decide +kernel
theorem d_X10_power_147 : decode cX10_power 147 = .ok (.i2l, 1) := by decide +kernel
theorem d_X10_power_148 : decode cX10_power 148 = .ok (.lsub, 1) := by decide +kernel
theorem d_X10_power_149 : decode cX10_power 149 = .ok (.lstore_n 3, 1) := by decide +kernel
theorem d_X10_power_150 : decode cX10_power 150 = .ok (.lload 5, 2) := by decide +kernel
theorem d_X10_power_152 : decode cX10_power 152 = .ok (.aload_n 0, 1) := by decide +kernel
theorem d_X10_power_153 : decode cX10_power 153 = .ok (.getfield 57, 3) := by decide +kernel
theorem d_X10_power_156 : decode cX10_power 156 = .ok (.iconst 2, 1) := by decide +kernel
theorem d_X10_power_157 : decode cX10_power 157 = .ok (.iaload, 1) := by decide +kernel
theorem d_X10_power_158 : decode cX10_power 158 = .ok (.i2l, 1) := by decide +kernel
theorem d_X10_power_159 : decode cX10_power 159 = .ok (.lsub, 1) := by decide +kernel
theorem d_X10_power_160 : decode cX10_power 160 = .ok (.lstore 5, 2) := by decide +kernel
theorem d_X10_power_162 : decode cX10_power 162 = .ok (.lload_n 3, 1) := by decide +kernel
theorem d_X10_power_163 : decode cX10_power 163 = .ok (.lload_n 3, 1) := by decide +kernel
theorem d_X10_power_164 : decode cX10_power 164 = .ok (.lmul, 1) := by decide +kernel
theorem d_X10_power_165 : decode cX10_power 165 = .ok (.lload_n 3, 1) := by decide +kernel
theorem d_X10_power_166 : decode cX10_power 166 = .ok (.lload 5, 2) := by decide +kernel
theorem d_X10_power_168 : decode cX10_power 168 = .ok (.lmul, 1) := by decide +kernel
theorem d_X10_power_169 : decode cX10_power 169 = .ok (.lsub, 1) := by decide +kernel
theorem d_X10_power_170 : decode cX10_power 170 = .ok (.lload 5, 2) := by decide +kernel
theorem d_X10_power_172 : decode cX10_power 172 = .ok (.lload 5, 2) := by decide +kernel
theorem d_X10_power_174 : decode cX10_power 174 = .ok (.lmul, 1) := by decide +kernel
theorem d_X10_power_175 : decode cX10_power 175 = .ok (.ladd, 1) := by decide +kernel
theorem d_X10_power_176 : decode cX10_power 176 = .ok (.lreturn, 1) := by decide +kernel
theorem d_X10_power_177 : decode cX10_power 177 = .ok (.aload_n 0, 1) := by decide +kernel
theorem d_X10_power_178 : decode cX10_power 178 = .ok (.getfield 57, 3) := by decide +kernel
theorem d_X10_power_181 : decode cX10_power 181 = .ok (.iconst 2, 1) := by decide +kernel
theorem d_X10_power_182 : decode cX10_power 182 = .ok (.iaload, 1) := by decide +kernel
theorem d_X10_power_183 : decode cX10_power 183 = .ok (.aload_n 0, 1) := by decide +kernel
theorem d_X10_power_184 : decode cX10_power 184 = .ok (.getfield 57, 3) := by decide +kernel
theorem d_X10_power_187 : decode cX10_power 187 = .ok (.iconst 5, 1) := by decide +kernel
theorem d_X10_power_188 : decode cX10_power 188 = .ok (.iaload, 1) := by decide +kernel
theorem d_X10_power_189 : decode cX10_power 189 = .ok (.isub, 1) := by decide +kernel
theorem d_X10_power_190 : decode cX10_power 190 = .ok (.i2l, 1) := by decide +kernel
theorem d_X10_power_191 : decode cX10_power 191 = .ok (.lstore 7, 2) := by decide +kernel
theorem d_X10_power_193 : decode cX10_power 193 = .ok (.lload_n 3, 1) := by decide +kernel
theorem d_X10_power_194 : decode cX10_power 194 = .ok (.aload_n 0, 1) := by decide +kernel
theorem d_X10_power_195 : decode cX10_power 195 = .ok (.getfield 57, 3) := by decide +kernel
theorem d_X10_power_198 : decode cX10_power 198 = .ok (.iconst 3, 1) := by decide +kernel
theorem d_X10_power_199 : decode cX10_power 199 = .ok (.iaload, 1) := by decide +kernel
theorem d_X10_power_200 : decode cX10_power 200 = .ok (.i2l, 1) := by decide +kernel
theorem d_X10_power_201 : decode cX10_power 201 = .ok (.lsub, 1) := by decide +kernel
theorem d_X10_power_202 : decode cX10_power 202 = .ok (.lload 7, 2) := by decide +kernel
theorem d_X10_power_204 : decode cX10_power 204 = .ok (.lsub, 1) := by decide +kernel
theorem d_X10_power_205 : decode cX10_power 205 = .ok (.lstore_n 3, 1) := by decide +kernel
theorem d_X10_power_206 : decode cX10_power 206 = .ok (.lload 5, 2) := by decide +kernel
theorem d_X10_power_208 : decode cX10_power 208 = .ok (.aload_n 0, 1) := by decide +kernel
theorem d_X10_power_209 : decode cX10_power 209 = .ok (.getfield 57, 3) := by decide +kernel
theorem d_X10_power_212 : decode cX10_power 212 = .ok (.iconst 4, 1) := by decide +kernel
theorem d_X10_power_213 : decode cX10_power 213 = .ok (.iaload, 1) := by decide +kernel
theorem d_X10_power_214 : decode cX10_power 214 = .ok (.i2l, 1) := by decide +kernel
theorem d_X10_power_215 : decode cX10_power 215 = .ok (.lsub, 1) := by decide +kernel
theorem d_X10_power_216 : decode cX10_power 216 = .ok (.lload 7, 2) := by decide +kernel
theorem d_X10_power_218 : decode cX10_power 218 = .ok (.ladd, 1) := by decide +kernel
theorem d_X10_power_219 : decode cX10_power 219 = .ok (.lstore 5, 2) := by decide +kernel
theorem d_X10_power_221 : decode cX10_power 221 = .ok (.lload_n 3, 1) := by decide +kernel
theorem d_X10_power_222 : decode cX10_power 222 = .ok (.lload_n 3, 1) := by decide +kernel
theorem d_X10_power_223 : decode cX10_power 223 = .ok (.lmul, 1) := by decide +kernel
theorem d_X10_power_224 : decode cX10_power 224 = .ok (.lload_n 3, 1) := by decide +kernel
theorem d_X10_power_225 : decode cX10_power 225 = .ok (.lload 5, 2) := by decide +kernel
theorem d_X10_power_227 : decode cX10_power 227 = .ok (.lmul, 1) := by decide +kernel
theorem d_X10_power_228 : decode cX10_power 228 = .ok (.ladd, 1) := by decide +kernel
theorem d_X10_power_229 : decode cX10_power 229 = .ok (.lload 5, 2) := by decide +kernel
theorem d_X10_power_231 : decode cX10_power 231 = .ok (.lload 5, 2) := by decide +kernel
theorem d_X10_power_233 : decode cX10_power 233 = .ok (.lmul, 1) := by decide +kernel
theorem d_X10_power_234 : decode cX10_power 234 = .ok (.ladd, 1) := by decide +kernel
theorem d_X10_power_235 : decode cX10_power 235 = .ok (.lreturn, 1) := by decide +kernel
theorem d_X10_above_0 : decode cX10_above 0 = .ok (.iload_n 1, 1) := by decide +kernel
theorem d_X10_above_1 : decode cX10_above 1 = .ok (.ifCond .ne 8, 3) := by decide +kernel
theorem d_X10_above_4 : decode cX10_above 4 = .ok (.aload_n 0, 1) := by decide +kernel
theorem d_X10_above_5 : decode cX10_above 5 = .ok (.invokevirtual 323, 3) := by decide +kernel
theorem d_X10_above_8 : decode cX10_above 8 = .ok (.ireturn, 1) := by decide +kernel
theorem d_X10_above_9 : decode cX10_above 9 = .ok (.iload_n 1, 1) := by decide +kernel
theorem d_X10_above_10 : decode cX10_above 10 = .ok (.iconst 1, 1) := by decide +kernel
theorem d_X10_above_11 : decode cX10_above 11 = .ok (.if_icmp .ne 35, 3) := by decide +kernel
theorem d_X10_above_14 : decode cX10_above 14 = .ok (.iconst 0, 1) := by decide +kernel
theorem d_X10_above_15 : decode cX10_above 15 = .ok (.istore_n 2, 1) := by decide +kernel
theorem d_X10_above_16 : decode cX10_above 16 = .ok (.iconst 0, 1) := by decide +kernel
theorem d_X10_above_17 : decode cX10_above 17 = .ok (.istore_n 3, 1) := by decide +kernel
theorem d_X10_above_18 : decode cX10_above 18 = .ok (.iload_n 3, 1) := by decide +kernel
theorem d_X10_above_19 : decode cX10_above 19 = .ok (.aload_n 0, 1) := by decide +kernel
theorem d_X10_above_20 : decode cX10_above 20 = .ok (.getfield 25, 3) := by decide +kernel
theorem d_X10_above_23 : decode cX10_above 23 = .ok (.if_icmp .ge 21, 3) := by decide +kernel
theorem d_X10_above_26 : decode cX10_above 26 = .ok (.aload_n 0, 1) := by decide +kernel
theorem d_X10_above_27 : decode cX10_above 27 = .ok (.iload_n 3, 1) := by decide +kernel
theorem d_X10_above_28 : decode cX10_above 28 = .ok (.invokevirtual 251, 3) := by decide +kernel
theorem d_X10_above_31 : decode cX10_above 31 = .ok (.ifCond .eq 7, 3) := by decide +kernel
theorem d_X10_above_34 : decode cX10_above 34 = .ok (.iload_n 2, 1) := by decide +kernel
theorem d_X10_above_35 : decode cX10_above 35 = .ok (.iconst 1, 1) := by decide +kernel
theorem d_X10_above_36 : decode cX10_above 36 = .ok (.iadd, 1) := by decide +kernel
theorem d_X10_above_37 : decode cX10_above 37 = .ok (.istore_n 2, 1) := by decide +kernel
theorem d_X10_above_38 : decode cX10_above 38 = .ok (.iinc 3 1, 3) := by decide +kernel
theorem d_X10_above_41 : decode cX10_above 41 = .ok (.goto (-23), 3) := by decide +kernel
theorem d_X10_above_44 : decode cX10_above 44 = .ok (.iload_n 2, 1) := by decide +kernel
theorem d_X10_above_45 : decode cX10_above 45 = .ok (.ireturn, 1) := by decide +kernel
theorem d_X10_above_46 : decode cX10_above 46 = .ok (.iload_n 1, 1) := by decide +kernel
theorem d_X10_above_47 : decode cX10_above 47 = .ok (.iconst 4, 1) := by decide +kernel
theorem d_X10_above_48 : decode cX10_above 48 = .ok (.if_icmp .ne 10, 3) := by decide +kernel
theorem d_X10_above_51 : decode cX10_above 51 = .ok (.aload_n 0, 1) := by decide +kernel
theorem d_X10_above_52 : decode cX10_above 52 = .ok (.invokevirtual 148, 3) := by decide +kernel
theorem d_X10_above_55 : decode cX10_above 55 = .ok (.goto 7, 3) := by decide +kernel
theorem d_X10_above_58 : decode cX10_above 58 = .ok (.aload_n 0, 1) := by decide +kernel
theorem d_X10_above_59 : decode cX10_above 59 = .ok (.invokevirtual 142, 3) := by decide +kernel
theorem d_X10_above_62 : decode cX10_above 62 = .ok (.ireturn, 1) := by decide +kernel
theorem d_X10_below_0 : decode cX10_below 0 = .ok (.iload_n 1, 1) := by decide +kernel
theorem d_X10_below_1 : decode cX10_below 1 = .ok (.iconst 2, 1) := by decide +kernel
theorem d_X10_below_2 : decode cX10_below 2 = .ok (.if_icmp .ge 19, 3) := by decide +kernel
theorem d_X10_below_5 : decode cX10_below 5 = .ok (.aload_n 0, 1) := by decide +kernel
theorem d_X10_below_6 : decode cX10_below 6 = .ok (.getfield 25, 3) := by decide +kernel
theorem d_X10_below_9 : decode cX10_below 9 = .ok (.ifCond .ne 7, 3) := by decide +kernel
theorem d_X10_below_12 : decode cX10_below 12 = .ok (.iconst (-1), 1) := by decide +kernel
theorem d_X10_below_13 : decode cX10_below 13 = .ok (.goto 7, 3) := by decide +kernel
theorem d_X10_below_16 : decode cX10_below 16 = .ok (.aload_n 0, 1) := by decide +kernel
theorem d_X10_below_17 : decode cX10_below 17 = .ok (.getfield 25, 3) := by decide +kernel
theorem d_X10_below_20 : decode cX10_below 20 = .ok (.ireturn, 1) := by decide +kernel
theorem d_X10_below_21 : decode cX10_below 21 = .ok (.iload_n 1, 1) := by decide +kernel
theorem d_X10_below_22 : decode cX10_below 22 = .ok (.iconst 4, 1) := by decide +kernel
theorem d_X10_below_23 : decode cX10_below 23 = .ok (.if_icmp .ne 8, 3) := by decide +kernel
theorem d_X10_below_26 : decode cX10_below 26 = .ok (.aload_n 0, 1) := by decide +kernel
theorem d_X10_below_27 : decode cX10_below 27 = .ok (.invokevirtual 142, 3) := by decide +kernel
theorem d_X10_below_30 : decode cX10_below 30 = .ok (.ireturn, 1) := by decide +kernel
theorem d_X10_below_31 : decode cX10_below 31 = .ok (.iload_n 1, 1) := by decide +kernel
theorem d_X10_below_32 : decode cX10_below 32 = .ok (.iconst 2, 1) := by decide +kernel
theorem d_X10_below_33 : decode cX10_below 33 = .ok (.if_icmp .ne 10, 3) := by decide +kernel
theorem d_X10_below_36 : decode cX10_below 36 = .ok (.aload_n 0, 1) := by decide +kernel
theorem d_X10_below_37 : decode cX10_below 37 = .ok (.invokevirtual 292, 3) := by decide +kernel
theorem d_X10_below_40 : decode cX10_below 40 = .ok (.goto 7, 3) := by decide +kernel
theorem d_X10_below_43 : decode cX10_below 43 = .ok (.aload_n 0, 1) := by decide +kernel
theorem d_X10_below_44 : decode cX10_below 44 = .ok (.invokevirtual 295, 3) := by decide +kernel
theorem d_X10_below_47 : decode cX10_below 47 = .ok (.ireturn, 1) := by decide +kernel
theorem d_X10_share_0 : decode cX10_share 0 = .ok (.aload_n 0, 1) := by decide +kernel
theorem d_X10_share_1 : decode cX10_share 1 = .ok (.iconst 0, 1) := by decide +kernel
theorem d_X10_share_2 : decode cX10_share 2 = .ok (.putfield 1, 3) := by decide +kernel
theorem d_X10_share_5 : decode cX10_share 5 = .ok (.aload_n 0, 1) := by decide +kernel
theorem d_X10_share_6 : decode cX10_share 6 = .ok (.iload_n 1, 1) := by decide +kernel
theorem d_X10_share_7 : decode cX10_share 7 = .ok (.iconst 0, 1) := by decide +kernel
theorem d_X10_share_8 : decode cX10_share 8 = .ok (.iconst 4, 1) := by decide +kernel
theorem d_X10_share_9 : decode cX10_share 9 = .ok (.invokevirtual 124, 3) := by decide +kernel
theorem d_X10_share_12 : decode cX10_share 12 = .ok (.ifCond .eq 11, 3) := by decide +kernel
theorem d_X10_share_15 : decode cX10_share 15 = .ok (.aload_n 0, 1) := by decide +kernel
theorem d_X10_share_16 : decode cX10_share 16 = .ok (.iload_n 1, 1) := by decide +kernel
theorem d_X10_share_17 : decode cX10_share 17 = .ok (.invokevirtual 341, 3) := by decide +kernel
theorem d_X10_share_20 : decode cX10_share 20 = .ok (.goto 4, 3) := by decide +kernel
theorem d_X10_share_23 : decode cX10_share 23 = .ok (.iconst (-1), 1) := by decide +kernel
theorem d_X10_share_24 : decode cX10_share 24 = .ok (.istore_n 2, 1) := by decide +kernel
theorem d_X10_share_25 : decode cX10_share 25 = .ok (.iload_n 2, 1) := by decide +kernel
theorem d_X10_share_26 : decode cX10_share 26 = .ok (.iconst (-1), 1) := by decide +kernel
theorem d_X10_share_27 : decode cX10_share 27 = .ok (.if_icmp .ne 7, 3) := by decide +kernel
theorem d_X10_share_30 : decode cX10_share 30 = .ok (.iconst (-1), 1) := by decide +kernel
theorem d_X10_share_31 : decode cX10_share 31 = .ok (.goto 15, 3) := by decide +kernel
theorem d_X10_share_34 : decode cX10_share 34 = .ok (.aload_n 0, 1) := by decide +kernel
theorem d_X10_share_35 : decode cX10_share 35 = .ok (.iload_n 1, 1) := by decide +kernel
theorem d_X10_share_36 : decode cX10_share 36 = .ok (.invokevirtual 344, 3) := by decide +kernel
theorem d_X10_share_39 : decode cX10_share 39 = .ok (.i2f, 1) := by decide +kernel
theorem d_X10_share_40 : decode cX10_share 40 = .ok (.iload_n 2, 1) := by decide +kernel
theorem d_X10_share_41 : decode cX10_share 41 = .ok (.i2f, 1) := by decide +kernel
theorem d_X10_share_42 : decode cX10_share 42 = .ok (.fdiv, 1) := by decide +kernel
theorem d_X10_share_43 : decode cX10_share 43 = .ok (.invokestatic 347, 3) := by decide +kernel
theorem d_X10_share_46 : decode cX10_share 46 = .ok (.ireturn, 1) := by decide +kernel
theorem d_X10_part_0 : decode cX10_part 0 = .ok (.aload_n 0, 1) := by decide +kernel
theorem d_X10_part_1 : decode cX10_part 1 = .ok (.iconst 0, 1) := by decide +kernel
theorem d_X10_part_2 : decode cX10_part 2 = .ok (.putfield 1, 3) := by decide +kernel
theorem d_X10_part_5 : decode cX10_part 5 = .ok (.aload_n 0, 1) := by decide +kernel
theorem d_X10_part_6 : decode cX10_part 6 = .ok (.iload_n 1, 1) := by decide +kernel
theorem d_X10_part_7 : decode cX10_part 7 = .ok (.iconst 0, 1) := by decide +kernel
theorem d_X10_part_8 : decode cX10_part 8 = .ok (.iconst 4, 1) := by decide +kernel
theorem d_X10_part_9 : decode cX10_part 9 = .ok (.invokevirtual 124, 3) := by decide +kernel
theorem d_X10_part_12 : decode cX10_part 12 = .ok (.ifCond .eq 11, 3) := by decide +kernel
theorem d_X10_part_15 : decode cX10_part 15 = .ok (.aload_n 0, 1) := by decide +kernel
theorem d_X10_part_16 : decode cX10_part 16 = .ok (.iload_n 1, 1) := by decide +kernel
theorem d_X10_part_17 : decode cX10_part 17 = .ok (.invokevirtual 341, 3) := by decide +kernel
theorem d_X10_part_20 : decode cX10_part 20 = .ok (.goto 4, 3) := by decide +kernel
theorem d_X10_part_23 : decode cX10_part 23 = .ok (.iconst (-1), 1) := by decide +kernel
theorem d_X10_part_24 : decode cX10_part 24 = .ok (.istore_n 2, 1) := by decide +kernel
theorem d_X10_part_25 : decode cX10_part 25 = .ok (.iload_n 2, 1) := by decide +kernel
theorem d_X10_part_26 : decode cX10_part 26 = .ok (.iconst (-1), 1) := by decide +kernel
theorem d_X10_part_27 : decode cX10_part 27 = .ok (.if_icmp .ne 9, 3) := by decide +kernel
theorem d_X10_part_30 : decode cX10_part 30 = .ok (.ldc2_w 219, 3) := by decide +kernel
theorem d_X10_part_33 : decode cX10_part 33 = .ok (.goto 15, 3) := by decide +kernel
theorem d_X10_part_36 : decode cX10_part 36 = .ok (.aload_n 0, 1) := by decide +kernel
theorem d_X10_part_37 : decode cX10_part 37 = .ok (.iload_n 1, 1) := by decide +kernel
theorem d_X10_part_38 : decode cX10_part 38 = .ok (.invokevirtual 344, 3) := by decide +kernel
theorem d_X10_part_41 : decode cX10_part 41 = .ok (.i2d, 1) := by decide +kernel
theorem d_X10_part_42 : decode cX10_part 42 = .ok (.iload_n 2, 1) := by decide +kernel
theorem d_X10_part_43 : decode cX10_part 43 = .ok (.i2d, 1) := by decide +kernel
theorem d_X10_part_44 : decode cX10_part 44 = .ok (.ddiv, 1) := by decide +kernel
theorem d_X10_part_45 : decode cX10_part 45 = .ok (.invokestatic 353, 3) := by decide +kernel
theorem d_X10_part_48 : decode cX10_part 48 = .ok (.lreturn, 1) := by decide +kernel
theorem d_X10_image_0 : decode cX10_image 0 = .ok (.aload_n 0, 1) := by decide +kernel
theorem d_X10_image_1 : decode cX10_image 1 = .ok (.iconst 0, 1) := by decide +kernel
theorem d_X10_image_2 : decode cX10_image 2 = .ok (.putfield 1, 3) := by decide +kernel
theorem d_X10_image_5 : decode cX10_image 5 = .ok (.iload_n 1, 1) := by decide +kernel
theorem d_X10_image_6 : decode cX10_image 6 = .ok (.ifCond .ne 12, 3) := by decide +kernel
theorem d_X10_image_9 : decode cX10_image 9 = .ok (.aload_n 0, 1) := by decide +kernel
theorem d_X10_image_10 : decode cX10_image 10 = .ok (.getfield 359, 3) := by decide +kernel
theorem d_X10_image_13 : decode cX10_image 13 = .ok (.ifCond .ne 5, 3) := by decide +kernel
theorem d_X10_image_16 : decode cX10_image 16 = .ok (.iconst 0, 1) := by decide +kernel
theorem d_X10_image_17 : decode cX10_image 17 = .ok (.ireturn, 1) := by decide +kernel
theorem d_X10_image_18 : decode cX10_image 18 = .ok (.aload_n 0, 1) := by decide +kernel
theorem d_X10_image_19 : decode cX10_image 19 = .ok (.iconst 1, 1) := by decide +kernel
theorem d_X10_image_20 : decode cX10_image 20 = .ok (.putfield 359, 3) := by decide +kernel
theorem d_X10_image_23 : decode cX10_image 23 = .ok (.iconst 0, 1) := by decide +kernel
theorem d_X10_image_24 : decode cX10_image 24 = .ok (.istore_n 2, 1) := by decide +kernel
theorem d_X10_image_25 : decode cX10_image 25 = .ok (.iload_n 2, 1) := by decide +kernel
theorem d_X10_image_26 : decode cX10_image 26 = .ok (.sipush 2628, 3) := by decide +kernel
theorem d_X10_image_29 : decode cX10_image 29 = .ok (.if_icmp .ge 40, 3) := by decide +kernel
theorem d_X10_image_32 : decode cX10_image 32 = .ok (.iload_n 1, 1) := by decide +kernel
theorem d_X10_image_33 : decode cX10_image 33 = .ok (.ifCond .eq 18, 3) := by decide +kernel
theorem d_X10_image_36 : decode cX10_image 36 = .ok (.aload_n 0, 1) := by decide +kernel
theorem d_X10_image_37 : decode cX10_image 37 = .ok (.getfield 95, 3) := by decide +kernel
theorem d_X10_image_40 : decode cX10_image 40 = .ok (.iload_n 2, 1) := by decide +kernel
theorem d_X10_image_41 : decode cX10_image 41 = .ok (.aload_n 0, 1) := by decide +kernel
theorem d_X10_image_42 : decode cX10_image 42 = .ok (.getfield 7, 3) := by decide +kernel
theorem d_X10_image_45 : decode cX10_image 45 = .ok (.iload_n 2, 1) := by decide +kernel
theorem d_X10_image_46 : decode cX10_image 46 = .ok (.iaload, 1) := by decide +kernel
theorem d_X10_image_47 : decode cX10_image 47 = .ok (.iastore, 1) := by decide +kernel
theorem d_X10_image_48 : decode cX10_image 48 = .ok (.goto 15, 3) := by decide +kernel
theorem d_X10_image_51 : decode cX10_image 51 = .ok (.aload_n 0, 1) := by decide +kernel
theorem d_X10_image_52 : decode cX10_image 52 = .ok (.getfield 7, 3) := by decide +kernel
theorem d_X10_image_55 : decode cX10_image 55 = .ok (.iload_n 2, 1) := by decide +kernel
theorem d_X10_image_56 : decode cX10_image 56 = .ok (.aload_n 0, 1) := by decide +kernel
theorem d_X10_image_57 : decode cX10_image 57 = .ok (.getfield 95, 3) := by decide +kernel
theorem d_X10_image_60 : decode cX10_image 60 = .ok (.iload_n 2, 1) := by decide +kernel
theorem d_X10_image_61 : decode cX10_image 61 = .ok (.iaload, 1) := by decide +kernel
theorem d_X10_image_62 : decode cX10_image 62 = .ok (.iastore, 1) := by decide +kernel
theorem d_X10_image_63 : decode cX10_image 63 = .ok (.iinc 2 1, 3) := by decide +kernel
theorem d_X10_image_66 : decode cX10_image 66 = .ok (.goto (-41), 3) := by decide +kernel
theorem d_X10_image_69 : decode cX10_image 69 = .ok (.iload_n 1, 1) := by decide +kernel
theorem d_X10_image_70 : decode cX10_image 70 = .ok (.ifCond .eq 5, 3) := by decide +kernel
theorem d_X10_image_73 : decode cX10_image 73 = .ok (.iconst 1, 1) := by decide +kernel
theorem d_X10_image_74 : decode cX10_image 74 = .ok (.ireturn, 1) := by decide +kernel
theorem d_X10_image_75 : decode cX10_image 75 = .ok (.aload_n 0, 1) := by decide +kernel
theorem d_X10_image_76 : decode cX10_image 76 = .ok (.invokevirtual 98, 3) := by decide +kernel
theorem d_X10_image_79 : decode cX10_image 79 = .ok (.aload_n 0, 1) := by decide +kernel
theorem d_X10_image_80 : decode cX10_image 80 = .ok (.invokevirtual 101, 3) := by decide +kernel
theorem d_X10_image_83 : decode cX10_image 83 = .ok (.iconst 1, 1) := by decide +kernel
theorem d_X10_image_84 : decode cX10_image 84 = .ok (.ireturn, 1) := by decide +kernel
theorem d_X10_manyOf_0 : decode cX10_manyOf 0 = .ok (.iconst 0, 1) := by decide +kernel
theorem d_X10_manyOf_1 : decode cX10_manyOf 1 = .ok (.istore_n 2, 1) := by decide +kernel
theorem d_X10_manyOf_2 : decode cX10_manyOf 2 = .ok (.iconst 0, 1) := by decide +kernel
theorem d_X10_manyOf_3 : decode cX10_manyOf 3 = .ok (.istore_n 3, 1) := by decide +kernel
theorem d_X10_manyOf_4 : decode cX10_manyOf 4 = .ok (.iload_n 3, 1) := by decide +kernel
theorem d_X10_manyOf_5 : decode cX10_manyOf 5 = .ok (.aload_n 0, 1) := by decide +kernel
theorem d_X10_manyOf_6 : decode cX10_manyOf 6 = .ok (.getfield 25, 3) := by decide +kernel
theorem d_X10_manyOf_9 : decode cX10_manyOf 9 = .ok (.if_icmp .ge 27, 3) := by decide +kernel
theorem d_X10_manyOf_12 : decode cX10_manyOf 12 = .ok (.aload_n 0, 1) := by decide +kernel
theorem d_X10_manyOf_13 : decode cX10_manyOf 13 = .ok (.getfield 7, 3) := by decide +kernel
theorem d_X10_manyOf_16 : decode cX10_manyOf 16 = .ok (.sipush 227, 3) := by decide +kernel
theorem d_X10_manyOf_19 : decode cX10_manyOf 19 = .ok (.iload_n 3, 1) := by decide +kernel
theorem d_X10_manyOf_20 : decode cX10_manyOf 20 = .ok (.iadd, 1) := by decide +kernel
theorem d_X10_manyOf_21 : decode cX10_manyOf 21 = .ok (.iaload, 1) := by decide +kernel
theorem d_X10_manyOf_22 : decode cX10_manyOf 22 = .ok (.iload_n 1, 1) := by decide +kernel
theorem d_X10_manyOf_23 : decode cX10_manyOf 23 = .ok (.if_icmp .ne 7, 3) := by decide +kernel
theorem d_X10_manyOf_26 : decode cX10_manyOf 26 = .ok (.iload_n 2, 1) := by decide +kernel
theorem d_X10_manyOf_27 : decode cX10_manyOf 27 = .ok (.iconst 1, 1) := by decide +kernel
theorem d_X10_manyOf_28 : decode cX10_manyOf 28 = .ok (.iadd, 1) := by decide +kernel
theorem d_X10_manyOf_29 : decode cX10_manyOf 29 = .ok (.istore_n 2, 1) := by decide +kernel
theorem d_X10_manyOf_30 : decode cX10_manyOf 30 = .ok (.iinc 3 1, 3) := by decide +kernel
theorem d_X10_manyOf_33 : decode cX10_manyOf 33 = .ok (.goto (-29), 3) := by decide +kernel
theorem d_X10_manyOf_36 : decode cX10_manyOf 36 = .ok (.iload_n 2, 1) := by decide +kernel
theorem d_X10_manyOf_37 : decode cX10_manyOf 37 = .ok (.ireturn, 1) := by decide +kernel
theorem d_X10_weightsOf_0 : decode cX10_weightsOf 0 = .ok (.iconst 0, 1) := by decide +kernel
theorem d_X10_weightsOf_1 : decode cX10_weightsOf 1 = .ok (.istore_n 2, 1) := by decide +kernel
theorem d_X10_weightsOf_2 : decode cX10_weightsOf 2 = .ok (.iconst 0, 1) := by decide +kernel
theorem d_X10_weightsOf_3 : decode cX10_weightsOf 3 = .ok (.istore_n 3, 1) := by decide +kernel
theorem d_X10_weightsOf_4 : decode cX10_weightsOf 4 = .ok (.iload_n 3, 1) := by decide +kernel
theorem d_X10_weightsOf_5 : decode cX10_weightsOf 5 = .ok (.aload_n 0, 1) := by decide +kernel
theorem d_X10_weightsOf_6 : decode cX10_weightsOf 6 = .ok (.getfield 25, 3) := by decide +kernel
theorem d_X10_weightsOf_9 : decode cX10_weightsOf 9 = .ok (.if_icmp .ge 48, 3) := by decide +kernel
theorem d_X10_weightsOf_12 : decode cX10_weightsOf 12 = .ok (.iload_n 1, 1) := by decide +kernel
theorem d_X10_weightsOf_13 : decode cX10_weightsOf 13 = .ok (.ifCond .eq 14, 3) := by decide +kernel
theorem d_X10_weightsOf_16 : decode cX10_weightsOf 16 = .ok (.aload_n 0, 1) := by decide +kernel
theorem d_X10_weightsOf_17 : decode cX10_weightsOf 17 = .ok (.iload_n 3, 1) := by decide +kernel
theorem d_X10_weightsOf_18 : decode cX10_weightsOf 18 = .ok (.invokevirtual 254, 3) := by decide +kernel
theorem d_X10_weightsOf_21 : decode cX10_weightsOf 21 = .ok (.ifCond .eq 30, 3) := by decide +kernel
theorem d_X10_weightsOf_24 : decode cX10_weightsOf 24 = .ok (.goto 19, 3) := by decide +kernel
theorem d_X10_weightsOf_27 : decode cX10_weightsOf 27 = .ok (.aload_n 0, 1) := by decide +kernel
theorem d_X10_weightsOf_28 : decode cX10_weightsOf 28 = .ok (.iload_n 3, 1) := by decide +kernel
theorem d_X10_weightsOf_29 : decode cX10_weightsOf 29 = .ok (.invokevirtual 104, 3) := by decide +kernel
theorem d_X10_weightsOf_32 : decode cX10_weightsOf 32 = .ok (.ifCond .eq 19, 3) := by decide +kernel
theorem d_X10_weightsOf_35 : decode cX10_weightsOf 35 = .ok (.aload_n 0, 1) := by decide +kernel
theorem d_X10_weightsOf_36 : decode cX10_weightsOf 36 = .ok (.iload_n 3, 1) := by decide +kernel
theorem d_X10_weightsOf_37 : decode cX10_weightsOf 37 = .ok (.invokevirtual 257, 3) := by decide +kernel
theorem d_X10_weightsOf_40 : decode cX10_weightsOf 40 = .ok (.ifCond .ne 11, 3) := by decide +kernel
theorem d_X10_weightsOf_43 : decode cX10_weightsOf 43 = .ok (.iload_n 2, 1) := by decide +kernel
theorem d_X10_weightsOf_44 : decode cX10_weightsOf 44 = .ok (.aload_n 0, 1) := by decide +kernel
theorem d_X10_weightsOf_45 : decode cX10_weightsOf 45 = .ok (.iload_n 3, 1) := by decide +kernel
theorem d_X10_weightsOf_46 : decode cX10_weightsOf 46 = .ok (.invokevirtual 121, 3) := by decide +kernel
theorem d_X10_weightsOf_49 : decode cX10_weightsOf 49 = .ok (.iadd, 1) := by decide +kernel
theorem d_X10_weightsOf_50 : decode cX10_weightsOf 50 = .ok (.istore_n 2, 1) := by decide +kernel
theorem d_X10_weightsOf_51 : decode cX10_weightsOf 51 = .ok (.iinc 3 1, 3) := by decide +kernel
theorem d_X10_weightsOf_54 : decode cX10_weightsOf 54 = .ok (.goto (-50), 3) := by decide +kernel
theorem d_X10_weightsOf_57 : decode cX10_weightsOf 57 = .ok (.iload_n 2, 1) := by decide +kernel
theorem d_X10_weightsOf_58 : decode cX10_weightsOf 58 = .ok (.ireturn, 1) := by decide +kernel
theorem d_X10_lookAtRows_0 : decode cX10_lookAtRows 0 = .ok (.aload_n 0, 1) := by decide +kernel
theorem d_X10_lookAtRows_1 : decode cX10_lookAtRows 1 = .ok (.iload_n 1, 1) := by decide +kernel
theorem d_X10_lookAtRows_2 : decode cX10_lookAtRows 2 = .ok (.bipush 20, 2) := by decide +kernel
theorem d_X10_lookAtRows_4 : decode cX10_lookAtRows 4 = .ok (.bipush 19, 2) := by decide +kernel
theorem d_X10_lookAtRows_6 : decode cX10_lookAtRows 6 = .ok (.aload_n 0, 1) := by decide +kernel
theorem d_X10_lookAtRows_7 : decode cX10_lookAtRows 7 = .ok (.invokevirtual 11, 3) := by decide +kernel
theorem d_X10_lookAtRows_10 : decode cX10_lookAtRows 10 = .ok (.iadd, 1) := by decide +kernel
theorem d_X10_lookAtRows_11 : decode cX10_lookAtRows 11 = .ok (.invokevirtual 124, 3) := by decide +kernel
theorem d_X10_lookAtRows_14 : decode cX10_lookAtRows 14 = .ok (.ifCond .eq 15, 3) := by decide +kernel
theorem d_X10_lookAtRows_17 : decode cX10_lookAtRows 17 = .ok (.aload_n 0, 1) := by decide +kernel
theorem d_X10_lookAtRows_18 : decode cX10_lookAtRows 18 = .ok (.getfield 7, 3) := by decide +kernel
theorem d_X10_lookAtRows_21 : decode cX10_lookAtRows 21 = .ok (.iconst 4, 1) := by decide +kernel
theorem d_X10_lookAtRows_22 : decode cX10_lookAtRows 22 = .ok (.iload_n 1, 1) := by decide +kernel
theorem d_X10_lookAtRows_23 : decode cX10_lookAtRows 23 = .ok (.iadd, 1) := by decide +kernel
theorem d_X10_lookAtRows_24 : decode cX10_lookAtRows 24 = .ok (.bipush 20, 2) := by decide +kernel
theorem d_X10_lookAtRows_26 : decode cX10_lookAtRows 26 = .ok (.isub, 1) := by decide +kernel
theorem d_X10_lookAtRows_27 : decode cX10_lookAtRows 27 = .ok (.iaload, 1) := by decide +kernel
theorem d_X10_lookAtRows_28 : decode cX10_lookAtRows 28 = .ok (.ireturn, 1) := by decide +kernel
theorem d_X10_lookAtRows_29 : decode cX10_lookAtRows 29 = .ok (.aload_n 0, 1) := by decide +kernel
theorem d_X10_lookAtRows_30 : decode cX10_lookAtRows 30 = .ok (.iload_n 1, 1) := by decide +kernel
theorem d_X10_lookAtRows_31 : decode cX10_lookAtRows 31 = .ok (.bipush 30, 2) := by decide +kernel
theorem d_X10_lookAtRows_33 : decode cX10_lookAtRows 33 = .ok (.bipush 33, 2) := by decide +kernel
theorem d_X10_lookAtRows_35 : decode cX10_lookAtRows 35 = .ok (.invokevirtual 124, 3) := by decide +kernel
theorem d_X10_lookAtRows_38 : decode cX10_lookAtRows 38 = .ok (.ifCond .eq 12, 3) := by decide +kernel
theorem d_X10_lookAtRows_41 : decode cX10_lookAtRows 41 = .ok (.aload_n 0, 1) := by decide +kernel
theorem d_X10_lookAtRows_42 : decode cX10_lookAtRows 42 = .ok (.iload_n 1, 1) := by decide +kernel
theorem d_X10_lookAtRows_43 : decode cX10_lookAtRows 43 = .ok (.bipush 30, 2) := by decide +kernel
theorem d_X10_lookAtRows_45 : decode cX10_lookAtRows 45 = .ok (.isub, 1) := by decide +kernel
theorem d_X10_lookAtRows_46 : decode cX10_lookAtRows 46 = .ok (.invokevirtual 136, 3) := by decide +kernel
theorem d_X10_lookAtRows_49 : decode cX10_lookAtRows 49 = .ok (.ireturn, 1) := by decide +kernel
theorem d_X10_lookAtRows_50 : decode cX10_lookAtRows 50 = .ok (.aload_n 0, 1) := by decide +kernel
theorem d_X10_lookAtRows_51 : decode cX10_lookAtRows 51 = .ok (.iload_n 1, 1) := by decide +kernel
theorem d_X10_lookAtRows_52 : decode cX10_lookAtRows 52 = .ok (.bipush 40, 2) := by decide +kernel
theorem d_X10_lookAtRows_54 : decode cX10_lookAtRows 54 = .ok (.bipush 40, 2) := by decide +kernel
theorem d_X10_lookAtRows_56 : decode cX10_lookAtRows 56 = .ok (.aload_n 0, 1) := by decide +kernel
theorem d_X10_lookAtRows_57 : decode cX10_lookAtRows 57 = .ok (.invokevirtual 11, 3) := by decide +kernel
theorem d_X10_lookAtRows_60 : decode cX10_lookAtRows 60 = .ok (.iadd, 1) := by decide +kernel
theorem d_X10_lookAtRows_61 : decode cX10_lookAtRows 61 = .ok (.invokevirtual 124, 3) := by decide +kernel
theorem d_X10_lookAtRows_64 : decode cX10_lookAtRows 64 = .ok (.ifCond .eq 12, 3) := by decide +kernel
theorem d_X10_lookAtRows_67 : decode cX10_lookAtRows 67 = .ok (.aload_n 0, 1) := by decide +kernel
theorem d_X10_lookAtRows_68 : decode cX10_lookAtRows 68 = .ok (.iload_n 1, 1) := by decide +kernel
theorem d_X10_lookAtRows_69 : decode cX10_lookAtRows 69 = .ok (.bipush 40, 2) := by decide +kernel
theorem d_X10_lookAtRows_71 : decode cX10_lookAtRows 71 = .ok (.isub, 1) := by decide +kernel
theorem d_X10_lookAtRows_72 : decode cX10_lookAtRows 72 = .ok (.invokevirtual 201, 3) := by decide +kernel
theorem d_X10_lookAtRows_75 : decode cX10_lookAtRows 75 = .ok (.ireturn, 1) := by decide +kernel
theorem d_X10_lookAtRows_76 : decode cX10_lookAtRows 76 = .ok (.aload_n 0, 1) := by decide +kernel
theorem d_X10_lookAtRows_77 : decode cX10_lookAtRows 77 = .ok (.iload_n 1, 1) := by decide +kernel
theorem d_X10_lookAtRows_78 : decode cX10_lookAtRows 78 = .ok (.bipush 50, 2) := by decide +kernel
theorem d_X10_lookAtRows_80 : decode cX10_lookAtRows 80 = .ok (.bipush 49, 2) := by decide +kernel
theorem d_X10_lookAtRows_82 : decode cX10_lookAtRows 82 = .ok (.aload_n 0, 1) := by decide +kernel
theorem d_X10_lookAtRows_83 : decode cX10_lookAtRows 83 = .ok (.invokevirtual 11, 3) := by decide +kernel
theorem d_X10_lookAtRows_86 : decode cX10_lookAtRows 86 = .ok (.iadd, 1) := by decide +kernel
theorem d_X10_lookAtRows_87 : decode cX10_lookAtRows 87 = .ok (.invokevirtual 124, 3) := by decide +kernel
theorem d_X10_lookAtRows_90 : decode cX10_lookAtRows 90 = .ok (.ifCond .eq 18, 3) := by decide +kernel
theorem d_X10_lookAtRows_93 : decode cX10_lookAtRows 93 = .ok (.aload_n 0, 1) := by decide +kernel
theorem d_X10_lookAtRows_94 : decode cX10_lookAtRows 94 = .ok (.getfield 7, 3) := by decide +kernel
theorem d_X10_lookAtRows_97 : decode cX10_lookAtRows 97 = .ok (.bipush 9, 2) := by decide +kernel
theorem d_X10_lookAtRows_99 : decode cX10_lookAtRows 99 = .ok (.iload_n 1, 1) := by decide +kernel
theorem d_X10_lookAtRows_100 : decode cX10_lookAtRows 100 = .ok (.iadd, 1) := by decide +kernel
theorem d_X10_lookAtRows_101 : decode cX10_lookAtRows 101 = .ok (.bipush 50, 2) := by decide +kernel
theorem d_X10_lookAtRows_103 : decode cX10_lookAtRows 103 = .ok (.isub, 1) := by decide +kernel
theorem d_X10_lookAtRows_104 : decode cX10_lookAtRows 104 = .ok (.iaload, 1) := by decide +kernel
theorem d_X10_lookAtRows_105 : decode cX10_lookAtRows 105 = .ok (.goto 5, 3) := by decide +kernel
theorem d_X10_lookAtRows_108 : decode cX10_lookAtRows 108 = .ok (.bipush (-100), 2) := by decide +kernel
theorem d_X10_lookAtRows_110 : decode cX10_lookAtRows 110 = .ok (.ireturn, 1) := by decide +kernel
theorem d_X10_look_0 : decode cX10_look 0 = .ok (.aload_n 0, 1) := by decide +kernel
theorem d_X10_look_1 : decode cX10_look 1 = .ok (.iconst 0, 1) := by decide +kernel
theorem d_X10_look_2 : decode cX10_look 2 = .ok (.putfield 1, 3) := by decide +kernel
theorem d_X10_look_5 : decode cX10_look 5 = .ok (.iload_n 1, 1) := by decide +kernel
theorem d_X10_look_6 : decode cX10_look 6 = .ok (.ifCond .ne 8, 3) := by decide +kernel
theorem d_X10_look_9 : decode cX10_look 9 = .ok (.aload_n 0, 1) := by decide +kernel
theorem d_X10_look_10 : decode cX10_look 10 = .ok (.invokevirtual 11, 3) := by decide +kernel
theorem d_X10_look_13 : decode cX10_look 13 = .ok (.ireturn, 1) := by decide +kernel
theorem d_X10_look_14 : decode cX10_look 14 = .ok (.iload_n 1, 1) := by decide +kernel
theorem d_X10_look_15 : decode cX10_look 15 = .ok (.iconst 1, 1) := by decide +kernel
theorem d_X10_look_16 : decode cX10_look 16 = .ok (.if_icmp .ne 8, 3) := by decide +kernel
theorem d_X10_look_19 : decode cX10_look 19 = .ok (.aload_n 0, 1) := by decide +kernel
theorem d_X10_look_20 : decode cX10_look 20 = .ok (.invokevirtual 22, 3) := by decide +kernel
theorem d_X10_look_23 : decode cX10_look 23 = .ok (.ireturn, 1) := by decide +kernel
theorem d_X10_look_24 : decode cX10_look 24 = .ok (.iload_n 1, 1) := by decide +kernel
theorem d_X10_look_25 : decode cX10_look 25 = .ok (.iconst 2, 1) := by decide +kernel
theorem d_X10_look_26 : decode cX10_look 26 = .ok (.if_icmp .ne 8, 3) := by decide +kernel
theorem d_X10_look_29 : decode cX10_look 29 = .ok (.aload_n 0, 1) := by decide +kernel
theorem d_X10_look_30 : decode cX10_look 30 = .ok (.invokevirtual 148, 3) := by decide +kernel
theorem d_X10_look_33 : decode cX10_look 33 = .ok (.ireturn, 1) := by decide +kernel
theorem d_X10_look_34 : decode cX10_look 34 = .ok (.iload_n 1, 1) := by decide +kernel
theorem d_X10_look_35 : decode cX10_look 35 = .ok (.iconst 3, 1) := by decide +kernel
theorem d_X10_look_36 : decode cX10_look 36 = .ok (.if_icmp .ne 8, 3) := by decide +kernel
theorem d_X10_look_39 : decode cX10_look 39 = .ok (.aload_n 0, 1) := by decide +kernel
theorem d_X10_look_40 : decode cX10_look 40 = .ok (.getfield 25, 3) := by decide +kernel
theorem d_X10_look_43 : decode cX10_look 43 = .ok (.ireturn, 1) := by decide +kernel
theorem d_X10_look_44 : decode cX10_look 44 = .ok (.iload_n 1, 1) := by decide +kernel
theorem d_X10_look_45 : decode cX10_look 45 = .ok (.iconst 4, 1) := by decide +kernel
theorem d_X10_look_46 : decode cX10_look 46 = .ok (.if_icmp .ne 8, 3) := by decide +kernel
theorem d_X10_look_49 : decode cX10_look 49 = .ok (.aload_n 0, 1) := by decide +kernel
theorem d_X10_look_50 : decode cX10_look 50 = .ok (.invokevirtual 142, 3) := by decide +kernel
theorem d_X10_look_53 : decode cX10_look 53 = .ok (.ireturn, 1) := by decide +kernel
theorem d_X10_look_54 : decode cX10_look 54 = .ok (.iload_n 1, 1) := by decide +kernel
theorem d_X10_look_55 : decode cX10_look 55 = .ok (.iconst 5, 1) := by decide +kernel
theorem d_X10_look_56 : decode cX10_look 56 = .ok (.if_icmp .ne 9, 3) := by decide +kernel
theorem d_X10_look_59 : decode cX10_look 59 = .ok (.aload_n 0, 1) := by decide +kernel
theorem d_X10_look_60 : decode cX10_look 60 = .ok (.iconst 1, 1) := by decide +kernel
theorem d_X10_look_61 : decode cX10_look 61 = .ok (.invokevirtual 362, 3) := by decide +kernel
theorem d_X10_look_64 : decode cX10_look 64 = .ok (.ireturn, 1) := by decide +kernel
theorem d_X10_look_65 : decode cX10_look 65 = .ok (.iload_n 1, 1) := by decide +kernel
theorem d_X10_look_66 : decode cX10_look 66 = .ok (.bipush 6, 2) := by decide +kernel
theorem d_X10_look_68 : decode cX10_look 68 = .ok (.if_icmp .ne 9, 3) := by decide +kernel
theorem d_X10_look_71 : decode cX10_look 71 = .ok (.aload_n 0, 1) := by decide +kernel
theorem d_X10_look_72 : decode cX10_look 72 = .ok (.iconst 2, 1) := by decide +kernel
theorem d_X10_look_73 : decode cX10_look 73 = .ok (.invokevirtual 362, 3) := by decide +kernel
theorem d_X10_look_76 : decode cX10_look 76 = .ok (.ireturn, 1) := by decide +kernel
theorem d_X10_look_77 : decode cX10_look 77 = .ok (.iload_n 1, 1) := by decide +kernel
theorem d_X10_look_78 : decode cX10_look 78 = .ok (.bipush 7, 2) := by decide +kernel
theorem d_X10_look_80 : decode cX10_look 80 = .ok (.if_icmp .ne 8, 3) := by decide +kernel
theorem d_X10_look_83 : decode cX10_look 83 = .ok (.aload_n 0, 1) := by decide +kernel
theorem d_X10_look_84 : decode cX10_look 84 = .ok (.invokevirtual 323, 3) := by decide +kernel
theorem d_X10_look_87 : decode cX10_look 87 = .ok (.ireturn, 1) := by decide +kernel
theorem d_X10_look_88 : decode cX10_look 88 = .ok (.iload_n 1, 1) := by decide +kernel
theorem d_X10_look_89 : decode cX10_look 89 = .ok (.bipush 8, 2) := by decide +kernel
theorem d_X10_look_91 : decode cX10_look 91 = .ok (.if_icmp .ne 8, 3) := by decide +kernel
theorem d_X10_look_94 : decode cX10_look 94 = .ok (.aload_n 0, 1) := by decide +kernel
theorem d_X10_look_95 : decode cX10_look 95 = .ok (.invokevirtual 326, 3) := by decide +kernel
theorem d_X10_look_98 : decode cX10_look 98 = .ok (.ireturn, 1) := by decide +kernel
theorem d_X10_look_99 : decode cX10_look 99 = .ok (.iload_n 1, 1) := by decide +kernel
theorem d_X10_look_100 : decode cX10_look 100 = .ok (.bipush 9, 2) := by decide +kernel
theorem d_X10_look_102 : decode cX10_look 102 = .ok (.if_icmp .ne 12, 3) := by decide +kernel
theorem d_X10_look_105 : decode cX10_look 105 = .ok (.aload_n 0, 1) := by decide +kernel
theorem d_X10_look_106 : decode cX10_look 106 = .ok (.aload_n 0, 1) := by decide +kernel
theorem d_X10_look_107 : decode cX10_look 107 = .ok (.invokevirtual 332, 3) := by decide +kernel
theorem d_X10_look_110 : decode cX10_look 110 = .ok (.invokevirtual 310, 3) := by decide +kernel
theorem d_X10_look_113 : decode cX10_look 113 = .ok (.ireturn, 1) := by decide +kernel
theorem d_X10_look_114 : decode cX10_look 114 = .ok (.iload_n 1, 1) := by decide +kernel
theorem d_X10_look_115 : decode cX10_look 115 = .ok (.bipush 10, 2) := by decide +kernel
theorem d_X10_look_117 : decode cX10_look 117 = .ok (.if_icmp .ne 8, 3) := by decide +kernel
theorem d_X10_look_120 : decode cX10_look 120 = .ok (.aload_n 0, 1) := by decide +kernel
theorem d_X10_look_121 : decode cX10_look 121 = .ok (.invokevirtual 213, 3) := by decide +kernel
theorem d_X10_look_124 : decode cX10_look 124 = .ok (.ireturn, 1) := by decide +kernel
theorem d_X10_look_125 : decode cX10_look 125 = .ok (.iload_n 1, 1) := by decide +kernel
theorem d_X10_look_126 : decode cX10_look 126 = .ok (.bipush 11, 2) := by decide +kernel
theorem d_X10_look_128 : decode cX10_look 128 = .ok (.if_icmp .ne 12, 3) := by decide +kernel
theorem d_X10_look_131 : decode cX10_look 131 = .ok (.aload_n 0, 1) := by decide +kernel
theorem d_X10_look_132 : decode cX10_look 132 = .ok (.aload_n 0, 1) := by decide +kernel
theorem d_X10_look_133 : decode cX10_look 133 = .ok (.invokevirtual 155, 3) := by decide +kernel
theorem d_X10_look_136 : decode cX10_look 136 = .ok (.invokevirtual 310, 3) := by decide +kernel
theorem d_X10_look_139 : decode cX10_look 139 = .ok (.ireturn, 1) := by decide +kernel
theorem d_X10_look_140 : decode cX10_look 140 = .ok (.iload_n 1, 1) := by decide +kernel
theorem d_X10_look_141 : decode cX10_look 141 = .ok (.bipush 12, 2) := by decide +kernel
theorem d_X10_look_143 : decode cX10_look 143 = .ok (.if_icmp .ne 8, 3) := by decide +kernel
theorem d_X10_look_146 : decode cX10_look 146 = .ok (.aload_n 0, 1) := by decide +kernel
theorem d_X10_look_147 : decode cX10_look 147 = .ok (.getfield 166, 3) := by decide +kernel
theorem d_X10_look_150 : decode cX10_look 150 = .ok (.ireturn, 1) := by decide +kernel
theorem d_X10_look_151 : decode cX10_look 151 = .ok (.iload_n 1, 1) := by decide +kernel
theorem d_X10_look_152 : decode cX10_look 152 = .ok (.bipush 13, 2) := by decide +kernel
theorem d_X10_look_154 : decode cX10_look 154 = .ok (.if_icmp .ne 9, 3) := by decide +kernel
theorem d_X10_look_157 : decode cX10_look 157 = .ok (.aload_n 0, 1) := by decide +kernel
theorem d_X10_look_158 : decode cX10_look 158 = .ok (.iconst 1, 1) := by decide +kernel
theorem d_X10_look_159 : decode cX10_look 159 = .ok (.invokevirtual 365, 3) := by decide +kernel
theorem d_X10_look_162 : decode cX10_look 162 = .ok (.ireturn, 1) := by decide +kernel
theorem d_X10_look_163 : decode cX10_look 163 = .ok (.iload_n 1, 1) := by decide +kernel
theorem d_X10_look_164 : decode cX10_look 164 = .ok (.bipush 14, 2) := by decide +kernel
theorem d_X10_look_166 : decode cX10_look 166 = .ok (.if_icmp .ne 11, 3) := by decide +kernel
theorem d_X10_look_169 : decode cX10_look 169 = .ok (.aload_n 0, 1) := by decide +kernel
theorem d_X10_look_170 : decode cX10_look 170 = .ok (.iconst 0, 1) := by decide +kernel
theorem d_X10_look_171 : decode cX10_look 171 = .ok (.invokevirtual 365, 3) := by decide +kernel
theorem d_X10_look_174 : decode cX10_look 174 = .ok (.goto 8, 3) := by decide +kernel
theorem d_X10_look_177 : decode cX10_look 177 = .ok (.aload_n 0, 1) := by decide +kernel
theorem d_X10_look_178 : decode cX10_look 178 = .ok (.iload_n 1, 1) := by decide +kernel
theorem d_X10_look_179 : decode cX10_look 179 = .ok (.invokevirtual 368, 3) := by decide +kernel
theorem d_X10_look_182 : decode cX10_look 182 = .ok (.ireturn, 1) := by decide +kernel
