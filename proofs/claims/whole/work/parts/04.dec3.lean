theorem dX10_join_43 : decode cX10_join 43 = .ok (.iload_n 1, 1) := by decide +kernel
theorem dX10_join_44 : decode cX10_join 44 = .ok (.iload_n 2, 1) := by decide +kernel
theorem dX10_join_45 : decode cX10_join 45 = .ok (.invokevirtual 123, 3) := by decide +kernel
theorem dX10_join_48 : decode cX10_join 48 = .ok (.aload_n 0, 1) := by decide +kernel
theorem dX10_join_49 : decode cX10_join 49 = .ok (.iload_n 2, 1) := by decide +kernel
theorem dX10_join_50 : decode cX10_join 50 = .ok (.invokevirtual 112, 3) := by decide +kernel
theorem dX10_join_53 : decode cX10_join 53 = .ok (.invokestatic 115, 3) := by decide +kernel
theorem dX10_join_56 : decode cX10_join 56 = .ok (.ireturn, 1) := by decide +kernel
theorem dX10_leave_0 : decode cX10_leave 0 = .ok (.aload_n 0, 1) := by decide +kernel
theorem dX10_leave_1 : decode cX10_leave 1 = .ok (.iload_n 1, 1) := by decide +kernel
theorem dX10_leave_2 : decode cX10_leave 2 = .ok (.iconst 0, 1) := by decide +kernel
theorem dX10_leave_3 : decode cX10_leave 3 = .ok (.invokevirtual 95, 3) := by decide +kernel
theorem dX10_leave_6 : decode cX10_leave 6 = .ok (.ifCond .ne 10, 3) := by decide +kernel
theorem dX10_leave_9 : decode cX10_leave 9 = .ok (.aload_n 0, 1) := by decide +kernel
theorem dX10_leave_10 : decode cX10_leave 10 = .ok (.ldc 80, 2) := by decide +kernel
theorem dX10_leave_12 : decode cX10_leave 12 = .ok (.invokevirtual 81, 3) := by decide +kernel
theorem dX10_leave_15 : decode cX10_leave 15 = .ok (.ireturn, 1) := by decide +kernel
theorem dX10_leave_16 : decode cX10_leave 16 = .ok (.aload_n 0, 1) := by decide +kernel
theorem dX10_leave_17 : decode cX10_leave 17 = .ok (.iload_n 1, 1) := by decide +kernel
theorem dX10_leave_18 : decode cX10_leave 18 = .ok (.iconst 4, 1) := by decide +kernel
theorem dX10_leave_19 : decode cX10_leave 19 = .ok (.invokevirtual 86, 3) := by decide +kernel
theorem dX10_leave_22 : decode cX10_leave 22 = .ok (.istore_n 2, 1) := by decide +kernel
theorem dX10_leave_23 : decode cX10_leave 23 = .ok (.iload_n 2, 1) := by decide +kernel
theorem dX10_leave_24 : decode cX10_leave 24 = .ok (.ifCond .ge 10, 3) := by decide +kernel
theorem dX10_leave_27 : decode cX10_leave 27 = .ok (.aload_n 0, 1) := by decide +kernel
theorem dX10_leave_28 : decode cX10_leave 28 = .ok (.ldc 122, 2) := by decide +kernel
theorem dX10_leave_30 : decode cX10_leave 30 = .ok (.invokevirtual 81, 3) := by decide +kernel
theorem dX10_leave_33 : decode cX10_leave 33 = .ok (.ireturn, 1) := by decide +kernel
theorem dX10_leave_34 : decode cX10_leave 34 = .ok (.aload_n 0, 1) := by decide +kernel
theorem dX10_leave_35 : decode cX10_leave 35 = .ok (.iload_n 1, 1) := by decide +kernel
theorem dX10_leave_36 : decode cX10_leave 36 = .ok (.iconst (-1), 1) := by decide +kernel
theorem dX10_leave_37 : decode cX10_leave 37 = .ok (.invokevirtual 123, 3) := by decide +kernel
theorem dX10_leave_40 : decode cX10_leave 40 = .ok (.iload_n 2, 1) := by decide +kernel
theorem dX10_leave_41 : decode cX10_leave 41 = .ok (.ireturn, 1) := by decide +kernel
theorem dX10_warmth_0 : decode cX10_warmth 0 = .ok (.aload_n 0, 1) := by decide +kernel
theorem dX10_warmth_1 : decode cX10_warmth 1 = .ok (.iload_n 2, 1) := by decide +kernel
theorem dX10_warmth_2 : decode cX10_warmth 2 = .ok (.invokevirtual 112, 3) := by decide +kernel
theorem dX10_warmth_5 : decode cX10_warmth 5 = .ok (.iconst 1, 1) := by decide +kernel
theorem dX10_warmth_6 : decode cX10_warmth 6 = .ok (.iload_n 1, 1) := by decide +kernel
theorem dX10_warmth_7 : decode cX10_warmth 7 = .ok (.ishl, 1) := by decide +kernel
theorem dX10_warmth_8 : decode cX10_warmth 8 = .ok (.iconst (-1), 1) := by decide +kernel
theorem dX10_warmth_9 : decode cX10_warmth 9 = .ok (.ixor, 1) := by decide +kernel
theorem dX10_warmth_10 : decode cX10_warmth 10 = .ok (.iand, 1) := by decide +kernel
theorem dX10_warmth_11 : decode cX10_warmth 11 = .ok (.istore_n 3, 1) := by decide +kernel
theorem dX10_warmth_12 : decode cX10_warmth 12 = .ok (.iconst 0, 1) := by decide +kernel
theorem dX10_warmth_13 : decode cX10_warmth 13 = .ok (.istore 4, 2) := by decide +kernel
theorem dX10_warmth_15 : decode cX10_warmth 15 = .ok (.iconst 0, 1) := by decide +kernel
theorem dX10_warmth_16 : decode cX10_warmth 16 = .ok (.istore 5, 2) := by decide +kernel
theorem dX10_warmth_18 : decode cX10_warmth 18 = .ok (.iload 5, 2) := by decide +kernel
theorem dX10_warmth_20 : decode cX10_warmth 20 = .ok (.aload_n 0, 1) := by decide +kernel
theorem dX10_warmth_21 : decode cX10_warmth 21 = .ok (.getfield 9, 3) := by decide +kernel
theorem dX10_warmth_24 : decode cX10_warmth 24 = .ok (.iconst 0, 1) := by decide +kernel
theorem dX10_warmth_25 : decode cX10_warmth 25 = .ok (.iaload, 1) := by decide +kernel
theorem dX10_warmth_26 : decode cX10_warmth 26 = .ok (.if_icmp .ge 34, 3) := by decide +kernel
theorem dX10_warmth_29 : decode cX10_warmth 29 = .ok (.iload 4, 2) := by decide +kernel
theorem dX10_warmth_31 : decode cX10_warmth 31 = .ok (.iload_n 3, 1) := by decide +kernel
theorem dX10_warmth_32 : decode cX10_warmth 32 = .ok (.iload 5, 2) := by decide +kernel
theorem dX10_warmth_34 : decode cX10_warmth 34 = .ok (.invokestatic 127, 3) := by decide +kernel
theorem dX10_warmth_37 : decode cX10_warmth 37 = .ok (.ifCond .eq 13, 3) := by decide +kernel
theorem dX10_warmth_40 : decode cX10_warmth 40 = .ok (.aload_n 0, 1) := by decide +kernel
theorem dX10_warmth_41 : decode cX10_warmth 41 = .ok (.iload 5, 2) := by decide +kernel
theorem dX10_warmth_43 : decode cX10_warmth 43 = .ok (.iload_n 1, 1) := by decide +kernel
theorem dX10_warmth_44 : decode cX10_warmth 44 = .ok (.invokevirtual 130, 3) := by decide +kernel
theorem dX10_warmth_47 : decode cX10_warmth 47 = .ok (.goto 4, 3) := by decide +kernel
theorem dX10_warmth_50 : decode cX10_warmth 50 = .ok (.iconst 0, 1) := by decide +kernel
theorem dX10_warmth_51 : decode cX10_warmth 51 = .ok (.iadd, 1) := by decide +kernel
theorem dX10_warmth_52 : decode cX10_warmth 52 = .ok (.istore 4, 2) := by decide +kernel
theorem dX10_warmth_54 : decode cX10_warmth 54 = .ok (.iinc 5 1, 3) := by decide +kernel
theorem dX10_warmth_57 : decode cX10_warmth 57 = .ok (.goto (-39), 3) := by decide +kernel
theorem dX10_warmth_60 : decode cX10_warmth 60 = .ok (.iload_n 3, 1) := by decide +kernel
theorem dX10_warmth_61 : decode cX10_warmth 61 = .ok (.ifCond .ne 7, 3) := by decide +kernel
theorem dX10_warmth_64 : decode cX10_warmth 64 = .ok (.iconst 0, 1) := by decide +kernel
theorem dX10_warmth_65 : decode cX10_warmth 65 = .ok (.goto 10, 3) := by decide +kernel
theorem dX10_warmth_68 : decode cX10_warmth 68 = .ok (.iload 4, 2) := by decide +kernel
theorem dX10_warmth_70 : decode cX10_warmth 70 = .ok (.iload_n 3, 1) := by decide +kernel
theorem dX10_warmth_71 : decode cX10_warmth 71 = .ok (.invokestatic 115, 3) := by decide +kernel
theorem dX10_warmth_74 : decode cX10_warmth 74 = .ok (.idiv, 1) := by decide +kernel
theorem dX10_warmth_75 : decode cX10_warmth 75 = .ok (.ireturn, 1) := by decide +kernel
theorem dX10_fondest_0 : decode cX10_fondest 0 = .ok (.iconst 0, 1) := by decide +kernel
theorem dX10_fondest_1 : decode cX10_fondest 1 = .ok (.istore_n 3, 1) := by decide +kernel
theorem dX10_fondest_2 : decode cX10_fondest 2 = .ok (.iconst 0, 1) := by decide +kernel
theorem dX10_fondest_3 : decode cX10_fondest 3 = .ok (.istore 4, 2) := by decide +kernel
theorem dX10_fondest_5 : decode cX10_fondest 5 = .ok (.iload 4, 2) := by decide +kernel
theorem dX10_fondest_7 : decode cX10_fondest 7 = .ok (.aload_n 0, 1) := by decide +kernel
theorem dX10_fondest_8 : decode cX10_fondest 8 = .ok (.getfield 9, 3) := by decide +kernel
theorem dX10_fondest_11 : decode cX10_fondest 11 = .ok (.iconst 0, 1) := by decide +kernel
theorem dX10_fondest_12 : decode cX10_fondest 12 = .ok (.iaload, 1) := by decide +kernel
theorem dX10_fondest_13 : decode cX10_fondest 13 = .ok (.if_icmp .ge 42, 3) := by decide +kernel
theorem dX10_fondest_16 : decode cX10_fondest 16 = .ok (.iload 4, 2) := by decide +kernel
theorem dX10_fondest_18 : decode cX10_fondest 18 = .ok (.iload_n 1, 1) := by decide +kernel
theorem dX10_fondest_19 : decode cX10_fondest 19 = .ok (.if_icmp .eq 28, 3) := by decide +kernel
theorem dX10_fondest_22 : decode cX10_fondest 22 = .ok (.aload_n 0, 1) := by decide +kernel
theorem dX10_fondest_23 : decode cX10_fondest 23 = .ok (.iload 4, 2) := by decide +kernel
theorem dX10_fondest_25 : decode cX10_fondest 25 = .ok (.iconst 4, 1) := by decide +kernel
theorem dX10_fondest_26 : decode cX10_fondest 26 = .ok (.invokevirtual 86, 3) := by decide +kernel
theorem dX10_fondest_29 : decode cX10_fondest 29 = .ok (.iload_n 2, 1) := by decide +kernel
theorem dX10_fondest_30 : decode cX10_fondest 30 = .ok (.if_icmp .ne 17, 3) := by decide +kernel
theorem dX10_fondest_33 : decode cX10_fondest 33 = .ok (.iload_n 3, 1) := by decide +kernel
theorem dX10_fondest_34 : decode cX10_fondest 34 = .ok (.aload_n 0, 1) := by decide +kernel
theorem dX10_fondest_35 : decode cX10_fondest 35 = .ok (.iload 4, 2) := by decide +kernel
theorem dX10_fondest_37 : decode cX10_fondest 37 = .ok (.iload_n 1, 1) := by decide +kernel
theorem dX10_fondest_38 : decode cX10_fondest 38 = .ok (.invokevirtual 130, 3) := by decide +kernel
theorem dX10_fondest_41 : decode cX10_fondest 41 = .ok (.invokestatic 69, 3) := by decide +kernel
theorem dX10_fondest_44 : decode cX10_fondest 44 = .ok (.goto 4, 3) := by decide +kernel
theorem dX10_fondest_47 : decode cX10_fondest 47 = .ok (.iload_n 3, 1) := by decide +kernel
theorem dX10_fondest_48 : decode cX10_fondest 48 = .ok (.istore_n 3, 1) := by decide +kernel
theorem dX10_fondest_49 : decode cX10_fondest 49 = .ok (.iinc 4 1, 3) := by decide +kernel
theorem dX10_fondest_52 : decode cX10_fondest 52 = .ok (.goto (-47), 3) := by decide +kernel
theorem dX10_fondest_55 : decode cX10_fondest 55 = .ok (.iload_n 3, 1) := by decide +kernel
theorem dX10_fondest_56 : decode cX10_fondest 56 = .ok (.ireturn, 1) := by decide +kernel
theorem dX10_likesNobody_0 : decode cX10_likesNobody 0 = .ok (.iconst 1, 1) := by decide +kernel
theorem dX10_likesNobody_1 : decode cX10_likesNobody 1 = .ok (.istore_n 3, 1) := by decide +kernel
theorem dX10_likesNobody_2 : decode cX10_likesNobody 2 = .ok (.iconst 0, 1) := by decide +kernel
theorem dX10_likesNobody_3 : decode cX10_likesNobody 3 = .ok (.istore 4, 2) := by decide +kernel
theorem dX10_likesNobody_5 : decode cX10_likesNobody 5 = .ok (.iload 4, 2) := by decide +kernel
theorem dX10_likesNobody_7 : decode cX10_likesNobody 7 = .ok (.aload_n 0, 1) := by decide +kernel
theorem dX10_likesNobody_8 : decode cX10_likesNobody 8 = .ok (.getfield 9, 3) := by decide +kernel
theorem dX10_likesNobody_11 : decode cX10_likesNobody 11 = .ok (.iconst 0, 1) := by decide +kernel
theorem dX10_likesNobody_12 : decode cX10_likesNobody 12 = .ok (.iaload, 1) := by decide +kernel
theorem dX10_likesNobody_13 : decode cX10_likesNobody 13 = .ok (.if_icmp .ge 48, 3) := by decide +kernel
theorem dX10_likesNobody_16 : decode cX10_likesNobody 16 = .ok (.iload_n 3, 1) := by decide +kernel
theorem dX10_likesNobody_17 : decode cX10_likesNobody 17 = .ok (.ifCond .eq 36, 3) := by decide +kernel
theorem dX10_likesNobody_20 : decode cX10_likesNobody 20 = .ok (.iload 4, 2) := by decide +kernel
theorem dX10_likesNobody_22 : decode cX10_likesNobody 22 = .ok (.iload_n 1, 1) := by decide +kernel
theorem dX10_likesNobody_23 : decode cX10_likesNobody 23 = .ok (.if_icmp .eq 26, 3) := by decide +kernel
theorem dX10_likesNobody_26 : decode cX10_likesNobody 26 = .ok (.aload_n 0, 1) := by decide +kernel
theorem dX10_likesNobody_27 : decode cX10_likesNobody 27 = .ok (.iload 4, 2) := by decide +kernel
theorem dX10_likesNobody_29 : decode cX10_likesNobody 29 = .ok (.iconst 4, 1) := by decide +kernel
theorem dX10_likesNobody_30 : decode cX10_likesNobody 30 = .ok (.invokevirtual 86, 3) := by decide +kernel
theorem dX10_likesNobody_33 : decode cX10_likesNobody 33 = .ok (.iload_n 2, 1) := by decide +kernel
theorem dX10_likesNobody_34 : decode cX10_likesNobody 34 = .ok (.if_icmp .ne 15, 3) := by decide +kernel
theorem dX10_likesNobody_37 : decode cX10_likesNobody 37 = .ok (.aload_n 0, 1) := by decide +kernel
theorem dX10_likesNobody_38 : decode cX10_likesNobody 38 = .ok (.iload_n 1, 1) := by decide +kernel
theorem dX10_likesNobody_39 : decode cX10_likesNobody 39 = .ok (.iload 4, 2) := by decide +kernel
theorem dX10_likesNobody_41 : decode cX10_likesNobody 41 = .ok (.invokevirtual 130, 3) := by decide +kernel
theorem dX10_likesNobody_44 : decode cX10_likesNobody 44 = .ok (.bipush 50, 2) := by decide +kernel
theorem dX10_likesNobody_46 : decode cX10_likesNobody 46 = .ok (.if_icmp .ge 7, 3) := by decide +kernel
theorem dX10_likesNobody_49 : decode cX10_likesNobody 49 = .ok (.iconst 1, 1) := by decide +kernel
theorem dX10_likesNobody_50 : decode cX10_likesNobody 50 = .ok (.goto 4, 3) := by decide +kernel
theorem dX10_likesNobody_53 : decode cX10_likesNobody 53 = .ok (.iconst 0, 1) := by decide +kernel
theorem dX10_likesNobody_54 : decode cX10_likesNobody 54 = .ok (.istore_n 3, 1) := by decide +kernel
theorem dX10_likesNobody_55 : decode cX10_likesNobody 55 = .ok (.iinc 4 1, 3) := by decide +kernel
theorem dX10_likesNobody_58 : decode cX10_likesNobody 58 = .ok (.goto (-53), 3) := by decide +kernel
theorem dX10_likesNobody_61 : decode cX10_likesNobody 61 = .ok (.iload_n 3, 1) := by decide +kernel
theorem dX10_likesNobody_62 : decode cX10_likesNobody 62 = .ok (.ireturn, 1) := by decide +kernel
theorem dX10_watching_0 : decode cX10_watching 0 = .ok (.aload_n 0, 1) := by decide +kernel
theorem dX10_watching_1 : decode cX10_watching 1 = .ok (.getfield 9, 3) := by decide +kernel
theorem dX10_watching_4 : decode cX10_watching 4 = .ok (.sipush 187, 3) := by decide +kernel
theorem dX10_watching_7 : decode cX10_watching 7 = .ok (.iconst 5, 1) := by decide +kernel
theorem dX10_watching_8 : decode cX10_watching 8 = .ok (.iload_n 1, 1) := by decide +kernel
theorem dX10_watching_9 : decode cX10_watching 9 = .ok (.imul, 1) := by decide +kernel
theorem dX10_watching_10 : decode cX10_watching 10 = .ok (.iadd, 1) := by decide +kernel
theorem dX10_watching_11 : decode cX10_watching 11 = .ok (.iload_n 2, 1) := by decide +kernel
theorem dX10_watching_12 : decode cX10_watching 12 = .ok (.iadd, 1) := by decide +kernel
theorem dX10_watching_13 : decode cX10_watching 13 = .ok (.iaload, 1) := by decide +kernel
theorem dX10_watching_14 : decode cX10_watching 14 = .ok (.ireturn, 1) := by decide +kernel
theorem dX10_agesApart_0 : decode cX10_agesApart 0 = .ok (.iconst 0, 1) := by decide +kernel
theorem dX10_agesApart_1 : decode cX10_agesApart 1 = .ok (.istore_n 3, 1) := by decide +kernel
theorem dX10_agesApart_2 : decode cX10_agesApart 2 = .ok (.iload_n 3, 1) := by decide +kernel
theorem dX10_agesApart_3 : decode cX10_agesApart 3 = .ok (.aload_n 0, 1) := by decide +kernel
theorem dX10_agesApart_4 : decode cX10_agesApart 4 = .ok (.getfield 9, 3) := by decide +kernel
theorem dX10_agesApart_7 : decode cX10_agesApart 7 = .ok (.iconst 0, 1) := by decide +kernel
theorem dX10_agesApart_8 : decode cX10_agesApart 8 = .ok (.iaload, 1) := by decide +kernel
theorem dX10_agesApart_9 : decode cX10_agesApart 9 = .ok (.if_icmp .ge 36, 3) := by decide +kernel
theorem dX10_agesApart_12 : decode cX10_agesApart 12 = .ok (.aload_n 0, 1) := by decide +kernel
theorem dX10_agesApart_13 : decode cX10_agesApart 13 = .ok (.iload_n 3, 1) := by decide +kernel
theorem dX10_agesApart_14 : decode cX10_agesApart 14 = .ok (.iconst 4, 1) := by decide +kernel
theorem dX10_agesApart_15 : decode cX10_agesApart 15 = .ok (.invokevirtual 86, 3) := by decide +kernel
theorem dX10_agesApart_18 : decode cX10_agesApart 18 = .ok (.iload_n 2, 1) := by decide +kernel
theorem dX10_agesApart_19 : decode cX10_agesApart 19 = .ok (.if_icmp .ne 20, 3) := by decide +kernel
theorem dX10_agesApart_22 : decode cX10_agesApart 22 = .ok (.aload_n 0, 1) := by decide +kernel
theorem dX10_agesApart_23 : decode cX10_agesApart 23 = .ok (.iload_n 3, 1) := by decide +kernel
theorem dX10_agesApart_24 : decode cX10_agesApart 24 = .ok (.iconst 2, 1) := by decide +kernel
theorem dX10_agesApart_25 : decode cX10_agesApart 25 = .ok (.invokevirtual 86, 3) := by decide +kernel
theorem dX10_agesApart_28 : decode cX10_agesApart 28 = .ok (.aload_n 0, 1) := by decide +kernel
theorem dX10_agesApart_29 : decode cX10_agesApart 29 = .ok (.iload_n 1, 1) := by decide +kernel
theorem dX10_agesApart_30 : decode cX10_agesApart 30 = .ok (.iconst 2, 1) := by decide +kernel
theorem dX10_agesApart_31 : decode cX10_agesApart 31 = .ok (.invokevirtual 86, 3) := by decide +kernel
theorem dX10_agesApart_34 : decode cX10_agesApart 34 = .ok (.isub, 1) := by decide +kernel
theorem dX10_agesApart_35 : decode cX10_agesApart 35 = .ok (.invokestatic 133, 3) := by decide +kernel
theorem dX10_agesApart_38 : decode cX10_agesApart 38 = .ok (.ireturn, 1) := by decide +kernel
theorem dX10_agesApart_39 : decode cX10_agesApart 39 = .ok (.iinc 3 1, 3) := by decide +kernel
theorem dX10_agesApart_42 : decode cX10_agesApart 42 = .ok (.goto (-40), 3) := by decide +kernel
theorem dX10_agesApart_45 : decode cX10_agesApart 45 = .ok (.iconst 0, 1) := by decide +kernel
theorem dX10_agesApart_46 : decode cX10_agesApart 46 = .ok (.ireturn, 1) := by decide +kernel
theorem dX10_plainChance_0 : decode cX10_plainChance 0 = .ok (.aload_n 0, 1) := by decide +kernel
theorem dX10_plainChance_1 : decode cX10_plainChance 1 = .ok (.iload_n 2, 1) := by decide +kernel
theorem dX10_plainChance_2 : decode cX10_plainChance 2 = .ok (.invokevirtual 112, 3) := by decide +kernel
theorem dX10_plainChance_5 : decode cX10_plainChance 5 = .ok (.invokestatic 115, 3) := by decide +kernel
theorem dX10_plainChance_8 : decode cX10_plainChance 8 = .ok (.istore_n 3, 1) := by decide +kernel
theorem dX10_plainChance_9 : decode cX10_plainChance 9 = .ok (.aload_n 0, 1) := by decide +kernel
theorem dX10_plainChance_10 : decode cX10_plainChance 10 = .ok (.iload_n 1, 1) := by decide +kernel
theorem dX10_plainChance_11 : decode cX10_plainChance 11 = .ok (.iconst 1, 1) := by decide +kernel
theorem dX10_plainChance_12 : decode cX10_plainChance 12 = .ok (.invokevirtual 86, 3) := by decide +kernel
theorem dX10_plainChance_15 : decode cX10_plainChance 15 = .ok (.istore 4, 2) := by decide +kernel
theorem dX10_plainChance_17 : decode cX10_plainChance 17 = .ok (.aload_n 0, 1) := by decide +kernel
theorem dX10_plainChance_18 : decode cX10_plainChance 18 = .ok (.iload_n 1, 1) := by decide +kernel
theorem dX10_plainChance_19 : decode cX10_plainChance 19 = .ok (.iload_n 2, 1) := by decide +kernel
theorem dX10_plainChance_20 : decode cX10_plainChance 20 = .ok (.invokevirtual 136, 3) := by decide +kernel
theorem dX10_plainChance_23 : decode cX10_plainChance 23 = .ok (.aload_n 0, 1) := by decide +kernel
theorem dX10_plainChance_24 : decode cX10_plainChance 24 = .ok (.iload_n 2, 1) := by decide +kernel
theorem dX10_plainChance_25 : decode cX10_plainChance 25 = .ok (.iconst 2, 1) := by decide +kernel
theorem dX10_plainChance_26 : decode cX10_plainChance 26 = .ok (.invokevirtual 109, 3) := by decide +kernel
theorem dX10_plainChance_29 : decode cX10_plainChance 29 = .ok (.isub, 1) := by decide +kernel
theorem dX10_plainChance_30 : decode cX10_plainChance 30 = .ok (.bipush 50, 2) := by decide +kernel
theorem dX10_plainChance_32 : decode cX10_plainChance 32 = .ok (.iadd, 1) := by decide +kernel
theorem dX10_plainChance_33 : decode cX10_plainChance 33 = .ok (.istore 5, 2) := by decide +kernel
theorem dX10_plainChance_35 : decode cX10_plainChance 35 = .ok (.iload 5, 2) := by decide +kernel
theorem dX10_plainChance_37 : decode cX10_plainChance 37 = .ok (.iload 4, 2) := by decide +kernel
theorem dX10_plainChance_39 : decode cX10_plainChance 39 = .ok (.aload_n 0, 1) := by decide +kernel
theorem dX10_plainChance_40 : decode cX10_plainChance 40 = .ok (.iload_n 1, 1) := by decide +kernel
theorem dX10_plainChance_41 : decode cX10_plainChance 41 = .ok (.iload_n 2, 1) := by decide +kernel
theorem dX10_plainChance_42 : decode cX10_plainChance 42 = .ok (.invokevirtual 139, 3) := by decide +kernel
theorem dX10_plainChance_45 : decode cX10_plainChance 45 = .ok (.imul, 1) := by decide +kernel
theorem dX10_plainChance_46 : decode cX10_plainChance 46 = .ok (.iadd, 1) := by decide +kernel
theorem dX10_plainChance_47 : decode cX10_plainChance 47 = .ok (.istore 6, 2) := by decide +kernel
theorem dX10_plainChance_49 : decode cX10_plainChance 49 = .ok (.aload_n 0, 1) := by decide +kernel
theorem dX10_plainChance_50 : decode cX10_plainChance 50 = .ok (.iload_n 1, 1) := by decide +kernel
theorem dX10_plainChance_51 : decode cX10_plainChance 51 = .ok (.iconst 0, 1) := by decide +kernel
theorem dX10_plainChance_52 : decode cX10_plainChance 52 = .ok (.invokevirtual 86, 3) := by decide +kernel
theorem dX10_plainChance_55 : decode cX10_plainChance 55 = .ok (.tableswitch 120 1 6 #[37, 43, 46, 58, 66, 85], 37) := by decide +kernel
theorem dX10_plainChance_92 : decode cX10_plainChance 92 = .ok (.iload 5, 2) := by decide +kernel
theorem dX10_plainChance_94 : decode cX10_plainChance 94 = .ok (.iload 4, 2) := by decide +kernel
theorem dX10_plainChance_96 : decode cX10_plainChance 96 = .ok (.isub, 1) := by decide +kernel
theorem dX10_plainChance_97 : decode cX10_plainChance 97 = .ok (.ireturn, 1) := by decide +kernel
theorem dX10_plainChance_98 : decode cX10_plainChance 98 = .ok (.iload 6, 2) := by decide +kernel
theorem dX10_plainChance_100 : decode cX10_plainChance 100 = .ok (.ireturn, 1) := by decide +kernel
theorem dX10_plainChance_101 : decode cX10_plainChance 101 = .ok (.iload 5, 2) := by decide +kernel
theorem dX10_plainChance_103 : decode cX10_plainChance 103 = .ok (.aload_n 0, 1) := by decide +kernel
theorem dX10_plainChance_104 : decode cX10_plainChance 104 = .ok (.iload_n 1, 1) := by decide +kernel
theorem dX10_plainChance_105 : decode cX10_plainChance 105 = .ok (.iload_n 2, 1) := by decide +kernel
theorem dX10_plainChance_106 : decode cX10_plainChance 106 = .ok (.invokevirtual 142, 3) := by decide +kernel
theorem dX10_plainChance_109 : decode cX10_plainChance 109 = .ok (.iconst 2, 1) := by decide +kernel
theorem dX10_plainChance_110 : decode cX10_plainChance 110 = .ok (.idiv, 1) := by decide +kernel
theorem dX10_plainChance_111 : decode cX10_plainChance 111 = .ok (.iadd, 1) := by decide +kernel
theorem dX10_plainChance_112 : decode cX10_plainChance 112 = .ok (.ireturn, 1) := by decide +kernel
theorem dX10_plainChance_113 : decode cX10_plainChance 113 = .ok (.iload 5, 2) := by decide +kernel
theorem dX10_plainChance_115 : decode cX10_plainChance 115 = .ok (.iload 4, 2) := by decide +kernel
theorem dX10_plainChance_117 : decode cX10_plainChance 117 = .ok (.isub, 1) := by decide +kernel
theorem dX10_plainChance_118 : decode cX10_plainChance 118 = .ok (.iconst 2, 1) := by decide +kernel
theorem dX10_plainChance_119 : decode cX10_plainChance 119 = .ok (.idiv, 1) := by decide +kernel
theorem dX10_plainChance_120 : decode cX10_plainChance 120 = .ok (.ireturn, 1) := by decide +kernel
theorem dX10_plainChance_121 : decode cX10_plainChance 121 = .ok (.iload 6, 2) := by decide +kernel
theorem dX10_plainChance_123 : decode cX10_plainChance 123 = .ok (.aload_n 0, 1) := by decide +kernel
theorem dX10_plainChance_124 : decode cX10_plainChance 124 = .ok (.iload_n 1, 1) := by decide +kernel
theorem dX10_plainChance_125 : decode cX10_plainChance 125 = .ok (.iload_n 2, 1) := by decide +kernel
theorem dX10_plainChance_126 : decode cX10_plainChance 126 = .ok (.invokevirtual 145, 3) := by decide +kernel
theorem dX10_plainChance_129 : decode cX10_plainChance 129 = .ok (.ifCond .eq 8, 3) := by decide +kernel
theorem dX10_plainChance_132 : decode cX10_plainChance 132 = .ok (.bipush 10, 2) := by decide +kernel
theorem dX10_plainChance_134 : decode cX10_plainChance 134 = .ok (.goto 4, 3) := by decide +kernel
theorem dX10_plainChance_137 : decode cX10_plainChance 137 = .ok (.iconst 0, 1) := by decide +kernel
theorem dX10_plainChance_138 : decode cX10_plainChance 138 = .ok (.iadd, 1) := by decide +kernel
theorem dX10_plainChance_139 : decode cX10_plainChance 139 = .ok (.ireturn, 1) := by decide +kernel
theorem dX10_plainChance_140 : decode cX10_plainChance 140 = .ok (.iload_n 3, 1) := by decide +kernel
theorem dX10_plainChance_141 : decode cX10_plainChance 141 = .ok (.iconst 1, 1) := by decide +kernel
theorem dX10_plainChance_142 : decode cX10_plainChance 142 = .ok (.iadd, 1) := by decide +kernel
theorem dX10_plainChance_143 : decode cX10_plainChance 143 = .ok (.aload_n 0, 1) := by decide +kernel
theorem dX10_plainChance_144 : decode cX10_plainChance 144 = .ok (.iload_n 2, 1) := by decide +kernel
theorem dX10_plainChance_145 : decode cX10_plainChance 145 = .ok (.iconst 0, 1) := by decide +kernel
theorem dX10_plainChance_146 : decode cX10_plainChance 146 = .ok (.invokevirtual 109, 3) := by decide +kernel
theorem dX10_plainChance_149 : decode cX10_plainChance 149 = .ok (.if_icmp .eq 15, 3) := by decide +kernel
theorem dX10_plainChance_152 : decode cX10_plainChance 152 = .ok (.iload_n 3, 1) := by decide +kernel
theorem dX10_plainChance_153 : decode cX10_plainChance 153 = .ok (.iconst 1, 1) := by decide +kernel
theorem dX10_plainChance_154 : decode cX10_plainChance 154 = .ok (.iadd, 1) := by decide +kernel
theorem dX10_plainChance_155 : decode cX10_plainChance 155 = .ok (.aload_n 0, 1) := by decide +kernel
theorem dX10_plainChance_156 : decode cX10_plainChance 156 = .ok (.iload_n 2, 1) := by decide +kernel
theorem dX10_plainChance_157 : decode cX10_plainChance 157 = .ok (.iconst 1, 1) := by decide +kernel
theorem dX10_plainChance_158 : decode cX10_plainChance 158 = .ok (.invokevirtual 109, 3) := by decide +kernel
theorem dX10_plainChance_161 : decode cX10_plainChance 161 = .ok (.if_icmp .ne 8, 3) := by decide +kernel
theorem dX10_plainChance_164 : decode cX10_plainChance 164 = .ok (.bipush 100, 2) := by decide +kernel
theorem dX10_plainChance_166 : decode cX10_plainChance 166 = .ok (.goto 8, 3) := by decide +kernel
theorem dX10_plainChance_169 : decode cX10_plainChance 169 = .ok (.iload 5, 2) := by decide +kernel
theorem dX10_plainChance_171 : decode cX10_plainChance 171 = .ok (.iload 4, 2) := by decide +kernel
theorem dX10_plainChance_173 : decode cX10_plainChance 173 = .ok (.isub, 1) := by decide +kernel
theorem dX10_plainChance_174 : decode cX10_plainChance 174 = .ok (.ireturn, 1) := by decide +kernel
theorem dX10_plainChance_175 : decode cX10_plainChance 175 = .ok (.iload 5, 2) := by decide +kernel
theorem dX10_plainChance_177 : decode cX10_plainChance 177 = .ok (.ireturn, 1) := by decide +kernel
theorem dX10_chance_0 : decode cX10_chance 0 = .ok (.aload_n 0, 1) := by decide +kernel
theorem dX10_chance_1 : decode cX10_chance 1 = .ok (.iload_n 2, 1) := by decide +kernel
theorem dX10_chance_2 : decode cX10_chance 2 = .ok (.invokevirtual 112, 3) := by decide +kernel
theorem dX10_chance_5 : decode cX10_chance 5 = .ok (.invokestatic 115, 3) := by decide +kernel
theorem dX10_chance_8 : decode cX10_chance 8 = .ok (.istore_n 3, 1) := by decide +kernel
theorem dX10_chance_9 : decode cX10_chance 9 = .ok (.iload_n 3, 1) := by decide +kernel
theorem dX10_chance_10 : decode cX10_chance 10 = .ok (.aload_n 0, 1) := by decide +kernel
theorem dX10_chance_11 : decode cX10_chance 11 = .ok (.iload_n 2, 1) := by decide +kernel
theorem dX10_chance_12 : decode cX10_chance 12 = .ok (.iconst 1, 1) := by decide +kernel
theorem dX10_chance_13 : decode cX10_chance 13 = .ok (.invokevirtual 109, 3) := by decide +kernel
theorem dX10_chance_16 : decode cX10_chance 16 = .ok (.if_icmp .lt 5, 3) := by decide +kernel
theorem dX10_chance_19 : decode cX10_chance 19 = .ok (.iconst 0, 1) := by decide +kernel
theorem dX10_chance_20 : decode cX10_chance 20 = .ok (.ireturn, 1) := by decide +kernel
theorem dX10_chance_21 : decode cX10_chance 21 = .ok (.aload_n 0, 1) := by decide +kernel
theorem dX10_chance_22 : decode cX10_chance 22 = .ok (.iconst 0, 1) := by decide +kernel
theorem dX10_chance_23 : decode cX10_chance 23 = .ok (.invokevirtual 148, 3) := by decide +kernel
theorem dX10_chance_26 : decode cX10_chance 26 = .ok (.ifCond .eq 43, 3) := by decide +kernel
theorem dX10_chance_29 : decode cX10_chance 29 = .ok (.aload_n 0, 1) := by decide +kernel
theorem dX10_chance_30 : decode cX10_chance 30 = .ok (.iconst 0, 1) := by decide +kernel
theorem dX10_chance_31 : decode cX10_chance 31 = .ok (.aload_n 0, 1) := by decide +kernel
theorem dX10_chance_32 : decode cX10_chance 32 = .ok (.iload_n 1, 1) := by decide +kernel
theorem dX10_chance_33 : decode cX10_chance 33 = .ok (.iload_n 2, 1) := by decide +kernel
theorem dX10_chance_34 : decode cX10_chance 34 = .ok (.invokevirtual 136, 3) := by decide +kernel
theorem dX10_chance_37 : decode cX10_chance 37 = .ok (.aload_n 0, 1) := by decide +kernel
theorem dX10_chance_38 : decode cX10_chance 38 = .ok (.iload_n 2, 1) := by decide +kernel
theorem dX10_chance_39 : decode cX10_chance 39 = .ok (.iconst 2, 1) := by decide +kernel
theorem dX10_chance_40 : decode cX10_chance 40 = .ok (.invokevirtual 109, 3) := by decide +kernel
theorem dX10_chance_43 : decode cX10_chance 43 = .ok (.iload_n 3, 1) := by decide +kernel
theorem dX10_chance_44 : decode cX10_chance 44 = .ok (.aload_n 0, 1) := by decide +kernel
theorem dX10_chance_45 : decode cX10_chance 45 = .ok (.iload_n 1, 1) := by decide +kernel
theorem dX10_chance_46 : decode cX10_chance 46 = .ok (.iload_n 2, 1) := by decide +kernel
theorem dX10_chance_47 : decode cX10_chance 47 = .ok (.invokevirtual 139, 3) := by decide +kernel
theorem dX10_chance_50 : decode cX10_chance 50 = .ok (.aload_n 0, 1) := by decide +kernel
theorem dX10_chance_51 : decode cX10_chance 51 = .ok (.iload_n 1, 1) := by decide +kernel
theorem dX10_chance_52 : decode cX10_chance 52 = .ok (.iload_n 2, 1) := by decide +kernel
theorem dX10_chance_53 : decode cX10_chance 53 = .ok (.invokevirtual 151, 3) := by decide +kernel
theorem dX10_chance_56 : decode cX10_chance 56 = .ok (.invokevirtual 154, 3) := by decide +kernel
theorem dX10_chance_59 : decode cX10_chance 59 = .ok (.bipush (-100), 2) := by decide +kernel
theorem dX10_chance_61 : decode cX10_chance 61 = .ok (.bipush 100, 2) := by decide +kernel
theorem dX10_chance_63 : decode cX10_chance 63 = .ok (.invokestatic 158, 3) := by decide +kernel
theorem dX10_chance_66 : decode cX10_chance 66 = .ok (.goto 4, 3) := by decide +kernel
theorem dX10_chance_69 : decode cX10_chance 69 = .ok (.iconst 0, 1) := by decide +kernel
theorem dX10_chance_70 : decode cX10_chance 70 = .ok (.istore 4, 2) := by decide +kernel
theorem dX10_chance_72 : decode cX10_chance 72 = .ok (.aload_n 0, 1) := by decide +kernel
theorem dX10_chance_73 : decode cX10_chance 73 = .ok (.iload_n 1, 1) := by decide +kernel
theorem dX10_chance_74 : decode cX10_chance 74 = .ok (.iload_n 2, 1) := by decide +kernel
theorem dX10_chance_75 : decode cX10_chance 75 = .ok (.invokevirtual 162, 3) := by decide +kernel
theorem dX10_chance_78 : decode cX10_chance 78 = .ok (.iload 4, 2) := by decide +kernel
theorem dX10_chance_80 : decode cX10_chance 80 = .ok (.iadd, 1) := by decide +kernel
theorem dX10_chance_81 : decode cX10_chance 81 = .ok (.iconst 0, 1) := by decide +kernel
theorem dX10_chance_82 : decode cX10_chance 82 = .ok (.bipush 100, 2) := by decide +kernel
theorem dX10_chance_84 : decode cX10_chance 84 = .ok (.invokestatic 158, 3) := by decide +kernel
theorem dX10_chance_87 : decode cX10_chance 87 = .ok (.ireturn, 1) := by decide +kernel
theorem dX10_between_0 : decode cX10_between 0 = .ok (.aload_n 0, 1) := by decide +kernel
theorem dX10_between_1 : decode cX10_between 1 = .ok (.iload_n 1, 1) := by decide +kernel
theorem dX10_between_2 : decode cX10_between 2 = .ok (.iconst 0, 1) := by decide +kernel
theorem dX10_between_3 : decode cX10_between 3 = .ok (.invokevirtual 95, 3) := by decide +kernel
theorem dX10_between_6 : decode cX10_between 6 = .ok (.ifCond .eq 21, 3) := by decide +kernel
theorem dX10_between_9 : decode cX10_between 9 = .ok (.aload_n 0, 1) := by decide +kernel
theorem dX10_between_10 : decode cX10_between 10 = .ok (.iload_n 2, 1) := by decide +kernel
theorem dX10_between_11 : decode cX10_between 11 = .ok (.iconst 1, 1) := by decide +kernel
theorem dX10_between_12 : decode cX10_between 12 = .ok (.invokevirtual 95, 3) := by decide +kernel
theorem dX10_between_15 : decode cX10_between 15 = .ok (.ifCond .eq 12, 3) := by decide +kernel
theorem dX10_between_18 : decode cX10_between 18 = .ok (.iload_n 3, 1) := by decide +kernel
theorem dX10_between_19 : decode cX10_between 19 = .ok (.iconst 0, 1) := by decide +kernel
theorem dX10_between_20 : decode cX10_between 20 = .ok (.iconst 2, 1) := by decide +kernel
theorem dX10_between_21 : decode cX10_between 21 = .ok (.invokestatic 72, 3) := by decide +kernel
theorem dX10_between_24 : decode cX10_between 24 = .ok (.ifCond .ne 10, 3) := by decide +kernel
theorem dX10_between_27 : decode cX10_between 27 = .ok (.aload_n 0, 1) := by decide +kernel
theorem dX10_between_28 : decode cX10_between 28 = .ok (.ldc 80, 2) := by decide +kernel
theorem dX10_between_30 : decode cX10_between 30 = .ok (.invokevirtual 81, 3) := by decide +kernel
theorem dX10_between_33 : decode cX10_between 33 = .ok (.ireturn, 1) := by decide +kernel
theorem dX10_between_34 : decode cX10_between 34 = .ok (.iload_n 3, 1) := by decide +kernel
theorem dX10_between_35 : decode cX10_between 35 = .ok (.ifCond .ne 12, 3) := by decide +kernel
theorem dX10_between_38 : decode cX10_between 38 = .ok (.aload_n 0, 1) := by decide +kernel
theorem dX10_between_39 : decode cX10_between 39 = .ok (.iload_n 1, 1) := by decide +kernel
theorem dX10_between_40 : decode cX10_between 40 = .ok (.iload_n 2, 1) := by decide +kernel
theorem dX10_between_41 : decode cX10_between 41 = .ok (.invokevirtual 136, 3) := by decide +kernel
theorem dX10_between_44 : decode cX10_between 44 = .ok (.goto 23, 3) := by decide +kernel
theorem dX10_between_47 : decode cX10_between 47 = .ok (.iload_n 3, 1) := by decide +kernel
theorem dX10_between_48 : decode cX10_between 48 = .ok (.iconst 1, 1) := by decide +kernel
theorem dX10_between_49 : decode cX10_between 49 = .ok (.if_icmp .ne 12, 3) := by decide +kernel
theorem dX10_between_52 : decode cX10_between 52 = .ok (.aload_n 0, 1) := by decide +kernel
theorem dX10_between_53 : decode cX10_between 53 = .ok (.iload_n 1, 1) := by decide +kernel
theorem dX10_between_54 : decode cX10_between 54 = .ok (.iload_n 2, 1) := by decide +kernel
theorem dX10_between_55 : decode cX10_between 55 = .ok (.invokevirtual 165, 3) := by decide +kernel
theorem dX10_between_58 : decode cX10_between 58 = .ok (.goto 9, 3) := by decide +kernel
theorem dX10_between_61 : decode cX10_between 61 = .ok (.aload_n 0, 1) := by decide +kernel
theorem dX10_between_62 : decode cX10_between 62 = .ok (.iload_n 1, 1) := by decide +kernel
theorem dX10_between_63 : decode cX10_between 63 = .ok (.iload_n 2, 1) := by decide +kernel
theorem dX10_between_64 : decode cX10_between 64 = .ok (.invokevirtual 139, 3) := by decide +kernel
theorem dX10_between_67 : decode cX10_between 67 = .ok (.ireturn, 1) := by decide +kernel
theorem dX10_feed_0 : decode cX10_feed 0 = .ok (.iload_n 3, 1) := by decide +kernel
theorem dX10_feed_1 : decode cX10_feed 1 = .ok (.iconst 1, 1) := by decide +kernel
theorem dX10_feed_2 : decode cX10_feed 2 = .ok (.bipush 8, 2) := by decide +kernel
theorem dX10_feed_4 : decode cX10_feed 4 = .ok (.invokestatic 72, 3) := by decide +kernel
theorem dX10_feed_7 : decode cX10_feed 7 = .ok (.ifCond .ne 10, 3) := by decide +kernel
theorem dX10_feed_10 : decode cX10_feed 10 = .ok (.aload_n 0, 1) := by decide +kernel
theorem dX10_feed_11 : decode cX10_feed 11 = .ok (.ldc 80, 2) := by decide +kernel
theorem dX10_feed_13 : decode cX10_feed 13 = .ok (.invokevirtual 81, 3) := by decide +kernel
theorem dX10_feed_16 : decode cX10_feed 16 = .ok (.ireturn, 1) := by decide +kernel
theorem dX10_feed_17 : decode cX10_feed 17 = .ok (.aload_n 0, 1) := by decide +kernel
theorem dX10_feed_18 : decode cX10_feed 18 = .ok (.getfield 9, 3) := by decide +kernel
theorem dX10_feed_21 : decode cX10_feed 21 = .ok (.iconst 4, 1) := by decide +kernel
theorem dX10_feed_22 : decode cX10_feed 22 = .ok (.iaload, 1) := by decide +kernel
theorem dX10_feed_23 : decode cX10_feed 23 = .ok (.iload_n 3, 1) := by decide +kernel
theorem dX10_feed_24 : decode cX10_feed 24 = .ok (.iadd, 1) := by decide +kernel
theorem dX10_feed_25 : decode cX10_feed 25 = .ok (.bipush 60, 2) := by decide +kernel
theorem dX10_feed_27 : decode cX10_feed 27 = .ok (.if_icmp .le 10, 3) := by decide +kernel
theorem dX10_feed_30 : decode cX10_feed 30 = .ok (.aload_n 0, 1) := by decide +kernel
theorem dX10_feed_31 : decode cX10_feed 31 = .ok (.ldc 85, 2) := by decide +kernel
theorem dX10_feed_33 : decode cX10_feed 33 = .ok (.invokevirtual 81, 3) := by decide +kernel
theorem dX10_feed_36 : decode cX10_feed 36 = .ok (.ireturn, 1) := by decide +kernel
theorem dX10_feed_37 : decode cX10_feed 37 = .ok (.iconst 0, 1) := by decide +kernel
theorem dX10_feed_38 : decode cX10_feed 38 = .ok (.istore 4, 2) := by decide +kernel
theorem dX10_feed_40 : decode cX10_feed 40 = .ok (.iload 4, 2) := by decide +kernel
theorem dX10_feed_42 : decode cX10_feed 42 = .ok (.iload_n 3, 1) := by decide +kernel
theorem dX10_feed_43 : decode cX10_feed 43 = .ok (.if_icmp .ge 46, 3) := by decide +kernel
theorem dX10_feed_46 : decode cX10_feed 46 = .ok (.aload_n 0, 1) := by decide +kernel
theorem dX10_feed_47 : decode cX10_feed 47 = .ok (.getfield 9, 3) := by decide +kernel
theorem dX10_feed_50 : decode cX10_feed 50 = .ok (.sipush 237, 3) := by decide +kernel
theorem dX10_feed_53 : decode cX10_feed 53 = .ok (.aload_n 0, 1) := by decide +kernel
theorem dX10_feed_54 : decode cX10_feed 54 = .ok (.getfield 9, 3) := by decide +kernel
theorem dX10_feed_57 : decode cX10_feed 57 = .ok (.iconst 4, 1) := by decide +kernel
theorem dX10_feed_58 : decode cX10_feed 58 = .ok (.iaload, 1) := by decide +kernel
theorem dX10_feed_59 : decode cX10_feed 59 = .ok (.iadd, 1) := by decide +kernel
theorem dX10_feed_60 : decode cX10_feed 60 = .ok (.lload_n 1, 1) := by decide +kernel
theorem dX10_feed_61 : decode cX10_feed 61 = .ok (.bipush 8, 2) := by decide +kernel
theorem dX10_feed_63 : decode cX10_feed 63 = .ok (.iload 4, 2) := by decide +kernel
theorem dX10_feed_65 : decode cX10_feed 65 = .ok (.imul, 1) := by decide +kernel
theorem dX10_feed_66 : decode cX10_feed 66 = .ok (.lshr, 1) := by decide +kernel
theorem dX10_feed_67 : decode cX10_feed 67 = .ok (.ldc2_w 168, 3) := by decide +kernel
theorem dX10_feed_70 : decode cX10_feed 70 = .ok (.land, 1) := by decide +kernel
theorem dX10_feed_71 : decode cX10_feed 71 = .ok (.l2i, 1) := by decide +kernel
theorem dX10_feed_72 : decode cX10_feed 72 = .ok (.iastore, 1) := by decide +kernel
theorem dX10_feed_73 : decode cX10_feed 73 = .ok (.aload_n 0, 1) := by decide +kernel
theorem dX10_feed_74 : decode cX10_feed 74 = .ok (.getfield 9, 3) := by decide +kernel
theorem dX10_feed_77 : decode cX10_feed 77 = .ok (.iconst 4, 1) := by decide +kernel
theorem dX10_feed_78 : decode cX10_feed 78 = .ok (.dup2, 1) := by decide +kernel
theorem dX10_feed_79 : decode cX10_feed 79 = .ok (.iaload, 1) := by decide +kernel
theorem dX10_feed_80 : decode cX10_feed 80 = .ok (.iconst 1, 1) := by decide +kernel
theorem dX10_feed_81 : decode cX10_feed 81 = .ok (.iadd, 1) := by decide +kernel
theorem dX10_feed_82 : decode cX10_feed 82 = .ok (.iastore, 1) := by decide +kernel
theorem dX10_feed_83 : decode cX10_feed 83 = .ok (.iinc 4 1, 3) := by decide +kernel
theorem dX10_feed_86 : decode cX10_feed 86 = .ok (.goto (-46), 3) := by decide +kernel
theorem dX10_feed_89 : decode cX10_feed 89 = .ok (.aload_n 0, 1) := by decide +kernel
theorem dX10_feed_90 : decode cX10_feed 90 = .ok (.getfield 9, 3) := by decide +kernel
theorem dX10_feed_93 : decode cX10_feed 93 = .ok (.iconst 4, 1) := by decide +kernel
theorem dX10_feed_94 : decode cX10_feed 94 = .ok (.iaload, 1) := by decide +kernel
theorem dX10_feed_95 : decode cX10_feed 95 = .ok (.ireturn, 1) := by decide +kernel
theorem dX10_here_0 : decode cX10_here 0 = .ok (.aload_n 0, 1) := by decide +kernel
theorem dX10_here_1 : decode cX10_here 1 = .ok (.getfield 170, 3) := by decide +kernel
theorem dX10_here_4 : decode cX10_here 4 = .ok (.ifCond .ne 32, 3) := by decide +kernel
theorem dX10_here_7 : decode cX10_here 7 = .ok (.aload_n 0, 1) := by decide +kernel
theorem dX10_here_8 : decode cX10_here 8 = .ok (.getfield 174, 3) := by decide +kernel
theorem dX10_here_11 : decode cX10_here 11 = .ok (.aload_n 0, 1) := by decide +kernel
theorem dX10_here_12 : decode cX10_here 12 = .ok (.getfield 9, 3) := by decide +kernel
theorem dX10_here_15 : decode cX10_here 15 = .ok (.iconst 4, 1) := by decide +kernel
theorem dX10_here_16 : decode cX10_here 16 = .ok (.iaload, 1) := by decide +kernel
theorem dX10_here_17 : decode cX10_here 17 = .ok (.if_icmp .ge 19, 3) := by decide +kernel
theorem dX10_here_20 : decode cX10_here 20 = .ok (.aload_n 0, 1) := by decide +kernel
theorem dX10_here_21 : decode cX10_here 21 = .ok (.getfield 9, 3) := by decide +kernel
theorem dX10_here_24 : decode cX10_here 24 = .ok (.sipush 237, 3) := by decide +kernel
theorem dX10_here_27 : decode cX10_here 27 = .ok (.aload_n 0, 1) := by decide +kernel
theorem dX10_here_28 : decode cX10_here 28 = .ok (.getfield 174, 3) := by decide +kernel
theorem dX10_here_31 : decode cX10_here 31 = .ok (.iadd, 1) := by decide +kernel
theorem dX10_here_32 : decode cX10_here 32 = .ok (.iaload, 1) := by decide +kernel
theorem dX10_here_33 : decode cX10_here 33 = .ok (.goto 4, 3) := by decide +kernel
theorem dX10_here_36 : decode cX10_here 36 = .ok (.iconst (-1), 1) := by decide +kernel
theorem dX10_here_37 : decode cX10_here 37 = .ok (.ireturn, 1) := by decide +kernel
theorem dX10_takes_0 : decode cX10_takes 0 = .ok (.aload_n 0, 1) := by decide +kernel
theorem dX10_takes_1 : decode cX10_takes 1 = .ok (.invokevirtual 178, 3) := by decide +kernel
theorem dX10_takes_4 : decode cX10_takes 4 = .ok (.iload_n 1, 1) := by decide +kernel
theorem dX10_takes_5 : decode cX10_takes 5 = .ok (.if_icmp .ne 7, 3) := by decide +kernel
theorem dX10_takes_8 : decode cX10_takes 8 = .ok (.iconst 1, 1) := by decide +kernel
theorem dX10_takes_9 : decode cX10_takes 9 = .ok (.goto 4, 3) := by decide +kernel
theorem dX10_takes_12 : decode cX10_takes 12 = .ok (.iconst 0, 1) := by decide +kernel
theorem dX10_takes_13 : decode cX10_takes 13 = .ok (.istore_n 2, 1) := by decide +kernel
theorem dX10_takes_14 : decode cX10_takes 14 = .ok (.aload_n 0, 1) := by decide +kernel
theorem dX10_takes_15 : decode cX10_takes 15 = .ok (.dup, 1) := by decide +kernel
theorem dX10_takes_16 : decode cX10_takes 16 = .ok (.getfield 174, 3) := by decide +kernel
theorem dX10_takes_19 : decode cX10_takes 19 = .ok (.iload_n 2, 1) := by decide +kernel
theorem dX10_takes_20 : decode cX10_takes 20 = .ok (.ifCond .eq 7, 3) := by decide +kernel
theorem dX10_takes_23 : decode cX10_takes 23 = .ok (.iconst 1, 1) := by decide +kernel
theorem dX10_takes_24 : decode cX10_takes 24 = .ok (.goto 4, 3) := by decide +kernel
theorem dX10_takes_27 : decode cX10_takes 27 = .ok (.iconst 0, 1) := by decide +kernel
theorem dX10_takes_28 : decode cX10_takes 28 = .ok (.iadd, 1) := by decide +kernel
theorem dX10_takes_29 : decode cX10_takes 29 = .ok (.putfield 174, 3) := by decide +kernel
theorem dX10_takes_32 : decode cX10_takes 32 = .ok (.iload_n 2, 1) := by decide +kernel
theorem dX10_takes_33 : decode cX10_takes 33 = .ok (.ireturn, 1) := by decide +kernel
theorem dX10_codes_0 : decode cX10_codes 0 = .ok (.aload_n 0, 1) := by decide +kernel
theorem dX10_codes_1 : decode cX10_codes 1 = .ok (.getfield 170, 3) := by decide +kernel
theorem dX10_codes_4 : decode cX10_codes 4 = .ok (.ifCond .ne 23, 3) := by decide +kernel
theorem dX10_codes_7 : decode cX10_codes 7 = .ok (.aload_n 0, 1) := by decide +kernel
theorem dX10_codes_8 : decode cX10_codes 8 = .ok (.getfield 32, 3) := by decide +kernel
theorem dX10_codes_11 : decode cX10_codes 11 = .ok (.aload_n 0, 1) := by decide +kernel
theorem dX10_codes_12 : decode cX10_codes 12 = .ok (.getfield 182, 3) := by decide +kernel
theorem dX10_codes_15 : decode cX10_codes 15 = .ok (.iload_n 1, 1) := by decide +kernel
theorem dX10_codes_16 : decode cX10_codes 16 = .ok (.iastore, 1) := by decide +kernel
theorem dX10_codes_17 : decode cX10_codes 17 = .ok (.aload_n 0, 1) := by decide +kernel
theorem dX10_codes_18 : decode cX10_codes 18 = .ok (.dup, 1) := by decide +kernel
theorem dX10_codes_19 : decode cX10_codes 19 = .ok (.getfield 182, 3) := by decide +kernel
theorem dX10_codes_22 : decode cX10_codes 22 = .ok (.iconst 1, 1) := by decide +kernel
theorem dX10_codes_23 : decode cX10_codes 23 = .ok (.iadd, 1) := by decide +kernel
theorem dX10_codes_24 : decode cX10_codes 24 = .ok (.putfield 182, 3) := by decide +kernel
theorem dX10_codes_27 : decode cX10_codes 27 = .ok (.return_, 1) := by decide +kernel
theorem dX10_either_0 : decode cX10_either 0 = .ok (.aload_n 0, 1) := by decide +kernel
theorem dX10_either_1 : decode cX10_either 1 = .ok (.invokevirtual 185, 3) := by decide +kernel
theorem dX10_either_4 : decode cX10_either 4 = .ok (.aload_n 0, 1) := by decide +kernel
theorem dX10_either_5 : decode cX10_either 5 = .ok (.bipush 124, 2) := by decide +kernel
theorem dX10_either_7 : decode cX10_either 7 = .ok (.invokevirtual 188, 3) := by decide +kernel
theorem dX10_either_10 : decode cX10_either 10 = .ok (.ifCond .eq 17, 3) := by decide +kernel
theorem dX10_either_13 : decode cX10_either 13 = .ok (.aload_n 0, 1) := by decide +kernel
theorem dX10_either_14 : decode cX10_either 14 = .ok (.invokevirtual 185, 3) := by decide +kernel
theorem dX10_either_17 : decode cX10_either 17 = .ok (.aload_n 0, 1) := by decide +kernel
theorem dX10_either_18 : decode cX10_either 18 = .ok (.sipush 20000, 3) := by decide +kernel
theorem dX10_either_21 : decode cX10_either 21 = .ok (.invokevirtual 191, 3) := by decide +kernel
theorem dX10_either_24 : decode cX10_either 24 = .ok (.goto (-20), 3) := by decide +kernel
theorem dX10_either_27 : decode cX10_either 27 = .ok (.return_, 1) := by decide +kernel
theorem dX10_both_0 : decode cX10_both 0 = .ok (.aload_n 0, 1) := by decide +kernel
theorem dX10_both_1 : decode cX10_both 1 = .ok (.invokevirtual 195, 3) := by decide +kernel
theorem dX10_both_4 : decode cX10_both 4 = .ok (.aload_n 0, 1) := by decide +kernel
theorem dX10_both_5 : decode cX10_both 5 = .ok (.bipush 38, 2) := by decide +kernel
theorem dX10_both_7 : decode cX10_both 7 = .ok (.invokevirtual 188, 3) := by decide +kernel
theorem dX10_both_10 : decode cX10_both 10 = .ok (.ifCond .eq 17, 3) := by decide +kernel
theorem dX10_both_13 : decode cX10_both 13 = .ok (.aload_n 0, 1) := by decide +kernel
theorem dX10_both_14 : decode cX10_both 14 = .ok (.invokevirtual 195, 3) := by decide +kernel
theorem dX10_both_17 : decode cX10_both 17 = .ok (.aload_n 0, 1) := by decide +kernel
theorem dX10_both_18 : decode cX10_both 18 = .ok (.sipush 20001, 3) := by decide +kernel
theorem dX10_both_21 : decode cX10_both 21 = .ok (.invokevirtual 191, 3) := by decide +kernel
theorem dX10_both_24 : decode cX10_both 24 = .ok (.goto (-20), 3) := by decide +kernel
theorem dX10_both_27 : decode cX10_both 27 = .ok (.return_, 1) := by decide +kernel
theorem dX10_compared_0 : decode cX10_compared 0 = .ok (.aload_n 0, 1) := by decide +kernel
theorem dX10_compared_1 : decode cX10_compared 1 = .ok (.invokevirtual 198, 3) := by decide +kernel
theorem dX10_compared_4 : decode cX10_compared 4 = .ok (.aload_n 0, 1) := by decide +kernel
theorem dX10_compared_5 : decode cX10_compared 5 = .ok (.bipush 60, 2) := by decide +kernel
theorem dX10_compared_7 : decode cX10_compared 7 = .ok (.invokevirtual 188, 3) := by decide +kernel
theorem dX10_compared_10 : decode cX10_compared 10 = .ok (.ifCond .eq 9, 3) := by decide +kernel
theorem dX10_compared_13 : decode cX10_compared 13 = .ok (.sipush 20002, 3) := by decide +kernel
theorem dX10_compared_16 : decode cX10_compared 16 = .ok (.goto 34, 3) := by decide +kernel
theorem dX10_compared_19 : decode cX10_compared 19 = .ok (.aload_n 0, 1) := by decide +kernel
theorem dX10_compared_20 : decode cX10_compared 20 = .ok (.bipush 61, 2) := by decide +kernel
theorem dX10_compared_22 : decode cX10_compared 22 = .ok (.invokevirtual 188, 3) := by decide +kernel
theorem dX10_compared_25 : decode cX10_compared 25 = .ok (.ifCond .eq 9, 3) := by decide +kernel
theorem dX10_compared_28 : decode cX10_compared 28 = .ok (.sipush 20003, 3) := by decide +kernel
theorem dX10_compared_31 : decode cX10_compared 31 = .ok (.goto 19, 3) := by decide +kernel
theorem dX10_compared_34 : decode cX10_compared 34 = .ok (.aload_n 0, 1) := by decide +kernel
theorem dX10_compared_35 : decode cX10_compared 35 = .ok (.bipush 62, 2) := by decide +kernel
theorem dX10_compared_37 : decode cX10_compared 37 = .ok (.invokevirtual 188, 3) := by decide +kernel
theorem dX10_compared_40 : decode cX10_compared 40 = .ok (.ifCond .eq 9, 3) := by decide +kernel
theorem dX10_compared_43 : decode cX10_compared 43 = .ok (.sipush 20004, 3) := by decide +kernel
theorem dX10_compared_46 : decode cX10_compared 46 = .ok (.goto 4, 3) := by decide +kernel
theorem dX10_compared_49 : decode cX10_compared 49 = .ok (.iconst 0, 1) := by decide +kernel
theorem dX10_compared_50 : decode cX10_compared 50 = .ok (.istore_n 1, 1) := by decide +kernel
theorem dX10_compared_51 : decode cX10_compared 51 = .ok (.iload_n 1, 1) := by decide +kernel
theorem dX10_compared_52 : decode cX10_compared 52 = .ok (.ifCond .le 12, 3) := by decide +kernel
theorem dX10_compared_55 : decode cX10_compared 55 = .ok (.aload_n 0, 1) := by decide +kernel
theorem dX10_compared_56 : decode cX10_compared 56 = .ok (.invokevirtual 198, 3) := by decide +kernel
theorem dX10_compared_59 : decode cX10_compared 59 = .ok (.aload_n 0, 1) := by decide +kernel
theorem dX10_compared_60 : decode cX10_compared 60 = .ok (.iload_n 1, 1) := by decide +kernel
theorem dX10_compared_61 : decode cX10_compared 61 = .ok (.invokevirtual 191, 3) := by decide +kernel
theorem dX10_compared_64 : decode cX10_compared 64 = .ok (.return_, 1) := by decide +kernel
theorem dX10_sum_0 : decode cX10_sum 0 = .ok (.aload_n 0, 1) := by decide +kernel
theorem dX10_sum_1 : decode cX10_sum 1 = .ok (.invokevirtual 201, 3) := by decide +kernel
theorem dX10_sum_4 : decode cX10_sum 4 = .ok (.aload_n 0, 1) := by decide +kernel
theorem dX10_sum_5 : decode cX10_sum 5 = .ok (.bipush 43, 2) := by decide +kernel
theorem dX10_sum_7 : decode cX10_sum 7 = .ok (.invokevirtual 188, 3) := by decide +kernel
theorem dX10_sum_10 : decode cX10_sum 10 = .ok (.ifCond .eq 9, 3) := by decide +kernel
theorem dX10_sum_13 : decode cX10_sum 13 = .ok (.sipush 20005, 3) := by decide +kernel
theorem dX10_sum_16 : decode cX10_sum 16 = .ok (.goto 19, 3) := by decide +kernel
theorem dX10_sum_19 : decode cX10_sum 19 = .ok (.aload_n 0, 1) := by decide +kernel
theorem dX10_sum_20 : decode cX10_sum 20 = .ok (.bipush 45, 2) := by decide +kernel
theorem dX10_sum_22 : decode cX10_sum 22 = .ok (.invokevirtual 188, 3) := by decide +kernel
theorem dX10_sum_25 : decode cX10_sum 25 = .ok (.ifCond .eq 9, 3) := by decide +kernel
theorem dX10_sum_28 : decode cX10_sum 28 = .ok (.sipush 20006, 3) := by decide +kernel
theorem dX10_sum_31 : decode cX10_sum 31 = .ok (.goto 4, 3) := by decide +kernel
theorem dX10_sum_34 : decode cX10_sum 34 = .ok (.iconst 0, 1) := by decide +kernel
theorem dX10_sum_35 : decode cX10_sum 35 = .ok (.istore_n 1, 1) := by decide +kernel
theorem dX10_sum_36 : decode cX10_sum 36 = .ok (.iload_n 1, 1) := by decide +kernel
theorem dX10_sum_37 : decode cX10_sum 37 = .ok (.ifCond .le 47, 3) := by decide +kernel
theorem dX10_sum_40 : decode cX10_sum 40 = .ok (.aload_n 0, 1) := by decide +kernel
theorem dX10_sum_41 : decode cX10_sum 41 = .ok (.invokevirtual 201, 3) := by decide +kernel
theorem dX10_sum_44 : decode cX10_sum 44 = .ok (.aload_n 0, 1) := by decide +kernel
theorem dX10_sum_45 : decode cX10_sum 45 = .ok (.iload_n 1, 1) := by decide +kernel
theorem dX10_sum_46 : decode cX10_sum 46 = .ok (.invokevirtual 191, 3) := by decide +kernel
theorem dX10_sum_49 : decode cX10_sum 49 = .ok (.aload_n 0, 1) := by decide +kernel
theorem dX10_sum_50 : decode cX10_sum 50 = .ok (.bipush 43, 2) := by decide +kernel
theorem dX10_sum_52 : decode cX10_sum 52 = .ok (.invokevirtual 188, 3) := by decide +kernel
theorem dX10_sum_55 : decode cX10_sum 55 = .ok (.ifCond .eq 9, 3) := by decide +kernel
theorem dX10_sum_58 : decode cX10_sum 58 = .ok (.sipush 20005, 3) := by decide +kernel
theorem dX10_sum_61 : decode cX10_sum 61 = .ok (.goto 19, 3) := by decide +kernel
theorem dX10_sum_64 : decode cX10_sum 64 = .ok (.aload_n 0, 1) := by decide +kernel
theorem dX10_sum_65 : decode cX10_sum 65 = .ok (.bipush 45, 2) := by decide +kernel
theorem dX10_sum_67 : decode cX10_sum 67 = .ok (.invokevirtual 188, 3) := by decide +kernel
theorem dX10_sum_70 : decode cX10_sum 70 = .ok (.ifCond .eq 9, 3) := by decide +kernel
theorem dX10_sum_73 : decode cX10_sum 73 = .ok (.sipush 20006, 3) := by decide +kernel
theorem dX10_sum_76 : decode cX10_sum 76 = .ok (.goto 4, 3) := by decide +kernel
theorem dX10_sum_79 : decode cX10_sum 79 = .ok (.iconst 0, 1) := by decide +kernel
theorem dX10_sum_80 : decode cX10_sum 80 = .ok (.istore_n 1, 1) := by decide +kernel
theorem dX10_sum_81 : decode cX10_sum 81 = .ok (.goto (-45), 3) := by decide +kernel
theorem dX10_sum_84 : decode cX10_sum 84 = .ok (.return_, 1) := by decide +kernel
theorem dX10_product_0 : decode cX10_product 0 = .ok (.aload_n 0, 1) := by decide +kernel
theorem dX10_product_1 : decode cX10_product 1 = .ok (.invokevirtual 204, 3) := by decide +kernel
theorem dX10_product_4 : decode cX10_product 4 = .ok (.aload_n 0, 1) := by decide +kernel
theorem dX10_product_5 : decode cX10_product 5 = .ok (.bipush 42, 2) := by decide +kernel
theorem dX10_product_7 : decode cX10_product 7 = .ok (.invokevirtual 188, 3) := by decide +kernel
theorem dX10_product_10 : decode cX10_product 10 = .ok (.ifCond .eq 9, 3) := by decide +kernel
theorem dX10_product_13 : decode cX10_product 13 = .ok (.sipush 20007, 3) := by decide +kernel
theorem dX10_product_16 : decode cX10_product 16 = .ok (.goto 34, 3) := by decide +kernel
theorem dX10_product_19 : decode cX10_product 19 = .ok (.aload_n 0, 1) := by decide +kernel
theorem dX10_product_20 : decode cX10_product 20 = .ok (.bipush 47, 2) := by decide +kernel
theorem dX10_product_22 : decode cX10_product 22 = .ok (.invokevirtual 188, 3) := by decide +kernel
theorem dX10_product_25 : decode cX10_product 25 = .ok (.ifCond .eq 9, 3) := by decide +kernel
theorem dX10_product_28 : decode cX10_product 28 = .ok (.sipush 20008, 3) := by decide +kernel
theorem dX10_product_31 : decode cX10_product 31 = .ok (.goto 19, 3) := by decide +kernel
theorem dX10_product_34 : decode cX10_product 34 = .ok (.aload_n 0, 1) := by decide +kernel
theorem dX10_product_35 : decode cX10_product 35 = .ok (.bipush 37, 2) := by decide +kernel
theorem dX10_product_37 : decode cX10_product 37 = .ok (.invokevirtual 188, 3) := by decide +kernel
theorem dX10_product_40 : decode cX10_product 40 = .ok (.ifCond .eq 9, 3) := by decide +kernel
theorem dX10_product_43 : decode cX10_product 43 = .ok (.sipush 20009, 3) := by decide +kernel
theorem dX10_product_46 : decode cX10_product 46 = .ok (.goto 4, 3) := by decide +kernel
theorem dX10_product_49 : decode cX10_product 49 = .ok (.iconst 0, 1) := by decide +kernel
theorem dX10_product_50 : decode cX10_product 50 = .ok (.istore_n 1, 1) := by decide +kernel
theorem dX10_product_51 : decode cX10_product 51 = .ok (.iload_n 1, 1) := by decide +kernel
theorem dX10_product_52 : decode cX10_product 52 = .ok (.ifCond .le 62, 3) := by decide +kernel
theorem dX10_product_55 : decode cX10_product 55 = .ok (.aload_n 0, 1) := by decide +kernel
theorem dX10_product_56 : decode cX10_product 56 = .ok (.invokevirtual 204, 3) := by decide +kernel
theorem dX10_product_59 : decode cX10_product 59 = .ok (.aload_n 0, 1) := by decide +kernel
theorem dX10_product_60 : decode cX10_product 60 = .ok (.iload_n 1, 1) := by decide +kernel
theorem dX10_product_61 : decode cX10_product 61 = .ok (.invokevirtual 191, 3) := by decide +kernel
theorem dX10_product_64 : decode cX10_product 64 = .ok (.aload_n 0, 1) := by decide +kernel
theorem dX10_product_65 : decode cX10_product 65 = .ok (.bipush 42, 2) := by decide +kernel
theorem dX10_product_67 : decode cX10_product 67 = .ok (.invokevirtual 188, 3) := by decide +kernel
theorem dX10_product_70 : decode cX10_product 70 = .ok (.ifCond .eq 9, 3) := by decide +kernel
theorem dX10_product_73 : decode cX10_product 73 = .ok (.sipush 20007, 3) := by decide +kernel
theorem dX10_product_76 : decode cX10_product 76 = .ok (.goto 34, 3) := by decide +kernel
theorem dX10_product_79 : decode cX10_product 79 = .ok (.aload_n 0, 1) := by decide +kernel
theorem dX10_product_80 : decode cX10_product 80 = .ok (.bipush 47, 2) := by decide +kernel
theorem dX10_product_82 : decode cX10_product 82 = .ok (.invokevirtual 188, 3) := by decide +kernel
theorem dX10_product_85 : decode cX10_product 85 = .ok (.ifCond .eq 9, 3) := by decide +kernel
theorem dX10_product_88 : decode cX10_product 88 = .ok (.sipush 20008, 3) := by decide +kernel
theorem dX10_product_91 : decode cX10_product 91 = .ok (.goto 19, 3) := by decide +kernel
theorem dX10_product_94 : decode cX10_product 94 = .ok (.aload_n 0, 1) := by decide +kernel
theorem dX10_product_95 : decode cX10_product 95 = .ok (.bipush 37, 2) := by decide +kernel
theorem dX10_product_97 : decode cX10_product 97 = .ok (.invokevirtual 188, 3) := by decide +kernel
theorem dX10_product_100 : decode cX10_product 100 = .ok (.ifCond .eq 9, 3) := by decide +kernel
theorem dX10_product_103 : decode cX10_product 103 = .ok (.sipush 20009, 3) := by decide +kernel
theorem dX10_product_106 : decode cX10_product 106 = .ok (.goto 4, 3) := by decide +kernel
theorem dX10_product_109 : decode cX10_product 109 = .ok (.iconst 0, 1) := by decide +kernel
theorem dX10_product_110 : decode cX10_product 110 = .ok (.istore_n 1, 1) := by decide +kernel
theorem dX10_product_111 : decode cX10_product 111 = .ok (.goto (-60), 3) := by decide +kernel
theorem dX10_product_114 : decode cX10_product 114 = .ok (.return_, 1) := by decide +kernel
theorem dX10_nameOf_0 : decode cX10_nameOf 0 = .ok (.iconst (-1), 1) := by decide +kernel
theorem dX10_nameOf_1 : decode cX10_nameOf 1 = .ok (.istore_n 2, 1) := by decide +kernel
theorem dX10_nameOf_2 : decode cX10_nameOf 2 = .ok (.iconst 0, 1) := by decide +kernel
theorem dX10_nameOf_3 : decode cX10_nameOf 3 = .ok (.istore_n 3, 1) := by decide +kernel
theorem dX10_nameOf_4 : decode cX10_nameOf 4 = .ok (.iload_n 3, 1) := by decide +kernel
theorem dX10_nameOf_5 : decode cX10_nameOf 5 = .ok (.aload_n 0, 1) := by decide +kernel
theorem dX10_nameOf_6 : decode cX10_nameOf 6 = .ok (.getfield 28, 3) := by decide +kernel
theorem dX10_nameOf_9 : decode cX10_nameOf 9 = .ok (.aload_n 0, 1) := by decide +kernel
theorem dX10_nameOf_10 : decode cX10_nameOf 10 = .ok (.getfield 207, 3) := by decide +kernel
theorem dX10_nameOf_13 : decode cX10_nameOf 13 = .ok (.aaload, 1) := by decide +kernel
theorem dX10_nameOf_14 : decode cX10_nameOf 14 = .ok (.invokevirtual 210, 3) := by decide +kernel
theorem dX10_nameOf_17 : decode cX10_nameOf 17 = .ok (.if_icmp .ge 32, 3) := by decide +kernel
theorem dX10_nameOf_20 : decode cX10_nameOf 20 = .ok (.aload_n 0, 1) := by decide +kernel
theorem dX10_nameOf_21 : decode cX10_nameOf 21 = .ok (.getfield 28, 3) := by decide +kernel
theorem dX10_nameOf_24 : decode cX10_nameOf 24 = .ok (.aload_n 0, 1) := by decide +kernel
theorem dX10_nameOf_25 : decode cX10_nameOf 25 = .ok (.getfield 207, 3) := by decide +kernel
theorem dX10_nameOf_28 : decode cX10_nameOf 28 = .ok (.aaload, 1) := by decide +kernel
theorem dX10_nameOf_29 : decode cX10_nameOf 29 = .ok (.iload_n 3, 1) := by decide +kernel
theorem dX10_nameOf_30 : decode cX10_nameOf 30 = .ok (.invokevirtual 213, 3) := by decide +kernel
theorem dX10_nameOf_33 : decode cX10_nameOf 33 = .ok (.iload_n 1, 1) := by decide +kernel
theorem dX10_nameOf_34 : decode cX10_nameOf 34 = .ok (.if_icmp .ne 7, 3) := by decide +kernel
theorem dX10_nameOf_37 : decode cX10_nameOf 37 = .ok (.iload_n 3, 1) := by decide +kernel
theorem dX10_nameOf_38 : decode cX10_nameOf 38 = .ok (.goto 4, 3) := by decide +kernel
theorem dX10_nameOf_41 : decode cX10_nameOf 41 = .ok (.iload_n 2, 1) := by decide +kernel
theorem dX10_nameOf_42 : decode cX10_nameOf 42 = .ok (.istore_n 2, 1) := by decide +kernel
theorem dX10_nameOf_43 : decode cX10_nameOf 43 = .ok (.iinc 3 1, 3) := by decide +kernel
theorem dX10_nameOf_46 : decode cX10_nameOf 46 = .ok (.goto (-42), 3) := by decide +kernel
theorem dX10_nameOf_49 : decode cX10_nameOf 49 = .ok (.iload_n 2, 1) := by decide +kernel
theorem dX10_nameOf_50 : decode cX10_nameOf 50 = .ok (.ireturn, 1) := by decide +kernel
theorem dX10_one_0 : decode cX10_one 0 = .ok (.aload_n 0, 1) := by decide +kernel
theorem dX10_one_1 : decode cX10_one 1 = .ok (.invokevirtual 178, 3) := by decide +kernel
theorem dX10_one_4 : decode cX10_one 4 = .ok (.istore_n 1, 1) := by decide +kernel
theorem dX10_one_5 : decode cX10_one 5 = .ok (.iload_n 1, 1) := by decide +kernel
theorem dX10_one_6 : decode cX10_one 6 = .ok (.bipush 33, 2) := by decide +kernel
theorem dX10_one_8 : decode cX10_one 8 = .ok (.if_icmp .eq 9, 3) := by decide +kernel
theorem dX10_one_11 : decode cX10_one 11 = .ok (.iload_n 1, 1) := by decide +kernel
theorem dX10_one_12 : decode cX10_one 12 = .ok (.bipush 40, 2) := by decide +kernel
theorem dX10_one_14 : decode cX10_one 14 = .ok (.if_icmp .ne 102, 3) := by decide +kernel
theorem dX10_one_17 : decode cX10_one 17 = .ok (.aload_n 0, 1) := by decide +kernel
theorem dX10_one_18 : decode cX10_one 18 = .ok (.aload_n 0, 1) := by decide +kernel
theorem dX10_one_19 : decode cX10_one 19 = .ok (.getfield 217, 3) := by decide +kernel
theorem dX10_one_22 : decode cX10_one 22 = .ok (.iconst 5, 1) := by decide +kernel
theorem dX10_one_23 : decode cX10_one 23 = .ok (.if_icmp .ne 7, 3) := by decide +kernel
theorem dX10_one_26 : decode cX10_one 26 = .ok (.iconst 1, 1) := by decide +kernel
theorem dX10_one_27 : decode cX10_one 27 = .ok (.goto 4, 3) := by decide +kernel
theorem dX10_one_30 : decode cX10_one 30 = .ok (.iconst 0, 1) := by decide +kernel
theorem dX10_one_31 : decode cX10_one 31 = .ok (.putfield 170, 3) := by decide +kernel
theorem dX10_one_34 : decode cX10_one 34 = .ok (.aload_n 0, 1) := by decide +kernel
theorem dX10_one_35 : decode cX10_one 35 = .ok (.getfield 170, 3) := by decide +kernel
theorem dX10_one_38 : decode cX10_one 38 = .ok (.ifCond .ne 209, 3) := by decide +kernel
theorem dX10_one_41 : decode cX10_one 41 = .ok (.aload_n 0, 1) := by decide +kernel
theorem dX10_one_42 : decode cX10_one 42 = .ok (.dup, 1) := by decide +kernel
theorem dX10_one_43 : decode cX10_one 43 = .ok (.getfield 217, 3) := by decide +kernel
theorem dX10_one_46 : decode cX10_one 46 = .ok (.iconst 1, 1) := by decide +kernel
theorem dX10_one_47 : decode cX10_one 47 = .ok (.iadd, 1) := by decide +kernel
theorem dX10_one_48 : decode cX10_one 48 = .ok (.putfield 217, 3) := by decide +kernel
theorem dX10_one_51 : decode cX10_one 51 = .ok (.aload_n 0, 1) := by decide +kernel
theorem dX10_one_52 : decode cX10_one 52 = .ok (.dup, 1) := by decide +kernel
theorem dX10_one_53 : decode cX10_one 53 = .ok (.getfield 174, 3) := by decide +kernel
theorem dX10_one_56 : decode cX10_one 56 = .ok (.iconst 1, 1) := by decide +kernel
theorem dX10_one_57 : decode cX10_one 57 = .ok (.iadd, 1) := by decide +kernel
theorem dX10_one_58 : decode cX10_one 58 = .ok (.putfield 174, 3) := by decide +kernel
theorem dX10_one_61 : decode cX10_one 61 = .ok (.iload_n 1, 1) := by decide +kernel
theorem dX10_one_62 : decode cX10_one 62 = .ok (.bipush 33, 2) := by decide +kernel
theorem dX10_one_64 : decode cX10_one 64 = .ok (.if_icmp .ne 17, 3) := by decide +kernel
theorem dX10_one_67 : decode cX10_one 67 = .ok (.aload_n 0, 1) := by decide +kernel
theorem dX10_one_68 : decode cX10_one 68 = .ok (.invokevirtual 204, 3) := by decide +kernel
theorem dX10_one_71 : decode cX10_one 71 = .ok (.aload_n 0, 1) := by decide +kernel
theorem dX10_one_72 : decode cX10_one 72 = .ok (.sipush 20010, 3) := by decide +kernel
theorem dX10_one_75 : decode cX10_one 75 = .ok (.invokevirtual 191, 3) := by decide +kernel
theorem dX10_one_78 : decode cX10_one 78 = .ok (.goto 25, 3) := by decide +kernel
theorem dX10_one_81 : decode cX10_one 81 = .ok (.aload_n 0, 1) := by decide +kernel
theorem dX10_one_82 : decode cX10_one 82 = .ok (.invokevirtual 220, 3) := by decide +kernel
theorem dX10_one_85 : decode cX10_one 85 = .ok (.aload_n 0, 1) := by decide +kernel
theorem dX10_one_86 : decode cX10_one 86 = .ok (.aload_n 0, 1) := by decide +kernel
theorem dX10_one_87 : decode cX10_one 87 = .ok (.bipush 41, 2) := by decide +kernel
theorem dX10_one_89 : decode cX10_one 89 = .ok (.invokevirtual 188, 3) := by decide +kernel
theorem dX10_one_92 : decode cX10_one 92 = .ok (.ifCond .ne 7, 3) := by decide +kernel
theorem dX10_one_95 : decode cX10_one 95 = .ok (.iconst 1, 1) := by decide +kernel
theorem dX10_one_96 : decode cX10_one 96 = .ok (.goto 4, 3) := by decide +kernel
theorem dX10_one_99 : decode cX10_one 99 = .ok (.iconst 0, 1) := by decide +kernel
theorem dX10_one_100 : decode cX10_one 100 = .ok (.putfield 170, 3) := by decide +kernel
theorem dX10_one_103 : decode cX10_one 103 = .ok (.aload_n 0, 1) := by decide +kernel
theorem dX10_one_104 : decode cX10_one 104 = .ok (.dup, 1) := by decide +kernel
theorem dX10_one_105 : decode cX10_one 105 = .ok (.getfield 217, 3) := by decide +kernel
theorem dX10_one_108 : decode cX10_one 108 = .ok (.iconst 1, 1) := by decide +kernel
theorem dX10_one_109 : decode cX10_one 109 = .ok (.isub, 1) := by decide +kernel
theorem dX10_one_110 : decode cX10_one 110 = .ok (.putfield 217, 3) := by decide +kernel
theorem dX10_one_113 : decode cX10_one 113 = .ok (.goto 134, 3) := by decide +kernel
theorem dX10_one_116 : decode cX10_one 116 = .ok (.iload_n 1, 1) := by decide +kernel
theorem dX10_one_117 : decode cX10_one 117 = .ok (.bipush 48, 2) := by decide +kernel
theorem dX10_one_119 : decode cX10_one 119 = .ok (.bipush 57, 2) := by decide +kernel
theorem dX10_one_121 : decode cX10_one 121 = .ok (.invokestatic 72, 3) := by decide +kernel
theorem dX10_one_124 : decode cX10_one 124 = .ok (.ifCond .eq 63, 3) := by decide +kernel
theorem dX10_one_127 : decode cX10_one 127 = .ok (.iconst 0, 1) := by decide +kernel
theorem dX10_one_128 : decode cX10_one 128 = .ok (.istore_n 2, 1) := by decide +kernel
theorem dX10_one_129 : decode cX10_one 129 = .ok (.iconst 0, 1) := by decide +kernel
theorem dX10_one_130 : decode cX10_one 130 = .ok (.istore_n 3, 1) := by decide +kernel
theorem dX10_one_131 : decode cX10_one 131 = .ok (.iload_n 3, 1) := by decide +kernel
theorem dX10_one_132 : decode cX10_one 132 = .ok (.iconst 4, 1) := by decide +kernel
theorem dX10_one_133 : decode cX10_one 133 = .ok (.if_icmp .ge 46, 3) := by decide +kernel
theorem dX10_one_136 : decode cX10_one 136 = .ok (.aload_n 0, 1) := by decide +kernel
theorem dX10_one_137 : decode cX10_one 137 = .ok (.invokevirtual 178, 3) := by decide +kernel
theorem dX10_one_140 : decode cX10_one 140 = .ok (.bipush 48, 2) := by decide +kernel
theorem dX10_one_142 : decode cX10_one 142 = .ok (.bipush 57, 2) := by decide +kernel
theorem dX10_one_144 : decode cX10_one 144 = .ok (.invokestatic 72, 3) := by decide +kernel
theorem dX10_one_147 : decode cX10_one 147 = .ok (.ifCond .eq 32, 3) := by decide +kernel
theorem dX10_one_150 : decode cX10_one 150 = .ok (.bipush 10, 2) := by decide +kernel
theorem dX10_one_152 : decode cX10_one 152 = .ok (.iload_n 2, 1) := by decide +kernel
theorem dX10_one_153 : decode cX10_one 153 = .ok (.imul, 1) := by decide +kernel
theorem dX10_one_154 : decode cX10_one 154 = .ok (.aload_n 0, 1) := by decide +kernel
theorem dX10_one_155 : decode cX10_one 155 = .ok (.invokevirtual 178, 3) := by decide +kernel
theorem dX10_one_158 : decode cX10_one 158 = .ok (.iadd, 1) := by decide +kernel
theorem dX10_one_159 : decode cX10_one 159 = .ok (.bipush 48, 2) := by decide +kernel
theorem dX10_one_161 : decode cX10_one 161 = .ok (.isub, 1) := by decide +kernel
theorem dX10_one_162 : decode cX10_one 162 = .ok (.istore_n 2, 1) := by decide +kernel
theorem dX10_one_163 : decode cX10_one 163 = .ok (.aload_n 0, 1) := by decide +kernel
theorem dX10_one_164 : decode cX10_one 164 = .ok (.dup, 1) := by decide +kernel
theorem dX10_one_165 : decode cX10_one 165 = .ok (.getfield 174, 3) := by decide +kernel
theorem dX10_one_168 : decode cX10_one 168 = .ok (.iconst 1, 1) := by decide +kernel
theorem dX10_one_169 : decode cX10_one 169 = .ok (.iadd, 1) := by decide +kernel
theorem dX10_one_170 : decode cX10_one 170 = .ok (.putfield 174, 3) := by decide +kernel
theorem dX10_one_173 : decode cX10_one 173 = .ok (.iinc 3 1, 3) := by decide +kernel
theorem dX10_one_176 : decode cX10_one 176 = .ok (.goto (-45), 3) := by decide +kernel
theorem dX10_one_179 : decode cX10_one 179 = .ok (.aload_n 0, 1) := by decide +kernel
theorem dX10_one_180 : decode cX10_one 180 = .ok (.iload_n 2, 1) := by decide +kernel
theorem dX10_one_181 : decode cX10_one 181 = .ok (.invokevirtual 191, 3) := by decide +kernel
theorem dX10_one_184 : decode cX10_one 184 = .ok (.goto 63, 3) := by decide +kernel
theorem dX10_one_187 : decode cX10_one 187 = .ok (.iload_n 1, 1) := by decide +kernel
theorem dX10_one_188 : decode cX10_one 188 = .ok (.ifCond .ge 7, 3) := by decide +kernel
theorem dX10_one_191 : decode cX10_one 191 = .ok (.iconst (-1), 1) := by decide +kernel
theorem dX10_one_192 : decode cX10_one 192 = .ok (.goto 8, 3) := by decide +kernel
theorem dX10_one_195 : decode cX10_one 195 = .ok (.aload_n 0, 1) := by decide +kernel
theorem dX10_one_196 : decode cX10_one 196 = .ok (.iload_n 1, 1) := by decide +kernel
theorem dX10_one_197 : decode cX10_one 197 = .ok (.invokevirtual 223, 3) := by decide +kernel
theorem dX10_one_200 : decode cX10_one 200 = .ok (.istore_n 2, 1) := by decide +kernel
theorem dX10_one_201 : decode cX10_one 201 = .ok (.aload_n 0, 1) := by decide +kernel
theorem dX10_one_202 : decode cX10_one 202 = .ok (.aload_n 0, 1) := by decide +kernel
theorem dX10_one_203 : decode cX10_one 203 = .ok (.getfield 170, 3) := by decide +kernel
theorem dX10_one_206 : decode cX10_one 206 = .ok (.ifCond .ne 7, 3) := by decide +kernel
theorem dX10_one_209 : decode cX10_one 209 = .ok (.iload_n 2, 1) := by decide +kernel
theorem dX10_one_210 : decode cX10_one 210 = .ok (.ifCond .ge 7, 3) := by decide +kernel
theorem dX10_one_213 : decode cX10_one 213 = .ok (.iconst 1, 1) := by decide +kernel
theorem dX10_one_214 : decode cX10_one 214 = .ok (.goto 4, 3) := by decide +kernel
theorem dX10_one_217 : decode cX10_one 217 = .ok (.iconst 0, 1) := by decide +kernel
theorem dX10_one_218 : decode cX10_one 218 = .ok (.putfield 170, 3) := by decide +kernel
theorem dX10_one_221 : decode cX10_one 221 = .ok (.aload_n 0, 1) := by decide +kernel
theorem dX10_one_222 : decode cX10_one 222 = .ok (.getfield 170, 3) := by decide +kernel
theorem dX10_one_225 : decode cX10_one 225 = .ok (.ifCond .ne 22, 3) := by decide +kernel
theorem dX10_one_228 : decode cX10_one 228 = .ok (.aload_n 0, 1) := by decide +kernel
theorem dX10_one_229 : decode cX10_one 229 = .ok (.sipush 10000, 3) := by decide +kernel
theorem dX10_one_232 : decode cX10_one 232 = .ok (.iload_n 2, 1) := by decide +kernel
theorem dX10_one_233 : decode cX10_one 233 = .ok (.iadd, 1) := by decide +kernel
theorem dX10_one_234 : decode cX10_one 234 = .ok (.invokevirtual 191, 3) := by decide +kernel
theorem dX10_one_237 : decode cX10_one 237 = .ok (.aload_n 0, 1) := by decide +kernel
theorem dX10_one_238 : decode cX10_one 238 = .ok (.dup, 1) := by decide +kernel
theorem dX10_one_239 : decode cX10_one 239 = .ok (.getfield 174, 3) := by decide +kernel
theorem dX10_one_242 : decode cX10_one 242 = .ok (.iconst 1, 1) := by decide +kernel
theorem dX10_one_243 : decode cX10_one 243 = .ok (.iadd, 1) := by decide +kernel
theorem dX10_one_244 : decode cX10_one 244 = .ok (.putfield 174, 3) := by decide +kernel
theorem dX10_one_247 : decode cX10_one 247 = .ok (.return_, 1) := by decide +kernel
theorem dX10_text_0 : decode cX10_text 0 = .ok (.iload_n 1, 1) := by decide +kernel
theorem dX10_text_1 : decode cX10_text 1 = .ok (.iconst 0, 1) := by decide +kernel
theorem dX10_text_2 : decode cX10_text 2 = .ok (.iconst 1, 1) := by decide +kernel
theorem dX10_text_3 : decode cX10_text 3 = .ok (.invokestatic 72, 3) := by decide +kernel
theorem dX10_text_6 : decode cX10_text 6 = .ok (.ifCond .ne 10, 3) := by decide +kernel
theorem dX10_text_9 : decode cX10_text 9 = .ok (.aload_n 0, 1) := by decide +kernel
theorem dX10_text_10 : decode cX10_text 10 = .ok (.ldc 80, 2) := by decide +kernel
theorem dX10_text_12 : decode cX10_text 12 = .ok (.invokevirtual 81, 3) := by decide +kernel
theorem dX10_text_15 : decode cX10_text 15 = .ok (.ireturn, 1) := by decide +kernel
theorem dX10_text_16 : decode cX10_text 16 = .ok (.aload_n 0, 1) := by decide +kernel
theorem dX10_text_17 : decode cX10_text 17 = .ok (.iload_n 1, 1) := by decide +kernel
theorem dX10_text_18 : decode cX10_text 18 = .ok (.putfield 207, 3) := by decide +kernel
theorem dX10_text_21 : decode cX10_text 21 = .ok (.aload_n 0, 1) := by decide +kernel
theorem dX10_text_22 : decode cX10_text 22 = .ok (.iconst 0, 1) := by decide +kernel
theorem dX10_text_23 : decode cX10_text 23 = .ok (.putfield 174, 3) := by decide +kernel
theorem dX10_text_26 : decode cX10_text 26 = .ok (.aload_n 0, 1) := by decide +kernel
theorem dX10_text_27 : decode cX10_text 27 = .ok (.iconst 0, 1) := by decide +kernel
theorem dX10_text_28 : decode cX10_text 28 = .ok (.putfield 217, 3) := by decide +kernel
theorem dX10_text_31 : decode cX10_text 31 = .ok (.aload_n 0, 1) := by decide +kernel
theorem dX10_text_32 : decode cX10_text 32 = .ok (.iconst 0, 1) := by decide +kernel
theorem dX10_text_33 : decode cX10_text 33 = .ok (.putfield 170, 3) := by decide +kernel
theorem dX10_text_36 : decode cX10_text 36 = .ok (.aload_n 0, 1) := by decide +kernel
theorem dX10_text_37 : decode cX10_text 37 = .ok (.iconst 0, 1) := by decide +kernel
theorem dX10_text_38 : decode cX10_text 38 = .ok (.putfield 182, 3) := by decide +kernel
theorem dX10_text_41 : decode cX10_text 41 = .ok (.aload_n 0, 1) := by decide +kernel
theorem dX10_text_42 : decode cX10_text 42 = .ok (.invokevirtual 220, 3) := by decide +kernel
theorem dX10_text_45 : decode cX10_text 45 = .ok (.aload_n 0, 1) := by decide +kernel
theorem dX10_text_46 : decode cX10_text 46 = .ok (.aload_n 0, 1) := by decide +kernel
theorem dX10_text_47 : decode cX10_text 47 = .ok (.getfield 170, 3) := by decide +kernel
theorem dX10_text_50 : decode cX10_text 50 = .ok (.ifCond .ne 16, 3) := by decide +kernel
theorem dX10_text_53 : decode cX10_text 53 = .ok (.aload_n 0, 1) := by decide +kernel
theorem dX10_text_54 : decode cX10_text 54 = .ok (.getfield 174, 3) := by decide +kernel
theorem dX10_text_57 : decode cX10_text 57 = .ok (.aload_n 0, 1) := by decide +kernel
theorem dX10_text_58 : decode cX10_text 58 = .ok (.getfield 9, 3) := by decide +kernel
theorem dX10_text_61 : decode cX10_text 61 = .ok (.iconst 4, 1) := by decide +kernel
theorem dX10_text_62 : decode cX10_text 62 = .ok (.iaload, 1) := by decide +kernel
theorem dX10_text_63 : decode cX10_text 63 = .ok (.if_icmp .ge 7, 3) := by decide +kernel
theorem dX10_text_66 : decode cX10_text 66 = .ok (.iconst 1, 1) := by decide +kernel
theorem dX10_text_67 : decode cX10_text 67 = .ok (.goto 4, 3) := by decide +kernel
theorem dX10_text_70 : decode cX10_text 70 = .ok (.iconst 0, 1) := by decide +kernel
theorem dX10_text_71 : decode cX10_text 71 = .ok (.putfield 170, 3) := by decide +kernel
theorem dX10_text_74 : decode cX10_text 74 = .ok (.aload_n 0, 1) := by decide +kernel
theorem dX10_text_75 : decode cX10_text 75 = .ok (.getfield 9, 3) := by decide +kernel
theorem dX10_text_78 : decode cX10_text 78 = .ok (.iconst 4, 1) := by decide +kernel
theorem dX10_text_79 : decode cX10_text 79 = .ok (.iconst 0, 1) := by decide +kernel
theorem dX10_text_80 : decode cX10_text 80 = .ok (.iastore, 1) := by decide +kernel
theorem dX10_text_81 : decode cX10_text 81 = .ok (.aload_n 0, 1) := by decide +kernel
theorem dX10_text_82 : decode cX10_text 82 = .ok (.getfield 170, 3) := by decide +kernel
theorem dX10_text_85 : decode cX10_text 85 = .ok (.ifCond .eq 11, 3) := by decide +kernel
theorem dX10_text_88 : decode cX10_text 88 = .ok (.bipush (-10), 2) := by decide +kernel
theorem dX10_text_90 : decode cX10_text 90 = .ok (.aload_n 0, 1) := by decide +kernel
theorem dX10_text_91 : decode cX10_text 91 = .ok (.getfield 174, 3) := by decide +kernel
theorem dX10_text_94 : decode cX10_text 94 = .ok (.isub, 1) := by decide +kernel
theorem dX10_text_95 : decode cX10_text 95 = .ok (.ireturn, 1) := by decide +kernel
theorem dX10_text_96 : decode cX10_text 96 = .ok (.aload_n 0, 1) := by decide +kernel
theorem dX10_text_97 : decode cX10_text 97 = .ok (.getfield 9, 3) := by decide +kernel
theorem dX10_text_100 : decode cX10_text 100 = .ok (.sipush 321, 3) := by decide +kernel
theorem dX10_text_103 : decode cX10_text 103 = .ok (.bipush 62, 2) := by decide +kernel
theorem dX10_text_105 : decode cX10_text 105 = .ok (.aload_n 0, 1) := by decide +kernel
theorem dX10_text_106 : decode cX10_text 106 = .ok (.getfield 207, 3) := by decide +kernel
theorem dX10_text_109 : decode cX10_text 109 = .ok (.imul, 1) := by decide +kernel
theorem dX10_text_110 : decode cX10_text 110 = .ok (.iadd, 1) := by decide +kernel
theorem dX10_text_111 : decode cX10_text 111 = .ok (.aload_n 0, 1) := by decide +kernel
theorem dX10_text_112 : decode cX10_text 112 = .ok (.getfield 182, 3) := by decide +kernel
theorem dX10_text_115 : decode cX10_text 115 = .ok (.iastore, 1) := by decide +kernel
theorem dX10_text_116 : decode cX10_text 116 = .ok (.iconst 0, 1) := by decide +kernel
theorem dX10_text_117 : decode cX10_text 117 = .ok (.istore_n 2, 1) := by decide +kernel
theorem dX10_text_118 : decode cX10_text 118 = .ok (.iload_n 2, 1) := by decide +kernel
theorem dX10_text_119 : decode cX10_text 119 = .ok (.aload_n 0, 1) := by decide +kernel
theorem dX10_text_120 : decode cX10_text 120 = .ok (.getfield 182, 3) := by decide +kernel
theorem dX10_text_123 : decode cX10_text 123 = .ok (.if_icmp .ge 35, 3) := by decide +kernel
theorem dX10_text_126 : decode cX10_text 126 = .ok (.aload_n 0, 1) := by decide +kernel
theorem dX10_text_127 : decode cX10_text 127 = .ok (.getfield 9, 3) := by decide +kernel
theorem dX10_text_130 : decode cX10_text 130 = .ok (.sipush 321, 3) := by decide +kernel
theorem dX10_text_133 : decode cX10_text 133 = .ok (.bipush 62, 2) := by decide +kernel
theorem dX10_text_135 : decode cX10_text 135 = .ok (.aload_n 0, 1) := by decide +kernel
theorem dX10_text_136 : decode cX10_text 136 = .ok (.getfield 207, 3) := by decide +kernel
theorem dX10_text_139 : decode cX10_text 139 = .ok (.imul, 1) := by decide +kernel
theorem dX10_text_140 : decode cX10_text 140 = .ok (.iadd, 1) := by decide +kernel
theorem dX10_text_141 : decode cX10_text 141 = .ok (.iconst 1, 1) := by decide +kernel
theorem dX10_text_142 : decode cX10_text 142 = .ok (.iadd, 1) := by decide +kernel
theorem dX10_text_143 : decode cX10_text 143 = .ok (.iload_n 2, 1) := by decide +kernel
theorem dX10_text_144 : decode cX10_text 144 = .ok (.iadd, 1) := by decide +kernel
theorem dX10_text_145 : decode cX10_text 145 = .ok (.aload_n 0, 1) := by decide +kernel
theorem dX10_text_146 : decode cX10_text 146 = .ok (.getfield 32, 3) := by decide +kernel
theorem dX10_text_149 : decode cX10_text 149 = .ok (.iload_n 2, 1) := by decide +kernel
theorem dX10_text_150 : decode cX10_text 150 = .ok (.iaload, 1) := by decide +kernel
theorem dX10_text_151 : decode cX10_text 151 = .ok (.iastore, 1) := by decide +kernel
theorem dX10_text_152 : decode cX10_text 152 = .ok (.iinc 2 1, 3) := by decide +kernel
theorem dX10_text_155 : decode cX10_text 155 = .ok (.goto (-37), 3) := by decide +kernel
theorem dX10_text_158 : decode cX10_text 158 = .ok (.iconst 1, 1) := by decide +kernel
theorem dX10_text_159 : decode cX10_text 159 = .ok (.ireturn, 1) := by decide +kernel
theorem dX10_untell_0 : decode cX10_untell 0 = .ok (.iload_n 1, 1) := by decide +kernel
theorem dX10_untell_1 : decode cX10_untell 1 = .ok (.iconst 0, 1) := by decide +kernel
theorem dX10_untell_2 : decode cX10_untell 2 = .ok (.iconst 1, 1) := by decide +kernel
theorem dX10_untell_3 : decode cX10_untell 3 = .ok (.invokestatic 72, 3) := by decide +kernel
theorem dX10_untell_6 : decode cX10_untell 6 = .ok (.ifCond .eq 27, 3) := by decide +kernel
theorem dX10_untell_9 : decode cX10_untell 9 = .ok (.aload_n 0, 1) := by decide +kernel
theorem dX10_untell_10 : decode cX10_untell 10 = .ok (.sipush 321, 3) := by decide +kernel
theorem dX10_untell_13 : decode cX10_untell 13 = .ok (.bipush 62, 2) := by decide +kernel
theorem dX10_untell_15 : decode cX10_untell 15 = .ok (.iload_n 1, 1) := by decide +kernel
theorem dX10_untell_16 : decode cX10_untell 16 = .ok (.imul, 1) := by decide +kernel
theorem dX10_untell_17 : decode cX10_untell 17 = .ok (.iadd, 1) := by decide +kernel
theorem dX10_untell_18 : decode cX10_untell 18 = .ok (.iconst 0, 1) := by decide +kernel
theorem dX10_untell_19 : decode cX10_untell 19 = .ok (.invokevirtual 106, 3) := by decide +kernel
theorem dX10_untell_22 : decode cX10_untell 22 = .ok (.ifCond .le 7, 3) := by decide +kernel
theorem dX10_untell_25 : decode cX10_untell 25 = .ok (.iconst 1, 1) := by decide +kernel
theorem dX10_untell_26 : decode cX10_untell 26 = .ok (.goto 13, 3) := by decide +kernel
theorem dX10_untell_29 : decode cX10_untell 29 = .ok (.iconst 0, 1) := by decide +kernel
theorem dX10_untell_30 : decode cX10_untell 30 = .ok (.goto 9, 3) := by decide +kernel
theorem dX10_untell_33 : decode cX10_untell 33 = .ok (.aload_n 0, 1) := by decide +kernel
theorem dX10_untell_34 : decode cX10_untell 34 = .ok (.ldc 80, 2) := by decide +kernel
theorem dX10_untell_36 : decode cX10_untell 36 = .ok (.invokevirtual 81, 3) := by decide +kernel
theorem dX10_untell_39 : decode cX10_untell 39 = .ok (.ireturn, 1) := by decide +kernel
theorem dX10_done_0 : decode cX10_done 0 = .ok (.iload_n 0, 1) := by decide +kernel
theorem dX10_done_1 : decode cX10_done 1 = .ok (.tableswitch 136 20000 20008 #[51, 65, 79, 90, 101, 112, 116, 120, 124], 51) := by decide +kernel
theorem dX10_done_52 : decode cX10_done 52 = .ok (.iload_n 1, 1) := by decide +kernel
theorem dX10_done_53 : decode cX10_done 53 = .ok (.ifCond .ne 7, 3) := by decide +kernel
theorem dX10_done_56 : decode cX10_done 56 = .ok (.iload_n 2, 1) := by decide +kernel
theorem dX10_done_57 : decode cX10_done 57 = .ok (.ifCond .eq 7, 3) := by decide +kernel
theorem dX10_done_60 : decode cX10_done 60 = .ok (.iconst 1, 1) := by decide +kernel
theorem dX10_done_61 : decode cX10_done 61 = .ok (.goto 4, 3) := by decide +kernel
theorem dX10_done_64 : decode cX10_done 64 = .ok (.iconst 0, 1) := by decide +kernel
theorem dX10_done_65 : decode cX10_done 65 = .ok (.ireturn, 1) := by decide +kernel
theorem dX10_done_66 : decode cX10_done 66 = .ok (.iload_n 1, 1) := by decide +kernel
theorem dX10_done_67 : decode cX10_done 67 = .ok (.ifCond .eq 11, 3) := by decide +kernel
theorem dX10_done_70 : decode cX10_done 70 = .ok (.iload_n 2, 1) := by decide +kernel
theorem dX10_done_71 : decode cX10_done 71 = .ok (.ifCond .eq 7, 3) := by decide +kernel
theorem dX10_done_74 : decode cX10_done 74 = .ok (.iconst 1, 1) := by decide +kernel
theorem dX10_done_75 : decode cX10_done 75 = .ok (.goto 4, 3) := by decide +kernel
theorem dX10_done_78 : decode cX10_done 78 = .ok (.iconst 0, 1) := by decide +kernel
theorem dX10_done_79 : decode cX10_done 79 = .ok (.ireturn, 1) := by decide +kernel
theorem dX10_done_80 : decode cX10_done 80 = .ok (.iload_n 1, 1) := by decide +kernel
theorem dX10_done_81 : decode cX10_done 81 = .ok (.iload_n 2, 1) := by decide +kernel
theorem dX10_done_82 : decode cX10_done 82 = .ok (.if_icmp .ge 7, 3) := by decide +kernel
theorem dX10_done_85 : decode cX10_done 85 = .ok (.iconst 1, 1) := by decide +kernel
theorem dX10_done_86 : decode cX10_done 86 = .ok (.goto 4, 3) := by decide +kernel
theorem dX10_done_89 : decode cX10_done 89 = .ok (.iconst 0, 1) := by decide +kernel
theorem dX10_done_90 : decode cX10_done 90 = .ok (.ireturn, 1) := by decide +kernel
theorem dX10_done_91 : decode cX10_done 91 = .ok (.iload_n 1, 1) := by decide +kernel
theorem dX10_done_92 : decode cX10_done 92 = .ok (.iload_n 2, 1) := by decide +kernel
theorem dX10_done_93 : decode cX10_done 93 = .ok (.if_icmp .ne 7, 3) := by decide +kernel
theorem dX10_done_96 : decode cX10_done 96 = .ok (.iconst 1, 1) := by decide +kernel
theorem dX10_done_97 : decode cX10_done 97 = .ok (.goto 4, 3) := by decide +kernel
theorem dX10_done_100 : decode cX10_done 100 = .ok (.iconst 0, 1) := by decide +kernel
theorem dX10_done_101 : decode cX10_done 101 = .ok (.ireturn, 1) := by decide +kernel
theorem dX10_done_102 : decode cX10_done 102 = .ok (.iload_n 1, 1) := by decide +kernel
theorem dX10_done_103 : decode cX10_done 103 = .ok (.iload_n 2, 1) := by decide +kernel
theorem dX10_done_104 : decode cX10_done 104 = .ok (.if_icmp .le 7, 3) := by decide +kernel
theorem dX10_done_107 : decode cX10_done 107 = .ok (.iconst 1, 1) := by decide +kernel
theorem dX10_done_108 : decode cX10_done 108 = .ok (.goto 4, 3) := by decide +kernel
theorem dX10_done_111 : decode cX10_done 111 = .ok (.iconst 0, 1) := by decide +kernel
theorem dX10_done_112 : decode cX10_done 112 = .ok (.ireturn, 1) := by decide +kernel
theorem dX10_done_113 : decode cX10_done 113 = .ok (.iload_n 1, 1) := by decide +kernel
theorem dX10_done_114 : decode cX10_done 114 = .ok (.iload_n 2, 1) := by decide +kernel
theorem dX10_done_115 : decode cX10_done 115 = .ok (.iadd, 1) := by decide +kernel
theorem dX10_done_116 : decode cX10_done 116 = .ok (.ireturn, 1) := by decide +kernel
theorem dX10_done_117 : decode cX10_done 117 = .ok (.iload_n 1, 1) := by decide +kernel
theorem dX10_done_118 : decode cX10_done 118 = .ok (.iload_n 2, 1) := by decide +kernel
theorem dX10_done_119 : decode cX10_done 119 = .ok (.isub, 1) := by decide +kernel
theorem dX10_done_120 : decode cX10_done 120 = .ok (.ireturn, 1) := by decide +kernel
theorem dX10_done_121 : decode cX10_done 121 = .ok (.iload_n 1, 1) := by decide +kernel
theorem dX10_done_122 : decode cX10_done 122 = .ok (.iload_n 2, 1) := by decide +kernel
theorem dX10_done_123 : decode cX10_done 123 = .ok (.imul, 1) := by decide +kernel
theorem dX10_done_124 : decode cX10_done 124 = .ok (.ireturn, 1) := by decide +kernel
theorem dX10_done_125 : decode cX10_done 125 = .ok (.iload_n 2, 1) := by decide +kernel
theorem dX10_done_126 : decode cX10_done 126 = .ok (.ifCond .ne 7, 3) := by decide +kernel
theorem dX10_done_129 : decode cX10_done 129 = .ok (.iconst 0, 1) := by decide +kernel
theorem dX10_done_130 : decode cX10_done 130 = .ok (.goto 6, 3) := by decide +kernel
theorem dX10_done_133 : decode cX10_done 133 = .ok (.iload_n 1, 1) := by decide +kernel
theorem dX10_done_134 : decode cX10_done 134 = .ok (.iload_n 2, 1) := by decide +kernel
theorem dX10_done_135 : decode cX10_done 135 = .ok (.idiv, 1) := by decide +kernel
theorem dX10_done_136 : decode cX10_done 136 = .ok (.ireturn, 1) := by decide +kernel
theorem dX10_done_137 : decode cX10_done 137 = .ok (.iload_n 2, 1) := by decide +kernel
theorem dX10_done_138 : decode cX10_done 138 = .ok (.ifCond .ne 7, 3) := by decide +kernel
theorem dX10_done_141 : decode cX10_done 141 = .ok (.iconst 0, 1) := by decide +kernel
theorem dX10_done_142 : decode cX10_done 142 = .ok (.goto 6, 3) := by decide +kernel
theorem dX10_done_145 : decode cX10_done 145 = .ok (.iload_n 1, 1) := by decide +kernel
theorem dX10_done_146 : decode cX10_done 146 = .ok (.iload_n 2, 1) := by decide +kernel
theorem dX10_done_147 : decode cX10_done 147 = .ok (.irem, 1) := by decide +kernel
theorem dX10_done_148 : decode cX10_done 148 = .ok (.ireturn, 1) := by decide +kernel
theorem dX10_worked_0 : decode cX10_worked 0 = .ok (.iconst 0, 1) := by decide +kernel
theorem dX10_worked_1 : decode cX10_worked 1 = .ok (.istore_n 2, 1) := by decide +kernel
theorem dX10_worked_2 : decode cX10_worked 2 = .ok (.iload_n 1, 1) := by decide +kernel
theorem dX10_worked_3 : decode cX10_worked 3 = .ok (.istore_n 3, 1) := by decide +kernel
theorem dX10_worked_4 : decode cX10_worked 4 = .ok (.iload_n 3, 1) := by decide +kernel
theorem dX10_worked_5 : decode cX10_worked 5 = .ok (.iload_n 1, 1) := by decide +kernel
theorem dX10_worked_6 : decode cX10_worked 6 = .ok (.aload_n 0, 1) := by decide +kernel
theorem dX10_worked_7 : decode cX10_worked 7 = .ok (.getfield 9, 3) := by decide +kernel
theorem dX10_worked_10 : decode cX10_worked 10 = .ok (.iload_n 1, 1) := by decide +kernel
theorem dX10_worked_11 : decode cX10_worked 11 = .ok (.iconst 1, 1) := by decide +kernel
theorem dX10_worked_12 : decode cX10_worked 12 = .ok (.isub, 1) := by decide +kernel
theorem dX10_worked_13 : decode cX10_worked 13 = .ok (.iaload, 1) := by decide +kernel
theorem dX10_worked_14 : decode cX10_worked 14 = .ok (.iadd, 1) := by decide +kernel
theorem dX10_worked_15 : decode cX10_worked 15 = .ok (.if_icmp .ge 126, 3) := by decide +kernel
theorem dX10_worked_18 : decode cX10_worked 18 = .ok (.aload_n 0, 1) := by decide +kernel
theorem dX10_worked_19 : decode cX10_worked 19 = .ok (.getfield 9, 3) := by decide +kernel
theorem dX10_worked_22 : decode cX10_worked 22 = .ok (.iload_n 3, 1) := by decide +kernel
theorem dX10_worked_23 : decode cX10_worked 23 = .ok (.iaload, 1) := by decide +kernel
theorem dX10_worked_24 : decode cX10_worked 24 = .ok (.istore 4, 2) := by decide +kernel
theorem dX10_worked_26 : decode cX10_worked 26 = .ok (.iload 4, 2) := by decide +kernel
theorem dX10_worked_28 : decode cX10_worked 28 = .ok (.sipush 20000, 3) := by decide +kernel
theorem dX10_worked_31 : decode cX10_worked 31 = .ok (.if_icmp .ge 39, 3) := by decide +kernel
theorem dX10_worked_34 : decode cX10_worked 34 = .ok (.aload_n 0, 1) := by decide +kernel
theorem dX10_worked_35 : decode cX10_worked 35 = .ok (.getfield 38, 3) := by decide +kernel
theorem dX10_worked_38 : decode cX10_worked 38 = .ok (.iload_n 2, 1) := by decide +kernel
theorem dX10_worked_39 : decode cX10_worked 39 = .ok (.iload 4, 2) := by decide +kernel
theorem dX10_worked_41 : decode cX10_worked 41 = .ok (.sipush 10000, 3) := by decide +kernel
theorem dX10_worked_44 : decode cX10_worked 44 = .ok (.if_icmp .ge 8, 3) := by decide +kernel
theorem dX10_worked_47 : decode cX10_worked 47 = .ok (.iload 4, 2) := by decide +kernel
theorem dX10_worked_49 : decode cX10_worked 49 = .ok (.goto 14, 3) := by decide +kernel
theorem dX10_worked_52 : decode cX10_worked 52 = .ok (.aload_n 0, 1) := by decide +kernel
theorem dX10_worked_53 : decode cX10_worked 53 = .ok (.getfield 35, 3) := by decide +kernel
theorem dX10_worked_56 : decode cX10_worked 56 = .ok (.iload 4, 2) := by decide +kernel
theorem dX10_worked_58 : decode cX10_worked 58 = .ok (.sipush 10000, 3) := by decide +kernel
theorem dX10_worked_61 : decode cX10_worked 61 = .ok (.isub, 1) := by decide +kernel
theorem dX10_worked_62 : decode cX10_worked 62 = .ok (.iaload, 1) := by decide +kernel
theorem dX10_worked_63 : decode cX10_worked 63 = .ok (.iastore, 1) := by decide +kernel
theorem dX10_worked_64 : decode cX10_worked 64 = .ok (.iinc 2 1, 3) := by decide +kernel
theorem dX10_worked_67 : decode cX10_worked 67 = .ok (.goto 68, 3) := by decide +kernel
theorem dX10_worked_70 : decode cX10_worked 70 = .ok (.iload 4, 2) := by decide +kernel
theorem dX10_worked_72 : decode cX10_worked 72 = .ok (.sipush 20010, 3) := by decide +kernel
theorem dX10_worked_75 : decode cX10_worked 75 = .ok (.if_icmp .ne 30, 3) := by decide +kernel
theorem dX10_worked_78 : decode cX10_worked 78 = .ok (.aload_n 0, 1) := by decide +kernel
theorem dX10_worked_79 : decode cX10_worked 79 = .ok (.getfield 38, 3) := by decide +kernel
theorem dX10_worked_82 : decode cX10_worked 82 = .ok (.iload_n 2, 1) := by decide +kernel
theorem dX10_worked_83 : decode cX10_worked 83 = .ok (.iconst 1, 1) := by decide +kernel
theorem dX10_worked_84 : decode cX10_worked 84 = .ok (.isub, 1) := by decide +kernel
theorem dX10_worked_85 : decode cX10_worked 85 = .ok (.aload_n 0, 1) := by decide +kernel
theorem dX10_worked_86 : decode cX10_worked 86 = .ok (.getfield 38, 3) := by decide +kernel
theorem dX10_worked_89 : decode cX10_worked 89 = .ok (.iload_n 2, 1) := by decide +kernel
theorem dX10_worked_90 : decode cX10_worked 90 = .ok (.iconst 1, 1) := by decide +kernel
theorem dX10_worked_91 : decode cX10_worked 91 = .ok (.isub, 1) := by decide +kernel
theorem dX10_worked_92 : decode cX10_worked 92 = .ok (.iaload, 1) := by decide +kernel
theorem dX10_worked_93 : decode cX10_worked 93 = .ok (.ifCond .ne 7, 3) := by decide +kernel
theorem dX10_worked_96 : decode cX10_worked 96 = .ok (.iconst 1, 1) := by decide +kernel
theorem dX10_worked_97 : decode cX10_worked 97 = .ok (.goto 4, 3) := by decide +kernel
theorem dX10_worked_100 : decode cX10_worked 100 = .ok (.iconst 0, 1) := by decide +kernel
theorem dX10_worked_101 : decode cX10_worked 101 = .ok (.iastore, 1) := by decide +kernel
theorem dX10_worked_102 : decode cX10_worked 102 = .ok (.goto 33, 3) := by decide +kernel
theorem dX10_worked_105 : decode cX10_worked 105 = .ok (.iinc 2 (-1), 3) := by decide +kernel
theorem dX10_worked_108 : decode cX10_worked 108 = .ok (.aload_n 0, 1) := by decide +kernel
theorem dX10_worked_109 : decode cX10_worked 109 = .ok (.getfield 38, 3) := by decide +kernel
theorem dX10_worked_112 : decode cX10_worked 112 = .ok (.iload_n 2, 1) := by decide +kernel
theorem dX10_worked_113 : decode cX10_worked 113 = .ok (.iconst 1, 1) := by decide +kernel
theorem dX10_worked_114 : decode cX10_worked 114 = .ok (.isub, 1) := by decide +kernel
theorem dX10_worked_115 : decode cX10_worked 115 = .ok (.iload 4, 2) := by decide +kernel
theorem dX10_worked_117 : decode cX10_worked 117 = .ok (.aload_n 0, 1) := by decide +kernel
theorem dX10_worked_118 : decode cX10_worked 118 = .ok (.getfield 38, 3) := by decide +kernel
theorem dX10_worked_121 : decode cX10_worked 121 = .ok (.iload_n 2, 1) := by decide +kernel
theorem dX10_worked_122 : decode cX10_worked 122 = .ok (.iconst 1, 1) := by decide +kernel
theorem dX10_worked_123 : decode cX10_worked 123 = .ok (.isub, 1) := by decide +kernel
theorem dX10_worked_124 : decode cX10_worked 124 = .ok (.iaload, 1) := by decide +kernel
theorem dX10_worked_125 : decode cX10_worked 125 = .ok (.aload_n 0, 1) := by decide +kernel
theorem dX10_worked_126 : decode cX10_worked 126 = .ok (.getfield 38, 3) := by decide +kernel
theorem dX10_worked_129 : decode cX10_worked 129 = .ok (.iload_n 2, 1) := by decide +kernel
theorem dX10_worked_130 : decode cX10_worked 130 = .ok (.iaload, 1) := by decide +kernel
theorem dX10_worked_131 : decode cX10_worked 131 = .ok (.invokestatic 226, 3) := by decide +kernel
theorem dX10_worked_134 : decode cX10_worked 134 = .ok (.iastore, 1) := by decide +kernel
theorem dX10_worked_135 : decode cX10_worked 135 = .ok (.iinc 3 1, 3) := by decide +kernel
theorem dX10_worked_138 : decode cX10_worked 138 = .ok (.goto (-134), 3) := by decide +kernel
theorem dX10_worked_141 : decode cX10_worked 141 = .ok (.aload_n 0, 1) := by decide +kernel
theorem dX10_worked_142 : decode cX10_worked 142 = .ok (.getfield 38, 3) := by decide +kernel
theorem dX10_worked_145 : decode cX10_worked 145 = .ok (.iconst 0, 1) := by decide +kernel
theorem dX10_worked_146 : decode cX10_worked 146 = .ok (.iaload, 1) := by decide +kernel
theorem dX10_worked_147 : decode cX10_worked 147 = .ok (.ireturn, 1) := by decide +kernel
theorem dX10_hasText_0 : decode cX10_hasText 0 = .ok (.aload_n 0, 1) := by decide +kernel
theorem dX10_hasText_1 : decode cX10_hasText 1 = .ok (.getfield 9, 3) := by decide +kernel
theorem dX10_hasText_4 : decode cX10_hasText 4 = .ok (.sipush 321, 3) := by decide +kernel
theorem dX10_hasText_7 : decode cX10_hasText 7 = .ok (.bipush 62, 2) := by decide +kernel
theorem dX10_hasText_9 : decode cX10_hasText 9 = .ok (.iload_n 1, 1) := by decide +kernel
theorem dX10_hasText_10 : decode cX10_hasText 10 = .ok (.imul, 1) := by decide +kernel
theorem dX10_hasText_11 : decode cX10_hasText 11 = .ok (.iadd, 1) := by decide +kernel
theorem dX10_hasText_12 : decode cX10_hasText 12 = .ok (.iaload, 1) := by decide +kernel
theorem dX10_hasText_13 : decode cX10_hasText 13 = .ok (.ifCond .le 7, 3) := by decide +kernel
theorem dX10_hasText_16 : decode cX10_hasText 16 = .ok (.iconst 1, 1) := by decide +kernel
theorem dX10_hasText_17 : decode cX10_hasText 17 = .ok (.goto 4, 3) := by decide +kernel
theorem dX10_hasText_20 : decode cX10_hasText 20 = .ok (.iconst 0, 1) := by decide +kernel
theorem dX10_hasText_21 : decode cX10_hasText 21 = .ok (.ireturn, 1) := by decide +kernel
theorem dX10_given_0 : decode cX10_given 0 = .ok (.aload_n 0, 1) := by decide +kernel
theorem dX10_given_1 : decode cX10_given 1 = .ok (.getfield 35, 3) := by decide +kernel
theorem dX10_given_4 : decode cX10_given 4 = .ok (.iconst 0, 1) := by decide +kernel
theorem dX10_given_5 : decode cX10_given 5 = .ok (.iload_n 2, 1) := by decide +kernel
theorem dX10_given_6 : decode cX10_given 6 = .ok (.iastore, 1) := by decide +kernel
theorem dX10_given_7 : decode cX10_given 7 = .ok (.aload_n 0, 1) := by decide +kernel
theorem dX10_given_8 : decode cX10_given 8 = .ok (.getfield 35, 3) := by decide +kernel
theorem dX10_given_11 : decode cX10_given 11 = .ok (.iconst 1, 1) := by decide +kernel
theorem dX10_given_12 : decode cX10_given 12 = .ok (.iload_n 3, 1) := by decide +kernel
theorem dX10_given_13 : decode cX10_given 13 = .ok (.iastore, 1) := by decide +kernel
theorem dX10_given_14 : decode cX10_given 14 = .ok (.aload_n 0, 1) := by decide +kernel
theorem dX10_given_15 : decode cX10_given 15 = .ok (.getfield 35, 3) := by decide +kernel
theorem dX10_given_18 : decode cX10_given 18 = .ok (.iconst 2, 1) := by decide +kernel
theorem dX10_given_19 : decode cX10_given 19 = .ok (.iload 4, 2) := by decide +kernel
theorem dX10_given_21 : decode cX10_given 21 = .ok (.iastore, 1) := by decide +kernel
theorem dX10_given_22 : decode cX10_given 22 = .ok (.aload_n 0, 1) := by decide +kernel
theorem dX10_given_23 : decode cX10_given 23 = .ok (.getfield 35, 3) := by decide +kernel
theorem dX10_given_26 : decode cX10_given 26 = .ok (.iconst 3, 1) := by decide +kernel
theorem dX10_given_27 : decode cX10_given 27 = .ok (.iload 5, 2) := by decide +kernel
theorem dX10_given_29 : decode cX10_given 29 = .ok (.iastore, 1) := by decide +kernel
theorem dX10_given_30 : decode cX10_given 30 = .ok (.aload_n 0, 1) := by decide +kernel
theorem dX10_given_31 : decode cX10_given 31 = .ok (.getfield 35, 3) := by decide +kernel
theorem dX10_given_34 : decode cX10_given 34 = .ok (.iconst 4, 1) := by decide +kernel
theorem dX10_given_35 : decode cX10_given 35 = .ok (.iload 6, 2) := by decide +kernel
theorem dX10_given_37 : decode cX10_given 37 = .ok (.iastore, 1) := by decide +kernel
theorem dX10_given_38 : decode cX10_given 38 = .ok (.aload_n 0, 1) := by decide +kernel
theorem dX10_given_39 : decode cX10_given 39 = .ok (.sipush 321, 3) := by decide +kernel
theorem dX10_given_42 : decode cX10_given 42 = .ok (.bipush 62, 2) := by decide +kernel
theorem dX10_given_44 : decode cX10_given 44 = .ok (.iload_n 1, 1) := by decide +kernel
theorem dX10_given_45 : decode cX10_given 45 = .ok (.imul, 1) := by decide +kernel
theorem dX10_given_46 : decode cX10_given 46 = .ok (.iadd, 1) := by decide +kernel
theorem dX10_given_47 : decode cX10_given 47 = .ok (.iconst 1, 1) := by decide +kernel
theorem dX10_given_48 : decode cX10_given 48 = .ok (.iadd, 1) := by decide +kernel
theorem dX10_given_49 : decode cX10_given 49 = .ok (.invokevirtual 229, 3) := by decide +kernel
theorem dX10_given_52 : decode cX10_given 52 = .ok (.ireturn, 1) := by decide +kernel
theorem dX10_bestHeap_0 : decode cX10_bestHeap 0 = .ok (.iconst (-1), 1) := by decide +kernel
theorem dX10_bestHeap_1 : decode cX10_bestHeap 1 = .ok (.istore_n 2, 1) := by decide +kernel
theorem dX10_bestHeap_2 : decode cX10_bestHeap 2 = .ok (.iconst (-1), 1) := by decide +kernel
theorem dX10_bestHeap_3 : decode cX10_bestHeap 3 = .ok (.istore_n 3, 1) := by decide +kernel
theorem dX10_bestHeap_4 : decode cX10_bestHeap 4 = .ok (.iconst 0, 1) := by decide +kernel
theorem dX10_bestHeap_5 : decode cX10_bestHeap 5 = .ok (.istore 4, 2) := by decide +kernel
theorem dX10_bestHeap_7 : decode cX10_bestHeap 7 = .ok (.iload 4, 2) := by decide +kernel
theorem dX10_bestHeap_9 : decode cX10_bestHeap 9 = .ok (.aload_n 0, 1) := by decide +kernel
theorem dX10_bestHeap_10 : decode cX10_bestHeap 10 = .ok (.getfield 9, 3) := by decide +kernel
theorem dX10_bestHeap_13 : decode cX10_bestHeap 13 = .ok (.iconst 1, 1) := by decide +kernel
theorem dX10_bestHeap_14 : decode cX10_bestHeap 14 = .ok (.iaload, 1) := by decide +kernel
theorem dX10_bestHeap_15 : decode cX10_bestHeap 15 = .ok (.if_icmp .ge 30, 3) := by decide +kernel
theorem dX10_bestHeap_18 : decode cX10_bestHeap 18 = .ok (.aload_n 0, 1) := by decide +kernel
theorem dX10_bestHeap_19 : decode cX10_bestHeap 19 = .ok (.iload_n 1, 1) := by decide +kernel
theorem dX10_bestHeap_20 : decode cX10_bestHeap 20 = .ok (.iload 4, 2) := by decide +kernel
theorem dX10_bestHeap_22 : decode cX10_bestHeap 22 = .ok (.invokevirtual 165, 3) := by decide +kernel
theorem dX10_bestHeap_25 : decode cX10_bestHeap 25 = .ok (.istore 5, 2) := by decide +kernel
theorem dX10_bestHeap_27 : decode cX10_bestHeap 27 = .ok (.iload 5, 2) := by decide +kernel
theorem dX10_bestHeap_29 : decode cX10_bestHeap 29 = .ok (.iload_n 3, 1) := by decide +kernel
theorem dX10_bestHeap_30 : decode cX10_bestHeap 30 = .ok (.if_icmp .le 9, 3) := by decide +kernel
theorem dX10_bestHeap_33 : decode cX10_bestHeap 33 = .ok (.iload 5, 2) := by decide +kernel
theorem dX10_bestHeap_35 : decode cX10_bestHeap 35 = .ok (.istore_n 3, 1) := by decide +kernel
theorem dX10_bestHeap_36 : decode cX10_bestHeap 36 = .ok (.iload 4, 2) := by decide +kernel
theorem dX10_bestHeap_38 : decode cX10_bestHeap 38 = .ok (.istore_n 2, 1) := by decide +kernel
theorem dX10_bestHeap_39 : decode cX10_bestHeap 39 = .ok (.iinc 4 1, 3) := by decide +kernel
theorem dX10_bestHeap_42 : decode cX10_bestHeap 42 = .ok (.goto (-35), 3) := by decide +kernel
theorem dX10_bestHeap_45 : decode cX10_bestHeap 45 = .ok (.iload_n 2, 1) := by decide +kernel
theorem dX10_bestHeap_46 : decode cX10_bestHeap 46 = .ok (.ireturn, 1) := by decide +kernel
theorem dX10_drawn_0 : decode cX10_drawn 0 = .ok (.aload_n 0, 1) := by decide +kernel
theorem dX10_drawn_1 : decode cX10_drawn 1 = .ok (.getfield 9, 3) := by decide +kernel
theorem dX10_drawn_4 : decode cX10_drawn 4 = .ok (.bipush 6, 2) := by decide +kernel
theorem dX10_drawn_6 : decode cX10_drawn 6 = .ok (.aload_n 0, 1) := by decide +kernel
theorem dX10_drawn_7 : decode cX10_drawn 7 = .ok (.getfield 9, 3) := by decide +kernel
theorem dX10_drawn_10 : decode cX10_drawn 10 = .ok (.bipush 6, 2) := by decide +kernel
theorem dX10_drawn_12 : decode cX10_drawn 12 = .ok (.iaload, 1) := by decide +kernel
theorem dX10_drawn_13 : decode cX10_drawn 13 = .ok (.ldc 232, 2) := by decide +kernel
theorem dX10_drawn_15 : decode cX10_drawn 15 = .ok (.imul, 1) := by decide +kernel
theorem dX10_drawn_16 : decode cX10_drawn 16 = .ok (.sipush 12345, 3) := by decide +kernel
theorem dX10_drawn_19 : decode cX10_drawn 19 = .ok (.iadd, 1) := by decide +kernel
theorem dX10_drawn_20 : decode cX10_drawn 20 = .ok (.iastore, 1) := by decide +kernel
theorem dX10_drawn_21 : decode cX10_drawn 21 = .ok (.aload_n 0, 1) := by decide +kernel
theorem dX10_drawn_22 : decode cX10_drawn 22 = .ok (.getfield 9, 3) := by decide +kernel
theorem dX10_drawn_25 : decode cX10_drawn 25 = .ok (.bipush 6, 2) := by decide +kernel
theorem dX10_drawn_27 : decode cX10_drawn 27 = .ok (.iaload, 1) := by decide +kernel
theorem dX10_drawn_28 : decode cX10_drawn 28 = .ok (.bipush 8, 2) := by decide +kernel
theorem dX10_drawn_30 : decode cX10_drawn 30 = .ok (.iushr, 1) := by decide +kernel
theorem dX10_drawn_31 : decode cX10_drawn 31 = .ok (.iload_n 1, 1) := by decide +kernel
theorem dX10_drawn_32 : decode cX10_drawn 32 = .ok (.irem, 1) := by decide +kernel
theorem dX10_drawn_33 : decode cX10_drawn 33 = .ok (.ireturn, 1) := by decide +kernel
theorem dX10_isLetIn_0 : decode cX10_isLetIn 0 = .ok (.aload_n 0, 1) := by decide +kernel
theorem dX10_isLetIn_1 : decode cX10_isLetIn 1 = .ok (.iload_n 1, 1) := by decide +kernel
theorem dX10_isLetIn_2 : decode cX10_isLetIn 2 = .ok (.invokevirtual 233, 3) := by decide +kernel
theorem dX10_isLetIn_5 : decode cX10_isLetIn 5 = .ok (.istore_n 2, 1) := by decide +kernel
theorem dX10_isLetIn_6 : decode cX10_isLetIn 6 = .ok (.iload_n 2, 1) := by decide +kernel
theorem dX10_isLetIn_7 : decode cX10_isLetIn 7 = .ok (.ifCond .ge 5, 3) := by decide +kernel
theorem dX10_isLetIn_10 : decode cX10_isLetIn 10 = .ok (.iconst 0, 1) := by decide +kernel
theorem dX10_isLetIn_11 : decode cX10_isLetIn 11 = .ok (.ireturn, 1) := by decide +kernel
theorem dX10_isLetIn_12 : decode cX10_isLetIn 12 = .ok (.sipush 187, 3) := by decide +kernel
theorem dX10_isLetIn_15 : decode cX10_isLetIn 15 = .ok (.iconst 5, 1) := by decide +kernel
theorem dX10_isLetIn_16 : decode cX10_isLetIn 16 = .ok (.iload_n 1, 1) := by decide +kernel
theorem dX10_isLetIn_17 : decode cX10_isLetIn 17 = .ok (.imul, 1) := by decide +kernel
theorem dX10_isLetIn_18 : decode cX10_isLetIn 18 = .ok (.iadd, 1) := by decide +kernel
theorem dX10_isLetIn_19 : decode cX10_isLetIn 19 = .ok (.iload_n 2, 1) := by decide +kernel
theorem dX10_isLetIn_20 : decode cX10_isLetIn 20 = .ok (.iadd, 1) := by decide +kernel
theorem dX10_isLetIn_21 : decode cX10_isLetIn 21 = .ok (.istore_n 3, 1) := by decide +kernel
theorem dX10_isLetIn_22 : decode cX10_isLetIn 22 = .ok (.aload_n 0, 1) := by decide +kernel
theorem dX10_isLetIn_23 : decode cX10_isLetIn 23 = .ok (.getfield 9, 3) := by decide +kernel
theorem dX10_isLetIn_26 : decode cX10_isLetIn 26 = .ok (.iload_n 3, 1) := by decide +kernel
theorem dX10_isLetIn_27 : decode cX10_isLetIn 27 = .ok (.bipush 99, 2) := by decide +kernel
theorem dX10_isLetIn_29 : decode cX10_isLetIn 29 = .ok (.aload_n 0, 1) := by decide +kernel
theorem dX10_isLetIn_30 : decode cX10_isLetIn 30 = .ok (.getfield 9, 3) := by decide +kernel
theorem dX10_isLetIn_33 : decode cX10_isLetIn 33 = .ok (.iload_n 3, 1) := by decide +kernel
theorem dX10_isLetIn_34 : decode cX10_isLetIn 34 = .ok (.iaload, 1) := by decide +kernel
theorem dX10_isLetIn_35 : decode cX10_isLetIn 35 = .ok (.iconst 1, 1) := by decide +kernel
theorem dX10_isLetIn_36 : decode cX10_isLetIn 36 = .ok (.iadd, 1) := by decide +kernel
theorem dX10_isLetIn_37 : decode cX10_isLetIn 37 = .ok (.invokestatic 63, 3) := by decide +kernel
theorem dX10_isLetIn_40 : decode cX10_isLetIn 40 = .ok (.iastore, 1) := by decide +kernel
theorem dX10_isLetIn_41 : decode cX10_isLetIn 41 = .ok (.aload_n 0, 1) := by decide +kernel
theorem dX10_isLetIn_42 : decode cX10_isLetIn 42 = .ok (.bipush 100, 2) := by decide +kernel
theorem dX10_isLetIn_44 : decode cX10_isLetIn 44 = .ok (.invokevirtual 236, 3) := by decide +kernel
theorem dX10_isLetIn_47 : decode cX10_isLetIn 47 = .ok (.aload_n 0, 1) := by decide +kernel
theorem dX10_isLetIn_48 : decode cX10_isLetIn 48 = .ok (.iload_n 1, 1) := by decide +kernel
theorem dX10_isLetIn_49 : decode cX10_isLetIn 49 = .ok (.iload_n 2, 1) := by decide +kernel
theorem dX10_isLetIn_50 : decode cX10_isLetIn 50 = .ok (.invokevirtual 165, 3) := by decide +kernel
theorem dX10_isLetIn_53 : decode cX10_isLetIn 53 = .ok (.if_icmp .lt 5, 3) := by decide +kernel
theorem dX10_isLetIn_56 : decode cX10_isLetIn 56 = .ok (.iconst 0, 1) := by decide +kernel
theorem dX10_isLetIn_57 : decode cX10_isLetIn 57 = .ok (.ireturn, 1) := by decide +kernel
theorem dX10_isLetIn_58 : decode cX10_isLetIn 58 = .ok (.aload_n 0, 1) := by decide +kernel
theorem dX10_isLetIn_59 : decode cX10_isLetIn 59 = .ok (.iload_n 1, 1) := by decide +kernel
theorem dX10_isLetIn_60 : decode cX10_isLetIn 60 = .ok (.iload_n 2, 1) := by decide +kernel
theorem dX10_isLetIn_61 : decode cX10_isLetIn 61 = .ok (.invokevirtual 123, 3) := by decide +kernel
theorem dX10_isLetIn_64 : decode cX10_isLetIn 64 = .ok (.iconst 1, 1) := by decide +kernel
theorem dX10_isLetIn_65 : decode cX10_isLetIn 65 = .ok (.ireturn, 1) := by decide +kernel
theorem dX10_fallsApart_0 : decode cX10_fallsApart 0 = .ok (.aload_n 0, 1) := by decide +kernel
theorem dX10_fallsApart_1 : decode cX10_fallsApart 1 = .ok (.iload_n 1, 1) := by decide +kernel
theorem dX10_fallsApart_2 : decode cX10_fallsApart 2 = .ok (.invokevirtual 112, 3) := by decide +kernel
theorem dX10_fallsApart_5 : decode cX10_fallsApart 5 = .ok (.istore_n 2, 1) := by decide +kernel
theorem dX10_fallsApart_6 : decode cX10_fallsApart 6 = .ok (.iconst 0, 1) := by decide +kernel
theorem dX10_fallsApart_7 : decode cX10_fallsApart 7 = .ok (.istore_n 3, 1) := by decide +kernel
theorem dX10_fallsApart_8 : decode cX10_fallsApart 8 = .ok (.iload_n 3, 1) := by decide +kernel
theorem dX10_fallsApart_9 : decode cX10_fallsApart 9 = .ok (.aload_n 0, 1) := by decide +kernel
theorem dX10_fallsApart_10 : decode cX10_fallsApart 10 = .ok (.getfield 9, 3) := by decide +kernel
theorem dX10_fallsApart_13 : decode cX10_fallsApart 13 = .ok (.iconst 0, 1) := by decide +kernel
theorem dX10_fallsApart_14 : decode cX10_fallsApart 14 = .ok (.iaload, 1) := by decide +kernel
theorem dX10_fallsApart_15 : decode cX10_fallsApart 15 = .ok (.if_icmp .ge 23, 3) := by decide +kernel
theorem dX10_fallsApart_18 : decode cX10_fallsApart 18 = .ok (.iload_n 2, 1) := by decide +kernel
theorem dX10_fallsApart_19 : decode cX10_fallsApart 19 = .ok (.iload_n 3, 1) := by decide +kernel
theorem dX10_fallsApart_20 : decode cX10_fallsApart 20 = .ok (.invokestatic 127, 3) := by decide +kernel
theorem dX10_fallsApart_23 : decode cX10_fallsApart 23 = .ok (.ifCond .eq 9, 3) := by decide +kernel
theorem dX10_fallsApart_26 : decode cX10_fallsApart 26 = .ok (.aload_n 0, 1) := by decide +kernel
theorem dX10_fallsApart_27 : decode cX10_fallsApart 27 = .ok (.iload_n 3, 1) := by decide +kernel
theorem dX10_fallsApart_28 : decode cX10_fallsApart 28 = .ok (.iconst (-1), 1) := by decide +kernel
theorem dX10_fallsApart_29 : decode cX10_fallsApart 29 = .ok (.invokevirtual 123, 3) := by decide +kernel
theorem dX10_fallsApart_32 : decode cX10_fallsApart 32 = .ok (.iinc 3 1, 3) := by decide +kernel
theorem dX10_fallsApart_35 : decode cX10_fallsApart 35 = .ok (.goto (-27), 3) := by decide +kernel
theorem dX10_fallsApart_38 : decode cX10_fallsApart 38 = .ok (.aload_n 0, 1) := by decide +kernel
theorem dX10_fallsApart_39 : decode cX10_fallsApart 39 = .ok (.getfield 9, 3) := by decide +kernel
theorem dX10_fallsApart_42 : decode cX10_fallsApart 42 = .ok (.sipush 167, 3) := by decide +kernel
theorem dX10_fallsApart_45 : decode cX10_fallsApart 45 = .ok (.iconst 4, 1) := by decide +kernel
theorem dX10_fallsApart_46 : decode cX10_fallsApart 46 = .ok (.iload_n 1, 1) := by decide +kernel
theorem dX10_fallsApart_47 : decode cX10_fallsApart 47 = .ok (.imul, 1) := by decide +kernel
theorem dX10_fallsApart_48 : decode cX10_fallsApart 48 = .ok (.iadd, 1) := by decide +kernel
theorem dX10_fallsApart_49 : decode cX10_fallsApart 49 = .ok (.iconst 3, 1) := by decide +kernel
theorem dX10_fallsApart_50 : decode cX10_fallsApart 50 = .ok (.iadd, 1) := by decide +kernel
theorem dX10_fallsApart_51 : decode cX10_fallsApart 51 = .ok (.iconst 0, 1) := by decide +kernel
theorem dX10_fallsApart_52 : decode cX10_fallsApart 52 = .ok (.iastore, 1) := by decide +kernel
theorem dX10_fallsApart_53 : decode cX10_fallsApart 53 = .ok (.return_, 1) := by decide +kernel
theorem dX10_minute_0 : decode cX10_minute 0 = .ok (.iconst 0, 1) := by decide +kernel
theorem dX10_minute_1 : decode cX10_minute 1 = .ok (.istore_n 1, 1) := by decide +kernel
theorem dX10_minute_2 : decode cX10_minute 2 = .ok (.iload_n 1, 1) := by decide +kernel
theorem dX10_minute_3 : decode cX10_minute 3 = .ok (.aload_n 0, 1) := by decide +kernel
theorem dX10_minute_4 : decode cX10_minute 4 = .ok (.getfield 9, 3) := by decide +kernel
theorem dX10_minute_7 : decode cX10_minute 7 = .ok (.iconst 0, 1) := by decide +kernel
theorem dX10_minute_8 : decode cX10_minute 8 = .ok (.iaload, 1) := by decide +kernel
theorem dX10_minute_9 : decode cX10_minute 9 = .ok (.if_icmp .ge 53, 3) := by decide +kernel
theorem dX10_minute_12 : decode cX10_minute 12 = .ok (.aload_n 0, 1) := by decide +kernel
theorem dX10_minute_13 : decode cX10_minute 13 = .ok (.iload_n 1, 1) := by decide +kernel
theorem dX10_minute_14 : decode cX10_minute 14 = .ok (.iconst 4, 1) := by decide +kernel
theorem dX10_minute_15 : decode cX10_minute 15 = .ok (.invokevirtual 86, 3) := by decide +kernel
theorem dX10_minute_18 : decode cX10_minute 18 = .ok (.ifCond .ge 38, 3) := by decide +kernel
theorem dX10_minute_21 : decode cX10_minute 21 = .ok (.aload_n 0, 1) := by decide +kernel
theorem dX10_minute_22 : decode cX10_minute 22 = .ok (.iload_n 1, 1) := by decide +kernel
theorem dX10_minute_23 : decode cX10_minute 23 = .ok (.invokevirtual 239, 3) := by decide +kernel
theorem dX10_minute_26 : decode cX10_minute 26 = .ok (.ifCond .ne 30, 3) := by decide +kernel
theorem dX10_minute_29 : decode cX10_minute 29 = .ok (.aload_n 0, 1) := by decide +kernel
theorem dX10_minute_30 : decode cX10_minute 30 = .ok (.getfield 9, 3) := by decide +kernel
theorem dX10_minute_33 : decode cX10_minute 33 = .ok (.bipush 7, 2) := by decide +kernel
theorem dX10_minute_35 : decode cX10_minute 35 = .ok (.bipush 6, 2) := by decide +kernel
theorem dX10_minute_37 : decode cX10_minute 37 = .ok (.iload_n 1, 1) := by decide +kernel
theorem dX10_minute_38 : decode cX10_minute 38 = .ok (.imul, 1) := by decide +kernel
theorem dX10_minute_39 : decode cX10_minute 39 = .ok (.iadd, 1) := by decide +kernel
theorem dX10_minute_40 : decode cX10_minute 40 = .ok (.iconst 5, 1) := by decide +kernel
theorem dX10_minute_41 : decode cX10_minute 41 = .ok (.iadd, 1) := by decide +kernel
theorem dX10_minute_42 : decode cX10_minute 42 = .ok (.ldc 242, 2) := by decide +kernel
theorem dX10_minute_44 : decode cX10_minute 44 = .ok (.aload_n 0, 1) := by decide +kernel
theorem dX10_minute_45 : decode cX10_minute 45 = .ok (.iload_n 1, 1) := by decide +kernel
theorem dX10_minute_46 : decode cX10_minute 46 = .ok (.iconst 5, 1) := by decide +kernel
theorem dX10_minute_47 : decode cX10_minute 47 = .ok (.invokevirtual 86, 3) := by decide +kernel
theorem dX10_minute_50 : decode cX10_minute 50 = .ok (.iconst 1, 1) := by decide +kernel
theorem dX10_minute_51 : decode cX10_minute 51 = .ok (.iadd, 1) := by decide +kernel
theorem dX10_minute_52 : decode cX10_minute 52 = .ok (.invokestatic 63, 3) := by decide +kernel
theorem dX10_minute_55 : decode cX10_minute 55 = .ok (.iastore, 1) := by decide +kernel
theorem dX10_minute_56 : decode cX10_minute 56 = .ok (.iinc 1 1, 3) := by decide +kernel
theorem dX10_minute_59 : decode cX10_minute 59 = .ok (.goto (-57), 3) := by decide +kernel
theorem dX10_minute_62 : decode cX10_minute 62 = .ok (.iconst 0, 1) := by decide +kernel
theorem dX10_minute_63 : decode cX10_minute 63 = .ok (.istore_n 1, 1) := by decide +kernel
theorem dX10_minute_64 : decode cX10_minute 64 = .ok (.iload_n 1, 1) := by decide +kernel
theorem dX10_minute_65 : decode cX10_minute 65 = .ok (.aload_n 0, 1) := by decide +kernel
theorem dX10_minute_66 : decode cX10_minute 66 = .ok (.getfield 9, 3) := by decide +kernel
theorem dX10_minute_69 : decode cX10_minute 69 = .ok (.iconst 1, 1) := by decide +kernel
theorem dX10_minute_70 : decode cX10_minute 70 = .ok (.iaload, 1) := by decide +kernel
theorem dX10_minute_71 : decode cX10_minute 71 = .ok (.if_icmp .ge 60, 3) := by decide +kernel
theorem dX10_minute_74 : decode cX10_minute 74 = .ok (.sipush 167, 3) := by decide +kernel
theorem dX10_minute_77 : decode cX10_minute 77 = .ok (.iconst 4, 1) := by decide +kernel
theorem dX10_minute_78 : decode cX10_minute 78 = .ok (.iload_n 1, 1) := by decide +kernel
theorem dX10_minute_79 : decode cX10_minute 79 = .ok (.imul, 1) := by decide +kernel
theorem dX10_minute_80 : decode cX10_minute 80 = .ok (.iadd, 1) := by decide +kernel
theorem dX10_minute_81 : decode cX10_minute 81 = .ok (.iconst 3, 1) := by decide +kernel
theorem dX10_minute_82 : decode cX10_minute 82 = .ok (.iadd, 1) := by decide +kernel
theorem dX10_minute_83 : decode cX10_minute 83 = .ok (.istore_n 2, 1) := by decide +kernel
theorem dX10_minute_84 : decode cX10_minute 84 = .ok (.aload_n 0, 1) := by decide +kernel
theorem dX10_minute_85 : decode cX10_minute 85 = .ok (.getfield 9, 3) := by decide +kernel
theorem dX10_minute_88 : decode cX10_minute 88 = .ok (.iload_n 2, 1) := by decide +kernel
theorem dX10_minute_89 : decode cX10_minute 89 = .ok (.aload_n 0, 1) := by decide +kernel
theorem dX10_minute_90 : decode cX10_minute 90 = .ok (.iload_n 1, 1) := by decide +kernel
theorem dX10_minute_91 : decode cX10_minute 91 = .ok (.invokevirtual 118, 3) := by decide +kernel
theorem dX10_minute_94 : decode cX10_minute 94 = .ok (.ifCond .eq 14, 3) := by decide +kernel
theorem dX10_minute_97 : decode cX10_minute 97 = .ok (.aload_n 0, 1) := by decide +kernel
theorem dX10_minute_98 : decode cX10_minute 98 = .ok (.getfield 9, 3) := by decide +kernel
theorem dX10_minute_101 : decode cX10_minute 101 = .ok (.iload_n 2, 1) := by decide +kernel
theorem dX10_minute_102 : decode cX10_minute 102 = .ok (.iaload, 1) := by decide +kernel
theorem dX10_minute_103 : decode cX10_minute 103 = .ok (.iconst 1, 1) := by decide +kernel
theorem dX10_minute_104 : decode cX10_minute 104 = .ok (.iadd, 1) := by decide +kernel
theorem dX10_minute_105 : decode cX10_minute 105 = .ok (.goto 4, 3) := by decide +kernel
theorem dX10_minute_108 : decode cX10_minute 108 = .ok (.iconst 0, 1) := by decide +kernel
theorem dX10_minute_109 : decode cX10_minute 109 = .ok (.iastore, 1) := by decide +kernel
theorem dX10_minute_110 : decode cX10_minute 110 = .ok (.aload_n 0, 1) := by decide +kernel
theorem dX10_minute_111 : decode cX10_minute 111 = .ok (.getfield 9, 3) := by decide +kernel
theorem dX10_minute_114 : decode cX10_minute 114 = .ok (.iload_n 2, 1) := by decide +kernel
theorem dX10_minute_115 : decode cX10_minute 115 = .ok (.iaload, 1) := by decide +kernel
theorem dX10_minute_116 : decode cX10_minute 116 = .ok (.iconst 5, 1) := by decide +kernel
theorem dX10_minute_117 : decode cX10_minute 117 = .ok (.if_icmp .ne 8, 3) := by decide +kernel
theorem dX10_minute_120 : decode cX10_minute 120 = .ok (.aload_n 0, 1) := by decide +kernel
theorem dX10_minute_121 : decode cX10_minute 121 = .ok (.iload_n 1, 1) := by decide +kernel
theorem dX10_minute_122 : decode cX10_minute 122 = .ok (.invokevirtual 243, 3) := by decide +kernel
theorem dX10_minute_125 : decode cX10_minute 125 = .ok (.iinc 1 1, 3) := by decide +kernel
theorem dX10_minute_128 : decode cX10_minute 128 = .ok (.goto (-64), 3) := by decide +kernel
theorem dX10_minute_131 : decode cX10_minute 131 = .ok (.aload_n 0, 1) := by decide +kernel
theorem dX10_minute_132 : decode cX10_minute 132 = .ok (.getfield 9, 3) := by decide +kernel
theorem dX10_minute_135 : decode cX10_minute 135 = .ok (.iconst 2, 1) := by decide +kernel
theorem dX10_minute_136 : decode cX10_minute 136 = .ok (.dup2, 1) := by decide +kernel
theorem dX10_minute_137 : decode cX10_minute 137 = .ok (.iaload, 1) := by decide +kernel
theorem dX10_minute_138 : decode cX10_minute 138 = .ok (.iconst 1, 1) := by decide +kernel
theorem dX10_minute_139 : decode cX10_minute 139 = .ok (.iadd, 1) := by decide +kernel
theorem dX10_minute_140 : decode cX10_minute 140 = .ok (.iastore, 1) := by decide +kernel
theorem dX10_minute_141 : decode cX10_minute 141 = .ok (.return_, 1) := by decide +kernel
theorem dX10_minutesGo_0 : decode cX10_minutesGo 0 = .ok (.iconst 0, 1) := by decide +kernel
theorem dX10_minutesGo_1 : decode cX10_minutesGo 1 = .ok (.istore_n 2, 1) := by decide +kernel
theorem dX10_minutesGo_2 : decode cX10_minutesGo 2 = .ok (.iload_n 2, 1) := by decide +kernel
theorem dX10_minutesGo_3 : decode cX10_minutesGo 3 = .ok (.iload_n 1, 1) := by decide +kernel
theorem dX10_minutesGo_4 : decode cX10_minutesGo 4 = .ok (.if_icmp .ge 13, 3) := by decide +kernel
theorem dX10_minutesGo_7 : decode cX10_minutesGo 7 = .ok (.aload_n 0, 1) := by decide +kernel
theorem dX10_minutesGo_8 : decode cX10_minutesGo 8 = .ok (.invokevirtual 246, 3) := by decide +kernel
theorem dX10_minutesGo_11 : decode cX10_minutesGo 11 = .ok (.iinc 2 1, 3) := by decide +kernel
theorem dX10_minutesGo_14 : decode cX10_minutesGo 14 = .ok (.goto (-12), 3) := by decide +kernel
theorem dX10_minutesGo_17 : decode cX10_minutesGo 17 = .ok (.return_, 1) := by decide +kernel
theorem dX10_sorrowNow_0 : decode cX10_sorrowNow 0 = .ok (.iconst 0, 1) := by decide +kernel
theorem dX10_sorrowNow_1 : decode cX10_sorrowNow 1 = .ok (.istore_n 1, 1) := by decide +kernel
theorem dX10_sorrowNow_2 : decode cX10_sorrowNow 2 = .ok (.iconst 0, 1) := by decide +kernel
theorem dX10_sorrowNow_3 : decode cX10_sorrowNow 3 = .ok (.istore_n 2, 1) := by decide +kernel
theorem dX10_sorrowNow_4 : decode cX10_sorrowNow 4 = .ok (.iload_n 2, 1) := by decide +kernel
theorem dX10_sorrowNow_5 : decode cX10_sorrowNow 5 = .ok (.aload_n 0, 1) := by decide +kernel
theorem dX10_sorrowNow_6 : decode cX10_sorrowNow 6 = .ok (.getfield 9, 3) := by decide +kernel
theorem dX10_sorrowNow_9 : decode cX10_sorrowNow 9 = .ok (.iconst 0, 1) := by decide +kernel
theorem dX10_sorrowNow_10 : decode cX10_sorrowNow 10 = .ok (.iaload, 1) := by decide +kernel
theorem dX10_sorrowNow_11 : decode cX10_sorrowNow 11 = .ok (.if_icmp .ge 32, 3) := by decide +kernel
theorem dX10_sorrowNow_14 : decode cX10_sorrowNow 14 = .ok (.iload_n 1, 1) := by decide +kernel
theorem dX10_sorrowNow_15 : decode cX10_sorrowNow 15 = .ok (.aload_n 0, 1) := by decide +kernel
theorem dX10_sorrowNow_16 : decode cX10_sorrowNow 16 = .ok (.iload_n 2, 1) := by decide +kernel
theorem dX10_sorrowNow_17 : decode cX10_sorrowNow 17 = .ok (.iconst 3, 1) := by decide +kernel
theorem dX10_sorrowNow_18 : decode cX10_sorrowNow 18 = .ok (.invokevirtual 86, 3) := by decide +kernel
theorem dX10_sorrowNow_21 : decode cX10_sorrowNow 21 = .ok (.iconst 1, 1) := by decide +kernel
theorem dX10_sorrowNow_22 : decode cX10_sorrowNow 22 = .ok (.if_icmp .ne 12, 3) := by decide +kernel
theorem dX10_sorrowNow_25 : decode cX10_sorrowNow 25 = .ok (.aload_n 0, 1) := by decide +kernel
theorem dX10_sorrowNow_26 : decode cX10_sorrowNow 26 = .ok (.iload_n 2, 1) := by decide +kernel
theorem dX10_sorrowNow_27 : decode cX10_sorrowNow 27 = .ok (.iconst 5, 1) := by decide +kernel
theorem dX10_sorrowNow_28 : decode cX10_sorrowNow 28 = .ok (.invokevirtual 86, 3) := by decide +kernel
theorem dX10_sorrowNow_31 : decode cX10_sorrowNow 31 = .ok (.goto 4, 3) := by decide +kernel
theorem dX10_sorrowNow_34 : decode cX10_sorrowNow 34 = .ok (.iconst 0, 1) := by decide +kernel
theorem dX10_sorrowNow_35 : decode cX10_sorrowNow 35 = .ok (.iadd, 1) := by decide +kernel
theorem dX10_sorrowNow_36 : decode cX10_sorrowNow 36 = .ok (.istore_n 1, 1) := by decide +kernel
theorem dX10_sorrowNow_37 : decode cX10_sorrowNow 37 = .ok (.iinc 2 1, 3) := by decide +kernel
theorem dX10_sorrowNow_40 : decode cX10_sorrowNow 40 = .ok (.goto (-36), 3) := by decide +kernel
theorem dX10_sorrowNow_43 : decode cX10_sorrowNow 43 = .ok (.iload_n 1, 1) := by decide +kernel
theorem dX10_sorrowNow_44 : decode cX10_sorrowNow 44 = .ok (.ireturn, 1) := by decide +kernel
theorem dX10_minutes_0 : decode cX10_minutes 0 = .ok (.iload_n 1, 1) := by decide +kernel
theorem dX10_minutes_1 : decode cX10_minutes 1 = .ok (.iconst 1, 1) := by decide +kernel
theorem dX10_minutes_2 : decode cX10_minutes 2 = .ok (.bipush 60, 2) := by decide +kernel
theorem dX10_minutes_4 : decode cX10_minutes 4 = .ok (.invokestatic 72, 3) := by decide +kernel
theorem dX10_minutes_7 : decode cX10_minutes 7 = .ok (.ifCond .ne 10, 3) := by decide +kernel
theorem dX10_minutes_10 : decode cX10_minutes 10 = .ok (.aload_n 0, 1) := by decide +kernel
theorem dX10_minutes_11 : decode cX10_minutes 11 = .ok (.ldc 80, 2) := by decide +kernel
theorem dX10_minutes_13 : decode cX10_minutes 13 = .ok (.invokevirtual 81, 3) := by decide +kernel
theorem dX10_minutes_16 : decode cX10_minutes 16 = .ok (.ireturn, 1) := by decide +kernel
theorem dX10_minutes_17 : decode cX10_minutes 17 = .ok (.aload_n 0, 1) := by decide +kernel
theorem dX10_minutes_18 : decode cX10_minutes 18 = .ok (.getfield 9, 3) := by decide +kernel
theorem dX10_minutes_21 : decode cX10_minutes 21 = .ok (.iconst 2, 1) := by decide +kernel
theorem dX10_minutes_22 : decode cX10_minutes 22 = .ok (.iaload, 1) := by decide +kernel
theorem dX10_minutes_23 : decode cX10_minutes 23 = .ok (.iload_n 1, 1) := by decide +kernel
theorem dX10_minutes_24 : decode cX10_minutes 24 = .ok (.iadd, 1) := by decide +kernel
theorem dX10_minutes_25 : decode cX10_minutes 25 = .ok (.ldc 242, 2) := by decide +kernel
theorem dX10_minutes_27 : decode cX10_minutes 27 = .ok (.if_icmp .le 10, 3) := by decide +kernel
theorem dX10_minutes_30 : decode cX10_minutes 30 = .ok (.aload_n 0, 1) := by decide +kernel
theorem dX10_minutes_31 : decode cX10_minutes 31 = .ok (.ldc 122, 2) := by decide +kernel
theorem dX10_minutes_33 : decode cX10_minutes 33 = .ok (.invokevirtual 81, 3) := by decide +kernel
theorem dX10_minutes_36 : decode cX10_minutes 36 = .ok (.ireturn, 1) := by decide +kernel
theorem dX10_minutes_37 : decode cX10_minutes 37 = .ok (.aload_n 0, 1) := by decide +kernel
theorem dX10_minutes_38 : decode cX10_minutes 38 = .ok (.iload_n 1, 1) := by decide +kernel
theorem dX10_minutes_39 : decode cX10_minutes 39 = .ok (.invokevirtual 249, 3) := by decide +kernel
theorem dX10_minutes_42 : decode cX10_minutes 42 = .ok (.aload_n 0, 1) := by decide +kernel
theorem dX10_minutes_43 : decode cX10_minutes 43 = .ok (.invokevirtual 252, 3) := by decide +kernel
theorem dX10_minutes_46 : decode cX10_minutes 46 = .ok (.ireturn, 1) := by decide +kernel
theorem dX10_movesTo_0 : decode cX10_movesTo 0 = .ok (.aload_n 0, 1) := by decide +kernel
theorem dX10_movesTo_1 : decode cX10_movesTo 1 = .ok (.iload_n 1, 1) := by decide +kernel
theorem dX10_movesTo_2 : decode cX10_movesTo 2 = .ok (.iload_n 2, 1) := by decide +kernel
theorem dX10_movesTo_3 : decode cX10_movesTo 3 = .ok (.invokevirtual 130, 3) := by decide +kernel
theorem dX10_movesTo_6 : decode cX10_movesTo 6 = .ok (.istore_n 3, 1) := by decide +kernel
theorem dX10_movesTo_7 : decode cX10_movesTo 7 = .ok (.aload_n 0, 1) := by decide +kernel
theorem dX10_movesTo_8 : decode cX10_movesTo 8 = .ok (.iload_n 2, 1) := by decide +kernel
theorem dX10_movesTo_9 : decode cX10_movesTo 9 = .ok (.iload_n 1, 1) := by decide +kernel
theorem dX10_movesTo_10 : decode cX10_movesTo 10 = .ok (.invokevirtual 130, 3) := by decide +kernel
theorem dX10_movesTo_13 : decode cX10_movesTo 13 = .ok (.istore 4, 2) := by decide +kernel
theorem dX10_movesTo_15 : decode cX10_movesTo 15 = .ok (.iconst 0, 1) := by decide +kernel
theorem dX10_movesTo_16 : decode cX10_movesTo 16 = .ok (.istore 5, 2) := by decide +kernel
theorem dX10_movesTo_18 : decode cX10_movesTo 18 = .ok (.iconst 0, 1) := by decide +kernel
theorem dX10_movesTo_19 : decode cX10_movesTo 19 = .ok (.istore 6, 2) := by decide +kernel
theorem dX10_movesTo_21 : decode cX10_movesTo 21 = .ok (.iload 6, 2) := by decide +kernel
theorem dX10_movesTo_23 : decode cX10_movesTo 23 = .ok (.aload_n 0, 1) := by decide +kernel
theorem dX10_movesTo_24 : decode cX10_movesTo 24 = .ok (.getfield 9, 3) := by decide +kernel
theorem dX10_movesTo_27 : decode cX10_movesTo 27 = .ok (.iconst 0, 1) := by decide +kernel
theorem dX10_movesTo_28 : decode cX10_movesTo 28 = .ok (.iaload, 1) := by decide +kernel
theorem dX10_movesTo_29 : decode cX10_movesTo 29 = .ok (.if_icmp .ge 55, 3) := by decide +kernel
theorem dX10_movesTo_32 : decode cX10_movesTo 32 = .ok (.iload 5, 2) := by decide +kernel
theorem dX10_movesTo_34 : decode cX10_movesTo 34 = .ok (.iload 6, 2) := by decide +kernel
theorem dX10_movesTo_36 : decode cX10_movesTo 36 = .ok (.iload_n 1, 1) := by decide +kernel
theorem dX10_movesTo_37 : decode cX10_movesTo 37 = .ok (.if_icmp .eq 37, 3) := by decide +kernel
theorem dX10_movesTo_40 : decode cX10_movesTo 40 = .ok (.iload 6, 2) := by decide +kernel
theorem dX10_movesTo_42 : decode cX10_movesTo 42 = .ok (.iload_n 2, 1) := by decide +kernel
theorem dX10_movesTo_43 : decode cX10_movesTo 43 = .ok (.if_icmp .eq 31, 3) := by decide +kernel
theorem dX10_movesTo_46 : decode cX10_movesTo 46 = .ok (.aload_n 0, 1) := by decide +kernel
theorem dX10_movesTo_47 : decode cX10_movesTo 47 = .ok (.iload_n 1, 1) := by decide +kernel
theorem dX10_movesTo_48 : decode cX10_movesTo 48 = .ok (.iload 6, 2) := by decide +kernel
theorem dX10_movesTo_50 : decode cX10_movesTo 50 = .ok (.invokevirtual 130, 3) := by decide +kernel
theorem dX10_movesTo_53 : decode cX10_movesTo 53 = .ok (.bipush 50, 2) := by decide +kernel
theorem dX10_movesTo_55 : decode cX10_movesTo 55 = .ok (.if_icmp .lt 19, 3) := by decide +kernel
theorem dX10_movesTo_58 : decode cX10_movesTo 58 = .ok (.aload_n 0, 1) := by decide +kernel
theorem dX10_movesTo_59 : decode cX10_movesTo 59 = .ok (.iload_n 2, 1) := by decide +kernel
theorem dX10_movesTo_60 : decode cX10_movesTo 60 = .ok (.iload 6, 2) := by decide +kernel
theorem dX10_movesTo_62 : decode cX10_movesTo 62 = .ok (.invokevirtual 130, 3) := by decide +kernel
theorem dX10_movesTo_65 : decode cX10_movesTo 65 = .ok (.bipush 50, 2) := by decide +kernel
theorem dX10_movesTo_67 : decode cX10_movesTo 67 = .ok (.if_icmp .lt 7, 3) := by decide +kernel
theorem dX10_movesTo_70 : decode cX10_movesTo 70 = .ok (.iconst 1, 1) := by decide +kernel
theorem dX10_movesTo_71 : decode cX10_movesTo 71 = .ok (.goto 4, 3) := by decide +kernel
theorem dX10_movesTo_74 : decode cX10_movesTo 74 = .ok (.iconst 0, 1) := by decide +kernel
theorem dX10_movesTo_75 : decode cX10_movesTo 75 = .ok (.iadd, 1) := by decide +kernel
theorem dX10_movesTo_76 : decode cX10_movesTo 76 = .ok (.istore 5, 2) := by decide +kernel
theorem dX10_movesTo_78 : decode cX10_movesTo 78 = .ok (.iinc 6 1, 3) := by decide +kernel
theorem dX10_movesTo_81 : decode cX10_movesTo 81 = .ok (.goto (-60), 3) := by decide +kernel
theorem dX10_movesTo_84 : decode cX10_movesTo 84 = .ok (.aload_n 0, 1) := by decide +kernel
theorem dX10_movesTo_85 : decode cX10_movesTo 85 = .ok (.iload_n 1, 1) := by decide +kernel
theorem dX10_movesTo_86 : decode cX10_movesTo 86 = .ok (.iconst 4, 1) := by decide +kernel
theorem dX10_movesTo_87 : decode cX10_movesTo 87 = .ok (.invokevirtual 86, 3) := by decide +kernel
theorem dX10_movesTo_90 : decode cX10_movesTo 90 = .ok (.ifCond .lt 22, 3) := by decide +kernel
theorem dX10_movesTo_93 : decode cX10_movesTo 93 = .ok (.aload_n 0, 1) := by decide +kernel
theorem dX10_movesTo_94 : decode cX10_movesTo 94 = .ok (.iload_n 1, 1) := by decide +kernel
theorem dX10_movesTo_95 : decode cX10_movesTo 95 = .ok (.iconst 4, 1) := by decide +kernel
theorem dX10_movesTo_96 : decode cX10_movesTo 96 = .ok (.invokevirtual 86, 3) := by decide +kernel
theorem dX10_movesTo_99 : decode cX10_movesTo 99 = .ok (.aload_n 0, 1) := by decide +kernel
theorem dX10_movesTo_100 : decode cX10_movesTo 100 = .ok (.iload_n 2, 1) := by decide +kernel
theorem dX10_movesTo_101 : decode cX10_movesTo 101 = .ok (.iconst 4, 1) := by decide +kernel
theorem dX10_movesTo_102 : decode cX10_movesTo 102 = .ok (.invokevirtual 86, 3) := by decide +kernel
theorem dX10_movesTo_105 : decode cX10_movesTo 105 = .ok (.if_icmp .ne 7, 3) := by decide +kernel
theorem dX10_movesTo_108 : decode cX10_movesTo 108 = .ok (.iconst 1, 1) := by decide +kernel
theorem dX10_movesTo_109 : decode cX10_movesTo 109 = .ok (.goto 4, 3) := by decide +kernel
theorem dX10_movesTo_112 : decode cX10_movesTo 112 = .ok (.iconst 0, 1) := by decide +kernel
theorem dX10_movesTo_113 : decode cX10_movesTo 113 = .ok (.istore 6, 2) := by decide +kernel
theorem dX10_movesTo_115 : decode cX10_movesTo 115 = .ok (.iload_n 3, 1) := by decide +kernel
theorem dX10_movesTo_116 : decode cX10_movesTo 116 = .ok (.iload 4, 2) := by decide +kernel
theorem dX10_movesTo_118 : decode cX10_movesTo 118 = .ok (.iload_n 3, 1) := by decide +kernel
theorem dX10_movesTo_119 : decode cX10_movesTo 119 = .ok (.if_icmp .le 7, 3) := by decide +kernel
theorem dX10_movesTo_122 : decode cX10_movesTo 122 = .ok (.iconst 1, 1) := by decide +kernel
theorem dX10_movesTo_123 : decode cX10_movesTo 123 = .ok (.goto 4, 3) := by decide +kernel
theorem dX10_movesTo_126 : decode cX10_movesTo 126 = .ok (.iconst 0, 1) := by decide +kernel
theorem dX10_movesTo_127 : decode cX10_movesTo 127 = .ok (.iadd, 1) := by decide +kernel
theorem dX10_movesTo_128 : decode cX10_movesTo 128 = .ok (.iload 4, 2) := by decide +kernel
theorem dX10_movesTo_130 : decode cX10_movesTo 130 = .ok (.iload_n 3, 1) := by decide +kernel
theorem dX10_movesTo_131 : decode cX10_movesTo 131 = .ok (.if_icmp .ge 7, 3) := by decide +kernel
theorem dX10_movesTo_134 : decode cX10_movesTo 134 = .ok (.iconst 1, 1) := by decide +kernel
theorem dX10_movesTo_135 : decode cX10_movesTo 135 = .ok (.goto 4, 3) := by decide +kernel
theorem dX10_movesTo_138 : decode cX10_movesTo 138 = .ok (.iconst 0, 1) := by decide +kernel
theorem dX10_movesTo_139 : decode cX10_movesTo 139 = .ok (.isub, 1) := by decide +kernel
theorem dX10_movesTo_140 : decode cX10_movesTo 140 = .ok (.iload 6, 2) := by decide +kernel
theorem dX10_movesTo_142 : decode cX10_movesTo 142 = .ok (.iadd, 1) := by decide +kernel
theorem dX10_movesTo_143 : decode cX10_movesTo 143 = .ok (.istore 7, 2) := by decide +kernel
theorem dX10_movesTo_145 : decode cX10_movesTo 145 = .ok (.aload_n 0, 1) := by decide +kernel
theorem dX10_movesTo_146 : decode cX10_movesTo 146 = .ok (.iconst 1, 1) := by decide +kernel
theorem dX10_movesTo_147 : decode cX10_movesTo 147 = .ok (.invokevirtual 148, 3) := by decide +kernel
theorem dX10_movesTo_150 : decode cX10_movesTo 150 = .ok (.ifCond .eq 19, 3) := by decide +kernel
theorem dX10_movesTo_153 : decode cX10_movesTo 153 = .ok (.aload_n 0, 1) := by decide +kernel
theorem dX10_movesTo_154 : decode cX10_movesTo 154 = .ok (.iconst 1, 1) := by decide +kernel
theorem dX10_movesTo_155 : decode cX10_movesTo 155 = .ok (.iload_n 3, 1) := by decide +kernel
theorem dX10_movesTo_156 : decode cX10_movesTo 156 = .ok (.iload 4, 2) := by decide +kernel
theorem dX10_movesTo_158 : decode cX10_movesTo 158 = .ok (.iload 5, 2) := by decide +kernel
theorem dX10_movesTo_160 : decode cX10_movesTo 160 = .ok (.iload 6, 2) := by decide +kernel
theorem dX10_movesTo_162 : decode cX10_movesTo 162 = .ok (.iconst 0, 1) := by decide +kernel
theorem dX10_movesTo_163 : decode cX10_movesTo 163 = .ok (.invokevirtual 154, 3) := by decide +kernel
theorem dX10_movesTo_166 : decode cX10_movesTo 166 = .ok (.goto 5, 3) := by decide +kernel
theorem dX10_movesTo_169 : decode cX10_movesTo 169 = .ok (.iload 7, 2) := by decide +kernel
theorem dX10_movesTo_171 : decode cX10_movesTo 171 = .ok (.iconst 0, 1) := by decide +kernel
theorem dX10_movesTo_172 : decode cX10_movesTo 172 = .ok (.bipush 99, 2) := by decide +kernel
theorem dX10_movesTo_174 : decode cX10_movesTo 174 = .ok (.invokestatic 158, 3) := by decide +kernel
theorem dX10_movesTo_177 : decode cX10_movesTo 177 = .ok (.ireturn, 1) := by decide +kernel
theorem dX10_term_0 : decode cX10_term 0 = .ok (.aload_n 0, 1) := by decide +kernel
theorem dX10_term_1 : decode cX10_term 1 = .ok (.getfield 9, 3) := by decide +kernel
theorem dX10_term_4 : decode cX10_term 4 = .ok (.iconst 0, 1) := by decide +kernel
theorem dX10_term_5 : decode cX10_term 5 = .ok (.iaload, 1) := by decide +kernel
theorem dX10_term_6 : decode cX10_term 6 = .ok (.istore_n 1, 1) := by decide +kernel
theorem dX10_term_7 : decode cX10_term 7 = .ok (.iconst 0, 1) := by decide +kernel
theorem dX10_term_8 : decode cX10_term 8 = .ok (.istore_n 2, 1) := by decide +kernel
theorem dX10_term_9 : decode cX10_term 9 = .ok (.iload_n 2, 1) := by decide +kernel
theorem dX10_term_10 : decode cX10_term 10 = .ok (.iload_n 1, 1) := by decide +kernel
theorem dX10_term_11 : decode cX10_term 11 = .ok (.iload_n 1, 1) := by decide +kernel
theorem dX10_term_12 : decode cX10_term 12 = .ok (.imul, 1) := by decide +kernel
theorem dX10_term_13 : decode cX10_term 13 = .ok (.if_icmp .ge 38, 3) := by decide +kernel
theorem dX10_term_16 : decode cX10_term 16 = .ok (.aload_n 0, 1) := by decide +kernel
theorem dX10_term_17 : decode cX10_term 17 = .ok (.getfield 41, 3) := by decide +kernel
theorem dX10_term_20 : decode cX10_term 20 = .ok (.iload_n 2, 1) := by decide +kernel
theorem dX10_term_21 : decode cX10_term 21 = .ok (.iload_n 2, 1) := by decide +kernel
theorem dX10_term_22 : decode cX10_term 22 = .ok (.iload_n 1, 1) := by decide +kernel
theorem dX10_term_23 : decode cX10_term 23 = .ok (.idiv, 1) := by decide +kernel
theorem dX10_term_24 : decode cX10_term 24 = .ok (.iload_n 2, 1) := by decide +kernel
theorem dX10_term_25 : decode cX10_term 25 = .ok (.iload_n 1, 1) := by decide +kernel
theorem dX10_term_26 : decode cX10_term 26 = .ok (.irem, 1) := by decide +kernel
theorem dX10_term_27 : decode cX10_term 27 = .ok (.if_icmp .ne 7, 3) := by decide +kernel
theorem dX10_term_30 : decode cX10_term 30 = .ok (.iconst 0, 1) := by decide +kernel
theorem dX10_term_31 : decode cX10_term 31 = .ok (.goto 13, 3) := by decide +kernel
theorem dX10_term_34 : decode cX10_term 34 = .ok (.aload_n 0, 1) := by decide +kernel
theorem dX10_term_35 : decode cX10_term 35 = .ok (.iload_n 2, 1) := by decide +kernel
theorem dX10_term_36 : decode cX10_term 36 = .ok (.iload_n 1, 1) := by decide +kernel
theorem dX10_term_37 : decode cX10_term 37 = .ok (.idiv, 1) := by decide +kernel
theorem dX10_term_38 : decode cX10_term 38 = .ok (.iload_n 2, 1) := by decide +kernel
theorem dX10_term_39 : decode cX10_term 39 = .ok (.iload_n 1, 1) := by decide +kernel
theorem dX10_term_40 : decode cX10_term 40 = .ok (.irem, 1) := by decide +kernel
theorem dX10_term_41 : decode cX10_term 41 = .ok (.invokevirtual 255, 3) := by decide +kernel
theorem dX10_term_44 : decode cX10_term 44 = .ok (.iastore, 1) := by decide +kernel
theorem dX10_term_45 : decode cX10_term 45 = .ok (.iinc 2 1, 3) := by decide +kernel
theorem dX10_term_48 : decode cX10_term 48 = .ok (.goto (-39), 3) := by decide +kernel
theorem dX10_term_51 : decode cX10_term 51 = .ok (.iconst 0, 1) := by decide +kernel
theorem dX10_term_52 : decode cX10_term 52 = .ok (.istore_n 2, 1) := by decide +kernel
theorem dX10_term_53 : decode cX10_term 53 = .ok (.iload_n 2, 1) := by decide +kernel
theorem dX10_term_54 : decode cX10_term 54 = .ok (.iload_n 1, 1) := by decide +kernel
theorem dX10_term_55 : decode cX10_term 55 = .ok (.iload_n 1, 1) := by decide +kernel
theorem dX10_term_56 : decode cX10_term 56 = .ok (.imul, 1) := by decide +kernel
theorem dX10_term_57 : decode cX10_term 57 = .ok (.if_icmp .ge 33, 3) := by decide +kernel
theorem dX10_term_60 : decode cX10_term 60 = .ok (.aload_n 0, 1) := by decide +kernel
theorem dX10_term_61 : decode cX10_term 61 = .ok (.getfield 9, 3) := by decide +kernel
theorem dX10_term_64 : decode cX10_term 64 = .ok (.bipush 67, 2) := by decide +kernel
theorem dX10_term_66 : decode cX10_term 66 = .ok (.bipush 10, 2) := by decide +kernel
theorem dX10_term_68 : decode cX10_term 68 = .ok (.iload_n 2, 1) := by decide +kernel
theorem dX10_term_69 : decode cX10_term 69 = .ok (.iload_n 1, 1) := by decide +kernel
theorem dX10_term_70 : decode cX10_term 70 = .ok (.idiv, 1) := by decide +kernel
theorem dX10_term_71 : decode cX10_term 71 = .ok (.imul, 1) := by decide +kernel
theorem dX10_term_72 : decode cX10_term 72 = .ok (.iadd, 1) := by decide +kernel
theorem dX10_term_73 : decode cX10_term 73 = .ok (.iload_n 2, 1) := by decide +kernel
theorem dX10_term_74 : decode cX10_term 74 = .ok (.iload_n 1, 1) := by decide +kernel
theorem dX10_term_75 : decode cX10_term 75 = .ok (.irem, 1) := by decide +kernel
theorem dX10_term_76 : decode cX10_term 76 = .ok (.iadd, 1) := by decide +kernel
theorem dX10_term_77 : decode cX10_term 77 = .ok (.aload_n 0, 1) := by decide +kernel
theorem dX10_term_78 : decode cX10_term 78 = .ok (.getfield 41, 3) := by decide +kernel
theorem dX10_term_81 : decode cX10_term 81 = .ok (.iload_n 2, 1) := by decide +kernel
theorem dX10_term_82 : decode cX10_term 82 = .ok (.iaload, 1) := by decide +kernel
theorem dX10_term_83 : decode cX10_term 83 = .ok (.iastore, 1) := by decide +kernel
theorem dX10_term_84 : decode cX10_term 84 = .ok (.iinc 2 1, 3) := by decide +kernel
theorem dX10_term_87 : decode cX10_term 87 = .ok (.goto (-34), 3) := by decide +kernel
theorem dX10_term_90 : decode cX10_term 90 = .ok (.aload_n 0, 1) := by decide +kernel
theorem dX10_term_91 : decode cX10_term 91 = .ok (.getfield 9, 3) := by decide +kernel
theorem dX10_term_94 : decode cX10_term 94 = .ok (.iconst 3, 1) := by decide +kernel
theorem dX10_term_95 : decode cX10_term 95 = .ok (.dup2, 1) := by decide +kernel
theorem dX10_term_96 : decode cX10_term 96 = .ok (.iaload, 1) := by decide +kernel
theorem dX10_term_97 : decode cX10_term 97 = .ok (.iconst 1, 1) := by decide +kernel
theorem dX10_term_98 : decode cX10_term 98 = .ok (.iadd, 1) := by decide +kernel
theorem dX10_term_99 : decode cX10_term 99 = .ok (.iastore, 1) := by decide +kernel
theorem dX10_term_100 : decode cX10_term 100 = .ok (.return_, 1) := by decide +kernel
theorem dX10_terms_0 : decode cX10_terms 0 = .ok (.iload_n 1, 1) := by decide +kernel
theorem dX10_terms_1 : decode cX10_terms 1 = .ok (.iconst 1, 1) := by decide +kernel
theorem dX10_terms_2 : decode cX10_terms 2 = .ok (.bipush 20, 2) := by decide +kernel
theorem dX10_terms_4 : decode cX10_terms 4 = .ok (.invokestatic 72, 3) := by decide +kernel
theorem dX10_terms_7 : decode cX10_terms 7 = .ok (.ifCond .ne 10, 3) := by decide +kernel
theorem dX10_terms_10 : decode cX10_terms 10 = .ok (.aload_n 0, 1) := by decide +kernel
theorem dX10_terms_11 : decode cX10_terms 11 = .ok (.ldc 80, 2) := by decide +kernel
theorem dX10_terms_13 : decode cX10_terms 13 = .ok (.invokevirtual 81, 3) := by decide +kernel
theorem dX10_terms_16 : decode cX10_terms 16 = .ok (.ireturn, 1) := by decide +kernel
theorem dX10_terms_17 : decode cX10_terms 17 = .ok (.aload_n 0, 1) := by decide +kernel
theorem dX10_terms_18 : decode cX10_terms 18 = .ok (.getfield 9, 3) := by decide +kernel
theorem dX10_terms_21 : decode cX10_terms 21 = .ok (.iconst 3, 1) := by decide +kernel
theorem dX10_terms_22 : decode cX10_terms 22 = .ok (.iaload, 1) := by decide +kernel
theorem dX10_terms_23 : decode cX10_terms 23 = .ok (.iload_n 1, 1) := by decide +kernel
theorem dX10_terms_24 : decode cX10_terms 24 = .ok (.iadd, 1) := by decide +kernel
theorem dX10_terms_25 : decode cX10_terms 25 = .ok (.sipush 999, 3) := by decide +kernel
theorem dX10_terms_28 : decode cX10_terms 28 = .ok (.if_icmp .le 10, 3) := by decide +kernel
theorem dX10_terms_31 : decode cX10_terms 31 = .ok (.aload_n 0, 1) := by decide +kernel
theorem dX10_terms_32 : decode cX10_terms 32 = .ok (.ldc 122, 2) := by decide +kernel
theorem dX10_terms_34 : decode cX10_terms 34 = .ok (.invokevirtual 81, 3) := by decide +kernel
theorem dX10_terms_37 : decode cX10_terms 37 = .ok (.ireturn, 1) := by decide +kernel
theorem dX10_terms_38 : decode cX10_terms 38 = .ok (.iconst 0, 1) := by decide +kernel
theorem dX10_terms_39 : decode cX10_terms 39 = .ok (.istore_n 2, 1) := by decide +kernel
theorem dX10_terms_40 : decode cX10_terms 40 = .ok (.iload_n 2, 1) := by decide +kernel
theorem dX10_terms_41 : decode cX10_terms 41 = .ok (.iload_n 1, 1) := by decide +kernel
theorem dX10_terms_42 : decode cX10_terms 42 = .ok (.if_icmp .ge 13, 3) := by decide +kernel
theorem dX10_terms_45 : decode cX10_terms 45 = .ok (.aload_n 0, 1) := by decide +kernel
theorem dX10_terms_46 : decode cX10_terms 46 = .ok (.invokevirtual 258, 3) := by decide +kernel
theorem dX10_terms_49 : decode cX10_terms 49 = .ok (.iinc 2 1, 3) := by decide +kernel
theorem dX10_terms_52 : decode cX10_terms 52 = .ok (.goto (-12), 3) := by decide +kernel
theorem dX10_terms_55 : decode cX10_terms 55 = .ok (.aload_n 0, 1) := by decide +kernel
theorem dX10_terms_56 : decode cX10_terms 56 = .ok (.getfield 9, 3) := by decide +kernel
theorem dX10_terms_59 : decode cX10_terms 59 = .ok (.iconst 3, 1) := by decide +kernel
theorem dX10_terms_60 : decode cX10_terms 60 = .ok (.iaload, 1) := by decide +kernel
theorem dX10_terms_61 : decode cX10_terms 61 = .ok (.ireturn, 1) := by decide +kernel
theorem dX10_seed_0 : decode cX10_seed 0 = .ok (.aload_n 0, 1) := by decide +kernel
theorem dX10_seed_1 : decode cX10_seed 1 = .ok (.bipush 6, 2) := by decide +kernel
theorem dX10_seed_3 : decode cX10_seed 3 = .ok (.iload_n 1, 1) := by decide +kernel
theorem dX10_seed_4 : decode cX10_seed 4 = .ok (.invokevirtual 106, 3) := by decide +kernel
theorem dX10_seed_7 : decode cX10_seed 7 = .ok (.ireturn, 1) := by decide +kernel
theorem dX10_slipOf_0 : decode cX10_slipOf 0 = .ok (.iconst 0, 1) := by decide +kernel
theorem dX10_slipOf_1 : decode cX10_slipOf 1 = .ok (.istore_n 2, 1) := by decide +kernel
theorem dX10_slipOf_2 : decode cX10_slipOf 2 = .ok (.iconst 0, 1) := by decide +kernel
theorem dX10_slipOf_3 : decode cX10_slipOf 3 = .ok (.istore_n 3, 1) := by decide +kernel
theorem dX10_slipOf_4 : decode cX10_slipOf 4 = .ok (.iload_n 3, 1) := by decide +kernel
theorem dX10_slipOf_5 : decode cX10_slipOf 5 = .ok (.iconst 3, 1) := by decide +kernel
theorem dX10_slipOf_6 : decode cX10_slipOf 6 = .ok (.if_icmp .ge 116, 3) := by decide +kernel
theorem dX10_slipOf_9 : decode cX10_slipOf 9 = .ok (.iconst (-1), 1) := by decide +kernel
theorem dX10_slipOf_10 : decode cX10_slipOf 10 = .ok (.istore 4, 2) := by decide +kernel
theorem dX10_slipOf_12 : decode cX10_slipOf 12 = .ok (.iconst 0, 1) := by decide +kernel
theorem dX10_slipOf_13 : decode cX10_slipOf 13 = .ok (.istore 5, 2) := by decide +kernel
theorem dX10_slipOf_15 : decode cX10_slipOf 15 = .ok (.iload 5, 2) := by decide +kernel
theorem dX10_slipOf_17 : decode cX10_slipOf 17 = .ok (.aload_n 0, 1) := by decide +kernel
theorem dX10_slipOf_18 : decode cX10_slipOf 18 = .ok (.getfield 9, 3) := by decide +kernel
theorem dX10_slipOf_21 : decode cX10_slipOf 21 = .ok (.iconst 0, 1) := by decide +kernel
theorem dX10_slipOf_22 : decode cX10_slipOf 22 = .ok (.iaload, 1) := by decide +kernel
theorem dX10_slipOf_23 : decode cX10_slipOf 23 = .ok (.if_icmp .ge 77, 3) := by decide +kernel
theorem dX10_slipOf_26 : decode cX10_slipOf 26 = .ok (.iload 5, 2) := by decide +kernel
theorem dX10_slipOf_28 : decode cX10_slipOf 28 = .ok (.iload_n 1, 1) := by decide +kernel
theorem dX10_slipOf_29 : decode cX10_slipOf 29 = .ok (.if_icmp .eq 26, 3) := by decide +kernel
theorem dX10_slipOf_32 : decode cX10_slipOf 32 = .ok (.iload_n 2, 1) := by decide +kernel
theorem dX10_slipOf_33 : decode cX10_slipOf 33 = .ok (.iload 5, 2) := by decide +kernel
theorem dX10_slipOf_35 : decode cX10_slipOf 35 = .ok (.invokestatic 127, 3) := by decide +kernel
theorem dX10_slipOf_38 : decode cX10_slipOf 38 = .ok (.ifCond .ne 17, 3) := by decide +kernel
theorem dX10_slipOf_41 : decode cX10_slipOf 41 = .ok (.aload_n 0, 1) := by decide +kernel
theorem dX10_slipOf_42 : decode cX10_slipOf 42 = .ok (.iload_n 1, 1) := by decide +kernel
theorem dX10_slipOf_43 : decode cX10_slipOf 43 = .ok (.iload 5, 2) := by decide +kernel
theorem dX10_slipOf_45 : decode cX10_slipOf 45 = .ok (.invokevirtual 130, 3) := by decide +kernel
theorem dX10_slipOf_48 : decode cX10_slipOf 48 = .ok (.ifCond .le 7, 3) := by decide +kernel
theorem dX10_slipOf_51 : decode cX10_slipOf 51 = .ok (.iconst 1, 1) := by decide +kernel
theorem dX10_slipOf_52 : decode cX10_slipOf 52 = .ok (.goto 4, 3) := by decide +kernel
theorem dX10_slipOf_55 : decode cX10_slipOf 55 = .ok (.iconst 0, 1) := by decide +kernel
theorem dX10_slipOf_56 : decode cX10_slipOf 56 = .ok (.istore 6, 2) := by decide +kernel
theorem dX10_slipOf_58 : decode cX10_slipOf 58 = .ok (.iload 6, 2) := by decide +kernel
theorem dX10_slipOf_60 : decode cX10_slipOf 60 = .ok (.ifCond .eq 30, 3) := by decide +kernel
theorem dX10_slipOf_63 : decode cX10_slipOf 63 = .ok (.iload 4, 2) := by decide +kernel
theorem dX10_slipOf_65 : decode cX10_slipOf 65 = .ok (.ifCond .lt 20, 3) := by decide +kernel
theorem dX10_slipOf_68 : decode cX10_slipOf 68 = .ok (.aload_n 0, 1) := by decide +kernel
theorem dX10_slipOf_69 : decode cX10_slipOf 69 = .ok (.iload_n 1, 1) := by decide +kernel
theorem dX10_slipOf_70 : decode cX10_slipOf 70 = .ok (.iload 5, 2) := by decide +kernel
theorem dX10_slipOf_72 : decode cX10_slipOf 72 = .ok (.invokevirtual 130, 3) := by decide +kernel
theorem dX10_slipOf_75 : decode cX10_slipOf 75 = .ok (.aload_n 0, 1) := by decide +kernel
theorem dX10_slipOf_76 : decode cX10_slipOf 76 = .ok (.iload_n 1, 1) := by decide +kernel
theorem dX10_slipOf_77 : decode cX10_slipOf 77 = .ok (.iload 4, 2) := by decide +kernel
theorem dX10_slipOf_79 : decode cX10_slipOf 79 = .ok (.invokevirtual 130, 3) := by decide +kernel
theorem dX10_slipOf_82 : decode cX10_slipOf 82 = .ok (.if_icmp .le 8, 3) := by decide +kernel
theorem dX10_slipOf_85 : decode cX10_slipOf 85 = .ok (.iload 5, 2) := by decide +kernel
theorem dX10_slipOf_87 : decode cX10_slipOf 87 = .ok (.goto 5, 3) := by decide +kernel
theorem dX10_slipOf_90 : decode cX10_slipOf 90 = .ok (.iload 4, 2) := by decide +kernel
theorem dX10_slipOf_92 : decode cX10_slipOf 92 = .ok (.istore 4, 2) := by decide +kernel
theorem dX10_slipOf_94 : decode cX10_slipOf 94 = .ok (.iinc 5 1, 3) := by decide +kernel
theorem dX10_slipOf_97 : decode cX10_slipOf 97 = .ok (.goto (-82), 3) := by decide +kernel
theorem dX10_slipOf_100 : decode cX10_slipOf 100 = .ok (.iload_n 2, 1) := by decide +kernel
theorem dX10_slipOf_101 : decode cX10_slipOf 101 = .ok (.iload 4, 2) := by decide +kernel
theorem dX10_slipOf_103 : decode cX10_slipOf 103 = .ok (.ifCond .ge 7, 3) := by decide +kernel
theorem dX10_slipOf_106 : decode cX10_slipOf 106 = .ok (.iconst 0, 1) := by decide +kernel
theorem dX10_slipOf_107 : decode cX10_slipOf 107 = .ok (.goto 7, 3) := by decide +kernel
theorem dX10_slipOf_110 : decode cX10_slipOf 110 = .ok (.iconst 1, 1) := by decide +kernel
theorem dX10_slipOf_111 : decode cX10_slipOf 111 = .ok (.iload 4, 2) := by decide +kernel
theorem dX10_slipOf_113 : decode cX10_slipOf 113 = .ok (.ishl, 1) := by decide +kernel
theorem dX10_slipOf_114 : decode cX10_slipOf 114 = .ok (.ior, 1) := by decide +kernel
theorem dX10_slipOf_115 : decode cX10_slipOf 115 = .ok (.istore_n 2, 1) := by decide +kernel
theorem dX10_slipOf_116 : decode cX10_slipOf 116 = .ok (.iinc 3 1, 3) := by decide +kernel
theorem dX10_slipOf_119 : decode cX10_slipOf 119 = .ok (.goto (-115), 3) := by decide +kernel
theorem dX10_slipOf_122 : decode cX10_slipOf 122 = .ok (.iload_n 2, 1) := by decide +kernel
theorem dX10_slipOf_123 : decode cX10_slipOf 123 = .ok (.ireturn, 1) := by decide +kernel
theorem dX10_namedOf_0 : decode cX10_namedOf 0 = .ok (.iconst 0, 1) := by decide +kernel
theorem dX10_namedOf_1 : decode cX10_namedOf 1 = .ok (.istore_n 2, 1) := by decide +kernel
theorem dX10_namedOf_2 : decode cX10_namedOf 2 = .ok (.iconst 0, 1) := by decide +kernel
theorem dX10_namedOf_3 : decode cX10_namedOf 3 = .ok (.istore_n 3, 1) := by decide +kernel
theorem dX10_namedOf_4 : decode cX10_namedOf 4 = .ok (.iload_n 3, 1) := by decide +kernel
theorem dX10_namedOf_5 : decode cX10_namedOf 5 = .ok (.aload_n 0, 1) := by decide +kernel
theorem dX10_namedOf_6 : decode cX10_namedOf 6 = .ok (.getfield 9, 3) := by decide +kernel
theorem dX10_namedOf_9 : decode cX10_namedOf 9 = .ok (.iconst 0, 1) := by decide +kernel
theorem dX10_namedOf_10 : decode cX10_namedOf 10 = .ok (.iaload, 1) := by decide +kernel
theorem dX10_namedOf_11 : decode cX10_namedOf 11 = .ok (.if_icmp .ge 29, 3) := by decide +kernel
theorem dX10_namedOf_14 : decode cX10_namedOf 14 = .ok (.iload_n 2, 1) := by decide +kernel
theorem dX10_namedOf_15 : decode cX10_namedOf 15 = .ok (.aload_n 0, 1) := by decide +kernel
theorem dX10_namedOf_16 : decode cX10_namedOf 16 = .ok (.iload_n 3, 1) := by decide +kernel
theorem dX10_namedOf_17 : decode cX10_namedOf 17 = .ok (.invokevirtual 89, 3) := by decide +kernel
theorem dX10_namedOf_20 : decode cX10_namedOf 20 = .ok (.iload_n 1, 1) := by decide +kernel
theorem dX10_namedOf_21 : decode cX10_namedOf 21 = .ok (.invokestatic 127, 3) := by decide +kernel
theorem dX10_namedOf_24 : decode cX10_namedOf 24 = .ok (.ifCond .eq 7, 3) := by decide +kernel
theorem dX10_namedOf_27 : decode cX10_namedOf 27 = .ok (.iconst 1, 1) := by decide +kernel
theorem dX10_namedOf_28 : decode cX10_namedOf 28 = .ok (.goto 4, 3) := by decide +kernel
theorem dX10_namedOf_31 : decode cX10_namedOf 31 = .ok (.iconst 0, 1) := by decide +kernel
theorem dX10_namedOf_32 : decode cX10_namedOf 32 = .ok (.iadd, 1) := by decide +kernel
theorem dX10_namedOf_33 : decode cX10_namedOf 33 = .ok (.istore_n 2, 1) := by decide +kernel
theorem dX10_namedOf_34 : decode cX10_namedOf 34 = .ok (.iinc 3 1, 3) := by decide +kernel
theorem dX10_namedOf_37 : decode cX10_namedOf 37 = .ok (.goto (-33), 3) := by decide +kernel
theorem dX10_namedOf_40 : decode cX10_namedOf 40 = .ok (.iload_n 2, 1) := by decide +kernel
theorem dX10_namedOf_41 : decode cX10_namedOf 41 = .ok (.ireturn, 1) := by decide +kernel
theorem dX10_findSlips_0 : decode cX10_findSlips 0 = .ok (.iconst 0, 1) := by decide +kernel
theorem dX10_findSlips_1 : decode cX10_findSlips 1 = .ok (.istore_n 1, 1) := by decide +kernel
theorem dX10_findSlips_2 : decode cX10_findSlips 2 = .ok (.iload_n 1, 1) := by decide +kernel
theorem dX10_findSlips_3 : decode cX10_findSlips 3 = .ok (.aload_n 0, 1) := by decide +kernel
theorem dX10_findSlips_4 : decode cX10_findSlips 4 = .ok (.getfield 9, 3) := by decide +kernel
theorem dX10_findSlips_7 : decode cX10_findSlips 7 = .ok (.iconst 0, 1) := by decide +kernel
theorem dX10_findSlips_8 : decode cX10_findSlips 8 = .ok (.iaload, 1) := by decide +kernel
theorem dX10_findSlips_9 : decode cX10_findSlips 9 = .ok (.if_icmp .ge 20, 3) := by decide +kernel
theorem dX10_findSlips_12 : decode cX10_findSlips 12 = .ok (.aload_n 0, 1) := by decide +kernel
theorem dX10_findSlips_13 : decode cX10_findSlips 13 = .ok (.getfield 44, 3) := by decide +kernel
theorem dX10_findSlips_16 : decode cX10_findSlips 16 = .ok (.iload_n 1, 1) := by decide +kernel
theorem dX10_findSlips_17 : decode cX10_findSlips 17 = .ok (.aload_n 0, 1) := by decide +kernel
theorem dX10_findSlips_18 : decode cX10_findSlips 18 = .ok (.iload_n 1, 1) := by decide +kernel
theorem dX10_findSlips_19 : decode cX10_findSlips 19 = .ok (.invokevirtual 89, 3) := by decide +kernel
theorem dX10_findSlips_22 : decode cX10_findSlips 22 = .ok (.iastore, 1) := by decide +kernel
theorem dX10_findSlips_23 : decode cX10_findSlips 23 = .ok (.iinc 1 1, 3) := by decide +kernel
theorem dX10_findSlips_26 : decode cX10_findSlips 26 = .ok (.goto (-24), 3) := by decide +kernel
theorem dX10_findSlips_29 : decode cX10_findSlips 29 = .ok (.return_, 1) := by decide +kernel
theorem dX10_bothOf_0 : decode cX10_bothOf 0 = .ok (.iconst 0, 1) := by decide +kernel
theorem dX10_bothOf_1 : decode cX10_bothOf 1 = .ok (.istore_n 2, 1) := by decide +kernel
theorem dX10_bothOf_2 : decode cX10_bothOf 2 = .ok (.iconst 0, 1) := by decide +kernel
theorem dX10_bothOf_3 : decode cX10_bothOf 3 = .ok (.istore_n 3, 1) := by decide +kernel
theorem dX10_bothOf_4 : decode cX10_bothOf 4 = .ok (.iload_n 3, 1) := by decide +kernel
theorem dX10_bothOf_5 : decode cX10_bothOf 5 = .ok (.aload_n 0, 1) := by decide +kernel
theorem dX10_bothOf_6 : decode cX10_bothOf 6 = .ok (.getfield 9, 3) := by decide +kernel
theorem dX10_bothOf_9 : decode cX10_bothOf 9 = .ok (.iconst 0, 1) := by decide +kernel
theorem dX10_bothOf_10 : decode cX10_bothOf 10 = .ok (.iaload, 1) := by decide +kernel
theorem dX10_bothOf_11 : decode cX10_bothOf 11 = .ok (.if_icmp .ge 45, 3) := by decide +kernel
theorem dX10_bothOf_14 : decode cX10_bothOf 14 = .ok (.iload_n 2, 1) := by decide +kernel
theorem dX10_bothOf_15 : decode cX10_bothOf 15 = .ok (.aload_n 0, 1) := by decide +kernel
theorem dX10_bothOf_16 : decode cX10_bothOf 16 = .ok (.getfield 44, 3) := by decide +kernel
theorem dX10_bothOf_19 : decode cX10_bothOf 19 = .ok (.iload_n 1, 1) := by decide +kernel
theorem dX10_bothOf_20 : decode cX10_bothOf 20 = .ok (.iaload, 1) := by decide +kernel
theorem dX10_bothOf_21 : decode cX10_bothOf 21 = .ok (.iload_n 3, 1) := by decide +kernel
theorem dX10_bothOf_22 : decode cX10_bothOf 22 = .ok (.invokestatic 127, 3) := by decide +kernel
theorem dX10_bothOf_25 : decode cX10_bothOf 25 = .ok (.ifCond .eq 22, 3) := by decide +kernel
theorem dX10_bothOf_28 : decode cX10_bothOf 28 = .ok (.aload_n 0, 1) := by decide +kernel
theorem dX10_bothOf_29 : decode cX10_bothOf 29 = .ok (.getfield 44, 3) := by decide +kernel
theorem dX10_bothOf_32 : decode cX10_bothOf 32 = .ok (.iload_n 3, 1) := by decide +kernel
theorem dX10_bothOf_33 : decode cX10_bothOf 33 = .ok (.iaload, 1) := by decide +kernel
theorem dX10_bothOf_34 : decode cX10_bothOf 34 = .ok (.iload_n 1, 1) := by decide +kernel
theorem dX10_bothOf_35 : decode cX10_bothOf 35 = .ok (.invokestatic 127, 3) := by decide +kernel
theorem dX10_bothOf_38 : decode cX10_bothOf 38 = .ok (.ifCond .eq 9, 3) := by decide +kernel
theorem dX10_bothOf_41 : decode cX10_bothOf 41 = .ok (.iconst 1, 1) := by decide +kernel
theorem dX10_bothOf_42 : decode cX10_bothOf 42 = .ok (.iload_n 3, 1) := by decide +kernel
theorem dX10_bothOf_43 : decode cX10_bothOf 43 = .ok (.ishl, 1) := by decide +kernel
theorem dX10_bothOf_44 : decode cX10_bothOf 44 = .ok (.goto 4, 3) := by decide +kernel
theorem dX10_bothOf_47 : decode cX10_bothOf 47 = .ok (.iconst 0, 1) := by decide +kernel
theorem dX10_bothOf_48 : decode cX10_bothOf 48 = .ok (.ior, 1) := by decide +kernel
theorem dX10_bothOf_49 : decode cX10_bothOf 49 = .ok (.istore_n 2, 1) := by decide +kernel
theorem dX10_bothOf_50 : decode cX10_bothOf 50 = .ok (.iinc 3 1, 3) := by decide +kernel
theorem dX10_bothOf_53 : decode cX10_bothOf 53 = .ok (.goto (-49), 3) := by decide +kernel
theorem dX10_bothOf_56 : decode cX10_bothOf 56 = .ok (.iload_n 2, 1) := by decide +kernel
theorem dX10_bothOf_57 : decode cX10_bothOf 57 = .ok (.ireturn, 1) := by decide +kernel
theorem dX10_both__0 : decode cX10_both_ 0 = .ok (.aload_n 0, 1) := by decide +kernel
theorem dX10_both__1 : decode cX10_both_ 1 = .ok (.iload_n 1, 1) := by decide +kernel
theorem dX10_both__2 : decode cX10_both_ 2 = .ok (.iconst 0, 1) := by decide +kernel
theorem dX10_both__3 : decode cX10_both_ 3 = .ok (.invokevirtual 95, 3) := by decide +kernel
theorem dX10_both__6 : decode cX10_both_ 6 = .ok (.ifCond .ne 10, 3) := by decide +kernel
theorem dX10_both__9 : decode cX10_both_ 9 = .ok (.aload_n 0, 1) := by decide +kernel
theorem dX10_both__10 : decode cX10_both_ 10 = .ok (.ldc 80, 2) := by decide +kernel
theorem dX10_both__12 : decode cX10_both_ 12 = .ok (.invokevirtual 81, 3) := by decide +kernel
theorem dX10_both__15 : decode cX10_both_ 15 = .ok (.ireturn, 1) := by decide +kernel
theorem dX10_both__16 : decode cX10_both_ 16 = .ok (.aload_n 0, 1) := by decide +kernel
theorem dX10_both__17 : decode cX10_both_ 17 = .ok (.invokevirtual 261, 3) := by decide +kernel
theorem dX10_both__20 : decode cX10_both_ 20 = .ok (.aload_n 0, 1) := by decide +kernel
theorem dX10_both__21 : decode cX10_both_ 21 = .ok (.iload_n 1, 1) := by decide +kernel
theorem dX10_both__22 : decode cX10_both_ 22 = .ok (.invokevirtual 264, 3) := by decide +kernel
theorem dX10_both__25 : decode cX10_both_ 25 = .ok (.ireturn, 1) := by decide +kernel
theorem dX10_ringOf_0 : decode cX10_ringOf 0 = .ok (.iconst 1, 1) := by decide +kernel
theorem dX10_ringOf_1 : decode cX10_ringOf 1 = .ok (.iload_n 1, 1) := by decide +kernel
theorem dX10_ringOf_2 : decode cX10_ringOf 2 = .ok (.ishl, 1) := by decide +kernel
theorem dX10_ringOf_3 : decode cX10_ringOf 3 = .ok (.istore_n 2, 1) := by decide +kernel
theorem dX10_ringOf_4 : decode cX10_ringOf 4 = .ok (.iconst 0, 1) := by decide +kernel
theorem dX10_ringOf_5 : decode cX10_ringOf 5 = .ok (.istore_n 3, 1) := by decide +kernel
theorem dX10_ringOf_6 : decode cX10_ringOf 6 = .ok (.iload_n 2, 1) := by decide +kernel
theorem dX10_ringOf_7 : decode cX10_ringOf 7 = .ok (.iload_n 3, 1) := by decide +kernel
theorem dX10_ringOf_8 : decode cX10_ringOf 8 = .ok (.if_icmp .eq 50, 3) := by decide +kernel
theorem dX10_ringOf_11 : decode cX10_ringOf 11 = .ok (.iload_n 2, 1) := by decide +kernel
theorem dX10_ringOf_12 : decode cX10_ringOf 12 = .ok (.istore_n 3, 1) := by decide +kernel
theorem dX10_ringOf_13 : decode cX10_ringOf 13 = .ok (.iconst 0, 1) := by decide +kernel
theorem dX10_ringOf_14 : decode cX10_ringOf 14 = .ok (.istore 4, 2) := by decide +kernel
theorem dX10_ringOf_16 : decode cX10_ringOf 16 = .ok (.iload 4, 2) := by decide +kernel
theorem dX10_ringOf_18 : decode cX10_ringOf 18 = .ok (.aload_n 0, 1) := by decide +kernel
theorem dX10_ringOf_19 : decode cX10_ringOf 19 = .ok (.getfield 9, 3) := by decide +kernel
theorem dX10_ringOf_22 : decode cX10_ringOf 22 = .ok (.iconst 0, 1) := by decide +kernel
theorem dX10_ringOf_23 : decode cX10_ringOf 23 = .ok (.iaload, 1) := by decide +kernel
theorem dX10_ringOf_24 : decode cX10_ringOf 24 = .ok (.if_icmp .ge 31, 3) := by decide +kernel
theorem dX10_ringOf_27 : decode cX10_ringOf 27 = .ok (.iload_n 2, 1) := by decide +kernel
theorem dX10_ringOf_28 : decode cX10_ringOf 28 = .ok (.iload_n 3, 1) := by decide +kernel
theorem dX10_ringOf_29 : decode cX10_ringOf 29 = .ok (.iload 4, 2) := by decide +kernel
theorem dX10_ringOf_31 : decode cX10_ringOf 31 = .ok (.invokestatic 127, 3) := by decide +kernel
theorem dX10_ringOf_34 : decode cX10_ringOf 34 = .ok (.ifCond .eq 12, 3) := by decide +kernel
theorem dX10_ringOf_37 : decode cX10_ringOf 37 = .ok (.aload_n 0, 1) := by decide +kernel
theorem dX10_ringOf_38 : decode cX10_ringOf 38 = .ok (.iload 4, 2) := by decide +kernel
theorem dX10_ringOf_40 : decode cX10_ringOf 40 = .ok (.invokevirtual 264, 3) := by decide +kernel
theorem dX10_ringOf_43 : decode cX10_ringOf 43 = .ok (.goto 4, 3) := by decide +kernel
theorem dX10_ringOf_46 : decode cX10_ringOf 46 = .ok (.iconst 0, 1) := by decide +kernel
theorem dX10_ringOf_47 : decode cX10_ringOf 47 = .ok (.ior, 1) := by decide +kernel
theorem dX10_ringOf_48 : decode cX10_ringOf 48 = .ok (.istore_n 2, 1) := by decide +kernel
theorem dX10_ringOf_49 : decode cX10_ringOf 49 = .ok (.iinc 4 1, 3) := by decide +kernel
theorem dX10_ringOf_52 : decode cX10_ringOf 52 = .ok (.goto (-36), 3) := by decide +kernel
theorem dX10_ringOf_55 : decode cX10_ringOf 55 = .ok (.goto (-49), 3) := by decide +kernel
theorem dX10_ringOf_58 : decode cX10_ringOf 58 = .ok (.iload_n 2, 1) := by decide +kernel
theorem dX10_ringOf_59 : decode cX10_ringOf 59 = .ok (.ireturn, 1) := by decide +kernel
theorem dX10_ring_0 : decode cX10_ring 0 = .ok (.aload_n 0, 1) := by decide +kernel
theorem dX10_ring_1 : decode cX10_ring 1 = .ok (.iload_n 1, 1) := by decide +kernel
theorem dX10_ring_2 : decode cX10_ring 2 = .ok (.iconst 0, 1) := by decide +kernel
theorem dX10_ring_3 : decode cX10_ring 3 = .ok (.invokevirtual 95, 3) := by decide +kernel
theorem dX10_ring_6 : decode cX10_ring 6 = .ok (.ifCond .ne 10, 3) := by decide +kernel
theorem dX10_ring_9 : decode cX10_ring 9 = .ok (.aload_n 0, 1) := by decide +kernel
theorem dX10_ring_10 : decode cX10_ring 10 = .ok (.ldc 80, 2) := by decide +kernel
theorem dX10_ring_12 : decode cX10_ring 12 = .ok (.invokevirtual 81, 3) := by decide +kernel
theorem dX10_ring_15 : decode cX10_ring 15 = .ok (.ireturn, 1) := by decide +kernel
theorem dX10_ring_16 : decode cX10_ring 16 = .ok (.aload_n 0, 1) := by decide +kernel
theorem dX10_ring_17 : decode cX10_ring 17 = .ok (.invokevirtual 261, 3) := by decide +kernel
theorem dX10_ring_20 : decode cX10_ring 20 = .ok (.aload_n 0, 1) := by decide +kernel
theorem dX10_ring_21 : decode cX10_ring 21 = .ok (.iload_n 1, 1) := by decide +kernel
theorem dX10_ring_22 : decode cX10_ring 22 = .ok (.invokevirtual 267, 3) := by decide +kernel
theorem dX10_ring_25 : decode cX10_ring 25 = .ok (.ireturn, 1) := by decide +kernel
theorem dX10_net_0 : decode cX10_net 0 = .ok (.iload_n 1, 1) := by decide +kernel
theorem dX10_net_1 : decode cX10_net 1 = .ok (.iconst 0, 1) := by decide +kernel
theorem dX10_net_2 : decode cX10_net 2 = .ok (.iconst 3, 1) := by decide +kernel
theorem dX10_net_3 : decode cX10_net 3 = .ok (.invokestatic 72, 3) := by decide +kernel
theorem dX10_net_6 : decode cX10_net 6 = .ok (.ifCond .ne 10, 3) := by decide +kernel
theorem dX10_net_9 : decode cX10_net 9 = .ok (.aload_n 0, 1) := by decide +kernel
theorem dX10_net_10 : decode cX10_net 10 = .ok (.ldc 80, 2) := by decide +kernel
theorem dX10_net_12 : decode cX10_net 12 = .ok (.invokevirtual 81, 3) := by decide +kernel
theorem dX10_net_15 : decode cX10_net 15 = .ok (.ireturn, 1) := by decide +kernel
theorem dX10_net_16 : decode cX10_net 16 = .ok (.aload_n 0, 1) := by decide +kernel
theorem dX10_net_17 : decode cX10_net 17 = .ok (.invokevirtual 261, 3) := by decide +kernel
theorem dX10_net_20 : decode cX10_net 20 = .ok (.iconst 0, 1) := by decide +kernel
theorem dX10_net_21 : decode cX10_net 21 = .ok (.istore_n 2, 1) := by decide +kernel
theorem dX10_net_22 : decode cX10_net 22 = .ok (.iconst 0, 1) := by decide +kernel
theorem dX10_net_23 : decode cX10_net 23 = .ok (.istore_n 3, 1) := by decide +kernel
theorem dX10_net_24 : decode cX10_net 24 = .ok (.iconst 0, 1) := by decide +kernel
theorem dX10_net_25 : decode cX10_net 25 = .ok (.istore 4, 2) := by decide +kernel
theorem dX10_net_27 : decode cX10_net 27 = .ok (.iconst 0, 1) := by decide +kernel
theorem dX10_net_28 : decode cX10_net 28 = .ok (.istore 5, 2) := by decide +kernel
theorem dX10_net_30 : decode cX10_net 30 = .ok (.iconst 0, 1) := by decide +kernel
theorem dX10_net_31 : decode cX10_net 31 = .ok (.istore 6, 2) := by decide +kernel
theorem dX10_net_33 : decode cX10_net 33 = .ok (.iload 6, 2) := by decide +kernel
theorem dX10_net_35 : decode cX10_net 35 = .ok (.aload_n 0, 1) := by decide +kernel
theorem dX10_net_36 : decode cX10_net 36 = .ok (.getfield 9, 3) := by decide +kernel
theorem dX10_net_39 : decode cX10_net 39 = .ok (.iconst 0, 1) := by decide +kernel
theorem dX10_net_40 : decode cX10_net 40 = .ok (.iaload, 1) := by decide +kernel
theorem dX10_net_41 : decode cX10_net 41 = .ok (.if_icmp .ge 91, 3) := by decide +kernel
theorem dX10_net_44 : decode cX10_net 44 = .ok (.aload_n 0, 1) := by decide +kernel
theorem dX10_net_45 : decode cX10_net 45 = .ok (.iload 6, 2) := by decide +kernel
theorem dX10_net_47 : decode cX10_net 47 = .ok (.invokevirtual 92, 3) := by decide +kernel
theorem dX10_net_50 : decode cX10_net 50 = .ok (.istore 7, 2) := by decide +kernel
theorem dX10_net_52 : decode cX10_net 52 = .ok (.iload_n 2, 1) := by decide +kernel
theorem dX10_net_53 : decode cX10_net 53 = .ok (.aload_n 0, 1) := by decide +kernel
theorem dX10_net_54 : decode cX10_net 54 = .ok (.iload 6, 2) := by decide +kernel
theorem dX10_net_56 : decode cX10_net 56 = .ok (.invokevirtual 267, 3) := by decide +kernel
theorem dX10_net_59 : decode cX10_net 59 = .ok (.iconst 1, 1) := by decide +kernel
theorem dX10_net_60 : decode cX10_net 60 = .ok (.iload 6, 2) := by decide +kernel
theorem dX10_net_62 : decode cX10_net 62 = .ok (.ishl, 1) := by decide +kernel
theorem dX10_net_63 : decode cX10_net 63 = .ok (.iconst 1, 1) := by decide +kernel
theorem dX10_net_64 : decode cX10_net 64 = .ok (.isub, 1) := by decide +kernel
theorem dX10_net_65 : decode cX10_net 65 = .ok (.iand, 1) := by decide +kernel
theorem dX10_net_66 : decode cX10_net 66 = .ok (.ifCond .ne 7, 3) := by decide +kernel
theorem dX10_net_69 : decode cX10_net 69 = .ok (.iconst 1, 1) := by decide +kernel
theorem dX10_net_70 : decode cX10_net 70 = .ok (.goto 4, 3) := by decide +kernel
theorem dX10_net_73 : decode cX10_net 73 = .ok (.iconst 0, 1) := by decide +kernel
theorem dX10_net_74 : decode cX10_net 74 = .ok (.iadd, 1) := by decide +kernel
theorem dX10_net_75 : decode cX10_net 75 = .ok (.istore_n 2, 1) := by decide +kernel
theorem dX10_net_76 : decode cX10_net 76 = .ok (.iload_n 3, 1) := by decide +kernel
theorem dX10_net_77 : decode cX10_net 77 = .ok (.aload_n 0, 1) := by decide +kernel
theorem dX10_net_78 : decode cX10_net 78 = .ok (.iload 6, 2) := by decide +kernel
theorem dX10_net_80 : decode cX10_net 80 = .ok (.invokevirtual 264, 3) := by decide +kernel
theorem dX10_net_83 : decode cX10_net 83 = .ok (.invokestatic 115, 3) := by decide +kernel
theorem dX10_net_86 : decode cX10_net 86 = .ok (.iadd, 1) := by decide +kernel
theorem dX10_net_87 : decode cX10_net 87 = .ok (.istore_n 3, 1) := by decide +kernel
theorem dX10_net_88 : decode cX10_net 88 = .ok (.iload 4, 2) := by decide +kernel
theorem dX10_net_90 : decode cX10_net 90 = .ok (.iload 7, 2) := by decide +kernel
theorem dX10_net_92 : decode cX10_net 92 = .ok (.invokestatic 69, 3) := by decide +kernel
theorem dX10_net_95 : decode cX10_net 95 = .ok (.istore 4, 2) := by decide +kernel
theorem dX10_net_97 : decode cX10_net 97 = .ok (.iload 5, 2) := by decide +kernel
theorem dX10_net_99 : decode cX10_net 99 = .ok (.iload 7, 2) := by decide +kernel
theorem dX10_net_101 : decode cX10_net 101 = .ok (.ifCond .ne 21, 3) := by decide +kernel
theorem dX10_net_104 : decode cX10_net 104 = .ok (.aload_n 0, 1) := by decide +kernel
theorem dX10_net_105 : decode cX10_net 105 = .ok (.iload 6, 2) := by decide +kernel
theorem dX10_net_107 : decode cX10_net 107 = .ok (.iconst 3, 1) := by decide +kernel
theorem dX10_net_108 : decode cX10_net 108 = .ok (.invokevirtual 86, 3) := by decide +kernel
theorem dX10_net_111 : decode cX10_net 111 = .ok (.iconst 1, 1) := by decide +kernel
theorem dX10_net_112 : decode cX10_net 112 = .ok (.if_icmp .ne 10, 3) := by decide +kernel
theorem dX10_net_115 : decode cX10_net 115 = .ok (.iconst 1, 1) := by decide +kernel
theorem dX10_net_116 : decode cX10_net 116 = .ok (.iload 6, 2) := by decide +kernel
theorem dX10_net_118 : decode cX10_net 118 = .ok (.ishl, 1) := by decide +kernel
theorem dX10_net_119 : decode cX10_net 119 = .ok (.goto 4, 3) := by decide +kernel
theorem dX10_net_122 : decode cX10_net 122 = .ok (.iconst 0, 1) := by decide +kernel
theorem dX10_net_123 : decode cX10_net 123 = .ok (.ior, 1) := by decide +kernel
theorem dX10_net_124 : decode cX10_net 124 = .ok (.istore 5, 2) := by decide +kernel
theorem dX10_net_126 : decode cX10_net 126 = .ok (.iinc 6 1, 3) := by decide +kernel
theorem dX10_net_129 : decode cX10_net 129 = .ok (.goto (-96), 3) := by decide +kernel
theorem dX10_net_132 : decode cX10_net 132 = .ok (.iload_n 1, 1) := by decide +kernel
theorem dX10_net_133 : decode cX10_net 133 = .ok (.ifCond .ne 7, 3) := by decide +kernel
theorem dX10_net_136 : decode cX10_net 136 = .ok (.iload_n 2, 1) := by decide +kernel
theorem dX10_net_137 : decode cX10_net 137 = .ok (.goto 26, 3) := by decide +kernel
theorem dX10_net_140 : decode cX10_net 140 = .ok (.iload_n 1, 1) := by decide +kernel
theorem dX10_net_141 : decode cX10_net 141 = .ok (.iconst 1, 1) := by decide +kernel
theorem dX10_net_142 : decode cX10_net 142 = .ok (.if_icmp .ne 9, 3) := by decide +kernel
theorem dX10_net_145 : decode cX10_net 145 = .ok (.iload_n 3, 1) := by decide +kernel
theorem dX10_net_146 : decode cX10_net 146 = .ok (.iconst 2, 1) := by decide +kernel
theorem dX10_net_147 : decode cX10_net 147 = .ok (.idiv, 1) := by decide +kernel
theorem dX10_net_148 : decode cX10_net 148 = .ok (.goto 15, 3) := by decide +kernel
theorem dX10_net_151 : decode cX10_net 151 = .ok (.iload_n 1, 1) := by decide +kernel
theorem dX10_net_152 : decode cX10_net 152 = .ok (.iconst 2, 1) := by decide +kernel
theorem dX10_net_153 : decode cX10_net 153 = .ok (.if_icmp .ne 8, 3) := by decide +kernel
theorem dX10_net_156 : decode cX10_net 156 = .ok (.iload 4, 2) := by decide +kernel
theorem dX10_net_158 : decode cX10_net 158 = .ok (.goto 5, 3) := by decide +kernel
theorem dX10_net_161 : decode cX10_net 161 = .ok (.iload 5, 2) := by decide +kernel
theorem dX10_net_163 : decode cX10_net 163 = .ok (.ireturn, 1) := by decide +kernel
theorem dX10_isAhead_0 : decode cX10_isAhead 0 = .ok (.iload_n 0, 1) := by decide +kernel
theorem dX10_isAhead_1 : decode cX10_isAhead 1 = .ok (.iconst 0, 1) := by decide +kernel
theorem dX10_isAhead_2 : decode cX10_isAhead 2 = .ok (.bipush 60, 2) := by decide +kernel
theorem dX10_isAhead_4 : decode cX10_isAhead 4 = .ok (.invokestatic 72, 3) := by decide +kernel
theorem dX10_isAhead_7 : decode cX10_isAhead 7 = .ok (.ireturn, 1) := by decide +kernel
theorem dX10_then_0 : decode cX10_then 0 = .ok (.iload_n 1, 1) := by decide +kernel
theorem dX10_then_1 : decode cX10_then 1 = .ok (.invokestatic 270, 3) := by decide +kernel
theorem dX10_then_4 : decode cX10_then 4 = .ok (.ifCond .eq 22, 3) := by decide +kernel
theorem dX10_then_7 : decode cX10_then 7 = .ok (.aload_n 0, 1) := by decide +kernel
theorem dX10_then_8 : decode cX10_then 8 = .ok (.iload_n 2, 1) := by decide +kernel
theorem dX10_then_9 : decode cX10_then 9 = .ok (.iconst 0, 1) := by decide +kernel
theorem dX10_then_10 : decode cX10_then 10 = .ok (.invokevirtual 95, 3) := by decide +kernel
theorem dX10_then_13 : decode cX10_then 13 = .ok (.ifCond .eq 13, 3) := by decide +kernel
theorem dX10_then_16 : decode cX10_then 16 = .ok (.iload_n 3, 1) := by decide +kernel
theorem dX10_then_17 : decode cX10_then 17 = .ok (.iconst 0, 1) := by decide +kernel
theorem dX10_then_18 : decode cX10_then 18 = .ok (.bipush 7, 2) := by decide +kernel
theorem dX10_then_20 : decode cX10_then 20 = .ok (.invokestatic 72, 3) := by decide +kernel
theorem dX10_then_23 : decode cX10_then 23 = .ok (.ifCond .ne 10, 3) := by decide +kernel
theorem dX10_then_26 : decode cX10_then 26 = .ok (.aload_n 0, 1) := by decide +kernel
theorem dX10_then_27 : decode cX10_then 27 = .ok (.ldc 80, 2) := by decide +kernel
theorem dX10_then_29 : decode cX10_then 29 = .ok (.invokevirtual 81, 3) := by decide +kernel
theorem dX10_then_32 : decode cX10_then 32 = .ok (.ireturn, 1) := by decide +kernel
theorem dX10_then_33 : decode cX10_then 33 = .ok (.aload_n 0, 1) := by decide +kernel
theorem dX10_then_34 : decode cX10_then 34 = .ok (.getfield 9, 3) := by decide +kernel
theorem dX10_then_37 : decode cX10_then 37 = .ok (.aload_n 0, 1) := by decide +kernel
theorem dX10_then_38 : decode cX10_then 38 = .ok (.getfield 16, 3) := by decide +kernel
theorem dX10_then_41 : decode cX10_then 41 = .ok (.invokestatic 76, 3) := by decide +kernel
theorem dX10_then_44 : decode cX10_then 44 = .ok (.aload_n 0, 1) := by decide +kernel
theorem dX10_then_45 : decode cX10_then 45 = .ok (.iload_n 1, 1) := by decide +kernel
theorem dX10_then_46 : decode cX10_then 46 = .ok (.invokevirtual 249, 3) := by decide +kernel
theorem dX10_then_49 : decode cX10_then 49 = .ok (.aload_n 0, 1) := by decide +kernel
theorem dX10_then_50 : decode cX10_then 50 = .ok (.aload_n 0, 1) := by decide +kernel
theorem dX10_then_51 : decode cX10_then 51 = .ok (.iload_n 2, 1) := by decide +kernel
theorem dX10_then_52 : decode cX10_then 52 = .ok (.iload_n 3, 1) := by decide +kernel
theorem dX10_then_53 : decode cX10_then 53 = .ok (.invokevirtual 99, 3) := by decide +kernel
theorem dX10_then_56 : decode cX10_then 56 = .ok (.invokevirtual 273, 3) := by decide +kernel
theorem dX10_then_59 : decode cX10_then 59 = .ok (.ireturn, 1) := by decide +kernel
theorem dX10_sorrow_0 : decode cX10_sorrow 0 = .ok (.iload_n 1, 1) := by decide +kernel
theorem dX10_sorrow_1 : decode cX10_sorrow 1 = .ok (.invokestatic 270, 3) := by decide +kernel
theorem dX10_sorrow_4 : decode cX10_sorrow 4 = .ok (.ifCond .ne 10, 3) := by decide +kernel
theorem dX10_sorrow_7 : decode cX10_sorrow 7 = .ok (.aload_n 0, 1) := by decide +kernel
theorem dX10_sorrow_8 : decode cX10_sorrow 8 = .ok (.ldc 80, 2) := by decide +kernel
theorem dX10_sorrow_10 : decode cX10_sorrow 10 = .ok (.invokevirtual 81, 3) := by decide +kernel
theorem dX10_sorrow_13 : decode cX10_sorrow 13 = .ok (.ireturn, 1) := by decide +kernel
theorem dX10_sorrow_14 : decode cX10_sorrow 14 = .ok (.aload_n 0, 1) := by decide +kernel
theorem dX10_sorrow_15 : decode cX10_sorrow 15 = .ok (.getfield 9, 3) := by decide +kernel
theorem dX10_sorrow_18 : decode cX10_sorrow 18 = .ok (.aload_n 0, 1) := by decide +kernel
theorem dX10_sorrow_19 : decode cX10_sorrow 19 = .ok (.getfield 16, 3) := by decide +kernel
theorem dX10_sorrow_22 : decode cX10_sorrow 22 = .ok (.invokestatic 76, 3) := by decide +kernel
theorem dX10_sorrow_25 : decode cX10_sorrow 25 = .ok (.aload_n 0, 1) := by decide +kernel
theorem dX10_sorrow_26 : decode cX10_sorrow 26 = .ok (.iload_n 1, 1) := by decide +kernel
theorem dX10_sorrow_27 : decode cX10_sorrow 27 = .ok (.invokevirtual 249, 3) := by decide +kernel
theorem dX10_sorrow_30 : decode cX10_sorrow 30 = .ok (.aload_n 0, 1) := by decide +kernel
theorem dX10_sorrow_31 : decode cX10_sorrow 31 = .ok (.aload_n 0, 1) := by decide +kernel
theorem dX10_sorrow_32 : decode cX10_sorrow 32 = .ok (.invokevirtual 252, 3) := by decide +kernel
theorem dX10_sorrow_35 : decode cX10_sorrow 35 = .ok (.invokevirtual 273, 3) := by decide +kernel
theorem dX10_sorrow_38 : decode cX10_sorrow 38 = .ok (.ireturn, 1) := by decide +kernel
theorem dX10_word_0 : decode cX10_word 0 = .ok (.aload_n 0, 1) := by decide +kernel
theorem dX10_word_1 : decode cX10_word 1 = .ok (.iload_n 1, 1) := by decide +kernel
theorem dX10_word_2 : decode cX10_word 2 = .ok (.iconst 0, 1) := by decide +kernel
theorem dX10_word_3 : decode cX10_word 3 = .ok (.invokevirtual 95, 3) := by decide +kernel
theorem dX10_word_6 : decode cX10_word 6 = .ok (.ifCond .eq 10, 3) := by decide +kernel
theorem dX10_word_9 : decode cX10_word 9 = .ok (.iload_n 2, 1) := by decide +kernel
theorem dX10_word_10 : decode cX10_word 10 = .ok (.invokestatic 270, 3) := by decide +kernel
theorem dX10_word_13 : decode cX10_word 13 = .ok (.ifCond .ne 10, 3) := by decide +kernel
theorem dX10_word_16 : decode cX10_word 16 = .ok (.aload_n 0, 1) := by decide +kernel
theorem dX10_word_17 : decode cX10_word 17 = .ok (.ldc 80, 2) := by decide +kernel
theorem dX10_word_19 : decode cX10_word 19 = .ok (.invokevirtual 81, 3) := by decide +kernel
theorem dX10_word_22 : decode cX10_word 22 = .ok (.ireturn, 1) := by decide +kernel
theorem dX10_word_23 : decode cX10_word 23 = .ok (.aload_n 0, 1) := by decide +kernel
theorem dX10_word_24 : decode cX10_word 24 = .ok (.iload_n 1, 1) := by decide +kernel
theorem dX10_word_25 : decode cX10_word 25 = .ok (.iconst 4, 1) := by decide +kernel
theorem dX10_word_26 : decode cX10_word 26 = .ok (.invokevirtual 86, 3) := by decide +kernel
theorem dX10_word_29 : decode cX10_word 29 = .ok (.ifCond .lt 10, 3) := by decide +kernel
theorem dX10_word_32 : decode cX10_word 32 = .ok (.aload_n 0, 1) := by decide +kernel
theorem dX10_word_33 : decode cX10_word 33 = .ok (.ldc 122, 2) := by decide +kernel
theorem dX10_word_35 : decode cX10_word 35 = .ok (.invokevirtual 81, 3) := by decide +kernel
theorem dX10_word_38 : decode cX10_word 38 = .ok (.ireturn, 1) := by decide +kernel
theorem dX10_word_39 : decode cX10_word 39 = .ok (.aload_n 0, 1) := by decide +kernel
theorem dX10_word_40 : decode cX10_word 40 = .ok (.getfield 9, 3) := by decide +kernel
theorem dX10_word_43 : decode cX10_word 43 = .ok (.aload_n 0, 1) := by decide +kernel
theorem dX10_word_44 : decode cX10_word 44 = .ok (.getfield 16, 3) := by decide +kernel
theorem dX10_word_47 : decode cX10_word 47 = .ok (.invokestatic 76, 3) := by decide +kernel
theorem dX10_word_50 : decode cX10_word 50 = .ok (.iconst (-1), 1) := by decide +kernel
theorem dX10_word_51 : decode cX10_word 51 = .ok (.istore_n 3, 1) := by decide +kernel
theorem dX10_word_52 : decode cX10_word 52 = .ok (.iconst 0, 1) := by decide +kernel
theorem dX10_word_53 : decode cX10_word 53 = .ok (.istore 4, 2) := by decide +kernel
theorem dX10_word_55 : decode cX10_word 55 = .ok (.iconst 0, 1) := by decide +kernel
theorem dX10_word_56 : decode cX10_word 56 = .ok (.istore 5, 2) := by decide +kernel
theorem dX10_word_58 : decode cX10_word 58 = .ok (.iload 5, 2) := by decide +kernel
theorem dX10_word_60 : decode cX10_word 60 = .ok (.aload_n 0, 1) := by decide +kernel
theorem dX10_word_61 : decode cX10_word 61 = .ok (.getfield 9, 3) := by decide +kernel
theorem dX10_word_64 : decode cX10_word 64 = .ok (.iconst 0, 1) := by decide +kernel
theorem dX10_word_65 : decode cX10_word 65 = .ok (.iaload, 1) := by decide +kernel
theorem dX10_word_66 : decode cX10_word 66 = .ok (.if_icmp .ge 63, 3) := by decide +kernel
theorem dX10_word_69 : decode cX10_word 69 = .ok (.aload_n 0, 1) := by decide +kernel
theorem dX10_word_70 : decode cX10_word 70 = .ok (.iload 5, 2) := by decide +kernel
theorem dX10_word_72 : decode cX10_word 72 = .ok (.iconst 4, 1) := by decide +kernel
theorem dX10_word_73 : decode cX10_word 73 = .ok (.invokevirtual 86, 3) := by decide +kernel
theorem dX10_word_76 : decode cX10_word 76 = .ok (.istore 6, 2) := by decide +kernel
theorem dX10_word_78 : decode cX10_word 78 = .ok (.iload 6, 2) := by decide +kernel
theorem dX10_word_80 : decode cX10_word 80 = .ok (.ifCond .lt 43, 3) := by decide +kernel
theorem dX10_word_83 : decode cX10_word 83 = .ok (.aload_n 0, 1) := by decide +kernel
theorem dX10_word_84 : decode cX10_word 84 = .ok (.iload_n 1, 1) := by decide +kernel
theorem dX10_word_85 : decode cX10_word 85 = .ok (.iload 6, 2) := by decide +kernel
theorem dX10_word_87 : decode cX10_word 87 = .ok (.invokevirtual 123, 3) := by decide +kernel
theorem dX10_word_90 : decode cX10_word 90 = .ok (.aload_n 0, 1) := by decide +kernel
theorem dX10_word_91 : decode cX10_word 91 = .ok (.iload_n 2, 1) := by decide +kernel
theorem dX10_word_92 : decode cX10_word 92 = .ok (.invokevirtual 249, 3) := by decide +kernel
theorem dX10_word_95 : decode cX10_word 95 = .ok (.aload_n 0, 1) := by decide +kernel
theorem dX10_word_96 : decode cX10_word 96 = .ok (.aload_n 0, 1) := by decide +kernel
theorem dX10_word_97 : decode cX10_word 97 = .ok (.invokevirtual 252, 3) := by decide +kernel
theorem dX10_word_100 : decode cX10_word 100 = .ok (.invokevirtual 273, 3) := by decide +kernel
theorem dX10_word_103 : decode cX10_word 103 = .ok (.istore 7, 2) := by decide +kernel
theorem dX10_word_105 : decode cX10_word 105 = .ok (.iload_n 3, 1) := by decide +kernel
theorem dX10_word_106 : decode cX10_word 106 = .ok (.ifCond .lt 10, 3) := by decide +kernel
theorem dX10_word_109 : decode cX10_word 109 = .ok (.iload 7, 2) := by decide +kernel
theorem dX10_word_111 : decode cX10_word 111 = .ok (.iload 4, 2) := by decide +kernel
theorem dX10_word_113 : decode cX10_word 113 = .ok (.if_icmp .ge 10, 3) := by decide +kernel
theorem dX10_word_116 : decode cX10_word 116 = .ok (.iload 5, 2) := by decide +kernel
theorem dX10_word_118 : decode cX10_word 118 = .ok (.istore_n 3, 1) := by decide +kernel
theorem dX10_word_119 : decode cX10_word 119 = .ok (.iload 7, 2) := by decide +kernel
theorem dX10_word_121 : decode cX10_word 121 = .ok (.istore 4, 2) := by decide +kernel
theorem dX10_word_123 : decode cX10_word 123 = .ok (.iinc 5 1, 3) := by decide +kernel
theorem dX10_word_126 : decode cX10_word 126 = .ok (.goto (-68), 3) := by decide +kernel
theorem dX10_word_129 : decode cX10_word 129 = .ok (.iload_n 3, 1) := by decide +kernel
theorem dX10_word_130 : decode cX10_word 130 = .ok (.ifCond .ge 13, 3) := by decide +kernel
theorem dX10_word_133 : decode cX10_word 133 = .ok (.aload_n 0, 1) := by decide +kernel
theorem dX10_word_134 : decode cX10_word 134 = .ok (.ldc_w 276, 3) := by decide +kernel
theorem dX10_word_137 : decode cX10_word 137 = .ok (.invokevirtual 81, 3) := by decide +kernel
theorem dX10_word_140 : decode cX10_word 140 = .ok (.goto 4, 3) := by decide +kernel
theorem dX10_word_143 : decode cX10_word 143 = .ok (.iload_n 3, 1) := by decide +kernel
theorem dX10_word_144 : decode cX10_word 144 = .ok (.ireturn, 1) := by decide +kernel
theorem dX10_teach_0 : decode cX10_teach 0 = .ok (.aload_n 0, 1) := by decide +kernel
theorem dX10_teach_1 : decode cX10_teach 1 = .ok (.iload_n 1, 1) := by decide +kernel
theorem dX10_teach_2 : decode cX10_teach 2 = .ok (.iconst 0, 1) := by decide +kernel
theorem dX10_teach_3 : decode cX10_teach 3 = .ok (.invokevirtual 95, 3) := by decide +kernel
theorem dX10_teach_6 : decode cX10_teach 6 = .ok (.ifCond .eq 10, 3) := by decide +kernel
theorem dX10_teach_9 : decode cX10_teach 9 = .ok (.iload_n 2, 1) := by decide +kernel
theorem dX10_teach_10 : decode cX10_teach 10 = .ok (.invokestatic 270, 3) := by decide +kernel
theorem dX10_teach_13 : decode cX10_teach 13 = .ok (.ifCond .ne 10, 3) := by decide +kernel
theorem dX10_teach_16 : decode cX10_teach 16 = .ok (.aload_n 0, 1) := by decide +kernel
theorem dX10_teach_17 : decode cX10_teach 17 = .ok (.ldc 80, 2) := by decide +kernel
theorem dX10_teach_19 : decode cX10_teach 19 = .ok (.invokevirtual 81, 3) := by decide +kernel
theorem dX10_teach_22 : decode cX10_teach 22 = .ok (.ireturn, 1) := by decide +kernel
theorem dX10_teach_23 : decode cX10_teach 23 = .ok (.aload_n 0, 1) := by decide +kernel
theorem dX10_teach_24 : decode cX10_teach 24 = .ok (.getfield 9, 3) := by decide +kernel
theorem dX10_teach_27 : decode cX10_teach 27 = .ok (.aload_n 0, 1) := by decide +kernel
theorem dX10_teach_28 : decode cX10_teach 28 = .ok (.getfield 16, 3) := by decide +kernel
theorem dX10_teach_31 : decode cX10_teach 31 = .ok (.invokestatic 76, 3) := by decide +kernel
theorem dX10_teach_34 : decode cX10_teach 34 = .ok (.iconst (-1), 1) := by decide +kernel
theorem dX10_teach_35 : decode cX10_teach 35 = .ok (.istore_n 3, 1) := by decide +kernel
theorem dX10_teach_36 : decode cX10_teach 36 = .ok (.iconst 0, 1) := by decide +kernel
theorem dX10_teach_37 : decode cX10_teach 37 = .ok (.istore 4, 2) := by decide +kernel
theorem dX10_teach_39 : decode cX10_teach 39 = .ok (.iconst 0, 1) := by decide +kernel
theorem dX10_teach_40 : decode cX10_teach 40 = .ok (.istore 5, 2) := by decide +kernel
theorem dX10_teach_42 : decode cX10_teach 42 = .ok (.iload 5, 2) := by decide +kernel
theorem dX10_teach_44 : decode cX10_teach 44 = .ok (.bipush 6, 2) := by decide +kernel
theorem dX10_teach_46 : decode cX10_teach 46 = .ok (.if_icmp .gt 60, 3) := by decide +kernel
theorem dX10_teach_49 : decode cX10_teach 49 = .ok (.aload_n 0, 1) := by decide +kernel
theorem dX10_teach_50 : decode cX10_teach 50 = .ok (.getfield 9, 3) := by decide +kernel
theorem dX10_teach_53 : decode cX10_teach 53 = .ok (.bipush 7, 2) := by decide +kernel
theorem dX10_teach_55 : decode cX10_teach 55 = .ok (.bipush 6, 2) := by decide +kernel
theorem dX10_teach_57 : decode cX10_teach 57 = .ok (.iload_n 1, 1) := by decide +kernel
theorem dX10_teach_58 : decode cX10_teach 58 = .ok (.imul, 1) := by decide +kernel
theorem dX10_teach_59 : decode cX10_teach 59 = .ok (.iadd, 1) := by decide +kernel
theorem dX10_teach_60 : decode cX10_teach 60 = .ok (.iconst 0, 1) := by decide +kernel
theorem dX10_teach_61 : decode cX10_teach 61 = .ok (.iadd, 1) := by decide +kernel
theorem dX10_teach_62 : decode cX10_teach 62 = .ok (.iload 5, 2) := by decide +kernel
theorem dX10_teach_64 : decode cX10_teach 64 = .ok (.iastore, 1) := by decide +kernel
theorem dX10_teach_65 : decode cX10_teach 65 = .ok (.aload_n 0, 1) := by decide +kernel
theorem dX10_teach_66 : decode cX10_teach 66 = .ok (.iload_n 2, 1) := by decide +kernel
theorem dX10_teach_67 : decode cX10_teach 67 = .ok (.invokevirtual 249, 3) := by decide +kernel
theorem dX10_teach_70 : decode cX10_teach 70 = .ok (.aload_n 0, 1) := by decide +kernel
theorem dX10_teach_71 : decode cX10_teach 71 = .ok (.aload_n 0, 1) := by decide +kernel
theorem dX10_teach_72 : decode cX10_teach 72 = .ok (.iload_n 1, 1) := by decide +kernel
theorem dX10_teach_73 : decode cX10_teach 73 = .ok (.iconst 5, 1) := by decide +kernel
theorem dX10_teach_74 : decode cX10_teach 74 = .ok (.invokevirtual 86, 3) := by decide +kernel
theorem dX10_teach_77 : decode cX10_teach 77 = .ok (.invokevirtual 273, 3) := by decide +kernel
theorem dX10_teach_80 : decode cX10_teach 80 = .ok (.istore 6, 2) := by decide +kernel
theorem dX10_teach_82 : decode cX10_teach 82 = .ok (.iload_n 3, 1) := by decide +kernel
theorem dX10_teach_83 : decode cX10_teach 83 = .ok (.ifCond .lt 10, 3) := by decide +kernel
theorem dX10_teach_86 : decode cX10_teach 86 = .ok (.iload 6, 2) := by decide +kernel
theorem dX10_teach_88 : decode cX10_teach 88 = .ok (.iload 4, 2) := by decide +kernel
theorem dX10_teach_90 : decode cX10_teach 90 = .ok (.if_icmp .ge 10, 3) := by decide +kernel
theorem dX10_teach_93 : decode cX10_teach 93 = .ok (.iload 5, 2) := by decide +kernel
theorem dX10_teach_95 : decode cX10_teach 95 = .ok (.istore_n 3, 1) := by decide +kernel
theorem dX10_teach_96 : decode cX10_teach 96 = .ok (.iload 6, 2) := by decide +kernel
theorem dX10_teach_98 : decode cX10_teach 98 = .ok (.istore 4, 2) := by decide +kernel
theorem dX10_teach_100 : decode cX10_teach 100 = .ok (.iinc 5 1, 3) := by decide +kernel
theorem dX10_teach_103 : decode cX10_teach 103 = .ok (.goto (-61), 3) := by decide +kernel
theorem dX10_teach_106 : decode cX10_teach 106 = .ok (.iload_n 3, 1) := by decide +kernel
theorem dX10_teach_107 : decode cX10_teach 107 = .ok (.ireturn, 1) := by decide +kernel
theorem dX10_nobodyIn_0 : decode cX10_nobodyIn 0 = .ok (.iconst 0, 1) := by decide +kernel
theorem dX10_nobodyIn_1 : decode cX10_nobodyIn 1 = .ok (.istore_n 2, 1) := by decide +kernel
theorem dX10_nobodyIn_2 : decode cX10_nobodyIn 2 = .ok (.iconst 0, 1) := by decide +kernel
theorem dX10_nobodyIn_3 : decode cX10_nobodyIn 3 = .ok (.istore_n 3, 1) := by decide +kernel
theorem dX10_nobodyIn_4 : decode cX10_nobodyIn 4 = .ok (.iload_n 3, 1) := by decide +kernel
theorem dX10_nobodyIn_5 : decode cX10_nobodyIn 5 = .ok (.aload_n 0, 1) := by decide +kernel
theorem dX10_nobodyIn_6 : decode cX10_nobodyIn 6 = .ok (.getfield 9, 3) := by decide +kernel
theorem dX10_nobodyIn_9 : decode cX10_nobodyIn 9 = .ok (.iconst 0, 1) := by decide +kernel
theorem dX10_nobodyIn_10 : decode cX10_nobodyIn 10 = .ok (.iaload, 1) := by decide +kernel
theorem dX10_nobodyIn_11 : decode cX10_nobodyIn 11 = .ok (.if_icmp .ge 55, 3) := by decide +kernel
theorem dX10_nobodyIn_14 : decode cX10_nobodyIn 14 = .ok (.iload_n 1, 1) := by decide +kernel
theorem dX10_nobodyIn_15 : decode cX10_nobodyIn 15 = .ok (.iload_n 3, 1) := by decide +kernel
theorem dX10_nobodyIn_16 : decode cX10_nobodyIn 16 = .ok (.invokestatic 127, 3) := by decide +kernel
theorem dX10_nobodyIn_19 : decode cX10_nobodyIn 19 = .ok (.ifCond .eq 7, 3) := by decide +kernel
theorem dX10_nobodyIn_22 : decode cX10_nobodyIn 22 = .ok (.iload_n 1, 1) := by decide +kernel
theorem dX10_nobodyIn_23 : decode cX10_nobodyIn 23 = .ok (.goto 6, 3) := by decide +kernel
theorem dX10_nobodyIn_26 : decode cX10_nobodyIn 26 = .ok (.iload_n 1, 1) := by decide +kernel
theorem dX10_nobodyIn_27 : decode cX10_nobodyIn 27 = .ok (.iconst (-1), 1) := by decide +kernel
theorem dX10_nobodyIn_28 : decode cX10_nobodyIn 28 = .ok (.ixor, 1) := by decide +kernel
theorem dX10_nobodyIn_29 : decode cX10_nobodyIn 29 = .ok (.istore 4, 2) := by decide +kernel
theorem dX10_nobodyIn_31 : decode cX10_nobodyIn 31 = .ok (.iload_n 2, 1) := by decide +kernel
theorem dX10_nobodyIn_32 : decode cX10_nobodyIn 32 = .ok (.aload_n 0, 1) := by decide +kernel
theorem dX10_nobodyIn_33 : decode cX10_nobodyIn 33 = .ok (.iload_n 3, 1) := by decide +kernel
theorem dX10_nobodyIn_34 : decode cX10_nobodyIn 34 = .ok (.iconst 3, 1) := by decide +kernel
theorem dX10_nobodyIn_35 : decode cX10_nobodyIn 35 = .ok (.invokevirtual 86, 3) := by decide +kernel
theorem dX10_nobodyIn_38 : decode cX10_nobodyIn 38 = .ok (.iconst 1, 1) := by decide +kernel
theorem dX10_nobodyIn_39 : decode cX10_nobodyIn 39 = .ok (.if_icmp .ne 18, 3) := by decide +kernel
theorem dX10_nobodyIn_42 : decode cX10_nobodyIn 42 = .ok (.aload_n 0, 1) := by decide +kernel
theorem dX10_nobodyIn_43 : decode cX10_nobodyIn 43 = .ok (.iload_n 3, 1) := by decide +kernel
theorem dX10_nobodyIn_44 : decode cX10_nobodyIn 44 = .ok (.invokevirtual 264, 3) := by decide +kernel
theorem dX10_nobodyIn_47 : decode cX10_nobodyIn 47 = .ok (.iload 4, 2) := by decide +kernel
theorem dX10_nobodyIn_49 : decode cX10_nobodyIn 49 = .ok (.iand, 1) := by decide +kernel
theorem dX10_nobodyIn_50 : decode cX10_nobodyIn 50 = .ok (.ifCond .ne 7, 3) := by decide +kernel
theorem dX10_nobodyIn_53 : decode cX10_nobodyIn 53 = .ok (.iconst 1, 1) := by decide +kernel
theorem dX10_nobodyIn_54 : decode cX10_nobodyIn 54 = .ok (.goto 4, 3) := by decide +kernel
theorem dX10_nobodyIn_57 : decode cX10_nobodyIn 57 = .ok (.iconst 0, 1) := by decide +kernel
theorem dX10_nobodyIn_58 : decode cX10_nobodyIn 58 = .ok (.iadd, 1) := by decide +kernel
theorem dX10_nobodyIn_59 : decode cX10_nobodyIn 59 = .ok (.istore_n 2, 1) := by decide +kernel
theorem dX10_nobodyIn_60 : decode cX10_nobodyIn 60 = .ok (.iinc 3 1, 3) := by decide +kernel
theorem dX10_nobodyIn_63 : decode cX10_nobodyIn 63 = .ok (.goto (-59), 3) := by decide +kernel
theorem dX10_nobodyIn_66 : decode cX10_nobodyIn 66 = .ok (.iload_n 2, 1) := by decide +kernel
theorem dX10_nobodyIn_67 : decode cX10_nobodyIn 67 = .ok (.ireturn, 1) := by decide +kernel
theorem dX10_classes_0 : decode cX10_classes 0 = .ok (.iload_n 1, 1) := by decide +kernel
theorem dX10_classes_1 : decode cX10_classes 1 = .ok (.iconst 0, 1) := by decide +kernel
theorem dX10_classes_2 : decode cX10_classes 2 = .ok (.iconst 1, 1) := by decide +kernel
theorem dX10_classes_3 : decode cX10_classes 3 = .ok (.invokestatic 72, 3) := by decide +kernel
theorem dX10_classes_6 : decode cX10_classes 6 = .ok (.ifCond .ne 10, 3) := by decide +kernel
theorem dX10_classes_9 : decode cX10_classes 9 = .ok (.aload_n 0, 1) := by decide +kernel
theorem dX10_classes_10 : decode cX10_classes 10 = .ok (.ldc 80, 2) := by decide +kernel
theorem dX10_classes_12 : decode cX10_classes 12 = .ok (.invokevirtual 81, 3) := by decide +kernel
theorem dX10_classes_15 : decode cX10_classes 15 = .ok (.ireturn, 1) := by decide +kernel
theorem dX10_classes_16 : decode cX10_classes 16 = .ok (.aload_n 0, 1) := by decide +kernel
theorem dX10_classes_17 : decode cX10_classes 17 = .ok (.getfield 9, 3) := by decide +kernel
theorem dX10_classes_20 : decode cX10_classes 20 = .ok (.iconst 0, 1) := by decide +kernel
theorem dX10_classes_21 : decode cX10_classes 21 = .ok (.iaload, 1) := by decide +kernel
theorem dX10_classes_22 : decode cX10_classes 22 = .ok (.istore_n 2, 1) := by decide +kernel
theorem dX10_classes_23 : decode cX10_classes 23 = .ok (.iload_n 2, 1) := by decide +kernel
theorem dX10_classes_24 : decode cX10_classes 24 = .ok (.iconst 2, 1) := by decide +kernel
theorem dX10_classes_25 : decode cX10_classes 25 = .ok (.if_icmp .ge 11, 3) := by decide +kernel
theorem dX10_classes_28 : decode cX10_classes 28 = .ok (.aload_n 0, 1) := by decide +kernel
theorem dX10_classes_29 : decode cX10_classes 29 = .ok (.ldc_w 276, 3) := by decide +kernel
theorem dX10_classes_32 : decode cX10_classes 32 = .ok (.invokevirtual 81, 3) := by decide +kernel
theorem dX10_classes_35 : decode cX10_classes 35 = .ok (.ireturn, 1) := by decide +kernel
theorem dX10_classes_36 : decode cX10_classes 36 = .ok (.aload_n 0, 1) := by decide +kernel
theorem dX10_classes_37 : decode cX10_classes 37 = .ok (.invokevirtual 261, 3) := by decide +kernel
theorem dX10_classes_40 : decode cX10_classes 40 = .ok (.iconst (-1), 1) := by decide +kernel
theorem dX10_classes_41 : decode cX10_classes 41 = .ok (.istore_n 3, 1) := by decide +kernel
theorem dX10_classes_42 : decode cX10_classes 42 = .ok (.iconst 0, 1) := by decide +kernel
theorem dX10_classes_43 : decode cX10_classes 43 = .ok (.istore 4, 2) := by decide +kernel
theorem dX10_classes_45 : decode cX10_classes 45 = .ok (.iconst 0, 1) := by decide +kernel
theorem dX10_classes_46 : decode cX10_classes 46 = .ok (.istore 5, 2) := by decide +kernel
theorem dX10_classes_48 : decode cX10_classes 48 = .ok (.iload 5, 2) := by decide +kernel
theorem dX10_classes_50 : decode cX10_classes 50 = .ok (.iconst 1, 1) := by decide +kernel
theorem dX10_classes_51 : decode cX10_classes 51 = .ok (.iload_n 2, 1) := by decide +kernel
theorem dX10_classes_52 : decode cX10_classes 52 = .ok (.ishl, 1) := by decide +kernel
theorem dX10_classes_53 : decode cX10_classes 53 = .ok (.if_icmp .ge 81, 3) := by decide +kernel
theorem dX10_classes_56 : decode cX10_classes 56 = .ok (.iload 5, 2) := by decide +kernel
theorem dX10_classes_58 : decode cX10_classes 58 = .ok (.invokestatic 115, 3) := by decide +kernel
theorem dX10_classes_61 : decode cX10_classes 61 = .ok (.istore 6, 2) := by decide +kernel
theorem dX10_classes_63 : decode cX10_classes 63 = .ok (.iload 6, 2) := by decide +kernel
theorem dX10_classes_65 : decode cX10_classes 65 = .ok (.iload_n 2, 1) := by decide +kernel
theorem dX10_classes_66 : decode cX10_classes 66 = .ok (.iconst 2, 1) := by decide +kernel
theorem dX10_classes_67 : decode cX10_classes 67 = .ok (.idiv, 1) := by decide +kernel
theorem dX10_classes_68 : decode cX10_classes 68 = .ok (.if_icmp .lt 17, 3) := by decide +kernel
theorem dX10_classes_71 : decode cX10_classes 71 = .ok (.iload_n 2, 1) := by decide +kernel
theorem dX10_classes_72 : decode cX10_classes 72 = .ok (.iload 6, 2) := by decide +kernel
theorem dX10_classes_74 : decode cX10_classes 74 = .ok (.isub, 1) := by decide +kernel
theorem dX10_classes_75 : decode cX10_classes 75 = .ok (.iload_n 2, 1) := by decide +kernel
theorem dX10_classes_76 : decode cX10_classes 76 = .ok (.iconst 2, 1) := by decide +kernel
theorem dX10_classes_77 : decode cX10_classes 77 = .ok (.idiv, 1) := by decide +kernel
theorem dX10_classes_78 : decode cX10_classes 78 = .ok (.if_icmp .lt 7, 3) := by decide +kernel
theorem dX10_classes_81 : decode cX10_classes 81 = .ok (.iconst 1, 1) := by decide +kernel
theorem dX10_classes_82 : decode cX10_classes 82 = .ok (.goto 4, 3) := by decide +kernel
theorem dX10_classes_85 : decode cX10_classes 85 = .ok (.iconst 0, 1) := by decide +kernel
theorem dX10_classes_86 : decode cX10_classes 86 = .ok (.istore 7, 2) := by decide +kernel
theorem dX10_classes_88 : decode cX10_classes 88 = .ok (.iload 7, 2) := by decide +kernel
theorem dX10_classes_90 : decode cX10_classes 90 = .ok (.ifCond .eq 12, 3) := by decide +kernel
theorem dX10_classes_93 : decode cX10_classes 93 = .ok (.aload_n 0, 1) := by decide +kernel
theorem dX10_classes_94 : decode cX10_classes 94 = .ok (.iload 5, 2) := by decide +kernel
theorem dX10_classes_96 : decode cX10_classes 96 = .ok (.invokevirtual 277, 3) := by decide +kernel
theorem dX10_classes_99 : decode cX10_classes 99 = .ok (.goto 4, 3) := by decide +kernel
theorem dX10_classes_102 : decode cX10_classes 102 = .ok (.iconst 0, 1) := by decide +kernel
theorem dX10_classes_103 : decode cX10_classes 103 = .ok (.istore 8, 2) := by decide +kernel
theorem dX10_classes_105 : decode cX10_classes 105 = .ok (.iload 7, 2) := by decide +kernel
theorem dX10_classes_107 : decode cX10_classes 107 = .ok (.ifCond .eq 21, 3) := by decide +kernel
theorem dX10_classes_110 : decode cX10_classes 110 = .ok (.iload_n 3, 1) := by decide +kernel
theorem dX10_classes_111 : decode cX10_classes 111 = .ok (.ifCond .lt 10, 3) := by decide +kernel
theorem dX10_classes_114 : decode cX10_classes 114 = .ok (.iload 8, 2) := by decide +kernel
theorem dX10_classes_116 : decode cX10_classes 116 = .ok (.iload 4, 2) := by decide +kernel
theorem dX10_classes_118 : decode cX10_classes 118 = .ok (.if_icmp .ge 10, 3) := by decide +kernel
theorem dX10_classes_121 : decode cX10_classes 121 = .ok (.iload 5, 2) := by decide +kernel
theorem dX10_classes_123 : decode cX10_classes 123 = .ok (.istore_n 3, 1) := by decide +kernel
theorem dX10_classes_124 : decode cX10_classes 124 = .ok (.iload 8, 2) := by decide +kernel
theorem dX10_classes_126 : decode cX10_classes 126 = .ok (.istore 4, 2) := by decide +kernel
theorem dX10_classes_128 : decode cX10_classes 128 = .ok (.iinc 5 2, 3) := by decide +kernel
theorem dX10_classes_131 : decode cX10_classes 131 = .ok (.goto (-83), 3) := by decide +kernel
theorem dX10_classes_134 : decode cX10_classes 134 = .ok (.iload_n 1, 1) := by decide +kernel
theorem dX10_classes_135 : decode cX10_classes 135 = .ok (.ifCond .ne 7, 3) := by decide +kernel
theorem dX10_classes_138 : decode cX10_classes 138 = .ok (.iload_n 3, 1) := by decide +kernel
theorem dX10_classes_139 : decode cX10_classes 139 = .ok (.goto 5, 3) := by decide +kernel
theorem dX10_classes_142 : decode cX10_classes 142 = .ok (.iload 4, 2) := by decide +kernel
theorem dX10_classes_144 : decode cX10_classes 144 = .ok (.ireturn, 1) := by decide +kernel
theorem dX10_best_0 : decode cX10_best 0 = .ok (.aload_n 0, 1) := by decide +kernel
theorem dX10_best_1 : decode cX10_best 1 = .ok (.iload_n 1, 1) := by decide +kernel
theorem dX10_best_2 : decode cX10_best 2 = .ok (.iconst 0, 1) := by decide +kernel
theorem dX10_best_3 : decode cX10_best 3 = .ok (.invokevirtual 95, 3) := by decide +kernel
theorem dX10_best_6 : decode cX10_best 6 = .ok (.ifCond .ne 10, 3) := by decide +kernel
theorem dX10_best_9 : decode cX10_best 9 = .ok (.aload_n 0, 1) := by decide +kernel
theorem dX10_best_10 : decode cX10_best 10 = .ok (.ldc 80, 2) := by decide +kernel
theorem dX10_best_12 : decode cX10_best 12 = .ok (.invokevirtual 81, 3) := by decide +kernel
theorem dX10_best_15 : decode cX10_best 15 = .ok (.ireturn, 1) := by decide +kernel
theorem dX10_best_16 : decode cX10_best 16 = .ok (.aload_n 0, 1) := by decide +kernel
theorem dX10_best_17 : decode cX10_best 17 = .ok (.iload_n 1, 1) := by decide +kernel
theorem dX10_best_18 : decode cX10_best 18 = .ok (.invokevirtual 233, 3) := by decide +kernel
theorem dX10_best_21 : decode cX10_best 21 = .ok (.istore_n 2, 1) := by decide +kernel
theorem dX10_best_22 : decode cX10_best 22 = .ok (.iload_n 2, 1) := by decide +kernel
theorem dX10_best_23 : decode cX10_best 23 = .ok (.ifCond .ge 13, 3) := by decide +kernel
theorem dX10_best_26 : decode cX10_best 26 = .ok (.aload_n 0, 1) := by decide +kernel
theorem dX10_best_27 : decode cX10_best 27 = .ok (.ldc_w 276, 3) := by decide +kernel
theorem dX10_best_30 : decode cX10_best 30 = .ok (.invokevirtual 81, 3) := by decide +kernel
theorem dX10_best_33 : decode cX10_best 33 = .ok (.goto 4, 3) := by decide +kernel
theorem dX10_best_36 : decode cX10_best 36 = .ok (.iload_n 2, 1) := by decide +kernel
theorem dX10_best_37 : decode cX10_best 37 = .ok (.ireturn, 1) := by decide +kernel
theorem dX10_began_0 : decode cX10_began 0 = .ok (.aload_n 0, 1) := by decide +kernel
theorem dX10_began_1 : decode cX10_began 1 = .ok (.getfield 280, 3) := by decide +kernel
theorem dX10_began_4 : decode cX10_began 4 = .ok (.bipush 30, 2) := by decide +kernel
theorem dX10_began_6 : decode cX10_began 6 = .ok (.if_icmp .ge 23, 3) := by decide +kernel
theorem dX10_began_9 : decode cX10_began 9 = .ok (.aload_n 0, 1) := by decide +kernel
theorem dX10_began_10 : decode cX10_began 10 = .ok (.getfield 47, 3) := by decide +kernel
theorem dX10_began_13 : decode cX10_began 13 = .ok (.aload_n 0, 1) := by decide +kernel
theorem dX10_began_14 : decode cX10_began 14 = .ok (.getfield 280, 3) := by decide +kernel
theorem dX10_began_17 : decode cX10_began 17 = .ok (.iload_n 1, 1) := by decide +kernel
theorem dX10_began_18 : decode cX10_began 18 = .ok (.iastore, 1) := by decide +kernel
theorem dX10_began_19 : decode cX10_began 19 = .ok (.aload_n 0, 1) := by decide +kernel
theorem dX10_began_20 : decode cX10_began 20 = .ok (.dup, 1) := by decide +kernel
theorem dX10_began_21 : decode cX10_began 21 = .ok (.getfield 280, 3) := by decide +kernel
theorem dX10_began_24 : decode cX10_began 24 = .ok (.iconst 1, 1) := by decide +kernel
theorem dX10_began_25 : decode cX10_began 25 = .ok (.iadd, 1) := by decide +kernel
theorem dX10_began_26 : decode cX10_began 26 = .ok (.putfield 280, 3) := by decide +kernel
theorem dX10_began_29 : decode cX10_began 29 = .ok (.return_, 1) := by decide +kernel
theorem dX10_hasOwn_0 : decode cX10_hasOwn 0 = .ok (.iload_n 0, 1) := by decide +kernel
theorem dX10_hasOwn_1 : decode cX10_hasOwn 1 = .ok (.tableswitch 93 0 5 #[39, 41, 56, 67, 78, 56], 39) := by decide +kernel
theorem dX10_hasOwn_40 : decode cX10_hasOwn 40 = .ok (.iconst 1, 1) := by decide +kernel
theorem dX10_hasOwn_41 : decode cX10_hasOwn 41 = .ok (.ireturn, 1) := by decide +kernel
theorem dX10_hasOwn_42 : decode cX10_hasOwn 42 = .ok (.iload_n 1, 1) := by decide +kernel
theorem dX10_hasOwn_43 : decode cX10_hasOwn 43 = .ok (.ifCond .eq 8, 3) := by decide +kernel
theorem dX10_hasOwn_46 : decode cX10_hasOwn 46 = .ok (.iload_n 1, 1) := by decide +kernel
theorem dX10_hasOwn_47 : decode cX10_hasOwn 47 = .ok (.iconst 3, 1) := by decide +kernel
theorem dX10_hasOwn_48 : decode cX10_hasOwn 48 = .ok (.if_icmp .ne 7, 3) := by decide +kernel
theorem dX10_hasOwn_51 : decode cX10_hasOwn 51 = .ok (.iconst 1, 1) := by decide +kernel
theorem dX10_hasOwn_52 : decode cX10_hasOwn 52 = .ok (.goto 4, 3) := by decide +kernel
theorem dX10_hasOwn_55 : decode cX10_hasOwn 55 = .ok (.iconst 0, 1) := by decide +kernel
theorem dX10_hasOwn_56 : decode cX10_hasOwn 56 = .ok (.ireturn, 1) := by decide +kernel
theorem dX10_hasOwn_57 : decode cX10_hasOwn 57 = .ok (.iload_n 1, 1) := by decide +kernel
theorem dX10_hasOwn_58 : decode cX10_hasOwn 58 = .ok (.iconst 1, 1) := by decide +kernel
theorem dX10_hasOwn_59 : decode cX10_hasOwn 59 = .ok (.if_icmp .ne 7, 3) := by decide +kernel
theorem dX10_hasOwn_62 : decode cX10_hasOwn 62 = .ok (.iconst 1, 1) := by decide +kernel
theorem dX10_hasOwn_63 : decode cX10_hasOwn 63 = .ok (.goto 4, 3) := by decide +kernel
theorem dX10_hasOwn_66 : decode cX10_hasOwn 66 = .ok (.iconst 0, 1) := by decide +kernel
theorem dX10_hasOwn_67 : decode cX10_hasOwn 67 = .ok (.ireturn, 1) := by decide +kernel
theorem dX10_hasOwn_68 : decode cX10_hasOwn 68 = .ok (.iload_n 1, 1) := by decide +kernel
theorem dX10_hasOwn_69 : decode cX10_hasOwn 69 = .ok (.iconst 2, 1) := by decide +kernel
theorem dX10_hasOwn_70 : decode cX10_hasOwn 70 = .ok (.if_icmp .ne 7, 3) := by decide +kernel
theorem dX10_hasOwn_73 : decode cX10_hasOwn 73 = .ok (.iconst 1, 1) := by decide +kernel
theorem dX10_hasOwn_74 : decode cX10_hasOwn 74 = .ok (.goto 4, 3) := by decide +kernel
theorem dX10_hasOwn_77 : decode cX10_hasOwn 77 = .ok (.iconst 0, 1) := by decide +kernel
theorem dX10_hasOwn_78 : decode cX10_hasOwn 78 = .ok (.ireturn, 1) := by decide +kernel
theorem dX10_hasOwn_79 : decode cX10_hasOwn 79 = .ok (.iload_n 1, 1) := by decide +kernel
theorem dX10_hasOwn_80 : decode cX10_hasOwn 80 = .ok (.ifCond .eq 8, 3) := by decide +kernel
theorem dX10_hasOwn_83 : decode cX10_hasOwn 83 = .ok (.iload_n 1, 1) := by decide +kernel
theorem dX10_hasOwn_84 : decode cX10_hasOwn 84 = .ok (.iconst 2, 1) := by decide +kernel
theorem dX10_hasOwn_85 : decode cX10_hasOwn 85 = .ok (.if_icmp .ne 7, 3) := by decide +kernel
theorem dX10_hasOwn_88 : decode cX10_hasOwn 88 = .ok (.iconst 1, 1) := by decide +kernel
theorem dX10_hasOwn_89 : decode cX10_hasOwn 89 = .ok (.goto 4, 3) := by decide +kernel
theorem dX10_hasOwn_92 : decode cX10_hasOwn 92 = .ok (.iconst 0, 1) := by decide +kernel
theorem dX10_hasOwn_93 : decode cX10_hasOwn 93 = .ok (.ireturn, 1) := by decide +kernel
theorem dX10_hasOwn_94 : decode cX10_hasOwn 94 = .ok (.iload_n 1, 1) := by decide +kernel
theorem dX10_hasOwn_95 : decode cX10_hasOwn 95 = .ok (.iconst 2, 1) := by decide +kernel
theorem dX10_hasOwn_96 : decode cX10_hasOwn 96 = .ok (.if_icmp .ge 7, 3) := by decide +kernel
theorem dX10_hasOwn_99 : decode cX10_hasOwn 99 = .ok (.iconst 1, 1) := by decide +kernel
theorem dX10_hasOwn_100 : decode cX10_hasOwn 100 = .ok (.goto 4, 3) := by decide +kernel
