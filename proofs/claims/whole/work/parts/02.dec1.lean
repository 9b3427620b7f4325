theorem dX0_init_0 : decode cX0_init 0 = .ok (.aload_n 0, 1) := by decide +kernel
theorem dX0_init_1 : decode cX0_init 1 = .ok (.invokespecial 3, 3) := by decide +kernel
theorem dX0_init_4 : decode cX0_init 4 = .ok (.aload_n 0, 1) := by decide +kernel
theorem dX0_init_5 : decode cX0_init 5 = .ok (.iconst (-1), 1) := by decide +kernel
theorem dX0_init_6 : decode cX0_init 6 = .ok (.putfield 9, 3) := by decide +kernel
theorem dX0_init_9 : decode cX0_init 9 = .ok (.aload_n 0, 1) := by decide +kernel
theorem dX0_init_10 : decode cX0_init 10 = .ok (.bipush 10, 2) := by decide +kernel
theorem dX0_init_12 : decode cX0_init 12 = .ok (.newarray .int, 2) := by decide +kernel
theorem dX0_init_14 : decode cX0_init 14 = .ok (.putfield 15, 3) := by decide +kernel
theorem dX0_init_17 : decode cX0_init 17 = .ok (.aload_n 0, 1) := by decide +kernel
theorem dX0_init_18 : decode cX0_init 18 = .ok (.iconst 5, 1) := by decide +kernel
theorem dX0_init_19 : decode cX0_init 19 = .ok (.newarray .int, 2) := by decide +kernel
theorem dX0_init_21 : decode cX0_init 21 = .ok (.putfield 19, 3) := by decide +kernel
theorem dX0_init_24 : decode cX0_init 24 = .ok (.return_, 1) := by decide +kernel
theorem dX0_takeFrom_0 : decode cX0_takeFrom 0 = .ok (.aload_n 0, 1) := by decide +kernel
theorem dX0_takeFrom_1 : decode cX0_takeFrom 1 = .ok (.aload_n 1, 1) := by decide +kernel
theorem dX0_takeFrom_2 : decode cX0_takeFrom 2 = .ok (.getfield 22, 3) := by decide +kernel
theorem dX0_takeFrom_5 : decode cX0_takeFrom 5 = .ok (.putfield 22, 3) := by decide +kernel
theorem dX0_takeFrom_8 : decode cX0_takeFrom 8 = .ok (.aload_n 0, 1) := by decide +kernel
theorem dX0_takeFrom_9 : decode cX0_takeFrom 9 = .ok (.aload_n 1, 1) := by decide +kernel
theorem dX0_takeFrom_10 : decode cX0_takeFrom 10 = .ok (.getfield 25, 3) := by decide +kernel
theorem dX0_takeFrom_13 : decode cX0_takeFrom 13 = .ok (.putfield 25, 3) := by decide +kernel
theorem dX0_takeFrom_16 : decode cX0_takeFrom 16 = .ok (.aload_n 0, 1) := by decide +kernel
theorem dX0_takeFrom_17 : decode cX0_takeFrom 17 = .ok (.aload_n 1, 1) := by decide +kernel
theorem dX0_takeFrom_18 : decode cX0_takeFrom 18 = .ok (.getfield 28, 3) := by decide +kernel
theorem dX0_takeFrom_21 : decode cX0_takeFrom 21 = .ok (.putfield 28, 3) := by decide +kernel
theorem dX0_takeFrom_24 : decode cX0_takeFrom 24 = .ok (.aload_n 0, 1) := by decide +kernel
theorem dX0_takeFrom_25 : decode cX0_takeFrom 25 = .ok (.aload_n 1, 1) := by decide +kernel
theorem dX0_takeFrom_26 : decode cX0_takeFrom 26 = .ok (.getfield 31, 3) := by decide +kernel
theorem dX0_takeFrom_29 : decode cX0_takeFrom 29 = .ok (.putfield 31, 3) := by decide +kernel
theorem dX0_takeFrom_32 : decode cX0_takeFrom 32 = .ok (.aload_n 0, 1) := by decide +kernel
theorem dX0_takeFrom_33 : decode cX0_takeFrom 33 = .ok (.aload_n 1, 1) := by decide +kernel
theorem dX0_takeFrom_34 : decode cX0_takeFrom 34 = .ok (.getfield 9, 3) := by decide +kernel
theorem dX0_takeFrom_37 : decode cX0_takeFrom 37 = .ok (.putfield 9, 3) := by decide +kernel
theorem dX0_takeFrom_40 : decode cX0_takeFrom 40 = .ok (.aload_n 0, 1) := by decide +kernel
theorem dX0_takeFrom_41 : decode cX0_takeFrom 41 = .ok (.aload_n 1, 1) := by decide +kernel
theorem dX0_takeFrom_42 : decode cX0_takeFrom 42 = .ok (.getfield 34, 3) := by decide +kernel
theorem dX0_takeFrom_45 : decode cX0_takeFrom 45 = .ok (.putfield 34, 3) := by decide +kernel
theorem dX0_takeFrom_48 : decode cX0_takeFrom 48 = .ok (.aload_n 1, 1) := by decide +kernel
theorem dX0_takeFrom_49 : decode cX0_takeFrom 49 = .ok (.getfield 15, 3) := by decide +kernel
theorem dX0_takeFrom_52 : decode cX0_takeFrom 52 = .ok (.iconst 0, 1) := by decide +kernel
theorem dX0_takeFrom_53 : decode cX0_takeFrom 53 = .ok (.aload_n 0, 1) := by decide +kernel
theorem dX0_takeFrom_54 : decode cX0_takeFrom 54 = .ok (.getfield 15, 3) := by decide +kernel
theorem dX0_takeFrom_57 : decode cX0_takeFrom 57 = .ok (.iconst 0, 1) := by decide +kernel
theorem dX0_takeFrom_58 : decode cX0_takeFrom 58 = .ok (.bipush 10, 2) := by decide +kernel
theorem dX0_takeFrom_60 : decode cX0_takeFrom 60 = .ok (.invokestatic 37, 3) := by decide +kernel
theorem dX0_takeFrom_63 : decode cX0_takeFrom 63 = .ok (.aload_n 1, 1) := by decide +kernel
theorem dX0_takeFrom_64 : decode cX0_takeFrom 64 = .ok (.getfield 19, 3) := by decide +kernel
theorem dX0_takeFrom_67 : decode cX0_takeFrom 67 = .ok (.iconst 0, 1) := by decide +kernel
theorem dX0_takeFrom_68 : decode cX0_takeFrom 68 = .ok (.aload_n 0, 1) := by decide +kernel
theorem dX0_takeFrom_69 : decode cX0_takeFrom 69 = .ok (.getfield 19, 3) := by decide +kernel
theorem dX0_takeFrom_72 : decode cX0_takeFrom 72 = .ok (.iconst 0, 1) := by decide +kernel
theorem dX0_takeFrom_73 : decode cX0_takeFrom 73 = .ok (.iconst 5, 1) := by decide +kernel
theorem dX0_takeFrom_74 : decode cX0_takeFrom 74 = .ok (.invokestatic 37, 3) := by decide +kernel
theorem dX0_takeFrom_77 : decode cX0_takeFrom 77 = .ok (.return_, 1) := by decide +kernel
theorem dX1_init_0 : decode cX1_init 0 = .ok (.aload_n 0, 1) := by decide +kernel
theorem dX1_init_1 : decode cX1_init 1 = .ok (.invokespecial 3, 3) := by decide +kernel
theorem dX1_init_4 : decode cX1_init 4 = .ok (.aload_n 0, 1) := by decide +kernel
theorem dX1_init_5 : decode cX1_init 5 = .ok (.bipush 10, 2) := by decide +kernel
theorem dX1_init_7 : decode cX1_init 7 = .ok (.newarray .int, 2) := by decide +kernel
theorem dX1_init_9 : decode cX1_init 9 = .ok (.putfield 9, 3) := by decide +kernel
theorem dX1_init_12 : decode cX1_init 12 = .ok (.aload_n 0, 1) := by decide +kernel
theorem dX1_init_13 : decode cX1_init 13 = .ok (.bipush 10, 2) := by decide +kernel
theorem dX1_init_15 : decode cX1_init 15 = .ok (.newarray .int, 2) := by decide +kernel
theorem dX1_init_17 : decode cX1_init 17 = .ok (.putfield 15, 3) := by decide +kernel
theorem dX1_init_20 : decode cX1_init 20 = .ok (.return_, 1) := by decide +kernel
theorem dX1_look_0 : decode cX1_look 0 = .ok (.aload_n 0, 1) := by decide +kernel
theorem dX1_look_1 : decode cX1_look 1 = .ok (.aload_n 1, 1) := by decide +kernel
theorem dX1_look_2 : decode cX1_look 2 = .ok (.getfield 18, 3) := by decide +kernel
theorem dX1_look_5 : decode cX1_look 5 = .ok (.putfield 24, 3) := by decide +kernel
theorem dX1_look_8 : decode cX1_look 8 = .ok (.aload_n 0, 1) := by decide +kernel
theorem dX1_look_9 : decode cX1_look 9 = .ok (.iconst 0, 1) := by decide +kernel
theorem dX1_look_10 : decode cX1_look 10 = .ok (.putfield 27, 3) := by decide +kernel
theorem dX1_look_13 : decode cX1_look 13 = .ok (.iconst 0, 1) := by decide +kernel
theorem dX1_look_14 : decode cX1_look 14 = .ok (.istore_n 2, 1) := by decide +kernel
theorem dX1_look_15 : decode cX1_look 15 = .ok (.iload_n 2, 1) := by decide +kernel
theorem dX1_look_16 : decode cX1_look 16 = .ok (.aload_n 0, 1) := by decide +kernel
theorem dX1_look_17 : decode cX1_look 17 = .ok (.getfield 24, 3) := by decide +kernel
theorem dX1_look_20 : decode cX1_look 20 = .ok (.if_icmp .ge 48, 3) := by decide +kernel
theorem dX1_look_23 : decode cX1_look 23 = .ok (.aload_n 0, 1) := by decide +kernel
theorem dX1_look_24 : decode cX1_look 24 = .ok (.getfield 9, 3) := by decide +kernel
theorem dX1_look_27 : decode cX1_look 27 = .ok (.iload_n 2, 1) := by decide +kernel
theorem dX1_look_28 : decode cX1_look 28 = .ok (.aload_n 0, 1) := by decide +kernel
theorem dX1_look_29 : decode cX1_look 29 = .ok (.aload_n 1, 1) := by decide +kernel
theorem dX1_look_30 : decode cX1_look 30 = .ok (.getfield 30, 3) := by decide +kernel
theorem dX1_look_33 : decode cX1_look 33 = .ok (.iload_n 2, 1) := by decide +kernel
theorem dX1_look_34 : decode cX1_look 34 = .ok (.aaload, 1) := by decide +kernel
theorem dX1_look_35 : decode cX1_look 35 = .ok (.getfield 34, 3) := by decide +kernel
theorem dX1_look_38 : decode cX1_look 38 = .ok (.invokevirtual 39, 3) := by decide +kernel
theorem dX1_look_41 : decode cX1_look 41 = .ok (.iastore, 1) := by decide +kernel
theorem dX1_look_42 : decode cX1_look 42 = .ok (.aload_n 0, 1) := by decide +kernel
theorem dX1_look_43 : decode cX1_look 43 = .ok (.dup, 1) := by decide +kernel
theorem dX1_look_44 : decode cX1_look 44 = .ok (.getfield 27, 3) := by decide +kernel
theorem dX1_look_47 : decode cX1_look 47 = .ok (.aload_n 1, 1) := by decide +kernel
theorem dX1_look_48 : decode cX1_look 48 = .ok (.getfield 30, 3) := by decide +kernel
theorem dX1_look_51 : decode cX1_look 51 = .ok (.iload_n 2, 1) := by decide +kernel
theorem dX1_look_52 : decode cX1_look 52 = .ok (.aaload, 1) := by decide +kernel
theorem dX1_look_53 : decode cX1_look 53 = .ok (.getfield 43, 3) := by decide +kernel
theorem dX1_look_56 : decode cX1_look 56 = .ok (.iload_n 2, 1) := by decide +kernel
theorem dX1_look_57 : decode cX1_look 57 = .ok (.ishl, 1) := by decide +kernel
theorem dX1_look_58 : decode cX1_look 58 = .ok (.ior, 1) := by decide +kernel
theorem dX1_look_59 : decode cX1_look 59 = .ok (.putfield 27, 3) := by decide +kernel
theorem dX1_look_62 : decode cX1_look 62 = .ok (.iinc 2 1, 3) := by decide +kernel
theorem dX1_look_65 : decode cX1_look 65 = .ok (.goto (-50), 3) := by decide +kernel
theorem dX1_look_68 : decode cX1_look 68 = .ok (.iconst 0, 1) := by decide +kernel
theorem dX1_look_69 : decode cX1_look 69 = .ok (.istore_n 2, 1) := by decide +kernel
theorem dX1_look_70 : decode cX1_look 70 = .ok (.iload_n 2, 1) := by decide +kernel
theorem dX1_look_71 : decode cX1_look 71 = .ok (.aload_n 0, 1) := by decide +kernel
theorem dX1_look_72 : decode cX1_look 72 = .ok (.getfield 24, 3) := by decide +kernel
theorem dX1_look_75 : decode cX1_look 75 = .ok (.if_icmp .ge 27, 3) := by decide +kernel
theorem dX1_look_78 : decode cX1_look 78 = .ok (.aload_n 0, 1) := by decide +kernel
theorem dX1_look_79 : decode cX1_look 79 = .ok (.getfield 15, 3) := by decide +kernel
theorem dX1_look_82 : decode cX1_look 82 = .ok (.iload_n 2, 1) := by decide +kernel
theorem dX1_look_83 : decode cX1_look 83 = .ok (.aload_n 0, 1) := by decide +kernel
theorem dX1_look_84 : decode cX1_look 84 = .ok (.getfield 9, 3) := by decide +kernel
theorem dX1_look_87 : decode cX1_look 87 = .ok (.iload_n 2, 1) := by decide +kernel
theorem dX1_look_88 : decode cX1_look 88 = .ok (.iaload, 1) := by decide +kernel
theorem dX1_look_89 : decode cX1_look 89 = .ok (.aload_n 0, 1) := by decide +kernel
theorem dX1_look_90 : decode cX1_look 90 = .ok (.iload_n 2, 1) := by decide +kernel
theorem dX1_look_91 : decode cX1_look 91 = .ok (.invokevirtual 46, 3) := by decide +kernel
theorem dX1_look_94 : decode cX1_look 94 = .ok (.iand, 1) := by decide +kernel
theorem dX1_look_95 : decode cX1_look 95 = .ok (.iastore, 1) := by decide +kernel
theorem dX1_look_96 : decode cX1_look 96 = .ok (.iinc 2 1, 3) := by decide +kernel
theorem dX1_look_99 : decode cX1_look 99 = .ok (.goto (-29), 3) := by decide +kernel
theorem dX1_look_102 : decode cX1_look 102 = .ok (.return_, 1) := by decide +kernel
theorem dX1_slipOf_0 : decode cX1_slipOf 0 = .ok (.iconst 0, 1) := by decide +kernel
theorem dX1_slipOf_1 : decode cX1_slipOf 1 = .ok (.istore_n 2, 1) := by decide +kernel
theorem dX1_slipOf_2 : decode cX1_slipOf 2 = .ok (.iconst 0, 1) := by decide +kernel
theorem dX1_slipOf_3 : decode cX1_slipOf 3 = .ok (.istore_n 3, 1) := by decide +kernel
theorem dX1_slipOf_4 : decode cX1_slipOf 4 = .ok (.iload_n 3, 1) := by decide +kernel
theorem dX1_slipOf_5 : decode cX1_slipOf 5 = .ok (.iconst 3, 1) := by decide +kernel
theorem dX1_slipOf_6 : decode cX1_slipOf 6 = .ok (.if_icmp .ge 73, 3) := by decide +kernel
theorem dX1_slipOf_9 : decode cX1_slipOf 9 = .ok (.iconst (-1), 1) := by decide +kernel
theorem dX1_slipOf_10 : decode cX1_slipOf 10 = .ok (.istore 4, 2) := by decide +kernel
theorem dX1_slipOf_12 : decode cX1_slipOf 12 = .ok (.iconst 0, 1) := by decide +kernel
theorem dX1_slipOf_13 : decode cX1_slipOf 13 = .ok (.istore 5, 2) := by decide +kernel
theorem dX1_slipOf_15 : decode cX1_slipOf 15 = .ok (.iconst 0, 1) := by decide +kernel
theorem dX1_slipOf_16 : decode cX1_slipOf 16 = .ok (.istore 6, 2) := by decide +kernel
theorem dX1_slipOf_18 : decode cX1_slipOf 18 = .ok (.iload 6, 2) := by decide +kernel
theorem dX1_slipOf_20 : decode cX1_slipOf 20 = .ok (.aload_n 0, 1) := by decide +kernel
theorem dX1_slipOf_21 : decode cX1_slipOf 21 = .ok (.getfield 24, 3) := by decide +kernel
theorem dX1_slipOf_24 : decode cX1_slipOf 24 = .ok (.if_icmp .ge 37, 3) := by decide +kernel
theorem dX1_slipOf_27 : decode cX1_slipOf 27 = .ok (.iload_n 2, 1) := by decide +kernel
theorem dX1_slipOf_28 : decode cX1_slipOf 28 = .ok (.iload 6, 2) := by decide +kernel
theorem dX1_slipOf_30 : decode cX1_slipOf 30 = .ok (.ishr, 1) := by decide +kernel
theorem dX1_slipOf_31 : decode cX1_slipOf 31 = .ok (.iconst 1, 1) := by decide +kernel
theorem dX1_slipOf_32 : decode cX1_slipOf 32 = .ok (.iand, 1) := by decide +kernel
theorem dX1_slipOf_33 : decode cX1_slipOf 33 = .ok (.ifCond .ne 22, 3) := by decide +kernel
theorem dX1_slipOf_36 : decode cX1_slipOf 36 = .ok (.aload_n 1, 1) := by decide +kernel
theorem dX1_slipOf_37 : decode cX1_slipOf 37 = .ok (.iload 6, 2) := by decide +kernel
theorem dX1_slipOf_39 : decode cX1_slipOf 39 = .ok (.iaload, 1) := by decide +kernel
theorem dX1_slipOf_40 : decode cX1_slipOf 40 = .ok (.iload 5, 2) := by decide +kernel
theorem dX1_slipOf_42 : decode cX1_slipOf 42 = .ok (.if_icmp .le 13, 3) := by decide +kernel
theorem dX1_slipOf_45 : decode cX1_slipOf 45 = .ok (.iload 6, 2) := by decide +kernel
theorem dX1_slipOf_47 : decode cX1_slipOf 47 = .ok (.istore 4, 2) := by decide +kernel
theorem dX1_slipOf_49 : decode cX1_slipOf 49 = .ok (.aload_n 1, 1) := by decide +kernel
theorem dX1_slipOf_50 : decode cX1_slipOf 50 = .ok (.iload 6, 2) := by decide +kernel
theorem dX1_slipOf_52 : decode cX1_slipOf 52 = .ok (.iaload, 1) := by decide +kernel
theorem dX1_slipOf_53 : decode cX1_slipOf 53 = .ok (.istore 5, 2) := by decide +kernel
theorem dX1_slipOf_55 : decode cX1_slipOf 55 = .ok (.iinc 6 1, 3) := by decide +kernel
theorem dX1_slipOf_58 : decode cX1_slipOf 58 = .ok (.goto (-40), 3) := by decide +kernel
theorem dX1_slipOf_61 : decode cX1_slipOf 61 = .ok (.iload 4, 2) := by decide +kernel
theorem dX1_slipOf_63 : decode cX1_slipOf 63 = .ok (.ifCond .lt 10, 3) := by decide +kernel
theorem dX1_slipOf_66 : decode cX1_slipOf 66 = .ok (.iload_n 2, 1) := by decide +kernel
theorem dX1_slipOf_67 : decode cX1_slipOf 67 = .ok (.iconst 1, 1) := by decide +kernel
theorem dX1_slipOf_68 : decode cX1_slipOf 68 = .ok (.iload 4, 2) := by decide +kernel
theorem dX1_slipOf_70 : decode cX1_slipOf 70 = .ok (.ishl, 1) := by decide +kernel
theorem dX1_slipOf_71 : decode cX1_slipOf 71 = .ok (.ior, 1) := by decide +kernel
theorem dX1_slipOf_72 : decode cX1_slipOf 72 = .ok (.istore_n 2, 1) := by decide +kernel
theorem dX1_slipOf_73 : decode cX1_slipOf 73 = .ok (.iinc 3 1, 3) := by decide +kernel
theorem dX1_slipOf_76 : decode cX1_slipOf 76 = .ok (.goto (-72), 3) := by decide +kernel
theorem dX1_slipOf_79 : decode cX1_slipOf 79 = .ok (.iload_n 2, 1) := by decide +kernel
theorem dX1_slipOf_80 : decode cX1_slipOf 80 = .ok (.ireturn, 1) := by decide +kernel
theorem dX1_naming_0 : decode cX1_naming 0 = .ok (.iconst 0, 1) := by decide +kernel
theorem dX1_naming_1 : decode cX1_naming 1 = .ok (.istore_n 2, 1) := by decide +kernel
theorem dX1_naming_2 : decode cX1_naming 2 = .ok (.iconst 0, 1) := by decide +kernel
theorem dX1_naming_3 : decode cX1_naming 3 = .ok (.istore_n 3, 1) := by decide +kernel
theorem dX1_naming_4 : decode cX1_naming 4 = .ok (.iload_n 3, 1) := by decide +kernel
theorem dX1_naming_5 : decode cX1_naming 5 = .ok (.aload_n 0, 1) := by decide +kernel
theorem dX1_naming_6 : decode cX1_naming 6 = .ok (.getfield 24, 3) := by decide +kernel
theorem dX1_naming_9 : decode cX1_naming 9 = .ok (.if_icmp .ge 24, 3) := by decide +kernel
theorem dX1_naming_12 : decode cX1_naming 12 = .ok (.iload_n 2, 1) := by decide +kernel
theorem dX1_naming_13 : decode cX1_naming 13 = .ok (.aload_n 0, 1) := by decide +kernel
theorem dX1_naming_14 : decode cX1_naming 14 = .ok (.getfield 9, 3) := by decide +kernel
theorem dX1_naming_17 : decode cX1_naming 17 = .ok (.iload_n 3, 1) := by decide +kernel
theorem dX1_naming_18 : decode cX1_naming 18 = .ok (.iaload, 1) := by decide +kernel
theorem dX1_naming_19 : decode cX1_naming 19 = .ok (.iload_n 1, 1) := by decide +kernel
theorem dX1_naming_20 : decode cX1_naming 20 = .ok (.ishr, 1) := by decide +kernel
theorem dX1_naming_21 : decode cX1_naming 21 = .ok (.iconst 1, 1) := by decide +kernel
theorem dX1_naming_22 : decode cX1_naming 22 = .ok (.iand, 1) := by decide +kernel
theorem dX1_naming_23 : decode cX1_naming 23 = .ok (.iload_n 3, 1) := by decide +kernel
theorem dX1_naming_24 : decode cX1_naming 24 = .ok (.ishl, 1) := by decide +kernel
theorem dX1_naming_25 : decode cX1_naming 25 = .ok (.ior, 1) := by decide +kernel
theorem dX1_naming_26 : decode cX1_naming 26 = .ok (.istore_n 2, 1) := by decide +kernel
theorem dX1_naming_27 : decode cX1_naming 27 = .ok (.iinc 3 1, 3) := by decide +kernel
theorem dX1_naming_30 : decode cX1_naming 30 = .ok (.goto (-26), 3) := by decide +kernel
theorem dX1_naming_33 : decode cX1_naming 33 = .ok (.iload_n 2, 1) := by decide +kernel
theorem dX1_naming_34 : decode cX1_naming 34 = .ok (.ireturn, 1) := by decide +kernel
theorem dX1_countNaming_0 : decode cX1_countNaming 0 = .ok (.aload_n 0, 1) := by decide +kernel
theorem dX1_countNaming_1 : decode cX1_countNaming 1 = .ok (.iload_n 1, 1) := by decide +kernel
theorem dX1_countNaming_2 : decode cX1_countNaming 2 = .ok (.invokevirtual 46, 3) := by decide +kernel
theorem dX1_countNaming_5 : decode cX1_countNaming 5 = .ok (.invokestatic 50, 3) := by decide +kernel
theorem dX1_countNaming_8 : decode cX1_countNaming 8 = .ok (.ireturn, 1) := by decide +kernel
theorem dX1_ringOf_0 : decode cX1_ringOf 0 = .ok (.iconst 1, 1) := by decide +kernel
theorem dX1_ringOf_1 : decode cX1_ringOf 1 = .ok (.iload_n 1, 1) := by decide +kernel
theorem dX1_ringOf_2 : decode cX1_ringOf 2 = .ok (.ishl, 1) := by decide +kernel
theorem dX1_ringOf_3 : decode cX1_ringOf 3 = .ok (.istore_n 2, 1) := by decide +kernel
theorem dX1_ringOf_4 : decode cX1_ringOf 4 = .ok (.iconst 0, 1) := by decide +kernel
theorem dX1_ringOf_5 : decode cX1_ringOf 5 = .ok (.istore_n 3, 1) := by decide +kernel
theorem dX1_ringOf_6 : decode cX1_ringOf 6 = .ok (.iload_n 3, 1) := by decide +kernel
theorem dX1_ringOf_7 : decode cX1_ringOf 7 = .ok (.aload_n 0, 1) := by decide +kernel
theorem dX1_ringOf_8 : decode cX1_ringOf 8 = .ok (.getfield 24, 3) := by decide +kernel
theorem dX1_ringOf_11 : decode cX1_ringOf 11 = .ok (.if_icmp .ge 46, 3) := by decide +kernel
theorem dX1_ringOf_14 : decode cX1_ringOf 14 = .ok (.iconst 0, 1) := by decide +kernel
theorem dX1_ringOf_15 : decode cX1_ringOf 15 = .ok (.istore 4, 2) := by decide +kernel
theorem dX1_ringOf_17 : decode cX1_ringOf 17 = .ok (.iload 4, 2) := by decide +kernel
theorem dX1_ringOf_19 : decode cX1_ringOf 19 = .ok (.aload_n 0, 1) := by decide +kernel
theorem dX1_ringOf_20 : decode cX1_ringOf 20 = .ok (.getfield 24, 3) := by decide +kernel
theorem dX1_ringOf_23 : decode cX1_ringOf 23 = .ok (.if_icmp .ge 28, 3) := by decide +kernel
theorem dX1_ringOf_26 : decode cX1_ringOf 26 = .ok (.iload_n 2, 1) := by decide +kernel
theorem dX1_ringOf_27 : decode cX1_ringOf 27 = .ok (.iload 4, 2) := by decide +kernel
theorem dX1_ringOf_29 : decode cX1_ringOf 29 = .ok (.ishr, 1) := by decide +kernel
theorem dX1_ringOf_30 : decode cX1_ringOf 30 = .ok (.iconst 1, 1) := by decide +kernel
theorem dX1_ringOf_31 : decode cX1_ringOf 31 = .ok (.iand, 1) := by decide +kernel
theorem dX1_ringOf_32 : decode cX1_ringOf 32 = .ok (.ifCond .eq 13, 3) := by decide +kernel
theorem dX1_ringOf_35 : decode cX1_ringOf 35 = .ok (.iload_n 2, 1) := by decide +kernel
theorem dX1_ringOf_36 : decode cX1_ringOf 36 = .ok (.aload_n 0, 1) := by decide +kernel
theorem dX1_ringOf_37 : decode cX1_ringOf 37 = .ok (.getfield 15, 3) := by decide +kernel
theorem dX1_ringOf_40 : decode cX1_ringOf 40 = .ok (.iload 4, 2) := by decide +kernel
theorem dX1_ringOf_42 : decode cX1_ringOf 42 = .ok (.iaload, 1) := by decide +kernel
theorem dX1_ringOf_43 : decode cX1_ringOf 43 = .ok (.ior, 1) := by decide +kernel
theorem dX1_ringOf_44 : decode cX1_ringOf 44 = .ok (.istore_n 2, 1) := by decide +kernel
theorem dX1_ringOf_45 : decode cX1_ringOf 45 = .ok (.iinc 4 1, 3) := by decide +kernel
theorem dX1_ringOf_48 : decode cX1_ringOf 48 = .ok (.goto (-31), 3) := by decide +kernel
theorem dX1_ringOf_51 : decode cX1_ringOf 51 = .ok (.iinc 3 1, 3) := by decide +kernel
theorem dX1_ringOf_54 : decode cX1_ringOf 54 = .ok (.goto (-48), 3) := by decide +kernel
theorem dX1_ringOf_57 : decode cX1_ringOf 57 = .ok (.iload_n 2, 1) := by decide +kernel
theorem dX1_ringOf_58 : decode cX1_ringOf 58 = .ok (.ireturn, 1) := by decide +kernel
theorem dX1_countRings_0 : decode cX1_countRings 0 = .ok (.iconst 0, 1) := by decide +kernel
theorem dX1_countRings_1 : decode cX1_countRings 1 = .ok (.istore_n 1, 1) := by decide +kernel
theorem dX1_countRings_2 : decode cX1_countRings 2 = .ok (.iconst 0, 1) := by decide +kernel
theorem dX1_countRings_3 : decode cX1_countRings 3 = .ok (.istore_n 2, 1) := by decide +kernel
theorem dX1_countRings_4 : decode cX1_countRings 4 = .ok (.iload_n 2, 1) := by decide +kernel
theorem dX1_countRings_5 : decode cX1_countRings 5 = .ok (.aload_n 0, 1) := by decide +kernel
theorem dX1_countRings_6 : decode cX1_countRings 6 = .ok (.getfield 24, 3) := by decide +kernel
theorem dX1_countRings_9 : decode cX1_countRings 9 = .ok (.if_icmp .ge 24, 3) := by decide +kernel
theorem dX1_countRings_12 : decode cX1_countRings 12 = .ok (.aload_n 0, 1) := by decide +kernel
theorem dX1_countRings_13 : decode cX1_countRings 13 = .ok (.iload_n 2, 1) := by decide +kernel
theorem dX1_countRings_14 : decode cX1_countRings 14 = .ok (.invokevirtual 55, 3) := by decide +kernel
theorem dX1_countRings_17 : decode cX1_countRings 17 = .ok (.invokestatic 58, 3) := by decide +kernel
theorem dX1_countRings_20 : decode cX1_countRings 20 = .ok (.iload_n 2, 1) := by decide +kernel
theorem dX1_countRings_21 : decode cX1_countRings 21 = .ok (.if_icmp .ne 6, 3) := by decide +kernel
theorem dX1_countRings_24 : decode cX1_countRings 24 = .ok (.iinc 1 1, 3) := by decide +kernel
theorem dX1_countRings_27 : decode cX1_countRings 27 = .ok (.iinc 2 1, 3) := by decide +kernel
theorem dX1_countRings_30 : decode cX1_countRings 30 = .ok (.goto (-26), 3) := by decide +kernel
theorem dX1_countRings_33 : decode cX1_countRings 33 = .ok (.iload_n 1, 1) := by decide +kernel
theorem dX1_countRings_34 : decode cX1_countRings 34 = .ok (.ireturn, 1) := by decide +kernel
theorem dX1_countPairs_0 : decode cX1_countPairs 0 = .ok (.iconst 0, 1) := by decide +kernel
theorem dX1_countPairs_1 : decode cX1_countPairs 1 = .ok (.istore_n 1, 1) := by decide +kernel
theorem dX1_countPairs_2 : decode cX1_countPairs 2 = .ok (.iconst 0, 1) := by decide +kernel
theorem dX1_countPairs_3 : decode cX1_countPairs 3 = .ok (.istore_n 2, 1) := by decide +kernel
theorem dX1_countPairs_4 : decode cX1_countPairs 4 = .ok (.iload_n 2, 1) := by decide +kernel
theorem dX1_countPairs_5 : decode cX1_countPairs 5 = .ok (.aload_n 0, 1) := by decide +kernel
theorem dX1_countPairs_6 : decode cX1_countPairs 6 = .ok (.getfield 24, 3) := by decide +kernel
theorem dX1_countPairs_9 : decode cX1_countPairs 9 = .ok (.if_icmp .ge 21, 3) := by decide +kernel
theorem dX1_countPairs_12 : decode cX1_countPairs 12 = .ok (.iload_n 1, 1) := by decide +kernel
theorem dX1_countPairs_13 : decode cX1_countPairs 13 = .ok (.aload_n 0, 1) := by decide +kernel
theorem dX1_countPairs_14 : decode cX1_countPairs 14 = .ok (.getfield 15, 3) := by decide +kernel
theorem dX1_countPairs_17 : decode cX1_countPairs 17 = .ok (.iload_n 2, 1) := by decide +kernel
theorem dX1_countPairs_18 : decode cX1_countPairs 18 = .ok (.iaload, 1) := by decide +kernel
theorem dX1_countPairs_19 : decode cX1_countPairs 19 = .ok (.invokestatic 50, 3) := by decide +kernel
theorem dX1_countPairs_22 : decode cX1_countPairs 22 = .ok (.iadd, 1) := by decide +kernel
theorem dX1_countPairs_23 : decode cX1_countPairs 23 = .ok (.istore_n 1, 1) := by decide +kernel
theorem dX1_countPairs_24 : decode cX1_countPairs 24 = .ok (.iinc 2 1, 3) := by decide +kernel
theorem dX1_countPairs_27 : decode cX1_countPairs 27 = .ok (.goto (-23), 3) := by decide +kernel
theorem dX1_countPairs_30 : decode cX1_countPairs 30 = .ok (.iload_n 1, 1) := by decide +kernel
theorem dX1_countPairs_31 : decode cX1_countPairs 31 = .ok (.iconst 2, 1) := by decide +kernel
theorem dX1_countPairs_32 : decode cX1_countPairs 32 = .ok (.idiv, 1) := by decide +kernel
theorem dX1_countPairs_33 : decode cX1_countPairs 33 = .ok (.ireturn, 1) := by decide +kernel
theorem dX1_mostNamed_0 : decode cX1_mostNamed 0 = .ok (.iconst 0, 1) := by decide +kernel
theorem dX1_mostNamed_1 : decode cX1_mostNamed 1 = .ok (.istore_n 1, 1) := by decide +kernel
theorem dX1_mostNamed_2 : decode cX1_mostNamed 2 = .ok (.iconst 0, 1) := by decide +kernel
theorem dX1_mostNamed_3 : decode cX1_mostNamed 3 = .ok (.istore_n 2, 1) := by decide +kernel
theorem dX1_mostNamed_4 : decode cX1_mostNamed 4 = .ok (.iload_n 2, 1) := by decide +kernel
theorem dX1_mostNamed_5 : decode cX1_mostNamed 5 = .ok (.aload_n 0, 1) := by decide +kernel
theorem dX1_mostNamed_6 : decode cX1_mostNamed 6 = .ok (.getfield 24, 3) := by decide +kernel
theorem dX1_mostNamed_9 : decode cX1_mostNamed 9 = .ok (.if_icmp .ge 19, 3) := by decide +kernel
theorem dX1_mostNamed_12 : decode cX1_mostNamed 12 = .ok (.iload_n 1, 1) := by decide +kernel
theorem dX1_mostNamed_13 : decode cX1_mostNamed 13 = .ok (.aload_n 0, 1) := by decide +kernel
theorem dX1_mostNamed_14 : decode cX1_mostNamed 14 = .ok (.iload_n 2, 1) := by decide +kernel
theorem dX1_mostNamed_15 : decode cX1_mostNamed 15 = .ok (.invokevirtual 61, 3) := by decide +kernel
theorem dX1_mostNamed_18 : decode cX1_mostNamed 18 = .ok (.invokestatic 64, 3) := by decide +kernel
theorem dX1_mostNamed_21 : decode cX1_mostNamed 21 = .ok (.istore_n 1, 1) := by decide +kernel
theorem dX1_mostNamed_22 : decode cX1_mostNamed 22 = .ok (.iinc 2 1, 3) := by decide +kernel
theorem dX1_mostNamed_25 : decode cX1_mostNamed 25 = .ok (.goto (-21), 3) := by decide +kernel
theorem dX1_mostNamed_28 : decode cX1_mostNamed 28 = .ok (.iload_n 1, 1) := by decide +kernel
theorem dX1_mostNamed_29 : decode cX1_mostNamed 29 = .ok (.ireturn, 1) := by decide +kernel
theorem dX1_leftOut_0 : decode cX1_leftOut 0 = .ok (.iconst 0, 1) := by decide +kernel
theorem dX1_leftOut_1 : decode cX1_leftOut 1 = .ok (.istore_n 1, 1) := by decide +kernel
theorem dX1_leftOut_2 : decode cX1_leftOut 2 = .ok (.iconst 0, 1) := by decide +kernel
theorem dX1_leftOut_3 : decode cX1_leftOut 3 = .ok (.istore_n 2, 1) := by decide +kernel
theorem dX1_leftOut_4 : decode cX1_leftOut 4 = .ok (.iload_n 2, 1) := by decide +kernel
theorem dX1_leftOut_5 : decode cX1_leftOut 5 = .ok (.aload_n 0, 1) := by decide +kernel
theorem dX1_leftOut_6 : decode cX1_leftOut 6 = .ok (.getfield 24, 3) := by decide +kernel
theorem dX1_leftOut_9 : decode cX1_leftOut 9 = .ok (.if_icmp .ge 18, 3) := by decide +kernel
theorem dX1_leftOut_12 : decode cX1_leftOut 12 = .ok (.iload_n 1, 1) := by decide +kernel
theorem dX1_leftOut_13 : decode cX1_leftOut 13 = .ok (.aload_n 0, 1) := by decide +kernel
theorem dX1_leftOut_14 : decode cX1_leftOut 14 = .ok (.getfield 9, 3) := by decide +kernel
theorem dX1_leftOut_17 : decode cX1_leftOut 17 = .ok (.iload_n 2, 1) := by decide +kernel
theorem dX1_leftOut_18 : decode cX1_leftOut 18 = .ok (.iaload, 1) := by decide +kernel
theorem dX1_leftOut_19 : decode cX1_leftOut 19 = .ok (.ior, 1) := by decide +kernel
theorem dX1_leftOut_20 : decode cX1_leftOut 20 = .ok (.istore_n 1, 1) := by decide +kernel
theorem dX1_leftOut_21 : decode cX1_leftOut 21 = .ok (.iinc 2 1, 3) := by decide +kernel
theorem dX1_leftOut_24 : decode cX1_leftOut 24 = .ok (.goto (-20), 3) := by decide +kernel
theorem dX1_leftOut_27 : decode cX1_leftOut 27 = .ok (.aload_n 0, 1) := by decide +kernel
theorem dX1_leftOut_28 : decode cX1_leftOut 28 = .ok (.getfield 27, 3) := by decide +kernel
theorem dX1_leftOut_31 : decode cX1_leftOut 31 = .ok (.iload_n 1, 1) := by decide +kernel
theorem dX1_leftOut_32 : decode cX1_leftOut 32 = .ok (.iconst (-1), 1) := by decide +kernel
theorem dX1_leftOut_33 : decode cX1_leftOut 33 = .ok (.ixor, 1) := by decide +kernel
theorem dX1_leftOut_34 : decode cX1_leftOut 34 = .ok (.iand, 1) := by decide +kernel
theorem dX1_leftOut_35 : decode cX1_leftOut 35 = .ok (.ireturn, 1) := by decide +kernel
theorem dX1_secondClass_0 : decode cX1_secondClass 0 = .ok (.iconst (-1), 1) := by decide +kernel
theorem dX1_secondClass_1 : decode cX1_secondClass 1 = .ok (.istore_n 1, 1) := by decide +kernel
theorem dX1_secondClass_2 : decode cX1_secondClass 2 = .ok (.iconst 0, 1) := by decide +kernel
theorem dX1_secondClass_3 : decode cX1_secondClass 3 = .ok (.istore_n 2, 1) := by decide +kernel
theorem dX1_secondClass_4 : decode cX1_secondClass 4 = .ok (.iconst 0, 1) := by decide +kernel
theorem dX1_secondClass_5 : decode cX1_secondClass 5 = .ok (.istore_n 3, 1) := by decide +kernel
theorem dX1_secondClass_6 : decode cX1_secondClass 6 = .ok (.iload_n 3, 1) := by decide +kernel
theorem dX1_secondClass_7 : decode cX1_secondClass 7 = .ok (.iconst 1, 1) := by decide +kernel
theorem dX1_secondClass_8 : decode cX1_secondClass 8 = .ok (.aload_n 0, 1) := by decide +kernel
theorem dX1_secondClass_9 : decode cX1_secondClass 9 = .ok (.getfield 24, 3) := by decide +kernel
theorem dX1_secondClass_12 : decode cX1_secondClass 12 = .ok (.ishl, 1) := by decide +kernel
theorem dX1_secondClass_13 : decode cX1_secondClass 13 = .ok (.if_icmp .ge 64, 3) := by decide +kernel
theorem dX1_secondClass_16 : decode cX1_secondClass 16 = .ok (.iload_n 3, 1) := by decide +kernel
theorem dX1_secondClass_17 : decode cX1_secondClass 17 = .ok (.invokestatic 50, 3) := by decide +kernel
theorem dX1_secondClass_20 : decode cX1_secondClass 20 = .ok (.istore 4, 2) := by decide +kernel
theorem dX1_secondClass_22 : decode cX1_secondClass 22 = .ok (.iload 4, 2) := by decide +kernel
theorem dX1_secondClass_24 : decode cX1_secondClass 24 = .ok (.aload_n 0, 1) := by decide +kernel
theorem dX1_secondClass_25 : decode cX1_secondClass 25 = .ok (.getfield 24, 3) := by decide +kernel
theorem dX1_secondClass_28 : decode cX1_secondClass 28 = .ok (.iconst 2, 1) := by decide +kernel
theorem dX1_secondClass_29 : decode cX1_secondClass 29 = .ok (.idiv, 1) := by decide +kernel
theorem dX1_secondClass_30 : decode cX1_secondClass 30 = .ok (.if_icmp .lt 41, 3) := by decide +kernel
theorem dX1_secondClass_33 : decode cX1_secondClass 33 = .ok (.aload_n 0, 1) := by decide +kernel
theorem dX1_secondClass_34 : decode cX1_secondClass 34 = .ok (.getfield 24, 3) := by decide +kernel
theorem dX1_secondClass_37 : decode cX1_secondClass 37 = .ok (.iload 4, 2) := by decide +kernel
theorem dX1_secondClass_39 : decode cX1_secondClass 39 = .ok (.isub, 1) := by decide +kernel
theorem dX1_secondClass_40 : decode cX1_secondClass 40 = .ok (.aload_n 0, 1) := by decide +kernel
theorem dX1_secondClass_41 : decode cX1_secondClass 41 = .ok (.getfield 24, 3) := by decide +kernel
theorem dX1_secondClass_44 : decode cX1_secondClass 44 = .ok (.iconst 2, 1) := by decide +kernel
theorem dX1_secondClass_45 : decode cX1_secondClass 45 = .ok (.idiv, 1) := by decide +kernel
theorem dX1_secondClass_46 : decode cX1_secondClass 46 = .ok (.if_icmp .lt 25, 3) := by decide +kernel
theorem dX1_secondClass_49 : decode cX1_secondClass 49 = .ok (.aload_n 0, 1) := by decide +kernel
theorem dX1_secondClass_50 : decode cX1_secondClass 50 = .ok (.iload_n 3, 1) := by decide +kernel
theorem dX1_secondClass_51 : decode cX1_secondClass 51 = .ok (.invokevirtual 70, 3) := by decide +kernel
theorem dX1_secondClass_54 : decode cX1_secondClass 54 = .ok (.istore 5, 2) := by decide +kernel
theorem dX1_secondClass_56 : decode cX1_secondClass 56 = .ok (.iload_n 1, 1) := by decide +kernel
theorem dX1_secondClass_57 : decode cX1_secondClass 57 = .ok (.ifCond .lt 9, 3) := by decide +kernel
theorem dX1_secondClass_60 : decode cX1_secondClass 60 = .ok (.iload 5, 2) := by decide +kernel
theorem dX1_secondClass_62 : decode cX1_secondClass 62 = .ok (.iload_n 2, 1) := by decide +kernel
theorem dX1_secondClass_63 : decode cX1_secondClass 63 = .ok (.if_icmp .ge 8, 3) := by decide +kernel
theorem dX1_secondClass_66 : decode cX1_secondClass 66 = .ok (.iload_n 3, 1) := by decide +kernel
theorem dX1_secondClass_67 : decode cX1_secondClass 67 = .ok (.istore_n 1, 1) := by decide +kernel
theorem dX1_secondClass_68 : decode cX1_secondClass 68 = .ok (.iload 5, 2) := by decide +kernel
theorem dX1_secondClass_70 : decode cX1_secondClass 70 = .ok (.istore_n 2, 1) := by decide +kernel
theorem dX1_secondClass_71 : decode cX1_secondClass 71 = .ok (.iinc 3 2, 3) := by decide +kernel
theorem dX1_secondClass_74 : decode cX1_secondClass 74 = .ok (.goto (-68), 3) := by decide +kernel
theorem dX1_secondClass_77 : decode cX1_secondClass 77 = .ok (.iload_n 1, 1) := by decide +kernel
theorem dX1_secondClass_78 : decode cX1_secondClass 78 = .ok (.ireturn, 1) := by decide +kernel
theorem dX1_countLonely_0 : decode cX1_countLonely 0 = .ok (.iconst 0, 1) := by decide +kernel
theorem dX1_countLonely_1 : decode cX1_countLonely 1 = .ok (.istore_n 2, 1) := by decide +kernel
theorem dX1_countLonely_2 : decode cX1_countLonely 2 = .ok (.iconst 0, 1) := by decide +kernel
theorem dX1_countLonely_3 : decode cX1_countLonely 3 = .ok (.istore_n 3, 1) := by decide +kernel
theorem dX1_countLonely_4 : decode cX1_countLonely 4 = .ok (.iload_n 3, 1) := by decide +kernel
theorem dX1_countLonely_5 : decode cX1_countLonely 5 = .ok (.aload_n 0, 1) := by decide +kernel
theorem dX1_countLonely_6 : decode cX1_countLonely 6 = .ok (.getfield 24, 3) := by decide +kernel
theorem dX1_countLonely_9 : decode cX1_countLonely 9 = .ok (.if_icmp .ge 52, 3) := by decide +kernel
theorem dX1_countLonely_12 : decode cX1_countLonely 12 = .ok (.iload_n 1, 1) := by decide +kernel
theorem dX1_countLonely_13 : decode cX1_countLonely 13 = .ok (.iload_n 3, 1) := by decide +kernel
theorem dX1_countLonely_14 : decode cX1_countLonely 14 = .ok (.ishr, 1) := by decide +kernel
theorem dX1_countLonely_15 : decode cX1_countLonely 15 = .ok (.iconst 1, 1) := by decide +kernel
theorem dX1_countLonely_16 : decode cX1_countLonely 16 = .ok (.iand, 1) := by decide +kernel
theorem dX1_countLonely_17 : decode cX1_countLonely 17 = .ok (.ifCond .eq 7, 3) := by decide +kernel
theorem dX1_countLonely_20 : decode cX1_countLonely 20 = .ok (.iload_n 1, 1) := by decide +kernel
theorem dX1_countLonely_21 : decode cX1_countLonely 21 = .ok (.goto 6, 3) := by decide +kernel
theorem dX1_countLonely_24 : decode cX1_countLonely 24 = .ok (.iload_n 1, 1) := by decide +kernel
theorem dX1_countLonely_25 : decode cX1_countLonely 25 = .ok (.iconst (-1), 1) := by decide +kernel
theorem dX1_countLonely_26 : decode cX1_countLonely 26 = .ok (.ixor, 1) := by decide +kernel
theorem dX1_countLonely_27 : decode cX1_countLonely 27 = .ok (.istore 4, 2) := by decide +kernel
theorem dX1_countLonely_29 : decode cX1_countLonely 29 = .ok (.aload_n 0, 1) := by decide +kernel
theorem dX1_countLonely_30 : decode cX1_countLonely 30 = .ok (.getfield 27, 3) := by decide +kernel
theorem dX1_countLonely_33 : decode cX1_countLonely 33 = .ok (.iload_n 3, 1) := by decide +kernel
theorem dX1_countLonely_34 : decode cX1_countLonely 34 = .ok (.ishr, 1) := by decide +kernel
theorem dX1_countLonely_35 : decode cX1_countLonely 35 = .ok (.iconst 1, 1) := by decide +kernel
theorem dX1_countLonely_36 : decode cX1_countLonely 36 = .ok (.iand, 1) := by decide +kernel
theorem dX1_countLonely_37 : decode cX1_countLonely 37 = .ok (.ifCond .eq 18, 3) := by decide +kernel
theorem dX1_countLonely_40 : decode cX1_countLonely 40 = .ok (.aload_n 0, 1) := by decide +kernel
theorem dX1_countLonely_41 : decode cX1_countLonely 41 = .ok (.getfield 15, 3) := by decide +kernel
theorem dX1_countLonely_44 : decode cX1_countLonely 44 = .ok (.iload_n 3, 1) := by decide +kernel
theorem dX1_countLonely_45 : decode cX1_countLonely 45 = .ok (.iaload, 1) := by decide +kernel
theorem dX1_countLonely_46 : decode cX1_countLonely 46 = .ok (.iload 4, 2) := by decide +kernel
theorem dX1_countLonely_48 : decode cX1_countLonely 48 = .ok (.iand, 1) := by decide +kernel
theorem dX1_countLonely_49 : decode cX1_countLonely 49 = .ok (.ifCond .ne 6, 3) := by decide +kernel
theorem dX1_countLonely_52 : decode cX1_countLonely 52 = .ok (.iinc 2 1, 3) := by decide +kernel
theorem dX1_countLonely_55 : decode cX1_countLonely 55 = .ok (.iinc 3 1, 3) := by decide +kernel
theorem dX1_countLonely_58 : decode cX1_countLonely 58 = .ok (.goto (-54), 3) := by decide +kernel
theorem dX1_countLonely_61 : decode cX1_countLonely 61 = .ok (.iload_n 2, 1) := by decide +kernel
theorem dX1_countLonely_62 : decode cX1_countLonely 62 = .ok (.ireturn, 1) := by decide +kernel
theorem dX2_init_0 : decode cX2_init 0 = .ok (.aload_n 0, 1) := by decide +kernel
theorem dX2_init_1 : decode cX2_init 1 = .ok (.invokespecial 1, 3) := by decide +kernel
theorem dX2_init_4 : decode cX2_init 4 = .ok (.aload_n 0, 1) := by decide +kernel
theorem dX2_init_5 : decode cX2_init 5 = .ok (.bipush 30, 2) := by decide +kernel
theorem dX2_init_7 : decode cX2_init 7 = .ok (.putfield 7, 3) := by decide +kernel
theorem dX2_init_10 : decode cX2_init 10 = .ok (.return_, 1) := by decide +kernel
theorem dX2_size_0 : decode cX2_size 0 = .ok (.aload_n 0, 1) := by decide +kernel
theorem dX2_size_1 : decode cX2_size 1 = .ok (.getfield 13, 3) := by decide +kernel
theorem dX2_size_4 : decode cX2_size 4 = .ok (.invokestatic 16, 3) := by decide +kernel
theorem dX2_size_7 : decode cX2_size 7 = .ok (.ireturn, 1) := by decide +kernel
theorem dX2_lacksOne_0 : decode cX2_lacksOne 0 = .ok (.aload_n 0, 1) := by decide +kernel
theorem dX2_lacksOne_1 : decode cX2_lacksOne 1 = .ok (.getfield 13, 3) := by decide +kernel
theorem dX2_lacksOne_4 : decode cX2_lacksOne 4 = .ok (.invokestatic 16, 3) := by decide +kernel
theorem dX2_lacksOne_7 : decode cX2_lacksOne 7 = .ok (.iconst 1, 1) := by decide +kernel
theorem dX2_lacksOne_8 : decode cX2_lacksOne 8 = .ok (.iadd, 1) := by decide +kernel
theorem dX2_lacksOne_9 : decode cX2_lacksOne 9 = .ok (.istore_n 1, 1) := by decide +kernel
theorem dX2_lacksOne_10 : decode cX2_lacksOne 10 = .ok (.iload_n 1, 1) := by decide +kernel
theorem dX2_lacksOne_11 : decode cX2_lacksOne 11 = .ok (.aload_n 0, 1) := by decide +kernel
theorem dX2_lacksOne_12 : decode cX2_lacksOne 12 = .ok (.getfield 22, 3) := by decide +kernel
theorem dX2_lacksOne_15 : decode cX2_lacksOne 15 = .ok (.if_icmp .eq 11, 3) := by decide +kernel
theorem dX2_lacksOne_18 : decode cX2_lacksOne 18 = .ok (.iload_n 1, 1) := by decide +kernel
theorem dX2_lacksOne_19 : decode cX2_lacksOne 19 = .ok (.aload_n 0, 1) := by decide +kernel
theorem dX2_lacksOne_20 : decode cX2_lacksOne 20 = .ok (.getfield 25, 3) := by decide +kernel
theorem dX2_lacksOne_23 : decode cX2_lacksOne 23 = .ok (.if_icmp .ne 7, 3) := by decide +kernel
theorem dX2_lacksOne_26 : decode cX2_lacksOne 26 = .ok (.iconst 1, 1) := by decide +kernel
theorem dX2_lacksOne_27 : decode cX2_lacksOne 27 = .ok (.goto 4, 3) := by decide +kernel
theorem dX2_lacksOne_30 : decode cX2_lacksOne 30 = .ok (.iconst 0, 1) := by decide +kernel
theorem dX2_lacksOne_31 : decode cX2_lacksOne 31 = .ok (.ireturn, 1) := by decide +kernel
theorem dX2_hasTooFew_0 : decode cX2_hasTooFew 0 = .ok (.aload_n 0, 1) := by decide +kernel
theorem dX2_hasTooFew_1 : decode cX2_hasTooFew 1 = .ok (.getfield 13, 3) := by decide +kernel
theorem dX2_hasTooFew_4 : decode cX2_hasTooFew 4 = .ok (.ifCond .eq 18, 3) := by decide +kernel
theorem dX2_hasTooFew_7 : decode cX2_hasTooFew 7 = .ok (.aload_n 0, 1) := by decide +kernel
theorem dX2_hasTooFew_8 : decode cX2_hasTooFew 8 = .ok (.invokevirtual 28, 3) := by decide +kernel
theorem dX2_hasTooFew_11 : decode cX2_hasTooFew 11 = .ok (.aload_n 0, 1) := by decide +kernel
theorem dX2_hasTooFew_12 : decode cX2_hasTooFew 12 = .ok (.getfield 22, 3) := by decide +kernel
theorem dX2_hasTooFew_15 : decode cX2_hasTooFew 15 = .ok (.if_icmp .ge 7, 3) := by decide +kernel
theorem dX2_hasTooFew_18 : decode cX2_hasTooFew 18 = .ok (.iconst 1, 1) := by decide +kernel
theorem dX2_hasTooFew_19 : decode cX2_hasTooFew 19 = .ok (.goto 4, 3) := by decide +kernel
theorem dX2_hasTooFew_22 : decode cX2_hasTooFew 22 = .ok (.iconst 0, 1) := by decide +kernel
theorem dX2_hasTooFew_23 : decode cX2_hasTooFew 23 = .ok (.ireturn, 1) := by decide +kernel
theorem dX2_change_0 : decode cX2_change 0 = .ok (.aload_n 0, 1) := by decide +kernel
theorem dX2_change_1 : decode cX2_change 1 = .ok (.iload_n 1, 1) := by decide +kernel
theorem dX2_change_2 : decode cX2_change 2 = .ok (.putfield 13, 3) := by decide +kernel
theorem dX2_change_5 : decode cX2_change 5 = .ok (.aload_n 0, 1) := by decide +kernel
theorem dX2_change_6 : decode cX2_change 6 = .ok (.invokevirtual 32, 3) := by decide +kernel
theorem dX2_change_9 : decode cX2_change 9 = .ok (.ifCond .ne 8, 3) := by decide +kernel
theorem dX2_change_12 : decode cX2_change 12 = .ok (.aload_n 0, 1) := by decide +kernel
theorem dX2_change_13 : decode cX2_change 13 = .ok (.iconst 0, 1) := by decide +kernel
theorem dX2_change_14 : decode cX2_change 14 = .ok (.putfield 36, 3) := by decide +kernel
theorem dX2_change_17 : decode cX2_change 17 = .ok (.return_, 1) := by decide +kernel
theorem dX2_takeFrom_0 : decode cX2_takeFrom 0 = .ok (.aload_n 0, 1) := by decide +kernel
theorem dX2_takeFrom_1 : decode cX2_takeFrom 1 = .ok (.aload_n 1, 1) := by decide +kernel
theorem dX2_takeFrom_2 : decode cX2_takeFrom 2 = .ok (.getfield 22, 3) := by decide +kernel
theorem dX2_takeFrom_5 : decode cX2_takeFrom 5 = .ok (.putfield 22, 3) := by decide +kernel
theorem dX2_takeFrom_8 : decode cX2_takeFrom 8 = .ok (.aload_n 0, 1) := by decide +kernel
theorem dX2_takeFrom_9 : decode cX2_takeFrom 9 = .ok (.aload_n 1, 1) := by decide +kernel
theorem dX2_takeFrom_10 : decode cX2_takeFrom 10 = .ok (.getfield 25, 3) := by decide +kernel
theorem dX2_takeFrom_13 : decode cX2_takeFrom 13 = .ok (.putfield 25, 3) := by decide +kernel
theorem dX2_takeFrom_16 : decode cX2_takeFrom 16 = .ok (.aload_n 0, 1) := by decide +kernel
theorem dX2_takeFrom_17 : decode cX2_takeFrom 17 = .ok (.aload_n 1, 1) := by decide +kernel
theorem dX2_takeFrom_18 : decode cX2_takeFrom 18 = .ok (.getfield 7, 3) := by decide +kernel
theorem dX2_takeFrom_21 : decode cX2_takeFrom 21 = .ok (.putfield 7, 3) := by decide +kernel
theorem dX2_takeFrom_24 : decode cX2_takeFrom 24 = .ok (.aload_n 0, 1) := by decide +kernel
theorem dX2_takeFrom_25 : decode cX2_takeFrom 25 = .ok (.aload_n 1, 1) := by decide +kernel
theorem dX2_takeFrom_26 : decode cX2_takeFrom 26 = .ok (.getfield 13, 3) := by decide +kernel
theorem dX2_takeFrom_29 : decode cX2_takeFrom 29 = .ok (.putfield 13, 3) := by decide +kernel
theorem dX2_takeFrom_32 : decode cX2_takeFrom 32 = .ok (.aload_n 0, 1) := by decide +kernel
theorem dX2_takeFrom_33 : decode cX2_takeFrom 33 = .ok (.aload_n 1, 1) := by decide +kernel
theorem dX2_takeFrom_34 : decode cX2_takeFrom 34 = .ok (.getfield 36, 3) := by decide +kernel
theorem dX2_takeFrom_37 : decode cX2_takeFrom 37 = .ok (.putfield 36, 3) := by decide +kernel
theorem dX2_takeFrom_40 : decode cX2_takeFrom 40 = .ok (.return_, 1) := by decide +kernel
theorem dX3_init_0 : decode cX3_init 0 = .ok (.aload_n 0, 1) := by decide +kernel
theorem dX3_init_1 : decode cX3_init 1 = .ok (.invokespecial 3, 3) := by decide +kernel
theorem dX3_init_4 : decode cX3_init 4 = .ok (.aload_n 0, 1) := by decide +kernel
theorem dX3_init_5 : decode cX3_init 5 = .ok (.new 9, 3) := by decide +kernel
theorem dX3_init_8 : decode cX3_init 8 = .ok (.dup, 1) := by decide +kernel
theorem dX3_init_9 : decode cX3_init 9 = .ok (.invokespecial 11, 3) := by decide +kernel
theorem dX3_init_12 : decode cX3_init 12 = .ok (.putfield 12, 3) := by decide +kernel
theorem dX3_init_15 : decode cX3_init 15 = .ok (.aload_n 0, 1) := by decide +kernel
theorem dX3_init_16 : decode cX3_init 16 = .ok (.iconst 0, 1) := by decide +kernel
theorem dX3_init_17 : decode cX3_init 17 = .ok (.newarray .int, 2) := by decide +kernel
theorem dX3_init_19 : decode cX3_init 19 = .ok (.putfield 18, 3) := by decide +kernel
theorem dX3_init_22 : decode cX3_init 22 = .ok (.aload_n 0, 1) := by decide +kernel
theorem dX3_init_23 : decode cX3_init 23 = .ok (.ldc 22, 2) := by decide +kernel
theorem dX3_init_25 : decode cX3_init 25 = .ok (.putfield 24, 3) := by decide +kernel
theorem dX3_init_28 : decode cX3_init 28 = .ok (.return_, 1) := by decide +kernel
theorem dX3_read_0 : decode cX3_read 0 = .ok (.aload_n 0, 1) := by decide +kernel
theorem dX3_read_1 : decode cX3_read 1 = .ok (.getfield 12, 3) := by decide +kernel
theorem dX3_read_4 : decode cX3_read 4 = .ok (.iconst 0, 1) := by decide +kernel
theorem dX3_read_5 : decode cX3_read 5 = .ok (.putfield 28, 3) := by decide +kernel
theorem dX3_read_8 : decode cX3_read 8 = .ok (.aload_n 0, 1) := by decide +kernel
theorem dX3_read_9 : decode cX3_read 9 = .ok (.aload_n 1, 1) := by decide +kernel
theorem dX3_read_10 : decode cX3_read 10 = .ok (.getfield 32, 3) := by decide +kernel
theorem dX3_read_13 : decode cX3_read 13 = .ok (.putfield 18, 3) := by decide +kernel
theorem dX3_read_16 : decode cX3_read 16 = .ok (.aload_n 0, 1) := by decide +kernel
theorem dX3_read_17 : decode cX3_read 17 = .ok (.aload_n 1, 1) := by decide +kernel
theorem dX3_read_18 : decode cX3_read 18 = .ok (.getfield 37, 3) := by decide +kernel
theorem dX3_read_21 : decode cX3_read 21 = .ok (.putfield 38, 3) := by decide +kernel
theorem dX3_read_24 : decode cX3_read 24 = .ok (.aload_n 0, 1) := by decide +kernel
theorem dX3_read_25 : decode cX3_read 25 = .ok (.iconst 0, 1) := by decide +kernel
theorem dX3_read_26 : decode cX3_read 26 = .ok (.putfield 41, 3) := by decide +kernel
theorem dX3_read_29 : decode cX3_read 29 = .ok (.aload_n 0, 1) := by decide +kernel
theorem dX3_read_30 : decode cX3_read 30 = .ok (.aload_n 2, 1) := by decide +kernel
theorem dX3_read_31 : decode cX3_read 31 = .ok (.putfield 24, 3) := by decide +kernel
theorem dX3_read_34 : decode cX3_read 34 = .ok (.aload_n 0, 1) := by decide +kernel
theorem dX3_read_35 : decode cX3_read 35 = .ok (.iconst 0, 1) := by decide +kernel
theorem dX3_read_36 : decode cX3_read 36 = .ok (.iconst 0, 1) := by decide +kernel
theorem dX3_read_37 : decode cX3_read 37 = .ok (.invokevirtual 44, 3) := by decide +kernel
theorem dX3_read_40 : decode cX3_read 40 = .ok (.ifCond .eq 18, 3) := by decide +kernel
theorem dX3_read_43 : decode cX3_read 43 = .ok (.aload_n 0, 1) := by decide +kernel
theorem dX3_read_44 : decode cX3_read 44 = .ok (.getfield 41, 3) := by decide +kernel
theorem dX3_read_47 : decode cX3_read 47 = .ok (.aload_n 0, 1) := by decide +kernel
theorem dX3_read_48 : decode cX3_read 48 = .ok (.getfield 38, 3) := by decide +kernel
theorem dX3_read_51 : decode cX3_read 51 = .ok (.if_icmp .ne 7, 3) := by decide +kernel
theorem dX3_read_54 : decode cX3_read 54 = .ok (.iconst (-1), 1) := by decide +kernel
theorem dX3_read_55 : decode cX3_read 55 = .ok (.goto 7, 3) := by decide +kernel
theorem dX3_read_58 : decode cX3_read 58 = .ok (.aload_n 0, 1) := by decide +kernel
theorem dX3_read_59 : decode cX3_read 59 = .ok (.getfield 41, 3) := by decide +kernel
theorem dX3_read_62 : decode cX3_read 62 = .ok (.ireturn, 1) := by decide +kernel
theorem dX3_next_0 : decode cX3_next 0 = .ok (.aload_n 0, 1) := by decide +kernel
theorem dX3_next_1 : decode cX3_next 1 = .ok (.getfield 41, 3) := by decide +kernel
theorem dX3_next_4 : decode cX3_next 4 = .ok (.aload_n 0, 1) := by decide +kernel
theorem dX3_next_5 : decode cX3_next 5 = .ok (.getfield 38, 3) := by decide +kernel
theorem dX3_next_8 : decode cX3_next 8 = .ok (.if_icmp .ge 15, 3) := by decide +kernel
theorem dX3_next_11 : decode cX3_next 11 = .ok (.aload_n 0, 1) := by decide +kernel
theorem dX3_next_12 : decode cX3_next 12 = .ok (.getfield 18, 3) := by decide +kernel
theorem dX3_next_15 : decode cX3_next 15 = .ok (.aload_n 0, 1) := by decide +kernel
theorem dX3_next_16 : decode cX3_next 16 = .ok (.getfield 41, 3) := by decide +kernel
theorem dX3_next_19 : decode cX3_next 19 = .ok (.iaload, 1) := by decide +kernel
theorem dX3_next_20 : decode cX3_next 20 = .ok (.goto 4, 3) := by decide +kernel
theorem dX3_next_23 : decode cX3_next 23 = .ok (.iconst (-1), 1) := by decide +kernel
theorem dX3_next_24 : decode cX3_next 24 = .ok (.ireturn, 1) := by decide +kernel
theorem dX3_stands_0 : decode cX3_stands 0 = .ok (.aload_n 0, 1) := by decide +kernel
theorem dX3_stands_1 : decode cX3_stands 1 = .ok (.invokevirtual 48, 3) := by decide +kernel
theorem dX3_stands_4 : decode cX3_stands 4 = .ok (.istore_n 2, 1) := by decide +kernel
theorem dX3_stands_5 : decode cX3_stands 5 = .ok (.iload_n 2, 1) := by decide +kernel
theorem dX3_stands_6 : decode cX3_stands 6 = .ok (.ifCond .lt 16, 3) := by decide +kernel
theorem dX3_stands_9 : decode cX3_stands 9 = .ok (.aload_n 1, 1) := by decide +kernel
theorem dX3_stands_10 : decode cX3_stands 10 = .ok (.iload_n 2, 1) := by decide +kernel
theorem dX3_stands_11 : decode cX3_stands 11 = .ok (.i2c, 1) := by decide +kernel
theorem dX3_stands_12 : decode cX3_stands 12 = .ok (.invokevirtual 52, 3) := by decide +kernel
theorem dX3_stands_15 : decode cX3_stands 15 = .ok (.ifCond .lt 7, 3) := by decide +kernel
theorem dX3_stands_18 : decode cX3_stands 18 = .ok (.iconst 1, 1) := by decide +kernel
theorem dX3_stands_19 : decode cX3_stands 19 = .ok (.goto 4, 3) := by decide +kernel
theorem dX3_stands_22 : decode cX3_stands 22 = .ok (.iconst 0, 1) := by decide +kernel
theorem dX3_stands_23 : decode cX3_stands 23 = .ok (.ireturn, 1) := by decide +kernel
theorem dX3_readJoined_0 : decode cX3_readJoined 0 = .ok (.iload_n 1, 1) := by decide +kernel
theorem dX3_readJoined_1 : decode cX3_readJoined 1 = .ok (.iconst 5, 1) := by decide +kernel
theorem dX3_readJoined_2 : decode cX3_readJoined 2 = .ok (.if_icmp .lt 9, 3) := by decide +kernel
theorem dX3_readJoined_5 : decode cX3_readJoined 5 = .ok (.aload_n 0, 1) := by decide +kernel
theorem dX3_readJoined_6 : decode cX3_readJoined 6 = .ok (.iload_n 2, 1) := by decide +kernel
theorem dX3_readJoined_7 : decode cX3_readJoined 7 = .ok (.invokevirtual 58, 3) := by decide +kernel
theorem dX3_readJoined_10 : decode cX3_readJoined 10 = .ok (.ireturn, 1) := by decide +kernel
theorem dX3_readJoined_11 : decode cX3_readJoined 11 = .ok (.aload_n 0, 1) := by decide +kernel
theorem dX3_readJoined_12 : decode cX3_readJoined 12 = .ok (.iload_n 1, 1) := by decide +kernel
theorem dX3_readJoined_13 : decode cX3_readJoined 13 = .ok (.iconst 1, 1) := by decide +kernel
theorem dX3_readJoined_14 : decode cX3_readJoined 14 = .ok (.iadd, 1) := by decide +kernel
theorem dX3_readJoined_15 : decode cX3_readJoined 15 = .ok (.iload_n 2, 1) := by decide +kernel
theorem dX3_readJoined_16 : decode cX3_readJoined 16 = .ok (.invokevirtual 44, 3) := by decide +kernel
theorem dX3_readJoined_19 : decode cX3_readJoined 19 = .ok (.istore_n 3, 1) := by decide +kernel
theorem dX3_readJoined_20 : decode cX3_readJoined 20 = .ok (.iload_n 1, 1) := by decide +kernel
theorem dX3_readJoined_21 : decode cX3_readJoined 21 = .ok (.iconst 2, 1) := by decide +kernel
theorem dX3_readJoined_22 : decode cX3_readJoined 22 = .ok (.if_icmp .ne 7, 3) := by decide +kernel
theorem dX3_readJoined_25 : decode cX3_readJoined 25 = .ok (.iconst 1, 1) := by decide +kernel
theorem dX3_readJoined_26 : decode cX3_readJoined 26 = .ok (.goto 5, 3) := by decide +kernel
theorem dX3_readJoined_29 : decode cX3_readJoined 29 = .ok (.bipush 60, 2) := by decide +kernel
theorem dX3_readJoined_31 : decode cX3_readJoined 31 = .ok (.istore 4, 2) := by decide +kernel
theorem dX3_readJoined_33 : decode cX3_readJoined 33 = .ok (.iconst 0, 1) := by decide +kernel
theorem dX3_readJoined_34 : decode cX3_readJoined 34 = .ok (.istore 5, 2) := by decide +kernel
theorem dX3_readJoined_36 : decode cX3_readJoined 36 = .ok (.iload 5, 2) := by decide +kernel
theorem dX3_readJoined_38 : decode cX3_readJoined 38 = .ok (.iload 4, 2) := by decide +kernel
theorem dX3_readJoined_40 : decode cX3_readJoined 40 = .ok (.if_icmp .ge 62, 3) := by decide +kernel
theorem dX3_readJoined_43 : decode cX3_readJoined 43 = .ok (.iload_n 3, 1) := by decide +kernel
theorem dX3_readJoined_44 : decode cX3_readJoined 44 = .ok (.ifCond .eq 58, 3) := by decide +kernel
theorem dX3_readJoined_47 : decode cX3_readJoined 47 = .ok (.aload_n 0, 1) := by decide +kernel
theorem dX3_readJoined_48 : decode cX3_readJoined 48 = .ok (.iload_n 1, 1) := by decide +kernel
theorem dX3_readJoined_49 : decode cX3_readJoined 49 = .ok (.invokestatic 62, 3) := by decide +kernel
theorem dX3_readJoined_52 : decode cX3_readJoined 52 = .ok (.invokevirtual 66, 3) := by decide +kernel
theorem dX3_readJoined_55 : decode cX3_readJoined 55 = .ok (.ifCond .eq 47, 3) := by decide +kernel
theorem dX3_readJoined_58 : decode cX3_readJoined 58 = .ok (.aload_n 0, 1) := by decide +kernel
theorem dX3_readJoined_59 : decode cX3_readJoined 59 = .ok (.invokevirtual 48, 3) := by decide +kernel
theorem dX3_readJoined_62 : decode cX3_readJoined 62 = .ok (.istore 6, 2) := by decide +kernel
theorem dX3_readJoined_64 : decode cX3_readJoined 64 = .ok (.aload_n 0, 1) := by decide +kernel
theorem dX3_readJoined_65 : decode cX3_readJoined 65 = .ok (.dup, 1) := by decide +kernel
theorem dX3_readJoined_66 : decode cX3_readJoined 66 = .ok (.getfield 41, 3) := by decide +kernel
theorem dX3_readJoined_69 : decode cX3_readJoined 69 = .ok (.iconst 1, 1) := by decide +kernel
theorem dX3_readJoined_70 : decode cX3_readJoined 70 = .ok (.iadd, 1) := by decide +kernel
theorem dX3_readJoined_71 : decode cX3_readJoined 71 = .ok (.putfield 41, 3) := by decide +kernel
theorem dX3_readJoined_74 : decode cX3_readJoined 74 = .ok (.aload_n 0, 1) := by decide +kernel
theorem dX3_readJoined_75 : decode cX3_readJoined 75 = .ok (.iload_n 1, 1) := by decide +kernel
theorem dX3_readJoined_76 : decode cX3_readJoined 76 = .ok (.iconst 1, 1) := by decide +kernel
theorem dX3_readJoined_77 : decode cX3_readJoined 77 = .ok (.iadd, 1) := by decide +kernel
theorem dX3_readJoined_78 : decode cX3_readJoined 78 = .ok (.iload_n 2, 1) := by decide +kernel
theorem dX3_readJoined_79 : decode cX3_readJoined 79 = .ok (.invokevirtual 44, 3) := by decide +kernel
theorem dX3_readJoined_82 : decode cX3_readJoined 82 = .ok (.istore_n 3, 1) := by decide +kernel
theorem dX3_readJoined_83 : decode cX3_readJoined 83 = .ok (.aload_n 0, 1) := by decide +kernel
theorem dX3_readJoined_84 : decode cX3_readJoined 84 = .ok (.getfield 12, 3) := by decide +kernel
theorem dX3_readJoined_87 : decode cX3_readJoined 87 = .ok (.sipush 20000, 3) := by decide +kernel
theorem dX3_readJoined_90 : decode cX3_readJoined 90 = .ok (.iload 6, 2) := by decide +kernel
theorem dX3_readJoined_92 : decode cX3_readJoined 92 = .ok (.iadd, 1) := by decide +kernel
theorem dX3_readJoined_93 : decode cX3_readJoined 93 = .ok (.invokevirtual 70, 3) := by decide +kernel
theorem dX3_readJoined_96 : decode cX3_readJoined 96 = .ok (.iinc 5 1, 3) := by decide +kernel
theorem dX3_readJoined_99 : decode cX3_readJoined 99 = .ok (.goto (-63), 3) := by decide +kernel
theorem dX3_readJoined_102 : decode cX3_readJoined 102 = .ok (.iload_n 3, 1) := by decide +kernel
theorem dX3_readJoined_103 : decode cX3_readJoined 103 = .ok (.ireturn, 1) := by decide +kernel
theorem dX3_signsOf_0 : decode cX3_signsOf 0 = .ok (.iload_n 0, 1) := by decide +kernel
theorem dX3_signsOf_1 : decode cX3_signsOf 1 = .ok (.tableswitch 43 0 3 #[31, 34, 37, 40], 31) := by decide +kernel
theorem dX3_signsOf_32 : decode cX3_signsOf 32 = .ok (.ldc 74, 2) := by decide +kernel
theorem dX3_signsOf_34 : decode cX3_signsOf 34 = .ok (.areturn, 1) := by decide +kernel
theorem dX3_signsOf_35 : decode cX3_signsOf 35 = .ok (.ldc 76, 2) := by decide +kernel
theorem dX3_signsOf_37 : decode cX3_signsOf 37 = .ok (.areturn, 1) := by decide +kernel
theorem dX3_signsOf_38 : decode cX3_signsOf 38 = .ok (.ldc 78, 2) := by decide +kernel
theorem dX3_signsOf_40 : decode cX3_signsOf 40 = .ok (.areturn, 1) := by decide +kernel
theorem dX3_signsOf_41 : decode cX3_signsOf 41 = .ok (.ldc 80, 2) := by decide +kernel
theorem dX3_signsOf_43 : decode cX3_signsOf 43 = .ok (.areturn, 1) := by decide +kernel
theorem dX3_signsOf_44 : decode cX3_signsOf 44 = .ok (.ldc 82, 2) := by decide +kernel
theorem dX3_signsOf_46 : decode cX3_signsOf 46 = .ok (.areturn, 1) := by decide +kernel
theorem dX3_readQ_0 : decode cX3_readQ 0 = .ok (.aload_n 0, 1) := by decide +kernel
theorem dX3_readQ_1 : decode cX3_readQ 1 = .ok (.invokevirtual 48, 3) := by decide +kernel
theorem dX3_readQ_4 : decode cX3_readQ 4 = .ok (.invokestatic 84, 3) := by decide +kernel
theorem dX3_readQ_7 : decode cX3_readQ 7 = .ok (.ifCond .eq 9, 3) := by decide +kernel
theorem dX3_readQ_10 : decode cX3_readQ 10 = .ok (.aload_n 0, 1) := by decide +kernel
theorem dX3_readQ_11 : decode cX3_readQ 11 = .ok (.invokevirtual 87, 3) := by decide +kernel
theorem dX3_readQ_14 : decode cX3_readQ 14 = .ok (.iconst 1, 1) := by decide +kernel
theorem dX3_readQ_15 : decode cX3_readQ 15 = .ok (.ireturn, 1) := by decide +kernel
theorem dX3_readQ_16 : decode cX3_readQ 16 = .ok (.aload_n 0, 1) := by decide +kernel
theorem dX3_readQ_17 : decode cX3_readQ 17 = .ok (.aload_n 0, 1) := by decide +kernel
theorem dX3_readQ_18 : decode cX3_readQ 18 = .ok (.getfield 24, 3) := by decide +kernel
theorem dX3_readQ_21 : decode cX3_readQ 21 = .ok (.invokevirtual 66, 3) := by decide +kernel
theorem dX3_readQ_24 : decode cX3_readQ 24 = .ok (.ifCond .eq 38, 3) := by decide +kernel
theorem dX3_readQ_27 : decode cX3_readQ 27 = .ok (.aload_n 0, 1) := by decide +kernel
theorem dX3_readQ_28 : decode cX3_readQ 28 = .ok (.getfield 12, 3) := by decide +kernel
theorem dX3_readQ_31 : decode cX3_readQ 31 = .ok (.sipush 10000, 3) := by decide +kernel
theorem dX3_readQ_34 : decode cX3_readQ 34 = .ok (.aload_n 0, 1) := by decide +kernel
theorem dX3_readQ_35 : decode cX3_readQ 35 = .ok (.getfield 24, 3) := by decide +kernel
theorem dX3_readQ_38 : decode cX3_readQ 38 = .ok (.aload_n 0, 1) := by decide +kernel
theorem dX3_readQ_39 : decode cX3_readQ 39 = .ok (.invokevirtual 48, 3) := by decide +kernel
theorem dX3_readQ_42 : decode cX3_readQ 42 = .ok (.i2c, 1) := by decide +kernel
theorem dX3_readQ_43 : decode cX3_readQ 43 = .ok (.invokevirtual 52, 3) := by decide +kernel
theorem dX3_readQ_46 : decode cX3_readQ 46 = .ok (.iadd, 1) := by decide +kernel
theorem dX3_readQ_47 : decode cX3_readQ 47 = .ok (.invokevirtual 70, 3) := by decide +kernel
theorem dX3_readQ_50 : decode cX3_readQ 50 = .ok (.aload_n 0, 1) := by decide +kernel
theorem dX3_readQ_51 : decode cX3_readQ 51 = .ok (.dup, 1) := by decide +kernel
theorem dX3_readQ_52 : decode cX3_readQ 52 = .ok (.getfield 41, 3) := by decide +kernel
theorem dX3_readQ_55 : decode cX3_readQ 55 = .ok (.iconst 1, 1) := by decide +kernel
theorem dX3_readQ_56 : decode cX3_readQ 56 = .ok (.iadd, 1) := by decide +kernel
theorem dX3_readQ_57 : decode cX3_readQ 57 = .ok (.putfield 41, 3) := by decide +kernel
theorem dX3_readQ_60 : decode cX3_readQ 60 = .ok (.iconst 1, 1) := by decide +kernel
theorem dX3_readQ_61 : decode cX3_readQ 61 = .ok (.ireturn, 1) := by decide +kernel
theorem dX3_readQ_62 : decode cX3_readQ 62 = .ok (.iload_n 1, 1) := by decide +kernel
theorem dX3_readQ_63 : decode cX3_readQ 63 = .ok (.iconst 5, 1) := by decide +kernel
theorem dX3_readQ_64 : decode cX3_readQ 64 = .ok (.if_icmp .ge 12, 3) := by decide +kernel
theorem dX3_readQ_67 : decode cX3_readQ 67 = .ok (.aload_n 0, 1) := by decide +kernel
theorem dX3_readQ_68 : decode cX3_readQ 68 = .ok (.ldc 90, 2) := by decide +kernel
theorem dX3_readQ_70 : decode cX3_readQ 70 = .ok (.invokevirtual 66, 3) := by decide +kernel
theorem dX3_readQ_73 : decode cX3_readQ 73 = .ok (.ifCond .ne 5, 3) := by decide +kernel
theorem dX3_readQ_76 : decode cX3_readQ 76 = .ok (.iconst 0, 1) := by decide +kernel
theorem dX3_readQ_77 : decode cX3_readQ 77 = .ok (.ireturn, 1) := by decide +kernel
theorem dX3_readQ_78 : decode cX3_readQ 78 = .ok (.aload_n 0, 1) := by decide +kernel
theorem dX3_readQ_79 : decode cX3_readQ 79 = .ok (.invokevirtual 48, 3) := by decide +kernel
theorem dX3_readQ_82 : decode cX3_readQ 82 = .ok (.bipush 33, 2) := by decide +kernel
theorem dX3_readQ_84 : decode cX3_readQ 84 = .ok (.if_icmp .ne 7, 3) := by decide +kernel
theorem dX3_readQ_87 : decode cX3_readQ 87 = .ok (.iconst 1, 1) := by decide +kernel
theorem dX3_readQ_88 : decode cX3_readQ 88 = .ok (.goto 4, 3) := by decide +kernel
theorem dX3_readQ_91 : decode cX3_readQ 91 = .ok (.iconst 0, 1) := by decide +kernel
theorem dX3_readQ_92 : decode cX3_readQ 92 = .ok (.istore_n 2, 1) := by decide +kernel
theorem dX3_readQ_93 : decode cX3_readQ 93 = .ok (.aload_n 0, 1) := by decide +kernel
theorem dX3_readQ_94 : decode cX3_readQ 94 = .ok (.dup, 1) := by decide +kernel
theorem dX3_readQ_95 : decode cX3_readQ 95 = .ok (.getfield 41, 3) := by decide +kernel
theorem dX3_readQ_98 : decode cX3_readQ 98 = .ok (.iconst 1, 1) := by decide +kernel
theorem dX3_readQ_99 : decode cX3_readQ 99 = .ok (.iadd, 1) := by decide +kernel
theorem dX3_readQ_100 : decode cX3_readQ 100 = .ok (.putfield 41, 3) := by decide +kernel
theorem dX3_readQ_103 : decode cX3_readQ 103 = .ok (.iload_n 2, 1) := by decide +kernel
theorem dX3_readQ_104 : decode cX3_readQ 104 = .ok (.ifCond .eq 23, 3) := by decide +kernel
theorem dX3_readQ_107 : decode cX3_readQ 107 = .ok (.aload_n 0, 1) := by decide +kernel
theorem dX3_readQ_108 : decode cX3_readQ 108 = .ok (.iload_n 1, 1) := by decide +kernel
theorem dX3_readQ_109 : decode cX3_readQ 109 = .ok (.iconst 1, 1) := by decide +kernel
theorem dX3_readQ_110 : decode cX3_readQ 110 = .ok (.iadd, 1) := by decide +kernel
theorem dX3_readQ_111 : decode cX3_readQ 111 = .ok (.invokevirtual 58, 3) := by decide +kernel
theorem dX3_readQ_114 : decode cX3_readQ 114 = .ok (.istore_n 3, 1) := by decide +kernel
theorem dX3_readQ_115 : decode cX3_readQ 115 = .ok (.aload_n 0, 1) := by decide +kernel
theorem dX3_readQ_116 : decode cX3_readQ 116 = .ok (.getfield 12, 3) := by decide +kernel
theorem dX3_readQ_119 : decode cX3_readQ 119 = .ok (.sipush 20033, 3) := by decide +kernel
theorem dX3_readQ_122 : decode cX3_readQ 122 = .ok (.invokevirtual 70, 3) := by decide +kernel
theorem dX3_readQ_125 : decode cX3_readQ 125 = .ok (.iload_n 3, 1) := by decide +kernel
theorem dX3_readQ_126 : decode cX3_readQ 126 = .ok (.ireturn, 1) := by decide +kernel
theorem dX3_readQ_127 : decode cX3_readQ 127 = .ok (.aload_n 0, 1) := by decide +kernel
theorem dX3_readQ_128 : decode cX3_readQ 128 = .ok (.iconst 0, 1) := by decide +kernel
theorem dX3_readQ_129 : decode cX3_readQ 129 = .ok (.iload_n 1, 1) := by decide +kernel
theorem dX3_readQ_130 : decode cX3_readQ 130 = .ok (.iconst 1, 1) := by decide +kernel
theorem dX3_readQ_131 : decode cX3_readQ 131 = .ok (.iadd, 1) := by decide +kernel
theorem dX3_readQ_132 : decode cX3_readQ 132 = .ok (.invokevirtual 44, 3) := by decide +kernel
theorem dX3_readQ_135 : decode cX3_readQ 135 = .ok (.ifCond .eq 12, 3) := by decide +kernel
theorem dX3_readQ_138 : decode cX3_readQ 138 = .ok (.aload_n 0, 1) := by decide +kernel
theorem dX3_readQ_139 : decode cX3_readQ 139 = .ok (.ldc 92, 2) := by decide +kernel
theorem dX3_readQ_141 : decode cX3_readQ 141 = .ok (.invokevirtual 66, 3) := by decide +kernel
theorem dX3_readQ_144 : decode cX3_readQ 144 = .ok (.ifCond .ne 5, 3) := by decide +kernel
theorem dX3_readQ_147 : decode cX3_readQ 147 = .ok (.iconst 0, 1) := by decide +kernel
theorem dX3_readQ_148 : decode cX3_readQ 148 = .ok (.ireturn, 1) := by decide +kernel
theorem dX3_readQ_149 : decode cX3_readQ 149 = .ok (.aload_n 0, 1) := by decide +kernel
theorem dX3_readQ_150 : decode cX3_readQ 150 = .ok (.dup, 1) := by decide +kernel
theorem dX3_readQ_151 : decode cX3_readQ 151 = .ok (.getfield 41, 3) := by decide +kernel
theorem dX3_readQ_154 : decode cX3_readQ 154 = .ok (.iconst 1, 1) := by decide +kernel
theorem dX3_readQ_155 : decode cX3_readQ 155 = .ok (.iadd, 1) := by decide +kernel
theorem dX3_readQ_156 : decode cX3_readQ 156 = .ok (.putfield 41, 3) := by decide +kernel
theorem dX3_readQ_159 : decode cX3_readQ 159 = .ok (.iconst 1, 1) := by decide +kernel
theorem dX3_readQ_160 : decode cX3_readQ 160 = .ok (.ireturn, 1) := by decide +kernel
theorem dX3_readNumber_0 : decode cX3_readNumber 0 = .ok (.iconst 0, 1) := by decide +kernel
theorem dX3_readNumber_1 : decode cX3_readNumber 1 = .ok (.istore_n 1, 1) := by decide +kernel
theorem dX3_readNumber_2 : decode cX3_readNumber 2 = .ok (.iconst 0, 1) := by decide +kernel
theorem dX3_readNumber_3 : decode cX3_readNumber 3 = .ok (.istore_n 2, 1) := by decide +kernel
theorem dX3_readNumber_4 : decode cX3_readNumber 4 = .ok (.iload_n 2, 1) := by decide +kernel
theorem dX3_readNumber_5 : decode cX3_readNumber 5 = .ok (.iconst 4, 1) := by decide +kernel
theorem dX3_readNumber_6 : decode cX3_readNumber 6 = .ok (.if_icmp .ge 42, 3) := by decide +kernel
theorem dX3_readNumber_9 : decode cX3_readNumber 9 = .ok (.aload_n 0, 1) := by decide +kernel
theorem dX3_readNumber_10 : decode cX3_readNumber 10 = .ok (.invokevirtual 48, 3) := by decide +kernel
theorem dX3_readNumber_13 : decode cX3_readNumber 13 = .ok (.invokestatic 84, 3) := by decide +kernel
theorem dX3_readNumber_16 : decode cX3_readNumber 16 = .ok (.ifCond .eq 32, 3) := by decide +kernel
theorem dX3_readNumber_19 : decode cX3_readNumber 19 = .ok (.iload_n 1, 1) := by decide +kernel
theorem dX3_readNumber_20 : decode cX3_readNumber 20 = .ok (.bipush 10, 2) := by decide +kernel
theorem dX3_readNumber_22 : decode cX3_readNumber 22 = .ok (.imul, 1) := by decide +kernel
theorem dX3_readNumber_23 : decode cX3_readNumber 23 = .ok (.aload_n 0, 1) := by decide +kernel
theorem dX3_readNumber_24 : decode cX3_readNumber 24 = .ok (.invokevirtual 48, 3) := by decide +kernel
theorem dX3_readNumber_27 : decode cX3_readNumber 27 = .ok (.iadd, 1) := by decide +kernel
theorem dX3_readNumber_28 : decode cX3_readNumber 28 = .ok (.bipush 48, 2) := by decide +kernel
theorem dX3_readNumber_30 : decode cX3_readNumber 30 = .ok (.isub, 1) := by decide +kernel
theorem dX3_readNumber_31 : decode cX3_readNumber 31 = .ok (.istore_n 1, 1) := by decide +kernel
theorem dX3_readNumber_32 : decode cX3_readNumber 32 = .ok (.aload_n 0, 1) := by decide +kernel
theorem dX3_readNumber_33 : decode cX3_readNumber 33 = .ok (.dup, 1) := by decide +kernel
theorem dX3_readNumber_34 : decode cX3_readNumber 34 = .ok (.getfield 41, 3) := by decide +kernel
theorem dX3_readNumber_37 : decode cX3_readNumber 37 = .ok (.iconst 1, 1) := by decide +kernel
theorem dX3_readNumber_38 : decode cX3_readNumber 38 = .ok (.iadd, 1) := by decide +kernel
theorem dX3_readNumber_39 : decode cX3_readNumber 39 = .ok (.putfield 41, 3) := by decide +kernel
theorem dX3_readNumber_42 : decode cX3_readNumber 42 = .ok (.iinc 2 1, 3) := by decide +kernel
theorem dX3_readNumber_45 : decode cX3_readNumber 45 = .ok (.goto (-41), 3) := by decide +kernel
theorem dX3_readNumber_48 : decode cX3_readNumber 48 = .ok (.aload_n 0, 1) := by decide +kernel
theorem dX3_readNumber_49 : decode cX3_readNumber 49 = .ok (.getfield 12, 3) := by decide +kernel
theorem dX3_readNumber_52 : decode cX3_readNumber 52 = .ok (.iload_n 1, 1) := by decide +kernel
theorem dX3_readNumber_53 : decode cX3_readNumber 53 = .ok (.invokevirtual 70, 3) := by decide +kernel
theorem dX3_readNumber_56 : decode cX3_readNumber 56 = .ok (.return_, 1) := by decide +kernel
theorem dX3_isDigit_0 : decode cX3_isDigit 0 = .ok (.iload_n 0, 1) := by decide +kernel
theorem dX3_isDigit_1 : decode cX3_isDigit 1 = .ok (.bipush 48, 2) := by decide +kernel
theorem dX3_isDigit_3 : decode cX3_isDigit 3 = .ok (.if_icmp .lt 13, 3) := by decide +kernel
theorem dX3_isDigit_6 : decode cX3_isDigit 6 = .ok (.iload_n 0, 1) := by decide +kernel
theorem dX3_isDigit_7 : decode cX3_isDigit 7 = .ok (.bipush 57, 2) := by decide +kernel
theorem dX3_isDigit_9 : decode cX3_isDigit 9 = .ok (.if_icmp .gt 7, 3) := by decide +kernel
theorem dX3_isDigit_12 : decode cX3_isDigit 12 = .ok (.iconst 1, 1) := by decide +kernel
theorem dX3_isDigit_13 : decode cX3_isDigit 13 = .ok (.goto 4, 3) := by decide +kernel
theorem dX3_isDigit_16 : decode cX3_isDigit 16 = .ok (.iconst 0, 1) := by decide +kernel
theorem dX3_isDigit_17 : decode cX3_isDigit 17 = .ok (.ireturn, 1) := by decide +kernel
theorem dX4_init_0 : decode cX4_init 0 = .ok (.aload_n 0, 1) := by decide +kernel
theorem dX4_init_1 : decode cX4_init 1 = .ok (.invokespecial 1, 3) := by decide +kernel
theorem dX4_init_4 : decode cX4_init 4 = .ok (.aload_n 0, 1) := by decide +kernel
theorem dX4_init_5 : decode cX4_init 5 = .ok (.iconst 0, 1) := by decide +kernel
theorem dX4_init_6 : decode cX4_init 6 = .ok (.iload_n 1, 1) := by decide +kernel
theorem dX4_init_7 : decode cX4_init 7 = .ok (.invokestatic 7, 3) := by decide +kernel
theorem dX4_init_10 : decode cX4_init 10 = .ok (.newarray .int, 2) := by decide +kernel
theorem dX4_init_12 : decode cX4_init 12 = .ok (.putfield 13, 3) := by decide +kernel
theorem dX4_init_15 : decode cX4_init 15 = .ok (.return_, 1) := by decide +kernel
theorem dX4_add_0 : decode cX4_add 0 = .ok (.aload_n 0, 1) := by decide +kernel
theorem dX4_add_1 : decode cX4_add 1 = .ok (.getfield 19, 3) := by decide +kernel
theorem dX4_add_4 : decode cX4_add 4 = .ok (.aload_n 0, 1) := by decide +kernel
theorem dX4_add_5 : decode cX4_add 5 = .ok (.getfield 13, 3) := by decide +kernel
theorem dX4_add_8 : decode cX4_add 8 = .ok (.arraylength, 1) := by decide +kernel
theorem dX4_add_9 : decode cX4_add 9 = .ok (.if_icmp .ge 23, 3) := by decide +kernel
theorem dX4_add_12 : decode cX4_add 12 = .ok (.aload_n 0, 1) := by decide +kernel
theorem dX4_add_13 : decode cX4_add 13 = .ok (.getfield 13, 3) := by decide +kernel
theorem dX4_add_16 : decode cX4_add 16 = .ok (.aload_n 0, 1) := by decide +kernel
theorem dX4_add_17 : decode cX4_add 17 = .ok (.getfield 19, 3) := by decide +kernel
theorem dX4_add_20 : decode cX4_add 20 = .ok (.iload_n 1, 1) := by decide +kernel
theorem dX4_add_21 : decode cX4_add 21 = .ok (.iastore, 1) := by decide +kernel
theorem dX4_add_22 : decode cX4_add 22 = .ok (.aload_n 0, 1) := by decide +kernel
theorem dX4_add_23 : decode cX4_add 23 = .ok (.dup, 1) := by decide +kernel
theorem dX4_add_24 : decode cX4_add 24 = .ok (.getfield 19, 3) := by decide +kernel
theorem dX4_add_27 : decode cX4_add 27 = .ok (.iconst 1, 1) := by decide +kernel
theorem dX4_add_28 : decode cX4_add 28 = .ok (.iadd, 1) := by decide +kernel
theorem dX4_add_29 : decode cX4_add 29 = .ok (.putfield 19, 3) := by decide +kernel
theorem dX4_add_32 : decode cX4_add 32 = .ok (.return_, 1) := by decide +kernel
theorem dX4_takeFrom_0 : decode cX4_takeFrom 0 = .ok (.aload_n 0, 1) := by decide +kernel
theorem dX4_takeFrom_1 : decode cX4_takeFrom 1 = .ok (.aload_n 1, 1) := by decide +kernel
theorem dX4_takeFrom_2 : decode cX4_takeFrom 2 = .ok (.getfield 19, 3) := by decide +kernel
theorem dX4_takeFrom_5 : decode cX4_takeFrom 5 = .ok (.aload_n 0, 1) := by decide +kernel
theorem dX4_takeFrom_6 : decode cX4_takeFrom 6 = .ok (.getfield 13, 3) := by decide +kernel
theorem dX4_takeFrom_9 : decode cX4_takeFrom 9 = .ok (.arraylength, 1) := by decide +kernel
theorem dX4_takeFrom_10 : decode cX4_takeFrom 10 = .ok (.invokestatic 23, 3) := by decide +kernel
theorem dX4_takeFrom_13 : decode cX4_takeFrom 13 = .ok (.putfield 19, 3) := by decide +kernel
theorem dX4_takeFrom_16 : decode cX4_takeFrom 16 = .ok (.aload_n 1, 1) := by decide +kernel
theorem dX4_takeFrom_17 : decode cX4_takeFrom 17 = .ok (.getfield 13, 3) := by decide +kernel
theorem dX4_takeFrom_20 : decode cX4_takeFrom 20 = .ok (.iconst 0, 1) := by decide +kernel
theorem dX4_takeFrom_21 : decode cX4_takeFrom 21 = .ok (.aload_n 0, 1) := by decide +kernel
theorem dX4_takeFrom_22 : decode cX4_takeFrom 22 = .ok (.getfield 13, 3) := by decide +kernel
theorem dX4_takeFrom_25 : decode cX4_takeFrom 25 = .ok (.iconst 0, 1) := by decide +kernel
theorem dX4_takeFrom_26 : decode cX4_takeFrom 26 = .ok (.aload_n 0, 1) := by decide +kernel
theorem dX4_takeFrom_27 : decode cX4_takeFrom 27 = .ok (.getfield 19, 3) := by decide +kernel
theorem dX4_takeFrom_30 : decode cX4_takeFrom 30 = .ok (.invokestatic 26, 3) := by decide +kernel
theorem dX4_takeFrom_33 : decode cX4_takeFrom 33 = .ok (.return_, 1) := by decide +kernel
theorem dX5_init_0 : decode cX5_init 0 = .ok (.aload_n 0, 1) := by decide +kernel
theorem dX5_init_1 : decode cX5_init 1 = .ok (.invokespecial 3, 3) := by decide +kernel
theorem dX5_init_4 : decode cX5_init 4 = .ok (.aload_n 0, 1) := by decide +kernel
theorem dX5_init_5 : decode cX5_init 5 = .ok (.bipush 24, 2) := by decide +kernel
theorem dX5_init_7 : decode cX5_init 7 = .ok (.newarray .int, 2) := by decide +kernel
theorem dX5_init_9 : decode cX5_init 9 = .ok (.putfield 9, 3) := by decide +kernel
theorem dX5_init_12 : decode cX5_init 12 = .ok (.return_, 1) := by decide +kernel
theorem dX5_isMissing_0 : decode cX5_isMissing 0 = .ok (.aload_n 0, 1) := by decide +kernel
theorem dX5_isMissing_1 : decode cX5_isMissing 1 = .ok (.getfield 15, 3) := by decide +kernel
theorem dX5_isMissing_4 : decode cX5_isMissing 4 = .ok (.ifCond .ne 7, 3) := by decide +kernel
theorem dX5_isMissing_7 : decode cX5_isMissing 7 = .ok (.iconst 1, 1) := by decide +kernel
theorem dX5_isMissing_8 : decode cX5_isMissing 8 = .ok (.goto 4, 3) := by decide +kernel
theorem dX5_isMissing_11 : decode cX5_isMissing 11 = .ok (.iconst 0, 1) := by decide +kernel
theorem dX5_isMissing_12 : decode cX5_isMissing 12 = .ok (.ireturn, 1) := by decide +kernel
theorem dX5_lay_0 : decode cX5_lay 0 = .ok (.aload_n 0, 1) := by decide +kernel
theorem dX5_lay_1 : decode cX5_lay 1 = .ok (.iload_n 1, 1) := by decide +kernel
theorem dX5_lay_2 : decode cX5_lay 2 = .ok (.putfield 15, 3) := by decide +kernel
theorem dX5_lay_5 : decode cX5_lay 5 = .ok (.aload_n 0, 1) := by decide +kernel
theorem dX5_lay_6 : decode cX5_lay 6 = .ok (.iload_n 2, 1) := by decide +kernel
theorem dX5_lay_7 : decode cX5_lay 7 = .ok (.putfield 19, 3) := by decide +kernel
theorem dX5_lay_10 : decode cX5_lay 10 = .ok (.aload_n 0, 1) := by decide +kernel
theorem dX5_lay_11 : decode cX5_lay 11 = .ok (.getfield 9, 3) := by decide +kernel
theorem dX5_lay_14 : decode cX5_lay 14 = .ok (.iconst 0, 1) := by decide +kernel
theorem dX5_lay_15 : decode cX5_lay 15 = .ok (.invokestatic 22, 3) := by decide +kernel
theorem dX5_lay_18 : decode cX5_lay 18 = .ok (.return_, 1) := by decide +kernel
theorem dX5_write_0 : decode cX5_write 0 = .ok (.aload_n 0, 1) := by decide +kernel
theorem dX5_write_1 : decode cX5_write 1 = .ok (.getfield 15, 3) := by decide +kernel
theorem dX5_write_4 : decode cX5_write 4 = .ok (.lookupswitch 50 #[(8, 28), (16, 39)], 28) := by decide +kernel
theorem dX5_write_32 : decode cX5_write 32 = .ok (.aload_n 0, 1) := by decide +kernel
theorem dX5_write_33 : decode cX5_write 33 = .ok (.getfield 9, 3) := by decide +kernel
theorem dX5_write_36 : decode cX5_write 36 = .ok (.iload_n 1, 1) := by decide +kernel
theorem dX5_write_37 : decode cX5_write 37 = .ok (.iload_n 2, 1) := by decide +kernel
theorem dX5_write_38 : decode cX5_write 38 = .ok (.i2b, 1) := by decide +kernel
theorem dX5_write_39 : decode cX5_write 39 = .ok (.iastore, 1) := by decide +kernel
theorem dX5_write_40 : decode cX5_write 40 = .ok (.goto 21, 3) := by decide +kernel
theorem dX5_write_43 : decode cX5_write 43 = .ok (.aload_n 0, 1) := by decide +kernel
theorem dX5_write_44 : decode cX5_write 44 = .ok (.getfield 9, 3) := by decide +kernel
theorem dX5_write_47 : decode cX5_write 47 = .ok (.iload_n 1, 1) := by decide +kernel
theorem dX5_write_48 : decode cX5_write 48 = .ok (.iload_n 2, 1) := by decide +kernel
theorem dX5_write_49 : decode cX5_write 49 = .ok (.i2s, 1) := by decide +kernel
theorem dX5_write_50 : decode cX5_write 50 = .ok (.iastore, 1) := by decide +kernel
theorem dX5_write_51 : decode cX5_write 51 = .ok (.goto 10, 3) := by decide +kernel
theorem dX5_write_54 : decode cX5_write 54 = .ok (.aload_n 0, 1) := by decide +kernel
theorem dX5_write_55 : decode cX5_write 55 = .ok (.getfield 9, 3) := by decide +kernel
theorem dX5_write_58 : decode cX5_write 58 = .ok (.iload_n 1, 1) := by decide +kernel
theorem dX5_write_59 : decode cX5_write 59 = .ok (.iload_n 2, 1) := by decide +kernel
theorem dX5_write_60 : decode cX5_write 60 = .ok (.iastore, 1) := by decide +kernel
theorem dX5_write_61 : decode cX5_write 61 = .ok (.return_, 1) := by decide +kernel
theorem dX5_holds_0 : decode cX5_holds 0 = .ok (.iload_n 2, 1) := by decide +kernel
theorem dX5_holds_1 : decode cX5_holds 1 = .ok (.ifCond .lt 29, 3) := by decide +kernel
theorem dX5_holds_4 : decode cX5_holds 4 = .ok (.iload_n 2, 1) := by decide +kernel
theorem dX5_holds_5 : decode cX5_holds 5 = .ok (.aload_n 0, 1) := by decide +kernel
theorem dX5_holds_6 : decode cX5_holds 6 = .ok (.getfield 19, 3) := by decide +kernel
theorem dX5_holds_9 : decode cX5_holds 9 = .ok (.if_icmp .gt 21, 3) := by decide +kernel
theorem dX5_holds_12 : decode cX5_holds 12 = .ok (.iload_n 1, 1) := by decide +kernel
theorem dX5_holds_13 : decode cX5_holds 13 = .ok (.ifCond .lt 17, 3) := by decide +kernel
theorem dX5_holds_16 : decode cX5_holds 16 = .ok (.iload_n 1, 1) := by decide +kernel
theorem dX5_holds_17 : decode cX5_holds 17 = .ok (.aload_n 0, 1) := by decide +kernel
theorem dX5_holds_18 : decode cX5_holds 18 = .ok (.getfield 19, 3) := by decide +kernel
theorem dX5_holds_21 : decode cX5_holds 21 = .ok (.iload_n 2, 1) := by decide +kernel
theorem dX5_holds_22 : decode cX5_holds 22 = .ok (.isub, 1) := by decide +kernel
theorem dX5_holds_23 : decode cX5_holds 23 = .ok (.if_icmp .gt 7, 3) := by decide +kernel
theorem dX5_holds_26 : decode cX5_holds 26 = .ok (.iconst 1, 1) := by decide +kernel
theorem dX5_holds_27 : decode cX5_holds 27 = .ok (.goto 4, 3) := by decide +kernel
theorem dX5_holds_30 : decode cX5_holds 30 = .ok (.iconst 0, 1) := by decide +kernel
theorem dX5_holds_31 : decode cX5_holds 31 = .ok (.ireturn, 1) := by decide +kernel
theorem dX6_init_0 : decode cX6_init 0 = .ok (.aload_n 0, 1) := by decide +kernel
theorem dX6_init_1 : decode cX6_init 1 = .ok (.invokespecial 3, 3) := by decide +kernel
theorem dX6_init_4 : decode cX6_init 4 = .ok (.aload_n 0, 1) := by decide +kernel
theorem dX6_init_5 : decode cX6_init 5 = .ok (.new 9, 3) := by decide +kernel
theorem dX6_init_8 : decode cX6_init 8 = .ok (.dup, 1) := by decide +kernel
theorem dX6_init_9 : decode cX6_init 9 = .ok (.bipush 30, 2) := by decide +kernel
theorem dX6_init_11 : decode cX6_init 11 = .ok (.invokespecial 11, 3) := by decide +kernel
theorem dX6_init_14 : decode cX6_init 14 = .ok (.putfield 14, 3) := by decide +kernel
theorem dX6_init_17 : decode cX6_init 17 = .ok (.return_, 1) := by decide +kernel
theorem dX6_speak_0 : decode cX6_speak 0 = .ok (.aload_n 0, 1) := by decide +kernel
theorem dX6_speak_1 : decode cX6_speak 1 = .ok (.getfield 14, 3) := by decide +kernel
theorem dX6_speak_4 : decode cX6_speak 4 = .ok (.iconst 0, 1) := by decide +kernel
theorem dX6_speak_5 : decode cX6_speak 5 = .ok (.putfield 20, 3) := by decide +kernel
theorem dX6_speak_8 : decode cX6_speak 8 = .ok (.aload_n 0, 1) := by decide +kernel
theorem dX6_speak_9 : decode cX6_speak 9 = .ok (.iconst 0, 1) := by decide +kernel
theorem dX6_speak_10 : decode cX6_speak 10 = .ok (.putfield 24, 3) := by decide +kernel
theorem dX6_speak_13 : decode cX6_speak 13 = .ok (.aload_n 0, 1) := by decide +kernel
theorem dX6_speak_14 : decode cX6_speak 14 = .ok (.iload_n 1, 1) := by decide +kernel
theorem dX6_speak_15 : decode cX6_speak 15 = .ok (.putfield 28, 3) := by decide +kernel
theorem dX6_speak_18 : decode cX6_speak 18 = .ok (.aload_n 0, 1) := by decide +kernel
theorem dX6_speak_19 : decode cX6_speak 19 = .ok (.aload_n 2, 1) := by decide +kernel
theorem dX6_speak_20 : decode cX6_speak 20 = .ok (.getfield 31, 3) := by decide +kernel
theorem dX6_speak_23 : decode cX6_speak 23 = .ok (.putfield 36, 3) := by decide +kernel
theorem dX6_speak_26 : decode cX6_speak 26 = .ok (.aload_n 0, 1) := by decide +kernel
theorem dX6_speak_27 : decode cX6_speak 27 = .ok (.aload_n 2, 1) := by decide +kernel
theorem dX6_speak_28 : decode cX6_speak 28 = .ok (.getfield 37, 3) := by decide +kernel
theorem dX6_speak_31 : decode cX6_speak 31 = .ok (.putfield 40, 3) := by decide +kernel
theorem dX6_speak_34 : decode cX6_speak 34 = .ok (.aload_n 0, 1) := by decide +kernel
theorem dX6_speak_35 : decode cX6_speak 35 = .ok (.iload_n 3, 1) := by decide +kernel
theorem dX6_speak_36 : decode cX6_speak 36 = .ok (.aload_n 0, 1) := by decide +kernel
theorem dX6_speak_37 : decode cX6_speak 37 = .ok (.getfield 36, 3) := by decide +kernel
theorem dX6_speak_40 : decode cX6_speak 40 = .ok (.iload 4, 2) := by decide +kernel
theorem dX6_speak_42 : decode cX6_speak 42 = .ok (.iconst 0, 1) := by decide +kernel
theorem dX6_speak_43 : decode cX6_speak 43 = .ok (.invokevirtual 41, 3) := by decide +kernel
theorem dX6_speak_46 : decode cX6_speak 46 = .ok (.ireturn, 1) := by decide +kernel
theorem dX6_say_0 : decode cX6_say 0 = .ok (.aload_n 0, 1) := by decide +kernel
theorem dX6_say_1 : decode cX6_say 1 = .ok (.getfield 24, 3) := by decide +kernel
theorem dX6_say_4 : decode cX6_say 4 = .ok (.ifCond .ne 10, 3) := by decide +kernel
theorem dX6_say_7 : decode cX6_say 7 = .ok (.iload 4, 2) := by decide +kernel
theorem dX6_say_9 : decode cX6_say 9 = .ok (.bipush 30, 2) := by decide +kernel
theorem dX6_say_11 : decode cX6_say 11 = .ok (.if_icmp .le 5, 3) := by decide +kernel
theorem dX6_say_14 : decode cX6_say 14 = .ok (.iconst 0, 1) := by decide +kernel
theorem dX6_say_15 : decode cX6_say 15 = .ok (.ireturn, 1) := by decide +kernel
theorem dX6_say_16 : decode cX6_say 16 = .ok (.iload_n 2, 1) := by decide +kernel
theorem dX6_say_17 : decode cX6_say 17 = .ok (.istore 5, 2) := by decide +kernel
theorem dX6_say_19 : decode cX6_say 19 = .ok (.iconst 0, 1) := by decide +kernel
theorem dX6_say_20 : decode cX6_say 20 = .ok (.istore 6, 2) := by decide +kernel
theorem dX6_say_22 : decode cX6_say 22 = .ok (.iload 6, 2) := by decide +kernel
theorem dX6_say_24 : decode cX6_say 24 = .ok (.bipush 7, 2) := by decide +kernel
theorem dX6_say_26 : decode cX6_say 26 = .ok (.if_icmp .ge 30, 3) := by decide +kernel
theorem dX6_say_29 : decode cX6_say 29 = .ok (.getstatic 45, 3) := by decide +kernel
theorem dX6_say_32 : decode cX6_say 32 = .ok (.iload 5, 2) := by decide +kernel
theorem dX6_say_34 : decode cX6_say 34 = .ok (.iconst 4, 1) := by decide +kernel
theorem dX6_say_35 : decode cX6_say 35 = .ok (.imul, 1) := by decide +kernel
theorem dX6_say_36 : decode cX6_say 36 = .ok (.iload_n 1, 1) := by decide +kernel
theorem dX6_say_37 : decode cX6_say 37 = .ok (.iadd, 1) := by decide +kernel
theorem dX6_say_38 : decode cX6_say 38 = .ok (.iaload, 1) := by decide +kernel
theorem dX6_say_39 : decode cX6_say 39 = .ok (.ifCond .ne 17, 3) := by decide +kernel
theorem dX6_say_42 : decode cX6_say 42 = .ok (.getstatic 49, 3) := by decide +kernel
theorem dX6_say_45 : decode cX6_say 45 = .ok (.iload 5, 2) := by decide +kernel
theorem dX6_say_47 : decode cX6_say 47 = .ok (.iaload, 1) := by decide +kernel
theorem dX6_say_48 : decode cX6_say 48 = .ok (.istore 5, 2) := by decide +kernel
theorem dX6_say_50 : decode cX6_say 50 = .ok (.iinc 6 1, 3) := by decide +kernel
theorem dX6_say_53 : decode cX6_say 53 = .ok (.goto (-31), 3) := by decide +kernel
theorem dX6_say_56 : decode cX6_say 56 = .ok (.getstatic 45, 3) := by decide +kernel
theorem dX6_say_59 : decode cX6_say 59 = .ok (.iload 5, 2) := by decide +kernel
theorem dX6_say_61 : decode cX6_say 61 = .ok (.iconst 4, 1) := by decide +kernel
theorem dX6_say_62 : decode cX6_say 62 = .ok (.imul, 1) := by decide +kernel
theorem dX6_say_63 : decode cX6_say 63 = .ok (.iload_n 1, 1) := by decide +kernel
theorem dX6_say_64 : decode cX6_say 64 = .ok (.iadd, 1) := by decide +kernel
theorem dX6_say_65 : decode cX6_say 65 = .ok (.iaload, 1) := by decide +kernel
theorem dX6_say_66 : decode cX6_say 66 = .ok (.istore 6, 2) := by decide +kernel
theorem dX6_say_68 : decode cX6_say 68 = .ok (.getstatic 49, 3) := by decide +kernel
theorem dX6_say_71 : decode cX6_say 71 = .ok (.iload 5, 2) := by decide +kernel
theorem dX6_say_73 : decode cX6_say 73 = .ok (.iaload, 1) := by decide +kernel
theorem dX6_say_74 : decode cX6_say 74 = .ok (.istore 7, 2) := by decide +kernel
theorem dX6_say_76 : decode cX6_say 76 = .ok (.iload 4, 2) := by decide +kernel
theorem dX6_say_78 : decode cX6_say 78 = .ok (.iconst 1, 1) := by decide +kernel
theorem dX6_say_79 : decode cX6_say 79 = .ok (.iadd, 1) := by decide +kernel
theorem dX6_say_80 : decode cX6_say 80 = .ok (.istore 8, 2) := by decide +kernel
theorem dX6_say_82 : decode cX6_say 82 = .ok (.aload_n 0, 1) := by decide +kernel
theorem dX6_say_83 : decode cX6_say 83 = .ok (.getfield 14, 3) := by decide +kernel
theorem dX6_say_86 : decode cX6_say 86 = .ok (.iload 6, 2) := by decide +kernel
theorem dX6_say_88 : decode cX6_say 88 = .ok (.invokevirtual 52, 3) := by decide +kernel
theorem dX6_say_91 : decode cX6_say 91 = .ok (.iload 6, 2) := by decide +kernel
theorem dX6_say_93 : decode cX6_say 93 = .ok (.lookupswitch 294 #[(10, 115), (11, 122), (12, 137), (13, 155), (20, 170), (21, 184), (30, 208), (40, 221), (50, 234), (51, 247), (60, 263), (70, 276), (71, 278)], 115) := by decide +kernel
theorem dX6_say_208 : decode cX6_say 208 = .ok (.iload_n 3, 1) := by decide +kernel
theorem dX6_say_209 : decode cX6_say 209 = .ok (.aload_n 0, 1) := by decide +kernel
theorem dX6_say_210 : decode cX6_say 210 = .ok (.getfield 28, 3) := by decide +kernel
theorem dX6_say_213 : decode cX6_say 213 = .ok (.iadd, 1) := by decide +kernel
theorem dX6_say_214 : decode cX6_say 214 = .ok (.ireturn, 1) := by decide +kernel
theorem dX6_say_215 : decode cX6_say 215 = .ok (.aload_n 0, 1) := by decide +kernel
theorem dX6_say_216 : decode cX6_say 216 = .ok (.iconst 0, 1) := by decide +kernel
theorem dX6_say_217 : decode cX6_say 217 = .ok (.aload_n 0, 1) := by decide +kernel
theorem dX6_say_218 : decode cX6_say 218 = .ok (.getfield 36, 3) := by decide +kernel
theorem dX6_say_221 : decode cX6_say 221 = .ok (.iload_n 3, 1) := by decide +kernel
theorem dX6_say_222 : decode cX6_say 222 = .ok (.iload 8, 2) := by decide +kernel
theorem dX6_say_224 : decode cX6_say 224 = .ok (.invokevirtual 41, 3) := by decide +kernel
theorem dX6_say_227 : decode cX6_say 227 = .ok (.iconst 2, 1) := by decide +kernel
theorem dX6_say_228 : decode cX6_say 228 = .ok (.imul, 1) := by decide +kernel
theorem dX6_say_229 : decode cX6_say 229 = .ok (.ireturn, 1) := by decide +kernel
theorem dX6_say_230 : decode cX6_say 230 = .ok (.aload_n 0, 1) := by decide +kernel
theorem dX6_say_231 : decode cX6_say 231 = .ok (.iconst 1, 1) := by decide +kernel
theorem dX6_say_232 : decode cX6_say 232 = .ok (.aload_n 0, 1) := by decide +kernel
theorem dX6_say_233 : decode cX6_say 233 = .ok (.getfield 36, 3) := by decide +kernel
theorem dX6_say_236 : decode cX6_say 236 = .ok (.iload_n 3, 1) := by decide +kernel
theorem dX6_say_237 : decode cX6_say 237 = .ok (.iload 8, 2) := by decide +kernel
theorem dX6_say_239 : decode cX6_say 239 = .ok (.invokevirtual 41, 3) := by decide +kernel
theorem dX6_say_242 : decode cX6_say 242 = .ok (.aload_n 0, 1) := by decide +kernel
theorem dX6_say_243 : decode cX6_say 243 = .ok (.getfield 40, 3) := by decide +kernel
theorem dX6_say_246 : decode cX6_say 246 = .ok (.isub, 1) := by decide +kernel
theorem dX6_say_247 : decode cX6_say 247 = .ok (.ireturn, 1) := by decide +kernel
theorem dX6_say_248 : decode cX6_say 248 = .ok (.aload_n 0, 1) := by decide +kernel
theorem dX6_say_249 : decode cX6_say 249 = .ok (.iload_n 3, 1) := by decide +kernel
theorem dX6_say_250 : decode cX6_say 250 = .ok (.aload_n 0, 1) := by decide +kernel
theorem dX6_say_251 : decode cX6_say 251 = .ok (.getfield 40, 3) := by decide +kernel
theorem dX6_say_254 : decode cX6_say 254 = .ok (.aload_n 0, 1) := by decide +kernel
theorem dX6_say_255 : decode cX6_say 255 = .ok (.getfield 28, 3) := by decide +kernel
theorem dX6_say_258 : decode cX6_say 258 = .ok (.isub, 1) := by decide +kernel
theorem dX6_say_259 : decode cX6_say 259 = .ok (.invokevirtual 55, 3) := by decide +kernel
theorem dX6_say_262 : decode cX6_say 262 = .ok (.ireturn, 1) := by decide +kernel
theorem dX6_say_263 : decode cX6_say 263 = .ok (.aload_n 0, 1) := by decide +kernel
theorem dX6_say_264 : decode cX6_say 264 = .ok (.iconst 0, 1) := by decide +kernel
theorem dX6_say_265 : decode cX6_say 265 = .ok (.iload 7, 2) := by decide +kernel
theorem dX6_say_267 : decode cX6_say 267 = .ok (.iload_n 3, 1) := by decide +kernel
theorem dX6_say_268 : decode cX6_say 268 = .ok (.iload 8, 2) := by decide +kernel
theorem dX6_say_270 : decode cX6_say 270 = .ok (.invokevirtual 41, 3) := by decide +kernel
theorem dX6_say_273 : decode cX6_say 273 = .ok (.bipush 6, 2) := by decide +kernel
theorem dX6_say_275 : decode cX6_say 275 = .ok (.isub, 1) := by decide +kernel
theorem dX6_say_276 : decode cX6_say 276 = .ok (.ireturn, 1) := by decide +kernel
theorem dX6_say_277 : decode cX6_say 277 = .ok (.aload_n 0, 1) := by decide +kernel
theorem dX6_say_278 : decode cX6_say 278 = .ok (.iconst 3, 1) := by decide +kernel
theorem dX6_say_279 : decode cX6_say 279 = .ok (.iload 7, 2) := by decide +kernel
theorem dX6_say_281 : decode cX6_say 281 = .ok (.iload_n 3, 1) := by decide +kernel
theorem dX6_say_282 : decode cX6_say 282 = .ok (.iload 8, 2) := by decide +kernel
theorem dX6_say_284 : decode cX6_say 284 = .ok (.invokevirtual 41, 3) := by decide +kernel
theorem dX6_say_287 : decode cX6_say 287 = .ok (.aload_n 0, 1) := by decide +kernel
theorem dX6_say_288 : decode cX6_say 288 = .ok (.iconst 1, 1) := by decide +kernel
theorem dX6_say_289 : decode cX6_say 289 = .ok (.aload_n 0, 1) := by decide +kernel
theorem dX6_say_290 : decode cX6_say 290 = .ok (.getfield 36, 3) := by decide +kernel
theorem dX6_say_293 : decode cX6_say 293 = .ok (.iconst 1, 1) := by decide +kernel
theorem dX6_say_294 : decode cX6_say 294 = .ok (.iload 8, 2) := by decide +kernel
theorem dX6_say_296 : decode cX6_say 296 = .ok (.invokevirtual 41, 3) := by decide +kernel
theorem dX6_say_299 : decode cX6_say 299 = .ok (.iadd, 1) := by decide +kernel
theorem dX6_say_300 : decode cX6_say 300 = .ok (.ireturn, 1) := by decide +kernel
theorem dX6_say_301 : decode cX6_say 301 = .ok (.iconst 0, 1) := by decide +kernel
theorem dX6_say_302 : decode cX6_say 302 = .ok (.aload_n 0, 1) := by decide +kernel
theorem dX6_say_303 : decode cX6_say 303 = .ok (.iconst 1, 1) := by decide +kernel
theorem dX6_say_304 : decode cX6_say 304 = .ok (.iload 7, 2) := by decide +kernel
theorem dX6_say_306 : decode cX6_say 306 = .ok (.iload_n 3, 1) := by decide +kernel
theorem dX6_say_307 : decode cX6_say 307 = .ok (.iload 8, 2) := by decide +kernel
theorem dX6_say_309 : decode cX6_say 309 = .ok (.invokevirtual 41, 3) := by decide +kernel
theorem dX6_say_312 : decode cX6_say 312 = .ok (.isub, 1) := by decide +kernel
theorem dX6_say_313 : decode cX6_say 313 = .ok (.ireturn, 1) := by decide +kernel
theorem dX6_say_314 : decode cX6_say 314 = .ok (.aload_n 0, 1) := by decide +kernel
theorem dX6_say_315 : decode cX6_say 315 = .ok (.iconst 2, 1) := by decide +kernel
theorem dX6_say_316 : decode cX6_say 316 = .ok (.iload 7, 2) := by decide +kernel
theorem dX6_say_318 : decode cX6_say 318 = .ok (.iload_n 3, 1) := by decide +kernel
theorem dX6_say_319 : decode cX6_say 319 = .ok (.iconst 2, 1) := by decide +kernel
theorem dX6_say_320 : decode cX6_say 320 = .ok (.idiv, 1) := by decide +kernel
theorem dX6_say_321 : decode cX6_say 321 = .ok (.iload 8, 2) := by decide +kernel
theorem dX6_say_323 : decode cX6_say 323 = .ok (.invokevirtual 41, 3) := by decide +kernel
theorem dX6_say_326 : decode cX6_say 326 = .ok (.ireturn, 1) := by decide +kernel
theorem dX6_say_327 : decode cX6_say 327 = .ok (.aload_n 0, 1) := by decide +kernel
theorem dX6_say_328 : decode cX6_say 328 = .ok (.iconst 0, 1) := by decide +kernel
theorem dX6_say_329 : decode cX6_say 329 = .ok (.iload 7, 2) := by decide +kernel
theorem dX6_say_331 : decode cX6_say 331 = .ok (.iload_n 3, 1) := by decide +kernel
theorem dX6_say_332 : decode cX6_say 332 = .ok (.iload 8, 2) := by decide +kernel
theorem dX6_say_334 : decode cX6_say 334 = .ok (.invokevirtual 41, 3) := by decide +kernel
theorem dX6_say_337 : decode cX6_say 337 = .ok (.iconst 3, 1) := by decide +kernel
theorem dX6_say_338 : decode cX6_say 338 = .ok (.imul, 1) := by decide +kernel
theorem dX6_say_339 : decode cX6_say 339 = .ok (.ireturn, 1) := by decide +kernel
theorem dX6_say_340 : decode cX6_say 340 = .ok (.aload_n 0, 1) := by decide +kernel
theorem dX6_say_341 : decode cX6_say 341 = .ok (.iconst 2, 1) := by decide +kernel
theorem dX6_say_342 : decode cX6_say 342 = .ok (.iload 7, 2) := by decide +kernel
theorem dX6_say_344 : decode cX6_say 344 = .ok (.iload_n 3, 1) := by decide +kernel
theorem dX6_say_345 : decode cX6_say 345 = .ok (.iload 8, 2) := by decide +kernel
theorem dX6_say_347 : decode cX6_say 347 = .ok (.invokevirtual 41, 3) := by decide +kernel
theorem dX6_say_350 : decode cX6_say 350 = .ok (.aload_n 0, 1) := by decide +kernel
theorem dX6_say_351 : decode cX6_say 351 = .ok (.getfield 28, 3) := by decide +kernel
theorem dX6_say_354 : decode cX6_say 354 = .ok (.ixor, 1) := by decide +kernel
theorem dX6_say_355 : decode cX6_say 355 = .ok (.ireturn, 1) := by decide +kernel
theorem dX6_say_356 : decode cX6_say 356 = .ok (.aload_n 0, 1) := by decide +kernel
theorem dX6_say_357 : decode cX6_say 357 = .ok (.iconst 1, 1) := by decide +kernel
theorem dX6_say_358 : decode cX6_say 358 = .ok (.iload 7, 2) := by decide +kernel
theorem dX6_say_360 : decode cX6_say 360 = .ok (.iload_n 3, 1) := by decide +kernel
theorem dX6_say_361 : decode cX6_say 361 = .ok (.iconst 1, 1) := by decide +kernel
theorem dX6_say_362 : decode cX6_say 362 = .ok (.iadd, 1) := by decide +kernel
theorem dX6_say_363 : decode cX6_say 363 = .ok (.iload 8, 2) := by decide +kernel
theorem dX6_say_365 : decode cX6_say 365 = .ok (.invokevirtual 41, 3) := by decide +kernel
theorem dX6_say_368 : decode cX6_say 368 = .ok (.ireturn, 1) := by decide +kernel
theorem dX6_say_369 : decode cX6_say 369 = .ok (.iconst 5, 1) := by decide +kernel
theorem dX6_say_370 : decode cX6_say 370 = .ok (.ireturn, 1) := by decide +kernel
theorem dX6_say_371 : decode cX6_say 371 = .ok (.aload_n 0, 1) := by decide +kernel
theorem dX6_say_372 : decode cX6_say 372 = .ok (.iconst 1, 1) := by decide +kernel
theorem dX6_say_373 : decode cX6_say 373 = .ok (.iload 7, 2) := by decide +kernel
theorem dX6_say_375 : decode cX6_say 375 = .ok (.iload_n 3, 1) := by decide +kernel
theorem dX6_say_376 : decode cX6_say 376 = .ok (.iload 8, 2) := by decide +kernel
theorem dX6_say_378 : decode cX6_say 378 = .ok (.invokevirtual 41, 3) := by decide +kernel
theorem dX6_say_381 : decode cX6_say 381 = .ok (.aload_n 0, 1) := by decide +kernel
theorem dX6_say_382 : decode cX6_say 382 = .ok (.getfield 40, 3) := by decide +kernel
theorem dX6_say_385 : decode cX6_say 385 = .ok (.iadd, 1) := by decide +kernel
theorem dX6_say_386 : decode cX6_say 386 = .ok (.ireturn, 1) := by decide +kernel
theorem dX6_say_387 : decode cX6_say 387 = .ok (.iconst 0, 1) := by decide +kernel
theorem dX6_say_388 : decode cX6_say 388 = .ok (.ireturn, 1) := by decide +kernel
theorem dX6_part_0 : decode cX6_part 0 = .ok (.iload_n 2, 1) := by decide +kernel
theorem dX6_part_1 : decode cX6_part 1 = .ok (.ifCond .ne 10, 3) := by decide +kernel
theorem dX6_part_4 : decode cX6_part 4 = .ok (.aload_n 0, 1) := by decide +kernel
theorem dX6_part_5 : decode cX6_part 5 = .ok (.iconst 1, 1) := by decide +kernel
theorem dX6_part_6 : decode cX6_part 6 = .ok (.putfield 24, 3) := by decide +kernel
theorem dX6_part_9 : decode cX6_part 9 = .ok (.iconst 0, 1) := by decide +kernel
theorem dX6_part_10 : decode cX6_part 10 = .ok (.ireturn, 1) := by decide +kernel
theorem dX6_part_11 : decode cX6_part 11 = .ok (.iload_n 1, 1) := by decide +kernel
theorem dX6_part_12 : decode cX6_part 12 = .ok (.iload_n 2, 1) := by decide +kernel
theorem dX6_part_13 : decode cX6_part 13 = .ok (.idiv, 1) := by decide +kernel
theorem dX6_part_14 : decode cX6_part 14 = .ok (.ireturn, 1) := by decide +kernel
theorem dX7_init_0 : decode cX7_init 0 = .ok (.aload_n 0, 1) := by decide +kernel
theorem dX7_init_1 : decode cX7_init 1 = .ok (.invokespecial 3, 3) := by decide +kernel
theorem dX7_init_4 : decode cX7_init 4 = .ok (.aload_n 0, 1) := by decide +kernel
theorem dX7_init_5 : decode cX7_init 5 = .ok (.bipush 60, 2) := by decide +kernel
theorem dX7_init_7 : decode cX7_init 7 = .ok (.newarray .int, 2) := by decide +kernel
theorem dX7_init_9 : decode cX7_init 9 = .ok (.putfield 9, 3) := by decide +kernel
theorem dX7_init_12 : decode cX7_init 12 = .ok (.aload_n 0, 1) := by decide +kernel
theorem dX7_init_13 : decode cX7_init 13 = .ok (.bipush 60, 2) := by decide +kernel
theorem dX7_init_15 : decode cX7_init 15 = .ok (.newarray .int, 2) := by decide +kernel
theorem dX7_init_17 : decode cX7_init 17 = .ok (.putfield 15, 3) := by decide +kernel
theorem dX7_init_20 : decode cX7_init 20 = .ok (.return_, 1) := by decide +kernel
theorem dX7_isThere_0 : decode cX7_isThere 0 = .ok (.aload_n 0, 1) := by decide +kernel
theorem dX7_isThere_1 : decode cX7_isThere 1 = .ok (.getfield 18, 3) := by decide +kernel
theorem dX7_isThere_4 : decode cX7_isThere 4 = .ok (.ifCond .le 7, 3) := by decide +kernel
theorem dX7_isThere_7 : decode cX7_isThere 7 = .ok (.iconst 1, 1) := by decide +kernel
theorem dX7_isThere_8 : decode cX7_isThere 8 = .ok (.goto 4, 3) := by decide +kernel
theorem dX7_isThere_11 : decode cX7_isThere 11 = .ok (.iconst 0, 1) := by decide +kernel
theorem dX7_isThere_12 : decode cX7_isThere 12 = .ok (.ireturn, 1) := by decide +kernel
theorem dX7_add_0 : decode cX7_add 0 = .ok (.aload_n 0, 1) := by decide +kernel
theorem dX7_add_1 : decode cX7_add 1 = .ok (.getfield 18, 3) := by decide +kernel
theorem dX7_add_4 : decode cX7_add 4 = .ok (.bipush 60, 2) := by decide +kernel
theorem dX7_add_6 : decode cX7_add 6 = .ok (.if_icmp .ge 23, 3) := by decide +kernel
theorem dX7_add_9 : decode cX7_add 9 = .ok (.aload_n 0, 1) := by decide +kernel
theorem dX7_add_10 : decode cX7_add 10 = .ok (.getfield 9, 3) := by decide +kernel
theorem dX7_add_13 : decode cX7_add 13 = .ok (.aload_n 0, 1) := by decide +kernel
theorem dX7_add_14 : decode cX7_add 14 = .ok (.getfield 18, 3) := by decide +kernel
theorem dX7_add_17 : decode cX7_add 17 = .ok (.iload_n 1, 1) := by decide +kernel
theorem dX7_add_18 : decode cX7_add 18 = .ok (.iastore, 1) := by decide +kernel
theorem dX7_add_19 : decode cX7_add 19 = .ok (.aload_n 0, 1) := by decide +kernel
theorem dX7_add_20 : decode cX7_add 20 = .ok (.dup, 1) := by decide +kernel
theorem dX7_add_21 : decode cX7_add 21 = .ok (.getfield 18, 3) := by decide +kernel
theorem dX7_add_24 : decode cX7_add 24 = .ok (.iconst 1, 1) := by decide +kernel
theorem dX7_add_25 : decode cX7_add 25 = .ok (.iadd, 1) := by decide +kernel
theorem dX7_add_26 : decode cX7_add 26 = .ok (.putfield 18, 3) := by decide +kernel
theorem dX7_add_29 : decode cX7_add 29 = .ok (.return_, 1) := by decide +kernel
theorem dX7_takeFrom_0 : decode cX7_takeFrom 0 = .ok (.aload_n 0, 1) := by decide +kernel
theorem dX7_takeFrom_1 : decode cX7_takeFrom 1 = .ok (.aload_n 1, 1) := by decide +kernel
theorem dX7_takeFrom_2 : decode cX7_takeFrom 2 = .ok (.getfield 18, 3) := by decide +kernel
theorem dX7_takeFrom_5 : decode cX7_takeFrom 5 = .ok (.putfield 18, 3) := by decide +kernel
theorem dX7_takeFrom_8 : decode cX7_takeFrom 8 = .ok (.aload_n 1, 1) := by decide +kernel
theorem dX7_takeFrom_9 : decode cX7_takeFrom 9 = .ok (.getfield 9, 3) := by decide +kernel
theorem dX7_takeFrom_12 : decode cX7_takeFrom 12 = .ok (.iconst 0, 1) := by decide +kernel
theorem dX7_takeFrom_13 : decode cX7_takeFrom 13 = .ok (.aload_n 0, 1) := by decide +kernel
theorem dX7_takeFrom_14 : decode cX7_takeFrom 14 = .ok (.getfield 9, 3) := by decide +kernel
theorem dX7_takeFrom_17 : decode cX7_takeFrom 17 = .ok (.iconst 0, 1) := by decide +kernel
theorem dX7_takeFrom_18 : decode cX7_takeFrom 18 = .ok (.aload_n 0, 1) := by decide +kernel
theorem dX7_takeFrom_19 : decode cX7_takeFrom 19 = .ok (.getfield 18, 3) := by decide +kernel
theorem dX7_takeFrom_22 : decode cX7_takeFrom 22 = .ok (.invokestatic 22, 3) := by decide +kernel
theorem dX7_takeFrom_25 : decode cX7_takeFrom 25 = .ok (.return_, 1) := by decide +kernel
theorem dX7_worth_0 : decode cX7_worth 0 = .ok (.iconst (-1), 1) := by decide +kernel
theorem dX7_worth_1 : decode cX7_worth 1 = .ok (.istore_n 2, 1) := by decide +kernel
theorem dX7_worth_2 : decode cX7_worth 2 = .ok (.iconst 0, 1) := by decide +kernel
theorem dX7_worth_3 : decode cX7_worth 3 = .ok (.istore_n 3, 1) := by decide +kernel
theorem dX7_worth_4 : decode cX7_worth 4 = .ok (.iload_n 3, 1) := by decide +kernel
theorem dX7_worth_5 : decode cX7_worth 5 = .ok (.aload_n 0, 1) := by decide +kernel
theorem dX7_worth_6 : decode cX7_worth 6 = .ok (.getfield 18, 3) := by decide +kernel
theorem dX7_worth_9 : decode cX7_worth 9 = .ok (.if_icmp .ge 132, 3) := by decide +kernel
theorem dX7_worth_12 : decode cX7_worth 12 = .ok (.aload_n 0, 1) := by decide +kernel
theorem dX7_worth_13 : decode cX7_worth 13 = .ok (.getfield 9, 3) := by decide +kernel
theorem dX7_worth_16 : decode cX7_worth 16 = .ok (.iload_n 3, 1) := by decide +kernel
theorem dX7_worth_17 : decode cX7_worth 17 = .ok (.iaload, 1) := by decide +kernel
theorem dX7_worth_18 : decode cX7_worth 18 = .ok (.istore 4, 2) := by decide +kernel
theorem dX7_worth_20 : decode cX7_worth 20 = .ok (.iload 4, 2) := by decide +kernel
theorem dX7_worth_22 : decode cX7_worth 22 = .ok (.sipush 20000, 3) := by decide +kernel
theorem dX7_worth_25 : decode cX7_worth 25 = .ok (.if_icmp .ge 38, 3) := by decide +kernel
theorem dX7_worth_28 : decode cX7_worth 28 = .ok (.iinc 2 1, 3) := by decide +kernel
theorem dX7_worth_31 : decode cX7_worth 31 = .ok (.aload_n 0, 1) := by decide +kernel
theorem dX7_worth_32 : decode cX7_worth 32 = .ok (.getfield 15, 3) := by decide +kernel
theorem dX7_worth_35 : decode cX7_worth 35 = .ok (.iload_n 2, 1) := by decide +kernel
theorem dX7_worth_36 : decode cX7_worth 36 = .ok (.iload 4, 2) := by decide +kernel
theorem dX7_worth_38 : decode cX7_worth 38 = .ok (.sipush 10000, 3) := by decide +kernel
theorem dX7_worth_41 : decode cX7_worth 41 = .ok (.if_icmp .ge 8, 3) := by decide +kernel
theorem dX7_worth_44 : decode cX7_worth 44 = .ok (.iload 4, 2) := by decide +kernel
theorem dX7_worth_46 : decode cX7_worth 46 = .ok (.goto 13, 3) := by decide +kernel
theorem dX7_worth_49 : decode cX7_worth 49 = .ok (.aload_n 1, 1) := by decide +kernel
theorem dX7_worth_50 : decode cX7_worth 50 = .ok (.iload 4, 2) := by decide +kernel
theorem dX7_worth_52 : decode cX7_worth 52 = .ok (.sipush 10000, 3) := by decide +kernel
theorem dX7_worth_55 : decode cX7_worth 55 = .ok (.isub, 1) := by decide +kernel
theorem dX7_worth_56 : decode cX7_worth 56 = .ok (.invokestatic 28, 3) := by decide +kernel
theorem dX7_worth_59 : decode cX7_worth 59 = .ok (.iastore, 1) := by decide +kernel
theorem dX7_worth_60 : decode cX7_worth 60 = .ok (.goto 75, 3) := by decide +kernel
theorem dX7_worth_63 : decode cX7_worth 63 = .ok (.iload 4, 2) := by decide +kernel
theorem dX7_worth_65 : decode cX7_worth 65 = .ok (.sipush 20033, 3) := by decide +kernel
theorem dX7_worth_68 : decode cX7_worth 68 = .ok (.if_icmp .ne 30, 3) := by decide +kernel
theorem dX7_worth_71 : decode cX7_worth 71 = .ok (.iload_n 2, 1) := by decide +kernel
theorem dX7_worth_72 : decode cX7_worth 72 = .ok (.ifCond .lt 63, 3) := by decide +kernel
theorem dX7_worth_75 : decode cX7_worth 75 = .ok (.aload_n 0, 1) := by decide +kernel
theorem dX7_worth_76 : decode cX7_worth 76 = .ok (.getfield 15, 3) := by decide +kernel
theorem dX7_worth_79 : decode cX7_worth 79 = .ok (.iload_n 2, 1) := by decide +kernel
theorem dX7_worth_80 : decode cX7_worth 80 = .ok (.aload_n 0, 1) := by decide +kernel
theorem dX7_worth_81 : decode cX7_worth 81 = .ok (.getfield 15, 3) := by decide +kernel
theorem dX7_worth_84 : decode cX7_worth 84 = .ok (.iload_n 2, 1) := by decide +kernel
theorem dX7_worth_85 : decode cX7_worth 85 = .ok (.iaload, 1) := by decide +kernel
theorem dX7_worth_86 : decode cX7_worth 86 = .ok (.ifCond .ne 7, 3) := by decide +kernel
theorem dX7_worth_89 : decode cX7_worth 89 = .ok (.iconst 1, 1) := by decide +kernel
theorem dX7_worth_90 : decode cX7_worth 90 = .ok (.goto 4, 3) := by decide +kernel
theorem dX7_worth_93 : decode cX7_worth 93 = .ok (.iconst 0, 1) := by decide +kernel
theorem dX7_worth_94 : decode cX7_worth 94 = .ok (.iastore, 1) := by decide +kernel
theorem dX7_worth_95 : decode cX7_worth 95 = .ok (.goto 40, 3) := by decide +kernel
theorem dX7_worth_98 : decode cX7_worth 98 = .ok (.iload_n 2, 1) := by decide +kernel
theorem dX7_worth_99 : decode cX7_worth 99 = .ok (.iconst 1, 1) := by decide +kernel
theorem dX7_worth_100 : decode cX7_worth 100 = .ok (.if_icmp .lt 35, 3) := by decide +kernel
theorem dX7_worth_103 : decode cX7_worth 103 = .ok (.iinc 2 (-1), 3) := by decide +kernel
theorem dX7_worth_106 : decode cX7_worth 106 = .ok (.aload_n 0, 1) := by decide +kernel
theorem dX7_worth_107 : decode cX7_worth 107 = .ok (.getfield 15, 3) := by decide +kernel
theorem dX7_worth_110 : decode cX7_worth 110 = .ok (.iload_n 2, 1) := by decide +kernel
theorem dX7_worth_111 : decode cX7_worth 111 = .ok (.iload 4, 2) := by decide +kernel
theorem dX7_worth_113 : decode cX7_worth 113 = .ok (.sipush 20000, 3) := by decide +kernel
theorem dX7_worth_116 : decode cX7_worth 116 = .ok (.isub, 1) := by decide +kernel
theorem dX7_worth_117 : decode cX7_worth 117 = .ok (.aload_n 0, 1) := by decide +kernel
theorem dX7_worth_118 : decode cX7_worth 118 = .ok (.getfield 15, 3) := by decide +kernel
theorem dX7_worth_121 : decode cX7_worth 121 = .ok (.iload_n 2, 1) := by decide +kernel
theorem dX7_worth_122 : decode cX7_worth 122 = .ok (.iaload, 1) := by decide +kernel
theorem dX7_worth_123 : decode cX7_worth 123 = .ok (.aload_n 0, 1) := by decide +kernel
theorem dX7_worth_124 : decode cX7_worth 124 = .ok (.getfield 15, 3) := by decide +kernel
theorem dX7_worth_127 : decode cX7_worth 127 = .ok (.iload_n 2, 1) := by decide +kernel
theorem dX7_worth_128 : decode cX7_worth 128 = .ok (.iconst 1, 1) := by decide +kernel
theorem dX7_worth_129 : decode cX7_worth 129 = .ok (.iadd, 1) := by decide +kernel
theorem dX7_worth_130 : decode cX7_worth 130 = .ok (.iaload, 1) := by decide +kernel
theorem dX7_worth_131 : decode cX7_worth 131 = .ok (.invokestatic 32, 3) := by decide +kernel
theorem dX7_worth_134 : decode cX7_worth 134 = .ok (.iastore, 1) := by decide +kernel
theorem dX7_worth_135 : decode cX7_worth 135 = .ok (.iinc 3 1, 3) := by decide +kernel
theorem dX7_worth_138 : decode cX7_worth 138 = .ok (.goto (-134), 3) := by decide +kernel
theorem dX7_worth_141 : decode cX7_worth 141 = .ok (.iload_n 2, 1) := by decide +kernel
theorem dX7_worth_142 : decode cX7_worth 142 = .ok (.ifCond .lt 12, 3) := by decide +kernel
theorem dX7_worth_145 : decode cX7_worth 145 = .ok (.aload_n 0, 1) := by decide +kernel
theorem dX7_worth_146 : decode cX7_worth 146 = .ok (.getfield 15, 3) := by decide +kernel
theorem dX7_worth_149 : decode cX7_worth 149 = .ok (.iload_n 2, 1) := by decide +kernel
theorem dX7_worth_150 : decode cX7_worth 150 = .ok (.iaload, 1) := by decide +kernel
theorem dX7_worth_151 : decode cX7_worth 151 = .ok (.goto 4, 3) := by decide +kernel
theorem dX7_worth_154 : decode cX7_worth 154 = .ok (.iconst 0, 1) := by decide +kernel
theorem dX7_worth_155 : decode cX7_worth 155 = .ok (.ireturn, 1) := by decide +kernel
theorem dX7_named_0 : decode cX7_named 0 = .ok (.iload_n 1, 1) := by decide +kernel
theorem dX7_named_1 : decode cX7_named 1 = .ok (.ifCond .lt 15, 3) := by decide +kernel
theorem dX7_named_4 : decode cX7_named 4 = .ok (.iload_n 1, 1) := by decide +kernel
theorem dX7_named_5 : decode cX7_named 5 = .ok (.aload_n 0, 1) := by decide +kernel
theorem dX7_named_6 : decode cX7_named 6 = .ok (.arraylength, 1) := by decide +kernel
theorem dX7_named_7 : decode cX7_named 7 = .ok (.if_icmp .ge 9, 3) := by decide +kernel
theorem dX7_named_10 : decode cX7_named 10 = .ok (.aload_n 0, 1) := by decide +kernel
theorem dX7_named_11 : decode cX7_named 11 = .ok (.iload_n 1, 1) := by decide +kernel
theorem dX7_named_12 : decode cX7_named 12 = .ok (.iaload, 1) := by decide +kernel
theorem dX7_named_13 : decode cX7_named 13 = .ok (.goto 4, 3) := by decide +kernel
theorem dX7_named_16 : decode cX7_named 16 = .ok (.iconst 0, 1) := by decide +kernel
theorem dX7_named_17 : decode cX7_named 17 = .ok (.ireturn, 1) := by decide +kernel
theorem dX7_apply_0 : decode cX7_apply 0 = .ok (.iload_n 0, 1) := by decide +kernel
theorem dX7_apply_1 : decode cX7_apply 1 = .ok (.lookupswitch 188 #[(37, 176), (38, 105), (42, 160), (43, 152), (45, 156), (47, 164), (60, 119), (61, 130), (62, 141), (124, 91)], 91) := by decide +kernel
theorem dX7_apply_92 : decode cX7_apply 92 = .ok (.iload_n 1, 1) := by decide +kernel
theorem dX7_apply_93 : decode cX7_apply 93 = .ok (.ifCond .ne 7, 3) := by decide +kernel
theorem dX7_apply_96 : decode cX7_apply 96 = .ok (.iload_n 2, 1) := by decide +kernel
theorem dX7_apply_97 : decode cX7_apply 97 = .ok (.ifCond .eq 7, 3) := by decide +kernel
theorem dX7_apply_100 : decode cX7_apply 100 = .ok (.iconst 1, 1) := by decide +kernel
theorem dX7_apply_101 : decode cX7_apply 101 = .ok (.goto 4, 3) := by decide +kernel
theorem dX7_apply_104 : decode cX7_apply 104 = .ok (.iconst 0, 1) := by decide +kernel
theorem dX7_apply_105 : decode cX7_apply 105 = .ok (.ireturn, 1) := by decide +kernel
theorem dX7_apply_106 : decode cX7_apply 106 = .ok (.iload_n 1, 1) := by decide +kernel
theorem dX7_apply_107 : decode cX7_apply 107 = .ok (.ifCond .eq 11, 3) := by decide +kernel
theorem dX7_apply_110 : decode cX7_apply 110 = .ok (.iload_n 2, 1) := by decide +kernel
theorem dX7_apply_111 : decode cX7_apply 111 = .ok (.ifCond .eq 7, 3) := by decide +kernel
theorem dX7_apply_114 : decode cX7_apply 114 = .ok (.iconst 1, 1) := by decide +kernel
theorem dX7_apply_115 : decode cX7_apply 115 = .ok (.goto 4, 3) := by decide +kernel
theorem dX7_apply_118 : decode cX7_apply 118 = .ok (.iconst 0, 1) := by decide +kernel
theorem dX7_apply_119 : decode cX7_apply 119 = .ok (.ireturn, 1) := by decide +kernel
theorem dX7_apply_120 : decode cX7_apply 120 = .ok (.iload_n 1, 1) := by decide +kernel
theorem dX7_apply_121 : decode cX7_apply 121 = .ok (.iload_n 2, 1) := by decide +kernel
theorem dX7_apply_122 : decode cX7_apply 122 = .ok (.if_icmp .ge 7, 3) := by decide +kernel
theorem dX7_apply_125 : decode cX7_apply 125 = .ok (.iconst 1, 1) := by decide +kernel
theorem dX7_apply_126 : decode cX7_apply 126 = .ok (.goto 4, 3) := by decide +kernel
theorem dX7_apply_129 : decode cX7_apply 129 = .ok (.iconst 0, 1) := by decide +kernel
theorem dX7_apply_130 : decode cX7_apply 130 = .ok (.ireturn, 1) := by decide +kernel
theorem dX7_apply_131 : decode cX7_apply 131 = .ok (.iload_n 1, 1) := by decide +kernel
theorem dX7_apply_132 : decode cX7_apply 132 = .ok (.iload_n 2, 1) := by decide +kernel
theorem dX7_apply_133 : decode cX7_apply 133 = .ok (.if_icmp .ne 7, 3) := by decide +kernel
theorem dX7_apply_136 : decode cX7_apply 136 = .ok (.iconst 1, 1) := by decide +kernel
theorem dX7_apply_137 : decode cX7_apply 137 = .ok (.goto 4, 3) := by decide +kernel
theorem dX7_apply_140 : decode cX7_apply 140 = .ok (.iconst 0, 1) := by decide +kernel
theorem dX7_apply_141 : decode cX7_apply 141 = .ok (.ireturn, 1) := by decide +kernel
theorem dX7_apply_142 : decode cX7_apply 142 = .ok (.iload_n 1, 1) := by decide +kernel
theorem dX7_apply_143 : decode cX7_apply 143 = .ok (.iload_n 2, 1) := by decide +kernel
theorem dX7_apply_144 : decode cX7_apply 144 = .ok (.if_icmp .le 7, 3) := by decide +kernel
theorem dX7_apply_147 : decode cX7_apply 147 = .ok (.iconst 1, 1) := by decide +kernel
theorem dX7_apply_148 : decode cX7_apply 148 = .ok (.goto 4, 3) := by decide +kernel
theorem dX7_apply_151 : decode cX7_apply 151 = .ok (.iconst 0, 1) := by decide +kernel
theorem dX7_apply_152 : decode cX7_apply 152 = .ok (.ireturn, 1) := by decide +kernel
theorem dX7_apply_153 : decode cX7_apply 153 = .ok (.iload_n 1, 1) := by decide +kernel
theorem dX7_apply_154 : decode cX7_apply 154 = .ok (.iload_n 2, 1) := by decide +kernel
theorem dX7_apply_155 : decode cX7_apply 155 = .ok (.iadd, 1) := by decide +kernel
theorem dX7_apply_156 : decode cX7_apply 156 = .ok (.ireturn, 1) := by decide +kernel
theorem dX7_apply_157 : decode cX7_apply 157 = .ok (.iload_n 1, 1) := by decide +kernel
theorem dX7_apply_158 : decode cX7_apply 158 = .ok (.iload_n 2, 1) := by decide +kernel
theorem dX7_apply_159 : decode cX7_apply 159 = .ok (.isub, 1) := by decide +kernel
theorem dX7_apply_160 : decode cX7_apply 160 = .ok (.ireturn, 1) := by decide +kernel
theorem dX7_apply_161 : decode cX7_apply 161 = .ok (.iload_n 1, 1) := by decide +kernel
theorem dX7_apply_162 : decode cX7_apply 162 = .ok (.iload_n 2, 1) := by decide +kernel
theorem dX7_apply_163 : decode cX7_apply 163 = .ok (.imul, 1) := by decide +kernel
theorem dX7_apply_164 : decode cX7_apply 164 = .ok (.ireturn, 1) := by decide +kernel
theorem dX7_apply_165 : decode cX7_apply 165 = .ok (.iload_n 2, 1) := by decide +kernel
theorem dX7_apply_166 : decode cX7_apply 166 = .ok (.ifCond .ne 7, 3) := by decide +kernel
theorem dX7_apply_169 : decode cX7_apply 169 = .ok (.iconst 0, 1) := by decide +kernel
theorem dX7_apply_170 : decode cX7_apply 170 = .ok (.goto 6, 3) := by decide +kernel
theorem dX7_apply_173 : decode cX7_apply 173 = .ok (.iload_n 1, 1) := by decide +kernel
theorem dX7_apply_174 : decode cX7_apply 174 = .ok (.iload_n 2, 1) := by decide +kernel
theorem dX7_apply_175 : decode cX7_apply 175 = .ok (.idiv, 1) := by decide +kernel
theorem dX7_apply_176 : decode cX7_apply 176 = .ok (.ireturn, 1) := by decide +kernel
theorem dX7_apply_177 : decode cX7_apply 177 = .ok (.iload_n 2, 1) := by decide +kernel
theorem dX7_apply_178 : decode cX7_apply 178 = .ok (.ifCond .ne 7, 3) := by decide +kernel
theorem dX7_apply_181 : decode cX7_apply 181 = .ok (.iconst 0, 1) := by decide +kernel
theorem dX7_apply_182 : decode cX7_apply 182 = .ok (.goto 6, 3) := by decide +kernel
theorem dX7_apply_185 : decode cX7_apply 185 = .ok (.iload_n 1, 1) := by decide +kernel
theorem dX7_apply_186 : decode cX7_apply 186 = .ok (.iload_n 2, 1) := by decide +kernel
theorem dX7_apply_187 : decode cX7_apply 187 = .ok (.irem, 1) := by decide +kernel
theorem dX7_apply_188 : decode cX7_apply 188 = .ok (.ireturn, 1) := by decide +kernel
theorem dX7_apply_189 : decode cX7_apply 189 = .ok (.iconst 0, 1) := by decide +kernel
theorem dX7_apply_190 : decode cX7_apply 190 = .ok (.ireturn, 1) := by decide +kernel
theorem dX8_init_0 : decode cX8_init 0 = .ok (.aload_n 0, 1) := by decide +kernel
theorem dX8_init_1 : decode cX8_init 1 = .ok (.invokespecial 3, 3) := by decide +kernel
theorem dX8_init_4 : decode cX8_init 4 = .ok (.aload_n 0, 1) := by decide +kernel
theorem dX8_init_5 : decode cX8_init 5 = .ok (.bipush 10, 2) := by decide +kernel
theorem dX8_init_7 : decode cX8_init 7 = .ok (.anewarray 9, 3) := by decide +kernel
theorem dX8_init_10 : decode cX8_init 10 = .ok (.putfield 11, 3) := by decide +kernel
theorem dX8_init_13 : decode cX8_init 13 = .ok (.aload_n 0, 1) := by decide +kernel
theorem dX8_init_14 : decode cX8_init 14 = .ok (.iconst 5, 1) := by decide +kernel
theorem dX8_init_15 : decode cX8_init 15 = .ok (.anewarray 17, 3) := by decide +kernel
theorem dX8_init_18 : decode cX8_init 18 = .ok (.putfield 19, 3) := by decide +kernel
theorem dX8_init_21 : decode cX8_init 21 = .ok (.aload_n 0, 1) := by decide +kernel
theorem dX8_init_22 : decode cX8_init 22 = .ok (.iconst 2, 1) := by decide +kernel
theorem dX8_init_23 : decode cX8_init 23 = .ok (.anewarray 23, 3) := by decide +kernel
theorem dX8_init_26 : decode cX8_init 26 = .ok (.putfield 25, 3) := by decide +kernel
theorem dX8_init_29 : decode cX8_init 29 = .ok (.aload_n 0, 1) := by decide +kernel
theorem dX8_init_30 : decode cX8_init 30 = .ok (.new 29, 3) := by decide +kernel
theorem dX8_init_33 : decode cX8_init 33 = .ok (.dup, 1) := by decide +kernel
theorem dX8_init_34 : decode cX8_init 34 = .ok (.bipush 60, 2) := by decide +kernel
theorem dX8_init_36 : decode cX8_init 36 = .ok (.invokespecial 31, 3) := by decide +kernel
theorem dX8_init_39 : decode cX8_init 39 = .ok (.putfield 34, 3) := by decide +kernel
theorem dX8_init_42 : decode cX8_init 42 = .ok (.aload_n 0, 1) := by decide +kernel
theorem dX8_init_43 : decode cX8_init 43 = .ok (.new 29, 3) := by decide +kernel
theorem dX8_init_46 : decode cX8_init 46 = .ok (.dup, 1) := by decide +kernel
theorem dX8_init_47 : decode cX8_init 47 = .ok (.bipush 24, 2) := by decide +kernel
theorem dX8_init_49 : decode cX8_init 49 = .ok (.invokespecial 31, 3) := by decide +kernel
theorem dX8_init_52 : decode cX8_init 52 = .ok (.putfield 38, 3) := by decide +kernel
theorem dX8_init_55 : decode cX8_init 55 = .ok (.aload_n 0, 1) := by decide +kernel
theorem dX8_init_56 : decode cX8_init 56 = .ok (.iconst 1, 1) := by decide +kernel
theorem dX8_init_57 : decode cX8_init 57 = .ok (.putfield 41, 3) := by decide +kernel
theorem dX8_init_60 : decode cX8_init 60 = .ok (.aload_n 0, 1) := by decide +kernel
theorem dX8_init_61 : decode cX8_init 61 = .ok (.iconst 5, 1) := by decide +kernel
theorem dX8_init_62 : decode cX8_init 62 = .ok (.newarray .int, 2) := by decide +kernel
theorem dX8_init_64 : decode cX8_init 64 = .ok (.putfield 45, 3) := by decide +kernel
theorem dX8_init_67 : decode cX8_init 67 = .ok (.aload_n 0, 1) := by decide +kernel
theorem dX8_init_68 : decode cX8_init 68 = .ok (.bipush 10, 2) := by decide +kernel
theorem dX8_init_70 : decode cX8_init 70 = .ok (.bipush 10, 2) := by decide +kernel
theorem dX8_init_72 : decode cX8_init 72 = .ok (.multianewarray 49 2, 4) := by decide +kernel
theorem dX8_init_76 : decode cX8_init 76 = .ok (.putfield 51, 3) := by decide +kernel
theorem dX8_init_79 : decode cX8_init 79 = .ok (.iconst 0, 1) := by decide +kernel
theorem dX8_init_80 : decode cX8_init 80 = .ok (.istore_n 1, 1) := by decide +kernel
theorem dX8_init_81 : decode cX8_init 81 = .ok (.iload_n 1, 1) := by decide +kernel
theorem dX8_init_82 : decode cX8_init 82 = .ok (.bipush 10, 2) := by decide +kernel
theorem dX8_init_84 : decode cX8_init 84 = .ok (.if_icmp .ge 22, 3) := by decide +kernel
theorem dX8_init_87 : decode cX8_init 87 = .ok (.aload_n 0, 1) := by decide +kernel
theorem dX8_init_88 : decode cX8_init 88 = .ok (.getfield 11, 3) := by decide +kernel
theorem dX8_init_91 : decode cX8_init 91 = .ok (.iload_n 1, 1) := by decide +kernel
theorem dX8_init_92 : decode cX8_init 92 = .ok (.new 9, 3) := by decide +kernel
theorem dX8_init_95 : decode cX8_init 95 = .ok (.dup, 1) := by decide +kernel
theorem dX8_init_96 : decode cX8_init 96 = .ok (.invokespecial 54, 3) := by decide +kernel
theorem dX8_init_99 : decode cX8_init 99 = .ok (.aastore, 1) := by decide +kernel
theorem dX8_init_100 : decode cX8_init 100 = .ok (.iinc 1 1, 3) := by decide +kernel
theorem dX8_init_103 : decode cX8_init 103 = .ok (.goto (-22), 3) := by decide +kernel
theorem dX8_init_106 : decode cX8_init 106 = .ok (.iconst 0, 1) := by decide +kernel
theorem dX8_init_107 : decode cX8_init 107 = .ok (.istore_n 1, 1) := by decide +kernel
theorem dX8_init_108 : decode cX8_init 108 = .ok (.iload_n 1, 1) := by decide +kernel
theorem dX8_init_109 : decode cX8_init 109 = .ok (.iconst 5, 1) := by decide +kernel
theorem dX8_init_110 : decode cX8_init 110 = .ok (.if_icmp .ge 22, 3) := by decide +kernel
theorem dX8_init_113 : decode cX8_init 113 = .ok (.aload_n 0, 1) := by decide +kernel
theorem dX8_init_114 : decode cX8_init 114 = .ok (.getfield 19, 3) := by decide +kernel
theorem dX8_init_117 : decode cX8_init 117 = .ok (.iload_n 1, 1) := by decide +kernel
theorem dX8_init_118 : decode cX8_init 118 = .ok (.new 17, 3) := by decide +kernel
theorem dX8_init_121 : decode cX8_init 121 = .ok (.dup, 1) := by decide +kernel
theorem dX8_init_122 : decode cX8_init 122 = .ok (.invokespecial 55, 3) := by decide +kernel
theorem dX8_init_125 : decode cX8_init 125 = .ok (.aastore, 1) := by decide +kernel
theorem dX8_init_126 : decode cX8_init 126 = .ok (.iinc 1 1, 3) := by decide +kernel
theorem dX8_init_129 : decode cX8_init 129 = .ok (.goto (-21), 3) := by decide +kernel
theorem dX8_init_132 : decode cX8_init 132 = .ok (.iconst 0, 1) := by decide +kernel
theorem dX8_init_133 : decode cX8_init 133 = .ok (.istore_n 1, 1) := by decide +kernel
theorem dX8_init_134 : decode cX8_init 134 = .ok (.iload_n 1, 1) := by decide +kernel
theorem dX8_init_135 : decode cX8_init 135 = .ok (.iconst 2, 1) := by decide +kernel
theorem dX8_init_136 : decode cX8_init 136 = .ok (.if_icmp .ge 22, 3) := by decide +kernel
theorem dX8_init_139 : decode cX8_init 139 = .ok (.aload_n 0, 1) := by decide +kernel
theorem dX8_init_140 : decode cX8_init 140 = .ok (.getfield 25, 3) := by decide +kernel
theorem dX8_init_143 : decode cX8_init 143 = .ok (.iload_n 1, 1) := by decide +kernel
theorem dX8_init_144 : decode cX8_init 144 = .ok (.new 23, 3) := by decide +kernel
theorem dX8_init_147 : decode cX8_init 147 = .ok (.dup, 1) := by decide +kernel
theorem dX8_init_148 : decode cX8_init 148 = .ok (.invokespecial 56, 3) := by decide +kernel
theorem dX8_init_151 : decode cX8_init 151 = .ok (.aastore, 1) := by decide +kernel
theorem dX8_init_152 : decode cX8_init 152 = .ok (.iinc 1 1, 3) := by decide +kernel
theorem dX8_init_155 : decode cX8_init 155 = .ok (.goto (-21), 3) := by decide +kernel
theorem dX8_init_158 : decode cX8_init 158 = .ok (.return_, 1) := by decide +kernel
theorem dX8_takeFrom_0 : decode cX8_takeFrom 0 = .ok (.iconst 0, 1) := by decide +kernel
theorem dX8_takeFrom_1 : decode cX8_takeFrom 1 = .ok (.istore_n 2, 1) := by decide +kernel
theorem dX8_takeFrom_2 : decode cX8_takeFrom 2 = .ok (.iload_n 2, 1) := by decide +kernel
theorem dX8_takeFrom_3 : decode cX8_takeFrom 3 = .ok (.bipush 10, 2) := by decide +kernel
theorem dX8_takeFrom_5 : decode cX8_takeFrom 5 = .ok (.if_icmp .ge 24, 3) := by decide +kernel
theorem dX8_takeFrom_8 : decode cX8_takeFrom 8 = .ok (.aload_n 0, 1) := by decide +kernel
theorem dX8_takeFrom_9 : decode cX8_takeFrom 9 = .ok (.getfield 11, 3) := by decide +kernel
theorem dX8_takeFrom_12 : decode cX8_takeFrom 12 = .ok (.iload_n 2, 1) := by decide +kernel
theorem dX8_takeFrom_13 : decode cX8_takeFrom 13 = .ok (.aaload, 1) := by decide +kernel
theorem dX8_takeFrom_14 : decode cX8_takeFrom 14 = .ok (.aload_n 1, 1) := by decide +kernel
theorem dX8_takeFrom_15 : decode cX8_takeFrom 15 = .ok (.getfield 11, 3) := by decide +kernel
theorem dX8_takeFrom_18 : decode cX8_takeFrom 18 = .ok (.iload_n 2, 1) := by decide +kernel
theorem dX8_takeFrom_19 : decode cX8_takeFrom 19 = .ok (.aaload, 1) := by decide +kernel
theorem dX8_takeFrom_20 : decode cX8_takeFrom 20 = .ok (.invokevirtual 57, 3) := by decide +kernel
theorem dX8_takeFrom_23 : decode cX8_takeFrom 23 = .ok (.iinc 2 1, 3) := by decide +kernel
theorem dX8_takeFrom_26 : decode cX8_takeFrom 26 = .ok (.goto (-24), 3) := by decide +kernel
theorem dX8_takeFrom_29 : decode cX8_takeFrom 29 = .ok (.iconst 0, 1) := by decide +kernel
theorem dX8_takeFrom_30 : decode cX8_takeFrom 30 = .ok (.istore_n 2, 1) := by decide +kernel
theorem dX8_takeFrom_31 : decode cX8_takeFrom 31 = .ok (.iload_n 2, 1) := by decide +kernel
theorem dX8_takeFrom_32 : decode cX8_takeFrom 32 = .ok (.iconst 5, 1) := by decide +kernel
theorem dX8_takeFrom_33 : decode cX8_takeFrom 33 = .ok (.if_icmp .ge 24, 3) := by decide +kernel
theorem dX8_takeFrom_36 : decode cX8_takeFrom 36 = .ok (.aload_n 0, 1) := by decide +kernel
theorem dX8_takeFrom_37 : decode cX8_takeFrom 37 = .ok (.getfield 19, 3) := by decide +kernel
theorem dX8_takeFrom_40 : decode cX8_takeFrom 40 = .ok (.iload_n 2, 1) := by decide +kernel
theorem dX8_takeFrom_41 : decode cX8_takeFrom 41 = .ok (.aaload, 1) := by decide +kernel
theorem dX8_takeFrom_42 : decode cX8_takeFrom 42 = .ok (.aload_n 1, 1) := by decide +kernel
theorem dX8_takeFrom_43 : decode cX8_takeFrom 43 = .ok (.getfield 19, 3) := by decide +kernel
theorem dX8_takeFrom_46 : decode cX8_takeFrom 46 = .ok (.iload_n 2, 1) := by decide +kernel
theorem dX8_takeFrom_47 : decode cX8_takeFrom 47 = .ok (.aaload, 1) := by decide +kernel
theorem dX8_takeFrom_48 : decode cX8_takeFrom 48 = .ok (.invokevirtual 61, 3) := by decide +kernel
theorem dX8_takeFrom_51 : decode cX8_takeFrom 51 = .ok (.iinc 2 1, 3) := by decide +kernel
theorem dX8_takeFrom_54 : decode cX8_takeFrom 54 = .ok (.goto (-23), 3) := by decide +kernel
theorem dX8_takeFrom_57 : decode cX8_takeFrom 57 = .ok (.iconst 0, 1) := by decide +kernel
theorem dX8_takeFrom_58 : decode cX8_takeFrom 58 = .ok (.istore_n 2, 1) := by decide +kernel
theorem dX8_takeFrom_59 : decode cX8_takeFrom 59 = .ok (.iload_n 2, 1) := by decide +kernel
theorem dX8_takeFrom_60 : decode cX8_takeFrom 60 = .ok (.iconst 2, 1) := by decide +kernel
theorem dX8_takeFrom_61 : decode cX8_takeFrom 61 = .ok (.if_icmp .ge 24, 3) := by decide +kernel
theorem dX8_takeFrom_64 : decode cX8_takeFrom 64 = .ok (.aload_n 0, 1) := by decide +kernel
theorem dX8_takeFrom_65 : decode cX8_takeFrom 65 = .ok (.getfield 25, 3) := by decide +kernel
theorem dX8_takeFrom_68 : decode cX8_takeFrom 68 = .ok (.iload_n 2, 1) := by decide +kernel
theorem dX8_takeFrom_69 : decode cX8_takeFrom 69 = .ok (.aaload, 1) := by decide +kernel
theorem dX8_takeFrom_70 : decode cX8_takeFrom 70 = .ok (.aload_n 1, 1) := by decide +kernel
theorem dX8_takeFrom_71 : decode cX8_takeFrom 71 = .ok (.getfield 25, 3) := by decide +kernel
theorem dX8_takeFrom_74 : decode cX8_takeFrom 74 = .ok (.iload_n 2, 1) := by decide +kernel
theorem dX8_takeFrom_75 : decode cX8_takeFrom 75 = .ok (.aaload, 1) := by decide +kernel
theorem dX8_takeFrom_76 : decode cX8_takeFrom 76 = .ok (.invokevirtual 64, 3) := by decide +kernel
theorem dX8_takeFrom_79 : decode cX8_takeFrom 79 = .ok (.iinc 2 1, 3) := by decide +kernel
theorem dX8_takeFrom_82 : decode cX8_takeFrom 82 = .ok (.goto (-23), 3) := by decide +kernel
theorem dX8_takeFrom_85 : decode cX8_takeFrom 85 = .ok (.aload_n 0, 1) := by decide +kernel
theorem dX8_takeFrom_86 : decode cX8_takeFrom 86 = .ok (.getfield 34, 3) := by decide +kernel
theorem dX8_takeFrom_89 : decode cX8_takeFrom 89 = .ok (.aload_n 1, 1) := by decide +kernel
theorem dX8_takeFrom_90 : decode cX8_takeFrom 90 = .ok (.getfield 34, 3) := by decide +kernel
theorem dX8_takeFrom_93 : decode cX8_takeFrom 93 = .ok (.invokevirtual 67, 3) := by decide +kernel
theorem dX8_takeFrom_96 : decode cX8_takeFrom 96 = .ok (.aload_n 0, 1) := by decide +kernel
theorem dX8_takeFrom_97 : decode cX8_takeFrom 97 = .ok (.getfield 38, 3) := by decide +kernel
theorem dX8_takeFrom_100 : decode cX8_takeFrom 100 = .ok (.aload_n 1, 1) := by decide +kernel
theorem dX8_takeFrom_101 : decode cX8_takeFrom 101 = .ok (.getfield 38, 3) := by decide +kernel
theorem dX8_takeFrom_104 : decode cX8_takeFrom 104 = .ok (.invokevirtual 67, 3) := by decide +kernel
theorem dX8_takeFrom_107 : decode cX8_takeFrom 107 = .ok (.aload_n 0, 1) := by decide +kernel
theorem dX8_takeFrom_108 : decode cX8_takeFrom 108 = .ok (.aload_n 1, 1) := by decide +kernel
theorem dX8_takeFrom_109 : decode cX8_takeFrom 109 = .ok (.getfield 70, 3) := by decide +kernel
theorem dX8_takeFrom_112 : decode cX8_takeFrom 112 = .ok (.putfield 70, 3) := by decide +kernel
theorem dX8_takeFrom_115 : decode cX8_takeFrom 115 = .ok (.aload_n 0, 1) := by decide +kernel
theorem dX8_takeFrom_116 : decode cX8_takeFrom 116 = .ok (.aload_n 1, 1) := by decide +kernel
theorem dX8_takeFrom_117 : decode cX8_takeFrom 117 = .ok (.getfield 73, 3) := by decide +kernel
theorem dX8_takeFrom_120 : decode cX8_takeFrom 120 = .ok (.putfield 73, 3) := by decide +kernel
theorem dX8_takeFrom_123 : decode cX8_takeFrom 123 = .ok (.aload_n 0, 1) := by decide +kernel
theorem dX8_takeFrom_124 : decode cX8_takeFrom 124 = .ok (.aload_n 1, 1) := by decide +kernel
theorem dX8_takeFrom_125 : decode cX8_takeFrom 125 = .ok (.getfield 76, 3) := by decide +kernel
theorem dX8_takeFrom_128 : decode cX8_takeFrom 128 = .ok (.putfield 76, 3) := by decide +kernel
theorem dX8_takeFrom_131 : decode cX8_takeFrom 131 = .ok (.aload_n 0, 1) := by decide +kernel
theorem dX8_takeFrom_132 : decode cX8_takeFrom 132 = .ok (.aload_n 1, 1) := by decide +kernel
theorem dX8_takeFrom_133 : decode cX8_takeFrom 133 = .ok (.getfield 79, 3) := by decide +kernel
theorem dX8_takeFrom_136 : decode cX8_takeFrom 136 = .ok (.putfield 79, 3) := by decide +kernel
theorem dX8_takeFrom_139 : decode cX8_takeFrom 139 = .ok (.aload_n 0, 1) := by decide +kernel
theorem dX8_takeFrom_140 : decode cX8_takeFrom 140 = .ok (.aload_n 1, 1) := by decide +kernel
theorem dX8_takeFrom_141 : decode cX8_takeFrom 141 = .ok (.getfield 41, 3) := by decide +kernel
theorem dX8_takeFrom_144 : decode cX8_takeFrom 144 = .ok (.putfield 41, 3) := by decide +kernel
theorem dX8_takeFrom_147 : decode cX8_takeFrom 147 = .ok (.return_, 1) := by decide +kernel
theorem dX8_wall_0 : decode cX8_wall 0 = .ok (.iconst 0, 1) := by decide +kernel
theorem dX8_wall_1 : decode cX8_wall 1 = .ok (.istore_n 1, 1) := by decide +kernel
theorem dX8_wall_2 : decode cX8_wall 2 = .ok (.iconst 0, 1) := by decide +kernel
theorem dX8_wall_3 : decode cX8_wall 3 = .ok (.istore_n 2, 1) := by decide +kernel
theorem dX8_wall_4 : decode cX8_wall 4 = .ok (.iload_n 2, 1) := by decide +kernel
theorem dX8_wall_5 : decode cX8_wall 5 = .ok (.aload_n 0, 1) := by decide +kernel
theorem dX8_wall_6 : decode cX8_wall 6 = .ok (.getfield 70, 3) := by decide +kernel
theorem dX8_wall_9 : decode cX8_wall 9 = .ok (.if_icmp .ge 28, 3) := by decide +kernel
theorem dX8_wall_12 : decode cX8_wall 12 = .ok (.aload_n 0, 1) := by decide +kernel
theorem dX8_wall_13 : decode cX8_wall 13 = .ok (.getfield 11, 3) := by decide +kernel
theorem dX8_wall_16 : decode cX8_wall 16 = .ok (.iload_n 2, 1) := by decide +kernel
theorem dX8_wall_17 : decode cX8_wall 17 = .ok (.aaload, 1) := by decide +kernel
theorem dX8_wall_18 : decode cX8_wall 18 = .ok (.getfield 82, 3) := by decide +kernel
theorem dX8_wall_21 : decode cX8_wall 21 = .ok (.iconst (-1), 1) := by decide +kernel
theorem dX8_wall_22 : decode cX8_wall 22 = .ok (.if_icmp .ne 9, 3) := by decide +kernel
theorem dX8_wall_25 : decode cX8_wall 25 = .ok (.iload_n 1, 1) := by decide +kernel
theorem dX8_wall_26 : decode cX8_wall 26 = .ok (.iconst 1, 1) := by decide +kernel
theorem dX8_wall_27 : decode cX8_wall 27 = .ok (.iload_n 2, 1) := by decide +kernel
theorem dX8_wall_28 : decode cX8_wall 28 = .ok (.ishl, 1) := by decide +kernel
theorem dX8_wall_29 : decode cX8_wall 29 = .ok (.ior, 1) := by decide +kernel
theorem dX8_wall_30 : decode cX8_wall 30 = .ok (.istore_n 1, 1) := by decide +kernel
theorem dX8_wall_31 : decode cX8_wall 31 = .ok (.iinc 2 1, 3) := by decide +kernel
theorem dX8_wall_34 : decode cX8_wall 34 = .ok (.goto (-30), 3) := by decide +kernel
theorem dX8_wall_37 : decode cX8_wall 37 = .ok (.iload_n 1, 1) := by decide +kernel
theorem dX8_wall_38 : decode cX8_wall 38 = .ok (.ireturn, 1) := by decide +kernel
theorem dX8_grief_0 : decode cX8_grief 0 = .ok (.iconst 0, 1) := by decide +kernel
theorem dX8_grief_1 : decode cX8_grief 1 = .ok (.istore_n 1, 1) := by decide +kernel
theorem dX8_grief_2 : decode cX8_grief 2 = .ok (.iconst 0, 1) := by decide +kernel
theorem dX8_grief_3 : decode cX8_grief 3 = .ok (.istore_n 2, 1) := by decide +kernel
theorem dX8_grief_4 : decode cX8_grief 4 = .ok (.iload_n 2, 1) := by decide +kernel
theorem dX8_grief_5 : decode cX8_grief 5 = .ok (.aload_n 0, 1) := by decide +kernel
theorem dX8_grief_6 : decode cX8_grief 6 = .ok (.getfield 70, 3) := by decide +kernel
theorem dX8_grief_9 : decode cX8_grief 9 = .ok (.if_icmp .ge 34, 3) := by decide +kernel
theorem dX8_grief_12 : decode cX8_grief 12 = .ok (.aload_n 0, 1) := by decide +kernel
theorem dX8_grief_13 : decode cX8_grief 13 = .ok (.getfield 11, 3) := by decide +kernel
theorem dX8_grief_16 : decode cX8_grief 16 = .ok (.iload_n 2, 1) := by decide +kernel
theorem dX8_grief_17 : decode cX8_grief 17 = .ok (.aaload, 1) := by decide +kernel
theorem dX8_grief_18 : decode cX8_grief 18 = .ok (.getfield 85, 3) := by decide +kernel
theorem dX8_grief_21 : decode cX8_grief 21 = .ok (.iconst 1, 1) := by decide +kernel
theorem dX8_grief_22 : decode cX8_grief 22 = .ok (.if_icmp .ne 15, 3) := by decide +kernel
theorem dX8_grief_25 : decode cX8_grief 25 = .ok (.iload_n 1, 1) := by decide +kernel
theorem dX8_grief_26 : decode cX8_grief 26 = .ok (.aload_n 0, 1) := by decide +kernel
theorem dX8_grief_27 : decode cX8_grief 27 = .ok (.getfield 11, 3) := by decide +kernel
theorem dX8_grief_30 : decode cX8_grief 30 = .ok (.iload_n 2, 1) := by decide +kernel
theorem dX8_grief_31 : decode cX8_grief 31 = .ok (.aaload, 1) := by decide +kernel
theorem dX8_grief_32 : decode cX8_grief 32 = .ok (.getfield 88, 3) := by decide +kernel
theorem dX8_grief_35 : decode cX8_grief 35 = .ok (.iadd, 1) := by decide +kernel
theorem dX8_grief_36 : decode cX8_grief 36 = .ok (.istore_n 1, 1) := by decide +kernel
theorem dX8_grief_37 : decode cX8_grief 37 = .ok (.iinc 2 1, 3) := by decide +kernel
theorem dX8_grief_40 : decode cX8_grief 40 = .ok (.goto (-36), 3) := by decide +kernel
theorem dX8_grief_43 : decode cX8_grief 43 = .ok (.iload_n 1, 1) := by decide +kernel
theorem dX8_grief_44 : decode cX8_grief 44 = .ok (.ireturn, 1) := by decide +kernel
theorem dX8_place_0 : decode cX8_place 0 = .ok (.aload_n 0, 1) := by decide +kernel
theorem dX8_place_1 : decode cX8_place 1 = .ok (.getfield 11, 3) := by decide +kernel
theorem dX8_place_4 : decode cX8_place 4 = .ok (.iload_n 1, 1) := by decide +kernel
theorem dX8_place_5 : decode cX8_place 5 = .ok (.aaload, 1) := by decide +kernel
theorem dX8_place_6 : decode cX8_place 6 = .ok (.astore_n 3, 1) := by decide +kernel
theorem dX8_place_7 : decode cX8_place 7 = .ok (.aload_n 3, 1) := by decide +kernel
theorem dX8_place_8 : decode cX8_place 8 = .ok (.getfield 82, 3) := by decide +kernel
theorem dX8_place_11 : decode cX8_place 11 = .ok (.iconst (-1), 1) := by decide +kernel
theorem dX8_place_12 : decode cX8_place 12 = .ok (.if_icmp .eq 30, 3) := by decide +kernel
theorem dX8_place_15 : decode cX8_place 15 = .ok (.aload_n 0, 1) := by decide +kernel
theorem dX8_place_16 : decode cX8_place 16 = .ok (.getfield 19, 3) := by decide +kernel
theorem dX8_place_19 : decode cX8_place 19 = .ok (.aload_n 3, 1) := by decide +kernel
theorem dX8_place_20 : decode cX8_place 20 = .ok (.getfield 82, 3) := by decide +kernel
theorem dX8_place_23 : decode cX8_place 23 = .ok (.aaload, 1) := by decide +kernel
theorem dX8_place_24 : decode cX8_place 24 = .ok (.astore 4, 2) := by decide +kernel
theorem dX8_place_26 : decode cX8_place 26 = .ok (.aload 4, 2) := by decide +kernel
theorem dX8_place_28 : decode cX8_place 28 = .ok (.aload 4, 2) := by decide +kernel
theorem dX8_place_30 : decode cX8_place 30 = .ok (.getfield 91, 3) := by decide +kernel
theorem dX8_place_33 : decode cX8_place 33 = .ok (.iconst 1, 1) := by decide +kernel
theorem dX8_place_34 : decode cX8_place 34 = .ok (.iload_n 1, 1) := by decide +kernel
theorem dX8_place_35 : decode cX8_place 35 = .ok (.ishl, 1) := by decide +kernel
theorem dX8_place_36 : decode cX8_place 36 = .ok (.iconst (-1), 1) := by decide +kernel
theorem dX8_place_37 : decode cX8_place 37 = .ok (.ixor, 1) := by decide +kernel
theorem dX8_place_38 : decode cX8_place 38 = .ok (.iand, 1) := by decide +kernel
theorem dX8_place_39 : decode cX8_place 39 = .ok (.invokevirtual 94, 3) := by decide +kernel
theorem dX8_place_42 : decode cX8_place 42 = .ok (.iload_n 2, 1) := by decide +kernel
theorem dX8_place_43 : decode cX8_place 43 = .ok (.iconst (-1), 1) := by decide +kernel
theorem dX8_place_44 : decode cX8_place 44 = .ok (.if_icmp .eq 25, 3) := by decide +kernel
theorem dX8_place_47 : decode cX8_place 47 = .ok (.aload_n 0, 1) := by decide +kernel
theorem dX8_place_48 : decode cX8_place 48 = .ok (.getfield 19, 3) := by decide +kernel
theorem dX8_place_51 : decode cX8_place 51 = .ok (.iload_n 2, 1) := by decide +kernel
theorem dX8_place_52 : decode cX8_place 52 = .ok (.aaload, 1) := by decide +kernel
theorem dX8_place_53 : decode cX8_place 53 = .ok (.aload_n 0, 1) := by decide +kernel
theorem dX8_place_54 : decode cX8_place 54 = .ok (.getfield 19, 3) := by decide +kernel
theorem dX8_place_57 : decode cX8_place 57 = .ok (.iload_n 2, 1) := by decide +kernel
theorem dX8_place_58 : decode cX8_place 58 = .ok (.aaload, 1) := by decide +kernel
theorem dX8_place_59 : decode cX8_place 59 = .ok (.getfield 91, 3) := by decide +kernel
theorem dX8_place_62 : decode cX8_place 62 = .ok (.iconst 1, 1) := by decide +kernel
theorem dX8_place_63 : decode cX8_place 63 = .ok (.iload_n 1, 1) := by decide +kernel
theorem dX8_place_64 : decode cX8_place 64 = .ok (.ishl, 1) := by decide +kernel
theorem dX8_place_65 : decode cX8_place 65 = .ok (.ior, 1) := by decide +kernel
theorem dX8_place_66 : decode cX8_place 66 = .ok (.invokevirtual 94, 3) := by decide +kernel
theorem dX8_place_69 : decode cX8_place 69 = .ok (.aload_n 3, 1) := by decide +kernel
theorem dX8_place_70 : decode cX8_place 70 = .ok (.iload_n 2, 1) := by decide +kernel
theorem dX8_place_71 : decode cX8_place 71 = .ok (.putfield 82, 3) := by decide +kernel
theorem dX8_place_74 : decode cX8_place 74 = .ok (.aload_n 3, 1) := by decide +kernel
theorem dX8_place_75 : decode cX8_place 75 = .ok (.getfield 97, 3) := by decide +kernel
theorem dX8_place_78 : decode cX8_place 78 = .ok (.iconst 0, 1) := by decide +kernel
theorem dX8_place_79 : decode cX8_place 79 = .ok (.invokestatic 100, 3) := by decide +kernel
theorem dX8_place_82 : decode cX8_place 82 = .ok (.return_, 1) := by decide +kernel
theorem dX8_warmth_0 : decode cX8_warmth 0 = .ok (.aload_n 0, 1) := by decide +kernel
theorem dX8_warmth_1 : decode cX8_warmth 1 = .ok (.getfield 19, 3) := by decide +kernel
theorem dX8_warmth_4 : decode cX8_warmth 4 = .ok (.iload_n 2, 1) := by decide +kernel
theorem dX8_warmth_5 : decode cX8_warmth 5 = .ok (.aaload, 1) := by decide +kernel
theorem dX8_warmth_6 : decode cX8_warmth 6 = .ok (.getfield 91, 3) := by decide +kernel
theorem dX8_warmth_9 : decode cX8_warmth 9 = .ok (.iconst 1, 1) := by decide +kernel
theorem dX8_warmth_10 : decode cX8_warmth 10 = .ok (.iload_n 1, 1) := by decide +kernel
theorem dX8_warmth_11 : decode cX8_warmth 11 = .ok (.ishl, 1) := by decide +kernel
theorem dX8_warmth_12 : decode cX8_warmth 12 = .ok (.iconst (-1), 1) := by decide +kernel
theorem dX8_warmth_13 : decode cX8_warmth 13 = .ok (.ixor, 1) := by decide +kernel
theorem dX8_warmth_14 : decode cX8_warmth 14 = .ok (.iand, 1) := by decide +kernel
theorem dX8_warmth_15 : decode cX8_warmth 15 = .ok (.istore_n 3, 1) := by decide +kernel
theorem dX8_warmth_16 : decode cX8_warmth 16 = .ok (.iload_n 3, 1) := by decide +kernel
theorem dX8_warmth_17 : decode cX8_warmth 17 = .ok (.ifCond .ne 5, 3) := by decide +kernel
theorem dX8_warmth_20 : decode cX8_warmth 20 = .ok (.iconst 0, 1) := by decide +kernel
theorem dX8_warmth_21 : decode cX8_warmth 21 = .ok (.ireturn, 1) := by decide +kernel
theorem dX8_warmth_22 : decode cX8_warmth 22 = .ok (.iconst 0, 1) := by decide +kernel
theorem dX8_warmth_23 : decode cX8_warmth 23 = .ok (.istore 4, 2) := by decide +kernel
theorem dX8_warmth_25 : decode cX8_warmth 25 = .ok (.iconst 0, 1) := by decide +kernel
theorem dX8_warmth_26 : decode cX8_warmth 26 = .ok (.istore 5, 2) := by decide +kernel
theorem dX8_warmth_28 : decode cX8_warmth 28 = .ok (.iload 5, 2) := by decide +kernel
theorem dX8_warmth_30 : decode cX8_warmth 30 = .ok (.aload_n 0, 1) := by decide +kernel
theorem dX8_warmth_31 : decode cX8_warmth 31 = .ok (.getfield 70, 3) := by decide +kernel
theorem dX8_warmth_34 : decode cX8_warmth 34 = .ok (.if_icmp .ge 35, 3) := by decide +kernel
theorem dX8_warmth_37 : decode cX8_warmth 37 = .ok (.iload_n 3, 1) := by decide +kernel
theorem dX8_warmth_38 : decode cX8_warmth 38 = .ok (.iload 5, 2) := by decide +kernel
theorem dX8_warmth_40 : decode cX8_warmth 40 = .ok (.ishr, 1) := by decide +kernel
theorem dX8_warmth_41 : decode cX8_warmth 41 = .ok (.iconst 1, 1) := by decide +kernel
theorem dX8_warmth_42 : decode cX8_warmth 42 = .ok (.iand, 1) := by decide +kernel
theorem dX8_warmth_43 : decode cX8_warmth 43 = .ok (.ifCond .eq 20, 3) := by decide +kernel
theorem dX8_warmth_46 : decode cX8_warmth 46 = .ok (.iload 4, 2) := by decide +kernel
theorem dX8_warmth_48 : decode cX8_warmth 48 = .ok (.aload_n 0, 1) := by decide +kernel
theorem dX8_warmth_49 : decode cX8_warmth 49 = .ok (.getfield 11, 3) := by decide +kernel
theorem dX8_warmth_52 : decode cX8_warmth 52 = .ok (.iload 5, 2) := by decide +kernel
theorem dX8_warmth_54 : decode cX8_warmth 54 = .ok (.aaload, 1) := by decide +kernel
theorem dX8_warmth_55 : decode cX8_warmth 55 = .ok (.getfield 106, 3) := by decide +kernel
theorem dX8_warmth_58 : decode cX8_warmth 58 = .ok (.iload_n 1, 1) := by decide +kernel
theorem dX8_warmth_59 : decode cX8_warmth 59 = .ok (.iaload, 1) := by decide +kernel
theorem dX8_warmth_60 : decode cX8_warmth 60 = .ok (.iadd, 1) := by decide +kernel
theorem dX8_warmth_61 : decode cX8_warmth 61 = .ok (.istore 4, 2) := by decide +kernel
theorem dX8_warmth_63 : decode cX8_warmth 63 = .ok (.iinc 5 1, 3) := by decide +kernel
theorem dX8_warmth_66 : decode cX8_warmth 66 = .ok (.goto (-38), 3) := by decide +kernel
theorem dX8_warmth_69 : decode cX8_warmth 69 = .ok (.iload 4, 2) := by decide +kernel
theorem dX8_warmth_71 : decode cX8_warmth 71 = .ok (.iload_n 3, 1) := by decide +kernel
theorem dX8_warmth_72 : decode cX8_warmth 72 = .ok (.invokestatic 109, 3) := by decide +kernel
theorem dX8_warmth_75 : decode cX8_warmth 75 = .ok (.idiv, 1) := by decide +kernel
theorem dX8_warmth_76 : decode cX8_warmth 76 = .ok (.ireturn, 1) := by decide +kernel
theorem dX8_fondest_0 : decode cX8_fondest 0 = .ok (.aload_n 0, 1) := by decide +kernel
theorem dX8_fondest_1 : decode cX8_fondest 1 = .ok (.getfield 19, 3) := by decide +kernel
theorem dX8_fondest_4 : decode cX8_fondest 4 = .ok (.iload_n 2, 1) := by decide +kernel
theorem dX8_fondest_5 : decode cX8_fondest 5 = .ok (.aaload, 1) := by decide +kernel
theorem dX8_fondest_6 : decode cX8_fondest 6 = .ok (.getfield 91, 3) := by decide +kernel
theorem dX8_fondest_9 : decode cX8_fondest 9 = .ok (.iconst 1, 1) := by decide +kernel
theorem dX8_fondest_10 : decode cX8_fondest 10 = .ok (.iload_n 1, 1) := by decide +kernel
theorem dX8_fondest_11 : decode cX8_fondest 11 = .ok (.ishl, 1) := by decide +kernel
theorem dX8_fondest_12 : decode cX8_fondest 12 = .ok (.iconst (-1), 1) := by decide +kernel
theorem dX8_fondest_13 : decode cX8_fondest 13 = .ok (.ixor, 1) := by decide +kernel
theorem dX8_fondest_14 : decode cX8_fondest 14 = .ok (.iand, 1) := by decide +kernel
theorem dX8_fondest_15 : decode cX8_fondest 15 = .ok (.istore_n 3, 1) := by decide +kernel
theorem dX8_fondest_16 : decode cX8_fondest 16 = .ok (.iconst 0, 1) := by decide +kernel
theorem dX8_fondest_17 : decode cX8_fondest 17 = .ok (.istore 4, 2) := by decide +kernel
theorem dX8_fondest_19 : decode cX8_fondest 19 = .ok (.iconst 0, 1) := by decide +kernel
theorem dX8_fondest_20 : decode cX8_fondest 20 = .ok (.istore 5, 2) := by decide +kernel
theorem dX8_fondest_22 : decode cX8_fondest 22 = .ok (.iload 5, 2) := by decide +kernel
theorem dX8_fondest_24 : decode cX8_fondest 24 = .ok (.aload_n 0, 1) := by decide +kernel
theorem dX8_fondest_25 : decode cX8_fondest 25 = .ok (.getfield 70, 3) := by decide +kernel
theorem dX8_fondest_28 : decode cX8_fondest 28 = .ok (.if_icmp .ge 37, 3) := by decide +kernel
theorem dX8_fondest_31 : decode cX8_fondest 31 = .ok (.iload_n 3, 1) := by decide +kernel
theorem dX8_fondest_32 : decode cX8_fondest 32 = .ok (.iload 5, 2) := by decide +kernel
theorem dX8_fondest_34 : decode cX8_fondest 34 = .ok (.ishr, 1) := by decide +kernel
theorem dX8_fondest_35 : decode cX8_fondest 35 = .ok (.iconst 1, 1) := by decide +kernel
theorem dX8_fondest_36 : decode cX8_fondest 36 = .ok (.iand, 1) := by decide +kernel
theorem dX8_fondest_37 : decode cX8_fondest 37 = .ok (.ifCond .eq 22, 3) := by decide +kernel
theorem dX8_fondest_40 : decode cX8_fondest 40 = .ok (.iload 4, 2) := by decide +kernel
theorem dX8_fondest_42 : decode cX8_fondest 42 = .ok (.aload_n 0, 1) := by decide +kernel
theorem dX8_fondest_43 : decode cX8_fondest 43 = .ok (.getfield 11, 3) := by decide +kernel
theorem dX8_fondest_46 : decode cX8_fondest 46 = .ok (.iload 5, 2) := by decide +kernel
theorem dX8_fondest_48 : decode cX8_fondest 48 = .ok (.aaload, 1) := by decide +kernel
theorem dX8_fondest_49 : decode cX8_fondest 49 = .ok (.getfield 106, 3) := by decide +kernel
theorem dX8_fondest_52 : decode cX8_fondest 52 = .ok (.iload_n 1, 1) := by decide +kernel
theorem dX8_fondest_53 : decode cX8_fondest 53 = .ok (.iaload, 1) := by decide +kernel
theorem dX8_fondest_54 : decode cX8_fondest 54 = .ok (.invokestatic 115, 3) := by decide +kernel
theorem dX8_fondest_57 : decode cX8_fondest 57 = .ok (.istore 4, 2) := by decide +kernel
theorem dX8_fondest_59 : decode cX8_fondest 59 = .ok (.iinc 5 1, 3) := by decide +kernel
theorem dX8_fondest_62 : decode cX8_fondest 62 = .ok (.goto (-40), 3) := by decide +kernel
theorem dX8_fondest_65 : decode cX8_fondest 65 = .ok (.iload 4, 2) := by decide +kernel
theorem dX8_fondest_67 : decode cX8_fondest 67 = .ok (.ireturn, 1) := by decide +kernel
theorem dX8_hasFriend_0 : decode cX8_hasFriend 0 = .ok (.aload_n 0, 1) := by decide +kernel
theorem dX8_hasFriend_1 : decode cX8_hasFriend 1 = .ok (.getfield 19, 3) := by decide +kernel
theorem dX8_hasFriend_4 : decode cX8_hasFriend 4 = .ok (.iload_n 2, 1) := by decide +kernel
theorem dX8_hasFriend_5 : decode cX8_hasFriend 5 = .ok (.aaload, 1) := by decide +kernel
theorem dX8_hasFriend_6 : decode cX8_hasFriend 6 = .ok (.getfield 91, 3) := by decide +kernel
theorem dX8_hasFriend_9 : decode cX8_hasFriend 9 = .ok (.iconst 1, 1) := by decide +kernel
theorem dX8_hasFriend_10 : decode cX8_hasFriend 10 = .ok (.iload_n 1, 1) := by decide +kernel
theorem dX8_hasFriend_11 : decode cX8_hasFriend 11 = .ok (.ishl, 1) := by decide +kernel
theorem dX8_hasFriend_12 : decode cX8_hasFriend 12 = .ok (.iconst (-1), 1) := by decide +kernel
theorem dX8_hasFriend_13 : decode cX8_hasFriend 13 = .ok (.ixor, 1) := by decide +kernel
theorem dX8_hasFriend_14 : decode cX8_hasFriend 14 = .ok (.iand, 1) := by decide +kernel
theorem dX8_hasFriend_15 : decode cX8_hasFriend 15 = .ok (.istore_n 3, 1) := by decide +kernel
theorem dX8_hasFriend_16 : decode cX8_hasFriend 16 = .ok (.iconst 0, 1) := by decide +kernel
theorem dX8_hasFriend_17 : decode cX8_hasFriend 17 = .ok (.istore 4, 2) := by decide +kernel
theorem dX8_hasFriend_19 : decode cX8_hasFriend 19 = .ok (.iload 4, 2) := by decide +kernel
theorem dX8_hasFriend_21 : decode cX8_hasFriend 21 = .ok (.aload_n 0, 1) := by decide +kernel
theorem dX8_hasFriend_22 : decode cX8_hasFriend 22 = .ok (.getfield 70, 3) := by decide +kernel
theorem dX8_hasFriend_25 : decode cX8_hasFriend 25 = .ok (.if_icmp .ge 37, 3) := by decide +kernel
theorem dX8_hasFriend_28 : decode cX8_hasFriend 28 = .ok (.iload_n 3, 1) := by decide +kernel
theorem dX8_hasFriend_29 : decode cX8_hasFriend 29 = .ok (.iload 4, 2) := by decide +kernel
theorem dX8_hasFriend_31 : decode cX8_hasFriend 31 = .ok (.ishr, 1) := by decide +kernel
theorem dX8_hasFriend_32 : decode cX8_hasFriend 32 = .ok (.iconst 1, 1) := by decide +kernel
theorem dX8_hasFriend_33 : decode cX8_hasFriend 33 = .ok (.iand, 1) := by decide +kernel
theorem dX8_hasFriend_34 : decode cX8_hasFriend 34 = .ok (.ifCond .eq 22, 3) := by decide +kernel
theorem dX8_hasFriend_37 : decode cX8_hasFriend 37 = .ok (.aload_n 0, 1) := by decide +kernel
theorem dX8_hasFriend_38 : decode cX8_hasFriend 38 = .ok (.getfield 11, 3) := by decide +kernel
theorem dX8_hasFriend_41 : decode cX8_hasFriend 41 = .ok (.iload_n 1, 1) := by decide +kernel
theorem dX8_hasFriend_42 : decode cX8_hasFriend 42 = .ok (.aaload, 1) := by decide +kernel
theorem dX8_hasFriend_43 : decode cX8_hasFriend 43 = .ok (.getfield 106, 3) := by decide +kernel
theorem dX8_hasFriend_46 : decode cX8_hasFriend 46 = .ok (.iload 4, 2) := by decide +kernel
theorem dX8_hasFriend_48 : decode cX8_hasFriend 48 = .ok (.iaload, 1) := by decide +kernel
theorem dX8_hasFriend_49 : decode cX8_hasFriend 49 = .ok (.bipush 50, 2) := by decide +kernel
theorem dX8_hasFriend_51 : decode cX8_hasFriend 51 = .ok (.if_icmp .lt 5, 3) := by decide +kernel
theorem dX8_hasFriend_54 : decode cX8_hasFriend 54 = .ok (.iconst 1, 1) := by decide +kernel
theorem dX8_hasFriend_55 : decode cX8_hasFriend 55 = .ok (.ireturn, 1) := by decide +kernel
theorem dX8_hasFriend_56 : decode cX8_hasFriend 56 = .ok (.iinc 4 1, 3) := by decide +kernel
theorem dX8_hasFriend_59 : decode cX8_hasFriend 59 = .ok (.goto (-40), 3) := by decide +kernel
theorem dX8_hasFriend_62 : decode cX8_hasFriend 62 = .ok (.iconst 0, 1) := by decide +kernel
theorem dX8_hasFriend_63 : decode cX8_hasFriend 63 = .ok (.ireturn, 1) := by decide +kernel
theorem dX8_chance_0 : decode cX8_chance 0 = .ok (.aload_n 0, 1) := by decide +kernel
theorem dX8_chance_1 : decode cX8_chance 1 = .ok (.getfield 19, 3) := by decide +kernel
theorem dX8_chance_4 : decode cX8_chance 4 = .ok (.iload_n 2, 1) := by decide +kernel
theorem dX8_chance_5 : decode cX8_chance 5 = .ok (.aaload, 1) := by decide +kernel
theorem dX8_chance_6 : decode cX8_chance 6 = .ok (.astore_n 3, 1) := by decide +kernel
theorem dX8_chance_7 : decode cX8_chance 7 = .ok (.aload_n 3, 1) := by decide +kernel
theorem dX8_chance_8 : decode cX8_chance 8 = .ok (.invokevirtual 121, 3) := by decide +kernel
theorem dX8_chance_11 : decode cX8_chance 11 = .ok (.aload_n 3, 1) := by decide +kernel
theorem dX8_chance_12 : decode cX8_chance 12 = .ok (.getfield 125, 3) := by decide +kernel
theorem dX8_chance_15 : decode cX8_chance 15 = .ok (.if_icmp .lt 5, 3) := by decide +kernel
theorem dX8_chance_18 : decode cX8_chance 18 = .ok (.iconst 0, 1) := by decide +kernel
theorem dX8_chance_19 : decode cX8_chance 19 = .ok (.ireturn, 1) := by decide +kernel
theorem dX8_chance_20 : decode cX8_chance 20 = .ok (.aload_n 0, 1) := by decide +kernel
theorem dX8_chance_21 : decode cX8_chance 21 = .ok (.iload_n 1, 1) := by decide +kernel
theorem dX8_chance_22 : decode cX8_chance 22 = .ok (.iload_n 2, 1) := by decide +kernel
theorem dX8_chance_23 : decode cX8_chance 23 = .ok (.invokevirtual 128, 3) := by decide +kernel
theorem dX8_chance_26 : decode cX8_chance 26 = .ok (.istore 4, 2) := by decide +kernel
theorem dX8_chance_28 : decode cX8_chance 28 = .ok (.aload_n 0, 1) := by decide +kernel
theorem dX8_chance_29 : decode cX8_chance 29 = .ok (.iload_n 1, 1) := by decide +kernel
theorem dX8_chance_30 : decode cX8_chance 30 = .ok (.iload_n 2, 1) := by decide +kernel
theorem dX8_chance_31 : decode cX8_chance 31 = .ok (.iload 4, 2) := by decide +kernel
theorem dX8_chance_33 : decode cX8_chance 33 = .ok (.aload_n 3, 1) := by decide +kernel
theorem dX8_chance_34 : decode cX8_chance 34 = .ok (.getfield 131, 3) := by decide +kernel
theorem dX8_chance_37 : decode cX8_chance 37 = .ok (.isub, 1) := by decide +kernel
theorem dX8_chance_38 : decode cX8_chance 38 = .ok (.bipush 50, 2) := by decide +kernel
theorem dX8_chance_40 : decode cX8_chance 40 = .ok (.iadd, 1) := by decide +kernel
theorem dX8_chance_41 : decode cX8_chance 41 = .ok (.invokevirtual 134, 3) := by decide +kernel
theorem dX8_chance_44 : decode cX8_chance 44 = .ok (.istore 5, 2) := by decide +kernel
theorem dX8_chance_46 : decode cX8_chance 46 = .ok (.iload 5, 2) := by decide +kernel
theorem dX8_chance_48 : decode cX8_chance 48 = .ok (.aload_n 0, 1) := by decide +kernel
theorem dX8_chance_49 : decode cX8_chance 49 = .ok (.iload_n 1, 1) := by decide +kernel
theorem dX8_chance_50 : decode cX8_chance 50 = .ok (.iload_n 2, 1) := by decide +kernel
theorem dX8_chance_51 : decode cX8_chance 51 = .ok (.iload 4, 2) := by decide +kernel
theorem dX8_chance_53 : decode cX8_chance 53 = .ok (.invokevirtual 138, 3) := by decide +kernel
theorem dX8_chance_56 : decode cX8_chance 56 = .ok (.iadd, 1) := by decide +kernel
theorem dX8_chance_57 : decode cX8_chance 57 = .ok (.iconst 0, 1) := by decide +kernel
theorem dX8_chance_58 : decode cX8_chance 58 = .ok (.bipush 100, 2) := by decide +kernel
theorem dX8_chance_60 : decode cX8_chance 60 = .ok (.invokestatic 141, 3) := by decide +kernel
theorem dX8_chance_63 : decode cX8_chance 63 = .ok (.ireturn, 1) := by decide +kernel
theorem dX8_byWay_0 : decode cX8_byWay 0 = .ok (.aload_n 0, 1) := by decide +kernel
theorem dX8_byWay_1 : decode cX8_byWay 1 = .ok (.getfield 11, 3) := by decide +kernel
theorem dX8_byWay_4 : decode cX8_byWay 4 = .ok (.iload_n 1, 1) := by decide +kernel
theorem dX8_byWay_5 : decode cX8_byWay 5 = .ok (.aaload, 1) := by decide +kernel
theorem dX8_byWay_6 : decode cX8_byWay 6 = .ok (.astore 4, 2) := by decide +kernel
theorem dX8_byWay_8 : decode cX8_byWay 8 = .ok (.iload_n 3, 1) := by decide +kernel
theorem dX8_byWay_9 : decode cX8_byWay 9 = .ok (.aload 4, 2) := by decide +kernel
theorem dX8_byWay_11 : decode cX8_byWay 11 = .ok (.getfield 144, 3) := by decide +kernel
theorem dX8_byWay_14 : decode cX8_byWay 14 = .ok (.aload 4, 2) := by decide +kernel
theorem dX8_byWay_16 : decode cX8_byWay 16 = .ok (.getfield 97, 3) := by decide +kernel
theorem dX8_byWay_19 : decode cX8_byWay 19 = .ok (.iload_n 2, 1) := by decide +kernel
theorem dX8_byWay_20 : decode cX8_byWay 20 = .ok (.iaload, 1) := by decide +kernel
theorem dX8_byWay_21 : decode cX8_byWay 21 = .ok (.imul, 1) := by decide +kernel
theorem dX8_byWay_22 : decode cX8_byWay 22 = .ok (.iadd, 1) := by decide +kernel
theorem dX8_byWay_23 : decode cX8_byWay 23 = .ok (.istore 5, 2) := by decide +kernel
theorem dX8_byWay_25 : decode cX8_byWay 25 = .ok (.aload 4, 2) := by decide +kernel
theorem dX8_byWay_27 : decode cX8_byWay 27 = .ok (.getfield 147, 3) := by decide +kernel
theorem dX8_byWay_30 : decode cX8_byWay 30 = .ok (.tableswitch 115 1 6 #[38, 46, 49, 60, 70, 90], 38) := by decide +kernel
theorem dX8_byWay_68 : decode cX8_byWay 68 = .ok (.iload_n 3, 1) := by decide +kernel
theorem dX8_byWay_69 : decode cX8_byWay 69 = .ok (.aload 4, 2) := by decide +kernel
theorem dX8_byWay_71 : decode cX8_byWay 71 = .ok (.getfield 144, 3) := by decide +kernel
theorem dX8_byWay_74 : decode cX8_byWay 74 = .ok (.isub, 1) := by decide +kernel
theorem dX8_byWay_75 : decode cX8_byWay 75 = .ok (.ireturn, 1) := by decide +kernel
theorem dX8_byWay_76 : decode cX8_byWay 76 = .ok (.iload 5, 2) := by decide +kernel
theorem dX8_byWay_78 : decode cX8_byWay 78 = .ok (.ireturn, 1) := by decide +kernel
theorem dX8_byWay_79 : decode cX8_byWay 79 = .ok (.iload_n 3, 1) := by decide +kernel
theorem dX8_byWay_80 : decode cX8_byWay 80 = .ok (.aload_n 0, 1) := by decide +kernel
theorem dX8_byWay_81 : decode cX8_byWay 81 = .ok (.iload_n 1, 1) := by decide +kernel
theorem dX8_byWay_82 : decode cX8_byWay 82 = .ok (.iload_n 2, 1) := by decide +kernel
theorem dX8_byWay_83 : decode cX8_byWay 83 = .ok (.invokevirtual 150, 3) := by decide +kernel
theorem dX8_byWay_86 : decode cX8_byWay 86 = .ok (.iconst 2, 1) := by decide +kernel
theorem dX8_byWay_87 : decode cX8_byWay 87 = .ok (.idiv, 1) := by decide +kernel
theorem dX8_byWay_88 : decode cX8_byWay 88 = .ok (.iadd, 1) := by decide +kernel
theorem dX8_byWay_89 : decode cX8_byWay 89 = .ok (.ireturn, 1) := by decide +kernel
theorem dX8_byWay_90 : decode cX8_byWay 90 = .ok (.iload_n 3, 1) := by decide +kernel
theorem dX8_byWay_91 : decode cX8_byWay 91 = .ok (.aload 4, 2) := by decide +kernel
theorem dX8_byWay_93 : decode cX8_byWay 93 = .ok (.getfield 144, 3) := by decide +kernel
theorem dX8_byWay_96 : decode cX8_byWay 96 = .ok (.isub, 1) := by decide +kernel
theorem dX8_byWay_97 : decode cX8_byWay 97 = .ok (.iconst 2, 1) := by decide +kernel
theorem dX8_byWay_98 : decode cX8_byWay 98 = .ok (.idiv, 1) := by decide +kernel
theorem dX8_byWay_99 : decode cX8_byWay 99 = .ok (.ireturn, 1) := by decide +kernel
theorem dX8_byWay_100 : decode cX8_byWay 100 = .ok (.aload_n 0, 1) := by decide +kernel
theorem dX8_byWay_101 : decode cX8_byWay 101 = .ok (.iload_n 1, 1) := by decide +kernel
theorem dX8_byWay_102 : decode cX8_byWay 102 = .ok (.iload_n 2, 1) := by decide +kernel
theorem dX8_byWay_103 : decode cX8_byWay 103 = .ok (.invokevirtual 153, 3) := by decide +kernel
theorem dX8_byWay_106 : decode cX8_byWay 106 = .ok (.ifCond .eq 8, 3) := by decide +kernel
theorem dX8_byWay_109 : decode cX8_byWay 109 = .ok (.iload 5, 2) := by decide +kernel
theorem dX8_byWay_111 : decode cX8_byWay 111 = .ok (.goto 8, 3) := by decide +kernel
theorem dX8_byWay_114 : decode cX8_byWay 114 = .ok (.iload 5, 2) := by decide +kernel
theorem dX8_byWay_116 : decode cX8_byWay 116 = .ok (.bipush 10, 2) := by decide +kernel
theorem dX8_byWay_118 : decode cX8_byWay 118 = .ok (.iadd, 1) := by decide +kernel
theorem dX8_byWay_119 : decode cX8_byWay 119 = .ok (.ireturn, 1) := by decide +kernel
theorem dX8_byWay_120 : decode cX8_byWay 120 = .ok (.aload_n 0, 1) := by decide +kernel
theorem dX8_byWay_121 : decode cX8_byWay 121 = .ok (.getfield 19, 3) := by decide +kernel
theorem dX8_byWay_124 : decode cX8_byWay 124 = .ok (.iload_n 2, 1) := by decide +kernel
theorem dX8_byWay_125 : decode cX8_byWay 125 = .ok (.aaload, 1) := by decide +kernel
theorem dX8_byWay_126 : decode cX8_byWay 126 = .ok (.invokevirtual 157, 3) := by decide +kernel
theorem dX8_byWay_129 : decode cX8_byWay 129 = .ok (.ifCond .eq 8, 3) := by decide +kernel
theorem dX8_byWay_132 : decode cX8_byWay 132 = .ok (.bipush 100, 2) := by decide +kernel
theorem dX8_byWay_134 : decode cX8_byWay 134 = .ok (.goto 10, 3) := by decide +kernel
theorem dX8_byWay_137 : decode cX8_byWay 137 = .ok (.iload_n 3, 1) := by decide +kernel
theorem dX8_byWay_138 : decode cX8_byWay 138 = .ok (.aload 4, 2) := by decide +kernel
theorem dX8_byWay_140 : decode cX8_byWay 140 = .ok (.getfield 144, 3) := by decide +kernel
theorem dX8_byWay_143 : decode cX8_byWay 143 = .ok (.isub, 1) := by decide +kernel
theorem dX8_byWay_144 : decode cX8_byWay 144 = .ok (.ireturn, 1) := by decide +kernel
theorem dX8_byWay_145 : decode cX8_byWay 145 = .ok (.iload_n 3, 1) := by decide +kernel
theorem dX8_byWay_146 : decode cX8_byWay 146 = .ok (.ireturn, 1) := by decide +kernel
theorem dX8_letsIn_0 : decode cX8_letsIn 0 = .ok (.aload_n 0, 1) := by decide +kernel
theorem dX8_letsIn_1 : decode cX8_letsIn 1 = .ok (.getfield 25, 3) := by decide +kernel
theorem dX8_letsIn_4 : decode cX8_letsIn 4 = .ok (.iconst 0, 1) := by decide +kernel
theorem dX8_letsIn_5 : decode cX8_letsIn 5 = .ok (.aaload, 1) := by decide +kernel
theorem dX8_letsIn_6 : decode cX8_letsIn 6 = .ok (.astore 4, 2) := by decide +kernel
theorem dX8_letsIn_8 : decode cX8_letsIn 8 = .ok (.aload 4, 2) := by decide +kernel
theorem dX8_letsIn_10 : decode cX8_letsIn 10 = .ok (.invokevirtual 161, 3) := by decide +kernel
theorem dX8_letsIn_13 : decode cX8_letsIn 13 = .ok (.ifCond .ne 5, 3) := by decide +kernel
theorem dX8_letsIn_16 : decode cX8_letsIn 16 = .ok (.iconst 0, 1) := by decide +kernel
theorem dX8_letsIn_17 : decode cX8_letsIn 17 = .ok (.ireturn, 1) := by decide +kernel
theorem dX8_letsIn_18 : decode cX8_letsIn 18 = .ok (.aload_n 0, 1) := by decide +kernel
theorem dX8_letsIn_19 : decode cX8_letsIn 19 = .ok (.getfield 19, 3) := by decide +kernel
theorem dX8_letsIn_22 : decode cX8_letsIn 22 = .ok (.iload_n 2, 1) := by decide +kernel
theorem dX8_letsIn_23 : decode cX8_letsIn 23 = .ok (.aaload, 1) := by decide +kernel
theorem dX8_letsIn_24 : decode cX8_letsIn 24 = .ok (.astore 5, 2) := by decide +kernel
theorem dX8_letsIn_26 : decode cX8_letsIn 26 = .ok (.aload_n 0, 1) := by decide +kernel
theorem dX8_letsIn_27 : decode cX8_letsIn 27 = .ok (.getfield 45, 3) := by decide +kernel
theorem dX8_letsIn_30 : decode cX8_letsIn 30 = .ok (.iconst 0, 1) := by decide +kernel
theorem dX8_letsIn_31 : decode cX8_letsIn 31 = .ok (.iload_n 3, 1) := by decide +kernel
theorem dX8_letsIn_32 : decode cX8_letsIn 32 = .ok (.iastore, 1) := by decide +kernel
theorem dX8_letsIn_33 : decode cX8_letsIn 33 = .ok (.aload_n 0, 1) := by decide +kernel
theorem dX8_letsIn_34 : decode cX8_letsIn 34 = .ok (.getfield 45, 3) := by decide +kernel
theorem dX8_letsIn_37 : decode cX8_letsIn 37 = .ok (.iconst 1, 1) := by decide +kernel
theorem dX8_letsIn_38 : decode cX8_letsIn 38 = .ok (.aload 5, 2) := by decide +kernel
theorem dX8_letsIn_40 : decode cX8_letsIn 40 = .ok (.getfield 131, 3) := by decide +kernel
theorem dX8_letsIn_43 : decode cX8_letsIn 43 = .ok (.iastore, 1) := by decide +kernel
theorem dX8_letsIn_44 : decode cX8_letsIn 44 = .ok (.aload_n 0, 1) := by decide +kernel
theorem dX8_letsIn_45 : decode cX8_letsIn 45 = .ok (.getfield 45, 3) := by decide +kernel
theorem dX8_letsIn_48 : decode cX8_letsIn 48 = .ok (.iconst 2, 1) := by decide +kernel
theorem dX8_letsIn_49 : decode cX8_letsIn 49 = .ok (.aload 5, 2) := by decide +kernel
theorem dX8_letsIn_51 : decode cX8_letsIn 51 = .ok (.invokevirtual 121, 3) := by decide +kernel
theorem dX8_letsIn_54 : decode cX8_letsIn 54 = .ok (.iastore, 1) := by decide +kernel
theorem dX8_letsIn_55 : decode cX8_letsIn 55 = .ok (.aload_n 0, 1) := by decide +kernel
theorem dX8_letsIn_56 : decode cX8_letsIn 56 = .ok (.getfield 45, 3) := by decide +kernel
theorem dX8_letsIn_59 : decode cX8_letsIn 59 = .ok (.iconst 3, 1) := by decide +kernel
theorem dX8_letsIn_60 : decode cX8_letsIn 60 = .ok (.aload_n 0, 1) := by decide +kernel
theorem dX8_letsIn_61 : decode cX8_letsIn 61 = .ok (.getfield 11, 3) := by decide +kernel
theorem dX8_letsIn_64 : decode cX8_letsIn 64 = .ok (.iload_n 1, 1) := by decide +kernel
theorem dX8_letsIn_65 : decode cX8_letsIn 65 = .ok (.aaload, 1) := by decide +kernel
theorem dX8_letsIn_66 : decode cX8_letsIn 66 = .ok (.getfield 97, 3) := by decide +kernel
theorem dX8_letsIn_69 : decode cX8_letsIn 69 = .ok (.iload_n 2, 1) := by decide +kernel
theorem dX8_letsIn_70 : decode cX8_letsIn 70 = .ok (.iaload, 1) := by decide +kernel
theorem dX8_letsIn_71 : decode cX8_letsIn 71 = .ok (.iastore, 1) := by decide +kernel
theorem dX8_letsIn_72 : decode cX8_letsIn 72 = .ok (.aload_n 0, 1) := by decide +kernel
theorem dX8_letsIn_73 : decode cX8_letsIn 73 = .ok (.getfield 45, 3) := by decide +kernel
theorem dX8_letsIn_76 : decode cX8_letsIn 76 = .ok (.iconst 4, 1) := by decide +kernel
theorem dX8_letsIn_77 : decode cX8_letsIn 77 = .ok (.iconst 0, 1) := by decide +kernel
theorem dX8_letsIn_78 : decode cX8_letsIn 78 = .ok (.iastore, 1) := by decide +kernel
theorem dX8_letsIn_79 : decode cX8_letsIn 79 = .ok (.aload 5, 2) := by decide +kernel
theorem dX8_letsIn_81 : decode cX8_letsIn 81 = .ok (.getfield 91, 3) := by decide +kernel
theorem dX8_letsIn_84 : decode cX8_letsIn 84 = .ok (.ifCond .eq 42, 3) := by decide +kernel
theorem dX8_letsIn_87 : decode cX8_letsIn 87 = .ok (.aload 5, 2) := by decide +kernel
theorem dX8_letsIn_89 : decode cX8_letsIn 89 = .ok (.getfield 91, 3) := by decide +kernel
theorem dX8_letsIn_92 : decode cX8_letsIn 92 = .ok (.invokestatic 164, 3) := by decide +kernel
theorem dX8_letsIn_95 : decode cX8_letsIn 95 = .ok (.istore 6, 2) := by decide +kernel
theorem dX8_letsIn_97 : decode cX8_letsIn 97 = .ok (.aload_n 0, 1) := by decide +kernel
theorem dX8_letsIn_98 : decode cX8_letsIn 98 = .ok (.getfield 45, 3) := by decide +kernel
theorem dX8_letsIn_101 : decode cX8_letsIn 101 = .ok (.iconst 4, 1) := by decide +kernel
theorem dX8_letsIn_102 : decode cX8_letsIn 102 = .ok (.aload_n 0, 1) := by decide +kernel
theorem dX8_letsIn_103 : decode cX8_letsIn 103 = .ok (.getfield 11, 3) := by decide +kernel
theorem dX8_letsIn_106 : decode cX8_letsIn 106 = .ok (.iload_n 1, 1) := by decide +kernel
theorem dX8_letsIn_107 : decode cX8_letsIn 107 = .ok (.aaload, 1) := by decide +kernel
theorem dX8_letsIn_108 : decode cX8_letsIn 108 = .ok (.getfield 167, 3) := by decide +kernel
theorem dX8_letsIn_111 : decode cX8_letsIn 111 = .ok (.aload_n 0, 1) := by decide +kernel
theorem dX8_letsIn_112 : decode cX8_letsIn 112 = .ok (.getfield 11, 3) := by decide +kernel
theorem dX8_letsIn_115 : decode cX8_letsIn 115 = .ok (.iload 6, 2) := by decide +kernel
theorem dX8_letsIn_117 : decode cX8_letsIn 117 = .ok (.aaload, 1) := by decide +kernel
theorem dX8_letsIn_118 : decode cX8_letsIn 118 = .ok (.getfield 167, 3) := by decide +kernel
theorem dX8_letsIn_121 : decode cX8_letsIn 121 = .ok (.isub, 1) := by decide +kernel
theorem dX8_letsIn_122 : decode cX8_letsIn 122 = .ok (.invokestatic 170, 3) := by decide +kernel
theorem dX8_letsIn_125 : decode cX8_letsIn 125 = .ok (.iastore, 1) := by decide +kernel
theorem dX8_letsIn_126 : decode cX8_letsIn 126 = .ok (.aload 4, 2) := by decide +kernel
theorem dX8_letsIn_128 : decode cX8_letsIn 128 = .ok (.aload_n 0, 1) := by decide +kernel
theorem dX8_letsIn_129 : decode cX8_letsIn 129 = .ok (.getfield 45, 3) := by decide +kernel
theorem dX8_letsIn_132 : decode cX8_letsIn 132 = .ok (.invokevirtual 173, 3) := by decide +kernel
theorem dX8_letsIn_135 : decode cX8_letsIn 135 = .ok (.bipush (-100), 2) := by decide +kernel
theorem dX8_letsIn_137 : decode cX8_letsIn 137 = .ok (.bipush 100, 2) := by decide +kernel
theorem dX8_letsIn_139 : decode cX8_letsIn 139 = .ok (.invokestatic 141, 3) := by decide +kernel
theorem dX8_letsIn_142 : decode cX8_letsIn 142 = .ok (.ireturn, 1) := by decide +kernel
theorem dX8_bestHeap_0 : decode cX8_bestHeap 0 = .ok (.iconst (-1), 1) := by decide +kernel
theorem dX8_bestHeap_1 : decode cX8_bestHeap 1 = .ok (.istore_n 2, 1) := by decide +kernel
theorem dX8_bestHeap_2 : decode cX8_bestHeap 2 = .ok (.iconst (-1), 1) := by decide +kernel
theorem dX8_bestHeap_3 : decode cX8_bestHeap 3 = .ok (.istore_n 3, 1) := by decide +kernel
theorem dX8_bestHeap_4 : decode cX8_bestHeap 4 = .ok (.iconst 0, 1) := by decide +kernel
theorem dX8_bestHeap_5 : decode cX8_bestHeap 5 = .ok (.istore 4, 2) := by decide +kernel
theorem dX8_bestHeap_7 : decode cX8_bestHeap 7 = .ok (.iload 4, 2) := by decide +kernel
theorem dX8_bestHeap_9 : decode cX8_bestHeap 9 = .ok (.aload_n 0, 1) := by decide +kernel
theorem dX8_bestHeap_10 : decode cX8_bestHeap 10 = .ok (.getfield 73, 3) := by decide +kernel
theorem dX8_bestHeap_13 : decode cX8_bestHeap 13 = .ok (.if_icmp .ge 30, 3) := by decide +kernel
theorem dX8_bestHeap_16 : decode cX8_bestHeap 16 = .ok (.aload_n 0, 1) := by decide +kernel
theorem dX8_bestHeap_17 : decode cX8_bestHeap 17 = .ok (.iload_n 1, 1) := by decide +kernel
theorem dX8_bestHeap_18 : decode cX8_bestHeap 18 = .ok (.iload 4, 2) := by decide +kernel
theorem dX8_bestHeap_20 : decode cX8_bestHeap 20 = .ok (.invokevirtual 177, 3) := by decide +kernel
theorem dX8_bestHeap_23 : decode cX8_bestHeap 23 = .ok (.istore 5, 2) := by decide +kernel
theorem dX8_bestHeap_25 : decode cX8_bestHeap 25 = .ok (.iload 5, 2) := by decide +kernel
theorem dX8_bestHeap_27 : decode cX8_bestHeap 27 = .ok (.iload_n 3, 1) := by decide +kernel
theorem dX8_bestHeap_28 : decode cX8_bestHeap 28 = .ok (.if_icmp .le 9, 3) := by decide +kernel
theorem dX8_bestHeap_31 : decode cX8_bestHeap 31 = .ok (.iload 4, 2) := by decide +kernel
theorem dX8_bestHeap_33 : decode cX8_bestHeap 33 = .ok (.istore_n 2, 1) := by decide +kernel
theorem dX8_bestHeap_34 : decode cX8_bestHeap 34 = .ok (.iload 5, 2) := by decide +kernel
theorem dX8_bestHeap_36 : decode cX8_bestHeap 36 = .ok (.istore_n 3, 1) := by decide +kernel
theorem dX8_bestHeap_37 : decode cX8_bestHeap 37 = .ok (.iinc 4 1, 3) := by decide +kernel
theorem dX8_bestHeap_40 : decode cX8_bestHeap 40 = .ok (.goto (-33), 3) := by decide +kernel
theorem dX8_bestHeap_43 : decode cX8_bestHeap 43 = .ok (.iload_n 2, 1) := by decide +kernel
theorem dX8_bestHeap_44 : decode cX8_bestHeap 44 = .ok (.ireturn, 1) := by decide +kernel
theorem dX8_pass_0 : decode cX8_pass 0 = .ok (.iconst 0, 1) := by decide +kernel
theorem dX8_pass_1 : decode cX8_pass 1 = .ok (.istore_n 2, 1) := by decide +kernel
theorem dX8_pass_2 : decode cX8_pass 2 = .ok (.iload_n 2, 1) := by decide +kernel
theorem dX8_pass_3 : decode cX8_pass 3 = .ok (.iload_n 1, 1) := by decide +kernel
theorem dX8_pass_4 : decode cX8_pass 4 = .ok (.if_icmp .ge 74, 3) := by decide +kernel
theorem dX8_pass_7 : decode cX8_pass 7 = .ok (.iconst 0, 1) := by decide +kernel
theorem dX8_pass_8 : decode cX8_pass 8 = .ok (.istore_n 3, 1) := by decide +kernel
theorem dX8_pass_9 : decode cX8_pass 9 = .ok (.iload_n 3, 1) := by decide +kernel
theorem dX8_pass_10 : decode cX8_pass 10 = .ok (.aload_n 0, 1) := by decide +kernel
theorem dX8_pass_11 : decode cX8_pass 11 = .ok (.getfield 70, 3) := by decide +kernel
theorem dX8_pass_14 : decode cX8_pass 14 = .ok (.if_icmp .ge 27, 3) := by decide +kernel
theorem dX8_pass_17 : decode cX8_pass 17 = .ok (.aload_n 0, 1) := by decide +kernel
theorem dX8_pass_18 : decode cX8_pass 18 = .ok (.getfield 11, 3) := by decide +kernel
theorem dX8_pass_21 : decode cX8_pass 21 = .ok (.iload_n 3, 1) := by decide +kernel
theorem dX8_pass_22 : decode cX8_pass 22 = .ok (.aaload, 1) := by decide +kernel
theorem dX8_pass_23 : decode cX8_pass 23 = .ok (.getfield 82, 3) := by decide +kernel
theorem dX8_pass_26 : decode cX8_pass 26 = .ok (.iconst (-1), 1) := by decide +kernel
theorem dX8_pass_27 : decode cX8_pass 27 = .ok (.if_icmp .ne 8, 3) := by decide +kernel
theorem dX8_pass_30 : decode cX8_pass 30 = .ok (.aload_n 0, 1) := by decide +kernel
theorem dX8_pass_31 : decode cX8_pass 31 = .ok (.iload_n 3, 1) := by decide +kernel
theorem dX8_pass_32 : decode cX8_pass 32 = .ok (.invokevirtual 180, 3) := by decide +kernel
theorem dX8_pass_35 : decode cX8_pass 35 = .ok (.iinc 3 1, 3) := by decide +kernel
theorem dX8_pass_38 : decode cX8_pass 38 = .ok (.goto (-29), 3) := by decide +kernel
theorem dX8_pass_41 : decode cX8_pass 41 = .ok (.iconst 0, 1) := by decide +kernel
theorem dX8_pass_42 : decode cX8_pass 42 = .ok (.istore_n 3, 1) := by decide +kernel
theorem dX8_pass_43 : decode cX8_pass 43 = .ok (.iload_n 3, 1) := by decide +kernel
theorem dX8_pass_44 : decode cX8_pass 44 = .ok (.aload_n 0, 1) := by decide +kernel
theorem dX8_pass_45 : decode cX8_pass 45 = .ok (.getfield 73, 3) := by decide +kernel
theorem dX8_pass_48 : decode cX8_pass 48 = .ok (.if_icmp .ge 14, 3) := by decide +kernel
theorem dX8_pass_51 : decode cX8_pass 51 = .ok (.aload_n 0, 1) := by decide +kernel
theorem dX8_pass_52 : decode cX8_pass 52 = .ok (.iload_n 3, 1) := by decide +kernel
theorem dX8_pass_53 : decode cX8_pass 53 = .ok (.invokevirtual 183, 3) := by decide +kernel
theorem dX8_pass_56 : decode cX8_pass 56 = .ok (.iinc 3 1, 3) := by decide +kernel
theorem dX8_pass_59 : decode cX8_pass 59 = .ok (.goto (-16), 3) := by decide +kernel
theorem dX8_pass_62 : decode cX8_pass 62 = .ok (.aload_n 0, 1) := by decide +kernel
theorem dX8_pass_63 : decode cX8_pass 63 = .ok (.dup, 1) := by decide +kernel
theorem dX8_pass_64 : decode cX8_pass 64 = .ok (.getfield 76, 3) := by decide +kernel
theorem dX8_pass_67 : decode cX8_pass 67 = .ok (.iconst 1, 1) := by decide +kernel
theorem dX8_pass_68 : decode cX8_pass 68 = .ok (.iadd, 1) := by decide +kernel
theorem dX8_pass_69 : decode cX8_pass 69 = .ok (.putfield 76, 3) := by decide +kernel
theorem dX8_pass_72 : decode cX8_pass 72 = .ok (.iinc 2 1, 3) := by decide +kernel
theorem dX8_pass_75 : decode cX8_pass 75 = .ok (.goto (-73), 3) := by decide +kernel
theorem dX8_pass_78 : decode cX8_pass 78 = .ok (.return_, 1) := by decide +kernel
theorem dX8_tryHeap_0 : decode cX8_tryHeap 0 = .ok (.aload_n 0, 1) := by decide +kernel
theorem dX8_tryHeap_1 : decode cX8_tryHeap 1 = .ok (.getfield 11, 3) := by decide +kernel
theorem dX8_tryHeap_4 : decode cX8_tryHeap 4 = .ok (.iload_n 1, 1) := by decide +kernel
theorem dX8_tryHeap_5 : decode cX8_tryHeap 5 = .ok (.aaload, 1) := by decide +kernel
theorem dX8_tryHeap_6 : decode cX8_tryHeap 6 = .ok (.astore_n 2, 1) := by decide +kernel
theorem dX8_tryHeap_7 : decode cX8_tryHeap 7 = .ok (.aload_n 0, 1) := by decide +kernel
theorem dX8_tryHeap_8 : decode cX8_tryHeap 8 = .ok (.iload_n 1, 1) := by decide +kernel
theorem dX8_tryHeap_9 : decode cX8_tryHeap 9 = .ok (.invokevirtual 186, 3) := by decide +kernel
theorem dX8_tryHeap_12 : decode cX8_tryHeap 12 = .ok (.istore_n 3, 1) := by decide +kernel
theorem dX8_tryHeap_13 : decode cX8_tryHeap 13 = .ok (.iload_n 3, 1) := by decide +kernel
theorem dX8_tryHeap_14 : decode cX8_tryHeap 14 = .ok (.iconst (-1), 1) := by decide +kernel
theorem dX8_tryHeap_15 : decode cX8_tryHeap 15 = .ok (.if_icmp .eq 67, 3) := by decide +kernel
theorem dX8_tryHeap_18 : decode cX8_tryHeap 18 = .ok (.aload_n 2, 1) := by decide +kernel
theorem dX8_tryHeap_19 : decode cX8_tryHeap 19 = .ok (.getfield 97, 3) := by decide +kernel
theorem dX8_tryHeap_22 : decode cX8_tryHeap 22 = .ok (.iload_n 3, 1) := by decide +kernel
theorem dX8_tryHeap_23 : decode cX8_tryHeap 23 = .ok (.aload_n 2, 1) := by decide +kernel
theorem dX8_tryHeap_24 : decode cX8_tryHeap 24 = .ok (.getfield 97, 3) := by decide +kernel
theorem dX8_tryHeap_27 : decode cX8_tryHeap 27 = .ok (.iload_n 3, 1) := by decide +kernel
theorem dX8_tryHeap_28 : decode cX8_tryHeap 28 = .ok (.iaload, 1) := by decide +kernel
theorem dX8_tryHeap_29 : decode cX8_tryHeap 29 = .ok (.iconst 1, 1) := by decide +kernel
theorem dX8_tryHeap_30 : decode cX8_tryHeap 30 = .ok (.iadd, 1) := by decide +kernel
theorem dX8_tryHeap_31 : decode cX8_tryHeap 31 = .ok (.bipush 99, 2) := by decide +kernel
theorem dX8_tryHeap_33 : decode cX8_tryHeap 33 = .ok (.invokestatic 189, 3) := by decide +kernel
theorem dX8_tryHeap_36 : decode cX8_tryHeap 36 = .ok (.iastore, 1) := by decide +kernel
theorem dX8_tryHeap_37 : decode cX8_tryHeap 37 = .ok (.aload_n 0, 1) := by decide +kernel
theorem dX8_tryHeap_38 : decode cX8_tryHeap 38 = .ok (.iload_n 1, 1) := by decide +kernel
theorem dX8_tryHeap_39 : decode cX8_tryHeap 39 = .ok (.iload_n 3, 1) := by decide +kernel
theorem dX8_tryHeap_40 : decode cX8_tryHeap 40 = .ok (.invokevirtual 177, 3) := by decide +kernel
theorem dX8_tryHeap_43 : decode cX8_tryHeap 43 = .ok (.istore 4, 2) := by decide +kernel
theorem dX8_tryHeap_45 : decode cX8_tryHeap 45 = .ok (.aload_n 0, 1) := by decide +kernel
theorem dX8_tryHeap_46 : decode cX8_tryHeap 46 = .ok (.aload_n 0, 1) := by decide +kernel
theorem dX8_tryHeap_47 : decode cX8_tryHeap 47 = .ok (.getfield 41, 3) := by decide +kernel
theorem dX8_tryHeap_50 : decode cX8_tryHeap 50 = .ok (.ldc 192, 2) := by decide +kernel
theorem dX8_tryHeap_52 : decode cX8_tryHeap 52 = .ok (.imul, 1) := by decide +kernel
theorem dX8_tryHeap_53 : decode cX8_tryHeap 53 = .ok (.sipush 12345, 3) := by decide +kernel
theorem dX8_tryHeap_56 : decode cX8_tryHeap 56 = .ok (.iadd, 1) := by decide +kernel
theorem dX8_tryHeap_57 : decode cX8_tryHeap 57 = .ok (.putfield 41, 3) := by decide +kernel
theorem dX8_tryHeap_60 : decode cX8_tryHeap 60 = .ok (.aload_n 0, 1) := by decide +kernel
theorem dX8_tryHeap_61 : decode cX8_tryHeap 61 = .ok (.getfield 41, 3) := by decide +kernel
theorem dX8_tryHeap_64 : decode cX8_tryHeap 64 = .ok (.bipush 8, 2) := by decide +kernel
theorem dX8_tryHeap_66 : decode cX8_tryHeap 66 = .ok (.iushr, 1) := by decide +kernel
theorem dX8_tryHeap_67 : decode cX8_tryHeap 67 = .ok (.bipush 100, 2) := by decide +kernel
theorem dX8_tryHeap_69 : decode cX8_tryHeap 69 = .ok (.irem, 1) := by decide +kernel
theorem dX8_tryHeap_70 : decode cX8_tryHeap 70 = .ok (.iload 4, 2) := by decide +kernel
theorem dX8_tryHeap_72 : decode cX8_tryHeap 72 = .ok (.if_icmp .ge 10, 3) := by decide +kernel
theorem dX8_tryHeap_75 : decode cX8_tryHeap 75 = .ok (.aload_n 0, 1) := by decide +kernel
theorem dX8_tryHeap_76 : decode cX8_tryHeap 76 = .ok (.iload_n 1, 1) := by decide +kernel
theorem dX8_tryHeap_77 : decode cX8_tryHeap 77 = .ok (.iload_n 3, 1) := by decide +kernel
theorem dX8_tryHeap_78 : decode cX8_tryHeap 78 = .ok (.invokevirtual 193, 3) := by decide +kernel
theorem dX8_tryHeap_81 : decode cX8_tryHeap 81 = .ok (.return_, 1) := by decide +kernel
theorem dX8_tryHeap_82 : decode cX8_tryHeap 82 = .ok (.aload_n 2, 1) := by decide +kernel
theorem dX8_tryHeap_83 : decode cX8_tryHeap 83 = .ok (.aload_n 2, 1) := by decide +kernel
theorem dX8_tryHeap_84 : decode cX8_tryHeap 84 = .ok (.getfield 88, 3) := by decide +kernel
theorem dX8_tryHeap_87 : decode cX8_tryHeap 87 = .ok (.iconst 1, 1) := by decide +kernel
theorem dX8_tryHeap_88 : decode cX8_tryHeap 88 = .ok (.iadd, 1) := by decide +kernel
theorem dX8_tryHeap_89 : decode cX8_tryHeap 89 = .ok (.ldc 197, 2) := by decide +kernel
theorem dX8_tryHeap_91 : decode cX8_tryHeap 91 = .ok (.invokestatic 189, 3) := by decide +kernel
theorem dX8_tryHeap_94 : decode cX8_tryHeap 94 = .ok (.putfield 88, 3) := by decide +kernel
theorem dX8_tryHeap_97 : decode cX8_tryHeap 97 = .ok (.return_, 1) := by decide +kernel
theorem dX8_wearOut_0 : decode cX8_wearOut 0 = .ok (.aload_n 0, 1) := by decide +kernel
theorem dX8_wearOut_1 : decode cX8_wearOut 1 = .ok (.getfield 19, 3) := by decide +kernel
theorem dX8_wearOut_4 : decode cX8_wearOut 4 = .ok (.iload_n 1, 1) := by decide +kernel
theorem dX8_wearOut_5 : decode cX8_wearOut 5 = .ok (.aaload, 1) := by decide +kernel
theorem dX8_wearOut_6 : decode cX8_wearOut 6 = .ok (.astore_n 2, 1) := by decide +kernel
theorem dX8_wearOut_7 : decode cX8_wearOut 7 = .ok (.aload_n 2, 1) := by decide +kernel
theorem dX8_wearOut_8 : decode cX8_wearOut 8 = .ok (.invokevirtual 198, 3) := by decide +kernel
theorem dX8_wearOut_11 : decode cX8_wearOut 11 = .ok (.ifCond .ne 4, 3) := by decide +kernel
theorem dX8_wearOut_14 : decode cX8_wearOut 14 = .ok (.return_, 1) := by decide +kernel
theorem dX8_wearOut_15 : decode cX8_wearOut 15 = .ok (.aload_n 2, 1) := by decide +kernel
theorem dX8_wearOut_16 : decode cX8_wearOut 16 = .ok (.dup, 1) := by decide +kernel
theorem dX8_wearOut_17 : decode cX8_wearOut 17 = .ok (.getfield 201, 3) := by decide +kernel
theorem dX8_wearOut_20 : decode cX8_wearOut 20 = .ok (.iconst 1, 1) := by decide +kernel
theorem dX8_wearOut_21 : decode cX8_wearOut 21 = .ok (.iadd, 1) := by decide +kernel
theorem dX8_wearOut_22 : decode cX8_wearOut 22 = .ok (.putfield 201, 3) := by decide +kernel
theorem dX8_wearOut_25 : decode cX8_wearOut 25 = .ok (.aload_n 2, 1) := by decide +kernel
theorem dX8_wearOut_26 : decode cX8_wearOut 26 = .ok (.getfield 201, 3) := by decide +kernel
theorem dX8_wearOut_29 : decode cX8_wearOut 29 = .ok (.iconst 5, 1) := by decide +kernel
theorem dX8_wearOut_30 : decode cX8_wearOut 30 = .ok (.if_icmp .ge 4, 3) := by decide +kernel
theorem dX8_wearOut_33 : decode cX8_wearOut 33 = .ok (.return_, 1) := by decide +kernel
theorem dX8_wearOut_34 : decode cX8_wearOut 34 = .ok (.iconst 0, 1) := by decide +kernel
theorem dX8_wearOut_35 : decode cX8_wearOut 35 = .ok (.istore_n 3, 1) := by decide +kernel
theorem dX8_wearOut_36 : decode cX8_wearOut 36 = .ok (.iload_n 3, 1) := by decide +kernel
theorem dX8_wearOut_37 : decode cX8_wearOut 37 = .ok (.aload_n 0, 1) := by decide +kernel
theorem dX8_wearOut_38 : decode cX8_wearOut 38 = .ok (.getfield 70, 3) := by decide +kernel
theorem dX8_wearOut_41 : decode cX8_wearOut 41 = .ok (.if_icmp .ge 28, 3) := by decide +kernel
theorem dX8_wearOut_44 : decode cX8_wearOut 44 = .ok (.aload_n 0, 1) := by decide +kernel
theorem dX8_wearOut_45 : decode cX8_wearOut 45 = .ok (.getfield 11, 3) := by decide +kernel
theorem dX8_wearOut_48 : decode cX8_wearOut 48 = .ok (.iload_n 3, 1) := by decide +kernel
theorem dX8_wearOut_49 : decode cX8_wearOut 49 = .ok (.aaload, 1) := by decide +kernel
theorem dX8_wearOut_50 : decode cX8_wearOut 50 = .ok (.getfield 82, 3) := by decide +kernel
theorem dX8_wearOut_53 : decode cX8_wearOut 53 = .ok (.iload_n 1, 1) := by decide +kernel
theorem dX8_wearOut_54 : decode cX8_wearOut 54 = .ok (.if_icmp .ne 9, 3) := by decide +kernel
theorem dX8_wearOut_57 : decode cX8_wearOut 57 = .ok (.aload_n 0, 1) := by decide +kernel
theorem dX8_wearOut_58 : decode cX8_wearOut 58 = .ok (.iload_n 3, 1) := by decide +kernel
theorem dX8_wearOut_59 : decode cX8_wearOut 59 = .ok (.iconst (-1), 1) := by decide +kernel
theorem dX8_wearOut_60 : decode cX8_wearOut 60 = .ok (.invokevirtual 193, 3) := by decide +kernel
theorem dX8_wearOut_63 : decode cX8_wearOut 63 = .ok (.iinc 3 1, 3) := by decide +kernel
theorem dX8_wearOut_66 : decode cX8_wearOut 66 = .ok (.goto (-30), 3) := by decide +kernel
theorem dX8_wearOut_69 : decode cX8_wearOut 69 = .ok (.return_, 1) := by decide +kernel
theorem dX8_passTerm_0 : decode cX8_passTerm 0 = .ok (.iconst 0, 1) := by decide +kernel
theorem dX8_passTerm_1 : decode cX8_passTerm 1 = .ok (.istore_n 1, 1) := by decide +kernel
theorem dX8_passTerm_2 : decode cX8_passTerm 2 = .ok (.iload_n 1, 1) := by decide +kernel
theorem dX8_passTerm_3 : decode cX8_passTerm 3 = .ok (.aload_n 0, 1) := by decide +kernel
theorem dX8_passTerm_4 : decode cX8_passTerm 4 = .ok (.getfield 70, 3) := by decide +kernel
theorem dX8_passTerm_7 : decode cX8_passTerm 7 = .ok (.if_icmp .ge 54, 3) := by decide +kernel
theorem dX8_passTerm_10 : decode cX8_passTerm 10 = .ok (.iconst 0, 1) := by decide +kernel
theorem dX8_passTerm_11 : decode cX8_passTerm 11 = .ok (.istore_n 2, 1) := by decide +kernel
theorem dX8_passTerm_12 : decode cX8_passTerm 12 = .ok (.iload_n 2, 1) := by decide +kernel
theorem dX8_passTerm_13 : decode cX8_passTerm 13 = .ok (.aload_n 0, 1) := by decide +kernel
theorem dX8_passTerm_14 : decode cX8_passTerm 14 = .ok (.getfield 70, 3) := by decide +kernel
theorem dX8_passTerm_17 : decode cX8_passTerm 17 = .ok (.if_icmp .ge 38, 3) := by decide +kernel
theorem dX8_passTerm_20 : decode cX8_passTerm 20 = .ok (.aload_n 0, 1) := by decide +kernel
theorem dX8_passTerm_21 : decode cX8_passTerm 21 = .ok (.getfield 51, 3) := by decide +kernel
theorem dX8_passTerm_24 : decode cX8_passTerm 24 = .ok (.iload_n 1, 1) := by decide +kernel
theorem dX8_passTerm_25 : decode cX8_passTerm 25 = .ok (.aaload, 1) := by decide +kernel
theorem dX8_passTerm_26 : decode cX8_passTerm 26 = .ok (.iload_n 2, 1) := by decide +kernel
theorem dX8_passTerm_27 : decode cX8_passTerm 27 = .ok (.iload_n 1, 1) := by decide +kernel
theorem dX8_passTerm_28 : decode cX8_passTerm 28 = .ok (.iload_n 2, 1) := by decide +kernel
theorem dX8_passTerm_29 : decode cX8_passTerm 29 = .ok (.if_icmp .ne 7, 3) := by decide +kernel
theorem dX8_passTerm_32 : decode cX8_passTerm 32 = .ok (.iconst 0, 1) := by decide +kernel
theorem dX8_passTerm_33 : decode cX8_passTerm 33 = .ok (.goto 15, 3) := by decide +kernel
theorem dX8_passTerm_36 : decode cX8_passTerm 36 = .ok (.aload_n 0, 1) := by decide +kernel
theorem dX8_passTerm_37 : decode cX8_passTerm 37 = .ok (.iload_n 1, 1) := by decide +kernel
theorem dX8_passTerm_38 : decode cX8_passTerm 38 = .ok (.iload_n 2, 1) := by decide +kernel
theorem dX8_passTerm_39 : decode cX8_passTerm 39 = .ok (.invokevirtual 204, 3) := by decide +kernel
theorem dX8_passTerm_42 : decode cX8_passTerm 42 = .ok (.iconst 0, 1) := by decide +kernel
theorem dX8_passTerm_43 : decode cX8_passTerm 43 = .ok (.bipush 99, 2) := by decide +kernel
theorem dX8_passTerm_45 : decode cX8_passTerm 45 = .ok (.invokestatic 141, 3) := by decide +kernel
theorem dX8_passTerm_48 : decode cX8_passTerm 48 = .ok (.iastore, 1) := by decide +kernel
theorem dX8_passTerm_49 : decode cX8_passTerm 49 = .ok (.iinc 2 1, 3) := by decide +kernel
theorem dX8_passTerm_52 : decode cX8_passTerm 52 = .ok (.goto (-40), 3) := by decide +kernel
theorem dX8_passTerm_55 : decode cX8_passTerm 55 = .ok (.iinc 1 1, 3) := by decide +kernel
theorem dX8_passTerm_58 : decode cX8_passTerm 58 = .ok (.goto (-56), 3) := by decide +kernel
theorem dX8_passTerm_61 : decode cX8_passTerm 61 = .ok (.iconst 0, 1) := by decide +kernel
theorem dX8_passTerm_62 : decode cX8_passTerm 62 = .ok (.istore_n 1, 1) := by decide +kernel
theorem dX8_passTerm_63 : decode cX8_passTerm 63 = .ok (.iload_n 1, 1) := by decide +kernel
theorem dX8_passTerm_64 : decode cX8_passTerm 64 = .ok (.aload_n 0, 1) := by decide +kernel
theorem dX8_passTerm_65 : decode cX8_passTerm 65 = .ok (.getfield 70, 3) := by decide +kernel
theorem dX8_passTerm_68 : decode cX8_passTerm 68 = .ok (.if_icmp .ge 33, 3) := by decide +kernel
theorem dX8_passTerm_71 : decode cX8_passTerm 71 = .ok (.aload_n 0, 1) := by decide +kernel
theorem dX8_passTerm_72 : decode cX8_passTerm 72 = .ok (.getfield 51, 3) := by decide +kernel
theorem dX8_passTerm_75 : decode cX8_passTerm 75 = .ok (.iload_n 1, 1) := by decide +kernel
theorem dX8_passTerm_76 : decode cX8_passTerm 76 = .ok (.aaload, 1) := by decide +kernel
theorem dX8_passTerm_77 : decode cX8_passTerm 77 = .ok (.iconst 0, 1) := by decide +kernel
theorem dX8_passTerm_78 : decode cX8_passTerm 78 = .ok (.aload_n 0, 1) := by decide +kernel
theorem dX8_passTerm_79 : decode cX8_passTerm 79 = .ok (.getfield 11, 3) := by decide +kernel
theorem dX8_passTerm_82 : decode cX8_passTerm 82 = .ok (.iload_n 1, 1) := by decide +kernel
theorem dX8_passTerm_83 : decode cX8_passTerm 83 = .ok (.aaload, 1) := by decide +kernel
theorem dX8_passTerm_84 : decode cX8_passTerm 84 = .ok (.getfield 106, 3) := by decide +kernel
theorem dX8_passTerm_87 : decode cX8_passTerm 87 = .ok (.iconst 0, 1) := by decide +kernel
theorem dX8_passTerm_88 : decode cX8_passTerm 88 = .ok (.aload_n 0, 1) := by decide +kernel
theorem dX8_passTerm_89 : decode cX8_passTerm 89 = .ok (.getfield 70, 3) := by decide +kernel
theorem dX8_passTerm_92 : decode cX8_passTerm 92 = .ok (.invokestatic 207, 3) := by decide +kernel
theorem dX8_passTerm_95 : decode cX8_passTerm 95 = .ok (.iinc 1 1, 3) := by decide +kernel
theorem dX8_passTerm_98 : decode cX8_passTerm 98 = .ok (.goto (-35), 3) := by decide +kernel
theorem dX8_passTerm_101 : decode cX8_passTerm 101 = .ok (.aload_n 0, 1) := by decide +kernel
theorem dX8_passTerm_102 : decode cX8_passTerm 102 = .ok (.dup, 1) := by decide +kernel
theorem dX8_passTerm_103 : decode cX8_passTerm 103 = .ok (.getfield 79, 3) := by decide +kernel
theorem dX8_passTerm_106 : decode cX8_passTerm 106 = .ok (.iconst 1, 1) := by decide +kernel
theorem dX8_passTerm_107 : decode cX8_passTerm 107 = .ok (.iadd, 1) := by decide +kernel
theorem dX8_passTerm_108 : decode cX8_passTerm 108 = .ok (.putfield 79, 3) := by decide +kernel
theorem dX8_passTerm_111 : decode cX8_passTerm 111 = .ok (.return_, 1) := by decide +kernel
theorem dX8_likesThen_0 : decode cX8_likesThen 0 = .ok (.aload_n 0, 1) := by decide +kernel
theorem dX8_likesThen_1 : decode cX8_likesThen 1 = .ok (.getfield 11, 3) := by decide +kernel
theorem dX8_likesThen_4 : decode cX8_likesThen 4 = .ok (.iload_n 1, 1) := by decide +kernel
theorem dX8_likesThen_5 : decode cX8_likesThen 5 = .ok (.aaload, 1) := by decide +kernel
theorem dX8_likesThen_6 : decode cX8_likesThen 6 = .ok (.getfield 106, 3) := by decide +kernel
theorem dX8_likesThen_9 : decode cX8_likesThen 9 = .ok (.iload_n 2, 1) := by decide +kernel
theorem dX8_likesThen_10 : decode cX8_likesThen 10 = .ok (.iaload, 1) := by decide +kernel
theorem dX8_likesThen_11 : decode cX8_likesThen 11 = .ok (.istore_n 3, 1) := by decide +kernel
theorem dX8_likesThen_12 : decode cX8_likesThen 12 = .ok (.aload_n 0, 1) := by decide +kernel
theorem dX8_likesThen_13 : decode cX8_likesThen 13 = .ok (.getfield 11, 3) := by decide +kernel
theorem dX8_likesThen_16 : decode cX8_likesThen 16 = .ok (.iload_n 2, 1) := by decide +kernel
theorem dX8_likesThen_17 : decode cX8_likesThen 17 = .ok (.aaload, 1) := by decide +kernel
theorem dX8_likesThen_18 : decode cX8_likesThen 18 = .ok (.getfield 106, 3) := by decide +kernel
theorem dX8_likesThen_21 : decode cX8_likesThen 21 = .ok (.iload_n 1, 1) := by decide +kernel
theorem dX8_likesThen_22 : decode cX8_likesThen 22 = .ok (.iaload, 1) := by decide +kernel
theorem dX8_likesThen_23 : decode cX8_likesThen 23 = .ok (.istore 4, 2) := by decide +kernel
theorem dX8_likesThen_25 : decode cX8_likesThen 25 = .ok (.aload_n 0, 1) := by decide +kernel
theorem dX8_likesThen_26 : decode cX8_likesThen 26 = .ok (.getfield 11, 3) := by decide +kernel
theorem dX8_likesThen_29 : decode cX8_likesThen 29 = .ok (.iload_n 1, 1) := by decide +kernel
theorem dX8_likesThen_30 : decode cX8_likesThen 30 = .ok (.aaload, 1) := by decide +kernel
theorem dX8_likesThen_31 : decode cX8_likesThen 31 = .ok (.getfield 82, 3) := by decide +kernel
theorem dX8_likesThen_34 : decode cX8_likesThen 34 = .ok (.istore 5, 2) := by decide +kernel
theorem dX8_likesThen_36 : decode cX8_likesThen 36 = .ok (.iload 5, 2) := by decide +kernel
theorem dX8_likesThen_38 : decode cX8_likesThen 38 = .ok (.iconst (-1), 1) := by decide +kernel
theorem dX8_likesThen_39 : decode cX8_likesThen 39 = .ok (.if_icmp .eq 21, 3) := by decide +kernel
theorem dX8_likesThen_42 : decode cX8_likesThen 42 = .ok (.iload 5, 2) := by decide +kernel
theorem dX8_likesThen_44 : decode cX8_likesThen 44 = .ok (.aload_n 0, 1) := by decide +kernel
theorem dX8_likesThen_45 : decode cX8_likesThen 45 = .ok (.getfield 11, 3) := by decide +kernel
theorem dX8_likesThen_48 : decode cX8_likesThen 48 = .ok (.iload_n 2, 1) := by decide +kernel
theorem dX8_likesThen_49 : decode cX8_likesThen 49 = .ok (.aaload, 1) := by decide +kernel
theorem dX8_likesThen_50 : decode cX8_likesThen 50 = .ok (.getfield 82, 3) := by decide +kernel
theorem dX8_likesThen_53 : decode cX8_likesThen 53 = .ok (.if_icmp .ne 7, 3) := by decide +kernel
theorem dX8_likesThen_56 : decode cX8_likesThen 56 = .ok (.iconst 1, 1) := by decide +kernel
theorem dX8_likesThen_57 : decode cX8_likesThen 57 = .ok (.goto 4, 3) := by decide +kernel
theorem dX8_likesThen_60 : decode cX8_likesThen 60 = .ok (.iconst 0, 1) := by decide +kernel
theorem dX8_likesThen_61 : decode cX8_likesThen 61 = .ok (.istore 6, 2) := by decide +kernel
theorem dX8_likesThen_63 : decode cX8_likesThen 63 = .ok (.aload_n 0, 1) := by decide +kernel
theorem dX8_likesThen_64 : decode cX8_likesThen 64 = .ok (.getfield 25, 3) := by decide +kernel
theorem dX8_likesThen_67 : decode cX8_likesThen 67 = .ok (.iconst 1, 1) := by decide +kernel
theorem dX8_likesThen_68 : decode cX8_likesThen 68 = .ok (.aaload, 1) := by decide +kernel
theorem dX8_likesThen_69 : decode cX8_likesThen 69 = .ok (.astore 7, 2) := by decide +kernel
theorem dX8_likesThen_71 : decode cX8_likesThen 71 = .ok (.aload 7, 2) := by decide +kernel
theorem dX8_likesThen_73 : decode cX8_likesThen 73 = .ok (.invokevirtual 161, 3) := by decide +kernel
theorem dX8_likesThen_76 : decode cX8_likesThen 76 = .ok (.ifCond .ne 15, 3) := by decide +kernel
theorem dX8_likesThen_79 : decode cX8_likesThen 79 = .ok (.iload_n 3, 1) := by decide +kernel
theorem dX8_likesThen_80 : decode cX8_likesThen 80 = .ok (.iload 4, 2) := by decide +kernel
theorem dX8_likesThen_82 : decode cX8_likesThen 82 = .ok (.iload_n 3, 1) := by decide +kernel
theorem dX8_likesThen_83 : decode cX8_likesThen 83 = .ok (.invokestatic 213, 3) := by decide +kernel
theorem dX8_likesThen_86 : decode cX8_likesThen 86 = .ok (.iadd, 1) := by decide +kernel
theorem dX8_likesThen_87 : decode cX8_likesThen 87 = .ok (.iload 6, 2) := by decide +kernel
theorem dX8_likesThen_89 : decode cX8_likesThen 89 = .ok (.iadd, 1) := by decide +kernel
theorem dX8_likesThen_90 : decode cX8_likesThen 90 = .ok (.ireturn, 1) := by decide +kernel
theorem dX8_likesThen_91 : decode cX8_likesThen 91 = .ok (.aload_n 0, 1) := by decide +kernel
theorem dX8_likesThen_92 : decode cX8_likesThen 92 = .ok (.getfield 45, 3) := by decide +kernel
theorem dX8_likesThen_95 : decode cX8_likesThen 95 = .ok (.iconst 0, 1) := by decide +kernel
theorem dX8_likesThen_96 : decode cX8_likesThen 96 = .ok (.iload_n 3, 1) := by decide +kernel
theorem dX8_likesThen_97 : decode cX8_likesThen 97 = .ok (.iastore, 1) := by decide +kernel
theorem dX8_likesThen_98 : decode cX8_likesThen 98 = .ok (.aload_n 0, 1) := by decide +kernel
theorem dX8_likesThen_99 : decode cX8_likesThen 99 = .ok (.getfield 45, 3) := by decide +kernel
theorem dX8_likesThen_102 : decode cX8_likesThen 102 = .ok (.iconst 1, 1) := by decide +kernel
theorem dX8_likesThen_103 : decode cX8_likesThen 103 = .ok (.iload 4, 2) := by decide +kernel
theorem dX8_likesThen_105 : decode cX8_likesThen 105 = .ok (.iastore, 1) := by decide +kernel
theorem dX8_likesThen_106 : decode cX8_likesThen 106 = .ok (.aload_n 0, 1) := by decide +kernel
theorem dX8_likesThen_107 : decode cX8_likesThen 107 = .ok (.getfield 45, 3) := by decide +kernel
theorem dX8_likesThen_110 : decode cX8_likesThen 110 = .ok (.iconst 2, 1) := by decide +kernel
theorem dX8_likesThen_111 : decode cX8_likesThen 111 = .ok (.aload_n 0, 1) := by decide +kernel
theorem dX8_likesThen_112 : decode cX8_likesThen 112 = .ok (.iload_n 1, 1) := by decide +kernel
theorem dX8_likesThen_113 : decode cX8_likesThen 113 = .ok (.iload_n 2, 1) := by decide +kernel
theorem dX8_likesThen_114 : decode cX8_likesThen 114 = .ok (.invokevirtual 216, 3) := by decide +kernel
theorem dX8_likesThen_117 : decode cX8_likesThen 117 = .ok (.iastore, 1) := by decide +kernel
theorem dX8_likesThen_118 : decode cX8_likesThen 118 = .ok (.aload_n 0, 1) := by decide +kernel
theorem dX8_likesThen_119 : decode cX8_likesThen 119 = .ok (.getfield 45, 3) := by decide +kernel
theorem dX8_likesThen_122 : decode cX8_likesThen 122 = .ok (.iconst 3, 1) := by decide +kernel
theorem dX8_likesThen_123 : decode cX8_likesThen 123 = .ok (.iload 6, 2) := by decide +kernel
theorem dX8_likesThen_125 : decode cX8_likesThen 125 = .ok (.iastore, 1) := by decide +kernel
theorem dX8_likesThen_126 : decode cX8_likesThen 126 = .ok (.aload 7, 2) := by decide +kernel
theorem dX8_likesThen_128 : decode cX8_likesThen 128 = .ok (.aload_n 0, 1) := by decide +kernel
theorem dX8_likesThen_129 : decode cX8_likesThen 129 = .ok (.getfield 45, 3) := by decide +kernel
theorem dX8_likesThen_132 : decode cX8_likesThen 132 = .ok (.invokevirtual 173, 3) := by decide +kernel
theorem dX8_likesThen_135 : decode cX8_likesThen 135 = .ok (.ireturn, 1) := by decide +kernel
theorem dX8_countShared_0 : decode cX8_countShared 0 = .ok (.iconst 0, 1) := by decide +kernel
theorem dX8_countShared_1 : decode cX8_countShared 1 = .ok (.istore_n 3, 1) := by decide +kernel
theorem dX8_countShared_2 : decode cX8_countShared 2 = .ok (.iconst 0, 1) := by decide +kernel
theorem dX8_countShared_3 : decode cX8_countShared 3 = .ok (.istore 4, 2) := by decide +kernel
theorem dX8_countShared_5 : decode cX8_countShared 5 = .ok (.iload 4, 2) := by decide +kernel
theorem dX8_countShared_7 : decode cX8_countShared 7 = .ok (.aload_n 0, 1) := by decide +kernel
theorem dX8_countShared_8 : decode cX8_countShared 8 = .ok (.getfield 70, 3) := by decide +kernel
theorem dX8_countShared_11 : decode cX8_countShared 11 = .ok (.if_icmp .ge 58, 3) := by decide +kernel
theorem dX8_countShared_14 : decode cX8_countShared 14 = .ok (.iload 4, 2) := by decide +kernel
theorem dX8_countShared_16 : decode cX8_countShared 16 = .ok (.iload_n 1, 1) := by decide +kernel
theorem dX8_countShared_17 : decode cX8_countShared 17 = .ok (.if_icmp .eq 46, 3) := by decide +kernel
theorem dX8_countShared_20 : decode cX8_countShared 20 = .ok (.iload 4, 2) := by decide +kernel
theorem dX8_countShared_22 : decode cX8_countShared 22 = .ok (.iload_n 2, 1) := by decide +kernel
theorem dX8_countShared_23 : decode cX8_countShared 23 = .ok (.if_icmp .eq 40, 3) := by decide +kernel
theorem dX8_countShared_26 : decode cX8_countShared 26 = .ok (.aload_n 0, 1) := by decide +kernel
theorem dX8_countShared_27 : decode cX8_countShared 27 = .ok (.getfield 11, 3) := by decide +kernel
theorem dX8_countShared_30 : decode cX8_countShared 30 = .ok (.iload_n 1, 1) := by decide +kernel
theorem dX8_countShared_31 : decode cX8_countShared 31 = .ok (.aaload, 1) := by decide +kernel
theorem dX8_countShared_32 : decode cX8_countShared 32 = .ok (.getfield 106, 3) := by decide +kernel
theorem dX8_countShared_35 : decode cX8_countShared 35 = .ok (.iload 4, 2) := by decide +kernel
theorem dX8_countShared_37 : decode cX8_countShared 37 = .ok (.iaload, 1) := by decide +kernel
theorem dX8_countShared_38 : decode cX8_countShared 38 = .ok (.bipush 50, 2) := by decide +kernel
theorem dX8_countShared_40 : decode cX8_countShared 40 = .ok (.if_icmp .lt 23, 3) := by decide +kernel
theorem dX8_countShared_43 : decode cX8_countShared 43 = .ok (.aload_n 0, 1) := by decide +kernel
theorem dX8_countShared_44 : decode cX8_countShared 44 = .ok (.getfield 11, 3) := by decide +kernel
theorem dX8_countShared_47 : decode cX8_countShared 47 = .ok (.iload_n 2, 1) := by decide +kernel
theorem dX8_countShared_48 : decode cX8_countShared 48 = .ok (.aaload, 1) := by decide +kernel
theorem dX8_countShared_49 : decode cX8_countShared 49 = .ok (.getfield 106, 3) := by decide +kernel
theorem dX8_countShared_52 : decode cX8_countShared 52 = .ok (.iload 4, 2) := by decide +kernel
theorem dX8_countShared_54 : decode cX8_countShared 54 = .ok (.iaload, 1) := by decide +kernel
theorem dX8_countShared_55 : decode cX8_countShared 55 = .ok (.bipush 50, 2) := by decide +kernel
theorem dX8_countShared_57 : decode cX8_countShared 57 = .ok (.if_icmp .lt 6, 3) := by decide +kernel
theorem dX8_countShared_60 : decode cX8_countShared 60 = .ok (.iinc 3 1, 3) := by decide +kernel
theorem dX8_countShared_63 : decode cX8_countShared 63 = .ok (.iinc 4 1, 3) := by decide +kernel
theorem dX8_countShared_66 : decode cX8_countShared 66 = .ok (.goto (-61), 3) := by decide +kernel
theorem dX8_countShared_69 : decode cX8_countShared 69 = .ok (.iload_n 3, 1) := by decide +kernel
theorem dX8_countShared_70 : decode cX8_countShared 70 = .ok (.ireturn, 1) := by decide +kernel
theorem dX9_init_0 : decode cX9_init 0 = .ok (.aload_n 0, 1) := by decide +kernel
theorem dX9_init_1 : decode cX9_init 1 = .ok (.invokespecial 1, 3) := by decide +kernel
theorem dX9_init_4 : decode cX9_init 4 = .ok (.aload_n 0, 1) := by decide +kernel
theorem dX9_init_5 : decode cX9_init 5 = .ok (.new 7, 3) := by decide +kernel
theorem dX9_init_8 : decode cX9_init 8 = .ok (.dup, 1) := by decide +kernel
theorem dX9_init_9 : decode cX9_init 9 = .ok (.invokespecial 9, 3) := by decide +kernel
theorem dX9_init_12 : decode cX9_init 12 = .ok (.putfield 10, 3) := by decide +kernel
theorem dX9_init_15 : decode cX9_init 15 = .ok (.aload_n 0, 1) := by decide +kernel
theorem dX9_init_16 : decode cX9_init 16 = .ok (.new 7, 3) := by decide +kernel
theorem dX9_init_19 : decode cX9_init 19 = .ok (.dup, 1) := by decide +kernel
theorem dX9_init_20 : decode cX9_init 20 = .ok (.invokespecial 9, 3) := by decide +kernel
theorem dX9_init_23 : decode cX9_init 23 = .ok (.putfield 16, 3) := by decide +kernel
theorem dX9_init_26 : decode cX9_init 26 = .ok (.aload_n 0, 1) := by decide +kernel
theorem dX9_init_27 : decode cX9_init 27 = .ok (.new 7, 3) := by decide +kernel
theorem dX9_init_30 : decode cX9_init 30 = .ok (.dup, 1) := by decide +kernel
theorem dX9_init_31 : decode cX9_init 31 = .ok (.invokespecial 9, 3) := by decide +kernel
theorem dX9_init_34 : decode cX9_init 34 = .ok (.putfield 19, 3) := by decide +kernel
theorem dX9_init_37 : decode cX9_init 37 = .ok (.aload_n 0, 1) := by decide +kernel
theorem dX9_init_38 : decode cX9_init 38 = .ok (.new 22, 3) := by decide +kernel
theorem dX9_init_41 : decode cX9_init 41 = .ok (.dup, 1) := by decide +kernel
theorem dX9_init_42 : decode cX9_init 42 = .ok (.invokespecial 24, 3) := by decide +kernel
theorem dX9_init_45 : decode cX9_init 45 = .ok (.putfield 25, 3) := by decide +kernel
theorem dX9_init_48 : decode cX9_init 48 = .ok (.aload_n 0, 1) := by decide +kernel
theorem dX9_init_49 : decode cX9_init 49 = .ok (.new 29, 3) := by decide +kernel
theorem dX9_init_52 : decode cX9_init 52 = .ok (.dup, 1) := by decide +kernel
theorem dX9_init_53 : decode cX9_init 53 = .ok (.invokespecial 31, 3) := by decide +kernel
theorem dX9_init_56 : decode cX9_init 56 = .ok (.putfield 32, 3) := by decide +kernel
theorem dX9_init_59 : decode cX9_init 59 = .ok (.aload_n 0, 1) := by decide +kernel
theorem dX9_init_60 : decode cX9_init 60 = .ok (.new 36, 3) := by decide +kernel
theorem dX9_init_63 : decode cX9_init 63 = .ok (.dup, 1) := by decide +kernel
theorem dX9_init_64 : decode cX9_init 64 = .ok (.invokespecial 38, 3) := by decide +kernel
theorem dX9_init_67 : decode cX9_init 67 = .ok (.putfield 39, 3) := by decide +kernel
theorem dX9_init_70 : decode cX9_init 70 = .ok (.aload_n 0, 1) := by decide +kernel
theorem dX9_init_71 : decode cX9_init 71 = .ok (.iconst 4, 1) := by decide +kernel
theorem dX9_init_72 : decode cX9_init 72 = .ok (.anewarray 43, 3) := by decide +kernel
theorem dX9_init_75 : decode cX9_init 75 = .ok (.putfield 45, 3) := by decide +kernel
theorem dX9_init_78 : decode cX9_init 78 = .ok (.aload_n 0, 1) := by decide +kernel
theorem dX9_init_79 : decode cX9_init 79 = .ok (.bipush 7, 2) := by decide +kernel
theorem dX9_init_81 : decode cX9_init 81 = .ok (.newarray .int, 2) := by decide +kernel
theorem dX9_init_83 : decode cX9_init 83 = .ok (.putfield 49, 3) := by decide +kernel
theorem dX9_init_86 : decode cX9_init 86 = .ok (.iconst 0, 1) := by decide +kernel
theorem dX9_init_87 : decode cX9_init 87 = .ok (.istore_n 1, 1) := by decide +kernel
theorem dX9_init_88 : decode cX9_init 88 = .ok (.iload_n 1, 1) := by decide +kernel
theorem dX9_init_89 : decode cX9_init 89 = .ok (.iconst 4, 1) := by decide +kernel
theorem dX9_init_90 : decode cX9_init 90 = .ok (.if_icmp .ge 22, 3) := by decide +kernel
theorem dX9_init_93 : decode cX9_init 93 = .ok (.aload_n 0, 1) := by decide +kernel
theorem dX9_init_94 : decode cX9_init 94 = .ok (.getfield 45, 3) := by decide +kernel
theorem dX9_init_97 : decode cX9_init 97 = .ok (.iload_n 1, 1) := by decide +kernel
theorem dX9_init_98 : decode cX9_init 98 = .ok (.new 43, 3) := by decide +kernel
theorem dX9_init_101 : decode cX9_init 101 = .ok (.dup, 1) := by decide +kernel
theorem dX9_init_102 : decode cX9_init 102 = .ok (.invokespecial 53, 3) := by decide +kernel
theorem dX9_init_105 : decode cX9_init 105 = .ok (.aastore, 1) := by decide +kernel
theorem dX9_init_106 : decode cX9_init 106 = .ok (.iinc 1 1, 3) := by decide +kernel
theorem dX9_init_109 : decode cX9_init 109 = .ok (.goto (-21), 3) := by decide +kernel
theorem dX9_init_112 : decode cX9_init 112 = .ok (.return_, 1) := by decide +kernel
theorem dX9_child_0 : decode cX9_child 0 = .ok (.iload_n 1, 1) := by decide +kernel
theorem dX9_child_1 : decode cX9_child 1 = .ok (.iconst 0, 1) := by decide +kernel
theorem dX9_child_2 : decode cX9_child 2 = .ok (.sipush 699, 3) := by decide +kernel
theorem dX9_child_5 : decode cX9_child 5 = .ok (.invokestatic 54, 3) := by decide +kernel
theorem dX9_child_8 : decode cX9_child 8 = .ok (.ifCond .ne 22, 3) := by decide +kernel
theorem dX9_child_11 : decode cX9_child 11 = .ok (.iload_n 2, 1) := by decide +kernel
theorem dX9_child_12 : decode cX9_child 12 = .ok (.iconst 0, 1) := by decide +kernel
theorem dX9_child_13 : decode cX9_child 13 = .ok (.bipush 99, 2) := by decide +kernel
theorem dX9_child_15 : decode cX9_child 15 = .ok (.invokestatic 54, 3) := by decide +kernel
theorem dX9_child_18 : decode cX9_child 18 = .ok (.ifCond .ne 12, 3) := by decide +kernel
theorem dX9_child_21 : decode cX9_child 21 = .ok (.iload_n 3, 1) := by decide +kernel
theorem dX9_child_22 : decode cX9_child 22 = .ok (.iconst 0, 1) := by decide +kernel
theorem dX9_child_23 : decode cX9_child 23 = .ok (.iconst 1, 1) := by decide +kernel
theorem dX9_child_24 : decode cX9_child 24 = .ok (.invokestatic 54, 3) := by decide +kernel
theorem dX9_child_27 : decode cX9_child 27 = .ok (.ifCond .eq 9, 3) := by decide +kernel
theorem dX9_child_30 : decode cX9_child 30 = .ok (.aload_n 0, 1) := by decide +kernel
theorem dX9_child_31 : decode cX9_child 31 = .ok (.iconst 1, 1) := by decide +kernel
theorem dX9_child_32 : decode cX9_child 32 = .ok (.invokevirtual 58, 3) := by decide +kernel
theorem dX9_child_35 : decode cX9_child 35 = .ok (.ireturn, 1) := by decide +kernel
theorem dX9_child_36 : decode cX9_child 36 = .ok (.aload_n 0, 1) := by decide +kernel
theorem dX9_child_37 : decode cX9_child 37 = .ok (.getfield 10, 3) := by decide +kernel
theorem dX9_child_40 : decode cX9_child 40 = .ok (.getfield 62, 3) := by decide +kernel
theorem dX9_child_43 : decode cX9_child 43 = .ok (.bipush 10, 2) := by decide +kernel
