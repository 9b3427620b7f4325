theorem dX9_child_45 : decode cX9_child 45 = .ok (.if_icmp .lt 9, 3) := by decide +kernel
theorem dX9_child_48 : decode cX9_child 48 = .ok (.aload_n 0, 1) := by decide +kernel
theorem dX9_child_49 : decode cX9_child 49 = .ok (.iconst 4, 1) := by decide +kernel
theorem dX9_child_50 : decode cX9_child 50 = .ok (.invokevirtual 58, 3) := by decide +kernel
theorem dX9_child_53 : decode cX9_child 53 = .ok (.ireturn, 1) := by decide +kernel
theorem dX9_child_54 : decode cX9_child 54 = .ok (.aload_n 0, 1) := by decide +kernel
theorem dX9_child_55 : decode cX9_child 55 = .ok (.getfield 10, 3) := by decide +kernel
theorem dX9_child_58 : decode cX9_child 58 = .ok (.getfield 66, 3) := by decide +kernel
theorem dX9_child_61 : decode cX9_child 61 = .ok (.aload_n 0, 1) := by decide +kernel
theorem dX9_child_62 : decode cX9_child 62 = .ok (.getfield 10, 3) := by decide +kernel
theorem dX9_child_65 : decode cX9_child 65 = .ok (.getfield 62, 3) := by decide +kernel
theorem dX9_child_68 : decode cX9_child 68 = .ok (.aaload, 1) := by decide +kernel
theorem dX9_child_69 : decode cX9_child 69 = .ok (.astore 4, 2) := by decide +kernel
theorem dX9_child_71 : decode cX9_child 71 = .ok (.aload 4, 2) := by decide +kernel
theorem dX9_child_73 : decode cX9_child 73 = .ok (.iload_n 1, 1) := by decide +kernel
theorem dX9_child_74 : decode cX9_child 74 = .ok (.bipush 100, 2) := by decide +kernel
theorem dX9_child_76 : decode cX9_child 76 = .ok (.idiv, 1) := by decide +kernel
theorem dX9_child_77 : decode cX9_child 77 = .ok (.putfield 70, 3) := by decide +kernel
theorem dX9_child_80 : decode cX9_child 80 = .ok (.aload 4, 2) := by decide +kernel
theorem dX9_child_82 : decode cX9_child 82 = .ok (.iload_n 1, 1) := by decide +kernel
theorem dX9_child_83 : decode cX9_child 83 = .ok (.bipush 100, 2) := by decide +kernel
theorem dX9_child_85 : decode cX9_child 85 = .ok (.irem, 1) := by decide +kernel
theorem dX9_child_86 : decode cX9_child 86 = .ok (.putfield 75, 3) := by decide +kernel
theorem dX9_child_89 : decode cX9_child 89 = .ok (.aload 4, 2) := by decide +kernel
theorem dX9_child_91 : decode cX9_child 91 = .ok (.iload_n 2, 1) := by decide +kernel
theorem dX9_child_92 : decode cX9_child 92 = .ok (.putfield 78, 3) := by decide +kernel
theorem dX9_child_95 : decode cX9_child 95 = .ok (.aload 4, 2) := by decide +kernel
theorem dX9_child_97 : decode cX9_child 97 = .ok (.iload_n 3, 1) := by decide +kernel
theorem dX9_child_98 : decode cX9_child 98 = .ok (.putfield 81, 3) := by decide +kernel
theorem dX9_child_101 : decode cX9_child 101 = .ok (.aload_n 0, 1) := by decide +kernel
theorem dX9_child_102 : decode cX9_child 102 = .ok (.getfield 10, 3) := by decide +kernel
theorem dX9_child_105 : decode cX9_child 105 = .ok (.dup, 1) := by decide +kernel
theorem dX9_child_106 : decode cX9_child 106 = .ok (.getfield 62, 3) := by decide +kernel
theorem dX9_child_109 : decode cX9_child 109 = .ok (.iconst 1, 1) := by decide +kernel
theorem dX9_child_110 : decode cX9_child 110 = .ok (.iadd, 1) := by decide +kernel
theorem dX9_child_111 : decode cX9_child 111 = .ok (.putfield 62, 3) := by decide +kernel
theorem dX9_child_114 : decode cX9_child 114 = .ok (.aload_n 0, 1) := by decide +kernel
theorem dX9_child_115 : decode cX9_child 115 = .ok (.getfield 10, 3) := by decide +kernel
theorem dX9_child_118 : decode cX9_child 118 = .ok (.getfield 62, 3) := by decide +kernel
theorem dX9_child_121 : decode cX9_child 121 = .ok (.iconst 1, 1) := by decide +kernel
theorem dX9_child_122 : decode cX9_child 122 = .ok (.isub, 1) := by decide +kernel
theorem dX9_child_123 : decode cX9_child 123 = .ok (.ireturn, 1) := by decide +kernel
theorem dX9_childIs_0 : decode cX9_childIs 0 = .ok (.aload_n 0, 1) := by decide +kernel
theorem dX9_childIs_1 : decode cX9_childIs 1 = .ok (.iload_n 1, 1) := by decide +kernel
theorem dX9_childIs_2 : decode cX9_childIs 2 = .ok (.invokevirtual 84, 3) := by decide +kernel
theorem dX9_childIs_5 : decode cX9_childIs 5 = .ok (.ifCond .ne 13, 3) := by decide +kernel
theorem dX9_childIs_8 : decode cX9_childIs 8 = .ok (.iload_n 2, 1) := by decide +kernel
theorem dX9_childIs_9 : decode cX9_childIs 9 = .ok (.iconst 0, 1) := by decide +kernel
theorem dX9_childIs_10 : decode cX9_childIs 10 = .ok (.bipush 7, 2) := by decide +kernel
theorem dX9_childIs_12 : decode cX9_childIs 12 = .ok (.invokestatic 54, 3) := by decide +kernel
theorem dX9_childIs_15 : decode cX9_childIs 15 = .ok (.ifCond .eq 9, 3) := by decide +kernel
theorem dX9_childIs_18 : decode cX9_childIs 18 = .ok (.aload_n 0, 1) := by decide +kernel
theorem dX9_childIs_19 : decode cX9_childIs 19 = .ok (.iconst 1, 1) := by decide +kernel
theorem dX9_childIs_20 : decode cX9_childIs 20 = .ok (.invokevirtual 58, 3) := by decide +kernel
theorem dX9_childIs_23 : decode cX9_childIs 23 = .ok (.ireturn, 1) := by decide +kernel
theorem dX9_childIs_24 : decode cX9_childIs 24 = .ok (.aload_n 0, 1) := by decide +kernel
theorem dX9_childIs_25 : decode cX9_childIs 25 = .ok (.aload_n 0, 1) := by decide +kernel
theorem dX9_childIs_26 : decode cX9_childIs 26 = .ok (.getfield 10, 3) := by decide +kernel
theorem dX9_childIs_29 : decode cX9_childIs 29 = .ok (.iload_n 1, 1) := by decide +kernel
theorem dX9_childIs_30 : decode cX9_childIs 30 = .ok (.iload_n 2, 1) := by decide +kernel
theorem dX9_childIs_31 : decode cX9_childIs 31 = .ok (.invokevirtual 88, 3) := by decide +kernel
theorem dX9_childIs_34 : decode cX9_childIs 34 = .ok (.ireturn, 1) := by decide +kernel
theorem dX9_as_0 : decode cX9_as 0 = .ok (.aload_n 0, 1) := by decide +kernel
theorem dX9_as_1 : decode cX9_as 1 = .ok (.iload_n 1, 1) := by decide +kernel
theorem dX9_as_2 : decode cX9_as 2 = .ok (.invokevirtual 84, 3) := by decide +kernel
theorem dX9_as_5 : decode cX9_as 5 = .ok (.ifCond .ne 13, 3) := by decide +kernel
theorem dX9_as_8 : decode cX9_as 8 = .ok (.iload_n 2, 1) := by decide +kernel
theorem dX9_as_9 : decode cX9_as 9 = .ok (.iconst 0, 1) := by decide +kernel
theorem dX9_as_10 : decode cX9_as 10 = .ok (.bipush 6, 2) := by decide +kernel
theorem dX9_as_12 : decode cX9_as 12 = .ok (.invokestatic 54, 3) := by decide +kernel
theorem dX9_as_15 : decode cX9_as 15 = .ok (.ifCond .eq 9, 3) := by decide +kernel
theorem dX9_as_18 : decode cX9_as 18 = .ok (.aload_n 0, 1) := by decide +kernel
theorem dX9_as_19 : decode cX9_as 19 = .ok (.iconst 1, 1) := by decide +kernel
theorem dX9_as_20 : decode cX9_as 20 = .ok (.invokevirtual 58, 3) := by decide +kernel
theorem dX9_as_23 : decode cX9_as 23 = .ok (.ireturn, 1) := by decide +kernel
theorem dX9_as_24 : decode cX9_as 24 = .ok (.aload_n 0, 1) := by decide +kernel
theorem dX9_as_25 : decode cX9_as 25 = .ok (.getfield 10, 3) := by decide +kernel
theorem dX9_as_28 : decode cX9_as 28 = .ok (.getfield 66, 3) := by decide +kernel
theorem dX9_as_31 : decode cX9_as 31 = .ok (.iload_n 1, 1) := by decide +kernel
theorem dX9_as_32 : decode cX9_as 32 = .ok (.aaload, 1) := by decide +kernel
theorem dX9_as_33 : decode cX9_as 33 = .ok (.astore_n 3, 1) := by decide +kernel
theorem dX9_as_34 : decode cX9_as 34 = .ok (.aload_n 3, 1) := by decide +kernel
theorem dX9_as_35 : decode cX9_as 35 = .ok (.getfield 70, 3) := by decide +kernel
theorem dX9_as_38 : decode cX9_as 38 = .ok (.istore 4, 2) := by decide +kernel
theorem dX9_as_40 : decode cX9_as 40 = .ok (.iconst 0, 1) := by decide +kernel
theorem dX9_as_41 : decode cX9_as 41 = .ok (.istore 5, 2) := by decide +kernel
theorem dX9_as_43 : decode cX9_as 43 = .ok (.iload 5, 2) := by decide +kernel
theorem dX9_as_45 : decode cX9_as 45 = .ok (.bipush 7, 2) := by decide +kernel
theorem dX9_as_47 : decode cX9_as 47 = .ok (.if_icmp .ge 28, 3) := by decide +kernel
theorem dX9_as_50 : decode cX9_as 50 = .ok (.iload 4, 2) := by decide +kernel
theorem dX9_as_52 : decode cX9_as 52 = .ok (.iload_n 2, 1) := by decide +kernel
theorem dX9_as_53 : decode cX9_as 53 = .ok (.if_icmp .eq 22, 3) := by decide +kernel
theorem dX9_as_56 : decode cX9_as 56 = .ok (.iload 4, 2) := by decide +kernel
theorem dX9_as_58 : decode cX9_as 58 = .ok (.ifCond .eq 17, 3) := by decide +kernel
theorem dX9_as_61 : decode cX9_as 61 = .ok (.getstatic 92, 3) := by decide +kernel
theorem dX9_as_64 : decode cX9_as 64 = .ok (.iload 4, 2) := by decide +kernel
theorem dX9_as_66 : decode cX9_as 66 = .ok (.iaload, 1) := by decide +kernel
theorem dX9_as_67 : decode cX9_as 67 = .ok (.istore 4, 2) := by decide +kernel
theorem dX9_as_69 : decode cX9_as 69 = .ok (.iinc 5 1, 3) := by decide +kernel
theorem dX9_as_72 : decode cX9_as 72 = .ok (.goto (-29), 3) := by decide +kernel
theorem dX9_as_75 : decode cX9_as 75 = .ok (.iload 4, 2) := by decide +kernel
theorem dX9_as_77 : decode cX9_as 77 = .ok (.iload_n 2, 1) := by decide +kernel
theorem dX9_as_78 : decode cX9_as 78 = .ok (.if_icmp .ne 10, 3) := by decide +kernel
theorem dX9_as_81 : decode cX9_as 81 = .ok (.aload_n 3, 1) := by decide +kernel
theorem dX9_as_82 : decode cX9_as 82 = .ok (.getfield 75, 3) := by decide +kernel
theorem dX9_as_85 : decode cX9_as 85 = .ok (.goto 8, 3) := by decide +kernel
theorem dX9_as_88 : decode cX9_as 88 = .ok (.aload_n 0, 1) := by decide +kernel
theorem dX9_as_89 : decode cX9_as 89 = .ok (.iconst 5, 1) := by decide +kernel
theorem dX9_as_90 : decode cX9_as 90 = .ok (.invokevirtual 58, 3) := by decide +kernel
theorem dX9_as_93 : decode cX9_as 93 = .ok (.ireturn, 1) := by decide +kernel
theorem dX9_set_0 : decode cX9_set 0 = .ok (.aload_n 0, 1) := by decide +kernel
theorem dX9_set_1 : decode cX9_set 1 = .ok (.iload_n 1, 1) := by decide +kernel
theorem dX9_set_2 : decode cX9_set 2 = .ok (.invokevirtual 84, 3) := by decide +kernel
theorem dX9_set_5 : decode cX9_set 5 = .ok (.ifCond .ne 24, 3) := by decide +kernel
theorem dX9_set_8 : decode cX9_set 8 = .ok (.iload_n 2, 1) := by decide +kernel
theorem dX9_set_9 : decode cX9_set 9 = .ok (.iconst 0, 1) := by decide +kernel
theorem dX9_set_10 : decode cX9_set 10 = .ok (.iconst 3, 1) := by decide +kernel
theorem dX9_set_11 : decode cX9_set 11 = .ok (.invokestatic 54, 3) := by decide +kernel
theorem dX9_set_14 : decode cX9_set 14 = .ok (.ifCond .ne 15, 3) := by decide +kernel
theorem dX9_set_17 : decode cX9_set 17 = .ok (.iload_n 3, 1) := by decide +kernel
theorem dX9_set_18 : decode cX9_set 18 = .ok (.iconst 0, 1) := by decide +kernel
theorem dX9_set_19 : decode cX9_set 19 = .ok (.iload_n 2, 1) := by decide +kernel
theorem dX9_set_20 : decode cX9_set 20 = .ok (.invokestatic 95, 3) := by decide +kernel
theorem dX9_set_23 : decode cX9_set 23 = .ok (.invokestatic 54, 3) := by decide +kernel
theorem dX9_set_26 : decode cX9_set 26 = .ok (.ifCond .eq 9, 3) := by decide +kernel
theorem dX9_set_29 : decode cX9_set 29 = .ok (.aload_n 0, 1) := by decide +kernel
theorem dX9_set_30 : decode cX9_set 30 = .ok (.iconst 1, 1) := by decide +kernel
theorem dX9_set_31 : decode cX9_set 31 = .ok (.invokevirtual 58, 3) := by decide +kernel
theorem dX9_set_34 : decode cX9_set 34 = .ok (.ireturn, 1) := by decide +kernel
theorem dX9_set_35 : decode cX9_set 35 = .ok (.aload_n 0, 1) := by decide +kernel
theorem dX9_set_36 : decode cX9_set 36 = .ok (.getfield 10, 3) := by decide +kernel
theorem dX9_set_39 : decode cX9_set 39 = .ok (.getfield 66, 3) := by decide +kernel
theorem dX9_set_42 : decode cX9_set 42 = .ok (.iload_n 1, 1) := by decide +kernel
theorem dX9_set_43 : decode cX9_set 43 = .ok (.aaload, 1) := by decide +kernel
theorem dX9_set_44 : decode cX9_set 44 = .ok (.astore 4, 2) := by decide +kernel
theorem dX9_set_46 : decode cX9_set 46 = .ok (.aload_n 0, 1) := by decide +kernel
theorem dX9_set_47 : decode cX9_set 47 = .ok (.aload_n 0, 1) := by decide +kernel
theorem dX9_set_48 : decode cX9_set 48 = .ok (.getfield 10, 3) := by decide +kernel
theorem dX9_set_51 : decode cX9_set 51 = .ok (.iload_n 1, 1) := by decide +kernel
theorem dX9_set_52 : decode cX9_set 52 = .ok (.iload_n 2, 1) := by decide +kernel
theorem dX9_set_53 : decode cX9_set 53 = .ok (.invokevirtual 88, 3) := by decide +kernel
theorem dX9_set_56 : decode cX9_set 56 = .ok (.istore 5, 2) := by decide +kernel
theorem dX9_set_58 : decode cX9_set 58 = .ok (.iload_n 2, 1) := by decide +kernel
theorem dX9_set_59 : decode cX9_set 59 = .ok (.tableswitch 52 0 2 #[25, 34, 43], 25) := by decide +kernel
theorem dX9_set_84 : decode cX9_set 84 = .ok (.aload 4, 2) := by decide +kernel
theorem dX9_set_86 : decode cX9_set 86 = .ok (.iload_n 3, 1) := by decide +kernel
theorem dX9_set_87 : decode cX9_set 87 = .ok (.putfield 70, 3) := by decide +kernel
theorem dX9_set_90 : decode cX9_set 90 = .ok (.goto 27, 3) := by decide +kernel
theorem dX9_set_93 : decode cX9_set 93 = .ok (.aload 4, 2) := by decide +kernel
theorem dX9_set_95 : decode cX9_set 95 = .ok (.iload_n 3, 1) := by decide +kernel
theorem dX9_set_96 : decode cX9_set 96 = .ok (.putfield 75, 3) := by decide +kernel
theorem dX9_set_99 : decode cX9_set 99 = .ok (.goto 18, 3) := by decide +kernel
theorem dX9_set_102 : decode cX9_set 102 = .ok (.aload 4, 2) := by decide +kernel
theorem dX9_set_104 : decode cX9_set 104 = .ok (.iload_n 3, 1) := by decide +kernel
theorem dX9_set_105 : decode cX9_set 105 = .ok (.putfield 78, 3) := by decide +kernel
theorem dX9_set_108 : decode cX9_set 108 = .ok (.goto 9, 3) := by decide +kernel
theorem dX9_set_111 : decode cX9_set 111 = .ok (.aload 4, 2) := by decide +kernel
theorem dX9_set_113 : decode cX9_set 113 = .ok (.iload_n 3, 1) := by decide +kernel
theorem dX9_set_114 : decode cX9_set 114 = .ok (.putfield 81, 3) := by decide +kernel
theorem dX9_set_117 : decode cX9_set 117 = .ok (.iload 5, 2) := by decide +kernel
theorem dX9_set_119 : decode cX9_set 119 = .ok (.ireturn, 1) := by decide +kernel
theorem dX9_likes_0 : decode cX9_likes 0 = .ok (.aload_n 0, 1) := by decide +kernel
theorem dX9_likes_1 : decode cX9_likes 1 = .ok (.iload_n 1, 1) := by decide +kernel
theorem dX9_likes_2 : decode cX9_likes 2 = .ok (.invokevirtual 84, 3) := by decide +kernel
theorem dX9_likes_5 : decode cX9_likes 5 = .ok (.ifCond .ne 26, 3) := by decide +kernel
theorem dX9_likes_8 : decode cX9_likes 8 = .ok (.aload_n 0, 1) := by decide +kernel
theorem dX9_likes_9 : decode cX9_likes 9 = .ok (.iload_n 2, 1) := by decide +kernel
theorem dX9_likes_10 : decode cX9_likes 10 = .ok (.invokevirtual 84, 3) := by decide +kernel
theorem dX9_likes_13 : decode cX9_likes 13 = .ok (.ifCond .ne 18, 3) := by decide +kernel
theorem dX9_likes_16 : decode cX9_likes 16 = .ok (.iload_n 1, 1) := by decide +kernel
theorem dX9_likes_17 : decode cX9_likes 17 = .ok (.iload_n 2, 1) := by decide +kernel
theorem dX9_likes_18 : decode cX9_likes 18 = .ok (.if_icmp .eq 13, 3) := by decide +kernel
theorem dX9_likes_21 : decode cX9_likes 21 = .ok (.iload_n 3, 1) := by decide +kernel
theorem dX9_likes_22 : decode cX9_likes 22 = .ok (.iconst 0, 1) := by decide +kernel
theorem dX9_likes_23 : decode cX9_likes 23 = .ok (.bipush 99, 2) := by decide +kernel
theorem dX9_likes_25 : decode cX9_likes 25 = .ok (.invokestatic 54, 3) := by decide +kernel
theorem dX9_likes_28 : decode cX9_likes 28 = .ok (.ifCond .eq 9, 3) := by decide +kernel
theorem dX9_likes_31 : decode cX9_likes 31 = .ok (.aload_n 0, 1) := by decide +kernel
theorem dX9_likes_32 : decode cX9_likes 32 = .ok (.iconst 1, 1) := by decide +kernel
theorem dX9_likes_33 : decode cX9_likes 33 = .ok (.invokevirtual 58, 3) := by decide +kernel
theorem dX9_likes_36 : decode cX9_likes 36 = .ok (.ireturn, 1) := by decide +kernel
theorem dX9_likes_37 : decode cX9_likes 37 = .ok (.aload_n 0, 1) := by decide +kernel
theorem dX9_likes_38 : decode cX9_likes 38 = .ok (.getfield 10, 3) := by decide +kernel
theorem dX9_likes_41 : decode cX9_likes 41 = .ok (.getfield 66, 3) := by decide +kernel
theorem dX9_likes_44 : decode cX9_likes 44 = .ok (.iload_n 1, 1) := by decide +kernel
theorem dX9_likes_45 : decode cX9_likes 45 = .ok (.aaload, 1) := by decide +kernel
theorem dX9_likes_46 : decode cX9_likes 46 = .ok (.getfield 98, 3) := by decide +kernel
theorem dX9_likes_49 : decode cX9_likes 49 = .ok (.iload_n 2, 1) := by decide +kernel
theorem dX9_likes_50 : decode cX9_likes 50 = .ok (.iaload, 1) := by decide +kernel
theorem dX9_likes_51 : decode cX9_likes 51 = .ok (.istore 4, 2) := by decide +kernel
theorem dX9_likes_53 : decode cX9_likes 53 = .ok (.aload_n 0, 1) := by decide +kernel
theorem dX9_likes_54 : decode cX9_likes 54 = .ok (.getfield 10, 3) := by decide +kernel
theorem dX9_likes_57 : decode cX9_likes 57 = .ok (.getfield 66, 3) := by decide +kernel
theorem dX9_likes_60 : decode cX9_likes 60 = .ok (.iload_n 1, 1) := by decide +kernel
theorem dX9_likes_61 : decode cX9_likes 61 = .ok (.aaload, 1) := by decide +kernel
theorem dX9_likes_62 : decode cX9_likes 62 = .ok (.getfield 98, 3) := by decide +kernel
theorem dX9_likes_65 : decode cX9_likes 65 = .ok (.iload_n 2, 1) := by decide +kernel
theorem dX9_likes_66 : decode cX9_likes 66 = .ok (.iload_n 3, 1) := by decide +kernel
theorem dX9_likes_67 : decode cX9_likes 67 = .ok (.iastore, 1) := by decide +kernel
theorem dX9_likes_68 : decode cX9_likes 68 = .ok (.iload 4, 2) := by decide +kernel
theorem dX9_likes_70 : decode cX9_likes 70 = .ok (.ireturn, 1) := by decide +kernel
theorem dX9_heap_0 : decode cX9_heap 0 = .ok (.iload_n 1, 1) := by decide +kernel
theorem dX9_heap_1 : decode cX9_heap 1 = .ok (.iconst 1, 1) := by decide +kernel
theorem dX9_heap_2 : decode cX9_heap 2 = .ok (.bipush 10, 2) := by decide +kernel
theorem dX9_heap_4 : decode cX9_heap 4 = .ok (.invokestatic 54, 3) := by decide +kernel
theorem dX9_heap_7 : decode cX9_heap 7 = .ok (.ifCond .ne 13, 3) := by decide +kernel
theorem dX9_heap_10 : decode cX9_heap 10 = .ok (.iload_n 2, 1) := by decide +kernel
theorem dX9_heap_11 : decode cX9_heap 11 = .ok (.iload_n 1, 1) := by decide +kernel
theorem dX9_heap_12 : decode cX9_heap 12 = .ok (.bipush 10, 2) := by decide +kernel
theorem dX9_heap_14 : decode cX9_heap 14 = .ok (.invokestatic 54, 3) := by decide +kernel
theorem dX9_heap_17 : decode cX9_heap 17 = .ok (.ifCond .eq 9, 3) := by decide +kernel
theorem dX9_heap_20 : decode cX9_heap 20 = .ok (.aload_n 0, 1) := by decide +kernel
theorem dX9_heap_21 : decode cX9_heap 21 = .ok (.iconst 1, 1) := by decide +kernel
theorem dX9_heap_22 : decode cX9_heap 22 = .ok (.invokevirtual 58, 3) := by decide +kernel
theorem dX9_heap_25 : decode cX9_heap 25 = .ok (.ireturn, 1) := by decide +kernel
theorem dX9_heap_26 : decode cX9_heap 26 = .ok (.aload_n 0, 1) := by decide +kernel
theorem dX9_heap_27 : decode cX9_heap 27 = .ok (.getfield 10, 3) := by decide +kernel
theorem dX9_heap_30 : decode cX9_heap 30 = .ok (.getfield 101, 3) := by decide +kernel
theorem dX9_heap_33 : decode cX9_heap 33 = .ok (.iconst 5, 1) := by decide +kernel
theorem dX9_heap_34 : decode cX9_heap 34 = .ok (.if_icmp .lt 9, 3) := by decide +kernel
theorem dX9_heap_37 : decode cX9_heap 37 = .ok (.aload_n 0, 1) := by decide +kernel
theorem dX9_heap_38 : decode cX9_heap 38 = .ok (.iconst 4, 1) := by decide +kernel
theorem dX9_heap_39 : decode cX9_heap 39 = .ok (.invokevirtual 58, 3) := by decide +kernel
theorem dX9_heap_42 : decode cX9_heap 42 = .ok (.ireturn, 1) := by decide +kernel
theorem dX9_heap_43 : decode cX9_heap 43 = .ok (.aload_n 0, 1) := by decide +kernel
theorem dX9_heap_44 : decode cX9_heap 44 = .ok (.getfield 10, 3) := by decide +kernel
theorem dX9_heap_47 : decode cX9_heap 47 = .ok (.getfield 104, 3) := by decide +kernel
theorem dX9_heap_50 : decode cX9_heap 50 = .ok (.aload_n 0, 1) := by decide +kernel
theorem dX9_heap_51 : decode cX9_heap 51 = .ok (.getfield 10, 3) := by decide +kernel
theorem dX9_heap_54 : decode cX9_heap 54 = .ok (.getfield 101, 3) := by decide +kernel
theorem dX9_heap_57 : decode cX9_heap 57 = .ok (.aaload, 1) := by decide +kernel
theorem dX9_heap_58 : decode cX9_heap 58 = .ok (.astore_n 3, 1) := by decide +kernel
theorem dX9_heap_59 : decode cX9_heap 59 = .ok (.aload_n 3, 1) := by decide +kernel
theorem dX9_heap_60 : decode cX9_heap 60 = .ok (.iload_n 1, 1) := by decide +kernel
theorem dX9_heap_61 : decode cX9_heap 61 = .ok (.putfield 108, 3) := by decide +kernel
theorem dX9_heap_64 : decode cX9_heap 64 = .ok (.aload_n 3, 1) := by decide +kernel
theorem dX9_heap_65 : decode cX9_heap 65 = .ok (.iload_n 2, 1) := by decide +kernel
theorem dX9_heap_66 : decode cX9_heap 66 = .ok (.putfield 113, 3) := by decide +kernel
theorem dX9_heap_69 : decode cX9_heap 69 = .ok (.aload_n 0, 1) := by decide +kernel
theorem dX9_heap_70 : decode cX9_heap 70 = .ok (.getfield 10, 3) := by decide +kernel
theorem dX9_heap_73 : decode cX9_heap 73 = .ok (.dup, 1) := by decide +kernel
theorem dX9_heap_74 : decode cX9_heap 74 = .ok (.getfield 101, 3) := by decide +kernel
theorem dX9_heap_77 : decode cX9_heap 77 = .ok (.iconst 1, 1) := by decide +kernel
theorem dX9_heap_78 : decode cX9_heap 78 = .ok (.iadd, 1) := by decide +kernel
theorem dX9_heap_79 : decode cX9_heap 79 = .ok (.putfield 101, 3) := by decide +kernel
theorem dX9_heap_82 : decode cX9_heap 82 = .ok (.aload_n 0, 1) := by decide +kernel
theorem dX9_heap_83 : decode cX9_heap 83 = .ok (.getfield 10, 3) := by decide +kernel
theorem dX9_heap_86 : decode cX9_heap 86 = .ok (.getfield 101, 3) := by decide +kernel
theorem dX9_heap_89 : decode cX9_heap 89 = .ok (.iconst 1, 1) := by decide +kernel
theorem dX9_heap_90 : decode cX9_heap 90 = .ok (.isub, 1) := by decide +kernel
theorem dX9_heap_91 : decode cX9_heap 91 = .ok (.ireturn, 1) := by decide +kernel
theorem dX9_heapIs_0 : decode cX9_heapIs 0 = .ok (.aload_n 0, 1) := by decide +kernel
theorem dX9_heapIs_1 : decode cX9_heapIs 1 = .ok (.iload_n 1, 1) := by decide +kernel
theorem dX9_heapIs_2 : decode cX9_heapIs 2 = .ok (.invokevirtual 116, 3) := by decide +kernel
theorem dX9_heapIs_5 : decode cX9_heapIs 5 = .ok (.ifCond .eq 9, 3) := by decide +kernel
theorem dX9_heapIs_8 : decode cX9_heapIs 8 = .ok (.aload_n 0, 1) := by decide +kernel
theorem dX9_heapIs_9 : decode cX9_heapIs 9 = .ok (.iconst 1, 1) := by decide +kernel
theorem dX9_heapIs_10 : decode cX9_heapIs 10 = .ok (.invokevirtual 58, 3) := by decide +kernel
theorem dX9_heapIs_13 : decode cX9_heapIs 13 = .ok (.ireturn, 1) := by decide +kernel
theorem dX9_heapIs_14 : decode cX9_heapIs 14 = .ok (.aload_n 0, 1) := by decide +kernel
theorem dX9_heapIs_15 : decode cX9_heapIs 15 = .ok (.getfield 10, 3) := by decide +kernel
theorem dX9_heapIs_18 : decode cX9_heapIs 18 = .ok (.getfield 104, 3) := by decide +kernel
theorem dX9_heapIs_21 : decode cX9_heapIs 21 = .ok (.iload_n 1, 1) := by decide +kernel
theorem dX9_heapIs_22 : decode cX9_heapIs 22 = .ok (.aaload, 1) := by decide +kernel
theorem dX9_heapIs_23 : decode cX9_heapIs 23 = .ok (.astore_n 3, 1) := by decide +kernel
theorem dX9_heapIs_24 : decode cX9_heapIs 24 = .ok (.iload_n 2, 1) := by decide +kernel
theorem dX9_heapIs_25 : decode cX9_heapIs 25 = .ok (.tableswitch 60 0 4 #[35, 40, 45, 50, 55], 35) := by decide +kernel
theorem dX9_heapIs_60 : decode cX9_heapIs 60 = .ok (.aload_n 3, 1) := by decide +kernel
theorem dX9_heapIs_61 : decode cX9_heapIs 61 = .ok (.getfield 108, 3) := by decide +kernel
theorem dX9_heapIs_64 : decode cX9_heapIs 64 = .ok (.ireturn, 1) := by decide +kernel
theorem dX9_heapIs_65 : decode cX9_heapIs 65 = .ok (.aload_n 3, 1) := by decide +kernel
theorem dX9_heapIs_66 : decode cX9_heapIs 66 = .ok (.getfield 113, 3) := by decide +kernel
theorem dX9_heapIs_69 : decode cX9_heapIs 69 = .ok (.ireturn, 1) := by decide +kernel
theorem dX9_heapIs_70 : decode cX9_heapIs 70 = .ok (.aload_n 3, 1) := by decide +kernel
theorem dX9_heapIs_71 : decode cX9_heapIs 71 = .ok (.getfield 119, 3) := by decide +kernel
theorem dX9_heapIs_74 : decode cX9_heapIs 74 = .ok (.ireturn, 1) := by decide +kernel
theorem dX9_heapIs_75 : decode cX9_heapIs 75 = .ok (.aload_n 3, 1) := by decide +kernel
theorem dX9_heapIs_76 : decode cX9_heapIs 76 = .ok (.getfield 122, 3) := by decide +kernel
theorem dX9_heapIs_79 : decode cX9_heapIs 79 = .ok (.ireturn, 1) := by decide +kernel
theorem dX9_heapIs_80 : decode cX9_heapIs 80 = .ok (.aload_n 3, 1) := by decide +kernel
theorem dX9_heapIs_81 : decode cX9_heapIs 81 = .ok (.getfield 125, 3) := by decide +kernel
theorem dX9_heapIs_84 : decode cX9_heapIs 84 = .ok (.ireturn, 1) := by decide +kernel
theorem dX9_heapIs_85 : decode cX9_heapIs 85 = .ok (.aload_n 0, 1) := by decide +kernel
theorem dX9_heapIs_86 : decode cX9_heapIs 86 = .ok (.iconst 1, 1) := by decide +kernel
theorem dX9_heapIs_87 : decode cX9_heapIs 87 = .ok (.invokevirtual 58, 3) := by decide +kernel
theorem dX9_heapIs_90 : decode cX9_heapIs 90 = .ok (.ireturn, 1) := by decide +kernel
theorem dX9_rule_0 : decode cX9_rule 0 = .ok (.aload_n 0, 1) := by decide +kernel
theorem dX9_rule_1 : decode cX9_rule 1 = .ok (.iload_n 1, 1) := by decide +kernel
theorem dX9_rule_2 : decode cX9_rule 2 = .ok (.invokevirtual 116, 3) := by decide +kernel
theorem dX9_rule_5 : decode cX9_rule 5 = .ok (.ifCond .ne 13, 3) := by decide +kernel
theorem dX9_rule_8 : decode cX9_rule 8 = .ok (.iload_n 2, 1) := by decide +kernel
theorem dX9_rule_9 : decode cX9_rule 9 = .ok (.iconst 0, 1) := by decide +kernel
theorem dX9_rule_10 : decode cX9_rule 10 = .ok (.bipush 99, 2) := by decide +kernel
theorem dX9_rule_12 : decode cX9_rule 12 = .ok (.invokestatic 54, 3) := by decide +kernel
theorem dX9_rule_15 : decode cX9_rule 15 = .ok (.ifCond .eq 9, 3) := by decide +kernel
theorem dX9_rule_18 : decode cX9_rule 18 = .ok (.aload_n 0, 1) := by decide +kernel
theorem dX9_rule_19 : decode cX9_rule 19 = .ok (.iconst 1, 1) := by decide +kernel
theorem dX9_rule_20 : decode cX9_rule 20 = .ok (.invokevirtual 58, 3) := by decide +kernel
theorem dX9_rule_23 : decode cX9_rule 23 = .ok (.ireturn, 1) := by decide +kernel
theorem dX9_rule_24 : decode cX9_rule 24 = .ok (.aload_n 0, 1) := by decide +kernel
theorem dX9_rule_25 : decode cX9_rule 25 = .ok (.getfield 10, 3) := by decide +kernel
theorem dX9_rule_28 : decode cX9_rule 28 = .ok (.getfield 104, 3) := by decide +kernel
theorem dX9_rule_31 : decode cX9_rule 31 = .ok (.iload_n 1, 1) := by decide +kernel
theorem dX9_rule_32 : decode cX9_rule 32 = .ok (.aaload, 1) := by decide +kernel
theorem dX9_rule_33 : decode cX9_rule 33 = .ok (.getfield 119, 3) := by decide +kernel
theorem dX9_rule_36 : decode cX9_rule 36 = .ok (.istore_n 3, 1) := by decide +kernel
theorem dX9_rule_37 : decode cX9_rule 37 = .ok (.aload_n 0, 1) := by decide +kernel
theorem dX9_rule_38 : decode cX9_rule 38 = .ok (.getfield 10, 3) := by decide +kernel
theorem dX9_rule_41 : decode cX9_rule 41 = .ok (.getfield 104, 3) := by decide +kernel
theorem dX9_rule_44 : decode cX9_rule 44 = .ok (.iload_n 1, 1) := by decide +kernel
theorem dX9_rule_45 : decode cX9_rule 45 = .ok (.aaload, 1) := by decide +kernel
theorem dX9_rule_46 : decode cX9_rule 46 = .ok (.iload_n 2, 1) := by decide +kernel
theorem dX9_rule_47 : decode cX9_rule 47 = .ok (.putfield 119, 3) := by decide +kernel
theorem dX9_rule_50 : decode cX9_rule 50 = .ok (.iload_n 3, 1) := by decide +kernel
theorem dX9_rule_51 : decode cX9_rule 51 = .ok (.ireturn, 1) := by decide +kernel
theorem dX9_join_0 : decode cX9_join 0 = .ok (.aload_n 0, 1) := by decide +kernel
theorem dX9_join_1 : decode cX9_join 1 = .ok (.iload_n 1, 1) := by decide +kernel
theorem dX9_join_2 : decode cX9_join 2 = .ok (.invokevirtual 84, 3) := by decide +kernel
theorem dX9_join_5 : decode cX9_join 5 = .ok (.ifCond .ne 11, 3) := by decide +kernel
theorem dX9_join_8 : decode cX9_join 8 = .ok (.aload_n 0, 1) := by decide +kernel
theorem dX9_join_9 : decode cX9_join 9 = .ok (.iload_n 2, 1) := by decide +kernel
theorem dX9_join_10 : decode cX9_join 10 = .ok (.invokevirtual 116, 3) := by decide +kernel
theorem dX9_join_13 : decode cX9_join 13 = .ok (.ifCond .eq 9, 3) := by decide +kernel
theorem dX9_join_16 : decode cX9_join 16 = .ok (.aload_n 0, 1) := by decide +kernel
theorem dX9_join_17 : decode cX9_join 17 = .ok (.iconst 1, 1) := by decide +kernel
theorem dX9_join_18 : decode cX9_join 18 = .ok (.invokevirtual 58, 3) := by decide +kernel
theorem dX9_join_21 : decode cX9_join 21 = .ok (.ireturn, 1) := by decide +kernel
theorem dX9_join_22 : decode cX9_join 22 = .ok (.aload_n 0, 1) := by decide +kernel
theorem dX9_join_23 : decode cX9_join 23 = .ok (.getfield 10, 3) := by decide +kernel
theorem dX9_join_26 : decode cX9_join 26 = .ok (.getfield 66, 3) := by decide +kernel
theorem dX9_join_29 : decode cX9_join 29 = .ok (.iload_n 1, 1) := by decide +kernel
theorem dX9_join_30 : decode cX9_join 30 = .ok (.aaload, 1) := by decide +kernel
theorem dX9_join_31 : decode cX9_join 31 = .ok (.getfield 128, 3) := by decide +kernel
theorem dX9_join_34 : decode cX9_join 34 = .ok (.iload_n 2, 1) := by decide +kernel
theorem dX9_join_35 : decode cX9_join 35 = .ok (.if_icmp .ne 9, 3) := by decide +kernel
theorem dX9_join_38 : decode cX9_join 38 = .ok (.aload_n 0, 1) := by decide +kernel
theorem dX9_join_39 : decode cX9_join 39 = .ok (.iconst 3, 1) := by decide +kernel
theorem dX9_join_40 : decode cX9_join 40 = .ok (.invokevirtual 58, 3) := by decide +kernel
theorem dX9_join_43 : decode cX9_join 43 = .ok (.ireturn, 1) := by decide +kernel
theorem dX9_join_44 : decode cX9_join 44 = .ok (.aload_n 0, 1) := by decide +kernel
theorem dX9_join_45 : decode cX9_join 45 = .ok (.getfield 10, 3) := by decide +kernel
theorem dX9_join_48 : decode cX9_join 48 = .ok (.iload_n 1, 1) := by decide +kernel
theorem dX9_join_49 : decode cX9_join 49 = .ok (.iload_n 2, 1) := by decide +kernel
theorem dX9_join_50 : decode cX9_join 50 = .ok (.invokevirtual 131, 3) := by decide +kernel
theorem dX9_join_53 : decode cX9_join 53 = .ok (.aload_n 0, 1) := by decide +kernel
theorem dX9_join_54 : decode cX9_join 54 = .ok (.getfield 10, 3) := by decide +kernel
theorem dX9_join_57 : decode cX9_join 57 = .ok (.getfield 104, 3) := by decide +kernel
theorem dX9_join_60 : decode cX9_join 60 = .ok (.iload_n 2, 1) := by decide +kernel
theorem dX9_join_61 : decode cX9_join 61 = .ok (.aaload, 1) := by decide +kernel
theorem dX9_join_62 : decode cX9_join 62 = .ok (.invokevirtual 135, 3) := by decide +kernel
theorem dX9_join_65 : decode cX9_join 65 = .ok (.ireturn, 1) := by decide +kernel
theorem dX9_leave_0 : decode cX9_leave 0 = .ok (.aload_n 0, 1) := by decide +kernel
theorem dX9_leave_1 : decode cX9_leave 1 = .ok (.iload_n 1, 1) := by decide +kernel
theorem dX9_leave_2 : decode cX9_leave 2 = .ok (.invokevirtual 84, 3) := by decide +kernel
theorem dX9_leave_5 : decode cX9_leave 5 = .ok (.ifCond .eq 9, 3) := by decide +kernel
theorem dX9_leave_8 : decode cX9_leave 8 = .ok (.aload_n 0, 1) := by decide +kernel
theorem dX9_leave_9 : decode cX9_leave 9 = .ok (.iconst 1, 1) := by decide +kernel
theorem dX9_leave_10 : decode cX9_leave 10 = .ok (.invokevirtual 58, 3) := by decide +kernel
theorem dX9_leave_13 : decode cX9_leave 13 = .ok (.ireturn, 1) := by decide +kernel
theorem dX9_leave_14 : decode cX9_leave 14 = .ok (.aload_n 0, 1) := by decide +kernel
theorem dX9_leave_15 : decode cX9_leave 15 = .ok (.getfield 10, 3) := by decide +kernel
theorem dX9_leave_18 : decode cX9_leave 18 = .ok (.getfield 66, 3) := by decide +kernel
theorem dX9_leave_21 : decode cX9_leave 21 = .ok (.iload_n 1, 1) := by decide +kernel
theorem dX9_leave_22 : decode cX9_leave 22 = .ok (.aaload, 1) := by decide +kernel
theorem dX9_leave_23 : decode cX9_leave 23 = .ok (.getfield 128, 3) := by decide +kernel
theorem dX9_leave_26 : decode cX9_leave 26 = .ok (.istore_n 2, 1) := by decide +kernel
theorem dX9_leave_27 : decode cX9_leave 27 = .ok (.iload_n 2, 1) := by decide +kernel
theorem dX9_leave_28 : decode cX9_leave 28 = .ok (.iconst (-1), 1) := by decide +kernel
theorem dX9_leave_29 : decode cX9_leave 29 = .ok (.if_icmp .ne 9, 3) := by decide +kernel
theorem dX9_leave_32 : decode cX9_leave 32 = .ok (.aload_n 0, 1) := by decide +kernel
theorem dX9_leave_33 : decode cX9_leave 33 = .ok (.iconst 3, 1) := by decide +kernel
theorem dX9_leave_34 : decode cX9_leave 34 = .ok (.invokevirtual 58, 3) := by decide +kernel
theorem dX9_leave_37 : decode cX9_leave 37 = .ok (.ireturn, 1) := by decide +kernel
theorem dX9_leave_38 : decode cX9_leave 38 = .ok (.aload_n 0, 1) := by decide +kernel
theorem dX9_leave_39 : decode cX9_leave 39 = .ok (.getfield 10, 3) := by decide +kernel
theorem dX9_leave_42 : decode cX9_leave 42 = .ok (.iload_n 1, 1) := by decide +kernel
theorem dX9_leave_43 : decode cX9_leave 43 = .ok (.iconst (-1), 1) := by decide +kernel
theorem dX9_leave_44 : decode cX9_leave 44 = .ok (.invokevirtual 131, 3) := by decide +kernel
theorem dX9_leave_47 : decode cX9_leave 47 = .ok (.iload_n 2, 1) := by decide +kernel
theorem dX9_leave_48 : decode cX9_leave 48 = .ok (.ireturn, 1) := by decide +kernel
theorem dX9_between_0 : decode cX9_between 0 = .ok (.aload_n 0, 1) := by decide +kernel
theorem dX9_between_1 : decode cX9_between 1 = .ok (.iload_n 1, 1) := by decide +kernel
theorem dX9_between_2 : decode cX9_between 2 = .ok (.invokevirtual 84, 3) := by decide +kernel
theorem dX9_between_5 : decode cX9_between 5 = .ok (.ifCond .ne 11, 3) := by decide +kernel
theorem dX9_between_8 : decode cX9_between 8 = .ok (.aload_n 0, 1) := by decide +kernel
theorem dX9_between_9 : decode cX9_between 9 = .ok (.iload_n 2, 1) := by decide +kernel
theorem dX9_between_10 : decode cX9_between 10 = .ok (.invokevirtual 116, 3) := by decide +kernel
theorem dX9_between_13 : decode cX9_between 13 = .ok (.ifCond .eq 9, 3) := by decide +kernel
theorem dX9_between_16 : decode cX9_between 16 = .ok (.aload_n 0, 1) := by decide +kernel
theorem dX9_between_17 : decode cX9_between 17 = .ok (.iconst 1, 1) := by decide +kernel
theorem dX9_between_18 : decode cX9_between 18 = .ok (.invokevirtual 58, 3) := by decide +kernel
theorem dX9_between_21 : decode cX9_between 21 = .ok (.ireturn, 1) := by decide +kernel
theorem dX9_between_22 : decode cX9_between 22 = .ok (.iload_n 3, 1) := by decide +kernel
theorem dX9_between_23 : decode cX9_between 23 = .ok (.tableswitch 60 0 2 #[25, 35, 45], 25) := by decide +kernel
theorem dX9_between_48 : decode cX9_between 48 = .ok (.aload_n 0, 1) := by decide +kernel
theorem dX9_between_49 : decode cX9_between 49 = .ok (.getfield 10, 3) := by decide +kernel
theorem dX9_between_52 : decode cX9_between 52 = .ok (.iload_n 1, 1) := by decide +kernel
theorem dX9_between_53 : decode cX9_between 53 = .ok (.iload_n 2, 1) := by decide +kernel
theorem dX9_between_54 : decode cX9_between 54 = .ok (.invokevirtual 139, 3) := by decide +kernel
theorem dX9_between_57 : decode cX9_between 57 = .ok (.ireturn, 1) := by decide +kernel
theorem dX9_between_58 : decode cX9_between 58 = .ok (.aload_n 0, 1) := by decide +kernel
theorem dX9_between_59 : decode cX9_between 59 = .ok (.getfield 10, 3) := by decide +kernel
theorem dX9_between_62 : decode cX9_between 62 = .ok (.iload_n 1, 1) := by decide +kernel
theorem dX9_between_63 : decode cX9_between 63 = .ok (.iload_n 2, 1) := by decide +kernel
theorem dX9_between_64 : decode cX9_between 64 = .ok (.invokevirtual 143, 3) := by decide +kernel
theorem dX9_between_67 : decode cX9_between 67 = .ok (.ireturn, 1) := by decide +kernel
theorem dX9_between_68 : decode cX9_between 68 = .ok (.aload_n 0, 1) := by decide +kernel
theorem dX9_between_69 : decode cX9_between 69 = .ok (.getfield 10, 3) := by decide +kernel
theorem dX9_between_72 : decode cX9_between 72 = .ok (.getfield 66, 3) := by decide +kernel
theorem dX9_between_75 : decode cX9_between 75 = .ok (.iload_n 1, 1) := by decide +kernel
theorem dX9_between_76 : decode cX9_between 76 = .ok (.aaload, 1) := by decide +kernel
theorem dX9_between_77 : decode cX9_between 77 = .ok (.getfield 146, 3) := by decide +kernel
theorem dX9_between_80 : decode cX9_between 80 = .ok (.iload_n 2, 1) := by decide +kernel
theorem dX9_between_81 : decode cX9_between 81 = .ok (.iaload, 1) := by decide +kernel
theorem dX9_between_82 : decode cX9_between 82 = .ok (.ireturn, 1) := by decide +kernel
theorem dX9_between_83 : decode cX9_between 83 = .ok (.aload_n 0, 1) := by decide +kernel
theorem dX9_between_84 : decode cX9_between 84 = .ok (.iconst 1, 1) := by decide +kernel
theorem dX9_between_85 : decode cX9_between 85 = .ok (.invokevirtual 58, 3) := by decide +kernel
theorem dX9_between_88 : decode cX9_between 88 = .ok (.ireturn, 1) := by decide +kernel
theorem dX9_feed_0 : decode cX9_feed 0 = .ok (.iload_n 3, 1) := by decide +kernel
theorem dX9_feed_1 : decode cX9_feed 1 = .ok (.iconst 1, 1) := by decide +kernel
theorem dX9_feed_2 : decode cX9_feed 2 = .ok (.bipush 8, 2) := by decide +kernel
theorem dX9_feed_4 : decode cX9_feed 4 = .ok (.invokestatic 54, 3) := by decide +kernel
theorem dX9_feed_7 : decode cX9_feed 7 = .ok (.ifCond .eq 9, 3) := by decide +kernel
theorem dX9_feed_10 : decode cX9_feed 10 = .ok (.aload_n 0, 1) := by decide +kernel
theorem dX9_feed_11 : decode cX9_feed 11 = .ok (.iconst 1, 1) := by decide +kernel
theorem dX9_feed_12 : decode cX9_feed 12 = .ok (.invokevirtual 58, 3) := by decide +kernel
theorem dX9_feed_15 : decode cX9_feed 15 = .ok (.ireturn, 1) := by decide +kernel
theorem dX9_feed_16 : decode cX9_feed 16 = .ok (.aload_n 0, 1) := by decide +kernel
theorem dX9_feed_17 : decode cX9_feed 17 = .ok (.getfield 10, 3) := by decide +kernel
theorem dX9_feed_20 : decode cX9_feed 20 = .ok (.getfield 149, 3) := by decide +kernel
theorem dX9_feed_23 : decode cX9_feed 23 = .ok (.getfield 153, 3) := by decide +kernel
theorem dX9_feed_26 : decode cX9_feed 26 = .ok (.iload_n 3, 1) := by decide +kernel
theorem dX9_feed_27 : decode cX9_feed 27 = .ok (.iadd, 1) := by decide +kernel
theorem dX9_feed_28 : decode cX9_feed 28 = .ok (.bipush 60, 2) := by decide +kernel
theorem dX9_feed_30 : decode cX9_feed 30 = .ok (.if_icmp .le 9, 3) := by decide +kernel
theorem dX9_feed_33 : decode cX9_feed 33 = .ok (.aload_n 0, 1) := by decide +kernel
theorem dX9_feed_34 : decode cX9_feed 34 = .ok (.iconst 4, 1) := by decide +kernel
theorem dX9_feed_35 : decode cX9_feed 35 = .ok (.invokevirtual 58, 3) := by decide +kernel
theorem dX9_feed_38 : decode cX9_feed 38 = .ok (.ireturn, 1) := by decide +kernel
theorem dX9_feed_39 : decode cX9_feed 39 = .ok (.iconst 0, 1) := by decide +kernel
theorem dX9_feed_40 : decode cX9_feed 40 = .ok (.istore 4, 2) := by decide +kernel
theorem dX9_feed_42 : decode cX9_feed 42 = .ok (.iload 4, 2) := by decide +kernel
theorem dX9_feed_44 : decode cX9_feed 44 = .ok (.iload_n 3, 1) := by decide +kernel
theorem dX9_feed_45 : decode cX9_feed 45 = .ok (.if_icmp .ge 31, 3) := by decide +kernel
theorem dX9_feed_48 : decode cX9_feed 48 = .ok (.aload_n 0, 1) := by decide +kernel
theorem dX9_feed_49 : decode cX9_feed 49 = .ok (.getfield 10, 3) := by decide +kernel
theorem dX9_feed_52 : decode cX9_feed 52 = .ok (.getfield 149, 3) := by decide +kernel
theorem dX9_feed_55 : decode cX9_feed 55 = .ok (.lload_n 1, 1) := by decide +kernel
theorem dX9_feed_56 : decode cX9_feed 56 = .ok (.bipush 8, 2) := by decide +kernel
theorem dX9_feed_58 : decode cX9_feed 58 = .ok (.iload 4, 2) := by decide +kernel
theorem dX9_feed_60 : decode cX9_feed 60 = .ok (.imul, 1) := by decide +kernel
theorem dX9_feed_61 : decode cX9_feed 61 = .ok (.lushr, 1) := by decide +kernel
theorem dX9_feed_62 : decode cX9_feed 62 = .ok (.l2i, 1) := by decide +kernel
theorem dX9_feed_63 : decode cX9_feed 63 = .ok (.sipush 255, 3) := by decide +kernel
theorem dX9_feed_66 : decode cX9_feed 66 = .ok (.iand, 1) := by decide +kernel
theorem dX9_feed_67 : decode cX9_feed 67 = .ok (.invokevirtual 157, 3) := by decide +kernel
theorem dX9_feed_70 : decode cX9_feed 70 = .ok (.iinc 4 1, 3) := by decide +kernel
theorem dX9_feed_73 : decode cX9_feed 73 = .ok (.goto (-31), 3) := by decide +kernel
theorem dX9_feed_76 : decode cX9_feed 76 = .ok (.aload_n 0, 1) := by decide +kernel
theorem dX9_feed_77 : decode cX9_feed 77 = .ok (.getfield 10, 3) := by decide +kernel
theorem dX9_feed_80 : decode cX9_feed 80 = .ok (.getfield 149, 3) := by decide +kernel
theorem dX9_feed_83 : decode cX9_feed 83 = .ok (.getfield 153, 3) := by decide +kernel
theorem dX9_feed_86 : decode cX9_feed 86 = .ok (.ireturn, 1) := by decide +kernel
theorem dX9_text_0 : decode cX9_text 0 = .ok (.iload_n 1, 1) := by decide +kernel
theorem dX9_text_1 : decode cX9_text 1 = .ok (.iconst 0, 1) := by decide +kernel
theorem dX9_text_2 : decode cX9_text 2 = .ok (.iconst 1, 1) := by decide +kernel
theorem dX9_text_3 : decode cX9_text 3 = .ok (.invokestatic 54, 3) := by decide +kernel
theorem dX9_text_6 : decode cX9_text 6 = .ok (.ifCond .eq 9, 3) := by decide +kernel
theorem dX9_text_9 : decode cX9_text 9 = .ok (.aload_n 0, 1) := by decide +kernel
theorem dX9_text_10 : decode cX9_text 10 = .ok (.iconst 1, 1) := by decide +kernel
theorem dX9_text_11 : decode cX9_text 11 = .ok (.invokevirtual 58, 3) := by decide +kernel
theorem dX9_text_14 : decode cX9_text 14 = .ok (.ireturn, 1) := by decide +kernel
theorem dX9_text_15 : decode cX9_text 15 = .ok (.aload_n 0, 1) := by decide +kernel
theorem dX9_text_16 : decode cX9_text 16 = .ok (.getfield 32, 3) := by decide +kernel
theorem dX9_text_19 : decode cX9_text 19 = .ok (.aload_n 0, 1) := by decide +kernel
theorem dX9_text_20 : decode cX9_text 20 = .ok (.getfield 10, 3) := by decide +kernel
theorem dX9_text_23 : decode cX9_text 23 = .ok (.getfield 149, 3) := by decide +kernel
theorem dX9_text_26 : decode cX9_text 26 = .ok (.iload_n 1, 1) := by decide +kernel
theorem dX9_text_27 : decode cX9_text 27 = .ok (.ifCond .ne 8, 3) := by decide +kernel
theorem dX9_text_30 : decode cX9_text 30 = .ok (.ldc 161, 2) := by decide +kernel
theorem dX9_text_32 : decode cX9_text 32 = .ok (.goto 5, 3) := by decide +kernel
theorem dX9_text_35 : decode cX9_text 35 = .ok (.ldc 163, 2) := by decide +kernel
theorem dX9_text_37 : decode cX9_text 37 = .ok (.invokevirtual 165, 3) := by decide +kernel
theorem dX9_text_40 : decode cX9_text 40 = .ok (.istore_n 2, 1) := by decide +kernel
theorem dX9_text_41 : decode cX9_text 41 = .ok (.aload_n 0, 1) := by decide +kernel
theorem dX9_text_42 : decode cX9_text 42 = .ok (.getfield 10, 3) := by decide +kernel
theorem dX9_text_45 : decode cX9_text 45 = .ok (.getfield 149, 3) := by decide +kernel
theorem dX9_text_48 : decode cX9_text 48 = .ok (.iconst 0, 1) := by decide +kernel
theorem dX9_text_49 : decode cX9_text 49 = .ok (.putfield 153, 3) := by decide +kernel
theorem dX9_text_52 : decode cX9_text 52 = .ok (.iload_n 2, 1) := by decide +kernel
theorem dX9_text_53 : decode cX9_text 53 = .ok (.iconst (-1), 1) := by decide +kernel
theorem dX9_text_54 : decode cX9_text 54 = .ok (.if_icmp .eq 8, 3) := by decide +kernel
theorem dX9_text_57 : decode cX9_text 57 = .ok (.bipush (-10), 2) := by decide +kernel
theorem dX9_text_59 : decode cX9_text 59 = .ok (.iload_n 2, 1) := by decide +kernel
theorem dX9_text_60 : decode cX9_text 60 = .ok (.isub, 1) := by decide +kernel
theorem dX9_text_61 : decode cX9_text 61 = .ok (.ireturn, 1) := by decide +kernel
theorem dX9_text_62 : decode cX9_text 62 = .ok (.aload_n 0, 1) := by decide +kernel
theorem dX9_text_63 : decode cX9_text 63 = .ok (.getfield 10, 3) := by decide +kernel
theorem dX9_text_66 : decode cX9_text 66 = .ok (.getfield 169, 3) := by decide +kernel
theorem dX9_text_69 : decode cX9_text 69 = .ok (.iload_n 1, 1) := by decide +kernel
theorem dX9_text_70 : decode cX9_text 70 = .ok (.aaload, 1) := by decide +kernel
theorem dX9_text_71 : decode cX9_text 71 = .ok (.aload_n 0, 1) := by decide +kernel
theorem dX9_text_72 : decode cX9_text 72 = .ok (.getfield 32, 3) := by decide +kernel
theorem dX9_text_75 : decode cX9_text 75 = .ok (.getfield 173, 3) := by decide +kernel
theorem dX9_text_78 : decode cX9_text 78 = .ok (.invokevirtual 177, 3) := by decide +kernel
theorem dX9_text_81 : decode cX9_text 81 = .ok (.iconst 1, 1) := by decide +kernel
theorem dX9_text_82 : decode cX9_text 82 = .ok (.ireturn, 1) := by decide +kernel
theorem dX9_untell_0 : decode cX9_untell 0 = .ok (.iload_n 1, 1) := by decide +kernel
theorem dX9_untell_1 : decode cX9_untell 1 = .ok (.iconst 0, 1) := by decide +kernel
theorem dX9_untell_2 : decode cX9_untell 2 = .ok (.iconst 1, 1) := by decide +kernel
theorem dX9_untell_3 : decode cX9_untell 3 = .ok (.invokestatic 54, 3) := by decide +kernel
theorem dX9_untell_6 : decode cX9_untell 6 = .ok (.ifCond .eq 9, 3) := by decide +kernel
theorem dX9_untell_9 : decode cX9_untell 9 = .ok (.aload_n 0, 1) := by decide +kernel
theorem dX9_untell_10 : decode cX9_untell 10 = .ok (.iconst 1, 1) := by decide +kernel
theorem dX9_untell_11 : decode cX9_untell 11 = .ok (.invokevirtual 58, 3) := by decide +kernel
theorem dX9_untell_14 : decode cX9_untell 14 = .ok (.ireturn, 1) := by decide +kernel
theorem dX9_untell_15 : decode cX9_untell 15 = .ok (.aload_n 0, 1) := by decide +kernel
theorem dX9_untell_16 : decode cX9_untell 16 = .ok (.getfield 10, 3) := by decide +kernel
theorem dX9_untell_19 : decode cX9_untell 19 = .ok (.getfield 169, 3) := by decide +kernel
theorem dX9_untell_22 : decode cX9_untell 22 = .ok (.iload_n 1, 1) := by decide +kernel
theorem dX9_untell_23 : decode cX9_untell 23 = .ok (.aaload, 1) := by decide +kernel
theorem dX9_untell_24 : decode cX9_untell 24 = .ok (.invokevirtual 183, 3) := by decide +kernel
theorem dX9_untell_27 : decode cX9_untell 27 = .ok (.ifCond .eq 7, 3) := by decide +kernel
theorem dX9_untell_30 : decode cX9_untell 30 = .ok (.iconst 1, 1) := by decide +kernel
theorem dX9_untell_31 : decode cX9_untell 31 = .ok (.goto 4, 3) := by decide +kernel
theorem dX9_untell_34 : decode cX9_untell 34 = .ok (.iconst 0, 1) := by decide +kernel
theorem dX9_untell_35 : decode cX9_untell 35 = .ok (.istore_n 2, 1) := by decide +kernel
theorem dX9_untell_36 : decode cX9_untell 36 = .ok (.aload_n 0, 1) := by decide +kernel
theorem dX9_untell_37 : decode cX9_untell 37 = .ok (.getfield 10, 3) := by decide +kernel
theorem dX9_untell_40 : decode cX9_untell 40 = .ok (.getfield 169, 3) := by decide +kernel
theorem dX9_untell_43 : decode cX9_untell 43 = .ok (.iload_n 1, 1) := by decide +kernel
theorem dX9_untell_44 : decode cX9_untell 44 = .ok (.aaload, 1) := by decide +kernel
theorem dX9_untell_45 : decode cX9_untell 45 = .ok (.iconst 0, 1) := by decide +kernel
theorem dX9_untell_46 : decode cX9_untell 46 = .ok (.putfield 187, 3) := by decide +kernel
theorem dX9_untell_49 : decode cX9_untell 49 = .ok (.iload_n 2, 1) := by decide +kernel
theorem dX9_untell_50 : decode cX9_untell 50 = .ok (.ireturn, 1) := by decide +kernel
theorem dX9_minutes_0 : decode cX9_minutes 0 = .ok (.iload_n 1, 1) := by decide +kernel
theorem dX9_minutes_1 : decode cX9_minutes 1 = .ok (.iconst 1, 1) := by decide +kernel
theorem dX9_minutes_2 : decode cX9_minutes 2 = .ok (.bipush 60, 2) := by decide +kernel
theorem dX9_minutes_4 : decode cX9_minutes 4 = .ok (.invokestatic 54, 3) := by decide +kernel
theorem dX9_minutes_7 : decode cX9_minutes 7 = .ok (.ifCond .eq 9, 3) := by decide +kernel
theorem dX9_minutes_10 : decode cX9_minutes 10 = .ok (.aload_n 0, 1) := by decide +kernel
theorem dX9_minutes_11 : decode cX9_minutes 11 = .ok (.iconst 1, 1) := by decide +kernel
theorem dX9_minutes_12 : decode cX9_minutes 12 = .ok (.invokevirtual 58, 3) := by decide +kernel
theorem dX9_minutes_15 : decode cX9_minutes 15 = .ok (.ireturn, 1) := by decide +kernel
theorem dX9_minutes_16 : decode cX9_minutes 16 = .ok (.aload_n 0, 1) := by decide +kernel
theorem dX9_minutes_17 : decode cX9_minutes 17 = .ok (.getfield 10, 3) := by decide +kernel
theorem dX9_minutes_20 : decode cX9_minutes 20 = .ok (.getfield 188, 3) := by decide +kernel
theorem dX9_minutes_23 : decode cX9_minutes 23 = .ok (.iload_n 1, 1) := by decide +kernel
theorem dX9_minutes_24 : decode cX9_minutes 24 = .ok (.iadd, 1) := by decide +kernel
theorem dX9_minutes_25 : decode cX9_minutes 25 = .ok (.ldc 191, 2) := by decide +kernel
theorem dX9_minutes_27 : decode cX9_minutes 27 = .ok (.if_icmp .le 9, 3) := by decide +kernel
theorem dX9_minutes_30 : decode cX9_minutes 30 = .ok (.aload_n 0, 1) := by decide +kernel
theorem dX9_minutes_31 : decode cX9_minutes 31 = .ok (.iconst 3, 1) := by decide +kernel
theorem dX9_minutes_32 : decode cX9_minutes 32 = .ok (.invokevirtual 58, 3) := by decide +kernel
theorem dX9_minutes_35 : decode cX9_minutes 35 = .ok (.ireturn, 1) := by decide +kernel
theorem dX9_minutes_36 : decode cX9_minutes 36 = .ok (.aload_n 0, 1) := by decide +kernel
theorem dX9_minutes_37 : decode cX9_minutes 37 = .ok (.getfield 10, 3) := by decide +kernel
theorem dX9_minutes_40 : decode cX9_minutes 40 = .ok (.iload_n 1, 1) := by decide +kernel
theorem dX9_minutes_41 : decode cX9_minutes 41 = .ok (.invokevirtual 192, 3) := by decide +kernel
theorem dX9_minutes_44 : decode cX9_minutes 44 = .ok (.aload_n 0, 1) := by decide +kernel
theorem dX9_minutes_45 : decode cX9_minutes 45 = .ok (.getfield 10, 3) := by decide +kernel
theorem dX9_minutes_48 : decode cX9_minutes 48 = .ok (.invokevirtual 195, 3) := by decide +kernel
theorem dX9_minutes_51 : decode cX9_minutes 51 = .ok (.ireturn, 1) := by decide +kernel
theorem dX9_terms_0 : decode cX9_terms 0 = .ok (.iload_n 1, 1) := by decide +kernel
theorem dX9_terms_1 : decode cX9_terms 1 = .ok (.iconst 1, 1) := by decide +kernel
theorem dX9_terms_2 : decode cX9_terms 2 = .ok (.bipush 20, 2) := by decide +kernel
theorem dX9_terms_4 : decode cX9_terms 4 = .ok (.invokestatic 54, 3) := by decide +kernel
theorem dX9_terms_7 : decode cX9_terms 7 = .ok (.ifCond .eq 9, 3) := by decide +kernel
theorem dX9_terms_10 : decode cX9_terms 10 = .ok (.aload_n 0, 1) := by decide +kernel
theorem dX9_terms_11 : decode cX9_terms 11 = .ok (.iconst 1, 1) := by decide +kernel
theorem dX9_terms_12 : decode cX9_terms 12 = .ok (.invokevirtual 58, 3) := by decide +kernel
theorem dX9_terms_15 : decode cX9_terms 15 = .ok (.ireturn, 1) := by decide +kernel
theorem dX9_terms_16 : decode cX9_terms 16 = .ok (.aload_n 0, 1) := by decide +kernel
theorem dX9_terms_17 : decode cX9_terms 17 = .ok (.getfield 10, 3) := by decide +kernel
theorem dX9_terms_20 : decode cX9_terms 20 = .ok (.getfield 198, 3) := by decide +kernel
theorem dX9_terms_23 : decode cX9_terms 23 = .ok (.iload_n 1, 1) := by decide +kernel
theorem dX9_terms_24 : decode cX9_terms 24 = .ok (.iadd, 1) := by decide +kernel
theorem dX9_terms_25 : decode cX9_terms 25 = .ok (.sipush 999, 3) := by decide +kernel
theorem dX9_terms_28 : decode cX9_terms 28 = .ok (.if_icmp .le 9, 3) := by decide +kernel
theorem dX9_terms_31 : decode cX9_terms 31 = .ok (.aload_n 0, 1) := by decide +kernel
theorem dX9_terms_32 : decode cX9_terms 32 = .ok (.iconst 3, 1) := by decide +kernel
theorem dX9_terms_33 : decode cX9_terms 33 = .ok (.invokevirtual 58, 3) := by decide +kernel
theorem dX9_terms_36 : decode cX9_terms 36 = .ok (.ireturn, 1) := by decide +kernel
theorem dX9_terms_37 : decode cX9_terms 37 = .ok (.iconst 0, 1) := by decide +kernel
theorem dX9_terms_38 : decode cX9_terms 38 = .ok (.istore_n 2, 1) := by decide +kernel
theorem dX9_terms_39 : decode cX9_terms 39 = .ok (.iload_n 2, 1) := by decide +kernel
theorem dX9_terms_40 : decode cX9_terms 40 = .ok (.iload_n 1, 1) := by decide +kernel
theorem dX9_terms_41 : decode cX9_terms 41 = .ok (.if_icmp .ge 16, 3) := by decide +kernel
theorem dX9_terms_44 : decode cX9_terms 44 = .ok (.aload_n 0, 1) := by decide +kernel
theorem dX9_terms_45 : decode cX9_terms 45 = .ok (.getfield 10, 3) := by decide +kernel
theorem dX9_terms_48 : decode cX9_terms 48 = .ok (.invokevirtual 201, 3) := by decide +kernel
theorem dX9_terms_51 : decode cX9_terms 51 = .ok (.iinc 2 1, 3) := by decide +kernel
theorem dX9_terms_54 : decode cX9_terms 54 = .ok (.goto (-15), 3) := by decide +kernel
theorem dX9_terms_57 : decode cX9_terms 57 = .ok (.aload_n 0, 1) := by decide +kernel
theorem dX9_terms_58 : decode cX9_terms 58 = .ok (.getfield 10, 3) := by decide +kernel
theorem dX9_terms_61 : decode cX9_terms 61 = .ok (.getfield 198, 3) := by decide +kernel
theorem dX9_terms_64 : decode cX9_terms 64 = .ok (.ireturn, 1) := by decide +kernel
theorem dX9_seed_0 : decode cX9_seed 0 = .ok (.aload_n 0, 1) := by decide +kernel
theorem dX9_seed_1 : decode cX9_seed 1 = .ok (.getfield 10, 3) := by decide +kernel
theorem dX9_seed_4 : decode cX9_seed 4 = .ok (.getfield 204, 3) := by decide +kernel
theorem dX9_seed_7 : decode cX9_seed 7 = .ok (.istore_n 2, 1) := by decide +kernel
theorem dX9_seed_8 : decode cX9_seed 8 = .ok (.aload_n 0, 1) := by decide +kernel
theorem dX9_seed_9 : decode cX9_seed 9 = .ok (.getfield 10, 3) := by decide +kernel
theorem dX9_seed_12 : decode cX9_seed 12 = .ok (.iload_n 1, 1) := by decide +kernel
theorem dX9_seed_13 : decode cX9_seed 13 = .ok (.putfield 204, 3) := by decide +kernel
theorem dX9_seed_16 : decode cX9_seed 16 = .ok (.iload_n 2, 1) := by decide +kernel
theorem dX9_seed_17 : decode cX9_seed 17 = .ok (.ireturn, 1) := by decide +kernel
theorem dX9_both_0 : decode cX9_both 0 = .ok (.aload_n 0, 1) := by decide +kernel
theorem dX9_both_1 : decode cX9_both 1 = .ok (.iload_n 1, 1) := by decide +kernel
theorem dX9_both_2 : decode cX9_both 2 = .ok (.invokevirtual 84, 3) := by decide +kernel
theorem dX9_both_5 : decode cX9_both 5 = .ok (.ifCond .eq 9, 3) := by decide +kernel
theorem dX9_both_8 : decode cX9_both 8 = .ok (.aload_n 0, 1) := by decide +kernel
theorem dX9_both_9 : decode cX9_both 9 = .ok (.iconst 1, 1) := by decide +kernel
theorem dX9_both_10 : decode cX9_both 10 = .ok (.invokevirtual 58, 3) := by decide +kernel
theorem dX9_both_13 : decode cX9_both 13 = .ok (.ireturn, 1) := by decide +kernel
theorem dX9_both_14 : decode cX9_both 14 = .ok (.aload_n 0, 1) := by decide +kernel
theorem dX9_both_15 : decode cX9_both 15 = .ok (.getfield 25, 3) := by decide +kernel
theorem dX9_both_18 : decode cX9_both 18 = .ok (.aload_n 0, 1) := by decide +kernel
theorem dX9_both_19 : decode cX9_both 19 = .ok (.getfield 10, 3) := by decide +kernel
theorem dX9_both_22 : decode cX9_both 22 = .ok (.invokevirtual 207, 3) := by decide +kernel
theorem dX9_both_25 : decode cX9_both 25 = .ok (.aload_n 0, 1) := by decide +kernel
theorem dX9_both_26 : decode cX9_both 26 = .ok (.getfield 25, 3) := by decide +kernel
theorem dX9_both_29 : decode cX9_both 29 = .ok (.getfield 211, 3) := by decide +kernel
theorem dX9_both_32 : decode cX9_both 32 = .ok (.iload_n 1, 1) := by decide +kernel
theorem dX9_both_33 : decode cX9_both 33 = .ok (.iaload, 1) := by decide +kernel
theorem dX9_both_34 : decode cX9_both 34 = .ok (.ireturn, 1) := by decide +kernel
theorem dX9_ring_0 : decode cX9_ring 0 = .ok (.aload_n 0, 1) := by decide +kernel
theorem dX9_ring_1 : decode cX9_ring 1 = .ok (.iload_n 1, 1) := by decide +kernel
theorem dX9_ring_2 : decode cX9_ring 2 = .ok (.invokevirtual 84, 3) := by decide +kernel
theorem dX9_ring_5 : decode cX9_ring 5 = .ok (.ifCond .eq 9, 3) := by decide +kernel
theorem dX9_ring_8 : decode cX9_ring 8 = .ok (.aload_n 0, 1) := by decide +kernel
theorem dX9_ring_9 : decode cX9_ring 9 = .ok (.iconst 1, 1) := by decide +kernel
theorem dX9_ring_10 : decode cX9_ring 10 = .ok (.invokevirtual 58, 3) := by decide +kernel
theorem dX9_ring_13 : decode cX9_ring 13 = .ok (.ireturn, 1) := by decide +kernel
theorem dX9_ring_14 : decode cX9_ring 14 = .ok (.aload_n 0, 1) := by decide +kernel
theorem dX9_ring_15 : decode cX9_ring 15 = .ok (.getfield 25, 3) := by decide +kernel
theorem dX9_ring_18 : decode cX9_ring 18 = .ok (.aload_n 0, 1) := by decide +kernel
theorem dX9_ring_19 : decode cX9_ring 19 = .ok (.getfield 10, 3) := by decide +kernel
theorem dX9_ring_22 : decode cX9_ring 22 = .ok (.invokevirtual 207, 3) := by decide +kernel
theorem dX9_ring_25 : decode cX9_ring 25 = .ok (.aload_n 0, 1) := by decide +kernel
theorem dX9_ring_26 : decode cX9_ring 26 = .ok (.getfield 25, 3) := by decide +kernel
theorem dX9_ring_29 : decode cX9_ring 29 = .ok (.iload_n 1, 1) := by decide +kernel
theorem dX9_ring_30 : decode cX9_ring 30 = .ok (.invokevirtual 214, 3) := by decide +kernel
theorem dX9_ring_33 : decode cX9_ring 33 = .ok (.ireturn, 1) := by decide +kernel
theorem dX9_net_0 : decode cX9_net 0 = .ok (.iload_n 1, 1) := by decide +kernel
theorem dX9_net_1 : decode cX9_net 1 = .ok (.iconst 0, 1) := by decide +kernel
theorem dX9_net_2 : decode cX9_net 2 = .ok (.iconst 3, 1) := by decide +kernel
theorem dX9_net_3 : decode cX9_net 3 = .ok (.invokestatic 54, 3) := by decide +kernel
theorem dX9_net_6 : decode cX9_net 6 = .ok (.ifCond .eq 9, 3) := by decide +kernel
theorem dX9_net_9 : decode cX9_net 9 = .ok (.aload_n 0, 1) := by decide +kernel
theorem dX9_net_10 : decode cX9_net 10 = .ok (.iconst 1, 1) := by decide +kernel
theorem dX9_net_11 : decode cX9_net 11 = .ok (.invokevirtual 58, 3) := by decide +kernel
theorem dX9_net_14 : decode cX9_net 14 = .ok (.ireturn, 1) := by decide +kernel
theorem dX9_net_15 : decode cX9_net 15 = .ok (.aload_n 0, 1) := by decide +kernel
theorem dX9_net_16 : decode cX9_net 16 = .ok (.getfield 25, 3) := by decide +kernel
theorem dX9_net_19 : decode cX9_net 19 = .ok (.aload_n 0, 1) := by decide +kernel
theorem dX9_net_20 : decode cX9_net 20 = .ok (.getfield 10, 3) := by decide +kernel
theorem dX9_net_23 : decode cX9_net 23 = .ok (.invokevirtual 207, 3) := by decide +kernel
theorem dX9_net_26 : decode cX9_net 26 = .ok (.iload_n 1, 1) := by decide +kernel
theorem dX9_net_27 : decode cX9_net 27 = .ok (.tableswitch 49 0 2 #[25, 33, 41], 25) := by decide +kernel
theorem dX9_net_52 : decode cX9_net 52 = .ok (.aload_n 0, 1) := by decide +kernel
theorem dX9_net_53 : decode cX9_net 53 = .ok (.getfield 25, 3) := by decide +kernel
theorem dX9_net_56 : decode cX9_net 56 = .ok (.invokevirtual 217, 3) := by decide +kernel
theorem dX9_net_59 : decode cX9_net 59 = .ok (.ireturn, 1) := by decide +kernel
theorem dX9_net_60 : decode cX9_net 60 = .ok (.aload_n 0, 1) := by decide +kernel
theorem dX9_net_61 : decode cX9_net 61 = .ok (.getfield 25, 3) := by decide +kernel
theorem dX9_net_64 : decode cX9_net 64 = .ok (.invokevirtual 220, 3) := by decide +kernel
theorem dX9_net_67 : decode cX9_net 67 = .ok (.ireturn, 1) := by decide +kernel
theorem dX9_net_68 : decode cX9_net 68 = .ok (.aload_n 0, 1) := by decide +kernel
theorem dX9_net_69 : decode cX9_net 69 = .ok (.getfield 25, 3) := by decide +kernel
theorem dX9_net_72 : decode cX9_net 72 = .ok (.invokevirtual 223, 3) := by decide +kernel
theorem dX9_net_75 : decode cX9_net 75 = .ok (.ireturn, 1) := by decide +kernel
theorem dX9_net_76 : decode cX9_net 76 = .ok (.aload_n 0, 1) := by decide +kernel
theorem dX9_net_77 : decode cX9_net 77 = .ok (.getfield 25, 3) := by decide +kernel
theorem dX9_net_80 : decode cX9_net 80 = .ok (.invokevirtual 226, 3) := by decide +kernel
theorem dX9_net_83 : decode cX9_net 83 = .ok (.ireturn, 1) := by decide +kernel
theorem dX9_then_0 : decode cX9_then 0 = .ok (.iload_n 1, 1) := by decide +kernel
theorem dX9_then_1 : decode cX9_then 1 = .ok (.invokestatic 229, 3) := by decide +kernel
theorem dX9_then_4 : decode cX9_then 4 = .ok (.ifCond .ne 21, 3) := by decide +kernel
theorem dX9_then_7 : decode cX9_then 7 = .ok (.aload_n 0, 1) := by decide +kernel
theorem dX9_then_8 : decode cX9_then 8 = .ok (.iload_n 2, 1) := by decide +kernel
theorem dX9_then_9 : decode cX9_then 9 = .ok (.invokevirtual 84, 3) := by decide +kernel
theorem dX9_then_12 : decode cX9_then 12 = .ok (.ifCond .ne 13, 3) := by decide +kernel
theorem dX9_then_15 : decode cX9_then 15 = .ok (.iload_n 3, 1) := by decide +kernel
theorem dX9_then_16 : decode cX9_then 16 = .ok (.iconst 0, 1) := by decide +kernel
theorem dX9_then_17 : decode cX9_then 17 = .ok (.bipush 7, 2) := by decide +kernel
theorem dX9_then_19 : decode cX9_then 19 = .ok (.invokestatic 54, 3) := by decide +kernel
theorem dX9_then_22 : decode cX9_then 22 = .ok (.ifCond .eq 9, 3) := by decide +kernel
theorem dX9_then_25 : decode cX9_then 25 = .ok (.aload_n 0, 1) := by decide +kernel
theorem dX9_then_26 : decode cX9_then 26 = .ok (.iconst 1, 1) := by decide +kernel
theorem dX9_then_27 : decode cX9_then 27 = .ok (.invokevirtual 58, 3) := by decide +kernel
theorem dX9_then_30 : decode cX9_then 30 = .ok (.ireturn, 1) := by decide +kernel
theorem dX9_then_31 : decode cX9_then 31 = .ok (.aload_n 0, 1) := by decide +kernel
theorem dX9_then_32 : decode cX9_then 32 = .ok (.getfield 16, 3) := by decide +kernel
theorem dX9_then_35 : decode cX9_then 35 = .ok (.aload_n 0, 1) := by decide +kernel
theorem dX9_then_36 : decode cX9_then 36 = .ok (.getfield 10, 3) := by decide +kernel
theorem dX9_then_39 : decode cX9_then 39 = .ok (.invokevirtual 232, 3) := by decide +kernel
theorem dX9_then_42 : decode cX9_then 42 = .ok (.aload_n 0, 1) := by decide +kernel
theorem dX9_then_43 : decode cX9_then 43 = .ok (.getfield 16, 3) := by decide +kernel
theorem dX9_then_46 : decode cX9_then 46 = .ok (.iload_n 1, 1) := by decide +kernel
theorem dX9_then_47 : decode cX9_then 47 = .ok (.invokevirtual 192, 3) := by decide +kernel
theorem dX9_then_50 : decode cX9_then 50 = .ok (.aload_n 0, 1) := by decide +kernel
theorem dX9_then_51 : decode cX9_then 51 = .ok (.aload_n 0, 1) := by decide +kernel
theorem dX9_then_52 : decode cX9_then 52 = .ok (.getfield 16, 3) := by decide +kernel
theorem dX9_then_55 : decode cX9_then 55 = .ok (.iload_n 2, 1) := by decide +kernel
theorem dX9_then_56 : decode cX9_then 56 = .ok (.iload_n 3, 1) := by decide +kernel
theorem dX9_then_57 : decode cX9_then 57 = .ok (.invokevirtual 88, 3) := by decide +kernel
theorem dX9_then_60 : decode cX9_then 60 = .ok (.ireturn, 1) := by decide +kernel
theorem dX9_sorrow_0 : decode cX9_sorrow 0 = .ok (.iload_n 1, 1) := by decide +kernel
theorem dX9_sorrow_1 : decode cX9_sorrow 1 = .ok (.invokestatic 229, 3) := by decide +kernel
theorem dX9_sorrow_4 : decode cX9_sorrow 4 = .ok (.ifCond .eq 9, 3) := by decide +kernel
theorem dX9_sorrow_7 : decode cX9_sorrow 7 = .ok (.aload_n 0, 1) := by decide +kernel
theorem dX9_sorrow_8 : decode cX9_sorrow 8 = .ok (.iconst 1, 1) := by decide +kernel
theorem dX9_sorrow_9 : decode cX9_sorrow 9 = .ok (.invokevirtual 58, 3) := by decide +kernel
theorem dX9_sorrow_12 : decode cX9_sorrow 12 = .ok (.ireturn, 1) := by decide +kernel
theorem dX9_sorrow_13 : decode cX9_sorrow 13 = .ok (.aload_n 0, 1) := by decide +kernel
theorem dX9_sorrow_14 : decode cX9_sorrow 14 = .ok (.getfield 16, 3) := by decide +kernel
theorem dX9_sorrow_17 : decode cX9_sorrow 17 = .ok (.aload_n 0, 1) := by decide +kernel
theorem dX9_sorrow_18 : decode cX9_sorrow 18 = .ok (.getfield 10, 3) := by decide +kernel
theorem dX9_sorrow_21 : decode cX9_sorrow 21 = .ok (.invokevirtual 232, 3) := by decide +kernel
theorem dX9_sorrow_24 : decode cX9_sorrow 24 = .ok (.aload_n 0, 1) := by decide +kernel
theorem dX9_sorrow_25 : decode cX9_sorrow 25 = .ok (.getfield 16, 3) := by decide +kernel
theorem dX9_sorrow_28 : decode cX9_sorrow 28 = .ok (.iload_n 1, 1) := by decide +kernel
theorem dX9_sorrow_29 : decode cX9_sorrow 29 = .ok (.invokevirtual 192, 3) := by decide +kernel
theorem dX9_sorrow_32 : decode cX9_sorrow 32 = .ok (.aload_n 0, 1) := by decide +kernel
theorem dX9_sorrow_33 : decode cX9_sorrow 33 = .ok (.getfield 16, 3) := by decide +kernel
theorem dX9_sorrow_36 : decode cX9_sorrow 36 = .ok (.invokevirtual 195, 3) := by decide +kernel
theorem dX9_sorrow_39 : decode cX9_sorrow 39 = .ok (.ireturn, 1) := by decide +kernel
theorem dX9_word_0 : decode cX9_word 0 = .ok (.aload_n 0, 1) := by decide +kernel
theorem dX9_word_1 : decode cX9_word 1 = .ok (.iload_n 1, 1) := by decide +kernel
theorem dX9_word_2 : decode cX9_word 2 = .ok (.invokevirtual 84, 3) := by decide +kernel
theorem dX9_word_5 : decode cX9_word 5 = .ok (.ifCond .ne 10, 3) := by decide +kernel
theorem dX9_word_8 : decode cX9_word 8 = .ok (.iload_n 2, 1) := by decide +kernel
theorem dX9_word_9 : decode cX9_word 9 = .ok (.invokestatic 229, 3) := by decide +kernel
theorem dX9_word_12 : decode cX9_word 12 = .ok (.ifCond .eq 9, 3) := by decide +kernel
theorem dX9_word_15 : decode cX9_word 15 = .ok (.aload_n 0, 1) := by decide +kernel
theorem dX9_word_16 : decode cX9_word 16 = .ok (.iconst 1, 1) := by decide +kernel
theorem dX9_word_17 : decode cX9_word 17 = .ok (.invokevirtual 58, 3) := by decide +kernel
theorem dX9_word_20 : decode cX9_word 20 = .ok (.ireturn, 1) := by decide +kernel
theorem dX9_word_21 : decode cX9_word 21 = .ok (.aload_n 0, 1) := by decide +kernel
theorem dX9_word_22 : decode cX9_word 22 = .ok (.getfield 10, 3) := by decide +kernel
theorem dX9_word_25 : decode cX9_word 25 = .ok (.getfield 66, 3) := by decide +kernel
theorem dX9_word_28 : decode cX9_word 28 = .ok (.iload_n 1, 1) := by decide +kernel
theorem dX9_word_29 : decode cX9_word 29 = .ok (.aaload, 1) := by decide +kernel
theorem dX9_word_30 : decode cX9_word 30 = .ok (.getfield 128, 3) := by decide +kernel
theorem dX9_word_33 : decode cX9_word 33 = .ok (.iconst (-1), 1) := by decide +kernel
theorem dX9_word_34 : decode cX9_word 34 = .ok (.if_icmp .eq 9, 3) := by decide +kernel
theorem dX9_word_37 : decode cX9_word 37 = .ok (.aload_n 0, 1) := by decide +kernel
theorem dX9_word_38 : decode cX9_word 38 = .ok (.iconst 3, 1) := by decide +kernel
theorem dX9_word_39 : decode cX9_word 39 = .ok (.invokevirtual 58, 3) := by decide +kernel
theorem dX9_word_42 : decode cX9_word 42 = .ok (.ireturn, 1) := by decide +kernel
theorem dX9_word_43 : decode cX9_word 43 = .ok (.iconst (-1), 1) := by decide +kernel
theorem dX9_word_44 : decode cX9_word 44 = .ok (.istore_n 3, 1) := by decide +kernel
theorem dX9_word_45 : decode cX9_word 45 = .ok (.iconst 0, 1) := by decide +kernel
theorem dX9_word_46 : decode cX9_word 46 = .ok (.istore 4, 2) := by decide +kernel
theorem dX9_word_48 : decode cX9_word 48 = .ok (.iconst 0, 1) := by decide +kernel
theorem dX9_word_49 : decode cX9_word 49 = .ok (.istore 5, 2) := by decide +kernel
theorem dX9_word_51 : decode cX9_word 51 = .ok (.iconst 0, 1) := by decide +kernel
theorem dX9_word_52 : decode cX9_word 52 = .ok (.istore 6, 2) := by decide +kernel
theorem dX9_word_54 : decode cX9_word 54 = .ok (.iload 6, 2) := by decide +kernel
theorem dX9_word_56 : decode cX9_word 56 = .ok (.aload_n 0, 1) := by decide +kernel
theorem dX9_word_57 : decode cX9_word 57 = .ok (.getfield 10, 3) := by decide +kernel
theorem dX9_word_60 : decode cX9_word 60 = .ok (.getfield 62, 3) := by decide +kernel
theorem dX9_word_63 : decode cX9_word 63 = .ok (.if_icmp .ge 105, 3) := by decide +kernel
theorem dX9_word_66 : decode cX9_word 66 = .ok (.aload_n 0, 1) := by decide +kernel
theorem dX9_word_67 : decode cX9_word 67 = .ok (.getfield 10, 3) := by decide +kernel
theorem dX9_word_70 : decode cX9_word 70 = .ok (.getfield 66, 3) := by decide +kernel
theorem dX9_word_73 : decode cX9_word 73 = .ok (.iload 6, 2) := by decide +kernel
theorem dX9_word_75 : decode cX9_word 75 = .ok (.aaload, 1) := by decide +kernel
theorem dX9_word_76 : decode cX9_word 76 = .ok (.getfield 128, 3) := by decide +kernel
theorem dX9_word_79 : decode cX9_word 79 = .ok (.istore 7, 2) := by decide +kernel
theorem dX9_word_81 : decode cX9_word 81 = .ok (.iload 7, 2) := by decide +kernel
theorem dX9_word_83 : decode cX9_word 83 = .ok (.iconst (-1), 1) := by decide +kernel
theorem dX9_word_84 : decode cX9_word 84 = .ok (.if_icmp .eq 78, 3) := by decide +kernel
theorem dX9_word_87 : decode cX9_word 87 = .ok (.iload 5, 2) := by decide +kernel
theorem dX9_word_89 : decode cX9_word 89 = .ok (.iload 7, 2) := by decide +kernel
theorem dX9_word_91 : decode cX9_word 91 = .ok (.ishr, 1) := by decide +kernel
theorem dX9_word_92 : decode cX9_word 92 = .ok (.iconst 1, 1) := by decide +kernel
theorem dX9_word_93 : decode cX9_word 93 = .ok (.iand, 1) := by decide +kernel
theorem dX9_word_94 : decode cX9_word 94 = .ok (.ifCond .ne 68, 3) := by decide +kernel
theorem dX9_word_97 : decode cX9_word 97 = .ok (.iload 5, 2) := by decide +kernel
theorem dX9_word_99 : decode cX9_word 99 = .ok (.iconst 1, 1) := by decide +kernel
theorem dX9_word_100 : decode cX9_word 100 = .ok (.iload 7, 2) := by decide +kernel
theorem dX9_word_102 : decode cX9_word 102 = .ok (.ishl, 1) := by decide +kernel
theorem dX9_word_103 : decode cX9_word 103 = .ok (.ior, 1) := by decide +kernel
theorem dX9_word_104 : decode cX9_word 104 = .ok (.istore 5, 2) := by decide +kernel
theorem dX9_word_106 : decode cX9_word 106 = .ok (.aload_n 0, 1) := by decide +kernel
theorem dX9_word_107 : decode cX9_word 107 = .ok (.getfield 16, 3) := by decide +kernel
theorem dX9_word_110 : decode cX9_word 110 = .ok (.aload_n 0, 1) := by decide +kernel
theorem dX9_word_111 : decode cX9_word 111 = .ok (.getfield 10, 3) := by decide +kernel
theorem dX9_word_114 : decode cX9_word 114 = .ok (.invokevirtual 232, 3) := by decide +kernel
theorem dX9_word_117 : decode cX9_word 117 = .ok (.aload_n 0, 1) := by decide +kernel
theorem dX9_word_118 : decode cX9_word 118 = .ok (.getfield 16, 3) := by decide +kernel
theorem dX9_word_121 : decode cX9_word 121 = .ok (.iload_n 1, 1) := by decide +kernel
theorem dX9_word_122 : decode cX9_word 122 = .ok (.iload 7, 2) := by decide +kernel
theorem dX9_word_124 : decode cX9_word 124 = .ok (.invokevirtual 131, 3) := by decide +kernel
theorem dX9_word_127 : decode cX9_word 127 = .ok (.aload_n 0, 1) := by decide +kernel
theorem dX9_word_128 : decode cX9_word 128 = .ok (.getfield 16, 3) := by decide +kernel
theorem dX9_word_131 : decode cX9_word 131 = .ok (.iload_n 2, 1) := by decide +kernel
theorem dX9_word_132 : decode cX9_word 132 = .ok (.invokevirtual 192, 3) := by decide +kernel
theorem dX9_word_135 : decode cX9_word 135 = .ok (.aload_n 0, 1) := by decide +kernel
theorem dX9_word_136 : decode cX9_word 136 = .ok (.getfield 16, 3) := by decide +kernel
theorem dX9_word_139 : decode cX9_word 139 = .ok (.invokevirtual 195, 3) := by decide +kernel
theorem dX9_word_142 : decode cX9_word 142 = .ok (.istore 8, 2) := by decide +kernel
theorem dX9_word_144 : decode cX9_word 144 = .ok (.iload_n 3, 1) := by decide +kernel
theorem dX9_word_145 : decode cX9_word 145 = .ok (.ifCond .lt 10, 3) := by decide +kernel
theorem dX9_word_148 : decode cX9_word 148 = .ok (.iload 8, 2) := by decide +kernel
theorem dX9_word_150 : decode cX9_word 150 = .ok (.iload 4, 2) := by decide +kernel
theorem dX9_word_152 : decode cX9_word 152 = .ok (.if_icmp .ge 10, 3) := by decide +kernel
theorem dX9_word_155 : decode cX9_word 155 = .ok (.iload 6, 2) := by decide +kernel
theorem dX9_word_157 : decode cX9_word 157 = .ok (.istore_n 3, 1) := by decide +kernel
theorem dX9_word_158 : decode cX9_word 158 = .ok (.iload 8, 2) := by decide +kernel
theorem dX9_word_160 : decode cX9_word 160 = .ok (.istore 4, 2) := by decide +kernel
theorem dX9_word_162 : decode cX9_word 162 = .ok (.iinc 6 1, 3) := by decide +kernel
theorem dX9_word_165 : decode cX9_word 165 = .ok (.goto (-111), 3) := by decide +kernel
theorem dX9_word_168 : decode cX9_word 168 = .ok (.iload_n 3, 1) := by decide +kernel
theorem dX9_word_169 : decode cX9_word 169 = .ok (.ifCond .ge 11, 3) := by decide +kernel
theorem dX9_word_172 : decode cX9_word 172 = .ok (.aload_n 0, 1) := by decide +kernel
theorem dX9_word_173 : decode cX9_word 173 = .ok (.iconst 2, 1) := by decide +kernel
theorem dX9_word_174 : decode cX9_word 174 = .ok (.invokevirtual 58, 3) := by decide +kernel
theorem dX9_word_177 : decode cX9_word 177 = .ok (.goto 4, 3) := by decide +kernel
theorem dX9_word_180 : decode cX9_word 180 = .ok (.iload_n 3, 1) := by decide +kernel
theorem dX9_word_181 : decode cX9_word 181 = .ok (.ireturn, 1) := by decide +kernel
theorem dX9_teach_0 : decode cX9_teach 0 = .ok (.aload_n 0, 1) := by decide +kernel
theorem dX9_teach_1 : decode cX9_teach 1 = .ok (.iload_n 1, 1) := by decide +kernel
theorem dX9_teach_2 : decode cX9_teach 2 = .ok (.invokevirtual 84, 3) := by decide +kernel
theorem dX9_teach_5 : decode cX9_teach 5 = .ok (.ifCond .ne 10, 3) := by decide +kernel
theorem dX9_teach_8 : decode cX9_teach 8 = .ok (.iload_n 2, 1) := by decide +kernel
theorem dX9_teach_9 : decode cX9_teach 9 = .ok (.invokestatic 229, 3) := by decide +kernel
theorem dX9_teach_12 : decode cX9_teach 12 = .ok (.ifCond .eq 9, 3) := by decide +kernel
theorem dX9_teach_15 : decode cX9_teach 15 = .ok (.aload_n 0, 1) := by decide +kernel
theorem dX9_teach_16 : decode cX9_teach 16 = .ok (.iconst 1, 1) := by decide +kernel
theorem dX9_teach_17 : decode cX9_teach 17 = .ok (.invokevirtual 58, 3) := by decide +kernel
theorem dX9_teach_20 : decode cX9_teach 20 = .ok (.ireturn, 1) := by decide +kernel
theorem dX9_teach_21 : decode cX9_teach 21 = .ok (.iconst 0, 1) := by decide +kernel
theorem dX9_teach_22 : decode cX9_teach 22 = .ok (.istore_n 3, 1) := by decide +kernel
theorem dX9_teach_23 : decode cX9_teach 23 = .ok (.iconst 0, 1) := by decide +kernel
theorem dX9_teach_24 : decode cX9_teach 24 = .ok (.istore 4, 2) := by decide +kernel
theorem dX9_teach_26 : decode cX9_teach 26 = .ok (.iconst 0, 1) := by decide +kernel
theorem dX9_teach_27 : decode cX9_teach 27 = .ok (.istore 5, 2) := by decide +kernel
theorem dX9_teach_29 : decode cX9_teach 29 = .ok (.iload 5, 2) := by decide +kernel
theorem dX9_teach_31 : decode cX9_teach 31 = .ok (.bipush 7, 2) := by decide +kernel
theorem dX9_teach_33 : decode cX9_teach 33 = .ok (.if_icmp .ge 75, 3) := by decide +kernel
theorem dX9_teach_36 : decode cX9_teach 36 = .ok (.aload_n 0, 1) := by decide +kernel
theorem dX9_teach_37 : decode cX9_teach 37 = .ok (.getfield 16, 3) := by decide +kernel
theorem dX9_teach_40 : decode cX9_teach 40 = .ok (.aload_n 0, 1) := by decide +kernel
theorem dX9_teach_41 : decode cX9_teach 41 = .ok (.getfield 10, 3) := by decide +kernel
theorem dX9_teach_44 : decode cX9_teach 44 = .ok (.invokevirtual 232, 3) := by decide +kernel
theorem dX9_teach_47 : decode cX9_teach 47 = .ok (.aload_n 0, 1) := by decide +kernel
theorem dX9_teach_48 : decode cX9_teach 48 = .ok (.getfield 16, 3) := by decide +kernel
theorem dX9_teach_51 : decode cX9_teach 51 = .ok (.getfield 66, 3) := by decide +kernel
theorem dX9_teach_54 : decode cX9_teach 54 = .ok (.iload_n 1, 1) := by decide +kernel
theorem dX9_teach_55 : decode cX9_teach 55 = .ok (.aaload, 1) := by decide +kernel
theorem dX9_teach_56 : decode cX9_teach 56 = .ok (.iload 5, 2) := by decide +kernel
theorem dX9_teach_58 : decode cX9_teach 58 = .ok (.putfield 70, 3) := by decide +kernel
theorem dX9_teach_61 : decode cX9_teach 61 = .ok (.aload_n 0, 1) := by decide +kernel
theorem dX9_teach_62 : decode cX9_teach 62 = .ok (.getfield 16, 3) := by decide +kernel
theorem dX9_teach_65 : decode cX9_teach 65 = .ok (.iload_n 2, 1) := by decide +kernel
theorem dX9_teach_66 : decode cX9_teach 66 = .ok (.invokevirtual 192, 3) := by decide +kernel
theorem dX9_teach_69 : decode cX9_teach 69 = .ok (.aload_n 0, 1) := by decide +kernel
theorem dX9_teach_70 : decode cX9_teach 70 = .ok (.getfield 16, 3) := by decide +kernel
theorem dX9_teach_73 : decode cX9_teach 73 = .ok (.getfield 66, 3) := by decide +kernel
theorem dX9_teach_76 : decode cX9_teach 76 = .ok (.iload_n 1, 1) := by decide +kernel
theorem dX9_teach_77 : decode cX9_teach 77 = .ok (.aaload, 1) := by decide +kernel
theorem dX9_teach_78 : decode cX9_teach 78 = .ok (.getfield 234, 3) := by decide +kernel
theorem dX9_teach_81 : decode cX9_teach 81 = .ok (.istore 6, 2) := by decide +kernel
theorem dX9_teach_83 : decode cX9_teach 83 = .ok (.iload 5, 2) := by decide +kernel
theorem dX9_teach_85 : decode cX9_teach 85 = .ok (.ifCond .eq 10, 3) := by decide +kernel
theorem dX9_teach_88 : decode cX9_teach 88 = .ok (.iload 6, 2) := by decide +kernel
theorem dX9_teach_90 : decode cX9_teach 90 = .ok (.iload 4, 2) := by decide +kernel
theorem dX9_teach_92 : decode cX9_teach 92 = .ok (.if_icmp .ge 10, 3) := by decide +kernel
theorem dX9_teach_95 : decode cX9_teach 95 = .ok (.iload 5, 2) := by decide +kernel
theorem dX9_teach_97 : decode cX9_teach 97 = .ok (.istore_n 3, 1) := by decide +kernel
theorem dX9_teach_98 : decode cX9_teach 98 = .ok (.iload 6, 2) := by decide +kernel
theorem dX9_teach_100 : decode cX9_teach 100 = .ok (.istore 4, 2) := by decide +kernel
theorem dX9_teach_102 : decode cX9_teach 102 = .ok (.iinc 5 1, 3) := by decide +kernel
theorem dX9_teach_105 : decode cX9_teach 105 = .ok (.goto (-76), 3) := by decide +kernel
theorem dX9_teach_108 : decode cX9_teach 108 = .ok (.iload_n 3, 1) := by decide +kernel
theorem dX9_teach_109 : decode cX9_teach 109 = .ok (.ireturn, 1) := by decide +kernel
theorem dX9_classes_0 : decode cX9_classes 0 = .ok (.iload_n 1, 1) := by decide +kernel
theorem dX9_classes_1 : decode cX9_classes 1 = .ok (.iconst 0, 1) := by decide +kernel
theorem dX9_classes_2 : decode cX9_classes 2 = .ok (.iconst 1, 1) := by decide +kernel
theorem dX9_classes_3 : decode cX9_classes 3 = .ok (.invokestatic 54, 3) := by decide +kernel
theorem dX9_classes_6 : decode cX9_classes 6 = .ok (.ifCond .eq 9, 3) := by decide +kernel
theorem dX9_classes_9 : decode cX9_classes 9 = .ok (.aload_n 0, 1) := by decide +kernel
theorem dX9_classes_10 : decode cX9_classes 10 = .ok (.iconst 1, 1) := by decide +kernel
theorem dX9_classes_11 : decode cX9_classes 11 = .ok (.invokevirtual 58, 3) := by decide +kernel
theorem dX9_classes_14 : decode cX9_classes 14 = .ok (.ireturn, 1) := by decide +kernel
theorem dX9_classes_15 : decode cX9_classes 15 = .ok (.aload_n 0, 1) := by decide +kernel
theorem dX9_classes_16 : decode cX9_classes 16 = .ok (.getfield 10, 3) := by decide +kernel
theorem dX9_classes_19 : decode cX9_classes 19 = .ok (.getfield 62, 3) := by decide +kernel
theorem dX9_classes_22 : decode cX9_classes 22 = .ok (.iconst 2, 1) := by decide +kernel
theorem dX9_classes_23 : decode cX9_classes 23 = .ok (.if_icmp .ge 9, 3) := by decide +kernel
theorem dX9_classes_26 : decode cX9_classes 26 = .ok (.aload_n 0, 1) := by decide +kernel
theorem dX9_classes_27 : decode cX9_classes 27 = .ok (.iconst 2, 1) := by decide +kernel
theorem dX9_classes_28 : decode cX9_classes 28 = .ok (.invokevirtual 58, 3) := by decide +kernel
theorem dX9_classes_31 : decode cX9_classes 31 = .ok (.ireturn, 1) := by decide +kernel
theorem dX9_classes_32 : decode cX9_classes 32 = .ok (.aload_n 0, 1) := by decide +kernel
theorem dX9_classes_33 : decode cX9_classes 33 = .ok (.getfield 25, 3) := by decide +kernel
theorem dX9_classes_36 : decode cX9_classes 36 = .ok (.aload_n 0, 1) := by decide +kernel
theorem dX9_classes_37 : decode cX9_classes 37 = .ok (.getfield 10, 3) := by decide +kernel
theorem dX9_classes_40 : decode cX9_classes 40 = .ok (.invokevirtual 207, 3) := by decide +kernel
theorem dX9_classes_43 : decode cX9_classes 43 = .ok (.aload_n 0, 1) := by decide +kernel
theorem dX9_classes_44 : decode cX9_classes 44 = .ok (.getfield 25, 3) := by decide +kernel
theorem dX9_classes_47 : decode cX9_classes 47 = .ok (.invokevirtual 237, 3) := by decide +kernel
theorem dX9_classes_50 : decode cX9_classes 50 = .ok (.istore_n 2, 1) := by decide +kernel
theorem dX9_classes_51 : decode cX9_classes 51 = .ok (.iload_n 1, 1) := by decide +kernel
theorem dX9_classes_52 : decode cX9_classes 52 = .ok (.ifCond .ne 7, 3) := by decide +kernel
theorem dX9_classes_55 : decode cX9_classes 55 = .ok (.iload_n 2, 1) := by decide +kernel
theorem dX9_classes_56 : decode cX9_classes 56 = .ok (.goto 11, 3) := by decide +kernel
theorem dX9_classes_59 : decode cX9_classes 59 = .ok (.aload_n 0, 1) := by decide +kernel
theorem dX9_classes_60 : decode cX9_classes 60 = .ok (.getfield 25, 3) := by decide +kernel
theorem dX9_classes_63 : decode cX9_classes 63 = .ok (.iload_n 2, 1) := by decide +kernel
theorem dX9_classes_64 : decode cX9_classes 64 = .ok (.invokevirtual 240, 3) := by decide +kernel
theorem dX9_classes_67 : decode cX9_classes 67 = .ok (.ireturn, 1) := by decide +kernel
theorem dX9_best_0 : decode cX9_best 0 = .ok (.aload_n 0, 1) := by decide +kernel
theorem dX9_best_1 : decode cX9_best 1 = .ok (.iload_n 1, 1) := by decide +kernel
theorem dX9_best_2 : decode cX9_best 2 = .ok (.invokevirtual 84, 3) := by decide +kernel
theorem dX9_best_5 : decode cX9_best 5 = .ok (.ifCond .eq 9, 3) := by decide +kernel
theorem dX9_best_8 : decode cX9_best 8 = .ok (.aload_n 0, 1) := by decide +kernel
theorem dX9_best_9 : decode cX9_best 9 = .ok (.iconst 1, 1) := by decide +kernel
theorem dX9_best_10 : decode cX9_best 10 = .ok (.invokevirtual 58, 3) := by decide +kernel
theorem dX9_best_13 : decode cX9_best 13 = .ok (.ireturn, 1) := by decide +kernel
theorem dX9_best_14 : decode cX9_best 14 = .ok (.aload_n 0, 1) := by decide +kernel
theorem dX9_best_15 : decode cX9_best 15 = .ok (.getfield 10, 3) := by decide +kernel
theorem dX9_best_18 : decode cX9_best 18 = .ok (.getfield 101, 3) := by decide +kernel
theorem dX9_best_21 : decode cX9_best 21 = .ok (.ifCond .ne 9, 3) := by decide +kernel
theorem dX9_best_24 : decode cX9_best 24 = .ok (.aload_n 0, 1) := by decide +kernel
theorem dX9_best_25 : decode cX9_best 25 = .ok (.iconst 2, 1) := by decide +kernel
theorem dX9_best_26 : decode cX9_best 26 = .ok (.invokevirtual 58, 3) := by decide +kernel
theorem dX9_best_29 : decode cX9_best 29 = .ok (.ireturn, 1) := by decide +kernel
theorem dX9_best_30 : decode cX9_best 30 = .ok (.aload_n 0, 1) := by decide +kernel
theorem dX9_best_31 : decode cX9_best 31 = .ok (.getfield 10, 3) := by decide +kernel
theorem dX9_best_34 : decode cX9_best 34 = .ok (.iload_n 1, 1) := by decide +kernel
theorem dX9_best_35 : decode cX9_best 35 = .ok (.invokevirtual 243, 3) := by decide +kernel
theorem dX9_best_38 : decode cX9_best 38 = .ok (.ireturn, 1) := by decide +kernel
theorem dX9_voice_0 : decode cX9_voice 0 = .ok (.aload_n 0, 1) := by decide +kernel
theorem dX9_voice_1 : decode cX9_voice 1 = .ok (.iload_n 1, 1) := by decide +kernel
theorem dX9_voice_2 : decode cX9_voice 2 = .ok (.invokevirtual 84, 3) := by decide +kernel
theorem dX9_voice_5 : decode cX9_voice 5 = .ok (.ifCond .ne 12, 3) := by decide +kernel
theorem dX9_voice_8 : decode cX9_voice 8 = .ok (.iload_n 2, 1) := by decide +kernel
theorem dX9_voice_9 : decode cX9_voice 9 = .ok (.iconst 0, 1) := by decide +kernel
theorem dX9_voice_10 : decode cX9_voice 10 = .ok (.iconst 3, 1) := by decide +kernel
theorem dX9_voice_11 : decode cX9_voice 11 = .ok (.invokestatic 54, 3) := by decide +kernel
theorem dX9_voice_14 : decode cX9_voice 14 = .ok (.ifCond .eq 9, 3) := by decide +kernel
theorem dX9_voice_17 : decode cX9_voice 17 = .ok (.aload_n 0, 1) := by decide +kernel
theorem dX9_voice_18 : decode cX9_voice 18 = .ok (.iconst 1, 1) := by decide +kernel
theorem dX9_voice_19 : decode cX9_voice 19 = .ok (.invokevirtual 58, 3) := by decide +kernel
theorem dX9_voice_22 : decode cX9_voice 22 = .ok (.ireturn, 1) := by decide +kernel
theorem dX9_voice_23 : decode cX9_voice 23 = .ok (.aload_n 0, 1) := by decide +kernel
theorem dX9_voice_24 : decode cX9_voice 24 = .ok (.getfield 39, 3) := by decide +kernel
theorem dX9_voice_27 : decode cX9_voice 27 = .ok (.iload_n 1, 1) := by decide +kernel
theorem dX9_voice_28 : decode cX9_voice 28 = .ok (.aload_n 0, 1) := by decide +kernel
theorem dX9_voice_29 : decode cX9_voice 29 = .ok (.getfield 10, 3) := by decide +kernel
theorem dX9_voice_32 : decode cX9_voice 32 = .ok (.getfield 66, 3) := by decide +kernel
theorem dX9_voice_35 : decode cX9_voice 35 = .ok (.iload_n 1, 1) := by decide +kernel
theorem dX9_voice_36 : decode cX9_voice 36 = .ok (.aaload, 1) := by decide +kernel
theorem dX9_voice_37 : decode cX9_voice 37 = .ok (.iload_n 2, 1) := by decide +kernel
theorem dX9_voice_38 : decode cX9_voice 38 = .ok (.iload_n 3, 1) := by decide +kernel
theorem dX9_voice_39 : decode cX9_voice 39 = .ok (.invokevirtual 246, 3) := by decide +kernel
theorem dX9_voice_42 : decode cX9_voice 42 = .ok (.istore 4, 2) := by decide +kernel
theorem dX9_voice_44 : decode cX9_voice 44 = .ok (.aload_n 0, 1) := by decide +kernel
theorem dX9_voice_45 : decode cX9_voice 45 = .ok (.getfield 39, 3) := by decide +kernel
theorem dX9_voice_48 : decode cX9_voice 48 = .ok (.getfield 250, 3) := by decide +kernel
theorem dX9_voice_51 : decode cX9_voice 51 = .ok (.ifCond .eq 12, 3) := by decide +kernel
theorem dX9_voice_54 : decode cX9_voice 54 = .ok (.aload_n 0, 1) := by decide +kernel
theorem dX9_voice_55 : decode cX9_voice 55 = .ok (.bipush 6, 2) := by decide +kernel
theorem dX9_voice_57 : decode cX9_voice 57 = .ok (.invokevirtual 58, 3) := by decide +kernel
theorem dX9_voice_60 : decode cX9_voice 60 = .ok (.goto 5, 3) := by decide +kernel
theorem dX9_voice_63 : decode cX9_voice 63 = .ok (.iload 4, 2) := by decide +kernel
theorem dX9_voice_65 : decode cX9_voice 65 = .ok (.ireturn, 1) := by decide +kernel
theorem dX9_body_0 : decode cX9_body 0 = .ok (.iload_n 1, 1) := by decide +kernel
theorem dX9_body_1 : decode cX9_body 1 = .ok (.iconst 0, 1) := by decide +kernel
theorem dX9_body_2 : decode cX9_body 2 = .ok (.aload_n 0, 1) := by decide +kernel
theorem dX9_body_3 : decode cX9_body 3 = .ok (.getfield 39, 3) := by decide +kernel
theorem dX9_body_6 : decode cX9_body 6 = .ok (.getfield 254, 3) := by decide +kernel
theorem dX9_body_9 : decode cX9_body 9 = .ok (.getfield 153, 3) := by decide +kernel
theorem dX9_body_12 : decode cX9_body 12 = .ok (.iconst 1, 1) := by decide +kernel
theorem dX9_body_13 : decode cX9_body 13 = .ok (.isub, 1) := by decide +kernel
theorem dX9_body_14 : decode cX9_body 14 = .ok (.invokestatic 54, 3) := by decide +kernel
theorem dX9_body_17 : decode cX9_body 17 = .ok (.ifCond .eq 9, 3) := by decide +kernel
theorem dX9_body_20 : decode cX9_body 20 = .ok (.aload_n 0, 1) := by decide +kernel
theorem dX9_body_21 : decode cX9_body 21 = .ok (.iconst 2, 1) := by decide +kernel
theorem dX9_body_22 : decode cX9_body 22 = .ok (.invokevirtual 58, 3) := by decide +kernel
theorem dX9_body_25 : decode cX9_body 25 = .ok (.ireturn, 1) := by decide +kernel
theorem dX9_body_26 : decode cX9_body 26 = .ok (.aload_n 0, 1) := by decide +kernel
theorem dX9_body_27 : decode cX9_body 27 = .ok (.getfield 39, 3) := by decide +kernel
theorem dX9_body_30 : decode cX9_body 30 = .ok (.getfield 254, 3) := by decide +kernel
theorem dX9_body_33 : decode cX9_body 33 = .ok (.getfield 257, 3) := by decide +kernel
theorem dX9_body_36 : decode cX9_body 36 = .ok (.iload_n 1, 1) := by decide +kernel
theorem dX9_body_37 : decode cX9_body 37 = .ok (.iaload, 1) := by decide +kernel
theorem dX9_body_38 : decode cX9_body 38 = .ok (.ireturn, 1) := by decide +kernel
theorem dX9_sheet_0 : decode cX9_sheet 0 = .ok (.iload_n 1, 1) := by decide +kernel
theorem dX9_sheet_1 : decode cX9_sheet 1 = .ok (.invokestatic 260, 3) := by decide +kernel
theorem dX9_sheet_4 : decode cX9_sheet 4 = .ok (.ifCond .ne 25, 3) := by decide +kernel
theorem dX9_sheet_7 : decode cX9_sheet 7 = .ok (.iload_n 2, 1) := by decide +kernel
theorem dX9_sheet_8 : decode cX9_sheet 8 = .ok (.ifCond .eq 27, 3) := by decide +kernel
theorem dX9_sheet_11 : decode cX9_sheet 11 = .ok (.iload_n 2, 1) := by decide +kernel
theorem dX9_sheet_12 : decode cX9_sheet 12 = .ok (.bipush 8, 2) := by decide +kernel
theorem dX9_sheet_14 : decode cX9_sheet 14 = .ok (.if_icmp .eq 21, 3) := by decide +kernel
theorem dX9_sheet_17 : decode cX9_sheet 17 = .ok (.iload_n 2, 1) := by decide +kernel
theorem dX9_sheet_18 : decode cX9_sheet 18 = .ok (.bipush 16, 2) := by decide +kernel
theorem dX9_sheet_20 : decode cX9_sheet 20 = .ok (.if_icmp .eq 15, 3) := by decide +kernel
theorem dX9_sheet_23 : decode cX9_sheet 23 = .ok (.iload_n 2, 1) := by decide +kernel
theorem dX9_sheet_24 : decode cX9_sheet 24 = .ok (.bipush 32, 2) := by decide +kernel
theorem dX9_sheet_26 : decode cX9_sheet 26 = .ok (.if_icmp .eq 9, 3) := by decide +kernel
theorem dX9_sheet_29 : decode cX9_sheet 29 = .ok (.aload_n 0, 1) := by decide +kernel
theorem dX9_sheet_30 : decode cX9_sheet 30 = .ok (.iconst 1, 1) := by decide +kernel
theorem dX9_sheet_31 : decode cX9_sheet 31 = .ok (.invokevirtual 58, 3) := by decide +kernel
theorem dX9_sheet_34 : decode cX9_sheet 34 = .ok (.ireturn, 1) := by decide +kernel
theorem dX9_sheet_35 : decode cX9_sheet 35 = .ok (.iload_n 2, 1) := by decide +kernel
theorem dX9_sheet_36 : decode cX9_sheet 36 = .ok (.ifCond .ne 16, 3) := by decide +kernel
theorem dX9_sheet_39 : decode cX9_sheet 39 = .ok (.aload_n 0, 1) := by decide +kernel
theorem dX9_sheet_40 : decode cX9_sheet 40 = .ok (.getfield 45, 3) := by decide +kernel
theorem dX9_sheet_43 : decode cX9_sheet 43 = .ok (.iload_n 1, 1) := by decide +kernel
theorem dX9_sheet_44 : decode cX9_sheet 44 = .ok (.aaload, 1) := by decide +kernel
theorem dX9_sheet_45 : decode cX9_sheet 45 = .ok (.iconst 0, 1) := by decide +kernel
theorem dX9_sheet_46 : decode cX9_sheet 46 = .ok (.iconst 0, 1) := by decide +kernel
theorem dX9_sheet_47 : decode cX9_sheet 47 = .ok (.invokevirtual 263, 3) := by decide +kernel
theorem dX9_sheet_50 : decode cX9_sheet 50 = .ok (.iconst 1, 1) := by decide +kernel
theorem dX9_sheet_51 : decode cX9_sheet 51 = .ok (.ireturn, 1) := by decide +kernel
theorem dX9_sheet_52 : decode cX9_sheet 52 = .ok (.iload_n 3, 1) := by decide +kernel
theorem dX9_sheet_53 : decode cX9_sheet 53 = .ok (.ifCond .ge 9, 3) := by decide +kernel
theorem dX9_sheet_56 : decode cX9_sheet 56 = .ok (.aload_n 0, 1) := by decide +kernel
theorem dX9_sheet_57 : decode cX9_sheet 57 = .ok (.iconst 3, 1) := by decide +kernel
theorem dX9_sheet_58 : decode cX9_sheet 58 = .ok (.invokevirtual 58, 3) := by decide +kernel
theorem dX9_sheet_61 : decode cX9_sheet 61 = .ok (.ireturn, 1) := by decide +kernel
theorem dX9_sheet_62 : decode cX9_sheet 62 = .ok (.iload_n 3, 1) := by decide +kernel
theorem dX9_sheet_63 : decode cX9_sheet 63 = .ok (.bipush 24, 2) := by decide +kernel
theorem dX9_sheet_65 : decode cX9_sheet 65 = .ok (.if_icmp .le 9, 3) := by decide +kernel
theorem dX9_sheet_68 : decode cX9_sheet 68 = .ok (.aload_n 0, 1) := by decide +kernel
theorem dX9_sheet_69 : decode cX9_sheet 69 = .ok (.iconst 1, 1) := by decide +kernel
theorem dX9_sheet_70 : decode cX9_sheet 70 = .ok (.invokevirtual 58, 3) := by decide +kernel
theorem dX9_sheet_73 : decode cX9_sheet 73 = .ok (.ireturn, 1) := by decide +kernel
theorem dX9_sheet_74 : decode cX9_sheet 74 = .ok (.aload_n 0, 1) := by decide +kernel
theorem dX9_sheet_75 : decode cX9_sheet 75 = .ok (.getfield 45, 3) := by decide +kernel
theorem dX9_sheet_78 : decode cX9_sheet 78 = .ok (.iload_n 1, 1) := by decide +kernel
theorem dX9_sheet_79 : decode cX9_sheet 79 = .ok (.aaload, 1) := by decide +kernel
theorem dX9_sheet_80 : decode cX9_sheet 80 = .ok (.iload_n 2, 1) := by decide +kernel
theorem dX9_sheet_81 : decode cX9_sheet 81 = .ok (.iload_n 3, 1) := by decide +kernel
theorem dX9_sheet_82 : decode cX9_sheet 82 = .ok (.invokevirtual 263, 3) := by decide +kernel
theorem dX9_sheet_85 : decode cX9_sheet 85 = .ok (.iconst 1, 1) := by decide +kernel
theorem dX9_sheet_86 : decode cX9_sheet 86 = .ok (.ireturn, 1) := by decide +kernel
theorem dX9_put_0 : decode cX9_put 0 = .ok (.iload_n 1, 1) := by decide +kernel
theorem dX9_put_1 : decode cX9_put 1 = .ok (.invokestatic 260, 3) := by decide +kernel
theorem dX9_put_4 : decode cX9_put 4 = .ok (.ifCond .eq 9, 3) := by decide +kernel
theorem dX9_put_7 : decode cX9_put 7 = .ok (.aload_n 0, 1) := by decide +kernel
theorem dX9_put_8 : decode cX9_put 8 = .ok (.iconst 1, 1) := by decide +kernel
theorem dX9_put_9 : decode cX9_put 9 = .ok (.invokevirtual 58, 3) := by decide +kernel
theorem dX9_put_12 : decode cX9_put 12 = .ok (.ireturn, 1) := by decide +kernel
theorem dX9_put_13 : decode cX9_put 13 = .ok (.aload_n 0, 1) := by decide +kernel
theorem dX9_put_14 : decode cX9_put 14 = .ok (.getfield 45, 3) := by decide +kernel
theorem dX9_put_17 : decode cX9_put 17 = .ok (.iload_n 1, 1) := by decide +kernel
theorem dX9_put_18 : decode cX9_put 18 = .ok (.aaload, 1) := by decide +kernel
theorem dX9_put_19 : decode cX9_put 19 = .ok (.astore 4, 2) := by decide +kernel
theorem dX9_put_21 : decode cX9_put 21 = .ok (.aload 4, 2) := by decide +kernel
theorem dX9_put_23 : decode cX9_put 23 = .ok (.invokevirtual 266, 3) := by decide +kernel
theorem dX9_put_26 : decode cX9_put 26 = .ok (.ifCond .eq 9, 3) := by decide +kernel
theorem dX9_put_29 : decode cX9_put 29 = .ok (.aload_n 0, 1) := by decide +kernel
theorem dX9_put_30 : decode cX9_put 30 = .ok (.iconst 2, 1) := by decide +kernel
theorem dX9_put_31 : decode cX9_put 31 = .ok (.invokevirtual 58, 3) := by decide +kernel
theorem dX9_put_34 : decode cX9_put 34 = .ok (.ireturn, 1) := by decide +kernel
theorem dX9_put_35 : decode cX9_put 35 = .ok (.iload_n 2, 1) := by decide +kernel
theorem dX9_put_36 : decode cX9_put 36 = .ok (.iconst 0, 1) := by decide +kernel
theorem dX9_put_37 : decode cX9_put 37 = .ok (.aload 4, 2) := by decide +kernel
theorem dX9_put_39 : decode cX9_put 39 = .ok (.getfield 269, 3) := by decide +kernel
theorem dX9_put_42 : decode cX9_put 42 = .ok (.iconst 1, 1) := by decide +kernel
theorem dX9_put_43 : decode cX9_put 43 = .ok (.isub, 1) := by decide +kernel
theorem dX9_put_44 : decode cX9_put 44 = .ok (.invokestatic 54, 3) := by decide +kernel
theorem dX9_put_47 : decode cX9_put 47 = .ok (.ifCond .eq 9, 3) := by decide +kernel
theorem dX9_put_50 : decode cX9_put 50 = .ok (.aload_n 0, 1) := by decide +kernel
theorem dX9_put_51 : decode cX9_put 51 = .ok (.iconst 1, 1) := by decide +kernel
theorem dX9_put_52 : decode cX9_put 52 = .ok (.invokevirtual 58, 3) := by decide +kernel
theorem dX9_put_55 : decode cX9_put 55 = .ok (.ireturn, 1) := by decide +kernel
theorem dX9_put_56 : decode cX9_put 56 = .ok (.aload 4, 2) := by decide +kernel
theorem dX9_put_58 : decode cX9_put 58 = .ok (.iload_n 2, 1) := by decide +kernel
theorem dX9_put_59 : decode cX9_put 59 = .ok (.iload_n 3, 1) := by decide +kernel
theorem dX9_put_60 : decode cX9_put 60 = .ok (.invokevirtual 270, 3) := by decide +kernel
theorem dX9_put_63 : decode cX9_put 63 = .ok (.iconst 1, 1) := by decide +kernel
theorem dX9_put_64 : decode cX9_put 64 = .ok (.ireturn, 1) := by decide +kernel
theorem dX9_move_0 : decode cX9_move 0 = .ok (.iload_n 1, 1) := by decide +kernel
theorem dX9_move_1 : decode cX9_move 1 = .ok (.invokestatic 260, 3) := by decide +kernel
theorem dX9_move_4 : decode cX9_move 4 = .ok (.ifCond .ne 10, 3) := by decide +kernel
theorem dX9_move_7 : decode cX9_move 7 = .ok (.iload_n 3, 1) := by decide +kernel
theorem dX9_move_8 : decode cX9_move 8 = .ok (.invokestatic 260, 3) := by decide +kernel
theorem dX9_move_11 : decode cX9_move 11 = .ok (.ifCond .eq 9, 3) := by decide +kernel
theorem dX9_move_14 : decode cX9_move 14 = .ok (.aload_n 0, 1) := by decide +kernel
theorem dX9_move_15 : decode cX9_move 15 = .ok (.iconst 1, 1) := by decide +kernel
theorem dX9_move_16 : decode cX9_move 16 = .ok (.invokevirtual 58, 3) := by decide +kernel
theorem dX9_move_19 : decode cX9_move 19 = .ok (.ireturn, 1) := by decide +kernel
theorem dX9_move_20 : decode cX9_move 20 = .ok (.aload_n 0, 1) := by decide +kernel
theorem dX9_move_21 : decode cX9_move 21 = .ok (.getfield 45, 3) := by decide +kernel
theorem dX9_move_24 : decode cX9_move 24 = .ok (.iload_n 1, 1) := by decide +kernel
theorem dX9_move_25 : decode cX9_move 25 = .ok (.aaload, 1) := by decide +kernel
theorem dX9_move_26 : decode cX9_move 26 = .ok (.astore 6, 2) := by decide +kernel
theorem dX9_move_28 : decode cX9_move 28 = .ok (.aload_n 0, 1) := by decide +kernel
theorem dX9_move_29 : decode cX9_move 29 = .ok (.getfield 45, 3) := by decide +kernel
theorem dX9_move_32 : decode cX9_move 32 = .ok (.iload_n 3, 1) := by decide +kernel
theorem dX9_move_33 : decode cX9_move 33 = .ok (.aaload, 1) := by decide +kernel
theorem dX9_move_34 : decode cX9_move 34 = .ok (.astore 7, 2) := by decide +kernel
theorem dX9_move_36 : decode cX9_move 36 = .ok (.aload 6, 2) := by decide +kernel
theorem dX9_move_38 : decode cX9_move 38 = .ok (.invokevirtual 266, 3) := by decide +kernel
theorem dX9_move_41 : decode cX9_move 41 = .ok (.ifCond .ne 11, 3) := by decide +kernel
theorem dX9_move_44 : decode cX9_move 44 = .ok (.aload 7, 2) := by decide +kernel
theorem dX9_move_46 : decode cX9_move 46 = .ok (.invokevirtual 266, 3) := by decide +kernel
theorem dX9_move_49 : decode cX9_move 49 = .ok (.ifCond .eq 9, 3) := by decide +kernel
theorem dX9_move_52 : decode cX9_move 52 = .ok (.aload_n 0, 1) := by decide +kernel
theorem dX9_move_53 : decode cX9_move 53 = .ok (.iconst 2, 1) := by decide +kernel
theorem dX9_move_54 : decode cX9_move 54 = .ok (.invokevirtual 58, 3) := by decide +kernel
theorem dX9_move_57 : decode cX9_move 57 = .ok (.ireturn, 1) := by decide +kernel
theorem dX9_move_58 : decode cX9_move 58 = .ok (.aload 6, 2) := by decide +kernel
theorem dX9_move_60 : decode cX9_move 60 = .ok (.getfield 273, 3) := by decide +kernel
theorem dX9_move_63 : decode cX9_move 63 = .ok (.aload 7, 2) := by decide +kernel
theorem dX9_move_65 : decode cX9_move 65 = .ok (.getfield 273, 3) := by decide +kernel
theorem dX9_move_68 : decode cX9_move 68 = .ok (.if_icmp .eq 9, 3) := by decide +kernel
theorem dX9_move_71 : decode cX9_move 71 = .ok (.aload_n 0, 1) := by decide +kernel
theorem dX9_move_72 : decode cX9_move 72 = .ok (.iconst 5, 1) := by decide +kernel
theorem dX9_move_73 : decode cX9_move 73 = .ok (.invokevirtual 58, 3) := by decide +kernel
theorem dX9_move_76 : decode cX9_move 76 = .ok (.ireturn, 1) := by decide +kernel
theorem dX9_move_77 : decode cX9_move 77 = .ok (.aload 6, 2) := by decide +kernel
theorem dX9_move_79 : decode cX9_move 79 = .ok (.iload_n 2, 1) := by decide +kernel
theorem dX9_move_80 : decode cX9_move 80 = .ok (.iload 5, 2) := by decide +kernel
theorem dX9_move_82 : decode cX9_move 82 = .ok (.invokevirtual 276, 3) := by decide +kernel
theorem dX9_move_85 : decode cX9_move 85 = .ok (.ifCond .eq 15, 3) := by decide +kernel
theorem dX9_move_88 : decode cX9_move 88 = .ok (.aload 7, 2) := by decide +kernel
theorem dX9_move_90 : decode cX9_move 90 = .ok (.iload 4, 2) := by decide +kernel
theorem dX9_move_92 : decode cX9_move 92 = .ok (.iload 5, 2) := by decide +kernel
theorem dX9_move_94 : decode cX9_move 94 = .ok (.invokevirtual 276, 3) := by decide +kernel
theorem dX9_move_97 : decode cX9_move 97 = .ok (.ifCond .ne 9, 3) := by decide +kernel
theorem dX9_move_100 : decode cX9_move 100 = .ok (.aload_n 0, 1) := by decide +kernel
theorem dX9_move_101 : decode cX9_move 101 = .ok (.iconst 1, 1) := by decide +kernel
theorem dX9_move_102 : decode cX9_move 102 = .ok (.invokevirtual 58, 3) := by decide +kernel
theorem dX9_move_105 : decode cX9_move 105 = .ok (.ireturn, 1) := by decide +kernel
theorem dX9_move_106 : decode cX9_move 106 = .ok (.aload 6, 2) := by decide +kernel
theorem dX9_move_108 : decode cX9_move 108 = .ok (.getfield 280, 3) := by decide +kernel
theorem dX9_move_111 : decode cX9_move 111 = .ok (.iload_n 2, 1) := by decide +kernel
theorem dX9_move_112 : decode cX9_move 112 = .ok (.aload 7, 2) := by decide +kernel
theorem dX9_move_114 : decode cX9_move 114 = .ok (.getfield 280, 3) := by decide +kernel
theorem dX9_move_117 : decode cX9_move 117 = .ok (.iload 4, 2) := by decide +kernel
theorem dX9_move_119 : decode cX9_move 119 = .ok (.iload 5, 2) := by decide +kernel
theorem dX9_move_121 : decode cX9_move 121 = .ok (.invokestatic 281, 3) := by decide +kernel
theorem dX9_move_124 : decode cX9_move 124 = .ok (.iload 5, 2) := by decide +kernel
theorem dX9_move_126 : decode cX9_move 126 = .ok (.ireturn, 1) := by decide +kernel
theorem dX9_slips_0 : decode cX9_slips 0 = .ok (.iload_n 1, 1) := by decide +kernel
theorem dX9_slips_1 : decode cX9_slips 1 = .ok (.invokestatic 260, 3) := by decide +kernel
theorem dX9_slips_4 : decode cX9_slips 4 = .ok (.ifCond .ne 11, 3) := by decide +kernel
theorem dX9_slips_7 : decode cX9_slips 7 = .ok (.aload_n 0, 1) := by decide +kernel
theorem dX9_slips_8 : decode cX9_slips 8 = .ok (.iload_n 2, 1) := by decide +kernel
theorem dX9_slips_9 : decode cX9_slips 9 = .ok (.invokevirtual 84, 3) := by decide +kernel
theorem dX9_slips_12 : decode cX9_slips 12 = .ok (.ifCond .eq 9, 3) := by decide +kernel
theorem dX9_slips_15 : decode cX9_slips 15 = .ok (.aload_n 0, 1) := by decide +kernel
theorem dX9_slips_16 : decode cX9_slips 16 = .ok (.iconst 1, 1) := by decide +kernel
theorem dX9_slips_17 : decode cX9_slips 17 = .ok (.invokevirtual 58, 3) := by decide +kernel
theorem dX9_slips_20 : decode cX9_slips 20 = .ok (.ireturn, 1) := by decide +kernel
theorem dX9_slips_21 : decode cX9_slips 21 = .ok (.aload_n 0, 1) := by decide +kernel
theorem dX9_slips_22 : decode cX9_slips 22 = .ok (.getfield 45, 3) := by decide +kernel
theorem dX9_slips_25 : decode cX9_slips 25 = .ok (.iload_n 1, 1) := by decide +kernel
theorem dX9_slips_26 : decode cX9_slips 26 = .ok (.aaload, 1) := by decide +kernel
theorem dX9_slips_27 : decode cX9_slips 27 = .ok (.astore_n 3, 1) := by decide +kernel
theorem dX9_slips_28 : decode cX9_slips 28 = .ok (.aload_n 3, 1) := by decide +kernel
theorem dX9_slips_29 : decode cX9_slips 29 = .ok (.invokevirtual 266, 3) := by decide +kernel
theorem dX9_slips_32 : decode cX9_slips 32 = .ok (.ifCond .eq 9, 3) := by decide +kernel
theorem dX9_slips_35 : decode cX9_slips 35 = .ok (.aload_n 0, 1) := by decide +kernel
theorem dX9_slips_36 : decode cX9_slips 36 = .ok (.iconst 2, 1) := by decide +kernel
theorem dX9_slips_37 : decode cX9_slips 37 = .ok (.invokevirtual 58, 3) := by decide +kernel
theorem dX9_slips_40 : decode cX9_slips 40 = .ok (.ireturn, 1) := by decide +kernel
theorem dX9_slips_41 : decode cX9_slips 41 = .ok (.aload_n 3, 1) := by decide +kernel
theorem dX9_slips_42 : decode cX9_slips 42 = .ok (.getfield 269, 3) := by decide +kernel
theorem dX9_slips_45 : decode cX9_slips 45 = .ok (.aload_n 0, 1) := by decide +kernel
theorem dX9_slips_46 : decode cX9_slips 46 = .ok (.getfield 10, 3) := by decide +kernel
theorem dX9_slips_49 : decode cX9_slips 49 = .ok (.getfield 62, 3) := by decide +kernel
theorem dX9_slips_52 : decode cX9_slips 52 = .ok (.invokestatic 287, 3) := by decide +kernel
theorem dX9_slips_55 : decode cX9_slips 55 = .ok (.istore 4, 2) := by decide +kernel
theorem dX9_slips_57 : decode cX9_slips 57 = .ok (.iconst 0, 1) := by decide +kernel
theorem dX9_slips_58 : decode cX9_slips 58 = .ok (.istore 5, 2) := by decide +kernel
theorem dX9_slips_60 : decode cX9_slips 60 = .ok (.iload 5, 2) := by decide +kernel
theorem dX9_slips_62 : decode cX9_slips 62 = .ok (.iload 4, 2) := by decide +kernel
theorem dX9_slips_64 : decode cX9_slips 64 = .ok (.if_icmp .ge 55, 3) := by decide +kernel
theorem dX9_slips_67 : decode cX9_slips 67 = .ok (.aload_n 3, 1) := by decide +kernel
theorem dX9_slips_68 : decode cX9_slips 68 = .ok (.getfield 280, 3) := by decide +kernel
theorem dX9_slips_71 : decode cX9_slips 71 = .ok (.iload 5, 2) := by decide +kernel
theorem dX9_slips_73 : decode cX9_slips 73 = .ok (.iaload, 1) := by decide +kernel
theorem dX9_slips_74 : decode cX9_slips 74 = .ok (.istore 6, 2) := by decide +kernel
theorem dX9_slips_76 : decode cX9_slips 76 = .ok (.iload 5, 2) := by decide +kernel
theorem dX9_slips_78 : decode cX9_slips 78 = .ok (.iload_n 2, 1) := by decide +kernel
theorem dX9_slips_79 : decode cX9_slips 79 = .ok (.if_icmp .eq 34, 3) := by decide +kernel
theorem dX9_slips_82 : decode cX9_slips 82 = .ok (.iload 6, 2) := by decide +kernel
theorem dX9_slips_84 : decode cX9_slips 84 = .ok (.iconst 0, 1) := by decide +kernel
theorem dX9_slips_85 : decode cX9_slips 85 = .ok (.bipush 99, 2) := by decide +kernel
theorem dX9_slips_87 : decode cX9_slips 87 = .ok (.invokestatic 54, 3) := by decide +kernel
theorem dX9_slips_90 : decode cX9_slips 90 = .ok (.ifCond .eq 6, 3) := by decide +kernel
theorem dX9_slips_93 : decode cX9_slips 93 = .ok (.iload 5, 2) := by decide +kernel
theorem dX9_slips_95 : decode cX9_slips 95 = .ok (.ireturn, 1) := by decide +kernel
theorem dX9_slips_96 : decode cX9_slips 96 = .ok (.aload_n 0, 1) := by decide +kernel
theorem dX9_slips_97 : decode cX9_slips 97 = .ok (.getfield 10, 3) := by decide +kernel
theorem dX9_slips_100 : decode cX9_slips 100 = .ok (.getfield 66, 3) := by decide +kernel
theorem dX9_slips_103 : decode cX9_slips 103 = .ok (.iload_n 2, 1) := by decide +kernel
theorem dX9_slips_104 : decode cX9_slips 104 = .ok (.aaload, 1) := by decide +kernel
theorem dX9_slips_105 : decode cX9_slips 105 = .ok (.getfield 98, 3) := by decide +kernel
theorem dX9_slips_108 : decode cX9_slips 108 = .ok (.iload 5, 2) := by decide +kernel
theorem dX9_slips_110 : decode cX9_slips 110 = .ok (.iload 6, 2) := by decide +kernel
theorem dX9_slips_112 : decode cX9_slips 112 = .ok (.iastore, 1) := by decide +kernel
theorem dX9_slips_113 : decode cX9_slips 113 = .ok (.iinc 5 1, 3) := by decide +kernel
theorem dX9_slips_116 : decode cX9_slips 116 = .ok (.goto (-56), 3) := by decide +kernel
theorem dX9_slips_119 : decode cX9_slips 119 = .ok (.iload 4, 2) := by decide +kernel
theorem dX9_slips_121 : decode cX9_slips 121 = .ok (.ireturn, 1) := by decide +kernel
theorem dX9_film_0 : decode cX9_film 0 = .ok (.iload_n 1, 1) := by decide +kernel
theorem dX9_film_1 : decode cX9_film 1 = .ok (.invokestatic 260, 3) := by decide +kernel
theorem dX9_film_4 : decode cX9_film 4 = .ok (.ifCond .ne 10, 3) := by decide +kernel
theorem dX9_film_7 : decode cX9_film 7 = .ok (.iload_n 2, 1) := by decide +kernel
theorem dX9_film_8 : decode cX9_film 8 = .ok (.invokestatic 229, 3) := by decide +kernel
theorem dX9_film_11 : decode cX9_film 11 = .ok (.ifCond .eq 9, 3) := by decide +kernel
theorem dX9_film_14 : decode cX9_film 14 = .ok (.aload_n 0, 1) := by decide +kernel
theorem dX9_film_15 : decode cX9_film 15 = .ok (.iconst 1, 1) := by decide +kernel
theorem dX9_film_16 : decode cX9_film 16 = .ok (.invokevirtual 58, 3) := by decide +kernel
theorem dX9_film_19 : decode cX9_film 19 = .ok (.ireturn, 1) := by decide +kernel
theorem dX9_film_20 : decode cX9_film 20 = .ok (.aload_n 0, 1) := by decide +kernel
theorem dX9_film_21 : decode cX9_film 21 = .ok (.getfield 45, 3) := by decide +kernel
theorem dX9_film_24 : decode cX9_film 24 = .ok (.iload_n 1, 1) := by decide +kernel
theorem dX9_film_25 : decode cX9_film 25 = .ok (.aaload, 1) := by decide +kernel
theorem dX9_film_26 : decode cX9_film 26 = .ok (.astore_n 3, 1) := by decide +kernel
theorem dX9_film_27 : decode cX9_film 27 = .ok (.aload_n 3, 1) := by decide +kernel
theorem dX9_film_28 : decode cX9_film 28 = .ok (.invokevirtual 266, 3) := by decide +kernel
theorem dX9_film_31 : decode cX9_film 31 = .ok (.ifCond .eq 9, 3) := by decide +kernel
theorem dX9_film_34 : decode cX9_film 34 = .ok (.aload_n 0, 1) := by decide +kernel
theorem dX9_film_35 : decode cX9_film 35 = .ok (.iconst 2, 1) := by decide +kernel
theorem dX9_film_36 : decode cX9_film 36 = .ok (.invokevirtual 58, 3) := by decide +kernel
theorem dX9_film_39 : decode cX9_film 39 = .ok (.ireturn, 1) := by decide +kernel
theorem dX9_film_40 : decode cX9_film 40 = .ok (.aload_n 0, 1) := by decide +kernel
theorem dX9_film_41 : decode cX9_film 41 = .ok (.getfield 16, 3) := by decide +kernel
theorem dX9_film_44 : decode cX9_film 44 = .ok (.aload_n 0, 1) := by decide +kernel
theorem dX9_film_45 : decode cX9_film 45 = .ok (.getfield 10, 3) := by decide +kernel
theorem dX9_film_48 : decode cX9_film 48 = .ok (.invokevirtual 232, 3) := by decide +kernel
theorem dX9_film_51 : decode cX9_film 51 = .ok (.aload_n 0, 1) := by decide +kernel
theorem dX9_film_52 : decode cX9_film 52 = .ok (.getfield 16, 3) := by decide +kernel
theorem dX9_film_55 : decode cX9_film 55 = .ok (.iload_n 2, 1) := by decide +kernel
theorem dX9_film_56 : decode cX9_film 56 = .ok (.invokevirtual 192, 3) := by decide +kernel
theorem dX9_film_59 : decode cX9_film 59 = .ok (.aload_n 3, 1) := by decide +kernel
theorem dX9_film_60 : decode cX9_film 60 = .ok (.getfield 269, 3) := by decide +kernel
theorem dX9_film_63 : decode cX9_film 63 = .ok (.aload_n 0, 1) := by decide +kernel
theorem dX9_film_64 : decode cX9_film 64 = .ok (.getfield 16, 3) := by decide +kernel
theorem dX9_film_67 : decode cX9_film 67 = .ok (.getfield 62, 3) := by decide +kernel
theorem dX9_film_70 : decode cX9_film 70 = .ok (.invokestatic 287, 3) := by decide +kernel
theorem dX9_film_73 : decode cX9_film 73 = .ok (.istore 4, 2) := by decide +kernel
theorem dX9_film_75 : decode cX9_film 75 = .ok (.iconst 0, 1) := by decide +kernel
theorem dX9_film_76 : decode cX9_film 76 = .ok (.istore 5, 2) := by decide +kernel
theorem dX9_film_78 : decode cX9_film 78 = .ok (.iload 5, 2) := by decide +kernel
theorem dX9_film_80 : decode cX9_film 80 = .ok (.iload 4, 2) := by decide +kernel
theorem dX9_film_82 : decode cX9_film 82 = .ok (.if_icmp .ge 35, 3) := by decide +kernel
theorem dX9_film_85 : decode cX9_film 85 = .ok (.aload_n 3, 1) := by decide +kernel
theorem dX9_film_86 : decode cX9_film 86 = .ok (.getfield 280, 3) := by decide +kernel
theorem dX9_film_89 : decode cX9_film 89 = .ok (.iload 5, 2) := by decide +kernel
theorem dX9_film_91 : decode cX9_film 91 = .ok (.iaload, 1) := by decide +kernel
theorem dX9_film_92 : decode cX9_film 92 = .ok (.aload_n 0, 1) := by decide +kernel
theorem dX9_film_93 : decode cX9_film 93 = .ok (.getfield 16, 3) := by decide +kernel
theorem dX9_film_96 : decode cX9_film 96 = .ok (.getfield 66, 3) := by decide +kernel
theorem dX9_film_99 : decode cX9_film 99 = .ok (.iload 5, 2) := by decide +kernel
theorem dX9_film_101 : decode cX9_film 101 = .ok (.aaload, 1) := by decide +kernel
theorem dX9_film_102 : decode cX9_film 102 = .ok (.getfield 128, 3) := by decide +kernel
theorem dX9_film_105 : decode cX9_film 105 = .ok (.if_icmp .eq 6, 3) := by decide +kernel
theorem dX9_film_108 : decode cX9_film 108 = .ok (.iload 5, 2) := by decide +kernel
theorem dX9_film_110 : decode cX9_film 110 = .ok (.ireturn, 1) := by decide +kernel
theorem dX9_film_111 : decode cX9_film 111 = .ok (.iinc 5 1, 3) := by decide +kernel
theorem dX9_film_114 : decode cX9_film 114 = .ok (.goto (-36), 3) := by decide +kernel
theorem dX9_film_117 : decode cX9_film 117 = .ok (.iload 4, 2) := by decide +kernel
theorem dX9_film_119 : decode cX9_film 119 = .ok (.ireturn, 1) := by decide +kernel
theorem dX9_image_0 : decode cX9_image 0 = .ok (.aload_n 0, 1) := by decide +kernel
theorem dX9_image_1 : decode cX9_image 1 = .ok (.getfield 19, 3) := by decide +kernel
theorem dX9_image_4 : decode cX9_image 4 = .ok (.aload_n 0, 1) := by decide +kernel
theorem dX9_image_5 : decode cX9_image 5 = .ok (.getfield 10, 3) := by decide +kernel
theorem dX9_image_8 : decode cX9_image 8 = .ok (.invokevirtual 232, 3) := by decide +kernel
theorem dX9_image_11 : decode cX9_image 11 = .ok (.aload_n 0, 1) := by decide +kernel
theorem dX9_image_12 : decode cX9_image 12 = .ok (.dup, 1) := by decide +kernel
theorem dX9_image_13 : decode cX9_image 13 = .ok (.getfield 292, 3) := by decide +kernel
theorem dX9_image_16 : decode cX9_image 16 = .ok (.iconst 1, 1) := by decide +kernel
theorem dX9_image_17 : decode cX9_image 17 = .ok (.iadd, 1) := by decide +kernel
theorem dX9_image_18 : decode cX9_image 18 = .ok (.putfield 292, 3) := by decide +kernel
theorem dX9_image_21 : decode cX9_image 21 = .ok (.aload_n 0, 1) := by decide +kernel
theorem dX9_image_22 : decode cX9_image 22 = .ok (.getfield 292, 3) := by decide +kernel
theorem dX9_image_25 : decode cX9_image 25 = .ok (.ireturn, 1) := by decide +kernel
theorem dX9_restore_0 : decode cX9_restore 0 = .ok (.aload_n 0, 1) := by decide +kernel
theorem dX9_restore_1 : decode cX9_restore 1 = .ok (.getfield 292, 3) := by decide +kernel
theorem dX9_restore_4 : decode cX9_restore 4 = .ok (.ifCond .ne 9, 3) := by decide +kernel
theorem dX9_restore_7 : decode cX9_restore 7 = .ok (.aload_n 0, 1) := by decide +kernel
theorem dX9_restore_8 : decode cX9_restore 8 = .ok (.iconst 2, 1) := by decide +kernel
theorem dX9_restore_9 : decode cX9_restore 9 = .ok (.invokevirtual 58, 3) := by decide +kernel
theorem dX9_restore_12 : decode cX9_restore 12 = .ok (.ireturn, 1) := by decide +kernel
theorem dX9_restore_13 : decode cX9_restore 13 = .ok (.aload_n 0, 1) := by decide +kernel
theorem dX9_restore_14 : decode cX9_restore 14 = .ok (.getfield 10, 3) := by decide +kernel
theorem dX9_restore_17 : decode cX9_restore 17 = .ok (.aload_n 0, 1) := by decide +kernel
theorem dX9_restore_18 : decode cX9_restore 18 = .ok (.getfield 19, 3) := by decide +kernel
theorem dX9_restore_21 : decode cX9_restore 21 = .ok (.invokevirtual 232, 3) := by decide +kernel
theorem dX9_restore_24 : decode cX9_restore 24 = .ok (.aload_n 0, 1) := by decide +kernel
theorem dX9_restore_25 : decode cX9_restore 25 = .ok (.getfield 10, 3) := by decide +kernel
theorem dX9_restore_28 : decode cX9_restore 28 = .ok (.getfield 188, 3) := by decide +kernel
theorem dX9_restore_31 : decode cX9_restore 31 = .ok (.ireturn, 1) := by decide +kernel
theorem dX9_tell_0 : decode cX9_tell 0 = .ok (.aload_n 0, 1) := by decide +kernel
theorem dX9_tell_1 : decode cX9_tell 1 = .ok (.getfield 10, 3) := by decide +kernel
theorem dX9_tell_4 : decode cX9_tell 4 = .ok (.getfield 295, 3) := by decide +kernel
theorem dX9_tell_7 : decode cX9_tell 7 = .ok (.getfield 153, 3) := by decide +kernel
theorem dX9_tell_10 : decode cX9_tell 10 = .ok (.bipush 24, 2) := by decide +kernel
theorem dX9_tell_12 : decode cX9_tell 12 = .ok (.if_icmp .lt 9, 3) := by decide +kernel
theorem dX9_tell_15 : decode cX9_tell 15 = .ok (.aload_n 0, 1) := by decide +kernel
theorem dX9_tell_16 : decode cX9_tell 16 = .ok (.iconst 4, 1) := by decide +kernel
theorem dX9_tell_17 : decode cX9_tell 17 = .ok (.invokevirtual 58, 3) := by decide +kernel
theorem dX9_tell_20 : decode cX9_tell 20 = .ok (.ireturn, 1) := by decide +kernel
theorem dX9_tell_21 : decode cX9_tell 21 = .ok (.aload_n 0, 1) := by decide +kernel
theorem dX9_tell_22 : decode cX9_tell 22 = .ok (.getfield 10, 3) := by decide +kernel
theorem dX9_tell_25 : decode cX9_tell 25 = .ok (.getfield 295, 3) := by decide +kernel
theorem dX9_tell_28 : decode cX9_tell 28 = .ok (.iload_n 1, 1) := by decide +kernel
theorem dX9_tell_29 : decode cX9_tell 29 = .ok (.invokevirtual 157, 3) := by decide +kernel
theorem dX9_tell_32 : decode cX9_tell 32 = .ok (.aload_n 0, 1) := by decide +kernel
theorem dX9_tell_33 : decode cX9_tell 33 = .ok (.getfield 10, 3) := by decide +kernel
theorem dX9_tell_36 : decode cX9_tell 36 = .ok (.getfield 295, 3) := by decide +kernel
theorem dX9_tell_39 : decode cX9_tell 39 = .ok (.getfield 153, 3) := by decide +kernel
theorem dX9_tell_42 : decode cX9_tell 42 = .ok (.ireturn, 1) := by decide +kernel
theorem dX9_check_0 : decode cX9_check 0 = .ok (.aload_n 0, 1) := by decide +kernel
theorem dX9_check_1 : decode cX9_check 1 = .ok (.getfield 10, 3) := by decide +kernel
theorem dX9_check_4 : decode cX9_check 4 = .ok (.getfield 295, 3) := by decide +kernel
theorem dX9_check_7 : decode cX9_check 7 = .ok (.getfield 153, 3) := by decide +kernel
theorem dX9_check_10 : decode cX9_check 10 = .ok (.istore_n 2, 1) := by decide +kernel
theorem dX9_check_11 : decode cX9_check 11 = .ok (.aload_n 0, 1) := by decide +kernel
theorem dX9_check_12 : decode cX9_check 12 = .ok (.getfield 10, 3) := by decide +kernel
theorem dX9_check_15 : decode cX9_check 15 = .ok (.getfield 295, 3) := by decide +kernel
theorem dX9_check_18 : decode cX9_check 18 = .ok (.iconst 0, 1) := by decide +kernel
theorem dX9_check_19 : decode cX9_check 19 = .ok (.putfield 153, 3) := by decide +kernel
theorem dX9_check_22 : decode cX9_check 22 = .ok (.aload_n 0, 1) := by decide +kernel
theorem dX9_check_23 : decode cX9_check 23 = .ok (.iload_n 1, 1) := by decide +kernel
theorem dX9_check_24 : decode cX9_check 24 = .ok (.invokevirtual 116, 3) := by decide +kernel
theorem dX9_check_27 : decode cX9_check 27 = .ok (.ifCond .eq 9, 3) := by decide +kernel
theorem dX9_check_30 : decode cX9_check 30 = .ok (.aload_n 0, 1) := by decide +kernel
theorem dX9_check_31 : decode cX9_check 31 = .ok (.iconst 1, 1) := by decide +kernel
theorem dX9_check_32 : decode cX9_check 32 = .ok (.invokevirtual 58, 3) := by decide +kernel
theorem dX9_check_35 : decode cX9_check 35 = .ok (.ireturn, 1) := by decide +kernel
theorem dX9_check_36 : decode cX9_check 36 = .ok (.aload_n 0, 1) := by decide +kernel
theorem dX9_check_37 : decode cX9_check 37 = .ok (.getfield 10, 3) := by decide +kernel
theorem dX9_check_40 : decode cX9_check 40 = .ok (.getfield 104, 3) := by decide +kernel
theorem dX9_check_43 : decode cX9_check 43 = .ok (.iload_n 1, 1) := by decide +kernel
theorem dX9_check_44 : decode cX9_check 44 = .ok (.aaload, 1) := by decide +kernel
theorem dX9_check_45 : decode cX9_check 45 = .ok (.getfield 122, 3) := by decide +kernel
theorem dX9_check_48 : decode cX9_check 48 = .ok (.istore_n 3, 1) := by decide +kernel
theorem dX9_check_49 : decode cX9_check 49 = .ok (.iconst 0, 1) := by decide +kernel
theorem dX9_check_50 : decode cX9_check 50 = .ok (.istore 4, 2) := by decide +kernel
theorem dX9_check_52 : decode cX9_check 52 = .ok (.iconst 0, 1) := by decide +kernel
theorem dX9_check_53 : decode cX9_check 53 = .ok (.istore 5, 2) := by decide +kernel
theorem dX9_check_55 : decode cX9_check 55 = .ok (.iload 5, 2) := by decide +kernel
theorem dX9_check_57 : decode cX9_check 57 = .ok (.aload_n 0, 1) := by decide +kernel
theorem dX9_check_58 : decode cX9_check 58 = .ok (.getfield 10, 3) := by decide +kernel
theorem dX9_check_61 : decode cX9_check 61 = .ok (.getfield 62, 3) := by decide +kernel
theorem dX9_check_64 : decode cX9_check 64 = .ok (.if_icmp .ge 50, 3) := by decide +kernel
theorem dX9_check_67 : decode cX9_check 67 = .ok (.iload_n 3, 1) := by decide +kernel
theorem dX9_check_68 : decode cX9_check 68 = .ok (.iload 5, 2) := by decide +kernel
theorem dX9_check_70 : decode cX9_check 70 = .ok (.ishr, 1) := by decide +kernel
theorem dX9_check_71 : decode cX9_check 71 = .ok (.iconst 1, 1) := by decide +kernel
theorem dX9_check_72 : decode cX9_check 72 = .ok (.iand, 1) := by decide +kernel
theorem dX9_check_73 : decode cX9_check 73 = .ok (.ifCond .eq 35, 3) := by decide +kernel
theorem dX9_check_76 : decode cX9_check 76 = .ok (.iload 4, 2) := by decide +kernel
theorem dX9_check_78 : decode cX9_check 78 = .ok (.iload_n 2, 1) := by decide +kernel
theorem dX9_check_79 : decode cX9_check 79 = .ok (.if_icmp .ge 21, 3) := by decide +kernel
theorem dX9_check_82 : decode cX9_check 82 = .ok (.aload_n 0, 1) := by decide +kernel
theorem dX9_check_83 : decode cX9_check 83 = .ok (.getfield 10, 3) := by decide +kernel
theorem dX9_check_86 : decode cX9_check 86 = .ok (.getfield 295, 3) := by decide +kernel
theorem dX9_check_89 : decode cX9_check 89 = .ok (.getfield 257, 3) := by decide +kernel
theorem dX9_check_92 : decode cX9_check 92 = .ok (.iload 4, 2) := by decide +kernel
theorem dX9_check_94 : decode cX9_check 94 = .ok (.iaload, 1) := by decide +kernel
theorem dX9_check_95 : decode cX9_check 95 = .ok (.iload 5, 2) := by decide +kernel
theorem dX9_check_97 : decode cX9_check 97 = .ok (.if_icmp .eq 8, 3) := by decide +kernel
theorem dX9_check_100 : decode cX9_check 100 = .ok (.iconst 1, 1) := by decide +kernel
theorem dX9_check_101 : decode cX9_check 101 = .ok (.iload 4, 2) := by decide +kernel
theorem dX9_check_103 : decode cX9_check 103 = .ok (.iadd, 1) := by decide +kernel
theorem dX9_check_104 : decode cX9_check 104 = .ok (.ireturn, 1) := by decide +kernel
theorem dX9_check_105 : decode cX9_check 105 = .ok (.iinc 4 1, 3) := by decide +kernel
theorem dX9_check_108 : decode cX9_check 108 = .ok (.iinc 5 1, 3) := by decide +kernel
theorem dX9_check_111 : decode cX9_check 111 = .ok (.goto (-56), 3) := by decide +kernel
theorem dX9_check_114 : decode cX9_check 114 = .ok (.iload 4, 2) := by decide +kernel
theorem dX9_check_116 : decode cX9_check 116 = .ok (.iload_n 2, 1) := by decide +kernel
theorem dX9_check_117 : decode cX9_check 117 = .ok (.if_icmp .ge 10, 3) := by decide +kernel
theorem dX9_check_120 : decode cX9_check 120 = .ok (.iconst 1, 1) := by decide +kernel
theorem dX9_check_121 : decode cX9_check 121 = .ok (.iload 4, 2) := by decide +kernel
theorem dX9_check_123 : decode cX9_check 123 = .ok (.iadd, 1) := by decide +kernel
theorem dX9_check_124 : decode cX9_check 124 = .ok (.goto 4, 3) := by decide +kernel
theorem dX9_check_127 : decode cX9_check 127 = .ok (.iconst 0, 1) := by decide +kernel
theorem dX9_check_128 : decode cX9_check 128 = .ok (.ireturn, 1) := by decide +kernel
theorem dX9_count_0 : decode cX9_count 0 = .ok (.iload_n 1, 1) := by decide +kernel
theorem dX9_count_1 : decode cX9_count 1 = .ok (.tableswitch 132 0 8 #[51, 59, 67, 75, 83, 91, 102, 113, 124], 51) := by decide +kernel
theorem dX9_count_52 : decode cX9_count 52 = .ok (.aload_n 0, 1) := by decide +kernel
theorem dX9_count_53 : decode cX9_count 53 = .ok (.getfield 10, 3) := by decide +kernel
theorem dX9_count_56 : decode cX9_count 56 = .ok (.getfield 62, 3) := by decide +kernel
theorem dX9_count_59 : decode cX9_count 59 = .ok (.ireturn, 1) := by decide +kernel
theorem dX9_count_60 : decode cX9_count 60 = .ok (.aload_n 0, 1) := by decide +kernel
theorem dX9_count_61 : decode cX9_count 61 = .ok (.getfield 10, 3) := by decide +kernel
theorem dX9_count_64 : decode cX9_count 64 = .ok (.getfield 101, 3) := by decide +kernel
theorem dX9_count_67 : decode cX9_count 67 = .ok (.ireturn, 1) := by decide +kernel
theorem dX9_count_68 : decode cX9_count 68 = .ok (.aload_n 0, 1) := by decide +kernel
theorem dX9_count_69 : decode cX9_count 69 = .ok (.getfield 10, 3) := by decide +kernel
theorem dX9_count_72 : decode cX9_count 72 = .ok (.getfield 188, 3) := by decide +kernel
theorem dX9_count_75 : decode cX9_count 75 = .ok (.ireturn, 1) := by decide +kernel
theorem dX9_count_76 : decode cX9_count 76 = .ok (.aload_n 0, 1) := by decide +kernel
theorem dX9_count_77 : decode cX9_count 77 = .ok (.getfield 10, 3) := by decide +kernel
theorem dX9_count_80 : decode cX9_count 80 = .ok (.getfield 198, 3) := by decide +kernel
theorem dX9_count_83 : decode cX9_count 83 = .ok (.ireturn, 1) := by decide +kernel
theorem dX9_count_84 : decode cX9_count 84 = .ok (.aload_n 0, 1) := by decide +kernel
theorem dX9_count_85 : decode cX9_count 85 = .ok (.getfield 10, 3) := by decide +kernel
theorem dX9_count_88 : decode cX9_count 88 = .ok (.invokevirtual 298, 3) := by decide +kernel
theorem dX9_count_91 : decode cX9_count 91 = .ok (.ireturn, 1) := by decide +kernel
theorem dX9_count_92 : decode cX9_count 92 = .ok (.aload_n 0, 1) := by decide +kernel
theorem dX9_count_93 : decode cX9_count 93 = .ok (.getfield 10, 3) := by decide +kernel
theorem dX9_count_96 : decode cX9_count 96 = .ok (.getfield 149, 3) := by decide +kernel
theorem dX9_count_99 : decode cX9_count 99 = .ok (.getfield 153, 3) := by decide +kernel
theorem dX9_count_102 : decode cX9_count 102 = .ok (.ireturn, 1) := by decide +kernel
theorem dX9_count_103 : decode cX9_count 103 = .ok (.aload_n 0, 1) := by decide +kernel
theorem dX9_count_104 : decode cX9_count 104 = .ok (.getfield 10, 3) := by decide +kernel
theorem dX9_count_107 : decode cX9_count 107 = .ok (.getfield 295, 3) := by decide +kernel
theorem dX9_count_110 : decode cX9_count 110 = .ok (.getfield 153, 3) := by decide +kernel
theorem dX9_count_113 : decode cX9_count 113 = .ok (.ireturn, 1) := by decide +kernel
theorem dX9_count_114 : decode cX9_count 114 = .ok (.aload_n 0, 1) := by decide +kernel
theorem dX9_count_115 : decode cX9_count 115 = .ok (.getfield 39, 3) := by decide +kernel
theorem dX9_count_118 : decode cX9_count 118 = .ok (.getfield 254, 3) := by decide +kernel
theorem dX9_count_121 : decode cX9_count 121 = .ok (.getfield 153, 3) := by decide +kernel
theorem dX9_count_124 : decode cX9_count 124 = .ok (.ireturn, 1) := by decide +kernel
theorem dX9_count_125 : decode cX9_count 125 = .ok (.aload_n 0, 1) := by decide +kernel
theorem dX9_count_126 : decode cX9_count 126 = .ok (.getfield 10, 3) := by decide +kernel
theorem dX9_count_129 : decode cX9_count 129 = .ok (.getfield 204, 3) := by decide +kernel
theorem dX9_count_132 : decode cX9_count 132 = .ok (.ireturn, 1) := by decide +kernel
theorem dX9_count_133 : decode cX9_count 133 = .ok (.aload_n 0, 1) := by decide +kernel
theorem dX9_count_134 : decode cX9_count 134 = .ok (.iconst 1, 1) := by decide +kernel
theorem dX9_count_135 : decode cX9_count 135 = .ok (.invokevirtual 58, 3) := by decide +kernel
theorem dX9_count_138 : decode cX9_count 138 = .ok (.ireturn, 1) := by decide +kernel
theorem dX9_told_0 : decode cX9_told 0 = .ok (.iload_n 1, 1) := by decide +kernel
theorem dX9_told_1 : decode cX9_told 1 = .ok (.iconst 1, 1) := by decide +kernel
theorem dX9_told_2 : decode cX9_told 2 = .ok (.bipush 6, 2) := by decide +kernel
theorem dX9_told_4 : decode cX9_told 4 = .ok (.invokestatic 54, 3) := by decide +kernel
theorem dX9_told_7 : decode cX9_told 7 = .ok (.ifCond .eq 11, 3) := by decide +kernel
theorem dX9_told_10 : decode cX9_told 10 = .ok (.aload_n 0, 1) := by decide +kernel
theorem dX9_told_11 : decode cX9_told 11 = .ok (.iconst 1, 1) := by decide +kernel
theorem dX9_told_12 : decode cX9_told 12 = .ok (.invokevirtual 58, 3) := by decide +kernel
theorem dX9_told_15 : decode cX9_told 15 = .ok (.goto 9, 3) := by decide +kernel
theorem dX9_told_18 : decode cX9_told 18 = .ok (.aload_n 0, 1) := by decide +kernel
theorem dX9_told_19 : decode cX9_told 19 = .ok (.getfield 49, 3) := by decide +kernel
theorem dX9_told_22 : decode cX9_told 22 = .ok (.iload_n 1, 1) := by decide +kernel
theorem dX9_told_23 : decode cX9_told 23 = .ok (.iaload, 1) := by decide +kernel
theorem dX9_told_24 : decode cX9_told 24 = .ok (.ireturn, 1) := by decide +kernel
theorem dX9_error_0 : decode cX9_error 0 = .ok (.aload_n 0, 1) := by decide +kernel
theorem dX9_error_1 : decode cX9_error 1 = .ok (.getfield 49, 3) := by decide +kernel
theorem dX9_error_4 : decode cX9_error 4 = .ok (.iload_n 1, 1) := by decide +kernel
theorem dX9_error_5 : decode cX9_error 5 = .ok (.dup2, 1) := by decide +kernel
theorem dX9_error_6 : decode cX9_error 6 = .ok (.iaload, 1) := by decide +kernel
theorem dX9_error_7 : decode cX9_error 7 = .ok (.iconst 1, 1) := by decide +kernel
theorem dX9_error_8 : decode cX9_error 8 = .ok (.iadd, 1) := by decide +kernel
theorem dX9_error_9 : decode cX9_error 9 = .ok (.iastore, 1) := by decide +kernel
theorem dX9_error_10 : decode cX9_error 10 = .ok (.ldc_w 301, 3) := by decide +kernel
theorem dX9_error_13 : decode cX9_error 13 = .ok (.iload_n 1, 1) := by decide +kernel
theorem dX9_error_14 : decode cX9_error 14 = .ok (.isub, 1) := by decide +kernel
theorem dX9_error_15 : decode cX9_error 15 = .ok (.ireturn, 1) := by decide +kernel
theorem dX9_noChild_0 : decode cX9_noChild 0 = .ok (.iload_n 1, 1) := by decide +kernel
theorem dX9_noChild_1 : decode cX9_noChild 1 = .ok (.iconst 0, 1) := by decide +kernel
theorem dX9_noChild_2 : decode cX9_noChild 2 = .ok (.aload_n 0, 1) := by decide +kernel
theorem dX9_noChild_3 : decode cX9_noChild 3 = .ok (.getfield 10, 3) := by decide +kernel
theorem dX9_noChild_6 : decode cX9_noChild 6 = .ok (.getfield 62, 3) := by decide +kernel
theorem dX9_noChild_9 : decode cX9_noChild 9 = .ok (.iconst 1, 1) := by decide +kernel
theorem dX9_noChild_10 : decode cX9_noChild 10 = .ok (.isub, 1) := by decide +kernel
theorem dX9_noChild_11 : decode cX9_noChild 11 = .ok (.invokestatic 54, 3) := by decide +kernel
theorem dX9_noChild_14 : decode cX9_noChild 14 = .ok (.ireturn, 1) := by decide +kernel
theorem dX9_noHeap_0 : decode cX9_noHeap 0 = .ok (.iload_n 1, 1) := by decide +kernel
theorem dX9_noHeap_1 : decode cX9_noHeap 1 = .ok (.iconst 0, 1) := by decide +kernel
theorem dX9_noHeap_2 : decode cX9_noHeap 2 = .ok (.aload_n 0, 1) := by decide +kernel
theorem dX9_noHeap_3 : decode cX9_noHeap 3 = .ok (.getfield 10, 3) := by decide +kernel
theorem dX9_noHeap_6 : decode cX9_noHeap 6 = .ok (.getfield 101, 3) := by decide +kernel
theorem dX9_noHeap_9 : decode cX9_noHeap 9 = .ok (.iconst 1, 1) := by decide +kernel
theorem dX9_noHeap_10 : decode cX9_noHeap 10 = .ok (.isub, 1) := by decide +kernel
theorem dX9_noHeap_11 : decode cX9_noHeap 11 = .ok (.invokestatic 54, 3) := by decide +kernel
theorem dX9_noHeap_14 : decode cX9_noHeap 14 = .ok (.ireturn, 1) := by decide +kernel
theorem dX9_noSheet_0 : decode cX9_noSheet 0 = .ok (.iload_n 0, 1) := by decide +kernel
theorem dX9_noSheet_1 : decode cX9_noSheet 1 = .ok (.iconst 0, 1) := by decide +kernel
theorem dX9_noSheet_2 : decode cX9_noSheet 2 = .ok (.iconst 3, 1) := by decide +kernel
theorem dX9_noSheet_3 : decode cX9_noSheet 3 = .ok (.invokestatic 54, 3) := by decide +kernel
theorem dX9_noSheet_6 : decode cX9_noSheet 6 = .ok (.ireturn, 1) := by decide +kernel
theorem dX9_notAhead_0 : decode cX9_notAhead 0 = .ok (.iload_n 0, 1) := by decide +kernel
theorem dX9_notAhead_1 : decode cX9_notAhead 1 = .ok (.iconst 0, 1) := by decide +kernel
theorem dX9_notAhead_2 : decode cX9_notAhead 2 = .ok (.bipush 60, 2) := by decide +kernel
theorem dX9_notAhead_4 : decode cX9_notAhead 4 = .ok (.invokestatic 54, 3) := by decide +kernel
theorem dX9_notAhead_7 : decode cX9_notAhead 7 = .ok (.ireturn, 1) := by decide +kernel
theorem dX9_outside_0 : decode cX9_outside 0 = .ok (.iload_n 0, 1) := by decide +kernel
theorem dX9_outside_1 : decode cX9_outside 1 = .ok (.iload_n 1, 1) := by decide +kernel
theorem dX9_outside_2 : decode cX9_outside 2 = .ok (.if_icmp .lt 8, 3) := by decide +kernel
theorem dX9_outside_5 : decode cX9_outside 5 = .ok (.iload_n 0, 1) := by decide +kernel
theorem dX9_outside_6 : decode cX9_outside 6 = .ok (.iload_n 2, 1) := by decide +kernel
theorem dX9_outside_7 : decode cX9_outside 7 = .ok (.if_icmp .le 7, 3) := by decide +kernel
theorem dX9_outside_10 : decode cX9_outside 10 = .ok (.iconst 1, 1) := by decide +kernel
theorem dX9_outside_11 : decode cX9_outside 11 = .ok (.goto 4, 3) := by decide +kernel
theorem dX9_outside_14 : decode cX9_outside 14 = .ok (.iconst 0, 1) := by decide +kernel
theorem dX9_outside_15 : decode cX9_outside 15 = .ok (.ireturn, 1) := by decide +kernel
theorem dX9_held_0 : decode cX9_held 0 = .ok (.iload_n 1, 1) := by decide +kernel
theorem dX9_held_1 : decode cX9_held 1 = .ok (.iload_n 2, 1) := by decide +kernel
theorem dX9_held_2 : decode cX9_held 2 = .ok (.iload_n 0, 1) := by decide +kernel
theorem dX9_held_3 : decode cX9_held 3 = .ok (.invokestatic 287, 3) := by decide +kernel
theorem dX9_held_6 : decode cX9_held 6 = .ok (.invokestatic 302, 3) := by decide +kernel
theorem dX9_held_9 : decode cX9_held 9 = .ok (.ireturn, 1) := by decide +kernel
theorem dX9_mostOf_0 : decode cX9_mostOf 0 = .ok (.iload_n 0, 1) := by decide +kernel
theorem dX9_mostOf_1 : decode cX9_mostOf 1 = .ok (.lookupswitch 32 #[(0, 27), (3, 30)], 27) := by decide +kernel
theorem dX9_mostOf_28 : decode cX9_mostOf 28 = .ok (.bipush 6, 2) := by decide +kernel
theorem dX9_mostOf_30 : decode cX9_mostOf 30 = .ok (.ireturn, 1) := by decide +kernel
theorem dX9_mostOf_31 : decode cX9_mostOf 31 = .ok (.iconst 1, 1) := by decide +kernel
theorem dX9_mostOf_32 : decode cX9_mostOf 32 = .ok (.ireturn, 1) := by decide +kernel
theorem dX9_mostOf_33 : decode cX9_mostOf 33 = .ok (.bipush 99, 2) := by decide +kernel
theorem dX9_mostOf_35 : decode cX9_mostOf 35 = .ok (.ireturn, 1) := by decide +kernel
theorem dX9_ofChild_0 : decode cX9_ofChild 0 = .ok (.aload_n 1, 1) := by decide +kernel
theorem dX9_ofChild_1 : decode cX9_ofChild 1 = .ok (.getfield 66, 3) := by decide +kernel
theorem dX9_ofChild_4 : decode cX9_ofChild 4 = .ok (.iload_n 2, 1) := by decide +kernel
theorem dX9_ofChild_5 : decode cX9_ofChild 5 = .ok (.aaload, 1) := by decide +kernel
theorem dX9_ofChild_6 : decode cX9_ofChild 6 = .ok (.astore 4, 2) := by decide +kernel
theorem dX9_ofChild_8 : decode cX9_ofChild 8 = .ok (.iload_n 3, 1) := by decide +kernel
theorem dX9_ofChild_9 : decode cX9_ofChild 9 = .ok (.tableswitch 75 0 5 #[39, 45, 51, 57, 63, 69], 39) := by decide +kernel
theorem dX9_ofChild_48 : decode cX9_ofChild 48 = .ok (.aload 4, 2) := by decide +kernel
theorem dX9_ofChild_50 : decode cX9_ofChild 50 = .ok (.getfield 70, 3) := by decide +kernel
theorem dX9_ofChild_53 : decode cX9_ofChild 53 = .ok (.ireturn, 1) := by decide +kernel
theorem dX9_ofChild_54 : decode cX9_ofChild 54 = .ok (.aload 4, 2) := by decide +kernel
theorem dX9_ofChild_56 : decode cX9_ofChild 56 = .ok (.getfield 75, 3) := by decide +kernel
theorem dX9_ofChild_59 : decode cX9_ofChild 59 = .ok (.ireturn, 1) := by decide +kernel
theorem dX9_ofChild_60 : decode cX9_ofChild 60 = .ok (.aload 4, 2) := by decide +kernel
theorem dX9_ofChild_62 : decode cX9_ofChild 62 = .ok (.getfield 78, 3) := by decide +kernel
theorem dX9_ofChild_65 : decode cX9_ofChild 65 = .ok (.ireturn, 1) := by decide +kernel
theorem dX9_ofChild_66 : decode cX9_ofChild 66 = .ok (.aload 4, 2) := by decide +kernel
theorem dX9_ofChild_68 : decode cX9_ofChild 68 = .ok (.getfield 81, 3) := by decide +kernel
theorem dX9_ofChild_71 : decode cX9_ofChild 71 = .ok (.ireturn, 1) := by decide +kernel
theorem dX9_ofChild_72 : decode cX9_ofChild 72 = .ok (.aload 4, 2) := by decide +kernel
theorem dX9_ofChild_74 : decode cX9_ofChild 74 = .ok (.getfield 128, 3) := by decide +kernel
theorem dX9_ofChild_77 : decode cX9_ofChild 77 = .ok (.ireturn, 1) := by decide +kernel
theorem dX9_ofChild_78 : decode cX9_ofChild 78 = .ok (.aload 4, 2) := by decide +kernel
theorem dX9_ofChild_80 : decode cX9_ofChild 80 = .ok (.getfield 234, 3) := by decide +kernel
theorem dX9_ofChild_83 : decode cX9_ofChild 83 = .ok (.ireturn, 1) := by decide +kernel
theorem dX9_ofChild_84 : decode cX9_ofChild 84 = .ok (.aload_n 0, 1) := by decide +kernel
theorem dX9_ofChild_85 : decode cX9_ofChild 85 = .ok (.getfield 25, 3) := by decide +kernel
theorem dX9_ofChild_88 : decode cX9_ofChild 88 = .ok (.aload_n 1, 1) := by decide +kernel
theorem dX9_ofChild_89 : decode cX9_ofChild 89 = .ok (.invokevirtual 207, 3) := by decide +kernel
theorem dX9_ofChild_92 : decode cX9_ofChild 92 = .ok (.iload_n 3, 1) := by decide +kernel
theorem dX9_ofChild_93 : decode cX9_ofChild 93 = .ok (.bipush 6, 2) := by decide +kernel
theorem dX9_ofChild_95 : decode cX9_ofChild 95 = .ok (.if_icmp .ne 15, 3) := by decide +kernel
theorem dX9_ofChild_98 : decode cX9_ofChild 98 = .ok (.aload_n 0, 1) := by decide +kernel
theorem dX9_ofChild_99 : decode cX9_ofChild 99 = .ok (.getfield 25, 3) := by decide +kernel
theorem dX9_ofChild_102 : decode cX9_ofChild 102 = .ok (.getfield 305, 3) := by decide +kernel
theorem dX9_ofChild_105 : decode cX9_ofChild 105 = .ok (.iload_n 2, 1) := by decide +kernel
theorem dX9_ofChild_106 : decode cX9_ofChild 106 = .ok (.iaload, 1) := by decide +kernel
theorem dX9_ofChild_107 : decode cX9_ofChild 107 = .ok (.goto 11, 3) := by decide +kernel
theorem dX9_ofChild_110 : decode cX9_ofChild 110 = .ok (.aload_n 0, 1) := by decide +kernel
theorem dX9_ofChild_111 : decode cX9_ofChild 111 = .ok (.getfield 25, 3) := by decide +kernel
theorem dX9_ofChild_114 : decode cX9_ofChild 114 = .ok (.iload_n 2, 1) := by decide +kernel
theorem dX9_ofChild_115 : decode cX9_ofChild 115 = .ok (.invokevirtual 308, 3) := by decide +kernel
theorem dX9_ofChild_118 : decode cX9_ofChild 118 = .ok (.ireturn, 1) := by decide +kernel
theorem dX10_init_0 : decode cX10_init 0 = .ok (.aload_n 0, 1) := by decide +kernel
theorem dX10_init_1 : decode cX10_init 1 = .ok (.invokespecial 3, 3) := by decide +kernel
theorem dX10_init_4 : decode cX10_init 4 = .ok (.aload_n 0, 1) := by decide +kernel
theorem dX10_init_5 : decode cX10_init 5 = .ok (.sipush 445, 3) := by decide +kernel
theorem dX10_init_8 : decode cX10_init 8 = .ok (.newarray .int, 2) := by decide +kernel
theorem dX10_init_10 : decode cX10_init 10 = .ok (.putfield 9, 3) := by decide +kernel
theorem dX10_init_13 : decode cX10_init 13 = .ok (.aload_n 0, 1) := by decide +kernel
theorem dX10_init_14 : decode cX10_init 14 = .ok (.sipush 445, 3) := by decide +kernel
theorem dX10_init_17 : decode cX10_init 17 = .ok (.newarray .int, 2) := by decide +kernel
theorem dX10_init_19 : decode cX10_init 19 = .ok (.putfield 13, 3) := by decide +kernel
theorem dX10_init_22 : decode cX10_init 22 = .ok (.aload_n 0, 1) := by decide +kernel
theorem dX10_init_23 : decode cX10_init 23 = .ok (.sipush 445, 3) := by decide +kernel
theorem dX10_init_26 : decode cX10_init 26 = .ok (.newarray .int, 2) := by decide +kernel
theorem dX10_init_28 : decode cX10_init 28 = .ok (.putfield 16, 3) := by decide +kernel
theorem dX10_init_31 : decode cX10_init 31 = .ok (.aload_n 0, 1) := by decide +kernel
theorem dX10_init_32 : decode cX10_init 32 = .ok (.bipush 7, 2) := by decide +kernel
theorem dX10_init_34 : decode cX10_init 34 = .ok (.newarray .int, 2) := by decide +kernel
theorem dX10_init_36 : decode cX10_init 36 = .ok (.putfield 19, 3) := by decide +kernel
theorem dX10_init_39 : decode cX10_init 39 = .ok (.aload_n 0, 1) := by decide +kernel
theorem dX10_init_40 : decode cX10_init 40 = .ok (.iconst 2, 1) := by decide +kernel
theorem dX10_init_41 : decode cX10_init 41 = .ok (.anewarray 22, 3) := by decide +kernel
theorem dX10_init_44 : decode cX10_init 44 = .ok (.dup, 1) := by decide +kernel
theorem dX10_init_45 : decode cX10_init 45 = .ok (.iconst 0, 1) := by decide +kernel
theorem dX10_init_46 : decode cX10_init 46 = .ok (.ldc 24, 2) := by decide +kernel
theorem dX10_init_48 : decode cX10_init 48 = .ok (.aastore, 1) := by decide +kernel
theorem dX10_init_49 : decode cX10_init 49 = .ok (.dup, 1) := by decide +kernel
theorem dX10_init_50 : decode cX10_init 50 = .ok (.iconst 1, 1) := by decide +kernel
theorem dX10_init_51 : decode cX10_init 51 = .ok (.ldc 26, 2) := by decide +kernel
theorem dX10_init_53 : decode cX10_init 53 = .ok (.aastore, 1) := by decide +kernel
theorem dX10_init_54 : decode cX10_init 54 = .ok (.putfield 28, 3) := by decide +kernel
theorem dX10_init_57 : decode cX10_init 57 = .ok (.aload_n 0, 1) := by decide +kernel
theorem dX10_init_58 : decode cX10_init 58 = .ok (.bipush 60, 2) := by decide +kernel
theorem dX10_init_60 : decode cX10_init 60 = .ok (.newarray .int, 2) := by decide +kernel
theorem dX10_init_62 : decode cX10_init 62 = .ok (.putfield 32, 3) := by decide +kernel
theorem dX10_init_65 : decode cX10_init 65 = .ok (.aload_n 0, 1) := by decide +kernel
theorem dX10_init_66 : decode cX10_init 66 = .ok (.iconst 5, 1) := by decide +kernel
theorem dX10_init_67 : decode cX10_init 67 = .ok (.newarray .int, 2) := by decide +kernel
theorem dX10_init_69 : decode cX10_init 69 = .ok (.putfield 35, 3) := by decide +kernel
theorem dX10_init_72 : decode cX10_init 72 = .ok (.aload_n 0, 1) := by decide +kernel
theorem dX10_init_73 : decode cX10_init 73 = .ok (.bipush 60, 2) := by decide +kernel
theorem dX10_init_75 : decode cX10_init 75 = .ok (.newarray .int, 2) := by decide +kernel
theorem dX10_init_77 : decode cX10_init 77 = .ok (.putfield 38, 3) := by decide +kernel
theorem dX10_init_80 : decode cX10_init 80 = .ok (.aload_n 0, 1) := by decide +kernel
theorem dX10_init_81 : decode cX10_init 81 = .ok (.bipush 100, 2) := by decide +kernel
theorem dX10_init_83 : decode cX10_init 83 = .ok (.newarray .int, 2) := by decide +kernel
theorem dX10_init_85 : decode cX10_init 85 = .ok (.putfield 41, 3) := by decide +kernel
theorem dX10_init_88 : decode cX10_init 88 = .ok (.aload_n 0, 1) := by decide +kernel
theorem dX10_init_89 : decode cX10_init 89 = .ok (.bipush 10, 2) := by decide +kernel
theorem dX10_init_91 : decode cX10_init 91 = .ok (.newarray .int, 2) := by decide +kernel
theorem dX10_init_93 : decode cX10_init 93 = .ok (.putfield 44, 3) := by decide +kernel
theorem dX10_init_96 : decode cX10_init 96 = .ok (.aload_n 0, 1) := by decide +kernel
theorem dX10_init_97 : decode cX10_init 97 = .ok (.bipush 30, 2) := by decide +kernel
theorem dX10_init_99 : decode cX10_init 99 = .ok (.newarray .int, 2) := by decide +kernel
theorem dX10_init_101 : decode cX10_init 101 = .ok (.putfield 47, 3) := by decide +kernel
theorem dX10_init_104 : decode cX10_init 104 = .ok (.aload_n 0, 1) := by decide +kernel
theorem dX10_init_105 : decode cX10_init 105 = .ok (.iconst 4, 1) := by decide +kernel
theorem dX10_init_106 : decode cX10_init 106 = .ok (.newarray .int, 2) := by decide +kernel
theorem dX10_init_108 : decode cX10_init 108 = .ok (.putfield 50, 3) := by decide +kernel
theorem dX10_init_111 : decode cX10_init 111 = .ok (.aload_n 0, 1) := by decide +kernel
theorem dX10_init_112 : decode cX10_init 112 = .ok (.iconst 4, 1) := by decide +kernel
theorem dX10_init_113 : decode cX10_init 113 = .ok (.newarray .int, 2) := by decide +kernel
theorem dX10_init_115 : decode cX10_init 115 = .ok (.putfield 53, 3) := by decide +kernel
theorem dX10_init_118 : decode cX10_init 118 = .ok (.aload_n 0, 1) := by decide +kernel
theorem dX10_init_119 : decode cX10_init 119 = .ok (.bipush 96, 2) := by decide +kernel
theorem dX10_init_121 : decode cX10_init 121 = .ok (.newarray .int, 2) := by decide +kernel
theorem dX10_init_123 : decode cX10_init 123 = .ok (.putfield 56, 3) := by decide +kernel
theorem dX10_init_126 : decode cX10_init 126 = .ok (.aload_n 0, 1) := by decide +kernel
theorem dX10_init_127 : decode cX10_init 127 = .ok (.bipush 24, 2) := by decide +kernel
theorem dX10_init_129 : decode cX10_init 129 = .ok (.newarray .int, 2) := by decide +kernel
theorem dX10_init_131 : decode cX10_init 131 = .ok (.putfield 59, 3) := by decide +kernel
theorem dX10_init_134 : decode cX10_init 134 = .ok (.aload_n 0, 1) := by decide +kernel
theorem dX10_init_135 : decode cX10_init 135 = .ok (.getfield 9, 3) := by decide +kernel
theorem dX10_init_138 : decode cX10_init 138 = .ok (.bipush 6, 2) := by decide +kernel
theorem dX10_init_140 : decode cX10_init 140 = .ok (.iconst 1, 1) := by decide +kernel
theorem dX10_init_141 : decode cX10_init 141 = .ok (.iastore, 1) := by decide +kernel
theorem dX10_init_142 : decode cX10_init 142 = .ok (.return_, 1) := by decide +kernel
theorem dX10_finding_0 : decode cX10_finding 0 = .ok (.aload_n 0, 1) := by decide +kernel
theorem dX10_finding_1 : decode cX10_finding 1 = .ok (.getfield 19, 3) := by decide +kernel
theorem dX10_finding_4 : decode cX10_finding 4 = .ok (.ldc 62, 2) := by decide +kernel
theorem dX10_finding_6 : decode cX10_finding 6 = .ok (.iload_n 1, 1) := by decide +kernel
theorem dX10_finding_7 : decode cX10_finding 7 = .ok (.isub, 1) := by decide +kernel
theorem dX10_finding_8 : decode cX10_finding 8 = .ok (.dup2, 1) := by decide +kernel
theorem dX10_finding_9 : decode cX10_finding 9 = .ok (.iaload, 1) := by decide +kernel
theorem dX10_finding_10 : decode cX10_finding 10 = .ok (.iconst 1, 1) := by decide +kernel
theorem dX10_finding_11 : decode cX10_finding 11 = .ok (.iadd, 1) := by decide +kernel
theorem dX10_finding_12 : decode cX10_finding 12 = .ok (.iastore, 1) := by decide +kernel
theorem dX10_finding_13 : decode cX10_finding 13 = .ok (.iload_n 1, 1) := by decide +kernel
theorem dX10_finding_14 : decode cX10_finding 14 = .ok (.ireturn, 1) := by decide +kernel
theorem dX10_within_0 : decode cX10_within 0 = .ok (.iload_n 0, 1) := by decide +kernel
theorem dX10_within_1 : decode cX10_within 1 = .ok (.iload_n 1, 1) := by decide +kernel
theorem dX10_within_2 : decode cX10_within 2 = .ok (.if_icmp .lt 12, 3) := by decide +kernel
theorem dX10_within_5 : decode cX10_within 5 = .ok (.iload_n 0, 1) := by decide +kernel
theorem dX10_within_6 : decode cX10_within 6 = .ok (.iload_n 2, 1) := by decide +kernel
theorem dX10_within_7 : decode cX10_within 7 = .ok (.if_icmp .gt 7, 3) := by decide +kernel
theorem dX10_within_10 : decode cX10_within 10 = .ok (.iconst 1, 1) := by decide +kernel
theorem dX10_within_11 : decode cX10_within 11 = .ok (.goto 4, 3) := by decide +kernel
theorem dX10_within_14 : decode cX10_within 14 = .ok (.iconst 0, 1) := by decide +kernel
theorem dX10_within_15 : decode cX10_within 15 = .ok (.ireturn, 1) := by decide +kernel
theorem dX10_hasBit_0 : decode cX10_hasBit 0 = .ok (.iload_n 0, 1) := by decide +kernel
theorem dX10_hasBit_1 : decode cX10_hasBit 1 = .ok (.iload_n 1, 1) := by decide +kernel
theorem dX10_hasBit_2 : decode cX10_hasBit 2 = .ok (.ishr, 1) := by decide +kernel
theorem dX10_hasBit_3 : decode cX10_hasBit 3 = .ok (.iconst 1, 1) := by decide +kernel
theorem dX10_hasBit_4 : decode cX10_hasBit 4 = .ok (.iand, 1) := by decide +kernel
theorem dX10_hasBit_5 : decode cX10_hasBit 5 = .ok (.iconst 1, 1) := by decide +kernel
theorem dX10_hasBit_6 : decode cX10_hasBit 6 = .ok (.if_icmp .ne 7, 3) := by decide +kernel
theorem dX10_hasBit_9 : decode cX10_hasBit 9 = .ok (.iconst 1, 1) := by decide +kernel
theorem dX10_hasBit_10 : decode cX10_hasBit 10 = .ok (.goto 4, 3) := by decide +kernel
theorem dX10_hasBit_13 : decode cX10_hasBit 13 = .ok (.iconst 0, 1) := by decide +kernel
theorem dX10_hasBit_14 : decode cX10_hasBit 14 = .ok (.ireturn, 1) := by decide +kernel
theorem dX10_held_0 : decode cX10_held 0 = .ok (.iload_n 1, 1) := by decide +kernel
theorem dX10_held_1 : decode cX10_held 1 = .ok (.iload_n 2, 1) := by decide +kernel
theorem dX10_held_2 : decode cX10_held 2 = .ok (.iload_n 0, 1) := by decide +kernel
theorem dX10_held_3 : decode cX10_held 3 = .ok (.invokestatic 63, 3) := by decide +kernel
theorem dX10_held_6 : decode cX10_held 6 = .ok (.invokestatic 69, 3) := by decide +kernel
theorem dX10_held_9 : decode cX10_held 9 = .ok (.ireturn, 1) := by decide +kernel
theorem dX10_is_0 : decode cX10_is 0 = .ok (.iload_n 1, 1) := by decide +kernel
theorem dX10_is_1 : decode cX10_is 1 = .ok (.iconst 0, 1) := by decide +kernel
theorem dX10_is_2 : decode cX10_is 2 = .ok (.aload_n 0, 1) := by decide +kernel
theorem dX10_is_3 : decode cX10_is 3 = .ok (.getfield 9, 3) := by decide +kernel
theorem dX10_is_6 : decode cX10_is 6 = .ok (.iload_n 2, 1) := by decide +kernel
theorem dX10_is_7 : decode cX10_is 7 = .ok (.iaload, 1) := by decide +kernel
theorem dX10_is_8 : decode cX10_is 8 = .ok (.iconst 1, 1) := by decide +kernel
theorem dX10_is_9 : decode cX10_is 9 = .ok (.isub, 1) := by decide +kernel
theorem dX10_is_10 : decode cX10_is 10 = .ok (.invokestatic 72, 3) := by decide +kernel
theorem dX10_is_13 : decode cX10_is 13 = .ok (.ireturn, 1) := by decide +kernel
theorem dX10_copy_0 : decode cX10_copy 0 = .ok (.iconst 0, 1) := by decide +kernel
theorem dX10_copy_1 : decode cX10_copy 1 = .ok (.istore_n 2, 1) := by decide +kernel
theorem dX10_copy_2 : decode cX10_copy 2 = .ok (.iload_n 2, 1) := by decide +kernel
theorem dX10_copy_3 : decode cX10_copy 3 = .ok (.sipush 445, 3) := by decide +kernel
theorem dX10_copy_6 : decode cX10_copy 6 = .ok (.if_icmp .ge 15, 3) := by decide +kernel
theorem dX10_copy_9 : decode cX10_copy 9 = .ok (.aload_n 1, 1) := by decide +kernel
theorem dX10_copy_10 : decode cX10_copy 10 = .ok (.iload_n 2, 1) := by decide +kernel
theorem dX10_copy_11 : decode cX10_copy 11 = .ok (.aload_n 0, 1) := by decide +kernel
theorem dX10_copy_12 : decode cX10_copy 12 = .ok (.iload_n 2, 1) := by decide +kernel
theorem dX10_copy_13 : decode cX10_copy 13 = .ok (.iaload, 1) := by decide +kernel
theorem dX10_copy_14 : decode cX10_copy 14 = .ok (.iastore, 1) := by decide +kernel
theorem dX10_copy_15 : decode cX10_copy 15 = .ok (.iinc 2 1, 3) := by decide +kernel
theorem dX10_copy_18 : decode cX10_copy 18 = .ok (.goto (-16), 3) := by decide +kernel
theorem dX10_copy_21 : decode cX10_copy 21 = .ok (.return_, 1) := by decide +kernel
theorem dX10_become_0 : decode cX10_become 0 = .ok (.aload_n 0, 1) := by decide +kernel
theorem dX10_become_1 : decode cX10_become 1 = .ok (.getfield 9, 3) := by decide +kernel
theorem dX10_become_4 : decode cX10_become 4 = .ok (.iload_n 1, 1) := by decide +kernel
theorem dX10_become_5 : decode cX10_become 5 = .ok (.iaload, 1) := by decide +kernel
theorem dX10_become_6 : decode cX10_become 6 = .ok (.istore_n 3, 1) := by decide +kernel
theorem dX10_become_7 : decode cX10_become 7 = .ok (.aload_n 0, 1) := by decide +kernel
theorem dX10_become_8 : decode cX10_become 8 = .ok (.getfield 9, 3) := by decide +kernel
theorem dX10_become_11 : decode cX10_become 11 = .ok (.iload_n 1, 1) := by decide +kernel
theorem dX10_become_12 : decode cX10_become 12 = .ok (.iload_n 2, 1) := by decide +kernel
theorem dX10_become_13 : decode cX10_become 13 = .ok (.iastore, 1) := by decide +kernel
theorem dX10_become_14 : decode cX10_become 14 = .ok (.iload_n 3, 1) := by decide +kernel
theorem dX10_become_15 : decode cX10_become 15 = .ok (.ireturn, 1) := by decide +kernel
theorem dX10_putBack_0 : decode cX10_putBack 0 = .ok (.aload_n 0, 1) := by decide +kernel
theorem dX10_putBack_1 : decode cX10_putBack 1 = .ok (.getfield 16, 3) := by decide +kernel
theorem dX10_putBack_4 : decode cX10_putBack 4 = .ok (.aload_n 0, 1) := by decide +kernel
theorem dX10_putBack_5 : decode cX10_putBack 5 = .ok (.getfield 9, 3) := by decide +kernel
theorem dX10_putBack_8 : decode cX10_putBack 8 = .ok (.invokestatic 76, 3) := by decide +kernel
theorem dX10_putBack_11 : decode cX10_putBack 11 = .ok (.iload_n 1, 1) := by decide +kernel
theorem dX10_putBack_12 : decode cX10_putBack 12 = .ok (.ireturn, 1) := by decide +kernel
theorem dX10_bits_0 : decode cX10_bits 0 = .ok (.iconst 0, 1) := by decide +kernel
theorem dX10_bits_1 : decode cX10_bits 1 = .ok (.istore_n 1, 1) := by decide +kernel
theorem dX10_bits_2 : decode cX10_bits 2 = .ok (.iload_n 0, 1) := by decide +kernel
theorem dX10_bits_3 : decode cX10_bits 3 = .ok (.istore_n 2, 1) := by decide +kernel
theorem dX10_bits_4 : decode cX10_bits 4 = .ok (.iload_n 2, 1) := by decide +kernel
theorem dX10_bits_5 : decode cX10_bits 5 = .ok (.ifCond .eq 15, 3) := by decide +kernel
theorem dX10_bits_8 : decode cX10_bits 8 = .ok (.iinc 1 1, 3) := by decide +kernel
theorem dX10_bits_11 : decode cX10_bits 11 = .ok (.iload_n 2, 1) := by decide +kernel
theorem dX10_bits_12 : decode cX10_bits 12 = .ok (.iload_n 2, 1) := by decide +kernel
theorem dX10_bits_13 : decode cX10_bits 13 = .ok (.iconst 1, 1) := by decide +kernel
theorem dX10_bits_14 : decode cX10_bits 14 = .ok (.isub, 1) := by decide +kernel
theorem dX10_bits_15 : decode cX10_bits 15 = .ok (.iand, 1) := by decide +kernel
theorem dX10_bits_16 : decode cX10_bits 16 = .ok (.istore_n 2, 1) := by decide +kernel
theorem dX10_bits_17 : decode cX10_bits 17 = .ok (.goto (-13), 3) := by decide +kernel
theorem dX10_bits_20 : decode cX10_bits 20 = .ok (.iload_n 1, 1) := by decide +kernel
theorem dX10_bits_21 : decode cX10_bits 21 = .ok (.ireturn, 1) := by decide +kernel
theorem dX10_of_0 : decode cX10_of 0 = .ok (.aload_n 0, 1) := by decide +kernel
theorem dX10_of_1 : decode cX10_of 1 = .ok (.getfield 9, 3) := by decide +kernel
theorem dX10_of_4 : decode cX10_of 4 = .ok (.bipush 7, 2) := by decide +kernel
theorem dX10_of_6 : decode cX10_of 6 = .ok (.bipush 6, 2) := by decide +kernel
theorem dX10_of_8 : decode cX10_of 8 = .ok (.iload_n 1, 1) := by decide +kernel
theorem dX10_of_9 : decode cX10_of 9 = .ok (.imul, 1) := by decide +kernel
theorem dX10_of_10 : decode cX10_of 10 = .ok (.iadd, 1) := by decide +kernel
theorem dX10_of_11 : decode cX10_of 11 = .ok (.iload_n 2, 1) := by decide +kernel
theorem dX10_of_12 : decode cX10_of 12 = .ok (.iadd, 1) := by decide +kernel
theorem dX10_of_13 : decode cX10_of 13 = .ok (.iaload, 1) := by decide +kernel
theorem dX10_of_14 : decode cX10_of 14 = .ok (.ireturn, 1) := by decide +kernel
theorem dX10_heapOf_0 : decode cX10_heapOf 0 = .ok (.aload_n 0, 1) := by decide +kernel
theorem dX10_heapOf_1 : decode cX10_heapOf 1 = .ok (.getfield 9, 3) := by decide +kernel
theorem dX10_heapOf_4 : decode cX10_heapOf 4 = .ok (.sipush 167, 3) := by decide +kernel
theorem dX10_heapOf_7 : decode cX10_heapOf 7 = .ok (.iconst 4, 1) := by decide +kernel
theorem dX10_heapOf_8 : decode cX10_heapOf 8 = .ok (.iload_n 1, 1) := by decide +kernel
theorem dX10_heapOf_9 : decode cX10_heapOf 9 = .ok (.imul, 1) := by decide +kernel
theorem dX10_heapOf_10 : decode cX10_heapOf 10 = .ok (.iadd, 1) := by decide +kernel
theorem dX10_heapOf_11 : decode cX10_heapOf 11 = .ok (.iload_n 2, 1) := by decide +kernel
theorem dX10_heapOf_12 : decode cX10_heapOf 12 = .ok (.iadd, 1) := by decide +kernel
theorem dX10_heapOf_13 : decode cX10_heapOf 13 = .ok (.iaload, 1) := by decide +kernel
theorem dX10_heapOf_14 : decode cX10_heapOf 14 = .ok (.ireturn, 1) := by decide +kernel
theorem dX10_likesOf_0 : decode cX10_likesOf 0 = .ok (.aload_n 0, 1) := by decide +kernel
theorem dX10_likesOf_1 : decode cX10_likesOf 1 = .ok (.getfield 9, 3) := by decide +kernel
theorem dX10_likesOf_4 : decode cX10_likesOf 4 = .ok (.bipush 67, 2) := by decide +kernel
theorem dX10_likesOf_6 : decode cX10_likesOf 6 = .ok (.bipush 10, 2) := by decide +kernel
theorem dX10_likesOf_8 : decode cX10_likesOf 8 = .ok (.iload_n 1, 1) := by decide +kernel
theorem dX10_likesOf_9 : decode cX10_likesOf 9 = .ok (.imul, 1) := by decide +kernel
theorem dX10_likesOf_10 : decode cX10_likesOf 10 = .ok (.iadd, 1) := by decide +kernel
theorem dX10_likesOf_11 : decode cX10_likesOf 11 = .ok (.iload_n 2, 1) := by decide +kernel
theorem dX10_likesOf_12 : decode cX10_likesOf 12 = .ok (.iadd, 1) := by decide +kernel
theorem dX10_likesOf_13 : decode cX10_likesOf 13 = .ok (.iaload, 1) := by decide +kernel
theorem dX10_likesOf_14 : decode cX10_likesOf 14 = .ok (.ireturn, 1) := by decide +kernel
theorem dX10_child_0 : decode cX10_child 0 = .ok (.iload_n 1, 1) := by decide +kernel
theorem dX10_child_1 : decode cX10_child 1 = .ok (.iconst 0, 1) := by decide +kernel
theorem dX10_child_2 : decode cX10_child 2 = .ok (.sipush 699, 3) := by decide +kernel
theorem dX10_child_5 : decode cX10_child 5 = .ok (.invokestatic 72, 3) := by decide +kernel
theorem dX10_child_8 : decode cX10_child 8 = .ok (.ifCond .eq 22, 3) := by decide +kernel
theorem dX10_child_11 : decode cX10_child 11 = .ok (.iload_n 2, 1) := by decide +kernel
theorem dX10_child_12 : decode cX10_child 12 = .ok (.iconst 0, 1) := by decide +kernel
theorem dX10_child_13 : decode cX10_child 13 = .ok (.bipush 99, 2) := by decide +kernel
theorem dX10_child_15 : decode cX10_child 15 = .ok (.invokestatic 72, 3) := by decide +kernel
theorem dX10_child_18 : decode cX10_child 18 = .ok (.ifCond .eq 12, 3) := by decide +kernel
theorem dX10_child_21 : decode cX10_child 21 = .ok (.iload_n 3, 1) := by decide +kernel
theorem dX10_child_22 : decode cX10_child 22 = .ok (.iconst 0, 1) := by decide +kernel
theorem dX10_child_23 : decode cX10_child 23 = .ok (.iconst 1, 1) := by decide +kernel
theorem dX10_child_24 : decode cX10_child 24 = .ok (.invokestatic 72, 3) := by decide +kernel
theorem dX10_child_27 : decode cX10_child 27 = .ok (.ifCond .ne 10, 3) := by decide +kernel
theorem dX10_child_30 : decode cX10_child 30 = .ok (.aload_n 0, 1) := by decide +kernel
theorem dX10_child_31 : decode cX10_child 31 = .ok (.ldc 80, 2) := by decide +kernel
theorem dX10_child_33 : decode cX10_child 33 = .ok (.invokevirtual 81, 3) := by decide +kernel
theorem dX10_child_36 : decode cX10_child 36 = .ok (.ireturn, 1) := by decide +kernel
theorem dX10_child_37 : decode cX10_child 37 = .ok (.aload_n 0, 1) := by decide +kernel
theorem dX10_child_38 : decode cX10_child 38 = .ok (.getfield 9, 3) := by decide +kernel
theorem dX10_child_41 : decode cX10_child 41 = .ok (.iconst 0, 1) := by decide +kernel
theorem dX10_child_42 : decode cX10_child 42 = .ok (.iaload, 1) := by decide +kernel
theorem dX10_child_43 : decode cX10_child 43 = .ok (.istore 4, 2) := by decide +kernel
theorem dX10_child_45 : decode cX10_child 45 = .ok (.iload 4, 2) := by decide +kernel
theorem dX10_child_47 : decode cX10_child 47 = .ok (.bipush 10, 2) := by decide +kernel
theorem dX10_child_49 : decode cX10_child 49 = .ok (.if_icmp .ne 10, 3) := by decide +kernel
theorem dX10_child_52 : decode cX10_child 52 = .ok (.aload_n 0, 1) := by decide +kernel
theorem dX10_child_53 : decode cX10_child 53 = .ok (.ldc 85, 2) := by decide +kernel
theorem dX10_child_55 : decode cX10_child 55 = .ok (.invokevirtual 81, 3) := by decide +kernel
theorem dX10_child_58 : decode cX10_child 58 = .ok (.ireturn, 1) := by decide +kernel
theorem dX10_child_59 : decode cX10_child 59 = .ok (.bipush 7, 2) := by decide +kernel
theorem dX10_child_61 : decode cX10_child 61 = .ok (.bipush 6, 2) := by decide +kernel
theorem dX10_child_63 : decode cX10_child 63 = .ok (.iload 4, 2) := by decide +kernel
theorem dX10_child_65 : decode cX10_child 65 = .ok (.imul, 1) := by decide +kernel
theorem dX10_child_66 : decode cX10_child 66 = .ok (.iadd, 1) := by decide +kernel
theorem dX10_child_67 : decode cX10_child 67 = .ok (.istore 5, 2) := by decide +kernel
theorem dX10_child_69 : decode cX10_child 69 = .ok (.aload_n 0, 1) := by decide +kernel
theorem dX10_child_70 : decode cX10_child 70 = .ok (.getfield 9, 3) := by decide +kernel
theorem dX10_child_73 : decode cX10_child 73 = .ok (.iload 5, 2) := by decide +kernel
theorem dX10_child_75 : decode cX10_child 75 = .ok (.iconst 0, 1) := by decide +kernel
theorem dX10_child_76 : decode cX10_child 76 = .ok (.iadd, 1) := by decide +kernel
theorem dX10_child_77 : decode cX10_child 77 = .ok (.iload_n 1, 1) := by decide +kernel
theorem dX10_child_78 : decode cX10_child 78 = .ok (.bipush 100, 2) := by decide +kernel
theorem dX10_child_80 : decode cX10_child 80 = .ok (.idiv, 1) := by decide +kernel
theorem dX10_child_81 : decode cX10_child 81 = .ok (.iastore, 1) := by decide +kernel
theorem dX10_child_82 : decode cX10_child 82 = .ok (.aload_n 0, 1) := by decide +kernel
theorem dX10_child_83 : decode cX10_child 83 = .ok (.getfield 9, 3) := by decide +kernel
theorem dX10_child_86 : decode cX10_child 86 = .ok (.iload 5, 2) := by decide +kernel
theorem dX10_child_88 : decode cX10_child 88 = .ok (.iconst 1, 1) := by decide +kernel
theorem dX10_child_89 : decode cX10_child 89 = .ok (.iadd, 1) := by decide +kernel
theorem dX10_child_90 : decode cX10_child 90 = .ok (.iload_n 1, 1) := by decide +kernel
theorem dX10_child_91 : decode cX10_child 91 = .ok (.bipush 100, 2) := by decide +kernel
theorem dX10_child_93 : decode cX10_child 93 = .ok (.irem, 1) := by decide +kernel
theorem dX10_child_94 : decode cX10_child 94 = .ok (.iastore, 1) := by decide +kernel
theorem dX10_child_95 : decode cX10_child 95 = .ok (.aload_n 0, 1) := by decide +kernel
theorem dX10_child_96 : decode cX10_child 96 = .ok (.getfield 9, 3) := by decide +kernel
theorem dX10_child_99 : decode cX10_child 99 = .ok (.iload 5, 2) := by decide +kernel
theorem dX10_child_101 : decode cX10_child 101 = .ok (.iconst 2, 1) := by decide +kernel
theorem dX10_child_102 : decode cX10_child 102 = .ok (.iadd, 1) := by decide +kernel
theorem dX10_child_103 : decode cX10_child 103 = .ok (.iload_n 2, 1) := by decide +kernel
theorem dX10_child_104 : decode cX10_child 104 = .ok (.iastore, 1) := by decide +kernel
theorem dX10_child_105 : decode cX10_child 105 = .ok (.aload_n 0, 1) := by decide +kernel
theorem dX10_child_106 : decode cX10_child 106 = .ok (.getfield 9, 3) := by decide +kernel
theorem dX10_child_109 : decode cX10_child 109 = .ok (.iload 5, 2) := by decide +kernel
theorem dX10_child_111 : decode cX10_child 111 = .ok (.iconst 3, 1) := by decide +kernel
theorem dX10_child_112 : decode cX10_child 112 = .ok (.iadd, 1) := by decide +kernel
theorem dX10_child_113 : decode cX10_child 113 = .ok (.iload_n 3, 1) := by decide +kernel
theorem dX10_child_114 : decode cX10_child 114 = .ok (.iastore, 1) := by decide +kernel
theorem dX10_child_115 : decode cX10_child 115 = .ok (.aload_n 0, 1) := by decide +kernel
theorem dX10_child_116 : decode cX10_child 116 = .ok (.getfield 9, 3) := by decide +kernel
theorem dX10_child_119 : decode cX10_child 119 = .ok (.iload 5, 2) := by decide +kernel
theorem dX10_child_121 : decode cX10_child 121 = .ok (.iconst 4, 1) := by decide +kernel
theorem dX10_child_122 : decode cX10_child 122 = .ok (.iadd, 1) := by decide +kernel
theorem dX10_child_123 : decode cX10_child 123 = .ok (.iconst (-1), 1) := by decide +kernel
theorem dX10_child_124 : decode cX10_child 124 = .ok (.iastore, 1) := by decide +kernel
theorem dX10_child_125 : decode cX10_child 125 = .ok (.aload_n 0, 1) := by decide +kernel
theorem dX10_child_126 : decode cX10_child 126 = .ok (.getfield 9, 3) := by decide +kernel
theorem dX10_child_129 : decode cX10_child 129 = .ok (.iload 5, 2) := by decide +kernel
theorem dX10_child_131 : decode cX10_child 131 = .ok (.iconst 5, 1) := by decide +kernel
theorem dX10_child_132 : decode cX10_child 132 = .ok (.iadd, 1) := by decide +kernel
theorem dX10_child_133 : decode cX10_child 133 = .ok (.iconst 0, 1) := by decide +kernel
theorem dX10_child_134 : decode cX10_child 134 = .ok (.iastore, 1) := by decide +kernel
theorem dX10_child_135 : decode cX10_child 135 = .ok (.aload_n 0, 1) := by decide +kernel
theorem dX10_child_136 : decode cX10_child 136 = .ok (.getfield 9, 3) := by decide +kernel
theorem dX10_child_139 : decode cX10_child 139 = .ok (.iconst 0, 1) := by decide +kernel
theorem dX10_child_140 : decode cX10_child 140 = .ok (.dup2, 1) := by decide +kernel
theorem dX10_child_141 : decode cX10_child 141 = .ok (.iaload, 1) := by decide +kernel
theorem dX10_child_142 : decode cX10_child 142 = .ok (.iconst 1, 1) := by decide +kernel
theorem dX10_child_143 : decode cX10_child 143 = .ok (.iadd, 1) := by decide +kernel
theorem dX10_child_144 : decode cX10_child 144 = .ok (.iastore, 1) := by decide +kernel
theorem dX10_child_145 : decode cX10_child 145 = .ok (.iload 4, 2) := by decide +kernel
theorem dX10_child_147 : decode cX10_child 147 = .ok (.ireturn, 1) := by decide +kernel
theorem dX10_childTold_0 : decode cX10_childTold 0 = .ok (.iload_n 2, 1) := by decide +kernel
theorem dX10_childTold_1 : decode cX10_childTold 1 = .ok (.bipush 6, 2) := by decide +kernel
theorem dX10_childTold_3 : decode cX10_childTold 3 = .ok (.if_icmp .ge 12, 3) := by decide +kernel
theorem dX10_childTold_6 : decode cX10_childTold 6 = .ok (.aload_n 0, 1) := by decide +kernel
theorem dX10_childTold_7 : decode cX10_childTold 7 = .ok (.iload_n 1, 1) := by decide +kernel
theorem dX10_childTold_8 : decode cX10_childTold 8 = .ok (.iload_n 2, 1) := by decide +kernel
theorem dX10_childTold_9 : decode cX10_childTold 9 = .ok (.invokevirtual 86, 3) := by decide +kernel
theorem dX10_childTold_12 : decode cX10_childTold 12 = .ok (.goto 22, 3) := by decide +kernel
theorem dX10_childTold_15 : decode cX10_childTold 15 = .ok (.iload_n 2, 1) := by decide +kernel
theorem dX10_childTold_16 : decode cX10_childTold 16 = .ok (.bipush 6, 2) := by decide +kernel
theorem dX10_childTold_18 : decode cX10_childTold 18 = .ok (.if_icmp .ne 11, 3) := by decide +kernel
theorem dX10_childTold_21 : decode cX10_childTold 21 = .ok (.aload_n 0, 1) := by decide +kernel
theorem dX10_childTold_22 : decode cX10_childTold 22 = .ok (.iload_n 1, 1) := by decide +kernel
theorem dX10_childTold_23 : decode cX10_childTold 23 = .ok (.invokevirtual 89, 3) := by decide +kernel
theorem dX10_childTold_26 : decode cX10_childTold 26 = .ok (.goto 8, 3) := by decide +kernel
theorem dX10_childTold_29 : decode cX10_childTold 29 = .ok (.aload_n 0, 1) := by decide +kernel
theorem dX10_childTold_30 : decode cX10_childTold 30 = .ok (.iload_n 1, 1) := by decide +kernel
theorem dX10_childTold_31 : decode cX10_childTold 31 = .ok (.invokevirtual 92, 3) := by decide +kernel
theorem dX10_childTold_34 : decode cX10_childTold 34 = .ok (.ireturn, 1) := by decide +kernel
theorem dX10_childIs_0 : decode cX10_childIs 0 = .ok (.aload_n 0, 1) := by decide +kernel
theorem dX10_childIs_1 : decode cX10_childIs 1 = .ok (.iload_n 1, 1) := by decide +kernel
theorem dX10_childIs_2 : decode cX10_childIs 2 = .ok (.iconst 0, 1) := by decide +kernel
theorem dX10_childIs_3 : decode cX10_childIs 3 = .ok (.invokevirtual 95, 3) := by decide +kernel
theorem dX10_childIs_6 : decode cX10_childIs 6 = .ok (.ifCond .eq 22, 3) := by decide +kernel
theorem dX10_childIs_9 : decode cX10_childIs 9 = .ok (.iload_n 2, 1) := by decide +kernel
theorem dX10_childIs_10 : decode cX10_childIs 10 = .ok (.iconst 0, 1) := by decide +kernel
theorem dX10_childIs_11 : decode cX10_childIs 11 = .ok (.bipush 7, 2) := by decide +kernel
theorem dX10_childIs_13 : decode cX10_childIs 13 = .ok (.invokestatic 72, 3) := by decide +kernel
theorem dX10_childIs_16 : decode cX10_childIs 16 = .ok (.ifCond .eq 12, 3) := by decide +kernel
theorem dX10_childIs_19 : decode cX10_childIs 19 = .ok (.aload_n 0, 1) := by decide +kernel
theorem dX10_childIs_20 : decode cX10_childIs 20 = .ok (.iload_n 1, 1) := by decide +kernel
theorem dX10_childIs_21 : decode cX10_childIs 21 = .ok (.iload_n 2, 1) := by decide +kernel
theorem dX10_childIs_22 : decode cX10_childIs 22 = .ok (.invokevirtual 99, 3) := by decide +kernel
theorem dX10_childIs_25 : decode cX10_childIs 25 = .ok (.goto 9, 3) := by decide +kernel
theorem dX10_childIs_28 : decode cX10_childIs 28 = .ok (.aload_n 0, 1) := by decide +kernel
theorem dX10_childIs_29 : decode cX10_childIs 29 = .ok (.ldc 80, 2) := by decide +kernel
theorem dX10_childIs_31 : decode cX10_childIs 31 = .ok (.invokevirtual 81, 3) := by decide +kernel
theorem dX10_childIs_34 : decode cX10_childIs 34 = .ok (.ireturn, 1) := by decide +kernel
theorem dX10_above_0 : decode cX10_above 0 = .ok (.iload_n 0, 1) := by decide +kernel
theorem dX10_above_1 : decode cX10_above 1 = .ok (.ifCond .ne 7, 3) := by decide +kernel
theorem dX10_above_4 : decode cX10_above 4 = .ok (.iconst (-1), 1) := by decide +kernel
theorem dX10_above_5 : decode cX10_above 5 = .ok (.goto 22, 3) := by decide +kernel
theorem dX10_above_8 : decode cX10_above 8 = .ok (.iload_n 0, 1) := by decide +kernel
theorem dX10_above_9 : decode cX10_above 9 = .ok (.iconst 4, 1) := by decide +kernel
theorem dX10_above_10 : decode cX10_above 10 = .ok (.if_icmp .ne 7, 3) := by decide +kernel
theorem dX10_above_13 : decode cX10_above 13 = .ok (.iconst 1, 1) := by decide +kernel
theorem dX10_above_14 : decode cX10_above 14 = .ok (.goto 13, 3) := by decide +kernel
theorem dX10_above_17 : decode cX10_above 17 = .ok (.iload_n 0, 1) := by decide +kernel
theorem dX10_above_18 : decode cX10_above 18 = .ok (.iconst 5, 1) := by decide +kernel
theorem dX10_above_19 : decode cX10_above 19 = .ok (.if_icmp .ne 7, 3) := by decide +kernel
theorem dX10_above_22 : decode cX10_above 22 = .ok (.iconst 2, 1) := by decide +kernel
theorem dX10_above_23 : decode cX10_above 23 = .ok (.goto 4, 3) := by decide +kernel
theorem dX10_above_26 : decode cX10_above 26 = .ok (.iconst 0, 1) := by decide +kernel
theorem dX10_above_27 : decode cX10_above 27 = .ok (.ireturn, 1) := by decide +kernel
theorem dX10_as_0 : decode cX10_as 0 = .ok (.aload_n 0, 1) := by decide +kernel
theorem dX10_as_1 : decode cX10_as 1 = .ok (.iload_n 1, 1) := by decide +kernel
theorem dX10_as_2 : decode cX10_as 2 = .ok (.iconst 0, 1) := by decide +kernel
theorem dX10_as_3 : decode cX10_as 3 = .ok (.invokevirtual 95, 3) := by decide +kernel
theorem dX10_as_6 : decode cX10_as 6 = .ok (.ifCond .eq 13, 3) := by decide +kernel
theorem dX10_as_9 : decode cX10_as 9 = .ok (.iload_n 2, 1) := by decide +kernel
theorem dX10_as_10 : decode cX10_as 10 = .ok (.iconst 0, 1) := by decide +kernel
theorem dX10_as_11 : decode cX10_as 11 = .ok (.bipush 6, 2) := by decide +kernel
theorem dX10_as_13 : decode cX10_as 13 = .ok (.invokestatic 72, 3) := by decide +kernel
theorem dX10_as_16 : decode cX10_as 16 = .ok (.ifCond .ne 10, 3) := by decide +kernel
theorem dX10_as_19 : decode cX10_as 19 = .ok (.aload_n 0, 1) := by decide +kernel
theorem dX10_as_20 : decode cX10_as 20 = .ok (.ldc 80, 2) := by decide +kernel
theorem dX10_as_22 : decode cX10_as 22 = .ok (.invokevirtual 81, 3) := by decide +kernel
theorem dX10_as_25 : decode cX10_as 25 = .ok (.ireturn, 1) := by decide +kernel
theorem dX10_as_26 : decode cX10_as 26 = .ok (.aload_n 0, 1) := by decide +kernel
theorem dX10_as_27 : decode cX10_as 27 = .ok (.iload_n 1, 1) := by decide +kernel
theorem dX10_as_28 : decode cX10_as 28 = .ok (.iconst 0, 1) := by decide +kernel
theorem dX10_as_29 : decode cX10_as 29 = .ok (.invokevirtual 86, 3) := by decide +kernel
theorem dX10_as_32 : decode cX10_as 32 = .ok (.istore_n 3, 1) := by decide +kernel
theorem dX10_as_33 : decode cX10_as 33 = .ok (.iload_n 3, 1) := by decide +kernel
theorem dX10_as_34 : decode cX10_as 34 = .ok (.ifCond .lt 16, 3) := by decide +kernel
theorem dX10_as_37 : decode cX10_as 37 = .ok (.iload_n 3, 1) := by decide +kernel
theorem dX10_as_38 : decode cX10_as 38 = .ok (.iload_n 2, 1) := by decide +kernel
theorem dX10_as_39 : decode cX10_as 39 = .ok (.if_icmp .eq 11, 3) := by decide +kernel
theorem dX10_as_42 : decode cX10_as 42 = .ok (.iload_n 3, 1) := by decide +kernel
theorem dX10_as_43 : decode cX10_as 43 = .ok (.invokestatic 102, 3) := by decide +kernel
theorem dX10_as_46 : decode cX10_as 46 = .ok (.istore_n 3, 1) := by decide +kernel
theorem dX10_as_47 : decode cX10_as 47 = .ok (.goto (-14), 3) := by decide +kernel
theorem dX10_as_50 : decode cX10_as 50 = .ok (.iload_n 3, 1) := by decide +kernel
theorem dX10_as_51 : decode cX10_as 51 = .ok (.ifCond .ge 12, 3) := by decide +kernel
theorem dX10_as_54 : decode cX10_as 54 = .ok (.aload_n 0, 1) := by decide +kernel
theorem dX10_as_55 : decode cX10_as 55 = .ok (.ldc 105, 2) := by decide +kernel
theorem dX10_as_57 : decode cX10_as 57 = .ok (.invokevirtual 81, 3) := by decide +kernel
theorem dX10_as_60 : decode cX10_as 60 = .ok (.goto 9, 3) := by decide +kernel
theorem dX10_as_63 : decode cX10_as 63 = .ok (.aload_n 0, 1) := by decide +kernel
theorem dX10_as_64 : decode cX10_as 64 = .ok (.iload_n 1, 1) := by decide +kernel
theorem dX10_as_65 : decode cX10_as 65 = .ok (.iconst 1, 1) := by decide +kernel
theorem dX10_as_66 : decode cX10_as 66 = .ok (.invokevirtual 86, 3) := by decide +kernel
theorem dX10_as_69 : decode cX10_as 69 = .ok (.ireturn, 1) := by decide +kernel
theorem dX10_set_0 : decode cX10_set 0 = .ok (.aload_n 0, 1) := by decide +kernel
theorem dX10_set_1 : decode cX10_set 1 = .ok (.iload_n 1, 1) := by decide +kernel
theorem dX10_set_2 : decode cX10_set 2 = .ok (.iconst 0, 1) := by decide +kernel
theorem dX10_set_3 : decode cX10_set 3 = .ok (.invokevirtual 95, 3) := by decide +kernel
theorem dX10_set_6 : decode cX10_set 6 = .ok (.ifCond .eq 44, 3) := by decide +kernel
theorem dX10_set_9 : decode cX10_set 9 = .ok (.iload_n 2, 1) := by decide +kernel
theorem dX10_set_10 : decode cX10_set 10 = .ok (.iconst 0, 1) := by decide +kernel
theorem dX10_set_11 : decode cX10_set 11 = .ok (.iconst 3, 1) := by decide +kernel
theorem dX10_set_12 : decode cX10_set 12 = .ok (.invokestatic 72, 3) := by decide +kernel
theorem dX10_set_15 : decode cX10_set 15 = .ok (.ifCond .eq 35, 3) := by decide +kernel
theorem dX10_set_18 : decode cX10_set 18 = .ok (.iload_n 3, 1) := by decide +kernel
theorem dX10_set_19 : decode cX10_set 19 = .ok (.iconst 0, 1) := by decide +kernel
theorem dX10_set_20 : decode cX10_set 20 = .ok (.iload_n 2, 1) := by decide +kernel
theorem dX10_set_21 : decode cX10_set 21 = .ok (.ifCond .ne 8, 3) := by decide +kernel
theorem dX10_set_24 : decode cX10_set 24 = .ok (.bipush 6, 2) := by decide +kernel
theorem dX10_set_26 : decode cX10_set 26 = .ok (.goto 14, 3) := by decide +kernel
theorem dX10_set_29 : decode cX10_set 29 = .ok (.iload_n 2, 1) := by decide +kernel
theorem dX10_set_30 : decode cX10_set 30 = .ok (.iconst 3, 1) := by decide +kernel
theorem dX10_set_31 : decode cX10_set 31 = .ok (.if_icmp .ne 7, 3) := by decide +kernel
theorem dX10_set_34 : decode cX10_set 34 = .ok (.iconst 1, 1) := by decide +kernel
theorem dX10_set_35 : decode cX10_set 35 = .ok (.goto 5, 3) := by decide +kernel
theorem dX10_set_38 : decode cX10_set 38 = .ok (.bipush 99, 2) := by decide +kernel
theorem dX10_set_40 : decode cX10_set 40 = .ok (.invokestatic 72, 3) := by decide +kernel
theorem dX10_set_43 : decode cX10_set 43 = .ok (.ifCond .eq 7, 3) := by decide +kernel
theorem dX10_set_46 : decode cX10_set 46 = .ok (.iconst 1, 1) := by decide +kernel
theorem dX10_set_47 : decode cX10_set 47 = .ok (.goto 4, 3) := by decide +kernel
theorem dX10_set_50 : decode cX10_set 50 = .ok (.iconst 0, 1) := by decide +kernel
theorem dX10_set_51 : decode cX10_set 51 = .ok (.istore 4, 2) := by decide +kernel
theorem dX10_set_53 : decode cX10_set 53 = .ok (.iload 4, 2) := by decide +kernel
theorem dX10_set_55 : decode cX10_set 55 = .ok (.ifCond .eq 20, 3) := by decide +kernel
theorem dX10_set_58 : decode cX10_set 58 = .ok (.aload_n 0, 1) := by decide +kernel
theorem dX10_set_59 : decode cX10_set 59 = .ok (.bipush 7, 2) := by decide +kernel
theorem dX10_set_61 : decode cX10_set 61 = .ok (.bipush 6, 2) := by decide +kernel
theorem dX10_set_63 : decode cX10_set 63 = .ok (.iload_n 1, 1) := by decide +kernel
theorem dX10_set_64 : decode cX10_set 64 = .ok (.imul, 1) := by decide +kernel
theorem dX10_set_65 : decode cX10_set 65 = .ok (.iadd, 1) := by decide +kernel
theorem dX10_set_66 : decode cX10_set 66 = .ok (.iload_n 2, 1) := by decide +kernel
theorem dX10_set_67 : decode cX10_set 67 = .ok (.iadd, 1) := by decide +kernel
theorem dX10_set_68 : decode cX10_set 68 = .ok (.iload_n 3, 1) := by decide +kernel
theorem dX10_set_69 : decode cX10_set 69 = .ok (.invokevirtual 106, 3) := by decide +kernel
theorem dX10_set_72 : decode cX10_set 72 = .ok (.goto 9, 3) := by decide +kernel
theorem dX10_set_75 : decode cX10_set 75 = .ok (.aload_n 0, 1) := by decide +kernel
theorem dX10_set_76 : decode cX10_set 76 = .ok (.ldc 80, 2) := by decide +kernel
theorem dX10_set_78 : decode cX10_set 78 = .ok (.invokevirtual 81, 3) := by decide +kernel
theorem dX10_set_81 : decode cX10_set 81 = .ok (.ireturn, 1) := by decide +kernel
theorem dX10_likes_0 : decode cX10_likes 0 = .ok (.aload_n 0, 1) := by decide +kernel
theorem dX10_likes_1 : decode cX10_likes 1 = .ok (.iload_n 1, 1) := by decide +kernel
theorem dX10_likes_2 : decode cX10_likes 2 = .ok (.iconst 0, 1) := by decide +kernel
theorem dX10_likes_3 : decode cX10_likes 3 = .ok (.invokevirtual 95, 3) := by decide +kernel
theorem dX10_likes_6 : decode cX10_likes 6 = .ok (.ifCond .eq 31, 3) := by decide +kernel
theorem dX10_likes_9 : decode cX10_likes 9 = .ok (.aload_n 0, 1) := by decide +kernel
theorem dX10_likes_10 : decode cX10_likes 10 = .ok (.iload_n 2, 1) := by decide +kernel
theorem dX10_likes_11 : decode cX10_likes 11 = .ok (.iconst 0, 1) := by decide +kernel
theorem dX10_likes_12 : decode cX10_likes 12 = .ok (.invokevirtual 95, 3) := by decide +kernel
theorem dX10_likes_15 : decode cX10_likes 15 = .ok (.ifCond .eq 22, 3) := by decide +kernel
theorem dX10_likes_18 : decode cX10_likes 18 = .ok (.iload_n 1, 1) := by decide +kernel
theorem dX10_likes_19 : decode cX10_likes 19 = .ok (.iload_n 2, 1) := by decide +kernel
theorem dX10_likes_20 : decode cX10_likes 20 = .ok (.if_icmp .eq 17, 3) := by decide +kernel
theorem dX10_likes_23 : decode cX10_likes 23 = .ok (.iload_n 3, 1) := by decide +kernel
theorem dX10_likes_24 : decode cX10_likes 24 = .ok (.iconst 0, 1) := by decide +kernel
theorem dX10_likes_25 : decode cX10_likes 25 = .ok (.bipush 99, 2) := by decide +kernel
theorem dX10_likes_27 : decode cX10_likes 27 = .ok (.invokestatic 72, 3) := by decide +kernel
theorem dX10_likes_30 : decode cX10_likes 30 = .ok (.ifCond .eq 7, 3) := by decide +kernel
theorem dX10_likes_33 : decode cX10_likes 33 = .ok (.iconst 1, 1) := by decide +kernel
theorem dX10_likes_34 : decode cX10_likes 34 = .ok (.goto 4, 3) := by decide +kernel
theorem dX10_likes_37 : decode cX10_likes 37 = .ok (.iconst 0, 1) := by decide +kernel
theorem dX10_likes_38 : decode cX10_likes 38 = .ok (.istore 4, 2) := by decide +kernel
theorem dX10_likes_40 : decode cX10_likes 40 = .ok (.iload 4, 2) := by decide +kernel
theorem dX10_likes_42 : decode cX10_likes 42 = .ok (.ifCond .eq 20, 3) := by decide +kernel
theorem dX10_likes_45 : decode cX10_likes 45 = .ok (.aload_n 0, 1) := by decide +kernel
theorem dX10_likes_46 : decode cX10_likes 46 = .ok (.bipush 67, 2) := by decide +kernel
theorem dX10_likes_48 : decode cX10_likes 48 = .ok (.bipush 10, 2) := by decide +kernel
theorem dX10_likes_50 : decode cX10_likes 50 = .ok (.iload_n 1, 1) := by decide +kernel
theorem dX10_likes_51 : decode cX10_likes 51 = .ok (.imul, 1) := by decide +kernel
theorem dX10_likes_52 : decode cX10_likes 52 = .ok (.iadd, 1) := by decide +kernel
theorem dX10_likes_53 : decode cX10_likes 53 = .ok (.iload_n 2, 1) := by decide +kernel
theorem dX10_likes_54 : decode cX10_likes 54 = .ok (.iadd, 1) := by decide +kernel
theorem dX10_likes_55 : decode cX10_likes 55 = .ok (.iload_n 3, 1) := by decide +kernel
theorem dX10_likes_56 : decode cX10_likes 56 = .ok (.invokevirtual 106, 3) := by decide +kernel
theorem dX10_likes_59 : decode cX10_likes 59 = .ok (.goto 9, 3) := by decide +kernel
theorem dX10_likes_62 : decode cX10_likes 62 = .ok (.aload_n 0, 1) := by decide +kernel
theorem dX10_likes_63 : decode cX10_likes 63 = .ok (.ldc 80, 2) := by decide +kernel
theorem dX10_likes_65 : decode cX10_likes 65 = .ok (.invokevirtual 81, 3) := by decide +kernel
theorem dX10_likes_68 : decode cX10_likes 68 = .ok (.ireturn, 1) := by decide +kernel
theorem dX10_heap_0 : decode cX10_heap 0 = .ok (.iload_n 1, 1) := by decide +kernel
theorem dX10_heap_1 : decode cX10_heap 1 = .ok (.iconst 1, 1) := by decide +kernel
theorem dX10_heap_2 : decode cX10_heap 2 = .ok (.bipush 10, 2) := by decide +kernel
theorem dX10_heap_4 : decode cX10_heap 4 = .ok (.invokestatic 72, 3) := by decide +kernel
theorem dX10_heap_7 : decode cX10_heap 7 = .ok (.ifCond .eq 13, 3) := by decide +kernel
theorem dX10_heap_10 : decode cX10_heap 10 = .ok (.iload_n 2, 1) := by decide +kernel
theorem dX10_heap_11 : decode cX10_heap 11 = .ok (.iload_n 1, 1) := by decide +kernel
theorem dX10_heap_12 : decode cX10_heap 12 = .ok (.bipush 10, 2) := by decide +kernel
theorem dX10_heap_14 : decode cX10_heap 14 = .ok (.invokestatic 72, 3) := by decide +kernel
theorem dX10_heap_17 : decode cX10_heap 17 = .ok (.ifCond .ne 10, 3) := by decide +kernel
theorem dX10_heap_20 : decode cX10_heap 20 = .ok (.aload_n 0, 1) := by decide +kernel
theorem dX10_heap_21 : decode cX10_heap 21 = .ok (.ldc 80, 2) := by decide +kernel
theorem dX10_heap_23 : decode cX10_heap 23 = .ok (.invokevirtual 81, 3) := by decide +kernel
theorem dX10_heap_26 : decode cX10_heap 26 = .ok (.ireturn, 1) := by decide +kernel
theorem dX10_heap_27 : decode cX10_heap 27 = .ok (.aload_n 0, 1) := by decide +kernel
theorem dX10_heap_28 : decode cX10_heap 28 = .ok (.getfield 9, 3) := by decide +kernel
theorem dX10_heap_31 : decode cX10_heap 31 = .ok (.iconst 1, 1) := by decide +kernel
theorem dX10_heap_32 : decode cX10_heap 32 = .ok (.iaload, 1) := by decide +kernel
theorem dX10_heap_33 : decode cX10_heap 33 = .ok (.istore_n 3, 1) := by decide +kernel
theorem dX10_heap_34 : decode cX10_heap 34 = .ok (.iload_n 3, 1) := by decide +kernel
theorem dX10_heap_35 : decode cX10_heap 35 = .ok (.iconst 5, 1) := by decide +kernel
theorem dX10_heap_36 : decode cX10_heap 36 = .ok (.if_icmp .ne 10, 3) := by decide +kernel
theorem dX10_heap_39 : decode cX10_heap 39 = .ok (.aload_n 0, 1) := by decide +kernel
theorem dX10_heap_40 : decode cX10_heap 40 = .ok (.ldc 85, 2) := by decide +kernel
theorem dX10_heap_42 : decode cX10_heap 42 = .ok (.invokevirtual 81, 3) := by decide +kernel
theorem dX10_heap_45 : decode cX10_heap 45 = .ok (.ireturn, 1) := by decide +kernel
theorem dX10_heap_46 : decode cX10_heap 46 = .ok (.aload_n 0, 1) := by decide +kernel
theorem dX10_heap_47 : decode cX10_heap 47 = .ok (.getfield 9, 3) := by decide +kernel
theorem dX10_heap_50 : decode cX10_heap 50 = .ok (.sipush 167, 3) := by decide +kernel
theorem dX10_heap_53 : decode cX10_heap 53 = .ok (.iconst 4, 1) := by decide +kernel
theorem dX10_heap_54 : decode cX10_heap 54 = .ok (.iload_n 3, 1) := by decide +kernel
theorem dX10_heap_55 : decode cX10_heap 55 = .ok (.imul, 1) := by decide +kernel
theorem dX10_heap_56 : decode cX10_heap 56 = .ok (.iadd, 1) := by decide +kernel
theorem dX10_heap_57 : decode cX10_heap 57 = .ok (.iconst 0, 1) := by decide +kernel
theorem dX10_heap_58 : decode cX10_heap 58 = .ok (.iadd, 1) := by decide +kernel
theorem dX10_heap_59 : decode cX10_heap 59 = .ok (.iload_n 1, 1) := by decide +kernel
theorem dX10_heap_60 : decode cX10_heap 60 = .ok (.iastore, 1) := by decide +kernel
theorem dX10_heap_61 : decode cX10_heap 61 = .ok (.aload_n 0, 1) := by decide +kernel
theorem dX10_heap_62 : decode cX10_heap 62 = .ok (.getfield 9, 3) := by decide +kernel
theorem dX10_heap_65 : decode cX10_heap 65 = .ok (.sipush 167, 3) := by decide +kernel
theorem dX10_heap_68 : decode cX10_heap 68 = .ok (.iconst 4, 1) := by decide +kernel
theorem dX10_heap_69 : decode cX10_heap 69 = .ok (.iload_n 3, 1) := by decide +kernel
theorem dX10_heap_70 : decode cX10_heap 70 = .ok (.imul, 1) := by decide +kernel
theorem dX10_heap_71 : decode cX10_heap 71 = .ok (.iadd, 1) := by decide +kernel
theorem dX10_heap_72 : decode cX10_heap 72 = .ok (.iconst 1, 1) := by decide +kernel
theorem dX10_heap_73 : decode cX10_heap 73 = .ok (.iadd, 1) := by decide +kernel
theorem dX10_heap_74 : decode cX10_heap 74 = .ok (.iload_n 2, 1) := by decide +kernel
theorem dX10_heap_75 : decode cX10_heap 75 = .ok (.iastore, 1) := by decide +kernel
theorem dX10_heap_76 : decode cX10_heap 76 = .ok (.aload_n 0, 1) := by decide +kernel
theorem dX10_heap_77 : decode cX10_heap 77 = .ok (.getfield 9, 3) := by decide +kernel
theorem dX10_heap_80 : decode cX10_heap 80 = .ok (.sipush 167, 3) := by decide +kernel
theorem dX10_heap_83 : decode cX10_heap 83 = .ok (.iconst 4, 1) := by decide +kernel
theorem dX10_heap_84 : decode cX10_heap 84 = .ok (.iload_n 3, 1) := by decide +kernel
theorem dX10_heap_85 : decode cX10_heap 85 = .ok (.imul, 1) := by decide +kernel
theorem dX10_heap_86 : decode cX10_heap 86 = .ok (.iadd, 1) := by decide +kernel
theorem dX10_heap_87 : decode cX10_heap 87 = .ok (.iconst 2, 1) := by decide +kernel
theorem dX10_heap_88 : decode cX10_heap 88 = .ok (.iadd, 1) := by decide +kernel
theorem dX10_heap_89 : decode cX10_heap 89 = .ok (.bipush 30, 2) := by decide +kernel
theorem dX10_heap_91 : decode cX10_heap 91 = .ok (.iastore, 1) := by decide +kernel
theorem dX10_heap_92 : decode cX10_heap 92 = .ok (.aload_n 0, 1) := by decide +kernel
theorem dX10_heap_93 : decode cX10_heap 93 = .ok (.getfield 9, 3) := by decide +kernel
theorem dX10_heap_96 : decode cX10_heap 96 = .ok (.sipush 167, 3) := by decide +kernel
theorem dX10_heap_99 : decode cX10_heap 99 = .ok (.iconst 4, 1) := by decide +kernel
theorem dX10_heap_100 : decode cX10_heap 100 = .ok (.iload_n 3, 1) := by decide +kernel
theorem dX10_heap_101 : decode cX10_heap 101 = .ok (.imul, 1) := by decide +kernel
theorem dX10_heap_102 : decode cX10_heap 102 = .ok (.iadd, 1) := by decide +kernel
theorem dX10_heap_103 : decode cX10_heap 103 = .ok (.iconst 3, 1) := by decide +kernel
theorem dX10_heap_104 : decode cX10_heap 104 = .ok (.iadd, 1) := by decide +kernel
theorem dX10_heap_105 : decode cX10_heap 105 = .ok (.iconst 0, 1) := by decide +kernel
theorem dX10_heap_106 : decode cX10_heap 106 = .ok (.iastore, 1) := by decide +kernel
theorem dX10_heap_107 : decode cX10_heap 107 = .ok (.aload_n 0, 1) := by decide +kernel
theorem dX10_heap_108 : decode cX10_heap 108 = .ok (.getfield 9, 3) := by decide +kernel
theorem dX10_heap_111 : decode cX10_heap 111 = .ok (.iconst 1, 1) := by decide +kernel
theorem dX10_heap_112 : decode cX10_heap 112 = .ok (.dup2, 1) := by decide +kernel
theorem dX10_heap_113 : decode cX10_heap 113 = .ok (.iaload, 1) := by decide +kernel
theorem dX10_heap_114 : decode cX10_heap 114 = .ok (.iconst 1, 1) := by decide +kernel
theorem dX10_heap_115 : decode cX10_heap 115 = .ok (.iadd, 1) := by decide +kernel
theorem dX10_heap_116 : decode cX10_heap 116 = .ok (.iastore, 1) := by decide +kernel
theorem dX10_heap_117 : decode cX10_heap 117 = .ok (.iload_n 3, 1) := by decide +kernel
theorem dX10_heap_118 : decode cX10_heap 118 = .ok (.ireturn, 1) := by decide +kernel
theorem dX10_inHeap_0 : decode cX10_inHeap 0 = .ok (.iconst 0, 1) := by decide +kernel
theorem dX10_inHeap_1 : decode cX10_inHeap 1 = .ok (.istore_n 2, 1) := by decide +kernel
theorem dX10_inHeap_2 : decode cX10_inHeap 2 = .ok (.iconst 0, 1) := by decide +kernel
theorem dX10_inHeap_3 : decode cX10_inHeap 3 = .ok (.istore_n 3, 1) := by decide +kernel
theorem dX10_inHeap_4 : decode cX10_inHeap 4 = .ok (.iload_n 3, 1) := by decide +kernel
theorem dX10_inHeap_5 : decode cX10_inHeap 5 = .ok (.aload_n 0, 1) := by decide +kernel
theorem dX10_inHeap_6 : decode cX10_inHeap 6 = .ok (.getfield 9, 3) := by decide +kernel
theorem dX10_inHeap_9 : decode cX10_inHeap 9 = .ok (.iconst 0, 1) := by decide +kernel
theorem dX10_inHeap_10 : decode cX10_inHeap 10 = .ok (.iaload, 1) := by decide +kernel
theorem dX10_inHeap_11 : decode cX10_inHeap 11 = .ok (.if_icmp .ge 29, 3) := by decide +kernel
theorem dX10_inHeap_14 : decode cX10_inHeap 14 = .ok (.iload_n 2, 1) := by decide +kernel
theorem dX10_inHeap_15 : decode cX10_inHeap 15 = .ok (.aload_n 0, 1) := by decide +kernel
theorem dX10_inHeap_16 : decode cX10_inHeap 16 = .ok (.iload_n 3, 1) := by decide +kernel
theorem dX10_inHeap_17 : decode cX10_inHeap 17 = .ok (.iconst 4, 1) := by decide +kernel
theorem dX10_inHeap_18 : decode cX10_inHeap 18 = .ok (.invokevirtual 86, 3) := by decide +kernel
theorem dX10_inHeap_21 : decode cX10_inHeap 21 = .ok (.iload_n 1, 1) := by decide +kernel
theorem dX10_inHeap_22 : decode cX10_inHeap 22 = .ok (.if_icmp .ne 9, 3) := by decide +kernel
theorem dX10_inHeap_25 : decode cX10_inHeap 25 = .ok (.iconst 1, 1) := by decide +kernel
theorem dX10_inHeap_26 : decode cX10_inHeap 26 = .ok (.iload_n 3, 1) := by decide +kernel
theorem dX10_inHeap_27 : decode cX10_inHeap 27 = .ok (.ishl, 1) := by decide +kernel
theorem dX10_inHeap_28 : decode cX10_inHeap 28 = .ok (.goto 4, 3) := by decide +kernel
theorem dX10_inHeap_31 : decode cX10_inHeap 31 = .ok (.iconst 0, 1) := by decide +kernel
theorem dX10_inHeap_32 : decode cX10_inHeap 32 = .ok (.ior, 1) := by decide +kernel
theorem dX10_inHeap_33 : decode cX10_inHeap 33 = .ok (.istore_n 2, 1) := by decide +kernel
theorem dX10_inHeap_34 : decode cX10_inHeap 34 = .ok (.iinc 3 1, 3) := by decide +kernel
theorem dX10_inHeap_37 : decode cX10_inHeap 37 = .ok (.goto (-33), 3) := by decide +kernel
theorem dX10_inHeap_40 : decode cX10_inHeap 40 = .ok (.iload_n 2, 1) := by decide +kernel
theorem dX10_inHeap_41 : decode cX10_inHeap 41 = .ok (.ireturn, 1) := by decide +kernel
theorem dX10_heapIs_0 : decode cX10_heapIs 0 = .ok (.aload_n 0, 1) := by decide +kernel
theorem dX10_heapIs_1 : decode cX10_heapIs 1 = .ok (.iload_n 1, 1) := by decide +kernel
theorem dX10_heapIs_2 : decode cX10_heapIs 2 = .ok (.iconst 1, 1) := by decide +kernel
theorem dX10_heapIs_3 : decode cX10_heapIs 3 = .ok (.invokevirtual 95, 3) := by decide +kernel
theorem dX10_heapIs_6 : decode cX10_heapIs 6 = .ok (.ifCond .eq 12, 3) := by decide +kernel
theorem dX10_heapIs_9 : decode cX10_heapIs 9 = .ok (.iload_n 2, 1) := by decide +kernel
theorem dX10_heapIs_10 : decode cX10_heapIs 10 = .ok (.iconst 0, 1) := by decide +kernel
theorem dX10_heapIs_11 : decode cX10_heapIs 11 = .ok (.iconst 4, 1) := by decide +kernel
theorem dX10_heapIs_12 : decode cX10_heapIs 12 = .ok (.invokestatic 72, 3) := by decide +kernel
theorem dX10_heapIs_15 : decode cX10_heapIs 15 = .ok (.ifCond .ne 10, 3) := by decide +kernel
theorem dX10_heapIs_18 : decode cX10_heapIs 18 = .ok (.aload_n 0, 1) := by decide +kernel
theorem dX10_heapIs_19 : decode cX10_heapIs 19 = .ok (.ldc 80, 2) := by decide +kernel
theorem dX10_heapIs_21 : decode cX10_heapIs 21 = .ok (.invokevirtual 81, 3) := by decide +kernel
theorem dX10_heapIs_24 : decode cX10_heapIs 24 = .ok (.ireturn, 1) := by decide +kernel
theorem dX10_heapIs_25 : decode cX10_heapIs 25 = .ok (.iload_n 2, 1) := by decide +kernel
theorem dX10_heapIs_26 : decode cX10_heapIs 26 = .ok (.iconst 3, 1) := by decide +kernel
theorem dX10_heapIs_27 : decode cX10_heapIs 27 = .ok (.if_icmp .ge 12, 3) := by decide +kernel
theorem dX10_heapIs_30 : decode cX10_heapIs 30 = .ok (.aload_n 0, 1) := by decide +kernel
theorem dX10_heapIs_31 : decode cX10_heapIs 31 = .ok (.iload_n 1, 1) := by decide +kernel
theorem dX10_heapIs_32 : decode cX10_heapIs 32 = .ok (.iload_n 2, 1) := by decide +kernel
theorem dX10_heapIs_33 : decode cX10_heapIs 33 = .ok (.invokevirtual 109, 3) := by decide +kernel
theorem dX10_heapIs_36 : decode cX10_heapIs 36 = .ok (.goto 22, 3) := by decide +kernel
theorem dX10_heapIs_39 : decode cX10_heapIs 39 = .ok (.iload_n 2, 1) := by decide +kernel
theorem dX10_heapIs_40 : decode cX10_heapIs 40 = .ok (.iconst 3, 1) := by decide +kernel
theorem dX10_heapIs_41 : decode cX10_heapIs 41 = .ok (.if_icmp .ne 11, 3) := by decide +kernel
theorem dX10_heapIs_44 : decode cX10_heapIs 44 = .ok (.aload_n 0, 1) := by decide +kernel
theorem dX10_heapIs_45 : decode cX10_heapIs 45 = .ok (.iload_n 1, 1) := by decide +kernel
theorem dX10_heapIs_46 : decode cX10_heapIs 46 = .ok (.invokevirtual 112, 3) := by decide +kernel
theorem dX10_heapIs_49 : decode cX10_heapIs 49 = .ok (.goto 9, 3) := by decide +kernel
theorem dX10_heapIs_52 : decode cX10_heapIs 52 = .ok (.aload_n 0, 1) := by decide +kernel
theorem dX10_heapIs_53 : decode cX10_heapIs 53 = .ok (.iload_n 1, 1) := by decide +kernel
theorem dX10_heapIs_54 : decode cX10_heapIs 54 = .ok (.iconst 3, 1) := by decide +kernel
theorem dX10_heapIs_55 : decode cX10_heapIs 55 = .ok (.invokevirtual 109, 3) := by decide +kernel
theorem dX10_heapIs_58 : decode cX10_heapIs 58 = .ok (.ireturn, 1) := by decide +kernel
theorem dX10_rule_0 : decode cX10_rule 0 = .ok (.aload_n 0, 1) := by decide +kernel
theorem dX10_rule_1 : decode cX10_rule 1 = .ok (.iload_n 1, 1) := by decide +kernel
theorem dX10_rule_2 : decode cX10_rule 2 = .ok (.iconst 1, 1) := by decide +kernel
theorem dX10_rule_3 : decode cX10_rule 3 = .ok (.invokevirtual 95, 3) := by decide +kernel
theorem dX10_rule_6 : decode cX10_rule 6 = .ok (.ifCond .eq 30, 3) := by decide +kernel
theorem dX10_rule_9 : decode cX10_rule 9 = .ok (.iload_n 2, 1) := by decide +kernel
theorem dX10_rule_10 : decode cX10_rule 10 = .ok (.iconst 0, 1) := by decide +kernel
theorem dX10_rule_11 : decode cX10_rule 11 = .ok (.bipush 99, 2) := by decide +kernel
theorem dX10_rule_13 : decode cX10_rule 13 = .ok (.invokestatic 72, 3) := by decide +kernel
theorem dX10_rule_16 : decode cX10_rule 16 = .ok (.ifCond .eq 20, 3) := by decide +kernel
theorem dX10_rule_19 : decode cX10_rule 19 = .ok (.aload_n 0, 1) := by decide +kernel
theorem dX10_rule_20 : decode cX10_rule 20 = .ok (.sipush 167, 3) := by decide +kernel
theorem dX10_rule_23 : decode cX10_rule 23 = .ok (.iconst 4, 1) := by decide +kernel
theorem dX10_rule_24 : decode cX10_rule 24 = .ok (.iload_n 1, 1) := by decide +kernel
theorem dX10_rule_25 : decode cX10_rule 25 = .ok (.imul, 1) := by decide +kernel
theorem dX10_rule_26 : decode cX10_rule 26 = .ok (.iadd, 1) := by decide +kernel
theorem dX10_rule_27 : decode cX10_rule 27 = .ok (.iconst 2, 1) := by decide +kernel
theorem dX10_rule_28 : decode cX10_rule 28 = .ok (.iadd, 1) := by decide +kernel
theorem dX10_rule_29 : decode cX10_rule 29 = .ok (.iload_n 2, 1) := by decide +kernel
theorem dX10_rule_30 : decode cX10_rule 30 = .ok (.invokevirtual 106, 3) := by decide +kernel
theorem dX10_rule_33 : decode cX10_rule 33 = .ok (.goto 9, 3) := by decide +kernel
theorem dX10_rule_36 : decode cX10_rule 36 = .ok (.aload_n 0, 1) := by decide +kernel
theorem dX10_rule_37 : decode cX10_rule 37 = .ok (.ldc 80, 2) := by decide +kernel
theorem dX10_rule_39 : decode cX10_rule 39 = .ok (.invokevirtual 81, 3) := by decide +kernel
theorem dX10_rule_42 : decode cX10_rule 42 = .ok (.ireturn, 1) := by decide +kernel
theorem dX10_isFew_0 : decode cX10_isFew 0 = .ok (.aload_n 0, 1) := by decide +kernel
theorem dX10_isFew_1 : decode cX10_isFew 1 = .ok (.iload_n 1, 1) := by decide +kernel
theorem dX10_isFew_2 : decode cX10_isFew 2 = .ok (.invokevirtual 112, 3) := by decide +kernel
theorem dX10_isFew_5 : decode cX10_isFew 5 = .ok (.invokestatic 115, 3) := by decide +kernel
theorem dX10_isFew_8 : decode cX10_isFew 8 = .ok (.istore_n 2, 1) := by decide +kernel
theorem dX10_isFew_9 : decode cX10_isFew 9 = .ok (.iload_n 2, 1) := by decide +kernel
theorem dX10_isFew_10 : decode cX10_isFew 10 = .ok (.ifCond .le 17, 3) := by decide +kernel
theorem dX10_isFew_13 : decode cX10_isFew 13 = .ok (.iload_n 2, 1) := by decide +kernel
theorem dX10_isFew_14 : decode cX10_isFew 14 = .ok (.aload_n 0, 1) := by decide +kernel
theorem dX10_isFew_15 : decode cX10_isFew 15 = .ok (.iload_n 1, 1) := by decide +kernel
theorem dX10_isFew_16 : decode cX10_isFew 16 = .ok (.iconst 0, 1) := by decide +kernel
theorem dX10_isFew_17 : decode cX10_isFew 17 = .ok (.invokevirtual 109, 3) := by decide +kernel
theorem dX10_isFew_20 : decode cX10_isFew 20 = .ok (.if_icmp .ge 7, 3) := by decide +kernel
theorem dX10_isFew_23 : decode cX10_isFew 23 = .ok (.iconst 1, 1) := by decide +kernel
theorem dX10_isFew_24 : decode cX10_isFew 24 = .ok (.goto 4, 3) := by decide +kernel
theorem dX10_isFew_27 : decode cX10_isFew 27 = .ok (.iconst 0, 1) := by decide +kernel
theorem dX10_isFew_28 : decode cX10_isFew 28 = .ok (.ireturn, 1) := by decide +kernel
theorem dX10_goesTo_0 : decode cX10_goesTo 0 = .ok (.aload_n 0, 1) := by decide +kernel
theorem dX10_goesTo_1 : decode cX10_goesTo 1 = .ok (.getfield 9, 3) := by decide +kernel
theorem dX10_goesTo_4 : decode cX10_goesTo 4 = .ok (.bipush 7, 2) := by decide +kernel
theorem dX10_goesTo_6 : decode cX10_goesTo 6 = .ok (.bipush 6, 2) := by decide +kernel
theorem dX10_goesTo_8 : decode cX10_goesTo 8 = .ok (.iload_n 1, 1) := by decide +kernel
theorem dX10_goesTo_9 : decode cX10_goesTo 9 = .ok (.imul, 1) := by decide +kernel
theorem dX10_goesTo_10 : decode cX10_goesTo 10 = .ok (.iadd, 1) := by decide +kernel
theorem dX10_goesTo_11 : decode cX10_goesTo 11 = .ok (.iconst 4, 1) := by decide +kernel
theorem dX10_goesTo_12 : decode cX10_goesTo 12 = .ok (.iadd, 1) := by decide +kernel
theorem dX10_goesTo_13 : decode cX10_goesTo 13 = .ok (.iload_n 2, 1) := by decide +kernel
theorem dX10_goesTo_14 : decode cX10_goesTo 14 = .ok (.iastore, 1) := by decide +kernel
theorem dX10_goesTo_15 : decode cX10_goesTo 15 = .ok (.iconst 0, 1) := by decide +kernel
theorem dX10_goesTo_16 : decode cX10_goesTo 16 = .ok (.istore_n 3, 1) := by decide +kernel
theorem dX10_goesTo_17 : decode cX10_goesTo 17 = .ok (.iload_n 3, 1) := by decide +kernel
theorem dX10_goesTo_18 : decode cX10_goesTo 18 = .ok (.iconst 5, 1) := by decide +kernel
theorem dX10_goesTo_19 : decode cX10_goesTo 19 = .ok (.if_icmp .ge 24, 3) := by decide +kernel
theorem dX10_goesTo_22 : decode cX10_goesTo 22 = .ok (.aload_n 0, 1) := by decide +kernel
theorem dX10_goesTo_23 : decode cX10_goesTo 23 = .ok (.getfield 9, 3) := by decide +kernel
theorem dX10_goesTo_26 : decode cX10_goesTo 26 = .ok (.sipush 187, 3) := by decide +kernel
theorem dX10_goesTo_29 : decode cX10_goesTo 29 = .ok (.iconst 5, 1) := by decide +kernel
theorem dX10_goesTo_30 : decode cX10_goesTo 30 = .ok (.iload_n 1, 1) := by decide +kernel
theorem dX10_goesTo_31 : decode cX10_goesTo 31 = .ok (.imul, 1) := by decide +kernel
theorem dX10_goesTo_32 : decode cX10_goesTo 32 = .ok (.iadd, 1) := by decide +kernel
theorem dX10_goesTo_33 : decode cX10_goesTo 33 = .ok (.iload_n 3, 1) := by decide +kernel
theorem dX10_goesTo_34 : decode cX10_goesTo 34 = .ok (.iadd, 1) := by decide +kernel
theorem dX10_goesTo_35 : decode cX10_goesTo 35 = .ok (.iconst 0, 1) := by decide +kernel
theorem dX10_goesTo_36 : decode cX10_goesTo 36 = .ok (.iastore, 1) := by decide +kernel
theorem dX10_goesTo_37 : decode cX10_goesTo 37 = .ok (.iinc 3 1, 3) := by decide +kernel
theorem dX10_goesTo_40 : decode cX10_goesTo 40 = .ok (.goto (-23), 3) := by decide +kernel
theorem dX10_goesTo_43 : decode cX10_goesTo 43 = .ok (.iconst 0, 1) := by decide +kernel
theorem dX10_goesTo_44 : decode cX10_goesTo 44 = .ok (.istore_n 3, 1) := by decide +kernel
theorem dX10_goesTo_45 : decode cX10_goesTo 45 = .ok (.iload_n 3, 1) := by decide +kernel
theorem dX10_goesTo_46 : decode cX10_goesTo 46 = .ok (.aload_n 0, 1) := by decide +kernel
theorem dX10_goesTo_47 : decode cX10_goesTo 47 = .ok (.getfield 9, 3) := by decide +kernel
theorem dX10_goesTo_50 : decode cX10_goesTo 50 = .ok (.iconst 1, 1) := by decide +kernel
theorem dX10_goesTo_51 : decode cX10_goesTo 51 = .ok (.iaload, 1) := by decide +kernel
theorem dX10_goesTo_52 : decode cX10_goesTo 52 = .ok (.if_icmp .ge 41, 3) := by decide +kernel
theorem dX10_goesTo_55 : decode cX10_goesTo 55 = .ok (.aload_n 0, 1) := by decide +kernel
theorem dX10_goesTo_56 : decode cX10_goesTo 56 = .ok (.getfield 9, 3) := by decide +kernel
theorem dX10_goesTo_59 : decode cX10_goesTo 59 = .ok (.sipush 167, 3) := by decide +kernel
theorem dX10_goesTo_62 : decode cX10_goesTo 62 = .ok (.iconst 4, 1) := by decide +kernel
theorem dX10_goesTo_63 : decode cX10_goesTo 63 = .ok (.iload_n 3, 1) := by decide +kernel
theorem dX10_goesTo_64 : decode cX10_goesTo 64 = .ok (.imul, 1) := by decide +kernel
theorem dX10_goesTo_65 : decode cX10_goesTo 65 = .ok (.iadd, 1) := by decide +kernel
theorem dX10_goesTo_66 : decode cX10_goesTo 66 = .ok (.iconst 3, 1) := by decide +kernel
theorem dX10_goesTo_67 : decode cX10_goesTo 67 = .ok (.iadd, 1) := by decide +kernel
theorem dX10_goesTo_68 : decode cX10_goesTo 68 = .ok (.aload_n 0, 1) := by decide +kernel
theorem dX10_goesTo_69 : decode cX10_goesTo 69 = .ok (.iload_n 3, 1) := by decide +kernel
theorem dX10_goesTo_70 : decode cX10_goesTo 70 = .ok (.invokevirtual 118, 3) := by decide +kernel
theorem dX10_goesTo_73 : decode cX10_goesTo 73 = .ok (.ifCond .eq 12, 3) := by decide +kernel
theorem dX10_goesTo_76 : decode cX10_goesTo 76 = .ok (.aload_n 0, 1) := by decide +kernel
theorem dX10_goesTo_77 : decode cX10_goesTo 77 = .ok (.iload_n 3, 1) := by decide +kernel
theorem dX10_goesTo_78 : decode cX10_goesTo 78 = .ok (.iconst 3, 1) := by decide +kernel
theorem dX10_goesTo_79 : decode cX10_goesTo 79 = .ok (.invokevirtual 109, 3) := by decide +kernel
theorem dX10_goesTo_82 : decode cX10_goesTo 82 = .ok (.goto 4, 3) := by decide +kernel
theorem dX10_goesTo_85 : decode cX10_goesTo 85 = .ok (.iconst 0, 1) := by decide +kernel
theorem dX10_goesTo_86 : decode cX10_goesTo 86 = .ok (.iastore, 1) := by decide +kernel
theorem dX10_goesTo_87 : decode cX10_goesTo 87 = .ok (.iinc 3 1, 3) := by decide +kernel
theorem dX10_goesTo_90 : decode cX10_goesTo 90 = .ok (.goto (-45), 3) := by decide +kernel
theorem dX10_goesTo_93 : decode cX10_goesTo 93 = .ok (.return_, 1) := by decide +kernel
theorem dX10_join_0 : decode cX10_join 0 = .ok (.aload_n 0, 1) := by decide +kernel
theorem dX10_join_1 : decode cX10_join 1 = .ok (.iload_n 1, 1) := by decide +kernel
theorem dX10_join_2 : decode cX10_join 2 = .ok (.iconst 0, 1) := by decide +kernel
theorem dX10_join_3 : decode cX10_join 3 = .ok (.invokevirtual 95, 3) := by decide +kernel
theorem dX10_join_6 : decode cX10_join 6 = .ok (.ifCond .eq 12, 3) := by decide +kernel
theorem dX10_join_9 : decode cX10_join 9 = .ok (.aload_n 0, 1) := by decide +kernel
theorem dX10_join_10 : decode cX10_join 10 = .ok (.iload_n 2, 1) := by decide +kernel
theorem dX10_join_11 : decode cX10_join 11 = .ok (.iconst 1, 1) := by decide +kernel
theorem dX10_join_12 : decode cX10_join 12 = .ok (.invokevirtual 95, 3) := by decide +kernel
theorem dX10_join_15 : decode cX10_join 15 = .ok (.ifCond .ne 10, 3) := by decide +kernel
theorem dX10_join_18 : decode cX10_join 18 = .ok (.aload_n 0, 1) := by decide +kernel
theorem dX10_join_19 : decode cX10_join 19 = .ok (.ldc 80, 2) := by decide +kernel
theorem dX10_join_21 : decode cX10_join 21 = .ok (.invokevirtual 81, 3) := by decide +kernel
theorem dX10_join_24 : decode cX10_join 24 = .ok (.ireturn, 1) := by decide +kernel
theorem dX10_join_25 : decode cX10_join 25 = .ok (.aload_n 0, 1) := by decide +kernel
theorem dX10_join_26 : decode cX10_join 26 = .ok (.iload_n 1, 1) := by decide +kernel
theorem dX10_join_27 : decode cX10_join 27 = .ok (.iconst 4, 1) := by decide +kernel
theorem dX10_join_28 : decode cX10_join 28 = .ok (.invokevirtual 86, 3) := by decide +kernel
theorem dX10_join_31 : decode cX10_join 31 = .ok (.iload_n 2, 1) := by decide +kernel
theorem dX10_join_32 : decode cX10_join 32 = .ok (.if_icmp .ne 10, 3) := by decide +kernel
theorem dX10_join_35 : decode cX10_join 35 = .ok (.aload_n 0, 1) := by decide +kernel
theorem dX10_join_36 : decode cX10_join 36 = .ok (.ldc 122, 2) := by decide +kernel
theorem dX10_join_38 : decode cX10_join 38 = .ok (.invokevirtual 81, 3) := by decide +kernel
theorem dX10_join_41 : decode cX10_join 41 = .ok (.ireturn, 1) := by decide +kernel
theorem dX10_join_42 : decode cX10_join 42 = .ok (.aload_n 0, 1) := by decide +kernel
