theorem dX0_init_0 : decode cX0_init 0 = .ok (.aload_n 0, 1) := by decide +kernel
theorem dX0_init_1 : decode cX0_init 1 = .ok (.invokespecial 3, 3) := by decide +kernel
theorem dX0_init_4 : decode cX0_init 4 = .ok (.aload_n 0, 1) := by decide +kernel
theorem dX0_init_5 : decode cX0_init 5 = .ok (.bipush 24, 2) := by decide +kernel
theorem dX0_init_7 : decode cX0_init 7 = .ok (.newarray .int, 2) := by decide +kernel
theorem dX0_init_9 : decode cX0_init 9 = .ok (.putfield 13, 3) := by decide +kernel
theorem dX0_init_12 : decode cX0_init 12 = .ok (.return_, 1) := by decide +kernel
theorem dX0_reckon_0 : decode cX0_reckon 0 = .ok (.iconst 0, 1) := by decide +kernel
theorem dX0_reckon_1 : decode cX0_reckon 1 = .ok (.istore_n 3, 1) := by decide +kernel
theorem dX0_reckon_2 : decode cX0_reckon 2 = .ok (.iload_n 3, 1) := by decide +kernel
theorem dX0_reckon_3 : decode cX0_reckon 3 = .ok (.aload_n 1, 1) := by decide +kernel
theorem dX0_reckon_4 : decode cX0_reckon 4 = .ok (.getfield 17, 3) := by decide +kernel
theorem dX0_reckon_7 : decode cX0_reckon 7 = .ok (.if_icmp .ge 59, 3) := by decide +kernel
theorem dX0_reckon_10 : decode cX0_reckon 10 = .ok (.aload_n 1, 1) := by decide +kernel
theorem dX0_reckon_11 : decode cX0_reckon 11 = .ok (.iload_n 3, 1) := by decide +kernel
theorem dX0_reckon_12 : decode cX0_reckon 12 = .ok (.invokevirtual 23, 3) := by decide +kernel
theorem dX0_reckon_15 : decode cX0_reckon 15 = .ok (.aload_n 1, 1) := by decide +kernel
theorem dX0_reckon_16 : decode cX0_reckon 16 = .ok (.getfield 27, 3) := by decide +kernel
theorem dX0_reckon_19 : decode cX0_reckon 19 = .ok (.invokestatic 30, 3) := by decide +kernel
theorem dX0_reckon_22 : decode cX0_reckon 22 = .ok (.istore 4, 2) := by decide +kernel
theorem dX0_reckon_24 : decode cX0_reckon 24 = .ok (.iload 4, 2) := by decide +kernel
theorem dX0_reckon_26 : decode cX0_reckon 26 = .ok (.iconst (-1), 1) := by decide +kernel
theorem dX0_reckon_27 : decode cX0_reckon 27 = .ok (.if_icmp .eq 33, 3) := by decide +kernel
theorem dX0_reckon_30 : decode cX0_reckon 30 = .ok (.aload_n 0, 1) := by decide +kernel
theorem dX0_reckon_31 : decode cX0_reckon 31 = .ok (.getfield 13, 3) := by decide +kernel
theorem dX0_reckon_34 : decode cX0_reckon 34 = .ok (.iload 4, 2) := by decide +kernel
theorem dX0_reckon_36 : decode cX0_reckon 36 = .ok (.iaload, 1) := by decide +kernel
theorem dX0_reckon_37 : decode cX0_reckon 37 = .ok (.ifCond .ne 23, 3) := by decide +kernel
theorem dX0_reckon_40 : decode cX0_reckon 40 = .ok (.aload_n 0, 1) := by decide +kernel
theorem dX0_reckon_41 : decode cX0_reckon 41 = .ok (.getfield 13, 3) := by decide +kernel
theorem dX0_reckon_44 : decode cX0_reckon 44 = .ok (.iload 4, 2) := by decide +kernel
theorem dX0_reckon_46 : decode cX0_reckon 46 = .ok (.aload_n 1, 1) := by decide +kernel
theorem dX0_reckon_47 : decode cX0_reckon 47 = .ok (.iload_n 3, 1) := by decide +kernel
theorem dX0_reckon_48 : decode cX0_reckon 48 = .ok (.invokevirtual 23, 3) := by decide +kernel
theorem dX0_reckon_51 : decode cX0_reckon 51 = .ok (.aload_n 1, 1) := by decide +kernel
theorem dX0_reckon_52 : decode cX0_reckon 52 = .ok (.getfield 27, 3) := by decide +kernel
theorem dX0_reckon_55 : decode cX0_reckon 55 = .ok (.aload_n 2, 1) := by decide +kernel
theorem dX0_reckon_56 : decode cX0_reckon 56 = .ok (.invokestatic 34, 3) := by decide +kernel
theorem dX0_reckon_59 : decode cX0_reckon 59 = .ok (.iastore, 1) := by decide +kernel
theorem dX0_reckon_60 : decode cX0_reckon 60 = .ok (.iinc 3 1, 3) := by decide +kernel
theorem dX0_reckon_63 : decode cX0_reckon 63 = .ok (.goto (-61), 3) := by decide +kernel
theorem dX0_reckon_66 : decode cX0_reckon 66 = .ok (.return_, 1) := by decide +kernel
theorem dX0_partOf_0 : decode cX0_partOf 0 = .ok (.aload_n 1, 1) := by decide +kernel
theorem dX0_partOf_1 : decode cX0_partOf 1 = .ok (.iload_n 2, 1) := by decide +kernel
theorem dX0_partOf_2 : decode cX0_partOf 2 = .ok (.invokevirtual 23, 3) := by decide +kernel
theorem dX0_partOf_5 : decode cX0_partOf 5 = .ok (.aload_n 1, 1) := by decide +kernel
theorem dX0_partOf_6 : decode cX0_partOf 6 = .ok (.getfield 27, 3) := by decide +kernel
theorem dX0_partOf_9 : decode cX0_partOf 9 = .ok (.invokestatic 30, 3) := by decide +kernel
theorem dX0_partOf_12 : decode cX0_partOf 12 = .ok (.istore 4, 2) := by decide +kernel
theorem dX0_partOf_14 : decode cX0_partOf 14 = .ok (.iload 4, 2) := by decide +kernel
theorem dX0_partOf_16 : decode cX0_partOf 16 = .ok (.iconst (-1), 1) := by decide +kernel
theorem dX0_partOf_17 : decode cX0_partOf 17 = .ok (.if_icmp .ne 7, 3) := by decide +kernel
theorem dX0_partOf_20 : decode cX0_partOf 20 = .ok (.iconst 0, 1) := by decide +kernel
theorem dX0_partOf_21 : decode cX0_partOf 21 = .ok (.goto 10, 3) := by decide +kernel
theorem dX0_partOf_24 : decode cX0_partOf 24 = .ok (.aload_n 0, 1) := by decide +kernel
theorem dX0_partOf_25 : decode cX0_partOf 25 = .ok (.getfield 13, 3) := by decide +kernel
theorem dX0_partOf_28 : decode cX0_partOf 28 = .ok (.iload 4, 2) := by decide +kernel
theorem dX0_partOf_30 : decode cX0_partOf 30 = .ok (.iaload, 1) := by decide +kernel
theorem dX0_partOf_31 : decode cX0_partOf 31 = .ok (.istore 5, 2) := by decide +kernel
theorem dX0_partOf_33 : decode cX0_partOf 33 = .ok (.iload_n 3, 1) := by decide +kernel
theorem dX0_partOf_34 : decode cX0_partOf 34 = .ok (.tableswitch 59 1 4 #[30, 47, 38, 32], 30) := by decide +kernel
theorem dX0_partOf_64 : decode cX0_partOf 64 = .ok (.iload_n 2, 1) := by decide +kernel
theorem dX0_partOf_65 : decode cX0_partOf 65 = .ok (.ireturn, 1) := by decide +kernel
theorem dX0_partOf_66 : decode cX0_partOf 66 = .ok (.iload 5, 2) := by decide +kernel
theorem dX0_partOf_68 : decode cX0_partOf 68 = .ok (.bipush 21, 2) := by decide +kernel
theorem dX0_partOf_70 : decode cX0_partOf 70 = .ok (.irem, 1) := by decide +kernel
theorem dX0_partOf_71 : decode cX0_partOf 71 = .ok (.ireturn, 1) := by decide +kernel
theorem dX0_partOf_72 : decode cX0_partOf 72 = .ok (.iload 5, 2) := by decide +kernel
theorem dX0_partOf_74 : decode cX0_partOf 74 = .ok (.bipush 21, 2) := by decide +kernel
theorem dX0_partOf_76 : decode cX0_partOf 76 = .ok (.idiv, 1) := by decide +kernel
theorem dX0_partOf_77 : decode cX0_partOf 77 = .ok (.bipush 10, 2) := by decide +kernel
theorem dX0_partOf_79 : decode cX0_partOf 79 = .ok (.irem, 1) := by decide +kernel
theorem dX0_partOf_80 : decode cX0_partOf 80 = .ok (.ireturn, 1) := by decide +kernel
theorem dX0_partOf_81 : decode cX0_partOf 81 = .ok (.iload 5, 2) := by decide +kernel
theorem dX0_partOf_83 : decode cX0_partOf 83 = .ok (.bipush 21, 2) := by decide +kernel
theorem dX0_partOf_85 : decode cX0_partOf 85 = .ok (.idiv, 1) := by decide +kernel
theorem dX0_partOf_86 : decode cX0_partOf 86 = .ok (.bipush 10, 2) := by decide +kernel
theorem dX0_partOf_88 : decode cX0_partOf 88 = .ok (.idiv, 1) := by decide +kernel
theorem dX0_partOf_89 : decode cX0_partOf 89 = .ok (.bipush 10, 2) := by decide +kernel
theorem dX0_partOf_91 : decode cX0_partOf 91 = .ok (.irem, 1) := by decide +kernel
theorem dX0_partOf_92 : decode cX0_partOf 92 = .ok (.ireturn, 1) := by decide +kernel
theorem dX0_partOf_93 : decode cX0_partOf 93 = .ok (.iload 5, 2) := by decide +kernel
theorem dX0_partOf_95 : decode cX0_partOf 95 = .ok (.bipush 21, 2) := by decide +kernel
theorem dX0_partOf_97 : decode cX0_partOf 97 = .ok (.idiv, 1) := by decide +kernel
theorem dX0_partOf_98 : decode cX0_partOf 98 = .ok (.bipush 100, 2) := by decide +kernel
theorem dX0_partOf_100 : decode cX0_partOf 100 = .ok (.idiv, 1) := by decide +kernel
theorem dX0_partOf_101 : decode cX0_partOf 101 = .ok (.ireturn, 1) := by decide +kernel
theorem dX0_placeOf_0 : decode cX0_placeOf 0 = .ok (.iload_n 0, 1) := by decide +kernel
theorem dX0_placeOf_1 : decode cX0_placeOf 1 = .ok (.iconst 0, 1) := by decide +kernel
theorem dX0_placeOf_2 : decode cX0_placeOf 2 = .ok (.iconst 5, 1) := by decide +kernel
theorem dX0_placeOf_3 : decode cX0_placeOf 3 = .ok (.invokestatic 38, 3) := by decide +kernel
theorem dX0_placeOf_6 : decode cX0_placeOf 6 = .ok (.ifCond .eq 20, 3) := by decide +kernel
theorem dX0_placeOf_9 : decode cX0_placeOf 9 = .ok (.iload_n 1, 1) := by decide +kernel
theorem dX0_placeOf_10 : decode cX0_placeOf 10 = .ok (.iconst 0, 1) := by decide +kernel
theorem dX0_placeOf_11 : decode cX0_placeOf 11 = .ok (.iconst 3, 1) := by decide +kernel
theorem dX0_placeOf_12 : decode cX0_placeOf 12 = .ok (.invokestatic 38, 3) := by decide +kernel
theorem dX0_placeOf_15 : decode cX0_placeOf 15 = .ok (.ifCond .eq 11, 3) := by decide +kernel
theorem dX0_placeOf_18 : decode cX0_placeOf 18 = .ok (.iload_n 0, 1) := by decide +kernel
theorem dX0_placeOf_19 : decode cX0_placeOf 19 = .ok (.iconst 4, 1) := by decide +kernel
theorem dX0_placeOf_20 : decode cX0_placeOf 20 = .ok (.imul, 1) := by decide +kernel
theorem dX0_placeOf_21 : decode cX0_placeOf 21 = .ok (.iload_n 1, 1) := by decide +kernel
theorem dX0_placeOf_22 : decode cX0_placeOf 22 = .ok (.iadd, 1) := by decide +kernel
theorem dX0_placeOf_23 : decode cX0_placeOf 23 = .ok (.goto 4, 3) := by decide +kernel
theorem dX0_placeOf_26 : decode cX0_placeOf 26 = .ok (.iconst (-1), 1) := by decide +kernel
theorem dX0_placeOf_27 : decode cX0_placeOf 27 = .ok (.ireturn, 1) := by decide +kernel
theorem dX0_search_0 : decode cX0_search 0 = .ok (.iconst 0, 1) := by decide +kernel
theorem dX0_search_1 : decode cX0_search 1 = .ok (.istore_n 3, 1) := by decide +kernel
theorem dX0_search_2 : decode cX0_search 2 = .ok (.iconst 0, 1) := by decide +kernel
theorem dX0_search_3 : decode cX0_search 3 = .ok (.iconst 1, 1) := by decide +kernel
theorem dX0_search_4 : decode cX0_search 4 = .ok (.iconst 0, 1) := by decide +kernel
theorem dX0_search_5 : decode cX0_search 5 = .ok (.iconst 0, 1) := by decide +kernel
theorem dX0_search_6 : decode cX0_search 6 = .ok (.invokestatic 42, 3) := by decide +kernel
theorem dX0_search_9 : decode cX0_search 9 = .ok (.istore 4, 2) := by decide +kernel
theorem dX0_search_11 : decode cX0_search 11 = .ok (.iconst 1, 1) := by decide +kernel
theorem dX0_search_12 : decode cX0_search 12 = .ok (.istore 5, 2) := by decide +kernel
theorem dX0_search_14 : decode cX0_search 14 = .ok (.iload 5, 2) := by decide +kernel
theorem dX0_search_16 : decode cX0_search 16 = .ok (.bipush 9, 2) := by decide +kernel
theorem dX0_search_18 : decode cX0_search 18 = .ok (.if_icmp .gt 81, 3) := by decide +kernel
theorem dX0_search_21 : decode cX0_search 21 = .ok (.iconst 0, 1) := by decide +kernel
theorem dX0_search_22 : decode cX0_search 22 = .ok (.istore 6, 2) := by decide +kernel
theorem dX0_search_24 : decode cX0_search 24 = .ok (.iload 6, 2) := by decide +kernel
theorem dX0_search_26 : decode cX0_search 26 = .ok (.bipush 9, 2) := by decide +kernel
theorem dX0_search_28 : decode cX0_search 28 = .ok (.if_icmp .gt 65, 3) := by decide +kernel
theorem dX0_search_31 : decode cX0_search 31 = .ok (.aload_n 2, 1) := by decide +kernel
theorem dX0_search_32 : decode cX0_search 32 = .ok (.iload_n 0, 1) := by decide +kernel
theorem dX0_search_33 : decode cX0_search 33 = .ok (.iload_n 1, 1) := by decide +kernel
theorem dX0_search_34 : decode cX0_search 34 = .ok (.iload 5, 2) := by decide +kernel
theorem dX0_search_36 : decode cX0_search 36 = .ok (.iload 6, 2) := by decide +kernel
theorem dX0_search_38 : decode cX0_search 38 = .ok (.invokevirtual 46, 3) := by decide +kernel
theorem dX0_search_41 : decode cX0_search 41 = .ok (.iconst 0, 1) := by decide +kernel
theorem dX0_search_42 : decode cX0_search 42 = .ok (.istore 7, 2) := by decide +kernel
theorem dX0_search_44 : decode cX0_search 44 = .ok (.iload 7, 2) := by decide +kernel
theorem dX0_search_46 : decode cX0_search 46 = .ok (.bipush 20, 2) := by decide +kernel
theorem dX0_search_48 : decode cX0_search 48 = .ok (.if_icmp .gt 39, 3) := by decide +kernel
theorem dX0_search_51 : decode cX0_search 51 = .ok (.aload_n 2, 1) := by decide +kernel
theorem dX0_search_52 : decode cX0_search 52 = .ok (.iload 7, 2) := by decide +kernel
theorem dX0_search_54 : decode cX0_search 54 = .ok (.invokevirtual 52, 3) := by decide +kernel
theorem dX0_search_57 : decode cX0_search 57 = .ok (.istore 8, 2) := by decide +kernel
theorem dX0_search_59 : decode cX0_search 59 = .ok (.iload 8, 2) := by decide +kernel
theorem dX0_search_61 : decode cX0_search 61 = .ok (.iload_n 3, 1) := by decide +kernel
theorem dX0_search_62 : decode cX0_search 62 = .ok (.if_icmp .le 19, 3) := by decide +kernel
theorem dX0_search_65 : decode cX0_search 65 = .ok (.iload 8, 2) := by decide +kernel
theorem dX0_search_67 : decode cX0_search 67 = .ok (.istore_n 3, 1) := by decide +kernel
theorem dX0_search_68 : decode cX0_search 68 = .ok (.iload 8, 2) := by decide +kernel
theorem dX0_search_70 : decode cX0_search 70 = .ok (.iload 5, 2) := by decide +kernel
theorem dX0_search_72 : decode cX0_search 72 = .ok (.iload 6, 2) := by decide +kernel
theorem dX0_search_74 : decode cX0_search 74 = .ok (.iload 7, 2) := by decide +kernel
theorem dX0_search_76 : decode cX0_search 76 = .ok (.invokestatic 42, 3) := by decide +kernel
theorem dX0_search_79 : decode cX0_search 79 = .ok (.istore 4, 2) := by decide +kernel
theorem dX0_search_81 : decode cX0_search 81 = .ok (.iinc 7 1, 3) := by decide +kernel
theorem dX0_search_84 : decode cX0_search 84 = .ok (.goto (-40), 3) := by decide +kernel
theorem dX0_search_87 : decode cX0_search 87 = .ok (.iinc 6 1, 3) := by decide +kernel
theorem dX0_search_90 : decode cX0_search 90 = .ok (.goto (-66), 3) := by decide +kernel
theorem dX0_search_93 : decode cX0_search 93 = .ok (.iinc 5 1, 3) := by decide +kernel
theorem dX0_search_96 : decode cX0_search 96 = .ok (.goto (-82), 3) := by decide +kernel
theorem dX0_search_99 : decode cX0_search 99 = .ok (.iload 4, 2) := by decide +kernel
theorem dX0_search_101 : decode cX0_search 101 = .ok (.ireturn, 1) := by decide +kernel
theorem dX0_code_0 : decode cX0_code 0 = .ok (.iload_n 0, 1) := by decide +kernel
theorem dX0_code_1 : decode cX0_code 1 = .ok (.bipush 10, 2) := by decide +kernel
theorem dX0_code_3 : decode cX0_code 3 = .ok (.imul, 1) := by decide +kernel
theorem dX0_code_4 : decode cX0_code 4 = .ok (.iload_n 1, 1) := by decide +kernel
theorem dX0_code_5 : decode cX0_code 5 = .ok (.iadd, 1) := by decide +kernel
theorem dX0_code_6 : decode cX0_code 6 = .ok (.bipush 10, 2) := by decide +kernel
theorem dX0_code_8 : decode cX0_code 8 = .ok (.imul, 1) := by decide +kernel
theorem dX0_code_9 : decode cX0_code 9 = .ok (.iload_n 2, 1) := by decide +kernel
theorem dX0_code_10 : decode cX0_code 10 = .ok (.iadd, 1) := by decide +kernel
theorem dX0_code_11 : decode cX0_code 11 = .ok (.bipush 21, 2) := by decide +kernel
theorem dX0_code_13 : decode cX0_code 13 = .ok (.imul, 1) := by decide +kernel
theorem dX0_code_14 : decode cX0_code 14 = .ok (.iload_n 3, 1) := by decide +kernel
theorem dX0_code_15 : decode cX0_code 15 = .ok (.iadd, 1) := by decide +kernel
theorem dX0_code_16 : decode cX0_code 16 = .ok (.ireturn, 1) := by decide +kernel
theorem dX1_init_0 : decode cX1_init 0 = .ok (.aload_n 0, 1) := by decide +kernel
theorem dX1_init_1 : decode cX1_init 1 = .ok (.invokespecial 3, 3) := by decide +kernel
theorem dX1_init_4 : decode cX1_init 4 = .ok (.aload_n 0, 1) := by decide +kernel
theorem dX1_init_5 : decode cX1_init 5 = .ok (.bipush 72, 2) := by decide +kernel
theorem dX1_init_7 : decode cX1_init 7 = .ok (.newarray .int, 2) := by decide +kernel
theorem dX1_init_9 : decode cX1_init 9 = .ok (.putfield 11, 3) := by decide +kernel
theorem dX1_init_12 : decode cX1_init 12 = .ok (.return_, 1) := by decide +kernel
theorem dX1_cell_0 : decode cX1_cell 0 = .ok (.iload_n 1, 1) := by decide +kernel
theorem dX1_cell_1 : decode cX1_cell 1 = .ok (.bipush 6, 2) := by decide +kernel
theorem dX1_cell_3 : decode cX1_cell 3 = .ok (.imul, 1) := by decide +kernel
theorem dX1_cell_4 : decode cX1_cell 4 = .ok (.iload_n 2, 1) := by decide +kernel
theorem dX1_cell_5 : decode cX1_cell 5 = .ok (.iadd, 1) := by decide +kernel
theorem dX1_cell_6 : decode cX1_cell 6 = .ok (.istore_n 3, 1) := by decide +kernel
theorem dX1_cell_7 : decode cX1_cell 7 = .ok (.iload_n 3, 1) := by decide +kernel
theorem dX1_cell_8 : decode cX1_cell 8 = .ok (.ifCond .lt 21, 3) := by decide +kernel
theorem dX1_cell_11 : decode cX1_cell 11 = .ok (.iload_n 3, 1) := by decide +kernel
theorem dX1_cell_12 : decode cX1_cell 12 = .ok (.aload_n 0, 1) := by decide +kernel
theorem dX1_cell_13 : decode cX1_cell 13 = .ok (.getfield 11, 3) := by decide +kernel
theorem dX1_cell_16 : decode cX1_cell 16 = .ok (.arraylength, 1) := by decide +kernel
theorem dX1_cell_17 : decode cX1_cell 17 = .ok (.if_icmp .ge 12, 3) := by decide +kernel
theorem dX1_cell_20 : decode cX1_cell 20 = .ok (.aload_n 0, 1) := by decide +kernel
theorem dX1_cell_21 : decode cX1_cell 21 = .ok (.getfield 11, 3) := by decide +kernel
theorem dX1_cell_24 : decode cX1_cell 24 = .ok (.iload_n 3, 1) := by decide +kernel
theorem dX1_cell_25 : decode cX1_cell 25 = .ok (.iaload, 1) := by decide +kernel
theorem dX1_cell_26 : decode cX1_cell 26 = .ok (.goto 4, 3) := by decide +kernel
theorem dX1_cell_29 : decode cX1_cell 29 = .ok (.iconst 0, 1) := by decide +kernel
theorem dX1_cell_30 : decode cX1_cell 30 = .ok (.ireturn, 1) := by decide +kernel
theorem dX1_add_0 : decode cX1_add 0 = .ok (.aload_n 0, 1) := by decide +kernel
theorem dX1_add_1 : decode cX1_add 1 = .ok (.getfield 15, 3) := by decide +kernel
theorem dX1_add_4 : decode cX1_add 4 = .ok (.bipush 6, 2) := by decide +kernel
theorem dX1_add_6 : decode cX1_add 6 = .ok (.imul, 1) := by decide +kernel
theorem dX1_add_7 : decode cX1_add 7 = .ok (.istore 7, 2) := by decide +kernel
theorem dX1_add_9 : decode cX1_add 9 = .ok (.iload 7, 2) := by decide +kernel
theorem dX1_add_11 : decode cX1_add 11 = .ok (.bipush 6, 2) := by decide +kernel
theorem dX1_add_13 : decode cX1_add 13 = .ok (.iadd, 1) := by decide +kernel
theorem dX1_add_14 : decode cX1_add 14 = .ok (.aload_n 0, 1) := by decide +kernel
theorem dX1_add_15 : decode cX1_add 15 = .ok (.getfield 11, 3) := by decide +kernel
theorem dX1_add_18 : decode cX1_add 18 = .ok (.arraylength, 1) := by decide +kernel
theorem dX1_add_19 : decode cX1_add 19 = .ok (.if_icmp .le 4, 3) := by decide +kernel
theorem dX1_add_22 : decode cX1_add 22 = .ok (.return_, 1) := by decide +kernel
theorem dX1_add_23 : decode cX1_add 23 = .ok (.aload_n 0, 1) := by decide +kernel
theorem dX1_add_24 : decode cX1_add 24 = .ok (.getfield 11, 3) := by decide +kernel
theorem dX1_add_27 : decode cX1_add 27 = .ok (.iload 7, 2) := by decide +kernel
theorem dX1_add_29 : decode cX1_add 29 = .ok (.iconst 0, 1) := by decide +kernel
theorem dX1_add_30 : decode cX1_add 30 = .ok (.iadd, 1) := by decide +kernel
theorem dX1_add_31 : decode cX1_add 31 = .ok (.iload_n 1, 1) := by decide +kernel
theorem dX1_add_32 : decode cX1_add 32 = .ok (.iastore, 1) := by decide +kernel
theorem dX1_add_33 : decode cX1_add 33 = .ok (.aload_n 0, 1) := by decide +kernel
theorem dX1_add_34 : decode cX1_add 34 = .ok (.getfield 11, 3) := by decide +kernel
theorem dX1_add_37 : decode cX1_add 37 = .ok (.iload 7, 2) := by decide +kernel
theorem dX1_add_39 : decode cX1_add 39 = .ok (.iconst 1, 1) := by decide +kernel
theorem dX1_add_40 : decode cX1_add 40 = .ok (.iadd, 1) := by decide +kernel
theorem dX1_add_41 : decode cX1_add 41 = .ok (.iload_n 2, 1) := by decide +kernel
theorem dX1_add_42 : decode cX1_add 42 = .ok (.iastore, 1) := by decide +kernel
theorem dX1_add_43 : decode cX1_add 43 = .ok (.aload_n 0, 1) := by decide +kernel
theorem dX1_add_44 : decode cX1_add 44 = .ok (.getfield 11, 3) := by decide +kernel
theorem dX1_add_47 : decode cX1_add 47 = .ok (.iload 7, 2) := by decide +kernel
theorem dX1_add_49 : decode cX1_add 49 = .ok (.iconst 2, 1) := by decide +kernel
theorem dX1_add_50 : decode cX1_add 50 = .ok (.iadd, 1) := by decide +kernel
theorem dX1_add_51 : decode cX1_add 51 = .ok (.iload_n 3, 1) := by decide +kernel
theorem dX1_add_52 : decode cX1_add 52 = .ok (.iastore, 1) := by decide +kernel
theorem dX1_add_53 : decode cX1_add 53 = .ok (.aload_n 0, 1) := by decide +kernel
theorem dX1_add_54 : decode cX1_add 54 = .ok (.getfield 11, 3) := by decide +kernel
theorem dX1_add_57 : decode cX1_add 57 = .ok (.iload 7, 2) := by decide +kernel
theorem dX1_add_59 : decode cX1_add 59 = .ok (.iconst 3, 1) := by decide +kernel
theorem dX1_add_60 : decode cX1_add 60 = .ok (.iadd, 1) := by decide +kernel
theorem dX1_add_61 : decode cX1_add 61 = .ok (.iload 4, 2) := by decide +kernel
theorem dX1_add_63 : decode cX1_add 63 = .ok (.iastore, 1) := by decide +kernel
theorem dX1_add_64 : decode cX1_add 64 = .ok (.aload_n 0, 1) := by decide +kernel
theorem dX1_add_65 : decode cX1_add 65 = .ok (.getfield 11, 3) := by decide +kernel
theorem dX1_add_68 : decode cX1_add 68 = .ok (.iload 7, 2) := by decide +kernel
theorem dX1_add_70 : decode cX1_add 70 = .ok (.iconst 4, 1) := by decide +kernel
theorem dX1_add_71 : decode cX1_add 71 = .ok (.iadd, 1) := by decide +kernel
theorem dX1_add_72 : decode cX1_add 72 = .ok (.iload 5, 2) := by decide +kernel
theorem dX1_add_74 : decode cX1_add 74 = .ok (.iastore, 1) := by decide +kernel
theorem dX1_add_75 : decode cX1_add 75 = .ok (.aload_n 0, 1) := by decide +kernel
theorem dX1_add_76 : decode cX1_add 76 = .ok (.getfield 11, 3) := by decide +kernel
theorem dX1_add_79 : decode cX1_add 79 = .ok (.iload 7, 2) := by decide +kernel
theorem dX1_add_81 : decode cX1_add 81 = .ok (.iconst 5, 1) := by decide +kernel
theorem dX1_add_82 : decode cX1_add 82 = .ok (.iadd, 1) := by decide +kernel
theorem dX1_add_83 : decode cX1_add 83 = .ok (.iload 6, 2) := by decide +kernel
theorem dX1_add_85 : decode cX1_add 85 = .ok (.iastore, 1) := by decide +kernel
theorem dX1_add_86 : decode cX1_add 86 = .ok (.aload_n 0, 1) := by decide +kernel
theorem dX1_add_87 : decode cX1_add 87 = .ok (.dup, 1) := by decide +kernel
theorem dX1_add_88 : decode cX1_add 88 = .ok (.getfield 15, 3) := by decide +kernel
theorem dX1_add_91 : decode cX1_add 91 = .ok (.iconst 1, 1) := by decide +kernel
theorem dX1_add_92 : decode cX1_add 92 = .ok (.iadd, 1) := by decide +kernel
theorem dX1_add_93 : decode cX1_add 93 = .ok (.putfield 15, 3) := by decide +kernel
theorem dX1_add_96 : decode cX1_add 96 = .ok (.return_, 1) := by decide +kernel
theorem dX1_told_0 : decode cX1_told 0 = .ok (.iconst 0, 1) := by decide +kernel
theorem dX1_told_1 : decode cX1_told 1 = .ok (.istore_n 3, 1) := by decide +kernel
theorem dX1_told_2 : decode cX1_told 2 = .ok (.iload_n 1, 1) := by decide +kernel
theorem dX1_told_3 : decode cX1_told 3 = .ok (.istore 4, 2) := by decide +kernel
theorem dX1_told_5 : decode cX1_told 5 = .ok (.iload 4, 2) := by decide +kernel
theorem dX1_told_7 : decode cX1_told 7 = .ok (.iload_n 2, 1) := by decide +kernel
theorem dX1_told_8 : decode cX1_told 8 = .ok (.if_icmp .ge 19, 3) := by decide +kernel
theorem dX1_told_11 : decode cX1_told 11 = .ok (.iload_n 3, 1) := by decide +kernel
theorem dX1_told_12 : decode cX1_told 12 = .ok (.aload_n 0, 1) := by decide +kernel
theorem dX1_told_13 : decode cX1_told 13 = .ok (.iload 4, 2) := by decide +kernel
theorem dX1_told_15 : decode cX1_told 15 = .ok (.iconst 5, 1) := by decide +kernel
theorem dX1_told_16 : decode cX1_told 16 = .ok (.invokevirtual 19, 3) := by decide +kernel
theorem dX1_told_19 : decode cX1_told 19 = .ok (.iadd, 1) := by decide +kernel
theorem dX1_told_20 : decode cX1_told 20 = .ok (.istore_n 3, 1) := by decide +kernel
theorem dX1_told_21 : decode cX1_told 21 = .ok (.iinc 4 1, 3) := by decide +kernel
theorem dX1_told_24 : decode cX1_told 24 = .ok (.goto (-19), 3) := by decide +kernel
theorem dX1_told_27 : decode cX1_told 27 = .ok (.iload_n 3, 1) := by decide +kernel
theorem dX1_told_28 : decode cX1_told 28 = .ok (.ireturn, 1) := by decide +kernel
theorem dX1_bestRow_0 : decode cX1_bestRow 0 = .ok (.iconst (-1), 1) := by decide +kernel
theorem dX1_bestRow_1 : decode cX1_bestRow 1 = .ok (.istore_n 2, 1) := by decide +kernel
theorem dX1_bestRow_2 : decode cX1_bestRow 2 = .ok (.iconst (-1), 1) := by decide +kernel
theorem dX1_bestRow_3 : decode cX1_bestRow 3 = .ok (.istore_n 3, 1) := by decide +kernel
theorem dX1_bestRow_4 : decode cX1_bestRow 4 = .ok (.iconst 0, 1) := by decide +kernel
theorem dX1_bestRow_5 : decode cX1_bestRow 5 = .ok (.istore 4, 2) := by decide +kernel
theorem dX1_bestRow_7 : decode cX1_bestRow 7 = .ok (.iload 4, 2) := by decide +kernel
theorem dX1_bestRow_9 : decode cX1_bestRow 9 = .ok (.iload_n 1, 1) := by decide +kernel
theorem dX1_bestRow_10 : decode cX1_bestRow 10 = .ok (.iadd, 1) := by decide +kernel
theorem dX1_bestRow_11 : decode cX1_bestRow 11 = .ok (.aload_n 0, 1) := by decide +kernel
theorem dX1_bestRow_12 : decode cX1_bestRow 12 = .ok (.getfield 15, 3) := by decide +kernel
theorem dX1_bestRow_15 : decode cX1_bestRow 15 = .ok (.if_icmp .gt 33, 3) := by decide +kernel
theorem dX1_bestRow_18 : decode cX1_bestRow 18 = .ok (.aload_n 0, 1) := by decide +kernel
theorem dX1_bestRow_19 : decode cX1_bestRow 19 = .ok (.iload 4, 2) := by decide +kernel
theorem dX1_bestRow_21 : decode cX1_bestRow 21 = .ok (.iload 4, 2) := by decide +kernel
theorem dX1_bestRow_23 : decode cX1_bestRow 23 = .ok (.iload_n 1, 1) := by decide +kernel
theorem dX1_bestRow_24 : decode cX1_bestRow 24 = .ok (.iadd, 1) := by decide +kernel
theorem dX1_bestRow_25 : decode cX1_bestRow 25 = .ok (.invokevirtual 23, 3) := by decide +kernel
theorem dX1_bestRow_28 : decode cX1_bestRow 28 = .ok (.istore 5, 2) := by decide +kernel
theorem dX1_bestRow_30 : decode cX1_bestRow 30 = .ok (.iload 5, 2) := by decide +kernel
theorem dX1_bestRow_32 : decode cX1_bestRow 32 = .ok (.iload_n 3, 1) := by decide +kernel
theorem dX1_bestRow_33 : decode cX1_bestRow 33 = .ok (.if_icmp .le 9, 3) := by decide +kernel
theorem dX1_bestRow_36 : decode cX1_bestRow 36 = .ok (.iload 5, 2) := by decide +kernel
theorem dX1_bestRow_38 : decode cX1_bestRow 38 = .ok (.istore_n 3, 1) := by decide +kernel
theorem dX1_bestRow_39 : decode cX1_bestRow 39 = .ok (.iload 4, 2) := by decide +kernel
theorem dX1_bestRow_41 : decode cX1_bestRow 41 = .ok (.istore_n 2, 1) := by decide +kernel
theorem dX1_bestRow_42 : decode cX1_bestRow 42 = .ok (.iinc 4 1, 3) := by decide +kernel
theorem dX1_bestRow_45 : decode cX1_bestRow 45 = .ok (.goto (-38), 3) := by decide +kernel
theorem dX1_bestRow_48 : decode cX1_bestRow 48 = .ok (.iload_n 2, 1) := by decide +kernel
theorem dX1_bestRow_49 : decode cX1_bestRow 49 = .ok (.ireturn, 1) := by decide +kernel
theorem dX1_digestFrom_0 : decode cX1_digestFrom 0 = .ok (.lload_n 1, 1) := by decide +kernel
theorem dX1_digestFrom_1 : decode cX1_digestFrom 1 = .ok (.lstore_n 3, 1) := by decide +kernel
theorem dX1_digestFrom_2 : decode cX1_digestFrom 2 = .ok (.iconst 0, 1) := by decide +kernel
theorem dX1_digestFrom_3 : decode cX1_digestFrom 3 = .ok (.istore 5, 2) := by decide +kernel
theorem dX1_digestFrom_5 : decode cX1_digestFrom 5 = .ok (.iload 5, 2) := by decide +kernel
theorem dX1_digestFrom_7 : decode cX1_digestFrom 7 = .ok (.aload_n 0, 1) := by decide +kernel
theorem dX1_digestFrom_8 : decode cX1_digestFrom 8 = .ok (.getfield 15, 3) := by decide +kernel
theorem dX1_digestFrom_11 : decode cX1_digestFrom 11 = .ok (.if_icmp .ge 41, 3) := by decide +kernel
theorem dX1_digestFrom_14 : decode cX1_digestFrom 14 = .ok (.iconst 0, 1) := by decide +kernel
theorem dX1_digestFrom_15 : decode cX1_digestFrom 15 = .ok (.istore 6, 2) := by decide +kernel
theorem dX1_digestFrom_17 : decode cX1_digestFrom 17 = .ok (.iload 6, 2) := by decide +kernel
theorem dX1_digestFrom_19 : decode cX1_digestFrom 19 = .ok (.bipush 6, 2) := by decide +kernel
theorem dX1_digestFrom_21 : decode cX1_digestFrom 21 = .ok (.if_icmp .ge 25, 3) := by decide +kernel
theorem dX1_digestFrom_24 : decode cX1_digestFrom 24 = .ok (.ldc2_w 26, 3) := by decide +kernel
theorem dX1_digestFrom_27 : decode cX1_digestFrom 27 = .ok (.lload_n 3, 1) := by decide +kernel
theorem dX1_digestFrom_28 : decode cX1_digestFrom 28 = .ok (.lmul, 1) := by decide +kernel
theorem dX1_digestFrom_29 : decode cX1_digestFrom 29 = .ok (.aload_n 0, 1) := by decide +kernel
theorem dX1_digestFrom_30 : decode cX1_digestFrom 30 = .ok (.iload 5, 2) := by decide +kernel
theorem dX1_digestFrom_32 : decode cX1_digestFrom 32 = .ok (.iload 6, 2) := by decide +kernel
theorem dX1_digestFrom_34 : decode cX1_digestFrom 34 = .ok (.invokevirtual 19, 3) := by decide +kernel
theorem dX1_digestFrom_37 : decode cX1_digestFrom 37 = .ok (.i2l, 1) := by decide +kernel
theorem dX1_digestFrom_38 : decode cX1_digestFrom 38 = .ok (.ladd, 1) := by decide +kernel
theorem dX1_digestFrom_39 : decode cX1_digestFrom 39 = .ok (.lstore_n 3, 1) := by decide +kernel
theorem dX1_digestFrom_40 : decode cX1_digestFrom 40 = .ok (.iinc 6 1, 3) := by decide +kernel
theorem dX1_digestFrom_43 : decode cX1_digestFrom 43 = .ok (.goto (-26), 3) := by decide +kernel
theorem dX1_digestFrom_46 : decode cX1_digestFrom 46 = .ok (.iinc 5 1, 3) := by decide +kernel
theorem dX1_digestFrom_49 : decode cX1_digestFrom 49 = .ok (.goto (-44), 3) := by decide +kernel
theorem dX1_digestFrom_52 : decode cX1_digestFrom 52 = .ok (.lload_n 3, 1) := by decide +kernel
theorem dX1_digestFrom_53 : decode cX1_digestFrom 53 = .ok (.lreturn, 1) := by decide +kernel
theorem dX1_copyFrom_0 : decode cX1_copyFrom 0 = .ok (.aload_n 1, 1) := by decide +kernel
theorem dX1_copyFrom_1 : decode cX1_copyFrom 1 = .ok (.getfield 11, 3) := by decide +kernel
theorem dX1_copyFrom_4 : decode cX1_copyFrom 4 = .ok (.iconst 0, 1) := by decide +kernel
theorem dX1_copyFrom_5 : decode cX1_copyFrom 5 = .ok (.aload_n 0, 1) := by decide +kernel
theorem dX1_copyFrom_6 : decode cX1_copyFrom 6 = .ok (.getfield 11, 3) := by decide +kernel
theorem dX1_copyFrom_9 : decode cX1_copyFrom 9 = .ok (.iconst 0, 1) := by decide +kernel
theorem dX1_copyFrom_10 : decode cX1_copyFrom 10 = .ok (.aload_n 0, 1) := by decide +kernel
theorem dX1_copyFrom_11 : decode cX1_copyFrom 11 = .ok (.getfield 11, 3) := by decide +kernel
theorem dX1_copyFrom_14 : decode cX1_copyFrom 14 = .ok (.arraylength, 1) := by decide +kernel
theorem dX1_copyFrom_15 : decode cX1_copyFrom 15 = .ok (.invokestatic 28, 3) := by decide +kernel
theorem dX1_copyFrom_18 : decode cX1_copyFrom 18 = .ok (.aload_n 0, 1) := by decide +kernel
theorem dX1_copyFrom_19 : decode cX1_copyFrom 19 = .ok (.aload_n 1, 1) := by decide +kernel
theorem dX1_copyFrom_20 : decode cX1_copyFrom 20 = .ok (.getfield 15, 3) := by decide +kernel
theorem dX1_copyFrom_23 : decode cX1_copyFrom 23 = .ok (.putfield 15, 3) := by decide +kernel
theorem dX1_copyFrom_26 : decode cX1_copyFrom 26 = .ok (.return_, 1) := by decide +kernel
theorem dX2_init_0 : decode cX2_init 0 = .ok (.aload_n 0, 1) := by decide +kernel
theorem dX2_init_1 : decode cX2_init 1 = .ok (.invokespecial 1, 3) := by decide +kernel
theorem dX2_init_4 : decode cX2_init 4 = .ok (.aload_n 0, 1) := by decide +kernel
theorem dX2_init_5 : decode cX2_init 5 = .ok (.lconst 0, 1) := by decide +kernel
theorem dX2_init_6 : decode cX2_init 6 = .ok (.putfield 7, 3) := by decide +kernel
theorem dX2_init_9 : decode cX2_init 9 = .ok (.aload_n 0, 1) := by decide +kernel
theorem dX2_init_10 : decode cX2_init 10 = .ok (.lconst 1, 1) := by decide +kernel
theorem dX2_init_11 : decode cX2_init 11 = .ok (.putfield 13, 3) := by decide +kernel
theorem dX2_init_14 : decode cX2_init 14 = .ok (.return_, 1) := by decide +kernel
theorem dX2_hold_0 : decode cX2_hold 0 = .ok (.lload_n 1, 1) := by decide +kernel
theorem dX2_hold_1 : decode cX2_hold 1 = .ok (.invokestatic 16, 3) := by decide +kernel
theorem dX2_hold_4 : decode cX2_hold 4 = .ok (.lload_n 3, 1) := by decide +kernel
theorem dX2_hold_5 : decode cX2_hold 5 = .ok (.invokestatic 16, 3) := by decide +kernel
theorem dX2_hold_8 : decode cX2_hold 8 = .ok (.invokestatic 22, 3) := by decide +kernel
theorem dX2_hold_11 : decode cX2_hold 11 = .ok (.lstore 5, 2) := by decide +kernel
theorem dX2_hold_13 : decode cX2_hold 13 = .ok (.lload_n 3, 1) := by decide +kernel
theorem dX2_hold_14 : decode cX2_hold 14 = .ok (.lconst 0, 1) := by decide +kernel
theorem dX2_hold_15 : decode cX2_hold 15 = .ok (.lcmp, 1) := by decide +kernel
theorem dX2_hold_16 : decode cX2_hold 16 = .ok (.ifCond .eq 10, 3) := by decide +kernel
theorem dX2_hold_19 : decode cX2_hold 19 = .ok (.lload 5, 2) := by decide +kernel
theorem dX2_hold_21 : decode cX2_hold 21 = .ok (.lconst 0, 1) := by decide +kernel
theorem dX2_hold_22 : decode cX2_hold 22 = .ok (.lcmp, 1) := by decide +kernel
theorem dX2_hold_23 : decode cX2_hold 23 = .ok (.ifCond .ne 4, 3) := by decide +kernel
theorem dX2_hold_26 : decode cX2_hold 26 = .ok (.return_, 1) := by decide +kernel
theorem dX2_hold_27 : decode cX2_hold 27 = .ok (.lload_n 3, 1) := by decide +kernel
theorem dX2_hold_28 : decode cX2_hold 28 = .ok (.lconst 0, 1) := by decide +kernel
theorem dX2_hold_29 : decode cX2_hold 29 = .ok (.lcmp, 1) := by decide +kernel
theorem dX2_hold_30 : decode cX2_hold 30 = .ok (.ifCond .ge 9, 3) := by decide +kernel
theorem dX2_hold_33 : decode cX2_hold 33 = .ok (.lload 5, 2) := by decide +kernel
theorem dX2_hold_35 : decode cX2_hold 35 = .ok (.lneg, 1) := by decide +kernel
theorem dX2_hold_36 : decode cX2_hold 36 = .ok (.goto 5, 3) := by decide +kernel
theorem dX2_hold_39 : decode cX2_hold 39 = .ok (.lload 5, 2) := by decide +kernel
theorem dX2_hold_41 : decode cX2_hold 41 = .ok (.lstore 7, 2) := by decide +kernel
theorem dX2_hold_43 : decode cX2_hold 43 = .ok (.aload_n 0, 1) := by decide +kernel
theorem dX2_hold_44 : decode cX2_hold 44 = .ok (.lload_n 1, 1) := by decide +kernel
theorem dX2_hold_45 : decode cX2_hold 45 = .ok (.lload 7, 2) := by decide +kernel
theorem dX2_hold_47 : decode cX2_hold 47 = .ok (.ldiv, 1) := by decide +kernel
theorem dX2_hold_48 : decode cX2_hold 48 = .ok (.putfield 7, 3) := by decide +kernel
theorem dX2_hold_51 : decode cX2_hold 51 = .ok (.aload_n 0, 1) := by decide +kernel
theorem dX2_hold_52 : decode cX2_hold 52 = .ok (.lload_n 3, 1) := by decide +kernel
theorem dX2_hold_53 : decode cX2_hold 53 = .ok (.lload 7, 2) := by decide +kernel
theorem dX2_hold_55 : decode cX2_hold 55 = .ok (.ldiv, 1) := by decide +kernel
theorem dX2_hold_56 : decode cX2_hold 56 = .ok (.putfield 13, 3) := by decide +kernel
theorem dX2_hold_59 : decode cX2_hold 59 = .ok (.return_, 1) := by decide +kernel
theorem dX2_commonPart_0 : decode cX2_commonPart 0 = .ok (.lload_n 0, 1) := by decide +kernel
theorem dX2_commonPart_1 : decode cX2_commonPart 1 = .ok (.lstore 4, 2) := by decide +kernel
theorem dX2_commonPart_3 : decode cX2_commonPart 3 = .ok (.lload_n 2, 1) := by decide +kernel
theorem dX2_commonPart_4 : decode cX2_commonPart 4 = .ok (.lstore 6, 2) := by decide +kernel
theorem dX2_commonPart_6 : decode cX2_commonPart 6 = .ok (.iconst 0, 1) := by decide +kernel
theorem dX2_commonPart_7 : decode cX2_commonPart 7 = .ok (.istore 8, 2) := by decide +kernel
theorem dX2_commonPart_9 : decode cX2_commonPart 9 = .ok (.iload 8, 2) := by decide +kernel
theorem dX2_commonPart_11 : decode cX2_commonPart 11 = .ok (.sipush 1000, 3) := by decide +kernel
theorem dX2_commonPart_14 : decode cX2_commonPart 14 = .ok (.if_icmp .ge 31, 3) := by decide +kernel
theorem dX2_commonPart_17 : decode cX2_commonPart 17 = .ok (.lload 6, 2) := by decide +kernel
theorem dX2_commonPart_19 : decode cX2_commonPart 19 = .ok (.lconst 0, 1) := by decide +kernel
theorem dX2_commonPart_20 : decode cX2_commonPart 20 = .ok (.lcmp, 1) := by decide +kernel
theorem dX2_commonPart_21 : decode cX2_commonPart 21 = .ok (.ifCond .eq 24, 3) := by decide +kernel
theorem dX2_commonPart_24 : decode cX2_commonPart 24 = .ok (.lload 4, 2) := by decide +kernel
theorem dX2_commonPart_26 : decode cX2_commonPart 26 = .ok (.lload 6, 2) := by decide +kernel
theorem dX2_commonPart_28 : decode cX2_commonPart 28 = .ok (.lrem, 1) := by decide +kernel
theorem dX2_commonPart_29 : decode cX2_commonPart 29 = .ok (.lstore 9, 2) := by decide +kernel
theorem dX2_commonPart_31 : decode cX2_commonPart 31 = .ok (.lload 6, 2) := by decide +kernel
theorem dX2_commonPart_33 : decode cX2_commonPart 33 = .ok (.lstore 4, 2) := by decide +kernel
theorem dX2_commonPart_35 : decode cX2_commonPart 35 = .ok (.lload 9, 2) := by decide +kernel
theorem dX2_commonPart_37 : decode cX2_commonPart 37 = .ok (.lstore 6, 2) := by decide +kernel
theorem dX2_commonPart_39 : decode cX2_commonPart 39 = .ok (.iinc 8 1, 3) := by decide +kernel
theorem dX2_commonPart_42 : decode cX2_commonPart 42 = .ok (.goto (-33), 3) := by decide +kernel
theorem dX2_commonPart_45 : decode cX2_commonPart 45 = .ok (.lload 4, 2) := by decide +kernel
theorem dX2_commonPart_47 : decode cX2_commonPart 47 = .ok (.lreturn, 1) := by decide +kernel
theorem dX3_init_0 : decode cX3_init 0 = .ok (.aload_n 0, 1) := by decide +kernel
theorem dX3_init_1 : decode cX3_init 1 = .ok (.invokespecial 3, 3) := by decide +kernel
theorem dX3_init_4 : decode cX3_init 4 = .ok (.aload_n 0, 1) := by decide +kernel
theorem dX3_init_5 : decode cX3_init 5 = .ok (.iconst 2, 1) := by decide +kernel
theorem dX3_init_6 : decode cX3_init 6 = .ok (.newarray .int, 2) := by decide +kernel
theorem dX3_init_8 : decode cX3_init 8 = .ok (.putfield 9, 3) := by decide +kernel
theorem dX3_init_11 : decode cX3_init 11 = .ok (.aload_n 0, 1) := by decide +kernel
theorem dX3_init_12 : decode cX3_init 12 = .ok (.bipush 10, 2) := by decide +kernel
theorem dX3_init_14 : decode cX3_init 14 = .ok (.newarray .int, 2) := by decide +kernel
theorem dX3_init_16 : decode cX3_init 16 = .ok (.putfield 15, 3) := by decide +kernel
theorem dX3_init_19 : decode cX3_init 19 = .ok (.return_, 1) := by decide +kernel
theorem dX3_beginAnew_0 : decode cX3_beginAnew 0 = .ok (.aload_n 0, 1) := by decide +kernel
theorem dX3_beginAnew_1 : decode cX3_beginAnew 1 = .ok (.getfield 9, 3) := by decide +kernel
theorem dX3_beginAnew_4 : decode cX3_beginAnew 4 = .ok (.iconst 0, 1) := by decide +kernel
theorem dX3_beginAnew_5 : decode cX3_beginAnew 5 = .ok (.iconst 0, 1) := by decide +kernel
theorem dX3_beginAnew_6 : decode cX3_beginAnew 6 = .ok (.iastore, 1) := by decide +kernel
theorem dX3_beginAnew_7 : decode cX3_beginAnew 7 = .ok (.aload_n 0, 1) := by decide +kernel
theorem dX3_beginAnew_8 : decode cX3_beginAnew 8 = .ok (.getfield 9, 3) := by decide +kernel
theorem dX3_beginAnew_11 : decode cX3_beginAnew 11 = .ok (.iconst 1, 1) := by decide +kernel
theorem dX3_beginAnew_12 : decode cX3_beginAnew 12 = .ok (.iconst 0, 1) := by decide +kernel
theorem dX3_beginAnew_13 : decode cX3_beginAnew 13 = .ok (.iastore, 1) := by decide +kernel
theorem dX3_beginAnew_14 : decode cX3_beginAnew 14 = .ok (.aload_n 0, 1) := by decide +kernel
theorem dX3_beginAnew_15 : decode cX3_beginAnew 15 = .ok (.iconst 0, 1) := by decide +kernel
theorem dX3_beginAnew_16 : decode cX3_beginAnew 16 = .ok (.putfield 18, 3) := by decide +kernel
theorem dX3_beginAnew_19 : decode cX3_beginAnew 19 = .ok (.aload_n 0, 1) := by decide +kernel
theorem dX3_beginAnew_20 : decode cX3_beginAnew 20 = .ok (.iconst 0, 1) := by decide +kernel
theorem dX3_beginAnew_21 : decode cX3_beginAnew 21 = .ok (.putfield 22, 3) := by decide +kernel
theorem dX3_beginAnew_24 : decode cX3_beginAnew 24 = .ok (.return_, 1) := by decide +kernel
theorem dX3_add_0 : decode cX3_add 0 = .ok (.aload_n 0, 1) := by decide +kernel
theorem dX3_add_1 : decode cX3_add 1 = .ok (.getfield 22, 3) := by decide +kernel
theorem dX3_add_4 : decode cX3_add 4 = .ok (.aload_n 0, 1) := by decide +kernel
theorem dX3_add_5 : decode cX3_add 5 = .ok (.getfield 15, 3) := by decide +kernel
theorem dX3_add_8 : decode cX3_add 8 = .ok (.arraylength, 1) := by decide +kernel
theorem dX3_add_9 : decode cX3_add 9 = .ok (.if_icmp .ne 33, 3) := by decide +kernel
theorem dX3_add_12 : decode cX3_add 12 = .ok (.aload_n 0, 1) := by decide +kernel
theorem dX3_add_13 : decode cX3_add 13 = .ok (.getfield 15, 3) := by decide +kernel
theorem dX3_add_16 : decode cX3_add 16 = .ok (.iconst 1, 1) := by decide +kernel
theorem dX3_add_17 : decode cX3_add 17 = .ok (.aload_n 0, 1) := by decide +kernel
theorem dX3_add_18 : decode cX3_add 18 = .ok (.getfield 15, 3) := by decide +kernel
theorem dX3_add_21 : decode cX3_add 21 = .ok (.iconst 0, 1) := by decide +kernel
theorem dX3_add_22 : decode cX3_add 22 = .ok (.aload_n 0, 1) := by decide +kernel
theorem dX3_add_23 : decode cX3_add 23 = .ok (.getfield 15, 3) := by decide +kernel
theorem dX3_add_26 : decode cX3_add 26 = .ok (.arraylength, 1) := by decide +kernel
theorem dX3_add_27 : decode cX3_add 27 = .ok (.iconst 1, 1) := by decide +kernel
theorem dX3_add_28 : decode cX3_add 28 = .ok (.isub, 1) := by decide +kernel
theorem dX3_add_29 : decode cX3_add 29 = .ok (.invokestatic 25, 3) := by decide +kernel
theorem dX3_add_32 : decode cX3_add 32 = .ok (.aload_n 0, 1) := by decide +kernel
theorem dX3_add_33 : decode cX3_add 33 = .ok (.dup, 1) := by decide +kernel
theorem dX3_add_34 : decode cX3_add 34 = .ok (.getfield 22, 3) := by decide +kernel
theorem dX3_add_37 : decode cX3_add 37 = .ok (.iconst 1, 1) := by decide +kernel
theorem dX3_add_38 : decode cX3_add 38 = .ok (.isub, 1) := by decide +kernel
theorem dX3_add_39 : decode cX3_add 39 = .ok (.putfield 22, 3) := by decide +kernel
theorem dX3_add_42 : decode cX3_add 42 = .ok (.aload_n 0, 1) := by decide +kernel
theorem dX3_add_43 : decode cX3_add 43 = .ok (.getfield 15, 3) := by decide +kernel
theorem dX3_add_46 : decode cX3_add 46 = .ok (.aload_n 0, 1) := by decide +kernel
theorem dX3_add_47 : decode cX3_add 47 = .ok (.getfield 22, 3) := by decide +kernel
theorem dX3_add_50 : decode cX3_add 50 = .ok (.iload_n 1, 1) := by decide +kernel
theorem dX3_add_51 : decode cX3_add 51 = .ok (.iastore, 1) := by decide +kernel
theorem dX3_add_52 : decode cX3_add 52 = .ok (.aload_n 0, 1) := by decide +kernel
theorem dX3_add_53 : decode cX3_add 53 = .ok (.dup, 1) := by decide +kernel
theorem dX3_add_54 : decode cX3_add 54 = .ok (.getfield 22, 3) := by decide +kernel
theorem dX3_add_57 : decode cX3_add 57 = .ok (.iconst 1, 1) := by decide +kernel
theorem dX3_add_58 : decode cX3_add 58 = .ok (.iadd, 1) := by decide +kernel
theorem dX3_add_59 : decode cX3_add 59 = .ok (.putfield 22, 3) := by decide +kernel
theorem dX3_add_62 : decode cX3_add 62 = .ok (.aload_n 0, 1) := by decide +kernel
theorem dX3_add_63 : decode cX3_add 63 = .ok (.getfield 9, 3) := by decide +kernel
theorem dX3_add_66 : decode cX3_add 66 = .ok (.aload_n 0, 1) := by decide +kernel
theorem dX3_add_67 : decode cX3_add 67 = .ok (.getfield 18, 3) := by decide +kernel
theorem dX3_add_70 : decode cX3_add 70 = .ok (.dup2, 1) := by decide +kernel
theorem dX3_add_71 : decode cX3_add 71 = .ok (.iaload, 1) := by decide +kernel
theorem dX3_add_72 : decode cX3_add 72 = .ok (.iload_n 1, 1) := by decide +kernel
theorem dX3_add_73 : decode cX3_add 73 = .ok (.iadd, 1) := by decide +kernel
theorem dX3_add_74 : decode cX3_add 74 = .ok (.iastore, 1) := by decide +kernel
theorem dX3_add_75 : decode cX3_add 75 = .ok (.aload_n 0, 1) := by decide +kernel
theorem dX3_add_76 : decode cX3_add 76 = .ok (.iconst 1, 1) := by decide +kernel
theorem dX3_add_77 : decode cX3_add 77 = .ok (.aload_n 0, 1) := by decide +kernel
theorem dX3_add_78 : decode cX3_add 78 = .ok (.getfield 18, 3) := by decide +kernel
theorem dX3_add_81 : decode cX3_add 81 = .ok (.isub, 1) := by decide +kernel
theorem dX3_add_82 : decode cX3_add 82 = .ok (.putfield 18, 3) := by decide +kernel
theorem dX3_add_85 : decode cX3_add 85 = .ok (.return_, 1) := by decide +kernel
theorem dX3_takeBack_0 : decode cX3_takeBack 0 = .ok (.aload_n 0, 1) := by decide +kernel
theorem dX3_takeBack_1 : decode cX3_takeBack 1 = .ok (.getfield 22, 3) := by decide +kernel
theorem dX3_takeBack_4 : decode cX3_takeBack 4 = .ok (.ifCond .le 44, 3) := by decide +kernel
theorem dX3_takeBack_7 : decode cX3_takeBack 7 = .ok (.aload_n 0, 1) := by decide +kernel
theorem dX3_takeBack_8 : decode cX3_takeBack 8 = .ok (.dup, 1) := by decide +kernel
theorem dX3_takeBack_9 : decode cX3_takeBack 9 = .ok (.getfield 22, 3) := by decide +kernel
theorem dX3_takeBack_12 : decode cX3_takeBack 12 = .ok (.iconst 1, 1) := by decide +kernel
theorem dX3_takeBack_13 : decode cX3_takeBack 13 = .ok (.isub, 1) := by decide +kernel
theorem dX3_takeBack_14 : decode cX3_takeBack 14 = .ok (.putfield 22, 3) := by decide +kernel
theorem dX3_takeBack_17 : decode cX3_takeBack 17 = .ok (.aload_n 0, 1) := by decide +kernel
theorem dX3_takeBack_18 : decode cX3_takeBack 18 = .ok (.iconst 1, 1) := by decide +kernel
theorem dX3_takeBack_19 : decode cX3_takeBack 19 = .ok (.aload_n 0, 1) := by decide +kernel
theorem dX3_takeBack_20 : decode cX3_takeBack 20 = .ok (.getfield 18, 3) := by decide +kernel
theorem dX3_takeBack_23 : decode cX3_takeBack 23 = .ok (.isub, 1) := by decide +kernel
theorem dX3_takeBack_24 : decode cX3_takeBack 24 = .ok (.putfield 18, 3) := by decide +kernel
theorem dX3_takeBack_27 : decode cX3_takeBack 27 = .ok (.aload_n 0, 1) := by decide +kernel
theorem dX3_takeBack_28 : decode cX3_takeBack 28 = .ok (.getfield 9, 3) := by decide +kernel
theorem dX3_takeBack_31 : decode cX3_takeBack 31 = .ok (.aload_n 0, 1) := by decide +kernel
theorem dX3_takeBack_32 : decode cX3_takeBack 32 = .ok (.getfield 18, 3) := by decide +kernel
theorem dX3_takeBack_35 : decode cX3_takeBack 35 = .ok (.dup2, 1) := by decide +kernel
theorem dX3_takeBack_36 : decode cX3_takeBack 36 = .ok (.iaload, 1) := by decide +kernel
theorem dX3_takeBack_37 : decode cX3_takeBack 37 = .ok (.aload_n 0, 1) := by decide +kernel
theorem dX3_takeBack_38 : decode cX3_takeBack 38 = .ok (.getfield 15, 3) := by decide +kernel
theorem dX3_takeBack_41 : decode cX3_takeBack 41 = .ok (.aload_n 0, 1) := by decide +kernel
theorem dX3_takeBack_42 : decode cX3_takeBack 42 = .ok (.getfield 22, 3) := by decide +kernel
theorem dX3_takeBack_45 : decode cX3_takeBack 45 = .ok (.iaload, 1) := by decide +kernel
theorem dX3_takeBack_46 : decode cX3_takeBack 46 = .ok (.isub, 1) := by decide +kernel
theorem dX3_takeBack_47 : decode cX3_takeBack 47 = .ok (.iastore, 1) := by decide +kernel
theorem dX3_takeBack_48 : decode cX3_takeBack 48 = .ok (.return_, 1) := by decide +kernel
theorem dX3_copyFrom_0 : decode cX3_copyFrom 0 = .ok (.aload_n 1, 1) := by decide +kernel
theorem dX3_copyFrom_1 : decode cX3_copyFrom 1 = .ok (.getfield 9, 3) := by decide +kernel
theorem dX3_copyFrom_4 : decode cX3_copyFrom 4 = .ok (.iconst 0, 1) := by decide +kernel
theorem dX3_copyFrom_5 : decode cX3_copyFrom 5 = .ok (.aload_n 0, 1) := by decide +kernel
theorem dX3_copyFrom_6 : decode cX3_copyFrom 6 = .ok (.getfield 9, 3) := by decide +kernel
theorem dX3_copyFrom_9 : decode cX3_copyFrom 9 = .ok (.iconst 0, 1) := by decide +kernel
theorem dX3_copyFrom_10 : decode cX3_copyFrom 10 = .ok (.aload_n 0, 1) := by decide +kernel
theorem dX3_copyFrom_11 : decode cX3_copyFrom 11 = .ok (.getfield 9, 3) := by decide +kernel
theorem dX3_copyFrom_14 : decode cX3_copyFrom 14 = .ok (.arraylength, 1) := by decide +kernel
theorem dX3_copyFrom_15 : decode cX3_copyFrom 15 = .ok (.invokestatic 25, 3) := by decide +kernel
theorem dX3_copyFrom_18 : decode cX3_copyFrom 18 = .ok (.aload_n 1, 1) := by decide +kernel
theorem dX3_copyFrom_19 : decode cX3_copyFrom 19 = .ok (.getfield 15, 3) := by decide +kernel
theorem dX3_copyFrom_22 : decode cX3_copyFrom 22 = .ok (.iconst 0, 1) := by decide +kernel
theorem dX3_copyFrom_23 : decode cX3_copyFrom 23 = .ok (.aload_n 0, 1) := by decide +kernel
theorem dX3_copyFrom_24 : decode cX3_copyFrom 24 = .ok (.getfield 15, 3) := by decide +kernel
theorem dX3_copyFrom_27 : decode cX3_copyFrom 27 = .ok (.iconst 0, 1) := by decide +kernel
theorem dX3_copyFrom_28 : decode cX3_copyFrom 28 = .ok (.aload_n 0, 1) := by decide +kernel
theorem dX3_copyFrom_29 : decode cX3_copyFrom 29 = .ok (.getfield 15, 3) := by decide +kernel
theorem dX3_copyFrom_32 : decode cX3_copyFrom 32 = .ok (.arraylength, 1) := by decide +kernel
theorem dX3_copyFrom_33 : decode cX3_copyFrom 33 = .ok (.invokestatic 25, 3) := by decide +kernel
theorem dX3_copyFrom_36 : decode cX3_copyFrom 36 = .ok (.aload_n 0, 1) := by decide +kernel
theorem dX3_copyFrom_37 : decode cX3_copyFrom 37 = .ok (.aload_n 1, 1) := by decide +kernel
theorem dX3_copyFrom_38 : decode cX3_copyFrom 38 = .ok (.getfield 18, 3) := by decide +kernel
theorem dX3_copyFrom_41 : decode cX3_copyFrom 41 = .ok (.putfield 18, 3) := by decide +kernel
theorem dX3_copyFrom_44 : decode cX3_copyFrom 44 = .ok (.aload_n 0, 1) := by decide +kernel
theorem dX3_copyFrom_45 : decode cX3_copyFrom 45 = .ok (.aload_n 1, 1) := by decide +kernel
theorem dX3_copyFrom_46 : decode cX3_copyFrom 46 = .ok (.getfield 22, 3) := by decide +kernel
theorem dX3_copyFrom_49 : decode cX3_copyFrom 49 = .ok (.putfield 22, 3) := by decide +kernel
theorem dX3_copyFrom_52 : decode cX3_copyFrom 52 = .ok (.return_, 1) := by decide +kernel
theorem dX4_init_0 : decode cX4_init 0 = .ok (.aload_n 0, 1) := by decide +kernel
theorem dX4_init_1 : decode cX4_init 1 = .ok (.invokespecial 1, 3) := by decide +kernel
theorem dX4_init_4 : decode cX4_init 4 = .ok (.aload_n 0, 1) := by decide +kernel
theorem dX4_init_5 : decode cX4_init 5 = .ok (.new 7, 3) := by decide +kernel
theorem dX4_init_8 : decode cX4_init 8 = .ok (.dup, 1) := by decide +kernel
theorem dX4_init_9 : decode cX4_init 9 = .ok (.invokespecial 9, 3) := by decide +kernel
theorem dX4_init_12 : decode cX4_init 12 = .ok (.putfield 10, 3) := by decide +kernel
theorem dX4_init_15 : decode cX4_init 15 = .ok (.aload_n 0, 1) := by decide +kernel
theorem dX4_init_16 : decode cX4_init 16 = .ok (.new 16, 3) := by decide +kernel
theorem dX4_init_19 : decode cX4_init 19 = .ok (.dup, 1) := by decide +kernel
theorem dX4_init_20 : decode cX4_init 20 = .ok (.invokespecial 18, 3) := by decide +kernel
theorem dX4_init_23 : decode cX4_init 23 = .ok (.putfield 19, 3) := by decide +kernel
theorem dX4_init_26 : decode cX4_init 26 = .ok (.aload_n 0, 1) := by decide +kernel
theorem dX4_init_27 : decode cX4_init 27 = .ok (.new 23, 3) := by decide +kernel
theorem dX4_init_30 : decode cX4_init 30 = .ok (.dup, 1) := by decide +kernel
theorem dX4_init_31 : decode cX4_init 31 = .ok (.invokespecial 25, 3) := by decide +kernel
theorem dX4_init_34 : decode cX4_init 34 = .ok (.putfield 26, 3) := by decide +kernel
theorem dX4_init_37 : decode cX4_init 37 = .ok (.return_, 1) := by decide +kernel
theorem dX4_copyFrom_0 : decode cX4_copyFrom 0 = .ok (.aload_n 0, 1) := by decide +kernel
theorem dX4_copyFrom_1 : decode cX4_copyFrom 1 = .ok (.getfield 10, 3) := by decide +kernel
theorem dX4_copyFrom_4 : decode cX4_copyFrom 4 = .ok (.aload_n 1, 1) := by decide +kernel
theorem dX4_copyFrom_5 : decode cX4_copyFrom 5 = .ok (.getfield 10, 3) := by decide +kernel
theorem dX4_copyFrom_8 : decode cX4_copyFrom 8 = .ok (.invokevirtual 30, 3) := by decide +kernel
theorem dX4_copyFrom_11 : decode cX4_copyFrom 11 = .ok (.aload_n 0, 1) := by decide +kernel
theorem dX4_copyFrom_12 : decode cX4_copyFrom 12 = .ok (.getfield 19, 3) := by decide +kernel
theorem dX4_copyFrom_15 : decode cX4_copyFrom 15 = .ok (.aload_n 1, 1) := by decide +kernel
theorem dX4_copyFrom_16 : decode cX4_copyFrom 16 = .ok (.getfield 19, 3) := by decide +kernel
theorem dX4_copyFrom_19 : decode cX4_copyFrom 19 = .ok (.invokevirtual 34, 3) := by decide +kernel
theorem dX4_copyFrom_22 : decode cX4_copyFrom 22 = .ok (.aload_n 0, 1) := by decide +kernel
theorem dX4_copyFrom_23 : decode cX4_copyFrom 23 = .ok (.getfield 26, 3) := by decide +kernel
theorem dX4_copyFrom_26 : decode cX4_copyFrom 26 = .ok (.aload_n 1, 1) := by decide +kernel
theorem dX4_copyFrom_27 : decode cX4_copyFrom 27 = .ok (.getfield 26, 3) := by decide +kernel
theorem dX4_copyFrom_30 : decode cX4_copyFrom 30 = .ok (.invokevirtual 37, 3) := by decide +kernel
theorem dX4_copyFrom_33 : decode cX4_copyFrom 33 = .ok (.return_, 1) := by decide +kernel
theorem dX5_lowestEdge_0 : decode cX5_lowestEdge 0 = .ok (.iload_n 0, 1) := by decide +kernel
theorem dX5_lowestEdge_1 : decode cX5_lowestEdge 1 = .ok (.tableswitch 40 2 5 #[31, 34, 37, 31], 31) := by decide +kernel
theorem dX5_lowestEdge_32 : decode cX5_lowestEdge 32 = .ok (.bipush 10, 2) := by decide +kernel
theorem dX5_lowestEdge_34 : decode cX5_lowestEdge 34 = .ok (.ireturn, 1) := by decide +kernel
theorem dX5_lowestEdge_35 : decode cX5_lowestEdge 35 = .ok (.bipush 13, 2) := by decide +kernel
theorem dX5_lowestEdge_37 : decode cX5_lowestEdge 37 = .ok (.ireturn, 1) := by decide +kernel
theorem dX5_lowestEdge_38 : decode cX5_lowestEdge 38 = .ok (.bipush 17, 2) := by decide +kernel
theorem dX5_lowestEdge_40 : decode cX5_lowestEdge 40 = .ok (.ireturn, 1) := by decide +kernel
theorem dX5_lowestEdge_41 : decode cX5_lowestEdge 41 = .ok (.bipush 14, 2) := by decide +kernel
theorem dX5_lowestEdge_43 : decode cX5_lowestEdge 43 = .ok (.ireturn, 1) := by decide +kernel
theorem dX5_highestEdge_0 : decode cX5_highestEdge 0 = .ok (.iload_n 0, 1) := by decide +kernel
theorem dX5_highestEdge_1 : decode cX5_highestEdge 1 = .ok (.tableswitch 44 1 5 #[35, 38, 35, 41, 38], 35) := by decide +kernel
theorem dX5_highestEdge_36 : decode cX5_highestEdge 36 = .ok (.bipush 15, 2) := by decide +kernel
theorem dX5_highestEdge_38 : decode cX5_highestEdge 38 = .ok (.ireturn, 1) := by decide +kernel
theorem dX5_highestEdge_39 : decode cX5_highestEdge 39 = .ok (.bipush 11, 2) := by decide +kernel
theorem dX5_highestEdge_41 : decode cX5_highestEdge 41 = .ok (.ireturn, 1) := by decide +kernel
theorem dX5_highestEdge_42 : decode cX5_highestEdge 42 = .ok (.bipush 19, 2) := by decide +kernel
theorem dX5_highestEdge_44 : decode cX5_highestEdge 44 = .ok (.ireturn, 1) := by decide +kernel
theorem dX5_highestEdge_45 : decode cX5_highestEdge 45 = .ok (.bipush 16, 2) := by decide +kernel
theorem dX5_highestEdge_47 : decode cX5_highestEdge 47 = .ok (.ireturn, 1) := by decide +kernel
theorem dX5_yardsOfEdge_0 : decode cX5_yardsOfEdge 0 = .ok (.iload_n 0, 1) := by decide +kernel
theorem dX5_yardsOfEdge_1 : decode cX5_yardsOfEdge 1 = .ok (.tableswitch 59 1 4 #[31, 31, 41, 53], 31) := by decide +kernel
theorem dX5_yardsOfEdge_32 : decode cX5_yardsOfEdge 32 = .ok (.iconst 0, 1) := by decide +kernel
theorem dX5_yardsOfEdge_33 : decode cX5_yardsOfEdge 33 = .ok (.iload_n 1, 1) := by decide +kernel
theorem dX5_yardsOfEdge_34 : decode cX5_yardsOfEdge 34 = .ok (.iload_n 2, 1) := by decide +kernel
theorem dX5_yardsOfEdge_35 : decode cX5_yardsOfEdge 35 = .ok (.iadd, 1) := by decide +kernel
theorem dX5_yardsOfEdge_36 : decode cX5_yardsOfEdge 36 = .ok (.iconst 2, 1) := by decide +kernel
theorem dX5_yardsOfEdge_37 : decode cX5_yardsOfEdge 37 = .ok (.isub, 1) := by decide +kernel
theorem dX5_yardsOfEdge_38 : decode cX5_yardsOfEdge 38 = .ok (.invokestatic 7, 3) := by decide +kernel
theorem dX5_yardsOfEdge_41 : decode cX5_yardsOfEdge 41 = .ok (.ireturn, 1) := by decide +kernel
theorem dX5_yardsOfEdge_42 : decode cX5_yardsOfEdge 42 = .ok (.iconst 0, 1) := by decide +kernel
theorem dX5_yardsOfEdge_43 : decode cX5_yardsOfEdge 43 = .ok (.iload_n 1, 1) := by decide +kernel
theorem dX5_yardsOfEdge_44 : decode cX5_yardsOfEdge 44 = .ok (.iload_n 2, 1) := by decide +kernel
theorem dX5_yardsOfEdge_45 : decode cX5_yardsOfEdge 45 = .ok (.iadd, 1) := by decide +kernel
theorem dX5_yardsOfEdge_46 : decode cX5_yardsOfEdge 46 = .ok (.iconst 2, 1) := by decide +kernel
theorem dX5_yardsOfEdge_47 : decode cX5_yardsOfEdge 47 = .ok (.isub, 1) := by decide +kernel
theorem dX5_yardsOfEdge_48 : decode cX5_yardsOfEdge 48 = .ok (.iconst 2, 1) := by decide +kernel
theorem dX5_yardsOfEdge_49 : decode cX5_yardsOfEdge 49 = .ok (.idiv, 1) := by decide +kernel
theorem dX5_yardsOfEdge_50 : decode cX5_yardsOfEdge 50 = .ok (.invokestatic 7, 3) := by decide +kernel
theorem dX5_yardsOfEdge_53 : decode cX5_yardsOfEdge 53 = .ok (.ireturn, 1) := by decide +kernel
theorem dX5_yardsOfEdge_54 : decode cX5_yardsOfEdge 54 = .ok (.iload_n 1, 1) := by decide +kernel
theorem dX5_yardsOfEdge_55 : decode cX5_yardsOfEdge 55 = .ok (.iload_n 2, 1) := by decide +kernel
theorem dX5_yardsOfEdge_56 : decode cX5_yardsOfEdge 56 = .ok (.iadd, 1) := by decide +kernel
theorem dX5_yardsOfEdge_57 : decode cX5_yardsOfEdge 57 = .ok (.iconst 1, 1) := by decide +kernel
theorem dX5_yardsOfEdge_58 : decode cX5_yardsOfEdge 58 = .ok (.iadd, 1) := by decide +kernel
theorem dX5_yardsOfEdge_59 : decode cX5_yardsOfEdge 59 = .ok (.ireturn, 1) := by decide +kernel
theorem dX5_yardsOfEdge_60 : decode cX5_yardsOfEdge 60 = .ok (.iload_n 1, 1) := by decide +kernel
theorem dX5_yardsOfEdge_61 : decode cX5_yardsOfEdge 61 = .ok (.iload_n 2, 1) := by decide +kernel
theorem dX5_yardsOfEdge_62 : decode cX5_yardsOfEdge 62 = .ok (.iadd, 1) := by decide +kernel
theorem dX5_yardsOfEdge_63 : decode cX5_yardsOfEdge 63 = .ok (.ireturn, 1) := by decide +kernel
theorem dX5_wayOf_0 : decode cX5_wayOf 0 = .ok (.iload_n 2, 1) := by decide +kernel
theorem dX5_wayOf_1 : decode cX5_wayOf 1 = .ok (.iload_n 1, 1) := by decide +kernel
theorem dX5_wayOf_2 : decode cX5_wayOf 2 = .ok (.isub, 1) := by decide +kernel
theorem dX5_wayOf_3 : decode cX5_wayOf 3 = .ok (.iconst 2, 1) := by decide +kernel
theorem dX5_wayOf_4 : decode cX5_wayOf 4 = .ok (.if_icmp .ge 5, 3) := by decide +kernel
theorem dX5_wayOf_7 : decode cX5_wayOf 7 = .ok (.iconst 0, 1) := by decide +kernel
theorem dX5_wayOf_8 : decode cX5_wayOf 8 = .ok (.ireturn, 1) := by decide +kernel
theorem dX5_wayOf_9 : decode cX5_wayOf 9 = .ok (.iconst 2, 1) := by decide +kernel
theorem dX5_wayOf_10 : decode cX5_wayOf 10 = .ok (.iload_n 3, 1) := by decide +kernel
theorem dX5_wayOf_11 : decode cX5_wayOf 11 = .ok (.imul, 1) := by decide +kernel
theorem dX5_wayOf_12 : decode cX5_wayOf 12 = .ok (.iload_n 2, 1) := by decide +kernel
theorem dX5_wayOf_13 : decode cX5_wayOf 13 = .ok (.iadd, 1) := by decide +kernel
theorem dX5_wayOf_14 : decode cX5_wayOf 14 = .ok (.iload_n 1, 1) := by decide +kernel
theorem dX5_wayOf_15 : decode cX5_wayOf 15 = .ok (.isub, 1) := by decide +kernel
theorem dX5_wayOf_16 : decode cX5_wayOf 16 = .ok (.istore 4, 2) := by decide +kernel
theorem dX5_wayOf_18 : decode cX5_wayOf 18 = .ok (.iload 4, 2) := by decide +kernel
theorem dX5_wayOf_20 : decode cX5_wayOf 20 = .ok (.iload_n 0, 1) := by decide +kernel
theorem dX5_wayOf_21 : decode cX5_wayOf 21 = .ok (.invokestatic 15, 3) := by decide +kernel
theorem dX5_wayOf_24 : decode cX5_wayOf 24 = .ok (.if_icmp .ge 5, 3) := by decide +kernel
theorem dX5_wayOf_27 : decode cX5_wayOf 27 = .ok (.iconst 1, 1) := by decide +kernel
theorem dX5_wayOf_28 : decode cX5_wayOf 28 = .ok (.ireturn, 1) := by decide +kernel
theorem dX5_wayOf_29 : decode cX5_wayOf 29 = .ok (.iload 4, 2) := by decide +kernel
theorem dX5_wayOf_31 : decode cX5_wayOf 31 = .ok (.iload_n 0, 1) := by decide +kernel
theorem dX5_wayOf_32 : decode cX5_wayOf 32 = .ok (.invokestatic 19, 3) := by decide +kernel
theorem dX5_wayOf_35 : decode cX5_wayOf 35 = .ok (.if_icmp .gt 7, 3) := by decide +kernel
theorem dX5_wayOf_38 : decode cX5_wayOf 38 = .ok (.iconst 2, 1) := by decide +kernel
theorem dX5_wayOf_39 : decode cX5_wayOf 39 = .ok (.goto 4, 3) := by decide +kernel
theorem dX5_wayOf_42 : decode cX5_wayOf 42 = .ok (.iconst 3, 1) := by decide +kernel
theorem dX5_wayOf_43 : decode cX5_wayOf 43 = .ok (.ireturn, 1) := by decide +kernel
theorem dX5_yardsOf_0 : decode cX5_yardsOf 0 = .ok (.iload_n 0, 1) := by decide +kernel
theorem dX5_yardsOf_1 : decode cX5_yardsOf 1 = .ok (.lookupswitch 38 #[(1, 27), (2, 31)], 27) := by decide +kernel
theorem dX5_yardsOf_28 : decode cX5_yardsOf 28 = .ok (.iload_n 2, 1) := by decide +kernel
theorem dX5_yardsOf_29 : decode cX5_yardsOf 29 = .ok (.iconst 2, 1) := by decide +kernel
theorem dX5_yardsOf_30 : decode cX5_yardsOf 30 = .ok (.idiv, 1) := by decide +kernel
theorem dX5_yardsOf_31 : decode cX5_yardsOf 31 = .ok (.ireturn, 1) := by decide +kernel
theorem dX5_yardsOf_32 : decode cX5_yardsOf 32 = .ok (.iload_n 1, 1) := by decide +kernel
theorem dX5_yardsOf_33 : decode cX5_yardsOf 33 = .ok (.iload_n 2, 1) := by decide +kernel
theorem dX5_yardsOf_34 : decode cX5_yardsOf 34 = .ok (.iload_n 3, 1) := by decide +kernel
theorem dX5_yardsOf_35 : decode cX5_yardsOf 35 = .ok (.invokestatic 22, 3) := by decide +kernel
theorem dX5_yardsOf_38 : decode cX5_yardsOf 38 = .ok (.ireturn, 1) := by decide +kernel
theorem dX5_yardsOf_39 : decode cX5_yardsOf 39 = .ok (.iconst 0, 1) := by decide +kernel
theorem dX5_yardsOf_40 : decode cX5_yardsOf 40 = .ok (.ireturn, 1) := by decide +kernel
theorem dX5_pointsOfEdge_0 : decode cX5_pointsOfEdge 0 = .ok (.iload_n 0, 1) := by decide +kernel
theorem dX5_pointsOfEdge_1 : decode cX5_pointsOfEdge 1 = .ok (.iload_n 1, 1) := by decide +kernel
theorem dX5_pointsOfEdge_2 : decode cX5_pointsOfEdge 2 = .ok (.iconst 1, 1) := by decide +kernel
theorem dX5_pointsOfEdge_3 : decode cX5_pointsOfEdge 3 = .ok (.iadd, 1) := by decide +kernel
theorem dX5_pointsOfEdge_4 : decode cX5_pointsOfEdge 4 = .ok (.if_icmp .gt 10, 3) := by decide +kernel
theorem dX5_pointsOfEdge_7 : decode cX5_pointsOfEdge 7 = .ok (.iload_n 0, 1) := by decide +kernel
theorem dX5_pointsOfEdge_8 : decode cX5_pointsOfEdge 8 = .ok (.iload_n 1, 1) := by decide +kernel
theorem dX5_pointsOfEdge_9 : decode cX5_pointsOfEdge 9 = .ok (.iconst 4, 1) := by decide +kernel
theorem dX5_pointsOfEdge_10 : decode cX5_pointsOfEdge 10 = .ok (.isub, 1) := by decide +kernel
theorem dX5_pointsOfEdge_11 : decode cX5_pointsOfEdge 11 = .ok (.if_icmp .ge 5, 3) := by decide +kernel
theorem dX5_pointsOfEdge_14 : decode cX5_pointsOfEdge 14 = .ok (.iconst 0, 1) := by decide +kernel
theorem dX5_pointsOfEdge_15 : decode cX5_pointsOfEdge 15 = .ok (.ireturn, 1) := by decide +kernel
theorem dX5_pointsOfEdge_16 : decode cX5_pointsOfEdge 16 = .ok (.iload_n 0, 1) := by decide +kernel
theorem dX5_pointsOfEdge_17 : decode cX5_pointsOfEdge 17 = .ok (.iload_n 1, 1) := by decide +kernel
theorem dX5_pointsOfEdge_18 : decode cX5_pointsOfEdge 18 = .ok (.iconst 1, 1) := by decide +kernel
theorem dX5_pointsOfEdge_19 : decode cX5_pointsOfEdge 19 = .ok (.isub, 1) := by decide +kernel
theorem dX5_pointsOfEdge_20 : decode cX5_pointsOfEdge 20 = .ok (.if_icmp .lt 8, 3) := by decide +kernel
theorem dX5_pointsOfEdge_23 : decode cX5_pointsOfEdge 23 = .ok (.bipush 10, 2) := by decide +kernel
theorem dX5_pointsOfEdge_25 : decode cX5_pointsOfEdge 25 = .ok (.goto 4, 3) := by decide +kernel
theorem dX5_pointsOfEdge_28 : decode cX5_pointsOfEdge 28 = .ok (.iconst 5, 1) := by decide +kernel
theorem dX5_pointsOfEdge_29 : decode cX5_pointsOfEdge 29 = .ok (.ireturn, 1) := by decide +kernel
theorem dX5_pointsOf_0 : decode cX5_pointsOf 0 = .ok (.iload_n 0, 1) := by decide +kernel
theorem dX5_pointsOf_1 : decode cX5_pointsOf 1 = .ok (.iload_n 1, 1) := by decide +kernel
theorem dX5_pointsOf_2 : decode cX5_pointsOf 2 = .ok (.iload_n 2, 1) := by decide +kernel
theorem dX5_pointsOf_3 : decode cX5_pointsOf 3 = .ok (.iload_n 3, 1) := by decide +kernel
theorem dX5_pointsOf_4 : decode cX5_pointsOf 4 = .ok (.invokestatic 26, 3) := by decide +kernel
theorem dX5_pointsOf_7 : decode cX5_pointsOf 7 = .ok (.iconst 2, 1) := by decide +kernel
theorem dX5_pointsOf_8 : decode cX5_pointsOf 8 = .ok (.if_icmp .eq 5, 3) := by decide +kernel
theorem dX5_pointsOf_11 : decode cX5_pointsOf 11 = .ok (.iconst 0, 1) := by decide +kernel
theorem dX5_pointsOf_12 : decode cX5_pointsOf 12 = .ok (.ireturn, 1) := by decide +kernel
theorem dX5_pointsOf_13 : decode cX5_pointsOf 13 = .ok (.iload_n 0, 1) := by decide +kernel
theorem dX5_pointsOf_14 : decode cX5_pointsOf 14 = .ok (.iload_n 2, 1) := by decide +kernel
theorem dX5_pointsOf_15 : decode cX5_pointsOf 15 = .ok (.iload_n 3, 1) := by decide +kernel
theorem dX5_pointsOf_16 : decode cX5_pointsOf 16 = .ok (.invokestatic 22, 3) := by decide +kernel
theorem dX5_pointsOf_19 : decode cX5_pointsOf 19 = .ok (.iload 4, 2) := by decide +kernel
theorem dX5_pointsOf_21 : decode cX5_pointsOf 21 = .ok (.invokestatic 30, 3) := by decide +kernel
theorem dX5_pointsOf_24 : decode cX5_pointsOf 24 = .ok (.ireturn, 1) := by decide +kernel
theorem dX6_allCases_0 : decode cX6_allCases 0 = .ok (.lconst 1, 1) := by decide +kernel
theorem dX6_allCases_1 : decode cX6_allCases 1 = .ok (.iconst 4, 1) := by decide +kernel
theorem dX6_allCases_2 : decode cX6_allCases 2 = .ok (.iload_n 0, 1) := by decide +kernel
theorem dX6_allCases_3 : decode cX6_allCases 3 = .ok (.imul, 1) := by decide +kernel
theorem dX6_allCases_4 : decode cX6_allCases 4 = .ok (.lshl, 1) := by decide +kernel
theorem dX6_allCases_5 : decode cX6_allCases 5 = .ok (.lreturn, 1) := by decide +kernel
theorem dX6_middleCases_0 : decode cX6_middleCases 0 = .ok (.lconst 1, 1) := by decide +kernel
theorem dX6_middleCases_1 : decode cX6_middleCases 1 = .ok (.lstore_n 3, 1) := by decide +kernel
theorem dX6_middleCases_2 : decode cX6_middleCases 2 = .ok (.lconst 0, 1) := by decide +kernel
theorem dX6_middleCases_3 : decode cX6_middleCases 3 = .ok (.lstore 5, 2) := by decide +kernel
theorem dX6_middleCases_5 : decode cX6_middleCases 5 = .ok (.iconst 0, 1) := by decide +kernel
theorem dX6_middleCases_6 : decode cX6_middleCases 6 = .ok (.istore 7, 2) := by decide +kernel
theorem dX6_middleCases_8 : decode cX6_middleCases 8 = .ok (.iload 7, 2) := by decide +kernel
theorem dX6_middleCases_10 : decode cX6_middleCases 10 = .ok (.iload_n 1, 1) := by decide +kernel
theorem dX6_middleCases_11 : decode cX6_middleCases 11 = .ok (.if_icmp .ge 40, 3) := by decide +kernel
theorem dX6_middleCases_14 : decode cX6_middleCases 14 = .ok (.ldc2_w 9, 3) := by decide +kernel
theorem dX6_middleCases_17 : decode cX6_middleCases 17 = .ok (.lload 5, 2) := by decide +kernel
theorem dX6_middleCases_19 : decode cX6_middleCases 19 = .ok (.lmul, 1) := by decide +kernel
theorem dX6_middleCases_20 : decode cX6_middleCases 20 = .ok (.lload_n 3, 1) := by decide +kernel
theorem dX6_middleCases_21 : decode cX6_middleCases 21 = .ok (.bipush 16, 2) := by decide +kernel
theorem dX6_middleCases_23 : decode cX6_middleCases 23 = .ok (.iload_n 0, 1) := by decide +kernel
theorem dX6_middleCases_24 : decode cX6_middleCases 24 = .ok (.isub, 1) := by decide +kernel
theorem dX6_middleCases_25 : decode cX6_middleCases 25 = .ok (.i2l, 1) := by decide +kernel
theorem dX6_middleCases_26 : decode cX6_middleCases 26 = .ok (.lmul, 1) := by decide +kernel
theorem dX6_middleCases_27 : decode cX6_middleCases 27 = .ok (.iconst 0, 1) := by decide +kernel
theorem dX6_middleCases_28 : decode cX6_middleCases 28 = .ok (.iload 7, 2) := by decide +kernel
theorem dX6_middleCases_30 : decode cX6_middleCases 30 = .ok (.iload_n 2, 1) := by decide +kernel
theorem dX6_middleCases_31 : decode cX6_middleCases 31 = .ok (.isub, 1) := by decide +kernel
theorem dX6_middleCases_32 : decode cX6_middleCases 32 = .ok (.invokestatic 11, 3) := by decide +kernel
theorem dX6_middleCases_35 : decode cX6_middleCases 35 = .ok (.i2l, 1) := by decide +kernel
theorem dX6_middleCases_36 : decode cX6_middleCases 36 = .ok (.lmul, 1) := by decide +kernel
theorem dX6_middleCases_37 : decode cX6_middleCases 37 = .ok (.ladd, 1) := by decide +kernel
theorem dX6_middleCases_38 : decode cX6_middleCases 38 = .ok (.lstore 5, 2) := by decide +kernel
theorem dX6_middleCases_40 : decode cX6_middleCases 40 = .ok (.lload_n 3, 1) := by decide +kernel
theorem dX6_middleCases_41 : decode cX6_middleCases 41 = .ok (.iload_n 0, 1) := by decide +kernel
theorem dX6_middleCases_42 : decode cX6_middleCases 42 = .ok (.i2l, 1) := by decide +kernel
theorem dX6_middleCases_43 : decode cX6_middleCases 43 = .ok (.lmul, 1) := by decide +kernel
theorem dX6_middleCases_44 : decode cX6_middleCases 44 = .ok (.lstore_n 3, 1) := by decide +kernel
theorem dX6_middleCases_45 : decode cX6_middleCases 45 = .ok (.iinc 7 1, 3) := by decide +kernel
theorem dX6_middleCases_48 : decode cX6_middleCases 48 = .ok (.goto (-40), 3) := by decide +kernel
theorem dX6_middleCases_51 : decode cX6_middleCases 51 = .ok (.lload 5, 2) := by decide +kernel
theorem dX6_middleCases_53 : decode cX6_middleCases 53 = .ok (.lload_n 3, 1) := by decide +kernel
theorem dX6_middleCases_54 : decode cX6_middleCases 54 = .ok (.iload_n 1, 1) := by decide +kernel
theorem dX6_middleCases_55 : decode cX6_middleCases 55 = .ok (.i2l, 1) := by decide +kernel
theorem dX6_middleCases_56 : decode cX6_middleCases 56 = .ok (.lmul, 1) := by decide +kernel
theorem dX6_middleCases_57 : decode cX6_middleCases 57 = .ok (.ladd, 1) := by decide +kernel
theorem dX6_middleCases_58 : decode cX6_middleCases 58 = .ok (.lreturn, 1) := by decide +kernel
theorem dX6_bestStop_0 : decode cX6_bestStop 0 = .ok (.iconst 0, 1) := by decide +kernel
theorem dX6_bestStop_1 : decode cX6_bestStop 1 = .ok (.istore_n 2, 1) := by decide +kernel
theorem dX6_bestStop_2 : decode cX6_bestStop 2 = .ok (.ldc2_w 17, 3) := by decide +kernel
theorem dX6_bestStop_5 : decode cX6_bestStop 5 = .ok (.lstore_n 3, 1) := by decide +kernel
theorem dX6_bestStop_6 : decode cX6_bestStop 6 = .ok (.iconst 0, 1) := by decide +kernel
theorem dX6_bestStop_7 : decode cX6_bestStop 7 = .ok (.istore 5, 2) := by decide +kernel
theorem dX6_bestStop_9 : decode cX6_bestStop 9 = .ok (.iload 5, 2) := by decide +kernel
theorem dX6_bestStop_11 : decode cX6_bestStop 11 = .ok (.bipush 6, 2) := by decide +kernel
theorem dX6_bestStop_13 : decode cX6_bestStop 13 = .ok (.if_icmp .gt 40, 3) := by decide +kernel
theorem dX6_bestStop_16 : decode cX6_bestStop 16 = .ok (.iload_n 0, 1) := by decide +kernel
theorem dX6_bestStop_17 : decode cX6_bestStop 17 = .ok (.iload 5, 2) := by decide +kernel
theorem dX6_bestStop_19 : decode cX6_bestStop 19 = .ok (.iload_n 1, 1) := by decide +kernel
theorem dX6_bestStop_20 : decode cX6_bestStop 20 = .ok (.invokestatic 19, 3) := by decide +kernel
theorem dX6_bestStop_23 : decode cX6_bestStop 23 = .ok (.bipush 6, 2) := by decide +kernel
theorem dX6_bestStop_25 : decode cX6_bestStop 25 = .ok (.iload 5, 2) := by decide +kernel
theorem dX6_bestStop_27 : decode cX6_bestStop 27 = .ok (.isub, 1) := by decide +kernel
theorem dX6_bestStop_28 : decode cX6_bestStop 28 = .ok (.invokestatic 25, 3) := by decide +kernel
theorem dX6_bestStop_31 : decode cX6_bestStop 31 = .ok (.lmul, 1) := by decide +kernel
theorem dX6_bestStop_32 : decode cX6_bestStop 32 = .ok (.lstore 6, 2) := by decide +kernel
theorem dX6_bestStop_34 : decode cX6_bestStop 34 = .ok (.lload 6, 2) := by decide +kernel
theorem dX6_bestStop_36 : decode cX6_bestStop 36 = .ok (.lload_n 3, 1) := by decide +kernel
theorem dX6_bestStop_37 : decode cX6_bestStop 37 = .ok (.lcmp, 1) := by decide +kernel
theorem dX6_bestStop_38 : decode cX6_bestStop 38 = .ok (.ifCond .le 9, 3) := by decide +kernel
theorem dX6_bestStop_41 : decode cX6_bestStop 41 = .ok (.lload 6, 2) := by decide +kernel
theorem dX6_bestStop_43 : decode cX6_bestStop 43 = .ok (.lstore_n 3, 1) := by decide +kernel
theorem dX6_bestStop_44 : decode cX6_bestStop 44 = .ok (.iload 5, 2) := by decide +kernel
theorem dX6_bestStop_46 : decode cX6_bestStop 46 = .ok (.istore_n 2, 1) := by decide +kernel
theorem dX6_bestStop_47 : decode cX6_bestStop 47 = .ok (.iinc 5 1, 3) := by decide +kernel
theorem dX6_bestStop_50 : decode cX6_bestStop 50 = .ok (.goto (-41), 3) := by decide +kernel
theorem dX6_bestStop_53 : decode cX6_bestStop 53 = .ok (.iload_n 2, 1) := by decide +kernel
theorem dX6_bestStop_54 : decode cX6_bestStop 54 = .ok (.ireturn, 1) := by decide +kernel
theorem dX6_winCases_0 : decode cX6_winCases 0 = .ok (.lconst 0, 1) := by decide +kernel
theorem dX6_winCases_1 : decode cX6_winCases 1 = .ok (.lstore 5, 2) := by decide +kernel
theorem dX6_winCases_3 : decode cX6_winCases 3 = .ok (.iconst 1, 1) := by decide +kernel
theorem dX6_winCases_4 : decode cX6_winCases 4 = .ok (.istore 7, 2) := by decide +kernel
theorem dX6_winCases_6 : decode cX6_winCases 6 = .ok (.iconst 2, 1) := by decide +kernel
theorem dX6_winCases_7 : decode cX6_winCases 7 = .ok (.iload 7, 2) := by decide +kernel
theorem dX6_winCases_9 : decode cX6_winCases 9 = .ok (.imul, 1) := by decide +kernel
theorem dX6_winCases_10 : decode cX6_winCases 10 = .ok (.iconst 1, 1) := by decide +kernel
theorem dX6_winCases_11 : decode cX6_winCases 11 = .ok (.isub, 1) := by decide +kernel
theorem dX6_winCases_12 : decode cX6_winCases 12 = .ok (.iload_n 2, 1) := by decide +kernel
theorem dX6_winCases_13 : decode cX6_winCases 13 = .ok (.if_icmp .gt 71, 3) := by decide +kernel
theorem dX6_winCases_16 : decode cX6_winCases 16 = .ok (.ldc2_w 9, 3) := by decide +kernel
theorem dX6_winCases_19 : decode cX6_winCases 19 = .ok (.iload_n 0, 1) := by decide +kernel
theorem dX6_winCases_20 : decode cX6_winCases 20 = .ok (.iload 7, 2) := by decide +kernel
theorem dX6_winCases_22 : decode cX6_winCases 22 = .ok (.iconst 1, 1) := by decide +kernel
theorem dX6_winCases_23 : decode cX6_winCases 23 = .ok (.isub, 1) := by decide +kernel
theorem dX6_winCases_24 : decode cX6_winCases 24 = .ok (.iload_n 3, 1) := by decide +kernel
theorem dX6_winCases_25 : decode cX6_winCases 25 = .ok (.iload 4, 2) := by decide +kernel
theorem dX6_winCases_27 : decode cX6_winCases 27 = .ok (.invokestatic 29, 3) := by decide +kernel
theorem dX6_winCases_30 : decode cX6_winCases 30 = .ok (.lmul, 1) := by decide +kernel
theorem dX6_winCases_31 : decode cX6_winCases 31 = .ok (.iload_n 0, 1) := by decide +kernel
theorem dX6_winCases_32 : decode cX6_winCases 32 = .ok (.iload 7, 2) := by decide +kernel
theorem dX6_winCases_34 : decode cX6_winCases 34 = .ok (.iload_n 3, 1) := by decide +kernel
theorem dX6_winCases_35 : decode cX6_winCases 35 = .ok (.iload 4, 2) := by decide +kernel
theorem dX6_winCases_37 : decode cX6_winCases 37 = .ok (.invokestatic 29, 3) := by decide +kernel
theorem dX6_winCases_40 : decode cX6_winCases 40 = .ok (.lsub, 1) := by decide +kernel
theorem dX6_winCases_41 : decode cX6_winCases 41 = .ok (.lstore 8, 2) := by decide +kernel
theorem dX6_winCases_43 : decode cX6_winCases 43 = .ok (.iload_n 1, 1) := by decide +kernel
theorem dX6_winCases_44 : decode cX6_winCases 44 = .ok (.iload 7, 2) := by decide +kernel
theorem dX6_winCases_46 : decode cX6_winCases 46 = .ok (.iconst 1, 1) := by decide +kernel
theorem dX6_winCases_47 : decode cX6_winCases 47 = .ok (.isub, 1) := by decide +kernel
theorem dX6_winCases_48 : decode cX6_winCases 48 = .ok (.iload_n 3, 1) := by decide +kernel
theorem dX6_winCases_49 : decode cX6_winCases 49 = .ok (.iload 4, 2) := by decide +kernel
theorem dX6_winCases_51 : decode cX6_winCases 51 = .ok (.invokestatic 29, 3) := by decide +kernel
theorem dX6_winCases_54 : decode cX6_winCases 54 = .ok (.lstore 10, 2) := by decide +kernel
theorem dX6_winCases_56 : decode cX6_winCases 56 = .ok (.lload 5, 2) := by decide +kernel
theorem dX6_winCases_58 : decode cX6_winCases 58 = .ok (.lload 8, 2) := by decide +kernel
theorem dX6_winCases_60 : decode cX6_winCases 60 = .ok (.lload 10, 2) := by decide +kernel
theorem dX6_winCases_62 : decode cX6_winCases 62 = .ok (.lmul, 1) := by decide +kernel
theorem dX6_winCases_63 : decode cX6_winCases 63 = .ok (.iload_n 2, 1) := by decide +kernel
theorem dX6_winCases_64 : decode cX6_winCases 64 = .ok (.iconst 2, 1) := by decide +kernel
theorem dX6_winCases_65 : decode cX6_winCases 65 = .ok (.iload 7, 2) := by decide +kernel
theorem dX6_winCases_67 : decode cX6_winCases 67 = .ok (.imul, 1) := by decide +kernel
theorem dX6_winCases_68 : decode cX6_winCases 68 = .ok (.isub, 1) := by decide +kernel
theorem dX6_winCases_69 : decode cX6_winCases 69 = .ok (.iconst 1, 1) := by decide +kernel
theorem dX6_winCases_70 : decode cX6_winCases 70 = .ok (.iadd, 1) := by decide +kernel
theorem dX6_winCases_71 : decode cX6_winCases 71 = .ok (.invokestatic 25, 3) := by decide +kernel
theorem dX6_winCases_74 : decode cX6_winCases 74 = .ok (.lmul, 1) := by decide +kernel
theorem dX6_winCases_75 : decode cX6_winCases 75 = .ok (.ladd, 1) := by decide +kernel
theorem dX6_winCases_76 : decode cX6_winCases 76 = .ok (.lstore 5, 2) := by decide +kernel
theorem dX6_winCases_78 : decode cX6_winCases 78 = .ok (.iinc 7 1, 3) := by decide +kernel
theorem dX6_winCases_81 : decode cX6_winCases 81 = .ok (.goto (-75), 3) := by decide +kernel
theorem dX6_winCases_84 : decode cX6_winCases 84 = .ok (.lload 5, 2) := by decide +kernel
theorem dX6_winCases_86 : decode cX6_winCases 86 = .ok (.lreturn, 1) := by decide +kernel
theorem dX6_casesBelow_0 : decode cX6_casesBelow 0 = .ok (.iload_n 0, 1) := by decide +kernel
theorem dX6_casesBelow_1 : decode cX6_casesBelow 1 = .ok (.ifCond .gt 5, 3) := by decide +kernel
theorem dX6_casesBelow_4 : decode cX6_casesBelow 4 = .ok (.lconst 0, 1) := by decide +kernel
theorem dX6_casesBelow_5 : decode cX6_casesBelow 5 = .ok (.lreturn, 1) := by decide +kernel
theorem dX6_casesBelow_6 : decode cX6_casesBelow 6 = .ok (.iload_n 1, 1) := by decide +kernel
theorem dX6_casesBelow_7 : decode cX6_casesBelow 7 = .ok (.ifCond .gt 5, 3) := by decide +kernel
theorem dX6_casesBelow_10 : decode cX6_casesBelow 10 = .ok (.lconst 1, 1) := by decide +kernel
theorem dX6_casesBelow_11 : decode cX6_casesBelow 11 = .ok (.lreturn, 1) := by decide +kernel
theorem dX6_casesBelow_12 : decode cX6_casesBelow 12 = .ok (.iload_n 2, 1) := by decide +kernel
theorem dX6_casesBelow_13 : decode cX6_casesBelow 13 = .ok (.i2l, 1) := by decide +kernel
theorem dX6_casesBelow_14 : decode cX6_casesBelow 14 = .ok (.iload_n 0, 1) := by decide +kernel
theorem dX6_casesBelow_15 : decode cX6_casesBelow 15 = .ok (.bipush 10, 2) := by decide +kernel
theorem dX6_casesBelow_17 : decode cX6_casesBelow 17 = .ok (.isub, 1) := by decide +kernel
theorem dX6_casesBelow_18 : decode cX6_casesBelow 18 = .ok (.iload_n 1, 1) := by decide +kernel
theorem dX6_casesBelow_19 : decode cX6_casesBelow 19 = .ok (.iconst 1, 1) := by decide +kernel
theorem dX6_casesBelow_20 : decode cX6_casesBelow 20 = .ok (.isub, 1) := by decide +kernel
theorem dX6_casesBelow_21 : decode cX6_casesBelow 21 = .ok (.iload_n 2, 1) := by decide +kernel
theorem dX6_casesBelow_22 : decode cX6_casesBelow 22 = .ok (.iload_n 3, 1) := by decide +kernel
theorem dX6_casesBelow_23 : decode cX6_casesBelow 23 = .ok (.invokestatic 29, 3) := by decide +kernel
theorem dX6_casesBelow_26 : decode cX6_casesBelow 26 = .ok (.lmul, 1) := by decide +kernel
theorem dX6_casesBelow_27 : decode cX6_casesBelow 27 = .ok (.iload_n 3, 1) := by decide +kernel
theorem dX6_casesBelow_28 : decode cX6_casesBelow 28 = .ok (.i2l, 1) := by decide +kernel
theorem dX6_casesBelow_29 : decode cX6_casesBelow 29 = .ok (.iload_n 0, 1) := by decide +kernel
theorem dX6_casesBelow_30 : decode cX6_casesBelow 30 = .ok (.iconst 5, 1) := by decide +kernel
theorem dX6_casesBelow_31 : decode cX6_casesBelow 31 = .ok (.isub, 1) := by decide +kernel
theorem dX6_casesBelow_32 : decode cX6_casesBelow 32 = .ok (.iload_n 1, 1) := by decide +kernel
theorem dX6_casesBelow_33 : decode cX6_casesBelow 33 = .ok (.iconst 1, 1) := by decide +kernel
theorem dX6_casesBelow_34 : decode cX6_casesBelow 34 = .ok (.isub, 1) := by decide +kernel
theorem dX6_casesBelow_35 : decode cX6_casesBelow 35 = .ok (.iload_n 2, 1) := by decide +kernel
theorem dX6_casesBelow_36 : decode cX6_casesBelow 36 = .ok (.iload_n 3, 1) := by decide +kernel
theorem dX6_casesBelow_37 : decode cX6_casesBelow 37 = .ok (.invokestatic 29, 3) := by decide +kernel
theorem dX6_casesBelow_40 : decode cX6_casesBelow 40 = .ok (.lmul, 1) := by decide +kernel
theorem dX6_casesBelow_41 : decode cX6_casesBelow 41 = .ok (.ladd, 1) := by decide +kernel
theorem dX6_casesBelow_42 : decode cX6_casesBelow 42 = .ok (.bipush 16, 2) := by decide +kernel
theorem dX6_casesBelow_44 : decode cX6_casesBelow 44 = .ok (.iload_n 2, 1) := by decide +kernel
theorem dX6_casesBelow_45 : decode cX6_casesBelow 45 = .ok (.isub, 1) := by decide +kernel
theorem dX6_casesBelow_46 : decode cX6_casesBelow 46 = .ok (.iload_n 3, 1) := by decide +kernel
theorem dX6_casesBelow_47 : decode cX6_casesBelow 47 = .ok (.isub, 1) := by decide +kernel
theorem dX6_casesBelow_48 : decode cX6_casesBelow 48 = .ok (.i2l, 1) := by decide +kernel
theorem dX6_casesBelow_49 : decode cX6_casesBelow 49 = .ok (.iload_n 0, 1) := by decide +kernel
theorem dX6_casesBelow_50 : decode cX6_casesBelow 50 = .ok (.iload_n 1, 1) := by decide +kernel
theorem dX6_casesBelow_51 : decode cX6_casesBelow 51 = .ok (.iconst 1, 1) := by decide +kernel
theorem dX6_casesBelow_52 : decode cX6_casesBelow 52 = .ok (.isub, 1) := by decide +kernel
theorem dX6_casesBelow_53 : decode cX6_casesBelow 53 = .ok (.iload_n 2, 1) := by decide +kernel
theorem dX6_casesBelow_54 : decode cX6_casesBelow 54 = .ok (.iload_n 3, 1) := by decide +kernel
theorem dX6_casesBelow_55 : decode cX6_casesBelow 55 = .ok (.invokestatic 29, 3) := by decide +kernel
theorem dX6_casesBelow_58 : decode cX6_casesBelow 58 = .ok (.lmul, 1) := by decide +kernel
theorem dX6_casesBelow_59 : decode cX6_casesBelow 59 = .ok (.ladd, 1) := by decide +kernel
theorem dX6_casesBelow_60 : decode cX6_casesBelow 60 = .ok (.lreturn, 1) := by decide +kernel
theorem dX6_chooseAhead_0 : decode cX6_chooseAhead 0 = .ok (.iconst 0, 1) := by decide +kernel
theorem dX6_chooseAhead_1 : decode cX6_chooseAhead 1 = .ok (.istore 5, 2) := by decide +kernel
theorem dX6_chooseAhead_3 : decode cX6_chooseAhead 3 = .ok (.aload_n 0, 1) := by decide +kernel
theorem dX6_chooseAhead_4 : decode cX6_chooseAhead 4 = .ok (.lconst 0, 1) := by decide +kernel
theorem dX6_chooseAhead_5 : decode cX6_chooseAhead 5 = .ok (.invokestatic 35, 3) := by decide +kernel
theorem dX6_chooseAhead_8 : decode cX6_chooseAhead 8 = .ok (.iload_n 1, 1) := by decide +kernel
theorem dX6_chooseAhead_9 : decode cX6_chooseAhead 9 = .ok (.aload_n 0, 1) := by decide +kernel
theorem dX6_chooseAhead_10 : decode cX6_chooseAhead 10 = .ok (.arraylength, 1) := by decide +kernel
theorem dX6_chooseAhead_11 : decode cX6_chooseAhead 11 = .ok (.if_icmp .lt 5, 3) := by decide +kernel
theorem dX6_chooseAhead_14 : decode cX6_chooseAhead 14 = .ok (.iconst 0, 1) := by decide +kernel
theorem dX6_chooseAhead_15 : decode cX6_chooseAhead 15 = .ok (.ireturn, 1) := by decide +kernel
theorem dX6_chooseAhead_16 : decode cX6_chooseAhead 16 = .ok (.aload_n 0, 1) := by decide +kernel
theorem dX6_chooseAhead_17 : decode cX6_chooseAhead 17 = .ok (.iconst 0, 1) := by decide +kernel
theorem dX6_chooseAhead_18 : decode cX6_chooseAhead 18 = .ok (.lconst 1, 1) := by decide +kernel
theorem dX6_chooseAhead_19 : decode cX6_chooseAhead 19 = .ok (.lastore, 1) := by decide +kernel
theorem dX6_chooseAhead_20 : decode cX6_chooseAhead 20 = .ok (.iconst 1, 1) := by decide +kernel
theorem dX6_chooseAhead_21 : decode cX6_chooseAhead 21 = .ok (.istore 6, 2) := by decide +kernel
theorem dX6_chooseAhead_23 : decode cX6_chooseAhead 23 = .ok (.iload 6, 2) := by decide +kernel
theorem dX6_chooseAhead_25 : decode cX6_chooseAhead 25 = .ok (.iload_n 2, 1) := by decide +kernel
theorem dX6_chooseAhead_26 : decode cX6_chooseAhead 26 = .ok (.if_icmp .gt 119, 3) := by decide +kernel
theorem dX6_chooseAhead_29 : decode cX6_chooseAhead 29 = .ok (.iload_n 1, 1) := by decide +kernel
theorem dX6_chooseAhead_30 : decode cX6_chooseAhead 30 = .ok (.istore 7, 2) := by decide +kernel
theorem dX6_chooseAhead_32 : decode cX6_chooseAhead 32 = .ok (.iload 7, 2) := by decide +kernel
theorem dX6_chooseAhead_34 : decode cX6_chooseAhead 34 = .ok (.iconst 1, 1) := by decide +kernel
theorem dX6_chooseAhead_35 : decode cX6_chooseAhead 35 = .ok (.if_icmp .lt 96, 3) := by decide +kernel
theorem dX6_chooseAhead_38 : decode cX6_chooseAhead 38 = .ok (.iload_n 3, 1) := by decide +kernel
theorem dX6_chooseAhead_39 : decode cX6_chooseAhead 39 = .ok (.i2l, 1) := by decide +kernel
theorem dX6_chooseAhead_40 : decode cX6_chooseAhead 40 = .ok (.aload_n 0, 1) := by decide +kernel
theorem dX6_chooseAhead_41 : decode cX6_chooseAhead 41 = .ok (.iload 7, 2) := by decide +kernel
theorem dX6_chooseAhead_43 : decode cX6_chooseAhead 43 = .ok (.iconst 1, 1) := by decide +kernel
theorem dX6_chooseAhead_44 : decode cX6_chooseAhead 44 = .ok (.isub, 1) := by decide +kernel
theorem dX6_chooseAhead_45 : decode cX6_chooseAhead 45 = .ok (.laload, 1) := by decide +kernel
theorem dX6_chooseAhead_46 : decode cX6_chooseAhead 46 = .ok (.lmul, 1) := by decide +kernel
theorem dX6_chooseAhead_47 : decode cX6_chooseAhead 47 = .ok (.bipush 16, 2) := by decide +kernel
theorem dX6_chooseAhead_49 : decode cX6_chooseAhead 49 = .ok (.iload_n 3, 1) := by decide +kernel
theorem dX6_chooseAhead_50 : decode cX6_chooseAhead 50 = .ok (.isub, 1) := by decide +kernel
theorem dX6_chooseAhead_51 : decode cX6_chooseAhead 51 = .ok (.i2l, 1) := by decide +kernel
theorem dX6_chooseAhead_52 : decode cX6_chooseAhead 52 = .ok (.aload_n 0, 1) := by decide +kernel
theorem dX6_chooseAhead_53 : decode cX6_chooseAhead 53 = .ok (.iload 7, 2) := by decide +kernel
theorem dX6_chooseAhead_55 : decode cX6_chooseAhead 55 = .ok (.laload, 1) := by decide +kernel
theorem dX6_chooseAhead_56 : decode cX6_chooseAhead 56 = .ok (.lmul, 1) := by decide +kernel
theorem dX6_chooseAhead_57 : decode cX6_chooseAhead 57 = .ok (.ladd, 1) := by decide +kernel
theorem dX6_chooseAhead_58 : decode cX6_chooseAhead 58 = .ok (.lstore 8, 2) := by decide +kernel
theorem dX6_chooseAhead_60 : decode cX6_chooseAhead 60 = .ok (.iload 4, 2) := by decide +kernel
theorem dX6_chooseAhead_62 : decode cX6_chooseAhead 62 = .ok (.i2l, 1) := by decide +kernel
theorem dX6_chooseAhead_63 : decode cX6_chooseAhead 63 = .ok (.aload_n 0, 1) := by decide +kernel
theorem dX6_chooseAhead_64 : decode cX6_chooseAhead 64 = .ok (.iconst 0, 1) := by decide +kernel
theorem dX6_chooseAhead_65 : decode cX6_chooseAhead 65 = .ok (.iload 7, 2) := by decide +kernel
theorem dX6_chooseAhead_67 : decode cX6_chooseAhead 67 = .ok (.iconst 2, 1) := by decide +kernel
theorem dX6_chooseAhead_68 : decode cX6_chooseAhead 68 = .ok (.isub, 1) := by decide +kernel
theorem dX6_chooseAhead_69 : decode cX6_chooseAhead 69 = .ok (.invokestatic 11, 3) := by decide +kernel
theorem dX6_chooseAhead_72 : decode cX6_chooseAhead 72 = .ok (.laload, 1) := by decide +kernel
theorem dX6_chooseAhead_73 : decode cX6_chooseAhead 73 = .ok (.lmul, 1) := by decide +kernel
theorem dX6_chooseAhead_74 : decode cX6_chooseAhead 74 = .ok (.bipush 16, 2) := by decide +kernel
theorem dX6_chooseAhead_76 : decode cX6_chooseAhead 76 = .ok (.iload 4, 2) := by decide +kernel
theorem dX6_chooseAhead_78 : decode cX6_chooseAhead 78 = .ok (.isub, 1) := by decide +kernel
theorem dX6_chooseAhead_79 : decode cX6_chooseAhead 79 = .ok (.i2l, 1) := by decide +kernel
theorem dX6_chooseAhead_80 : decode cX6_chooseAhead 80 = .ok (.aload_n 0, 1) := by decide +kernel
theorem dX6_chooseAhead_81 : decode cX6_chooseAhead 81 = .ok (.iload 7, 2) := by decide +kernel
theorem dX6_chooseAhead_83 : decode cX6_chooseAhead 83 = .ok (.laload, 1) := by decide +kernel
theorem dX6_chooseAhead_84 : decode cX6_chooseAhead 84 = .ok (.lmul, 1) := by decide +kernel
theorem dX6_chooseAhead_85 : decode cX6_chooseAhead 85 = .ok (.ladd, 1) := by decide +kernel
theorem dX6_chooseAhead_86 : decode cX6_chooseAhead 86 = .ok (.lstore 10, 2) := by decide +kernel
theorem dX6_chooseAhead_88 : decode cX6_chooseAhead 88 = .ok (.iload 7, 2) := by decide +kernel
theorem dX6_chooseAhead_90 : decode cX6_chooseAhead 90 = .ok (.iload_n 1, 1) := by decide +kernel
theorem dX6_chooseAhead_91 : decode cX6_chooseAhead 91 = .ok (.if_icmp .ne 19, 3) := by decide +kernel
theorem dX6_chooseAhead_94 : decode cX6_chooseAhead 94 = .ok (.lload 10, 2) := by decide +kernel
theorem dX6_chooseAhead_96 : decode cX6_chooseAhead 96 = .ok (.lload 8, 2) := by decide +kernel
theorem dX6_chooseAhead_98 : decode cX6_chooseAhead 98 = .ok (.lcmp, 1) := by decide +kernel
theorem dX6_chooseAhead_99 : decode cX6_chooseAhead 99 = .ok (.ifCond .le 7, 3) := by decide +kernel
theorem dX6_chooseAhead_102 : decode cX6_chooseAhead 102 = .ok (.iconst 1, 1) := by decide +kernel
theorem dX6_chooseAhead_103 : decode cX6_chooseAhead 103 = .ok (.goto 9, 3) := by decide +kernel
theorem dX6_chooseAhead_106 : decode cX6_chooseAhead 106 = .ok (.iconst 0, 1) := by decide +kernel
theorem dX6_chooseAhead_107 : decode cX6_chooseAhead 107 = .ok (.goto 5, 3) := by decide +kernel
theorem dX6_chooseAhead_110 : decode cX6_chooseAhead 110 = .ok (.iload 5, 2) := by decide +kernel
theorem dX6_chooseAhead_112 : decode cX6_chooseAhead 112 = .ok (.istore 5, 2) := by decide +kernel
theorem dX6_chooseAhead_114 : decode cX6_chooseAhead 114 = .ok (.aload_n 0, 1) := by decide +kernel
theorem dX6_chooseAhead_115 : decode cX6_chooseAhead 115 = .ok (.iload 7, 2) := by decide +kernel
theorem dX6_chooseAhead_117 : decode cX6_chooseAhead 117 = .ok (.lload 8, 2) := by decide +kernel
theorem dX6_chooseAhead_119 : decode cX6_chooseAhead 119 = .ok (.lload 10, 2) := by decide +kernel
theorem dX6_chooseAhead_121 : decode cX6_chooseAhead 121 = .ok (.invokestatic 41, 3) := by decide +kernel
theorem dX6_chooseAhead_124 : decode cX6_chooseAhead 124 = .ok (.lastore, 1) := by decide +kernel
theorem dX6_chooseAhead_125 : decode cX6_chooseAhead 125 = .ok (.iinc 7 (-1), 3) := by decide +kernel
theorem dX6_chooseAhead_128 : decode cX6_chooseAhead 128 = .ok (.goto (-96), 3) := by decide +kernel
theorem dX6_chooseAhead_131 : decode cX6_chooseAhead 131 = .ok (.aload_n 0, 1) := by decide +kernel
theorem dX6_chooseAhead_132 : decode cX6_chooseAhead 132 = .ok (.iconst 0, 1) := by decide +kernel
theorem dX6_chooseAhead_133 : decode cX6_chooseAhead 133 = .ok (.iload 6, 2) := by decide +kernel
theorem dX6_chooseAhead_135 : decode cX6_chooseAhead 135 = .ok (.invokestatic 25, 3) := by decide +kernel
theorem dX6_chooseAhead_138 : decode cX6_chooseAhead 138 = .ok (.lastore, 1) := by decide +kernel
theorem dX6_chooseAhead_139 : decode cX6_chooseAhead 139 = .ok (.iinc 6 1, 3) := by decide +kernel
theorem dX6_chooseAhead_142 : decode cX6_chooseAhead 142 = .ok (.goto (-119), 3) := by decide +kernel
theorem dX6_chooseAhead_145 : decode cX6_chooseAhead 145 = .ok (.iload 5, 2) := by decide +kernel
theorem dX6_chooseAhead_147 : decode cX6_chooseAhead 147 = .ok (.ireturn, 1) := by decide +kernel
theorem dX6_choices_0 : decode cX6_choices 0 = .ok (.iload_n 1, 1) := by decide +kernel
theorem dX6_choices_1 : decode cX6_choices 1 = .ok (.ifCond .lt 8, 3) := by decide +kernel
theorem dX6_choices_4 : decode cX6_choices 4 = .ok (.iload_n 1, 1) := by decide +kernel
theorem dX6_choices_5 : decode cX6_choices 5 = .ok (.iload_n 0, 1) := by decide +kernel
theorem dX6_choices_6 : decode cX6_choices 6 = .ok (.if_icmp .le 5, 3) := by decide +kernel
theorem dX6_choices_9 : decode cX6_choices 9 = .ok (.lconst 0, 1) := by decide +kernel
theorem dX6_choices_10 : decode cX6_choices 10 = .ok (.lreturn, 1) := by decide +kernel
theorem dX6_choices_11 : decode cX6_choices 11 = .ok (.lconst 1, 1) := by decide +kernel
theorem dX6_choices_12 : decode cX6_choices 12 = .ok (.lstore_n 2, 1) := by decide +kernel
theorem dX6_choices_13 : decode cX6_choices 13 = .ok (.iconst 1, 1) := by decide +kernel
theorem dX6_choices_14 : decode cX6_choices 14 = .ok (.istore 4, 2) := by decide +kernel
theorem dX6_choices_16 : decode cX6_choices 16 = .ok (.iload 4, 2) := by decide +kernel
theorem dX6_choices_18 : decode cX6_choices 18 = .ok (.iload_n 1, 1) := by decide +kernel
theorem dX6_choices_19 : decode cX6_choices 19 = .ok (.if_icmp .gt 23, 3) := by decide +kernel
theorem dX6_choices_22 : decode cX6_choices 22 = .ok (.lload_n 2, 1) := by decide +kernel
theorem dX6_choices_23 : decode cX6_choices 23 = .ok (.iload_n 0, 1) := by decide +kernel
theorem dX6_choices_24 : decode cX6_choices 24 = .ok (.iload_n 1, 1) := by decide +kernel
theorem dX6_choices_25 : decode cX6_choices 25 = .ok (.isub, 1) := by decide +kernel
theorem dX6_choices_26 : decode cX6_choices 26 = .ok (.iload 4, 2) := by decide +kernel
theorem dX6_choices_28 : decode cX6_choices 28 = .ok (.iadd, 1) := by decide +kernel
theorem dX6_choices_29 : decode cX6_choices 29 = .ok (.i2l, 1) := by decide +kernel
theorem dX6_choices_30 : decode cX6_choices 30 = .ok (.lmul, 1) := by decide +kernel
theorem dX6_choices_31 : decode cX6_choices 31 = .ok (.iload 4, 2) := by decide +kernel
theorem dX6_choices_33 : decode cX6_choices 33 = .ok (.i2l, 1) := by decide +kernel
theorem dX6_choices_34 : decode cX6_choices 34 = .ok (.ldiv, 1) := by decide +kernel
theorem dX6_choices_35 : decode cX6_choices 35 = .ok (.lstore_n 2, 1) := by decide +kernel
theorem dX6_choices_36 : decode cX6_choices 36 = .ok (.iinc 4 1, 3) := by decide +kernel
theorem dX6_choices_39 : decode cX6_choices 39 = .ok (.goto (-23), 3) := by decide +kernel
theorem dX6_choices_42 : decode cX6_choices 42 = .ok (.lload_n 2, 1) := by decide +kernel
theorem dX6_choices_43 : decode cX6_choices 43 = .ok (.lreturn, 1) := by decide +kernel
theorem dX6_dealsWithAtLeast_0 : decode cX6_dealsWithAtLeast 0 = .ok (.lconst 0, 1) := by decide +kernel
theorem dX6_dealsWithAtLeast_1 : decode cX6_dealsWithAtLeast 1 = .ok (.lstore 4, 2) := by decide +kernel
theorem dX6_dealsWithAtLeast_3 : decode cX6_dealsWithAtLeast 3 = .ok (.iload_n 1, 1) := by decide +kernel
theorem dX6_dealsWithAtLeast_4 : decode cX6_dealsWithAtLeast 4 = .ok (.istore 6, 2) := by decide +kernel
theorem dX6_dealsWithAtLeast_6 : decode cX6_dealsWithAtLeast 6 = .ok (.iload 6, 2) := by decide +kernel
theorem dX6_dealsWithAtLeast_8 : decode cX6_dealsWithAtLeast 8 = .ok (.iload_n 0, 1) := by decide +kernel
theorem dX6_dealsWithAtLeast_9 : decode cX6_dealsWithAtLeast 9 = .ok (.if_icmp .gt 31, 3) := by decide +kernel
theorem dX6_dealsWithAtLeast_12 : decode cX6_dealsWithAtLeast 12 = .ok (.lload 4, 2) := by decide +kernel
theorem dX6_dealsWithAtLeast_14 : decode cX6_dealsWithAtLeast 14 = .ok (.iload_n 0, 1) := by decide +kernel
theorem dX6_dealsWithAtLeast_15 : decode cX6_dealsWithAtLeast 15 = .ok (.iload 6, 2) := by decide +kernel
theorem dX6_dealsWithAtLeast_17 : decode cX6_dealsWithAtLeast 17 = .ok (.invokestatic 44, 3) := by decide +kernel
theorem dX6_dealsWithAtLeast_20 : decode cX6_dealsWithAtLeast 20 = .ok (.iload_n 2, 1) := by decide +kernel
theorem dX6_dealsWithAtLeast_21 : decode cX6_dealsWithAtLeast 21 = .ok (.iload_n 1, 1) := by decide +kernel
theorem dX6_dealsWithAtLeast_22 : decode cX6_dealsWithAtLeast 22 = .ok (.iload_n 3, 1) := by decide +kernel
theorem dX6_dealsWithAtLeast_23 : decode cX6_dealsWithAtLeast 23 = .ok (.iadd, 1) := by decide +kernel
theorem dX6_dealsWithAtLeast_24 : decode cX6_dealsWithAtLeast 24 = .ok (.iload 6, 2) := by decide +kernel
theorem dX6_dealsWithAtLeast_26 : decode cX6_dealsWithAtLeast 26 = .ok (.isub, 1) := by decide +kernel
theorem dX6_dealsWithAtLeast_27 : decode cX6_dealsWithAtLeast 27 = .ok (.invokestatic 44, 3) := by decide +kernel
theorem dX6_dealsWithAtLeast_30 : decode cX6_dealsWithAtLeast 30 = .ok (.lmul, 1) := by decide +kernel
theorem dX6_dealsWithAtLeast_31 : decode cX6_dealsWithAtLeast 31 = .ok (.ladd, 1) := by decide +kernel
theorem dX6_dealsWithAtLeast_32 : decode cX6_dealsWithAtLeast 32 = .ok (.lstore 4, 2) := by decide +kernel
theorem dX6_dealsWithAtLeast_34 : decode cX6_dealsWithAtLeast 34 = .ok (.iinc 6 1, 3) := by decide +kernel
theorem dX6_dealsWithAtLeast_37 : decode cX6_dealsWithAtLeast 37 = .ok (.goto (-31), 3) := by decide +kernel
theorem dX6_dealsWithAtLeast_40 : decode cX6_dealsWithAtLeast 40 = .ok (.lload 4, 2) := by decide +kernel
theorem dX6_dealsWithAtLeast_42 : decode cX6_dealsWithAtLeast 42 = .ok (.lreturn, 1) := by decide +kernel
theorem dX6_casesLevel_0 : decode cX6_casesLevel 0 = .ok (.iload_n 1, 1) := by decide +kernel
theorem dX6_casesLevel_1 : decode cX6_casesLevel 1 = .ok (.iload_n 3, 1) := by decide +kernel
theorem dX6_casesLevel_2 : decode cX6_casesLevel 2 = .ok (.isub, 1) := by decide +kernel
theorem dX6_casesLevel_3 : decode cX6_casesLevel 3 = .ok (.iload_n 0, 1) := by decide +kernel
theorem dX6_casesLevel_4 : decode cX6_casesLevel 4 = .ok (.if_icmp .lt 10, 3) := by decide +kernel
theorem dX6_casesLevel_7 : decode cX6_casesLevel 7 = .ok (.iload_n 2, 1) := by decide +kernel
theorem dX6_casesLevel_8 : decode cX6_casesLevel 8 = .ok (.iload 4, 2) := by decide +kernel
theorem dX6_casesLevel_10 : decode cX6_casesLevel 10 = .ok (.imul, 1) := by decide +kernel
theorem dX6_casesLevel_11 : decode cX6_casesLevel 11 = .ok (.goto 4, 3) := by decide +kernel
theorem dX6_casesLevel_14 : decode cX6_casesLevel 14 = .ok (.iconst 0, 1) := by decide +kernel
theorem dX6_casesLevel_15 : decode cX6_casesLevel 15 = .ok (.istore 5, 2) := by decide +kernel
theorem dX6_casesLevel_17 : decode cX6_casesLevel 17 = .ok (.iload 5, 2) := by decide +kernel
theorem dX6_casesLevel_19 : decode cX6_casesLevel 19 = .ok (.iload_n 1, 1) := by decide +kernel
theorem dX6_casesLevel_20 : decode cX6_casesLevel 20 = .ok (.iload_n 0, 1) := by decide +kernel
theorem dX6_casesLevel_21 : decode cX6_casesLevel 21 = .ok (.if_icmp .lt 13, 3) := by decide +kernel
theorem dX6_casesLevel_24 : decode cX6_casesLevel 24 = .ok (.iload_n 2, 1) := by decide +kernel
theorem dX6_casesLevel_25 : decode cX6_casesLevel 25 = .ok (.bipush 16, 2) := by decide +kernel
theorem dX6_casesLevel_27 : decode cX6_casesLevel 27 = .ok (.iload 4, 2) := by decide +kernel
theorem dX6_casesLevel_29 : decode cX6_casesLevel 29 = .ok (.isub, 1) := by decide +kernel
theorem dX6_casesLevel_30 : decode cX6_casesLevel 30 = .ok (.imul, 1) := by decide +kernel
theorem dX6_casesLevel_31 : decode cX6_casesLevel 31 = .ok (.goto 4, 3) := by decide +kernel
theorem dX6_casesLevel_34 : decode cX6_casesLevel 34 = .ok (.iconst 0, 1) := by decide +kernel
theorem dX6_casesLevel_35 : decode cX6_casesLevel 35 = .ok (.iadd, 1) := by decide +kernel
theorem dX6_casesLevel_36 : decode cX6_casesLevel 36 = .ok (.istore 5, 2) := by decide +kernel
theorem dX6_casesLevel_38 : decode cX6_casesLevel 38 = .ok (.iload 5, 2) := by decide +kernel
theorem dX6_casesLevel_40 : decode cX6_casesLevel 40 = .ok (.iload_n 0, 1) := by decide +kernel
theorem dX6_casesLevel_41 : decode cX6_casesLevel 41 = .ok (.ifCond .gt 16, 3) := by decide +kernel
theorem dX6_casesLevel_44 : decode cX6_casesLevel 44 = .ok (.bipush 16, 2) := by decide +kernel
theorem dX6_casesLevel_46 : decode cX6_casesLevel 46 = .ok (.iload_n 2, 1) := by decide +kernel
theorem dX6_casesLevel_47 : decode cX6_casesLevel 47 = .ok (.isub, 1) := by decide +kernel
theorem dX6_casesLevel_48 : decode cX6_casesLevel 48 = .ok (.bipush 16, 2) := by decide +kernel
theorem dX6_casesLevel_50 : decode cX6_casesLevel 50 = .ok (.iload 4, 2) := by decide +kernel
theorem dX6_casesLevel_52 : decode cX6_casesLevel 52 = .ok (.isub, 1) := by decide +kernel
theorem dX6_casesLevel_53 : decode cX6_casesLevel 53 = .ok (.imul, 1) := by decide +kernel
theorem dX6_casesLevel_54 : decode cX6_casesLevel 54 = .ok (.goto 4, 3) := by decide +kernel
theorem dX6_casesLevel_57 : decode cX6_casesLevel 57 = .ok (.iconst 0, 1) := by decide +kernel
theorem dX6_casesLevel_58 : decode cX6_casesLevel 58 = .ok (.iadd, 1) := by decide +kernel
theorem dX6_casesLevel_59 : decode cX6_casesLevel 59 = .ok (.ireturn, 1) := by decide +kernel
theorem dX6_rests_0 : decode cX6_rests 0 = .ok (.iload_n 0, 1) := by decide +kernel
theorem dX6_rests_1 : decode cX6_rests 1 = .ok (.iload_n 1, 1) := by decide +kernel
theorem dX6_rests_2 : decode cX6_rests 2 = .ok (.if_icmp .lt 12, 3) := by decide +kernel
theorem dX6_rests_5 : decode cX6_rests 5 = .ok (.iload_n 0, 1) := by decide +kernel
theorem dX6_rests_6 : decode cX6_rests 6 = .ok (.iload_n 2, 1) := by decide +kernel
theorem dX6_rests_7 : decode cX6_rests 7 = .ok (.if_icmp .gt 7, 3) := by decide +kernel
theorem dX6_rests_10 : decode cX6_rests 10 = .ok (.iconst 1, 1) := by decide +kernel
theorem dX6_rests_11 : decode cX6_rests 11 = .ok (.goto 4, 3) := by decide +kernel
theorem dX6_rests_14 : decode cX6_rests 14 = .ok (.iconst 0, 1) := by decide +kernel
theorem dX6_rests_15 : decode cX6_rests 15 = .ok (.ireturn, 1) := by decide +kernel
theorem dX7_init_0 : decode cX7_init 0 = .ok (.aload_n 0, 1) := by decide +kernel
theorem dX7_init_1 : decode cX7_init 1 = .ok (.invokespecial 3, 3) := by decide +kernel
theorem dX7_init_4 : decode cX7_init 4 = .ok (.aload_n 0, 1) := by decide +kernel
theorem dX7_init_5 : decode cX7_init 5 = .ok (.iconst 4, 1) := by decide +kernel
theorem dX7_init_6 : decode cX7_init 6 = .ok (.newarray .int, 2) := by decide +kernel
theorem dX7_init_8 : decode cX7_init 8 = .ok (.putfield 11, 3) := by decide +kernel
theorem dX7_init_11 : decode cX7_init 11 = .ok (.aload_n 0, 1) := by decide +kernel
theorem dX7_init_12 : decode cX7_init 12 = .ok (.bipush 31, 2) := by decide +kernel
theorem dX7_init_14 : decode cX7_init 14 = .ok (.newarray .int, 2) := by decide +kernel
theorem dX7_init_16 : decode cX7_init 16 = .ok (.putfield 17, 3) := by decide +kernel
theorem dX7_init_19 : decode cX7_init 19 = .ok (.aload_n 0, 1) := by decide +kernel
theorem dX7_init_20 : decode cX7_init 20 = .ok (.bipush 31, 2) := by decide +kernel
theorem dX7_init_22 : decode cX7_init 22 = .ok (.newarray .int, 2) := by decide +kernel
theorem dX7_init_24 : decode cX7_init 24 = .ok (.putfield 20, 3) := by decide +kernel
theorem dX7_init_27 : decode cX7_init 27 = .ok (.return_, 1) := by decide +kernel
theorem dX7_gather_0 : decode cX7_gather 0 = .ok (.aload_n 0, 1) := by decide +kernel
theorem dX7_gather_1 : decode cX7_gather 1 = .ok (.getfield 11, 3) := by decide +kernel
theorem dX7_gather_4 : decode cX7_gather 4 = .ok (.iconst 0, 1) := by decide +kernel
theorem dX7_gather_5 : decode cX7_gather 5 = .ok (.invokestatic 23, 3) := by decide +kernel
theorem dX7_gather_8 : decode cX7_gather 8 = .ok (.aload_n 0, 1) := by decide +kernel
theorem dX7_gather_9 : decode cX7_gather 9 = .ok (.getfield 17, 3) := by decide +kernel
theorem dX7_gather_12 : decode cX7_gather 12 = .ok (.iconst 0, 1) := by decide +kernel
theorem dX7_gather_13 : decode cX7_gather 13 = .ok (.invokestatic 23, 3) := by decide +kernel
theorem dX7_gather_16 : decode cX7_gather 16 = .ok (.aload_n 0, 1) := by decide +kernel
theorem dX7_gather_17 : decode cX7_gather 17 = .ok (.getfield 20, 3) := by decide +kernel
theorem dX7_gather_20 : decode cX7_gather 20 = .ok (.iconst 0, 1) := by decide +kernel
theorem dX7_gather_21 : decode cX7_gather 21 = .ok (.invokestatic 23, 3) := by decide +kernel
theorem dX7_gather_24 : decode cX7_gather 24 = .ok (.iconst (-1), 1) := by decide +kernel
theorem dX7_gather_25 : decode cX7_gather 25 = .ok (.istore 5, 2) := by decide +kernel
theorem dX7_gather_27 : decode cX7_gather 27 = .ok (.iload 5, 2) := by decide +kernel
theorem dX7_gather_29 : decode cX7_gather 29 = .ok (.iconst 1, 1) := by decide +kernel
theorem dX7_gather_30 : decode cX7_gather 30 = .ok (.if_icmp .gt 80, 3) := by decide +kernel
theorem dX7_gather_33 : decode cX7_gather 33 = .ok (.iconst (-1), 1) := by decide +kernel
theorem dX7_gather_34 : decode cX7_gather 34 = .ok (.istore 6, 2) := by decide +kernel
theorem dX7_gather_36 : decode cX7_gather 36 = .ok (.iload 6, 2) := by decide +kernel
theorem dX7_gather_38 : decode cX7_gather 38 = .ok (.iconst 1, 1) := by decide +kernel
theorem dX7_gather_39 : decode cX7_gather 39 = .ok (.if_icmp .gt 65, 3) := by decide +kernel
theorem dX7_gather_42 : decode cX7_gather 42 = .ok (.iconst 2, 1) := by decide +kernel
theorem dX7_gather_43 : decode cX7_gather 43 = .ok (.iload 5, 2) := by decide +kernel
theorem dX7_gather_45 : decode cX7_gather 45 = .ok (.invokestatic 29, 3) := by decide +kernel
theorem dX7_gather_48 : decode cX7_gather 48 = .ok (.isub, 1) := by decide +kernel
theorem dX7_gather_49 : decode cX7_gather 49 = .ok (.iconst 2, 1) := by decide +kernel
theorem dX7_gather_50 : decode cX7_gather 50 = .ok (.iload 6, 2) := by decide +kernel
theorem dX7_gather_52 : decode cX7_gather 52 = .ok (.invokestatic 29, 3) := by decide +kernel
theorem dX7_gather_55 : decode cX7_gather 55 = .ok (.isub, 1) := by decide +kernel
theorem dX7_gather_56 : decode cX7_gather 56 = .ok (.imul, 1) := by decide +kernel
theorem dX7_gather_57 : decode cX7_gather 57 = .ok (.istore 7, 2) := by decide +kernel
theorem dX7_gather_59 : decode cX7_gather 59 = .ok (.iload_n 1, 1) := by decide +kernel
theorem dX7_gather_60 : decode cX7_gather 60 = .ok (.iload_n 2, 1) := by decide +kernel
theorem dX7_gather_61 : decode cX7_gather 61 = .ok (.iload_n 3, 1) := by decide +kernel
theorem dX7_gather_62 : decode cX7_gather 62 = .ok (.iload 5, 2) := by decide +kernel
theorem dX7_gather_64 : decode cX7_gather 64 = .ok (.iadd, 1) := by decide +kernel
theorem dX7_gather_65 : decode cX7_gather 65 = .ok (.iload 4, 2) := by decide +kernel
theorem dX7_gather_67 : decode cX7_gather 67 = .ok (.iload 6, 2) := by decide +kernel
theorem dX7_gather_69 : decode cX7_gather 69 = .ok (.iadd, 1) := by decide +kernel
theorem dX7_gather_70 : decode cX7_gather 70 = .ok (.invokestatic 35, 3) := by decide +kernel
theorem dX7_gather_73 : decode cX7_gather 73 = .ok (.istore 8, 2) := by decide +kernel
theorem dX7_gather_75 : decode cX7_gather 75 = .ok (.aload_n 0, 1) := by decide +kernel
theorem dX7_gather_76 : decode cX7_gather 76 = .ok (.iload 8, 2) := by decide +kernel
theorem dX7_gather_78 : decode cX7_gather 78 = .ok (.iload 8, 2) := by decide +kernel
theorem dX7_gather_80 : decode cX7_gather 80 = .ok (.iload_n 1, 1) := by decide +kernel
theorem dX7_gather_81 : decode cX7_gather 81 = .ok (.iload_n 3, 1) := by decide +kernel
theorem dX7_gather_82 : decode cX7_gather 82 = .ok (.iload 5, 2) := by decide +kernel
theorem dX7_gather_84 : decode cX7_gather 84 = .ok (.iadd, 1) := by decide +kernel
theorem dX7_gather_85 : decode cX7_gather 85 = .ok (.iload 4, 2) := by decide +kernel
theorem dX7_gather_87 : decode cX7_gather 87 = .ok (.iload 6, 2) := by decide +kernel
theorem dX7_gather_89 : decode cX7_gather 89 = .ok (.iadd, 1) := by decide +kernel
theorem dX7_gather_90 : decode cX7_gather 90 = .ok (.invokestatic 39, 3) := by decide +kernel
theorem dX7_gather_93 : decode cX7_gather 93 = .ok (.iload 7, 2) := by decide +kernel
theorem dX7_gather_95 : decode cX7_gather 95 = .ok (.invokevirtual 42, 3) := by decide +kernel
theorem dX7_gather_98 : decode cX7_gather 98 = .ok (.iinc 6 1, 3) := by decide +kernel
theorem dX7_gather_101 : decode cX7_gather 101 = .ok (.goto (-65), 3) := by decide +kernel
theorem dX7_gather_104 : decode cX7_gather 104 = .ok (.iinc 5 1, 3) := by decide +kernel
theorem dX7_gather_107 : decode cX7_gather 107 = .ok (.goto (-80), 3) := by decide +kernel
theorem dX7_gather_110 : decode cX7_gather 110 = .ok (.return_, 1) := by decide +kernel
theorem dX7_add_0 : decode cX7_add 0 = .ok (.iload_n 1, 1) := by decide +kernel
theorem dX7_add_1 : decode cX7_add 1 = .ok (.iconst 0, 1) := by decide +kernel
theorem dX7_add_2 : decode cX7_add 2 = .ok (.iconst 3, 1) := by decide +kernel
theorem dX7_add_3 : decode cX7_add 3 = .ok (.invokestatic 46, 3) := by decide +kernel
theorem dX7_add_6 : decode cX7_add 6 = .ok (.ifCond .eq 13, 3) := by decide +kernel
theorem dX7_add_9 : decode cX7_add 9 = .ok (.aload_n 0, 1) := by decide +kernel
theorem dX7_add_10 : decode cX7_add 10 = .ok (.getfield 11, 3) := by decide +kernel
theorem dX7_add_13 : decode cX7_add 13 = .ok (.iload_n 1, 1) := by decide +kernel
theorem dX7_add_14 : decode cX7_add 14 = .ok (.dup2, 1) := by decide +kernel
theorem dX7_add_15 : decode cX7_add 15 = .ok (.iaload, 1) := by decide +kernel
theorem dX7_add_16 : decode cX7_add 16 = .ok (.iload_n 3, 1) := by decide +kernel
theorem dX7_add_17 : decode cX7_add 17 = .ok (.iadd, 1) := by decide +kernel
theorem dX7_add_18 : decode cX7_add 18 = .ok (.iastore, 1) := by decide +kernel
theorem dX7_add_19 : decode cX7_add 19 = .ok (.iload_n 2, 1) := by decide +kernel
theorem dX7_add_20 : decode cX7_add 20 = .ok (.iconst 0, 1) := by decide +kernel
theorem dX7_add_21 : decode cX7_add 21 = .ok (.bipush 30, 2) := by decide +kernel
theorem dX7_add_23 : decode cX7_add 23 = .ok (.invokestatic 46, 3) := by decide +kernel
theorem dX7_add_26 : decode cX7_add 26 = .ok (.ifCond .eq 32, 3) := by decide +kernel
theorem dX7_add_29 : decode cX7_add 29 = .ok (.aload_n 0, 1) := by decide +kernel
theorem dX7_add_30 : decode cX7_add 30 = .ok (.getfield 17, 3) := by decide +kernel
theorem dX7_add_33 : decode cX7_add 33 = .ok (.iload_n 2, 1) := by decide +kernel
theorem dX7_add_34 : decode cX7_add 34 = .ok (.dup2, 1) := by decide +kernel
theorem dX7_add_35 : decode cX7_add 35 = .ok (.iaload, 1) := by decide +kernel
theorem dX7_add_36 : decode cX7_add 36 = .ok (.iload_n 3, 1) := by decide +kernel
theorem dX7_add_37 : decode cX7_add 37 = .ok (.iadd, 1) := by decide +kernel
theorem dX7_add_38 : decode cX7_add 38 = .ok (.iastore, 1) := by decide +kernel
theorem dX7_add_39 : decode cX7_add 39 = .ok (.aload_n 0, 1) := by decide +kernel
theorem dX7_add_40 : decode cX7_add 40 = .ok (.getfield 20, 3) := by decide +kernel
theorem dX7_add_43 : decode cX7_add 43 = .ok (.iload_n 2, 1) := by decide +kernel
theorem dX7_add_44 : decode cX7_add 44 = .ok (.dup2, 1) := by decide +kernel
theorem dX7_add_45 : decode cX7_add 45 = .ok (.iaload, 1) := by decide +kernel
theorem dX7_add_46 : decode cX7_add 46 = .ok (.iload_n 1, 1) := by decide +kernel
theorem dX7_add_47 : decode cX7_add 47 = .ok (.iconst 2, 1) := by decide +kernel
theorem dX7_add_48 : decode cX7_add 48 = .ok (.if_icmp .ne 7, 3) := by decide +kernel
theorem dX7_add_51 : decode cX7_add 51 = .ok (.iload_n 3, 1) := by decide +kernel
theorem dX7_add_52 : decode cX7_add 52 = .ok (.goto 4, 3) := by decide +kernel
theorem dX7_add_55 : decode cX7_add 55 = .ok (.iconst 0, 1) := by decide +kernel
theorem dX7_add_56 : decode cX7_add 56 = .ok (.iadd, 1) := by decide +kernel
theorem dX7_add_57 : decode cX7_add 57 = .ok (.iastore, 1) := by decide +kernel
theorem dX7_add_58 : decode cX7_add 58 = .ok (.return_, 1) := by decide +kernel
theorem dX7_casesOfWay_0 : decode cX7_casesOfWay 0 = .ok (.iload_n 1, 1) := by decide +kernel
theorem dX7_casesOfWay_1 : decode cX7_casesOfWay 1 = .ok (.iconst 0, 1) := by decide +kernel
theorem dX7_casesOfWay_2 : decode cX7_casesOfWay 2 = .ok (.iconst 3, 1) := by decide +kernel
theorem dX7_casesOfWay_3 : decode cX7_casesOfWay 3 = .ok (.invokestatic 46, 3) := by decide +kernel
theorem dX7_casesOfWay_6 : decode cX7_casesOfWay 6 = .ok (.ifCond .eq 12, 3) := by decide +kernel
theorem dX7_casesOfWay_9 : decode cX7_casesOfWay 9 = .ok (.aload_n 0, 1) := by decide +kernel
theorem dX7_casesOfWay_10 : decode cX7_casesOfWay 10 = .ok (.getfield 11, 3) := by decide +kernel
theorem dX7_casesOfWay_13 : decode cX7_casesOfWay 13 = .ok (.iload_n 1, 1) := by decide +kernel
theorem dX7_casesOfWay_14 : decode cX7_casesOfWay 14 = .ok (.iaload, 1) := by decide +kernel
theorem dX7_casesOfWay_15 : decode cX7_casesOfWay 15 = .ok (.goto 4, 3) := by decide +kernel
theorem dX7_casesOfWay_18 : decode cX7_casesOfWay 18 = .ok (.iconst 0, 1) := by decide +kernel
theorem dX7_casesOfWay_19 : decode cX7_casesOfWay 19 = .ok (.ireturn, 1) := by decide +kernel
theorem dX7_casesBack_0 : decode cX7_casesBack 0 = .ok (.iload_n 1, 1) := by decide +kernel
theorem dX7_casesBack_1 : decode cX7_casesBack 1 = .ok (.iconst 0, 1) := by decide +kernel
theorem dX7_casesBack_2 : decode cX7_casesBack 2 = .ok (.bipush 30, 2) := by decide +kernel
theorem dX7_casesBack_4 : decode cX7_casesBack 4 = .ok (.invokestatic 46, 3) := by decide +kernel
theorem dX7_casesBack_7 : decode cX7_casesBack 7 = .ok (.ifCond .eq 12, 3) := by decide +kernel
theorem dX7_casesBack_10 : decode cX7_casesBack 10 = .ok (.aload_n 0, 1) := by decide +kernel
theorem dX7_casesBack_11 : decode cX7_casesBack 11 = .ok (.getfield 17, 3) := by decide +kernel
theorem dX7_casesBack_14 : decode cX7_casesBack 14 = .ok (.iload_n 1, 1) := by decide +kernel
theorem dX7_casesBack_15 : decode cX7_casesBack 15 = .ok (.iaload, 1) := by decide +kernel
theorem dX7_casesBack_16 : decode cX7_casesBack 16 = .ok (.goto 4, 3) := by decide +kernel
theorem dX7_casesBack_19 : decode cX7_casesBack 19 = .ok (.iconst 0, 1) := by decide +kernel
theorem dX7_casesBack_20 : decode cX7_casesBack 20 = .ok (.ireturn, 1) := by decide +kernel
theorem dX7_edgesBack_0 : decode cX7_edgesBack 0 = .ok (.iload_n 1, 1) := by decide +kernel
theorem dX7_edgesBack_1 : decode cX7_edgesBack 1 = .ok (.iconst 0, 1) := by decide +kernel
theorem dX7_edgesBack_2 : decode cX7_edgesBack 2 = .ok (.bipush 30, 2) := by decide +kernel
theorem dX7_edgesBack_4 : decode cX7_edgesBack 4 = .ok (.invokestatic 46, 3) := by decide +kernel
theorem dX7_edgesBack_7 : decode cX7_edgesBack 7 = .ok (.ifCond .eq 12, 3) := by decide +kernel
theorem dX7_edgesBack_10 : decode cX7_edgesBack 10 = .ok (.aload_n 0, 1) := by decide +kernel
theorem dX7_edgesBack_11 : decode cX7_edgesBack 11 = .ok (.getfield 20, 3) := by decide +kernel
theorem dX7_edgesBack_14 : decode cX7_edgesBack 14 = .ok (.iload_n 1, 1) := by decide +kernel
theorem dX7_edgesBack_15 : decode cX7_edgesBack 15 = .ok (.iaload, 1) := by decide +kernel
theorem dX7_edgesBack_16 : decode cX7_edgesBack 16 = .ok (.goto 4, 3) := by decide +kernel
theorem dX7_edgesBack_19 : decode cX7_edgesBack 19 = .ok (.iconst 0, 1) := by decide +kernel
theorem dX7_edgesBack_20 : decode cX7_edgesBack 20 = .ok (.ireturn, 1) := by decide +kernel
theorem dX7_pointsAt_0 : decode cX7_pointsAt 0 = .ok (.iconst 0, 1) := by decide +kernel
theorem dX7_pointsAt_1 : decode cX7_pointsAt 1 = .ok (.istore_n 2, 1) := by decide +kernel
theorem dX7_pointsAt_2 : decode cX7_pointsAt 2 = .ok (.iload_n 1, 1) := by decide +kernel
theorem dX7_pointsAt_3 : decode cX7_pointsAt 3 = .ok (.iconst 4, 1) := by decide +kernel
theorem dX7_pointsAt_4 : decode cX7_pointsAt 4 = .ok (.isub, 1) := by decide +kernel
theorem dX7_pointsAt_5 : decode cX7_pointsAt 5 = .ok (.istore_n 3, 1) := by decide +kernel
theorem dX7_pointsAt_6 : decode cX7_pointsAt 6 = .ok (.iload_n 3, 1) := by decide +kernel
theorem dX7_pointsAt_7 : decode cX7_pointsAt 7 = .ok (.iload_n 1, 1) := by decide +kernel
theorem dX7_pointsAt_8 : decode cX7_pointsAt 8 = .ok (.iconst 1, 1) := by decide +kernel
theorem dX7_pointsAt_9 : decode cX7_pointsAt 9 = .ok (.iadd, 1) := by decide +kernel
theorem dX7_pointsAt_10 : decode cX7_pointsAt 10 = .ok (.if_icmp .gt 23, 3) := by decide +kernel
theorem dX7_pointsAt_13 : decode cX7_pointsAt 13 = .ok (.iload_n 2, 1) := by decide +kernel
theorem dX7_pointsAt_14 : decode cX7_pointsAt 14 = .ok (.aload_n 0, 1) := by decide +kernel
theorem dX7_pointsAt_15 : decode cX7_pointsAt 15 = .ok (.iload_n 3, 1) := by decide +kernel
theorem dX7_pointsAt_16 : decode cX7_pointsAt 16 = .ok (.invokevirtual 50, 3) := by decide +kernel
theorem dX7_pointsAt_19 : decode cX7_pointsAt 19 = .ok (.iload_n 3, 1) := by decide +kernel
theorem dX7_pointsAt_20 : decode cX7_pointsAt 20 = .ok (.iload_n 1, 1) := by decide +kernel
theorem dX7_pointsAt_21 : decode cX7_pointsAt 21 = .ok (.invokestatic 53, 3) := by decide +kernel
theorem dX7_pointsAt_24 : decode cX7_pointsAt 24 = .ok (.imul, 1) := by decide +kernel
theorem dX7_pointsAt_25 : decode cX7_pointsAt 25 = .ok (.iadd, 1) := by decide +kernel
theorem dX7_pointsAt_26 : decode cX7_pointsAt 26 = .ok (.istore_n 2, 1) := by decide +kernel
theorem dX7_pointsAt_27 : decode cX7_pointsAt 27 = .ok (.iinc 3 1, 3) := by decide +kernel
theorem dX7_pointsAt_30 : decode cX7_pointsAt 30 = .ok (.goto (-24), 3) := by decide +kernel
theorem dX7_pointsAt_33 : decode cX7_pointsAt 33 = .ok (.iload_n 2, 1) := by decide +kernel
theorem dX7_pointsAt_34 : decode cX7_pointsAt 34 = .ok (.ireturn, 1) := by decide +kernel
theorem dX7_bestStands_0 : decode cX7_bestStands 0 = .ok (.iconst (-1), 1) := by decide +kernel
theorem dX7_bestStands_1 : decode cX7_bestStands 1 = .ok (.istore_n 1, 1) := by decide +kernel
theorem dX7_bestStands_2 : decode cX7_bestStands 2 = .ok (.iconst 0, 1) := by decide +kernel
theorem dX7_bestStands_3 : decode cX7_bestStands 3 = .ok (.istore_n 2, 1) := by decide +kernel
theorem dX7_bestStands_4 : decode cX7_bestStands 4 = .ok (.iconst 0, 1) := by decide +kernel
theorem dX7_bestStands_5 : decode cX7_bestStands 5 = .ok (.istore_n 3, 1) := by decide +kernel
theorem dX7_bestStands_6 : decode cX7_bestStands 6 = .ok (.iload_n 3, 1) := by decide +kernel
theorem dX7_bestStands_7 : decode cX7_bestStands 7 = .ok (.bipush 20, 2) := by decide +kernel
theorem dX7_bestStands_9 : decode cX7_bestStands 9 = .ok (.if_icmp .gt 43, 3) := by decide +kernel
theorem dX7_bestStands_12 : decode cX7_bestStands 12 = .ok (.aload_n 0, 1) := by decide +kernel
theorem dX7_bestStands_13 : decode cX7_bestStands 13 = .ok (.iload_n 3, 1) := by decide +kernel
theorem dX7_bestStands_14 : decode cX7_bestStands 14 = .ok (.invokevirtual 57, 3) := by decide +kernel
theorem dX7_bestStands_17 : decode cX7_bestStands 17 = .ok (.istore 4, 2) := by decide +kernel
theorem dX7_bestStands_19 : decode cX7_bestStands 19 = .ok (.iload 4, 2) := by decide +kernel
theorem dX7_bestStands_21 : decode cX7_bestStands 21 = .ok (.iload_n 1, 1) := by decide +kernel
theorem dX7_bestStands_22 : decode cX7_bestStands 22 = .ok (.if_icmp .le 8, 3) := by decide +kernel
theorem dX7_bestStands_25 : decode cX7_bestStands 25 = .ok (.iload 4, 2) := by decide +kernel
theorem dX7_bestStands_27 : decode cX7_bestStands 27 = .ok (.istore_n 1, 1) := by decide +kernel
theorem dX7_bestStands_28 : decode cX7_bestStands 28 = .ok (.iconst 0, 1) := by decide +kernel
theorem dX7_bestStands_29 : decode cX7_bestStands 29 = .ok (.istore_n 2, 1) := by decide +kernel
theorem dX7_bestStands_30 : decode cX7_bestStands 30 = .ok (.iload_n 2, 1) := by decide +kernel
theorem dX7_bestStands_31 : decode cX7_bestStands 31 = .ok (.iload 4, 2) := by decide +kernel
theorem dX7_bestStands_33 : decode cX7_bestStands 33 = .ok (.iload_n 1, 1) := by decide +kernel
theorem dX7_bestStands_34 : decode cX7_bestStands 34 = .ok (.if_icmp .ne 9, 3) := by decide +kernel
theorem dX7_bestStands_37 : decode cX7_bestStands 37 = .ok (.iconst 1, 1) := by decide +kernel
theorem dX7_bestStands_38 : decode cX7_bestStands 38 = .ok (.iload_n 3, 1) := by decide +kernel
theorem dX7_bestStands_39 : decode cX7_bestStands 39 = .ok (.ishl, 1) := by decide +kernel
theorem dX7_bestStands_40 : decode cX7_bestStands 40 = .ok (.goto 4, 3) := by decide +kernel
theorem dX7_bestStands_43 : decode cX7_bestStands 43 = .ok (.iconst 0, 1) := by decide +kernel
theorem dX7_bestStands_44 : decode cX7_bestStands 44 = .ok (.ior, 1) := by decide +kernel
theorem dX7_bestStands_45 : decode cX7_bestStands 45 = .ok (.istore_n 2, 1) := by decide +kernel
theorem dX7_bestStands_46 : decode cX7_bestStands 46 = .ok (.iinc 3 1, 3) := by decide +kernel
theorem dX7_bestStands_49 : decode cX7_bestStands 49 = .ok (.goto (-43), 3) := by decide +kernel
theorem dX7_bestStands_52 : decode cX7_bestStands 52 = .ok (.iload_n 2, 1) := by decide +kernel
theorem dX7_bestStands_53 : decode cX7_bestStands 53 = .ok (.ireturn, 1) := by decide +kernel
theorem dX8_init_0 : decode cX8_init 0 = .ok (.aload_n 0, 1) := by decide +kernel
theorem dX8_init_1 : decode cX8_init 1 = .ok (.invokespecial 3, 3) := by decide +kernel
theorem dX8_init_4 : decode cX8_init 4 = .ok (.aload_n 0, 1) := by decide +kernel
theorem dX8_init_5 : decode cX8_init 5 = .ok (.bipush 8, 2) := by decide +kernel
theorem dX8_init_7 : decode cX8_init 7 = .ok (.newarray .int, 2) := by decide +kernel
theorem dX8_init_9 : decode cX8_init 9 = .ok (.putfield 9, 3) := by decide +kernel
theorem dX8_init_12 : decode cX8_init 12 = .ok (.return_, 1) := by decide +kernel
theorem dX8_has_0 : decode cX8_has 0 = .ok (.iload_n 1, 1) := by decide +kernel
theorem dX8_has_1 : decode cX8_has 1 = .ok (.ifCond .lt 15, 3) := by decide +kernel
theorem dX8_has_4 : decode cX8_has 4 = .ok (.iload_n 1, 1) := by decide +kernel
theorem dX8_has_5 : decode cX8_has 5 = .ok (.aload_n 0, 1) := by decide +kernel
theorem dX8_has_6 : decode cX8_has 6 = .ok (.getfield 15, 3) := by decide +kernel
theorem dX8_has_9 : decode cX8_has 9 = .ok (.if_icmp .ge 7, 3) := by decide +kernel
theorem dX8_has_12 : decode cX8_has 12 = .ok (.iconst 1, 1) := by decide +kernel
theorem dX8_has_13 : decode cX8_has 13 = .ok (.goto 4, 3) := by decide +kernel
theorem dX8_has_16 : decode cX8_has 16 = .ok (.iconst 0, 1) := by decide +kernel
theorem dX8_has_17 : decode cX8_has 17 = .ok (.ireturn, 1) := by decide +kernel
theorem dX8_kindOf_0 : decode cX8_kindOf 0 = .ok (.aload_n 0, 1) := by decide +kernel
theorem dX8_kindOf_1 : decode cX8_kindOf 1 = .ok (.iload_n 1, 1) := by decide +kernel
theorem dX8_kindOf_2 : decode cX8_kindOf 2 = .ok (.invokevirtual 19, 3) := by decide +kernel
theorem dX8_kindOf_5 : decode cX8_kindOf 5 = .ok (.ifCond .eq 21, 3) := by decide +kernel
theorem dX8_kindOf_8 : decode cX8_kindOf 8 = .ok (.iload_n 1, 1) := by decide +kernel
theorem dX8_kindOf_9 : decode cX8_kindOf 9 = .ok (.aload_n 0, 1) := by decide +kernel
theorem dX8_kindOf_10 : decode cX8_kindOf 10 = .ok (.getfield 9, 3) := by decide +kernel
theorem dX8_kindOf_13 : decode cX8_kindOf 13 = .ok (.arraylength, 1) := by decide +kernel
theorem dX8_kindOf_14 : decode cX8_kindOf 14 = .ok (.if_icmp .ge 12, 3) := by decide +kernel
theorem dX8_kindOf_17 : decode cX8_kindOf 17 = .ok (.aload_n 0, 1) := by decide +kernel
theorem dX8_kindOf_18 : decode cX8_kindOf 18 = .ok (.getfield 9, 3) := by decide +kernel
theorem dX8_kindOf_21 : decode cX8_kindOf 21 = .ok (.iload_n 1, 1) := by decide +kernel
theorem dX8_kindOf_22 : decode cX8_kindOf 22 = .ok (.iaload, 1) := by decide +kernel
theorem dX8_kindOf_23 : decode cX8_kindOf 23 = .ok (.goto 4, 3) := by decide +kernel
theorem dX8_kindOf_26 : decode cX8_kindOf 26 = .ok (.iconst (-1), 1) := by decide +kernel
theorem dX8_kindOf_27 : decode cX8_kindOf 27 = .ok (.ireturn, 1) := by decide +kernel
theorem dX8_lay_0 : decode cX8_lay 0 = .ok (.aload_n 0, 1) := by decide +kernel
theorem dX8_lay_1 : decode cX8_lay 1 = .ok (.getfield 15, 3) := by decide +kernel
theorem dX8_lay_4 : decode cX8_lay 4 = .ok (.aload_n 0, 1) := by decide +kernel
theorem dX8_lay_5 : decode cX8_lay 5 = .ok (.getfield 9, 3) := by decide +kernel
theorem dX8_lay_8 : decode cX8_lay 8 = .ok (.arraylength, 1) := by decide +kernel
theorem dX8_lay_9 : decode cX8_lay 9 = .ok (.if_icmp .ge 23, 3) := by decide +kernel
theorem dX8_lay_12 : decode cX8_lay 12 = .ok (.aload_n 0, 1) := by decide +kernel
theorem dX8_lay_13 : decode cX8_lay 13 = .ok (.getfield 9, 3) := by decide +kernel
theorem dX8_lay_16 : decode cX8_lay 16 = .ok (.aload_n 0, 1) := by decide +kernel
theorem dX8_lay_17 : decode cX8_lay 17 = .ok (.getfield 15, 3) := by decide +kernel
theorem dX8_lay_20 : decode cX8_lay 20 = .ok (.iload_n 1, 1) := by decide +kernel
theorem dX8_lay_21 : decode cX8_lay 21 = .ok (.iastore, 1) := by decide +kernel
theorem dX8_lay_22 : decode cX8_lay 22 = .ok (.aload_n 0, 1) := by decide +kernel
theorem dX8_lay_23 : decode cX8_lay 23 = .ok (.dup, 1) := by decide +kernel
theorem dX8_lay_24 : decode cX8_lay 24 = .ok (.getfield 15, 3) := by decide +kernel
theorem dX8_lay_27 : decode cX8_lay 27 = .ok (.iconst 1, 1) := by decide +kernel
theorem dX8_lay_28 : decode cX8_lay 28 = .ok (.iadd, 1) := by decide +kernel
theorem dX8_lay_29 : decode cX8_lay 29 = .ok (.putfield 15, 3) := by decide +kernel
theorem dX8_lay_32 : decode cX8_lay 32 = .ok (.return_, 1) := by decide +kernel
theorem dX8_copyFrom_0 : decode cX8_copyFrom 0 = .ok (.aload_n 1, 1) := by decide +kernel
theorem dX8_copyFrom_1 : decode cX8_copyFrom 1 = .ok (.getfield 9, 3) := by decide +kernel
theorem dX8_copyFrom_4 : decode cX8_copyFrom 4 = .ok (.iconst 0, 1) := by decide +kernel
theorem dX8_copyFrom_5 : decode cX8_copyFrom 5 = .ok (.aload_n 0, 1) := by decide +kernel
theorem dX8_copyFrom_6 : decode cX8_copyFrom 6 = .ok (.getfield 9, 3) := by decide +kernel
theorem dX8_copyFrom_9 : decode cX8_copyFrom 9 = .ok (.iconst 0, 1) := by decide +kernel
theorem dX8_copyFrom_10 : decode cX8_copyFrom 10 = .ok (.aload_n 0, 1) := by decide +kernel
theorem dX8_copyFrom_11 : decode cX8_copyFrom 11 = .ok (.getfield 9, 3) := by decide +kernel
theorem dX8_copyFrom_14 : decode cX8_copyFrom 14 = .ok (.arraylength, 1) := by decide +kernel
theorem dX8_copyFrom_15 : decode cX8_copyFrom 15 = .ok (.invokestatic 23, 3) := by decide +kernel
theorem dX8_copyFrom_18 : decode cX8_copyFrom 18 = .ok (.aload_n 0, 1) := by decide +kernel
theorem dX8_copyFrom_19 : decode cX8_copyFrom 19 = .ok (.aload_n 1, 1) := by decide +kernel
theorem dX8_copyFrom_20 : decode cX8_copyFrom 20 = .ok (.getfield 15, 3) := by decide +kernel
theorem dX8_copyFrom_23 : decode cX8_copyFrom 23 = .ok (.putfield 15, 3) := by decide +kernel
theorem dX8_copyFrom_26 : decode cX8_copyFrom 26 = .ok (.aload_n 0, 1) := by decide +kernel
theorem dX8_copyFrom_27 : decode cX8_copyFrom 27 = .ok (.aload_n 1, 1) := by decide +kernel
theorem dX8_copyFrom_28 : decode cX8_copyFrom 28 = .ok (.getfield 29, 3) := by decide +kernel
theorem dX8_copyFrom_31 : decode cX8_copyFrom 31 = .ok (.putfield 29, 3) := by decide +kernel
theorem dX8_copyFrom_34 : decode cX8_copyFrom 34 = .ok (.return_, 1) := by decide +kernel
theorem dX9_init_0 : decode cX9_init 0 = .ok (.aload_n 0, 1) := by decide +kernel
theorem dX9_init_1 : decode cX9_init 1 = .ok (.invokespecial 3, 3) := by decide +kernel
theorem dX9_init_4 : decode cX9_init 4 = .ok (.aload_n 0, 1) := by decide +kernel
theorem dX9_init_5 : decode cX9_init 5 = .ok (.new 9, 3) := by decide +kernel
theorem dX9_init_8 : decode cX9_init 8 = .ok (.dup, 1) := by decide +kernel
theorem dX9_init_9 : decode cX9_init 9 = .ok (.invokespecial 11, 3) := by decide +kernel
theorem dX9_init_12 : decode cX9_init 12 = .ok (.putfield 12, 3) := by decide +kernel
theorem dX9_init_15 : decode cX9_init 15 = .ok (.aload_n 0, 1) := by decide +kernel
theorem dX9_init_16 : decode cX9_init 16 = .ok (.bipush 120, 2) := by decide +kernel
theorem dX9_init_18 : decode cX9_init 18 = .ok (.newarray .int, 2) := by decide +kernel
theorem dX9_init_20 : decode cX9_init 20 = .ok (.putfield 18, 3) := by decide +kernel
theorem dX9_init_23 : decode cX9_init 23 = .ok (.return_, 1) := by decide +kernel
theorem dX9_append_0 : decode cX9_append 0 = .ok (.aload_n 0, 1) := by decide +kernel
theorem dX9_append_1 : decode cX9_append 1 = .ok (.getfield 22, 3) := by decide +kernel
theorem dX9_append_4 : decode cX9_append 4 = .ok (.aload_n 0, 1) := by decide +kernel
theorem dX9_append_5 : decode cX9_append 5 = .ok (.getfield 18, 3) := by decide +kernel
theorem dX9_append_8 : decode cX9_append 8 = .ok (.arraylength, 1) := by decide +kernel
theorem dX9_append_9 : decode cX9_append 9 = .ok (.if_icmp .ge 23, 3) := by decide +kernel
theorem dX9_append_12 : decode cX9_append 12 = .ok (.aload_n 0, 1) := by decide +kernel
theorem dX9_append_13 : decode cX9_append 13 = .ok (.getfield 18, 3) := by decide +kernel
theorem dX9_append_16 : decode cX9_append 16 = .ok (.aload_n 0, 1) := by decide +kernel
theorem dX9_append_17 : decode cX9_append 17 = .ok (.getfield 22, 3) := by decide +kernel
theorem dX9_append_20 : decode cX9_append 20 = .ok (.iload_n 1, 1) := by decide +kernel
theorem dX9_append_21 : decode cX9_append 21 = .ok (.iastore, 1) := by decide +kernel
theorem dX9_append_22 : decode cX9_append 22 = .ok (.aload_n 0, 1) := by decide +kernel
theorem dX9_append_23 : decode cX9_append 23 = .ok (.dup, 1) := by decide +kernel
theorem dX9_append_24 : decode cX9_append 24 = .ok (.getfield 22, 3) := by decide +kernel
theorem dX9_append_27 : decode cX9_append 27 = .ok (.iconst 1, 1) := by decide +kernel
theorem dX9_append_28 : decode cX9_append 28 = .ok (.iadd, 1) := by decide +kernel
theorem dX9_append_29 : decode cX9_append 29 = .ok (.putfield 22, 3) := by decide +kernel
theorem dX9_append_32 : decode cX9_append 32 = .ok (.return_, 1) := by decide +kernel
theorem dX9_byteAt_0 : decode cX9_byteAt 0 = .ok (.iload_n 1, 1) := by decide +kernel
theorem dX9_byteAt_1 : decode cX9_byteAt 1 = .ok (.ifCond .lt 29, 3) := by decide +kernel
theorem dX9_byteAt_4 : decode cX9_byteAt 4 = .ok (.iload_n 1, 1) := by decide +kernel
theorem dX9_byteAt_5 : decode cX9_byteAt 5 = .ok (.aload_n 0, 1) := by decide +kernel
theorem dX9_byteAt_6 : decode cX9_byteAt 6 = .ok (.getfield 22, 3) := by decide +kernel
theorem dX9_byteAt_9 : decode cX9_byteAt 9 = .ok (.if_icmp .ge 21, 3) := by decide +kernel
theorem dX9_byteAt_12 : decode cX9_byteAt 12 = .ok (.iload_n 1, 1) := by decide +kernel
theorem dX9_byteAt_13 : decode cX9_byteAt 13 = .ok (.aload_n 0, 1) := by decide +kernel
theorem dX9_byteAt_14 : decode cX9_byteAt 14 = .ok (.getfield 18, 3) := by decide +kernel
theorem dX9_byteAt_17 : decode cX9_byteAt 17 = .ok (.arraylength, 1) := by decide +kernel
theorem dX9_byteAt_18 : decode cX9_byteAt 18 = .ok (.if_icmp .ge 12, 3) := by decide +kernel
theorem dX9_byteAt_21 : decode cX9_byteAt 21 = .ok (.aload_n 0, 1) := by decide +kernel
theorem dX9_byteAt_22 : decode cX9_byteAt 22 = .ok (.getfield 18, 3) := by decide +kernel
theorem dX9_byteAt_25 : decode cX9_byteAt 25 = .ok (.iload_n 1, 1) := by decide +kernel
theorem dX9_byteAt_26 : decode cX9_byteAt 26 = .ok (.iaload, 1) := by decide +kernel
theorem dX9_byteAt_27 : decode cX9_byteAt 27 = .ok (.goto 4, 3) := by decide +kernel
theorem dX9_byteAt_30 : decode cX9_byteAt 30 = .ok (.iconst (-1), 1) := by decide +kernel
theorem dX9_byteAt_31 : decode cX9_byteAt 31 = .ok (.ireturn, 1) := by decide +kernel
theorem dX9_faultOfText_0 : decode cX9_faultOfText 0 = .ok (.aload_n 0, 1) := by decide +kernel
theorem dX9_faultOfText_1 : decode cX9_faultOfText 1 = .ok (.getfield 12, 3) := by decide +kernel
theorem dX9_faultOfText_4 : decode cX9_faultOfText 4 = .ok (.iconst 0, 1) := by decide +kernel
theorem dX9_faultOfText_5 : decode cX9_faultOfText 5 = .ok (.putfield 26, 3) := by decide +kernel
theorem dX9_faultOfText_8 : decode cX9_faultOfText 8 = .ok (.aload_n 0, 1) := by decide +kernel
theorem dX9_faultOfText_9 : decode cX9_faultOfText 9 = .ok (.getfield 12, 3) := by decide +kernel
theorem dX9_faultOfText_12 : decode cX9_faultOfText 12 = .ok (.iconst 0, 1) := by decide +kernel
theorem dX9_faultOfText_13 : decode cX9_faultOfText 13 = .ok (.putfield 27, 3) := by decide +kernel
theorem dX9_faultOfText_16 : decode cX9_faultOfText 16 = .ok (.aload_n 0, 1) := by decide +kernel
theorem dX9_faultOfText_17 : decode cX9_faultOfText 17 = .ok (.iconst 0, 1) := by decide +kernel
theorem dX9_faultOfText_18 : decode cX9_faultOfText 18 = .ok (.putfield 30, 3) := by decide +kernel
theorem dX9_faultOfText_21 : decode cX9_faultOfText 21 = .ok (.aload_n 0, 1) := by decide +kernel
theorem dX9_faultOfText_22 : decode cX9_faultOfText 22 = .ok (.iconst 0, 1) := by decide +kernel
theorem dX9_faultOfText_23 : decode cX9_faultOfText 23 = .ok (.putfield 33, 3) := by decide +kernel
theorem dX9_faultOfText_26 : decode cX9_faultOfText 26 = .ok (.aload_n 0, 1) := by decide +kernel
theorem dX9_faultOfText_27 : decode cX9_faultOfText 27 = .ok (.invokevirtual 36, 3) := by decide +kernel
theorem dX9_faultOfText_30 : decode cX9_faultOfText 30 = .ok (.iconst 0, 1) := by decide +kernel
theorem dX9_faultOfText_31 : decode cX9_faultOfText 31 = .ok (.istore_n 1, 1) := by decide +kernel
theorem dX9_faultOfText_32 : decode cX9_faultOfText 32 = .ok (.iload_n 1, 1) := by decide +kernel
theorem dX9_faultOfText_33 : decode cX9_faultOfText 33 = .ok (.bipush 120, 2) := by decide +kernel
theorem dX9_faultOfText_35 : decode cX9_faultOfText 35 = .ok (.if_icmp .ge 46, 3) := by decide +kernel
theorem dX9_faultOfText_38 : decode cX9_faultOfText 38 = .ok (.aload_n 0, 1) := by decide +kernel
theorem dX9_faultOfText_39 : decode cX9_faultOfText 39 = .ok (.getfield 30, 3) := by decide +kernel
theorem dX9_faultOfText_42 : decode cX9_faultOfText 42 = .ok (.aload_n 0, 1) := by decide +kernel
theorem dX9_faultOfText_43 : decode cX9_faultOfText 43 = .ok (.getfield 22, 3) := by decide +kernel
theorem dX9_faultOfText_46 : decode cX9_faultOfText 46 = .ok (.if_icmp .ge 35, 3) := by decide +kernel
theorem dX9_faultOfText_49 : decode cX9_faultOfText 49 = .ok (.aload_n 0, 1) := by decide +kernel
theorem dX9_faultOfText_50 : decode cX9_faultOfText 50 = .ok (.invokevirtual 39, 3) := by decide +kernel
theorem dX9_faultOfText_53 : decode cX9_faultOfText 53 = .ok (.ifCond .ne 8, 3) := by decide +kernel
theorem dX9_faultOfText_56 : decode cX9_faultOfText 56 = .ok (.aload_n 0, 1) := by decide +kernel
theorem dX9_faultOfText_57 : decode cX9_faultOfText 57 = .ok (.getfield 30, 3) := by decide +kernel
theorem dX9_faultOfText_60 : decode cX9_faultOfText 60 = .ok (.ireturn, 1) := by decide +kernel
theorem dX9_faultOfText_61 : decode cX9_faultOfText 61 = .ok (.aload_n 0, 1) := by decide +kernel
theorem dX9_faultOfText_62 : decode cX9_faultOfText 62 = .ok (.dup, 1) := by decide +kernel
theorem dX9_faultOfText_63 : decode cX9_faultOfText 63 = .ok (.getfield 33, 3) := by decide +kernel
theorem dX9_faultOfText_66 : decode cX9_faultOfText 66 = .ok (.iconst 1, 1) := by decide +kernel
theorem dX9_faultOfText_67 : decode cX9_faultOfText 67 = .ok (.iadd, 1) := by decide +kernel
theorem dX9_faultOfText_68 : decode cX9_faultOfText 68 = .ok (.putfield 33, 3) := by decide +kernel
theorem dX9_faultOfText_71 : decode cX9_faultOfText 71 = .ok (.aload_n 0, 1) := by decide +kernel
theorem dX9_faultOfText_72 : decode cX9_faultOfText 72 = .ok (.invokevirtual 36, 3) := by decide +kernel
theorem dX9_faultOfText_75 : decode cX9_faultOfText 75 = .ok (.iinc 1 1, 3) := by decide +kernel
theorem dX9_faultOfText_78 : decode cX9_faultOfText 78 = .ok (.goto (-46), 3) := by decide +kernel
theorem dX9_faultOfText_81 : decode cX9_faultOfText 81 = .ok (.iconst (-1), 1) := by decide +kernel
theorem dX9_faultOfText_82 : decode cX9_faultOfText 82 = .ok (.ireturn, 1) := by decide +kernel
theorem dX9_readsItem_0 : decode cX9_readsItem 0 = .ok (.aload_n 0, 1) := by decide +kernel
theorem dX9_readsItem_1 : decode cX9_readsItem 1 = .ok (.ldc 43, 2) := by decide +kernel
theorem dX9_readsItem_3 : decode cX9_readsItem 3 = .ok (.invokevirtual 45, 3) := by decide +kernel
theorem dX9_readsItem_6 : decode cX9_readsItem 6 = .ok (.istore_n 1, 1) := by decide +kernel
theorem dX9_readsItem_7 : decode cX9_readsItem 7 = .ok (.iload_n 1, 1) := by decide +kernel
theorem dX9_readsItem_8 : decode cX9_readsItem 8 = .ok (.ifCond .ne 14, 3) := by decide +kernel
theorem dX9_readsItem_11 : decode cX9_readsItem 11 = .ok (.aload_n 0, 1) := by decide +kernel
theorem dX9_readsItem_12 : decode cX9_readsItem 12 = .ok (.ldc 49, 2) := by decide +kernel
theorem dX9_readsItem_14 : decode cX9_readsItem 14 = .ok (.invokevirtual 45, 3) := by decide +kernel
theorem dX9_readsItem_17 : decode cX9_readsItem 17 = .ok (.ifCond .ne 5, 3) := by decide +kernel
theorem dX9_readsItem_20 : decode cX9_readsItem 20 = .ok (.iconst 0, 1) := by decide +kernel
theorem dX9_readsItem_21 : decode cX9_readsItem 21 = .ok (.ireturn, 1) := by decide +kernel
theorem dX9_readsItem_22 : decode cX9_readsItem 22 = .ok (.iload_n 1, 1) := by decide +kernel
theorem dX9_readsItem_23 : decode cX9_readsItem 23 = .ok (.ifCond .eq 17, 3) := by decide +kernel
theorem dX9_readsItem_26 : decode cX9_readsItem 26 = .ok (.aload_n 0, 1) := by decide +kernel
theorem dX9_readsItem_27 : decode cX9_readsItem 27 = .ok (.getfield 12, 3) := by decide +kernel
theorem dX9_readsItem_30 : decode cX9_readsItem 30 = .ok (.getfield 26, 3) := by decide +kernel
theorem dX9_readsItem_33 : decode cX9_readsItem 33 = .ok (.bipush 8, 2) := by decide +kernel
theorem dX9_readsItem_35 : decode cX9_readsItem 35 = .ok (.if_icmp .lt 5, 3) := by decide +kernel
theorem dX9_readsItem_38 : decode cX9_readsItem 38 = .ok (.iconst 0, 1) := by decide +kernel
theorem dX9_readsItem_39 : decode cX9_readsItem 39 = .ok (.ireturn, 1) := by decide +kernel
theorem dX9_readsItem_40 : decode cX9_readsItem 40 = .ok (.aload_n 0, 1) := by decide +kernel
theorem dX9_readsItem_41 : decode cX9_readsItem 41 = .ok (.dup, 1) := by decide +kernel
theorem dX9_readsItem_42 : decode cX9_readsItem 42 = .ok (.getfield 30, 3) := by decide +kernel
theorem dX9_readsItem_45 : decode cX9_readsItem 45 = .ok (.iload_n 1, 1) := by decide +kernel
theorem dX9_readsItem_46 : decode cX9_readsItem 46 = .ok (.ifCond .eq 11, 3) := by decide +kernel
theorem dX9_readsItem_49 : decode cX9_readsItem 49 = .ok (.ldc 43, 2) := by decide +kernel
theorem dX9_readsItem_51 : decode cX9_readsItem 51 = .ok (.invokevirtual 51, 3) := by decide +kernel
theorem dX9_readsItem_54 : decode cX9_readsItem 54 = .ok (.goto 8, 3) := by decide +kernel
theorem dX9_readsItem_57 : decode cX9_readsItem 57 = .ok (.ldc 49, 2) := by decide +kernel
theorem dX9_readsItem_59 : decode cX9_readsItem 59 = .ok (.invokevirtual 51, 3) := by decide +kernel
theorem dX9_readsItem_62 : decode cX9_readsItem 62 = .ok (.iadd, 1) := by decide +kernel
theorem dX9_readsItem_63 : decode cX9_readsItem 63 = .ok (.putfield 30, 3) := by decide +kernel
theorem dX9_readsItem_66 : decode cX9_readsItem 66 = .ok (.aload_n 0, 1) := by decide +kernel
theorem dX9_readsItem_67 : decode cX9_readsItem 67 = .ok (.invokevirtual 36, 3) := by decide +kernel
theorem dX9_readsItem_70 : decode cX9_readsItem 70 = .ok (.aload_n 0, 1) := by decide +kernel
theorem dX9_readsItem_71 : decode cX9_readsItem 71 = .ok (.invokevirtual 57, 3) := by decide +kernel
theorem dX9_readsItem_74 : decode cX9_readsItem 74 = .ok (.istore_n 2, 1) := by decide +kernel
theorem dX9_readsItem_75 : decode cX9_readsItem 75 = .ok (.iload_n 2, 1) := by decide +kernel
theorem dX9_readsItem_76 : decode cX9_readsItem 76 = .ok (.iconst 0, 1) := by decide +kernel
theorem dX9_readsItem_77 : decode cX9_readsItem 77 = .ok (.iload_n 1, 1) := by decide +kernel
theorem dX9_readsItem_78 : decode cX9_readsItem 78 = .ok (.ifCond .eq 7, 3) := by decide +kernel
theorem dX9_readsItem_81 : decode cX9_readsItem 81 = .ok (.iconst 5, 1) := by decide +kernel
theorem dX9_readsItem_82 : decode cX9_readsItem 82 = .ok (.goto 4, 3) := by decide +kernel
theorem dX9_readsItem_85 : decode cX9_readsItem 85 = .ok (.iconst 3, 1) := by decide +kernel
theorem dX9_readsItem_86 : decode cX9_readsItem 86 = .ok (.invokestatic 62, 3) := by decide +kernel
theorem dX9_readsItem_89 : decode cX9_readsItem 89 = .ok (.ifCond .ne 5, 3) := by decide +kernel
theorem dX9_readsItem_92 : decode cX9_readsItem 92 = .ok (.iconst 0, 1) := by decide +kernel
theorem dX9_readsItem_93 : decode cX9_readsItem 93 = .ok (.ireturn, 1) := by decide +kernel
theorem dX9_readsItem_94 : decode cX9_readsItem 94 = .ok (.aload_n 0, 1) := by decide +kernel
theorem dX9_readsItem_95 : decode cX9_readsItem 95 = .ok (.dup, 1) := by decide +kernel
theorem dX9_readsItem_96 : decode cX9_readsItem 96 = .ok (.getfield 30, 3) := by decide +kernel
theorem dX9_readsItem_99 : decode cX9_readsItem 99 = .ok (.iconst 1, 1) := by decide +kernel
theorem dX9_readsItem_100 : decode cX9_readsItem 100 = .ok (.iadd, 1) := by decide +kernel
theorem dX9_readsItem_101 : decode cX9_readsItem 101 = .ok (.putfield 30, 3) := by decide +kernel
theorem dX9_readsItem_104 : decode cX9_readsItem 104 = .ok (.aload_n 0, 1) := by decide +kernel
theorem dX9_readsItem_105 : decode cX9_readsItem 105 = .ok (.invokevirtual 36, 3) := by decide +kernel
theorem dX9_readsItem_108 : decode cX9_readsItem 108 = .ok (.aload_n 0, 1) := by decide +kernel
theorem dX9_readsItem_109 : decode cX9_readsItem 109 = .ok (.aload_n 0, 1) := by decide +kernel
theorem dX9_readsItem_110 : decode cX9_readsItem 110 = .ok (.getfield 30, 3) := by decide +kernel
theorem dX9_readsItem_113 : decode cX9_readsItem 113 = .ok (.invokevirtual 66, 3) := by decide +kernel
theorem dX9_readsItem_116 : decode cX9_readsItem 116 = .ok (.bipush 59, 2) := by decide +kernel
theorem dX9_readsItem_118 : decode cX9_readsItem 118 = .ok (.if_icmp .eq 5, 3) := by decide +kernel
theorem dX9_readsItem_121 : decode cX9_readsItem 121 = .ok (.iconst 0, 1) := by decide +kernel
theorem dX9_readsItem_122 : decode cX9_readsItem 122 = .ok (.ireturn, 1) := by decide +kernel
theorem dX9_readsItem_123 : decode cX9_readsItem 123 = .ok (.aload_n 0, 1) := by decide +kernel
theorem dX9_readsItem_124 : decode cX9_readsItem 124 = .ok (.dup, 1) := by decide +kernel
theorem dX9_readsItem_125 : decode cX9_readsItem 125 = .ok (.getfield 30, 3) := by decide +kernel
theorem dX9_readsItem_128 : decode cX9_readsItem 128 = .ok (.iconst 1, 1) := by decide +kernel
theorem dX9_readsItem_129 : decode cX9_readsItem 129 = .ok (.iadd, 1) := by decide +kernel
theorem dX9_readsItem_130 : decode cX9_readsItem 130 = .ok (.putfield 30, 3) := by decide +kernel
theorem dX9_readsItem_133 : decode cX9_readsItem 133 = .ok (.aload_n 0, 1) := by decide +kernel
theorem dX9_readsItem_134 : decode cX9_readsItem 134 = .ok (.iload_n 1, 1) := by decide +kernel
theorem dX9_readsItem_135 : decode cX9_readsItem 135 = .ok (.iload_n 2, 1) := by decide +kernel
theorem dX9_readsItem_136 : decode cX9_readsItem 136 = .ok (.invokevirtual 70, 3) := by decide +kernel
theorem dX9_readsItem_139 : decode cX9_readsItem 139 = .ok (.iconst 1, 1) := by decide +kernel
theorem dX9_readsItem_140 : decode cX9_readsItem 140 = .ok (.ireturn, 1) := by decide +kernel
theorem dX9_keep_0 : decode cX9_keep 0 = .ok (.iload_n 1, 1) := by decide +kernel
theorem dX9_keep_1 : decode cX9_keep 1 = .ok (.ifCond .eq 14, 3) := by decide +kernel
theorem dX9_keep_4 : decode cX9_keep 4 = .ok (.aload_n 0, 1) := by decide +kernel
theorem dX9_keep_5 : decode cX9_keep 5 = .ok (.getfield 12, 3) := by decide +kernel
theorem dX9_keep_8 : decode cX9_keep 8 = .ok (.iload_n 2, 1) := by decide +kernel
theorem dX9_keep_9 : decode cX9_keep 9 = .ok (.invokevirtual 74, 3) := by decide +kernel
theorem dX9_keep_12 : decode cX9_keep 12 = .ok (.goto 11, 3) := by decide +kernel
theorem dX9_keep_15 : decode cX9_keep 15 = .ok (.aload_n 0, 1) := by decide +kernel
theorem dX9_keep_16 : decode cX9_keep 16 = .ok (.getfield 12, 3) := by decide +kernel
theorem dX9_keep_19 : decode cX9_keep 19 = .ok (.iload_n 2, 1) := by decide +kernel
theorem dX9_keep_20 : decode cX9_keep 20 = .ok (.putfield 27, 3) := by decide +kernel
theorem dX9_keep_23 : decode cX9_keep 23 = .ok (.return_, 1) := by decide +kernel
theorem dX9_isWord_0 : decode cX9_isWord 0 = .ok (.iconst 0, 1) := by decide +kernel
theorem dX9_isWord_1 : decode cX9_isWord 1 = .ok (.istore_n 2, 1) := by decide +kernel
theorem dX9_isWord_2 : decode cX9_isWord 2 = .ok (.iload_n 2, 1) := by decide +kernel
theorem dX9_isWord_3 : decode cX9_isWord 3 = .ok (.aload_n 1, 1) := by decide +kernel
theorem dX9_isWord_4 : decode cX9_isWord 4 = .ok (.invokevirtual 51, 3) := by decide +kernel
theorem dX9_isWord_7 : decode cX9_isWord 7 = .ok (.if_icmp .ge 29, 3) := by decide +kernel
theorem dX9_isWord_10 : decode cX9_isWord 10 = .ok (.aload_n 0, 1) := by decide +kernel
theorem dX9_isWord_11 : decode cX9_isWord 11 = .ok (.aload_n 0, 1) := by decide +kernel
theorem dX9_isWord_12 : decode cX9_isWord 12 = .ok (.getfield 30, 3) := by decide +kernel
theorem dX9_isWord_15 : decode cX9_isWord 15 = .ok (.iload_n 2, 1) := by decide +kernel
theorem dX9_isWord_16 : decode cX9_isWord 16 = .ok (.iadd, 1) := by decide +kernel
theorem dX9_isWord_17 : decode cX9_isWord 17 = .ok (.invokevirtual 66, 3) := by decide +kernel
theorem dX9_isWord_20 : decode cX9_isWord 20 = .ok (.aload_n 1, 1) := by decide +kernel
theorem dX9_isWord_21 : decode cX9_isWord 21 = .ok (.iload_n 2, 1) := by decide +kernel
theorem dX9_isWord_22 : decode cX9_isWord 22 = .ok (.invokevirtual 78, 3) := by decide +kernel
theorem dX9_isWord_25 : decode cX9_isWord 25 = .ok (.if_icmp .eq 5, 3) := by decide +kernel
theorem dX9_isWord_28 : decode cX9_isWord 28 = .ok (.iconst 0, 1) := by decide +kernel
theorem dX9_isWord_29 : decode cX9_isWord 29 = .ok (.ireturn, 1) := by decide +kernel
theorem dX9_isWord_30 : decode cX9_isWord 30 = .ok (.iinc 2 1, 3) := by decide +kernel
theorem dX9_isWord_33 : decode cX9_isWord 33 = .ok (.goto (-31), 3) := by decide +kernel
theorem dX9_isWord_36 : decode cX9_isWord 36 = .ok (.aload_n 0, 1) := by decide +kernel
theorem dX9_isWord_37 : decode cX9_isWord 37 = .ok (.aload_n 0, 1) := by decide +kernel
theorem dX9_isWord_38 : decode cX9_isWord 38 = .ok (.getfield 30, 3) := by decide +kernel
theorem dX9_isWord_41 : decode cX9_isWord 41 = .ok (.aload_n 1, 1) := by decide +kernel
theorem dX9_isWord_42 : decode cX9_isWord 42 = .ok (.invokevirtual 51, 3) := by decide +kernel
theorem dX9_isWord_45 : decode cX9_isWord 45 = .ok (.iadd, 1) := by decide +kernel
theorem dX9_isWord_46 : decode cX9_isWord 46 = .ok (.invokevirtual 66, 3) := by decide +kernel
theorem dX9_isWord_49 : decode cX9_isWord 49 = .ok (.invokestatic 82, 3) := by decide +kernel
theorem dX9_isWord_52 : decode cX9_isWord 52 = .ok (.ifCond .ne 7, 3) := by decide +kernel
theorem dX9_isWord_55 : decode cX9_isWord 55 = .ok (.iconst 1, 1) := by decide +kernel
theorem dX9_isWord_56 : decode cX9_isWord 56 = .ok (.goto 4, 3) := by decide +kernel
theorem dX9_isWord_59 : decode cX9_isWord 59 = .ok (.iconst 0, 1) := by decide +kernel
theorem dX9_isWord_60 : decode cX9_isWord 60 = .ok (.ireturn, 1) := by decide +kernel
theorem dX9_numberHere_0 : decode cX9_numberHere 0 = .ok (.aload_n 0, 1) := by decide +kernel
theorem dX9_numberHere_1 : decode cX9_numberHere 1 = .ok (.aload_n 0, 1) := by decide +kernel
theorem dX9_numberHere_2 : decode cX9_numberHere 2 = .ok (.getfield 30, 3) := by decide +kernel
theorem dX9_numberHere_5 : decode cX9_numberHere 5 = .ok (.invokevirtual 66, 3) := by decide +kernel
theorem dX9_numberHere_8 : decode cX9_numberHere 8 = .ok (.istore_n 1, 1) := by decide +kernel
theorem dX9_numberHere_9 : decode cX9_numberHere 9 = .ok (.iload_n 1, 1) := by decide +kernel
theorem dX9_numberHere_10 : decode cX9_numberHere 10 = .ok (.invokestatic 86, 3) := by decide +kernel
theorem dX9_numberHere_13 : decode cX9_numberHere 13 = .ok (.ifCond .eq 19, 3) := by decide +kernel
theorem dX9_numberHere_16 : decode cX9_numberHere 16 = .ok (.aload_n 0, 1) := by decide +kernel
theorem dX9_numberHere_17 : decode cX9_numberHere 17 = .ok (.aload_n 0, 1) := by decide +kernel
theorem dX9_numberHere_18 : decode cX9_numberHere 18 = .ok (.getfield 30, 3) := by decide +kernel
theorem dX9_numberHere_21 : decode cX9_numberHere 21 = .ok (.iconst 1, 1) := by decide +kernel
theorem dX9_numberHere_22 : decode cX9_numberHere 22 = .ok (.iadd, 1) := by decide +kernel
theorem dX9_numberHere_23 : decode cX9_numberHere 23 = .ok (.invokevirtual 66, 3) := by decide +kernel
theorem dX9_numberHere_26 : decode cX9_numberHere 26 = .ok (.invokestatic 86, 3) := by decide +kernel
theorem dX9_numberHere_29 : decode cX9_numberHere 29 = .ok (.ifCond .eq 5, 3) := by decide +kernel
theorem dX9_numberHere_32 : decode cX9_numberHere 32 = .ok (.iconst (-1), 1) := by decide +kernel
theorem dX9_numberHere_33 : decode cX9_numberHere 33 = .ok (.ireturn, 1) := by decide +kernel
theorem dX9_numberHere_34 : decode cX9_numberHere 34 = .ok (.iload_n 1, 1) := by decide +kernel
theorem dX9_numberHere_35 : decode cX9_numberHere 35 = .ok (.bipush 48, 2) := by decide +kernel
theorem dX9_numberHere_37 : decode cX9_numberHere 37 = .ok (.isub, 1) := by decide +kernel
theorem dX9_numberHere_38 : decode cX9_numberHere 38 = .ok (.ireturn, 1) := by decide +kernel
theorem dX9_skipBlanks_0 : decode cX9_skipBlanks 0 = .ok (.aload_n 0, 1) := by decide +kernel
theorem dX9_skipBlanks_1 : decode cX9_skipBlanks 1 = .ok (.getfield 30, 3) := by decide +kernel
theorem dX9_skipBlanks_4 : decode cX9_skipBlanks 4 = .ok (.aload_n 0, 1) := by decide +kernel
theorem dX9_skipBlanks_5 : decode cX9_skipBlanks 5 = .ok (.getfield 22, 3) := by decide +kernel
theorem dX9_skipBlanks_8 : decode cX9_skipBlanks 8 = .ok (.if_icmp .ge 29, 3) := by decide +kernel
theorem dX9_skipBlanks_11 : decode cX9_skipBlanks 11 = .ok (.aload_n 0, 1) := by decide +kernel
theorem dX9_skipBlanks_12 : decode cX9_skipBlanks 12 = .ok (.aload_n 0, 1) := by decide +kernel
theorem dX9_skipBlanks_13 : decode cX9_skipBlanks 13 = .ok (.getfield 30, 3) := by decide +kernel
theorem dX9_skipBlanks_16 : decode cX9_skipBlanks 16 = .ok (.invokevirtual 66, 3) := by decide +kernel
theorem dX9_skipBlanks_19 : decode cX9_skipBlanks 19 = .ok (.bipush 32, 2) := by decide +kernel
theorem dX9_skipBlanks_21 : decode cX9_skipBlanks 21 = .ok (.if_icmp .ne 16, 3) := by decide +kernel
theorem dX9_skipBlanks_24 : decode cX9_skipBlanks 24 = .ok (.aload_n 0, 1) := by decide +kernel
theorem dX9_skipBlanks_25 : decode cX9_skipBlanks 25 = .ok (.dup, 1) := by decide +kernel
theorem dX9_skipBlanks_26 : decode cX9_skipBlanks 26 = .ok (.getfield 30, 3) := by decide +kernel
theorem dX9_skipBlanks_29 : decode cX9_skipBlanks 29 = .ok (.iconst 1, 1) := by decide +kernel
theorem dX9_skipBlanks_30 : decode cX9_skipBlanks 30 = .ok (.iadd, 1) := by decide +kernel
theorem dX9_skipBlanks_31 : decode cX9_skipBlanks 31 = .ok (.putfield 30, 3) := by decide +kernel
theorem dX9_skipBlanks_34 : decode cX9_skipBlanks 34 = .ok (.goto (-34), 3) := by decide +kernel
theorem dX9_skipBlanks_37 : decode cX9_skipBlanks 37 = .ok (.return_, 1) := by decide +kernel
theorem dX9_isLetter_0 : decode cX9_isLetter 0 = .ok (.iload_n 0, 1) := by decide +kernel
theorem dX9_isLetter_1 : decode cX9_isLetter 1 = .ok (.bipush 97, 2) := by decide +kernel
theorem dX9_isLetter_3 : decode cX9_isLetter 3 = .ok (.if_icmp .lt 13, 3) := by decide +kernel
theorem dX9_isLetter_6 : decode cX9_isLetter 6 = .ok (.iload_n 0, 1) := by decide +kernel
theorem dX9_isLetter_7 : decode cX9_isLetter 7 = .ok (.bipush 122, 2) := by decide +kernel
theorem dX9_isLetter_9 : decode cX9_isLetter 9 = .ok (.if_icmp .gt 7, 3) := by decide +kernel
theorem dX9_isLetter_12 : decode cX9_isLetter 12 = .ok (.iconst 1, 1) := by decide +kernel
theorem dX9_isLetter_13 : decode cX9_isLetter 13 = .ok (.goto 4, 3) := by decide +kernel
theorem dX9_isLetter_16 : decode cX9_isLetter 16 = .ok (.iconst 0, 1) := by decide +kernel
theorem dX9_isLetter_17 : decode cX9_isLetter 17 = .ok (.ireturn, 1) := by decide +kernel
theorem dX9_isFigure_0 : decode cX9_isFigure 0 = .ok (.iload_n 0, 1) := by decide +kernel
theorem dX9_isFigure_1 : decode cX9_isFigure 1 = .ok (.bipush 48, 2) := by decide +kernel
theorem dX9_isFigure_3 : decode cX9_isFigure 3 = .ok (.if_icmp .lt 13, 3) := by decide +kernel
theorem dX9_isFigure_6 : decode cX9_isFigure 6 = .ok (.iload_n 0, 1) := by decide +kernel
theorem dX9_isFigure_7 : decode cX9_isFigure 7 = .ok (.bipush 57, 2) := by decide +kernel
theorem dX9_isFigure_9 : decode cX9_isFigure 9 = .ok (.if_icmp .gt 7, 3) := by decide +kernel
theorem dX9_isFigure_12 : decode cX9_isFigure 12 = .ok (.iconst 1, 1) := by decide +kernel
theorem dX9_isFigure_13 : decode cX9_isFigure 13 = .ok (.goto 4, 3) := by decide +kernel
theorem dX9_isFigure_16 : decode cX9_isFigure 16 = .ok (.iconst 0, 1) := by decide +kernel
theorem dX9_isFigure_17 : decode cX9_isFigure 17 = .ok (.ireturn, 1) := by decide +kernel
theorem dX10_init_0 : decode cX10_init 0 = .ok (.aload_n 0, 1) := by decide +kernel
theorem dX10_init_1 : decode cX10_init 1 = .ok (.invokespecial 1, 3) := by decide +kernel
theorem dX10_init_4 : decode cX10_init 4 = .ok (.aload_n 0, 1) := by decide +kernel
theorem dX10_init_5 : decode cX10_init 5 = .ok (.new 7, 3) := by decide +kernel
theorem dX10_init_8 : decode cX10_init 8 = .ok (.dup, 1) := by decide +kernel
theorem dX10_init_9 : decode cX10_init 9 = .ok (.invokespecial 9, 3) := by decide +kernel
theorem dX10_init_12 : decode cX10_init 12 = .ok (.putfield 10, 3) := by decide +kernel
theorem dX10_init_15 : decode cX10_init 15 = .ok (.aload_n 0, 1) := by decide +kernel
theorem dX10_init_16 : decode cX10_init 16 = .ok (.iconst 2, 1) := by decide +kernel
theorem dX10_init_17 : decode cX10_init 17 = .ok (.anewarray 7, 3) := by decide +kernel
theorem dX10_init_20 : decode cX10_init 20 = .ok (.dup, 1) := by decide +kernel
theorem dX10_init_21 : decode cX10_init 21 = .ok (.iconst 0, 1) := by decide +kernel
theorem dX10_init_22 : decode cX10_init 22 = .ok (.new 7, 3) := by decide +kernel
theorem dX10_init_25 : decode cX10_init 25 = .ok (.dup, 1) := by decide +kernel
theorem dX10_init_26 : decode cX10_init 26 = .ok (.invokespecial 9, 3) := by decide +kernel
theorem dX10_init_29 : decode cX10_init 29 = .ok (.aastore, 1) := by decide +kernel
theorem dX10_init_30 : decode cX10_init 30 = .ok (.dup, 1) := by decide +kernel
theorem dX10_init_31 : decode cX10_init 31 = .ok (.iconst 1, 1) := by decide +kernel
theorem dX10_init_32 : decode cX10_init 32 = .ok (.new 7, 3) := by decide +kernel
theorem dX10_init_35 : decode cX10_init 35 = .ok (.dup, 1) := by decide +kernel
theorem dX10_init_36 : decode cX10_init 36 = .ok (.invokespecial 9, 3) := by decide +kernel
theorem dX10_init_39 : decode cX10_init 39 = .ok (.aastore, 1) := by decide +kernel
theorem dX10_init_40 : decode cX10_init 40 = .ok (.putfield 16, 3) := by decide +kernel
theorem dX10_init_43 : decode cX10_init 43 = .ok (.aload_n 0, 1) := by decide +kernel
theorem dX10_init_44 : decode cX10_init 44 = .ok (.iconst 2, 1) := by decide +kernel
theorem dX10_init_45 : decode cX10_init 45 = .ok (.newarray .boolean, 2) := by decide +kernel
theorem dX10_init_47 : decode cX10_init 47 = .ok (.putfield 20, 3) := by decide +kernel
theorem dX10_init_50 : decode cX10_init 50 = .ok (.aload_n 0, 1) := by decide +kernel
theorem dX10_init_51 : decode cX10_init 51 = .ok (.new 24, 3) := by decide +kernel
theorem dX10_init_54 : decode cX10_init 54 = .ok (.dup, 1) := by decide +kernel
theorem dX10_init_55 : decode cX10_init 55 = .ok (.invokespecial 26, 3) := by decide +kernel
theorem dX10_init_58 : decode cX10_init 58 = .ok (.putfield 27, 3) := by decide +kernel
theorem dX10_init_61 : decode cX10_init 61 = .ok (.aload_n 0, 1) := by decide +kernel
theorem dX10_init_62 : decode cX10_init 62 = .ok (.new 31, 3) := by decide +kernel
theorem dX10_init_65 : decode cX10_init 65 = .ok (.dup, 1) := by decide +kernel
theorem dX10_init_66 : decode cX10_init 66 = .ok (.invokespecial 33, 3) := by decide +kernel
theorem dX10_init_69 : decode cX10_init 69 = .ok (.putfield 34, 3) := by decide +kernel
theorem dX10_init_72 : decode cX10_init 72 = .ok (.aload_n 0, 1) := by decide +kernel
theorem dX10_init_73 : decode cX10_init 73 = .ok (.new 38, 3) := by decide +kernel
theorem dX10_init_76 : decode cX10_init 76 = .ok (.dup, 1) := by decide +kernel
theorem dX10_init_77 : decode cX10_init 77 = .ok (.invokespecial 40, 3) := by decide +kernel
theorem dX10_init_80 : decode cX10_init 80 = .ok (.putfield 41, 3) := by decide +kernel
theorem dX10_init_83 : decode cX10_init 83 = .ok (.aload_n 0, 1) := by decide +kernel
theorem dX10_init_84 : decode cX10_init 84 = .ok (.new 45, 3) := by decide +kernel
theorem dX10_init_87 : decode cX10_init 87 = .ok (.dup, 1) := by decide +kernel
theorem dX10_init_88 : decode cX10_init 88 = .ok (.invokespecial 47, 3) := by decide +kernel
theorem dX10_init_91 : decode cX10_init 91 = .ok (.putfield 48, 3) := by decide +kernel
theorem dX10_init_94 : decode cX10_init 94 = .ok (.aload_n 0, 1) := by decide +kernel
theorem dX10_init_95 : decode cX10_init 95 = .ok (.bipush 21, 2) := by decide +kernel
theorem dX10_init_97 : decode cX10_init 97 = .ok (.newarray .long, 2) := by decide +kernel
theorem dX10_init_99 : decode cX10_init 99 = .ok (.putfield 52, 3) := by decide +kernel
theorem dX10_init_102 : decode cX10_init 102 = .ok (.aload_n 0, 1) := by decide +kernel
theorem dX10_init_103 : decode cX10_init 103 = .ok (.iconst 3, 1) := by decide +kernel
theorem dX10_init_104 : decode cX10_init 104 = .ok (.newarray .int, 2) := by decide +kernel
theorem dX10_init_106 : decode cX10_init 106 = .ok (.putfield 56, 3) := by decide +kernel
theorem dX10_init_109 : decode cX10_init 109 = .ok (.return_, 1) := by decide +kernel
theorem dX10_stone_0 : decode cX10_stone 0 = .ok (.iload_n 1, 1) := by decide +kernel
theorem dX10_stone_1 : decode cX10_stone 1 = .ok (.iconst 0, 1) := by decide +kernel
theorem dX10_stone_2 : decode cX10_stone 2 = .ok (.iconst 5, 1) := by decide +kernel
theorem dX10_stone_3 : decode cX10_stone 3 = .ok (.invokestatic 62, 3) := by decide +kernel
theorem dX10_stone_6 : decode cX10_stone 6 = .ok (.ifCond .ne 10, 3) := by decide +kernel
theorem dX10_stone_9 : decode cX10_stone 9 = .ok (.aload_n 0, 1) := by decide +kernel
theorem dX10_stone_10 : decode cX10_stone 10 = .ok (.bipush (-2), 2) := by decide +kernel
theorem dX10_stone_12 : decode cX10_stone 12 = .ok (.invokevirtual 66, 3) := by decide +kernel
theorem dX10_stone_15 : decode cX10_stone 15 = .ok (.ireturn, 1) := by decide +kernel
theorem dX10_stone_16 : decode cX10_stone 16 = .ok (.aload_n 0, 1) := by decide +kernel
theorem dX10_stone_17 : decode cX10_stone 17 = .ok (.getfield 10, 3) := by decide +kernel
theorem dX10_stone_20 : decode cX10_stone 20 = .ok (.getfield 70, 3) := by decide +kernel
theorem dX10_stone_23 : decode cX10_stone 23 = .ok (.getfield 74, 3) := by decide +kernel
theorem dX10_stone_26 : decode cX10_stone 26 = .ok (.bipush 8, 2) := by decide +kernel
theorem dX10_stone_28 : decode cX10_stone 28 = .ok (.if_icmp .lt 8, 3) := by decide +kernel
theorem dX10_stone_31 : decode cX10_stone 31 = .ok (.aload_n 0, 1) := by decide +kernel
theorem dX10_stone_32 : decode cX10_stone 32 = .ok (.invokevirtual 80, 3) := by decide +kernel
theorem dX10_stone_35 : decode cX10_stone 35 = .ok (.ireturn, 1) := by decide +kernel
theorem dX10_stone_36 : decode cX10_stone 36 = .ok (.aload_n 0, 1) := by decide +kernel
theorem dX10_stone_37 : decode cX10_stone 37 = .ok (.getfield 10, 3) := by decide +kernel
theorem dX10_stone_40 : decode cX10_stone 40 = .ok (.getfield 70, 3) := by decide +kernel
theorem dX10_stone_43 : decode cX10_stone 43 = .ok (.iload_n 1, 1) := by decide +kernel
theorem dX10_stone_44 : decode cX10_stone 44 = .ok (.invokevirtual 84, 3) := by decide +kernel
theorem dX10_stone_47 : decode cX10_stone 47 = .ok (.aload_n 0, 1) := by decide +kernel
theorem dX10_stone_48 : decode cX10_stone 48 = .ok (.getfield 10, 3) := by decide +kernel
theorem dX10_stone_51 : decode cX10_stone 51 = .ok (.getfield 70, 3) := by decide +kernel
theorem dX10_stone_54 : decode cX10_stone 54 = .ok (.getfield 74, 3) := by decide +kernel
theorem dX10_stone_57 : decode cX10_stone 57 = .ok (.iconst 1, 1) := by decide +kernel
theorem dX10_stone_58 : decode cX10_stone 58 = .ok (.isub, 1) := by decide +kernel
theorem dX10_stone_59 : decode cX10_stone 59 = .ok (.ireturn, 1) := by decide +kernel
theorem dX10_wet_0 : decode cX10_wet 0 = .ok (.iload_n 1, 1) := by decide +kernel
theorem dX10_wet_1 : decode cX10_wet 1 = .ok (.iconst 0, 1) := by decide +kernel
theorem dX10_wet_2 : decode cX10_wet 2 = .ok (.iconst 3, 1) := by decide +kernel
theorem dX10_wet_3 : decode cX10_wet 3 = .ok (.invokestatic 62, 3) := by decide +kernel
theorem dX10_wet_6 : decode cX10_wet 6 = .ok (.ifCond .ne 10, 3) := by decide +kernel
theorem dX10_wet_9 : decode cX10_wet 9 = .ok (.aload_n 0, 1) := by decide +kernel
theorem dX10_wet_10 : decode cX10_wet 10 = .ok (.bipush (-2), 2) := by decide +kernel
theorem dX10_wet_12 : decode cX10_wet 12 = .ok (.invokevirtual 66, 3) := by decide +kernel
theorem dX10_wet_15 : decode cX10_wet 15 = .ok (.ireturn, 1) := by decide +kernel
theorem dX10_wet_16 : decode cX10_wet 16 = .ok (.aload_n 0, 1) := by decide +kernel
theorem dX10_wet_17 : decode cX10_wet 17 = .ok (.getfield 10, 3) := by decide +kernel
theorem dX10_wet_20 : decode cX10_wet 20 = .ok (.getfield 70, 3) := by decide +kernel
theorem dX10_wet_23 : decode cX10_wet 23 = .ok (.getfield 88, 3) := by decide +kernel
theorem dX10_wet_26 : decode cX10_wet 26 = .ok (.istore_n 2, 1) := by decide +kernel
theorem dX10_wet_27 : decode cX10_wet 27 = .ok (.aload_n 0, 1) := by decide +kernel
theorem dX10_wet_28 : decode cX10_wet 28 = .ok (.getfield 10, 3) := by decide +kernel
theorem dX10_wet_31 : decode cX10_wet 31 = .ok (.getfield 70, 3) := by decide +kernel
theorem dX10_wet_34 : decode cX10_wet 34 = .ok (.iload_n 1, 1) := by decide +kernel
theorem dX10_wet_35 : decode cX10_wet 35 = .ok (.putfield 88, 3) := by decide +kernel
theorem dX10_wet_38 : decode cX10_wet 38 = .ok (.iload_n 2, 1) := by decide +kernel
theorem dX10_wet_39 : decode cX10_wet 39 = .ok (.ireturn, 1) := by decide +kernel
theorem dX10_type_0 : decode cX10_type 0 = .ok (.iload_n 3, 1) := by decide +kernel
theorem dX10_type_1 : decode cX10_type 1 = .ok (.iconst 1, 1) := by decide +kernel
theorem dX10_type_2 : decode cX10_type 2 = .ok (.bipush 8, 2) := by decide +kernel
theorem dX10_type_4 : decode cX10_type 4 = .ok (.invokestatic 62, 3) := by decide +kernel
theorem dX10_type_7 : decode cX10_type 7 = .ok (.ifCond .ne 10, 3) := by decide +kernel
theorem dX10_type_10 : decode cX10_type 10 = .ok (.aload_n 0, 1) := by decide +kernel
theorem dX10_type_11 : decode cX10_type 11 = .ok (.bipush (-2), 2) := by decide +kernel
theorem dX10_type_13 : decode cX10_type 13 = .ok (.invokevirtual 66, 3) := by decide +kernel
theorem dX10_type_16 : decode cX10_type 16 = .ok (.ireturn, 1) := by decide +kernel
theorem dX10_type_17 : decode cX10_type 17 = .ok (.aload_n 0, 1) := by decide +kernel
theorem dX10_type_18 : decode cX10_type 18 = .ok (.getfield 27, 3) := by decide +kernel
theorem dX10_type_21 : decode cX10_type 21 = .ok (.getfield 91, 3) := by decide +kernel
theorem dX10_type_24 : decode cX10_type 24 = .ok (.iload_n 3, 1) := by decide +kernel
theorem dX10_type_25 : decode cX10_type 25 = .ok (.iadd, 1) := by decide +kernel
theorem dX10_type_26 : decode cX10_type 26 = .ok (.bipush 120, 2) := by decide +kernel
theorem dX10_type_28 : decode cX10_type 28 = .ok (.if_icmp .le 8, 3) := by decide +kernel
theorem dX10_type_31 : decode cX10_type 31 = .ok (.aload_n 0, 1) := by decide +kernel
theorem dX10_type_32 : decode cX10_type 32 = .ok (.invokevirtual 80, 3) := by decide +kernel
theorem dX10_type_35 : decode cX10_type 35 = .ok (.ireturn, 1) := by decide +kernel
theorem dX10_type_36 : decode cX10_type 36 = .ok (.iload_n 3, 1) := by decide +kernel
theorem dX10_type_37 : decode cX10_type 37 = .ok (.iconst 1, 1) := by decide +kernel
theorem dX10_type_38 : decode cX10_type 38 = .ok (.isub, 1) := by decide +kernel
theorem dX10_type_39 : decode cX10_type 39 = .ok (.istore 4, 2) := by decide +kernel
theorem dX10_type_41 : decode cX10_type 41 = .ok (.iload 4, 2) := by decide +kernel
theorem dX10_type_43 : decode cX10_type 43 = .ok (.ifCond .lt 28, 3) := by decide +kernel
theorem dX10_type_46 : decode cX10_type 46 = .ok (.aload_n 0, 1) := by decide +kernel
theorem dX10_type_47 : decode cX10_type 47 = .ok (.getfield 27, 3) := by decide +kernel
theorem dX10_type_50 : decode cX10_type 50 = .ok (.lload_n 1, 1) := by decide +kernel
theorem dX10_type_51 : decode cX10_type 51 = .ok (.bipush 8, 2) := by decide +kernel
theorem dX10_type_53 : decode cX10_type 53 = .ok (.iload 4, 2) := by decide +kernel
theorem dX10_type_55 : decode cX10_type 55 = .ok (.imul, 1) := by decide +kernel
theorem dX10_type_56 : decode cX10_type 56 = .ok (.lushr, 1) := by decide +kernel
theorem dX10_type_57 : decode cX10_type 57 = .ok (.ldc2_w 92, 3) := by decide +kernel
theorem dX10_type_60 : decode cX10_type 60 = .ok (.land, 1) := by decide +kernel
theorem dX10_type_61 : decode cX10_type 61 = .ok (.l2i, 1) := by decide +kernel
theorem dX10_type_62 : decode cX10_type 62 = .ok (.invokevirtual 94, 3) := by decide +kernel
theorem dX10_type_65 : decode cX10_type 65 = .ok (.iinc 4 (-1), 3) := by decide +kernel
theorem dX10_type_68 : decode cX10_type 68 = .ok (.goto (-27), 3) := by decide +kernel
theorem dX10_type_71 : decode cX10_type 71 = .ok (.aload_n 0, 1) := by decide +kernel
theorem dX10_type_72 : decode cX10_type 72 = .ok (.getfield 27, 3) := by decide +kernel
theorem dX10_type_75 : decode cX10_type 75 = .ok (.getfield 91, 3) := by decide +kernel
theorem dX10_type_78 : decode cX10_type 78 = .ok (.ireturn, 1) := by decide +kernel
theorem dX10_clear_0 : decode cX10_clear 0 = .ok (.aload_n 0, 1) := by decide +kernel
theorem dX10_clear_1 : decode cX10_clear 1 = .ok (.getfield 27, 3) := by decide +kernel
theorem dX10_clear_4 : decode cX10_clear 4 = .ok (.getfield 91, 3) := by decide +kernel
theorem dX10_clear_7 : decode cX10_clear 7 = .ok (.istore_n 1, 1) := by decide +kernel
theorem dX10_clear_8 : decode cX10_clear 8 = .ok (.aload_n 0, 1) := by decide +kernel
theorem dX10_clear_9 : decode cX10_clear 9 = .ok (.getfield 27, 3) := by decide +kernel
theorem dX10_clear_12 : decode cX10_clear 12 = .ok (.iconst 0, 1) := by decide +kernel
theorem dX10_clear_13 : decode cX10_clear 13 = .ok (.putfield 91, 3) := by decide +kernel
theorem dX10_clear_16 : decode cX10_clear 16 = .ok (.iload_n 1, 1) := by decide +kernel
theorem dX10_clear_17 : decode cX10_clear 17 = .ok (.ireturn, 1) := by decide +kernel
theorem dX10_read_0 : decode cX10_read 0 = .ok (.aload_n 0, 1) := by decide +kernel
theorem dX10_read_1 : decode cX10_read 1 = .ok (.getfield 27, 3) := by decide +kernel
theorem dX10_read_4 : decode cX10_read 4 = .ok (.invokevirtual 97, 3) := by decide +kernel
theorem dX10_read_7 : decode cX10_read 7 = .ok (.istore_n 1, 1) := by decide +kernel
theorem dX10_read_8 : decode cX10_read 8 = .ok (.iload_n 1, 1) := by decide +kernel
theorem dX10_read_9 : decode cX10_read 9 = .ok (.iconst (-1), 1) := by decide +kernel
theorem dX10_read_10 : decode cX10_read 10 = .ok (.if_icmp .eq 8, 3) := by decide +kernel
theorem dX10_read_13 : decode cX10_read 13 = .ok (.bipush (-10), 2) := by decide +kernel
theorem dX10_read_15 : decode cX10_read 15 = .ok (.iload_n 1, 1) := by decide +kernel
theorem dX10_read_16 : decode cX10_read 16 = .ok (.isub, 1) := by decide +kernel
theorem dX10_read_17 : decode cX10_read 17 = .ok (.ireturn, 1) := by decide +kernel
theorem dX10_read_18 : decode cX10_read 18 = .ok (.aload_n 0, 1) := by decide +kernel
theorem dX10_read_19 : decode cX10_read 19 = .ok (.getfield 10, 3) := by decide +kernel
theorem dX10_read_22 : decode cX10_read 22 = .ok (.getfield 70, 3) := by decide +kernel
theorem dX10_read_25 : decode cX10_read 25 = .ok (.aload_n 0, 1) := by decide +kernel
theorem dX10_read_26 : decode cX10_read 26 = .ok (.getfield 27, 3) := by decide +kernel
theorem dX10_read_29 : decode cX10_read 29 = .ok (.getfield 100, 3) := by decide +kernel
theorem dX10_read_32 : decode cX10_read 32 = .ok (.invokevirtual 103, 3) := by decide +kernel
theorem dX10_read_35 : decode cX10_read 35 = .ok (.aload_n 0, 1) := by decide +kernel
theorem dX10_read_36 : decode cX10_read 36 = .ok (.getfield 10, 3) := by decide +kernel
theorem dX10_read_39 : decode cX10_read 39 = .ok (.getfield 107, 3) := by decide +kernel
theorem dX10_read_42 : decode cX10_read 42 = .ok (.invokevirtual 111, 3) := by decide +kernel
theorem dX10_read_45 : decode cX10_read 45 = .ok (.aload_n 0, 1) := by decide +kernel
theorem dX10_read_46 : decode cX10_read 46 = .ok (.getfield 27, 3) := by decide +kernel
theorem dX10_read_49 : decode cX10_read 49 = .ok (.getfield 116, 3) := by decide +kernel
theorem dX10_read_52 : decode cX10_read 52 = .ok (.ireturn, 1) := by decide +kernel
theorem dX10_way_0 : decode cX10_way 0 = .ok (.aload_n 0, 1) := by decide +kernel
theorem dX10_way_1 : decode cX10_way 1 = .ok (.iload_n 1, 1) := by decide +kernel
theorem dX10_way_2 : decode cX10_way 2 = .ok (.iload_n 2, 1) := by decide +kernel
theorem dX10_way_3 : decode cX10_way 3 = .ok (.iload_n 3, 1) := by decide +kernel
theorem dX10_way_4 : decode cX10_way 4 = .ok (.invokevirtual 119, 3) := by decide +kernel
theorem dX10_way_7 : decode cX10_way 7 = .ok (.ifCond .ne 10, 3) := by decide +kernel
theorem dX10_way_10 : decode cX10_way 10 = .ok (.aload_n 0, 1) := by decide +kernel
theorem dX10_way_11 : decode cX10_way 11 = .ok (.bipush (-2), 2) := by decide +kernel
theorem dX10_way_13 : decode cX10_way 13 = .ok (.invokevirtual 66, 3) := by decide +kernel
theorem dX10_way_16 : decode cX10_way 16 = .ok (.ireturn, 1) := by decide +kernel
theorem dX10_way_17 : decode cX10_way 17 = .ok (.aload_n 0, 1) := by decide +kernel
theorem dX10_way_18 : decode cX10_way 18 = .ok (.getfield 10, 3) := by decide +kernel
theorem dX10_way_21 : decode cX10_way 21 = .ok (.getfield 70, 3) := by decide +kernel
theorem dX10_way_24 : decode cX10_way 24 = .ok (.iload_n 1, 1) := by decide +kernel
theorem dX10_way_25 : decode cX10_way 25 = .ok (.invokevirtual 122, 3) := by decide +kernel
theorem dX10_way_28 : decode cX10_way 28 = .ok (.aload_n 0, 1) := by decide +kernel
theorem dX10_way_29 : decode cX10_way 29 = .ok (.getfield 10, 3) := by decide +kernel
theorem dX10_way_32 : decode cX10_way 32 = .ok (.getfield 70, 3) := by decide +kernel
theorem dX10_way_35 : decode cX10_way 35 = .ok (.getfield 88, 3) := by decide +kernel
theorem dX10_way_38 : decode cX10_way 38 = .ok (.iload_n 2, 1) := by decide +kernel
theorem dX10_way_39 : decode cX10_way 39 = .ok (.iload_n 3, 1) := by decide +kernel
theorem dX10_way_40 : decode cX10_way 40 = .ok (.invokestatic 125, 3) := by decide +kernel
theorem dX10_way_43 : decode cX10_way 43 = .ok (.ireturn, 1) := by decide +kernel
theorem dX10_back_0 : decode cX10_back 0 = .ok (.aload_n 0, 1) := by decide +kernel
theorem dX10_back_1 : decode cX10_back 1 = .ok (.iload_n 1, 1) := by decide +kernel
theorem dX10_back_2 : decode cX10_back 2 = .ok (.iload_n 2, 1) := by decide +kernel
theorem dX10_back_3 : decode cX10_back 3 = .ok (.iload_n 3, 1) := by decide +kernel
theorem dX10_back_4 : decode cX10_back 4 = .ok (.invokevirtual 119, 3) := by decide +kernel
theorem dX10_back_7 : decode cX10_back 7 = .ok (.ifCond .ne 10, 3) := by decide +kernel
theorem dX10_back_10 : decode cX10_back 10 = .ok (.aload_n 0, 1) := by decide +kernel
theorem dX10_back_11 : decode cX10_back 11 = .ok (.bipush (-2), 2) := by decide +kernel
theorem dX10_back_13 : decode cX10_back 13 = .ok (.invokevirtual 66, 3) := by decide +kernel
theorem dX10_back_16 : decode cX10_back 16 = .ok (.ireturn, 1) := by decide +kernel
theorem dX10_back_17 : decode cX10_back 17 = .ok (.aload_n 0, 1) := by decide +kernel
theorem dX10_back_18 : decode cX10_back 18 = .ok (.getfield 10, 3) := by decide +kernel
theorem dX10_back_21 : decode cX10_back 21 = .ok (.getfield 70, 3) := by decide +kernel
theorem dX10_back_24 : decode cX10_back 24 = .ok (.iload_n 1, 1) := by decide +kernel
theorem dX10_back_25 : decode cX10_back 25 = .ok (.invokevirtual 122, 3) := by decide +kernel
theorem dX10_back_28 : decode cX10_back 28 = .ok (.istore 4, 2) := by decide +kernel
theorem dX10_back_30 : decode cX10_back 30 = .ok (.iload 4, 2) := by decide +kernel
theorem dX10_back_32 : decode cX10_back 32 = .ok (.aload_n 0, 1) := by decide +kernel
theorem dX10_back_33 : decode cX10_back 33 = .ok (.getfield 10, 3) := by decide +kernel
theorem dX10_back_36 : decode cX10_back 36 = .ok (.getfield 70, 3) := by decide +kernel
theorem dX10_back_39 : decode cX10_back 39 = .ok (.getfield 88, 3) := by decide +kernel
theorem dX10_back_42 : decode cX10_back 42 = .ok (.iload_n 2, 1) := by decide +kernel
theorem dX10_back_43 : decode cX10_back 43 = .ok (.iload_n 3, 1) := by decide +kernel
theorem dX10_back_44 : decode cX10_back 44 = .ok (.invokestatic 125, 3) := by decide +kernel
theorem dX10_back_47 : decode cX10_back 47 = .ok (.iload 4, 2) := by decide +kernel
theorem dX10_back_49 : decode cX10_back 49 = .ok (.iload_n 2, 1) := by decide +kernel
theorem dX10_back_50 : decode cX10_back 50 = .ok (.iload_n 3, 1) := by decide +kernel
theorem dX10_back_51 : decode cX10_back 51 = .ok (.invokestatic 129, 3) := by decide +kernel
theorem dX10_back_54 : decode cX10_back 54 = .ok (.ireturn, 1) := by decide +kernel
theorem dX10_points_0 : decode cX10_points 0 = .ok (.aload_n 0, 1) := by decide +kernel
theorem dX10_points_1 : decode cX10_points 1 = .ok (.iload_n 1, 1) := by decide +kernel
theorem dX10_points_2 : decode cX10_points 2 = .ok (.iload_n 2, 1) := by decide +kernel
theorem dX10_points_3 : decode cX10_points 3 = .ok (.iload_n 3, 1) := by decide +kernel
theorem dX10_points_4 : decode cX10_points 4 = .ok (.invokevirtual 119, 3) := by decide +kernel
theorem dX10_points_7 : decode cX10_points 7 = .ok (.ifCond .eq 11, 3) := by decide +kernel
theorem dX10_points_10 : decode cX10_points 10 = .ok (.iload 4, 2) := by decide +kernel
theorem dX10_points_12 : decode cX10_points 12 = .ok (.invokestatic 132, 3) := by decide +kernel
theorem dX10_points_15 : decode cX10_points 15 = .ok (.ifCond .ne 10, 3) := by decide +kernel
theorem dX10_points_18 : decode cX10_points 18 = .ok (.aload_n 0, 1) := by decide +kernel
theorem dX10_points_19 : decode cX10_points 19 = .ok (.bipush (-2), 2) := by decide +kernel
theorem dX10_points_21 : decode cX10_points 21 = .ok (.invokevirtual 66, 3) := by decide +kernel
theorem dX10_points_24 : decode cX10_points 24 = .ok (.ireturn, 1) := by decide +kernel
theorem dX10_points_25 : decode cX10_points 25 = .ok (.aload_n 0, 1) := by decide +kernel
theorem dX10_points_26 : decode cX10_points 26 = .ok (.iload_n 1, 1) := by decide +kernel
theorem dX10_points_27 : decode cX10_points 27 = .ok (.iload_n 2, 1) := by decide +kernel
theorem dX10_points_28 : decode cX10_points 28 = .ok (.iload_n 3, 1) := by decide +kernel
theorem dX10_points_29 : decode cX10_points 29 = .ok (.iload 4, 2) := by decide +kernel
theorem dX10_points_31 : decode cX10_points 31 = .ok (.invokevirtual 136, 3) := by decide +kernel
theorem dX10_points_34 : decode cX10_points 34 = .ok (.ireturn, 1) := by decide +kernel
theorem dX10_odds_0 : decode cX10_odds 0 = .ok (.aload_n 0, 1) := by decide +kernel
theorem dX10_odds_1 : decode cX10_odds 1 = .ok (.iload_n 1, 1) := by decide +kernel
theorem dX10_odds_2 : decode cX10_odds 2 = .ok (.iload_n 2, 1) := by decide +kernel
theorem dX10_odds_3 : decode cX10_odds 3 = .ok (.iload_n 3, 1) := by decide +kernel
theorem dX10_odds_4 : decode cX10_odds 4 = .ok (.invokevirtual 119, 3) := by decide +kernel
theorem dX10_odds_7 : decode cX10_odds 7 = .ok (.ifCond .eq 13, 3) := by decide +kernel
theorem dX10_odds_10 : decode cX10_odds 10 = .ok (.iload 4, 2) := by decide +kernel
theorem dX10_odds_12 : decode cX10_odds 12 = .ok (.iconst 0, 1) := by decide +kernel
theorem dX10_odds_13 : decode cX10_odds 13 = .ok (.iconst 3, 1) := by decide +kernel
theorem dX10_odds_14 : decode cX10_odds 14 = .ok (.invokestatic 62, 3) := by decide +kernel
theorem dX10_odds_17 : decode cX10_odds 17 = .ok (.ifCond .ne 10, 3) := by decide +kernel
theorem dX10_odds_20 : decode cX10_odds 20 = .ok (.aload_n 0, 1) := by decide +kernel
theorem dX10_odds_21 : decode cX10_odds 21 = .ok (.bipush (-2), 2) := by decide +kernel
theorem dX10_odds_23 : decode cX10_odds 23 = .ok (.invokevirtual 66, 3) := by decide +kernel
theorem dX10_odds_26 : decode cX10_odds 26 = .ok (.ireturn, 1) := by decide +kernel
theorem dX10_odds_27 : decode cX10_odds 27 = .ok (.aload_n 0, 1) := by decide +kernel
theorem dX10_odds_28 : decode cX10_odds 28 = .ok (.iload_n 1, 1) := by decide +kernel
theorem dX10_odds_29 : decode cX10_odds 29 = .ok (.iload_n 2, 1) := by decide +kernel
theorem dX10_odds_30 : decode cX10_odds 30 = .ok (.iload_n 3, 1) := by decide +kernel
theorem dX10_odds_31 : decode cX10_odds 31 = .ok (.invokevirtual 139, 3) := by decide +kernel
theorem dX10_odds_34 : decode cX10_odds 34 = .ok (.aload_n 0, 1) := by decide +kernel
theorem dX10_odds_35 : decode cX10_odds 35 = .ok (.getfield 41, 3) := by decide +kernel
theorem dX10_odds_38 : decode cX10_odds 38 = .ok (.iload 4, 2) := by decide +kernel
theorem dX10_odds_40 : decode cX10_odds 40 = .ok (.invokevirtual 143, 3) := by decide +kernel
theorem dX10_odds_43 : decode cX10_odds 43 = .ok (.ireturn, 1) := by decide +kernel
theorem dX10_mean_0 : decode cX10_mean 0 = .ok (.aload_n 0, 1) := by decide +kernel
theorem dX10_mean_1 : decode cX10_mean 1 = .ok (.iload_n 1, 1) := by decide +kernel
theorem dX10_mean_2 : decode cX10_mean 2 = .ok (.iload_n 2, 1) := by decide +kernel
theorem dX10_mean_3 : decode cX10_mean 3 = .ok (.iload_n 3, 1) := by decide +kernel
theorem dX10_mean_4 : decode cX10_mean 4 = .ok (.invokevirtual 119, 3) := by decide +kernel
theorem dX10_mean_7 : decode cX10_mean 7 = .ok (.ifCond .eq 11, 3) := by decide +kernel
theorem dX10_mean_10 : decode cX10_mean 10 = .ok (.iload 4, 2) := by decide +kernel
theorem dX10_mean_12 : decode cX10_mean 12 = .ok (.invokestatic 132, 3) := by decide +kernel
theorem dX10_mean_15 : decode cX10_mean 15 = .ok (.ifCond .ne 10, 3) := by decide +kernel
theorem dX10_mean_18 : decode cX10_mean 18 = .ok (.aload_n 0, 1) := by decide +kernel
theorem dX10_mean_19 : decode cX10_mean 19 = .ok (.bipush (-2), 2) := by decide +kernel
theorem dX10_mean_21 : decode cX10_mean 21 = .ok (.invokevirtual 66, 3) := by decide +kernel
theorem dX10_mean_24 : decode cX10_mean 24 = .ok (.ireturn, 1) := by decide +kernel
theorem dX10_mean_25 : decode cX10_mean 25 = .ok (.aload_n 0, 1) := by decide +kernel
theorem dX10_mean_26 : decode cX10_mean 26 = .ok (.iload_n 1, 1) := by decide +kernel
theorem dX10_mean_27 : decode cX10_mean 27 = .ok (.iload_n 2, 1) := by decide +kernel
theorem dX10_mean_28 : decode cX10_mean 28 = .ok (.iload_n 3, 1) := by decide +kernel
theorem dX10_mean_29 : decode cX10_mean 29 = .ok (.invokevirtual 139, 3) := by decide +kernel
theorem dX10_mean_32 : decode cX10_mean 32 = .ok (.aload_n 0, 1) := by decide +kernel
theorem dX10_mean_33 : decode cX10_mean 33 = .ok (.getfield 41, 3) := by decide +kernel
theorem dX10_mean_36 : decode cX10_mean 36 = .ok (.iload 4, 2) := by decide +kernel
theorem dX10_mean_38 : decode cX10_mean 38 = .ok (.invokevirtual 146, 3) := by decide +kernel
theorem dX10_mean_41 : decode cX10_mean 41 = .ok (.ireturn, 1) := by decide +kernel
theorem dX10_best_0 : decode cX10_best 0 = .ok (.iload_n 1, 1) := by decide +kernel
theorem dX10_best_1 : decode cX10_best 1 = .ok (.iconst (-1), 1) := by decide +kernel
theorem dX10_best_2 : decode cX10_best 2 = .ok (.if_icmp .eq 17, 3) := by decide +kernel
theorem dX10_best_5 : decode cX10_best 5 = .ok (.aload_n 0, 1) := by decide +kernel
theorem dX10_best_6 : decode cX10_best 6 = .ok (.getfield 10, 3) := by decide +kernel
theorem dX10_best_9 : decode cX10_best 9 = .ok (.getfield 70, 3) := by decide +kernel
theorem dX10_best_12 : decode cX10_best 12 = .ok (.iload_n 1, 1) := by decide +kernel
theorem dX10_best_13 : decode cX10_best 13 = .ok (.invokevirtual 149, 3) := by decide +kernel
theorem dX10_best_16 : decode cX10_best 16 = .ok (.ifCond .eq 7, 3) := by decide +kernel
theorem dX10_best_19 : decode cX10_best 19 = .ok (.iconst 1, 1) := by decide +kernel
theorem dX10_best_20 : decode cX10_best 20 = .ok (.goto 4, 3) := by decide +kernel
theorem dX10_best_23 : decode cX10_best 23 = .ok (.iconst 0, 1) := by decide +kernel
theorem dX10_best_24 : decode cX10_best 24 = .ok (.istore_n 3, 1) := by decide +kernel
theorem dX10_best_25 : decode cX10_best 25 = .ok (.iload_n 3, 1) := by decide +kernel
theorem dX10_best_26 : decode cX10_best 26 = .ok (.ifCond .eq 12, 3) := by decide +kernel
theorem dX10_best_29 : decode cX10_best 29 = .ok (.iload_n 2, 1) := by decide +kernel
theorem dX10_best_30 : decode cX10_best 30 = .ok (.iconst 0, 1) := by decide +kernel
theorem dX10_best_31 : decode cX10_best 31 = .ok (.iconst 4, 1) := by decide +kernel
theorem dX10_best_32 : decode cX10_best 32 = .ok (.invokestatic 62, 3) := by decide +kernel
theorem dX10_best_35 : decode cX10_best 35 = .ok (.ifCond .ne 10, 3) := by decide +kernel
theorem dX10_best_38 : decode cX10_best 38 = .ok (.aload_n 0, 1) := by decide +kernel
theorem dX10_best_39 : decode cX10_best 39 = .ok (.bipush (-10), 2) := by decide +kernel
theorem dX10_best_41 : decode cX10_best 41 = .ok (.invokevirtual 66, 3) := by decide +kernel
theorem dX10_best_44 : decode cX10_best 44 = .ok (.ireturn, 1) := by decide +kernel
theorem dX10_best_45 : decode cX10_best 45 = .ok (.aload_n 0, 1) := by decide +kernel
theorem dX10_best_46 : decode cX10_best 46 = .ok (.getfield 48, 3) := by decide +kernel
theorem dX10_best_49 : decode cX10_best 49 = .ok (.aload_n 0, 1) := by decide +kernel
theorem dX10_best_50 : decode cX10_best 50 = .ok (.getfield 10, 3) := by decide +kernel
theorem dX10_best_53 : decode cX10_best 53 = .ok (.getfield 70, 3) := by decide +kernel
theorem dX10_best_56 : decode cX10_best 56 = .ok (.aload_n 0, 1) := by decide +kernel
theorem dX10_best_57 : decode cX10_best 57 = .ok (.getfield 41, 3) := by decide +kernel
theorem dX10_best_60 : decode cX10_best 60 = .ok (.invokevirtual 152, 3) := by decide +kernel
theorem dX10_best_63 : decode cX10_best 63 = .ok (.iload_n 1, 1) := by decide +kernel
theorem dX10_best_64 : decode cX10_best 64 = .ok (.iconst (-1), 1) := by decide +kernel
theorem dX10_best_65 : decode cX10_best 65 = .ok (.if_icmp .ne 10, 3) := by decide +kernel
theorem dX10_best_68 : decode cX10_best 68 = .ok (.aload_n 0, 1) := by decide +kernel
theorem dX10_best_69 : decode cX10_best 69 = .ok (.invokevirtual 156, 3) := by decide +kernel
theorem dX10_best_72 : decode cX10_best 72 = .ok (.goto 4, 3) := by decide +kernel
theorem dX10_best_75 : decode cX10_best 75 = .ok (.iload_n 1, 1) := by decide +kernel
theorem dX10_best_76 : decode cX10_best 76 = .ok (.istore 4, 2) := by decide +kernel
theorem dX10_best_78 : decode cX10_best 78 = .ok (.iload 4, 2) := by decide +kernel
theorem dX10_best_80 : decode cX10_best 80 = .ok (.iconst (-1), 1) := by decide +kernel
theorem dX10_best_81 : decode cX10_best 81 = .ok (.if_icmp .ne 7, 3) := by decide +kernel
theorem dX10_best_84 : decode cX10_best 84 = .ok (.iconst (-1), 1) := by decide +kernel
theorem dX10_best_85 : decode cX10_best 85 = .ok (.goto 20, 3) := by decide +kernel
theorem dX10_best_88 : decode cX10_best 88 = .ok (.aload_n 0, 1) := by decide +kernel
theorem dX10_best_89 : decode cX10_best 89 = .ok (.getfield 48, 3) := by decide +kernel
theorem dX10_best_92 : decode cX10_best 92 = .ok (.aload_n 0, 1) := by decide +kernel
theorem dX10_best_93 : decode cX10_best 93 = .ok (.getfield 10, 3) := by decide +kernel
theorem dX10_best_96 : decode cX10_best 96 = .ok (.getfield 70, 3) := by decide +kernel
theorem dX10_best_99 : decode cX10_best 99 = .ok (.iload 4, 2) := by decide +kernel
theorem dX10_best_101 : decode cX10_best 101 = .ok (.iload_n 2, 1) := by decide +kernel
theorem dX10_best_102 : decode cX10_best 102 = .ok (.invokevirtual 159, 3) := by decide +kernel
theorem dX10_best_105 : decode cX10_best 105 = .ok (.ireturn, 1) := by decide +kernel
theorem dX10_line_0 : decode cX10_line 0 = .ok (.aload_n 0, 1) := by decide +kernel
theorem dX10_line_1 : decode cX10_line 1 = .ok (.iload_n 1, 1) := by decide +kernel
theorem dX10_line_2 : decode cX10_line 2 = .ok (.iload_n 2, 1) := by decide +kernel
theorem dX10_line_3 : decode cX10_line 3 = .ok (.iload_n 3, 1) := by decide +kernel
theorem dX10_line_4 : decode cX10_line 4 = .ok (.invokevirtual 119, 3) := by decide +kernel
theorem dX10_line_7 : decode cX10_line 7 = .ok (.ifCond .ne 10, 3) := by decide +kernel
theorem dX10_line_10 : decode cX10_line 10 = .ok (.aload_n 0, 1) := by decide +kernel
theorem dX10_line_11 : decode cX10_line 11 = .ok (.bipush (-2), 2) := by decide +kernel
theorem dX10_line_13 : decode cX10_line 13 = .ok (.invokevirtual 66, 3) := by decide +kernel
theorem dX10_line_16 : decode cX10_line 16 = .ok (.ireturn, 1) := by decide +kernel
theorem dX10_line_17 : decode cX10_line 17 = .ok (.aload_n 0, 1) := by decide +kernel
theorem dX10_line_18 : decode cX10_line 18 = .ok (.iload_n 1, 1) := by decide +kernel
theorem dX10_line_19 : decode cX10_line 19 = .ok (.iload_n 2, 1) := by decide +kernel
theorem dX10_line_20 : decode cX10_line 20 = .ok (.iload_n 3, 1) := by decide +kernel
theorem dX10_line_21 : decode cX10_line 21 = .ok (.invokevirtual 139, 3) := by decide +kernel
theorem dX10_line_24 : decode cX10_line 24 = .ok (.aload_n 0, 1) := by decide +kernel
theorem dX10_line_25 : decode cX10_line 25 = .ok (.getfield 41, 3) := by decide +kernel
theorem dX10_line_28 : decode cX10_line 28 = .ok (.invokevirtual 163, 3) := by decide +kernel
theorem dX10_line_31 : decode cX10_line 31 = .ok (.ireturn, 1) := by decide +kernel
theorem dX10_middle_0 : decode cX10_middle 0 = .ok (.iload_n 1, 1) := by decide +kernel
theorem dX10_middle_1 : decode cX10_middle 1 = .ok (.invokestatic 166, 3) := by decide +kernel
theorem dX10_middle_4 : decode cX10_middle 4 = .ok (.ifCond .eq 23, 3) := by decide +kernel
theorem dX10_middle_7 : decode cX10_middle 7 = .ok (.iload_n 2, 1) := by decide +kernel
theorem dX10_middle_8 : decode cX10_middle 8 = .ok (.iconst 0, 1) := by decide +kernel
theorem dX10_middle_9 : decode cX10_middle 9 = .ok (.bipush 6, 2) := by decide +kernel
theorem dX10_middle_11 : decode cX10_middle 11 = .ok (.invokestatic 62, 3) := by decide +kernel
theorem dX10_middle_14 : decode cX10_middle 14 = .ok (.ifCond .eq 13, 3) := by decide +kernel
theorem dX10_middle_17 : decode cX10_middle 17 = .ok (.iload_n 3, 1) := by decide +kernel
theorem dX10_middle_18 : decode cX10_middle 18 = .ok (.iconst 0, 1) := by decide +kernel
theorem dX10_middle_19 : decode cX10_middle 19 = .ok (.bipush 6, 2) := by decide +kernel
theorem dX10_middle_21 : decode cX10_middle 21 = .ok (.invokestatic 62, 3) := by decide +kernel
theorem dX10_middle_24 : decode cX10_middle 24 = .ok (.ifCond .ne 10, 3) := by decide +kernel
theorem dX10_middle_27 : decode cX10_middle 27 = .ok (.aload_n 0, 1) := by decide +kernel
theorem dX10_middle_28 : decode cX10_middle 28 = .ok (.bipush (-2), 2) := by decide +kernel
theorem dX10_middle_30 : decode cX10_middle 30 = .ok (.invokevirtual 66, 3) := by decide +kernel
theorem dX10_middle_33 : decode cX10_middle 33 = .ok (.ireturn, 1) := by decide +kernel
theorem dX10_middle_34 : decode cX10_middle 34 = .ok (.aload_n 0, 1) := by decide +kernel
theorem dX10_middle_35 : decode cX10_middle 35 = .ok (.getfield 34, 3) := by decide +kernel
theorem dX10_middle_38 : decode cX10_middle 38 = .ok (.iload_n 1, 1) := by decide +kernel
theorem dX10_middle_39 : decode cX10_middle 39 = .ok (.iload_n 2, 1) := by decide +kernel
theorem dX10_middle_40 : decode cX10_middle 40 = .ok (.iload_n 3, 1) := by decide +kernel
theorem dX10_middle_41 : decode cX10_middle 41 = .ok (.invokestatic 169, 3) := by decide +kernel
theorem dX10_middle_44 : decode cX10_middle 44 = .ok (.iload_n 2, 1) := by decide +kernel
theorem dX10_middle_45 : decode cX10_middle 45 = .ok (.invokestatic 175, 3) := by decide +kernel
theorem dX10_middle_48 : decode cX10_middle 48 = .ok (.invokevirtual 179, 3) := by decide +kernel
theorem dX10_middle_51 : decode cX10_middle 51 = .ok (.iconst 1, 1) := by decide +kernel
theorem dX10_middle_52 : decode cX10_middle 52 = .ok (.ireturn, 1) := by decide +kernel
theorem dX10_stop_0 : decode cX10_stop 0 = .ok (.iload_n 1, 1) := by decide +kernel
theorem dX10_stop_1 : decode cX10_stop 1 = .ok (.invokestatic 166, 3) := by decide +kernel
theorem dX10_stop_4 : decode cX10_stop 4 = .ok (.ifCond .eq 13, 3) := by decide +kernel
theorem dX10_stop_7 : decode cX10_stop 7 = .ok (.iload_n 2, 1) := by decide +kernel
theorem dX10_stop_8 : decode cX10_stop 8 = .ok (.iconst 0, 1) := by decide +kernel
theorem dX10_stop_9 : decode cX10_stop 9 = .ok (.bipush 6, 2) := by decide +kernel
theorem dX10_stop_11 : decode cX10_stop 11 = .ok (.invokestatic 62, 3) := by decide +kernel
theorem dX10_stop_14 : decode cX10_stop 14 = .ok (.ifCond .ne 10, 3) := by decide +kernel
theorem dX10_stop_17 : decode cX10_stop 17 = .ok (.aload_n 0, 1) := by decide +kernel
theorem dX10_stop_18 : decode cX10_stop 18 = .ok (.bipush (-2), 2) := by decide +kernel
theorem dX10_stop_20 : decode cX10_stop 20 = .ok (.invokevirtual 66, 3) := by decide +kernel
theorem dX10_stop_23 : decode cX10_stop 23 = .ok (.ireturn, 1) := by decide +kernel
theorem dX10_stop_24 : decode cX10_stop 24 = .ok (.iload_n 1, 1) := by decide +kernel
theorem dX10_stop_25 : decode cX10_stop 25 = .ok (.iload_n 2, 1) := by decide +kernel
theorem dX10_stop_26 : decode cX10_stop 26 = .ok (.invokestatic 183, 3) := by decide +kernel
theorem dX10_stop_29 : decode cX10_stop 29 = .ok (.ireturn, 1) := by decide +kernel
theorem dX10_wins_0 : decode cX10_wins 0 = .ok (.iload_n 1, 1) := by decide +kernel
theorem dX10_wins_1 : decode cX10_wins 1 = .ok (.iconst 0, 1) := by decide +kernel
theorem dX10_wins_2 : decode cX10_wins 2 = .ok (.bipush 40, 2) := by decide +kernel
theorem dX10_wins_4 : decode cX10_wins 4 = .ok (.invokestatic 62, 3) := by decide +kernel
theorem dX10_wins_7 : decode cX10_wins 7 = .ok (.ifCond .eq 65, 3) := by decide +kernel
theorem dX10_wins_10 : decode cX10_wins 10 = .ok (.iload_n 2, 1) := by decide +kernel
theorem dX10_wins_11 : decode cX10_wins 11 = .ok (.iconst 0, 1) := by decide +kernel
theorem dX10_wins_12 : decode cX10_wins 12 = .ok (.bipush 40, 2) := by decide +kernel
theorem dX10_wins_14 : decode cX10_wins 14 = .ok (.invokestatic 62, 3) := by decide +kernel
theorem dX10_wins_17 : decode cX10_wins 17 = .ok (.ifCond .eq 55, 3) := by decide +kernel
theorem dX10_wins_20 : decode cX10_wins 20 = .ok (.iload_n 3, 1) := by decide +kernel
theorem dX10_wins_21 : decode cX10_wins 21 = .ok (.iconst 1, 1) := by decide +kernel
theorem dX10_wins_22 : decode cX10_wins 22 = .ok (.bipush 40, 2) := by decide +kernel
theorem dX10_wins_24 : decode cX10_wins 24 = .ok (.invokestatic 62, 3) := by decide +kernel
theorem dX10_wins_27 : decode cX10_wins 27 = .ok (.ifCond .eq 45, 3) := by decide +kernel
theorem dX10_wins_30 : decode cX10_wins 30 = .ok (.iload 4, 2) := by decide +kernel
theorem dX10_wins_32 : decode cX10_wins 32 = .ok (.iconst 0, 1) := by decide +kernel
theorem dX10_wins_33 : decode cX10_wins 33 = .ok (.bipush 8, 2) := by decide +kernel
theorem dX10_wins_35 : decode cX10_wins 35 = .ok (.invokestatic 62, 3) := by decide +kernel
theorem dX10_wins_38 : decode cX10_wins 38 = .ok (.ifCond .eq 34, 3) := by decide +kernel
theorem dX10_wins_41 : decode cX10_wins 41 = .ok (.iload 5, 2) := by decide +kernel
theorem dX10_wins_43 : decode cX10_wins 43 = .ok (.invokestatic 166, 3) := by decide +kernel
theorem dX10_wins_46 : decode cX10_wins 46 = .ok (.ifCond .eq 26, 3) := by decide +kernel
theorem dX10_wins_49 : decode cX10_wins 49 = .ok (.iload 6, 2) := by decide +kernel
theorem dX10_wins_51 : decode cX10_wins 51 = .ok (.invokestatic 166, 3) := by decide +kernel
theorem dX10_wins_54 : decode cX10_wins 54 = .ok (.ifCond .eq 18, 3) := by decide +kernel
theorem dX10_wins_57 : decode cX10_wins 57 = .ok (.iload 5, 2) := by decide +kernel
theorem dX10_wins_59 : decode cX10_wins 59 = .ok (.iload 6, 2) := by decide +kernel
theorem dX10_wins_61 : decode cX10_wins 61 = .ok (.iadd, 1) := by decide +kernel
theorem dX10_wins_62 : decode cX10_wins 62 = .ok (.invokestatic 166, 3) := by decide +kernel
theorem dX10_wins_65 : decode cX10_wins 65 = .ok (.ifCond .eq 7, 3) := by decide +kernel
theorem dX10_wins_68 : decode cX10_wins 68 = .ok (.iconst 1, 1) := by decide +kernel
theorem dX10_wins_69 : decode cX10_wins 69 = .ok (.goto 4, 3) := by decide +kernel
theorem dX10_wins_72 : decode cX10_wins 72 = .ok (.iconst 0, 1) := by decide +kernel
theorem dX10_wins_73 : decode cX10_wins 73 = .ok (.istore 7, 2) := by decide +kernel
theorem dX10_wins_75 : decode cX10_wins 75 = .ok (.iload 7, 2) := by decide +kernel
theorem dX10_wins_77 : decode cX10_wins 77 = .ok (.ifCond .ne 11, 3) := by decide +kernel
theorem dX10_wins_80 : decode cX10_wins 80 = .ok (.aload_n 0, 1) := by decide +kernel
theorem dX10_wins_81 : decode cX10_wins 81 = .ok (.bipush (-100), 2) := by decide +kernel
theorem dX10_wins_83 : decode cX10_wins 83 = .ok (.invokevirtual 66, 3) := by decide +kernel
theorem dX10_wins_86 : decode cX10_wins 86 = .ok (.i2l, 1) := by decide +kernel
theorem dX10_wins_87 : decode cX10_wins 87 = .ok (.lreturn, 1) := by decide +kernel
theorem dX10_wins_88 : decode cX10_wins 88 = .ok (.iload_n 1, 1) := by decide +kernel
theorem dX10_wins_89 : decode cX10_wins 89 = .ok (.iload_n 3, 1) := by decide +kernel
theorem dX10_wins_90 : decode cX10_wins 90 = .ok (.if_icmp .lt 11, 3) := by decide +kernel
theorem dX10_wins_93 : decode cX10_wins 93 = .ok (.iload 4, 2) := by decide +kernel
theorem dX10_wins_95 : decode cX10_wins 95 = .ok (.invokestatic 175, 3) := by decide +kernel
theorem dX10_wins_98 : decode cX10_wins 98 = .ok (.goto 18, 3) := by decide +kernel
theorem dX10_wins_101 : decode cX10_wins 101 = .ok (.iload_n 3, 1) := by decide +kernel
theorem dX10_wins_102 : decode cX10_wins 102 = .ok (.iload_n 1, 1) := by decide +kernel
theorem dX10_wins_103 : decode cX10_wins 103 = .ok (.isub, 1) := by decide +kernel
theorem dX10_wins_104 : decode cX10_wins 104 = .ok (.iload_n 3, 1) := by decide +kernel
theorem dX10_wins_105 : decode cX10_wins 105 = .ok (.iload_n 2, 1) := by decide +kernel
theorem dX10_wins_106 : decode cX10_wins 106 = .ok (.isub, 1) := by decide +kernel
theorem dX10_wins_107 : decode cX10_wins 107 = .ok (.iload 4, 2) := by decide +kernel
theorem dX10_wins_109 : decode cX10_wins 109 = .ok (.iload 5, 2) := by decide +kernel
theorem dX10_wins_111 : decode cX10_wins 111 = .ok (.iload 6, 2) := by decide +kernel
theorem dX10_wins_113 : decode cX10_wins 113 = .ok (.invokestatic 187, 3) := by decide +kernel
theorem dX10_wins_116 : decode cX10_wins 116 = .ok (.lreturn, 1) := by decide +kernel
theorem dX10_twofold_0 : decode cX10_twofold 0 = .ok (.iload_n 1, 1) := by decide +kernel
theorem dX10_twofold_1 : decode cX10_twofold 1 = .ok (.iconst 0, 1) := by decide +kernel
theorem dX10_twofold_2 : decode cX10_twofold 2 = .ok (.bipush 20, 2) := by decide +kernel
theorem dX10_twofold_4 : decode cX10_twofold 4 = .ok (.invokestatic 62, 3) := by decide +kernel
theorem dX10_twofold_7 : decode cX10_twofold 7 = .ok (.ifCond .eq 32, 3) := by decide +kernel
theorem dX10_twofold_10 : decode cX10_twofold 10 = .ok (.iload_n 2, 1) := by decide +kernel
theorem dX10_twofold_11 : decode cX10_twofold 11 = .ok (.iconst 0, 1) := by decide +kernel
theorem dX10_twofold_12 : decode cX10_twofold 12 = .ok (.bipush 8, 2) := by decide +kernel
theorem dX10_twofold_14 : decode cX10_twofold 14 = .ok (.invokestatic 62, 3) := by decide +kernel
theorem dX10_twofold_17 : decode cX10_twofold 17 = .ok (.ifCond .eq 22, 3) := by decide +kernel
theorem dX10_twofold_20 : decode cX10_twofold 20 = .ok (.iload_n 3, 1) := by decide +kernel
theorem dX10_twofold_21 : decode cX10_twofold 21 = .ok (.invokestatic 166, 3) := by decide +kernel
theorem dX10_twofold_24 : decode cX10_twofold 24 = .ok (.ifCond .eq 15, 3) := by decide +kernel
theorem dX10_twofold_27 : decode cX10_twofold 27 = .ok (.iload 4, 2) := by decide +kernel
theorem dX10_twofold_29 : decode cX10_twofold 29 = .ok (.invokestatic 166, 3) := by decide +kernel
theorem dX10_twofold_32 : decode cX10_twofold 32 = .ok (.ifCond .eq 7, 3) := by decide +kernel
theorem dX10_twofold_35 : decode cX10_twofold 35 = .ok (.iconst 1, 1) := by decide +kernel
theorem dX10_twofold_36 : decode cX10_twofold 36 = .ok (.goto 4, 3) := by decide +kernel
theorem dX10_twofold_39 : decode cX10_twofold 39 = .ok (.iconst 0, 1) := by decide +kernel
theorem dX10_twofold_40 : decode cX10_twofold 40 = .ok (.istore 5, 2) := by decide +kernel
theorem dX10_twofold_42 : decode cX10_twofold 42 = .ok (.iload 5, 2) := by decide +kernel
theorem dX10_twofold_44 : decode cX10_twofold 44 = .ok (.ifCond .ne 10, 3) := by decide +kernel
theorem dX10_twofold_47 : decode cX10_twofold 47 = .ok (.aload_n 0, 1) := by decide +kernel
theorem dX10_twofold_48 : decode cX10_twofold 48 = .ok (.bipush (-2), 2) := by decide +kernel
theorem dX10_twofold_50 : decode cX10_twofold 50 = .ok (.invokevirtual 66, 3) := by decide +kernel
theorem dX10_twofold_53 : decode cX10_twofold 53 = .ok (.ireturn, 1) := by decide +kernel
theorem dX10_twofold_54 : decode cX10_twofold 54 = .ok (.aload_n 0, 1) := by decide +kernel
theorem dX10_twofold_55 : decode cX10_twofold 55 = .ok (.getfield 52, 3) := by decide +kernel
theorem dX10_twofold_58 : decode cX10_twofold 58 = .ok (.iload_n 1, 1) := by decide +kernel
theorem dX10_twofold_59 : decode cX10_twofold 59 = .ok (.iload_n 2, 1) := by decide +kernel
theorem dX10_twofold_60 : decode cX10_twofold 60 = .ok (.iload_n 3, 1) := by decide +kernel
theorem dX10_twofold_61 : decode cX10_twofold 61 = .ok (.iload 4, 2) := by decide +kernel
theorem dX10_twofold_63 : decode cX10_twofold 63 = .ok (.invokestatic 191, 3) := by decide +kernel
theorem dX10_twofold_66 : decode cX10_twofold 66 = .ok (.istore 6, 2) := by decide +kernel
theorem dX10_twofold_68 : decode cX10_twofold 68 = .ok (.aload_n 0, 1) := by decide +kernel
theorem dX10_twofold_69 : decode cX10_twofold 69 = .ok (.getfield 34, 3) := by decide +kernel
theorem dX10_twofold_72 : decode cX10_twofold 72 = .ok (.aload_n 0, 1) := by decide +kernel
theorem dX10_twofold_73 : decode cX10_twofold 73 = .ok (.getfield 52, 3) := by decide +kernel
theorem dX10_twofold_76 : decode cX10_twofold 76 = .ok (.iload_n 1, 1) := by decide +kernel
theorem dX10_twofold_77 : decode cX10_twofold 77 = .ok (.laload, 1) := by decide +kernel
theorem dX10_twofold_78 : decode cX10_twofold 78 = .ok (.iload_n 2, 1) := by decide +kernel
theorem dX10_twofold_79 : decode cX10_twofold 79 = .ok (.invokestatic 175, 3) := by decide +kernel
theorem dX10_twofold_82 : decode cX10_twofold 82 = .ok (.invokevirtual 179, 3) := by decide +kernel
theorem dX10_twofold_85 : decode cX10_twofold 85 = .ok (.iload 6, 2) := by decide +kernel
theorem dX10_twofold_87 : decode cX10_twofold 87 = .ok (.ifCond .eq 7, 3) := by decide +kernel
theorem dX10_twofold_90 : decode cX10_twofold 90 = .ok (.iconst 1, 1) := by decide +kernel
theorem dX10_twofold_91 : decode cX10_twofold 91 = .ok (.goto 4, 3) := by decide +kernel
theorem dX10_twofold_94 : decode cX10_twofold 94 = .ok (.iconst 0, 1) := by decide +kernel
theorem dX10_twofold_95 : decode cX10_twofold 95 = .ok (.ireturn, 1) := by decide +kernel
theorem dX10_cars_0 : decode cX10_cars 0 = .ok (.iload_n 1, 1) := by decide +kernel
theorem dX10_cars_1 : decode cX10_cars 1 = .ok (.iconst 0, 1) := by decide +kernel
theorem dX10_cars_2 : decode cX10_cars 2 = .ok (.bipush 40, 2) := by decide +kernel
theorem dX10_cars_4 : decode cX10_cars 4 = .ok (.invokestatic 62, 3) := by decide +kernel
theorem dX10_cars_7 : decode cX10_cars 7 = .ok (.ifCond .eq 23, 3) := by decide +kernel
theorem dX10_cars_10 : decode cX10_cars 10 = .ok (.iload_n 2, 1) := by decide +kernel
theorem dX10_cars_11 : decode cX10_cars 11 = .ok (.iconst 0, 1) := by decide +kernel
theorem dX10_cars_12 : decode cX10_cars 12 = .ok (.bipush 10, 2) := by decide +kernel
theorem dX10_cars_14 : decode cX10_cars 14 = .ok (.invokestatic 62, 3) := by decide +kernel
theorem dX10_cars_17 : decode cX10_cars 17 = .ok (.ifCond .eq 13, 3) := by decide +kernel
theorem dX10_cars_20 : decode cX10_cars 20 = .ok (.iload_n 3, 1) := by decide +kernel
theorem dX10_cars_21 : decode cX10_cars 21 = .ok (.iconst 0, 1) := by decide +kernel
theorem dX10_cars_22 : decode cX10_cars 22 = .ok (.bipush 10, 2) := by decide +kernel
theorem dX10_cars_24 : decode cX10_cars 24 = .ok (.invokestatic 62, 3) := by decide +kernel
theorem dX10_cars_27 : decode cX10_cars 27 = .ok (.ifCond .ne 10, 3) := by decide +kernel
theorem dX10_cars_30 : decode cX10_cars 30 = .ok (.aload_n 0, 1) := by decide +kernel
theorem dX10_cars_31 : decode cX10_cars 31 = .ok (.bipush (-2), 2) := by decide +kernel
theorem dX10_cars_33 : decode cX10_cars 33 = .ok (.invokevirtual 66, 3) := by decide +kernel
theorem dX10_cars_36 : decode cX10_cars 36 = .ok (.ireturn, 1) := by decide +kernel
theorem dX10_cars_37 : decode cX10_cars 37 = .ok (.aload_n 0, 1) := by decide +kernel
theorem dX10_cars_38 : decode cX10_cars 38 = .ok (.getfield 34, 3) := by decide +kernel
theorem dX10_cars_41 : decode cX10_cars 41 = .ok (.iload_n 1, 1) := by decide +kernel
theorem dX10_cars_42 : decode cX10_cars 42 = .ok (.iload_n 2, 1) := by decide +kernel
theorem dX10_cars_43 : decode cX10_cars 43 = .ok (.imul, 1) := by decide +kernel
theorem dX10_cars_44 : decode cX10_cars 44 = .ok (.iload_n 3, 1) := by decide +kernel
theorem dX10_cars_45 : decode cX10_cars 45 = .ok (.imul, 1) := by decide +kernel
theorem dX10_cars_46 : decode cX10_cars 46 = .ok (.i2l, 1) := by decide +kernel
theorem dX10_cars_47 : decode cX10_cars 47 = .ok (.ldc2_w 195, 3) := by decide +kernel
theorem dX10_cars_50 : decode cX10_cars 50 = .ok (.invokevirtual 179, 3) := by decide +kernel
theorem dX10_cars_53 : decode cX10_cars 53 = .ok (.iconst 1, 1) := by decide +kernel
theorem dX10_cars_54 : decode cX10_cars 54 = .ok (.ireturn, 1) := by decide +kernel
theorem dX10_judge_0 : decode cX10_judge 0 = .ok (.aload_n 0, 1) := by decide +kernel
theorem dX10_judge_1 : decode cX10_judge 1 = .ok (.iload_n 1, 1) := by decide +kernel
theorem dX10_judge_2 : decode cX10_judge 2 = .ok (.iload_n 2, 1) := by decide +kernel
theorem dX10_judge_3 : decode cX10_judge 3 = .ok (.iload_n 3, 1) := by decide +kernel
theorem dX10_judge_4 : decode cX10_judge 4 = .ok (.invokevirtual 119, 3) := by decide +kernel
theorem dX10_judge_7 : decode cX10_judge 7 = .ok (.ifCond .eq 14, 3) := by decide +kernel
theorem dX10_judge_10 : decode cX10_judge 10 = .ok (.iload 4, 2) := by decide +kernel
theorem dX10_judge_12 : decode cX10_judge 12 = .ok (.iconst 0, 1) := by decide +kernel
theorem dX10_judge_13 : decode cX10_judge 13 = .ok (.bipush 30, 2) := by decide +kernel
theorem dX10_judge_15 : decode cX10_judge 15 = .ok (.invokestatic 62, 3) := by decide +kernel
theorem dX10_judge_18 : decode cX10_judge 18 = .ok (.ifCond .ne 10, 3) := by decide +kernel
theorem dX10_judge_21 : decode cX10_judge 21 = .ok (.aload_n 0, 1) := by decide +kernel
theorem dX10_judge_22 : decode cX10_judge 22 = .ok (.bipush (-2), 2) := by decide +kernel
theorem dX10_judge_24 : decode cX10_judge 24 = .ok (.invokevirtual 66, 3) := by decide +kernel
theorem dX10_judge_27 : decode cX10_judge 27 = .ok (.ireturn, 1) := by decide +kernel
theorem dX10_judge_28 : decode cX10_judge 28 = .ok (.aload_n 0, 1) := by decide +kernel
theorem dX10_judge_29 : decode cX10_judge 29 = .ok (.iload_n 1, 1) := by decide +kernel
theorem dX10_judge_30 : decode cX10_judge 30 = .ok (.iload_n 2, 1) := by decide +kernel
theorem dX10_judge_31 : decode cX10_judge 31 = .ok (.iload_n 3, 1) := by decide +kernel
theorem dX10_judge_32 : decode cX10_judge 32 = .ok (.invokevirtual 139, 3) := by decide +kernel
theorem dX10_judge_35 : decode cX10_judge 35 = .ok (.aload_n 0, 1) := by decide +kernel
theorem dX10_judge_36 : decode cX10_judge 36 = .ok (.getfield 41, 3) := by decide +kernel
theorem dX10_judge_39 : decode cX10_judge 39 = .ok (.iload 4, 2) := by decide +kernel
theorem dX10_judge_41 : decode cX10_judge 41 = .ok (.invokevirtual 197, 3) := by decide +kernel
theorem dX10_judge_44 : decode cX10_judge 44 = .ok (.ifCond .ne 8, 3) := by decide +kernel
theorem dX10_judge_47 : decode cX10_judge 47 = .ok (.aload_n 0, 1) := by decide +kernel
theorem dX10_judge_48 : decode cX10_judge 48 = .ok (.invokevirtual 200, 3) := by decide +kernel
theorem dX10_judge_51 : decode cX10_judge 51 = .ok (.ireturn, 1) := by decide +kernel
theorem dX10_judge_52 : decode cX10_judge 52 = .ok (.aload_n 0, 1) := by decide +kernel
theorem dX10_judge_53 : decode cX10_judge 53 = .ok (.getfield 34, 3) := by decide +kernel
theorem dX10_judge_56 : decode cX10_judge 56 = .ok (.aload_n 0, 1) := by decide +kernel
theorem dX10_judge_57 : decode cX10_judge 57 = .ok (.getfield 41, 3) := by decide +kernel
theorem dX10_judge_60 : decode cX10_judge 60 = .ok (.iload 4, 2) := by decide +kernel
theorem dX10_judge_62 : decode cX10_judge 62 = .ok (.invokevirtual 203, 3) := by decide +kernel
theorem dX10_judge_65 : decode cX10_judge 65 = .ok (.i2l, 1) := by decide +kernel
theorem dX10_judge_66 : decode cX10_judge 66 = .ok (.aload_n 0, 1) := by decide +kernel
theorem dX10_judge_67 : decode cX10_judge 67 = .ok (.getfield 41, 3) := by decide +kernel
theorem dX10_judge_70 : decode cX10_judge 70 = .ok (.iload 4, 2) := by decide +kernel
theorem dX10_judge_72 : decode cX10_judge 72 = .ok (.invokevirtual 197, 3) := by decide +kernel
theorem dX10_judge_75 : decode cX10_judge 75 = .ok (.i2l, 1) := by decide +kernel
theorem dX10_judge_76 : decode cX10_judge 76 = .ok (.invokevirtual 179, 3) := by decide +kernel
theorem dX10_judge_79 : decode cX10_judge 79 = .ok (.iconst 1, 1) := by decide +kernel
theorem dX10_judge_80 : decode cX10_judge 80 = .ok (.ireturn, 1) := by decide +kernel
theorem dX10_lot_0 : decode cX10_lot 0 = .ok (.iload_n 1, 1) := by decide +kernel
theorem dX10_lot_1 : decode cX10_lot 1 = .ok (.iconst 1, 1) := by decide +kernel
theorem dX10_lot_2 : decode cX10_lot 2 = .ok (.bipush 12, 2) := by decide +kernel
theorem dX10_lot_4 : decode cX10_lot 4 = .ok (.invokestatic 62, 3) := by decide +kernel
theorem dX10_lot_7 : decode cX10_lot 7 = .ok (.ifCond .eq 36, 3) := by decide +kernel
theorem dX10_lot_10 : decode cX10_lot 10 = .ok (.iload_n 3, 1) := by decide +kernel
theorem dX10_lot_11 : decode cX10_lot 11 = .ok (.iconst 1, 1) := by decide +kernel
theorem dX10_lot_12 : decode cX10_lot 12 = .ok (.bipush 12, 2) := by decide +kernel
theorem dX10_lot_14 : decode cX10_lot 14 = .ok (.invokestatic 62, 3) := by decide +kernel
theorem dX10_lot_17 : decode cX10_lot 17 = .ok (.ifCond .eq 26, 3) := by decide +kernel
theorem dX10_lot_20 : decode cX10_lot 20 = .ok (.iload_n 2, 1) := by decide +kernel
theorem dX10_lot_21 : decode cX10_lot 21 = .ok (.iconst 0, 1) := by decide +kernel
theorem dX10_lot_22 : decode cX10_lot 22 = .ok (.iload_n 1, 1) := by decide +kernel
theorem dX10_lot_23 : decode cX10_lot 23 = .ok (.invokestatic 62, 3) := by decide +kernel
theorem dX10_lot_26 : decode cX10_lot 26 = .ok (.ifCond .eq 17, 3) := by decide +kernel
theorem dX10_lot_29 : decode cX10_lot 29 = .ok (.iload 4, 2) := by decide +kernel
theorem dX10_lot_31 : decode cX10_lot 31 = .ok (.iconst 0, 1) := by decide +kernel
theorem dX10_lot_32 : decode cX10_lot 32 = .ok (.iload_n 3, 1) := by decide +kernel
theorem dX10_lot_33 : decode cX10_lot 33 = .ok (.invokestatic 62, 3) := by decide +kernel
theorem dX10_lot_36 : decode cX10_lot 36 = .ok (.ifCond .eq 7, 3) := by decide +kernel
theorem dX10_lot_39 : decode cX10_lot 39 = .ok (.iconst 1, 1) := by decide +kernel
theorem dX10_lot_40 : decode cX10_lot 40 = .ok (.goto 4, 3) := by decide +kernel
theorem dX10_lot_43 : decode cX10_lot 43 = .ok (.iconst 0, 1) := by decide +kernel
theorem dX10_lot_44 : decode cX10_lot 44 = .ok (.istore 5, 2) := by decide +kernel
theorem dX10_lot_46 : decode cX10_lot 46 = .ok (.iload 5, 2) := by decide +kernel
theorem dX10_lot_48 : decode cX10_lot 48 = .ok (.ifCond .ne 10, 3) := by decide +kernel
theorem dX10_lot_51 : decode cX10_lot 51 = .ok (.aload_n 0, 1) := by decide +kernel
theorem dX10_lot_52 : decode cX10_lot 52 = .ok (.bipush (-2), 2) := by decide +kernel
theorem dX10_lot_54 : decode cX10_lot 54 = .ok (.invokevirtual 66, 3) := by decide +kernel
theorem dX10_lot_57 : decode cX10_lot 57 = .ok (.ireturn, 1) := by decide +kernel
theorem dX10_lot_58 : decode cX10_lot 58 = .ok (.aload_n 0, 1) := by decide +kernel
theorem dX10_lot_59 : decode cX10_lot 59 = .ok (.getfield 34, 3) := by decide +kernel
theorem dX10_lot_62 : decode cX10_lot 62 = .ok (.iload_n 1, 1) := by decide +kernel
theorem dX10_lot_63 : decode cX10_lot 63 = .ok (.iload_n 2, 1) := by decide +kernel
theorem dX10_lot_64 : decode cX10_lot 64 = .ok (.iload_n 3, 1) := by decide +kernel
theorem dX10_lot_65 : decode cX10_lot 65 = .ok (.iload 4, 2) := by decide +kernel
theorem dX10_lot_67 : decode cX10_lot 67 = .ok (.invokestatic 206, 3) := by decide +kernel
theorem dX10_lot_70 : decode cX10_lot 70 = .ok (.iload_n 1, 1) := by decide +kernel
theorem dX10_lot_71 : decode cX10_lot 71 = .ok (.iload_n 3, 1) := by decide +kernel
theorem dX10_lot_72 : decode cX10_lot 72 = .ok (.iadd, 1) := by decide +kernel
theorem dX10_lot_73 : decode cX10_lot 73 = .ok (.iload_n 2, 1) := by decide +kernel
theorem dX10_lot_74 : decode cX10_lot 74 = .ok (.iload 4, 2) := by decide +kernel
theorem dX10_lot_76 : decode cX10_lot 76 = .ok (.iadd, 1) := by decide +kernel
theorem dX10_lot_77 : decode cX10_lot 77 = .ok (.invokestatic 210, 3) := by decide +kernel
theorem dX10_lot_80 : decode cX10_lot 80 = .ok (.invokevirtual 179, 3) := by decide +kernel
theorem dX10_lot_83 : decode cX10_lot 83 = .ok (.iconst 1, 1) := by decide +kernel
theorem dX10_lot_84 : decode cX10_lot 84 = .ok (.ireturn, 1) := by decide +kernel
theorem dX10_both_0 : decode cX10_both 0 = .ok (.iload_n 1, 1) := by decide +kernel
theorem dX10_both_1 : decode cX10_both 1 = .ok (.iconst 0, 1) := by decide +kernel
theorem dX10_both_2 : decode cX10_both 2 = .ok (.iconst 4, 1) := by decide +kernel
theorem dX10_both_3 : decode cX10_both 3 = .ok (.invokestatic 62, 3) := by decide +kernel
theorem dX10_both_6 : decode cX10_both 6 = .ok (.ifCond .eq 37, 3) := by decide +kernel
theorem dX10_both_9 : decode cX10_both 9 = .ok (.iload_n 2, 1) := by decide +kernel
theorem dX10_both_10 : decode cX10_both 10 = .ok (.invokestatic 166, 3) := by decide +kernel
theorem dX10_both_13 : decode cX10_both 13 = .ok (.ifCond .eq 30, 3) := by decide +kernel
theorem dX10_both_16 : decode cX10_both 16 = .ok (.iload_n 3, 1) := by decide +kernel
theorem dX10_both_17 : decode cX10_both 17 = .ok (.invokestatic 166, 3) := by decide +kernel
theorem dX10_both_20 : decode cX10_both 20 = .ok (.ifCond .eq 23, 3) := by decide +kernel
theorem dX10_both_23 : decode cX10_both 23 = .ok (.iload 4, 2) := by decide +kernel
theorem dX10_both_25 : decode cX10_both 25 = .ok (.invokestatic 166, 3) := by decide +kernel
theorem dX10_both_28 : decode cX10_both 28 = .ok (.ifCond .eq 15, 3) := by decide +kernel
theorem dX10_both_31 : decode cX10_both 31 = .ok (.iload 5, 2) := by decide +kernel
theorem dX10_both_33 : decode cX10_both 33 = .ok (.invokestatic 166, 3) := by decide +kernel
theorem dX10_both_36 : decode cX10_both 36 = .ok (.ifCond .eq 7, 3) := by decide +kernel
theorem dX10_both_39 : decode cX10_both 39 = .ok (.iconst 1, 1) := by decide +kernel
theorem dX10_both_40 : decode cX10_both 40 = .ok (.goto 4, 3) := by decide +kernel
theorem dX10_both_43 : decode cX10_both 43 = .ok (.iconst 0, 1) := by decide +kernel
theorem dX10_both_44 : decode cX10_both 44 = .ok (.istore 6, 2) := by decide +kernel
theorem dX10_both_46 : decode cX10_both 46 = .ok (.iload 6, 2) := by decide +kernel
theorem dX10_both_48 : decode cX10_both 48 = .ok (.ifCond .ne 10, 3) := by decide +kernel
theorem dX10_both_51 : decode cX10_both 51 = .ok (.aload_n 0, 1) := by decide +kernel
theorem dX10_both_52 : decode cX10_both 52 = .ok (.bipush (-2), 2) := by decide +kernel
theorem dX10_both_54 : decode cX10_both 54 = .ok (.invokevirtual 66, 3) := by decide +kernel
theorem dX10_both_57 : decode cX10_both 57 = .ok (.ireturn, 1) := by decide +kernel
theorem dX10_both_58 : decode cX10_both 58 = .ok (.iload_n 1, 1) := by decide +kernel
theorem dX10_both_59 : decode cX10_both 59 = .ok (.iconst 1, 1) := by decide +kernel
theorem dX10_both_60 : decode cX10_both 60 = .ok (.iload_n 2, 1) := by decide +kernel
theorem dX10_both_61 : decode cX10_both 61 = .ok (.iconst 1, 1) := by decide +kernel
theorem dX10_both_62 : decode cX10_both 62 = .ok (.iload 4, 2) := by decide +kernel
theorem dX10_both_64 : decode cX10_both 64 = .ok (.invokestatic 214, 3) := by decide +kernel
theorem dX10_both_67 : decode cX10_both 67 = .ok (.istore 7, 2) := by decide +kernel
theorem dX10_both_69 : decode cX10_both 69 = .ok (.iload_n 1, 1) := by decide +kernel
theorem dX10_both_70 : decode cX10_both 70 = .ok (.iconst 1, 1) := by decide +kernel
theorem dX10_both_71 : decode cX10_both 71 = .ok (.iload_n 2, 1) := by decide +kernel
theorem dX10_both_72 : decode cX10_both 72 = .ok (.iconst 2, 1) := by decide +kernel
theorem dX10_both_73 : decode cX10_both 73 = .ok (.iload 5, 2) := by decide +kernel
theorem dX10_both_75 : decode cX10_both 75 = .ok (.invokestatic 214, 3) := by decide +kernel
theorem dX10_both_78 : decode cX10_both 78 = .ok (.istore 8, 2) := by decide +kernel
theorem dX10_both_80 : decode cX10_both 80 = .ok (.iload_n 1, 1) := by decide +kernel
theorem dX10_both_81 : decode cX10_both 81 = .ok (.iconst 2, 1) := by decide +kernel
theorem dX10_both_82 : decode cX10_both 82 = .ok (.iload_n 3, 1) := by decide +kernel
theorem dX10_both_83 : decode cX10_both 83 = .ok (.iconst 1, 1) := by decide +kernel
theorem dX10_both_84 : decode cX10_both 84 = .ok (.iload 4, 2) := by decide +kernel
theorem dX10_both_86 : decode cX10_both 86 = .ok (.invokestatic 214, 3) := by decide +kernel
theorem dX10_both_89 : decode cX10_both 89 = .ok (.istore 9, 2) := by decide +kernel
theorem dX10_both_91 : decode cX10_both 91 = .ok (.iload_n 1, 1) := by decide +kernel
theorem dX10_both_92 : decode cX10_both 92 = .ok (.iconst 2, 1) := by decide +kernel
theorem dX10_both_93 : decode cX10_both 93 = .ok (.iload_n 3, 1) := by decide +kernel
theorem dX10_both_94 : decode cX10_both 94 = .ok (.iconst 2, 1) := by decide +kernel
theorem dX10_both_95 : decode cX10_both 95 = .ok (.iload 5, 2) := by decide +kernel
theorem dX10_both_97 : decode cX10_both 97 = .ok (.invokestatic 214, 3) := by decide +kernel
theorem dX10_both_100 : decode cX10_both 100 = .ok (.istore 10, 2) := by decide +kernel
theorem dX10_both_102 : decode cX10_both 102 = .ok (.aload_n 0, 1) := by decide +kernel
theorem dX10_both_103 : decode cX10_both 103 = .ok (.iload 7, 2) := by decide +kernel
theorem dX10_both_105 : decode cX10_both 105 = .ok (.iload 8, 2) := by decide +kernel
theorem dX10_both_107 : decode cX10_both 107 = .ok (.iload 9, 2) := by decide +kernel
theorem dX10_both_109 : decode cX10_both 109 = .ok (.iload 10, 2) := by decide +kernel
theorem dX10_both_111 : decode cX10_both 111 = .ok (.invokevirtual 218, 3) := by decide +kernel
theorem dX10_both_114 : decode cX10_both 114 = .ok (.iload 7, 2) := by decide +kernel
theorem dX10_both_116 : decode cX10_both 116 = .ok (.iload 9, 2) := by decide +kernel
theorem dX10_both_118 : decode cX10_both 118 = .ok (.iload 8, 2) := by decide +kernel
theorem dX10_both_120 : decode cX10_both 120 = .ok (.invokestatic 222, 3) := by decide +kernel
theorem dX10_both_123 : decode cX10_both 123 = .ok (.iload 8, 2) := by decide +kernel
theorem dX10_both_125 : decode cX10_both 125 = .ok (.iload 10, 2) := by decide +kernel
theorem dX10_both_127 : decode cX10_both 127 = .ok (.iload 7, 2) := by decide +kernel
theorem dX10_both_129 : decode cX10_both 129 = .ok (.invokestatic 222, 3) := by decide +kernel
theorem dX10_both_132 : decode cX10_both 132 = .ok (.iadd, 1) := by decide +kernel
theorem dX10_both_133 : decode cX10_both 133 = .ok (.iload 9, 2) := by decide +kernel
theorem dX10_both_135 : decode cX10_both 135 = .ok (.iload 7, 2) := by decide +kernel
theorem dX10_both_137 : decode cX10_both 137 = .ok (.iload 10, 2) := by decide +kernel
theorem dX10_both_139 : decode cX10_both 139 = .ok (.invokestatic 222, 3) := by decide +kernel
theorem dX10_both_142 : decode cX10_both 142 = .ok (.iadd, 1) := by decide +kernel
theorem dX10_both_143 : decode cX10_both 143 = .ok (.iload 10, 2) := by decide +kernel
theorem dX10_both_145 : decode cX10_both 145 = .ok (.iload 8, 2) := by decide +kernel
theorem dX10_both_147 : decode cX10_both 147 = .ok (.iload 9, 2) := by decide +kernel
theorem dX10_both_149 : decode cX10_both 149 = .ok (.invokestatic 222, 3) := by decide +kernel
theorem dX10_both_152 : decode cX10_both 152 = .ok (.iadd, 1) := by decide +kernel
theorem dX10_both_153 : decode cX10_both 153 = .ok (.ireturn, 1) := by decide +kernel
theorem dX10_sides_0 : decode cX10_sides 0 = .ok (.iload_n 1, 1) := by decide +kernel
theorem dX10_sides_1 : decode cX10_sides 1 = .ok (.iconst 1, 1) := by decide +kernel
theorem dX10_sides_2 : decode cX10_sides 2 = .ok (.aload_n 0, 1) := by decide +kernel
theorem dX10_sides_3 : decode cX10_sides 3 = .ok (.getfield 10, 3) := by decide +kernel
theorem dX10_sides_6 : decode cX10_sides 6 = .ok (.getfield 70, 3) := by decide +kernel
theorem dX10_sides_9 : decode cX10_sides 9 = .ok (.getfield 74, 3) := by decide +kernel
theorem dX10_sides_12 : decode cX10_sides 12 = .ok (.iconst 1, 1) := by decide +kernel
theorem dX10_sides_13 : decode cX10_sides 13 = .ok (.isub, 1) := by decide +kernel
theorem dX10_sides_14 : decode cX10_sides 14 = .ok (.invokestatic 62, 3) := by decide +kernel
theorem dX10_sides_17 : decode cX10_sides 17 = .ok (.ifCond .ne 11, 3) := by decide +kernel
theorem dX10_sides_20 : decode cX10_sides 20 = .ok (.aload_n 0, 1) := by decide +kernel
theorem dX10_sides_21 : decode cX10_sides 21 = .ok (.sipush (-1000), 3) := by decide +kernel
theorem dX10_sides_24 : decode cX10_sides 24 = .ok (.invokevirtual 66, 3) := by decide +kernel
theorem dX10_sides_27 : decode cX10_sides 27 = .ok (.ireturn, 1) := by decide +kernel
theorem dX10_sides_28 : decode cX10_sides 28 = .ok (.aload_n 0, 1) := by decide +kernel
theorem dX10_sides_29 : decode cX10_sides 29 = .ok (.getfield 48, 3) := by decide +kernel
theorem dX10_sides_32 : decode cX10_sides 32 = .ok (.aload_n 0, 1) := by decide +kernel
theorem dX10_sides_33 : decode cX10_sides 33 = .ok (.getfield 10, 3) := by decide +kernel
theorem dX10_sides_36 : decode cX10_sides 36 = .ok (.getfield 70, 3) := by decide +kernel
theorem dX10_sides_39 : decode cX10_sides 39 = .ok (.aload_n 0, 1) := by decide +kernel
theorem dX10_sides_40 : decode cX10_sides 40 = .ok (.getfield 41, 3) := by decide +kernel
theorem dX10_sides_43 : decode cX10_sides 43 = .ok (.invokevirtual 152, 3) := by decide +kernel
theorem dX10_sides_46 : decode cX10_sides 46 = .ok (.aload_n 0, 1) := by decide +kernel
theorem dX10_sides_47 : decode cX10_sides 47 = .ok (.iconst 0, 1) := by decide +kernel
theorem dX10_sides_48 : decode cX10_sides 48 = .ok (.iload_n 1, 1) := by decide +kernel
theorem dX10_sides_49 : decode cX10_sides 49 = .ok (.iconst (-1), 1) := by decide +kernel
theorem dX10_sides_50 : decode cX10_sides 50 = .ok (.invokevirtual 226, 3) := by decide +kernel
theorem dX10_sides_53 : decode cX10_sides 53 = .ok (.aload_n 0, 1) := by decide +kernel
theorem dX10_sides_54 : decode cX10_sides 54 = .ok (.iload_n 1, 1) := by decide +kernel
theorem dX10_sides_55 : decode cX10_sides 55 = .ok (.aload_n 0, 1) := by decide +kernel
theorem dX10_sides_56 : decode cX10_sides 56 = .ok (.getfield 10, 3) := by decide +kernel
theorem dX10_sides_59 : decode cX10_sides 59 = .ok (.getfield 70, 3) := by decide +kernel
theorem dX10_sides_62 : decode cX10_sides 62 = .ok (.getfield 74, 3) := by decide +kernel
theorem dX10_sides_65 : decode cX10_sides 65 = .ok (.iconst (-1), 1) := by decide +kernel
theorem dX10_sides_66 : decode cX10_sides 66 = .ok (.invokevirtual 226, 3) := by decide +kernel
theorem dX10_sides_69 : decode cX10_sides 69 = .ok (.isub, 1) := by decide +kernel
theorem dX10_sides_70 : decode cX10_sides 70 = .ok (.ireturn, 1) := by decide +kernel
theorem dX10_worth_0 : decode cX10_worth 0 = .ok (.aload_n 0, 1) := by decide +kernel
theorem dX10_worth_1 : decode cX10_worth 1 = .ok (.getfield 10, 3) := by decide +kernel
theorem dX10_worth_4 : decode cX10_worth 4 = .ok (.getfield 70, 3) := by decide +kernel
theorem dX10_worth_7 : decode cX10_worth 7 = .ok (.iload_n 1, 1) := by decide +kernel
theorem dX10_worth_8 : decode cX10_worth 8 = .ok (.invokevirtual 149, 3) := by decide +kernel
theorem dX10_worth_11 : decode cX10_worth 11 = .ok (.ifCond .ne 10, 3) := by decide +kernel
theorem dX10_worth_14 : decode cX10_worth 14 = .ok (.aload_n 0, 1) := by decide +kernel
theorem dX10_worth_15 : decode cX10_worth 15 = .ok (.bipush (-2), 2) := by decide +kernel
theorem dX10_worth_17 : decode cX10_worth 17 = .ok (.invokevirtual 66, 3) := by decide +kernel
theorem dX10_worth_20 : decode cX10_worth 20 = .ok (.ireturn, 1) := by decide +kernel
theorem dX10_worth_21 : decode cX10_worth 21 = .ok (.aload_n 0, 1) := by decide +kernel
theorem dX10_worth_22 : decode cX10_worth 22 = .ok (.getfield 48, 3) := by decide +kernel
theorem dX10_worth_25 : decode cX10_worth 25 = .ok (.aload_n 0, 1) := by decide +kernel
theorem dX10_worth_26 : decode cX10_worth 26 = .ok (.getfield 10, 3) := by decide +kernel
theorem dX10_worth_29 : decode cX10_worth 29 = .ok (.getfield 70, 3) := by decide +kernel
theorem dX10_worth_32 : decode cX10_worth 32 = .ok (.aload_n 0, 1) := by decide +kernel
theorem dX10_worth_33 : decode cX10_worth 33 = .ok (.getfield 41, 3) := by decide +kernel
theorem dX10_worth_36 : decode cX10_worth 36 = .ok (.invokevirtual 152, 3) := by decide +kernel
theorem dX10_worth_39 : decode cX10_worth 39 = .ok (.aload_n 0, 1) := by decide +kernel
theorem dX10_worth_40 : decode cX10_worth 40 = .ok (.iconst 0, 1) := by decide +kernel
theorem dX10_worth_41 : decode cX10_worth 41 = .ok (.aload_n 0, 1) := by decide +kernel
theorem dX10_worth_42 : decode cX10_worth 42 = .ok (.getfield 10, 3) := by decide +kernel
theorem dX10_worth_45 : decode cX10_worth 45 = .ok (.getfield 70, 3) := by decide +kernel
theorem dX10_worth_48 : decode cX10_worth 48 = .ok (.getfield 74, 3) := by decide +kernel
theorem dX10_worth_51 : decode cX10_worth 51 = .ok (.iconst (-1), 1) := by decide +kernel
theorem dX10_worth_52 : decode cX10_worth 52 = .ok (.invokevirtual 226, 3) := by decide +kernel
theorem dX10_worth_55 : decode cX10_worth 55 = .ok (.aload_n 0, 1) := by decide +kernel
theorem dX10_worth_56 : decode cX10_worth 56 = .ok (.iconst 0, 1) := by decide +kernel
theorem dX10_worth_57 : decode cX10_worth 57 = .ok (.aload_n 0, 1) := by decide +kernel
theorem dX10_worth_58 : decode cX10_worth 58 = .ok (.getfield 10, 3) := by decide +kernel
theorem dX10_worth_61 : decode cX10_worth 61 = .ok (.getfield 70, 3) := by decide +kernel
theorem dX10_worth_64 : decode cX10_worth 64 = .ok (.getfield 74, 3) := by decide +kernel
theorem dX10_worth_67 : decode cX10_worth 67 = .ok (.iload_n 1, 1) := by decide +kernel
theorem dX10_worth_68 : decode cX10_worth 68 = .ok (.invokevirtual 226, 3) := by decide +kernel
theorem dX10_worth_71 : decode cX10_worth 71 = .ok (.isub, 1) := by decide +kernel
theorem dX10_worth_72 : decode cX10_worth 72 = .ok (.ireturn, 1) := by decide +kernel
theorem dX10_write_0 : decode cX10_write 0 = .ok (.iload_n 1, 1) := by decide +kernel
theorem dX10_write_1 : decode cX10_write 1 = .ok (.iconst 0, 1) := by decide +kernel
theorem dX10_write_2 : decode cX10_write 2 = .ok (.bipush 7, 2) := by decide +kernel
theorem dX10_write_4 : decode cX10_write 4 = .ok (.invokestatic 62, 3) := by decide +kernel
theorem dX10_write_7 : decode cX10_write 7 = .ok (.ifCond .eq 58, 3) := by decide +kernel
theorem dX10_write_10 : decode cX10_write 10 = .ok (.iload_n 2, 1) := by decide +kernel
theorem dX10_write_11 : decode cX10_write 11 = .ok (.invokestatic 229, 3) := by decide +kernel
theorem dX10_write_14 : decode cX10_write 14 = .ok (.ifCond .eq 51, 3) := by decide +kernel
theorem dX10_write_17 : decode cX10_write 17 = .ok (.iload_n 3, 1) := by decide +kernel
theorem dX10_write_18 : decode cX10_write 18 = .ok (.invokestatic 232, 3) := by decide +kernel
theorem dX10_write_21 : decode cX10_write 21 = .ok (.ifCond .eq 44, 3) := by decide +kernel
theorem dX10_write_24 : decode cX10_write 24 = .ok (.iload 4, 2) := by decide +kernel
theorem dX10_write_26 : decode cX10_write 26 = .ok (.invokestatic 132, 3) := by decide +kernel
theorem dX10_write_29 : decode cX10_write 29 = .ok (.ifCond .eq 36, 3) := by decide +kernel
theorem dX10_write_32 : decode cX10_write 32 = .ok (.iload 5, 2) := by decide +kernel
theorem dX10_write_34 : decode cX10_write 34 = .ok (.iconst 0, 1) := by decide +kernel
theorem dX10_write_35 : decode cX10_write 35 = .ok (.bipush 8, 2) := by decide +kernel
theorem dX10_write_37 : decode cX10_write 37 = .ok (.invokestatic 62, 3) := by decide +kernel
theorem dX10_write_40 : decode cX10_write 40 = .ok (.ifCond .eq 25, 3) := by decide +kernel
theorem dX10_write_43 : decode cX10_write 43 = .ok (.iload 6, 2) := by decide +kernel
theorem dX10_write_45 : decode cX10_write 45 = .ok (.ifCond .eq 16, 3) := by decide +kernel
theorem dX10_write_48 : decode cX10_write 48 = .ok (.iload 6, 2) := by decide +kernel
theorem dX10_write_50 : decode cX10_write 50 = .ok (.iconst 5, 1) := by decide +kernel
theorem dX10_write_51 : decode cX10_write 51 = .ok (.if_icmp .eq 10, 3) := by decide +kernel
theorem dX10_write_54 : decode cX10_write 54 = .ok (.iload 6, 2) := by decide +kernel
theorem dX10_write_56 : decode cX10_write 56 = .ok (.bipush 10, 2) := by decide +kernel
theorem dX10_write_58 : decode cX10_write 58 = .ok (.if_icmp .ne 7, 3) := by decide +kernel
theorem dX10_write_61 : decode cX10_write 61 = .ok (.iconst 1, 1) := by decide +kernel
theorem dX10_write_62 : decode cX10_write 62 = .ok (.goto 4, 3) := by decide +kernel
theorem dX10_write_65 : decode cX10_write 65 = .ok (.iconst 0, 1) := by decide +kernel
theorem dX10_write_66 : decode cX10_write 66 = .ok (.istore 7, 2) := by decide +kernel
theorem dX10_write_68 : decode cX10_write 68 = .ok (.iload 7, 2) := by decide +kernel
theorem dX10_write_70 : decode cX10_write 70 = .ok (.ifCond .ne 10, 3) := by decide +kernel
theorem dX10_write_73 : decode cX10_write 73 = .ok (.aload_n 0, 1) := by decide +kernel
theorem dX10_write_74 : decode cX10_write 74 = .ok (.bipush (-2), 2) := by decide +kernel
theorem dX10_write_76 : decode cX10_write 76 = .ok (.invokevirtual 66, 3) := by decide +kernel
theorem dX10_write_79 : decode cX10_write 79 = .ok (.ireturn, 1) := by decide +kernel
theorem dX10_write_80 : decode cX10_write 80 = .ok (.aload_n 0, 1) := by decide +kernel
theorem dX10_write_81 : decode cX10_write 81 = .ok (.getfield 10, 3) := by decide +kernel
theorem dX10_write_84 : decode cX10_write 84 = .ok (.getfield 235, 3) := by decide +kernel
theorem dX10_write_87 : decode cX10_write 87 = .ok (.getfield 239, 3) := by decide +kernel
theorem dX10_write_90 : decode cX10_write 90 = .ok (.bipush 12, 2) := by decide +kernel
theorem dX10_write_92 : decode cX10_write 92 = .ok (.if_icmp .lt 8, 3) := by decide +kernel
theorem dX10_write_95 : decode cX10_write 95 = .ok (.aload_n 0, 1) := by decide +kernel
theorem dX10_write_96 : decode cX10_write 96 = .ok (.invokevirtual 80, 3) := by decide +kernel
theorem dX10_write_99 : decode cX10_write 99 = .ok (.ireturn, 1) := by decide +kernel
theorem dX10_write_100 : decode cX10_write 100 = .ok (.aload_n 0, 1) := by decide +kernel
theorem dX10_write_101 : decode cX10_write 101 = .ok (.getfield 10, 3) := by decide +kernel
theorem dX10_write_104 : decode cX10_write 104 = .ok (.getfield 235, 3) := by decide +kernel
theorem dX10_write_107 : decode cX10_write 107 = .ok (.iload_n 1, 1) := by decide +kernel
theorem dX10_write_108 : decode cX10_write 108 = .ok (.iload_n 2, 1) := by decide +kernel
theorem dX10_write_109 : decode cX10_write 109 = .ok (.iload_n 3, 1) := by decide +kernel
theorem dX10_write_110 : decode cX10_write 110 = .ok (.iload 4, 2) := by decide +kernel
theorem dX10_write_112 : decode cX10_write 112 = .ok (.iload 5, 2) := by decide +kernel
theorem dX10_write_114 : decode cX10_write 114 = .ok (.iload 6, 2) := by decide +kernel
theorem dX10_write_116 : decode cX10_write 116 = .ok (.invokevirtual 242, 3) := by decide +kernel
theorem dX10_write_119 : decode cX10_write 119 = .ok (.aload_n 0, 1) := by decide +kernel
theorem dX10_write_120 : decode cX10_write 120 = .ok (.getfield 10, 3) := by decide +kernel
theorem dX10_write_123 : decode cX10_write 123 = .ok (.getfield 235, 3) := by decide +kernel
theorem dX10_write_126 : decode cX10_write 126 = .ok (.getfield 239, 3) := by decide +kernel
theorem dX10_write_129 : decode cX10_write 129 = .ok (.ireturn, 1) := by decide +kernel
theorem dX10_tear_0 : decode cX10_tear 0 = .ok (.aload_n 0, 1) := by decide +kernel
theorem dX10_tear_1 : decode cX10_tear 1 = .ok (.getfield 10, 3) := by decide +kernel
theorem dX10_tear_4 : decode cX10_tear 4 = .ok (.getfield 235, 3) := by decide +kernel
theorem dX10_tear_7 : decode cX10_tear 7 = .ok (.getfield 239, 3) := by decide +kernel
theorem dX10_tear_10 : decode cX10_tear 10 = .ok (.istore_n 1, 1) := by decide +kernel
theorem dX10_tear_11 : decode cX10_tear 11 = .ok (.aload_n 0, 1) := by decide +kernel
theorem dX10_tear_12 : decode cX10_tear 12 = .ok (.getfield 10, 3) := by decide +kernel
theorem dX10_tear_15 : decode cX10_tear 15 = .ok (.getfield 235, 3) := by decide +kernel
theorem dX10_tear_18 : decode cX10_tear 18 = .ok (.iconst 0, 1) := by decide +kernel
theorem dX10_tear_19 : decode cX10_tear 19 = .ok (.putfield 239, 3) := by decide +kernel
theorem dX10_tear_22 : decode cX10_tear 22 = .ok (.iload_n 1, 1) := by decide +kernel
theorem dX10_tear_23 : decode cX10_tear 23 = .ok (.ireturn, 1) := by decide +kernel
theorem dX10_book_0 : decode cX10_book 0 = .ok (.iload_n 1, 1) := by decide +kernel
theorem dX10_book_1 : decode cX10_book 1 = .ok (.iconst 0, 1) := by decide +kernel
theorem dX10_book_2 : decode cX10_book 2 = .ok (.iconst 1, 1) := by decide +kernel
theorem dX10_book_3 : decode cX10_book 3 = .ok (.invokestatic 62, 3) := by decide +kernel
theorem dX10_book_6 : decode cX10_book 6 = .ok (.ifCond .ne 10, 3) := by decide +kernel
theorem dX10_book_9 : decode cX10_book 9 = .ok (.aload_n 0, 1) := by decide +kernel
theorem dX10_book_10 : decode cX10_book 10 = .ok (.bipush (-2), 2) := by decide +kernel
theorem dX10_book_12 : decode cX10_book 12 = .ok (.invokevirtual 66, 3) := by decide +kernel
theorem dX10_book_15 : decode cX10_book 15 = .ok (.ireturn, 1) := by decide +kernel
theorem dX10_book_16 : decode cX10_book 16 = .ok (.iload_n 1, 1) := by decide +kernel
theorem dX10_book_17 : decode cX10_book 17 = .ok (.ifCond .ne 10, 3) := by decide +kernel
theorem dX10_book_20 : decode cX10_book 20 = .ok (.aload_n 0, 1) := by decide +kernel
theorem dX10_book_21 : decode cX10_book 21 = .ok (.invokevirtual 246, 3) := by decide +kernel
theorem dX10_book_24 : decode cX10_book 24 = .ok (.goto 24, 3) := by decide +kernel
theorem dX10_book_27 : decode cX10_book 27 = .ok (.aload_n 0, 1) := by decide +kernel
theorem dX10_book_28 : decode cX10_book 28 = .ok (.getfield 10, 3) := by decide +kernel
theorem dX10_book_31 : decode cX10_book 31 = .ok (.getfield 235, 3) := by decide +kernel
theorem dX10_book_34 : decode cX10_book 34 = .ok (.iconst 0, 1) := by decide +kernel
theorem dX10_book_35 : decode cX10_book 35 = .ok (.aload_n 0, 1) := by decide +kernel
theorem dX10_book_36 : decode cX10_book 36 = .ok (.getfield 10, 3) := by decide +kernel
theorem dX10_book_39 : decode cX10_book 39 = .ok (.getfield 235, 3) := by decide +kernel
theorem dX10_book_42 : decode cX10_book 42 = .ok (.getfield 239, 3) := by decide +kernel
theorem dX10_book_45 : decode cX10_book 45 = .ok (.invokevirtual 249, 3) := by decide +kernel
theorem dX10_book_48 : decode cX10_book 48 = .ok (.ireturn, 1) := by decide +kernel
theorem dX10_hours_0 : decode cX10_hours 0 = .ok (.iload_n 1, 1) := by decide +kernel
theorem dX10_hours_1 : decode cX10_hours 1 = .ok (.iconst 1, 1) := by decide +kernel
theorem dX10_hours_2 : decode cX10_hours 2 = .ok (.bipush 12, 2) := by decide +kernel
theorem dX10_hours_4 : decode cX10_hours 4 = .ok (.invokestatic 62, 3) := by decide +kernel
theorem dX10_hours_7 : decode cX10_hours 7 = .ok (.ifCond .ne 10, 3) := by decide +kernel
theorem dX10_hours_10 : decode cX10_hours 10 = .ok (.aload_n 0, 1) := by decide +kernel
theorem dX10_hours_11 : decode cX10_hours 11 = .ok (.bipush (-2), 2) := by decide +kernel
theorem dX10_hours_13 : decode cX10_hours 13 = .ok (.invokevirtual 66, 3) := by decide +kernel
theorem dX10_hours_16 : decode cX10_hours 16 = .ok (.ireturn, 1) := by decide +kernel
theorem dX10_hours_17 : decode cX10_hours 17 = .ok (.aload_n 0, 1) := by decide +kernel
theorem dX10_hours_18 : decode cX10_hours 18 = .ok (.getfield 10, 3) := by decide +kernel
theorem dX10_hours_21 : decode cX10_hours 21 = .ok (.getfield 235, 3) := by decide +kernel
theorem dX10_hours_24 : decode cX10_hours 24 = .ok (.iload_n 1, 1) := by decide +kernel
theorem dX10_hours_25 : decode cX10_hours 25 = .ok (.invokevirtual 252, 3) := by decide +kernel
theorem dX10_hours_28 : decode cX10_hours 28 = .ok (.ireturn, 1) := by decide +kernel
theorem dX10_evening_0 : decode cX10_evening 0 = .ok (.aload_n 0, 1) := by decide +kernel
theorem dX10_evening_1 : decode cX10_evening 1 = .ok (.iload_n 1, 1) := by decide +kernel
theorem dX10_evening_2 : decode cX10_evening 2 = .ok (.iload_n 2, 1) := by decide +kernel
theorem dX10_evening_3 : decode cX10_evening 3 = .ok (.iload_n 3, 1) := by decide +kernel
theorem dX10_evening_4 : decode cX10_evening 4 = .ok (.invokevirtual 119, 3) := by decide +kernel
theorem dX10_evening_7 : decode cX10_evening 7 = .ok (.ifCond .eq 37, 3) := by decide +kernel
theorem dX10_evening_10 : decode cX10_evening 10 = .ok (.iload 4, 2) := by decide +kernel
theorem dX10_evening_12 : decode cX10_evening 12 = .ok (.invokestatic 132, 3) := by decide +kernel
theorem dX10_evening_15 : decode cX10_evening 15 = .ok (.ifCond .eq 29, 3) := by decide +kernel
theorem dX10_evening_18 : decode cX10_evening 18 = .ok (.iload 5, 2) := by decide +kernel
theorem dX10_evening_20 : decode cX10_evening 20 = .ok (.iconst 0, 1) := by decide +kernel
theorem dX10_evening_21 : decode cX10_evening 21 = .ok (.bipush 60, 2) := by decide +kernel
theorem dX10_evening_23 : decode cX10_evening 23 = .ok (.invokestatic 62, 3) := by decide +kernel
theorem dX10_evening_26 : decode cX10_evening 26 = .ok (.ifCond .eq 18, 3) := by decide +kernel
theorem dX10_evening_29 : decode cX10_evening 29 = .ok (.iload 6, 2) := by decide +kernel
theorem dX10_evening_31 : decode cX10_evening 31 = .ok (.iconst 0, 1) := by decide +kernel
theorem dX10_evening_32 : decode cX10_evening 32 = .ok (.ldc 255, 2) := by decide +kernel
theorem dX10_evening_34 : decode cX10_evening 34 = .ok (.invokestatic 62, 3) := by decide +kernel
theorem dX10_evening_37 : decode cX10_evening 37 = .ok (.ifCond .eq 7, 3) := by decide +kernel
theorem dX10_evening_40 : decode cX10_evening 40 = .ok (.iconst 1, 1) := by decide +kernel
theorem dX10_evening_41 : decode cX10_evening 41 = .ok (.goto 4, 3) := by decide +kernel
theorem dX10_evening_44 : decode cX10_evening 44 = .ok (.iconst 0, 1) := by decide +kernel
theorem dX10_evening_45 : decode cX10_evening 45 = .ok (.istore 7, 2) := by decide +kernel
theorem dX10_evening_47 : decode cX10_evening 47 = .ok (.iload 7, 2) := by decide +kernel
theorem dX10_evening_49 : decode cX10_evening 49 = .ok (.ifCond .ne 10, 3) := by decide +kernel
theorem dX10_evening_52 : decode cX10_evening 52 = .ok (.aload_n 0, 1) := by decide +kernel
theorem dX10_evening_53 : decode cX10_evening 53 = .ok (.bipush (-2), 2) := by decide +kernel
theorem dX10_evening_55 : decode cX10_evening 55 = .ok (.invokevirtual 66, 3) := by decide +kernel
theorem dX10_evening_58 : decode cX10_evening 58 = .ok (.ireturn, 1) := by decide +kernel
theorem dX10_evening_59 : decode cX10_evening 59 = .ok (.iload 6, 2) := by decide +kernel
theorem dX10_evening_61 : decode cX10_evening 61 = .ok (.i2l, 1) := by decide +kernel
theorem dX10_evening_62 : decode cX10_evening 62 = .ok (.lstore 8, 2) := by decide +kernel
theorem dX10_evening_64 : decode cX10_evening 64 = .ok (.iconst 0, 1) := by decide +kernel
theorem dX10_evening_65 : decode cX10_evening 65 = .ok (.istore 10, 2) := by decide +kernel
theorem dX10_evening_67 : decode cX10_evening 67 = .ok (.iconst 0, 1) := by decide +kernel
theorem dX10_evening_68 : decode cX10_evening 68 = .ok (.istore 11, 2) := by decide +kernel
theorem dX10_evening_70 : decode cX10_evening 70 = .ok (.iload 11, 2) := by decide +kernel
theorem dX10_evening_72 : decode cX10_evening 72 = .ok (.iload 5, 2) := by decide +kernel
theorem dX10_evening_74 : decode cX10_evening 74 = .ok (.if_icmp .ge 76, 3) := by decide +kernel
theorem dX10_evening_77 : decode cX10_evening 77 = .ok (.lload 8, 2) := by decide +kernel
theorem dX10_evening_79 : decode cX10_evening 79 = .ok (.ldc2_w 256, 3) := by decide +kernel
theorem dX10_evening_82 : decode cX10_evening 82 = .ok (.lmul, 1) := by decide +kernel
theorem dX10_evening_83 : decode cX10_evening 83 = .ok (.ldc2_w 258, 3) := by decide +kernel
theorem dX10_evening_86 : decode cX10_evening 86 = .ok (.ladd, 1) := by decide +kernel
theorem dX10_evening_87 : decode cX10_evening 87 = .ok (.ldc2_w 260, 3) := by decide +kernel
theorem dX10_evening_90 : decode cX10_evening 90 = .ok (.lrem, 1) := by decide +kernel
theorem dX10_evening_91 : decode cX10_evening 91 = .ok (.lstore 8, 2) := by decide +kernel
theorem dX10_evening_93 : decode cX10_evening 93 = .ok (.lload 8, 2) := by decide +kernel
theorem dX10_evening_95 : decode cX10_evening 95 = .ok (.ldc2_w 262, 3) := by decide +kernel
theorem dX10_evening_98 : decode cX10_evening 98 = .ok (.ldiv, 1) := by decide +kernel
theorem dX10_evening_99 : decode cX10_evening 99 = .ok (.ldc2_w 264, 3) := by decide +kernel
theorem dX10_evening_102 : decode cX10_evening 102 = .ok (.lrem, 1) := by decide +kernel
theorem dX10_evening_103 : decode cX10_evening 103 = .ok (.l2i, 1) := by decide +kernel
theorem dX10_evening_104 : decode cX10_evening 104 = .ok (.istore 12, 2) := by decide +kernel
theorem dX10_evening_106 : decode cX10_evening 106 = .ok (.iload 12, 2) := by decide +kernel
theorem dX10_evening_108 : decode cX10_evening 108 = .ok (.iconst 4, 1) := by decide +kernel
theorem dX10_evening_109 : decode cX10_evening 109 = .ok (.idiv, 1) := by decide +kernel
theorem dX10_evening_110 : decode cX10_evening 110 = .ok (.invokestatic 266, 3) := by decide +kernel
theorem dX10_evening_113 : decode cX10_evening 113 = .ok (.istore 13, 2) := by decide +kernel
theorem dX10_evening_115 : decode cX10_evening 115 = .ok (.iload 12, 2) := by decide +kernel
theorem dX10_evening_117 : decode cX10_evening 117 = .ok (.iconst 4, 1) := by decide +kernel
theorem dX10_evening_118 : decode cX10_evening 118 = .ok (.irem, 1) := by decide +kernel
theorem dX10_evening_119 : decode cX10_evening 119 = .ok (.invokestatic 266, 3) := by decide +kernel
theorem dX10_evening_122 : decode cX10_evening 122 = .ok (.istore 14, 2) := by decide +kernel
theorem dX10_evening_124 : decode cX10_evening 124 = .ok (.iload 10, 2) := by decide +kernel
theorem dX10_evening_126 : decode cX10_evening 126 = .ok (.aload_n 0, 1) := by decide +kernel
theorem dX10_evening_127 : decode cX10_evening 127 = .ok (.iload_n 1, 1) := by decide +kernel
theorem dX10_evening_128 : decode cX10_evening 128 = .ok (.iload_n 2, 1) := by decide +kernel
theorem dX10_evening_129 : decode cX10_evening 129 = .ok (.iload 13, 2) := by decide +kernel
theorem dX10_evening_131 : decode cX10_evening 131 = .ok (.iadd, 1) := by decide +kernel
theorem dX10_evening_132 : decode cX10_evening 132 = .ok (.iload_n 3, 1) := by decide +kernel
theorem dX10_evening_133 : decode cX10_evening 133 = .ok (.iload 14, 2) := by decide +kernel
theorem dX10_evening_135 : decode cX10_evening 135 = .ok (.iadd, 1) := by decide +kernel
theorem dX10_evening_136 : decode cX10_evening 136 = .ok (.iload 4, 2) := by decide +kernel
theorem dX10_evening_138 : decode cX10_evening 138 = .ok (.invokevirtual 136, 3) := by decide +kernel
theorem dX10_evening_141 : decode cX10_evening 141 = .ok (.iadd, 1) := by decide +kernel
theorem dX10_evening_142 : decode cX10_evening 142 = .ok (.istore 10, 2) := by decide +kernel
theorem dX10_evening_144 : decode cX10_evening 144 = .ok (.iinc 11 1, 3) := by decide +kernel
theorem dX10_evening_147 : decode cX10_evening 147 = .ok (.goto (-77), 3) := by decide +kernel
theorem dX10_evening_150 : decode cX10_evening 150 = .ok (.iload 10, 2) := by decide +kernel
theorem dX10_evening_152 : decode cX10_evening 152 = .ok (.ireturn, 1) := by decide +kernel
theorem dX10_play_0 : decode cX10_play 0 = .ok (.aload_n 0, 1) := by decide +kernel
theorem dX10_play_1 : decode cX10_play 1 = .ok (.iload_n 1, 1) := by decide +kernel
theorem dX10_play_2 : decode cX10_play 2 = .ok (.iload_n 2, 1) := by decide +kernel
theorem dX10_play_3 : decode cX10_play 3 = .ok (.iload_n 3, 1) := by decide +kernel
theorem dX10_play_4 : decode cX10_play 4 = .ok (.invokevirtual 119, 3) := by decide +kernel
theorem dX10_play_7 : decode cX10_play 7 = .ok (.ifCond .eq 35, 3) := by decide +kernel
theorem dX10_play_10 : decode cX10_play 10 = .ok (.iload 4, 2) := by decide +kernel
theorem dX10_play_12 : decode cX10_play 12 = .ok (.invokestatic 132, 3) := by decide +kernel
theorem dX10_play_15 : decode cX10_play 15 = .ok (.ifCond .eq 27, 3) := by decide +kernel
theorem dX10_play_18 : decode cX10_play 18 = .ok (.iload 5, 2) := by decide +kernel
theorem dX10_play_20 : decode cX10_play 20 = .ok (.iconst (-1), 1) := by decide +kernel
theorem dX10_play_21 : decode cX10_play 21 = .ok (.iconst 1, 1) := by decide +kernel
theorem dX10_play_22 : decode cX10_play 22 = .ok (.invokestatic 62, 3) := by decide +kernel
theorem dX10_play_25 : decode cX10_play 25 = .ok (.ifCond .eq 17, 3) := by decide +kernel
theorem dX10_play_28 : decode cX10_play 28 = .ok (.iload 6, 2) := by decide +kernel
theorem dX10_play_30 : decode cX10_play 30 = .ok (.iconst (-1), 1) := by decide +kernel
theorem dX10_play_31 : decode cX10_play 31 = .ok (.iconst 1, 1) := by decide +kernel
theorem dX10_play_32 : decode cX10_play 32 = .ok (.invokestatic 62, 3) := by decide +kernel
theorem dX10_play_35 : decode cX10_play 35 = .ok (.ifCond .eq 7, 3) := by decide +kernel
theorem dX10_play_38 : decode cX10_play 38 = .ok (.iconst 1, 1) := by decide +kernel
theorem dX10_play_39 : decode cX10_play 39 = .ok (.goto 4, 3) := by decide +kernel
theorem dX10_play_42 : decode cX10_play 42 = .ok (.iconst 0, 1) := by decide +kernel
theorem dX10_play_43 : decode cX10_play 43 = .ok (.istore 7, 2) := by decide +kernel
theorem dX10_play_45 : decode cX10_play 45 = .ok (.iload 7, 2) := by decide +kernel
theorem dX10_play_47 : decode cX10_play 47 = .ok (.ifCond .ne 10, 3) := by decide +kernel
theorem dX10_play_50 : decode cX10_play 50 = .ok (.aload_n 0, 1) := by decide +kernel
theorem dX10_play_51 : decode cX10_play 51 = .ok (.bipush (-2), 2) := by decide +kernel
theorem dX10_play_53 : decode cX10_play 53 = .ok (.invokevirtual 66, 3) := by decide +kernel
theorem dX10_play_56 : decode cX10_play 56 = .ok (.ireturn, 1) := by decide +kernel
theorem dX10_play_57 : decode cX10_play 57 = .ok (.aload_n 0, 1) := by decide +kernel
theorem dX10_play_58 : decode cX10_play 58 = .ok (.iload_n 1, 1) := by decide +kernel
theorem dX10_play_59 : decode cX10_play 59 = .ok (.iload_n 2, 1) := by decide +kernel
theorem dX10_play_60 : decode cX10_play 60 = .ok (.iload 5, 2) := by decide +kernel
theorem dX10_play_62 : decode cX10_play 62 = .ok (.iadd, 1) := by decide +kernel
theorem dX10_play_63 : decode cX10_play 63 = .ok (.iload_n 3, 1) := by decide +kernel
theorem dX10_play_64 : decode cX10_play 64 = .ok (.iload 6, 2) := by decide +kernel
theorem dX10_play_66 : decode cX10_play 66 = .ok (.iadd, 1) := by decide +kernel
theorem dX10_play_67 : decode cX10_play 67 = .ok (.iload 4, 2) := by decide +kernel
theorem dX10_play_69 : decode cX10_play 69 = .ok (.invokevirtual 136, 3) := by decide +kernel
theorem dX10_play_72 : decode cX10_play 72 = .ok (.istore 8, 2) := by decide +kernel
theorem dX10_play_74 : decode cX10_play 74 = .ok (.aload_n 0, 1) := by decide +kernel
theorem dX10_play_75 : decode cX10_play 75 = .ok (.getfield 10, 3) := by decide +kernel
theorem dX10_play_78 : decode cX10_play 78 = .ok (.getfield 107, 3) := by decide +kernel
theorem dX10_play_81 : decode cX10_play 81 = .ok (.iload 8, 2) := by decide +kernel
theorem dX10_play_83 : decode cX10_play 83 = .ok (.invokevirtual 269, 3) := by decide +kernel
theorem dX10_play_86 : decode cX10_play 86 = .ok (.iload 8, 2) := by decide +kernel
theorem dX10_play_88 : decode cX10_play 88 = .ok (.ireturn, 1) := by decide +kernel
theorem dX10_undo_0 : decode cX10_undo 0 = .ok (.aload_n 0, 1) := by decide +kernel
theorem dX10_undo_1 : decode cX10_undo 1 = .ok (.getfield 10, 3) := by decide +kernel
theorem dX10_undo_4 : decode cX10_undo 4 = .ok (.getfield 107, 3) := by decide +kernel
theorem dX10_undo_7 : decode cX10_undo 7 = .ok (.getfield 271, 3) := by decide +kernel
theorem dX10_undo_10 : decode cX10_undo 10 = .ok (.ifCond .ne 8, 3) := by decide +kernel
theorem dX10_undo_13 : decode cX10_undo 13 = .ok (.aload_n 0, 1) := by decide +kernel
theorem dX10_undo_14 : decode cX10_undo 14 = .ok (.invokevirtual 200, 3) := by decide +kernel
theorem dX10_undo_17 : decode cX10_undo 17 = .ok (.ireturn, 1) := by decide +kernel
theorem dX10_undo_18 : decode cX10_undo 18 = .ok (.aload_n 0, 1) := by decide +kernel
theorem dX10_undo_19 : decode cX10_undo 19 = .ok (.getfield 10, 3) := by decide +kernel
theorem dX10_undo_22 : decode cX10_undo 22 = .ok (.getfield 107, 3) := by decide +kernel
theorem dX10_undo_25 : decode cX10_undo 25 = .ok (.invokevirtual 274, 3) := by decide +kernel
theorem dX10_undo_28 : decode cX10_undo 28 = .ok (.iconst 1, 1) := by decide +kernel
theorem dX10_undo_29 : decode cX10_undo 29 = .ok (.ireturn, 1) := by decide +kernel
theorem dX10_score_0 : decode cX10_score 0 = .ok (.iload_n 1, 1) := by decide +kernel
theorem dX10_score_1 : decode cX10_score 1 = .ok (.iconst 0, 1) := by decide +kernel
theorem dX10_score_2 : decode cX10_score 2 = .ok (.iconst 1, 1) := by decide +kernel
theorem dX10_score_3 : decode cX10_score 3 = .ok (.invokestatic 62, 3) := by decide +kernel
theorem dX10_score_6 : decode cX10_score 6 = .ok (.ifCond .ne 10, 3) := by decide +kernel
theorem dX10_score_9 : decode cX10_score 9 = .ok (.aload_n 0, 1) := by decide +kernel
theorem dX10_score_10 : decode cX10_score 10 = .ok (.bipush (-2), 2) := by decide +kernel
theorem dX10_score_12 : decode cX10_score 12 = .ok (.invokevirtual 66, 3) := by decide +kernel
theorem dX10_score_15 : decode cX10_score 15 = .ok (.ireturn, 1) := by decide +kernel
theorem dX10_score_16 : decode cX10_score 16 = .ok (.aload_n 0, 1) := by decide +kernel
theorem dX10_score_17 : decode cX10_score 17 = .ok (.getfield 10, 3) := by decide +kernel
theorem dX10_score_20 : decode cX10_score 20 = .ok (.getfield 107, 3) := by decide +kernel
theorem dX10_score_23 : decode cX10_score 23 = .ok (.getfield 277, 3) := by decide +kernel
theorem dX10_score_26 : decode cX10_score 26 = .ok (.iload_n 1, 1) := by decide +kernel
theorem dX10_score_27 : decode cX10_score 27 = .ok (.iaload, 1) := by decide +kernel
theorem dX10_score_28 : decode cX10_score 28 = .ok (.ireturn, 1) := by decide +kernel
theorem dX10_on_0 : decode cX10_on 0 = .ok (.aload_n 0, 1) := by decide +kernel
theorem dX10_on_1 : decode cX10_on 1 = .ok (.getfield 10, 3) := by decide +kernel
theorem dX10_on_4 : decode cX10_on 4 = .ok (.getfield 107, 3) := by decide +kernel
theorem dX10_on_7 : decode cX10_on 7 = .ok (.getfield 280, 3) := by decide +kernel
theorem dX10_on_10 : decode cX10_on 10 = .ok (.ireturn, 1) := by decide +kernel
theorem dX10_part_0 : decode cX10_part 0 = .ok (.iload_n 1, 1) := by decide +kernel
theorem dX10_part_1 : decode cX10_part 1 = .ok (.iconst 0, 1) := by decide +kernel
theorem dX10_part_2 : decode cX10_part 2 = .ok (.iconst 1, 1) := by decide +kernel
theorem dX10_part_3 : decode cX10_part 3 = .ok (.invokestatic 62, 3) := by decide +kernel
theorem dX10_part_6 : decode cX10_part 6 = .ok (.ifCond .ne 11, 3) := by decide +kernel
theorem dX10_part_9 : decode cX10_part 9 = .ok (.aload_n 0, 1) := by decide +kernel
theorem dX10_part_10 : decode cX10_part 10 = .ok (.bipush (-2), 2) := by decide +kernel
theorem dX10_part_12 : decode cX10_part 12 = .ok (.invokevirtual 66, 3) := by decide +kernel
theorem dX10_part_15 : decode cX10_part 15 = .ok (.i2l, 1) := by decide +kernel
theorem dX10_part_16 : decode cX10_part 16 = .ok (.lreturn, 1) := by decide +kernel
theorem dX10_part_17 : decode cX10_part 17 = .ok (.iload_n 1, 1) := by decide +kernel
theorem dX10_part_18 : decode cX10_part 18 = .ok (.ifCond .ne 13, 3) := by decide +kernel
theorem dX10_part_21 : decode cX10_part 21 = .ok (.aload_n 0, 1) := by decide +kernel
theorem dX10_part_22 : decode cX10_part 22 = .ok (.getfield 34, 3) := by decide +kernel
theorem dX10_part_25 : decode cX10_part 25 = .ok (.getfield 283, 3) := by decide +kernel
theorem dX10_part_28 : decode cX10_part 28 = .ok (.goto 10, 3) := by decide +kernel
theorem dX10_part_31 : decode cX10_part 31 = .ok (.aload_n 0, 1) := by decide +kernel
theorem dX10_part_32 : decode cX10_part 32 = .ok (.getfield 34, 3) := by decide +kernel
theorem dX10_part_35 : decode cX10_part 35 = .ok (.getfield 287, 3) := by decide +kernel
theorem dX10_part_38 : decode cX10_part 38 = .ok (.lreturn, 1) := by decide +kernel
theorem dX10_image_0 : decode cX10_image 0 = .ok (.iload_n 1, 1) := by decide +kernel
theorem dX10_image_1 : decode cX10_image 1 = .ok (.iconst 0, 1) := by decide +kernel
theorem dX10_image_2 : decode cX10_image 2 = .ok (.iconst 1, 1) := by decide +kernel
theorem dX10_image_3 : decode cX10_image 3 = .ok (.invokestatic 62, 3) := by decide +kernel
theorem dX10_image_6 : decode cX10_image 6 = .ok (.ifCond .ne 10, 3) := by decide +kernel
theorem dX10_image_9 : decode cX10_image 9 = .ok (.aload_n 0, 1) := by decide +kernel
theorem dX10_image_10 : decode cX10_image 10 = .ok (.bipush (-2), 2) := by decide +kernel
theorem dX10_image_12 : decode cX10_image 12 = .ok (.invokevirtual 66, 3) := by decide +kernel
theorem dX10_image_15 : decode cX10_image 15 = .ok (.ireturn, 1) := by decide +kernel
theorem dX10_image_16 : decode cX10_image 16 = .ok (.aload_n 0, 1) := by decide +kernel
theorem dX10_image_17 : decode cX10_image 17 = .ok (.getfield 16, 3) := by decide +kernel
theorem dX10_image_20 : decode cX10_image 20 = .ok (.iload_n 1, 1) := by decide +kernel
theorem dX10_image_21 : decode cX10_image 21 = .ok (.aaload, 1) := by decide +kernel
theorem dX10_image_22 : decode cX10_image 22 = .ok (.aload_n 0, 1) := by decide +kernel
theorem dX10_image_23 : decode cX10_image 23 = .ok (.getfield 10, 3) := by decide +kernel
theorem dX10_image_26 : decode cX10_image 26 = .ok (.invokevirtual 290, 3) := by decide +kernel
theorem dX10_image_29 : decode cX10_image 29 = .ok (.aload_n 0, 1) := by decide +kernel
theorem dX10_image_30 : decode cX10_image 30 = .ok (.getfield 20, 3) := by decide +kernel
theorem dX10_image_33 : decode cX10_image 33 = .ok (.iload_n 1, 1) := by decide +kernel
theorem dX10_image_34 : decode cX10_image 34 = .ok (.iconst 1, 1) := by decide +kernel
theorem dX10_image_35 : decode cX10_image 35 = .ok (.bastore, 1) := by decide +kernel
theorem dX10_image_36 : decode cX10_image 36 = .ok (.iconst 1, 1) := by decide +kernel
theorem dX10_image_37 : decode cX10_image 37 = .ok (.ireturn, 1) := by decide +kernel
theorem dX10_from_0 : decode cX10_from 0 = .ok (.iload_n 1, 1) := by decide +kernel
theorem dX10_from_1 : decode cX10_from 1 = .ok (.iconst 0, 1) := by decide +kernel
theorem dX10_from_2 : decode cX10_from 2 = .ok (.iconst 1, 1) := by decide +kernel
theorem dX10_from_3 : decode cX10_from 3 = .ok (.invokestatic 62, 3) := by decide +kernel
theorem dX10_from_6 : decode cX10_from 6 = .ok (.ifCond .ne 10, 3) := by decide +kernel
theorem dX10_from_9 : decode cX10_from 9 = .ok (.aload_n 0, 1) := by decide +kernel
theorem dX10_from_10 : decode cX10_from 10 = .ok (.bipush (-2), 2) := by decide +kernel
theorem dX10_from_12 : decode cX10_from 12 = .ok (.invokevirtual 66, 3) := by decide +kernel
theorem dX10_from_15 : decode cX10_from 15 = .ok (.ireturn, 1) := by decide +kernel
theorem dX10_from_16 : decode cX10_from 16 = .ok (.aload_n 0, 1) := by decide +kernel
theorem dX10_from_17 : decode cX10_from 17 = .ok (.getfield 20, 3) := by decide +kernel
theorem dX10_from_20 : decode cX10_from 20 = .ok (.iload_n 1, 1) := by decide +kernel
theorem dX10_from_21 : decode cX10_from 21 = .ok (.baload, 1) := by decide +kernel
theorem dX10_from_22 : decode cX10_from 22 = .ok (.ifCond .ne 8, 3) := by decide +kernel
theorem dX10_from_25 : decode cX10_from 25 = .ok (.aload_n 0, 1) := by decide +kernel
theorem dX10_from_26 : decode cX10_from 26 = .ok (.invokevirtual 200, 3) := by decide +kernel
theorem dX10_from_29 : decode cX10_from 29 = .ok (.ireturn, 1) := by decide +kernel
theorem dX10_from_30 : decode cX10_from 30 = .ok (.aload_n 0, 1) := by decide +kernel
theorem dX10_from_31 : decode cX10_from 31 = .ok (.getfield 10, 3) := by decide +kernel
theorem dX10_from_34 : decode cX10_from 34 = .ok (.aload_n 0, 1) := by decide +kernel
theorem dX10_from_35 : decode cX10_from 35 = .ok (.getfield 16, 3) := by decide +kernel
theorem dX10_from_38 : decode cX10_from 38 = .ok (.iload_n 1, 1) := by decide +kernel
theorem dX10_from_39 : decode cX10_from 39 = .ok (.aaload, 1) := by decide +kernel
theorem dX10_from_40 : decode cX10_from 40 = .ok (.invokevirtual 290, 3) := by decide +kernel
theorem dX10_from_43 : decode cX10_from 43 = .ok (.iconst 1, 1) := by decide +kernel
theorem dX10_from_44 : decode cX10_from 44 = .ok (.ireturn, 1) := by decide +kernel
theorem dX10_status_0 : decode cX10_status 0 = .ok (.iload_n 1, 1) := by decide +kernel
theorem dX10_status_1 : decode cX10_status 1 = .ok (.iconst 0, 1) := by decide +kernel
theorem dX10_status_2 : decode cX10_status 2 = .ok (.iconst 2, 1) := by decide +kernel
theorem dX10_status_3 : decode cX10_status 3 = .ok (.invokestatic 62, 3) := by decide +kernel
theorem dX10_status_6 : decode cX10_status 6 = .ok (.ifCond .ne 9, 3) := by decide +kernel
theorem dX10_status_9 : decode cX10_status 9 = .ok (.aload_n 0, 1) := by decide +kernel
theorem dX10_status_10 : decode cX10_status 10 = .ok (.iconst (-1), 1) := by decide +kernel
theorem dX10_status_11 : decode cX10_status 11 = .ok (.invokevirtual 66, 3) := by decide +kernel
theorem dX10_status_14 : decode cX10_status 14 = .ok (.ireturn, 1) := by decide +kernel
theorem dX10_status_15 : decode cX10_status 15 = .ok (.aload_n 0, 1) := by decide +kernel
theorem dX10_status_16 : decode cX10_status 16 = .ok (.getfield 56, 3) := by decide +kernel
theorem dX10_status_19 : decode cX10_status 19 = .ok (.iload_n 1, 1) := by decide +kernel
theorem dX10_status_20 : decode cX10_status 20 = .ok (.iaload, 1) := by decide +kernel
theorem dX10_status_21 : decode cX10_status 21 = .ok (.ireturn, 1) := by decide +kernel
theorem dX10_count_0 : decode cX10_count 0 = .ok (.iload_n 1, 1) := by decide +kernel
theorem dX10_count_1 : decode cX10_count 1 = .ok (.iconst 0, 1) := by decide +kernel
theorem dX10_count_2 : decode cX10_count 2 = .ok (.iconst 4, 1) := by decide +kernel
theorem dX10_count_3 : decode cX10_count 3 = .ok (.invokestatic 62, 3) := by decide +kernel
theorem dX10_count_6 : decode cX10_count 6 = .ok (.ifCond .ne 10, 3) := by decide +kernel
theorem dX10_count_9 : decode cX10_count 9 = .ok (.aload_n 0, 1) := by decide +kernel
theorem dX10_count_10 : decode cX10_count 10 = .ok (.bipush (-2), 2) := by decide +kernel
theorem dX10_count_12 : decode cX10_count 12 = .ok (.invokevirtual 66, 3) := by decide +kernel
theorem dX10_count_15 : decode cX10_count 15 = .ok (.ireturn, 1) := by decide +kernel
theorem dX10_count_16 : decode cX10_count 16 = .ok (.aload_n 0, 1) := by decide +kernel
theorem dX10_count_17 : decode cX10_count 17 = .ok (.iload_n 1, 1) := by decide +kernel
theorem dX10_count_18 : decode cX10_count 18 = .ok (.invokevirtual 293, 3) := by decide +kernel
theorem dX10_count_21 : decode cX10_count 21 = .ok (.ireturn, 1) := by decide +kernel
theorem dX10_digest_0 : decode cX10_digest 0 = .ok (.ldc2_w 296, 3) := by decide +kernel
theorem dX10_digest_3 : decode cX10_digest 3 = .ok (.lstore_n 1, 1) := by decide +kernel
theorem dX10_digest_4 : decode cX10_digest 4 = .ok (.iconst 0, 1) := by decide +kernel
theorem dX10_digest_5 : decode cX10_digest 5 = .ok (.istore_n 3, 1) := by decide +kernel
theorem dX10_digest_6 : decode cX10_digest 6 = .ok (.iload_n 3, 1) := by decide +kernel
theorem dX10_digest_7 : decode cX10_digest 7 = .ok (.iconst 4, 1) := by decide +kernel
theorem dX10_digest_8 : decode cX10_digest 8 = .ok (.if_icmp .gt 22, 3) := by decide +kernel
theorem dX10_digest_11 : decode cX10_digest 11 = .ok (.ldc2_w 298, 3) := by decide +kernel
theorem dX10_digest_14 : decode cX10_digest 14 = .ok (.lload_n 1, 1) := by decide +kernel
theorem dX10_digest_15 : decode cX10_digest 15 = .ok (.lmul, 1) := by decide +kernel
theorem dX10_digest_16 : decode cX10_digest 16 = .ok (.aload_n 0, 1) := by decide +kernel
theorem dX10_digest_17 : decode cX10_digest 17 = .ok (.iload_n 3, 1) := by decide +kernel
theorem dX10_digest_18 : decode cX10_digest 18 = .ok (.invokevirtual 293, 3) := by decide +kernel
theorem dX10_digest_21 : decode cX10_digest 21 = .ok (.i2l, 1) := by decide +kernel
theorem dX10_digest_22 : decode cX10_digest 22 = .ok (.ladd, 1) := by decide +kernel
theorem dX10_digest_23 : decode cX10_digest 23 = .ok (.lstore_n 1, 1) := by decide +kernel
theorem dX10_digest_24 : decode cX10_digest 24 = .ok (.iinc 3 1, 3) := by decide +kernel
theorem dX10_digest_27 : decode cX10_digest 27 = .ok (.goto (-21), 3) := by decide +kernel
theorem dX10_digest_30 : decode cX10_digest 30 = .ok (.iconst 0, 1) := by decide +kernel
theorem dX10_digest_31 : decode cX10_digest 31 = .ok (.istore_n 3, 1) := by decide +kernel
theorem dX10_digest_32 : decode cX10_digest 32 = .ok (.iload_n 3, 1) := by decide +kernel
theorem dX10_digest_33 : decode cX10_digest 33 = .ok (.aload_n 0, 1) := by decide +kernel
theorem dX10_digest_34 : decode cX10_digest 34 = .ok (.getfield 10, 3) := by decide +kernel
theorem dX10_digest_37 : decode cX10_digest 37 = .ok (.getfield 70, 3) := by decide +kernel
theorem dX10_digest_40 : decode cX10_digest 40 = .ok (.getfield 74, 3) := by decide +kernel
theorem dX10_digest_43 : decode cX10_digest 43 = .ok (.if_icmp .ge 28, 3) := by decide +kernel
theorem dX10_digest_46 : decode cX10_digest 46 = .ok (.ldc2_w 298, 3) := by decide +kernel
theorem dX10_digest_49 : decode cX10_digest 49 = .ok (.lload_n 1, 1) := by decide +kernel
theorem dX10_digest_50 : decode cX10_digest 50 = .ok (.lmul, 1) := by decide +kernel
theorem dX10_digest_51 : decode cX10_digest 51 = .ok (.aload_n 0, 1) := by decide +kernel
theorem dX10_digest_52 : decode cX10_digest 52 = .ok (.getfield 10, 3) := by decide +kernel
theorem dX10_digest_55 : decode cX10_digest 55 = .ok (.getfield 70, 3) := by decide +kernel
theorem dX10_digest_58 : decode cX10_digest 58 = .ok (.iload_n 3, 1) := by decide +kernel
theorem dX10_digest_59 : decode cX10_digest 59 = .ok (.invokevirtual 122, 3) := by decide +kernel
theorem dX10_digest_62 : decode cX10_digest 62 = .ok (.i2l, 1) := by decide +kernel
theorem dX10_digest_63 : decode cX10_digest 63 = .ok (.ladd, 1) := by decide +kernel
theorem dX10_digest_64 : decode cX10_digest 64 = .ok (.lstore_n 1, 1) := by decide +kernel
theorem dX10_digest_65 : decode cX10_digest 65 = .ok (.iinc 3 1, 3) := by decide +kernel
theorem dX10_digest_68 : decode cX10_digest 68 = .ok (.goto (-36), 3) := by decide +kernel
theorem dX10_digest_71 : decode cX10_digest 71 = .ok (.ldc2_w 298, 3) := by decide +kernel
theorem dX10_digest_74 : decode cX10_digest 74 = .ok (.lload_n 1, 1) := by decide +kernel
theorem dX10_digest_75 : decode cX10_digest 75 = .ok (.lmul, 1) := by decide +kernel
theorem dX10_digest_76 : decode cX10_digest 76 = .ok (.aload_n 0, 1) := by decide +kernel
theorem dX10_digest_77 : decode cX10_digest 77 = .ok (.getfield 10, 3) := by decide +kernel
theorem dX10_digest_80 : decode cX10_digest 80 = .ok (.getfield 107, 3) := by decide +kernel
theorem dX10_digest_83 : decode cX10_digest 83 = .ok (.getfield 277, 3) := by decide +kernel
theorem dX10_digest_86 : decode cX10_digest 86 = .ok (.iconst 0, 1) := by decide +kernel
theorem dX10_digest_87 : decode cX10_digest 87 = .ok (.iaload, 1) := by decide +kernel
theorem dX10_digest_88 : decode cX10_digest 88 = .ok (.i2l, 1) := by decide +kernel
theorem dX10_digest_89 : decode cX10_digest 89 = .ok (.ladd, 1) := by decide +kernel
theorem dX10_digest_90 : decode cX10_digest 90 = .ok (.lstore_n 1, 1) := by decide +kernel
theorem dX10_digest_91 : decode cX10_digest 91 = .ok (.ldc2_w 298, 3) := by decide +kernel
theorem dX10_digest_94 : decode cX10_digest 94 = .ok (.lload_n 1, 1) := by decide +kernel
theorem dX10_digest_95 : decode cX10_digest 95 = .ok (.lmul, 1) := by decide +kernel
theorem dX10_digest_96 : decode cX10_digest 96 = .ok (.aload_n 0, 1) := by decide +kernel
theorem dX10_digest_97 : decode cX10_digest 97 = .ok (.getfield 10, 3) := by decide +kernel
theorem dX10_digest_100 : decode cX10_digest 100 = .ok (.getfield 107, 3) := by decide +kernel
theorem dX10_digest_103 : decode cX10_digest 103 = .ok (.getfield 277, 3) := by decide +kernel
theorem dX10_digest_106 : decode cX10_digest 106 = .ok (.iconst 1, 1) := by decide +kernel
theorem dX10_digest_107 : decode cX10_digest 107 = .ok (.iaload, 1) := by decide +kernel
theorem dX10_digest_108 : decode cX10_digest 108 = .ok (.i2l, 1) := by decide +kernel
theorem dX10_digest_109 : decode cX10_digest 109 = .ok (.ladd, 1) := by decide +kernel
theorem dX10_digest_110 : decode cX10_digest 110 = .ok (.lstore_n 1, 1) := by decide +kernel
theorem dX10_digest_111 : decode cX10_digest 111 = .ok (.ldc2_w 298, 3) := by decide +kernel
theorem dX10_digest_114 : decode cX10_digest 114 = .ok (.lload_n 1, 1) := by decide +kernel
theorem dX10_digest_115 : decode cX10_digest 115 = .ok (.lmul, 1) := by decide +kernel
theorem dX10_digest_116 : decode cX10_digest 116 = .ok (.aload_n 0, 1) := by decide +kernel
theorem dX10_digest_117 : decode cX10_digest 117 = .ok (.getfield 10, 3) := by decide +kernel
theorem dX10_digest_120 : decode cX10_digest 120 = .ok (.getfield 107, 3) := by decide +kernel
theorem dX10_digest_123 : decode cX10_digest 123 = .ok (.getfield 280, 3) := by decide +kernel
theorem dX10_digest_126 : decode cX10_digest 126 = .ok (.i2l, 1) := by decide +kernel
theorem dX10_digest_127 : decode cX10_digest 127 = .ok (.ladd, 1) := by decide +kernel
theorem dX10_digest_128 : decode cX10_digest 128 = .ok (.lstore_n 1, 1) := by decide +kernel
theorem dX10_digest_129 : decode cX10_digest 129 = .ok (.aload_n 0, 1) := by decide +kernel
theorem dX10_digest_130 : decode cX10_digest 130 = .ok (.getfield 10, 3) := by decide +kernel
theorem dX10_digest_133 : decode cX10_digest 133 = .ok (.getfield 235, 3) := by decide +kernel
theorem dX10_digest_136 : decode cX10_digest 136 = .ok (.lload_n 1, 1) := by decide +kernel
theorem dX10_digest_137 : decode cX10_digest 137 = .ok (.invokevirtual 300, 3) := by decide +kernel
theorem dX10_digest_140 : decode cX10_digest 140 = .ok (.lstore_n 1, 1) := by decide +kernel
theorem dX10_digest_141 : decode cX10_digest 141 = .ok (.ldc2_w 298, 3) := by decide +kernel
theorem dX10_digest_144 : decode cX10_digest 144 = .ok (.lload_n 1, 1) := by decide +kernel
theorem dX10_digest_145 : decode cX10_digest 145 = .ok (.lmul, 1) := by decide +kernel
theorem dX10_digest_146 : decode cX10_digest 146 = .ok (.aload_n 0, 1) := by decide +kernel
theorem dX10_digest_147 : decode cX10_digest 147 = .ok (.getfield 34, 3) := by decide +kernel
theorem dX10_digest_150 : decode cX10_digest 150 = .ok (.getfield 283, 3) := by decide +kernel
theorem dX10_digest_153 : decode cX10_digest 153 = .ok (.ladd, 1) := by decide +kernel
theorem dX10_digest_154 : decode cX10_digest 154 = .ok (.lstore_n 1, 1) := by decide +kernel
theorem dX10_digest_155 : decode cX10_digest 155 = .ok (.ldc2_w 298, 3) := by decide +kernel
theorem dX10_digest_158 : decode cX10_digest 158 = .ok (.lload_n 1, 1) := by decide +kernel
theorem dX10_digest_159 : decode cX10_digest 159 = .ok (.lmul, 1) := by decide +kernel
theorem dX10_digest_160 : decode cX10_digest 160 = .ok (.aload_n 0, 1) := by decide +kernel
theorem dX10_digest_161 : decode cX10_digest 161 = .ok (.getfield 34, 3) := by decide +kernel
theorem dX10_digest_164 : decode cX10_digest 164 = .ok (.getfield 287, 3) := by decide +kernel
theorem dX10_digest_167 : decode cX10_digest 167 = .ok (.ladd, 1) := by decide +kernel
theorem dX10_digest_168 : decode cX10_digest 168 = .ok (.lreturn, 1) := by decide +kernel
theorem dX10_bad_0 : decode cX10_bad 0 = .ok (.aload_n 0, 1) := by decide +kernel
theorem dX10_bad_1 : decode cX10_bad 1 = .ok (.getfield 56, 3) := by decide +kernel
theorem dX10_bad_4 : decode cX10_bad 4 = .ok (.iconst 0, 1) := by decide +kernel
theorem dX10_bad_5 : decode cX10_bad 5 = .ok (.dup2, 1) := by decide +kernel
theorem dX10_bad_6 : decode cX10_bad 6 = .ok (.iaload, 1) := by decide +kernel
theorem dX10_bad_7 : decode cX10_bad 7 = .ok (.iconst 1, 1) := by decide +kernel
theorem dX10_bad_8 : decode cX10_bad 8 = .ok (.iadd, 1) := by decide +kernel
theorem dX10_bad_9 : decode cX10_bad 9 = .ok (.iastore, 1) := by decide +kernel
theorem dX10_bad_10 : decode cX10_bad 10 = .ok (.iload_n 1, 1) := by decide +kernel
theorem dX10_bad_11 : decode cX10_bad 11 = .ok (.ireturn, 1) := by decide +kernel
theorem dX10_no_0 : decode cX10_no 0 = .ok (.aload_n 0, 1) := by decide +kernel
theorem dX10_no_1 : decode cX10_no 1 = .ok (.getfield 56, 3) := by decide +kernel
theorem dX10_no_4 : decode cX10_no 4 = .ok (.iconst 1, 1) := by decide +kernel
theorem dX10_no_5 : decode cX10_no 5 = .ok (.dup2, 1) := by decide +kernel
theorem dX10_no_6 : decode cX10_no 6 = .ok (.iaload, 1) := by decide +kernel
theorem dX10_no_7 : decode cX10_no 7 = .ok (.iconst 1, 1) := by decide +kernel
theorem dX10_no_8 : decode cX10_no 8 = .ok (.iadd, 1) := by decide +kernel
theorem dX10_no_9 : decode cX10_no 9 = .ok (.iastore, 1) := by decide +kernel
theorem dX10_no_10 : decode cX10_no 10 = .ok (.bipush (-3), 2) := by decide +kernel
theorem dX10_no_12 : decode cX10_no 12 = .ok (.ireturn, 1) := by decide +kernel
theorem dX10_full_0 : decode cX10_full 0 = .ok (.aload_n 0, 1) := by decide +kernel
theorem dX10_full_1 : decode cX10_full 1 = .ok (.getfield 56, 3) := by decide +kernel
theorem dX10_full_4 : decode cX10_full 4 = .ok (.iconst 2, 1) := by decide +kernel
theorem dX10_full_5 : decode cX10_full 5 = .ok (.dup2, 1) := by decide +kernel
theorem dX10_full_6 : decode cX10_full 6 = .ok (.iaload, 1) := by decide +kernel
theorem dX10_full_7 : decode cX10_full 7 = .ok (.iconst 1, 1) := by decide +kernel
theorem dX10_full_8 : decode cX10_full 8 = .ok (.iadd, 1) := by decide +kernel
theorem dX10_full_9 : decode cX10_full 9 = .ok (.iastore, 1) := by decide +kernel
theorem dX10_full_10 : decode cX10_full 10 = .ok (.bipush (-4), 2) := by decide +kernel
theorem dX10_full_12 : decode cX10_full 12 = .ok (.ireturn, 1) := by decide +kernel
theorem dX10_within_0 : decode cX10_within 0 = .ok (.iload_n 0, 1) := by decide +kernel
theorem dX10_within_1 : decode cX10_within 1 = .ok (.iload_n 1, 1) := by decide +kernel
theorem dX10_within_2 : decode cX10_within 2 = .ok (.if_icmp .lt 12, 3) := by decide +kernel
theorem dX10_within_5 : decode cX10_within 5 = .ok (.iload_n 0, 1) := by decide +kernel
theorem dX10_within_6 : decode cX10_within 6 = .ok (.iload_n 2, 1) := by decide +kernel
theorem dX10_within_7 : decode cX10_within 7 = .ok (.if_icmp .gt 7, 3) := by decide +kernel
theorem dX10_within_10 : decode cX10_within 10 = .ok (.iconst 1, 1) := by decide +kernel
theorem dX10_within_11 : decode cX10_within 11 = .ok (.goto 4, 3) := by decide +kernel
theorem dX10_within_14 : decode cX10_within 14 = .ok (.iconst 0, 1) := by decide +kernel
theorem dX10_within_15 : decode cX10_within 15 = .ok (.ireturn, 1) := by decide +kernel
theorem dX10_isThrow_0 : decode cX10_isThrow 0 = .ok (.aload_n 0, 1) := by decide +kernel
theorem dX10_isThrow_1 : decode cX10_isThrow 1 = .ok (.getfield 10, 3) := by decide +kernel
theorem dX10_isThrow_4 : decode cX10_isThrow 4 = .ok (.getfield 70, 3) := by decide +kernel
theorem dX10_isThrow_7 : decode cX10_isThrow 7 = .ok (.iload_n 1, 1) := by decide +kernel
theorem dX10_isThrow_8 : decode cX10_isThrow 8 = .ok (.invokevirtual 149, 3) := by decide +kernel
theorem dX10_isThrow_11 : decode cX10_isThrow 11 = .ok (.ifCond .eq 21, 3) := by decide +kernel
theorem dX10_isThrow_14 : decode cX10_isThrow 14 = .ok (.iload_n 2, 1) := by decide +kernel
theorem dX10_isThrow_15 : decode cX10_isThrow 15 = .ok (.invokestatic 229, 3) := by decide +kernel
theorem dX10_isThrow_18 : decode cX10_isThrow 18 = .ok (.ifCond .eq 14, 3) := by decide +kernel
theorem dX10_isThrow_21 : decode cX10_isThrow 21 = .ok (.iload_n 3, 1) := by decide +kernel
theorem dX10_isThrow_22 : decode cX10_isThrow 22 = .ok (.invokestatic 232, 3) := by decide +kernel
theorem dX10_isThrow_25 : decode cX10_isThrow 25 = .ok (.ifCond .eq 7, 3) := by decide +kernel
theorem dX10_isThrow_28 : decode cX10_isThrow 28 = .ok (.iconst 1, 1) := by decide +kernel
theorem dX10_isThrow_29 : decode cX10_isThrow 29 = .ok (.goto 4, 3) := by decide +kernel
theorem dX10_isThrow_32 : decode cX10_isThrow 32 = .ok (.iconst 0, 1) := by decide +kernel
theorem dX10_isThrow_33 : decode cX10_isThrow 33 = .ok (.ireturn, 1) := by decide +kernel
theorem dX10_isForce_0 : decode cX10_isForce 0 = .ok (.iload_n 0, 1) := by decide +kernel
theorem dX10_isForce_1 : decode cX10_isForce 1 = .ok (.iconst 1, 1) := by decide +kernel
theorem dX10_isForce_2 : decode cX10_isForce 2 = .ok (.bipush 9, 2) := by decide +kernel
theorem dX10_isForce_4 : decode cX10_isForce 4 = .ok (.invokestatic 62, 3) := by decide +kernel
theorem dX10_isForce_7 : decode cX10_isForce 7 = .ok (.ireturn, 1) := by decide +kernel
theorem dX10_isSteepness_0 : decode cX10_isSteepness 0 = .ok (.iload_n 0, 1) := by decide +kernel
theorem dX10_isSteepness_1 : decode cX10_isSteepness 1 = .ok (.iconst 0, 1) := by decide +kernel
theorem dX10_isSteepness_2 : decode cX10_isSteepness 2 = .ok (.bipush 9, 2) := by decide +kernel
theorem dX10_isSteepness_4 : decode cX10_isSteepness 4 = .ok (.invokestatic 62, 3) := by decide +kernel
theorem dX10_isSteepness_7 : decode cX10_isSteepness 7 = .ok (.ireturn, 1) := by decide +kernel
theorem dX10_isStand_0 : decode cX10_isStand 0 = .ok (.iload_n 0, 1) := by decide +kernel
theorem dX10_isStand_1 : decode cX10_isStand 1 = .ok (.iconst 0, 1) := by decide +kernel
theorem dX10_isStand_2 : decode cX10_isStand 2 = .ok (.bipush 20, 2) := by decide +kernel
theorem dX10_isStand_4 : decode cX10_isStand 4 = .ok (.invokestatic 62, 3) := by decide +kernel
theorem dX10_isStand_7 : decode cX10_isStand 7 = .ok (.ireturn, 1) := by decide +kernel
theorem dX10_isChance_0 : decode cX10_isChance 0 = .ok (.iload_n 0, 1) := by decide +kernel
theorem dX10_isChance_1 : decode cX10_isChance 1 = .ok (.iconst 0, 1) := by decide +kernel
theorem dX10_isChance_2 : decode cX10_isChance 2 = .ok (.bipush 16, 2) := by decide +kernel
theorem dX10_isChance_4 : decode cX10_isChance 4 = .ok (.invokestatic 62, 3) := by decide +kernel
theorem dX10_isChance_7 : decode cX10_isChance 7 = .ok (.ireturn, 1) := by decide +kernel
theorem dX10_thrown_0 : decode cX10_thrown 0 = .ok (.aload_n 0, 1) := by decide +kernel
theorem dX10_thrown_1 : decode cX10_thrown 1 = .ok (.getfield 10, 3) := by decide +kernel
theorem dX10_thrown_4 : decode cX10_thrown 4 = .ok (.getfield 70, 3) := by decide +kernel
theorem dX10_thrown_7 : decode cX10_thrown 7 = .ok (.iload_n 1, 1) := by decide +kernel
theorem dX10_thrown_8 : decode cX10_thrown 8 = .ok (.invokevirtual 122, 3) := by decide +kernel
theorem dX10_thrown_11 : decode cX10_thrown 11 = .ok (.aload_n 0, 1) := by decide +kernel
theorem dX10_thrown_12 : decode cX10_thrown 12 = .ok (.getfield 10, 3) := by decide +kernel
theorem dX10_thrown_15 : decode cX10_thrown 15 = .ok (.getfield 70, 3) := by decide +kernel
theorem dX10_thrown_18 : decode cX10_thrown 18 = .ok (.getfield 88, 3) := by decide +kernel
theorem dX10_thrown_21 : decode cX10_thrown 21 = .ok (.iload_n 2, 1) := by decide +kernel
theorem dX10_thrown_22 : decode cX10_thrown 22 = .ok (.iload_n 3, 1) := by decide +kernel
theorem dX10_thrown_23 : decode cX10_thrown 23 = .ok (.iload 4, 2) := by decide +kernel
theorem dX10_thrown_25 : decode cX10_thrown 25 = .ok (.invokestatic 304, 3) := by decide +kernel
theorem dX10_thrown_28 : decode cX10_thrown 28 = .ok (.ireturn, 1) := by decide +kernel
theorem dX10_gather_0 : decode cX10_gather 0 = .ok (.aload_n 0, 1) := by decide +kernel
theorem dX10_gather_1 : decode cX10_gather 1 = .ok (.getfield 41, 3) := by decide +kernel
theorem dX10_gather_4 : decode cX10_gather 4 = .ok (.aload_n 0, 1) := by decide +kernel
theorem dX10_gather_5 : decode cX10_gather 5 = .ok (.getfield 10, 3) := by decide +kernel
theorem dX10_gather_8 : decode cX10_gather 8 = .ok (.getfield 70, 3) := by decide +kernel
theorem dX10_gather_11 : decode cX10_gather 11 = .ok (.iload_n 1, 1) := by decide +kernel
theorem dX10_gather_12 : decode cX10_gather 12 = .ok (.invokevirtual 122, 3) := by decide +kernel
theorem dX10_gather_15 : decode cX10_gather 15 = .ok (.aload_n 0, 1) := by decide +kernel
theorem dX10_gather_16 : decode cX10_gather 16 = .ok (.getfield 10, 3) := by decide +kernel
theorem dX10_gather_19 : decode cX10_gather 19 = .ok (.getfield 70, 3) := by decide +kernel
theorem dX10_gather_22 : decode cX10_gather 22 = .ok (.getfield 88, 3) := by decide +kernel
theorem dX10_gather_25 : decode cX10_gather 25 = .ok (.iload_n 2, 1) := by decide +kernel
theorem dX10_gather_26 : decode cX10_gather 26 = .ok (.iload_n 3, 1) := by decide +kernel
theorem dX10_gather_27 : decode cX10_gather 27 = .ok (.invokevirtual 307, 3) := by decide +kernel
theorem dX10_gather_30 : decode cX10_gather 30 = .ok (.return_, 1) := by decide +kernel
theorem dX10_bestStone_0 : decode cX10_bestStone 0 = .ok (.aload_n 0, 1) := by decide +kernel
theorem dX10_bestStone_1 : decode cX10_bestStone 1 = .ok (.iconst 0, 1) := by decide +kernel
theorem dX10_bestStone_2 : decode cX10_bestStone 2 = .ok (.aload_n 0, 1) := by decide +kernel
theorem dX10_bestStone_3 : decode cX10_bestStone 3 = .ok (.getfield 10, 3) := by decide +kernel
theorem dX10_bestStone_6 : decode cX10_bestStone 6 = .ok (.getfield 70, 3) := by decide +kernel
theorem dX10_bestStone_9 : decode cX10_bestStone 9 = .ok (.getfield 74, 3) := by decide +kernel
theorem dX10_bestStone_12 : decode cX10_bestStone 12 = .ok (.iconst (-1), 1) := by decide +kernel
theorem dX10_bestStone_13 : decode cX10_bestStone 13 = .ok (.invokevirtual 226, 3) := by decide +kernel
theorem dX10_bestStone_16 : decode cX10_bestStone 16 = .ok (.istore_n 1, 1) := by decide +kernel
theorem dX10_bestStone_17 : decode cX10_bestStone 17 = .ok (.iconst 0, 1) := by decide +kernel
theorem dX10_bestStone_18 : decode cX10_bestStone 18 = .ok (.istore_n 2, 1) := by decide +kernel
theorem dX10_bestStone_19 : decode cX10_bestStone 19 = .ok (.iload_n 2, 1) := by decide +kernel
theorem dX10_bestStone_20 : decode cX10_bestStone 20 = .ok (.aload_n 0, 1) := by decide +kernel
theorem dX10_bestStone_21 : decode cX10_bestStone 21 = .ok (.getfield 10, 3) := by decide +kernel
theorem dX10_bestStone_24 : decode cX10_bestStone 24 = .ok (.getfield 70, 3) := by decide +kernel
theorem dX10_bestStone_27 : decode cX10_bestStone 27 = .ok (.getfield 74, 3) := by decide +kernel
theorem dX10_bestStone_30 : decode cX10_bestStone 30 = .ok (.if_icmp .ge 31, 3) := by decide +kernel
theorem dX10_bestStone_33 : decode cX10_bestStone 33 = .ok (.aload_n 0, 1) := by decide +kernel
theorem dX10_bestStone_34 : decode cX10_bestStone 34 = .ok (.getfield 48, 3) := by decide +kernel
theorem dX10_bestStone_37 : decode cX10_bestStone 37 = .ok (.aload_n 0, 1) := by decide +kernel
theorem dX10_bestStone_38 : decode cX10_bestStone 38 = .ok (.getfield 10, 3) := by decide +kernel
theorem dX10_bestStone_41 : decode cX10_bestStone 41 = .ok (.getfield 70, 3) := by decide +kernel
theorem dX10_bestStone_44 : decode cX10_bestStone 44 = .ok (.iload_n 2, 1) := by decide +kernel
theorem dX10_bestStone_45 : decode cX10_bestStone 45 = .ok (.iconst 0, 1) := by decide +kernel
theorem dX10_bestStone_46 : decode cX10_bestStone 46 = .ok (.invokevirtual 159, 3) := by decide +kernel
theorem dX10_bestStone_49 : decode cX10_bestStone 49 = .ok (.iload_n 1, 1) := by decide +kernel
theorem dX10_bestStone_50 : decode cX10_bestStone 50 = .ok (.if_icmp .ne 5, 3) := by decide +kernel
theorem dX10_bestStone_53 : decode cX10_bestStone 53 = .ok (.iload_n 2, 1) := by decide +kernel
theorem dX10_bestStone_54 : decode cX10_bestStone 54 = .ok (.ireturn, 1) := by decide +kernel
theorem dX10_bestStone_55 : decode cX10_bestStone 55 = .ok (.iinc 2 1, 3) := by decide +kernel
theorem dX10_bestStone_58 : decode cX10_bestStone 58 = .ok (.goto (-39), 3) := by decide +kernel
theorem dX10_bestStone_61 : decode cX10_bestStone 61 = .ok (.iconst (-1), 1) := by decide +kernel
theorem dX10_bestStone_62 : decode cX10_bestStone 62 = .ok (.ireturn, 1) := by decide +kernel
theorem dX10_mostPoints_0 : decode cX10_mostPoints 0 = .ok (.iconst 0, 1) := by decide +kernel
theorem dX10_mostPoints_1 : decode cX10_mostPoints 1 = .ok (.istore 4, 2) := by decide +kernel
theorem dX10_mostPoints_3 : decode cX10_mostPoints 3 = .ok (.iload_n 1, 1) := by decide +kernel
theorem dX10_mostPoints_4 : decode cX10_mostPoints 4 = .ok (.istore 5, 2) := by decide +kernel
theorem dX10_mostPoints_6 : decode cX10_mostPoints 6 = .ok (.iload 5, 2) := by decide +kernel
theorem dX10_mostPoints_8 : decode cX10_mostPoints 8 = .ok (.iload_n 2, 1) := by decide +kernel
theorem dX10_mostPoints_9 : decode cX10_mostPoints 9 = .ok (.if_icmp .ge 50, 3) := by decide +kernel
theorem dX10_mostPoints_12 : decode cX10_mostPoints 12 = .ok (.aload_n 0, 1) := by decide +kernel
theorem dX10_mostPoints_13 : decode cX10_mostPoints 13 = .ok (.getfield 48, 3) := by decide +kernel
theorem dX10_mostPoints_16 : decode cX10_mostPoints 16 = .ok (.aload_n 0, 1) := by decide +kernel
theorem dX10_mostPoints_17 : decode cX10_mostPoints 17 = .ok (.getfield 10, 3) := by decide +kernel
theorem dX10_mostPoints_20 : decode cX10_mostPoints 20 = .ok (.getfield 70, 3) := by decide +kernel
theorem dX10_mostPoints_23 : decode cX10_mostPoints 23 = .ok (.iload 5, 2) := by decide +kernel
theorem dX10_mostPoints_25 : decode cX10_mostPoints 25 = .ok (.iconst 0, 1) := by decide +kernel
theorem dX10_mostPoints_26 : decode cX10_mostPoints 26 = .ok (.invokevirtual 159, 3) := by decide +kernel
theorem dX10_mostPoints_29 : decode cX10_mostPoints 29 = .ok (.istore 6, 2) := by decide +kernel
theorem dX10_mostPoints_31 : decode cX10_mostPoints 31 = .ok (.iload 5, 2) := by decide +kernel
theorem dX10_mostPoints_33 : decode cX10_mostPoints 33 = .ok (.iload_n 3, 1) := by decide +kernel
theorem dX10_mostPoints_34 : decode cX10_mostPoints 34 = .ok (.if_icmp .eq 15, 3) := by decide +kernel
theorem dX10_mostPoints_37 : decode cX10_mostPoints 37 = .ok (.iload 6, 2) := by decide +kernel
theorem dX10_mostPoints_39 : decode cX10_mostPoints 39 = .ok (.iload 4, 2) := by decide +kernel
theorem dX10_mostPoints_41 : decode cX10_mostPoints 41 = .ok (.if_icmp .le 8, 3) := by decide +kernel
theorem dX10_mostPoints_44 : decode cX10_mostPoints 44 = .ok (.iload 6, 2) := by decide +kernel
theorem dX10_mostPoints_46 : decode cX10_mostPoints 46 = .ok (.goto 5, 3) := by decide +kernel
theorem dX10_mostPoints_49 : decode cX10_mostPoints 49 = .ok (.iload 4, 2) := by decide +kernel
theorem dX10_mostPoints_51 : decode cX10_mostPoints 51 = .ok (.istore 4, 2) := by decide +kernel
theorem dX10_mostPoints_53 : decode cX10_mostPoints 53 = .ok (.iinc 5 1, 3) := by decide +kernel
theorem dX10_mostPoints_56 : decode cX10_mostPoints 56 = .ok (.goto (-50), 3) := by decide +kernel
theorem dX10_mostPoints_59 : decode cX10_mostPoints 59 = .ok (.iload 4, 2) := by decide +kernel
theorem dX10_mostPoints_61 : decode cX10_mostPoints 61 = .ok (.ireturn, 1) := by decide +kernel
theorem dX10_slipOf_0 : decode cX10_slipOf 0 = .ok (.iload_n 0, 1) := by decide +kernel
theorem dX10_slipOf_1 : decode cX10_slipOf 1 = .ok (.ifCond .ne 5, 3) := by decide +kernel
theorem dX10_slipOf_4 : decode cX10_slipOf 4 = .ok (.iconst (-1), 1) := by decide +kernel
theorem dX10_slipOf_5 : decode cX10_slipOf 5 = .ok (.ireturn, 1) := by decide +kernel
theorem dX10_slipOf_6 : decode cX10_slipOf 6 = .ok (.iload_n 0, 1) := by decide +kernel
theorem dX10_slipOf_7 : decode cX10_slipOf 7 = .ok (.iconst 3, 1) := by decide +kernel
theorem dX10_slipOf_8 : decode cX10_slipOf 8 = .ok (.if_icmp .ne 7, 3) := by decide +kernel
theorem dX10_slipOf_11 : decode cX10_slipOf 11 = .ok (.iconst 1, 1) := by decide +kernel
theorem dX10_slipOf_12 : decode cX10_slipOf 12 = .ok (.goto 4, 3) := by decide +kernel
theorem dX10_slipOf_15 : decode cX10_slipOf 15 = .ok (.iconst 0, 1) := by decide +kernel
theorem dX10_slipOf_16 : decode cX10_slipOf 16 = .ok (.ireturn, 1) := by decide +kernel
theorem dX10_holdSureChance_0 : decode cX10_holdSureChance 0 = .ok (.iload_n 1, 1) := by decide +kernel
theorem dX10_holdSureChance_1 : decode cX10_holdSureChance 1 = .ok (.iload_n 2, 1) := by decide +kernel
theorem dX10_holdSureChance_2 : decode cX10_holdSureChance 2 = .ok (.invokestatic 309, 3) := by decide +kernel
theorem dX10_holdSureChance_5 : decode cX10_holdSureChance 5 = .ok (.iload_n 3, 1) := by decide +kernel
theorem dX10_holdSureChance_6 : decode cX10_holdSureChance 6 = .ok (.iload 4, 2) := by decide +kernel
theorem dX10_holdSureChance_8 : decode cX10_holdSureChance 8 = .ok (.invokestatic 309, 3) := by decide +kernel
theorem dX10_holdSureChance_11 : decode cX10_holdSureChance 11 = .ok (.invokestatic 314, 3) := by decide +kernel
theorem dX10_holdSureChance_14 : decode cX10_holdSureChance 14 = .ok (.istore 5, 2) := by decide +kernel
theorem dX10_holdSureChance_16 : decode cX10_holdSureChance 16 = .ok (.iload_n 1, 1) := by decide +kernel
theorem dX10_holdSureChance_17 : decode cX10_holdSureChance 17 = .ok (.iload_n 3, 1) := by decide +kernel
theorem dX10_holdSureChance_18 : decode cX10_holdSureChance 18 = .ok (.invokestatic 314, 3) := by decide +kernel
theorem dX10_holdSureChance_21 : decode cX10_holdSureChance 21 = .ok (.iload_n 2, 1) := by decide +kernel
theorem dX10_holdSureChance_22 : decode cX10_holdSureChance 22 = .ok (.iload 4, 2) := by decide +kernel
theorem dX10_holdSureChance_24 : decode cX10_holdSureChance 24 = .ok (.invokestatic 314, 3) := by decide +kernel
theorem dX10_holdSureChance_27 : decode cX10_holdSureChance 27 = .ok (.invokestatic 309, 3) := by decide +kernel
theorem dX10_holdSureChance_30 : decode cX10_holdSureChance 30 = .ok (.istore 6, 2) := by decide +kernel
theorem dX10_holdSureChance_32 : decode cX10_holdSureChance 32 = .ok (.iload 5, 2) := by decide +kernel
theorem dX10_holdSureChance_34 : decode cX10_holdSureChance 34 = .ok (.iload 6, 2) := by decide +kernel
theorem dX10_holdSureChance_36 : decode cX10_holdSureChance 36 = .ok (.if_icmp .ne 17, 3) := by decide +kernel
theorem dX10_holdSureChance_39 : decode cX10_holdSureChance 39 = .ok (.aload_n 0, 1) := by decide +kernel
theorem dX10_holdSureChance_40 : decode cX10_holdSureChance 40 = .ok (.getfield 34, 3) := by decide +kernel
theorem dX10_holdSureChance_43 : decode cX10_holdSureChance 43 = .ok (.iload 5, 2) := by decide +kernel
theorem dX10_holdSureChance_45 : decode cX10_holdSureChance 45 = .ok (.i2l, 1) := by decide +kernel
theorem dX10_holdSureChance_46 : decode cX10_holdSureChance 46 = .ok (.ldc2_w 317, 3) := by decide +kernel
theorem dX10_holdSureChance_49 : decode cX10_holdSureChance 49 = .ok (.invokevirtual 179, 3) := by decide +kernel
theorem dX10_holdSureChance_52 : decode cX10_holdSureChance 52 = .ok (.return_, 1) := by decide +kernel
theorem dX10_holdSureChance_53 : decode cX10_holdSureChance 53 = .ok (.iload_n 1, 1) := by decide +kernel
theorem dX10_holdSureChance_54 : decode cX10_holdSureChance 54 = .ok (.i2l, 1) := by decide +kernel
theorem dX10_holdSureChance_55 : decode cX10_holdSureChance 55 = .ok (.iload 4, 2) := by decide +kernel
theorem dX10_holdSureChance_57 : decode cX10_holdSureChance 57 = .ok (.i2l, 1) := by decide +kernel
theorem dX10_holdSureChance_58 : decode cX10_holdSureChance 58 = .ok (.lmul, 1) := by decide +kernel
theorem dX10_holdSureChance_59 : decode cX10_holdSureChance 59 = .ok (.iload_n 2, 1) := by decide +kernel
theorem dX10_holdSureChance_60 : decode cX10_holdSureChance 60 = .ok (.i2l, 1) := by decide +kernel
theorem dX10_holdSureChance_61 : decode cX10_holdSureChance 61 = .ok (.iload_n 3, 1) := by decide +kernel
theorem dX10_holdSureChance_62 : decode cX10_holdSureChance 62 = .ok (.i2l, 1) := by decide +kernel
theorem dX10_holdSureChance_63 : decode cX10_holdSureChance 63 = .ok (.lmul, 1) := by decide +kernel
theorem dX10_holdSureChance_64 : decode cX10_holdSureChance 64 = .ok (.lsub, 1) := by decide +kernel
theorem dX10_holdSureChance_65 : decode cX10_holdSureChance 65 = .ok (.lstore 7, 2) := by decide +kernel
theorem dX10_holdSureChance_67 : decode cX10_holdSureChance 67 = .ok (.iload_n 1, 1) := by decide +kernel
theorem dX10_holdSureChance_68 : decode cX10_holdSureChance 68 = .ok (.i2l, 1) := by decide +kernel
theorem dX10_holdSureChance_69 : decode cX10_holdSureChance 69 = .ok (.iload 4, 2) := by decide +kernel
theorem dX10_holdSureChance_71 : decode cX10_holdSureChance 71 = .ok (.i2l, 1) := by decide +kernel
theorem dX10_holdSureChance_72 : decode cX10_holdSureChance 72 = .ok (.ladd, 1) := by decide +kernel
theorem dX10_holdSureChance_73 : decode cX10_holdSureChance 73 = .ok (.iload_n 2, 1) := by decide +kernel
theorem dX10_holdSureChance_74 : decode cX10_holdSureChance 74 = .ok (.i2l, 1) := by decide +kernel
theorem dX10_holdSureChance_75 : decode cX10_holdSureChance 75 = .ok (.lsub, 1) := by decide +kernel
theorem dX10_holdSureChance_76 : decode cX10_holdSureChance 76 = .ok (.iload_n 3, 1) := by decide +kernel
theorem dX10_holdSureChance_77 : decode cX10_holdSureChance 77 = .ok (.i2l, 1) := by decide +kernel
theorem dX10_holdSureChance_78 : decode cX10_holdSureChance 78 = .ok (.lsub, 1) := by decide +kernel
theorem dX10_holdSureChance_79 : decode cX10_holdSureChance 79 = .ok (.lstore 9, 2) := by decide +kernel
theorem dX10_holdSureChance_81 : decode cX10_holdSureChance 81 = .ok (.aload_n 0, 1) := by decide +kernel
theorem dX10_holdSureChance_82 : decode cX10_holdSureChance 82 = .ok (.getfield 34, 3) := by decide +kernel
theorem dX10_holdSureChance_85 : decode cX10_holdSureChance 85 = .ok (.lload 7, 2) := by decide +kernel
theorem dX10_holdSureChance_87 : decode cX10_holdSureChance 87 = .ok (.lload 9, 2) := by decide +kernel
theorem dX10_holdSureChance_89 : decode cX10_holdSureChance 89 = .ok (.ldc2_w 317, 3) := by decide +kernel
theorem dX10_holdSureChance_92 : decode cX10_holdSureChance 92 = .ok (.lmul, 1) := by decide +kernel
theorem dX10_holdSureChance_93 : decode cX10_holdSureChance 93 = .ok (.invokevirtual 179, 3) := by decide +kernel
theorem dX10_holdSureChance_96 : decode cX10_holdSureChance 96 = .ok (.return_, 1) := by decide +kernel
theorem dX10_firstWrong_0 : decode cX10_firstWrong 0 = .ok (.iconst 0, 1) := by decide +kernel
theorem dX10_firstWrong_1 : decode cX10_firstWrong 1 = .ok (.istore_n 1, 1) := by decide +kernel
theorem dX10_firstWrong_2 : decode cX10_firstWrong 2 = .ok (.iload_n 1, 1) := by decide +kernel
theorem dX10_firstWrong_3 : decode cX10_firstWrong 3 = .ok (.aload_n 0, 1) := by decide +kernel
theorem dX10_firstWrong_4 : decode cX10_firstWrong 4 = .ok (.getfield 10, 3) := by decide +kernel
theorem dX10_firstWrong_7 : decode cX10_firstWrong 7 = .ok (.getfield 235, 3) := by decide +kernel
theorem dX10_firstWrong_10 : decode cX10_firstWrong 10 = .ok (.getfield 239, 3) := by decide +kernel
theorem dX10_firstWrong_13 : decode cX10_firstWrong 13 = .ok (.if_icmp .ge 19, 3) := by decide +kernel
theorem dX10_firstWrong_16 : decode cX10_firstWrong 16 = .ok (.aload_n 0, 1) := by decide +kernel
theorem dX10_firstWrong_17 : decode cX10_firstWrong 17 = .ok (.iload_n 1, 1) := by decide +kernel
theorem dX10_firstWrong_18 : decode cX10_firstWrong 18 = .ok (.invokevirtual 319, 3) := by decide +kernel
theorem dX10_firstWrong_21 : decode cX10_firstWrong 21 = .ok (.ifCond .ne 5, 3) := by decide +kernel
theorem dX10_firstWrong_24 : decode cX10_firstWrong 24 = .ok (.iload_n 1, 1) := by decide +kernel
theorem dX10_firstWrong_25 : decode cX10_firstWrong 25 = .ok (.ireturn, 1) := by decide +kernel
theorem dX10_firstWrong_26 : decode cX10_firstWrong 26 = .ok (.iinc 1 1, 3) := by decide +kernel
theorem dX10_firstWrong_29 : decode cX10_firstWrong 29 = .ok (.goto (-27), 3) := by decide +kernel
theorem dX10_firstWrong_32 : decode cX10_firstWrong 32 = .ok (.iconst (-1), 1) := by decide +kernel
theorem dX10_firstWrong_33 : decode cX10_firstWrong 33 = .ok (.ireturn, 1) := by decide +kernel
theorem dX10_isRight_0 : decode cX10_isRight 0 = .ok (.aload_n 0, 1) := by decide +kernel
theorem dX10_isRight_1 : decode cX10_isRight 1 = .ok (.getfield 10, 3) := by decide +kernel
theorem dX10_isRight_4 : decode cX10_isRight 4 = .ok (.getfield 235, 3) := by decide +kernel
theorem dX10_isRight_7 : decode cX10_isRight 7 = .ok (.astore_n 2, 1) := by decide +kernel
theorem dX10_isRight_8 : decode cX10_isRight 8 = .ok (.aload_n 2, 1) := by decide +kernel
theorem dX10_isRight_9 : decode cX10_isRight 9 = .ok (.iload_n 1, 1) := by decide +kernel
theorem dX10_isRight_10 : decode cX10_isRight 10 = .ok (.iconst 0, 1) := by decide +kernel
theorem dX10_isRight_11 : decode cX10_isRight 11 = .ok (.invokevirtual 322, 3) := by decide +kernel
theorem dX10_isRight_14 : decode cX10_isRight 14 = .ok (.istore_n 3, 1) := by decide +kernel
theorem dX10_isRight_15 : decode cX10_isRight 15 = .ok (.aload_n 0, 1) := by decide +kernel
theorem dX10_isRight_16 : decode cX10_isRight 16 = .ok (.getfield 10, 3) := by decide +kernel
theorem dX10_isRight_19 : decode cX10_isRight 19 = .ok (.getfield 70, 3) := by decide +kernel
theorem dX10_isRight_22 : decode cX10_isRight 22 = .ok (.iload_n 3, 1) := by decide +kernel
theorem dX10_isRight_23 : decode cX10_isRight 23 = .ok (.invokevirtual 149, 3) := by decide +kernel
theorem dX10_isRight_26 : decode cX10_isRight 26 = .ok (.ifCond .ne 5, 3) := by decide +kernel
theorem dX10_isRight_29 : decode cX10_isRight 29 = .ok (.iconst 0, 1) := by decide +kernel
theorem dX10_isRight_30 : decode cX10_isRight 30 = .ok (.ireturn, 1) := by decide +kernel
theorem dX10_isRight_31 : decode cX10_isRight 31 = .ok (.aload_n 2, 1) := by decide +kernel
theorem dX10_isRight_32 : decode cX10_isRight 32 = .ok (.iload_n 1, 1) := by decide +kernel
theorem dX10_isRight_33 : decode cX10_isRight 33 = .ok (.iconst 4, 1) := by decide +kernel
theorem dX10_isRight_34 : decode cX10_isRight 34 = .ok (.invokevirtual 322, 3) := by decide +kernel
theorem dX10_isRight_37 : decode cX10_isRight 37 = .ok (.istore 4, 2) := by decide +kernel
theorem dX10_isRight_39 : decode cX10_isRight 39 = .ok (.aload_n 2, 1) := by decide +kernel
theorem dX10_isRight_40 : decode cX10_isRight 40 = .ok (.iload_n 1, 1) := by decide +kernel
theorem dX10_isRight_41 : decode cX10_isRight 41 = .ok (.iconst 1, 1) := by decide +kernel
theorem dX10_isRight_42 : decode cX10_isRight 42 = .ok (.invokevirtual 322, 3) := by decide +kernel
theorem dX10_isRight_45 : decode cX10_isRight 45 = .ok (.iload 4, 2) := by decide +kernel
theorem dX10_isRight_47 : decode cX10_isRight 47 = .ok (.iconst 3, 1) := by decide +kernel
theorem dX10_isRight_48 : decode cX10_isRight 48 = .ok (.idiv, 1) := by decide +kernel
theorem dX10_isRight_49 : decode cX10_isRight 49 = .ok (.iadd, 1) := by decide +kernel
theorem dX10_isRight_50 : decode cX10_isRight 50 = .ok (.iconst 1, 1) := by decide +kernel
theorem dX10_isRight_51 : decode cX10_isRight 51 = .ok (.isub, 1) := by decide +kernel
theorem dX10_isRight_52 : decode cX10_isRight 52 = .ok (.istore 5, 2) := by decide +kernel
theorem dX10_isRight_54 : decode cX10_isRight 54 = .ok (.aload_n 2, 1) := by decide +kernel
theorem dX10_isRight_55 : decode cX10_isRight 55 = .ok (.iload_n 1, 1) := by decide +kernel
theorem dX10_isRight_56 : decode cX10_isRight 56 = .ok (.iconst 2, 1) := by decide +kernel
theorem dX10_isRight_57 : decode cX10_isRight 57 = .ok (.invokevirtual 322, 3) := by decide +kernel
theorem dX10_isRight_60 : decode cX10_isRight 60 = .ok (.iload 4, 2) := by decide +kernel
theorem dX10_isRight_62 : decode cX10_isRight 62 = .ok (.iconst 3, 1) := by decide +kernel
theorem dX10_isRight_63 : decode cX10_isRight 63 = .ok (.irem, 1) := by decide +kernel
theorem dX10_isRight_64 : decode cX10_isRight 64 = .ok (.iadd, 1) := by decide +kernel
theorem dX10_isRight_65 : decode cX10_isRight 65 = .ok (.iconst 1, 1) := by decide +kernel
theorem dX10_isRight_66 : decode cX10_isRight 66 = .ok (.isub, 1) := by decide +kernel
theorem dX10_isRight_67 : decode cX10_isRight 67 = .ok (.istore 6, 2) := by decide +kernel
theorem dX10_isRight_69 : decode cX10_isRight 69 = .ok (.aload_n 0, 1) := by decide +kernel
theorem dX10_isRight_70 : decode cX10_isRight 70 = .ok (.iload_n 3, 1) := by decide +kernel
theorem dX10_isRight_71 : decode cX10_isRight 71 = .ok (.iload 5, 2) := by decide +kernel
theorem dX10_isRight_73 : decode cX10_isRight 73 = .ok (.iload 6, 2) := by decide +kernel
theorem dX10_isRight_75 : decode cX10_isRight 75 = .ok (.aload_n 2, 1) := by decide +kernel
theorem dX10_isRight_76 : decode cX10_isRight 76 = .ok (.iload_n 1, 1) := by decide +kernel
theorem dX10_isRight_77 : decode cX10_isRight 77 = .ok (.iconst 3, 1) := by decide +kernel
theorem dX10_isRight_78 : decode cX10_isRight 78 = .ok (.invokevirtual 322, 3) := by decide +kernel
theorem dX10_isRight_81 : decode cX10_isRight 81 = .ok (.invokevirtual 136, 3) := by decide +kernel
theorem dX10_isRight_84 : decode cX10_isRight 84 = .ok (.aload_n 2, 1) := by decide +kernel
theorem dX10_isRight_85 : decode cX10_isRight 85 = .ok (.iload_n 1, 1) := by decide +kernel
theorem dX10_isRight_86 : decode cX10_isRight 86 = .ok (.iconst 5, 1) := by decide +kernel
theorem dX10_isRight_87 : decode cX10_isRight 87 = .ok (.invokevirtual 322, 3) := by decide +kernel
theorem dX10_isRight_90 : decode cX10_isRight 90 = .ok (.if_icmp .ne 7, 3) := by decide +kernel
theorem dX10_isRight_93 : decode cX10_isRight 93 = .ok (.iconst 1, 1) := by decide +kernel
theorem dX10_isRight_94 : decode cX10_isRight 94 = .ok (.goto 4, 3) := by decide +kernel
theorem dX10_isRight_97 : decode cX10_isRight 97 = .ok (.iconst 0, 1) := by decide +kernel
theorem dX10_isRight_98 : decode cX10_isRight 98 = .ok (.ireturn, 1) := by decide +kernel
theorem dX10_numberOf_0 : decode cX10_numberOf 0 = .ok (.iload_n 1, 1) := by decide +kernel
theorem dX10_numberOf_1 : decode cX10_numberOf 1 = .ok (.tableswitch 72 0 3 #[31, 42, 53, 64], 31) := by decide +kernel
theorem dX10_numberOf_32 : decode cX10_numberOf 32 = .ok (.aload_n 0, 1) := by decide +kernel
theorem dX10_numberOf_33 : decode cX10_numberOf 33 = .ok (.getfield 10, 3) := by decide +kernel
theorem dX10_numberOf_36 : decode cX10_numberOf 36 = .ok (.getfield 70, 3) := by decide +kernel
theorem dX10_numberOf_39 : decode cX10_numberOf 39 = .ok (.getfield 74, 3) := by decide +kernel
theorem dX10_numberOf_42 : decode cX10_numberOf 42 = .ok (.ireturn, 1) := by decide +kernel
theorem dX10_numberOf_43 : decode cX10_numberOf 43 = .ok (.aload_n 0, 1) := by decide +kernel
theorem dX10_numberOf_44 : decode cX10_numberOf 44 = .ok (.getfield 10, 3) := by decide +kernel
theorem dX10_numberOf_47 : decode cX10_numberOf 47 = .ok (.getfield 70, 3) := by decide +kernel
theorem dX10_numberOf_50 : decode cX10_numberOf 50 = .ok (.getfield 88, 3) := by decide +kernel
theorem dX10_numberOf_53 : decode cX10_numberOf 53 = .ok (.ireturn, 1) := by decide +kernel
theorem dX10_numberOf_54 : decode cX10_numberOf 54 = .ok (.aload_n 0, 1) := by decide +kernel
theorem dX10_numberOf_55 : decode cX10_numberOf 55 = .ok (.getfield 10, 3) := by decide +kernel
theorem dX10_numberOf_58 : decode cX10_numberOf 58 = .ok (.getfield 107, 3) := by decide +kernel
theorem dX10_numberOf_61 : decode cX10_numberOf 61 = .ok (.getfield 271, 3) := by decide +kernel
theorem dX10_numberOf_64 : decode cX10_numberOf 64 = .ok (.ireturn, 1) := by decide +kernel
theorem dX10_numberOf_65 : decode cX10_numberOf 65 = .ok (.aload_n 0, 1) := by decide +kernel
theorem dX10_numberOf_66 : decode cX10_numberOf 66 = .ok (.getfield 27, 3) := by decide +kernel
theorem dX10_numberOf_69 : decode cX10_numberOf 69 = .ok (.getfield 91, 3) := by decide +kernel
theorem dX10_numberOf_72 : decode cX10_numberOf 72 = .ok (.ireturn, 1) := by decide +kernel
theorem dX10_numberOf_73 : decode cX10_numberOf 73 = .ok (.aload_n 0, 1) := by decide +kernel
theorem dX10_numberOf_74 : decode cX10_numberOf 74 = .ok (.getfield 10, 3) := by decide +kernel
theorem dX10_numberOf_77 : decode cX10_numberOf 77 = .ok (.getfield 235, 3) := by decide +kernel
theorem dX10_numberOf_80 : decode cX10_numberOf 80 = .ok (.getfield 239, 3) := by decide +kernel
theorem dX10_numberOf_83 : decode cX10_numberOf 83 = .ok (.ireturn, 1) := by decide +kernel
theorem dX11_init_0 : decode cX11_init 0 = .ok (.aload_n 0, 1) := by decide +kernel
theorem dX11_init_1 : decode cX11_init 1 = .ok (.invokespecial 1, 3) := by decide +kernel
theorem dX11_init_4 : decode cX11_init 4 = .ok (.aload_n 0, 1) := by decide +kernel
theorem dX11_init_5 : decode cX11_init 5 = .ok (.bipush 117, 2) := by decide +kernel
theorem dX11_init_7 : decode cX11_init 7 = .ok (.newarray .int, 2) := by decide +kernel
theorem dX11_init_9 : decode cX11_init 9 = .ok (.putfield 7, 3) := by decide +kernel
theorem dX11_init_12 : decode cX11_init 12 = .ok (.aload_n 0, 1) := by decide +kernel
theorem dX11_init_13 : decode cX11_init 13 = .ok (.bipush 44, 2) := by decide +kernel
theorem dX11_init_15 : decode cX11_init 15 = .ok (.newarray .int, 2) := by decide +kernel
theorem dX11_init_17 : decode cX11_init 17 = .ok (.putfield 13, 3) := by decide +kernel
theorem dX11_init_20 : decode cX11_init 20 = .ok (.aload_n 0, 1) := by decide +kernel
theorem dX11_init_21 : decode cX11_init 21 = .ok (.sipush 234, 3) := by decide +kernel
theorem dX11_init_24 : decode cX11_init 24 = .ok (.newarray .int, 2) := by decide +kernel
theorem dX11_init_26 : decode cX11_init 26 = .ok (.putfield 16, 3) := by decide +kernel
theorem dX11_init_29 : decode cX11_init 29 = .ok (.aload_n 0, 1) := by decide +kernel
theorem dX11_init_30 : decode cX11_init 30 = .ok (.iconst 2, 1) := by decide +kernel
theorem dX11_init_31 : decode cX11_init 31 = .ok (.newarray .boolean, 2) := by decide +kernel
theorem dX11_init_33 : decode cX11_init 33 = .ok (.putfield 19, 3) := by decide +kernel
theorem dX11_init_36 : decode cX11_init 36 = .ok (.aload_n 0, 1) := by decide +kernel
theorem dX11_init_37 : decode cX11_init 37 = .ok (.bipush 120, 2) := by decide +kernel
theorem dX11_init_39 : decode cX11_init 39 = .ok (.newarray .int, 2) := by decide +kernel
theorem dX11_init_41 : decode cX11_init 41 = .ok (.putfield 23, 3) := by decide +kernel
theorem dX11_init_44 : decode cX11_init 44 = .ok (.aload_n 0, 1) := by decide +kernel
theorem dX11_init_45 : decode cX11_init 45 = .ok (.iconst 3, 1) := by decide +kernel
theorem dX11_init_46 : decode cX11_init 46 = .ok (.newarray .int, 2) := by decide +kernel
theorem dX11_init_48 : decode cX11_init 48 = .ok (.putfield 26, 3) := by decide +kernel
theorem dX11_init_51 : decode cX11_init 51 = .ok (.aload_n 0, 1) := by decide +kernel
theorem dX11_init_52 : decode cX11_init 52 = .ok (.lconst 1, 1) := by decide +kernel
theorem dX11_init_53 : decode cX11_init 53 = .ok (.putfield 29, 3) := by decide +kernel
theorem dX11_init_56 : decode cX11_init 56 = .ok (.aload_n 0, 1) := by decide +kernel
theorem dX11_init_57 : decode cX11_init 57 = .ok (.sipush 189, 3) := by decide +kernel
theorem dX11_init_60 : decode cX11_init 60 = .ok (.newarray .long, 2) := by decide +kernel
theorem dX11_init_62 : decode cX11_init 62 = .ok (.putfield 33, 3) := by decide +kernel
theorem dX11_init_65 : decode cX11_init 65 = .ok (.aload_n 0, 1) := by decide +kernel
theorem dX11_init_66 : decode cX11_init 66 = .ok (.iconst 4, 1) := by decide +kernel
theorem dX11_init_67 : decode cX11_init 67 = .ok (.newarray .int, 2) := by decide +kernel
theorem dX11_init_69 : decode cX11_init 69 = .ok (.putfield 37, 3) := by decide +kernel
theorem dX11_init_72 : decode cX11_init 72 = .ok (.return_, 1) := by decide +kernel
theorem dX11_in_0 : decode cX11_in 0 = .ok (.lload_n 0, 1) := by decide +kernel
theorem dX11_in_1 : decode cX11_in 1 = .ok (.lload_n 2, 1) := by decide +kernel
theorem dX11_in_2 : decode cX11_in 2 = .ok (.lcmp, 1) := by decide +kernel
theorem dX11_in_3 : decode cX11_in 3 = .ok (.ifCond .lt 14, 3) := by decide +kernel
theorem dX11_in_6 : decode cX11_in 6 = .ok (.lload_n 0, 1) := by decide +kernel
theorem dX11_in_7 : decode cX11_in 7 = .ok (.lload 4, 2) := by decide +kernel
theorem dX11_in_9 : decode cX11_in 9 = .ok (.lcmp, 1) := by decide +kernel
theorem dX11_in_10 : decode cX11_in 10 = .ok (.ifCond .gt 7, 3) := by decide +kernel
theorem dX11_in_13 : decode cX11_in 13 = .ok (.iconst 1, 1) := by decide +kernel
theorem dX11_in_14 : decode cX11_in 14 = .ok (.goto 4, 3) := by decide +kernel
theorem dX11_in_17 : decode cX11_in 17 = .ok (.iconst 0, 1) := by decide +kernel
theorem dX11_in_18 : decode cX11_in 18 = .ok (.ireturn, 1) := by decide +kernel
theorem dX11_bad_0 : decode cX11_bad 0 = .ok (.aload_n 0, 1) := by decide +kernel
theorem dX11_bad_1 : decode cX11_bad 1 = .ok (.getfield 26, 3) := by decide +kernel
theorem dX11_bad_4 : decode cX11_bad 4 = .ok (.iconst 0, 1) := by decide +kernel
theorem dX11_bad_5 : decode cX11_bad 5 = .ok (.dup2, 1) := by decide +kernel
theorem dX11_bad_6 : decode cX11_bad 6 = .ok (.iaload, 1) := by decide +kernel
theorem dX11_bad_7 : decode cX11_bad 7 = .ok (.iconst 1, 1) := by decide +kernel
theorem dX11_bad_8 : decode cX11_bad 8 = .ok (.iadd, 1) := by decide +kernel
theorem dX11_bad_9 : decode cX11_bad 9 = .ok (.iastore, 1) := by decide +kernel
theorem dX11_bad_10 : decode cX11_bad 10 = .ok (.bipush (-2), 2) := by decide +kernel
theorem dX11_bad_12 : decode cX11_bad 12 = .ok (.ireturn, 1) := by decide +kernel
theorem dX11_badAs_0 : decode cX11_badAs 0 = .ok (.aload_n 0, 1) := by decide +kernel
theorem dX11_badAs_1 : decode cX11_badAs 1 = .ok (.getfield 26, 3) := by decide +kernel
theorem dX11_badAs_4 : decode cX11_badAs 4 = .ok (.iconst 0, 1) := by decide +kernel
theorem dX11_badAs_5 : decode cX11_badAs 5 = .ok (.dup2, 1) := by decide +kernel
theorem dX11_badAs_6 : decode cX11_badAs 6 = .ok (.iaload, 1) := by decide +kernel
theorem dX11_badAs_7 : decode cX11_badAs 7 = .ok (.iconst 1, 1) := by decide +kernel
theorem dX11_badAs_8 : decode cX11_badAs 8 = .ok (.iadd, 1) := by decide +kernel
theorem dX11_badAs_9 : decode cX11_badAs 9 = .ok (.iastore, 1) := by decide +kernel
theorem dX11_badAs_10 : decode cX11_badAs 10 = .ok (.iload_n 1, 1) := by decide +kernel
theorem dX11_badAs_11 : decode cX11_badAs 11 = .ok (.ireturn, 1) := by decide +kernel
theorem dX11_no_0 : decode cX11_no 0 = .ok (.aload_n 0, 1) := by decide +kernel
theorem dX11_no_1 : decode cX11_no 1 = .ok (.getfield 26, 3) := by decide +kernel
theorem dX11_no_4 : decode cX11_no 4 = .ok (.iconst 1, 1) := by decide +kernel
theorem dX11_no_5 : decode cX11_no 5 = .ok (.dup2, 1) := by decide +kernel
theorem dX11_no_6 : decode cX11_no 6 = .ok (.iaload, 1) := by decide +kernel
theorem dX11_no_7 : decode cX11_no 7 = .ok (.iconst 1, 1) := by decide +kernel
theorem dX11_no_8 : decode cX11_no 8 = .ok (.iadd, 1) := by decide +kernel
theorem dX11_no_9 : decode cX11_no 9 = .ok (.iastore, 1) := by decide +kernel
theorem dX11_no_10 : decode cX11_no 10 = .ok (.bipush (-3), 2) := by decide +kernel
theorem dX11_no_12 : decode cX11_no 12 = .ok (.ireturn, 1) := by decide +kernel
theorem dX11_full_0 : decode cX11_full 0 = .ok (.aload_n 0, 1) := by decide +kernel
theorem dX11_full_1 : decode cX11_full 1 = .ok (.getfield 26, 3) := by decide +kernel
theorem dX11_full_4 : decode cX11_full 4 = .ok (.iconst 2, 1) := by decide +kernel
theorem dX11_full_5 : decode cX11_full 5 = .ok (.dup2, 1) := by decide +kernel
theorem dX11_full_6 : decode cX11_full 6 = .ok (.iaload, 1) := by decide +kernel
theorem dX11_full_7 : decode cX11_full 7 = .ok (.iconst 1, 1) := by decide +kernel
theorem dX11_full_8 : decode cX11_full 8 = .ok (.iadd, 1) := by decide +kernel
theorem dX11_full_9 : decode cX11_full 9 = .ok (.iastore, 1) := by decide +kernel
theorem dX11_full_10 : decode cX11_full 10 = .ok (.bipush (-4), 2) := by decide +kernel
theorem dX11_full_12 : decode cX11_full 12 = .ok (.ireturn, 1) := by decide +kernel
theorem dX11_isStone_0 : decode cX11_isStone 0 = .ok (.iload_n 1, 1) := by decide +kernel
theorem dX11_isStone_1 : decode cX11_isStone 1 = .ok (.i2l, 1) := by decide +kernel
theorem dX11_isStone_2 : decode cX11_isStone 2 = .ok (.lconst 0, 1) := by decide +kernel
theorem dX11_isStone_3 : decode cX11_isStone 3 = .ok (.aload_n 0, 1) := by decide +kernel
theorem dX11_isStone_4 : decode cX11_isStone 4 = .ok (.getfield 7, 3) := by decide +kernel
theorem dX11_isStone_7 : decode cX11_isStone 7 = .ok (.iconst 0, 1) := by decide +kernel
theorem dX11_isStone_8 : decode cX11_isStone 8 = .ok (.iaload, 1) := by decide +kernel
theorem dX11_isStone_9 : decode cX11_isStone 9 = .ok (.iconst 1, 1) := by decide +kernel
theorem dX11_isStone_10 : decode cX11_isStone 10 = .ok (.isub, 1) := by decide +kernel
theorem dX11_isStone_11 : decode cX11_isStone 11 = .ok (.i2l, 1) := by decide +kernel
theorem dX11_isStone_12 : decode cX11_isStone 12 = .ok (.invokestatic 40, 3) := by decide +kernel
theorem dX11_isStone_15 : decode cX11_isStone 15 = .ok (.ireturn, 1) := by decide +kernel
theorem dX11_isThrow_0 : decode cX11_isThrow 0 = .ok (.aload_n 0, 1) := by decide +kernel
theorem dX11_isThrow_1 : decode cX11_isThrow 1 = .ok (.iload_n 1, 1) := by decide +kernel
theorem dX11_isThrow_2 : decode cX11_isThrow 2 = .ok (.invokevirtual 44, 3) := by decide +kernel
theorem dX11_isThrow_5 : decode cX11_isThrow 5 = .ok (.ifCond .eq 31, 3) := by decide +kernel
theorem dX11_isThrow_8 : decode cX11_isThrow 8 = .ok (.iload_n 2, 1) := by decide +kernel
theorem dX11_isThrow_9 : decode cX11_isThrow 9 = .ok (.i2l, 1) := by decide +kernel
theorem dX11_isThrow_10 : decode cX11_isThrow 10 = .ok (.lconst 1, 1) := by decide +kernel
theorem dX11_isThrow_11 : decode cX11_isThrow 11 = .ok (.ldc2_w 48, 3) := by decide +kernel
theorem dX11_isThrow_14 : decode cX11_isThrow 14 = .ok (.invokestatic 40, 3) := by decide +kernel
theorem dX11_isThrow_17 : decode cX11_isThrow 17 = .ok (.ifCond .eq 19, 3) := by decide +kernel
theorem dX11_isThrow_20 : decode cX11_isThrow 20 = .ok (.iload_n 3, 1) := by decide +kernel
theorem dX11_isThrow_21 : decode cX11_isThrow 21 = .ok (.i2l, 1) := by decide +kernel
theorem dX11_isThrow_22 : decode cX11_isThrow 22 = .ok (.lconst 0, 1) := by decide +kernel
theorem dX11_isThrow_23 : decode cX11_isThrow 23 = .ok (.ldc2_w 48, 3) := by decide +kernel
theorem dX11_isThrow_26 : decode cX11_isThrow 26 = .ok (.invokestatic 40, 3) := by decide +kernel
theorem dX11_isThrow_29 : decode cX11_isThrow 29 = .ok (.ifCond .eq 7, 3) := by decide +kernel
theorem dX11_isThrow_32 : decode cX11_isThrow 32 = .ok (.iconst 1, 1) := by decide +kernel
theorem dX11_isThrow_33 : decode cX11_isThrow 33 = .ok (.goto 4, 3) := by decide +kernel
theorem dX11_isThrow_36 : decode cX11_isThrow 36 = .ok (.iconst 0, 1) := by decide +kernel
theorem dX11_isThrow_37 : decode cX11_isThrow 37 = .ok (.ireturn, 1) := by decide +kernel
theorem dX11_tells_0 : decode cX11_tells 0 = .ok (.lload_n 1, 1) := by decide +kernel
theorem dX11_tells_1 : decode cX11_tells 1 = .ok (.lstore 5, 2) := by decide +kernel
theorem dX11_tells_3 : decode cX11_tells 3 = .ok (.lload_n 3, 1) := by decide +kernel
theorem dX11_tells_4 : decode cX11_tells 4 = .ok (.lstore 7, 2) := by decide +kernel
theorem dX11_tells_6 : decode cX11_tells 6 = .ok (.lload 7, 2) := by decide +kernel
theorem dX11_tells_8 : decode cX11_tells 8 = .ok (.lconst 0, 1) := by decide +kernel
theorem dX11_tells_9 : decode cX11_tells 9 = .ok (.lcmp, 1) := by decide +kernel
theorem dX11_tells_10 : decode cX11_tells 10 = .ok (.ifCond .eq 21, 3) := by decide +kernel
theorem dX11_tells_13 : decode cX11_tells 13 = .ok (.lload 5, 2) := by decide +kernel
theorem dX11_tells_15 : decode cX11_tells 15 = .ok (.lload 7, 2) := by decide +kernel
theorem dX11_tells_17 : decode cX11_tells 17 = .ok (.lrem, 1) := by decide +kernel
theorem dX11_tells_18 : decode cX11_tells 18 = .ok (.lstore 9, 2) := by decide +kernel
theorem dX11_tells_20 : decode cX11_tells 20 = .ok (.lload 7, 2) := by decide +kernel
theorem dX11_tells_22 : decode cX11_tells 22 = .ok (.lstore 5, 2) := by decide +kernel
theorem dX11_tells_24 : decode cX11_tells 24 = .ok (.lload 9, 2) := by decide +kernel
theorem dX11_tells_26 : decode cX11_tells 26 = .ok (.lstore 7, 2) := by decide +kernel
theorem dX11_tells_28 : decode cX11_tells 28 = .ok (.goto (-22), 3) := by decide +kernel
theorem dX11_tells_31 : decode cX11_tells 31 = .ok (.aload_n 0, 1) := by decide +kernel
theorem dX11_tells_32 : decode cX11_tells 32 = .ok (.lload_n 1, 1) := by decide +kernel
theorem dX11_tells_33 : decode cX11_tells 33 = .ok (.lload 5, 2) := by decide +kernel
theorem dX11_tells_35 : decode cX11_tells 35 = .ok (.ldiv, 1) := by decide +kernel
theorem dX11_tells_36 : decode cX11_tells 36 = .ok (.putfield 50, 3) := by decide +kernel
theorem dX11_tells_39 : decode cX11_tells 39 = .ok (.aload_n 0, 1) := by decide +kernel
theorem dX11_tells_40 : decode cX11_tells 40 = .ok (.lload_n 3, 1) := by decide +kernel
theorem dX11_tells_41 : decode cX11_tells 41 = .ok (.lload 5, 2) := by decide +kernel
theorem dX11_tells_43 : decode cX11_tells 43 = .ok (.ldiv, 1) := by decide +kernel
theorem dX11_tells_44 : decode cX11_tells 44 = .ok (.putfield 29, 3) := by decide +kernel
theorem dX11_tells_47 : decode cX11_tells 47 = .ok (.return_, 1) := by decide +kernel
theorem dX11_stone_0 : decode cX11_stone 0 = .ok (.iload_n 1, 1) := by decide +kernel
theorem dX11_stone_1 : decode cX11_stone 1 = .ok (.i2l, 1) := by decide +kernel
theorem dX11_stone_2 : decode cX11_stone 2 = .ok (.lconst 0, 1) := by decide +kernel
theorem dX11_stone_3 : decode cX11_stone 3 = .ok (.ldc2_w 53, 3) := by decide +kernel
theorem dX11_stone_6 : decode cX11_stone 6 = .ok (.invokestatic 40, 3) := by decide +kernel
theorem dX11_stone_9 : decode cX11_stone 9 = .ok (.ifCond .ne 8, 3) := by decide +kernel
theorem dX11_stone_12 : decode cX11_stone 12 = .ok (.aload_n 0, 1) := by decide +kernel
theorem dX11_stone_13 : decode cX11_stone 13 = .ok (.invokevirtual 55, 3) := by decide +kernel
theorem dX11_stone_16 : decode cX11_stone 16 = .ok (.ireturn, 1) := by decide +kernel
theorem dX11_stone_17 : decode cX11_stone 17 = .ok (.aload_n 0, 1) := by decide +kernel
theorem dX11_stone_18 : decode cX11_stone 18 = .ok (.getfield 7, 3) := by decide +kernel
theorem dX11_stone_21 : decode cX11_stone 21 = .ok (.iconst 0, 1) := by decide +kernel
theorem dX11_stone_22 : decode cX11_stone 22 = .ok (.iaload, 1) := by decide +kernel
theorem dX11_stone_23 : decode cX11_stone 23 = .ok (.bipush 8, 2) := by decide +kernel
theorem dX11_stone_25 : decode cX11_stone 25 = .ok (.if_icmp .ne 8, 3) := by decide +kernel
theorem dX11_stone_28 : decode cX11_stone 28 = .ok (.aload_n 0, 1) := by decide +kernel
theorem dX11_stone_29 : decode cX11_stone 29 = .ok (.invokevirtual 59, 3) := by decide +kernel
theorem dX11_stone_32 : decode cX11_stone 32 = .ok (.ireturn, 1) := by decide +kernel
theorem dX11_stone_33 : decode cX11_stone 33 = .ok (.aload_n 0, 1) := by decide +kernel
theorem dX11_stone_34 : decode cX11_stone 34 = .ok (.getfield 7, 3) := by decide +kernel
theorem dX11_stone_37 : decode cX11_stone 37 = .ok (.bipush 6, 2) := by decide +kernel
theorem dX11_stone_39 : decode cX11_stone 39 = .ok (.aload_n 0, 1) := by decide +kernel
theorem dX11_stone_40 : decode cX11_stone 40 = .ok (.getfield 7, 3) := by decide +kernel
theorem dX11_stone_43 : decode cX11_stone 43 = .ok (.iconst 0, 1) := by decide +kernel
theorem dX11_stone_44 : decode cX11_stone 44 = .ok (.iaload, 1) := by decide +kernel
theorem dX11_stone_45 : decode cX11_stone 45 = .ok (.iadd, 1) := by decide +kernel
theorem dX11_stone_46 : decode cX11_stone 46 = .ok (.iload_n 1, 1) := by decide +kernel
theorem dX11_stone_47 : decode cX11_stone 47 = .ok (.iastore, 1) := by decide +kernel
theorem dX11_stone_48 : decode cX11_stone 48 = .ok (.aload_n 0, 1) := by decide +kernel
theorem dX11_stone_49 : decode cX11_stone 49 = .ok (.getfield 7, 3) := by decide +kernel
theorem dX11_stone_52 : decode cX11_stone 52 = .ok (.iconst 0, 1) := by decide +kernel
theorem dX11_stone_53 : decode cX11_stone 53 = .ok (.dup2, 1) := by decide +kernel
theorem dX11_stone_54 : decode cX11_stone 54 = .ok (.iaload, 1) := by decide +kernel
theorem dX11_stone_55 : decode cX11_stone 55 = .ok (.iconst 1, 1) := by decide +kernel
theorem dX11_stone_56 : decode cX11_stone 56 = .ok (.iadd, 1) := by decide +kernel
theorem dX11_stone_57 : decode cX11_stone 57 = .ok (.iastore, 1) := by decide +kernel
theorem dX11_stone_58 : decode cX11_stone 58 = .ok (.aload_n 0, 1) := by decide +kernel
theorem dX11_stone_59 : decode cX11_stone 59 = .ok (.getfield 7, 3) := by decide +kernel
theorem dX11_stone_62 : decode cX11_stone 62 = .ok (.iconst 0, 1) := by decide +kernel
theorem dX11_stone_63 : decode cX11_stone 63 = .ok (.iaload, 1) := by decide +kernel
theorem dX11_stone_64 : decode cX11_stone 64 = .ok (.iconst 1, 1) := by decide +kernel
theorem dX11_stone_65 : decode cX11_stone 65 = .ok (.isub, 1) := by decide +kernel
theorem dX11_stone_66 : decode cX11_stone 66 = .ok (.ireturn, 1) := by decide +kernel
theorem dX11_wet_0 : decode cX11_wet 0 = .ok (.iload_n 1, 1) := by decide +kernel
theorem dX11_wet_1 : decode cX11_wet 1 = .ok (.i2l, 1) := by decide +kernel
theorem dX11_wet_2 : decode cX11_wet 2 = .ok (.lconst 0, 1) := by decide +kernel
theorem dX11_wet_3 : decode cX11_wet 3 = .ok (.ldc2_w 62, 3) := by decide +kernel
theorem dX11_wet_6 : decode cX11_wet 6 = .ok (.invokestatic 40, 3) := by decide +kernel
theorem dX11_wet_9 : decode cX11_wet 9 = .ok (.ifCond .ne 8, 3) := by decide +kernel
theorem dX11_wet_12 : decode cX11_wet 12 = .ok (.aload_n 0, 1) := by decide +kernel
theorem dX11_wet_13 : decode cX11_wet 13 = .ok (.invokevirtual 55, 3) := by decide +kernel
theorem dX11_wet_16 : decode cX11_wet 16 = .ok (.ireturn, 1) := by decide +kernel
theorem dX11_wet_17 : decode cX11_wet 17 = .ok (.aload_n 0, 1) := by decide +kernel
theorem dX11_wet_18 : decode cX11_wet 18 = .ok (.getfield 7, 3) := by decide +kernel
theorem dX11_wet_21 : decode cX11_wet 21 = .ok (.iconst 1, 1) := by decide +kernel
theorem dX11_wet_22 : decode cX11_wet 22 = .ok (.iaload, 1) := by decide +kernel
theorem dX11_wet_23 : decode cX11_wet 23 = .ok (.istore_n 2, 1) := by decide +kernel
theorem dX11_wet_24 : decode cX11_wet 24 = .ok (.aload_n 0, 1) := by decide +kernel
theorem dX11_wet_25 : decode cX11_wet 25 = .ok (.getfield 7, 3) := by decide +kernel
theorem dX11_wet_28 : decode cX11_wet 28 = .ok (.iconst 1, 1) := by decide +kernel
theorem dX11_wet_29 : decode cX11_wet 29 = .ok (.iload_n 1, 1) := by decide +kernel
theorem dX11_wet_30 : decode cX11_wet 30 = .ok (.iastore, 1) := by decide +kernel
theorem dX11_wet_31 : decode cX11_wet 31 = .ok (.iload_n 2, 1) := by decide +kernel
theorem dX11_wet_32 : decode cX11_wet 32 = .ok (.ireturn, 1) := by decide +kernel
theorem dX11_type_0 : decode cX11_type 0 = .ok (.iload_n 3, 1) := by decide +kernel
theorem dX11_type_1 : decode cX11_type 1 = .ok (.i2l, 1) := by decide +kernel
theorem dX11_type_2 : decode cX11_type 2 = .ok (.lconst 1, 1) := by decide +kernel
theorem dX11_type_3 : decode cX11_type 3 = .ok (.ldc2_w 64, 3) := by decide +kernel
theorem dX11_type_6 : decode cX11_type 6 = .ok (.invokestatic 40, 3) := by decide +kernel
theorem dX11_type_9 : decode cX11_type 9 = .ok (.ifCond .ne 8, 3) := by decide +kernel
theorem dX11_type_12 : decode cX11_type 12 = .ok (.aload_n 0, 1) := by decide +kernel
theorem dX11_type_13 : decode cX11_type 13 = .ok (.invokevirtual 55, 3) := by decide +kernel
theorem dX11_type_16 : decode cX11_type 16 = .ok (.ireturn, 1) := by decide +kernel
theorem dX11_type_17 : decode cX11_type 17 = .ok (.aload_n 0, 1) := by decide +kernel
theorem dX11_type_18 : decode cX11_type 18 = .ok (.getfield 66, 3) := by decide +kernel
theorem dX11_type_21 : decode cX11_type 21 = .ok (.iload_n 3, 1) := by decide +kernel
theorem dX11_type_22 : decode cX11_type 22 = .ok (.iadd, 1) := by decide +kernel
theorem dX11_type_23 : decode cX11_type 23 = .ok (.bipush 120, 2) := by decide +kernel
theorem dX11_type_25 : decode cX11_type 25 = .ok (.if_icmp .le 8, 3) := by decide +kernel
theorem dX11_type_28 : decode cX11_type 28 = .ok (.aload_n 0, 1) := by decide +kernel
theorem dX11_type_29 : decode cX11_type 29 = .ok (.invokevirtual 59, 3) := by decide +kernel
theorem dX11_type_32 : decode cX11_type 32 = .ok (.ireturn, 1) := by decide +kernel
theorem dX11_type_33 : decode cX11_type 33 = .ok (.iload_n 3, 1) := by decide +kernel
theorem dX11_type_34 : decode cX11_type 34 = .ok (.iconst 1, 1) := by decide +kernel
theorem dX11_type_35 : decode cX11_type 35 = .ok (.isub, 1) := by decide +kernel
theorem dX11_type_36 : decode cX11_type 36 = .ok (.istore 4, 2) := by decide +kernel
theorem dX11_type_38 : decode cX11_type 38 = .ok (.iload 4, 2) := by decide +kernel
theorem dX11_type_40 : decode cX11_type 40 = .ok (.ifCond .lt 40, 3) := by decide +kernel
theorem dX11_type_43 : decode cX11_type 43 = .ok (.aload_n 0, 1) := by decide +kernel
theorem dX11_type_44 : decode cX11_type 44 = .ok (.getfield 23, 3) := by decide +kernel
theorem dX11_type_47 : decode cX11_type 47 = .ok (.aload_n 0, 1) := by decide +kernel
theorem dX11_type_48 : decode cX11_type 48 = .ok (.getfield 66, 3) := by decide +kernel
theorem dX11_type_51 : decode cX11_type 51 = .ok (.lload_n 1, 1) := by decide +kernel
theorem dX11_type_52 : decode cX11_type 52 = .ok (.bipush 8, 2) := by decide +kernel
theorem dX11_type_54 : decode cX11_type 54 = .ok (.iload 4, 2) := by decide +kernel
theorem dX11_type_56 : decode cX11_type 56 = .ok (.imul, 1) := by decide +kernel
theorem dX11_type_57 : decode cX11_type 57 = .ok (.lshr, 1) := by decide +kernel
theorem dX11_type_58 : decode cX11_type 58 = .ok (.ldc2_w 70, 3) := by decide +kernel
theorem dX11_type_61 : decode cX11_type 61 = .ok (.land, 1) := by decide +kernel
theorem dX11_type_62 : decode cX11_type 62 = .ok (.l2i, 1) := by decide +kernel
theorem dX11_type_63 : decode cX11_type 63 = .ok (.iastore, 1) := by decide +kernel
theorem dX11_type_64 : decode cX11_type 64 = .ok (.aload_n 0, 1) := by decide +kernel
theorem dX11_type_65 : decode cX11_type 65 = .ok (.dup, 1) := by decide +kernel
theorem dX11_type_66 : decode cX11_type 66 = .ok (.getfield 66, 3) := by decide +kernel
theorem dX11_type_69 : decode cX11_type 69 = .ok (.iconst 1, 1) := by decide +kernel
theorem dX11_type_70 : decode cX11_type 70 = .ok (.iadd, 1) := by decide +kernel
theorem dX11_type_71 : decode cX11_type 71 = .ok (.putfield 66, 3) := by decide +kernel
theorem dX11_type_74 : decode cX11_type 74 = .ok (.iinc 4 (-1), 3) := by decide +kernel
theorem dX11_type_77 : decode cX11_type 77 = .ok (.goto (-39), 3) := by decide +kernel
theorem dX11_type_80 : decode cX11_type 80 = .ok (.aload_n 0, 1) := by decide +kernel
theorem dX11_type_81 : decode cX11_type 81 = .ok (.getfield 66, 3) := by decide +kernel
theorem dX11_type_84 : decode cX11_type 84 = .ok (.ireturn, 1) := by decide +kernel
theorem dX11_clear_0 : decode cX11_clear 0 = .ok (.aload_n 0, 1) := by decide +kernel
theorem dX11_clear_1 : decode cX11_clear 1 = .ok (.getfield 66, 3) := by decide +kernel
theorem dX11_clear_4 : decode cX11_clear 4 = .ok (.istore_n 1, 1) := by decide +kernel
theorem dX11_clear_5 : decode cX11_clear 5 = .ok (.aload_n 0, 1) := by decide +kernel
theorem dX11_clear_6 : decode cX11_clear 6 = .ok (.iconst 0, 1) := by decide +kernel
theorem dX11_clear_7 : decode cX11_clear 7 = .ok (.putfield 66, 3) := by decide +kernel
theorem dX11_clear_10 : decode cX11_clear 10 = .ok (.iload_n 1, 1) := by decide +kernel
theorem dX11_clear_11 : decode cX11_clear 11 = .ok (.ireturn, 1) := by decide +kernel
theorem dX11_byteAt_0 : decode cX11_byteAt 0 = .ok (.iload_n 1, 1) := by decide +kernel
theorem dX11_byteAt_1 : decode cX11_byteAt 1 = .ok (.aload_n 0, 1) := by decide +kernel
theorem dX11_byteAt_2 : decode cX11_byteAt 2 = .ok (.getfield 66, 3) := by decide +kernel
theorem dX11_byteAt_5 : decode cX11_byteAt 5 = .ok (.if_icmp .ge 12, 3) := by decide +kernel
theorem dX11_byteAt_8 : decode cX11_byteAt 8 = .ok (.aload_n 0, 1) := by decide +kernel
theorem dX11_byteAt_9 : decode cX11_byteAt 9 = .ok (.getfield 23, 3) := by decide +kernel
theorem dX11_byteAt_12 : decode cX11_byteAt 12 = .ok (.iload_n 1, 1) := by decide +kernel
theorem dX11_byteAt_13 : decode cX11_byteAt 13 = .ok (.iaload, 1) := by decide +kernel
theorem dX11_byteAt_14 : decode cX11_byteAt 14 = .ok (.goto 4, 3) := by decide +kernel
theorem dX11_byteAt_17 : decode cX11_byteAt 17 = .ok (.iconst (-1), 1) := by decide +kernel
theorem dX11_byteAt_18 : decode cX11_byteAt 18 = .ok (.ireturn, 1) := by decide +kernel
theorem dX11_sortOf_0 : decode cX11_sortOf 0 = .ok (.iload_n 0, 1) := by decide +kernel
theorem dX11_sortOf_1 : decode cX11_sortOf 1 = .ok (.ifCond .ge 7, 3) := by decide +kernel
theorem dX11_sortOf_4 : decode cX11_sortOf 4 = .ok (.iconst 0, 1) := by decide +kernel
theorem dX11_sortOf_5 : decode cX11_sortOf 5 = .ok (.goto 50, 3) := by decide +kernel
theorem dX11_sortOf_8 : decode cX11_sortOf 8 = .ok (.iload_n 0, 1) := by decide +kernel
theorem dX11_sortOf_9 : decode cX11_sortOf 9 = .ok (.i2l, 1) := by decide +kernel
theorem dX11_sortOf_10 : decode cX11_sortOf 10 = .ok (.ldc2_w 72, 3) := by decide +kernel
theorem dX11_sortOf_13 : decode cX11_sortOf 13 = .ok (.ldc2_w 74, 3) := by decide +kernel
theorem dX11_sortOf_16 : decode cX11_sortOf 16 = .ok (.invokestatic 40, 3) := by decide +kernel
theorem dX11_sortOf_19 : decode cX11_sortOf 19 = .ok (.ifCond .eq 7, 3) := by decide +kernel
theorem dX11_sortOf_22 : decode cX11_sortOf 22 = .ok (.iconst 1, 1) := by decide +kernel
theorem dX11_sortOf_23 : decode cX11_sortOf 23 = .ok (.goto 32, 3) := by decide +kernel
theorem dX11_sortOf_26 : decode cX11_sortOf 26 = .ok (.iload_n 0, 1) := by decide +kernel
theorem dX11_sortOf_27 : decode cX11_sortOf 27 = .ok (.i2l, 1) := by decide +kernel
theorem dX11_sortOf_28 : decode cX11_sortOf 28 = .ok (.ldc2_w 76, 3) := by decide +kernel
theorem dX11_sortOf_31 : decode cX11_sortOf 31 = .ok (.ldc2_w 78, 3) := by decide +kernel
theorem dX11_sortOf_34 : decode cX11_sortOf 34 = .ok (.invokestatic 40, 3) := by decide +kernel
theorem dX11_sortOf_37 : decode cX11_sortOf 37 = .ok (.ifCond .eq 7, 3) := by decide +kernel
theorem dX11_sortOf_40 : decode cX11_sortOf 40 = .ok (.iconst 2, 1) := by decide +kernel
theorem dX11_sortOf_41 : decode cX11_sortOf 41 = .ok (.goto 14, 3) := by decide +kernel
theorem dX11_sortOf_44 : decode cX11_sortOf 44 = .ok (.iload_n 0, 1) := by decide +kernel
theorem dX11_sortOf_45 : decode cX11_sortOf 45 = .ok (.bipush 59, 2) := by decide +kernel
theorem dX11_sortOf_47 : decode cX11_sortOf 47 = .ok (.if_icmp .ne 7, 3) := by decide +kernel
theorem dX11_sortOf_50 : decode cX11_sortOf 50 = .ok (.iconst 3, 1) := by decide +kernel
theorem dX11_sortOf_51 : decode cX11_sortOf 51 = .ok (.goto 4, 3) := by decide +kernel
theorem dX11_sortOf_54 : decode cX11_sortOf 54 = .ok (.iconst 4, 1) := by decide +kernel
theorem dX11_sortOf_55 : decode cX11_sortOf 55 = .ok (.ireturn, 1) := by decide +kernel
theorem dX11_token_0 : decode cX11_token 0 = .ok (.aload_n 0, 1) := by decide +kernel
theorem dX11_token_1 : decode cX11_token 1 = .ok (.aload_n 0, 1) := by decide +kernel
theorem dX11_token_2 : decode cX11_token 2 = .ok (.getfield 80, 3) := by decide +kernel
theorem dX11_token_5 : decode cX11_token 5 = .ok (.invokevirtual 83, 3) := by decide +kernel
theorem dX11_token_8 : decode cX11_token 8 = .ok (.bipush 32, 2) := by decide +kernel
theorem dX11_token_10 : decode cX11_token 10 = .ok (.if_icmp .ne 16, 3) := by decide +kernel
theorem dX11_token_13 : decode cX11_token 13 = .ok (.aload_n 0, 1) := by decide +kernel
theorem dX11_token_14 : decode cX11_token 14 = .ok (.dup, 1) := by decide +kernel
theorem dX11_token_15 : decode cX11_token 15 = .ok (.getfield 80, 3) := by decide +kernel
theorem dX11_token_18 : decode cX11_token 18 = .ok (.iconst 1, 1) := by decide +kernel
theorem dX11_token_19 : decode cX11_token 19 = .ok (.iadd, 1) := by decide +kernel
theorem dX11_token_20 : decode cX11_token 20 = .ok (.putfield 80, 3) := by decide +kernel
theorem dX11_token_23 : decode cX11_token 23 = .ok (.goto (-23), 3) := by decide +kernel
theorem dX11_token_26 : decode cX11_token 26 = .ok (.aload_n 0, 1) := by decide +kernel
theorem dX11_token_27 : decode cX11_token 27 = .ok (.aload_n 0, 1) := by decide +kernel
theorem dX11_token_28 : decode cX11_token 28 = .ok (.getfield 80, 3) := by decide +kernel
theorem dX11_token_31 : decode cX11_token 31 = .ok (.putfield 87, 3) := by decide +kernel
theorem dX11_token_34 : decode cX11_token 34 = .ok (.aload_n 0, 1) := by decide +kernel
theorem dX11_token_35 : decode cX11_token 35 = .ok (.aload_n 0, 1) := by decide +kernel
theorem dX11_token_36 : decode cX11_token 36 = .ok (.aload_n 0, 1) := by decide +kernel
theorem dX11_token_37 : decode cX11_token 37 = .ok (.getfield 80, 3) := by decide +kernel
theorem dX11_token_40 : decode cX11_token 40 = .ok (.invokevirtual 83, 3) := by decide +kernel
theorem dX11_token_43 : decode cX11_token 43 = .ok (.invokestatic 90, 3) := by decide +kernel
theorem dX11_token_46 : decode cX11_token 46 = .ok (.putfield 93, 3) := by decide +kernel
theorem dX11_token_49 : decode cX11_token 49 = .ok (.aload_n 0, 1) := by decide +kernel
theorem dX11_token_50 : decode cX11_token 50 = .ok (.iconst 0, 1) := by decide +kernel
theorem dX11_token_51 : decode cX11_token 51 = .ok (.putfield 96, 3) := by decide +kernel
theorem dX11_token_54 : decode cX11_token 54 = .ok (.aload_n 0, 1) := by decide +kernel
theorem dX11_token_55 : decode cX11_token 55 = .ok (.getfield 96, 3) := by decide +kernel
theorem dX11_token_58 : decode cX11_token 58 = .ok (.ifCond .ne 10, 3) := by decide +kernel
theorem dX11_token_61 : decode cX11_token 61 = .ok (.aload_n 0, 1) := by decide +kernel
theorem dX11_token_62 : decode cX11_token 62 = .ok (.getfield 93, 3) := by decide +kernel
theorem dX11_token_65 : decode cX11_token 65 = .ok (.ifCond .ne 37, 3) := by decide +kernel
theorem dX11_token_68 : decode cX11_token 68 = .ok (.aload_n 0, 1) := by decide +kernel
theorem dX11_token_69 : decode cX11_token 69 = .ok (.getfield 93, 3) := by decide +kernel
theorem dX11_token_72 : decode cX11_token 72 = .ok (.iconst 1, 1) := by decide +kernel
theorem dX11_token_73 : decode cX11_token 73 = .ok (.if_icmp .eq 11, 3) := by decide +kernel
theorem dX11_token_76 : decode cX11_token 76 = .ok (.aload_n 0, 1) := by decide +kernel
theorem dX11_token_77 : decode cX11_token 77 = .ok (.getfield 93, 3) := by decide +kernel
theorem dX11_token_80 : decode cX11_token 80 = .ok (.iconst 2, 1) := by decide +kernel
theorem dX11_token_81 : decode cX11_token 81 = .ok (.if_icmp .ne 44, 3) := by decide +kernel
theorem dX11_token_84 : decode cX11_token 84 = .ok (.aload_n 0, 1) := by decide +kernel
theorem dX11_token_85 : decode cX11_token 85 = .ok (.aload_n 0, 1) := by decide +kernel
theorem dX11_token_86 : decode cX11_token 86 = .ok (.getfield 80, 3) := by decide +kernel
theorem dX11_token_89 : decode cX11_token 89 = .ok (.invokevirtual 83, 3) := by decide +kernel
theorem dX11_token_92 : decode cX11_token 92 = .ok (.invokestatic 90, 3) := by decide +kernel
theorem dX11_token_95 : decode cX11_token 95 = .ok (.aload_n 0, 1) := by decide +kernel
theorem dX11_token_96 : decode cX11_token 96 = .ok (.getfield 93, 3) := by decide +kernel
theorem dX11_token_99 : decode cX11_token 99 = .ok (.if_icmp .ne 26, 3) := by decide +kernel
theorem dX11_token_102 : decode cX11_token 102 = .ok (.aload_n 0, 1) := by decide +kernel
theorem dX11_token_103 : decode cX11_token 103 = .ok (.dup, 1) := by decide +kernel
theorem dX11_token_104 : decode cX11_token 104 = .ok (.getfield 80, 3) := by decide +kernel
theorem dX11_token_107 : decode cX11_token 107 = .ok (.iconst 1, 1) := by decide +kernel
theorem dX11_token_108 : decode cX11_token 108 = .ok (.iadd, 1) := by decide +kernel
theorem dX11_token_109 : decode cX11_token 109 = .ok (.putfield 80, 3) := by decide +kernel
theorem dX11_token_112 : decode cX11_token 112 = .ok (.aload_n 0, 1) := by decide +kernel
theorem dX11_token_113 : decode cX11_token 113 = .ok (.dup, 1) := by decide +kernel
theorem dX11_token_114 : decode cX11_token 114 = .ok (.getfield 96, 3) := by decide +kernel
theorem dX11_token_117 : decode cX11_token 117 = .ok (.iconst 1, 1) := by decide +kernel
theorem dX11_token_118 : decode cX11_token 118 = .ok (.iadd, 1) := by decide +kernel
theorem dX11_token_119 : decode cX11_token 119 = .ok (.putfield 96, 3) := by decide +kernel
theorem dX11_token_122 : decode cX11_token 122 = .ok (.goto (-68), 3) := by decide +kernel
theorem dX11_token_125 : decode cX11_token 125 = .ok (.return_, 1) := by decide +kernel
theorem dX11_word_0 : decode cX11_word 0 = .ok (.lconst 0, 1) := by decide +kernel
theorem dX11_word_1 : decode cX11_word 1 = .ok (.lstore_n 1, 1) := by decide +kernel
theorem dX11_word_2 : decode cX11_word 2 = .ok (.iconst 0, 1) := by decide +kernel
theorem dX11_word_3 : decode cX11_word 3 = .ok (.istore_n 3, 1) := by decide +kernel
theorem dX11_word_4 : decode cX11_word 4 = .ok (.iload_n 3, 1) := by decide +kernel
theorem dX11_word_5 : decode cX11_word 5 = .ok (.aload_n 0, 1) := by decide +kernel
theorem dX11_word_6 : decode cX11_word 6 = .ok (.getfield 96, 3) := by decide +kernel
theorem dX11_word_9 : decode cX11_word 9 = .ok (.if_icmp .ge 44, 3) := by decide +kernel
theorem dX11_word_12 : decode cX11_word 12 = .ok (.aload_n 0, 1) := by decide +kernel
theorem dX11_word_13 : decode cX11_word 13 = .ok (.getfield 96, 3) := by decide +kernel
theorem dX11_word_16 : decode cX11_word 16 = .ok (.bipush 6, 2) := by decide +kernel
theorem dX11_word_18 : decode cX11_word 18 = .ok (.if_icmp .ge 35, 3) := by decide +kernel
theorem dX11_word_21 : decode cX11_word 21 = .ok (.aload_n 0, 1) := by decide +kernel
theorem dX11_word_22 : decode cX11_word 22 = .ok (.getfield 93, 3) := by decide +kernel
theorem dX11_word_25 : decode cX11_word 25 = .ok (.iconst 1, 1) := by decide +kernel
theorem dX11_word_26 : decode cX11_word 26 = .ok (.if_icmp .ne 27, 3) := by decide +kernel
theorem dX11_word_29 : decode cX11_word 29 = .ok (.ldc2_w 99, 3) := by decide +kernel
theorem dX11_word_32 : decode cX11_word 32 = .ok (.lload_n 1, 1) := by decide +kernel
theorem dX11_word_33 : decode cX11_word 33 = .ok (.lmul, 1) := by decide +kernel
theorem dX11_word_34 : decode cX11_word 34 = .ok (.aload_n 0, 1) := by decide +kernel
theorem dX11_word_35 : decode cX11_word 35 = .ok (.aload_n 0, 1) := by decide +kernel
theorem dX11_word_36 : decode cX11_word 36 = .ok (.getfield 87, 3) := by decide +kernel
theorem dX11_word_39 : decode cX11_word 39 = .ok (.iload_n 3, 1) := by decide +kernel
theorem dX11_word_40 : decode cX11_word 40 = .ok (.iadd, 1) := by decide +kernel
theorem dX11_word_41 : decode cX11_word 41 = .ok (.invokevirtual 83, 3) := by decide +kernel
theorem dX11_word_44 : decode cX11_word 44 = .ok (.i2l, 1) := by decide +kernel
theorem dX11_word_45 : decode cX11_word 45 = .ok (.ladd, 1) := by decide +kernel
theorem dX11_word_46 : decode cX11_word 46 = .ok (.lstore_n 1, 1) := by decide +kernel
theorem dX11_word_47 : decode cX11_word 47 = .ok (.iinc 3 1, 3) := by decide +kernel
theorem dX11_word_50 : decode cX11_word 50 = .ok (.goto (-46), 3) := by decide +kernel
theorem dX11_word_53 : decode cX11_word 53 = .ok (.lload_n 1, 1) := by decide +kernel
theorem dX11_word_54 : decode cX11_word 54 = .ok (.lreturn, 1) := by decide +kernel
theorem dX11_figure_0 : decode cX11_figure 0 = .ok (.aload_n 0, 1) := by decide +kernel
theorem dX11_figure_1 : decode cX11_figure 1 = .ok (.invokevirtual 101, 3) := by decide +kernel
theorem dX11_figure_4 : decode cX11_figure 4 = .ok (.aload_n 0, 1) := by decide +kernel
theorem dX11_figure_5 : decode cX11_figure 5 = .ok (.aload_n 0, 1) := by decide +kernel
theorem dX11_figure_6 : decode cX11_figure 6 = .ok (.getfield 87, 3) := by decide +kernel
theorem dX11_figure_9 : decode cX11_figure 9 = .ok (.invokevirtual 83, 3) := by decide +kernel
theorem dX11_figure_12 : decode cX11_figure 12 = .ok (.bipush 48, 2) := by decide +kernel
theorem dX11_figure_14 : decode cX11_figure 14 = .ok (.isub, 1) := by decide +kernel
theorem dX11_figure_15 : decode cX11_figure 15 = .ok (.istore_n 2, 1) := by decide +kernel
theorem dX11_figure_16 : decode cX11_figure 16 = .ok (.aload_n 0, 1) := by decide +kernel
theorem dX11_figure_17 : decode cX11_figure 17 = .ok (.getfield 93, 3) := by decide +kernel
theorem dX11_figure_20 : decode cX11_figure 20 = .ok (.iconst 2, 1) := by decide +kernel
theorem dX11_figure_21 : decode cX11_figure 21 = .ok (.if_icmp .ne 20, 3) := by decide +kernel
theorem dX11_figure_24 : decode cX11_figure 24 = .ok (.aload_n 0, 1) := by decide +kernel
theorem dX11_figure_25 : decode cX11_figure 25 = .ok (.getfield 96, 3) := by decide +kernel
theorem dX11_figure_28 : decode cX11_figure 28 = .ok (.iconst 1, 1) := by decide +kernel
theorem dX11_figure_29 : decode cX11_figure 29 = .ok (.if_icmp .ne 12, 3) := by decide +kernel
theorem dX11_figure_32 : decode cX11_figure 32 = .ok (.iload_n 2, 1) := by decide +kernel
theorem dX11_figure_33 : decode cX11_figure 33 = .ok (.iload_n 1, 1) := by decide +kernel
theorem dX11_figure_34 : decode cX11_figure 34 = .ok (.if_icmp .gt 7, 3) := by decide +kernel
theorem dX11_figure_37 : decode cX11_figure 37 = .ok (.iload_n 2, 1) := by decide +kernel
theorem dX11_figure_38 : decode cX11_figure 38 = .ok (.goto 4, 3) := by decide +kernel
theorem dX11_figure_41 : decode cX11_figure 41 = .ok (.iconst (-1), 1) := by decide +kernel
theorem dX11_figure_42 : decode cX11_figure 42 = .ok (.ireturn, 1) := by decide +kernel
theorem dX11_readsItem_0 : decode cX11_readsItem 0 = .ok (.aload_n 0, 1) := by decide +kernel
theorem dX11_readsItem_1 : decode cX11_readsItem 1 = .ok (.invokevirtual 104, 3) := by decide +kernel
theorem dX11_readsItem_4 : decode cX11_readsItem 4 = .ok (.lstore_n 1, 1) := by decide +kernel
theorem dX11_readsItem_5 : decode cX11_readsItem 5 = .ok (.lload_n 1, 1) := by decide +kernel
theorem dX11_readsItem_6 : decode cX11_readsItem 6 = .ok (.ldc2_w 108, 3) := by decide +kernel
theorem dX11_readsItem_9 : decode cX11_readsItem 9 = .ok (.lcmp, 1) := by decide +kernel
theorem dX11_readsItem_10 : decode cX11_readsItem 10 = .ok (.ifCond .ne 7, 3) := by decide +kernel
theorem dX11_readsItem_13 : decode cX11_readsItem 13 = .ok (.iconst 1, 1) := by decide +kernel
theorem dX11_readsItem_14 : decode cX11_readsItem 14 = .ok (.goto 4, 3) := by decide +kernel
theorem dX11_readsItem_17 : decode cX11_readsItem 17 = .ok (.iconst 0, 1) := by decide +kernel
theorem dX11_readsItem_18 : decode cX11_readsItem 18 = .ok (.istore_n 3, 1) := by decide +kernel
theorem dX11_readsItem_19 : decode cX11_readsItem 19 = .ok (.iload_n 3, 1) := by decide +kernel
theorem dX11_readsItem_20 : decode cX11_readsItem 20 = .ok (.ifCond .ne 11, 3) := by decide +kernel
theorem dX11_readsItem_23 : decode cX11_readsItem 23 = .ok (.lload_n 1, 1) := by decide +kernel
theorem dX11_readsItem_24 : decode cX11_readsItem 24 = .ok (.ldc2_w 110, 3) := by decide +kernel
theorem dX11_readsItem_27 : decode cX11_readsItem 27 = .ok (.lcmp, 1) := by decide +kernel
theorem dX11_readsItem_28 : decode cX11_readsItem 28 = .ok (.ifCond .ne 18, 3) := by decide +kernel
theorem dX11_readsItem_31 : decode cX11_readsItem 31 = .ok (.iload_n 3, 1) := by decide +kernel
theorem dX11_readsItem_32 : decode cX11_readsItem 32 = .ok (.ifCond .eq 16, 3) := by decide +kernel
theorem dX11_readsItem_35 : decode cX11_readsItem 35 = .ok (.aload_n 0, 1) := by decide +kernel
theorem dX11_readsItem_36 : decode cX11_readsItem 36 = .ok (.getfield 13, 3) := by decide +kernel
theorem dX11_readsItem_39 : decode cX11_readsItem 39 = .ok (.iconst 0, 1) := by decide +kernel
theorem dX11_readsItem_40 : decode cX11_readsItem 40 = .ok (.iaload, 1) := by decide +kernel
theorem dX11_readsItem_41 : decode cX11_readsItem 41 = .ok (.bipush 8, 2) := by decide +kernel
theorem dX11_readsItem_43 : decode cX11_readsItem 43 = .ok (.if_icmp .ne 5, 3) := by decide +kernel
theorem dX11_readsItem_46 : decode cX11_readsItem 46 = .ok (.iconst 0, 1) := by decide +kernel
theorem dX11_readsItem_47 : decode cX11_readsItem 47 = .ok (.ireturn, 1) := by decide +kernel
theorem dX11_readsItem_48 : decode cX11_readsItem 48 = .ok (.aload_n 0, 1) := by decide +kernel
theorem dX11_readsItem_49 : decode cX11_readsItem 49 = .ok (.iload_n 3, 1) := by decide +kernel
theorem dX11_readsItem_50 : decode cX11_readsItem 50 = .ok (.ifCond .eq 7, 3) := by decide +kernel
theorem dX11_readsItem_53 : decode cX11_readsItem 53 = .ok (.iconst 5, 1) := by decide +kernel
theorem dX11_readsItem_54 : decode cX11_readsItem 54 = .ok (.goto 4, 3) := by decide +kernel
theorem dX11_readsItem_57 : decode cX11_readsItem 57 = .ok (.iconst 3, 1) := by decide +kernel
theorem dX11_readsItem_58 : decode cX11_readsItem 58 = .ok (.invokevirtual 112, 3) := by decide +kernel
theorem dX11_readsItem_61 : decode cX11_readsItem 61 = .ok (.istore 4, 2) := by decide +kernel
theorem dX11_readsItem_63 : decode cX11_readsItem 63 = .ok (.iload 4, 2) := by decide +kernel
theorem dX11_readsItem_65 : decode cX11_readsItem 65 = .ok (.iconst (-1), 1) := by decide +kernel
theorem dX11_readsItem_66 : decode cX11_readsItem 66 = .ok (.if_icmp .ne 5, 3) := by decide +kernel
theorem dX11_readsItem_69 : decode cX11_readsItem 69 = .ok (.iconst 0, 1) := by decide +kernel
theorem dX11_readsItem_70 : decode cX11_readsItem 70 = .ok (.ireturn, 1) := by decide +kernel
theorem dX11_readsItem_71 : decode cX11_readsItem 71 = .ok (.aload_n 0, 1) := by decide +kernel
theorem dX11_readsItem_72 : decode cX11_readsItem 72 = .ok (.getfield 13, 3) := by decide +kernel
theorem dX11_readsItem_75 : decode cX11_readsItem 75 = .ok (.iload_n 3, 1) := by decide +kernel
theorem dX11_readsItem_76 : decode cX11_readsItem 76 = .ok (.ifCond .eq 15, 3) := by decide +kernel
theorem dX11_readsItem_79 : decode cX11_readsItem 79 = .ok (.bipush 6, 2) := by decide +kernel
theorem dX11_readsItem_81 : decode cX11_readsItem 81 = .ok (.aload_n 0, 1) := by decide +kernel
theorem dX11_readsItem_82 : decode cX11_readsItem 82 = .ok (.getfield 13, 3) := by decide +kernel
theorem dX11_readsItem_85 : decode cX11_readsItem 85 = .ok (.iconst 0, 1) := by decide +kernel
theorem dX11_readsItem_86 : decode cX11_readsItem 86 = .ok (.iaload, 1) := by decide +kernel
theorem dX11_readsItem_87 : decode cX11_readsItem 87 = .ok (.iadd, 1) := by decide +kernel
theorem dX11_readsItem_88 : decode cX11_readsItem 88 = .ok (.goto 4, 3) := by decide +kernel
theorem dX11_readsItem_91 : decode cX11_readsItem 91 = .ok (.iconst 1, 1) := by decide +kernel
theorem dX11_readsItem_92 : decode cX11_readsItem 92 = .ok (.iload 4, 2) := by decide +kernel
theorem dX11_readsItem_94 : decode cX11_readsItem 94 = .ok (.iastore, 1) := by decide +kernel
theorem dX11_readsItem_95 : decode cX11_readsItem 95 = .ok (.aload_n 0, 1) := by decide +kernel
theorem dX11_readsItem_96 : decode cX11_readsItem 96 = .ok (.getfield 13, 3) := by decide +kernel
theorem dX11_readsItem_99 : decode cX11_readsItem 99 = .ok (.iconst 0, 1) := by decide +kernel
theorem dX11_readsItem_100 : decode cX11_readsItem 100 = .ok (.dup2, 1) := by decide +kernel
theorem dX11_readsItem_101 : decode cX11_readsItem 101 = .ok (.iaload, 1) := by decide +kernel
theorem dX11_readsItem_102 : decode cX11_readsItem 102 = .ok (.iload_n 3, 1) := by decide +kernel
theorem dX11_readsItem_103 : decode cX11_readsItem 103 = .ok (.ifCond .eq 7, 3) := by decide +kernel
theorem dX11_readsItem_106 : decode cX11_readsItem 106 = .ok (.iconst 1, 1) := by decide +kernel
theorem dX11_readsItem_107 : decode cX11_readsItem 107 = .ok (.goto 4, 3) := by decide +kernel
theorem dX11_readsItem_110 : decode cX11_readsItem 110 = .ok (.iconst 0, 1) := by decide +kernel
theorem dX11_readsItem_111 : decode cX11_readsItem 111 = .ok (.iadd, 1) := by decide +kernel
theorem dX11_readsItem_112 : decode cX11_readsItem 112 = .ok (.iastore, 1) := by decide +kernel
theorem dX11_readsItem_113 : decode cX11_readsItem 113 = .ok (.aload_n 0, 1) := by decide +kernel
theorem dX11_readsItem_114 : decode cX11_readsItem 114 = .ok (.invokevirtual 101, 3) := by decide +kernel
theorem dX11_readsItem_117 : decode cX11_readsItem 117 = .ok (.aload_n 0, 1) := by decide +kernel
theorem dX11_readsItem_118 : decode cX11_readsItem 118 = .ok (.getfield 93, 3) := by decide +kernel
theorem dX11_readsItem_121 : decode cX11_readsItem 121 = .ok (.iconst 3, 1) := by decide +kernel
theorem dX11_readsItem_122 : decode cX11_readsItem 122 = .ok (.if_icmp .ne 7, 3) := by decide +kernel
theorem dX11_readsItem_125 : decode cX11_readsItem 125 = .ok (.iconst 1, 1) := by decide +kernel
theorem dX11_readsItem_126 : decode cX11_readsItem 126 = .ok (.goto 4, 3) := by decide +kernel
theorem dX11_readsItem_129 : decode cX11_readsItem 129 = .ok (.iconst 0, 1) := by decide +kernel
theorem dX11_readsItem_130 : decode cX11_readsItem 130 = .ok (.ireturn, 1) := by decide +kernel
theorem dX11_reads_0 : decode cX11_reads 0 = .ok (.iconst 0, 1) := by decide +kernel
theorem dX11_reads_1 : decode cX11_reads 1 = .ok (.istore_n 1, 1) := by decide +kernel
theorem dX11_reads_2 : decode cX11_reads 2 = .ok (.iload_n 1, 1) := by decide +kernel
theorem dX11_reads_3 : decode cX11_reads 3 = .ok (.bipush 44, 2) := by decide +kernel
theorem dX11_reads_5 : decode cX11_reads 5 = .ok (.if_icmp .ge 16, 3) := by decide +kernel
theorem dX11_reads_8 : decode cX11_reads 8 = .ok (.aload_n 0, 1) := by decide +kernel
theorem dX11_reads_9 : decode cX11_reads 9 = .ok (.getfield 13, 3) := by decide +kernel
theorem dX11_reads_12 : decode cX11_reads 12 = .ok (.iload_n 1, 1) := by decide +kernel
theorem dX11_reads_13 : decode cX11_reads 13 = .ok (.iconst 0, 1) := by decide +kernel
theorem dX11_reads_14 : decode cX11_reads 14 = .ok (.iastore, 1) := by decide +kernel
theorem dX11_reads_15 : decode cX11_reads 15 = .ok (.iinc 1 1, 3) := by decide +kernel
theorem dX11_reads_18 : decode cX11_reads 18 = .ok (.goto (-16), 3) := by decide +kernel
theorem dX11_reads_21 : decode cX11_reads 21 = .ok (.aload_n 0, 1) := by decide +kernel
theorem dX11_reads_22 : decode cX11_reads 22 = .ok (.iconst 0, 1) := by decide +kernel
theorem dX11_reads_23 : decode cX11_reads 23 = .ok (.putfield 115, 3) := by decide +kernel
theorem dX11_reads_26 : decode cX11_reads 26 = .ok (.aload_n 0, 1) := by decide +kernel
theorem dX11_reads_27 : decode cX11_reads 27 = .ok (.iconst 0, 1) := by decide +kernel
theorem dX11_reads_28 : decode cX11_reads 28 = .ok (.putfield 80, 3) := by decide +kernel
theorem dX11_reads_31 : decode cX11_reads 31 = .ok (.aload_n 0, 1) := by decide +kernel
theorem dX11_reads_32 : decode cX11_reads 32 = .ok (.invokevirtual 101, 3) := by decide +kernel
theorem dX11_reads_35 : decode cX11_reads 35 = .ok (.aload_n 0, 1) := by decide +kernel
theorem dX11_reads_36 : decode cX11_reads 36 = .ok (.getfield 93, 3) := by decide +kernel
theorem dX11_reads_39 : decode cX11_reads 39 = .ok (.ifCond .eq 29, 3) := by decide +kernel
theorem dX11_reads_42 : decode cX11_reads 42 = .ok (.aload_n 0, 1) := by decide +kernel
theorem dX11_reads_43 : decode cX11_reads 43 = .ok (.invokevirtual 118, 3) := by decide +kernel
theorem dX11_reads_46 : decode cX11_reads 46 = .ok (.ifCond .ne 5, 3) := by decide +kernel
theorem dX11_reads_49 : decode cX11_reads 49 = .ok (.iconst 0, 1) := by decide +kernel
theorem dX11_reads_50 : decode cX11_reads 50 = .ok (.ireturn, 1) := by decide +kernel
theorem dX11_reads_51 : decode cX11_reads 51 = .ok (.aload_n 0, 1) := by decide +kernel
theorem dX11_reads_52 : decode cX11_reads 52 = .ok (.dup, 1) := by decide +kernel
theorem dX11_reads_53 : decode cX11_reads 53 = .ok (.getfield 115, 3) := by decide +kernel
theorem dX11_reads_56 : decode cX11_reads 56 = .ok (.iconst 1, 1) := by decide +kernel
theorem dX11_reads_57 : decode cX11_reads 57 = .ok (.iadd, 1) := by decide +kernel
theorem dX11_reads_58 : decode cX11_reads 58 = .ok (.putfield 115, 3) := by decide +kernel
theorem dX11_reads_61 : decode cX11_reads 61 = .ok (.aload_n 0, 1) := by decide +kernel
theorem dX11_reads_62 : decode cX11_reads 62 = .ok (.invokevirtual 101, 3) := by decide +kernel
theorem dX11_reads_65 : decode cX11_reads 65 = .ok (.goto (-30), 3) := by decide +kernel
theorem dX11_reads_68 : decode cX11_reads 68 = .ok (.iconst 1, 1) := by decide +kernel
theorem dX11_reads_69 : decode cX11_reads 69 = .ok (.ireturn, 1) := by decide +kernel
theorem dX11_read_0 : decode cX11_read 0 = .ok (.aload_n 0, 1) := by decide +kernel
theorem dX11_read_1 : decode cX11_read 1 = .ok (.invokevirtual 122, 3) := by decide +kernel
theorem dX11_read_4 : decode cX11_read 4 = .ok (.ifCond .ne 11, 3) := by decide +kernel
theorem dX11_read_7 : decode cX11_read 7 = .ok (.bipush (-10), 2) := by decide +kernel
theorem dX11_read_9 : decode cX11_read 9 = .ok (.aload_n 0, 1) := by decide +kernel
theorem dX11_read_10 : decode cX11_read 10 = .ok (.getfield 87, 3) := by decide +kernel
theorem dX11_read_13 : decode cX11_read 13 = .ok (.isub, 1) := by decide +kernel
theorem dX11_read_14 : decode cX11_read 14 = .ok (.ireturn, 1) := by decide +kernel
theorem dX11_read_15 : decode cX11_read 15 = .ok (.iconst 0, 1) := by decide +kernel
theorem dX11_read_16 : decode cX11_read 16 = .ok (.istore_n 1, 1) := by decide +kernel
theorem dX11_read_17 : decode cX11_read 17 = .ok (.iload_n 1, 1) := by decide +kernel
theorem dX11_read_18 : decode cX11_read 18 = .ok (.bipush 44, 2) := by decide +kernel
theorem dX11_read_20 : decode cX11_read 20 = .ok (.if_icmp .ge 21, 3) := by decide +kernel
theorem dX11_read_23 : decode cX11_read 23 = .ok (.aload_n 0, 1) := by decide +kernel
theorem dX11_read_24 : decode cX11_read 24 = .ok (.getfield 7, 3) := by decide +kernel
theorem dX11_read_27 : decode cX11_read 27 = .ok (.iload_n 1, 1) := by decide +kernel
theorem dX11_read_28 : decode cX11_read 28 = .ok (.aload_n 0, 1) := by decide +kernel
theorem dX11_read_29 : decode cX11_read 29 = .ok (.getfield 13, 3) := by decide +kernel
theorem dX11_read_32 : decode cX11_read 32 = .ok (.iload_n 1, 1) := by decide +kernel
theorem dX11_read_33 : decode cX11_read 33 = .ok (.iaload, 1) := by decide +kernel
theorem dX11_read_34 : decode cX11_read 34 = .ok (.iastore, 1) := by decide +kernel
theorem dX11_read_35 : decode cX11_read 35 = .ok (.iinc 1 1, 3) := by decide +kernel
theorem dX11_read_38 : decode cX11_read 38 = .ok (.goto (-21), 3) := by decide +kernel
theorem dX11_read_41 : decode cX11_read 41 = .ok (.aload_n 0, 1) := by decide +kernel
theorem dX11_read_42 : decode cX11_read 42 = .ok (.getfield 115, 3) := by decide +kernel
theorem dX11_read_45 : decode cX11_read 45 = .ok (.ireturn, 1) := by decide +kernel
theorem dX11_wayOf_0 : decode cX11_wayOf 0 = .ok (.aload_n 0, 1) := by decide +kernel
theorem dX11_wayOf_1 : decode cX11_wayOf 1 = .ok (.getfield 7, 3) := by decide +kernel
theorem dX11_wayOf_4 : decode cX11_wayOf 4 = .ok (.bipush 6, 2) := by decide +kernel
theorem dX11_wayOf_6 : decode cX11_wayOf 6 = .ok (.iload_n 1, 1) := by decide +kernel
theorem dX11_wayOf_7 : decode cX11_wayOf 7 = .ok (.iadd, 1) := by decide +kernel
theorem dX11_wayOf_8 : decode cX11_wayOf 8 = .ok (.iaload, 1) := by decide +kernel
theorem dX11_wayOf_9 : decode cX11_wayOf 9 = .ok (.istore 4, 2) := by decide +kernel
theorem dX11_wayOf_11 : decode cX11_wayOf 11 = .ok (.iconst 2, 1) := by decide +kernel
theorem dX11_wayOf_12 : decode cX11_wayOf 12 = .ok (.iload_n 3, 1) := by decide +kernel
theorem dX11_wayOf_13 : decode cX11_wayOf 13 = .ok (.imul, 1) := by decide +kernel
theorem dX11_wayOf_14 : decode cX11_wayOf 14 = .ok (.iload_n 2, 1) := by decide +kernel
theorem dX11_wayOf_15 : decode cX11_wayOf 15 = .ok (.iadd, 1) := by decide +kernel
theorem dX11_wayOf_16 : decode cX11_wayOf 16 = .ok (.aload_n 0, 1) := by decide +kernel
theorem dX11_wayOf_17 : decode cX11_wayOf 17 = .ok (.getfield 7, 3) := by decide +kernel
theorem dX11_wayOf_20 : decode cX11_wayOf 20 = .ok (.iconst 1, 1) := by decide +kernel
theorem dX11_wayOf_21 : decode cX11_wayOf 21 = .ok (.iaload, 1) := by decide +kernel
theorem dX11_wayOf_22 : decode cX11_wayOf 22 = .ok (.isub, 1) := by decide +kernel
theorem dX11_wayOf_23 : decode cX11_wayOf 23 = .ok (.istore 5, 2) := by decide +kernel
theorem dX11_wayOf_25 : decode cX11_wayOf 25 = .ok (.iload 4, 2) := by decide +kernel
theorem dX11_wayOf_27 : decode cX11_wayOf 27 = .ok (.iconst 2, 1) := by decide +kernel
theorem dX11_wayOf_28 : decode cX11_wayOf 28 = .ok (.if_icmp .eq 9, 3) := by decide +kernel
theorem dX11_wayOf_31 : decode cX11_wayOf 31 = .ok (.iload 4, 2) := by decide +kernel
theorem dX11_wayOf_33 : decode cX11_wayOf 33 = .ok (.iconst 5, 1) := by decide +kernel
theorem dX11_wayOf_34 : decode cX11_wayOf 34 = .ok (.if_icmp .ne 8, 3) := by decide +kernel
theorem dX11_wayOf_37 : decode cX11_wayOf 37 = .ok (.bipush 10, 2) := by decide +kernel
theorem dX11_wayOf_39 : decode cX11_wayOf 39 = .ok (.goto 27, 3) := by decide +kernel
theorem dX11_wayOf_42 : decode cX11_wayOf 42 = .ok (.iload 4, 2) := by decide +kernel
theorem dX11_wayOf_44 : decode cX11_wayOf 44 = .ok (.iconst 3, 1) := by decide +kernel
theorem dX11_wayOf_45 : decode cX11_wayOf 45 = .ok (.if_icmp .ne 8, 3) := by decide +kernel
theorem dX11_wayOf_48 : decode cX11_wayOf 48 = .ok (.bipush 13, 2) := by decide +kernel
theorem dX11_wayOf_50 : decode cX11_wayOf 50 = .ok (.goto 16, 3) := by decide +kernel
theorem dX11_wayOf_53 : decode cX11_wayOf 53 = .ok (.iload 4, 2) := by decide +kernel
theorem dX11_wayOf_55 : decode cX11_wayOf 55 = .ok (.iconst 4, 1) := by decide +kernel
theorem dX11_wayOf_56 : decode cX11_wayOf 56 = .ok (.if_icmp .ne 8, 3) := by decide +kernel
theorem dX11_wayOf_59 : decode cX11_wayOf 59 = .ok (.bipush 17, 2) := by decide +kernel
theorem dX11_wayOf_61 : decode cX11_wayOf 61 = .ok (.goto 5, 3) := by decide +kernel
theorem dX11_wayOf_64 : decode cX11_wayOf 64 = .ok (.bipush 14, 2) := by decide +kernel
theorem dX11_wayOf_66 : decode cX11_wayOf 66 = .ok (.istore 6, 2) := by decide +kernel
theorem dX11_wayOf_68 : decode cX11_wayOf 68 = .ok (.iload 4, 2) := by decide +kernel
theorem dX11_wayOf_70 : decode cX11_wayOf 70 = .ok (.iconst 2, 1) := by decide +kernel
theorem dX11_wayOf_71 : decode cX11_wayOf 71 = .ok (.if_icmp .eq 9, 3) := by decide +kernel
theorem dX11_wayOf_74 : decode cX11_wayOf 74 = .ok (.iload 4, 2) := by decide +kernel
theorem dX11_wayOf_76 : decode cX11_wayOf 76 = .ok (.iconst 5, 1) := by decide +kernel
theorem dX11_wayOf_77 : decode cX11_wayOf 77 = .ok (.if_icmp .ne 8, 3) := by decide +kernel
theorem dX11_wayOf_80 : decode cX11_wayOf 80 = .ok (.bipush 11, 2) := by decide +kernel
theorem dX11_wayOf_82 : decode cX11_wayOf 82 = .ok (.goto 26, 3) := by decide +kernel
theorem dX11_wayOf_85 : decode cX11_wayOf 85 = .ok (.iload 4, 2) := by decide +kernel
theorem dX11_wayOf_87 : decode cX11_wayOf 87 = .ok (.iconst 4, 1) := by decide +kernel
theorem dX11_wayOf_88 : decode cX11_wayOf 88 = .ok (.if_icmp .ne 8, 3) := by decide +kernel
theorem dX11_wayOf_91 : decode cX11_wayOf 91 = .ok (.bipush 19, 2) := by decide +kernel
theorem dX11_wayOf_93 : decode cX11_wayOf 93 = .ok (.goto 15, 3) := by decide +kernel
theorem dX11_wayOf_96 : decode cX11_wayOf 96 = .ok (.iload 4, 2) := by decide +kernel
theorem dX11_wayOf_98 : decode cX11_wayOf 98 = .ok (.ifCond .ne 8, 3) := by decide +kernel
theorem dX11_wayOf_101 : decode cX11_wayOf 101 = .ok (.bipush 16, 2) := by decide +kernel
theorem dX11_wayOf_103 : decode cX11_wayOf 103 = .ok (.goto 5, 3) := by decide +kernel
theorem dX11_wayOf_106 : decode cX11_wayOf 106 = .ok (.bipush 15, 2) := by decide +kernel
theorem dX11_wayOf_108 : decode cX11_wayOf 108 = .ok (.istore 7, 2) := by decide +kernel
theorem dX11_wayOf_110 : decode cX11_wayOf 110 = .ok (.iload_n 2, 1) := by decide +kernel
theorem dX11_wayOf_111 : decode cX11_wayOf 111 = .ok (.aload_n 0, 1) := by decide +kernel
theorem dX11_wayOf_112 : decode cX11_wayOf 112 = .ok (.getfield 7, 3) := by decide +kernel
theorem dX11_wayOf_115 : decode cX11_wayOf 115 = .ok (.iconst 1, 1) := by decide +kernel
theorem dX11_wayOf_116 : decode cX11_wayOf 116 = .ok (.iaload, 1) := by decide +kernel
theorem dX11_wayOf_117 : decode cX11_wayOf 117 = .ok (.isub, 1) := by decide +kernel
theorem dX11_wayOf_118 : decode cX11_wayOf 118 = .ok (.iconst 2, 1) := by decide +kernel
theorem dX11_wayOf_119 : decode cX11_wayOf 119 = .ok (.if_icmp .ge 7, 3) := by decide +kernel
theorem dX11_wayOf_122 : decode cX11_wayOf 122 = .ok (.iconst 0, 1) := by decide +kernel
theorem dX11_wayOf_123 : decode cX11_wayOf 123 = .ok (.goto 26, 3) := by decide +kernel
theorem dX11_wayOf_126 : decode cX11_wayOf 126 = .ok (.iload 5, 2) := by decide +kernel
theorem dX11_wayOf_128 : decode cX11_wayOf 128 = .ok (.iload 6, 2) := by decide +kernel
theorem dX11_wayOf_130 : decode cX11_wayOf 130 = .ok (.if_icmp .ge 7, 3) := by decide +kernel
theorem dX11_wayOf_133 : decode cX11_wayOf 133 = .ok (.iconst 1, 1) := by decide +kernel
theorem dX11_wayOf_134 : decode cX11_wayOf 134 = .ok (.goto 15, 3) := by decide +kernel
theorem dX11_wayOf_137 : decode cX11_wayOf 137 = .ok (.iload 5, 2) := by decide +kernel
theorem dX11_wayOf_139 : decode cX11_wayOf 139 = .ok (.iload 7, 2) := by decide +kernel
theorem dX11_wayOf_141 : decode cX11_wayOf 141 = .ok (.if_icmp .le 7, 3) := by decide +kernel
theorem dX11_wayOf_144 : decode cX11_wayOf 144 = .ok (.iconst 3, 1) := by decide +kernel
theorem dX11_wayOf_145 : decode cX11_wayOf 145 = .ok (.goto 4, 3) := by decide +kernel
theorem dX11_wayOf_148 : decode cX11_wayOf 148 = .ok (.iconst 2, 1) := by decide +kernel
theorem dX11_wayOf_149 : decode cX11_wayOf 149 = .ok (.ireturn, 1) := by decide +kernel
theorem dX11_backOf_0 : decode cX11_backOf 0 = .ok (.aload_n 0, 1) := by decide +kernel
theorem dX11_backOf_1 : decode cX11_backOf 1 = .ok (.iload_n 1, 1) := by decide +kernel
theorem dX11_backOf_2 : decode cX11_backOf 2 = .ok (.iload_n 2, 1) := by decide +kernel
theorem dX11_backOf_3 : decode cX11_backOf 3 = .ok (.iload_n 3, 1) := by decide +kernel
theorem dX11_backOf_4 : decode cX11_backOf 4 = .ok (.invokevirtual 125, 3) := by decide +kernel
theorem dX11_backOf_7 : decode cX11_backOf 7 = .ok (.istore 4, 2) := by decide +kernel
theorem dX11_backOf_9 : decode cX11_backOf 9 = .ok (.iload 4, 2) := by decide +kernel
theorem dX11_backOf_11 : decode cX11_backOf 11 = .ok (.iconst 1, 1) := by decide +kernel
theorem dX11_backOf_12 : decode cX11_backOf 12 = .ok (.if_icmp .ne 7, 3) := by decide +kernel
theorem dX11_backOf_15 : decode cX11_backOf 15 = .ok (.iload_n 2, 1) := by decide +kernel
theorem dX11_backOf_16 : decode cX11_backOf 16 = .ok (.iconst 2, 1) := by decide +kernel
theorem dX11_backOf_17 : decode cX11_backOf 17 = .ok (.idiv, 1) := by decide +kernel
theorem dX11_backOf_18 : decode cX11_backOf 18 = .ok (.ireturn, 1) := by decide +kernel
theorem dX11_backOf_19 : decode cX11_backOf 19 = .ok (.aload_n 0, 1) := by decide +kernel
theorem dX11_backOf_20 : decode cX11_backOf 20 = .ok (.getfield 7, 3) := by decide +kernel
theorem dX11_backOf_23 : decode cX11_backOf 23 = .ok (.bipush 6, 2) := by decide +kernel
theorem dX11_backOf_25 : decode cX11_backOf 25 = .ok (.iload_n 1, 1) := by decide +kernel
theorem dX11_backOf_26 : decode cX11_backOf 26 = .ok (.iadd, 1) := by decide +kernel
theorem dX11_backOf_27 : decode cX11_backOf 27 = .ok (.iaload, 1) := by decide +kernel
theorem dX11_backOf_28 : decode cX11_backOf 28 = .ok (.istore 5, 2) := by decide +kernel
theorem dX11_backOf_30 : decode cX11_backOf 30 = .ok (.iload 5, 2) := by decide +kernel
theorem dX11_backOf_32 : decode cX11_backOf 32 = .ok (.ifCond .eq 9, 3) := by decide +kernel
theorem dX11_backOf_35 : decode cX11_backOf 35 = .ok (.iload 5, 2) := by decide +kernel
theorem dX11_backOf_37 : decode cX11_backOf 37 = .ok (.iconst 5, 1) := by decide +kernel
theorem dX11_backOf_38 : decode cX11_backOf 38 = .ok (.if_icmp .ne 9, 3) := by decide +kernel
theorem dX11_backOf_41 : decode cX11_backOf 41 = .ok (.iload_n 2, 1) := by decide +kernel
theorem dX11_backOf_42 : decode cX11_backOf 42 = .ok (.iload_n 3, 1) := by decide +kernel
theorem dX11_backOf_43 : decode cX11_backOf 43 = .ok (.iadd, 1) := by decide +kernel
theorem dX11_backOf_44 : decode cX11_backOf 44 = .ok (.goto 22, 3) := by decide +kernel
theorem dX11_backOf_47 : decode cX11_backOf 47 = .ok (.iload 5, 2) := by decide +kernel
theorem dX11_backOf_49 : decode cX11_backOf 49 = .ok (.iconst 4, 1) := by decide +kernel
theorem dX11_backOf_50 : decode cX11_backOf 50 = .ok (.if_icmp .ne 11, 3) := by decide +kernel
theorem dX11_backOf_53 : decode cX11_backOf 53 = .ok (.iload_n 2, 1) := by decide +kernel
theorem dX11_backOf_54 : decode cX11_backOf 54 = .ok (.iload_n 3, 1) := by decide +kernel
theorem dX11_backOf_55 : decode cX11_backOf 55 = .ok (.iadd, 1) := by decide +kernel
theorem dX11_backOf_56 : decode cX11_backOf 56 = .ok (.iconst 1, 1) := by decide +kernel
theorem dX11_backOf_57 : decode cX11_backOf 57 = .ok (.iadd, 1) := by decide +kernel
theorem dX11_backOf_58 : decode cX11_backOf 58 = .ok (.goto 8, 3) := by decide +kernel
theorem dX11_backOf_61 : decode cX11_backOf 61 = .ok (.iload_n 2, 1) := by decide +kernel
theorem dX11_backOf_62 : decode cX11_backOf 62 = .ok (.iload_n 3, 1) := by decide +kernel
theorem dX11_backOf_63 : decode cX11_backOf 63 = .ok (.iadd, 1) := by decide +kernel
theorem dX11_backOf_64 : decode cX11_backOf 64 = .ok (.iconst 2, 1) := by decide +kernel
theorem dX11_backOf_65 : decode cX11_backOf 65 = .ok (.isub, 1) := by decide +kernel
theorem dX11_backOf_66 : decode cX11_backOf 66 = .ok (.istore 6, 2) := by decide +kernel
theorem dX11_backOf_68 : decode cX11_backOf 68 = .ok (.iload 6, 2) := by decide +kernel
theorem dX11_backOf_70 : decode cX11_backOf 70 = .ok (.ifCond .lt 9, 3) := by decide +kernel
theorem dX11_backOf_73 : decode cX11_backOf 73 = .ok (.iload 4, 2) := by decide +kernel
theorem dX11_backOf_75 : decode cX11_backOf 75 = .ok (.iconst 2, 1) := by decide +kernel
theorem dX11_backOf_76 : decode cX11_backOf 76 = .ok (.if_icmp .eq 7, 3) := by decide +kernel
theorem dX11_backOf_79 : decode cX11_backOf 79 = .ok (.iconst 0, 1) := by decide +kernel
theorem dX11_backOf_80 : decode cX11_backOf 80 = .ok (.goto 5, 3) := by decide +kernel
theorem dX11_backOf_83 : decode cX11_backOf 83 = .ok (.iload 6, 2) := by decide +kernel
theorem dX11_backOf_85 : decode cX11_backOf 85 = .ok (.istore 6, 2) := by decide +kernel
theorem dX11_backOf_87 : decode cX11_backOf 87 = .ok (.iload 5, 2) := by decide +kernel
theorem dX11_backOf_89 : decode cX11_backOf 89 = .ok (.iconst 3, 1) := by decide +kernel
theorem dX11_backOf_90 : decode cX11_backOf 90 = .ok (.if_icmp .ne 10, 3) := by decide +kernel
theorem dX11_backOf_93 : decode cX11_backOf 93 = .ok (.iload 6, 2) := by decide +kernel
theorem dX11_backOf_95 : decode cX11_backOf 95 = .ok (.iconst 2, 1) := by decide +kernel
theorem dX11_backOf_96 : decode cX11_backOf 96 = .ok (.idiv, 1) := by decide +kernel
theorem dX11_backOf_97 : decode cX11_backOf 97 = .ok (.goto 5, 3) := by decide +kernel
theorem dX11_backOf_100 : decode cX11_backOf 100 = .ok (.iload 6, 2) := by decide +kernel
theorem dX11_backOf_102 : decode cX11_backOf 102 = .ok (.ireturn, 1) := by decide +kernel
theorem dX11_pointsOf_0 : decode cX11_pointsOf 0 = .ok (.iload 4, 2) := by decide +kernel
theorem dX11_pointsOf_2 : decode cX11_pointsOf 2 = .ok (.aload_n 0, 1) := by decide +kernel
theorem dX11_pointsOf_3 : decode cX11_pointsOf 3 = .ok (.iload_n 1, 1) := by decide +kernel
theorem dX11_pointsOf_4 : decode cX11_pointsOf 4 = .ok (.iload_n 2, 1) := by decide +kernel
theorem dX11_pointsOf_5 : decode cX11_pointsOf 5 = .ok (.iload_n 3, 1) := by decide +kernel
theorem dX11_pointsOf_6 : decode cX11_pointsOf 6 = .ok (.invokevirtual 129, 3) := by decide +kernel
theorem dX11_pointsOf_9 : decode cX11_pointsOf 9 = .ok (.isub, 1) := by decide +kernel
theorem dX11_pointsOf_10 : decode cX11_pointsOf 10 = .ok (.istore 5, 2) := by decide +kernel
theorem dX11_pointsOf_12 : decode cX11_pointsOf 12 = .ok (.aload_n 0, 1) := by decide +kernel
theorem dX11_pointsOf_13 : decode cX11_pointsOf 13 = .ok (.iload_n 1, 1) := by decide +kernel
theorem dX11_pointsOf_14 : decode cX11_pointsOf 14 = .ok (.iload_n 2, 1) := by decide +kernel
theorem dX11_pointsOf_15 : decode cX11_pointsOf 15 = .ok (.iload_n 3, 1) := by decide +kernel
theorem dX11_pointsOf_16 : decode cX11_pointsOf 16 = .ok (.invokevirtual 125, 3) := by decide +kernel
theorem dX11_pointsOf_19 : decode cX11_pointsOf 19 = .ok (.iconst 2, 1) := by decide +kernel
theorem dX11_pointsOf_20 : decode cX11_pointsOf 20 = .ok (.if_icmp .ne 15, 3) := by decide +kernel
theorem dX11_pointsOf_23 : decode cX11_pointsOf 23 = .ok (.iload 5, 2) := by decide +kernel
theorem dX11_pointsOf_25 : decode cX11_pointsOf 25 = .ok (.iconst (-1), 1) := by decide +kernel
theorem dX11_pointsOf_26 : decode cX11_pointsOf 26 = .ok (.if_icmp .lt 9, 3) := by decide +kernel
theorem dX11_pointsOf_29 : decode cX11_pointsOf 29 = .ok (.iload 5, 2) := by decide +kernel
theorem dX11_pointsOf_31 : decode cX11_pointsOf 31 = .ok (.iconst 4, 1) := by decide +kernel
theorem dX11_pointsOf_32 : decode cX11_pointsOf 32 = .ok (.if_icmp .le 7, 3) := by decide +kernel
theorem dX11_pointsOf_35 : decode cX11_pointsOf 35 = .ok (.iconst 0, 1) := by decide +kernel
theorem dX11_pointsOf_36 : decode cX11_pointsOf 36 = .ok (.goto 15, 3) := by decide +kernel
theorem dX11_pointsOf_39 : decode cX11_pointsOf 39 = .ok (.iload 5, 2) := by decide +kernel
theorem dX11_pointsOf_41 : decode cX11_pointsOf 41 = .ok (.iconst 2, 1) := by decide +kernel
theorem dX11_pointsOf_42 : decode cX11_pointsOf 42 = .ok (.if_icmp .ge 8, 3) := by decide +kernel
theorem dX11_pointsOf_45 : decode cX11_pointsOf 45 = .ok (.bipush 10, 2) := by decide +kernel
theorem dX11_pointsOf_47 : decode cX11_pointsOf 47 = .ok (.goto 4, 3) := by decide +kernel
theorem dX11_pointsOf_50 : decode cX11_pointsOf 50 = .ok (.iconst 5, 1) := by decide +kernel
theorem dX11_pointsOf_51 : decode cX11_pointsOf 51 = .ok (.ireturn, 1) := by decide +kernel
theorem dX11_way_0 : decode cX11_way 0 = .ok (.aload_n 0, 1) := by decide +kernel
theorem dX11_way_1 : decode cX11_way 1 = .ok (.iload_n 1, 1) := by decide +kernel
theorem dX11_way_2 : decode cX11_way 2 = .ok (.iload_n 2, 1) := by decide +kernel
theorem dX11_way_3 : decode cX11_way 3 = .ok (.iload_n 3, 1) := by decide +kernel
theorem dX11_way_4 : decode cX11_way 4 = .ok (.invokevirtual 132, 3) := by decide +kernel
theorem dX11_way_7 : decode cX11_way 7 = .ok (.ifCond .eq 13, 3) := by decide +kernel
theorem dX11_way_10 : decode cX11_way 10 = .ok (.aload_n 0, 1) := by decide +kernel
theorem dX11_way_11 : decode cX11_way 11 = .ok (.iload_n 1, 1) := by decide +kernel
theorem dX11_way_12 : decode cX11_way 12 = .ok (.iload_n 2, 1) := by decide +kernel
theorem dX11_way_13 : decode cX11_way 13 = .ok (.iload_n 3, 1) := by decide +kernel
theorem dX11_way_14 : decode cX11_way 14 = .ok (.invokevirtual 125, 3) := by decide +kernel
theorem dX11_way_17 : decode cX11_way 17 = .ok (.goto 7, 3) := by decide +kernel
theorem dX11_way_20 : decode cX11_way 20 = .ok (.aload_n 0, 1) := by decide +kernel
theorem dX11_way_21 : decode cX11_way 21 = .ok (.invokevirtual 55, 3) := by decide +kernel
theorem dX11_way_24 : decode cX11_way 24 = .ok (.ireturn, 1) := by decide +kernel
theorem dX11_back_0 : decode cX11_back 0 = .ok (.aload_n 0, 1) := by decide +kernel
theorem dX11_back_1 : decode cX11_back 1 = .ok (.iload_n 1, 1) := by decide +kernel
theorem dX11_back_2 : decode cX11_back 2 = .ok (.iload_n 2, 1) := by decide +kernel
theorem dX11_back_3 : decode cX11_back 3 = .ok (.iload_n 3, 1) := by decide +kernel
theorem dX11_back_4 : decode cX11_back 4 = .ok (.invokevirtual 132, 3) := by decide +kernel
theorem dX11_back_7 : decode cX11_back 7 = .ok (.ifCond .eq 13, 3) := by decide +kernel
theorem dX11_back_10 : decode cX11_back 10 = .ok (.aload_n 0, 1) := by decide +kernel
theorem dX11_back_11 : decode cX11_back 11 = .ok (.iload_n 1, 1) := by decide +kernel
theorem dX11_back_12 : decode cX11_back 12 = .ok (.iload_n 2, 1) := by decide +kernel
theorem dX11_back_13 : decode cX11_back 13 = .ok (.iload_n 3, 1) := by decide +kernel
theorem dX11_back_14 : decode cX11_back 14 = .ok (.invokevirtual 129, 3) := by decide +kernel
theorem dX11_back_17 : decode cX11_back 17 = .ok (.goto 7, 3) := by decide +kernel
theorem dX11_back_20 : decode cX11_back 20 = .ok (.aload_n 0, 1) := by decide +kernel
theorem dX11_back_21 : decode cX11_back 21 = .ok (.invokevirtual 55, 3) := by decide +kernel
theorem dX11_back_24 : decode cX11_back 24 = .ok (.ireturn, 1) := by decide +kernel
theorem dX11_points_0 : decode cX11_points 0 = .ok (.aload_n 0, 1) := by decide +kernel
theorem dX11_points_1 : decode cX11_points 1 = .ok (.iload_n 1, 1) := by decide +kernel
theorem dX11_points_2 : decode cX11_points 2 = .ok (.iload_n 2, 1) := by decide +kernel
theorem dX11_points_3 : decode cX11_points 3 = .ok (.iload_n 3, 1) := by decide +kernel
theorem dX11_points_4 : decode cX11_points 4 = .ok (.invokevirtual 132, 3) := by decide +kernel
theorem dX11_points_7 : decode cX11_points 7 = .ok (.ifCond .eq 28, 3) := by decide +kernel
theorem dX11_points_10 : decode cX11_points 10 = .ok (.iload 4, 2) := by decide +kernel
theorem dX11_points_12 : decode cX11_points 12 = .ok (.i2l, 1) := by decide +kernel
theorem dX11_points_13 : decode cX11_points 13 = .ok (.lconst 0, 1) := by decide +kernel
theorem dX11_points_14 : decode cX11_points 14 = .ok (.ldc2_w 136, 3) := by decide +kernel
theorem dX11_points_17 : decode cX11_points 17 = .ok (.invokestatic 40, 3) := by decide +kernel
theorem dX11_points_20 : decode cX11_points 20 = .ok (.ifCond .eq 15, 3) := by decide +kernel
theorem dX11_points_23 : decode cX11_points 23 = .ok (.aload_n 0, 1) := by decide +kernel
theorem dX11_points_24 : decode cX11_points 24 = .ok (.iload_n 1, 1) := by decide +kernel
theorem dX11_points_25 : decode cX11_points 25 = .ok (.iload_n 2, 1) := by decide +kernel
theorem dX11_points_26 : decode cX11_points 26 = .ok (.iload_n 3, 1) := by decide +kernel
theorem dX11_points_27 : decode cX11_points 27 = .ok (.iload 4, 2) := by decide +kernel
theorem dX11_points_29 : decode cX11_points 29 = .ok (.invokevirtual 138, 3) := by decide +kernel
theorem dX11_points_32 : decode cX11_points 32 = .ok (.goto 7, 3) := by decide +kernel
theorem dX11_points_35 : decode cX11_points 35 = .ok (.aload_n 0, 1) := by decide +kernel
theorem dX11_points_36 : decode cX11_points 36 = .ok (.invokevirtual 55, 3) := by decide +kernel
theorem dX11_points_39 : decode cX11_points 39 = .ok (.ireturn, 1) := by decide +kernel
theorem dX11_slip_0 : decode cX11_slip 0 = .ok (.iload_n 0, 1) := by decide +kernel
theorem dX11_slip_1 : decode cX11_slip 1 = .ok (.ifCond .ne 7, 3) := by decide +kernel
theorem dX11_slip_4 : decode cX11_slip 4 = .ok (.iconst (-1), 1) := by decide +kernel
theorem dX11_slip_5 : decode cX11_slip 5 = .ok (.goto 13, 3) := by decide +kernel
theorem dX11_slip_8 : decode cX11_slip 8 = .ok (.iload_n 0, 1) := by decide +kernel
theorem dX11_slip_9 : decode cX11_slip 9 = .ok (.iconst 3, 1) := by decide +kernel
theorem dX11_slip_10 : decode cX11_slip 10 = .ok (.if_icmp .ne 7, 3) := by decide +kernel
theorem dX11_slip_13 : decode cX11_slip 13 = .ok (.iconst 1, 1) := by decide +kernel
theorem dX11_slip_14 : decode cX11_slip 14 = .ok (.goto 4, 3) := by decide +kernel
theorem dX11_slip_17 : decode cX11_slip 17 = .ok (.iconst 0, 1) := by decide +kernel
theorem dX11_slip_18 : decode cX11_slip 18 = .ok (.ireturn, 1) := by decide +kernel
theorem dX11_odds_0 : decode cX11_odds 0 = .ok (.aload_n 0, 1) := by decide +kernel
theorem dX11_odds_1 : decode cX11_odds 1 = .ok (.iload_n 1, 1) := by decide +kernel
theorem dX11_odds_2 : decode cX11_odds 2 = .ok (.iload_n 2, 1) := by decide +kernel
theorem dX11_odds_3 : decode cX11_odds 3 = .ok (.iload_n 3, 1) := by decide +kernel
theorem dX11_odds_4 : decode cX11_odds 4 = .ok (.invokevirtual 132, 3) := by decide +kernel
theorem dX11_odds_7 : decode cX11_odds 7 = .ok (.ifCond .eq 16, 3) := by decide +kernel
theorem dX11_odds_10 : decode cX11_odds 10 = .ok (.iload 4, 2) := by decide +kernel
theorem dX11_odds_12 : decode cX11_odds 12 = .ok (.i2l, 1) := by decide +kernel
theorem dX11_odds_13 : decode cX11_odds 13 = .ok (.lconst 0, 1) := by decide +kernel
theorem dX11_odds_14 : decode cX11_odds 14 = .ok (.ldc2_w 62, 3) := by decide +kernel
theorem dX11_odds_17 : decode cX11_odds 17 = .ok (.invokestatic 40, 3) := by decide +kernel
theorem dX11_odds_20 : decode cX11_odds 20 = .ok (.ifCond .ne 8, 3) := by decide +kernel
theorem dX11_odds_23 : decode cX11_odds 23 = .ok (.aload_n 0, 1) := by decide +kernel
theorem dX11_odds_24 : decode cX11_odds 24 = .ok (.invokevirtual 55, 3) := by decide +kernel
theorem dX11_odds_27 : decode cX11_odds 27 = .ok (.ireturn, 1) := by decide +kernel
theorem dX11_odds_28 : decode cX11_odds 28 = .ok (.iconst 0, 1) := by decide +kernel
theorem dX11_odds_29 : decode cX11_odds 29 = .ok (.istore 5, 2) := by decide +kernel
theorem dX11_odds_31 : decode cX11_odds 31 = .ok (.iconst 0, 1) := by decide +kernel
theorem dX11_odds_32 : decode cX11_odds 32 = .ok (.istore 6, 2) := by decide +kernel
theorem dX11_odds_34 : decode cX11_odds 34 = .ok (.iload 6, 2) := by decide +kernel
theorem dX11_odds_36 : decode cX11_odds 36 = .ok (.bipush 16, 2) := by decide +kernel
theorem dX11_odds_38 : decode cX11_odds 38 = .ok (.if_icmp .ge 47, 3) := by decide +kernel
theorem dX11_odds_41 : decode cX11_odds 41 = .ok (.iload 5, 2) := by decide +kernel
theorem dX11_odds_43 : decode cX11_odds 43 = .ok (.aload_n 0, 1) := by decide +kernel
theorem dX11_odds_44 : decode cX11_odds 44 = .ok (.iload_n 1, 1) := by decide +kernel
theorem dX11_odds_45 : decode cX11_odds 45 = .ok (.iload_n 2, 1) := by decide +kernel
theorem dX11_odds_46 : decode cX11_odds 46 = .ok (.iload 6, 2) := by decide +kernel
theorem dX11_odds_48 : decode cX11_odds 48 = .ok (.iconst 4, 1) := by decide +kernel
theorem dX11_odds_49 : decode cX11_odds 49 = .ok (.idiv, 1) := by decide +kernel
theorem dX11_odds_50 : decode cX11_odds 50 = .ok (.invokestatic 142, 3) := by decide +kernel
theorem dX11_odds_53 : decode cX11_odds 53 = .ok (.iadd, 1) := by decide +kernel
theorem dX11_odds_54 : decode cX11_odds 54 = .ok (.iload_n 3, 1) := by decide +kernel
theorem dX11_odds_55 : decode cX11_odds 55 = .ok (.iload 6, 2) := by decide +kernel
theorem dX11_odds_57 : decode cX11_odds 57 = .ok (.iconst 4, 1) := by decide +kernel
theorem dX11_odds_58 : decode cX11_odds 58 = .ok (.irem, 1) := by decide +kernel
theorem dX11_odds_59 : decode cX11_odds 59 = .ok (.invokestatic 142, 3) := by decide +kernel
theorem dX11_odds_62 : decode cX11_odds 62 = .ok (.iadd, 1) := by decide +kernel
theorem dX11_odds_63 : decode cX11_odds 63 = .ok (.invokevirtual 125, 3) := by decide +kernel
theorem dX11_odds_66 : decode cX11_odds 66 = .ok (.iload 4, 2) := by decide +kernel
theorem dX11_odds_68 : decode cX11_odds 68 = .ok (.if_icmp .ne 7, 3) := by decide +kernel
theorem dX11_odds_71 : decode cX11_odds 71 = .ok (.iconst 1, 1) := by decide +kernel
theorem dX11_odds_72 : decode cX11_odds 72 = .ok (.goto 4, 3) := by decide +kernel
theorem dX11_odds_75 : decode cX11_odds 75 = .ok (.iconst 0, 1) := by decide +kernel
theorem dX11_odds_76 : decode cX11_odds 76 = .ok (.iadd, 1) := by decide +kernel
theorem dX11_odds_77 : decode cX11_odds 77 = .ok (.istore 5, 2) := by decide +kernel
theorem dX11_odds_79 : decode cX11_odds 79 = .ok (.iinc 6 1, 3) := by decide +kernel
theorem dX11_odds_82 : decode cX11_odds 82 = .ok (.goto (-48), 3) := by decide +kernel
theorem dX11_odds_85 : decode cX11_odds 85 = .ok (.iload 5, 2) := by decide +kernel
theorem dX11_odds_87 : decode cX11_odds 87 = .ok (.ireturn, 1) := by decide +kernel
theorem dX11_meanOf_0 : decode cX11_meanOf 0 = .ok (.iconst 0, 1) := by decide +kernel
theorem dX11_meanOf_1 : decode cX11_meanOf 1 = .ok (.istore 5, 2) := by decide +kernel
theorem dX11_meanOf_3 : decode cX11_meanOf 3 = .ok (.iconst 0, 1) := by decide +kernel
theorem dX11_meanOf_4 : decode cX11_meanOf 4 = .ok (.istore 6, 2) := by decide +kernel
theorem dX11_meanOf_6 : decode cX11_meanOf 6 = .ok (.iload 6, 2) := by decide +kernel
theorem dX11_meanOf_8 : decode cX11_meanOf 8 = .ok (.bipush 16, 2) := by decide +kernel
theorem dX11_meanOf_10 : decode cX11_meanOf 10 = .ok (.if_icmp .ge 39, 3) := by decide +kernel
theorem dX11_meanOf_13 : decode cX11_meanOf 13 = .ok (.iload 5, 2) := by decide +kernel
theorem dX11_meanOf_15 : decode cX11_meanOf 15 = .ok (.aload_n 0, 1) := by decide +kernel
theorem dX11_meanOf_16 : decode cX11_meanOf 16 = .ok (.iload_n 1, 1) := by decide +kernel
theorem dX11_meanOf_17 : decode cX11_meanOf 17 = .ok (.iload_n 2, 1) := by decide +kernel
theorem dX11_meanOf_18 : decode cX11_meanOf 18 = .ok (.iload 6, 2) := by decide +kernel
theorem dX11_meanOf_20 : decode cX11_meanOf 20 = .ok (.iconst 4, 1) := by decide +kernel
theorem dX11_meanOf_21 : decode cX11_meanOf 21 = .ok (.idiv, 1) := by decide +kernel
theorem dX11_meanOf_22 : decode cX11_meanOf 22 = .ok (.invokestatic 142, 3) := by decide +kernel
theorem dX11_meanOf_25 : decode cX11_meanOf 25 = .ok (.iadd, 1) := by decide +kernel
theorem dX11_meanOf_26 : decode cX11_meanOf 26 = .ok (.iload_n 3, 1) := by decide +kernel
theorem dX11_meanOf_27 : decode cX11_meanOf 27 = .ok (.iload 6, 2) := by decide +kernel
theorem dX11_meanOf_29 : decode cX11_meanOf 29 = .ok (.iconst 4, 1) := by decide +kernel
theorem dX11_meanOf_30 : decode cX11_meanOf 30 = .ok (.irem, 1) := by decide +kernel
theorem dX11_meanOf_31 : decode cX11_meanOf 31 = .ok (.invokestatic 142, 3) := by decide +kernel
theorem dX11_meanOf_34 : decode cX11_meanOf 34 = .ok (.iadd, 1) := by decide +kernel
theorem dX11_meanOf_35 : decode cX11_meanOf 35 = .ok (.iload 4, 2) := by decide +kernel
theorem dX11_meanOf_37 : decode cX11_meanOf 37 = .ok (.invokevirtual 138, 3) := by decide +kernel
theorem dX11_meanOf_40 : decode cX11_meanOf 40 = .ok (.iadd, 1) := by decide +kernel
theorem dX11_meanOf_41 : decode cX11_meanOf 41 = .ok (.istore 5, 2) := by decide +kernel
theorem dX11_meanOf_43 : decode cX11_meanOf 43 = .ok (.iinc 6 1, 3) := by decide +kernel
theorem dX11_meanOf_46 : decode cX11_meanOf 46 = .ok (.goto (-40), 3) := by decide +kernel
theorem dX11_meanOf_49 : decode cX11_meanOf 49 = .ok (.iload 5, 2) := by decide +kernel
theorem dX11_meanOf_51 : decode cX11_meanOf 51 = .ok (.ireturn, 1) := by decide +kernel
theorem dX11_mean_0 : decode cX11_mean 0 = .ok (.aload_n 0, 1) := by decide +kernel
theorem dX11_mean_1 : decode cX11_mean 1 = .ok (.iload_n 1, 1) := by decide +kernel
theorem dX11_mean_2 : decode cX11_mean 2 = .ok (.iload_n 2, 1) := by decide +kernel
theorem dX11_mean_3 : decode cX11_mean 3 = .ok (.iload_n 3, 1) := by decide +kernel
theorem dX11_mean_4 : decode cX11_mean 4 = .ok (.invokevirtual 132, 3) := by decide +kernel
theorem dX11_mean_7 : decode cX11_mean 7 = .ok (.ifCond .eq 28, 3) := by decide +kernel
theorem dX11_mean_10 : decode cX11_mean 10 = .ok (.iload 4, 2) := by decide +kernel
theorem dX11_mean_12 : decode cX11_mean 12 = .ok (.i2l, 1) := by decide +kernel
theorem dX11_mean_13 : decode cX11_mean 13 = .ok (.lconst 0, 1) := by decide +kernel
theorem dX11_mean_14 : decode cX11_mean 14 = .ok (.ldc2_w 136, 3) := by decide +kernel
theorem dX11_mean_17 : decode cX11_mean 17 = .ok (.invokestatic 40, 3) := by decide +kernel
theorem dX11_mean_20 : decode cX11_mean 20 = .ok (.ifCond .eq 15, 3) := by decide +kernel
theorem dX11_mean_23 : decode cX11_mean 23 = .ok (.aload_n 0, 1) := by decide +kernel
theorem dX11_mean_24 : decode cX11_mean 24 = .ok (.iload_n 1, 1) := by decide +kernel
theorem dX11_mean_25 : decode cX11_mean 25 = .ok (.iload_n 2, 1) := by decide +kernel
theorem dX11_mean_26 : decode cX11_mean 26 = .ok (.iload_n 3, 1) := by decide +kernel
theorem dX11_mean_27 : decode cX11_mean 27 = .ok (.iload 4, 2) := by decide +kernel
theorem dX11_mean_29 : decode cX11_mean 29 = .ok (.invokevirtual 145, 3) := by decide +kernel
theorem dX11_mean_32 : decode cX11_mean 32 = .ok (.goto 7, 3) := by decide +kernel
theorem dX11_mean_35 : decode cX11_mean 35 = .ok (.aload_n 0, 1) := by decide +kernel
theorem dX11_mean_36 : decode cX11_mean 36 = .ok (.invokevirtual 55, 3) := by decide +kernel
theorem dX11_mean_39 : decode cX11_mean 39 = .ok (.ireturn, 1) := by decide +kernel
theorem dX11_laysBest_0 : decode cX11_laysBest 0 = .ok (.aload_n 0, 1) := by decide +kernel
theorem dX11_laysBest_1 : decode cX11_laysBest 1 = .ok (.iconst (-1), 1) := by decide +kernel
theorem dX11_laysBest_2 : decode cX11_laysBest 2 = .ok (.putfield 148, 3) := by decide +kernel
theorem dX11_laysBest_5 : decode cX11_laysBest 5 = .ok (.aload_n 0, 1) := by decide +kernel
theorem dX11_laysBest_6 : decode cX11_laysBest 6 = .ok (.iconst (-1), 1) := by decide +kernel
theorem dX11_laysBest_7 : decode cX11_laysBest 7 = .ok (.putfield 151, 3) := by decide +kernel
theorem dX11_laysBest_10 : decode cX11_laysBest 10 = .ok (.iconst 0, 1) := by decide +kernel
theorem dX11_laysBest_11 : decode cX11_laysBest 11 = .ok (.istore_n 2, 1) := by decide +kernel
theorem dX11_laysBest_12 : decode cX11_laysBest 12 = .ok (.iload_n 2, 1) := by decide +kernel
theorem dX11_laysBest_13 : decode cX11_laysBest 13 = .ok (.aload_n 0, 1) := by decide +kernel
theorem dX11_laysBest_14 : decode cX11_laysBest 14 = .ok (.getfield 7, 3) := by decide +kernel
theorem dX11_laysBest_17 : decode cX11_laysBest 17 = .ok (.iconst 0, 1) := by decide +kernel
theorem dX11_laysBest_18 : decode cX11_laysBest 18 = .ok (.iaload, 1) := by decide +kernel
theorem dX11_laysBest_19 : decode cX11_laysBest 19 = .ok (.sipush 1890, 3) := by decide +kernel
theorem dX11_laysBest_22 : decode cX11_laysBest 22 = .ok (.imul, 1) := by decide +kernel
theorem dX11_laysBest_23 : decode cX11_laysBest 23 = .ok (.if_icmp .ge 93, 3) := by decide +kernel
theorem dX11_laysBest_26 : decode cX11_laysBest 26 = .ok (.iload_n 1, 1) := by decide +kernel
theorem dX11_laysBest_27 : decode cX11_laysBest 27 = .ok (.iload_n 2, 1) := by decide +kernel
theorem dX11_laysBest_28 : decode cX11_laysBest 28 = .ok (.sipush 1890, 3) := by decide +kernel
theorem dX11_laysBest_31 : decode cX11_laysBest 31 = .ok (.idiv, 1) := by decide +kernel
theorem dX11_laysBest_32 : decode cX11_laysBest 32 = .ok (.ishr, 1) := by decide +kernel
theorem dX11_laysBest_33 : decode cX11_laysBest 33 = .ok (.iconst 1, 1) := by decide +kernel
theorem dX11_laysBest_34 : decode cX11_laysBest 34 = .ok (.iand, 1) := by decide +kernel
theorem dX11_laysBest_35 : decode cX11_laysBest 35 = .ok (.iconst 1, 1) := by decide +kernel
theorem dX11_laysBest_36 : decode cX11_laysBest 36 = .ok (.if_icmp .ne 74, 3) := by decide +kernel
theorem dX11_laysBest_39 : decode cX11_laysBest 39 = .ok (.aload_n 0, 1) := by decide +kernel
theorem dX11_laysBest_40 : decode cX11_laysBest 40 = .ok (.iload_n 2, 1) := by decide +kernel
theorem dX11_laysBest_41 : decode cX11_laysBest 41 = .ok (.sipush 1890, 3) := by decide +kernel
theorem dX11_laysBest_44 : decode cX11_laysBest 44 = .ok (.idiv, 1) := by decide +kernel
theorem dX11_laysBest_45 : decode cX11_laysBest 45 = .ok (.iconst 1, 1) := by decide +kernel
theorem dX11_laysBest_46 : decode cX11_laysBest 46 = .ok (.iload_n 2, 1) := by decide +kernel
theorem dX11_laysBest_47 : decode cX11_laysBest 47 = .ok (.sipush 210, 3) := by decide +kernel
theorem dX11_laysBest_50 : decode cX11_laysBest 50 = .ok (.idiv, 1) := by decide +kernel
theorem dX11_laysBest_51 : decode cX11_laysBest 51 = .ok (.bipush 9, 2) := by decide +kernel
theorem dX11_laysBest_53 : decode cX11_laysBest 53 = .ok (.irem, 1) := by decide +kernel
theorem dX11_laysBest_54 : decode cX11_laysBest 54 = .ok (.iadd, 1) := by decide +kernel
theorem dX11_laysBest_55 : decode cX11_laysBest 55 = .ok (.iload_n 2, 1) := by decide +kernel
theorem dX11_laysBest_56 : decode cX11_laysBest 56 = .ok (.bipush 21, 2) := by decide +kernel
theorem dX11_laysBest_58 : decode cX11_laysBest 58 = .ok (.idiv, 1) := by decide +kernel
theorem dX11_laysBest_59 : decode cX11_laysBest 59 = .ok (.bipush 10, 2) := by decide +kernel
theorem dX11_laysBest_61 : decode cX11_laysBest 61 = .ok (.irem, 1) := by decide +kernel
theorem dX11_laysBest_62 : decode cX11_laysBest 62 = .ok (.iload_n 2, 1) := by decide +kernel
theorem dX11_laysBest_63 : decode cX11_laysBest 63 = .ok (.bipush 21, 2) := by decide +kernel
theorem dX11_laysBest_65 : decode cX11_laysBest 65 = .ok (.irem, 1) := by decide +kernel
theorem dX11_laysBest_66 : decode cX11_laysBest 66 = .ok (.invokevirtual 145, 3) := by decide +kernel
theorem dX11_laysBest_69 : decode cX11_laysBest 69 = .ok (.istore_n 3, 1) := by decide +kernel
theorem dX11_laysBest_70 : decode cX11_laysBest 70 = .ok (.aload_n 0, 1) := by decide +kernel
theorem dX11_laysBest_71 : decode cX11_laysBest 71 = .ok (.iload_n 3, 1) := by decide +kernel
theorem dX11_laysBest_72 : decode cX11_laysBest 72 = .ok (.aload_n 0, 1) := by decide +kernel
theorem dX11_laysBest_73 : decode cX11_laysBest 73 = .ok (.getfield 148, 3) := by decide +kernel
theorem dX11_laysBest_76 : decode cX11_laysBest 76 = .ok (.if_icmp .le 7, 3) := by decide +kernel
theorem dX11_laysBest_79 : decode cX11_laysBest 79 = .ok (.iload_n 2, 1) := by decide +kernel
theorem dX11_laysBest_80 : decode cX11_laysBest 80 = .ok (.goto 7, 3) := by decide +kernel
theorem dX11_laysBest_83 : decode cX11_laysBest 83 = .ok (.aload_n 0, 1) := by decide +kernel
theorem dX11_laysBest_84 : decode cX11_laysBest 84 = .ok (.getfield 151, 3) := by decide +kernel
theorem dX11_laysBest_87 : decode cX11_laysBest 87 = .ok (.putfield 151, 3) := by decide +kernel
theorem dX11_laysBest_90 : decode cX11_laysBest 90 = .ok (.aload_n 0, 1) := by decide +kernel
theorem dX11_laysBest_91 : decode cX11_laysBest 91 = .ok (.iload_n 3, 1) := by decide +kernel
theorem dX11_laysBest_92 : decode cX11_laysBest 92 = .ok (.aload_n 0, 1) := by decide +kernel
theorem dX11_laysBest_93 : decode cX11_laysBest 93 = .ok (.getfield 148, 3) := by decide +kernel
theorem dX11_laysBest_96 : decode cX11_laysBest 96 = .ok (.if_icmp .le 7, 3) := by decide +kernel
theorem dX11_laysBest_99 : decode cX11_laysBest 99 = .ok (.iload_n 3, 1) := by decide +kernel
theorem dX11_laysBest_100 : decode cX11_laysBest 100 = .ok (.goto 7, 3) := by decide +kernel
theorem dX11_laysBest_103 : decode cX11_laysBest 103 = .ok (.aload_n 0, 1) := by decide +kernel
theorem dX11_laysBest_104 : decode cX11_laysBest 104 = .ok (.getfield 148, 3) := by decide +kernel
theorem dX11_laysBest_107 : decode cX11_laysBest 107 = .ok (.putfield 148, 3) := by decide +kernel
theorem dX11_laysBest_110 : decode cX11_laysBest 110 = .ok (.iinc 2 1, 3) := by decide +kernel
theorem dX11_laysBest_113 : decode cX11_laysBest 113 = .ok (.goto (-101), 3) := by decide +kernel
theorem dX11_laysBest_116 : decode cX11_laysBest 116 = .ok (.aload_n 0, 1) := by decide +kernel
theorem dX11_laysBest_117 : decode cX11_laysBest 117 = .ok (.getfield 148, 3) := by decide +kernel
theorem dX11_laysBest_120 : decode cX11_laysBest 120 = .ok (.iconst (-1), 1) := by decide +kernel
theorem dX11_laysBest_121 : decode cX11_laysBest 121 = .ok (.if_icmp .ne 7, 3) := by decide +kernel
theorem dX11_laysBest_124 : decode cX11_laysBest 124 = .ok (.iconst 0, 1) := by decide +kernel
theorem dX11_laysBest_125 : decode cX11_laysBest 125 = .ok (.goto 7, 3) := by decide +kernel
theorem dX11_laysBest_128 : decode cX11_laysBest 128 = .ok (.aload_n 0, 1) := by decide +kernel
theorem dX11_laysBest_129 : decode cX11_laysBest 129 = .ok (.getfield 148, 3) := by decide +kernel
theorem dX11_laysBest_132 : decode cX11_laysBest 132 = .ok (.ireturn, 1) := by decide +kernel
theorem dX11_best_0 : decode cX11_best 0 = .ok (.iload_n 2, 1) := by decide +kernel
theorem dX11_best_1 : decode cX11_best 1 = .ok (.i2l, 1) := by decide +kernel
theorem dX11_best_2 : decode cX11_best 2 = .ok (.lconst 0, 1) := by decide +kernel
theorem dX11_best_3 : decode cX11_best 3 = .ok (.ldc2_w 154, 3) := by decide +kernel
theorem dX11_best_6 : decode cX11_best 6 = .ok (.invokestatic 40, 3) := by decide +kernel
theorem dX11_best_9 : decode cX11_best 9 = .ok (.ifCond .eq 16, 3) := by decide +kernel
theorem dX11_best_12 : decode cX11_best 12 = .ok (.iload_n 1, 1) := by decide +kernel
theorem dX11_best_13 : decode cX11_best 13 = .ok (.iconst (-1), 1) := by decide +kernel
theorem dX11_best_14 : decode cX11_best 14 = .ok (.if_icmp .eq 18, 3) := by decide +kernel
theorem dX11_best_17 : decode cX11_best 17 = .ok (.aload_n 0, 1) := by decide +kernel
theorem dX11_best_18 : decode cX11_best 18 = .ok (.iload_n 1, 1) := by decide +kernel
theorem dX11_best_19 : decode cX11_best 19 = .ok (.invokevirtual 44, 3) := by decide +kernel
theorem dX11_best_22 : decode cX11_best 22 = .ok (.ifCond .ne 10, 3) := by decide +kernel
theorem dX11_best_25 : decode cX11_best 25 = .ok (.aload_n 0, 1) := by decide +kernel
theorem dX11_best_26 : decode cX11_best 26 = .ok (.bipush (-10), 2) := by decide +kernel
theorem dX11_best_28 : decode cX11_best 28 = .ok (.invokevirtual 156, 3) := by decide +kernel
theorem dX11_best_31 : decode cX11_best 31 = .ok (.ireturn, 1) := by decide +kernel
theorem dX11_best_32 : decode cX11_best 32 = .ok (.aload_n 0, 1) := by decide +kernel
theorem dX11_best_33 : decode cX11_best 33 = .ok (.iload_n 1, 1) := by decide +kernel
theorem dX11_best_34 : decode cX11_best 34 = .ok (.iconst (-1), 1) := by decide +kernel
theorem dX11_best_35 : decode cX11_best 35 = .ok (.if_icmp .ne 9, 3) := by decide +kernel
theorem dX11_best_38 : decode cX11_best 38 = .ok (.sipush 255, 3) := by decide +kernel
theorem dX11_best_41 : decode cX11_best 41 = .ok (.goto 6, 3) := by decide +kernel
theorem dX11_best_44 : decode cX11_best 44 = .ok (.iconst 1, 1) := by decide +kernel
theorem dX11_best_45 : decode cX11_best 45 = .ok (.iload_n 1, 1) := by decide +kernel
theorem dX11_best_46 : decode cX11_best 46 = .ok (.ishl, 1) := by decide +kernel
theorem dX11_best_47 : decode cX11_best 47 = .ok (.invokevirtual 159, 3) := by decide +kernel
theorem dX11_best_50 : decode cX11_best 50 = .ok (.istore_n 3, 1) := by decide +kernel
theorem dX11_best_51 : decode cX11_best 51 = .ok (.aload_n 0, 1) := by decide +kernel
theorem dX11_best_52 : decode cX11_best 52 = .ok (.getfield 151, 3) := by decide +kernel
theorem dX11_best_55 : decode cX11_best 55 = .ok (.iconst (-1), 1) := by decide +kernel
theorem dX11_best_56 : decode cX11_best 56 = .ok (.if_icmp .ne 5, 3) := by decide +kernel
theorem dX11_best_59 : decode cX11_best 59 = .ok (.iconst (-1), 1) := by decide +kernel
theorem dX11_best_60 : decode cX11_best 60 = .ok (.ireturn, 1) := by decide +kernel
theorem dX11_best_61 : decode cX11_best 61 = .ok (.iload_n 2, 1) := by decide +kernel
theorem dX11_best_62 : decode cX11_best 62 = .ok (.ifCond .ne 7, 3) := by decide +kernel
theorem dX11_best_65 : decode cX11_best 65 = .ok (.iload_n 3, 1) := by decide +kernel
theorem dX11_best_66 : decode cX11_best 66 = .ok (.goto 65, 3) := by decide +kernel
theorem dX11_best_69 : decode cX11_best 69 = .ok (.iload_n 2, 1) := by decide +kernel
theorem dX11_best_70 : decode cX11_best 70 = .ok (.iconst 1, 1) := by decide +kernel
theorem dX11_best_71 : decode cX11_best 71 = .ok (.if_icmp .ne 14, 3) := by decide +kernel
theorem dX11_best_74 : decode cX11_best 74 = .ok (.aload_n 0, 1) := by decide +kernel
theorem dX11_best_75 : decode cX11_best 75 = .ok (.getfield 151, 3) := by decide +kernel
theorem dX11_best_78 : decode cX11_best 78 = .ok (.sipush 1890, 3) := by decide +kernel
theorem dX11_best_81 : decode cX11_best 81 = .ok (.idiv, 1) := by decide +kernel
theorem dX11_best_82 : decode cX11_best 82 = .ok (.goto 49, 3) := by decide +kernel
theorem dX11_best_85 : decode cX11_best 85 = .ok (.iload_n 2, 1) := by decide +kernel
theorem dX11_best_86 : decode cX11_best 86 = .ok (.iconst 2, 1) := by decide +kernel
theorem dX11_best_87 : decode cX11_best 87 = .ok (.if_icmp .ne 19, 3) := by decide +kernel
theorem dX11_best_90 : decode cX11_best 90 = .ok (.iconst 1, 1) := by decide +kernel
theorem dX11_best_91 : decode cX11_best 91 = .ok (.aload_n 0, 1) := by decide +kernel
theorem dX11_best_92 : decode cX11_best 92 = .ok (.getfield 151, 3) := by decide +kernel
theorem dX11_best_95 : decode cX11_best 95 = .ok (.sipush 210, 3) := by decide +kernel
theorem dX11_best_98 : decode cX11_best 98 = .ok (.idiv, 1) := by decide +kernel
theorem dX11_best_99 : decode cX11_best 99 = .ok (.bipush 9, 2) := by decide +kernel
theorem dX11_best_101 : decode cX11_best 101 = .ok (.irem, 1) := by decide +kernel
theorem dX11_best_102 : decode cX11_best 102 = .ok (.iadd, 1) := by decide +kernel
theorem dX11_best_103 : decode cX11_best 103 = .ok (.goto 28, 3) := by decide +kernel
theorem dX11_best_106 : decode cX11_best 106 = .ok (.iload_n 2, 1) := by decide +kernel
theorem dX11_best_107 : decode cX11_best 107 = .ok (.iconst 3, 1) := by decide +kernel
theorem dX11_best_108 : decode cX11_best 108 = .ok (.if_icmp .ne 16, 3) := by decide +kernel
theorem dX11_best_111 : decode cX11_best 111 = .ok (.aload_n 0, 1) := by decide +kernel
theorem dX11_best_112 : decode cX11_best 112 = .ok (.getfield 151, 3) := by decide +kernel
theorem dX11_best_115 : decode cX11_best 115 = .ok (.bipush 21, 2) := by decide +kernel
theorem dX11_best_117 : decode cX11_best 117 = .ok (.idiv, 1) := by decide +kernel
theorem dX11_best_118 : decode cX11_best 118 = .ok (.bipush 10, 2) := by decide +kernel
theorem dX11_best_120 : decode cX11_best 120 = .ok (.irem, 1) := by decide +kernel
theorem dX11_best_121 : decode cX11_best 121 = .ok (.goto 10, 3) := by decide +kernel
theorem dX11_best_124 : decode cX11_best 124 = .ok (.aload_n 0, 1) := by decide +kernel
theorem dX11_best_125 : decode cX11_best 125 = .ok (.getfield 151, 3) := by decide +kernel
theorem dX11_best_128 : decode cX11_best 128 = .ok (.bipush 21, 2) := by decide +kernel
theorem dX11_best_130 : decode cX11_best 130 = .ok (.irem, 1) := by decide +kernel
theorem dX11_best_131 : decode cX11_best 131 = .ok (.ireturn, 1) := by decide +kernel
theorem dX11_line_0 : decode cX11_line 0 = .ok (.aload_n 0, 1) := by decide +kernel
theorem dX11_line_1 : decode cX11_line 1 = .ok (.iload_n 1, 1) := by decide +kernel
theorem dX11_line_2 : decode cX11_line 2 = .ok (.iload_n 2, 1) := by decide +kernel
theorem dX11_line_3 : decode cX11_line 3 = .ok (.iload_n 3, 1) := by decide +kernel
theorem dX11_line_4 : decode cX11_line 4 = .ok (.invokevirtual 132, 3) := by decide +kernel
theorem dX11_line_7 : decode cX11_line 7 = .ok (.ifCond .ne 8, 3) := by decide +kernel
theorem dX11_line_10 : decode cX11_line 10 = .ok (.aload_n 0, 1) := by decide +kernel
theorem dX11_line_11 : decode cX11_line 11 = .ok (.invokevirtual 55, 3) := by decide +kernel
theorem dX11_line_14 : decode cX11_line 14 = .ok (.ireturn, 1) := by decide +kernel
theorem dX11_line_15 : decode cX11_line 15 = .ok (.iconst 0, 1) := by decide +kernel
theorem dX11_line_16 : decode cX11_line 16 = .ok (.istore 4, 2) := by decide +kernel
theorem dX11_line_18 : decode cX11_line 18 = .ok (.iconst 0, 1) := by decide +kernel
theorem dX11_line_19 : decode cX11_line 19 = .ok (.istore 5, 2) := by decide +kernel
theorem dX11_line_21 : decode cX11_line 21 = .ok (.iconst 0, 1) := by decide +kernel
theorem dX11_line_22 : decode cX11_line 22 = .ok (.istore 6, 2) := by decide +kernel
theorem dX11_line_24 : decode cX11_line 24 = .ok (.iload 6, 2) := by decide +kernel
theorem dX11_line_26 : decode cX11_line 26 = .ok (.bipush 21, 2) := by decide +kernel
theorem dX11_line_28 : decode cX11_line 28 = .ok (.if_icmp .ge 71, 3) := by decide +kernel
theorem dX11_line_31 : decode cX11_line 31 = .ok (.aload_n 0, 1) := by decide +kernel
theorem dX11_line_32 : decode cX11_line 32 = .ok (.iload_n 1, 1) := by decide +kernel
theorem dX11_line_33 : decode cX11_line 33 = .ok (.iload_n 2, 1) := by decide +kernel
theorem dX11_line_34 : decode cX11_line 34 = .ok (.iload_n 3, 1) := by decide +kernel
theorem dX11_line_35 : decode cX11_line 35 = .ok (.iload 6, 2) := by decide +kernel
theorem dX11_line_37 : decode cX11_line 37 = .ok (.invokevirtual 145, 3) := by decide +kernel
theorem dX11_line_40 : decode cX11_line 40 = .ok (.istore 7, 2) := by decide +kernel
theorem dX11_line_42 : decode cX11_line 42 = .ok (.iload 7, 2) := by decide +kernel
theorem dX11_line_44 : decode cX11_line 44 = .ok (.iload 4, 2) := by decide +kernel
theorem dX11_line_46 : decode cX11_line 46 = .ok (.if_icmp .le 7, 3) := by decide +kernel
theorem dX11_line_49 : decode cX11_line 49 = .ok (.iconst 0, 1) := by decide +kernel
theorem dX11_line_50 : decode cX11_line 50 = .ok (.goto 5, 3) := by decide +kernel
theorem dX11_line_53 : decode cX11_line 53 = .ok (.iload 5, 2) := by decide +kernel
theorem dX11_line_55 : decode cX11_line 55 = .ok (.istore 5, 2) := by decide +kernel
theorem dX11_line_57 : decode cX11_line 57 = .ok (.iload 5, 2) := by decide +kernel
theorem dX11_line_59 : decode cX11_line 59 = .ok (.iload 7, 2) := by decide +kernel
theorem dX11_line_61 : decode cX11_line 61 = .ok (.iload 4, 2) := by decide +kernel
theorem dX11_line_63 : decode cX11_line 63 = .ok (.if_icmp .lt 10, 3) := by decide +kernel
theorem dX11_line_66 : decode cX11_line 66 = .ok (.iconst 1, 1) := by decide +kernel
theorem dX11_line_67 : decode cX11_line 67 = .ok (.iload 6, 2) := by decide +kernel
theorem dX11_line_69 : decode cX11_line 69 = .ok (.ishl, 1) := by decide +kernel
theorem dX11_line_70 : decode cX11_line 70 = .ok (.goto 4, 3) := by decide +kernel
theorem dX11_line_73 : decode cX11_line 73 = .ok (.iconst 0, 1) := by decide +kernel
theorem dX11_line_74 : decode cX11_line 74 = .ok (.ior, 1) := by decide +kernel
theorem dX11_line_75 : decode cX11_line 75 = .ok (.istore 5, 2) := by decide +kernel
theorem dX11_line_77 : decode cX11_line 77 = .ok (.iload 7, 2) := by decide +kernel
theorem dX11_line_79 : decode cX11_line 79 = .ok (.iload 4, 2) := by decide +kernel
theorem dX11_line_81 : decode cX11_line 81 = .ok (.if_icmp .le 8, 3) := by decide +kernel
theorem dX11_line_84 : decode cX11_line 84 = .ok (.iload 7, 2) := by decide +kernel
theorem dX11_line_86 : decode cX11_line 86 = .ok (.goto 5, 3) := by decide +kernel
theorem dX11_line_89 : decode cX11_line 89 = .ok (.iload 4, 2) := by decide +kernel
theorem dX11_line_91 : decode cX11_line 91 = .ok (.istore 4, 2) := by decide +kernel
theorem dX11_line_93 : decode cX11_line 93 = .ok (.iinc 6 1, 3) := by decide +kernel
theorem dX11_line_96 : decode cX11_line 96 = .ok (.goto (-72), 3) := by decide +kernel
theorem dX11_line_99 : decode cX11_line 99 = .ok (.iload 5, 2) := by decide +kernel
theorem dX11_line_101 : decode cX11_line 101 = .ok (.ireturn, 1) := by decide +kernel
theorem dX11_power_0 : decode cX11_power 0 = .ok (.lconst 1, 1) := by decide +kernel
theorem dX11_power_1 : decode cX11_power 1 = .ok (.lstore_n 3, 1) := by decide +kernel
theorem dX11_power_2 : decode cX11_power 2 = .ok (.iconst 0, 1) := by decide +kernel
theorem dX11_power_3 : decode cX11_power 3 = .ok (.istore 5, 2) := by decide +kernel
theorem dX11_power_5 : decode cX11_power 5 = .ok (.iload 5, 2) := by decide +kernel
theorem dX11_power_7 : decode cX11_power 7 = .ok (.iload_n 2, 1) := by decide +kernel
theorem dX11_power_8 : decode cX11_power 8 = .ok (.if_icmp .ge 13, 3) := by decide +kernel
theorem dX11_power_11 : decode cX11_power 11 = .ok (.lload_n 3, 1) := by decide +kernel
theorem dX11_power_12 : decode cX11_power 12 = .ok (.lload_n 0, 1) := by decide +kernel
theorem dX11_power_13 : decode cX11_power 13 = .ok (.lmul, 1) := by decide +kernel
theorem dX11_power_14 : decode cX11_power 14 = .ok (.lstore_n 3, 1) := by decide +kernel
theorem dX11_power_15 : decode cX11_power 15 = .ok (.iinc 5 1, 3) := by decide +kernel
theorem dX11_power_18 : decode cX11_power 18 = .ok (.goto (-13), 3) := by decide +kernel
theorem dX11_power_21 : decode cX11_power 21 = .ok (.lload_n 3, 1) := by decide +kernel
theorem dX11_power_22 : decode cX11_power 22 = .ok (.lreturn, 1) := by decide +kernel
theorem dX11_meanBehind_0 : decode cX11_meanBehind 0 = .ok (.iload_n 0, 1) := by decide +kernel
theorem dX11_meanBehind_1 : decode cX11_meanBehind 1 = .ok (.i2l, 1) := by decide +kernel
theorem dX11_meanBehind_2 : decode cX11_meanBehind 2 = .ok (.iload_n 1, 1) := by decide +kernel
theorem dX11_meanBehind_3 : decode cX11_meanBehind 3 = .ok (.invokestatic 162, 3) := by decide +kernel
theorem dX11_meanBehind_6 : decode cX11_meanBehind 6 = .ok (.iload_n 1, 1) := by decide +kernel
theorem dX11_meanBehind_7 : decode cX11_meanBehind 7 = .ok (.i2l, 1) := by decide +kernel
theorem dX11_meanBehind_8 : decode cX11_meanBehind 8 = .ok (.lmul, 1) := by decide +kernel
theorem dX11_meanBehind_9 : decode cX11_meanBehind 9 = .ok (.lstore_n 3, 1) := by decide +kernel
theorem dX11_meanBehind_10 : decode cX11_meanBehind 10 = .ok (.iload_n 2, 1) := by decide +kernel
theorem dX11_meanBehind_11 : decode cX11_meanBehind 11 = .ok (.iconst 1, 1) := by decide +kernel
theorem dX11_meanBehind_12 : decode cX11_meanBehind 12 = .ok (.iadd, 1) := by decide +kernel
theorem dX11_meanBehind_13 : decode cX11_meanBehind 13 = .ok (.istore 5, 2) := by decide +kernel
theorem dX11_meanBehind_15 : decode cX11_meanBehind 15 = .ok (.iload 5, 2) := by decide +kernel
theorem dX11_meanBehind_17 : decode cX11_meanBehind 17 = .ok (.iload_n 1, 1) := by decide +kernel
theorem dX11_meanBehind_18 : decode cX11_meanBehind 18 = .ok (.if_icmp .ge 44, 3) := by decide +kernel
theorem dX11_meanBehind_21 : decode cX11_meanBehind 21 = .ok (.lload_n 3, 1) := by decide +kernel
theorem dX11_meanBehind_22 : decode cX11_meanBehind 22 = .ok (.iload_n 0, 1) := by decide +kernel
theorem dX11_meanBehind_23 : decode cX11_meanBehind 23 = .ok (.i2l, 1) := by decide +kernel
theorem dX11_meanBehind_24 : decode cX11_meanBehind 24 = .ok (.iload 5, 2) := by decide +kernel
theorem dX11_meanBehind_26 : decode cX11_meanBehind 26 = .ok (.invokestatic 162, 3) := by decide +kernel
theorem dX11_meanBehind_29 : decode cX11_meanBehind 29 = .ok (.bipush 16, 2) := by decide +kernel
theorem dX11_meanBehind_31 : decode cX11_meanBehind 31 = .ok (.iload_n 0, 1) := by decide +kernel
theorem dX11_meanBehind_32 : decode cX11_meanBehind 32 = .ok (.isub, 1) := by decide +kernel
theorem dX11_meanBehind_33 : decode cX11_meanBehind 33 = .ok (.i2l, 1) := by decide +kernel
theorem dX11_meanBehind_34 : decode cX11_meanBehind 34 = .ok (.lmul, 1) := by decide +kernel
theorem dX11_meanBehind_35 : decode cX11_meanBehind 35 = .ok (.ldc2_w 166, 3) := by decide +kernel
theorem dX11_meanBehind_38 : decode cX11_meanBehind 38 = .ok (.iload_n 1, 1) := by decide +kernel
theorem dX11_meanBehind_39 : decode cX11_meanBehind 39 = .ok (.iload 5, 2) := by decide +kernel
theorem dX11_meanBehind_41 : decode cX11_meanBehind 41 = .ok (.isub, 1) := by decide +kernel
theorem dX11_meanBehind_42 : decode cX11_meanBehind 42 = .ok (.iconst 1, 1) := by decide +kernel
theorem dX11_meanBehind_43 : decode cX11_meanBehind 43 = .ok (.isub, 1) := by decide +kernel
theorem dX11_meanBehind_44 : decode cX11_meanBehind 44 = .ok (.invokestatic 162, 3) := by decide +kernel
theorem dX11_meanBehind_47 : decode cX11_meanBehind 47 = .ok (.lmul, 1) := by decide +kernel
theorem dX11_meanBehind_48 : decode cX11_meanBehind 48 = .ok (.iload 5, 2) := by decide +kernel
theorem dX11_meanBehind_50 : decode cX11_meanBehind 50 = .ok (.iload_n 2, 1) := by decide +kernel
theorem dX11_meanBehind_51 : decode cX11_meanBehind 51 = .ok (.isub, 1) := by decide +kernel
theorem dX11_meanBehind_52 : decode cX11_meanBehind 52 = .ok (.i2l, 1) := by decide +kernel
theorem dX11_meanBehind_53 : decode cX11_meanBehind 53 = .ok (.lmul, 1) := by decide +kernel
theorem dX11_meanBehind_54 : decode cX11_meanBehind 54 = .ok (.ladd, 1) := by decide +kernel
theorem dX11_meanBehind_55 : decode cX11_meanBehind 55 = .ok (.lstore_n 3, 1) := by decide +kernel
theorem dX11_meanBehind_56 : decode cX11_meanBehind 56 = .ok (.iinc 5 1, 3) := by decide +kernel
theorem dX11_meanBehind_59 : decode cX11_meanBehind 59 = .ok (.goto (-44), 3) := by decide +kernel
theorem dX11_meanBehind_62 : decode cX11_meanBehind 62 = .ok (.lload_n 3, 1) := by decide +kernel
theorem dX11_meanBehind_63 : decode cX11_meanBehind 63 = .ok (.lreturn, 1) := by decide +kernel
theorem dX11_middle_0 : decode cX11_middle 0 = .ok (.iload_n 1, 1) := by decide +kernel
theorem dX11_middle_1 : decode cX11_middle 1 = .ok (.i2l, 1) := by decide +kernel
theorem dX11_middle_2 : decode cX11_middle 2 = .ok (.lconst 0, 1) := by decide +kernel
theorem dX11_middle_3 : decode cX11_middle 3 = .ok (.ldc2_w 166, 3) := by decide +kernel
theorem dX11_middle_6 : decode cX11_middle 6 = .ok (.invokestatic 40, 3) := by decide +kernel
theorem dX11_middle_9 : decode cX11_middle 9 = .ok (.ifCond .eq 27, 3) := by decide +kernel
theorem dX11_middle_12 : decode cX11_middle 12 = .ok (.iload_n 2, 1) := by decide +kernel
theorem dX11_middle_13 : decode cX11_middle 13 = .ok (.i2l, 1) := by decide +kernel
theorem dX11_middle_14 : decode cX11_middle 14 = .ok (.lconst 0, 1) := by decide +kernel
theorem dX11_middle_15 : decode cX11_middle 15 = .ok (.ldc2_w 168, 3) := by decide +kernel
theorem dX11_middle_18 : decode cX11_middle 18 = .ok (.invokestatic 40, 3) := by decide +kernel
theorem dX11_middle_21 : decode cX11_middle 21 = .ok (.ifCond .eq 15, 3) := by decide +kernel
theorem dX11_middle_24 : decode cX11_middle 24 = .ok (.iload_n 3, 1) := by decide +kernel
theorem dX11_middle_25 : decode cX11_middle 25 = .ok (.i2l, 1) := by decide +kernel
theorem dX11_middle_26 : decode cX11_middle 26 = .ok (.lconst 0, 1) := by decide +kernel
theorem dX11_middle_27 : decode cX11_middle 27 = .ok (.ldc2_w 168, 3) := by decide +kernel
theorem dX11_middle_30 : decode cX11_middle 30 = .ok (.invokestatic 40, 3) := by decide +kernel
theorem dX11_middle_33 : decode cX11_middle 33 = .ok (.ifCond .ne 8, 3) := by decide +kernel
theorem dX11_middle_36 : decode cX11_middle 36 = .ok (.aload_n 0, 1) := by decide +kernel
theorem dX11_middle_37 : decode cX11_middle 37 = .ok (.invokevirtual 55, 3) := by decide +kernel
theorem dX11_middle_40 : decode cX11_middle 40 = .ok (.ireturn, 1) := by decide +kernel
theorem dX11_middle_41 : decode cX11_middle 41 = .ok (.aload_n 0, 1) := by decide +kernel
theorem dX11_middle_42 : decode cX11_middle 42 = .ok (.iload_n 1, 1) := by decide +kernel
theorem dX11_middle_43 : decode cX11_middle 43 = .ok (.iload_n 2, 1) := by decide +kernel
theorem dX11_middle_44 : decode cX11_middle 44 = .ok (.iload_n 3, 1) := by decide +kernel
theorem dX11_middle_45 : decode cX11_middle 45 = .ok (.invokestatic 170, 3) := by decide +kernel
theorem dX11_middle_48 : decode cX11_middle 48 = .ok (.ldc2_w 166, 3) := by decide +kernel
theorem dX11_middle_51 : decode cX11_middle 51 = .ok (.iload_n 2, 1) := by decide +kernel
theorem dX11_middle_52 : decode cX11_middle 52 = .ok (.invokestatic 162, 3) := by decide +kernel
theorem dX11_middle_55 : decode cX11_middle 55 = .ok (.invokevirtual 174, 3) := by decide +kernel
theorem dX11_middle_58 : decode cX11_middle 58 = .ok (.iconst 1, 1) := by decide +kernel
theorem dX11_middle_59 : decode cX11_middle 59 = .ok (.ireturn, 1) := by decide +kernel
theorem dX11_stop_0 : decode cX11_stop 0 = .ok (.iload_n 1, 1) := by decide +kernel
theorem dX11_stop_1 : decode cX11_stop 1 = .ok (.i2l, 1) := by decide +kernel
theorem dX11_stop_2 : decode cX11_stop 2 = .ok (.lconst 0, 1) := by decide +kernel
theorem dX11_stop_3 : decode cX11_stop 3 = .ok (.ldc2_w 166, 3) := by decide +kernel
theorem dX11_stop_6 : decode cX11_stop 6 = .ok (.invokestatic 40, 3) := by decide +kernel
theorem dX11_stop_9 : decode cX11_stop 9 = .ok (.ifCond .eq 15, 3) := by decide +kernel
theorem dX11_stop_12 : decode cX11_stop 12 = .ok (.iload_n 2, 1) := by decide +kernel
theorem dX11_stop_13 : decode cX11_stop 13 = .ok (.i2l, 1) := by decide +kernel
theorem dX11_stop_14 : decode cX11_stop 14 = .ok (.lconst 0, 1) := by decide +kernel
theorem dX11_stop_15 : decode cX11_stop 15 = .ok (.ldc2_w 168, 3) := by decide +kernel
theorem dX11_stop_18 : decode cX11_stop 18 = .ok (.invokestatic 40, 3) := by decide +kernel
theorem dX11_stop_21 : decode cX11_stop 21 = .ok (.ifCond .ne 8, 3) := by decide +kernel
theorem dX11_stop_24 : decode cX11_stop 24 = .ok (.aload_n 0, 1) := by decide +kernel
theorem dX11_stop_25 : decode cX11_stop 25 = .ok (.invokevirtual 55, 3) := by decide +kernel
theorem dX11_stop_28 : decode cX11_stop 28 = .ok (.ireturn, 1) := by decide +kernel
theorem dX11_stop_29 : decode cX11_stop 29 = .ok (.iconst 0, 1) := by decide +kernel
theorem dX11_stop_30 : decode cX11_stop 30 = .ok (.istore_n 3, 1) := by decide +kernel
theorem dX11_stop_31 : decode cX11_stop 31 = .ok (.iconst 1, 1) := by decide +kernel
theorem dX11_stop_32 : decode cX11_stop 32 = .ok (.istore 4, 2) := by decide +kernel
theorem dX11_stop_34 : decode cX11_stop 34 = .ok (.iload 4, 2) := by decide +kernel
theorem dX11_stop_36 : decode cX11_stop 36 = .ok (.bipush 7, 2) := by decide +kernel
theorem dX11_stop_38 : decode cX11_stop 38 = .ok (.if_icmp .ge 60, 3) := by decide +kernel
theorem dX11_stop_41 : decode cX11_stop 41 = .ok (.iload_n 1, 1) := by decide +kernel
theorem dX11_stop_42 : decode cX11_stop 42 = .ok (.iload 4, 2) := by decide +kernel
theorem dX11_stop_44 : decode cX11_stop 44 = .ok (.iload_n 2, 1) := by decide +kernel
theorem dX11_stop_45 : decode cX11_stop 45 = .ok (.invokestatic 170, 3) := by decide +kernel
theorem dX11_stop_48 : decode cX11_stop 48 = .ok (.ldc2_w 166, 3) := by decide +kernel
theorem dX11_stop_51 : decode cX11_stop 51 = .ok (.bipush 6, 2) := by decide +kernel
theorem dX11_stop_53 : decode cX11_stop 53 = .ok (.iload 4, 2) := by decide +kernel
theorem dX11_stop_55 : decode cX11_stop 55 = .ok (.isub, 1) := by decide +kernel
theorem dX11_stop_56 : decode cX11_stop 56 = .ok (.invokestatic 162, 3) := by decide +kernel
theorem dX11_stop_59 : decode cX11_stop 59 = .ok (.lmul, 1) := by decide +kernel
theorem dX11_stop_60 : decode cX11_stop 60 = .ok (.lstore 5, 2) := by decide +kernel
theorem dX11_stop_62 : decode cX11_stop 62 = .ok (.lload 5, 2) := by decide +kernel
theorem dX11_stop_64 : decode cX11_stop 64 = .ok (.iload_n 1, 1) := by decide +kernel
theorem dX11_stop_65 : decode cX11_stop 65 = .ok (.iload_n 3, 1) := by decide +kernel
theorem dX11_stop_66 : decode cX11_stop 66 = .ok (.iload_n 2, 1) := by decide +kernel
theorem dX11_stop_67 : decode cX11_stop 67 = .ok (.invokestatic 170, 3) := by decide +kernel
theorem dX11_stop_70 : decode cX11_stop 70 = .ok (.ldc2_w 166, 3) := by decide +kernel
theorem dX11_stop_73 : decode cX11_stop 73 = .ok (.bipush 6, 2) := by decide +kernel
theorem dX11_stop_75 : decode cX11_stop 75 = .ok (.iload_n 3, 1) := by decide +kernel
theorem dX11_stop_76 : decode cX11_stop 76 = .ok (.isub, 1) := by decide +kernel
theorem dX11_stop_77 : decode cX11_stop 77 = .ok (.invokestatic 162, 3) := by decide +kernel
theorem dX11_stop_80 : decode cX11_stop 80 = .ok (.lmul, 1) := by decide +kernel
theorem dX11_stop_81 : decode cX11_stop 81 = .ok (.lcmp, 1) := by decide +kernel
theorem dX11_stop_82 : decode cX11_stop 82 = .ok (.ifCond .le 8, 3) := by decide +kernel
theorem dX11_stop_85 : decode cX11_stop 85 = .ok (.iload 4, 2) := by decide +kernel
theorem dX11_stop_87 : decode cX11_stop 87 = .ok (.goto 4, 3) := by decide +kernel
theorem dX11_stop_90 : decode cX11_stop 90 = .ok (.iload_n 3, 1) := by decide +kernel
theorem dX11_stop_91 : decode cX11_stop 91 = .ok (.istore_n 3, 1) := by decide +kernel
theorem dX11_stop_92 : decode cX11_stop 92 = .ok (.iinc 4 1, 3) := by decide +kernel
theorem dX11_stop_95 : decode cX11_stop 95 = .ok (.goto (-61), 3) := by decide +kernel
theorem dX11_stop_98 : decode cX11_stop 98 = .ok (.iload_n 3, 1) := by decide +kernel
theorem dX11_stop_99 : decode cX11_stop 99 = .ok (.ireturn, 1) := by decide +kernel
theorem dX11_wins_0 : decode cX11_wins 0 = .ok (.iload_n 1, 1) := by decide +kernel
theorem dX11_wins_1 : decode cX11_wins 1 = .ok (.i2l, 1) := by decide +kernel
theorem dX11_wins_2 : decode cX11_wins 2 = .ok (.lconst 0, 1) := by decide +kernel
theorem dX11_wins_3 : decode cX11_wins 3 = .ok (.ldc2_w 178, 3) := by decide +kernel
theorem dX11_wins_6 : decode cX11_wins 6 = .ok (.invokestatic 40, 3) := by decide +kernel
theorem dX11_wins_9 : decode cX11_wins 9 = .ok (.ifCond .eq 82, 3) := by decide +kernel
theorem dX11_wins_12 : decode cX11_wins 12 = .ok (.iload_n 2, 1) := by decide +kernel
theorem dX11_wins_13 : decode cX11_wins 13 = .ok (.i2l, 1) := by decide +kernel
theorem dX11_wins_14 : decode cX11_wins 14 = .ok (.lconst 0, 1) := by decide +kernel
theorem dX11_wins_15 : decode cX11_wins 15 = .ok (.ldc2_w 178, 3) := by decide +kernel
theorem dX11_wins_18 : decode cX11_wins 18 = .ok (.invokestatic 40, 3) := by decide +kernel
theorem dX11_wins_21 : decode cX11_wins 21 = .ok (.ifCond .eq 70, 3) := by decide +kernel
theorem dX11_wins_24 : decode cX11_wins 24 = .ok (.iload_n 3, 1) := by decide +kernel
theorem dX11_wins_25 : decode cX11_wins 25 = .ok (.i2l, 1) := by decide +kernel
theorem dX11_wins_26 : decode cX11_wins 26 = .ok (.lconst 1, 1) := by decide +kernel
theorem dX11_wins_27 : decode cX11_wins 27 = .ok (.ldc2_w 178, 3) := by decide +kernel
theorem dX11_wins_30 : decode cX11_wins 30 = .ok (.invokestatic 40, 3) := by decide +kernel
theorem dX11_wins_33 : decode cX11_wins 33 = .ok (.ifCond .eq 58, 3) := by decide +kernel
theorem dX11_wins_36 : decode cX11_wins 36 = .ok (.iload 4, 2) := by decide +kernel
theorem dX11_wins_38 : decode cX11_wins 38 = .ok (.i2l, 1) := by decide +kernel
theorem dX11_wins_39 : decode cX11_wins 39 = .ok (.lconst 0, 1) := by decide +kernel
theorem dX11_wins_40 : decode cX11_wins 40 = .ok (.ldc2_w 64, 3) := by decide +kernel
theorem dX11_wins_43 : decode cX11_wins 43 = .ok (.invokestatic 40, 3) := by decide +kernel
theorem dX11_wins_46 : decode cX11_wins 46 = .ok (.ifCond .eq 45, 3) := by decide +kernel
theorem dX11_wins_49 : decode cX11_wins 49 = .ok (.iload 5, 2) := by decide +kernel
theorem dX11_wins_51 : decode cX11_wins 51 = .ok (.i2l, 1) := by decide +kernel
theorem dX11_wins_52 : decode cX11_wins 52 = .ok (.lconst 0, 1) := by decide +kernel
theorem dX11_wins_53 : decode cX11_wins 53 = .ok (.ldc2_w 166, 3) := by decide +kernel
theorem dX11_wins_56 : decode cX11_wins 56 = .ok (.invokestatic 40, 3) := by decide +kernel
theorem dX11_wins_59 : decode cX11_wins 59 = .ok (.ifCond .eq 32, 3) := by decide +kernel
theorem dX11_wins_62 : decode cX11_wins 62 = .ok (.iload 6, 2) := by decide +kernel
theorem dX11_wins_64 : decode cX11_wins 64 = .ok (.i2l, 1) := by decide +kernel
theorem dX11_wins_65 : decode cX11_wins 65 = .ok (.lconst 0, 1) := by decide +kernel
theorem dX11_wins_66 : decode cX11_wins 66 = .ok (.ldc2_w 166, 3) := by decide +kernel
theorem dX11_wins_69 : decode cX11_wins 69 = .ok (.invokestatic 40, 3) := by decide +kernel
theorem dX11_wins_72 : decode cX11_wins 72 = .ok (.ifCond .eq 19, 3) := by decide +kernel
theorem dX11_wins_75 : decode cX11_wins 75 = .ok (.iload 5, 2) := by decide +kernel
theorem dX11_wins_77 : decode cX11_wins 77 = .ok (.iload 6, 2) := by decide +kernel
theorem dX11_wins_79 : decode cX11_wins 79 = .ok (.iadd, 1) := by decide +kernel
theorem dX11_wins_80 : decode cX11_wins 80 = .ok (.i2l, 1) := by decide +kernel
theorem dX11_wins_81 : decode cX11_wins 81 = .ok (.lconst 0, 1) := by decide +kernel
theorem dX11_wins_82 : decode cX11_wins 82 = .ok (.ldc2_w 166, 3) := by decide +kernel
theorem dX11_wins_85 : decode cX11_wins 85 = .ok (.invokestatic 40, 3) := by decide +kernel
theorem dX11_wins_88 : decode cX11_wins 88 = .ok (.ifCond .ne 11, 3) := by decide +kernel
theorem dX11_wins_91 : decode cX11_wins 91 = .ok (.aload_n 0, 1) := by decide +kernel
theorem dX11_wins_92 : decode cX11_wins 92 = .ok (.bipush (-100), 2) := by decide +kernel
theorem dX11_wins_94 : decode cX11_wins 94 = .ok (.invokevirtual 156, 3) := by decide +kernel
theorem dX11_wins_97 : decode cX11_wins 97 = .ok (.i2l, 1) := by decide +kernel
theorem dX11_wins_98 : decode cX11_wins 98 = .ok (.lreturn, 1) := by decide +kernel
theorem dX11_wins_99 : decode cX11_wins 99 = .ok (.lconst 0, 1) := by decide +kernel
theorem dX11_wins_100 : decode cX11_wins 100 = .ok (.lstore 7, 2) := by decide +kernel
theorem dX11_wins_102 : decode cX11_wins 102 = .ok (.iconst 0, 1) := by decide +kernel
theorem dX11_wins_103 : decode cX11_wins 103 = .ok (.istore 9, 2) := by decide +kernel
theorem dX11_wins_105 : decode cX11_wins 105 = .ok (.iload 9, 2) := by decide +kernel
theorem dX11_wins_107 : decode cX11_wins 107 = .ok (.i2l, 1) := by decide +kernel
theorem dX11_wins_108 : decode cX11_wins 108 = .ok (.ldc2_w 62, 3) := by decide +kernel
theorem dX11_wins_111 : decode cX11_wins 111 = .ok (.iload 4, 2) := by decide +kernel
theorem dX11_wins_113 : decode cX11_wins 113 = .ok (.invokestatic 162, 3) := by decide +kernel
theorem dX11_wins_116 : decode cX11_wins 116 = .ok (.lcmp, 1) := by decide +kernel
theorem dX11_wins_117 : decode cX11_wins 117 = .ok (.ifCond .ge 201, 3) := by decide +kernel
theorem dX11_wins_120 : decode cX11_wins 120 = .ok (.lconst 1, 1) := by decide +kernel
theorem dX11_wins_121 : decode cX11_wins 121 = .ok (.lstore 10, 2) := by decide +kernel
theorem dX11_wins_123 : decode cX11_wins 123 = .ok (.iload_n 1, 1) := by decide +kernel
theorem dX11_wins_124 : decode cX11_wins 124 = .ok (.istore 12, 2) := by decide +kernel
theorem dX11_wins_126 : decode cX11_wins 126 = .ok (.iload_n 2, 1) := by decide +kernel
theorem dX11_wins_127 : decode cX11_wins 127 = .ok (.istore 13, 2) := by decide +kernel
theorem dX11_wins_129 : decode cX11_wins 129 = .ok (.iload 12, 2) := by decide +kernel
theorem dX11_wins_131 : decode cX11_wins 131 = .ok (.iload_n 3, 1) := by decide +kernel
theorem dX11_wins_132 : decode cX11_wins 132 = .ok (.if_icmp .lt 7, 3) := by decide +kernel
theorem dX11_wins_135 : decode cX11_wins 135 = .ok (.iconst 1, 1) := by decide +kernel
theorem dX11_wins_136 : decode cX11_wins 136 = .ok (.goto 14, 3) := by decide +kernel
theorem dX11_wins_139 : decode cX11_wins 139 = .ok (.iload 13, 2) := by decide +kernel
theorem dX11_wins_141 : decode cX11_wins 141 = .ok (.iload_n 3, 1) := by decide +kernel
theorem dX11_wins_142 : decode cX11_wins 142 = .ok (.if_icmp .lt 7, 3) := by decide +kernel
theorem dX11_wins_145 : decode cX11_wins 145 = .ok (.iconst 2, 1) := by decide +kernel
theorem dX11_wins_146 : decode cX11_wins 146 = .ok (.goto 4, 3) := by decide +kernel
theorem dX11_wins_149 : decode cX11_wins 149 = .ok (.iconst 0, 1) := by decide +kernel
theorem dX11_wins_150 : decode cX11_wins 150 = .ok (.istore 14, 2) := by decide +kernel
theorem dX11_wins_152 : decode cX11_wins 152 = .ok (.iload 9, 2) := by decide +kernel
theorem dX11_wins_154 : decode cX11_wins 154 = .ok (.istore 15, 2) := by decide +kernel
theorem dX11_wins_156 : decode cX11_wins 156 = .ok (.iconst 0, 1) := by decide +kernel
theorem dX11_wins_157 : decode cX11_wins 157 = .ok (.istore 16, 2) := by decide +kernel
theorem dX11_wins_159 : decode cX11_wins 159 = .ok (.iload 16, 2) := by decide +kernel
theorem dX11_wins_161 : decode cX11_wins 161 = .ok (.iload 4, 2) := by decide +kernel
theorem dX11_wins_163 : decode cX11_wins 163 = .ok (.if_icmp .ge 132, 3) := by decide +kernel
theorem dX11_wins_166 : decode cX11_wins 166 = .ok (.iload 15, 2) := by decide +kernel
theorem dX11_wins_168 : decode cX11_wins 168 = .ok (.iconst 3, 1) := by decide +kernel
theorem dX11_wins_169 : decode cX11_wins 169 = .ok (.irem, 1) := by decide +kernel
theorem dX11_wins_170 : decode cX11_wins 170 = .ok (.istore 17, 2) := by decide +kernel
theorem dX11_wins_172 : decode cX11_wins 172 = .ok (.iload 15, 2) := by decide +kernel
theorem dX11_wins_174 : decode cX11_wins 174 = .ok (.iconst 3, 1) := by decide +kernel
theorem dX11_wins_175 : decode cX11_wins 175 = .ok (.idiv, 1) := by decide +kernel
theorem dX11_wins_176 : decode cX11_wins 176 = .ok (.istore 15, 2) := by decide +kernel
theorem dX11_wins_178 : decode cX11_wins 178 = .ok (.lload 10, 2) := by decide +kernel
theorem dX11_wins_180 : decode cX11_wins 180 = .ok (.iload 17, 2) := by decide +kernel
theorem dX11_wins_182 : decode cX11_wins 182 = .ok (.ifCond .ne 15, 3) := by decide +kernel
theorem dX11_wins_185 : decode cX11_wins 185 = .ok (.bipush 16, 2) := by decide +kernel
theorem dX11_wins_187 : decode cX11_wins 187 = .ok (.iload 5, 2) := by decide +kernel
theorem dX11_wins_189 : decode cX11_wins 189 = .ok (.isub, 1) := by decide +kernel
theorem dX11_wins_190 : decode cX11_wins 190 = .ok (.iload 6, 2) := by decide +kernel
theorem dX11_wins_192 : decode cX11_wins 192 = .ok (.isub, 1) := by decide +kernel
theorem dX11_wins_193 : decode cX11_wins 193 = .ok (.i2l, 1) := by decide +kernel
theorem dX11_wins_194 : decode cX11_wins 194 = .ok (.goto 18, 3) := by decide +kernel
theorem dX11_wins_197 : decode cX11_wins 197 = .ok (.iload 17, 2) := by decide +kernel
theorem dX11_wins_199 : decode cX11_wins 199 = .ok (.iconst 1, 1) := by decide +kernel
theorem dX11_wins_200 : decode cX11_wins 200 = .ok (.if_icmp .ne 9, 3) := by decide +kernel
theorem dX11_wins_203 : decode cX11_wins 203 = .ok (.iload 6, 2) := by decide +kernel
theorem dX11_wins_205 : decode cX11_wins 205 = .ok (.i2l, 1) := by decide +kernel
theorem dX11_wins_206 : decode cX11_wins 206 = .ok (.goto 6, 3) := by decide +kernel
theorem dX11_wins_209 : decode cX11_wins 209 = .ok (.iload 5, 2) := by decide +kernel
theorem dX11_wins_211 : decode cX11_wins 211 = .ok (.i2l, 1) := by decide +kernel
theorem dX11_wins_212 : decode cX11_wins 212 = .ok (.lmul, 1) := by decide +kernel
theorem dX11_wins_213 : decode cX11_wins 213 = .ok (.lstore 10, 2) := by decide +kernel
theorem dX11_wins_215 : decode cX11_wins 215 = .ok (.iload 12, 2) := by decide +kernel
theorem dX11_wins_217 : decode cX11_wins 217 = .ok (.iload 16, 2) := by decide +kernel
theorem dX11_wins_219 : decode cX11_wins 219 = .ok (.iconst 2, 1) := by decide +kernel
theorem dX11_wins_220 : decode cX11_wins 220 = .ok (.irem, 1) := by decide +kernel
theorem dX11_wins_221 : decode cX11_wins 221 = .ok (.ifCond .ne 10, 3) := by decide +kernel
theorem dX11_wins_224 : decode cX11_wins 224 = .ok (.iconst 5, 1) := by decide +kernel
theorem dX11_wins_225 : decode cX11_wins 225 = .ok (.iload 17, 2) := by decide +kernel
theorem dX11_wins_227 : decode cX11_wins 227 = .ok (.imul, 1) := by decide +kernel
theorem dX11_wins_228 : decode cX11_wins 228 = .ok (.goto 4, 3) := by decide +kernel
theorem dX11_wins_231 : decode cX11_wins 231 = .ok (.iconst 0, 1) := by decide +kernel
theorem dX11_wins_232 : decode cX11_wins 232 = .ok (.iadd, 1) := by decide +kernel
theorem dX11_wins_233 : decode cX11_wins 233 = .ok (.istore 12, 2) := by decide +kernel
theorem dX11_wins_235 : decode cX11_wins 235 = .ok (.iload 13, 2) := by decide +kernel
theorem dX11_wins_237 : decode cX11_wins 237 = .ok (.iload 16, 2) := by decide +kernel
theorem dX11_wins_239 : decode cX11_wins 239 = .ok (.iconst 2, 1) := by decide +kernel
theorem dX11_wins_240 : decode cX11_wins 240 = .ok (.irem, 1) := by decide +kernel
theorem dX11_wins_241 : decode cX11_wins 241 = .ok (.iconst 1, 1) := by decide +kernel
theorem dX11_wins_242 : decode cX11_wins 242 = .ok (.if_icmp .ne 10, 3) := by decide +kernel
theorem dX11_wins_245 : decode cX11_wins 245 = .ok (.iconst 5, 1) := by decide +kernel
theorem dX11_wins_246 : decode cX11_wins 246 = .ok (.iload 17, 2) := by decide +kernel
theorem dX11_wins_248 : decode cX11_wins 248 = .ok (.imul, 1) := by decide +kernel
theorem dX11_wins_249 : decode cX11_wins 249 = .ok (.goto 4, 3) := by decide +kernel
theorem dX11_wins_252 : decode cX11_wins 252 = .ok (.iconst 0, 1) := by decide +kernel
theorem dX11_wins_253 : decode cX11_wins 253 = .ok (.iadd, 1) := by decide +kernel
theorem dX11_wins_254 : decode cX11_wins 254 = .ok (.istore 13, 2) := by decide +kernel
theorem dX11_wins_256 : decode cX11_wins 256 = .ok (.iload 14, 2) := by decide +kernel
theorem dX11_wins_258 : decode cX11_wins 258 = .ok (.ifCond .le 8, 3) := by decide +kernel
theorem dX11_wins_261 : decode cX11_wins 261 = .ok (.iload 14, 2) := by decide +kernel
theorem dX11_wins_263 : decode cX11_wins 263 = .ok (.goto 24, 3) := by decide +kernel
theorem dX11_wins_266 : decode cX11_wins 266 = .ok (.iload 12, 2) := by decide +kernel
theorem dX11_wins_268 : decode cX11_wins 268 = .ok (.iload_n 3, 1) := by decide +kernel
theorem dX11_wins_269 : decode cX11_wins 269 = .ok (.if_icmp .lt 7, 3) := by decide +kernel
theorem dX11_wins_272 : decode cX11_wins 272 = .ok (.iconst 1, 1) := by decide +kernel
theorem dX11_wins_273 : decode cX11_wins 273 = .ok (.goto 14, 3) := by decide +kernel
theorem dX11_wins_276 : decode cX11_wins 276 = .ok (.iload 13, 2) := by decide +kernel
theorem dX11_wins_278 : decode cX11_wins 278 = .ok (.iload_n 3, 1) := by decide +kernel
theorem dX11_wins_279 : decode cX11_wins 279 = .ok (.if_icmp .lt 7, 3) := by decide +kernel
theorem dX11_wins_282 : decode cX11_wins 282 = .ok (.iconst 2, 1) := by decide +kernel
theorem dX11_wins_283 : decode cX11_wins 283 = .ok (.goto 4, 3) := by decide +kernel
theorem dX11_wins_286 : decode cX11_wins 286 = .ok (.iconst 0, 1) := by decide +kernel
theorem dX11_wins_287 : decode cX11_wins 287 = .ok (.istore 14, 2) := by decide +kernel
theorem dX11_wins_289 : decode cX11_wins 289 = .ok (.iinc 16 1, 3) := by decide +kernel
theorem dX11_wins_292 : decode cX11_wins 292 = .ok (.goto (-133), 3) := by decide +kernel
theorem dX11_wins_295 : decode cX11_wins 295 = .ok (.lload 7, 2) := by decide +kernel
theorem dX11_wins_297 : decode cX11_wins 297 = .ok (.iload 14, 2) := by decide +kernel
theorem dX11_wins_299 : decode cX11_wins 299 = .ok (.iconst 1, 1) := by decide +kernel
theorem dX11_wins_300 : decode cX11_wins 300 = .ok (.if_icmp .ne 8, 3) := by decide +kernel
theorem dX11_wins_303 : decode cX11_wins 303 = .ok (.lload 10, 2) := by decide +kernel
theorem dX11_wins_305 : decode cX11_wins 305 = .ok (.goto 4, 3) := by decide +kernel
theorem dX11_wins_308 : decode cX11_wins 308 = .ok (.lconst 0, 1) := by decide +kernel
theorem dX11_wins_309 : decode cX11_wins 309 = .ok (.ladd, 1) := by decide +kernel
theorem dX11_wins_310 : decode cX11_wins 310 = .ok (.lstore 7, 2) := by decide +kernel
theorem dX11_wins_312 : decode cX11_wins 312 = .ok (.iinc 9 1, 3) := by decide +kernel
theorem dX11_wins_315 : decode cX11_wins 315 = .ok (.goto (-210), 3) := by decide +kernel
theorem dX11_wins_318 : decode cX11_wins 318 = .ok (.lload 7, 2) := by decide +kernel
theorem dX11_wins_320 : decode cX11_wins 320 = .ok (.lreturn, 1) := by decide +kernel
theorem dX11_twofold_0 : decode cX11_twofold 0 = .ok (.iload_n 1, 1) := by decide +kernel
theorem dX11_twofold_1 : decode cX11_twofold 1 = .ok (.i2l, 1) := by decide +kernel
theorem dX11_twofold_2 : decode cX11_twofold 2 = .ok (.lconst 0, 1) := by decide +kernel
theorem dX11_twofold_3 : decode cX11_twofold 3 = .ok (.ldc2_w 136, 3) := by decide +kernel
theorem dX11_twofold_6 : decode cX11_twofold 6 = .ok (.invokestatic 40, 3) := by decide +kernel
theorem dX11_twofold_9 : decode cX11_twofold 9 = .ok (.ifCond .eq 40, 3) := by decide +kernel
theorem dX11_twofold_12 : decode cX11_twofold 12 = .ok (.iload_n 2, 1) := by decide +kernel
theorem dX11_twofold_13 : decode cX11_twofold 13 = .ok (.i2l, 1) := by decide +kernel
theorem dX11_twofold_14 : decode cX11_twofold 14 = .ok (.lconst 0, 1) := by decide +kernel
theorem dX11_twofold_15 : decode cX11_twofold 15 = .ok (.ldc2_w 64, 3) := by decide +kernel
theorem dX11_twofold_18 : decode cX11_twofold 18 = .ok (.invokestatic 40, 3) := by decide +kernel
theorem dX11_twofold_21 : decode cX11_twofold 21 = .ok (.ifCond .eq 28, 3) := by decide +kernel
theorem dX11_twofold_24 : decode cX11_twofold 24 = .ok (.iload_n 3, 1) := by decide +kernel
theorem dX11_twofold_25 : decode cX11_twofold 25 = .ok (.i2l, 1) := by decide +kernel
theorem dX11_twofold_26 : decode cX11_twofold 26 = .ok (.lconst 0, 1) := by decide +kernel
theorem dX11_twofold_27 : decode cX11_twofold 27 = .ok (.ldc2_w 166, 3) := by decide +kernel
theorem dX11_twofold_30 : decode cX11_twofold 30 = .ok (.invokestatic 40, 3) := by decide +kernel
theorem dX11_twofold_33 : decode cX11_twofold 33 = .ok (.ifCond .eq 16, 3) := by decide +kernel
theorem dX11_twofold_36 : decode cX11_twofold 36 = .ok (.iload 4, 2) := by decide +kernel
theorem dX11_twofold_38 : decode cX11_twofold 38 = .ok (.i2l, 1) := by decide +kernel
theorem dX11_twofold_39 : decode cX11_twofold 39 = .ok (.lconst 0, 1) := by decide +kernel
theorem dX11_twofold_40 : decode cX11_twofold 40 = .ok (.ldc2_w 166, 3) := by decide +kernel
theorem dX11_twofold_43 : decode cX11_twofold 43 = .ok (.invokestatic 40, 3) := by decide +kernel
theorem dX11_twofold_46 : decode cX11_twofold 46 = .ok (.ifCond .ne 8, 3) := by decide +kernel
theorem dX11_twofold_49 : decode cX11_twofold 49 = .ok (.aload_n 0, 1) := by decide +kernel
theorem dX11_twofold_50 : decode cX11_twofold 50 = .ok (.invokevirtual 55, 3) := by decide +kernel
theorem dX11_twofold_53 : decode cX11_twofold 53 = .ok (.ireturn, 1) := by decide +kernel
theorem dX11_twofold_54 : decode cX11_twofold 54 = .ok (.iconst 0, 1) := by decide +kernel
theorem dX11_twofold_55 : decode cX11_twofold 55 = .ok (.istore 5, 2) := by decide +kernel
theorem dX11_twofold_57 : decode cX11_twofold 57 = .ok (.iconst 0, 1) := by decide +kernel
theorem dX11_twofold_58 : decode cX11_twofold 58 = .ok (.istore 6, 2) := by decide +kernel
theorem dX11_twofold_60 : decode cX11_twofold 60 = .ok (.iload 6, 2) := by decide +kernel
theorem dX11_twofold_62 : decode cX11_twofold 62 = .ok (.iload_n 2, 1) := by decide +kernel
theorem dX11_twofold_63 : decode cX11_twofold 63 = .ok (.if_icmp .gt 199, 3) := by decide +kernel
theorem dX11_twofold_66 : decode cX11_twofold 66 = .ok (.iconst 0, 1) := by decide +kernel
theorem dX11_twofold_67 : decode cX11_twofold 67 = .ok (.istore 7, 2) := by decide +kernel
theorem dX11_twofold_69 : decode cX11_twofold 69 = .ok (.iload 7, 2) := by decide +kernel
theorem dX11_twofold_71 : decode cX11_twofold 71 = .ok (.bipush 21, 2) := by decide +kernel
theorem dX11_twofold_73 : decode cX11_twofold 73 = .ok (.if_icmp .ge 183, 3) := by decide +kernel
theorem dX11_twofold_76 : decode cX11_twofold 76 = .ok (.bipush 21, 2) := by decide +kernel
theorem dX11_twofold_78 : decode cX11_twofold 78 = .ok (.iload 6, 2) := by decide +kernel
theorem dX11_twofold_80 : decode cX11_twofold 80 = .ok (.imul, 1) := by decide +kernel
theorem dX11_twofold_81 : decode cX11_twofold 81 = .ok (.iload 7, 2) := by decide +kernel
theorem dX11_twofold_83 : decode cX11_twofold 83 = .ok (.iadd, 1) := by decide +kernel
theorem dX11_twofold_84 : decode cX11_twofold 84 = .ok (.istore 8, 2) := by decide +kernel
theorem dX11_twofold_86 : decode cX11_twofold 86 = .ok (.iload 7, 2) := by decide +kernel
theorem dX11_twofold_88 : decode cX11_twofold 88 = .ok (.ifCond .eq 8, 3) := by decide +kernel
theorem dX11_twofold_91 : decode cX11_twofold 91 = .ok (.iload 6, 2) := by decide +kernel
theorem dX11_twofold_93 : decode cX11_twofold 93 = .ok (.ifCond .ne 33, 3) := by decide +kernel
theorem dX11_twofold_96 : decode cX11_twofold 96 = .ok (.aload_n 0, 1) := by decide +kernel
theorem dX11_twofold_97 : decode cX11_twofold 97 = .ok (.getfield 33, 3) := by decide +kernel
theorem dX11_twofold_100 : decode cX11_twofold 100 = .ok (.iload 8, 2) := by decide +kernel
theorem dX11_twofold_102 : decode cX11_twofold 102 = .ok (.iload 7, 2) := by decide +kernel
theorem dX11_twofold_104 : decode cX11_twofold 104 = .ok (.ifCond .ne 14, 3) := by decide +kernel
theorem dX11_twofold_107 : decode cX11_twofold 107 = .ok (.ldc2_w 166, 3) := by decide +kernel
theorem dX11_twofold_110 : decode cX11_twofold 110 = .ok (.iload 6, 2) := by decide +kernel
theorem dX11_twofold_112 : decode cX11_twofold 112 = .ok (.invokestatic 162, 3) := by decide +kernel
theorem dX11_twofold_115 : decode cX11_twofold 115 = .ok (.goto 4, 3) := by decide +kernel
theorem dX11_twofold_118 : decode cX11_twofold 118 = .ok (.lconst 0, 1) := by decide +kernel
theorem dX11_twofold_119 : decode cX11_twofold 119 = .ok (.lastore, 1) := by decide +kernel
theorem dX11_twofold_120 : decode cX11_twofold 120 = .ok (.iconst 0, 1) := by decide +kernel
theorem dX11_twofold_121 : decode cX11_twofold 121 = .ok (.istore 5, 2) := by decide +kernel
theorem dX11_twofold_123 : decode cX11_twofold 123 = .ok (.goto 127, 3) := by decide +kernel
theorem dX11_twofold_126 : decode cX11_twofold 126 = .ok (.aload_n 0, 1) := by decide +kernel
theorem dX11_twofold_127 : decode cX11_twofold 127 = .ok (.getfield 33, 3) := by decide +kernel
theorem dX11_twofold_130 : decode cX11_twofold 130 = .ok (.iload 8, 2) := by decide +kernel
theorem dX11_twofold_132 : decode cX11_twofold 132 = .ok (.bipush 21, 2) := by decide +kernel
theorem dX11_twofold_134 : decode cX11_twofold 134 = .ok (.isub, 1) := by decide +kernel
theorem dX11_twofold_135 : decode cX11_twofold 135 = .ok (.laload, 1) := by decide +kernel
theorem dX11_twofold_136 : decode cX11_twofold 136 = .ok (.lstore 9, 2) := by decide +kernel
theorem dX11_twofold_138 : decode cX11_twofold 138 = .ok (.iload_n 3, 1) := by decide +kernel
theorem dX11_twofold_139 : decode cX11_twofold 139 = .ok (.i2l, 1) := by decide +kernel
theorem dX11_twofold_140 : decode cX11_twofold 140 = .ok (.aload_n 0, 1) := by decide +kernel
theorem dX11_twofold_141 : decode cX11_twofold 141 = .ok (.getfield 33, 3) := by decide +kernel
theorem dX11_twofold_144 : decode cX11_twofold 144 = .ok (.iload 8, 2) := by decide +kernel
theorem dX11_twofold_146 : decode cX11_twofold 146 = .ok (.bipush 22, 2) := by decide +kernel
theorem dX11_twofold_148 : decode cX11_twofold 148 = .ok (.isub, 1) := by decide +kernel
theorem dX11_twofold_149 : decode cX11_twofold 149 = .ok (.laload, 1) := by decide +kernel
theorem dX11_twofold_150 : decode cX11_twofold 150 = .ok (.lmul, 1) := by decide +kernel
theorem dX11_twofold_151 : decode cX11_twofold 151 = .ok (.bipush 16, 2) := by decide +kernel
theorem dX11_twofold_153 : decode cX11_twofold 153 = .ok (.iload_n 3, 1) := by decide +kernel
theorem dX11_twofold_154 : decode cX11_twofold 154 = .ok (.isub, 1) := by decide +kernel
theorem dX11_twofold_155 : decode cX11_twofold 155 = .ok (.i2l, 1) := by decide +kernel
theorem dX11_twofold_156 : decode cX11_twofold 156 = .ok (.lload 9, 2) := by decide +kernel
theorem dX11_twofold_158 : decode cX11_twofold 158 = .ok (.lmul, 1) := by decide +kernel
theorem dX11_twofold_159 : decode cX11_twofold 159 = .ok (.ladd, 1) := by decide +kernel
theorem dX11_twofold_160 : decode cX11_twofold 160 = .ok (.lstore 11, 2) := by decide +kernel
theorem dX11_twofold_162 : decode cX11_twofold 162 = .ok (.iload 4, 2) := by decide +kernel
theorem dX11_twofold_164 : decode cX11_twofold 164 = .ok (.i2l, 1) := by decide +kernel
theorem dX11_twofold_165 : decode cX11_twofold 165 = .ok (.aload_n 0, 1) := by decide +kernel
theorem dX11_twofold_166 : decode cX11_twofold 166 = .ok (.getfield 33, 3) := by decide +kernel
theorem dX11_twofold_169 : decode cX11_twofold 169 = .ok (.iload 7, 2) := by decide +kernel
theorem dX11_twofold_171 : decode cX11_twofold 171 = .ok (.iconst 1, 1) := by decide +kernel
theorem dX11_twofold_172 : decode cX11_twofold 172 = .ok (.if_icmp .ne 11, 3) := by decide +kernel
theorem dX11_twofold_175 : decode cX11_twofold 175 = .ok (.iload 8, 2) := by decide +kernel
theorem dX11_twofold_177 : decode cX11_twofold 177 = .ok (.bipush 22, 2) := by decide +kernel
theorem dX11_twofold_179 : decode cX11_twofold 179 = .ok (.isub, 1) := by decide +kernel
theorem dX11_twofold_180 : decode cX11_twofold 180 = .ok (.goto 8, 3) := by decide +kernel
theorem dX11_twofold_183 : decode cX11_twofold 183 = .ok (.iload 8, 2) := by decide +kernel
theorem dX11_twofold_185 : decode cX11_twofold 185 = .ok (.bipush 23, 2) := by decide +kernel
theorem dX11_twofold_187 : decode cX11_twofold 187 = .ok (.isub, 1) := by decide +kernel
theorem dX11_twofold_188 : decode cX11_twofold 188 = .ok (.laload, 1) := by decide +kernel
theorem dX11_twofold_189 : decode cX11_twofold 189 = .ok (.lmul, 1) := by decide +kernel
theorem dX11_twofold_190 : decode cX11_twofold 190 = .ok (.bipush 16, 2) := by decide +kernel
theorem dX11_twofold_192 : decode cX11_twofold 192 = .ok (.iload 4, 2) := by decide +kernel
theorem dX11_twofold_194 : decode cX11_twofold 194 = .ok (.isub, 1) := by decide +kernel
theorem dX11_twofold_195 : decode cX11_twofold 195 = .ok (.i2l, 1) := by decide +kernel
theorem dX11_twofold_196 : decode cX11_twofold 196 = .ok (.lload 9, 2) := by decide +kernel
theorem dX11_twofold_198 : decode cX11_twofold 198 = .ok (.lmul, 1) := by decide +kernel
theorem dX11_twofold_199 : decode cX11_twofold 199 = .ok (.ladd, 1) := by decide +kernel
theorem dX11_twofold_200 : decode cX11_twofold 200 = .ok (.lstore 13, 2) := by decide +kernel
theorem dX11_twofold_202 : decode cX11_twofold 202 = .ok (.aload_n 0, 1) := by decide +kernel
theorem dX11_twofold_203 : decode cX11_twofold 203 = .ok (.getfield 33, 3) := by decide +kernel
theorem dX11_twofold_206 : decode cX11_twofold 206 = .ok (.iload 8, 2) := by decide +kernel
theorem dX11_twofold_208 : decode cX11_twofold 208 = .ok (.lload 13, 2) := by decide +kernel
theorem dX11_twofold_210 : decode cX11_twofold 210 = .ok (.lload 11, 2) := by decide +kernel
theorem dX11_twofold_212 : decode cX11_twofold 212 = .ok (.lcmp, 1) := by decide +kernel
theorem dX11_twofold_213 : decode cX11_twofold 213 = .ok (.ifCond .le 8, 3) := by decide +kernel
theorem dX11_twofold_216 : decode cX11_twofold 216 = .ok (.lload 13, 2) := by decide +kernel
theorem dX11_twofold_218 : decode cX11_twofold 218 = .ok (.goto 5, 3) := by decide +kernel
theorem dX11_twofold_221 : decode cX11_twofold 221 = .ok (.lload 11, 2) := by decide +kernel
theorem dX11_twofold_223 : decode cX11_twofold 223 = .ok (.lastore, 1) := by decide +kernel
theorem dX11_twofold_224 : decode cX11_twofold 224 = .ok (.iload 7, 2) := by decide +kernel
theorem dX11_twofold_226 : decode cX11_twofold 226 = .ok (.iload_n 1, 1) := by decide +kernel
theorem dX11_twofold_227 : decode cX11_twofold 227 = .ok (.if_icmp .ne 19, 3) := by decide +kernel
theorem dX11_twofold_230 : decode cX11_twofold 230 = .ok (.lload 13, 2) := by decide +kernel
theorem dX11_twofold_232 : decode cX11_twofold 232 = .ok (.lload 11, 2) := by decide +kernel
theorem dX11_twofold_234 : decode cX11_twofold 234 = .ok (.lcmp, 1) := by decide +kernel
theorem dX11_twofold_235 : decode cX11_twofold 235 = .ok (.ifCond .le 7, 3) := by decide +kernel
theorem dX11_twofold_238 : decode cX11_twofold 238 = .ok (.iconst 1, 1) := by decide +kernel
theorem dX11_twofold_239 : decode cX11_twofold 239 = .ok (.goto 9, 3) := by decide +kernel
theorem dX11_twofold_242 : decode cX11_twofold 242 = .ok (.iconst 0, 1) := by decide +kernel
theorem dX11_twofold_243 : decode cX11_twofold 243 = .ok (.goto 5, 3) := by decide +kernel
theorem dX11_twofold_246 : decode cX11_twofold 246 = .ok (.iload 5, 2) := by decide +kernel
theorem dX11_twofold_248 : decode cX11_twofold 248 = .ok (.istore 5, 2) := by decide +kernel
theorem dX11_twofold_250 : decode cX11_twofold 250 = .ok (.iinc 7 1, 3) := by decide +kernel
theorem dX11_twofold_253 : decode cX11_twofold 253 = .ok (.goto (-184), 3) := by decide +kernel
theorem dX11_twofold_256 : decode cX11_twofold 256 = .ok (.iinc 6 1, 3) := by decide +kernel
theorem dX11_twofold_259 : decode cX11_twofold 259 = .ok (.goto (-199), 3) := by decide +kernel
theorem dX11_twofold_262 : decode cX11_twofold 262 = .ok (.aload_n 0, 1) := by decide +kernel
theorem dX11_twofold_263 : decode cX11_twofold 263 = .ok (.aload_n 0, 1) := by decide +kernel
theorem dX11_twofold_264 : decode cX11_twofold 264 = .ok (.getfield 33, 3) := by decide +kernel
theorem dX11_twofold_267 : decode cX11_twofold 267 = .ok (.bipush 21, 2) := by decide +kernel
theorem dX11_twofold_269 : decode cX11_twofold 269 = .ok (.iload_n 2, 1) := by decide +kernel
theorem dX11_twofold_270 : decode cX11_twofold 270 = .ok (.imul, 1) := by decide +kernel
theorem dX11_twofold_271 : decode cX11_twofold 271 = .ok (.iload_n 1, 1) := by decide +kernel
theorem dX11_twofold_272 : decode cX11_twofold 272 = .ok (.iadd, 1) := by decide +kernel
theorem dX11_twofold_273 : decode cX11_twofold 273 = .ok (.laload, 1) := by decide +kernel
theorem dX11_twofold_274 : decode cX11_twofold 274 = .ok (.ldc2_w 166, 3) := by decide +kernel
theorem dX11_twofold_277 : decode cX11_twofold 277 = .ok (.iload_n 2, 1) := by decide +kernel
theorem dX11_twofold_278 : decode cX11_twofold 278 = .ok (.invokestatic 162, 3) := by decide +kernel
theorem dX11_twofold_281 : decode cX11_twofold 281 = .ok (.invokevirtual 174, 3) := by decide +kernel
theorem dX11_twofold_284 : decode cX11_twofold 284 = .ok (.iload 5, 2) := by decide +kernel
theorem dX11_twofold_286 : decode cX11_twofold 286 = .ok (.ifCond .eq 15, 3) := by decide +kernel
theorem dX11_twofold_289 : decode cX11_twofold 289 = .ok (.iload_n 1, 1) := by decide +kernel
theorem dX11_twofold_290 : decode cX11_twofold 290 = .ok (.ifCond .le 11, 3) := by decide +kernel
theorem dX11_twofold_293 : decode cX11_twofold 293 = .ok (.iload_n 2, 1) := by decide +kernel
theorem dX11_twofold_294 : decode cX11_twofold 294 = .ok (.ifCond .le 7, 3) := by decide +kernel
theorem dX11_twofold_297 : decode cX11_twofold 297 = .ok (.iconst 1, 1) := by decide +kernel
theorem dX11_twofold_298 : decode cX11_twofold 298 = .ok (.goto 4, 3) := by decide +kernel
theorem dX11_twofold_301 : decode cX11_twofold 301 = .ok (.iconst 0, 1) := by decide +kernel
theorem dX11_twofold_302 : decode cX11_twofold 302 = .ok (.ireturn, 1) := by decide +kernel
theorem dX11_cars_0 : decode cX11_cars 0 = .ok (.iload_n 1, 1) := by decide +kernel
theorem dX11_cars_1 : decode cX11_cars 1 = .ok (.i2l, 1) := by decide +kernel
theorem dX11_cars_2 : decode cX11_cars 2 = .ok (.lconst 0, 1) := by decide +kernel
theorem dX11_cars_3 : decode cX11_cars 3 = .ok (.ldc2_w 178, 3) := by decide +kernel
theorem dX11_cars_6 : decode cX11_cars 6 = .ok (.invokestatic 40, 3) := by decide +kernel
theorem dX11_cars_9 : decode cX11_cars 9 = .ok (.ifCond .eq 27, 3) := by decide +kernel
theorem dX11_cars_12 : decode cX11_cars 12 = .ok (.iload_n 2, 1) := by decide +kernel
theorem dX11_cars_13 : decode cX11_cars 13 = .ok (.i2l, 1) := by decide +kernel
theorem dX11_cars_14 : decode cX11_cars 14 = .ok (.lconst 0, 1) := by decide +kernel
theorem dX11_cars_15 : decode cX11_cars 15 = .ok (.ldc2_w 180, 3) := by decide +kernel
theorem dX11_cars_18 : decode cX11_cars 18 = .ok (.invokestatic 40, 3) := by decide +kernel
theorem dX11_cars_21 : decode cX11_cars 21 = .ok (.ifCond .eq 15, 3) := by decide +kernel
theorem dX11_cars_24 : decode cX11_cars 24 = .ok (.iload_n 3, 1) := by decide +kernel
theorem dX11_cars_25 : decode cX11_cars 25 = .ok (.i2l, 1) := by decide +kernel
theorem dX11_cars_26 : decode cX11_cars 26 = .ok (.lconst 0, 1) := by decide +kernel
theorem dX11_cars_27 : decode cX11_cars 27 = .ok (.ldc2_w 180, 3) := by decide +kernel
theorem dX11_cars_30 : decode cX11_cars 30 = .ok (.invokestatic 40, 3) := by decide +kernel
theorem dX11_cars_33 : decode cX11_cars 33 = .ok (.ifCond .ne 8, 3) := by decide +kernel
theorem dX11_cars_36 : decode cX11_cars 36 = .ok (.aload_n 0, 1) := by decide +kernel
theorem dX11_cars_37 : decode cX11_cars 37 = .ok (.invokevirtual 55, 3) := by decide +kernel
theorem dX11_cars_40 : decode cX11_cars 40 = .ok (.ireturn, 1) := by decide +kernel
theorem dX11_cars_41 : decode cX11_cars 41 = .ok (.aload_n 0, 1) := by decide +kernel
theorem dX11_cars_42 : decode cX11_cars 42 = .ok (.iload_n 1, 1) := by decide +kernel
theorem dX11_cars_43 : decode cX11_cars 43 = .ok (.iload_n 2, 1) := by decide +kernel
theorem dX11_cars_44 : decode cX11_cars 44 = .ok (.imul, 1) := by decide +kernel
theorem dX11_cars_45 : decode cX11_cars 45 = .ok (.iload_n 3, 1) := by decide +kernel
theorem dX11_cars_46 : decode cX11_cars 46 = .ok (.imul, 1) := by decide +kernel
theorem dX11_cars_47 : decode cX11_cars 47 = .ok (.i2l, 1) := by decide +kernel
theorem dX11_cars_48 : decode cX11_cars 48 = .ok (.ldc2_w 182, 3) := by decide +kernel
theorem dX11_cars_51 : decode cX11_cars 51 = .ok (.invokevirtual 174, 3) := by decide +kernel
theorem dX11_cars_54 : decode cX11_cars 54 = .ok (.iconst 1, 1) := by decide +kernel
theorem dX11_cars_55 : decode cX11_cars 55 = .ok (.ireturn, 1) := by decide +kernel
theorem dX11_judge_0 : decode cX11_judge 0 = .ok (.aload_n 0, 1) := by decide +kernel
theorem dX11_judge_1 : decode cX11_judge 1 = .ok (.iload_n 1, 1) := by decide +kernel
theorem dX11_judge_2 : decode cX11_judge 2 = .ok (.iload_n 2, 1) := by decide +kernel
theorem dX11_judge_3 : decode cX11_judge 3 = .ok (.iload_n 3, 1) := by decide +kernel
theorem dX11_judge_4 : decode cX11_judge 4 = .ok (.invokevirtual 132, 3) := by decide +kernel
theorem dX11_judge_7 : decode cX11_judge 7 = .ok (.ifCond .eq 16, 3) := by decide +kernel
theorem dX11_judge_10 : decode cX11_judge 10 = .ok (.iload 4, 2) := by decide +kernel
theorem dX11_judge_12 : decode cX11_judge 12 = .ok (.i2l, 1) := by decide +kernel
theorem dX11_judge_13 : decode cX11_judge 13 = .ok (.lconst 0, 1) := by decide +kernel
theorem dX11_judge_14 : decode cX11_judge 14 = .ok (.ldc2_w 184, 3) := by decide +kernel
theorem dX11_judge_17 : decode cX11_judge 17 = .ok (.invokestatic 40, 3) := by decide +kernel
theorem dX11_judge_20 : decode cX11_judge 20 = .ok (.ifCond .ne 8, 3) := by decide +kernel
theorem dX11_judge_23 : decode cX11_judge 23 = .ok (.aload_n 0, 1) := by decide +kernel
theorem dX11_judge_24 : decode cX11_judge 24 = .ok (.invokevirtual 55, 3) := by decide +kernel
theorem dX11_judge_27 : decode cX11_judge 27 = .ok (.ireturn, 1) := by decide +kernel
theorem dX11_judge_28 : decode cX11_judge 28 = .ok (.iconst 0, 1) := by decide +kernel
theorem dX11_judge_29 : decode cX11_judge 29 = .ok (.istore 5, 2) := by decide +kernel
theorem dX11_judge_31 : decode cX11_judge 31 = .ok (.iconst 0, 1) := by decide +kernel
theorem dX11_judge_32 : decode cX11_judge 32 = .ok (.istore 6, 2) := by decide +kernel
theorem dX11_judge_34 : decode cX11_judge 34 = .ok (.iconst 0, 1) := by decide +kernel
theorem dX11_judge_35 : decode cX11_judge 35 = .ok (.istore 7, 2) := by decide +kernel
theorem dX11_judge_37 : decode cX11_judge 37 = .ok (.iload 7, 2) := by decide +kernel
theorem dX11_judge_39 : decode cX11_judge 39 = .ok (.bipush 16, 2) := by decide +kernel
theorem dX11_judge_41 : decode cX11_judge 41 = .ok (.if_icmp .ge 95, 3) := by decide +kernel
theorem dX11_judge_44 : decode cX11_judge 44 = .ok (.iload_n 2, 1) := by decide +kernel
theorem dX11_judge_45 : decode cX11_judge 45 = .ok (.iload 7, 2) := by decide +kernel
theorem dX11_judge_47 : decode cX11_judge 47 = .ok (.iconst 4, 1) := by decide +kernel
theorem dX11_judge_48 : decode cX11_judge 48 = .ok (.idiv, 1) := by decide +kernel
theorem dX11_judge_49 : decode cX11_judge 49 = .ok (.invokestatic 142, 3) := by decide +kernel
theorem dX11_judge_52 : decode cX11_judge 52 = .ok (.iadd, 1) := by decide +kernel
theorem dX11_judge_53 : decode cX11_judge 53 = .ok (.istore 8, 2) := by decide +kernel
theorem dX11_judge_55 : decode cX11_judge 55 = .ok (.iload_n 3, 1) := by decide +kernel
theorem dX11_judge_56 : decode cX11_judge 56 = .ok (.iload 7, 2) := by decide +kernel
theorem dX11_judge_58 : decode cX11_judge 58 = .ok (.iconst 4, 1) := by decide +kernel
theorem dX11_judge_59 : decode cX11_judge 59 = .ok (.irem, 1) := by decide +kernel
theorem dX11_judge_60 : decode cX11_judge 60 = .ok (.invokestatic 142, 3) := by decide +kernel
theorem dX11_judge_63 : decode cX11_judge 63 = .ok (.iadd, 1) := by decide +kernel
theorem dX11_judge_64 : decode cX11_judge 64 = .ok (.istore 9, 2) := by decide +kernel
theorem dX11_judge_66 : decode cX11_judge 66 = .ok (.aload_n 0, 1) := by decide +kernel
theorem dX11_judge_67 : decode cX11_judge 67 = .ok (.iload_n 1, 1) := by decide +kernel
theorem dX11_judge_68 : decode cX11_judge 68 = .ok (.iload 8, 2) := by decide +kernel
theorem dX11_judge_70 : decode cX11_judge 70 = .ok (.iload 9, 2) := by decide +kernel
theorem dX11_judge_72 : decode cX11_judge 72 = .ok (.invokevirtual 129, 3) := by decide +kernel
theorem dX11_judge_75 : decode cX11_judge 75 = .ok (.iload 4, 2) := by decide +kernel
theorem dX11_judge_77 : decode cX11_judge 77 = .ok (.if_icmp .ne 7, 3) := by decide +kernel
theorem dX11_judge_80 : decode cX11_judge 80 = .ok (.iconst 1, 1) := by decide +kernel
theorem dX11_judge_81 : decode cX11_judge 81 = .ok (.goto 4, 3) := by decide +kernel
theorem dX11_judge_84 : decode cX11_judge 84 = .ok (.iconst 0, 1) := by decide +kernel
theorem dX11_judge_85 : decode cX11_judge 85 = .ok (.istore 10, 2) := by decide +kernel
theorem dX11_judge_87 : decode cX11_judge 87 = .ok (.iload 5, 2) := by decide +kernel
theorem dX11_judge_89 : decode cX11_judge 89 = .ok (.iload 10, 2) := by decide +kernel
theorem dX11_judge_91 : decode cX11_judge 91 = .ok (.ifCond .eq 7, 3) := by decide +kernel
theorem dX11_judge_94 : decode cX11_judge 94 = .ok (.iconst 1, 1) := by decide +kernel
theorem dX11_judge_95 : decode cX11_judge 95 = .ok (.goto 4, 3) := by decide +kernel
theorem dX11_judge_98 : decode cX11_judge 98 = .ok (.iconst 0, 1) := by decide +kernel
theorem dX11_judge_99 : decode cX11_judge 99 = .ok (.iadd, 1) := by decide +kernel
theorem dX11_judge_100 : decode cX11_judge 100 = .ok (.istore 5, 2) := by decide +kernel
theorem dX11_judge_102 : decode cX11_judge 102 = .ok (.iload 6, 2) := by decide +kernel
theorem dX11_judge_104 : decode cX11_judge 104 = .ok (.iload 10, 2) := by decide +kernel
theorem dX11_judge_106 : decode cX11_judge 106 = .ok (.ifCond .eq 20, 3) := by decide +kernel
theorem dX11_judge_109 : decode cX11_judge 109 = .ok (.aload_n 0, 1) := by decide +kernel
theorem dX11_judge_110 : decode cX11_judge 110 = .ok (.iload_n 1, 1) := by decide +kernel
theorem dX11_judge_111 : decode cX11_judge 111 = .ok (.iload 8, 2) := by decide +kernel
theorem dX11_judge_113 : decode cX11_judge 113 = .ok (.iload 9, 2) := by decide +kernel
theorem dX11_judge_115 : decode cX11_judge 115 = .ok (.invokevirtual 125, 3) := by decide +kernel
theorem dX11_judge_118 : decode cX11_judge 118 = .ok (.iconst 2, 1) := by decide +kernel
theorem dX11_judge_119 : decode cX11_judge 119 = .ok (.if_icmp .ne 7, 3) := by decide +kernel
theorem dX11_judge_122 : decode cX11_judge 122 = .ok (.iconst 1, 1) := by decide +kernel
theorem dX11_judge_123 : decode cX11_judge 123 = .ok (.goto 4, 3) := by decide +kernel
theorem dX11_judge_126 : decode cX11_judge 126 = .ok (.iconst 0, 1) := by decide +kernel
theorem dX11_judge_127 : decode cX11_judge 127 = .ok (.iadd, 1) := by decide +kernel
theorem dX11_judge_128 : decode cX11_judge 128 = .ok (.istore 6, 2) := by decide +kernel
theorem dX11_judge_130 : decode cX11_judge 130 = .ok (.iinc 7 1, 3) := by decide +kernel
theorem dX11_judge_133 : decode cX11_judge 133 = .ok (.goto (-96), 3) := by decide +kernel
theorem dX11_judge_136 : decode cX11_judge 136 = .ok (.iload 5, 2) := by decide +kernel
theorem dX11_judge_138 : decode cX11_judge 138 = .ok (.ifCond .ne 8, 3) := by decide +kernel
theorem dX11_judge_141 : decode cX11_judge 141 = .ok (.aload_n 0, 1) := by decide +kernel
theorem dX11_judge_142 : decode cX11_judge 142 = .ok (.invokevirtual 186, 3) := by decide +kernel
theorem dX11_judge_145 : decode cX11_judge 145 = .ok (.ireturn, 1) := by decide +kernel
theorem dX11_judge_146 : decode cX11_judge 146 = .ok (.aload_n 0, 1) := by decide +kernel
theorem dX11_judge_147 : decode cX11_judge 147 = .ok (.iload 6, 2) := by decide +kernel
theorem dX11_judge_149 : decode cX11_judge 149 = .ok (.i2l, 1) := by decide +kernel
theorem dX11_judge_150 : decode cX11_judge 150 = .ok (.iload 5, 2) := by decide +kernel
theorem dX11_judge_152 : decode cX11_judge 152 = .ok (.i2l, 1) := by decide +kernel
theorem dX11_judge_153 : decode cX11_judge 153 = .ok (.invokevirtual 174, 3) := by decide +kernel
theorem dX11_judge_156 : decode cX11_judge 156 = .ok (.iconst 1, 1) := by decide +kernel
theorem dX11_judge_157 : decode cX11_judge 157 = .ok (.ireturn, 1) := by decide +kernel
theorem dX11_choose_0 : decode cX11_choose 0 = .ok (.iload_n 1, 1) := by decide +kernel
theorem dX11_choose_1 : decode cX11_choose 1 = .ok (.ifCond .lt 8, 3) := by decide +kernel
theorem dX11_choose_4 : decode cX11_choose 4 = .ok (.iload_n 1, 1) := by decide +kernel
theorem dX11_choose_5 : decode cX11_choose 5 = .ok (.iload_n 0, 1) := by decide +kernel
theorem dX11_choose_6 : decode cX11_choose 6 = .ok (.if_icmp .le 5, 3) := by decide +kernel
theorem dX11_choose_9 : decode cX11_choose 9 = .ok (.lconst 0, 1) := by decide +kernel
theorem dX11_choose_10 : decode cX11_choose 10 = .ok (.lreturn, 1) := by decide +kernel
theorem dX11_choose_11 : decode cX11_choose 11 = .ok (.lconst 1, 1) := by decide +kernel
theorem dX11_choose_12 : decode cX11_choose 12 = .ok (.lstore_n 2, 1) := by decide +kernel
theorem dX11_choose_13 : decode cX11_choose 13 = .ok (.iconst 0, 1) := by decide +kernel
theorem dX11_choose_14 : decode cX11_choose 14 = .ok (.istore 4, 2) := by decide +kernel
theorem dX11_choose_16 : decode cX11_choose 16 = .ok (.iload 4, 2) := by decide +kernel
theorem dX11_choose_18 : decode cX11_choose 18 = .ok (.iload_n 1, 1) := by decide +kernel
theorem dX11_choose_19 : decode cX11_choose 19 = .ok (.if_icmp .ge 23, 3) := by decide +kernel
theorem dX11_choose_22 : decode cX11_choose 22 = .ok (.lload_n 2, 1) := by decide +kernel
theorem dX11_choose_23 : decode cX11_choose 23 = .ok (.iload_n 0, 1) := by decide +kernel
theorem dX11_choose_24 : decode cX11_choose 24 = .ok (.iload 4, 2) := by decide +kernel
theorem dX11_choose_26 : decode cX11_choose 26 = .ok (.isub, 1) := by decide +kernel
theorem dX11_choose_27 : decode cX11_choose 27 = .ok (.i2l, 1) := by decide +kernel
theorem dX11_choose_28 : decode cX11_choose 28 = .ok (.lmul, 1) := by decide +kernel
theorem dX11_choose_29 : decode cX11_choose 29 = .ok (.iload 4, 2) := by decide +kernel
theorem dX11_choose_31 : decode cX11_choose 31 = .ok (.iconst 1, 1) := by decide +kernel
theorem dX11_choose_32 : decode cX11_choose 32 = .ok (.iadd, 1) := by decide +kernel
theorem dX11_choose_33 : decode cX11_choose 33 = .ok (.i2l, 1) := by decide +kernel
theorem dX11_choose_34 : decode cX11_choose 34 = .ok (.ldiv, 1) := by decide +kernel
theorem dX11_choose_35 : decode cX11_choose 35 = .ok (.lstore_n 2, 1) := by decide +kernel
theorem dX11_choose_36 : decode cX11_choose 36 = .ok (.iinc 4 1, 3) := by decide +kernel
theorem dX11_choose_39 : decode cX11_choose 39 = .ok (.goto (-23), 3) := by decide +kernel
theorem dX11_choose_42 : decode cX11_choose 42 = .ok (.lload_n 2, 1) := by decide +kernel
theorem dX11_choose_43 : decode cX11_choose 43 = .ok (.lreturn, 1) := by decide +kernel
theorem dX11_lot_0 : decode cX11_lot 0 = .ok (.iload_n 1, 1) := by decide +kernel
theorem dX11_lot_1 : decode cX11_lot 1 = .ok (.i2l, 1) := by decide +kernel
theorem dX11_lot_2 : decode cX11_lot 2 = .ok (.lconst 1, 1) := by decide +kernel
theorem dX11_lot_3 : decode cX11_lot 3 = .ok (.ldc2_w 189, 3) := by decide +kernel
theorem dX11_lot_6 : decode cX11_lot 6 = .ok (.invokestatic 40, 3) := by decide +kernel
theorem dX11_lot_9 : decode cX11_lot 9 = .ok (.ifCond .eq 38, 3) := by decide +kernel
theorem dX11_lot_12 : decode cX11_lot 12 = .ok (.iload_n 3, 1) := by decide +kernel
theorem dX11_lot_13 : decode cX11_lot 13 = .ok (.i2l, 1) := by decide +kernel
theorem dX11_lot_14 : decode cX11_lot 14 = .ok (.lconst 1, 1) := by decide +kernel
theorem dX11_lot_15 : decode cX11_lot 15 = .ok (.ldc2_w 189, 3) := by decide +kernel
theorem dX11_lot_18 : decode cX11_lot 18 = .ok (.invokestatic 40, 3) := by decide +kernel
theorem dX11_lot_21 : decode cX11_lot 21 = .ok (.ifCond .eq 26, 3) := by decide +kernel
theorem dX11_lot_24 : decode cX11_lot 24 = .ok (.iload_n 2, 1) := by decide +kernel
theorem dX11_lot_25 : decode cX11_lot 25 = .ok (.i2l, 1) := by decide +kernel
theorem dX11_lot_26 : decode cX11_lot 26 = .ok (.lconst 0, 1) := by decide +kernel
theorem dX11_lot_27 : decode cX11_lot 27 = .ok (.iload_n 1, 1) := by decide +kernel
theorem dX11_lot_28 : decode cX11_lot 28 = .ok (.i2l, 1) := by decide +kernel
theorem dX11_lot_29 : decode cX11_lot 29 = .ok (.invokestatic 40, 3) := by decide +kernel
theorem dX11_lot_32 : decode cX11_lot 32 = .ok (.ifCond .eq 15, 3) := by decide +kernel
theorem dX11_lot_35 : decode cX11_lot 35 = .ok (.iload 4, 2) := by decide +kernel
theorem dX11_lot_37 : decode cX11_lot 37 = .ok (.i2l, 1) := by decide +kernel
theorem dX11_lot_38 : decode cX11_lot 38 = .ok (.lconst 0, 1) := by decide +kernel
theorem dX11_lot_39 : decode cX11_lot 39 = .ok (.iload_n 3, 1) := by decide +kernel
theorem dX11_lot_40 : decode cX11_lot 40 = .ok (.i2l, 1) := by decide +kernel
theorem dX11_lot_41 : decode cX11_lot 41 = .ok (.invokestatic 40, 3) := by decide +kernel
theorem dX11_lot_44 : decode cX11_lot 44 = .ok (.ifCond .ne 8, 3) := by decide +kernel
theorem dX11_lot_47 : decode cX11_lot 47 = .ok (.aload_n 0, 1) := by decide +kernel
theorem dX11_lot_48 : decode cX11_lot 48 = .ok (.invokevirtual 55, 3) := by decide +kernel
theorem dX11_lot_51 : decode cX11_lot 51 = .ok (.ireturn, 1) := by decide +kernel
theorem dX11_lot_52 : decode cX11_lot 52 = .ok (.lconst 0, 1) := by decide +kernel
theorem dX11_lot_53 : decode cX11_lot 53 = .ok (.lstore 5, 2) := by decide +kernel
theorem dX11_lot_55 : decode cX11_lot 55 = .ok (.iload_n 2, 1) := by decide +kernel
theorem dX11_lot_56 : decode cX11_lot 56 = .ok (.istore 7, 2) := by decide +kernel
theorem dX11_lot_58 : decode cX11_lot 58 = .ok (.iload 7, 2) := by decide +kernel
theorem dX11_lot_60 : decode cX11_lot 60 = .ok (.iload_n 1, 1) := by decide +kernel
theorem dX11_lot_61 : decode cX11_lot 61 = .ok (.if_icmp .gt 32, 3) := by decide +kernel
theorem dX11_lot_64 : decode cX11_lot 64 = .ok (.lload 5, 2) := by decide +kernel
theorem dX11_lot_66 : decode cX11_lot 66 = .ok (.iload_n 1, 1) := by decide +kernel
theorem dX11_lot_67 : decode cX11_lot 67 = .ok (.iload 7, 2) := by decide +kernel
theorem dX11_lot_69 : decode cX11_lot 69 = .ok (.invokestatic 191, 3) := by decide +kernel
theorem dX11_lot_72 : decode cX11_lot 72 = .ok (.iload_n 3, 1) := by decide +kernel
theorem dX11_lot_73 : decode cX11_lot 73 = .ok (.iload_n 2, 1) := by decide +kernel
theorem dX11_lot_74 : decode cX11_lot 74 = .ok (.iload 4, 2) := by decide +kernel
theorem dX11_lot_76 : decode cX11_lot 76 = .ok (.iadd, 1) := by decide +kernel
theorem dX11_lot_77 : decode cX11_lot 77 = .ok (.iload 7, 2) := by decide +kernel
theorem dX11_lot_79 : decode cX11_lot 79 = .ok (.isub, 1) := by decide +kernel
theorem dX11_lot_80 : decode cX11_lot 80 = .ok (.invokestatic 191, 3) := by decide +kernel
theorem dX11_lot_83 : decode cX11_lot 83 = .ok (.lmul, 1) := by decide +kernel
theorem dX11_lot_84 : decode cX11_lot 84 = .ok (.ladd, 1) := by decide +kernel
theorem dX11_lot_85 : decode cX11_lot 85 = .ok (.lstore 5, 2) := by decide +kernel
theorem dX11_lot_87 : decode cX11_lot 87 = .ok (.iinc 7 1, 3) := by decide +kernel
theorem dX11_lot_90 : decode cX11_lot 90 = .ok (.goto (-32), 3) := by decide +kernel
theorem dX11_lot_93 : decode cX11_lot 93 = .ok (.aload_n 0, 1) := by decide +kernel
theorem dX11_lot_94 : decode cX11_lot 94 = .ok (.lload 5, 2) := by decide +kernel
theorem dX11_lot_96 : decode cX11_lot 96 = .ok (.iload_n 1, 1) := by decide +kernel
theorem dX11_lot_97 : decode cX11_lot 97 = .ok (.iload_n 3, 1) := by decide +kernel
theorem dX11_lot_98 : decode cX11_lot 98 = .ok (.iadd, 1) := by decide +kernel
theorem dX11_lot_99 : decode cX11_lot 99 = .ok (.iload_n 2, 1) := by decide +kernel
theorem dX11_lot_100 : decode cX11_lot 100 = .ok (.iload 4, 2) := by decide +kernel
theorem dX11_lot_102 : decode cX11_lot 102 = .ok (.iadd, 1) := by decide +kernel
theorem dX11_lot_103 : decode cX11_lot 103 = .ok (.invokestatic 191, 3) := by decide +kernel
theorem dX11_lot_106 : decode cX11_lot 106 = .ok (.invokevirtual 174, 3) := by decide +kernel
theorem dX11_lot_109 : decode cX11_lot 109 = .ok (.iconst 1, 1) := by decide +kernel
theorem dX11_lot_110 : decode cX11_lot 110 = .ok (.ireturn, 1) := by decide +kernel
theorem dX11_laysLevel_0 : decode cX11_laysLevel 0 = .ok (.iconst 0, 1) := by decide +kernel
theorem dX11_laysLevel_1 : decode cX11_laysLevel 1 = .ok (.istore 6, 2) := by decide +kernel
theorem dX11_laysLevel_3 : decode cX11_laysLevel 3 = .ok (.iload 6, 2) := by decide +kernel
theorem dX11_laysLevel_5 : decode cX11_laysLevel 5 = .ok (.iconst 4, 1) := by decide +kernel
theorem dX11_laysLevel_6 : decode cX11_laysLevel 6 = .ok (.if_icmp .ge 131, 3) := by decide +kernel
theorem dX11_laysLevel_9 : decode cX11_laysLevel 9 = .ok (.iload 6, 2) := by decide +kernel
theorem dX11_laysLevel_11 : decode cX11_laysLevel 11 = .ok (.iconst 2, 1) := by decide +kernel
theorem dX11_laysLevel_12 : decode cX11_laysLevel 12 = .ok (.irem, 1) := by decide +kernel
theorem dX11_laysLevel_13 : decode cX11_laysLevel 13 = .ok (.iconst 1, 1) := by decide +kernel
theorem dX11_laysLevel_14 : decode cX11_laysLevel 14 = .ok (.iadd, 1) := by decide +kernel
theorem dX11_laysLevel_15 : decode cX11_laysLevel 15 = .ok (.istore 7, 2) := by decide +kernel
theorem dX11_laysLevel_17 : decode cX11_laysLevel 17 = .ok (.iload 6, 2) := by decide +kernel
theorem dX11_laysLevel_19 : decode cX11_laysLevel 19 = .ok (.iconst 2, 1) := by decide +kernel
theorem dX11_laysLevel_20 : decode cX11_laysLevel 20 = .ok (.irem, 1) := by decide +kernel
theorem dX11_laysLevel_21 : decode cX11_laysLevel 21 = .ok (.ifCond .ne 7, 3) := by decide +kernel
theorem dX11_laysLevel_24 : decode cX11_laysLevel 24 = .ok (.iload_n 2, 1) := by decide +kernel
theorem dX11_laysLevel_25 : decode cX11_laysLevel 25 = .ok (.goto 4, 3) := by decide +kernel
theorem dX11_laysLevel_28 : decode cX11_laysLevel 28 = .ok (.iload_n 3, 1) := by decide +kernel
theorem dX11_laysLevel_29 : decode cX11_laysLevel 29 = .ok (.istore 8, 2) := by decide +kernel
theorem dX11_laysLevel_31 : decode cX11_laysLevel 31 = .ok (.iload 6, 2) := by decide +kernel
theorem dX11_laysLevel_33 : decode cX11_laysLevel 33 = .ok (.iconst 2, 1) := by decide +kernel
theorem dX11_laysLevel_34 : decode cX11_laysLevel 34 = .ok (.idiv, 1) := by decide +kernel
theorem dX11_laysLevel_35 : decode cX11_laysLevel 35 = .ok (.iconst 1, 1) := by decide +kernel
theorem dX11_laysLevel_36 : decode cX11_laysLevel 36 = .ok (.iadd, 1) := by decide +kernel
theorem dX11_laysLevel_37 : decode cX11_laysLevel 37 = .ok (.istore 9, 2) := by decide +kernel
theorem dX11_laysLevel_39 : decode cX11_laysLevel 39 = .ok (.iload 6, 2) := by decide +kernel
theorem dX11_laysLevel_41 : decode cX11_laysLevel 41 = .ok (.iconst 2, 1) := by decide +kernel
theorem dX11_laysLevel_42 : decode cX11_laysLevel 42 = .ok (.idiv, 1) := by decide +kernel
theorem dX11_laysLevel_43 : decode cX11_laysLevel 43 = .ok (.ifCond .ne 8, 3) := by decide +kernel
theorem dX11_laysLevel_46 : decode cX11_laysLevel 46 = .ok (.iload 4, 2) := by decide +kernel
theorem dX11_laysLevel_48 : decode cX11_laysLevel 48 = .ok (.goto 5, 3) := by decide +kernel
theorem dX11_laysLevel_51 : decode cX11_laysLevel 51 = .ok (.iload 5, 2) := by decide +kernel
theorem dX11_laysLevel_53 : decode cX11_laysLevel 53 = .ok (.istore 10, 2) := by decide +kernel
theorem dX11_laysLevel_55 : decode cX11_laysLevel 55 = .ok (.iload 7, 2) := by decide +kernel
theorem dX11_laysLevel_57 : decode cX11_laysLevel 57 = .ok (.iload_n 1, 1) := by decide +kernel
theorem dX11_laysLevel_58 : decode cX11_laysLevel 58 = .ok (.if_icmp .lt 14, 3) := by decide +kernel
theorem dX11_laysLevel_61 : decode cX11_laysLevel 61 = .ok (.iload 8, 2) := by decide +kernel
theorem dX11_laysLevel_63 : decode cX11_laysLevel 63 = .ok (.bipush 16, 2) := by decide +kernel
theorem dX11_laysLevel_65 : decode cX11_laysLevel 65 = .ok (.iload 10, 2) := by decide +kernel
theorem dX11_laysLevel_67 : decode cX11_laysLevel 67 = .ok (.isub, 1) := by decide +kernel
theorem dX11_laysLevel_68 : decode cX11_laysLevel 68 = .ok (.imul, 1) := by decide +kernel
theorem dX11_laysLevel_69 : decode cX11_laysLevel 69 = .ok (.goto 4, 3) := by decide +kernel
theorem dX11_laysLevel_72 : decode cX11_laysLevel 72 = .ok (.iconst 0, 1) := by decide +kernel
theorem dX11_laysLevel_73 : decode cX11_laysLevel 73 = .ok (.istore 11, 2) := by decide +kernel
theorem dX11_laysLevel_75 : decode cX11_laysLevel 75 = .ok (.iload 11, 2) := by decide +kernel
theorem dX11_laysLevel_77 : decode cX11_laysLevel 77 = .ok (.iload 7, 2) := by decide +kernel
theorem dX11_laysLevel_79 : decode cX11_laysLevel 79 = .ok (.iload 9, 2) := by decide +kernel
theorem dX11_laysLevel_81 : decode cX11_laysLevel 81 = .ok (.isub, 1) := by decide +kernel
theorem dX11_laysLevel_82 : decode cX11_laysLevel 82 = .ok (.iload_n 1, 1) := by decide +kernel
theorem dX11_laysLevel_83 : decode cX11_laysLevel 83 = .ok (.if_icmp .lt 11, 3) := by decide +kernel
theorem dX11_laysLevel_86 : decode cX11_laysLevel 86 = .ok (.iload 8, 2) := by decide +kernel
theorem dX11_laysLevel_88 : decode cX11_laysLevel 88 = .ok (.iload 10, 2) := by decide +kernel
theorem dX11_laysLevel_90 : decode cX11_laysLevel 90 = .ok (.imul, 1) := by decide +kernel
theorem dX11_laysLevel_91 : decode cX11_laysLevel 91 = .ok (.goto 4, 3) := by decide +kernel
theorem dX11_laysLevel_94 : decode cX11_laysLevel 94 = .ok (.iconst 0, 1) := by decide +kernel
theorem dX11_laysLevel_95 : decode cX11_laysLevel 95 = .ok (.iadd, 1) := by decide +kernel
theorem dX11_laysLevel_96 : decode cX11_laysLevel 96 = .ok (.istore 11, 2) := by decide +kernel
theorem dX11_laysLevel_98 : decode cX11_laysLevel 98 = .ok (.iload 11, 2) := by decide +kernel
theorem dX11_laysLevel_100 : decode cX11_laysLevel 100 = .ok (.iload_n 1, 1) := by decide +kernel
theorem dX11_laysLevel_101 : decode cX11_laysLevel 101 = .ok (.ifCond .ne 17, 3) := by decide +kernel
theorem dX11_laysLevel_104 : decode cX11_laysLevel 104 = .ok (.bipush 16, 2) := by decide +kernel
theorem dX11_laysLevel_106 : decode cX11_laysLevel 106 = .ok (.iload 8, 2) := by decide +kernel
theorem dX11_laysLevel_108 : decode cX11_laysLevel 108 = .ok (.isub, 1) := by decide +kernel
theorem dX11_laysLevel_109 : decode cX11_laysLevel 109 = .ok (.bipush 16, 2) := by decide +kernel
theorem dX11_laysLevel_111 : decode cX11_laysLevel 111 = .ok (.iload 10, 2) := by decide +kernel
theorem dX11_laysLevel_113 : decode cX11_laysLevel 113 = .ok (.isub, 1) := by decide +kernel
theorem dX11_laysLevel_114 : decode cX11_laysLevel 114 = .ok (.imul, 1) := by decide +kernel
theorem dX11_laysLevel_115 : decode cX11_laysLevel 115 = .ok (.goto 4, 3) := by decide +kernel
theorem dX11_laysLevel_118 : decode cX11_laysLevel 118 = .ok (.iconst 0, 1) := by decide +kernel
theorem dX11_laysLevel_119 : decode cX11_laysLevel 119 = .ok (.iadd, 1) := by decide +kernel
theorem dX11_laysLevel_120 : decode cX11_laysLevel 120 = .ok (.istore 11, 2) := by decide +kernel
theorem dX11_laysLevel_122 : decode cX11_laysLevel 122 = .ok (.aload_n 0, 1) := by decide +kernel
theorem dX11_laysLevel_123 : decode cX11_laysLevel 123 = .ok (.getfield 37, 3) := by decide +kernel
theorem dX11_laysLevel_126 : decode cX11_laysLevel 126 = .ok (.iload 6, 2) := by decide +kernel
theorem dX11_laysLevel_128 : decode cX11_laysLevel 128 = .ok (.iload 11, 2) := by decide +kernel
theorem dX11_laysLevel_130 : decode cX11_laysLevel 130 = .ok (.iastore, 1) := by decide +kernel
theorem dX11_laysLevel_131 : decode cX11_laysLevel 131 = .ok (.iinc 6 1, 3) := by decide +kernel
theorem dX11_laysLevel_134 : decode cX11_laysLevel 134 = .ok (.goto (-131), 3) := by decide +kernel
theorem dX11_laysLevel_137 : decode cX11_laysLevel 137 = .ok (.return_, 1) := by decide +kernel
theorem dX11_both_0 : decode cX11_both 0 = .ok (.iload_n 1, 1) := by decide +kernel
theorem dX11_both_1 : decode cX11_both 1 = .ok (.i2l, 1) := by decide +kernel
theorem dX11_both_2 : decode cX11_both 2 = .ok (.lconst 0, 1) := by decide +kernel
theorem dX11_both_3 : decode cX11_both 3 = .ok (.ldc2_w 154, 3) := by decide +kernel
theorem dX11_both_6 : decode cX11_both 6 = .ok (.invokestatic 40, 3) := by decide +kernel
theorem dX11_both_9 : decode cX11_both 9 = .ok (.ifCond .eq 53, 3) := by decide +kernel
theorem dX11_both_12 : decode cX11_both 12 = .ok (.iload_n 2, 1) := by decide +kernel
theorem dX11_both_13 : decode cX11_both 13 = .ok (.i2l, 1) := by decide +kernel
theorem dX11_both_14 : decode cX11_both 14 = .ok (.lconst 0, 1) := by decide +kernel
theorem dX11_both_15 : decode cX11_both 15 = .ok (.ldc2_w 166, 3) := by decide +kernel
theorem dX11_both_18 : decode cX11_both 18 = .ok (.invokestatic 40, 3) := by decide +kernel
theorem dX11_both_21 : decode cX11_both 21 = .ok (.ifCond .eq 41, 3) := by decide +kernel
theorem dX11_both_24 : decode cX11_both 24 = .ok (.iload_n 3, 1) := by decide +kernel
theorem dX11_both_25 : decode cX11_both 25 = .ok (.i2l, 1) := by decide +kernel
theorem dX11_both_26 : decode cX11_both 26 = .ok (.lconst 0, 1) := by decide +kernel
theorem dX11_both_27 : decode cX11_both 27 = .ok (.ldc2_w 166, 3) := by decide +kernel
theorem dX11_both_30 : decode cX11_both 30 = .ok (.invokestatic 40, 3) := by decide +kernel
theorem dX11_both_33 : decode cX11_both 33 = .ok (.ifCond .eq 29, 3) := by decide +kernel
theorem dX11_both_36 : decode cX11_both 36 = .ok (.iload 4, 2) := by decide +kernel
theorem dX11_both_38 : decode cX11_both 38 = .ok (.i2l, 1) := by decide +kernel
theorem dX11_both_39 : decode cX11_both 39 = .ok (.lconst 0, 1) := by decide +kernel
theorem dX11_both_40 : decode cX11_both 40 = .ok (.ldc2_w 166, 3) := by decide +kernel
theorem dX11_both_43 : decode cX11_both 43 = .ok (.invokestatic 40, 3) := by decide +kernel
theorem dX11_both_46 : decode cX11_both 46 = .ok (.ifCond .eq 16, 3) := by decide +kernel
theorem dX11_both_49 : decode cX11_both 49 = .ok (.iload 5, 2) := by decide +kernel
theorem dX11_both_51 : decode cX11_both 51 = .ok (.i2l, 1) := by decide +kernel
theorem dX11_both_52 : decode cX11_both 52 = .ok (.lconst 0, 1) := by decide +kernel
theorem dX11_both_53 : decode cX11_both 53 = .ok (.ldc2_w 166, 3) := by decide +kernel
theorem dX11_both_56 : decode cX11_both 56 = .ok (.invokestatic 40, 3) := by decide +kernel
theorem dX11_both_59 : decode cX11_both 59 = .ok (.ifCond .ne 8, 3) := by decide +kernel
theorem dX11_both_62 : decode cX11_both 62 = .ok (.aload_n 0, 1) := by decide +kernel
theorem dX11_both_63 : decode cX11_both 63 = .ok (.invokevirtual 55, 3) := by decide +kernel
theorem dX11_both_66 : decode cX11_both 66 = .ok (.ireturn, 1) := by decide +kernel
theorem dX11_both_67 : decode cX11_both 67 = .ok (.aload_n 0, 1) := by decide +kernel
theorem dX11_both_68 : decode cX11_both 68 = .ok (.iload_n 1, 1) := by decide +kernel
theorem dX11_both_69 : decode cX11_both 69 = .ok (.iload_n 2, 1) := by decide +kernel
theorem dX11_both_70 : decode cX11_both 70 = .ok (.iload_n 3, 1) := by decide +kernel
theorem dX11_both_71 : decode cX11_both 71 = .ok (.iload 4, 2) := by decide +kernel
theorem dX11_both_73 : decode cX11_both 73 = .ok (.iload 5, 2) := by decide +kernel
theorem dX11_both_75 : decode cX11_both 75 = .ok (.invokevirtual 195, 3) := by decide +kernel
theorem dX11_both_78 : decode cX11_both 78 = .ok (.iconst 0, 1) := by decide +kernel
theorem dX11_both_79 : decode cX11_both 79 = .ok (.istore 6, 2) := by decide +kernel
theorem dX11_both_81 : decode cX11_both 81 = .ok (.iconst 0, 1) := by decide +kernel
theorem dX11_both_82 : decode cX11_both 82 = .ok (.istore 7, 2) := by decide +kernel
theorem dX11_both_84 : decode cX11_both 84 = .ok (.iconst 0, 1) := by decide +kernel
theorem dX11_both_85 : decode cX11_both 85 = .ok (.istore 8, 2) := by decide +kernel
theorem dX11_both_87 : decode cX11_both 87 = .ok (.iload 8, 2) := by decide +kernel
theorem dX11_both_89 : decode cX11_both 89 = .ok (.iconst 4, 1) := by decide +kernel
theorem dX11_both_90 : decode cX11_both 90 = .ok (.if_icmp .ge 88, 3) := by decide +kernel
theorem dX11_both_93 : decode cX11_both 93 = .ok (.aload_n 0, 1) := by decide +kernel
theorem dX11_both_94 : decode cX11_both 94 = .ok (.getfield 37, 3) := by decide +kernel
theorem dX11_both_97 : decode cX11_both 97 = .ok (.iload 8, 2) := by decide +kernel
theorem dX11_both_99 : decode cX11_both 99 = .ok (.iaload, 1) := by decide +kernel
theorem dX11_both_100 : decode cX11_both 100 = .ok (.aload_n 0, 1) := by decide +kernel
theorem dX11_both_101 : decode cX11_both 101 = .ok (.getfield 37, 3) := by decide +kernel
theorem dX11_both_104 : decode cX11_both 104 = .ok (.iload 8, 2) := by decide +kernel
theorem dX11_both_106 : decode cX11_both 106 = .ok (.iconst 1, 1) := by decide +kernel
theorem dX11_both_107 : decode cX11_both 107 = .ok (.ixor, 1) := by decide +kernel
theorem dX11_both_108 : decode cX11_both 108 = .ok (.iaload, 1) := by decide +kernel
theorem dX11_both_109 : decode cX11_both 109 = .ok (.if_icmp .lt 26, 3) := by decide +kernel
theorem dX11_both_112 : decode cX11_both 112 = .ok (.aload_n 0, 1) := by decide +kernel
theorem dX11_both_113 : decode cX11_both 113 = .ok (.getfield 37, 3) := by decide +kernel
theorem dX11_both_116 : decode cX11_both 116 = .ok (.iload 8, 2) := by decide +kernel
theorem dX11_both_118 : decode cX11_both 118 = .ok (.iaload, 1) := by decide +kernel
theorem dX11_both_119 : decode cX11_both 119 = .ok (.aload_n 0, 1) := by decide +kernel
theorem dX11_both_120 : decode cX11_both 120 = .ok (.getfield 37, 3) := by decide +kernel
theorem dX11_both_123 : decode cX11_both 123 = .ok (.iload 8, 2) := by decide +kernel
theorem dX11_both_125 : decode cX11_both 125 = .ok (.iconst 2, 1) := by decide +kernel
theorem dX11_both_126 : decode cX11_both 126 = .ok (.ixor, 1) := by decide +kernel
theorem dX11_both_127 : decode cX11_both 127 = .ok (.iaload, 1) := by decide +kernel
theorem dX11_both_128 : decode cX11_both 128 = .ok (.if_icmp .gt 7, 3) := by decide +kernel
theorem dX11_both_131 : decode cX11_both 131 = .ok (.iconst 1, 1) := by decide +kernel
theorem dX11_both_132 : decode cX11_both 132 = .ok (.goto 4, 3) := by decide +kernel
theorem dX11_both_135 : decode cX11_both 135 = .ok (.iconst 0, 1) := by decide +kernel
theorem dX11_both_136 : decode cX11_both 136 = .ok (.istore 9, 2) := by decide +kernel
theorem dX11_both_138 : decode cX11_both 138 = .ok (.iload 6, 2) := by decide +kernel
theorem dX11_both_140 : decode cX11_both 140 = .ok (.iload 9, 2) := by decide +kernel
theorem dX11_both_142 : decode cX11_both 142 = .ok (.ifCond .eq 7, 3) := by decide +kernel
theorem dX11_both_145 : decode cX11_both 145 = .ok (.iconst 1, 1) := by decide +kernel
theorem dX11_both_146 : decode cX11_both 146 = .ok (.goto 4, 3) := by decide +kernel
theorem dX11_both_149 : decode cX11_both 149 = .ok (.iconst 0, 1) := by decide +kernel
theorem dX11_both_150 : decode cX11_both 150 = .ok (.iadd, 1) := by decide +kernel
theorem dX11_both_151 : decode cX11_both 151 = .ok (.istore 6, 2) := by decide +kernel
theorem dX11_both_153 : decode cX11_both 153 = .ok (.iload 9, 2) := by decide +kernel
theorem dX11_both_155 : decode cX11_both 155 = .ok (.ifCond .eq 13, 3) := by decide +kernel
theorem dX11_both_158 : decode cX11_both 158 = .ok (.aload_n 0, 1) := by decide +kernel
theorem dX11_both_159 : decode cX11_both 159 = .ok (.getfield 37, 3) := by decide +kernel
theorem dX11_both_162 : decode cX11_both 162 = .ok (.iload 8, 2) := by decide +kernel
theorem dX11_both_164 : decode cX11_both 164 = .ok (.iaload, 1) := by decide +kernel
theorem dX11_both_165 : decode cX11_both 165 = .ok (.goto 5, 3) := by decide +kernel
theorem dX11_both_168 : decode cX11_both 168 = .ok (.iload 7, 2) := by decide +kernel
theorem dX11_both_170 : decode cX11_both 170 = .ok (.istore 7, 2) := by decide +kernel
theorem dX11_both_172 : decode cX11_both 172 = .ok (.iinc 8 1, 3) := by decide +kernel
theorem dX11_both_175 : decode cX11_both 175 = .ok (.goto (-88), 3) := by decide +kernel
theorem dX11_both_178 : decode cX11_both 178 = .ok (.iload 6, 2) := by decide +kernel
theorem dX11_both_180 : decode cX11_both 180 = .ok (.ifCond .le 16, 3) := by decide +kernel
theorem dX11_both_183 : decode cX11_both 183 = .ok (.aload_n 0, 1) := by decide +kernel
theorem dX11_both_184 : decode cX11_both 184 = .ok (.iload 7, 2) := by decide +kernel
theorem dX11_both_186 : decode cX11_both 186 = .ok (.i2l, 1) := by decide +kernel
theorem dX11_both_187 : decode cX11_both 187 = .ok (.ldc2_w 99, 3) := by decide +kernel
theorem dX11_both_190 : decode cX11_both 190 = .ok (.invokevirtual 174, 3) := by decide +kernel
theorem dX11_both_193 : decode cX11_both 193 = .ok (.iload 6, 2) := by decide +kernel
theorem dX11_both_195 : decode cX11_both 195 = .ok (.ireturn, 1) := by decide +kernel
theorem dX11_both_196 : decode cX11_both 196 = .ok (.aload_n 0, 1) := by decide +kernel
theorem dX11_both_197 : decode cX11_both 197 = .ok (.getfield 37, 3) := by decide +kernel
theorem dX11_both_200 : decode cX11_both 200 = .ok (.iconst 0, 1) := by decide +kernel
theorem dX11_both_201 : decode cX11_both 201 = .ok (.iaload, 1) := by decide +kernel
theorem dX11_both_202 : decode cX11_both 202 = .ok (.i2l, 1) := by decide +kernel
theorem dX11_both_203 : decode cX11_both 203 = .ok (.aload_n 0, 1) := by decide +kernel
theorem dX11_both_204 : decode cX11_both 204 = .ok (.getfield 37, 3) := by decide +kernel
theorem dX11_both_207 : decode cX11_both 207 = .ok (.iconst 3, 1) := by decide +kernel
theorem dX11_both_208 : decode cX11_both 208 = .ok (.iaload, 1) := by decide +kernel
theorem dX11_both_209 : decode cX11_both 209 = .ok (.i2l, 1) := by decide +kernel
theorem dX11_both_210 : decode cX11_both 210 = .ok (.lmul, 1) := by decide +kernel
theorem dX11_both_211 : decode cX11_both 211 = .ok (.aload_n 0, 1) := by decide +kernel
theorem dX11_both_212 : decode cX11_both 212 = .ok (.getfield 37, 3) := by decide +kernel
theorem dX11_both_215 : decode cX11_both 215 = .ok (.iconst 1, 1) := by decide +kernel
theorem dX11_both_216 : decode cX11_both 216 = .ok (.iaload, 1) := by decide +kernel
theorem dX11_both_217 : decode cX11_both 217 = .ok (.i2l, 1) := by decide +kernel
theorem dX11_both_218 : decode cX11_both 218 = .ok (.aload_n 0, 1) := by decide +kernel
theorem dX11_both_219 : decode cX11_both 219 = .ok (.getfield 37, 3) := by decide +kernel
theorem dX11_both_222 : decode cX11_both 222 = .ok (.iconst 2, 1) := by decide +kernel
theorem dX11_both_223 : decode cX11_both 223 = .ok (.iaload, 1) := by decide +kernel
theorem dX11_both_224 : decode cX11_both 224 = .ok (.i2l, 1) := by decide +kernel
theorem dX11_both_225 : decode cX11_both 225 = .ok (.lmul, 1) := by decide +kernel
theorem dX11_both_226 : decode cX11_both 226 = .ok (.lsub, 1) := by decide +kernel
theorem dX11_both_227 : decode cX11_both 227 = .ok (.lstore 8, 2) := by decide +kernel
theorem dX11_both_229 : decode cX11_both 229 = .ok (.aload_n 0, 1) := by decide +kernel
theorem dX11_both_230 : decode cX11_both 230 = .ok (.getfield 37, 3) := by decide +kernel
theorem dX11_both_233 : decode cX11_both 233 = .ok (.iconst 0, 1) := by decide +kernel
theorem dX11_both_234 : decode cX11_both 234 = .ok (.iaload, 1) := by decide +kernel
theorem dX11_both_235 : decode cX11_both 235 = .ok (.aload_n 0, 1) := by decide +kernel
theorem dX11_both_236 : decode cX11_both 236 = .ok (.getfield 37, 3) := by decide +kernel
theorem dX11_both_239 : decode cX11_both 239 = .ok (.iconst 3, 1) := by decide +kernel
theorem dX11_both_240 : decode cX11_both 240 = .ok (.iaload, 1) := by decide +kernel
theorem dX11_both_241 : decode cX11_both 241 = .ok (.iadd, 1) := by decide +kernel
theorem dX11_both_242 : decode cX11_both 242 = .ok (.aload_n 0, 1) := by decide +kernel
theorem dX11_both_243 : decode cX11_both 243 = .ok (.getfield 37, 3) := by decide +kernel
theorem dX11_both_246 : decode cX11_both 246 = .ok (.iconst 1, 1) := by decide +kernel
theorem dX11_both_247 : decode cX11_both 247 = .ok (.iaload, 1) := by decide +kernel
theorem dX11_both_248 : decode cX11_both 248 = .ok (.isub, 1) := by decide +kernel
theorem dX11_both_249 : decode cX11_both 249 = .ok (.aload_n 0, 1) := by decide +kernel
theorem dX11_both_250 : decode cX11_both 250 = .ok (.getfield 37, 3) := by decide +kernel
theorem dX11_both_253 : decode cX11_both 253 = .ok (.iconst 2, 1) := by decide +kernel
theorem dX11_both_254 : decode cX11_both 254 = .ok (.iaload, 1) := by decide +kernel
theorem dX11_both_255 : decode cX11_both 255 = .ok (.isub, 1) := by decide +kernel
theorem dX11_both_256 : decode cX11_both 256 = .ok (.i2l, 1) := by decide +kernel
theorem dX11_both_257 : decode cX11_both 257 = .ok (.lstore 10, 2) := by decide +kernel
theorem dX11_both_259 : decode cX11_both 259 = .ok (.aload_n 0, 1) := by decide +kernel
theorem dX11_both_260 : decode cX11_both 260 = .ok (.lload 10, 2) := by decide +kernel
theorem dX11_both_262 : decode cX11_both 262 = .ok (.lconst 0, 1) := by decide +kernel
theorem dX11_both_263 : decode cX11_both 263 = .ok (.lcmp, 1) := by decide +kernel
theorem dX11_both_264 : decode cX11_both 264 = .ok (.ifCond .ge 9, 3) := by decide +kernel
theorem dX11_both_267 : decode cX11_both 267 = .ok (.lload 8, 2) := by decide +kernel
theorem dX11_both_269 : decode cX11_both 269 = .ok (.lneg, 1) := by decide +kernel
theorem dX11_both_270 : decode cX11_both 270 = .ok (.goto 5, 3) := by decide +kernel
theorem dX11_both_273 : decode cX11_both 273 = .ok (.lload 8, 2) := by decide +kernel
theorem dX11_both_275 : decode cX11_both 275 = .ok (.lload 10, 2) := by decide +kernel
theorem dX11_both_277 : decode cX11_both 277 = .ok (.lconst 0, 1) := by decide +kernel
theorem dX11_both_278 : decode cX11_both 278 = .ok (.lcmp, 1) := by decide +kernel
theorem dX11_both_279 : decode cX11_both 279 = .ok (.ifCond .ge 12, 3) := by decide +kernel
theorem dX11_both_282 : decode cX11_both 282 = .ok (.ldc2_w 199, 3) := by decide +kernel
theorem dX11_both_285 : decode cX11_both 285 = .ok (.lload 10, 2) := by decide +kernel
theorem dX11_both_287 : decode cX11_both 287 = .ok (.lmul, 1) := by decide +kernel
theorem dX11_both_288 : decode cX11_both 288 = .ok (.goto 9, 3) := by decide +kernel
theorem dX11_both_291 : decode cX11_both 291 = .ok (.ldc2_w 99, 3) := by decide +kernel
theorem dX11_both_294 : decode cX11_both 294 = .ok (.lload 10, 2) := by decide +kernel
theorem dX11_both_296 : decode cX11_both 296 = .ok (.lmul, 1) := by decide +kernel
theorem dX11_both_297 : decode cX11_both 297 = .ok (.invokevirtual 174, 3) := by decide +kernel
theorem dX11_both_300 : decode cX11_both 300 = .ok (.iconst 0, 1) := by decide +kernel
theorem dX11_both_301 : decode cX11_both 301 = .ok (.ireturn, 1) := by decide +kernel
theorem dX11_sides_0 : decode cX11_sides 0 = .ok (.iload_n 1, 1) := by decide +kernel
theorem dX11_sides_1 : decode cX11_sides 1 = .ok (.i2l, 1) := by decide +kernel
theorem dX11_sides_2 : decode cX11_sides 2 = .ok (.lconst 1, 1) := by decide +kernel
theorem dX11_sides_3 : decode cX11_sides 3 = .ok (.aload_n 0, 1) := by decide +kernel
theorem dX11_sides_4 : decode cX11_sides 4 = .ok (.getfield 7, 3) := by decide +kernel
theorem dX11_sides_7 : decode cX11_sides 7 = .ok (.iconst 0, 1) := by decide +kernel
theorem dX11_sides_8 : decode cX11_sides 8 = .ok (.iaload, 1) := by decide +kernel
theorem dX11_sides_9 : decode cX11_sides 9 = .ok (.iconst 1, 1) := by decide +kernel
theorem dX11_sides_10 : decode cX11_sides 10 = .ok (.isub, 1) := by decide +kernel
theorem dX11_sides_11 : decode cX11_sides 11 = .ok (.i2l, 1) := by decide +kernel
theorem dX11_sides_12 : decode cX11_sides 12 = .ok (.invokestatic 40, 3) := by decide +kernel
theorem dX11_sides_15 : decode cX11_sides 15 = .ok (.ifCond .ne 11, 3) := by decide +kernel
theorem dX11_sides_18 : decode cX11_sides 18 = .ok (.aload_n 0, 1) := by decide +kernel
theorem dX11_sides_19 : decode cX11_sides 19 = .ok (.sipush (-1000), 3) := by decide +kernel
theorem dX11_sides_22 : decode cX11_sides 22 = .ok (.invokevirtual 156, 3) := by decide +kernel
theorem dX11_sides_25 : decode cX11_sides 25 = .ok (.ireturn, 1) := by decide +kernel
theorem dX11_sides_26 : decode cX11_sides 26 = .ok (.aload_n 0, 1) := by decide +kernel
theorem dX11_sides_27 : decode cX11_sides 27 = .ok (.iconst 1, 1) := by decide +kernel
theorem dX11_sides_28 : decode cX11_sides 28 = .ok (.iload_n 1, 1) := by decide +kernel
theorem dX11_sides_29 : decode cX11_sides 29 = .ok (.ishl, 1) := by decide +kernel
theorem dX11_sides_30 : decode cX11_sides 30 = .ok (.iconst 1, 1) := by decide +kernel
theorem dX11_sides_31 : decode cX11_sides 31 = .ok (.isub, 1) := by decide +kernel
theorem dX11_sides_32 : decode cX11_sides 32 = .ok (.invokevirtual 159, 3) := by decide +kernel
theorem dX11_sides_35 : decode cX11_sides 35 = .ok (.istore_n 2, 1) := by decide +kernel
theorem dX11_sides_36 : decode cX11_sides 36 = .ok (.iload_n 2, 1) := by decide +kernel
theorem dX11_sides_37 : decode cX11_sides 37 = .ok (.aload_n 0, 1) := by decide +kernel
theorem dX11_sides_38 : decode cX11_sides 38 = .ok (.sipush 255, 3) := by decide +kernel
theorem dX11_sides_41 : decode cX11_sides 41 = .ok (.iconst 1, 1) := by decide +kernel
theorem dX11_sides_42 : decode cX11_sides 42 = .ok (.iload_n 1, 1) := by decide +kernel
theorem dX11_sides_43 : decode cX11_sides 43 = .ok (.ishl, 1) := by decide +kernel
theorem dX11_sides_44 : decode cX11_sides 44 = .ok (.iconst 1, 1) := by decide +kernel
theorem dX11_sides_45 : decode cX11_sides 45 = .ok (.isub, 1) := by decide +kernel
theorem dX11_sides_46 : decode cX11_sides 46 = .ok (.iconst (-1), 1) := by decide +kernel
theorem dX11_sides_47 : decode cX11_sides 47 = .ok (.ixor, 1) := by decide +kernel
theorem dX11_sides_48 : decode cX11_sides 48 = .ok (.iand, 1) := by decide +kernel
theorem dX11_sides_49 : decode cX11_sides 49 = .ok (.invokevirtual 159, 3) := by decide +kernel
theorem dX11_sides_52 : decode cX11_sides 52 = .ok (.isub, 1) := by decide +kernel
theorem dX11_sides_53 : decode cX11_sides 53 = .ok (.ireturn, 1) := by decide +kernel
theorem dX11_worth_0 : decode cX11_worth 0 = .ok (.aload_n 0, 1) := by decide +kernel
theorem dX11_worth_1 : decode cX11_worth 1 = .ok (.iload_n 1, 1) := by decide +kernel
theorem dX11_worth_2 : decode cX11_worth 2 = .ok (.invokevirtual 44, 3) := by decide +kernel
theorem dX11_worth_5 : decode cX11_worth 5 = .ok (.ifCond .ne 8, 3) := by decide +kernel
theorem dX11_worth_8 : decode cX11_worth 8 = .ok (.aload_n 0, 1) := by decide +kernel
theorem dX11_worth_9 : decode cX11_worth 9 = .ok (.invokevirtual 55, 3) := by decide +kernel
theorem dX11_worth_12 : decode cX11_worth 12 = .ok (.ireturn, 1) := by decide +kernel
theorem dX11_worth_13 : decode cX11_worth 13 = .ok (.aload_n 0, 1) := by decide +kernel
theorem dX11_worth_14 : decode cX11_worth 14 = .ok (.sipush 255, 3) := by decide +kernel
theorem dX11_worth_17 : decode cX11_worth 17 = .ok (.invokevirtual 159, 3) := by decide +kernel
theorem dX11_worth_20 : decode cX11_worth 20 = .ok (.istore_n 2, 1) := by decide +kernel
theorem dX11_worth_21 : decode cX11_worth 21 = .ok (.iload_n 2, 1) := by decide +kernel
theorem dX11_worth_22 : decode cX11_worth 22 = .ok (.aload_n 0, 1) := by decide +kernel
theorem dX11_worth_23 : decode cX11_worth 23 = .ok (.sipush 255, 3) := by decide +kernel
theorem dX11_worth_26 : decode cX11_worth 26 = .ok (.iconst 1, 1) := by decide +kernel
theorem dX11_worth_27 : decode cX11_worth 27 = .ok (.iload_n 1, 1) := by decide +kernel
theorem dX11_worth_28 : decode cX11_worth 28 = .ok (.ishl, 1) := by decide +kernel
theorem dX11_worth_29 : decode cX11_worth 29 = .ok (.iconst (-1), 1) := by decide +kernel
theorem dX11_worth_30 : decode cX11_worth 30 = .ok (.ixor, 1) := by decide +kernel
theorem dX11_worth_31 : decode cX11_worth 31 = .ok (.iand, 1) := by decide +kernel
theorem dX11_worth_32 : decode cX11_worth 32 = .ok (.invokevirtual 159, 3) := by decide +kernel
theorem dX11_worth_35 : decode cX11_worth 35 = .ok (.isub, 1) := by decide +kernel
theorem dX11_worth_36 : decode cX11_worth 36 = .ok (.ireturn, 1) := by decide +kernel
theorem dX11_write_0 : decode cX11_write 0 = .ok (.iload_n 1, 1) := by decide +kernel
theorem dX11_write_1 : decode cX11_write 1 = .ok (.i2l, 1) := by decide +kernel
theorem dX11_write_2 : decode cX11_write 2 = .ok (.lconst 0, 1) := by decide +kernel
theorem dX11_write_3 : decode cX11_write 3 = .ok (.ldc2_w 201, 3) := by decide +kernel
theorem dX11_write_6 : decode cX11_write 6 = .ok (.invokestatic 40, 3) := by decide +kernel
theorem dX11_write_9 : decode cX11_write 9 = .ok (.ifCond .eq 71, 3) := by decide +kernel
theorem dX11_write_12 : decode cX11_write 12 = .ok (.iload_n 2, 1) := by decide +kernel
theorem dX11_write_13 : decode cX11_write 13 = .ok (.i2l, 1) := by decide +kernel
theorem dX11_write_14 : decode cX11_write 14 = .ok (.lconst 1, 1) := by decide +kernel
theorem dX11_write_15 : decode cX11_write 15 = .ok (.ldc2_w 48, 3) := by decide +kernel
theorem dX11_write_18 : decode cX11_write 18 = .ok (.invokestatic 40, 3) := by decide +kernel
theorem dX11_write_21 : decode cX11_write 21 = .ok (.ifCond .eq 59, 3) := by decide +kernel
theorem dX11_write_24 : decode cX11_write 24 = .ok (.iload_n 3, 1) := by decide +kernel
theorem dX11_write_25 : decode cX11_write 25 = .ok (.i2l, 1) := by decide +kernel
theorem dX11_write_26 : decode cX11_write 26 = .ok (.lconst 0, 1) := by decide +kernel
theorem dX11_write_27 : decode cX11_write 27 = .ok (.ldc2_w 48, 3) := by decide +kernel
theorem dX11_write_30 : decode cX11_write 30 = .ok (.invokestatic 40, 3) := by decide +kernel
theorem dX11_write_33 : decode cX11_write 33 = .ok (.ifCond .eq 47, 3) := by decide +kernel
theorem dX11_write_36 : decode cX11_write 36 = .ok (.iload 4, 2) := by decide +kernel
theorem dX11_write_38 : decode cX11_write 38 = .ok (.i2l, 1) := by decide +kernel
theorem dX11_write_39 : decode cX11_write 39 = .ok (.lconst 0, 1) := by decide +kernel
theorem dX11_write_40 : decode cX11_write 40 = .ok (.ldc2_w 136, 3) := by decide +kernel
theorem dX11_write_43 : decode cX11_write 43 = .ok (.invokestatic 40, 3) := by decide +kernel
theorem dX11_write_46 : decode cX11_write 46 = .ok (.ifCond .eq 34, 3) := by decide +kernel
theorem dX11_write_49 : decode cX11_write 49 = .ok (.iload 5, 2) := by decide +kernel
theorem dX11_write_51 : decode cX11_write 51 = .ok (.i2l, 1) := by decide +kernel
theorem dX11_write_52 : decode cX11_write 52 = .ok (.lconst 0, 1) := by decide +kernel
theorem dX11_write_53 : decode cX11_write 53 = .ok (.ldc2_w 64, 3) := by decide +kernel
theorem dX11_write_56 : decode cX11_write 56 = .ok (.invokestatic 40, 3) := by decide +kernel
theorem dX11_write_59 : decode cX11_write 59 = .ok (.ifCond .eq 21, 3) := by decide +kernel
theorem dX11_write_62 : decode cX11_write 62 = .ok (.iload 6, 2) := by decide +kernel
theorem dX11_write_64 : decode cX11_write 64 = .ok (.ifCond .eq 21, 3) := by decide +kernel
theorem dX11_write_67 : decode cX11_write 67 = .ok (.iload 6, 2) := by decide +kernel
theorem dX11_write_69 : decode cX11_write 69 = .ok (.iconst 5, 1) := by decide +kernel
theorem dX11_write_70 : decode cX11_write 70 = .ok (.if_icmp .eq 15, 3) := by decide +kernel
theorem dX11_write_73 : decode cX11_write 73 = .ok (.iload 6, 2) := by decide +kernel
theorem dX11_write_75 : decode cX11_write 75 = .ok (.bipush 10, 2) := by decide +kernel
theorem dX11_write_77 : decode cX11_write 77 = .ok (.if_icmp .eq 8, 3) := by decide +kernel
theorem dX11_write_80 : decode cX11_write 80 = .ok (.aload_n 0, 1) := by decide +kernel
theorem dX11_write_81 : decode cX11_write 81 = .ok (.invokevirtual 55, 3) := by decide +kernel
theorem dX11_write_84 : decode cX11_write 84 = .ok (.ireturn, 1) := by decide +kernel
theorem dX11_write_85 : decode cX11_write 85 = .ok (.aload_n 0, 1) := by decide +kernel
theorem dX11_write_86 : decode cX11_write 86 = .ok (.getfield 7, 3) := by decide +kernel
theorem dX11_write_89 : decode cX11_write 89 = .ok (.bipush 44, 2) := by decide +kernel
theorem dX11_write_91 : decode cX11_write 91 = .ok (.iaload, 1) := by decide +kernel
theorem dX11_write_92 : decode cX11_write 92 = .ok (.bipush 12, 2) := by decide +kernel
theorem dX11_write_94 : decode cX11_write 94 = .ok (.if_icmp .ne 8, 3) := by decide +kernel
theorem dX11_write_97 : decode cX11_write 97 = .ok (.aload_n 0, 1) := by decide +kernel
theorem dX11_write_98 : decode cX11_write 98 = .ok (.invokevirtual 59, 3) := by decide +kernel
theorem dX11_write_101 : decode cX11_write 101 = .ok (.ireturn, 1) := by decide +kernel
theorem dX11_write_102 : decode cX11_write 102 = .ok (.bipush 45, 2) := by decide +kernel
theorem dX11_write_104 : decode cX11_write 104 = .ok (.bipush 6, 2) := by decide +kernel
theorem dX11_write_106 : decode cX11_write 106 = .ok (.aload_n 0, 1) := by decide +kernel
theorem dX11_write_107 : decode cX11_write 107 = .ok (.getfield 7, 3) := by decide +kernel
theorem dX11_write_110 : decode cX11_write 110 = .ok (.bipush 44, 2) := by decide +kernel
theorem dX11_write_112 : decode cX11_write 112 = .ok (.iaload, 1) := by decide +kernel
theorem dX11_write_113 : decode cX11_write 113 = .ok (.imul, 1) := by decide +kernel
theorem dX11_write_114 : decode cX11_write 114 = .ok (.iadd, 1) := by decide +kernel
theorem dX11_write_115 : decode cX11_write 115 = .ok (.istore 7, 2) := by decide +kernel
theorem dX11_write_117 : decode cX11_write 117 = .ok (.aload_n 0, 1) := by decide +kernel
theorem dX11_write_118 : decode cX11_write 118 = .ok (.getfield 7, 3) := by decide +kernel
theorem dX11_write_121 : decode cX11_write 121 = .ok (.iload 7, 2) := by decide +kernel
theorem dX11_write_123 : decode cX11_write 123 = .ok (.iload_n 1, 1) := by decide +kernel
theorem dX11_write_124 : decode cX11_write 124 = .ok (.iastore, 1) := by decide +kernel
theorem dX11_write_125 : decode cX11_write 125 = .ok (.aload_n 0, 1) := by decide +kernel
theorem dX11_write_126 : decode cX11_write 126 = .ok (.getfield 7, 3) := by decide +kernel
theorem dX11_write_129 : decode cX11_write 129 = .ok (.iload 7, 2) := by decide +kernel
theorem dX11_write_131 : decode cX11_write 131 = .ok (.iconst 1, 1) := by decide +kernel
theorem dX11_write_132 : decode cX11_write 132 = .ok (.iadd, 1) := by decide +kernel
theorem dX11_write_133 : decode cX11_write 133 = .ok (.iload_n 2, 1) := by decide +kernel
theorem dX11_write_134 : decode cX11_write 134 = .ok (.iastore, 1) := by decide +kernel
theorem dX11_write_135 : decode cX11_write 135 = .ok (.aload_n 0, 1) := by decide +kernel
theorem dX11_write_136 : decode cX11_write 136 = .ok (.getfield 7, 3) := by decide +kernel
theorem dX11_write_139 : decode cX11_write 139 = .ok (.iload 7, 2) := by decide +kernel
theorem dX11_write_141 : decode cX11_write 141 = .ok (.iconst 2, 1) := by decide +kernel
theorem dX11_write_142 : decode cX11_write 142 = .ok (.iadd, 1) := by decide +kernel
theorem dX11_write_143 : decode cX11_write 143 = .ok (.iload_n 3, 1) := by decide +kernel
theorem dX11_write_144 : decode cX11_write 144 = .ok (.iastore, 1) := by decide +kernel
theorem dX11_write_145 : decode cX11_write 145 = .ok (.aload_n 0, 1) := by decide +kernel
theorem dX11_write_146 : decode cX11_write 146 = .ok (.getfield 7, 3) := by decide +kernel
theorem dX11_write_149 : decode cX11_write 149 = .ok (.iload 7, 2) := by decide +kernel
theorem dX11_write_151 : decode cX11_write 151 = .ok (.iconst 3, 1) := by decide +kernel
theorem dX11_write_152 : decode cX11_write 152 = .ok (.iadd, 1) := by decide +kernel
theorem dX11_write_153 : decode cX11_write 153 = .ok (.iload 4, 2) := by decide +kernel
theorem dX11_write_155 : decode cX11_write 155 = .ok (.iastore, 1) := by decide +kernel
theorem dX11_write_156 : decode cX11_write 156 = .ok (.aload_n 0, 1) := by decide +kernel
theorem dX11_write_157 : decode cX11_write 157 = .ok (.getfield 7, 3) := by decide +kernel
theorem dX11_write_160 : decode cX11_write 160 = .ok (.iload 7, 2) := by decide +kernel
theorem dX11_write_162 : decode cX11_write 162 = .ok (.iconst 4, 1) := by decide +kernel
theorem dX11_write_163 : decode cX11_write 163 = .ok (.iadd, 1) := by decide +kernel
theorem dX11_write_164 : decode cX11_write 164 = .ok (.iload 5, 2) := by decide +kernel
theorem dX11_write_166 : decode cX11_write 166 = .ok (.iastore, 1) := by decide +kernel
theorem dX11_write_167 : decode cX11_write 167 = .ok (.aload_n 0, 1) := by decide +kernel
theorem dX11_write_168 : decode cX11_write 168 = .ok (.getfield 7, 3) := by decide +kernel
theorem dX11_write_171 : decode cX11_write 171 = .ok (.iload 7, 2) := by decide +kernel
theorem dX11_write_173 : decode cX11_write 173 = .ok (.iconst 5, 1) := by decide +kernel
theorem dX11_write_174 : decode cX11_write 174 = .ok (.iadd, 1) := by decide +kernel
theorem dX11_write_175 : decode cX11_write 175 = .ok (.iload 6, 2) := by decide +kernel
theorem dX11_write_177 : decode cX11_write 177 = .ok (.iastore, 1) := by decide +kernel
theorem dX11_write_178 : decode cX11_write 178 = .ok (.aload_n 0, 1) := by decide +kernel
theorem dX11_write_179 : decode cX11_write 179 = .ok (.getfield 7, 3) := by decide +kernel
theorem dX11_write_182 : decode cX11_write 182 = .ok (.bipush 44, 2) := by decide +kernel
theorem dX11_write_184 : decode cX11_write 184 = .ok (.dup2, 1) := by decide +kernel
theorem dX11_write_185 : decode cX11_write 185 = .ok (.iaload, 1) := by decide +kernel
theorem dX11_write_186 : decode cX11_write 186 = .ok (.iconst 1, 1) := by decide +kernel
theorem dX11_write_187 : decode cX11_write 187 = .ok (.iadd, 1) := by decide +kernel
theorem dX11_write_188 : decode cX11_write 188 = .ok (.iastore, 1) := by decide +kernel
theorem dX11_write_189 : decode cX11_write 189 = .ok (.aload_n 0, 1) := by decide +kernel
theorem dX11_write_190 : decode cX11_write 190 = .ok (.getfield 7, 3) := by decide +kernel
theorem dX11_write_193 : decode cX11_write 193 = .ok (.bipush 44, 2) := by decide +kernel
theorem dX11_write_195 : decode cX11_write 195 = .ok (.iaload, 1) := by decide +kernel
theorem dX11_write_196 : decode cX11_write 196 = .ok (.ireturn, 1) := by decide +kernel
theorem dX11_tear_0 : decode cX11_tear 0 = .ok (.aload_n 0, 1) := by decide +kernel
theorem dX11_tear_1 : decode cX11_tear 1 = .ok (.getfield 7, 3) := by decide +kernel
theorem dX11_tear_4 : decode cX11_tear 4 = .ok (.bipush 44, 2) := by decide +kernel
theorem dX11_tear_6 : decode cX11_tear 6 = .ok (.iaload, 1) := by decide +kernel
theorem dX11_tear_7 : decode cX11_tear 7 = .ok (.istore_n 1, 1) := by decide +kernel
theorem dX11_tear_8 : decode cX11_tear 8 = .ok (.aload_n 0, 1) := by decide +kernel
theorem dX11_tear_9 : decode cX11_tear 9 = .ok (.getfield 7, 3) := by decide +kernel
theorem dX11_tear_12 : decode cX11_tear 12 = .ok (.bipush 44, 2) := by decide +kernel
theorem dX11_tear_14 : decode cX11_tear 14 = .ok (.iconst 0, 1) := by decide +kernel
theorem dX11_tear_15 : decode cX11_tear 15 = .ok (.iastore, 1) := by decide +kernel
theorem dX11_tear_16 : decode cX11_tear 16 = .ok (.iload_n 1, 1) := by decide +kernel
theorem dX11_tear_17 : decode cX11_tear 17 = .ok (.ireturn, 1) := by decide +kernel
theorem dX11_isSo_0 : decode cX11_isSo 0 = .ok (.bipush 45, 2) := by decide +kernel
theorem dX11_isSo_2 : decode cX11_isSo 2 = .ok (.bipush 6, 2) := by decide +kernel
theorem dX11_isSo_4 : decode cX11_isSo 4 = .ok (.iload_n 1, 1) := by decide +kernel
theorem dX11_isSo_5 : decode cX11_isSo 5 = .ok (.imul, 1) := by decide +kernel
theorem dX11_isSo_6 : decode cX11_isSo 6 = .ok (.iadd, 1) := by decide +kernel
theorem dX11_isSo_7 : decode cX11_isSo 7 = .ok (.istore_n 2, 1) := by decide +kernel
theorem dX11_isSo_8 : decode cX11_isSo 8 = .ok (.aload_n 0, 1) := by decide +kernel
theorem dX11_isSo_9 : decode cX11_isSo 9 = .ok (.getfield 7, 3) := by decide +kernel
theorem dX11_isSo_12 : decode cX11_isSo 12 = .ok (.iload_n 2, 1) := by decide +kernel
theorem dX11_isSo_13 : decode cX11_isSo 13 = .ok (.iconst 4, 1) := by decide +kernel
theorem dX11_isSo_14 : decode cX11_isSo 14 = .ok (.iadd, 1) := by decide +kernel
theorem dX11_isSo_15 : decode cX11_isSo 15 = .ok (.iaload, 1) := by decide +kernel
theorem dX11_isSo_16 : decode cX11_isSo 16 = .ok (.istore_n 3, 1) := by decide +kernel
theorem dX11_isSo_17 : decode cX11_isSo 17 = .ok (.aload_n 0, 1) := by decide +kernel
theorem dX11_isSo_18 : decode cX11_isSo 18 = .ok (.aload_n 0, 1) := by decide +kernel
theorem dX11_isSo_19 : decode cX11_isSo 19 = .ok (.getfield 7, 3) := by decide +kernel
theorem dX11_isSo_22 : decode cX11_isSo 22 = .ok (.iload_n 2, 1) := by decide +kernel
theorem dX11_isSo_23 : decode cX11_isSo 23 = .ok (.iaload, 1) := by decide +kernel
theorem dX11_isSo_24 : decode cX11_isSo 24 = .ok (.invokevirtual 44, 3) := by decide +kernel
theorem dX11_isSo_27 : decode cX11_isSo 27 = .ok (.ifCond .eq 64, 3) := by decide +kernel
theorem dX11_isSo_30 : decode cX11_isSo 30 = .ok (.aload_n 0, 1) := by decide +kernel
theorem dX11_isSo_31 : decode cX11_isSo 31 = .ok (.aload_n 0, 1) := by decide +kernel
theorem dX11_isSo_32 : decode cX11_isSo 32 = .ok (.getfield 7, 3) := by decide +kernel
theorem dX11_isSo_35 : decode cX11_isSo 35 = .ok (.iload_n 2, 1) := by decide +kernel
theorem dX11_isSo_36 : decode cX11_isSo 36 = .ok (.iaload, 1) := by decide +kernel
theorem dX11_isSo_37 : decode cX11_isSo 37 = .ok (.aload_n 0, 1) := by decide +kernel
theorem dX11_isSo_38 : decode cX11_isSo 38 = .ok (.getfield 7, 3) := by decide +kernel
theorem dX11_isSo_41 : decode cX11_isSo 41 = .ok (.iload_n 2, 1) := by decide +kernel
theorem dX11_isSo_42 : decode cX11_isSo 42 = .ok (.iconst 1, 1) := by decide +kernel
theorem dX11_isSo_43 : decode cX11_isSo 43 = .ok (.iadd, 1) := by decide +kernel
theorem dX11_isSo_44 : decode cX11_isSo 44 = .ok (.iaload, 1) := by decide +kernel
theorem dX11_isSo_45 : decode cX11_isSo 45 = .ok (.iload_n 3, 1) := by decide +kernel
theorem dX11_isSo_46 : decode cX11_isSo 46 = .ok (.iconst 3, 1) := by decide +kernel
theorem dX11_isSo_47 : decode cX11_isSo 47 = .ok (.idiv, 1) := by decide +kernel
theorem dX11_isSo_48 : decode cX11_isSo 48 = .ok (.iadd, 1) := by decide +kernel
theorem dX11_isSo_49 : decode cX11_isSo 49 = .ok (.iconst 1, 1) := by decide +kernel
theorem dX11_isSo_50 : decode cX11_isSo 50 = .ok (.isub, 1) := by decide +kernel
theorem dX11_isSo_51 : decode cX11_isSo 51 = .ok (.aload_n 0, 1) := by decide +kernel
theorem dX11_isSo_52 : decode cX11_isSo 52 = .ok (.getfield 7, 3) := by decide +kernel
theorem dX11_isSo_55 : decode cX11_isSo 55 = .ok (.iload_n 2, 1) := by decide +kernel
theorem dX11_isSo_56 : decode cX11_isSo 56 = .ok (.iconst 2, 1) := by decide +kernel
theorem dX11_isSo_57 : decode cX11_isSo 57 = .ok (.iadd, 1) := by decide +kernel
theorem dX11_isSo_58 : decode cX11_isSo 58 = .ok (.iaload, 1) := by decide +kernel
theorem dX11_isSo_59 : decode cX11_isSo 59 = .ok (.iload_n 3, 1) := by decide +kernel
theorem dX11_isSo_60 : decode cX11_isSo 60 = .ok (.iconst 3, 1) := by decide +kernel
theorem dX11_isSo_61 : decode cX11_isSo 61 = .ok (.irem, 1) := by decide +kernel
theorem dX11_isSo_62 : decode cX11_isSo 62 = .ok (.iadd, 1) := by decide +kernel
theorem dX11_isSo_63 : decode cX11_isSo 63 = .ok (.iconst 1, 1) := by decide +kernel
theorem dX11_isSo_64 : decode cX11_isSo 64 = .ok (.isub, 1) := by decide +kernel
theorem dX11_isSo_65 : decode cX11_isSo 65 = .ok (.aload_n 0, 1) := by decide +kernel
theorem dX11_isSo_66 : decode cX11_isSo 66 = .ok (.getfield 7, 3) := by decide +kernel
theorem dX11_isSo_69 : decode cX11_isSo 69 = .ok (.iload_n 2, 1) := by decide +kernel
theorem dX11_isSo_70 : decode cX11_isSo 70 = .ok (.iconst 3, 1) := by decide +kernel
theorem dX11_isSo_71 : decode cX11_isSo 71 = .ok (.iadd, 1) := by decide +kernel
theorem dX11_isSo_72 : decode cX11_isSo 72 = .ok (.iaload, 1) := by decide +kernel
theorem dX11_isSo_73 : decode cX11_isSo 73 = .ok (.invokevirtual 138, 3) := by decide +kernel
theorem dX11_isSo_76 : decode cX11_isSo 76 = .ok (.aload_n 0, 1) := by decide +kernel
theorem dX11_isSo_77 : decode cX11_isSo 77 = .ok (.getfield 7, 3) := by decide +kernel
theorem dX11_isSo_80 : decode cX11_isSo 80 = .ok (.iload_n 2, 1) := by decide +kernel
theorem dX11_isSo_81 : decode cX11_isSo 81 = .ok (.iconst 5, 1) := by decide +kernel
theorem dX11_isSo_82 : decode cX11_isSo 82 = .ok (.iadd, 1) := by decide +kernel
theorem dX11_isSo_83 : decode cX11_isSo 83 = .ok (.iaload, 1) := by decide +kernel
theorem dX11_isSo_84 : decode cX11_isSo 84 = .ok (.if_icmp .ne 7, 3) := by decide +kernel
theorem dX11_isSo_87 : decode cX11_isSo 87 = .ok (.iconst 1, 1) := by decide +kernel
theorem dX11_isSo_88 : decode cX11_isSo 88 = .ok (.goto 4, 3) := by decide +kernel
theorem dX11_isSo_91 : decode cX11_isSo 91 = .ok (.iconst 0, 1) := by decide +kernel
theorem dX11_isSo_92 : decode cX11_isSo 92 = .ok (.ireturn, 1) := by decide +kernel
theorem dX11_toldFrom_0 : decode cX11_toldFrom 0 = .ok (.iconst 0, 1) := by decide +kernel
theorem dX11_toldFrom_1 : decode cX11_toldFrom 1 = .ok (.istore_n 3, 1) := by decide +kernel
theorem dX11_toldFrom_2 : decode cX11_toldFrom 2 = .ok (.iload_n 1, 1) := by decide +kernel
theorem dX11_toldFrom_3 : decode cX11_toldFrom 3 = .ok (.istore 4, 2) := by decide +kernel
theorem dX11_toldFrom_5 : decode cX11_toldFrom 5 = .ok (.iload 4, 2) := by decide +kernel
theorem dX11_toldFrom_7 : decode cX11_toldFrom 7 = .ok (.iload_n 1, 1) := by decide +kernel
theorem dX11_toldFrom_8 : decode cX11_toldFrom 8 = .ok (.iload_n 2, 1) := by decide +kernel
theorem dX11_toldFrom_9 : decode cX11_toldFrom 9 = .ok (.iadd, 1) := by decide +kernel
theorem dX11_toldFrom_10 : decode cX11_toldFrom 10 = .ok (.if_icmp .ge 27, 3) := by decide +kernel
theorem dX11_toldFrom_13 : decode cX11_toldFrom 13 = .ok (.iload_n 3, 1) := by decide +kernel
theorem dX11_toldFrom_14 : decode cX11_toldFrom 14 = .ok (.aload_n 0, 1) := by decide +kernel
theorem dX11_toldFrom_15 : decode cX11_toldFrom 15 = .ok (.getfield 7, 3) := by decide +kernel
theorem dX11_toldFrom_18 : decode cX11_toldFrom 18 = .ok (.bipush 45, 2) := by decide +kernel
theorem dX11_toldFrom_20 : decode cX11_toldFrom 20 = .ok (.bipush 6, 2) := by decide +kernel
theorem dX11_toldFrom_22 : decode cX11_toldFrom 22 = .ok (.iload 4, 2) := by decide +kernel
theorem dX11_toldFrom_24 : decode cX11_toldFrom 24 = .ok (.imul, 1) := by decide +kernel
theorem dX11_toldFrom_25 : decode cX11_toldFrom 25 = .ok (.iadd, 1) := by decide +kernel
theorem dX11_toldFrom_26 : decode cX11_toldFrom 26 = .ok (.iconst 5, 1) := by decide +kernel
theorem dX11_toldFrom_27 : decode cX11_toldFrom 27 = .ok (.iadd, 1) := by decide +kernel
theorem dX11_toldFrom_28 : decode cX11_toldFrom 28 = .ok (.iaload, 1) := by decide +kernel
theorem dX11_toldFrom_29 : decode cX11_toldFrom 29 = .ok (.iadd, 1) := by decide +kernel
theorem dX11_toldFrom_30 : decode cX11_toldFrom 30 = .ok (.istore_n 3, 1) := by decide +kernel
theorem dX11_toldFrom_31 : decode cX11_toldFrom 31 = .ok (.iinc 4 1, 3) := by decide +kernel
theorem dX11_toldFrom_34 : decode cX11_toldFrom 34 = .ok (.goto (-29), 3) := by decide +kernel
theorem dX11_toldFrom_37 : decode cX11_toldFrom 37 = .ok (.iload_n 3, 1) := by decide +kernel
theorem dX11_toldFrom_38 : decode cX11_toldFrom 38 = .ok (.ireturn, 1) := by decide +kernel
theorem dX11_book_0 : decode cX11_book 0 = .ok (.iload_n 1, 1) := by decide +kernel
theorem dX11_book_1 : decode cX11_book 1 = .ok (.i2l, 1) := by decide +kernel
theorem dX11_book_2 : decode cX11_book 2 = .ok (.lconst 0, 1) := by decide +kernel
theorem dX11_book_3 : decode cX11_book 3 = .ok (.lconst 1, 1) := by decide +kernel
theorem dX11_book_4 : decode cX11_book 4 = .ok (.invokestatic 40, 3) := by decide +kernel
theorem dX11_book_7 : decode cX11_book 7 = .ok (.ifCond .ne 8, 3) := by decide +kernel
theorem dX11_book_10 : decode cX11_book 10 = .ok (.aload_n 0, 1) := by decide +kernel
theorem dX11_book_11 : decode cX11_book 11 = .ok (.invokevirtual 55, 3) := by decide +kernel
theorem dX11_book_14 : decode cX11_book 14 = .ok (.ireturn, 1) := by decide +kernel
theorem dX11_book_15 : decode cX11_book 15 = .ok (.iconst (-1), 1) := by decide +kernel
theorem dX11_book_16 : decode cX11_book 16 = .ok (.istore_n 2, 1) := by decide +kernel
theorem dX11_book_17 : decode cX11_book 17 = .ok (.aload_n 0, 1) := by decide +kernel
theorem dX11_book_18 : decode cX11_book 18 = .ok (.getfield 7, 3) := by decide +kernel
theorem dX11_book_21 : decode cX11_book 21 = .ok (.bipush 44, 2) := by decide +kernel
theorem dX11_book_23 : decode cX11_book 23 = .ok (.iaload, 1) := by decide +kernel
theorem dX11_book_24 : decode cX11_book 24 = .ok (.iconst 1, 1) := by decide +kernel
theorem dX11_book_25 : decode cX11_book 25 = .ok (.isub, 1) := by decide +kernel
theorem dX11_book_26 : decode cX11_book 26 = .ok (.istore_n 3, 1) := by decide +kernel
theorem dX11_book_27 : decode cX11_book 27 = .ok (.iload_n 3, 1) := by decide +kernel
theorem dX11_book_28 : decode cX11_book 28 = .ok (.ifCond .lt 23, 3) := by decide +kernel
theorem dX11_book_31 : decode cX11_book 31 = .ok (.aload_n 0, 1) := by decide +kernel
theorem dX11_book_32 : decode cX11_book 32 = .ok (.iload_n 3, 1) := by decide +kernel
theorem dX11_book_33 : decode cX11_book 33 = .ok (.invokevirtual 203, 3) := by decide +kernel
theorem dX11_book_36 : decode cX11_book 36 = .ok (.ifCond .eq 7, 3) := by decide +kernel
theorem dX11_book_39 : decode cX11_book 39 = .ok (.iload_n 2, 1) := by decide +kernel
theorem dX11_book_40 : decode cX11_book 40 = .ok (.goto 4, 3) := by decide +kernel
theorem dX11_book_43 : decode cX11_book 43 = .ok (.iload_n 3, 1) := by decide +kernel
theorem dX11_book_44 : decode cX11_book 44 = .ok (.istore_n 2, 1) := by decide +kernel
theorem dX11_book_45 : decode cX11_book 45 = .ok (.iinc 3 (-1), 3) := by decide +kernel
theorem dX11_book_48 : decode cX11_book 48 = .ok (.goto (-21), 3) := by decide +kernel
theorem dX11_book_51 : decode cX11_book 51 = .ok (.iload_n 1, 1) := by decide +kernel
theorem dX11_book_52 : decode cX11_book 52 = .ok (.ifCond .ne 7, 3) := by decide +kernel
theorem dX11_book_55 : decode cX11_book 55 = .ok (.iload_n 2, 1) := by decide +kernel
theorem dX11_book_56 : decode cX11_book 56 = .ok (.goto 15, 3) := by decide +kernel
theorem dX11_book_59 : decode cX11_book 59 = .ok (.aload_n 0, 1) := by decide +kernel
theorem dX11_book_60 : decode cX11_book 60 = .ok (.iconst 0, 1) := by decide +kernel
theorem dX11_book_61 : decode cX11_book 61 = .ok (.aload_n 0, 1) := by decide +kernel
theorem dX11_book_62 : decode cX11_book 62 = .ok (.getfield 7, 3) := by decide +kernel
theorem dX11_book_65 : decode cX11_book 65 = .ok (.bipush 44, 2) := by decide +kernel
theorem dX11_book_67 : decode cX11_book 67 = .ok (.iaload, 1) := by decide +kernel
theorem dX11_book_68 : decode cX11_book 68 = .ok (.invokevirtual 206, 3) := by decide +kernel
theorem dX11_book_71 : decode cX11_book 71 = .ok (.ireturn, 1) := by decide +kernel
theorem dX11_hours_0 : decode cX11_hours 0 = .ok (.iload_n 1, 1) := by decide +kernel
theorem dX11_hours_1 : decode cX11_hours 1 = .ok (.i2l, 1) := by decide +kernel
theorem dX11_hours_2 : decode cX11_hours 2 = .ok (.lconst 1, 1) := by decide +kernel
theorem dX11_hours_3 : decode cX11_hours 3 = .ok (.ldc2_w 189, 3) := by decide +kernel
theorem dX11_hours_6 : decode cX11_hours 6 = .ok (.invokestatic 40, 3) := by decide +kernel
theorem dX11_hours_9 : decode cX11_hours 9 = .ok (.ifCond .ne 8, 3) := by decide +kernel
theorem dX11_hours_12 : decode cX11_hours 12 = .ok (.aload_n 0, 1) := by decide +kernel
theorem dX11_hours_13 : decode cX11_hours 13 = .ok (.invokevirtual 55, 3) := by decide +kernel
theorem dX11_hours_16 : decode cX11_hours 16 = .ok (.ireturn, 1) := by decide +kernel
theorem dX11_hours_17 : decode cX11_hours 17 = .ok (.iconst (-1), 1) := by decide +kernel
theorem dX11_hours_18 : decode cX11_hours 18 = .ok (.istore_n 2, 1) := by decide +kernel
theorem dX11_hours_19 : decode cX11_hours 19 = .ok (.iconst (-1), 1) := by decide +kernel
theorem dX11_hours_20 : decode cX11_hours 20 = .ok (.istore_n 3, 1) := by decide +kernel
theorem dX11_hours_21 : decode cX11_hours 21 = .ok (.iconst 0, 1) := by decide +kernel
theorem dX11_hours_22 : decode cX11_hours 22 = .ok (.istore 4, 2) := by decide +kernel
theorem dX11_hours_24 : decode cX11_hours 24 = .ok (.iload 4, 2) := by decide +kernel
theorem dX11_hours_26 : decode cX11_hours 26 = .ok (.iload_n 1, 1) := by decide +kernel
theorem dX11_hours_27 : decode cX11_hours 27 = .ok (.iadd, 1) := by decide +kernel
theorem dX11_hours_28 : decode cX11_hours 28 = .ok (.aload_n 0, 1) := by decide +kernel
theorem dX11_hours_29 : decode cX11_hours 29 = .ok (.getfield 7, 3) := by decide +kernel
theorem dX11_hours_32 : decode cX11_hours 32 = .ok (.bipush 44, 2) := by decide +kernel
theorem dX11_hours_34 : decode cX11_hours 34 = .ok (.iaload, 1) := by decide +kernel
theorem dX11_hours_35 : decode cX11_hours 35 = .ok (.if_icmp .gt 44, 3) := by decide +kernel
theorem dX11_hours_38 : decode cX11_hours 38 = .ok (.aload_n 0, 1) := by decide +kernel
theorem dX11_hours_39 : decode cX11_hours 39 = .ok (.iload 4, 2) := by decide +kernel
theorem dX11_hours_41 : decode cX11_hours 41 = .ok (.iload_n 1, 1) := by decide +kernel
theorem dX11_hours_42 : decode cX11_hours 42 = .ok (.invokevirtual 206, 3) := by decide +kernel
theorem dX11_hours_45 : decode cX11_hours 45 = .ok (.istore 5, 2) := by decide +kernel
theorem dX11_hours_47 : decode cX11_hours 47 = .ok (.iload 5, 2) := by decide +kernel
theorem dX11_hours_49 : decode cX11_hours 49 = .ok (.iload_n 3, 1) := by decide +kernel
theorem dX11_hours_50 : decode cX11_hours 50 = .ok (.if_icmp .le 8, 3) := by decide +kernel
theorem dX11_hours_53 : decode cX11_hours 53 = .ok (.iload 4, 2) := by decide +kernel
theorem dX11_hours_55 : decode cX11_hours 55 = .ok (.goto 4, 3) := by decide +kernel
theorem dX11_hours_58 : decode cX11_hours 58 = .ok (.iload_n 2, 1) := by decide +kernel
theorem dX11_hours_59 : decode cX11_hours 59 = .ok (.istore_n 2, 1) := by decide +kernel
theorem dX11_hours_60 : decode cX11_hours 60 = .ok (.iload 5, 2) := by decide +kernel
theorem dX11_hours_62 : decode cX11_hours 62 = .ok (.iload_n 3, 1) := by decide +kernel
theorem dX11_hours_63 : decode cX11_hours 63 = .ok (.if_icmp .le 8, 3) := by decide +kernel
theorem dX11_hours_66 : decode cX11_hours 66 = .ok (.iload 5, 2) := by decide +kernel
theorem dX11_hours_68 : decode cX11_hours 68 = .ok (.goto 4, 3) := by decide +kernel
theorem dX11_hours_71 : decode cX11_hours 71 = .ok (.iload_n 3, 1) := by decide +kernel
theorem dX11_hours_72 : decode cX11_hours 72 = .ok (.istore_n 3, 1) := by decide +kernel
theorem dX11_hours_73 : decode cX11_hours 73 = .ok (.iinc 4 1, 3) := by decide +kernel
theorem dX11_hours_76 : decode cX11_hours 76 = .ok (.goto (-52), 3) := by decide +kernel
theorem dX11_hours_79 : decode cX11_hours 79 = .ok (.iload_n 2, 1) := by decide +kernel
theorem dX11_hours_80 : decode cX11_hours 80 = .ok (.ireturn, 1) := by decide +kernel
theorem dX11_evening_0 : decode cX11_evening 0 = .ok (.aload_n 0, 1) := by decide +kernel
theorem dX11_evening_1 : decode cX11_evening 1 = .ok (.iload_n 1, 1) := by decide +kernel
theorem dX11_evening_2 : decode cX11_evening 2 = .ok (.iload_n 2, 1) := by decide +kernel
theorem dX11_evening_3 : decode cX11_evening 3 = .ok (.iload_n 3, 1) := by decide +kernel
theorem dX11_evening_4 : decode cX11_evening 4 = .ok (.invokevirtual 132, 3) := by decide +kernel
theorem dX11_evening_7 : decode cX11_evening 7 = .ok (.ifCond .eq 42, 3) := by decide +kernel
theorem dX11_evening_10 : decode cX11_evening 10 = .ok (.iload 4, 2) := by decide +kernel
theorem dX11_evening_12 : decode cX11_evening 12 = .ok (.i2l, 1) := by decide +kernel
theorem dX11_evening_13 : decode cX11_evening 13 = .ok (.lconst 0, 1) := by decide +kernel
theorem dX11_evening_14 : decode cX11_evening 14 = .ok (.ldc2_w 136, 3) := by decide +kernel
theorem dX11_evening_17 : decode cX11_evening 17 = .ok (.invokestatic 40, 3) := by decide +kernel
theorem dX11_evening_20 : decode cX11_evening 20 = .ok (.ifCond .eq 29, 3) := by decide +kernel
theorem dX11_evening_23 : decode cX11_evening 23 = .ok (.iload 5, 2) := by decide +kernel
theorem dX11_evening_25 : decode cX11_evening 25 = .ok (.i2l, 1) := by decide +kernel
theorem dX11_evening_26 : decode cX11_evening 26 = .ok (.lconst 0, 1) := by decide +kernel
theorem dX11_evening_27 : decode cX11_evening 27 = .ok (.ldc2_w 210, 3) := by decide +kernel
theorem dX11_evening_30 : decode cX11_evening 30 = .ok (.invokestatic 40, 3) := by decide +kernel
theorem dX11_evening_33 : decode cX11_evening 33 = .ok (.ifCond .eq 16, 3) := by decide +kernel
theorem dX11_evening_36 : decode cX11_evening 36 = .ok (.iload 6, 2) := by decide +kernel
theorem dX11_evening_38 : decode cX11_evening 38 = .ok (.i2l, 1) := by decide +kernel
theorem dX11_evening_39 : decode cX11_evening 39 = .ok (.lconst 0, 1) := by decide +kernel
theorem dX11_evening_40 : decode cX11_evening 40 = .ok (.ldc2_w 212, 3) := by decide +kernel
theorem dX11_evening_43 : decode cX11_evening 43 = .ok (.invokestatic 40, 3) := by decide +kernel
theorem dX11_evening_46 : decode cX11_evening 46 = .ok (.ifCond .ne 8, 3) := by decide +kernel
theorem dX11_evening_49 : decode cX11_evening 49 = .ok (.aload_n 0, 1) := by decide +kernel
theorem dX11_evening_50 : decode cX11_evening 50 = .ok (.invokevirtual 55, 3) := by decide +kernel
theorem dX11_evening_53 : decode cX11_evening 53 = .ok (.ireturn, 1) := by decide +kernel
theorem dX11_evening_54 : decode cX11_evening 54 = .ok (.iload 6, 2) := by decide +kernel
theorem dX11_evening_56 : decode cX11_evening 56 = .ok (.i2l, 1) := by decide +kernel
theorem dX11_evening_57 : decode cX11_evening 57 = .ok (.lstore 7, 2) := by decide +kernel
theorem dX11_evening_59 : decode cX11_evening 59 = .ok (.iconst 0, 1) := by decide +kernel
theorem dX11_evening_60 : decode cX11_evening 60 = .ok (.istore 9, 2) := by decide +kernel
theorem dX11_evening_62 : decode cX11_evening 62 = .ok (.iconst 0, 1) := by decide +kernel
theorem dX11_evening_63 : decode cX11_evening 63 = .ok (.istore 10, 2) := by decide +kernel
theorem dX11_evening_65 : decode cX11_evening 65 = .ok (.iload 10, 2) := by decide +kernel
theorem dX11_evening_67 : decode cX11_evening 67 = .ok (.iload 5, 2) := by decide +kernel
theorem dX11_evening_69 : decode cX11_evening 69 = .ok (.if_icmp .ge 68, 3) := by decide +kernel
theorem dX11_evening_72 : decode cX11_evening 72 = .ok (.lload 7, 2) := by decide +kernel
theorem dX11_evening_74 : decode cX11_evening 74 = .ok (.ldc2_w 214, 3) := by decide +kernel
theorem dX11_evening_77 : decode cX11_evening 77 = .ok (.lmul, 1) := by decide +kernel
theorem dX11_evening_78 : decode cX11_evening 78 = .ok (.ldc2_w 216, 3) := by decide +kernel
theorem dX11_evening_81 : decode cX11_evening 81 = .ok (.ladd, 1) := by decide +kernel
theorem dX11_evening_82 : decode cX11_evening 82 = .ok (.ldc2_w 218, 3) := by decide +kernel
theorem dX11_evening_85 : decode cX11_evening 85 = .ok (.lrem, 1) := by decide +kernel
theorem dX11_evening_86 : decode cX11_evening 86 = .ok (.lstore 7, 2) := by decide +kernel
theorem dX11_evening_88 : decode cX11_evening 88 = .ok (.lload 7, 2) := by decide +kernel
theorem dX11_evening_90 : decode cX11_evening 90 = .ok (.ldc2_w 220, 3) := by decide +kernel
theorem dX11_evening_93 : decode cX11_evening 93 = .ok (.ldiv, 1) := by decide +kernel
theorem dX11_evening_94 : decode cX11_evening 94 = .ok (.ldc2_w 166, 3) := by decide +kernel
theorem dX11_evening_97 : decode cX11_evening 97 = .ok (.lrem, 1) := by decide +kernel
theorem dX11_evening_98 : decode cX11_evening 98 = .ok (.l2i, 1) := by decide +kernel
theorem dX11_evening_99 : decode cX11_evening 99 = .ok (.istore 11, 2) := by decide +kernel
theorem dX11_evening_101 : decode cX11_evening 101 = .ok (.iload 9, 2) := by decide +kernel
theorem dX11_evening_103 : decode cX11_evening 103 = .ok (.aload_n 0, 1) := by decide +kernel
theorem dX11_evening_104 : decode cX11_evening 104 = .ok (.iload_n 1, 1) := by decide +kernel
theorem dX11_evening_105 : decode cX11_evening 105 = .ok (.iload_n 2, 1) := by decide +kernel
theorem dX11_evening_106 : decode cX11_evening 106 = .ok (.iload 11, 2) := by decide +kernel
theorem dX11_evening_108 : decode cX11_evening 108 = .ok (.iconst 4, 1) := by decide +kernel
theorem dX11_evening_109 : decode cX11_evening 109 = .ok (.idiv, 1) := by decide +kernel
theorem dX11_evening_110 : decode cX11_evening 110 = .ok (.invokestatic 142, 3) := by decide +kernel
theorem dX11_evening_113 : decode cX11_evening 113 = .ok (.iadd, 1) := by decide +kernel
theorem dX11_evening_114 : decode cX11_evening 114 = .ok (.iload_n 3, 1) := by decide +kernel
theorem dX11_evening_115 : decode cX11_evening 115 = .ok (.iload 11, 2) := by decide +kernel
theorem dX11_evening_117 : decode cX11_evening 117 = .ok (.iconst 4, 1) := by decide +kernel
theorem dX11_evening_118 : decode cX11_evening 118 = .ok (.irem, 1) := by decide +kernel
theorem dX11_evening_119 : decode cX11_evening 119 = .ok (.invokestatic 142, 3) := by decide +kernel
theorem dX11_evening_122 : decode cX11_evening 122 = .ok (.iadd, 1) := by decide +kernel
theorem dX11_evening_123 : decode cX11_evening 123 = .ok (.iload 4, 2) := by decide +kernel
theorem dX11_evening_125 : decode cX11_evening 125 = .ok (.invokevirtual 138, 3) := by decide +kernel
theorem dX11_evening_128 : decode cX11_evening 128 = .ok (.iadd, 1) := by decide +kernel
theorem dX11_evening_129 : decode cX11_evening 129 = .ok (.istore 9, 2) := by decide +kernel
theorem dX11_evening_131 : decode cX11_evening 131 = .ok (.iinc 10 1, 3) := by decide +kernel
theorem dX11_evening_134 : decode cX11_evening 134 = .ok (.goto (-69), 3) := by decide +kernel
theorem dX11_evening_137 : decode cX11_evening 137 = .ok (.iload 9, 2) := by decide +kernel
theorem dX11_evening_139 : decode cX11_evening 139 = .ok (.ireturn, 1) := by decide +kernel
theorem dX11_play_0 : decode cX11_play 0 = .ok (.aload_n 0, 1) := by decide +kernel
theorem dX11_play_1 : decode cX11_play 1 = .ok (.iload_n 1, 1) := by decide +kernel
theorem dX11_play_2 : decode cX11_play 2 = .ok (.iload_n 2, 1) := by decide +kernel
theorem dX11_play_3 : decode cX11_play 3 = .ok (.iload_n 3, 1) := by decide +kernel
theorem dX11_play_4 : decode cX11_play 4 = .ok (.invokevirtual 132, 3) := by decide +kernel
theorem dX11_play_7 : decode cX11_play 7 = .ok (.ifCond .eq 42, 3) := by decide +kernel
theorem dX11_play_10 : decode cX11_play 10 = .ok (.iload 4, 2) := by decide +kernel
theorem dX11_play_12 : decode cX11_play 12 = .ok (.i2l, 1) := by decide +kernel
theorem dX11_play_13 : decode cX11_play 13 = .ok (.lconst 0, 1) := by decide +kernel
theorem dX11_play_14 : decode cX11_play 14 = .ok (.ldc2_w 136, 3) := by decide +kernel
theorem dX11_play_17 : decode cX11_play 17 = .ok (.invokestatic 40, 3) := by decide +kernel
theorem dX11_play_20 : decode cX11_play 20 = .ok (.ifCond .eq 29, 3) := by decide +kernel
theorem dX11_play_23 : decode cX11_play 23 = .ok (.iload 5, 2) := by decide +kernel
theorem dX11_play_25 : decode cX11_play 25 = .ok (.i2l, 1) := by decide +kernel
theorem dX11_play_26 : decode cX11_play 26 = .ok (.ldc2_w 222, 3) := by decide +kernel
theorem dX11_play_29 : decode cX11_play 29 = .ok (.lconst 1, 1) := by decide +kernel
theorem dX11_play_30 : decode cX11_play 30 = .ok (.invokestatic 40, 3) := by decide +kernel
theorem dX11_play_33 : decode cX11_play 33 = .ok (.ifCond .eq 16, 3) := by decide +kernel
theorem dX11_play_36 : decode cX11_play 36 = .ok (.iload 6, 2) := by decide +kernel
theorem dX11_play_38 : decode cX11_play 38 = .ok (.i2l, 1) := by decide +kernel
theorem dX11_play_39 : decode cX11_play 39 = .ok (.ldc2_w 222, 3) := by decide +kernel
theorem dX11_play_42 : decode cX11_play 42 = .ok (.lconst 1, 1) := by decide +kernel
theorem dX11_play_43 : decode cX11_play 43 = .ok (.invokestatic 40, 3) := by decide +kernel
theorem dX11_play_46 : decode cX11_play 46 = .ok (.ifCond .ne 8, 3) := by decide +kernel
theorem dX11_play_49 : decode cX11_play 49 = .ok (.aload_n 0, 1) := by decide +kernel
theorem dX11_play_50 : decode cX11_play 50 = .ok (.invokevirtual 55, 3) := by decide +kernel
theorem dX11_play_53 : decode cX11_play 53 = .ok (.ireturn, 1) := by decide +kernel
theorem dX11_play_54 : decode cX11_play 54 = .ok (.aload_n 0, 1) := by decide +kernel
theorem dX11_play_55 : decode cX11_play 55 = .ok (.getfield 7, 3) := by decide +kernel
theorem dX11_play_58 : decode cX11_play 58 = .ok (.iconst 5, 1) := by decide +kernel
theorem dX11_play_59 : decode cX11_play 59 = .ok (.iaload, 1) := by decide +kernel
theorem dX11_play_60 : decode cX11_play 60 = .ok (.bipush 10, 2) := by decide +kernel
theorem dX11_play_62 : decode cX11_play 62 = .ok (.if_icmp .ne 46, 3) := by decide +kernel
theorem dX11_play_65 : decode cX11_play 65 = .ok (.bipush 14, 2) := by decide +kernel
theorem dX11_play_67 : decode cX11_play 67 = .ok (.istore 7, 2) := by decide +kernel
theorem dX11_play_69 : decode cX11_play 69 = .ok (.iload 7, 2) := by decide +kernel
theorem dX11_play_71 : decode cX11_play 71 = .ok (.bipush 41, 2) := by decide +kernel
theorem dX11_play_73 : decode cX11_play 73 = .ok (.if_icmp .ge 25, 3) := by decide +kernel
theorem dX11_play_76 : decode cX11_play 76 = .ok (.aload_n 0, 1) := by decide +kernel
theorem dX11_play_77 : decode cX11_play 77 = .ok (.getfield 7, 3) := by decide +kernel
theorem dX11_play_80 : decode cX11_play 80 = .ok (.iload 7, 2) := by decide +kernel
theorem dX11_play_82 : decode cX11_play 82 = .ok (.aload_n 0, 1) := by decide +kernel
theorem dX11_play_83 : decode cX11_play 83 = .ok (.getfield 7, 3) := by decide +kernel
theorem dX11_play_86 : decode cX11_play 86 = .ok (.iload 7, 2) := by decide +kernel
theorem dX11_play_88 : decode cX11_play 88 = .ok (.iconst 3, 1) := by decide +kernel
theorem dX11_play_89 : decode cX11_play 89 = .ok (.iadd, 1) := by decide +kernel
theorem dX11_play_90 : decode cX11_play 90 = .ok (.iaload, 1) := by decide +kernel
theorem dX11_play_91 : decode cX11_play 91 = .ok (.iastore, 1) := by decide +kernel
theorem dX11_play_92 : decode cX11_play 92 = .ok (.iinc 7 1, 3) := by decide +kernel
theorem dX11_play_95 : decode cX11_play 95 = .ok (.goto (-26), 3) := by decide +kernel
theorem dX11_play_98 : decode cX11_play 98 = .ok (.aload_n 0, 1) := by decide +kernel
theorem dX11_play_99 : decode cX11_play 99 = .ok (.getfield 7, 3) := by decide +kernel
theorem dX11_play_102 : decode cX11_play 102 = .ok (.iconst 5, 1) := by decide +kernel
theorem dX11_play_103 : decode cX11_play 103 = .ok (.dup2, 1) := by decide +kernel
theorem dX11_play_104 : decode cX11_play 104 = .ok (.iaload, 1) := by decide +kernel
theorem dX11_play_105 : decode cX11_play 105 = .ok (.iconst 1, 1) := by decide +kernel
theorem dX11_play_106 : decode cX11_play 106 = .ok (.isub, 1) := by decide +kernel
theorem dX11_play_107 : decode cX11_play 107 = .ok (.iastore, 1) := by decide +kernel
theorem dX11_play_108 : decode cX11_play 108 = .ok (.bipush 14, 2) := by decide +kernel
theorem dX11_play_110 : decode cX11_play 110 = .ok (.iconst 3, 1) := by decide +kernel
theorem dX11_play_111 : decode cX11_play 111 = .ok (.aload_n 0, 1) := by decide +kernel
theorem dX11_play_112 : decode cX11_play 112 = .ok (.getfield 7, 3) := by decide +kernel
theorem dX11_play_115 : decode cX11_play 115 = .ok (.iconst 5, 1) := by decide +kernel
theorem dX11_play_116 : decode cX11_play 116 = .ok (.iaload, 1) := by decide +kernel
theorem dX11_play_117 : decode cX11_play 117 = .ok (.imul, 1) := by decide +kernel
theorem dX11_play_118 : decode cX11_play 118 = .ok (.iadd, 1) := by decide +kernel
theorem dX11_play_119 : decode cX11_play 119 = .ok (.istore 7, 2) := by decide +kernel
theorem dX11_play_121 : decode cX11_play 121 = .ok (.aload_n 0, 1) := by decide +kernel
theorem dX11_play_122 : decode cX11_play 122 = .ok (.getfield 7, 3) := by decide +kernel
theorem dX11_play_125 : decode cX11_play 125 = .ok (.iload 7, 2) := by decide +kernel
theorem dX11_play_127 : decode cX11_play 127 = .ok (.aload_n 0, 1) := by decide +kernel
theorem dX11_play_128 : decode cX11_play 128 = .ok (.getfield 7, 3) := by decide +kernel
theorem dX11_play_131 : decode cX11_play 131 = .ok (.iconst 2, 1) := by decide +kernel
theorem dX11_play_132 : decode cX11_play 132 = .ok (.iaload, 1) := by decide +kernel
theorem dX11_play_133 : decode cX11_play 133 = .ok (.iastore, 1) := by decide +kernel
theorem dX11_play_134 : decode cX11_play 134 = .ok (.aload_n 0, 1) := by decide +kernel
theorem dX11_play_135 : decode cX11_play 135 = .ok (.getfield 7, 3) := by decide +kernel
theorem dX11_play_138 : decode cX11_play 138 = .ok (.iload 7, 2) := by decide +kernel
theorem dX11_play_140 : decode cX11_play 140 = .ok (.iconst 1, 1) := by decide +kernel
theorem dX11_play_141 : decode cX11_play 141 = .ok (.iadd, 1) := by decide +kernel
theorem dX11_play_142 : decode cX11_play 142 = .ok (.aload_n 0, 1) := by decide +kernel
theorem dX11_play_143 : decode cX11_play 143 = .ok (.getfield 7, 3) := by decide +kernel
theorem dX11_play_146 : decode cX11_play 146 = .ok (.iconst 3, 1) := by decide +kernel
theorem dX11_play_147 : decode cX11_play 147 = .ok (.iaload, 1) := by decide +kernel
theorem dX11_play_148 : decode cX11_play 148 = .ok (.iastore, 1) := by decide +kernel
theorem dX11_play_149 : decode cX11_play 149 = .ok (.aload_n 0, 1) := by decide +kernel
theorem dX11_play_150 : decode cX11_play 150 = .ok (.getfield 7, 3) := by decide +kernel
theorem dX11_play_153 : decode cX11_play 153 = .ok (.iload 7, 2) := by decide +kernel
theorem dX11_play_155 : decode cX11_play 155 = .ok (.iconst 2, 1) := by decide +kernel
theorem dX11_play_156 : decode cX11_play 156 = .ok (.iadd, 1) := by decide +kernel
theorem dX11_play_157 : decode cX11_play 157 = .ok (.aload_n 0, 1) := by decide +kernel
theorem dX11_play_158 : decode cX11_play 158 = .ok (.getfield 7, 3) := by decide +kernel
theorem dX11_play_161 : decode cX11_play 161 = .ok (.iconst 4, 1) := by decide +kernel
theorem dX11_play_162 : decode cX11_play 162 = .ok (.iaload, 1) := by decide +kernel
theorem dX11_play_163 : decode cX11_play 163 = .ok (.iastore, 1) := by decide +kernel
theorem dX11_play_164 : decode cX11_play 164 = .ok (.aload_n 0, 1) := by decide +kernel
theorem dX11_play_165 : decode cX11_play 165 = .ok (.getfield 7, 3) := by decide +kernel
theorem dX11_play_168 : decode cX11_play 168 = .ok (.iconst 5, 1) := by decide +kernel
theorem dX11_play_169 : decode cX11_play 169 = .ok (.dup2, 1) := by decide +kernel
theorem dX11_play_170 : decode cX11_play 170 = .ok (.iaload, 1) := by decide +kernel
theorem dX11_play_171 : decode cX11_play 171 = .ok (.iconst 1, 1) := by decide +kernel
theorem dX11_play_172 : decode cX11_play 172 = .ok (.iadd, 1) := by decide +kernel
theorem dX11_play_173 : decode cX11_play 173 = .ok (.iastore, 1) := by decide +kernel
theorem dX11_play_174 : decode cX11_play 174 = .ok (.aload_n 0, 1) := by decide +kernel
theorem dX11_play_175 : decode cX11_play 175 = .ok (.iload_n 1, 1) := by decide +kernel
theorem dX11_play_176 : decode cX11_play 176 = .ok (.iload_n 2, 1) := by decide +kernel
theorem dX11_play_177 : decode cX11_play 177 = .ok (.iload 5, 2) := by decide +kernel
theorem dX11_play_179 : decode cX11_play 179 = .ok (.iadd, 1) := by decide +kernel
theorem dX11_play_180 : decode cX11_play 180 = .ok (.iload_n 3, 1) := by decide +kernel
theorem dX11_play_181 : decode cX11_play 181 = .ok (.iload 6, 2) := by decide +kernel
theorem dX11_play_183 : decode cX11_play 183 = .ok (.iadd, 1) := by decide +kernel
theorem dX11_play_184 : decode cX11_play 184 = .ok (.iload 4, 2) := by decide +kernel
theorem dX11_play_186 : decode cX11_play 186 = .ok (.invokevirtual 138, 3) := by decide +kernel
theorem dX11_play_189 : decode cX11_play 189 = .ok (.istore 8, 2) := by decide +kernel
theorem dX11_play_191 : decode cX11_play 191 = .ok (.aload_n 0, 1) := by decide +kernel
theorem dX11_play_192 : decode cX11_play 192 = .ok (.getfield 7, 3) := by decide +kernel
theorem dX11_play_195 : decode cX11_play 195 = .ok (.iconst 2, 1) := by decide +kernel
theorem dX11_play_196 : decode cX11_play 196 = .ok (.aload_n 0, 1) := by decide +kernel
theorem dX11_play_197 : decode cX11_play 197 = .ok (.getfield 7, 3) := by decide +kernel
theorem dX11_play_200 : decode cX11_play 200 = .ok (.iconst 4, 1) := by decide +kernel
theorem dX11_play_201 : decode cX11_play 201 = .ok (.iaload, 1) := by decide +kernel
theorem dX11_play_202 : decode cX11_play 202 = .ok (.iadd, 1) := by decide +kernel
theorem dX11_play_203 : decode cX11_play 203 = .ok (.dup2, 1) := by decide +kernel
theorem dX11_play_204 : decode cX11_play 204 = .ok (.iaload, 1) := by decide +kernel
theorem dX11_play_205 : decode cX11_play 205 = .ok (.iload 8, 2) := by decide +kernel
theorem dX11_play_207 : decode cX11_play 207 = .ok (.iadd, 1) := by decide +kernel
theorem dX11_play_208 : decode cX11_play 208 = .ok (.iastore, 1) := by decide +kernel
theorem dX11_play_209 : decode cX11_play 209 = .ok (.aload_n 0, 1) := by decide +kernel
theorem dX11_play_210 : decode cX11_play 210 = .ok (.getfield 7, 3) := by decide +kernel
theorem dX11_play_213 : decode cX11_play 213 = .ok (.iconst 4, 1) := by decide +kernel
theorem dX11_play_214 : decode cX11_play 214 = .ok (.iconst 1, 1) := by decide +kernel
theorem dX11_play_215 : decode cX11_play 215 = .ok (.aload_n 0, 1) := by decide +kernel
theorem dX11_play_216 : decode cX11_play 216 = .ok (.getfield 7, 3) := by decide +kernel
theorem dX11_play_219 : decode cX11_play 219 = .ok (.iconst 4, 1) := by decide +kernel
theorem dX11_play_220 : decode cX11_play 220 = .ok (.iaload, 1) := by decide +kernel
theorem dX11_play_221 : decode cX11_play 221 = .ok (.isub, 1) := by decide +kernel
theorem dX11_play_222 : decode cX11_play 222 = .ok (.iastore, 1) := by decide +kernel
theorem dX11_play_223 : decode cX11_play 223 = .ok (.iload 8, 2) := by decide +kernel
theorem dX11_play_225 : decode cX11_play 225 = .ok (.ireturn, 1) := by decide +kernel
theorem dX11_undo_0 : decode cX11_undo 0 = .ok (.aload_n 0, 1) := by decide +kernel
theorem dX11_undo_1 : decode cX11_undo 1 = .ok (.getfield 7, 3) := by decide +kernel
theorem dX11_undo_4 : decode cX11_undo 4 = .ok (.iconst 5, 1) := by decide +kernel
theorem dX11_undo_5 : decode cX11_undo 5 = .ok (.iaload, 1) := by decide +kernel
theorem dX11_undo_6 : decode cX11_undo 6 = .ok (.ifCond .ne 8, 3) := by decide +kernel
theorem dX11_undo_9 : decode cX11_undo 9 = .ok (.aload_n 0, 1) := by decide +kernel
theorem dX11_undo_10 : decode cX11_undo 10 = .ok (.invokevirtual 186, 3) := by decide +kernel
theorem dX11_undo_13 : decode cX11_undo 13 = .ok (.ireturn, 1) := by decide +kernel
theorem dX11_undo_14 : decode cX11_undo 14 = .ok (.aload_n 0, 1) := by decide +kernel
theorem dX11_undo_15 : decode cX11_undo 15 = .ok (.getfield 7, 3) := by decide +kernel
theorem dX11_undo_18 : decode cX11_undo 18 = .ok (.iconst 5, 1) := by decide +kernel
theorem dX11_undo_19 : decode cX11_undo 19 = .ok (.dup2, 1) := by decide +kernel
theorem dX11_undo_20 : decode cX11_undo 20 = .ok (.iaload, 1) := by decide +kernel
theorem dX11_undo_21 : decode cX11_undo 21 = .ok (.iconst 1, 1) := by decide +kernel
theorem dX11_undo_22 : decode cX11_undo 22 = .ok (.isub, 1) := by decide +kernel
theorem dX11_undo_23 : decode cX11_undo 23 = .ok (.iastore, 1) := by decide +kernel
theorem dX11_undo_24 : decode cX11_undo 24 = .ok (.bipush 14, 2) := by decide +kernel
theorem dX11_undo_26 : decode cX11_undo 26 = .ok (.iconst 3, 1) := by decide +kernel
theorem dX11_undo_27 : decode cX11_undo 27 = .ok (.aload_n 0, 1) := by decide +kernel
theorem dX11_undo_28 : decode cX11_undo 28 = .ok (.getfield 7, 3) := by decide +kernel
theorem dX11_undo_31 : decode cX11_undo 31 = .ok (.iconst 5, 1) := by decide +kernel
theorem dX11_undo_32 : decode cX11_undo 32 = .ok (.iaload, 1) := by decide +kernel
theorem dX11_undo_33 : decode cX11_undo 33 = .ok (.imul, 1) := by decide +kernel
theorem dX11_undo_34 : decode cX11_undo 34 = .ok (.iadd, 1) := by decide +kernel
theorem dX11_undo_35 : decode cX11_undo 35 = .ok (.istore_n 1, 1) := by decide +kernel
theorem dX11_undo_36 : decode cX11_undo 36 = .ok (.aload_n 0, 1) := by decide +kernel
theorem dX11_undo_37 : decode cX11_undo 37 = .ok (.getfield 7, 3) := by decide +kernel
theorem dX11_undo_40 : decode cX11_undo 40 = .ok (.iconst 2, 1) := by decide +kernel
theorem dX11_undo_41 : decode cX11_undo 41 = .ok (.aload_n 0, 1) := by decide +kernel
theorem dX11_undo_42 : decode cX11_undo 42 = .ok (.getfield 7, 3) := by decide +kernel
theorem dX11_undo_45 : decode cX11_undo 45 = .ok (.iload_n 1, 1) := by decide +kernel
theorem dX11_undo_46 : decode cX11_undo 46 = .ok (.iaload, 1) := by decide +kernel
theorem dX11_undo_47 : decode cX11_undo 47 = .ok (.iastore, 1) := by decide +kernel
theorem dX11_undo_48 : decode cX11_undo 48 = .ok (.aload_n 0, 1) := by decide +kernel
theorem dX11_undo_49 : decode cX11_undo 49 = .ok (.getfield 7, 3) := by decide +kernel
theorem dX11_undo_52 : decode cX11_undo 52 = .ok (.iconst 3, 1) := by decide +kernel
theorem dX11_undo_53 : decode cX11_undo 53 = .ok (.aload_n 0, 1) := by decide +kernel
theorem dX11_undo_54 : decode cX11_undo 54 = .ok (.getfield 7, 3) := by decide +kernel
theorem dX11_undo_57 : decode cX11_undo 57 = .ok (.iload_n 1, 1) := by decide +kernel
theorem dX11_undo_58 : decode cX11_undo 58 = .ok (.iconst 1, 1) := by decide +kernel
theorem dX11_undo_59 : decode cX11_undo 59 = .ok (.iadd, 1) := by decide +kernel
theorem dX11_undo_60 : decode cX11_undo 60 = .ok (.iaload, 1) := by decide +kernel
theorem dX11_undo_61 : decode cX11_undo 61 = .ok (.iastore, 1) := by decide +kernel
theorem dX11_undo_62 : decode cX11_undo 62 = .ok (.aload_n 0, 1) := by decide +kernel
theorem dX11_undo_63 : decode cX11_undo 63 = .ok (.getfield 7, 3) := by decide +kernel
theorem dX11_undo_66 : decode cX11_undo 66 = .ok (.iconst 4, 1) := by decide +kernel
theorem dX11_undo_67 : decode cX11_undo 67 = .ok (.aload_n 0, 1) := by decide +kernel
theorem dX11_undo_68 : decode cX11_undo 68 = .ok (.getfield 7, 3) := by decide +kernel
theorem dX11_undo_71 : decode cX11_undo 71 = .ok (.iload_n 1, 1) := by decide +kernel
theorem dX11_undo_72 : decode cX11_undo 72 = .ok (.iconst 2, 1) := by decide +kernel
theorem dX11_undo_73 : decode cX11_undo 73 = .ok (.iadd, 1) := by decide +kernel
theorem dX11_undo_74 : decode cX11_undo 74 = .ok (.iaload, 1) := by decide +kernel
theorem dX11_undo_75 : decode cX11_undo 75 = .ok (.iastore, 1) := by decide +kernel
theorem dX11_undo_76 : decode cX11_undo 76 = .ok (.iconst 1, 1) := by decide +kernel
theorem dX11_undo_77 : decode cX11_undo 77 = .ok (.ireturn, 1) := by decide +kernel
theorem dX11_score_0 : decode cX11_score 0 = .ok (.iload_n 1, 1) := by decide +kernel
theorem dX11_score_1 : decode cX11_score 1 = .ok (.i2l, 1) := by decide +kernel
theorem dX11_score_2 : decode cX11_score 2 = .ok (.lconst 0, 1) := by decide +kernel
theorem dX11_score_3 : decode cX11_score 3 = .ok (.lconst 1, 1) := by decide +kernel
theorem dX11_score_4 : decode cX11_score 4 = .ok (.invokestatic 40, 3) := by decide +kernel
theorem dX11_score_7 : decode cX11_score 7 = .ok (.ifCond .eq 14, 3) := by decide +kernel
theorem dX11_score_10 : decode cX11_score 10 = .ok (.aload_n 0, 1) := by decide +kernel
theorem dX11_score_11 : decode cX11_score 11 = .ok (.getfield 7, 3) := by decide +kernel
theorem dX11_score_14 : decode cX11_score 14 = .ok (.iconst 2, 1) := by decide +kernel
theorem dX11_score_15 : decode cX11_score 15 = .ok (.iload_n 1, 1) := by decide +kernel
theorem dX11_score_16 : decode cX11_score 16 = .ok (.iadd, 1) := by decide +kernel
theorem dX11_score_17 : decode cX11_score 17 = .ok (.iaload, 1) := by decide +kernel
theorem dX11_score_18 : decode cX11_score 18 = .ok (.goto 7, 3) := by decide +kernel
theorem dX11_score_21 : decode cX11_score 21 = .ok (.aload_n 0, 1) := by decide +kernel
theorem dX11_score_22 : decode cX11_score 22 = .ok (.invokevirtual 55, 3) := by decide +kernel
theorem dX11_score_25 : decode cX11_score 25 = .ok (.ireturn, 1) := by decide +kernel
theorem dX11_on_0 : decode cX11_on 0 = .ok (.aload_n 0, 1) := by decide +kernel
theorem dX11_on_1 : decode cX11_on 1 = .ok (.getfield 7, 3) := by decide +kernel
theorem dX11_on_4 : decode cX11_on 4 = .ok (.iconst 4, 1) := by decide +kernel
theorem dX11_on_5 : decode cX11_on 5 = .ok (.iaload, 1) := by decide +kernel
theorem dX11_on_6 : decode cX11_on 6 = .ok (.ireturn, 1) := by decide +kernel
theorem dX11_part_0 : decode cX11_part 0 = .ok (.iload_n 1, 1) := by decide +kernel
theorem dX11_part_1 : decode cX11_part 1 = .ok (.ifCond .ne 10, 3) := by decide +kernel
theorem dX11_part_4 : decode cX11_part 4 = .ok (.aload_n 0, 1) := by decide +kernel
theorem dX11_part_5 : decode cX11_part 5 = .ok (.getfield 50, 3) := by decide +kernel
theorem dX11_part_8 : decode cX11_part 8 = .ok (.goto 20, 3) := by decide +kernel
theorem dX11_part_11 : decode cX11_part 11 = .ok (.iload_n 1, 1) := by decide +kernel
theorem dX11_part_12 : decode cX11_part 12 = .ok (.iconst 1, 1) := by decide +kernel
theorem dX11_part_13 : decode cX11_part 13 = .ok (.if_icmp .ne 10, 3) := by decide +kernel
theorem dX11_part_16 : decode cX11_part 16 = .ok (.aload_n 0, 1) := by decide +kernel
theorem dX11_part_17 : decode cX11_part 17 = .ok (.getfield 29, 3) := by decide +kernel
theorem dX11_part_20 : decode cX11_part 20 = .ok (.goto 8, 3) := by decide +kernel
theorem dX11_part_23 : decode cX11_part 23 = .ok (.aload_n 0, 1) := by decide +kernel
theorem dX11_part_24 : decode cX11_part 24 = .ok (.invokevirtual 55, 3) := by decide +kernel
theorem dX11_part_27 : decode cX11_part 27 = .ok (.i2l, 1) := by decide +kernel
theorem dX11_part_28 : decode cX11_part 28 = .ok (.lreturn, 1) := by decide +kernel
theorem dX11_image_0 : decode cX11_image 0 = .ok (.iload_n 1, 1) := by decide +kernel
theorem dX11_image_1 : decode cX11_image 1 = .ok (.i2l, 1) := by decide +kernel
theorem dX11_image_2 : decode cX11_image 2 = .ok (.lconst 0, 1) := by decide +kernel
theorem dX11_image_3 : decode cX11_image 3 = .ok (.lconst 1, 1) := by decide +kernel
theorem dX11_image_4 : decode cX11_image 4 = .ok (.invokestatic 40, 3) := by decide +kernel
theorem dX11_image_7 : decode cX11_image 7 = .ok (.ifCond .ne 8, 3) := by decide +kernel
theorem dX11_image_10 : decode cX11_image 10 = .ok (.aload_n 0, 1) := by decide +kernel
theorem dX11_image_11 : decode cX11_image 11 = .ok (.invokevirtual 55, 3) := by decide +kernel
theorem dX11_image_14 : decode cX11_image 14 = .ok (.ireturn, 1) := by decide +kernel
theorem dX11_image_15 : decode cX11_image 15 = .ok (.iconst 0, 1) := by decide +kernel
theorem dX11_image_16 : decode cX11_image 16 = .ok (.istore_n 2, 1) := by decide +kernel
theorem dX11_image_17 : decode cX11_image 17 = .ok (.iload_n 2, 1) := by decide +kernel
theorem dX11_image_18 : decode cX11_image 18 = .ok (.bipush 117, 2) := by decide +kernel
theorem dX11_image_20 : decode cX11_image 20 = .ok (.if_icmp .ge 26, 3) := by decide +kernel
theorem dX11_image_23 : decode cX11_image 23 = .ok (.aload_n 0, 1) := by decide +kernel
theorem dX11_image_24 : decode cX11_image 24 = .ok (.getfield 16, 3) := by decide +kernel
theorem dX11_image_27 : decode cX11_image 27 = .ok (.bipush 117, 2) := by decide +kernel
theorem dX11_image_29 : decode cX11_image 29 = .ok (.iload_n 1, 1) := by decide +kernel
theorem dX11_image_30 : decode cX11_image 30 = .ok (.imul, 1) := by decide +kernel
theorem dX11_image_31 : decode cX11_image 31 = .ok (.iload_n 2, 1) := by decide +kernel
theorem dX11_image_32 : decode cX11_image 32 = .ok (.iadd, 1) := by decide +kernel
theorem dX11_image_33 : decode cX11_image 33 = .ok (.aload_n 0, 1) := by decide +kernel
theorem dX11_image_34 : decode cX11_image 34 = .ok (.getfield 7, 3) := by decide +kernel
theorem dX11_image_37 : decode cX11_image 37 = .ok (.iload_n 2, 1) := by decide +kernel
theorem dX11_image_38 : decode cX11_image 38 = .ok (.iaload, 1) := by decide +kernel
theorem dX11_image_39 : decode cX11_image 39 = .ok (.iastore, 1) := by decide +kernel
theorem dX11_image_40 : decode cX11_image 40 = .ok (.iinc 2 1, 3) := by decide +kernel
theorem dX11_image_43 : decode cX11_image 43 = .ok (.goto (-26), 3) := by decide +kernel
theorem dX11_image_46 : decode cX11_image 46 = .ok (.aload_n 0, 1) := by decide +kernel
theorem dX11_image_47 : decode cX11_image 47 = .ok (.getfield 19, 3) := by decide +kernel
theorem dX11_image_50 : decode cX11_image 50 = .ok (.iload_n 1, 1) := by decide +kernel
theorem dX11_image_51 : decode cX11_image 51 = .ok (.iconst 1, 1) := by decide +kernel
theorem dX11_image_52 : decode cX11_image 52 = .ok (.bastore, 1) := by decide +kernel
theorem dX11_image_53 : decode cX11_image 53 = .ok (.iconst 1, 1) := by decide +kernel
theorem dX11_image_54 : decode cX11_image 54 = .ok (.ireturn, 1) := by decide +kernel
theorem dX11_from_0 : decode cX11_from 0 = .ok (.iload_n 1, 1) := by decide +kernel
theorem dX11_from_1 : decode cX11_from 1 = .ok (.i2l, 1) := by decide +kernel
theorem dX11_from_2 : decode cX11_from 2 = .ok (.lconst 0, 1) := by decide +kernel
theorem dX11_from_3 : decode cX11_from 3 = .ok (.lconst 1, 1) := by decide +kernel
theorem dX11_from_4 : decode cX11_from 4 = .ok (.invokestatic 40, 3) := by decide +kernel
theorem dX11_from_7 : decode cX11_from 7 = .ok (.ifCond .ne 8, 3) := by decide +kernel
theorem dX11_from_10 : decode cX11_from 10 = .ok (.aload_n 0, 1) := by decide +kernel
theorem dX11_from_11 : decode cX11_from 11 = .ok (.invokevirtual 55, 3) := by decide +kernel
theorem dX11_from_14 : decode cX11_from 14 = .ok (.ireturn, 1) := by decide +kernel
theorem dX11_from_15 : decode cX11_from 15 = .ok (.aload_n 0, 1) := by decide +kernel
theorem dX11_from_16 : decode cX11_from 16 = .ok (.getfield 19, 3) := by decide +kernel
theorem dX11_from_19 : decode cX11_from 19 = .ok (.iload_n 1, 1) := by decide +kernel
theorem dX11_from_20 : decode cX11_from 20 = .ok (.baload, 1) := by decide +kernel
theorem dX11_from_21 : decode cX11_from 21 = .ok (.ifCond .ne 8, 3) := by decide +kernel
theorem dX11_from_24 : decode cX11_from 24 = .ok (.aload_n 0, 1) := by decide +kernel
theorem dX11_from_25 : decode cX11_from 25 = .ok (.invokevirtual 186, 3) := by decide +kernel
theorem dX11_from_28 : decode cX11_from 28 = .ok (.ireturn, 1) := by decide +kernel
theorem dX11_from_29 : decode cX11_from 29 = .ok (.iconst 0, 1) := by decide +kernel
theorem dX11_from_30 : decode cX11_from 30 = .ok (.istore_n 2, 1) := by decide +kernel
theorem dX11_from_31 : decode cX11_from 31 = .ok (.iload_n 2, 1) := by decide +kernel
theorem dX11_from_32 : decode cX11_from 32 = .ok (.bipush 117, 2) := by decide +kernel
theorem dX11_from_34 : decode cX11_from 34 = .ok (.if_icmp .ge 26, 3) := by decide +kernel
theorem dX11_from_37 : decode cX11_from 37 = .ok (.aload_n 0, 1) := by decide +kernel
theorem dX11_from_38 : decode cX11_from 38 = .ok (.getfield 7, 3) := by decide +kernel
theorem dX11_from_41 : decode cX11_from 41 = .ok (.iload_n 2, 1) := by decide +kernel
theorem dX11_from_42 : decode cX11_from 42 = .ok (.aload_n 0, 1) := by decide +kernel
theorem dX11_from_43 : decode cX11_from 43 = .ok (.getfield 16, 3) := by decide +kernel
theorem dX11_from_46 : decode cX11_from 46 = .ok (.bipush 117, 2) := by decide +kernel
theorem dX11_from_48 : decode cX11_from 48 = .ok (.iload_n 1, 1) := by decide +kernel
theorem dX11_from_49 : decode cX11_from 49 = .ok (.imul, 1) := by decide +kernel
theorem dX11_from_50 : decode cX11_from 50 = .ok (.iload_n 2, 1) := by decide +kernel
theorem dX11_from_51 : decode cX11_from 51 = .ok (.iadd, 1) := by decide +kernel
theorem dX11_from_52 : decode cX11_from 52 = .ok (.iaload, 1) := by decide +kernel
theorem dX11_from_53 : decode cX11_from 53 = .ok (.iastore, 1) := by decide +kernel
theorem dX11_from_54 : decode cX11_from 54 = .ok (.iinc 2 1, 3) := by decide +kernel
theorem dX11_from_57 : decode cX11_from 57 = .ok (.goto (-26), 3) := by decide +kernel
theorem dX11_from_60 : decode cX11_from 60 = .ok (.iconst 1, 1) := by decide +kernel
theorem dX11_from_61 : decode cX11_from 61 = .ok (.ireturn, 1) := by decide +kernel
theorem dX11_status_0 : decode cX11_status 0 = .ok (.iload_n 1, 1) := by decide +kernel
theorem dX11_status_1 : decode cX11_status 1 = .ok (.i2l, 1) := by decide +kernel
theorem dX11_status_2 : decode cX11_status 2 = .ok (.lconst 0, 1) := by decide +kernel
theorem dX11_status_3 : decode cX11_status 3 = .ok (.ldc2_w 224, 3) := by decide +kernel
theorem dX11_status_6 : decode cX11_status 6 = .ok (.invokestatic 40, 3) := by decide +kernel
theorem dX11_status_9 : decode cX11_status 9 = .ok (.ifCond .eq 12, 3) := by decide +kernel
theorem dX11_status_12 : decode cX11_status 12 = .ok (.aload_n 0, 1) := by decide +kernel
theorem dX11_status_13 : decode cX11_status 13 = .ok (.getfield 26, 3) := by decide +kernel
theorem dX11_status_16 : decode cX11_status 16 = .ok (.iload_n 1, 1) := by decide +kernel
theorem dX11_status_17 : decode cX11_status 17 = .ok (.iaload, 1) := by decide +kernel
theorem dX11_status_18 : decode cX11_status 18 = .ok (.goto 8, 3) := by decide +kernel
theorem dX11_status_21 : decode cX11_status 21 = .ok (.aload_n 0, 1) := by decide +kernel
theorem dX11_status_22 : decode cX11_status 22 = .ok (.iconst (-1), 1) := by decide +kernel
theorem dX11_status_23 : decode cX11_status 23 = .ok (.invokevirtual 156, 3) := by decide +kernel
theorem dX11_status_26 : decode cX11_status 26 = .ok (.ireturn, 1) := by decide +kernel
theorem dX11_countOf_0 : decode cX11_countOf 0 = .ok (.iload_n 1, 1) := by decide +kernel
theorem dX11_countOf_1 : decode cX11_countOf 1 = .ok (.ifCond .ne 12, 3) := by decide +kernel
theorem dX11_countOf_4 : decode cX11_countOf 4 = .ok (.aload_n 0, 1) := by decide +kernel
theorem dX11_countOf_5 : decode cX11_countOf 5 = .ok (.getfield 7, 3) := by decide +kernel
theorem dX11_countOf_8 : decode cX11_countOf 8 = .ok (.iconst 0, 1) := by decide +kernel
theorem dX11_countOf_9 : decode cX11_countOf 9 = .ok (.iaload, 1) := by decide +kernel
theorem dX11_countOf_10 : decode cX11_countOf 10 = .ok (.goto 50, 3) := by decide +kernel
theorem dX11_countOf_13 : decode cX11_countOf 13 = .ok (.iload_n 1, 1) := by decide +kernel
theorem dX11_countOf_14 : decode cX11_countOf 14 = .ok (.iconst 1, 1) := by decide +kernel
theorem dX11_countOf_15 : decode cX11_countOf 15 = .ok (.if_icmp .ne 12, 3) := by decide +kernel
theorem dX11_countOf_18 : decode cX11_countOf 18 = .ok (.aload_n 0, 1) := by decide +kernel
theorem dX11_countOf_19 : decode cX11_countOf 19 = .ok (.getfield 7, 3) := by decide +kernel
theorem dX11_countOf_22 : decode cX11_countOf 22 = .ok (.iconst 1, 1) := by decide +kernel
theorem dX11_countOf_23 : decode cX11_countOf 23 = .ok (.iaload, 1) := by decide +kernel
theorem dX11_countOf_24 : decode cX11_countOf 24 = .ok (.goto 36, 3) := by decide +kernel
theorem dX11_countOf_27 : decode cX11_countOf 27 = .ok (.iload_n 1, 1) := by decide +kernel
theorem dX11_countOf_28 : decode cX11_countOf 28 = .ok (.iconst 2, 1) := by decide +kernel
theorem dX11_countOf_29 : decode cX11_countOf 29 = .ok (.if_icmp .ne 12, 3) := by decide +kernel
theorem dX11_countOf_32 : decode cX11_countOf 32 = .ok (.aload_n 0, 1) := by decide +kernel
theorem dX11_countOf_33 : decode cX11_countOf 33 = .ok (.getfield 7, 3) := by decide +kernel
theorem dX11_countOf_36 : decode cX11_countOf 36 = .ok (.iconst 5, 1) := by decide +kernel
theorem dX11_countOf_37 : decode cX11_countOf 37 = .ok (.iaload, 1) := by decide +kernel
theorem dX11_countOf_38 : decode cX11_countOf 38 = .ok (.goto 22, 3) := by decide +kernel
theorem dX11_countOf_41 : decode cX11_countOf 41 = .ok (.iload_n 1, 1) := by decide +kernel
theorem dX11_countOf_42 : decode cX11_countOf 42 = .ok (.iconst 3, 1) := by decide +kernel
theorem dX11_countOf_43 : decode cX11_countOf 43 = .ok (.if_icmp .ne 10, 3) := by decide +kernel
theorem dX11_countOf_46 : decode cX11_countOf 46 = .ok (.aload_n 0, 1) := by decide +kernel
theorem dX11_countOf_47 : decode cX11_countOf 47 = .ok (.getfield 66, 3) := by decide +kernel
theorem dX11_countOf_50 : decode cX11_countOf 50 = .ok (.goto 10, 3) := by decide +kernel
theorem dX11_countOf_53 : decode cX11_countOf 53 = .ok (.aload_n 0, 1) := by decide +kernel
theorem dX11_countOf_54 : decode cX11_countOf 54 = .ok (.getfield 7, 3) := by decide +kernel
theorem dX11_countOf_57 : decode cX11_countOf 57 = .ok (.bipush 44, 2) := by decide +kernel
theorem dX11_countOf_59 : decode cX11_countOf 59 = .ok (.iaload, 1) := by decide +kernel
theorem dX11_countOf_60 : decode cX11_countOf 60 = .ok (.ireturn, 1) := by decide +kernel
theorem dX11_count_0 : decode cX11_count 0 = .ok (.iload_n 1, 1) := by decide +kernel
theorem dX11_count_1 : decode cX11_count 1 = .ok (.i2l, 1) := by decide +kernel
theorem dX11_count_2 : decode cX11_count 2 = .ok (.lconst 0, 1) := by decide +kernel
theorem dX11_count_3 : decode cX11_count 3 = .ok (.ldc2_w 154, 3) := by decide +kernel
theorem dX11_count_6 : decode cX11_count 6 = .ok (.invokestatic 40, 3) := by decide +kernel
theorem dX11_count_9 : decode cX11_count 9 = .ok (.ifCond .eq 11, 3) := by decide +kernel
theorem dX11_count_12 : decode cX11_count 12 = .ok (.aload_n 0, 1) := by decide +kernel
theorem dX11_count_13 : decode cX11_count 13 = .ok (.iload_n 1, 1) := by decide +kernel
theorem dX11_count_14 : decode cX11_count 14 = .ok (.invokevirtual 226, 3) := by decide +kernel
theorem dX11_count_17 : decode cX11_count 17 = .ok (.goto 7, 3) := by decide +kernel
theorem dX11_count_20 : decode cX11_count 20 = .ok (.aload_n 0, 1) := by decide +kernel
theorem dX11_count_21 : decode cX11_count 21 = .ok (.invokevirtual 55, 3) := by decide +kernel
theorem dX11_count_24 : decode cX11_count 24 = .ok (.ireturn, 1) := by decide +kernel
theorem dX11_digest_0 : decode cX11_digest 0 = .ok (.ldc2_w 229, 3) := by decide +kernel
theorem dX11_digest_3 : decode cX11_digest 3 = .ok (.lstore_n 1, 1) := by decide +kernel
theorem dX11_digest_4 : decode cX11_digest 4 = .ok (.iconst 0, 1) := by decide +kernel
theorem dX11_digest_5 : decode cX11_digest 5 = .ok (.istore_n 3, 1) := by decide +kernel
theorem dX11_digest_6 : decode cX11_digest 6 = .ok (.iload_n 3, 1) := by decide +kernel
theorem dX11_digest_7 : decode cX11_digest 7 = .ok (.iconst 5, 1) := by decide +kernel
theorem dX11_digest_8 : decode cX11_digest 8 = .ok (.if_icmp .ge 22, 3) := by decide +kernel
theorem dX11_digest_11 : decode cX11_digest 11 = .ok (.ldc2_w 231, 3) := by decide +kernel
theorem dX11_digest_14 : decode cX11_digest 14 = .ok (.lload_n 1, 1) := by decide +kernel
theorem dX11_digest_15 : decode cX11_digest 15 = .ok (.lmul, 1) := by decide +kernel
theorem dX11_digest_16 : decode cX11_digest 16 = .ok (.aload_n 0, 1) := by decide +kernel
theorem dX11_digest_17 : decode cX11_digest 17 = .ok (.iload_n 3, 1) := by decide +kernel
theorem dX11_digest_18 : decode cX11_digest 18 = .ok (.invokevirtual 226, 3) := by decide +kernel
theorem dX11_digest_21 : decode cX11_digest 21 = .ok (.i2l, 1) := by decide +kernel
theorem dX11_digest_22 : decode cX11_digest 22 = .ok (.ladd, 1) := by decide +kernel
theorem dX11_digest_23 : decode cX11_digest 23 = .ok (.lstore_n 1, 1) := by decide +kernel
theorem dX11_digest_24 : decode cX11_digest 24 = .ok (.iinc 3 1, 3) := by decide +kernel
theorem dX11_digest_27 : decode cX11_digest 27 = .ok (.goto (-21), 3) := by decide +kernel
theorem dX11_digest_30 : decode cX11_digest 30 = .ok (.iconst 0, 1) := by decide +kernel
theorem dX11_digest_31 : decode cX11_digest 31 = .ok (.istore_n 3, 1) := by decide +kernel
theorem dX11_digest_32 : decode cX11_digest 32 = .ok (.iload_n 3, 1) := by decide +kernel
theorem dX11_digest_33 : decode cX11_digest 33 = .ok (.aload_n 0, 1) := by decide +kernel
theorem dX11_digest_34 : decode cX11_digest 34 = .ok (.getfield 7, 3) := by decide +kernel
theorem dX11_digest_37 : decode cX11_digest 37 = .ok (.iconst 0, 1) := by decide +kernel
theorem dX11_digest_38 : decode cX11_digest 38 = .ok (.iaload, 1) := by decide +kernel
theorem dX11_digest_39 : decode cX11_digest 39 = .ok (.if_icmp .ge 26, 3) := by decide +kernel
theorem dX11_digest_42 : decode cX11_digest 42 = .ok (.ldc2_w 231, 3) := by decide +kernel
theorem dX11_digest_45 : decode cX11_digest 45 = .ok (.lload_n 1, 1) := by decide +kernel
theorem dX11_digest_46 : decode cX11_digest 46 = .ok (.lmul, 1) := by decide +kernel
theorem dX11_digest_47 : decode cX11_digest 47 = .ok (.aload_n 0, 1) := by decide +kernel
theorem dX11_digest_48 : decode cX11_digest 48 = .ok (.getfield 7, 3) := by decide +kernel
theorem dX11_digest_51 : decode cX11_digest 51 = .ok (.bipush 6, 2) := by decide +kernel
theorem dX11_digest_53 : decode cX11_digest 53 = .ok (.iload_n 3, 1) := by decide +kernel
theorem dX11_digest_54 : decode cX11_digest 54 = .ok (.iadd, 1) := by decide +kernel
theorem dX11_digest_55 : decode cX11_digest 55 = .ok (.iaload, 1) := by decide +kernel
theorem dX11_digest_56 : decode cX11_digest 56 = .ok (.i2l, 1) := by decide +kernel
theorem dX11_digest_57 : decode cX11_digest 57 = .ok (.ladd, 1) := by decide +kernel
theorem dX11_digest_58 : decode cX11_digest 58 = .ok (.lstore_n 1, 1) := by decide +kernel
theorem dX11_digest_59 : decode cX11_digest 59 = .ok (.iinc 3 1, 3) := by decide +kernel
theorem dX11_digest_62 : decode cX11_digest 62 = .ok (.goto (-30), 3) := by decide +kernel
theorem dX11_digest_65 : decode cX11_digest 65 = .ok (.ldc2_w 231, 3) := by decide +kernel
theorem dX11_digest_68 : decode cX11_digest 68 = .ok (.lload_n 1, 1) := by decide +kernel
theorem dX11_digest_69 : decode cX11_digest 69 = .ok (.lmul, 1) := by decide +kernel
theorem dX11_digest_70 : decode cX11_digest 70 = .ok (.aload_n 0, 1) := by decide +kernel
theorem dX11_digest_71 : decode cX11_digest 71 = .ok (.getfield 7, 3) := by decide +kernel
theorem dX11_digest_74 : decode cX11_digest 74 = .ok (.iconst 2, 1) := by decide +kernel
theorem dX11_digest_75 : decode cX11_digest 75 = .ok (.iaload, 1) := by decide +kernel
theorem dX11_digest_76 : decode cX11_digest 76 = .ok (.i2l, 1) := by decide +kernel
theorem dX11_digest_77 : decode cX11_digest 77 = .ok (.ladd, 1) := by decide +kernel
theorem dX11_digest_78 : decode cX11_digest 78 = .ok (.lstore_n 1, 1) := by decide +kernel
theorem dX11_digest_79 : decode cX11_digest 79 = .ok (.ldc2_w 231, 3) := by decide +kernel
theorem dX11_digest_82 : decode cX11_digest 82 = .ok (.lload_n 1, 1) := by decide +kernel
theorem dX11_digest_83 : decode cX11_digest 83 = .ok (.lmul, 1) := by decide +kernel
theorem dX11_digest_84 : decode cX11_digest 84 = .ok (.aload_n 0, 1) := by decide +kernel
theorem dX11_digest_85 : decode cX11_digest 85 = .ok (.getfield 7, 3) := by decide +kernel
theorem dX11_digest_88 : decode cX11_digest 88 = .ok (.iconst 3, 1) := by decide +kernel
theorem dX11_digest_89 : decode cX11_digest 89 = .ok (.iaload, 1) := by decide +kernel
theorem dX11_digest_90 : decode cX11_digest 90 = .ok (.i2l, 1) := by decide +kernel
theorem dX11_digest_91 : decode cX11_digest 91 = .ok (.ladd, 1) := by decide +kernel
theorem dX11_digest_92 : decode cX11_digest 92 = .ok (.lstore_n 1, 1) := by decide +kernel
theorem dX11_digest_93 : decode cX11_digest 93 = .ok (.ldc2_w 231, 3) := by decide +kernel
theorem dX11_digest_96 : decode cX11_digest 96 = .ok (.lload_n 1, 1) := by decide +kernel
theorem dX11_digest_97 : decode cX11_digest 97 = .ok (.lmul, 1) := by decide +kernel
theorem dX11_digest_98 : decode cX11_digest 98 = .ok (.aload_n 0, 1) := by decide +kernel
theorem dX11_digest_99 : decode cX11_digest 99 = .ok (.getfield 7, 3) := by decide +kernel
theorem dX11_digest_102 : decode cX11_digest 102 = .ok (.iconst 4, 1) := by decide +kernel
theorem dX11_digest_103 : decode cX11_digest 103 = .ok (.iaload, 1) := by decide +kernel
theorem dX11_digest_104 : decode cX11_digest 104 = .ok (.i2l, 1) := by decide +kernel
theorem dX11_digest_105 : decode cX11_digest 105 = .ok (.ladd, 1) := by decide +kernel
theorem dX11_digest_106 : decode cX11_digest 106 = .ok (.lstore_n 1, 1) := by decide +kernel
theorem dX11_digest_107 : decode cX11_digest 107 = .ok (.iconst 0, 1) := by decide +kernel
theorem dX11_digest_108 : decode cX11_digest 108 = .ok (.istore_n 3, 1) := by decide +kernel
theorem dX11_digest_109 : decode cX11_digest 109 = .ok (.iload_n 3, 1) := by decide +kernel
theorem dX11_digest_110 : decode cX11_digest 110 = .ok (.bipush 6, 2) := by decide +kernel
theorem dX11_digest_112 : decode cX11_digest 112 = .ok (.aload_n 0, 1) := by decide +kernel
theorem dX11_digest_113 : decode cX11_digest 113 = .ok (.getfield 7, 3) := by decide +kernel
theorem dX11_digest_116 : decode cX11_digest 116 = .ok (.bipush 44, 2) := by decide +kernel
theorem dX11_digest_118 : decode cX11_digest 118 = .ok (.iaload, 1) := by decide +kernel
theorem dX11_digest_119 : decode cX11_digest 119 = .ok (.imul, 1) := by decide +kernel
theorem dX11_digest_120 : decode cX11_digest 120 = .ok (.if_icmp .ge 26, 3) := by decide +kernel
theorem dX11_digest_123 : decode cX11_digest 123 = .ok (.ldc2_w 231, 3) := by decide +kernel
theorem dX11_digest_126 : decode cX11_digest 126 = .ok (.lload_n 1, 1) := by decide +kernel
theorem dX11_digest_127 : decode cX11_digest 127 = .ok (.lmul, 1) := by decide +kernel
theorem dX11_digest_128 : decode cX11_digest 128 = .ok (.aload_n 0, 1) := by decide +kernel
theorem dX11_digest_129 : decode cX11_digest 129 = .ok (.getfield 7, 3) := by decide +kernel
theorem dX11_digest_132 : decode cX11_digest 132 = .ok (.bipush 45, 2) := by decide +kernel
theorem dX11_digest_134 : decode cX11_digest 134 = .ok (.iload_n 3, 1) := by decide +kernel
theorem dX11_digest_135 : decode cX11_digest 135 = .ok (.iadd, 1) := by decide +kernel
theorem dX11_digest_136 : decode cX11_digest 136 = .ok (.iaload, 1) := by decide +kernel
theorem dX11_digest_137 : decode cX11_digest 137 = .ok (.i2l, 1) := by decide +kernel
theorem dX11_digest_138 : decode cX11_digest 138 = .ok (.ladd, 1) := by decide +kernel
theorem dX11_digest_139 : decode cX11_digest 139 = .ok (.lstore_n 1, 1) := by decide +kernel
theorem dX11_digest_140 : decode cX11_digest 140 = .ok (.iinc 3 1, 3) := by decide +kernel
theorem dX11_digest_143 : decode cX11_digest 143 = .ok (.goto (-34), 3) := by decide +kernel
theorem dX11_digest_146 : decode cX11_digest 146 = .ok (.ldc2_w 231, 3) := by decide +kernel
theorem dX11_digest_149 : decode cX11_digest 149 = .ok (.lload_n 1, 1) := by decide +kernel
theorem dX11_digest_150 : decode cX11_digest 150 = .ok (.lmul, 1) := by decide +kernel
theorem dX11_digest_151 : decode cX11_digest 151 = .ok (.aload_n 0, 1) := by decide +kernel
theorem dX11_digest_152 : decode cX11_digest 152 = .ok (.getfield 50, 3) := by decide +kernel
theorem dX11_digest_155 : decode cX11_digest 155 = .ok (.ladd, 1) := by decide +kernel
theorem dX11_digest_156 : decode cX11_digest 156 = .ok (.lstore_n 1, 1) := by decide +kernel
theorem dX11_digest_157 : decode cX11_digest 157 = .ok (.ldc2_w 231, 3) := by decide +kernel
theorem dX11_digest_160 : decode cX11_digest 160 = .ok (.lload_n 1, 1) := by decide +kernel
theorem dX11_digest_161 : decode cX11_digest 161 = .ok (.lmul, 1) := by decide +kernel
theorem dX11_digest_162 : decode cX11_digest 162 = .ok (.aload_n 0, 1) := by decide +kernel
theorem dX11_digest_163 : decode cX11_digest 163 = .ok (.getfield 29, 3) := by decide +kernel
theorem dX11_digest_166 : decode cX11_digest 166 = .ok (.ladd, 1) := by decide +kernel
theorem dX11_digest_167 : decode cX11_digest 167 = .ok (.lreturn, 1) := by decide +kernel
theorem dJ9_abs_0f7a4_0 : decode cJ9_abs_0f7a4 0 = .ok (.iload_n 0, 1) := by decide +kernel
theorem dJ9_abs_0f7a4_1 : decode cJ9_abs_0f7a4 1 = .ok (.ifCond .ge 8, 3) := by decide +kernel
theorem dJ9_abs_0f7a4_4 : decode cJ9_abs_0f7a4 4 = .ok (.iload_n 0, 1) := by decide +kernel
theorem dJ9_abs_0f7a4_5 : decode cJ9_abs_0f7a4 5 = .ok (.ineg, 1) := by decide +kernel
theorem dJ9_abs_0f7a4_6 : decode cJ9_abs_0f7a4 6 = .ok (.goto 4, 3) := by decide +kernel
theorem dJ9_abs_0f7a4_9 : decode cJ9_abs_0f7a4 9 = .ok (.iload_n 0, 1) := by decide +kernel
theorem dJ9_abs_0f7a4_10 : decode cJ9_abs_0f7a4 10 = .ok (.ireturn, 1) := by decide +kernel
theorem dJ9_abs_067f4_0 : decode cJ9_abs_067f4 0 = .ok (.lload_n 0, 1) := by decide +kernel
theorem dJ9_abs_067f4_1 : decode cJ9_abs_067f4 1 = .ok (.lconst 0, 1) := by decide +kernel
theorem dJ9_abs_067f4_2 : decode cJ9_abs_067f4 2 = .ok (.lcmp, 1) := by decide +kernel
theorem dJ9_abs_067f4_3 : decode cJ9_abs_067f4 3 = .ok (.ifCond .ge 8, 3) := by decide +kernel
theorem dJ9_abs_067f4_6 : decode cJ9_abs_067f4 6 = .ok (.lload_n 0, 1) := by decide +kernel
theorem dJ9_abs_067f4_7 : decode cJ9_abs_067f4 7 = .ok (.lneg, 1) := by decide +kernel
theorem dJ9_abs_067f4_8 : decode cJ9_abs_067f4 8 = .ok (.goto 4, 3) := by decide +kernel
theorem dJ9_abs_067f4_11 : decode cJ9_abs_067f4 11 = .ok (.lload_n 0, 1) := by decide +kernel
theorem dJ9_abs_067f4_12 : decode cJ9_abs_067f4 12 = .ok (.lreturn, 1) := by decide +kernel
theorem dJ9_max_7cf53_0 : decode cJ9_max_7cf53 0 = .ok (.iload_n 0, 1) := by decide +kernel
theorem dJ9_max_7cf53_1 : decode cJ9_max_7cf53 1 = .ok (.iload_n 1, 1) := by decide +kernel
theorem dJ9_max_7cf53_2 : decode cJ9_max_7cf53 2 = .ok (.if_icmp .lt 7, 3) := by decide +kernel
theorem dJ9_max_7cf53_5 : decode cJ9_max_7cf53 5 = .ok (.iload_n 0, 1) := by decide +kernel
theorem dJ9_max_7cf53_6 : decode cJ9_max_7cf53 6 = .ok (.goto 4, 3) := by decide +kernel
theorem dJ9_max_7cf53_9 : decode cJ9_max_7cf53 9 = .ok (.iload_n 1, 1) := by decide +kernel
theorem dJ9_max_7cf53_10 : decode cJ9_max_7cf53 10 = .ok (.ireturn, 1) := by decide +kernel
theorem dJ9_max_f86c9_0 : decode cJ9_max_f86c9 0 = .ok (.lload_n 0, 1) := by decide +kernel
theorem dJ9_max_f86c9_1 : decode cJ9_max_f86c9 1 = .ok (.lload_n 2, 1) := by decide +kernel
theorem dJ9_max_f86c9_2 : decode cJ9_max_f86c9 2 = .ok (.lcmp, 1) := by decide +kernel
theorem dJ9_max_f86c9_3 : decode cJ9_max_f86c9 3 = .ok (.ifCond .lt 7, 3) := by decide +kernel
theorem dJ9_max_f86c9_6 : decode cJ9_max_f86c9 6 = .ok (.lload_n 0, 1) := by decide +kernel
theorem dJ9_max_f86c9_7 : decode cJ9_max_f86c9 7 = .ok (.goto 4, 3) := by decide +kernel
theorem dJ9_max_f86c9_10 : decode cJ9_max_f86c9 10 = .ok (.lload_n 2, 1) := by decide +kernel
theorem dJ9_max_f86c9_11 : decode cJ9_max_f86c9 11 = .ok (.lreturn, 1) := by decide +kernel
theorem dJ9_min_7cf53_0 : decode cJ9_min_7cf53 0 = .ok (.iload_n 0, 1) := by decide +kernel
theorem dJ9_min_7cf53_1 : decode cJ9_min_7cf53 1 = .ok (.iload_n 1, 1) := by decide +kernel
theorem dJ9_min_7cf53_2 : decode cJ9_min_7cf53 2 = .ok (.if_icmp .gt 7, 3) := by decide +kernel
theorem dJ9_min_7cf53_5 : decode cJ9_min_7cf53 5 = .ok (.iload_n 0, 1) := by decide +kernel
theorem dJ9_min_7cf53_6 : decode cJ9_min_7cf53 6 = .ok (.goto 4, 3) := by decide +kernel
theorem dJ9_min_7cf53_9 : decode cJ9_min_7cf53 9 = .ok (.iload_n 1, 1) := by decide +kernel
theorem dJ9_min_7cf53_10 : decode cJ9_min_7cf53 10 = .ok (.ireturn, 1) := by decide +kernel
theorem dJ0_length_8abf5_0 : decode cJ0_length_8abf5 0 = .ok (.aload_n 0, 1) := by decide +kernel
theorem dJ0_length_8abf5_1 : decode cJ0_length_8abf5 1 = .ok (.getfield 9, 3) := by decide +kernel
theorem dJ0_length_8abf5_4 : decode cJ0_length_8abf5 4 = .ok (.arraylength, 1) := by decide +kernel
theorem dJ0_length_8abf5_5 : decode cJ0_length_8abf5 5 = .ok (.aload_n 0, 1) := by decide +kernel
theorem dJ0_length_8abf5_6 : decode cJ0_length_8abf5 6 = .ok (.invokevirtual 335, 3) := by decide +kernel
theorem dJ0_length_8abf5_9 : decode cJ0_length_8abf5 9 = .ok (.ishr, 1) := by decide +kernel
theorem dJ0_length_8abf5_10 : decode cJ0_length_8abf5 10 = .ok (.ireturn, 1) := by decide +kernel
theorem dJ0_charAt_5068e_0 : decode cJ0_charAt_5068e 0 = .ok (.aload_n 0, 1) := by decide +kernel
theorem dJ0_charAt_5068e_1 : decode cJ0_charAt_5068e 1 = .ok (.invokevirtual 492, 3) := by decide +kernel
theorem dJ0_charAt_5068e_4 : decode cJ0_charAt_5068e 4 = .ok (.ifCond .eq 12, 3) := by decide +kernel
theorem dJ0_charAt_5068e_7 : decode cJ0_charAt_5068e 7 = .ok (.aload_n 0, 1) := by decide +kernel
theorem dJ0_charAt_5068e_8 : decode cJ0_charAt_5068e 8 = .ok (.getfield 9, 3) := by decide +kernel
theorem dJ0_charAt_5068e_11 : decode cJ0_charAt_5068e 11 = .ok (.iload_n 1, 1) := by decide +kernel
theorem dJ0_charAt_5068e_12 : decode cJ0_charAt_5068e 12 = .ok (.invokestatic 495, 3) := by decide +kernel
theorem dJ0_charAt_5068e_15 : decode cJ0_charAt_5068e 15 = .ok (.ireturn, 1) := by decide +kernel
theorem dJ0_charAt_5068e_16 : decode cJ0_charAt_5068e 16 = .ok (.aload_n 0, 1) := by decide +kernel
theorem dJ0_charAt_5068e_17 : decode cJ0_charAt_5068e 17 = .ok (.getfield 9, 3) := by decide +kernel
theorem dJ0_charAt_5068e_20 : decode cJ0_charAt_5068e 20 = .ok (.iload_n 1, 1) := by decide +kernel
theorem dJ0_charAt_5068e_21 : decode cJ0_charAt_5068e 21 = .ok (.invokestatic 498, 3) := by decide +kernel
theorem dJ0_charAt_5068e_24 : decode cJ0_charAt_5068e 24 = .ok (.ireturn, 1) := by decide +kernel
theorem dJ0_coder_7d493_0 : decode cJ0_coder_7d493 0 = .ok (.getstatic 38, 3) := by decide +kernel
theorem dJ0_coder_7d493_3 : decode cJ0_coder_7d493 3 = .ok (.ifCond .eq 10, 3) := by decide +kernel
theorem dJ0_coder_7d493_6 : decode cJ0_coder_7d493 6 = .ok (.aload_n 0, 1) := by decide +kernel
theorem dJ0_coder_7d493_7 : decode cJ0_coder_7d493 7 = .ok (.getfield 15, 3) := by decide +kernel
theorem dJ0_coder_7d493_10 : decode cJ0_coder_7d493 10 = .ok (.goto 4, 3) := by decide +kernel
theorem dJ0_coder_7d493_13 : decode cJ0_coder_7d493 13 = .ok (.iconst 1, 1) := by decide +kernel
theorem dJ0_coder_7d493_14 : decode cJ0_coder_7d493 14 = .ok (.ireturn, 1) := by decide +kernel
theorem dJ0_isLatin1_aae02_0 : decode cJ0_isLatin1_aae02 0 = .ok (.getstatic 38, 3) := by decide +kernel
theorem dJ0_isLatin1_aae02_3 : decode cJ0_isLatin1_aae02 3 = .ok (.ifCond .eq 14, 3) := by decide +kernel
theorem dJ0_isLatin1_aae02_6 : decode cJ0_isLatin1_aae02 6 = .ok (.aload_n 0, 1) := by decide +kernel
theorem dJ0_isLatin1_aae02_7 : decode cJ0_isLatin1_aae02 7 = .ok (.getfield 15, 3) := by decide +kernel
theorem dJ0_isLatin1_aae02_10 : decode cJ0_isLatin1_aae02 10 = .ok (.ifCond .ne 7, 3) := by decide +kernel
theorem dJ0_isLatin1_aae02_13 : decode cJ0_isLatin1_aae02 13 = .ok (.iconst 1, 1) := by decide +kernel
theorem dJ0_isLatin1_aae02_14 : decode cJ0_isLatin1_aae02 14 = .ok (.goto 4, 3) := by decide +kernel
theorem dJ0_isLatin1_aae02_17 : decode cJ0_isLatin1_aae02 17 = .ok (.iconst 0, 1) := by decide +kernel
theorem dJ0_isLatin1_aae02_18 : decode cJ0_isLatin1_aae02 18 = .ok (.ireturn, 1) := by decide +kernel
theorem dJ0_checkIndex_df160_0 : decode cJ0_checkIndex_df160 0 = .ok (.iload_n 0, 1) := by decide +kernel
theorem dJ0_checkIndex_df160_1 : decode cJ0_checkIndex_df160 1 = .ok (.iload_n 1, 1) := by decide +kernel
theorem dJ0_checkIndex_df160_2 : decode cJ0_checkIndex_df160 2 = .ok (.getstatic 1053, 3) := by decide +kernel
theorem dJ0_checkIndex_df160_5 : decode cJ0_checkIndex_df160 5 = .ok (.invokestatic 1059, 3) := by decide +kernel
theorem dJ0_checkIndex_df160_8 : decode cJ0_checkIndex_df160 8 = .ok (.pop, 1) := by decide +kernel
theorem dJ0_checkIndex_df160_9 : decode cJ0_checkIndex_df160 9 = .ok (.return_, 1) := by decide +kernel
theorem dJ1_charAt_3b067_0 : decode cJ1_charAt_3b067 0 = .ok (.iload_n 1, 1) := by decide +kernel
theorem dJ1_charAt_3b067_1 : decode cJ1_charAt_3b067 1 = .ok (.aload_n 0, 1) := by decide +kernel
theorem dJ1_charAt_3b067_2 : decode cJ1_charAt_3b067 2 = .ok (.arraylength, 1) := by decide +kernel
theorem dJ1_charAt_3b067_3 : decode cJ1_charAt_3b067 3 = .ok (.invokestatic 9, 3) := by decide +kernel
theorem dJ1_charAt_3b067_6 : decode cJ1_charAt_3b067 6 = .ok (.aload_n 0, 1) := by decide +kernel
theorem dJ1_charAt_3b067_7 : decode cJ1_charAt_3b067 7 = .ok (.iload_n 1, 1) := by decide +kernel
theorem dJ1_charAt_3b067_8 : decode cJ1_charAt_3b067 8 = .ok (.baload, 1) := by decide +kernel
theorem dJ1_charAt_3b067_9 : decode cJ1_charAt_3b067 9 = .ok (.sipush 255, 3) := by decide +kernel
theorem dJ1_charAt_3b067_12 : decode cJ1_charAt_3b067 12 = .ok (.iand, 1) := by decide +kernel
theorem dJ1_charAt_3b067_13 : decode cJ1_charAt_3b067 13 = .ok (.i2c, 1) := by decide +kernel
theorem dJ1_charAt_3b067_14 : decode cJ1_charAt_3b067 14 = .ok (.ireturn, 1) := by decide +kernel
theorem dJ2_getChar_3b067_0 : decode cJ2_getChar_3b067 0 = .ok (.getstatic 44, 3) := by decide +kernel
theorem dJ2_getChar_3b067_3 : decode cJ2_getChar_3b067 3 = .ok (.ifCond .ne 25, 3) := by decide +kernel
theorem dJ2_getChar_3b067_6 : decode cJ2_getChar_3b067 6 = .ok (.iload_n 1, 1) := by decide +kernel
theorem dJ2_getChar_3b067_7 : decode cJ2_getChar_3b067 7 = .ok (.ifCond .lt 11, 3) := by decide +kernel
theorem dJ2_getChar_3b067_10 : decode cJ2_getChar_3b067 10 = .ok (.iload_n 1, 1) := by decide +kernel
theorem dJ2_getChar_3b067_11 : decode cJ2_getChar_3b067 11 = .ok (.aload_n 0, 1) := by decide +kernel
theorem dJ2_getChar_3b067_12 : decode cJ2_getChar_3b067 12 = .ok (.invokestatic 48, 3) := by decide +kernel
theorem dJ2_getChar_3b067_15 : decode cJ2_getChar_3b067 15 = .ok (.if_icmp .lt 13, 3) := by decide +kernel
theorem dJ2_getChar_3b067_18 : decode cJ2_getChar_3b067 18 = .ok (.new 52, 3) := by decide +kernel
theorem dJ2_getChar_3b067_21 : decode cJ2_getChar_3b067 21 = .ok (.dup, 1) := by decide +kernel
theorem dJ2_getChar_3b067_22 : decode cJ2_getChar_3b067 22 = .ok (.ldc 54, 2) := by decide +kernel
theorem dJ2_getChar_3b067_24 : decode cJ2_getChar_3b067 24 = .ok (.invokespecial 56, 3) := by decide +kernel
theorem dJ2_getChar_3b067_27 : decode cJ2_getChar_3b067 27 = .ok (.athrow, 1) := by decide +kernel
theorem dJ2_getChar_3b067_28 : decode cJ2_getChar_3b067 28 = .ok (.iload_n 1, 1) := by decide +kernel
theorem dJ2_getChar_3b067_29 : decode cJ2_getChar_3b067 29 = .ok (.iconst 1, 1) := by decide +kernel
theorem dJ2_getChar_3b067_30 : decode cJ2_getChar_3b067 30 = .ok (.ishl, 1) := by decide +kernel
theorem dJ2_getChar_3b067_31 : decode cJ2_getChar_3b067 31 = .ok (.istore_n 1, 1) := by decide +kernel
theorem dJ2_getChar_3b067_32 : decode cJ2_getChar_3b067 32 = .ok (.aload_n 0, 1) := by decide +kernel
theorem dJ2_getChar_3b067_33 : decode cJ2_getChar_3b067 33 = .ok (.iload_n 1, 1) := by decide +kernel
theorem dJ2_getChar_3b067_34 : decode cJ2_getChar_3b067 34 = .ok (.iinc 1 1, 3) := by decide +kernel
theorem dJ2_getChar_3b067_37 : decode cJ2_getChar_3b067 37 = .ok (.baload, 1) := by decide +kernel
theorem dJ2_getChar_3b067_38 : decode cJ2_getChar_3b067 38 = .ok (.sipush 255, 3) := by decide +kernel
theorem dJ2_getChar_3b067_41 : decode cJ2_getChar_3b067 41 = .ok (.iand, 1) := by decide +kernel
theorem dJ2_getChar_3b067_42 : decode cJ2_getChar_3b067 42 = .ok (.getstatic 59, 3) := by decide +kernel
theorem dJ2_getChar_3b067_45 : decode cJ2_getChar_3b067 45 = .ok (.ishl, 1) := by decide +kernel
theorem dJ2_getChar_3b067_46 : decode cJ2_getChar_3b067 46 = .ok (.aload_n 0, 1) := by decide +kernel
theorem dJ2_getChar_3b067_47 : decode cJ2_getChar_3b067 47 = .ok (.iload_n 1, 1) := by decide +kernel
theorem dJ2_getChar_3b067_48 : decode cJ2_getChar_3b067 48 = .ok (.baload, 1) := by decide +kernel
theorem dJ2_getChar_3b067_49 : decode cJ2_getChar_3b067 49 = .ok (.sipush 255, 3) := by decide +kernel
theorem dJ2_getChar_3b067_52 : decode cJ2_getChar_3b067 52 = .ok (.iand, 1) := by decide +kernel
theorem dJ2_getChar_3b067_53 : decode cJ2_getChar_3b067 53 = .ok (.getstatic 63, 3) := by decide +kernel
theorem dJ2_getChar_3b067_56 : decode cJ2_getChar_3b067 56 = .ok (.ishl, 1) := by decide +kernel
theorem dJ2_getChar_3b067_57 : decode cJ2_getChar_3b067 57 = .ok (.ior, 1) := by decide +kernel
theorem dJ2_getChar_3b067_58 : decode cJ2_getChar_3b067 58 = .ok (.i2c, 1) := by decide +kernel
theorem dJ2_getChar_3b067_59 : decode cJ2_getChar_3b067 59 = .ok (.ireturn, 1) := by decide +kernel
theorem dJ2_length_9d52b_0 : decode cJ2_length_9d52b 0 = .ok (.aload_n 0, 1) := by decide +kernel
theorem dJ2_length_9d52b_1 : decode cJ2_length_9d52b 1 = .ok (.arraylength, 1) := by decide +kernel
theorem dJ2_length_9d52b_2 : decode cJ2_length_9d52b 2 = .ok (.iconst 1, 1) := by decide +kernel
theorem dJ2_length_9d52b_3 : decode cJ2_length_9d52b 3 = .ok (.ishr, 1) := by decide +kernel
theorem dJ2_length_9d52b_4 : decode cJ2_length_9d52b 4 = .ok (.ireturn, 1) := by decide +kernel
theorem dJ2_charAt_3b067_0 : decode cJ2_charAt_3b067 0 = .ok (.iload_n 1, 1) := by decide +kernel
theorem dJ2_charAt_3b067_1 : decode cJ2_charAt_3b067 1 = .ok (.aload_n 0, 1) := by decide +kernel
theorem dJ2_charAt_3b067_2 : decode cJ2_charAt_3b067 2 = .ok (.invokestatic 67, 3) := by decide +kernel
theorem dJ2_charAt_3b067_5 : decode cJ2_charAt_3b067 5 = .ok (.aload_n 0, 1) := by decide +kernel
theorem dJ2_charAt_3b067_6 : decode cJ2_charAt_3b067 6 = .ok (.iload_n 1, 1) := by decide +kernel
theorem dJ2_charAt_3b067_7 : decode cJ2_charAt_3b067 7 = .ok (.invokestatic 71, 3) := by decide +kernel
theorem dJ2_charAt_3b067_10 : decode cJ2_charAt_3b067 10 = .ok (.ireturn, 1) := by decide +kernel
theorem dJ2_checkIndex_2214a_0 : decode cJ2_checkIndex_2214a 0 = .ok (.iload_n 0, 1) := by decide +kernel
theorem dJ2_checkIndex_2214a_1 : decode cJ2_checkIndex_2214a 1 = .ok (.aload_n 1, 1) := by decide +kernel
theorem dJ2_checkIndex_2214a_2 : decode cJ2_checkIndex_2214a 2 = .ok (.invokestatic 48, 3) := by decide +kernel
theorem dJ2_checkIndex_2214a_5 : decode cJ2_checkIndex_2214a 5 = .ok (.invokestatic 414, 3) := by decide +kernel
theorem dJ2_checkIndex_2214a_8 : decode cJ2_checkIndex_2214a 8 = .ok (.return_, 1) := by decide +kernel
theorem dJ7_fill_d0a16_0 : decode cJ7_fill_d0a16 0 = .ok (.iconst 0, 1) := by decide +kernel
theorem dJ7_fill_d0a16_1 : decode cJ7_fill_d0a16 1 = .ok (.istore_n 3, 1) := by decide +kernel
theorem dJ7_fill_d0a16_2 : decode cJ7_fill_d0a16 2 = .ok (.aload_n 0, 1) := by decide +kernel
theorem dJ7_fill_d0a16_3 : decode cJ7_fill_d0a16 3 = .ok (.arraylength, 1) := by decide +kernel
theorem dJ7_fill_d0a16_4 : decode cJ7_fill_d0a16 4 = .ok (.istore 4, 2) := by decide +kernel
theorem dJ7_fill_d0a16_6 : decode cJ7_fill_d0a16 6 = .ok (.iload_n 3, 1) := by decide +kernel
theorem dJ7_fill_d0a16_7 : decode cJ7_fill_d0a16 7 = .ok (.iload 4, 2) := by decide +kernel
theorem dJ7_fill_d0a16_9 : decode cJ7_fill_d0a16 9 = .ok (.if_icmp .ge 13, 3) := by decide +kernel
theorem dJ7_fill_d0a16_12 : decode cJ7_fill_d0a16 12 = .ok (.aload_n 0, 1) := by decide +kernel
theorem dJ7_fill_d0a16_13 : decode cJ7_fill_d0a16 13 = .ok (.iload_n 3, 1) := by decide +kernel
theorem dJ7_fill_d0a16_14 : decode cJ7_fill_d0a16 14 = .ok (.lload_n 1, 1) := by decide +kernel
theorem dJ7_fill_d0a16_15 : decode cJ7_fill_d0a16 15 = .ok (.lastore, 1) := by decide +kernel
theorem dJ7_fill_d0a16_16 : decode cJ7_fill_d0a16 16 = .ok (.iinc 3 1, 3) := by decide +kernel
theorem dJ7_fill_d0a16_19 : decode cJ7_fill_d0a16 19 = .ok (.goto (-13), 3) := by decide +kernel
theorem dJ7_fill_d0a16_22 : decode cJ7_fill_d0a16 22 = .ok (.return_, 1) := by decide +kernel
theorem dJ7_fill_53178_0 : decode cJ7_fill_53178 0 = .ok (.iconst 0, 1) := by decide +kernel
theorem dJ7_fill_53178_1 : decode cJ7_fill_53178 1 = .ok (.istore_n 2, 1) := by decide +kernel
theorem dJ7_fill_53178_2 : decode cJ7_fill_53178 2 = .ok (.aload_n 0, 1) := by decide +kernel
theorem dJ7_fill_53178_3 : decode cJ7_fill_53178 3 = .ok (.arraylength, 1) := by decide +kernel
theorem dJ7_fill_53178_4 : decode cJ7_fill_53178 4 = .ok (.istore_n 3, 1) := by decide +kernel
theorem dJ7_fill_53178_5 : decode cJ7_fill_53178 5 = .ok (.iload_n 2, 1) := by decide +kernel
theorem dJ7_fill_53178_6 : decode cJ7_fill_53178 6 = .ok (.iload_n 3, 1) := by decide +kernel
theorem dJ7_fill_53178_7 : decode cJ7_fill_53178 7 = .ok (.if_icmp .ge 13, 3) := by decide +kernel
theorem dJ7_fill_53178_10 : decode cJ7_fill_53178 10 = .ok (.aload_n 0, 1) := by decide +kernel
theorem dJ7_fill_53178_11 : decode cJ7_fill_53178 11 = .ok (.iload_n 2, 1) := by decide +kernel
theorem dJ7_fill_53178_12 : decode cJ7_fill_53178 12 = .ok (.iload_n 1, 1) := by decide +kernel
theorem dJ7_fill_53178_13 : decode cJ7_fill_53178 13 = .ok (.iastore, 1) := by decide +kernel
theorem dJ7_fill_53178_14 : decode cJ7_fill_53178 14 = .ok (.iinc 2 1, 3) := by decide +kernel
theorem dJ7_fill_53178_17 : decode cJ7_fill_53178 17 = .ok (.goto (-12), 3) := by decide +kernel
theorem dJ7_fill_53178_20 : decode cJ7_fill_53178 20 = .ok (.return_, 1) := by decide +kernel
theorem dJ3_checkIndex_8e157_0 : decode cJ3_checkIndex_8e157 0 = .ok (.iload_n 0, 1) := by decide +kernel
theorem dJ3_checkIndex_8e157_1 : decode cJ3_checkIndex_8e157 1 = .ok (.ifCond .lt 8, 3) := by decide +kernel
theorem dJ3_checkIndex_8e157_4 : decode cJ3_checkIndex_8e157 4 = .ok (.iload_n 0, 1) := by decide +kernel
theorem dJ3_checkIndex_8e157_5 : decode cJ3_checkIndex_8e157 5 = .ok (.iload_n 1, 1) := by decide +kernel
theorem dJ3_checkIndex_8e157_6 : decode cJ3_checkIndex_8e157 6 = .ok (.if_icmp .lt 10, 3) := by decide +kernel
theorem dJ3_checkIndex_8e157_9 : decode cJ3_checkIndex_8e157 9 = .ok (.aload_n 2, 1) := by decide +kernel
theorem dJ3_checkIndex_8e157_10 : decode cJ3_checkIndex_8e157 10 = .ok (.iload_n 0, 1) := by decide +kernel
theorem dJ3_checkIndex_8e157_11 : decode cJ3_checkIndex_8e157 11 = .ok (.iload_n 1, 1) := by decide +kernel
theorem dJ3_checkIndex_8e157_12 : decode cJ3_checkIndex_8e157 12 = .ok (.invokestatic 95, 3) := by decide +kernel
theorem dJ3_checkIndex_8e157_15 : decode cJ3_checkIndex_8e157 15 = .ok (.athrow, 1) := by decide +kernel
theorem dJ3_checkIndex_8e157_16 : decode cJ3_checkIndex_8e157 16 = .ok (.iload_n 0, 1) := by decide +kernel
theorem dJ3_checkIndex_8e157_17 : decode cJ3_checkIndex_8e157 17 = .ok (.ireturn, 1) := by decide +kernel
theorem dL_law_0 : decode cL_law 0 = .ok (.new 7, 3) := by decide +kernel
theorem dL_law_3 : decode cL_law 3 = .ok (.dup, 1) := by decide +kernel
theorem dL_law_4 : decode cL_law 4 = .ok (.invokespecial 9, 3) := by decide +kernel
theorem dL_law_7 : decode cL_law 7 = .ok (.astore_n 1, 1) := by decide +kernel
theorem dL_law_8 : decode cL_law 8 = .ok (.new 10, 3) := by decide +kernel
theorem dL_law_11 : decode cL_law 11 = .ok (.dup, 1) := by decide +kernel
theorem dL_law_12 : decode cL_law 12 = .ok (.invokespecial 12, 3) := by decide +kernel
theorem dL_law_15 : decode cL_law 15 = .ok (.astore_n 2, 1) := by decide +kernel
theorem dL_law_16 : decode cL_law 16 = .ok (.iconst 0, 1) := by decide +kernel
theorem dL_law_17 : decode cL_law 17 = .ok (.istore_n 3, 1) := by decide +kernel
theorem dL_law_18 : decode cL_law 18 = .ok (.iload_n 3, 1) := by decide +kernel
theorem dL_law_19 : decode cL_law 19 = .ok (.aload_n 0, 1) := by decide +kernel
theorem dL_law_20 : decode cL_law 20 = .ok (.arraylength, 1) := by decide +kernel
theorem dL_law_21 : decode cL_law 21 = .ok (.bipush 7, 2) := by decide +kernel
theorem dL_law_23 : decode cL_law 23 = .ok (.isub, 1) := by decide +kernel
theorem dL_law_24 : decode cL_law 24 = .ok (.if_icmp .gt 1560, 3) := by decide +kernel
theorem dL_law_27 : decode cL_law 27 = .ok (.aload_n 0, 1) := by decide +kernel
theorem dL_law_28 : decode cL_law 28 = .ok (.iload_n 3, 1) := by decide +kernel
theorem dL_law_29 : decode cL_law 29 = .ok (.iaload, 1) := by decide +kernel
theorem dL_law_30 : decode cL_law 30 = .ok (.bipush 63, 2) := by decide +kernel
theorem dL_law_32 : decode cL_law 32 = .ok (.iand, 1) := by decide +kernel
theorem dL_law_33 : decode cL_law 33 = .ok (.tableswitch 1545 0 36 #[163, 186, 209, 272, 285, 298, 341, 384, 437, 490, 543, 576, 619, 662, 695, 771, 824, 867, 920, 973, 1036, 1059, 1082, 1157, 1170, 1193, 1216, 1291, 1366, 1379, 1402, 1415, 1439, 1462, 1485, 1508, 1531], 163) := by decide +kernel
theorem dL_law_196 : decode cL_law 196 = .ok (.aload_n 1, 1) := by decide +kernel
theorem dL_law_197 : decode cL_law 197 = .ok (.aload_n 0, 1) := by decide +kernel
theorem dL_law_198 : decode cL_law 198 = .ok (.iload_n 3, 1) := by decide +kernel
theorem dL_law_199 : decode cL_law 199 = .ok (.iconst 1, 1) := by decide +kernel
theorem dL_law_200 : decode cL_law 200 = .ok (.iadd, 1) := by decide +kernel
theorem dL_law_201 : decode cL_law 201 = .ok (.iaload, 1) := by decide +kernel
theorem dL_law_202 : decode cL_law 202 = .ok (.invokevirtual 13, 3) := by decide +kernel
theorem dL_law_205 : decode cL_law 205 = .ok (.aload_n 2, 1) := by decide +kernel
theorem dL_law_206 : decode cL_law 206 = .ok (.aload_n 0, 1) := by decide +kernel
theorem dL_law_207 : decode cL_law 207 = .ok (.iload_n 3, 1) := by decide +kernel
theorem dL_law_208 : decode cL_law 208 = .ok (.iconst 1, 1) := by decide +kernel
theorem dL_law_209 : decode cL_law 209 = .ok (.iadd, 1) := by decide +kernel
theorem dL_law_210 : decode cL_law 210 = .ok (.iaload, 1) := by decide +kernel
theorem dL_law_211 : decode cL_law 211 = .ok (.invokevirtual 17, 3) := by decide +kernel
theorem dL_law_214 : decode cL_law 214 = .ok (.if_icmp .eq 1364, 3) := by decide +kernel
theorem dL_law_217 : decode cL_law 217 = .ok (.iconst 0, 1) := by decide +kernel
theorem dL_law_218 : decode cL_law 218 = .ok (.ireturn, 1) := by decide +kernel
theorem dL_law_219 : decode cL_law 219 = .ok (.aload_n 1, 1) := by decide +kernel
theorem dL_law_220 : decode cL_law 220 = .ok (.aload_n 0, 1) := by decide +kernel
theorem dL_law_221 : decode cL_law 221 = .ok (.iload_n 3, 1) := by decide +kernel
theorem dL_law_222 : decode cL_law 222 = .ok (.iconst 1, 1) := by decide +kernel
theorem dL_law_223 : decode cL_law 223 = .ok (.iadd, 1) := by decide +kernel
theorem dL_law_224 : decode cL_law 224 = .ok (.iaload, 1) := by decide +kernel
theorem dL_law_225 : decode cL_law 225 = .ok (.invokevirtual 18, 3) := by decide +kernel
theorem dL_law_228 : decode cL_law 228 = .ok (.aload_n 2, 1) := by decide +kernel
theorem dL_law_229 : decode cL_law 229 = .ok (.aload_n 0, 1) := by decide +kernel
theorem dL_law_230 : decode cL_law 230 = .ok (.iload_n 3, 1) := by decide +kernel
theorem dL_law_231 : decode cL_law 231 = .ok (.iconst 1, 1) := by decide +kernel
theorem dL_law_232 : decode cL_law 232 = .ok (.iadd, 1) := by decide +kernel
theorem dL_law_233 : decode cL_law 233 = .ok (.iaload, 1) := by decide +kernel
theorem dL_law_234 : decode cL_law 234 = .ok (.invokevirtual 21, 3) := by decide +kernel
theorem dL_law_237 : decode cL_law 237 = .ok (.if_icmp .eq 1341, 3) := by decide +kernel
theorem dL_law_240 : decode cL_law 240 = .ok (.iconst 0, 1) := by decide +kernel
theorem dL_law_241 : decode cL_law 241 = .ok (.ireturn, 1) := by decide +kernel
theorem dL_law_242 : decode cL_law 242 = .ok (.aload_n 1, 1) := by decide +kernel
theorem dL_law_243 : decode cL_law 243 = .ok (.aload_n 0, 1) := by decide +kernel
theorem dL_law_244 : decode cL_law 244 = .ok (.iload_n 3, 1) := by decide +kernel
theorem dL_law_245 : decode cL_law 245 = .ok (.iconst 1, 1) := by decide +kernel
theorem dL_law_246 : decode cL_law 246 = .ok (.iadd, 1) := by decide +kernel
theorem dL_law_247 : decode cL_law 247 = .ok (.iaload, 1) := by decide +kernel
theorem dL_law_248 : decode cL_law 248 = .ok (.i2l, 1) := by decide +kernel
theorem dL_law_249 : decode cL_law 249 = .ok (.bipush 32, 2) := by decide +kernel
theorem dL_law_251 : decode cL_law 251 = .ok (.lshl, 1) := by decide +kernel
theorem dL_law_252 : decode cL_law 252 = .ok (.aload_n 0, 1) := by decide +kernel
theorem dL_law_253 : decode cL_law 253 = .ok (.iload_n 3, 1) := by decide +kernel
theorem dL_law_254 : decode cL_law 254 = .ok (.iconst 2, 1) := by decide +kernel
theorem dL_law_255 : decode cL_law 255 = .ok (.iadd, 1) := by decide +kernel
theorem dL_law_256 : decode cL_law 256 = .ok (.iaload, 1) := by decide +kernel
theorem dL_law_257 : decode cL_law 257 = .ok (.i2l, 1) := by decide +kernel
theorem dL_law_258 : decode cL_law 258 = .ok (.ldc2_w 22, 3) := by decide +kernel
theorem dL_law_261 : decode cL_law 261 = .ok (.land, 1) := by decide +kernel
theorem dL_law_262 : decode cL_law 262 = .ok (.lor, 1) := by decide +kernel
theorem dL_law_263 : decode cL_law 263 = .ok (.aload_n 0, 1) := by decide +kernel
theorem dL_law_264 : decode cL_law 264 = .ok (.iload_n 3, 1) := by decide +kernel
theorem dL_law_265 : decode cL_law 265 = .ok (.iconst 3, 1) := by decide +kernel
theorem dL_law_266 : decode cL_law 266 = .ok (.iadd, 1) := by decide +kernel
theorem dL_law_267 : decode cL_law 267 = .ok (.iaload, 1) := by decide +kernel
theorem dL_law_268 : decode cL_law 268 = .ok (.invokevirtual 24, 3) := by decide +kernel
theorem dL_law_271 : decode cL_law 271 = .ok (.aload_n 2, 1) := by decide +kernel
theorem dL_law_272 : decode cL_law 272 = .ok (.aload_n 0, 1) := by decide +kernel
theorem dL_law_273 : decode cL_law 273 = .ok (.iload_n 3, 1) := by decide +kernel
theorem dL_law_274 : decode cL_law 274 = .ok (.iconst 1, 1) := by decide +kernel
theorem dL_law_275 : decode cL_law 275 = .ok (.iadd, 1) := by decide +kernel
theorem dL_law_276 : decode cL_law 276 = .ok (.iaload, 1) := by decide +kernel
theorem dL_law_277 : decode cL_law 277 = .ok (.i2l, 1) := by decide +kernel
theorem dL_law_278 : decode cL_law 278 = .ok (.bipush 32, 2) := by decide +kernel
theorem dL_law_280 : decode cL_law 280 = .ok (.lshl, 1) := by decide +kernel
theorem dL_law_281 : decode cL_law 281 = .ok (.aload_n 0, 1) := by decide +kernel
theorem dL_law_282 : decode cL_law 282 = .ok (.iload_n 3, 1) := by decide +kernel
theorem dL_law_283 : decode cL_law 283 = .ok (.iconst 2, 1) := by decide +kernel
theorem dL_law_284 : decode cL_law 284 = .ok (.iadd, 1) := by decide +kernel
theorem dL_law_285 : decode cL_law 285 = .ok (.iaload, 1) := by decide +kernel
theorem dL_law_286 : decode cL_law 286 = .ok (.i2l, 1) := by decide +kernel
theorem dL_law_287 : decode cL_law 287 = .ok (.ldc2_w 22, 3) := by decide +kernel
theorem dL_law_290 : decode cL_law 290 = .ok (.land, 1) := by decide +kernel
theorem dL_law_291 : decode cL_law 291 = .ok (.lor, 1) := by decide +kernel
theorem dL_law_292 : decode cL_law 292 = .ok (.aload_n 0, 1) := by decide +kernel
theorem dL_law_293 : decode cL_law 293 = .ok (.iload_n 3, 1) := by decide +kernel
theorem dL_law_294 : decode cL_law 294 = .ok (.iconst 3, 1) := by decide +kernel
theorem dL_law_295 : decode cL_law 295 = .ok (.iadd, 1) := by decide +kernel
theorem dL_law_296 : decode cL_law 296 = .ok (.iaload, 1) := by decide +kernel
theorem dL_law_297 : decode cL_law 297 = .ok (.invokevirtual 28, 3) := by decide +kernel
theorem dL_law_300 : decode cL_law 300 = .ok (.if_icmp .eq 1278, 3) := by decide +kernel
theorem dL_law_303 : decode cL_law 303 = .ok (.iconst 0, 1) := by decide +kernel
theorem dL_law_304 : decode cL_law 304 = .ok (.ireturn, 1) := by decide +kernel
theorem dL_law_305 : decode cL_law 305 = .ok (.aload_n 1, 1) := by decide +kernel
theorem dL_law_306 : decode cL_law 306 = .ok (.invokevirtual 29, 3) := by decide +kernel
theorem dL_law_309 : decode cL_law 309 = .ok (.aload_n 2, 1) := by decide +kernel
theorem dL_law_310 : decode cL_law 310 = .ok (.invokevirtual 33, 3) := by decide +kernel
theorem dL_law_313 : decode cL_law 313 = .ok (.if_icmp .eq 1265, 3) := by decide +kernel
theorem dL_law_316 : decode cL_law 316 = .ok (.iconst 0, 1) := by decide +kernel
theorem dL_law_317 : decode cL_law 317 = .ok (.ireturn, 1) := by decide +kernel
theorem dL_law_318 : decode cL_law 318 = .ok (.aload_n 1, 1) := by decide +kernel
theorem dL_law_319 : decode cL_law 319 = .ok (.invokevirtual 34, 3) := by decide +kernel
theorem dL_law_322 : decode cL_law 322 = .ok (.aload_n 2, 1) := by decide +kernel
theorem dL_law_323 : decode cL_law 323 = .ok (.invokevirtual 37, 3) := by decide +kernel
theorem dL_law_326 : decode cL_law 326 = .ok (.if_icmp .eq 1252, 3) := by decide +kernel
theorem dL_law_329 : decode cL_law 329 = .ok (.iconst 0, 1) := by decide +kernel
theorem dL_law_330 : decode cL_law 330 = .ok (.ireturn, 1) := by decide +kernel
theorem dL_law_331 : decode cL_law 331 = .ok (.aload_n 1, 1) := by decide +kernel
theorem dL_law_332 : decode cL_law 332 = .ok (.aload_n 0, 1) := by decide +kernel
theorem dL_law_333 : decode cL_law 333 = .ok (.iload_n 3, 1) := by decide +kernel
theorem dL_law_334 : decode cL_law 334 = .ok (.iconst 1, 1) := by decide +kernel
theorem dL_law_335 : decode cL_law 335 = .ok (.iadd, 1) := by decide +kernel
theorem dL_law_336 : decode cL_law 336 = .ok (.iaload, 1) := by decide +kernel
theorem dL_law_337 : decode cL_law 337 = .ok (.aload_n 0, 1) := by decide +kernel
theorem dL_law_338 : decode cL_law 338 = .ok (.iload_n 3, 1) := by decide +kernel
theorem dL_law_339 : decode cL_law 339 = .ok (.iconst 2, 1) := by decide +kernel
theorem dL_law_340 : decode cL_law 340 = .ok (.iadd, 1) := by decide +kernel
theorem dL_law_341 : decode cL_law 341 = .ok (.iaload, 1) := by decide +kernel
theorem dL_law_342 : decode cL_law 342 = .ok (.aload_n 0, 1) := by decide +kernel
theorem dL_law_343 : decode cL_law 343 = .ok (.iload_n 3, 1) := by decide +kernel
theorem dL_law_344 : decode cL_law 344 = .ok (.iconst 3, 1) := by decide +kernel
theorem dL_law_345 : decode cL_law 345 = .ok (.iadd, 1) := by decide +kernel
theorem dL_law_346 : decode cL_law 346 = .ok (.iaload, 1) := by decide +kernel
theorem dL_law_347 : decode cL_law 347 = .ok (.invokevirtual 38, 3) := by decide +kernel
theorem dL_law_350 : decode cL_law 350 = .ok (.aload_n 2, 1) := by decide +kernel
theorem dL_law_351 : decode cL_law 351 = .ok (.aload_n 0, 1) := by decide +kernel
theorem dL_law_352 : decode cL_law 352 = .ok (.iload_n 3, 1) := by decide +kernel
theorem dL_law_353 : decode cL_law 353 = .ok (.iconst 1, 1) := by decide +kernel
theorem dL_law_354 : decode cL_law 354 = .ok (.iadd, 1) := by decide +kernel
theorem dL_law_355 : decode cL_law 355 = .ok (.iaload, 1) := by decide +kernel
theorem dL_law_356 : decode cL_law 356 = .ok (.aload_n 0, 1) := by decide +kernel
theorem dL_law_357 : decode cL_law 357 = .ok (.iload_n 3, 1) := by decide +kernel
theorem dL_law_358 : decode cL_law 358 = .ok (.iconst 2, 1) := by decide +kernel
theorem dL_law_359 : decode cL_law 359 = .ok (.iadd, 1) := by decide +kernel
theorem dL_law_360 : decode cL_law 360 = .ok (.iaload, 1) := by decide +kernel
theorem dL_law_361 : decode cL_law 361 = .ok (.aload_n 0, 1) := by decide +kernel
theorem dL_law_362 : decode cL_law 362 = .ok (.iload_n 3, 1) := by decide +kernel
theorem dL_law_363 : decode cL_law 363 = .ok (.iconst 3, 1) := by decide +kernel
theorem dL_law_364 : decode cL_law 364 = .ok (.iadd, 1) := by decide +kernel
theorem dL_law_365 : decode cL_law 365 = .ok (.iaload, 1) := by decide +kernel
theorem dL_law_366 : decode cL_law 366 = .ok (.invokevirtual 42, 3) := by decide +kernel
theorem dL_law_369 : decode cL_law 369 = .ok (.if_icmp .eq 1209, 3) := by decide +kernel
theorem dL_law_372 : decode cL_law 372 = .ok (.iconst 0, 1) := by decide +kernel
theorem dL_law_373 : decode cL_law 373 = .ok (.ireturn, 1) := by decide +kernel
theorem dL_law_374 : decode cL_law 374 = .ok (.aload_n 1, 1) := by decide +kernel
theorem dL_law_375 : decode cL_law 375 = .ok (.aload_n 0, 1) := by decide +kernel
theorem dL_law_376 : decode cL_law 376 = .ok (.iload_n 3, 1) := by decide +kernel
theorem dL_law_377 : decode cL_law 377 = .ok (.iconst 1, 1) := by decide +kernel
theorem dL_law_378 : decode cL_law 378 = .ok (.iadd, 1) := by decide +kernel
theorem dL_law_379 : decode cL_law 379 = .ok (.iaload, 1) := by decide +kernel
theorem dL_law_380 : decode cL_law 380 = .ok (.aload_n 0, 1) := by decide +kernel
theorem dL_law_381 : decode cL_law 381 = .ok (.iload_n 3, 1) := by decide +kernel
theorem dL_law_382 : decode cL_law 382 = .ok (.iconst 2, 1) := by decide +kernel
theorem dL_law_383 : decode cL_law 383 = .ok (.iadd, 1) := by decide +kernel
theorem dL_law_384 : decode cL_law 384 = .ok (.iaload, 1) := by decide +kernel
theorem dL_law_385 : decode cL_law 385 = .ok (.aload_n 0, 1) := by decide +kernel
theorem dL_law_386 : decode cL_law 386 = .ok (.iload_n 3, 1) := by decide +kernel
theorem dL_law_387 : decode cL_law 387 = .ok (.iconst 3, 1) := by decide +kernel
theorem dL_law_388 : decode cL_law 388 = .ok (.iadd, 1) := by decide +kernel
theorem dL_law_389 : decode cL_law 389 = .ok (.iaload, 1) := by decide +kernel
theorem dL_law_390 : decode cL_law 390 = .ok (.invokevirtual 43, 3) := by decide +kernel
theorem dL_law_393 : decode cL_law 393 = .ok (.aload_n 2, 1) := by decide +kernel
theorem dL_law_394 : decode cL_law 394 = .ok (.aload_n 0, 1) := by decide +kernel
theorem dL_law_395 : decode cL_law 395 = .ok (.iload_n 3, 1) := by decide +kernel
theorem dL_law_396 : decode cL_law 396 = .ok (.iconst 1, 1) := by decide +kernel
theorem dL_law_397 : decode cL_law 397 = .ok (.iadd, 1) := by decide +kernel
theorem dL_law_398 : decode cL_law 398 = .ok (.iaload, 1) := by decide +kernel
theorem dL_law_399 : decode cL_law 399 = .ok (.aload_n 0, 1) := by decide +kernel
theorem dL_law_400 : decode cL_law 400 = .ok (.iload_n 3, 1) := by decide +kernel
theorem dL_law_401 : decode cL_law 401 = .ok (.iconst 2, 1) := by decide +kernel
theorem dL_law_402 : decode cL_law 402 = .ok (.iadd, 1) := by decide +kernel
theorem dL_law_403 : decode cL_law 403 = .ok (.iaload, 1) := by decide +kernel
theorem dL_law_404 : decode cL_law 404 = .ok (.aload_n 0, 1) := by decide +kernel
theorem dL_law_405 : decode cL_law 405 = .ok (.iload_n 3, 1) := by decide +kernel
theorem dL_law_406 : decode cL_law 406 = .ok (.iconst 3, 1) := by decide +kernel
theorem dL_law_407 : decode cL_law 407 = .ok (.iadd, 1) := by decide +kernel
theorem dL_law_408 : decode cL_law 408 = .ok (.iaload, 1) := by decide +kernel
theorem dL_law_409 : decode cL_law 409 = .ok (.invokevirtual 46, 3) := by decide +kernel
theorem dL_law_412 : decode cL_law 412 = .ok (.if_icmp .eq 1166, 3) := by decide +kernel
theorem dL_law_415 : decode cL_law 415 = .ok (.iconst 0, 1) := by decide +kernel
theorem dL_law_416 : decode cL_law 416 = .ok (.ireturn, 1) := by decide +kernel
theorem dL_law_417 : decode cL_law 417 = .ok (.aload_n 1, 1) := by decide +kernel
theorem dL_law_418 : decode cL_law 418 = .ok (.aload_n 0, 1) := by decide +kernel
theorem dL_law_419 : decode cL_law 419 = .ok (.iload_n 3, 1) := by decide +kernel
theorem dL_law_420 : decode cL_law 420 = .ok (.iconst 1, 1) := by decide +kernel
theorem dL_law_421 : decode cL_law 421 = .ok (.iadd, 1) := by decide +kernel
theorem dL_law_422 : decode cL_law 422 = .ok (.iaload, 1) := by decide +kernel
theorem dL_law_423 : decode cL_law 423 = .ok (.aload_n 0, 1) := by decide +kernel
theorem dL_law_424 : decode cL_law 424 = .ok (.iload_n 3, 1) := by decide +kernel
theorem dL_law_425 : decode cL_law 425 = .ok (.iconst 2, 1) := by decide +kernel
theorem dL_law_426 : decode cL_law 426 = .ok (.iadd, 1) := by decide +kernel
theorem dL_law_427 : decode cL_law 427 = .ok (.iaload, 1) := by decide +kernel
theorem dL_law_428 : decode cL_law 428 = .ok (.aload_n 0, 1) := by decide +kernel
theorem dL_law_429 : decode cL_law 429 = .ok (.iload_n 3, 1) := by decide +kernel
theorem dL_law_430 : decode cL_law 430 = .ok (.iconst 3, 1) := by decide +kernel
theorem dL_law_431 : decode cL_law 431 = .ok (.iadd, 1) := by decide +kernel
theorem dL_law_432 : decode cL_law 432 = .ok (.iaload, 1) := by decide +kernel
theorem dL_law_433 : decode cL_law 433 = .ok (.aload_n 0, 1) := by decide +kernel
theorem dL_law_434 : decode cL_law 434 = .ok (.iload_n 3, 1) := by decide +kernel
theorem dL_law_435 : decode cL_law 435 = .ok (.iconst 4, 1) := by decide +kernel
theorem dL_law_436 : decode cL_law 436 = .ok (.iadd, 1) := by decide +kernel
theorem dL_law_437 : decode cL_law 437 = .ok (.iaload, 1) := by decide +kernel
theorem dL_law_438 : decode cL_law 438 = .ok (.invokevirtual 47, 3) := by decide +kernel
theorem dL_law_441 : decode cL_law 441 = .ok (.aload_n 2, 1) := by decide +kernel
theorem dL_law_442 : decode cL_law 442 = .ok (.aload_n 0, 1) := by decide +kernel
theorem dL_law_443 : decode cL_law 443 = .ok (.iload_n 3, 1) := by decide +kernel
theorem dL_law_444 : decode cL_law 444 = .ok (.iconst 1, 1) := by decide +kernel
theorem dL_law_445 : decode cL_law 445 = .ok (.iadd, 1) := by decide +kernel
theorem dL_law_446 : decode cL_law 446 = .ok (.iaload, 1) := by decide +kernel
theorem dL_law_447 : decode cL_law 447 = .ok (.aload_n 0, 1) := by decide +kernel
theorem dL_law_448 : decode cL_law 448 = .ok (.iload_n 3, 1) := by decide +kernel
theorem dL_law_449 : decode cL_law 449 = .ok (.iconst 2, 1) := by decide +kernel
theorem dL_law_450 : decode cL_law 450 = .ok (.iadd, 1) := by decide +kernel
theorem dL_law_451 : decode cL_law 451 = .ok (.iaload, 1) := by decide +kernel
theorem dL_law_452 : decode cL_law 452 = .ok (.aload_n 0, 1) := by decide +kernel
theorem dL_law_453 : decode cL_law 453 = .ok (.iload_n 3, 1) := by decide +kernel
theorem dL_law_454 : decode cL_law 454 = .ok (.iconst 3, 1) := by decide +kernel
theorem dL_law_455 : decode cL_law 455 = .ok (.iadd, 1) := by decide +kernel
theorem dL_law_456 : decode cL_law 456 = .ok (.iaload, 1) := by decide +kernel
theorem dL_law_457 : decode cL_law 457 = .ok (.aload_n 0, 1) := by decide +kernel
theorem dL_law_458 : decode cL_law 458 = .ok (.iload_n 3, 1) := by decide +kernel
theorem dL_law_459 : decode cL_law 459 = .ok (.iconst 4, 1) := by decide +kernel
theorem dL_law_460 : decode cL_law 460 = .ok (.iadd, 1) := by decide +kernel
theorem dL_law_461 : decode cL_law 461 = .ok (.iaload, 1) := by decide +kernel
theorem dL_law_462 : decode cL_law 462 = .ok (.invokevirtual 51, 3) := by decide +kernel
theorem dL_law_465 : decode cL_law 465 = .ok (.if_icmp .eq 1113, 3) := by decide +kernel
theorem dL_law_468 : decode cL_law 468 = .ok (.iconst 0, 1) := by decide +kernel
theorem dL_law_469 : decode cL_law 469 = .ok (.ireturn, 1) := by decide +kernel
theorem dL_law_470 : decode cL_law 470 = .ok (.aload_n 1, 1) := by decide +kernel
theorem dL_law_471 : decode cL_law 471 = .ok (.aload_n 0, 1) := by decide +kernel
theorem dL_law_472 : decode cL_law 472 = .ok (.iload_n 3, 1) := by decide +kernel
theorem dL_law_473 : decode cL_law 473 = .ok (.iconst 1, 1) := by decide +kernel
theorem dL_law_474 : decode cL_law 474 = .ok (.iadd, 1) := by decide +kernel
theorem dL_law_475 : decode cL_law 475 = .ok (.iaload, 1) := by decide +kernel
theorem dL_law_476 : decode cL_law 476 = .ok (.aload_n 0, 1) := by decide +kernel
theorem dL_law_477 : decode cL_law 477 = .ok (.iload_n 3, 1) := by decide +kernel
theorem dL_law_478 : decode cL_law 478 = .ok (.iconst 2, 1) := by decide +kernel
theorem dL_law_479 : decode cL_law 479 = .ok (.iadd, 1) := by decide +kernel
theorem dL_law_480 : decode cL_law 480 = .ok (.iaload, 1) := by decide +kernel
theorem dL_law_481 : decode cL_law 481 = .ok (.aload_n 0, 1) := by decide +kernel
theorem dL_law_482 : decode cL_law 482 = .ok (.iload_n 3, 1) := by decide +kernel
theorem dL_law_483 : decode cL_law 483 = .ok (.iconst 3, 1) := by decide +kernel
theorem dL_law_484 : decode cL_law 484 = .ok (.iadd, 1) := by decide +kernel
theorem dL_law_485 : decode cL_law 485 = .ok (.iaload, 1) := by decide +kernel
theorem dL_law_486 : decode cL_law 486 = .ok (.aload_n 0, 1) := by decide +kernel
theorem dL_law_487 : decode cL_law 487 = .ok (.iload_n 3, 1) := by decide +kernel
theorem dL_law_488 : decode cL_law 488 = .ok (.iconst 4, 1) := by decide +kernel
theorem dL_law_489 : decode cL_law 489 = .ok (.iadd, 1) := by decide +kernel
theorem dL_law_490 : decode cL_law 490 = .ok (.iaload, 1) := by decide +kernel
theorem dL_law_491 : decode cL_law 491 = .ok (.invokevirtual 52, 3) := by decide +kernel
theorem dL_law_494 : decode cL_law 494 = .ok (.aload_n 2, 1) := by decide +kernel
theorem dL_law_495 : decode cL_law 495 = .ok (.aload_n 0, 1) := by decide +kernel
theorem dL_law_496 : decode cL_law 496 = .ok (.iload_n 3, 1) := by decide +kernel
theorem dL_law_497 : decode cL_law 497 = .ok (.iconst 1, 1) := by decide +kernel
theorem dL_law_498 : decode cL_law 498 = .ok (.iadd, 1) := by decide +kernel
theorem dL_law_499 : decode cL_law 499 = .ok (.iaload, 1) := by decide +kernel
theorem dL_law_500 : decode cL_law 500 = .ok (.aload_n 0, 1) := by decide +kernel
theorem dL_law_501 : decode cL_law 501 = .ok (.iload_n 3, 1) := by decide +kernel
theorem dL_law_502 : decode cL_law 502 = .ok (.iconst 2, 1) := by decide +kernel
theorem dL_law_503 : decode cL_law 503 = .ok (.iadd, 1) := by decide +kernel
theorem dL_law_504 : decode cL_law 504 = .ok (.iaload, 1) := by decide +kernel
theorem dL_law_505 : decode cL_law 505 = .ok (.aload_n 0, 1) := by decide +kernel
theorem dL_law_506 : decode cL_law 506 = .ok (.iload_n 3, 1) := by decide +kernel
theorem dL_law_507 : decode cL_law 507 = .ok (.iconst 3, 1) := by decide +kernel
theorem dL_law_508 : decode cL_law 508 = .ok (.iadd, 1) := by decide +kernel
theorem dL_law_509 : decode cL_law 509 = .ok (.iaload, 1) := by decide +kernel
theorem dL_law_510 : decode cL_law 510 = .ok (.aload_n 0, 1) := by decide +kernel
theorem dL_law_511 : decode cL_law 511 = .ok (.iload_n 3, 1) := by decide +kernel
theorem dL_law_512 : decode cL_law 512 = .ok (.iconst 4, 1) := by decide +kernel
theorem dL_law_513 : decode cL_law 513 = .ok (.iadd, 1) := by decide +kernel
theorem dL_law_514 : decode cL_law 514 = .ok (.iaload, 1) := by decide +kernel
theorem dL_law_515 : decode cL_law 515 = .ok (.invokevirtual 55, 3) := by decide +kernel
theorem dL_law_518 : decode cL_law 518 = .ok (.if_icmp .eq 1060, 3) := by decide +kernel
theorem dL_law_521 : decode cL_law 521 = .ok (.iconst 0, 1) := by decide +kernel
theorem dL_law_522 : decode cL_law 522 = .ok (.ireturn, 1) := by decide +kernel
theorem dL_law_523 : decode cL_law 523 = .ok (.aload_n 1, 1) := by decide +kernel
theorem dL_law_524 : decode cL_law 524 = .ok (.aload_n 0, 1) := by decide +kernel
theorem dL_law_525 : decode cL_law 525 = .ok (.iload_n 3, 1) := by decide +kernel
theorem dL_law_526 : decode cL_law 526 = .ok (.iconst 1, 1) := by decide +kernel
theorem dL_law_527 : decode cL_law 527 = .ok (.iadd, 1) := by decide +kernel
theorem dL_law_528 : decode cL_law 528 = .ok (.iaload, 1) := by decide +kernel
theorem dL_law_529 : decode cL_law 529 = .ok (.aload_n 0, 1) := by decide +kernel
theorem dL_law_530 : decode cL_law 530 = .ok (.iload_n 3, 1) := by decide +kernel
theorem dL_law_531 : decode cL_law 531 = .ok (.iconst 2, 1) := by decide +kernel
theorem dL_law_532 : decode cL_law 532 = .ok (.iadd, 1) := by decide +kernel
theorem dL_law_533 : decode cL_law 533 = .ok (.iaload, 1) := by decide +kernel
theorem dL_law_534 : decode cL_law 534 = .ok (.aload_n 0, 1) := by decide +kernel
theorem dL_law_535 : decode cL_law 535 = .ok (.iload_n 3, 1) := by decide +kernel
theorem dL_law_536 : decode cL_law 536 = .ok (.iconst 3, 1) := by decide +kernel
theorem dL_law_537 : decode cL_law 537 = .ok (.iadd, 1) := by decide +kernel
theorem dL_law_538 : decode cL_law 538 = .ok (.iaload, 1) := by decide +kernel
theorem dL_law_539 : decode cL_law 539 = .ok (.aload_n 0, 1) := by decide +kernel
theorem dL_law_540 : decode cL_law 540 = .ok (.iload_n 3, 1) := by decide +kernel
theorem dL_law_541 : decode cL_law 541 = .ok (.iconst 4, 1) := by decide +kernel
theorem dL_law_542 : decode cL_law 542 = .ok (.iadd, 1) := by decide +kernel
theorem dL_law_543 : decode cL_law 543 = .ok (.iaload, 1) := by decide +kernel
theorem dL_law_544 : decode cL_law 544 = .ok (.invokevirtual 56, 3) := by decide +kernel
theorem dL_law_547 : decode cL_law 547 = .ok (.aload_n 2, 1) := by decide +kernel
theorem dL_law_548 : decode cL_law 548 = .ok (.aload_n 0, 1) := by decide +kernel
theorem dL_law_549 : decode cL_law 549 = .ok (.iload_n 3, 1) := by decide +kernel
theorem dL_law_550 : decode cL_law 550 = .ok (.iconst 1, 1) := by decide +kernel
theorem dL_law_551 : decode cL_law 551 = .ok (.iadd, 1) := by decide +kernel
theorem dL_law_552 : decode cL_law 552 = .ok (.iaload, 1) := by decide +kernel
theorem dL_law_553 : decode cL_law 553 = .ok (.aload_n 0, 1) := by decide +kernel
theorem dL_law_554 : decode cL_law 554 = .ok (.iload_n 3, 1) := by decide +kernel
theorem dL_law_555 : decode cL_law 555 = .ok (.iconst 2, 1) := by decide +kernel
theorem dL_law_556 : decode cL_law 556 = .ok (.iadd, 1) := by decide +kernel
theorem dL_law_557 : decode cL_law 557 = .ok (.iaload, 1) := by decide +kernel
theorem dL_law_558 : decode cL_law 558 = .ok (.aload_n 0, 1) := by decide +kernel
theorem dL_law_559 : decode cL_law 559 = .ok (.iload_n 3, 1) := by decide +kernel
theorem dL_law_560 : decode cL_law 560 = .ok (.iconst 3, 1) := by decide +kernel
theorem dL_law_561 : decode cL_law 561 = .ok (.iadd, 1) := by decide +kernel
theorem dL_law_562 : decode cL_law 562 = .ok (.iaload, 1) := by decide +kernel
theorem dL_law_563 : decode cL_law 563 = .ok (.aload_n 0, 1) := by decide +kernel
theorem dL_law_564 : decode cL_law 564 = .ok (.iload_n 3, 1) := by decide +kernel
theorem dL_law_565 : decode cL_law 565 = .ok (.iconst 4, 1) := by decide +kernel
theorem dL_law_566 : decode cL_law 566 = .ok (.iadd, 1) := by decide +kernel
theorem dL_law_567 : decode cL_law 567 = .ok (.iaload, 1) := by decide +kernel
theorem dL_law_568 : decode cL_law 568 = .ok (.invokevirtual 59, 3) := by decide +kernel
theorem dL_law_571 : decode cL_law 571 = .ok (.if_icmp .eq 1007, 3) := by decide +kernel
theorem dL_law_574 : decode cL_law 574 = .ok (.iconst 0, 1) := by decide +kernel
theorem dL_law_575 : decode cL_law 575 = .ok (.ireturn, 1) := by decide +kernel
theorem dL_law_576 : decode cL_law 576 = .ok (.aload_n 1, 1) := by decide +kernel
theorem dL_law_577 : decode cL_law 577 = .ok (.aload_n 0, 1) := by decide +kernel
theorem dL_law_578 : decode cL_law 578 = .ok (.iload_n 3, 1) := by decide +kernel
theorem dL_law_579 : decode cL_law 579 = .ok (.iconst 1, 1) := by decide +kernel
theorem dL_law_580 : decode cL_law 580 = .ok (.iadd, 1) := by decide +kernel
theorem dL_law_581 : decode cL_law 581 = .ok (.iaload, 1) := by decide +kernel
theorem dL_law_582 : decode cL_law 582 = .ok (.aload_n 0, 1) := by decide +kernel
theorem dL_law_583 : decode cL_law 583 = .ok (.iload_n 3, 1) := by decide +kernel
theorem dL_law_584 : decode cL_law 584 = .ok (.iconst 2, 1) := by decide +kernel
theorem dL_law_585 : decode cL_law 585 = .ok (.iadd, 1) := by decide +kernel
theorem dL_law_586 : decode cL_law 586 = .ok (.iaload, 1) := by decide +kernel
theorem dL_law_587 : decode cL_law 587 = .ok (.invokevirtual 60, 3) := by decide +kernel
theorem dL_law_590 : decode cL_law 590 = .ok (.aload_n 2, 1) := by decide +kernel
theorem dL_law_591 : decode cL_law 591 = .ok (.aload_n 0, 1) := by decide +kernel
theorem dL_law_592 : decode cL_law 592 = .ok (.iload_n 3, 1) := by decide +kernel
theorem dL_law_593 : decode cL_law 593 = .ok (.iconst 1, 1) := by decide +kernel
theorem dL_law_594 : decode cL_law 594 = .ok (.iadd, 1) := by decide +kernel
theorem dL_law_595 : decode cL_law 595 = .ok (.iaload, 1) := by decide +kernel
theorem dL_law_596 : decode cL_law 596 = .ok (.aload_n 0, 1) := by decide +kernel
theorem dL_law_597 : decode cL_law 597 = .ok (.iload_n 3, 1) := by decide +kernel
theorem dL_law_598 : decode cL_law 598 = .ok (.iconst 2, 1) := by decide +kernel
theorem dL_law_599 : decode cL_law 599 = .ok (.iadd, 1) := by decide +kernel
theorem dL_law_600 : decode cL_law 600 = .ok (.iaload, 1) := by decide +kernel
theorem dL_law_601 : decode cL_law 601 = .ok (.invokevirtual 64, 3) := by decide +kernel
theorem dL_law_604 : decode cL_law 604 = .ok (.if_icmp .eq 974, 3) := by decide +kernel
theorem dL_law_607 : decode cL_law 607 = .ok (.iconst 0, 1) := by decide +kernel
theorem dL_law_608 : decode cL_law 608 = .ok (.ireturn, 1) := by decide +kernel
theorem dL_law_609 : decode cL_law 609 = .ok (.aload_n 1, 1) := by decide +kernel
theorem dL_law_610 : decode cL_law 610 = .ok (.aload_n 0, 1) := by decide +kernel
theorem dL_law_611 : decode cL_law 611 = .ok (.iload_n 3, 1) := by decide +kernel
theorem dL_law_612 : decode cL_law 612 = .ok (.iconst 1, 1) := by decide +kernel
theorem dL_law_613 : decode cL_law 613 = .ok (.iadd, 1) := by decide +kernel
theorem dL_law_614 : decode cL_law 614 = .ok (.iaload, 1) := by decide +kernel
theorem dL_law_615 : decode cL_law 615 = .ok (.aload_n 0, 1) := by decide +kernel
theorem dL_law_616 : decode cL_law 616 = .ok (.iload_n 3, 1) := by decide +kernel
theorem dL_law_617 : decode cL_law 617 = .ok (.iconst 2, 1) := by decide +kernel
theorem dL_law_618 : decode cL_law 618 = .ok (.iadd, 1) := by decide +kernel
theorem dL_law_619 : decode cL_law 619 = .ok (.iaload, 1) := by decide +kernel
theorem dL_law_620 : decode cL_law 620 = .ok (.aload_n 0, 1) := by decide +kernel
theorem dL_law_621 : decode cL_law 621 = .ok (.iload_n 3, 1) := by decide +kernel
theorem dL_law_622 : decode cL_law 622 = .ok (.iconst 3, 1) := by decide +kernel
theorem dL_law_623 : decode cL_law 623 = .ok (.iadd, 1) := by decide +kernel
theorem dL_law_624 : decode cL_law 624 = .ok (.iaload, 1) := by decide +kernel
theorem dL_law_625 : decode cL_law 625 = .ok (.invokevirtual 65, 3) := by decide +kernel
theorem dL_law_628 : decode cL_law 628 = .ok (.aload_n 2, 1) := by decide +kernel
theorem dL_law_629 : decode cL_law 629 = .ok (.aload_n 0, 1) := by decide +kernel
theorem dL_law_630 : decode cL_law 630 = .ok (.iload_n 3, 1) := by decide +kernel
theorem dL_law_631 : decode cL_law 631 = .ok (.iconst 1, 1) := by decide +kernel
theorem dL_law_632 : decode cL_law 632 = .ok (.iadd, 1) := by decide +kernel
theorem dL_law_633 : decode cL_law 633 = .ok (.iaload, 1) := by decide +kernel
theorem dL_law_634 : decode cL_law 634 = .ok (.aload_n 0, 1) := by decide +kernel
theorem dL_law_635 : decode cL_law 635 = .ok (.iload_n 3, 1) := by decide +kernel
theorem dL_law_636 : decode cL_law 636 = .ok (.iconst 2, 1) := by decide +kernel
theorem dL_law_637 : decode cL_law 637 = .ok (.iadd, 1) := by decide +kernel
theorem dL_law_638 : decode cL_law 638 = .ok (.iaload, 1) := by decide +kernel
theorem dL_law_639 : decode cL_law 639 = .ok (.aload_n 0, 1) := by decide +kernel
theorem dL_law_640 : decode cL_law 640 = .ok (.iload_n 3, 1) := by decide +kernel
theorem dL_law_641 : decode cL_law 641 = .ok (.iconst 3, 1) := by decide +kernel
theorem dL_law_642 : decode cL_law 642 = .ok (.iadd, 1) := by decide +kernel
theorem dL_law_643 : decode cL_law 643 = .ok (.iaload, 1) := by decide +kernel
theorem dL_law_644 : decode cL_law 644 = .ok (.invokevirtual 68, 3) := by decide +kernel
theorem dL_law_647 : decode cL_law 647 = .ok (.if_icmp .eq 931, 3) := by decide +kernel
theorem dL_law_650 : decode cL_law 650 = .ok (.iconst 0, 1) := by decide +kernel
theorem dL_law_651 : decode cL_law 651 = .ok (.ireturn, 1) := by decide +kernel
theorem dL_law_652 : decode cL_law 652 = .ok (.aload_n 1, 1) := by decide +kernel
theorem dL_law_653 : decode cL_law 653 = .ok (.aload_n 0, 1) := by decide +kernel
theorem dL_law_654 : decode cL_law 654 = .ok (.iload_n 3, 1) := by decide +kernel
theorem dL_law_655 : decode cL_law 655 = .ok (.iconst 1, 1) := by decide +kernel
theorem dL_law_656 : decode cL_law 656 = .ok (.iadd, 1) := by decide +kernel
theorem dL_law_657 : decode cL_law 657 = .ok (.iaload, 1) := by decide +kernel
theorem dL_law_658 : decode cL_law 658 = .ok (.aload_n 0, 1) := by decide +kernel
theorem dL_law_659 : decode cL_law 659 = .ok (.iload_n 3, 1) := by decide +kernel
theorem dL_law_660 : decode cL_law 660 = .ok (.iconst 2, 1) := by decide +kernel
theorem dL_law_661 : decode cL_law 661 = .ok (.iadd, 1) := by decide +kernel
theorem dL_law_662 : decode cL_law 662 = .ok (.iaload, 1) := by decide +kernel
theorem dL_law_663 : decode cL_law 663 = .ok (.aload_n 0, 1) := by decide +kernel
theorem dL_law_664 : decode cL_law 664 = .ok (.iload_n 3, 1) := by decide +kernel
theorem dL_law_665 : decode cL_law 665 = .ok (.iconst 3, 1) := by decide +kernel
theorem dL_law_666 : decode cL_law 666 = .ok (.iadd, 1) := by decide +kernel
theorem dL_law_667 : decode cL_law 667 = .ok (.iaload, 1) := by decide +kernel
theorem dL_law_668 : decode cL_law 668 = .ok (.invokevirtual 69, 3) := by decide +kernel
theorem dL_law_671 : decode cL_law 671 = .ok (.aload_n 2, 1) := by decide +kernel
theorem dL_law_672 : decode cL_law 672 = .ok (.aload_n 0, 1) := by decide +kernel
theorem dL_law_673 : decode cL_law 673 = .ok (.iload_n 3, 1) := by decide +kernel
theorem dL_law_674 : decode cL_law 674 = .ok (.iconst 1, 1) := by decide +kernel
theorem dL_law_675 : decode cL_law 675 = .ok (.iadd, 1) := by decide +kernel
theorem dL_law_676 : decode cL_law 676 = .ok (.iaload, 1) := by decide +kernel
theorem dL_law_677 : decode cL_law 677 = .ok (.aload_n 0, 1) := by decide +kernel
theorem dL_law_678 : decode cL_law 678 = .ok (.iload_n 3, 1) := by decide +kernel
theorem dL_law_679 : decode cL_law 679 = .ok (.iconst 2, 1) := by decide +kernel
theorem dL_law_680 : decode cL_law 680 = .ok (.iadd, 1) := by decide +kernel
theorem dL_law_681 : decode cL_law 681 = .ok (.iaload, 1) := by decide +kernel
theorem dL_law_682 : decode cL_law 682 = .ok (.aload_n 0, 1) := by decide +kernel
theorem dL_law_683 : decode cL_law 683 = .ok (.iload_n 3, 1) := by decide +kernel
theorem dL_law_684 : decode cL_law 684 = .ok (.iconst 3, 1) := by decide +kernel
theorem dL_law_685 : decode cL_law 685 = .ok (.iadd, 1) := by decide +kernel
theorem dL_law_686 : decode cL_law 686 = .ok (.iaload, 1) := by decide +kernel
theorem dL_law_687 : decode cL_law 687 = .ok (.invokevirtual 72, 3) := by decide +kernel
theorem dL_law_690 : decode cL_law 690 = .ok (.if_icmp .eq 888, 3) := by decide +kernel
theorem dL_law_693 : decode cL_law 693 = .ok (.iconst 0, 1) := by decide +kernel
theorem dL_law_694 : decode cL_law 694 = .ok (.ireturn, 1) := by decide +kernel
theorem dL_law_695 : decode cL_law 695 = .ok (.aload_n 1, 1) := by decide +kernel
theorem dL_law_696 : decode cL_law 696 = .ok (.aload_n 0, 1) := by decide +kernel
theorem dL_law_697 : decode cL_law 697 = .ok (.iload_n 3, 1) := by decide +kernel
theorem dL_law_698 : decode cL_law 698 = .ok (.iconst 1, 1) := by decide +kernel
theorem dL_law_699 : decode cL_law 699 = .ok (.iadd, 1) := by decide +kernel
theorem dL_law_700 : decode cL_law 700 = .ok (.iaload, 1) := by decide +kernel
theorem dL_law_701 : decode cL_law 701 = .ok (.aload_n 0, 1) := by decide +kernel
theorem dL_law_702 : decode cL_law 702 = .ok (.iload_n 3, 1) := by decide +kernel
theorem dL_law_703 : decode cL_law 703 = .ok (.iconst 2, 1) := by decide +kernel
theorem dL_law_704 : decode cL_law 704 = .ok (.iadd, 1) := by decide +kernel
theorem dL_law_705 : decode cL_law 705 = .ok (.iaload, 1) := by decide +kernel
theorem dL_law_706 : decode cL_law 706 = .ok (.invokevirtual 73, 3) := by decide +kernel
theorem dL_law_709 : decode cL_law 709 = .ok (.aload_n 2, 1) := by decide +kernel
theorem dL_law_710 : decode cL_law 710 = .ok (.aload_n 0, 1) := by decide +kernel
theorem dL_law_711 : decode cL_law 711 = .ok (.iload_n 3, 1) := by decide +kernel
theorem dL_law_712 : decode cL_law 712 = .ok (.iconst 1, 1) := by decide +kernel
theorem dL_law_713 : decode cL_law 713 = .ok (.iadd, 1) := by decide +kernel
theorem dL_law_714 : decode cL_law 714 = .ok (.iaload, 1) := by decide +kernel
theorem dL_law_715 : decode cL_law 715 = .ok (.aload_n 0, 1) := by decide +kernel
theorem dL_law_716 : decode cL_law 716 = .ok (.iload_n 3, 1) := by decide +kernel
theorem dL_law_717 : decode cL_law 717 = .ok (.iconst 2, 1) := by decide +kernel
theorem dL_law_718 : decode cL_law 718 = .ok (.iadd, 1) := by decide +kernel
theorem dL_law_719 : decode cL_law 719 = .ok (.iaload, 1) := by decide +kernel
theorem dL_law_720 : decode cL_law 720 = .ok (.invokevirtual 76, 3) := by decide +kernel
theorem dL_law_723 : decode cL_law 723 = .ok (.if_icmp .eq 855, 3) := by decide +kernel
theorem dL_law_726 : decode cL_law 726 = .ok (.iconst 0, 1) := by decide +kernel
theorem dL_law_727 : decode cL_law 727 = .ok (.ireturn, 1) := by decide +kernel
theorem dL_law_728 : decode cL_law 728 = .ok (.aload_n 1, 1) := by decide +kernel
theorem dL_law_729 : decode cL_law 729 = .ok (.aload_n 0, 1) := by decide +kernel
theorem dL_law_730 : decode cL_law 730 = .ok (.iload_n 3, 1) := by decide +kernel
theorem dL_law_731 : decode cL_law 731 = .ok (.iconst 1, 1) := by decide +kernel
theorem dL_law_732 : decode cL_law 732 = .ok (.iadd, 1) := by decide +kernel
theorem dL_law_733 : decode cL_law 733 = .ok (.iaload, 1) := by decide +kernel
theorem dL_law_734 : decode cL_law 734 = .ok (.aload_n 0, 1) := by decide +kernel
theorem dL_law_735 : decode cL_law 735 = .ok (.iload_n 3, 1) := by decide +kernel
theorem dL_law_736 : decode cL_law 736 = .ok (.iconst 2, 1) := by decide +kernel
theorem dL_law_737 : decode cL_law 737 = .ok (.iadd, 1) := by decide +kernel
theorem dL_law_738 : decode cL_law 738 = .ok (.iaload, 1) := by decide +kernel
theorem dL_law_739 : decode cL_law 739 = .ok (.aload_n 0, 1) := by decide +kernel
theorem dL_law_740 : decode cL_law 740 = .ok (.iload_n 3, 1) := by decide +kernel
theorem dL_law_741 : decode cL_law 741 = .ok (.iconst 3, 1) := by decide +kernel
theorem dL_law_742 : decode cL_law 742 = .ok (.iadd, 1) := by decide +kernel
theorem dL_law_743 : decode cL_law 743 = .ok (.iaload, 1) := by decide +kernel
theorem dL_law_744 : decode cL_law 744 = .ok (.aload_n 0, 1) := by decide +kernel
theorem dL_law_745 : decode cL_law 745 = .ok (.iload_n 3, 1) := by decide +kernel
theorem dL_law_746 : decode cL_law 746 = .ok (.iconst 4, 1) := by decide +kernel
theorem dL_law_747 : decode cL_law 747 = .ok (.iadd, 1) := by decide +kernel
theorem dL_law_748 : decode cL_law 748 = .ok (.iaload, 1) := by decide +kernel
theorem dL_law_749 : decode cL_law 749 = .ok (.aload_n 0, 1) := by decide +kernel
theorem dL_law_750 : decode cL_law 750 = .ok (.iload_n 3, 1) := by decide +kernel
theorem dL_law_751 : decode cL_law 751 = .ok (.iconst 5, 1) := by decide +kernel
theorem dL_law_752 : decode cL_law 752 = .ok (.iadd, 1) := by decide +kernel
theorem dL_law_753 : decode cL_law 753 = .ok (.iaload, 1) := by decide +kernel
theorem dL_law_754 : decode cL_law 754 = .ok (.aload_n 0, 1) := by decide +kernel
theorem dL_law_755 : decode cL_law 755 = .ok (.iload_n 3, 1) := by decide +kernel
theorem dL_law_756 : decode cL_law 756 = .ok (.bipush 6, 2) := by decide +kernel
theorem dL_law_758 : decode cL_law 758 = .ok (.iadd, 1) := by decide +kernel
theorem dL_law_759 : decode cL_law 759 = .ok (.iaload, 1) := by decide +kernel
theorem dL_law_760 : decode cL_law 760 = .ok (.invokevirtual 77, 3) := by decide +kernel
theorem dL_law_763 : decode cL_law 763 = .ok (.aload_n 2, 1) := by decide +kernel
theorem dL_law_764 : decode cL_law 764 = .ok (.aload_n 0, 1) := by decide +kernel
theorem dL_law_765 : decode cL_law 765 = .ok (.iload_n 3, 1) := by decide +kernel
theorem dL_law_766 : decode cL_law 766 = .ok (.iconst 1, 1) := by decide +kernel
theorem dL_law_767 : decode cL_law 767 = .ok (.iadd, 1) := by decide +kernel
theorem dL_law_768 : decode cL_law 768 = .ok (.iaload, 1) := by decide +kernel
theorem dL_law_769 : decode cL_law 769 = .ok (.aload_n 0, 1) := by decide +kernel
theorem dL_law_770 : decode cL_law 770 = .ok (.iload_n 3, 1) := by decide +kernel
theorem dL_law_771 : decode cL_law 771 = .ok (.iconst 2, 1) := by decide +kernel
theorem dL_law_772 : decode cL_law 772 = .ok (.iadd, 1) := by decide +kernel
theorem dL_law_773 : decode cL_law 773 = .ok (.iaload, 1) := by decide +kernel
theorem dL_law_774 : decode cL_law 774 = .ok (.aload_n 0, 1) := by decide +kernel
theorem dL_law_775 : decode cL_law 775 = .ok (.iload_n 3, 1) := by decide +kernel
theorem dL_law_776 : decode cL_law 776 = .ok (.iconst 3, 1) := by decide +kernel
theorem dL_law_777 : decode cL_law 777 = .ok (.iadd, 1) := by decide +kernel
theorem dL_law_778 : decode cL_law 778 = .ok (.iaload, 1) := by decide +kernel
theorem dL_law_779 : decode cL_law 779 = .ok (.aload_n 0, 1) := by decide +kernel
theorem dL_law_780 : decode cL_law 780 = .ok (.iload_n 3, 1) := by decide +kernel
theorem dL_law_781 : decode cL_law 781 = .ok (.iconst 4, 1) := by decide +kernel
theorem dL_law_782 : decode cL_law 782 = .ok (.iadd, 1) := by decide +kernel
theorem dL_law_783 : decode cL_law 783 = .ok (.iaload, 1) := by decide +kernel
theorem dL_law_784 : decode cL_law 784 = .ok (.aload_n 0, 1) := by decide +kernel
theorem dL_law_785 : decode cL_law 785 = .ok (.iload_n 3, 1) := by decide +kernel
theorem dL_law_786 : decode cL_law 786 = .ok (.iconst 5, 1) := by decide +kernel
theorem dL_law_787 : decode cL_law 787 = .ok (.iadd, 1) := by decide +kernel
theorem dL_law_788 : decode cL_law 788 = .ok (.iaload, 1) := by decide +kernel
theorem dL_law_789 : decode cL_law 789 = .ok (.aload_n 0, 1) := by decide +kernel
theorem dL_law_790 : decode cL_law 790 = .ok (.iload_n 3, 1) := by decide +kernel
theorem dL_law_791 : decode cL_law 791 = .ok (.bipush 6, 2) := by decide +kernel
theorem dL_law_793 : decode cL_law 793 = .ok (.iadd, 1) := by decide +kernel
theorem dL_law_794 : decode cL_law 794 = .ok (.iaload, 1) := by decide +kernel
theorem dL_law_795 : decode cL_law 795 = .ok (.invokevirtual 81, 3) := by decide +kernel
theorem dL_law_798 : decode cL_law 798 = .ok (.lcmp, 1) := by decide +kernel
theorem dL_law_799 : decode cL_law 799 = .ok (.ifCond .eq 779, 3) := by decide +kernel
theorem dL_law_802 : decode cL_law 802 = .ok (.iconst 0, 1) := by decide +kernel
theorem dL_law_803 : decode cL_law 803 = .ok (.ireturn, 1) := by decide +kernel
theorem dL_law_804 : decode cL_law 804 = .ok (.aload_n 1, 1) := by decide +kernel
theorem dL_law_805 : decode cL_law 805 = .ok (.aload_n 0, 1) := by decide +kernel
theorem dL_law_806 : decode cL_law 806 = .ok (.iload_n 3, 1) := by decide +kernel
theorem dL_law_807 : decode cL_law 807 = .ok (.iconst 1, 1) := by decide +kernel
theorem dL_law_808 : decode cL_law 808 = .ok (.iadd, 1) := by decide +kernel
theorem dL_law_809 : decode cL_law 809 = .ok (.iaload, 1) := by decide +kernel
theorem dL_law_810 : decode cL_law 810 = .ok (.aload_n 0, 1) := by decide +kernel
theorem dL_law_811 : decode cL_law 811 = .ok (.iload_n 3, 1) := by decide +kernel
theorem dL_law_812 : decode cL_law 812 = .ok (.iconst 2, 1) := by decide +kernel
theorem dL_law_813 : decode cL_law 813 = .ok (.iadd, 1) := by decide +kernel
theorem dL_law_814 : decode cL_law 814 = .ok (.iaload, 1) := by decide +kernel
theorem dL_law_815 : decode cL_law 815 = .ok (.aload_n 0, 1) := by decide +kernel
theorem dL_law_816 : decode cL_law 816 = .ok (.iload_n 3, 1) := by decide +kernel
theorem dL_law_817 : decode cL_law 817 = .ok (.iconst 3, 1) := by decide +kernel
theorem dL_law_818 : decode cL_law 818 = .ok (.iadd, 1) := by decide +kernel
theorem dL_law_819 : decode cL_law 819 = .ok (.iaload, 1) := by decide +kernel
theorem dL_law_820 : decode cL_law 820 = .ok (.aload_n 0, 1) := by decide +kernel
theorem dL_law_821 : decode cL_law 821 = .ok (.iload_n 3, 1) := by decide +kernel
theorem dL_law_822 : decode cL_law 822 = .ok (.iconst 4, 1) := by decide +kernel
theorem dL_law_823 : decode cL_law 823 = .ok (.iadd, 1) := by decide +kernel
theorem dL_law_824 : decode cL_law 824 = .ok (.iaload, 1) := by decide +kernel
theorem dL_law_825 : decode cL_law 825 = .ok (.invokevirtual 82, 3) := by decide +kernel
theorem dL_law_828 : decode cL_law 828 = .ok (.aload_n 2, 1) := by decide +kernel
theorem dL_law_829 : decode cL_law 829 = .ok (.aload_n 0, 1) := by decide +kernel
theorem dL_law_830 : decode cL_law 830 = .ok (.iload_n 3, 1) := by decide +kernel
theorem dL_law_831 : decode cL_law 831 = .ok (.iconst 1, 1) := by decide +kernel
theorem dL_law_832 : decode cL_law 832 = .ok (.iadd, 1) := by decide +kernel
theorem dL_law_833 : decode cL_law 833 = .ok (.iaload, 1) := by decide +kernel
theorem dL_law_834 : decode cL_law 834 = .ok (.aload_n 0, 1) := by decide +kernel
theorem dL_law_835 : decode cL_law 835 = .ok (.iload_n 3, 1) := by decide +kernel
theorem dL_law_836 : decode cL_law 836 = .ok (.iconst 2, 1) := by decide +kernel
theorem dL_law_837 : decode cL_law 837 = .ok (.iadd, 1) := by decide +kernel
theorem dL_law_838 : decode cL_law 838 = .ok (.iaload, 1) := by decide +kernel
theorem dL_law_839 : decode cL_law 839 = .ok (.aload_n 0, 1) := by decide +kernel
theorem dL_law_840 : decode cL_law 840 = .ok (.iload_n 3, 1) := by decide +kernel
theorem dL_law_841 : decode cL_law 841 = .ok (.iconst 3, 1) := by decide +kernel
theorem dL_law_842 : decode cL_law 842 = .ok (.iadd, 1) := by decide +kernel
theorem dL_law_843 : decode cL_law 843 = .ok (.iaload, 1) := by decide +kernel
theorem dL_law_844 : decode cL_law 844 = .ok (.aload_n 0, 1) := by decide +kernel
theorem dL_law_845 : decode cL_law 845 = .ok (.iload_n 3, 1) := by decide +kernel
theorem dL_law_846 : decode cL_law 846 = .ok (.iconst 4, 1) := by decide +kernel
theorem dL_law_847 : decode cL_law 847 = .ok (.iadd, 1) := by decide +kernel
theorem dL_law_848 : decode cL_law 848 = .ok (.iaload, 1) := by decide +kernel
theorem dL_law_849 : decode cL_law 849 = .ok (.invokevirtual 85, 3) := by decide +kernel
theorem dL_law_852 : decode cL_law 852 = .ok (.if_icmp .eq 726, 3) := by decide +kernel
theorem dL_law_855 : decode cL_law 855 = .ok (.iconst 0, 1) := by decide +kernel
theorem dL_law_856 : decode cL_law 856 = .ok (.ireturn, 1) := by decide +kernel
theorem dL_law_857 : decode cL_law 857 = .ok (.aload_n 1, 1) := by decide +kernel
theorem dL_law_858 : decode cL_law 858 = .ok (.aload_n 0, 1) := by decide +kernel
theorem dL_law_859 : decode cL_law 859 = .ok (.iload_n 3, 1) := by decide +kernel
theorem dL_law_860 : decode cL_law 860 = .ok (.iconst 1, 1) := by decide +kernel
theorem dL_law_861 : decode cL_law 861 = .ok (.iadd, 1) := by decide +kernel
theorem dL_law_862 : decode cL_law 862 = .ok (.iaload, 1) := by decide +kernel
theorem dL_law_863 : decode cL_law 863 = .ok (.aload_n 0, 1) := by decide +kernel
theorem dL_law_864 : decode cL_law 864 = .ok (.iload_n 3, 1) := by decide +kernel
theorem dL_law_865 : decode cL_law 865 = .ok (.iconst 2, 1) := by decide +kernel
theorem dL_law_866 : decode cL_law 866 = .ok (.iadd, 1) := by decide +kernel
theorem dL_law_867 : decode cL_law 867 = .ok (.iaload, 1) := by decide +kernel
theorem dL_law_868 : decode cL_law 868 = .ok (.aload_n 0, 1) := by decide +kernel
theorem dL_law_869 : decode cL_law 869 = .ok (.iload_n 3, 1) := by decide +kernel
theorem dL_law_870 : decode cL_law 870 = .ok (.iconst 3, 1) := by decide +kernel
theorem dL_law_871 : decode cL_law 871 = .ok (.iadd, 1) := by decide +kernel
theorem dL_law_872 : decode cL_law 872 = .ok (.iaload, 1) := by decide +kernel
theorem dL_law_873 : decode cL_law 873 = .ok (.invokevirtual 86, 3) := by decide +kernel
theorem dL_law_876 : decode cL_law 876 = .ok (.aload_n 2, 1) := by decide +kernel
theorem dL_law_877 : decode cL_law 877 = .ok (.aload_n 0, 1) := by decide +kernel
theorem dL_law_878 : decode cL_law 878 = .ok (.iload_n 3, 1) := by decide +kernel
theorem dL_law_879 : decode cL_law 879 = .ok (.iconst 1, 1) := by decide +kernel
theorem dL_law_880 : decode cL_law 880 = .ok (.iadd, 1) := by decide +kernel
theorem dL_law_881 : decode cL_law 881 = .ok (.iaload, 1) := by decide +kernel
theorem dL_law_882 : decode cL_law 882 = .ok (.aload_n 0, 1) := by decide +kernel
theorem dL_law_883 : decode cL_law 883 = .ok (.iload_n 3, 1) := by decide +kernel
theorem dL_law_884 : decode cL_law 884 = .ok (.iconst 2, 1) := by decide +kernel
theorem dL_law_885 : decode cL_law 885 = .ok (.iadd, 1) := by decide +kernel
theorem dL_law_886 : decode cL_law 886 = .ok (.iaload, 1) := by decide +kernel
theorem dL_law_887 : decode cL_law 887 = .ok (.aload_n 0, 1) := by decide +kernel
theorem dL_law_888 : decode cL_law 888 = .ok (.iload_n 3, 1) := by decide +kernel
theorem dL_law_889 : decode cL_law 889 = .ok (.iconst 3, 1) := by decide +kernel
theorem dL_law_890 : decode cL_law 890 = .ok (.iadd, 1) := by decide +kernel
theorem dL_law_891 : decode cL_law 891 = .ok (.iaload, 1) := by decide +kernel
theorem dL_law_892 : decode cL_law 892 = .ok (.invokevirtual 89, 3) := by decide +kernel
theorem dL_law_895 : decode cL_law 895 = .ok (.if_icmp .eq 683, 3) := by decide +kernel
theorem dL_law_898 : decode cL_law 898 = .ok (.iconst 0, 1) := by decide +kernel
theorem dL_law_899 : decode cL_law 899 = .ok (.ireturn, 1) := by decide +kernel
theorem dL_law_900 : decode cL_law 900 = .ok (.aload_n 1, 1) := by decide +kernel
theorem dL_law_901 : decode cL_law 901 = .ok (.aload_n 0, 1) := by decide +kernel
theorem dL_law_902 : decode cL_law 902 = .ok (.iload_n 3, 1) := by decide +kernel
theorem dL_law_903 : decode cL_law 903 = .ok (.iconst 1, 1) := by decide +kernel
theorem dL_law_904 : decode cL_law 904 = .ok (.iadd, 1) := by decide +kernel
theorem dL_law_905 : decode cL_law 905 = .ok (.iaload, 1) := by decide +kernel
theorem dL_law_906 : decode cL_law 906 = .ok (.aload_n 0, 1) := by decide +kernel
theorem dL_law_907 : decode cL_law 907 = .ok (.iload_n 3, 1) := by decide +kernel
theorem dL_law_908 : decode cL_law 908 = .ok (.iconst 2, 1) := by decide +kernel
theorem dL_law_909 : decode cL_law 909 = .ok (.iadd, 1) := by decide +kernel
theorem dL_law_910 : decode cL_law 910 = .ok (.iaload, 1) := by decide +kernel
theorem dL_law_911 : decode cL_law 911 = .ok (.aload_n 0, 1) := by decide +kernel
theorem dL_law_912 : decode cL_law 912 = .ok (.iload_n 3, 1) := by decide +kernel
theorem dL_law_913 : decode cL_law 913 = .ok (.iconst 3, 1) := by decide +kernel
theorem dL_law_914 : decode cL_law 914 = .ok (.iadd, 1) := by decide +kernel
theorem dL_law_915 : decode cL_law 915 = .ok (.iaload, 1) := by decide +kernel
theorem dL_law_916 : decode cL_law 916 = .ok (.aload_n 0, 1) := by decide +kernel
theorem dL_law_917 : decode cL_law 917 = .ok (.iload_n 3, 1) := by decide +kernel
theorem dL_law_918 : decode cL_law 918 = .ok (.iconst 4, 1) := by decide +kernel
theorem dL_law_919 : decode cL_law 919 = .ok (.iadd, 1) := by decide +kernel
theorem dL_law_920 : decode cL_law 920 = .ok (.iaload, 1) := by decide +kernel
theorem dL_law_921 : decode cL_law 921 = .ok (.invokevirtual 90, 3) := by decide +kernel
theorem dL_law_924 : decode cL_law 924 = .ok (.aload_n 2, 1) := by decide +kernel
theorem dL_law_925 : decode cL_law 925 = .ok (.aload_n 0, 1) := by decide +kernel
theorem dL_law_926 : decode cL_law 926 = .ok (.iload_n 3, 1) := by decide +kernel
theorem dL_law_927 : decode cL_law 927 = .ok (.iconst 1, 1) := by decide +kernel
theorem dL_law_928 : decode cL_law 928 = .ok (.iadd, 1) := by decide +kernel
theorem dL_law_929 : decode cL_law 929 = .ok (.iaload, 1) := by decide +kernel
theorem dL_law_930 : decode cL_law 930 = .ok (.aload_n 0, 1) := by decide +kernel
theorem dL_law_931 : decode cL_law 931 = .ok (.iload_n 3, 1) := by decide +kernel
theorem dL_law_932 : decode cL_law 932 = .ok (.iconst 2, 1) := by decide +kernel
theorem dL_law_933 : decode cL_law 933 = .ok (.iadd, 1) := by decide +kernel
theorem dL_law_934 : decode cL_law 934 = .ok (.iaload, 1) := by decide +kernel
theorem dL_law_935 : decode cL_law 935 = .ok (.aload_n 0, 1) := by decide +kernel
theorem dL_law_936 : decode cL_law 936 = .ok (.iload_n 3, 1) := by decide +kernel
theorem dL_law_937 : decode cL_law 937 = .ok (.iconst 3, 1) := by decide +kernel
theorem dL_law_938 : decode cL_law 938 = .ok (.iadd, 1) := by decide +kernel
theorem dL_law_939 : decode cL_law 939 = .ok (.iaload, 1) := by decide +kernel
theorem dL_law_940 : decode cL_law 940 = .ok (.aload_n 0, 1) := by decide +kernel
theorem dL_law_941 : decode cL_law 941 = .ok (.iload_n 3, 1) := by decide +kernel
theorem dL_law_942 : decode cL_law 942 = .ok (.iconst 4, 1) := by decide +kernel
theorem dL_law_943 : decode cL_law 943 = .ok (.iadd, 1) := by decide +kernel
theorem dL_law_944 : decode cL_law 944 = .ok (.iaload, 1) := by decide +kernel
theorem dL_law_945 : decode cL_law 945 = .ok (.invokevirtual 93, 3) := by decide +kernel
theorem dL_law_948 : decode cL_law 948 = .ok (.if_icmp .eq 630, 3) := by decide +kernel
theorem dL_law_951 : decode cL_law 951 = .ok (.iconst 0, 1) := by decide +kernel
theorem dL_law_952 : decode cL_law 952 = .ok (.ireturn, 1) := by decide +kernel
theorem dL_law_953 : decode cL_law 953 = .ok (.aload_n 1, 1) := by decide +kernel
theorem dL_law_954 : decode cL_law 954 = .ok (.aload_n 0, 1) := by decide +kernel
theorem dL_law_955 : decode cL_law 955 = .ok (.iload_n 3, 1) := by decide +kernel
theorem dL_law_956 : decode cL_law 956 = .ok (.iconst 1, 1) := by decide +kernel
theorem dL_law_957 : decode cL_law 957 = .ok (.iadd, 1) := by decide +kernel
theorem dL_law_958 : decode cL_law 958 = .ok (.iaload, 1) := by decide +kernel
theorem dL_law_959 : decode cL_law 959 = .ok (.aload_n 0, 1) := by decide +kernel
theorem dL_law_960 : decode cL_law 960 = .ok (.iload_n 3, 1) := by decide +kernel
theorem dL_law_961 : decode cL_law 961 = .ok (.iconst 2, 1) := by decide +kernel
theorem dL_law_962 : decode cL_law 962 = .ok (.iadd, 1) := by decide +kernel
theorem dL_law_963 : decode cL_law 963 = .ok (.iaload, 1) := by decide +kernel
theorem dL_law_964 : decode cL_law 964 = .ok (.aload_n 0, 1) := by decide +kernel
theorem dL_law_965 : decode cL_law 965 = .ok (.iload_n 3, 1) := by decide +kernel
theorem dL_law_966 : decode cL_law 966 = .ok (.iconst 3, 1) := by decide +kernel
theorem dL_law_967 : decode cL_law 967 = .ok (.iadd, 1) := by decide +kernel
theorem dL_law_968 : decode cL_law 968 = .ok (.iaload, 1) := by decide +kernel
theorem dL_law_969 : decode cL_law 969 = .ok (.aload_n 0, 1) := by decide +kernel
theorem dL_law_970 : decode cL_law 970 = .ok (.iload_n 3, 1) := by decide +kernel
theorem dL_law_971 : decode cL_law 971 = .ok (.iconst 4, 1) := by decide +kernel
theorem dL_law_972 : decode cL_law 972 = .ok (.iadd, 1) := by decide +kernel
theorem dL_law_973 : decode cL_law 973 = .ok (.iaload, 1) := by decide +kernel
theorem dL_law_974 : decode cL_law 974 = .ok (.invokevirtual 94, 3) := by decide +kernel
theorem dL_law_977 : decode cL_law 977 = .ok (.aload_n 2, 1) := by decide +kernel
theorem dL_law_978 : decode cL_law 978 = .ok (.aload_n 0, 1) := by decide +kernel
theorem dL_law_979 : decode cL_law 979 = .ok (.iload_n 3, 1) := by decide +kernel
theorem dL_law_980 : decode cL_law 980 = .ok (.iconst 1, 1) := by decide +kernel
theorem dL_law_981 : decode cL_law 981 = .ok (.iadd, 1) := by decide +kernel
theorem dL_law_982 : decode cL_law 982 = .ok (.iaload, 1) := by decide +kernel
theorem dL_law_983 : decode cL_law 983 = .ok (.aload_n 0, 1) := by decide +kernel
theorem dL_law_984 : decode cL_law 984 = .ok (.iload_n 3, 1) := by decide +kernel
theorem dL_law_985 : decode cL_law 985 = .ok (.iconst 2, 1) := by decide +kernel
theorem dL_law_986 : decode cL_law 986 = .ok (.iadd, 1) := by decide +kernel
theorem dL_law_987 : decode cL_law 987 = .ok (.iaload, 1) := by decide +kernel
theorem dL_law_988 : decode cL_law 988 = .ok (.aload_n 0, 1) := by decide +kernel
theorem dL_law_989 : decode cL_law 989 = .ok (.iload_n 3, 1) := by decide +kernel
theorem dL_law_990 : decode cL_law 990 = .ok (.iconst 3, 1) := by decide +kernel
theorem dL_law_991 : decode cL_law 991 = .ok (.iadd, 1) := by decide +kernel
theorem dL_law_992 : decode cL_law 992 = .ok (.iaload, 1) := by decide +kernel
theorem dL_law_993 : decode cL_law 993 = .ok (.aload_n 0, 1) := by decide +kernel
theorem dL_law_994 : decode cL_law 994 = .ok (.iload_n 3, 1) := by decide +kernel
theorem dL_law_995 : decode cL_law 995 = .ok (.iconst 4, 1) := by decide +kernel
theorem dL_law_996 : decode cL_law 996 = .ok (.iadd, 1) := by decide +kernel
theorem dL_law_997 : decode cL_law 997 = .ok (.iaload, 1) := by decide +kernel
theorem dL_law_998 : decode cL_law 998 = .ok (.invokevirtual 97, 3) := by decide +kernel
theorem dL_law_1001 : decode cL_law 1001 = .ok (.if_icmp .eq 577, 3) := by decide +kernel
theorem dL_law_1004 : decode cL_law 1004 = .ok (.iconst 0, 1) := by decide +kernel
theorem dL_law_1005 : decode cL_law 1005 = .ok (.ireturn, 1) := by decide +kernel
theorem dL_law_1006 : decode cL_law 1006 = .ok (.aload_n 1, 1) := by decide +kernel
theorem dL_law_1007 : decode cL_law 1007 = .ok (.aload_n 0, 1) := by decide +kernel
theorem dL_law_1008 : decode cL_law 1008 = .ok (.iload_n 3, 1) := by decide +kernel
theorem dL_law_1009 : decode cL_law 1009 = .ok (.iconst 1, 1) := by decide +kernel
theorem dL_law_1010 : decode cL_law 1010 = .ok (.iadd, 1) := by decide +kernel
theorem dL_law_1011 : decode cL_law 1011 = .ok (.iaload, 1) := by decide +kernel
theorem dL_law_1012 : decode cL_law 1012 = .ok (.aload_n 0, 1) := by decide +kernel
theorem dL_law_1013 : decode cL_law 1013 = .ok (.iload_n 3, 1) := by decide +kernel
theorem dL_law_1014 : decode cL_law 1014 = .ok (.iconst 2, 1) := by decide +kernel
theorem dL_law_1015 : decode cL_law 1015 = .ok (.iadd, 1) := by decide +kernel
theorem dL_law_1016 : decode cL_law 1016 = .ok (.iaload, 1) := by decide +kernel
theorem dL_law_1017 : decode cL_law 1017 = .ok (.aload_n 0, 1) := by decide +kernel
theorem dL_law_1018 : decode cL_law 1018 = .ok (.iload_n 3, 1) := by decide +kernel
theorem dL_law_1019 : decode cL_law 1019 = .ok (.iconst 3, 1) := by decide +kernel
theorem dL_law_1020 : decode cL_law 1020 = .ok (.iadd, 1) := by decide +kernel
theorem dL_law_1021 : decode cL_law 1021 = .ok (.iaload, 1) := by decide +kernel
theorem dL_law_1022 : decode cL_law 1022 = .ok (.aload_n 0, 1) := by decide +kernel
theorem dL_law_1023 : decode cL_law 1023 = .ok (.iload_n 3, 1) := by decide +kernel
theorem dL_law_1024 : decode cL_law 1024 = .ok (.iconst 4, 1) := by decide +kernel
theorem dL_law_1025 : decode cL_law 1025 = .ok (.iadd, 1) := by decide +kernel
theorem dL_law_1026 : decode cL_law 1026 = .ok (.iaload, 1) := by decide +kernel
theorem dL_law_1027 : decode cL_law 1027 = .ok (.aload_n 0, 1) := by decide +kernel
theorem dL_law_1028 : decode cL_law 1028 = .ok (.iload_n 3, 1) := by decide +kernel
theorem dL_law_1029 : decode cL_law 1029 = .ok (.iconst 5, 1) := by decide +kernel
theorem dL_law_1030 : decode cL_law 1030 = .ok (.iadd, 1) := by decide +kernel
theorem dL_law_1031 : decode cL_law 1031 = .ok (.iaload, 1) := by decide +kernel
theorem dL_law_1032 : decode cL_law 1032 = .ok (.invokevirtual 98, 3) := by decide +kernel
theorem dL_law_1035 : decode cL_law 1035 = .ok (.aload_n 2, 1) := by decide +kernel
theorem dL_law_1036 : decode cL_law 1036 = .ok (.aload_n 0, 1) := by decide +kernel
theorem dL_law_1037 : decode cL_law 1037 = .ok (.iload_n 3, 1) := by decide +kernel
theorem dL_law_1038 : decode cL_law 1038 = .ok (.iconst 1, 1) := by decide +kernel
theorem dL_law_1039 : decode cL_law 1039 = .ok (.iadd, 1) := by decide +kernel
theorem dL_law_1040 : decode cL_law 1040 = .ok (.iaload, 1) := by decide +kernel
theorem dL_law_1041 : decode cL_law 1041 = .ok (.aload_n 0, 1) := by decide +kernel
theorem dL_law_1042 : decode cL_law 1042 = .ok (.iload_n 3, 1) := by decide +kernel
theorem dL_law_1043 : decode cL_law 1043 = .ok (.iconst 2, 1) := by decide +kernel
theorem dL_law_1044 : decode cL_law 1044 = .ok (.iadd, 1) := by decide +kernel
theorem dL_law_1045 : decode cL_law 1045 = .ok (.iaload, 1) := by decide +kernel
theorem dL_law_1046 : decode cL_law 1046 = .ok (.aload_n 0, 1) := by decide +kernel
theorem dL_law_1047 : decode cL_law 1047 = .ok (.iload_n 3, 1) := by decide +kernel
theorem dL_law_1048 : decode cL_law 1048 = .ok (.iconst 3, 1) := by decide +kernel
theorem dL_law_1049 : decode cL_law 1049 = .ok (.iadd, 1) := by decide +kernel
theorem dL_law_1050 : decode cL_law 1050 = .ok (.iaload, 1) := by decide +kernel
theorem dL_law_1051 : decode cL_law 1051 = .ok (.aload_n 0, 1) := by decide +kernel
theorem dL_law_1052 : decode cL_law 1052 = .ok (.iload_n 3, 1) := by decide +kernel
theorem dL_law_1053 : decode cL_law 1053 = .ok (.iconst 4, 1) := by decide +kernel
theorem dL_law_1054 : decode cL_law 1054 = .ok (.iadd, 1) := by decide +kernel
theorem dL_law_1055 : decode cL_law 1055 = .ok (.iaload, 1) := by decide +kernel
theorem dL_law_1056 : decode cL_law 1056 = .ok (.aload_n 0, 1) := by decide +kernel
theorem dL_law_1057 : decode cL_law 1057 = .ok (.iload_n 3, 1) := by decide +kernel
theorem dL_law_1058 : decode cL_law 1058 = .ok (.iconst 5, 1) := by decide +kernel
theorem dL_law_1059 : decode cL_law 1059 = .ok (.iadd, 1) := by decide +kernel
theorem dL_law_1060 : decode cL_law 1060 = .ok (.iaload, 1) := by decide +kernel
theorem dL_law_1061 : decode cL_law 1061 = .ok (.invokevirtual 102, 3) := by decide +kernel
theorem dL_law_1064 : decode cL_law 1064 = .ok (.if_icmp .eq 514, 3) := by decide +kernel
theorem dL_law_1067 : decode cL_law 1067 = .ok (.iconst 0, 1) := by decide +kernel
theorem dL_law_1068 : decode cL_law 1068 = .ok (.ireturn, 1) := by decide +kernel
theorem dL_law_1069 : decode cL_law 1069 = .ok (.aload_n 1, 1) := by decide +kernel
theorem dL_law_1070 : decode cL_law 1070 = .ok (.aload_n 0, 1) := by decide +kernel
theorem dL_law_1071 : decode cL_law 1071 = .ok (.iload_n 3, 1) := by decide +kernel
theorem dL_law_1072 : decode cL_law 1072 = .ok (.iconst 1, 1) := by decide +kernel
theorem dL_law_1073 : decode cL_law 1073 = .ok (.iadd, 1) := by decide +kernel
theorem dL_law_1074 : decode cL_law 1074 = .ok (.iaload, 1) := by decide +kernel
theorem dL_law_1075 : decode cL_law 1075 = .ok (.invokevirtual 103, 3) := by decide +kernel
theorem dL_law_1078 : decode cL_law 1078 = .ok (.aload_n 2, 1) := by decide +kernel
theorem dL_law_1079 : decode cL_law 1079 = .ok (.aload_n 0, 1) := by decide +kernel
theorem dL_law_1080 : decode cL_law 1080 = .ok (.iload_n 3, 1) := by decide +kernel
theorem dL_law_1081 : decode cL_law 1081 = .ok (.iconst 1, 1) := by decide +kernel
theorem dL_law_1082 : decode cL_law 1082 = .ok (.iadd, 1) := by decide +kernel
theorem dL_law_1083 : decode cL_law 1083 = .ok (.iaload, 1) := by decide +kernel
theorem dL_law_1084 : decode cL_law 1084 = .ok (.invokevirtual 106, 3) := by decide +kernel
theorem dL_law_1087 : decode cL_law 1087 = .ok (.if_icmp .eq 491, 3) := by decide +kernel
theorem dL_law_1090 : decode cL_law 1090 = .ok (.iconst 0, 1) := by decide +kernel
theorem dL_law_1091 : decode cL_law 1091 = .ok (.ireturn, 1) := by decide +kernel
theorem dL_law_1092 : decode cL_law 1092 = .ok (.aload_n 1, 1) := by decide +kernel
theorem dL_law_1093 : decode cL_law 1093 = .ok (.aload_n 0, 1) := by decide +kernel
theorem dL_law_1094 : decode cL_law 1094 = .ok (.iload_n 3, 1) := by decide +kernel
theorem dL_law_1095 : decode cL_law 1095 = .ok (.iconst 1, 1) := by decide +kernel
theorem dL_law_1096 : decode cL_law 1096 = .ok (.iadd, 1) := by decide +kernel
theorem dL_law_1097 : decode cL_law 1097 = .ok (.iaload, 1) := by decide +kernel
theorem dL_law_1098 : decode cL_law 1098 = .ok (.invokevirtual 107, 3) := by decide +kernel
theorem dL_law_1101 : decode cL_law 1101 = .ok (.aload_n 2, 1) := by decide +kernel
theorem dL_law_1102 : decode cL_law 1102 = .ok (.aload_n 0, 1) := by decide +kernel
theorem dL_law_1103 : decode cL_law 1103 = .ok (.iload_n 3, 1) := by decide +kernel
theorem dL_law_1104 : decode cL_law 1104 = .ok (.iconst 1, 1) := by decide +kernel
theorem dL_law_1105 : decode cL_law 1105 = .ok (.iadd, 1) := by decide +kernel
theorem dL_law_1106 : decode cL_law 1106 = .ok (.iaload, 1) := by decide +kernel
theorem dL_law_1107 : decode cL_law 1107 = .ok (.invokevirtual 110, 3) := by decide +kernel
theorem dL_law_1110 : decode cL_law 1110 = .ok (.if_icmp .eq 468, 3) := by decide +kernel
theorem dL_law_1113 : decode cL_law 1113 = .ok (.iconst 0, 1) := by decide +kernel
theorem dL_law_1114 : decode cL_law 1114 = .ok (.ireturn, 1) := by decide +kernel
theorem dL_law_1115 : decode cL_law 1115 = .ok (.aload_n 1, 1) := by decide +kernel
theorem dL_law_1116 : decode cL_law 1116 = .ok (.aload_n 0, 1) := by decide +kernel
theorem dL_law_1117 : decode cL_law 1117 = .ok (.iload_n 3, 1) := by decide +kernel
theorem dL_law_1118 : decode cL_law 1118 = .ok (.iconst 1, 1) := by decide +kernel
theorem dL_law_1119 : decode cL_law 1119 = .ok (.iadd, 1) := by decide +kernel
theorem dL_law_1120 : decode cL_law 1120 = .ok (.iaload, 1) := by decide +kernel
theorem dL_law_1121 : decode cL_law 1121 = .ok (.aload_n 0, 1) := by decide +kernel
theorem dL_law_1122 : decode cL_law 1122 = .ok (.iload_n 3, 1) := by decide +kernel
theorem dL_law_1123 : decode cL_law 1123 = .ok (.iconst 2, 1) := by decide +kernel
theorem dL_law_1124 : decode cL_law 1124 = .ok (.iadd, 1) := by decide +kernel
theorem dL_law_1125 : decode cL_law 1125 = .ok (.iaload, 1) := by decide +kernel
theorem dL_law_1126 : decode cL_law 1126 = .ok (.aload_n 0, 1) := by decide +kernel
theorem dL_law_1127 : decode cL_law 1127 = .ok (.iload_n 3, 1) := by decide +kernel
theorem dL_law_1128 : decode cL_law 1128 = .ok (.iconst 3, 1) := by decide +kernel
theorem dL_law_1129 : decode cL_law 1129 = .ok (.iadd, 1) := by decide +kernel
theorem dL_law_1130 : decode cL_law 1130 = .ok (.iaload, 1) := by decide +kernel
theorem dL_law_1131 : decode cL_law 1131 = .ok (.aload_n 0, 1) := by decide +kernel
theorem dL_law_1132 : decode cL_law 1132 = .ok (.iload_n 3, 1) := by decide +kernel
theorem dL_law_1133 : decode cL_law 1133 = .ok (.iconst 4, 1) := by decide +kernel
theorem dL_law_1134 : decode cL_law 1134 = .ok (.iadd, 1) := by decide +kernel
theorem dL_law_1135 : decode cL_law 1135 = .ok (.iaload, 1) := by decide +kernel
theorem dL_law_1136 : decode cL_law 1136 = .ok (.aload_n 0, 1) := by decide +kernel
theorem dL_law_1137 : decode cL_law 1137 = .ok (.iload_n 3, 1) := by decide +kernel
theorem dL_law_1138 : decode cL_law 1138 = .ok (.iconst 5, 1) := by decide +kernel
theorem dL_law_1139 : decode cL_law 1139 = .ok (.iadd, 1) := by decide +kernel
theorem dL_law_1140 : decode cL_law 1140 = .ok (.iaload, 1) := by decide +kernel
theorem dL_law_1141 : decode cL_law 1141 = .ok (.aload_n 0, 1) := by decide +kernel
theorem dL_law_1142 : decode cL_law 1142 = .ok (.iload_n 3, 1) := by decide +kernel
theorem dL_law_1143 : decode cL_law 1143 = .ok (.bipush 6, 2) := by decide +kernel
theorem dL_law_1145 : decode cL_law 1145 = .ok (.iadd, 1) := by decide +kernel
theorem dL_law_1146 : decode cL_law 1146 = .ok (.iaload, 1) := by decide +kernel
theorem dL_law_1147 : decode cL_law 1147 = .ok (.invokevirtual 111, 3) := by decide +kernel
theorem dL_law_1150 : decode cL_law 1150 = .ok (.aload_n 2, 1) := by decide +kernel
theorem dL_law_1151 : decode cL_law 1151 = .ok (.aload_n 0, 1) := by decide +kernel
theorem dL_law_1152 : decode cL_law 1152 = .ok (.iload_n 3, 1) := by decide +kernel
theorem dL_law_1153 : decode cL_law 1153 = .ok (.iconst 1, 1) := by decide +kernel
theorem dL_law_1154 : decode cL_law 1154 = .ok (.iadd, 1) := by decide +kernel
theorem dL_law_1155 : decode cL_law 1155 = .ok (.iaload, 1) := by decide +kernel
theorem dL_law_1156 : decode cL_law 1156 = .ok (.aload_n 0, 1) := by decide +kernel
theorem dL_law_1157 : decode cL_law 1157 = .ok (.iload_n 3, 1) := by decide +kernel
theorem dL_law_1158 : decode cL_law 1158 = .ok (.iconst 2, 1) := by decide +kernel
theorem dL_law_1159 : decode cL_law 1159 = .ok (.iadd, 1) := by decide +kernel
theorem dL_law_1160 : decode cL_law 1160 = .ok (.iaload, 1) := by decide +kernel
theorem dL_law_1161 : decode cL_law 1161 = .ok (.aload_n 0, 1) := by decide +kernel
theorem dL_law_1162 : decode cL_law 1162 = .ok (.iload_n 3, 1) := by decide +kernel
theorem dL_law_1163 : decode cL_law 1163 = .ok (.iconst 3, 1) := by decide +kernel
theorem dL_law_1164 : decode cL_law 1164 = .ok (.iadd, 1) := by decide +kernel
theorem dL_law_1165 : decode cL_law 1165 = .ok (.iaload, 1) := by decide +kernel
theorem dL_law_1166 : decode cL_law 1166 = .ok (.aload_n 0, 1) := by decide +kernel
theorem dL_law_1167 : decode cL_law 1167 = .ok (.iload_n 3, 1) := by decide +kernel
theorem dL_law_1168 : decode cL_law 1168 = .ok (.iconst 4, 1) := by decide +kernel
theorem dL_law_1169 : decode cL_law 1169 = .ok (.iadd, 1) := by decide +kernel
theorem dL_law_1170 : decode cL_law 1170 = .ok (.iaload, 1) := by decide +kernel
theorem dL_law_1171 : decode cL_law 1171 = .ok (.aload_n 0, 1) := by decide +kernel
theorem dL_law_1172 : decode cL_law 1172 = .ok (.iload_n 3, 1) := by decide +kernel
theorem dL_law_1173 : decode cL_law 1173 = .ok (.iconst 5, 1) := by decide +kernel
theorem dL_law_1174 : decode cL_law 1174 = .ok (.iadd, 1) := by decide +kernel
theorem dL_law_1175 : decode cL_law 1175 = .ok (.iaload, 1) := by decide +kernel
theorem dL_law_1176 : decode cL_law 1176 = .ok (.aload_n 0, 1) := by decide +kernel
theorem dL_law_1177 : decode cL_law 1177 = .ok (.iload_n 3, 1) := by decide +kernel
theorem dL_law_1178 : decode cL_law 1178 = .ok (.bipush 6, 2) := by decide +kernel
theorem dL_law_1180 : decode cL_law 1180 = .ok (.iadd, 1) := by decide +kernel
theorem dL_law_1181 : decode cL_law 1181 = .ok (.iaload, 1) := by decide +kernel
theorem dL_law_1182 : decode cL_law 1182 = .ok (.invokevirtual 115, 3) := by decide +kernel
theorem dL_law_1185 : decode cL_law 1185 = .ok (.if_icmp .eq 393, 3) := by decide +kernel
theorem dL_law_1188 : decode cL_law 1188 = .ok (.iconst 0, 1) := by decide +kernel
theorem dL_law_1189 : decode cL_law 1189 = .ok (.ireturn, 1) := by decide +kernel
theorem dL_law_1190 : decode cL_law 1190 = .ok (.aload_n 1, 1) := by decide +kernel
theorem dL_law_1191 : decode cL_law 1191 = .ok (.invokevirtual 116, 3) := by decide +kernel
theorem dL_law_1194 : decode cL_law 1194 = .ok (.aload_n 2, 1) := by decide +kernel
theorem dL_law_1195 : decode cL_law 1195 = .ok (.invokevirtual 119, 3) := by decide +kernel
theorem dL_law_1198 : decode cL_law 1198 = .ok (.if_icmp .eq 380, 3) := by decide +kernel
theorem dL_law_1201 : decode cL_law 1201 = .ok (.iconst 0, 1) := by decide +kernel
theorem dL_law_1202 : decode cL_law 1202 = .ok (.ireturn, 1) := by decide +kernel
theorem dL_law_1203 : decode cL_law 1203 = .ok (.aload_n 1, 1) := by decide +kernel
theorem dL_law_1204 : decode cL_law 1204 = .ok (.aload_n 0, 1) := by decide +kernel
theorem dL_law_1205 : decode cL_law 1205 = .ok (.iload_n 3, 1) := by decide +kernel
theorem dL_law_1206 : decode cL_law 1206 = .ok (.iconst 1, 1) := by decide +kernel
theorem dL_law_1207 : decode cL_law 1207 = .ok (.iadd, 1) := by decide +kernel
theorem dL_law_1208 : decode cL_law 1208 = .ok (.iaload, 1) := by decide +kernel
theorem dL_law_1209 : decode cL_law 1209 = .ok (.invokevirtual 120, 3) := by decide +kernel
theorem dL_law_1212 : decode cL_law 1212 = .ok (.aload_n 2, 1) := by decide +kernel
theorem dL_law_1213 : decode cL_law 1213 = .ok (.aload_n 0, 1) := by decide +kernel
theorem dL_law_1214 : decode cL_law 1214 = .ok (.iload_n 3, 1) := by decide +kernel
theorem dL_law_1215 : decode cL_law 1215 = .ok (.iconst 1, 1) := by decide +kernel
theorem dL_law_1216 : decode cL_law 1216 = .ok (.iadd, 1) := by decide +kernel
theorem dL_law_1217 : decode cL_law 1217 = .ok (.iaload, 1) := by decide +kernel
theorem dL_law_1218 : decode cL_law 1218 = .ok (.invokevirtual 123, 3) := by decide +kernel
theorem dL_law_1221 : decode cL_law 1221 = .ok (.if_icmp .eq 357, 3) := by decide +kernel
theorem dL_law_1224 : decode cL_law 1224 = .ok (.iconst 0, 1) := by decide +kernel
theorem dL_law_1225 : decode cL_law 1225 = .ok (.ireturn, 1) := by decide +kernel
theorem dL_law_1226 : decode cL_law 1226 = .ok (.aload_n 1, 1) := by decide +kernel
theorem dL_law_1227 : decode cL_law 1227 = .ok (.aload_n 0, 1) := by decide +kernel
theorem dL_law_1228 : decode cL_law 1228 = .ok (.iload_n 3, 1) := by decide +kernel
theorem dL_law_1229 : decode cL_law 1229 = .ok (.iconst 1, 1) := by decide +kernel
theorem dL_law_1230 : decode cL_law 1230 = .ok (.iadd, 1) := by decide +kernel
theorem dL_law_1231 : decode cL_law 1231 = .ok (.iaload, 1) := by decide +kernel
theorem dL_law_1232 : decode cL_law 1232 = .ok (.invokevirtual 124, 3) := by decide +kernel
theorem dL_law_1235 : decode cL_law 1235 = .ok (.aload_n 2, 1) := by decide +kernel
theorem dL_law_1236 : decode cL_law 1236 = .ok (.aload_n 0, 1) := by decide +kernel
theorem dL_law_1237 : decode cL_law 1237 = .ok (.iload_n 3, 1) := by decide +kernel
theorem dL_law_1238 : decode cL_law 1238 = .ok (.iconst 1, 1) := by decide +kernel
theorem dL_law_1239 : decode cL_law 1239 = .ok (.iadd, 1) := by decide +kernel
theorem dL_law_1240 : decode cL_law 1240 = .ok (.iaload, 1) := by decide +kernel
theorem dL_law_1241 : decode cL_law 1241 = .ok (.invokevirtual 127, 3) := by decide +kernel
theorem dL_law_1244 : decode cL_law 1244 = .ok (.if_icmp .eq 334, 3) := by decide +kernel
theorem dL_law_1247 : decode cL_law 1247 = .ok (.iconst 0, 1) := by decide +kernel
theorem dL_law_1248 : decode cL_law 1248 = .ok (.ireturn, 1) := by decide +kernel
theorem dL_law_1249 : decode cL_law 1249 = .ok (.aload_n 1, 1) := by decide +kernel
theorem dL_law_1250 : decode cL_law 1250 = .ok (.aload_n 0, 1) := by decide +kernel
theorem dL_law_1251 : decode cL_law 1251 = .ok (.iload_n 3, 1) := by decide +kernel
theorem dL_law_1252 : decode cL_law 1252 = .ok (.iconst 1, 1) := by decide +kernel
theorem dL_law_1253 : decode cL_law 1253 = .ok (.iadd, 1) := by decide +kernel
theorem dL_law_1254 : decode cL_law 1254 = .ok (.iaload, 1) := by decide +kernel
theorem dL_law_1255 : decode cL_law 1255 = .ok (.aload_n 0, 1) := by decide +kernel
theorem dL_law_1256 : decode cL_law 1256 = .ok (.iload_n 3, 1) := by decide +kernel
theorem dL_law_1257 : decode cL_law 1257 = .ok (.iconst 2, 1) := by decide +kernel
theorem dL_law_1258 : decode cL_law 1258 = .ok (.iadd, 1) := by decide +kernel
theorem dL_law_1259 : decode cL_law 1259 = .ok (.iaload, 1) := by decide +kernel
theorem dL_law_1260 : decode cL_law 1260 = .ok (.aload_n 0, 1) := by decide +kernel
theorem dL_law_1261 : decode cL_law 1261 = .ok (.iload_n 3, 1) := by decide +kernel
theorem dL_law_1262 : decode cL_law 1262 = .ok (.iconst 3, 1) := by decide +kernel
theorem dL_law_1263 : decode cL_law 1263 = .ok (.iadd, 1) := by decide +kernel
theorem dL_law_1264 : decode cL_law 1264 = .ok (.iaload, 1) := by decide +kernel
theorem dL_law_1265 : decode cL_law 1265 = .ok (.aload_n 0, 1) := by decide +kernel
theorem dL_law_1266 : decode cL_law 1266 = .ok (.iload_n 3, 1) := by decide +kernel
theorem dL_law_1267 : decode cL_law 1267 = .ok (.iconst 4, 1) := by decide +kernel
theorem dL_law_1268 : decode cL_law 1268 = .ok (.iadd, 1) := by decide +kernel
theorem dL_law_1269 : decode cL_law 1269 = .ok (.iaload, 1) := by decide +kernel
theorem dL_law_1270 : decode cL_law 1270 = .ok (.aload_n 0, 1) := by decide +kernel
theorem dL_law_1271 : decode cL_law 1271 = .ok (.iload_n 3, 1) := by decide +kernel
theorem dL_law_1272 : decode cL_law 1272 = .ok (.iconst 5, 1) := by decide +kernel
theorem dL_law_1273 : decode cL_law 1273 = .ok (.iadd, 1) := by decide +kernel
theorem dL_law_1274 : decode cL_law 1274 = .ok (.iaload, 1) := by decide +kernel
theorem dL_law_1275 : decode cL_law 1275 = .ok (.aload_n 0, 1) := by decide +kernel
theorem dL_law_1276 : decode cL_law 1276 = .ok (.iload_n 3, 1) := by decide +kernel
theorem dL_law_1277 : decode cL_law 1277 = .ok (.bipush 6, 2) := by decide +kernel
theorem dL_law_1279 : decode cL_law 1279 = .ok (.iadd, 1) := by decide +kernel
theorem dL_law_1280 : decode cL_law 1280 = .ok (.iaload, 1) := by decide +kernel
theorem dL_law_1281 : decode cL_law 1281 = .ok (.invokevirtual 128, 3) := by decide +kernel
theorem dL_law_1284 : decode cL_law 1284 = .ok (.aload_n 2, 1) := by decide +kernel
theorem dL_law_1285 : decode cL_law 1285 = .ok (.aload_n 0, 1) := by decide +kernel
theorem dL_law_1286 : decode cL_law 1286 = .ok (.iload_n 3, 1) := by decide +kernel
theorem dL_law_1287 : decode cL_law 1287 = .ok (.iconst 1, 1) := by decide +kernel
theorem dL_law_1288 : decode cL_law 1288 = .ok (.iadd, 1) := by decide +kernel
theorem dL_law_1289 : decode cL_law 1289 = .ok (.iaload, 1) := by decide +kernel
theorem dL_law_1290 : decode cL_law 1290 = .ok (.aload_n 0, 1) := by decide +kernel
theorem dL_law_1291 : decode cL_law 1291 = .ok (.iload_n 3, 1) := by decide +kernel
theorem dL_law_1292 : decode cL_law 1292 = .ok (.iconst 2, 1) := by decide +kernel
theorem dL_law_1293 : decode cL_law 1293 = .ok (.iadd, 1) := by decide +kernel
theorem dL_law_1294 : decode cL_law 1294 = .ok (.iaload, 1) := by decide +kernel
theorem dL_law_1295 : decode cL_law 1295 = .ok (.aload_n 0, 1) := by decide +kernel
theorem dL_law_1296 : decode cL_law 1296 = .ok (.iload_n 3, 1) := by decide +kernel
theorem dL_law_1297 : decode cL_law 1297 = .ok (.iconst 3, 1) := by decide +kernel
theorem dL_law_1298 : decode cL_law 1298 = .ok (.iadd, 1) := by decide +kernel
theorem dL_law_1299 : decode cL_law 1299 = .ok (.iaload, 1) := by decide +kernel
theorem dL_law_1300 : decode cL_law 1300 = .ok (.aload_n 0, 1) := by decide +kernel
theorem dL_law_1301 : decode cL_law 1301 = .ok (.iload_n 3, 1) := by decide +kernel
theorem dL_law_1302 : decode cL_law 1302 = .ok (.iconst 4, 1) := by decide +kernel
theorem dL_law_1303 : decode cL_law 1303 = .ok (.iadd, 1) := by decide +kernel
theorem dL_law_1304 : decode cL_law 1304 = .ok (.iaload, 1) := by decide +kernel
theorem dL_law_1305 : decode cL_law 1305 = .ok (.aload_n 0, 1) := by decide +kernel
theorem dL_law_1306 : decode cL_law 1306 = .ok (.iload_n 3, 1) := by decide +kernel
theorem dL_law_1307 : decode cL_law 1307 = .ok (.iconst 5, 1) := by decide +kernel
theorem dL_law_1308 : decode cL_law 1308 = .ok (.iadd, 1) := by decide +kernel
theorem dL_law_1309 : decode cL_law 1309 = .ok (.iaload, 1) := by decide +kernel
theorem dL_law_1310 : decode cL_law 1310 = .ok (.aload_n 0, 1) := by decide +kernel
theorem dL_law_1311 : decode cL_law 1311 = .ok (.iload_n 3, 1) := by decide +kernel
theorem dL_law_1312 : decode cL_law 1312 = .ok (.bipush 6, 2) := by decide +kernel
theorem dL_law_1314 : decode cL_law 1314 = .ok (.iadd, 1) := by decide +kernel
theorem dL_law_1315 : decode cL_law 1315 = .ok (.iaload, 1) := by decide +kernel
theorem dL_law_1316 : decode cL_law 1316 = .ok (.invokevirtual 131, 3) := by decide +kernel
theorem dL_law_1319 : decode cL_law 1319 = .ok (.if_icmp .eq 259, 3) := by decide +kernel
theorem dL_law_1322 : decode cL_law 1322 = .ok (.iconst 0, 1) := by decide +kernel
theorem dL_law_1323 : decode cL_law 1323 = .ok (.ireturn, 1) := by decide +kernel
theorem dL_law_1324 : decode cL_law 1324 = .ok (.aload_n 1, 1) := by decide +kernel
theorem dL_law_1325 : decode cL_law 1325 = .ok (.aload_n 0, 1) := by decide +kernel
theorem dL_law_1326 : decode cL_law 1326 = .ok (.iload_n 3, 1) := by decide +kernel
theorem dL_law_1327 : decode cL_law 1327 = .ok (.iconst 1, 1) := by decide +kernel
theorem dL_law_1328 : decode cL_law 1328 = .ok (.iadd, 1) := by decide +kernel
theorem dL_law_1329 : decode cL_law 1329 = .ok (.iaload, 1) := by decide +kernel
theorem dL_law_1330 : decode cL_law 1330 = .ok (.aload_n 0, 1) := by decide +kernel
theorem dL_law_1331 : decode cL_law 1331 = .ok (.iload_n 3, 1) := by decide +kernel
theorem dL_law_1332 : decode cL_law 1332 = .ok (.iconst 2, 1) := by decide +kernel
theorem dL_law_1333 : decode cL_law 1333 = .ok (.iadd, 1) := by decide +kernel
theorem dL_law_1334 : decode cL_law 1334 = .ok (.iaload, 1) := by decide +kernel
theorem dL_law_1335 : decode cL_law 1335 = .ok (.aload_n 0, 1) := by decide +kernel
theorem dL_law_1336 : decode cL_law 1336 = .ok (.iload_n 3, 1) := by decide +kernel
theorem dL_law_1337 : decode cL_law 1337 = .ok (.iconst 3, 1) := by decide +kernel
theorem dL_law_1338 : decode cL_law 1338 = .ok (.iadd, 1) := by decide +kernel
theorem dL_law_1339 : decode cL_law 1339 = .ok (.iaload, 1) := by decide +kernel
theorem dL_law_1340 : decode cL_law 1340 = .ok (.aload_n 0, 1) := by decide +kernel
theorem dL_law_1341 : decode cL_law 1341 = .ok (.iload_n 3, 1) := by decide +kernel
theorem dL_law_1342 : decode cL_law 1342 = .ok (.iconst 4, 1) := by decide +kernel
theorem dL_law_1343 : decode cL_law 1343 = .ok (.iadd, 1) := by decide +kernel
theorem dL_law_1344 : decode cL_law 1344 = .ok (.iaload, 1) := by decide +kernel
theorem dL_law_1345 : decode cL_law 1345 = .ok (.aload_n 0, 1) := by decide +kernel
theorem dL_law_1346 : decode cL_law 1346 = .ok (.iload_n 3, 1) := by decide +kernel
theorem dL_law_1347 : decode cL_law 1347 = .ok (.iconst 5, 1) := by decide +kernel
theorem dL_law_1348 : decode cL_law 1348 = .ok (.iadd, 1) := by decide +kernel
theorem dL_law_1349 : decode cL_law 1349 = .ok (.iaload, 1) := by decide +kernel
theorem dL_law_1350 : decode cL_law 1350 = .ok (.aload_n 0, 1) := by decide +kernel
theorem dL_law_1351 : decode cL_law 1351 = .ok (.iload_n 3, 1) := by decide +kernel
theorem dL_law_1352 : decode cL_law 1352 = .ok (.bipush 6, 2) := by decide +kernel
theorem dL_law_1354 : decode cL_law 1354 = .ok (.iadd, 1) := by decide +kernel
theorem dL_law_1355 : decode cL_law 1355 = .ok (.iaload, 1) := by decide +kernel
theorem dL_law_1356 : decode cL_law 1356 = .ok (.invokevirtual 132, 3) := by decide +kernel
theorem dL_law_1359 : decode cL_law 1359 = .ok (.aload_n 2, 1) := by decide +kernel
theorem dL_law_1360 : decode cL_law 1360 = .ok (.aload_n 0, 1) := by decide +kernel
theorem dL_law_1361 : decode cL_law 1361 = .ok (.iload_n 3, 1) := by decide +kernel
theorem dL_law_1362 : decode cL_law 1362 = .ok (.iconst 1, 1) := by decide +kernel
theorem dL_law_1363 : decode cL_law 1363 = .ok (.iadd, 1) := by decide +kernel
theorem dL_law_1364 : decode cL_law 1364 = .ok (.iaload, 1) := by decide +kernel
theorem dL_law_1365 : decode cL_law 1365 = .ok (.aload_n 0, 1) := by decide +kernel
theorem dL_law_1366 : decode cL_law 1366 = .ok (.iload_n 3, 1) := by decide +kernel
theorem dL_law_1367 : decode cL_law 1367 = .ok (.iconst 2, 1) := by decide +kernel
theorem dL_law_1368 : decode cL_law 1368 = .ok (.iadd, 1) := by decide +kernel
theorem dL_law_1369 : decode cL_law 1369 = .ok (.iaload, 1) := by decide +kernel
theorem dL_law_1370 : decode cL_law 1370 = .ok (.aload_n 0, 1) := by decide +kernel
theorem dL_law_1371 : decode cL_law 1371 = .ok (.iload_n 3, 1) := by decide +kernel
theorem dL_law_1372 : decode cL_law 1372 = .ok (.iconst 3, 1) := by decide +kernel
theorem dL_law_1373 : decode cL_law 1373 = .ok (.iadd, 1) := by decide +kernel
theorem dL_law_1374 : decode cL_law 1374 = .ok (.iaload, 1) := by decide +kernel
theorem dL_law_1375 : decode cL_law 1375 = .ok (.aload_n 0, 1) := by decide +kernel
theorem dL_law_1376 : decode cL_law 1376 = .ok (.iload_n 3, 1) := by decide +kernel
theorem dL_law_1377 : decode cL_law 1377 = .ok (.iconst 4, 1) := by decide +kernel
theorem dL_law_1378 : decode cL_law 1378 = .ok (.iadd, 1) := by decide +kernel
theorem dL_law_1379 : decode cL_law 1379 = .ok (.iaload, 1) := by decide +kernel
theorem dL_law_1380 : decode cL_law 1380 = .ok (.aload_n 0, 1) := by decide +kernel
theorem dL_law_1381 : decode cL_law 1381 = .ok (.iload_n 3, 1) := by decide +kernel
theorem dL_law_1382 : decode cL_law 1382 = .ok (.iconst 5, 1) := by decide +kernel
theorem dL_law_1383 : decode cL_law 1383 = .ok (.iadd, 1) := by decide +kernel
theorem dL_law_1384 : decode cL_law 1384 = .ok (.iaload, 1) := by decide +kernel
theorem dL_law_1385 : decode cL_law 1385 = .ok (.aload_n 0, 1) := by decide +kernel
theorem dL_law_1386 : decode cL_law 1386 = .ok (.iload_n 3, 1) := by decide +kernel
theorem dL_law_1387 : decode cL_law 1387 = .ok (.bipush 6, 2) := by decide +kernel
theorem dL_law_1389 : decode cL_law 1389 = .ok (.iadd, 1) := by decide +kernel
theorem dL_law_1390 : decode cL_law 1390 = .ok (.iaload, 1) := by decide +kernel
theorem dL_law_1391 : decode cL_law 1391 = .ok (.invokevirtual 135, 3) := by decide +kernel
theorem dL_law_1394 : decode cL_law 1394 = .ok (.if_icmp .eq 184, 3) := by decide +kernel
theorem dL_law_1397 : decode cL_law 1397 = .ok (.iconst 0, 1) := by decide +kernel
theorem dL_law_1398 : decode cL_law 1398 = .ok (.ireturn, 1) := by decide +kernel
theorem dL_law_1399 : decode cL_law 1399 = .ok (.aload_n 1, 1) := by decide +kernel
theorem dL_law_1400 : decode cL_law 1400 = .ok (.invokevirtual 136, 3) := by decide +kernel
theorem dL_law_1403 : decode cL_law 1403 = .ok (.aload_n 2, 1) := by decide +kernel
theorem dL_law_1404 : decode cL_law 1404 = .ok (.invokevirtual 139, 3) := by decide +kernel
theorem dL_law_1407 : decode cL_law 1407 = .ok (.if_icmp .eq 171, 3) := by decide +kernel
theorem dL_law_1410 : decode cL_law 1410 = .ok (.iconst 0, 1) := by decide +kernel
theorem dL_law_1411 : decode cL_law 1411 = .ok (.ireturn, 1) := by decide +kernel
theorem dL_law_1412 : decode cL_law 1412 = .ok (.aload_n 1, 1) := by decide +kernel
theorem dL_law_1413 : decode cL_law 1413 = .ok (.aload_n 0, 1) := by decide +kernel
theorem dL_law_1414 : decode cL_law 1414 = .ok (.iload_n 3, 1) := by decide +kernel
theorem dL_law_1415 : decode cL_law 1415 = .ok (.iconst 1, 1) := by decide +kernel
theorem dL_law_1416 : decode cL_law 1416 = .ok (.iadd, 1) := by decide +kernel
theorem dL_law_1417 : decode cL_law 1417 = .ok (.iaload, 1) := by decide +kernel
theorem dL_law_1418 : decode cL_law 1418 = .ok (.invokevirtual 140, 3) := by decide +kernel
theorem dL_law_1421 : decode cL_law 1421 = .ok (.aload_n 2, 1) := by decide +kernel
theorem dL_law_1422 : decode cL_law 1422 = .ok (.aload_n 0, 1) := by decide +kernel
theorem dL_law_1423 : decode cL_law 1423 = .ok (.iload_n 3, 1) := by decide +kernel
theorem dL_law_1424 : decode cL_law 1424 = .ok (.iconst 1, 1) := by decide +kernel
theorem dL_law_1425 : decode cL_law 1425 = .ok (.iadd, 1) := by decide +kernel
theorem dL_law_1426 : decode cL_law 1426 = .ok (.iaload, 1) := by decide +kernel
theorem dL_law_1427 : decode cL_law 1427 = .ok (.invokevirtual 143, 3) := by decide +kernel
theorem dL_law_1430 : decode cL_law 1430 = .ok (.if_icmp .eq 148, 3) := by decide +kernel
theorem dL_law_1433 : decode cL_law 1433 = .ok (.iconst 0, 1) := by decide +kernel
theorem dL_law_1434 : decode cL_law 1434 = .ok (.ireturn, 1) := by decide +kernel
theorem dL_law_1435 : decode cL_law 1435 = .ok (.aload_n 1, 1) := by decide +kernel
theorem dL_law_1436 : decode cL_law 1436 = .ok (.invokevirtual 144, 3) := by decide +kernel
theorem dL_law_1439 : decode cL_law 1439 = .ok (.aload_n 2, 1) := by decide +kernel
theorem dL_law_1440 : decode cL_law 1440 = .ok (.invokevirtual 147, 3) := by decide +kernel
theorem dL_law_1443 : decode cL_law 1443 = .ok (.if_icmp .eq 135, 3) := by decide +kernel
theorem dL_law_1446 : decode cL_law 1446 = .ok (.iconst 0, 1) := by decide +kernel
theorem dL_law_1447 : decode cL_law 1447 = .ok (.ireturn, 1) := by decide +kernel
theorem dL_law_1448 : decode cL_law 1448 = .ok (.aload_n 1, 1) := by decide +kernel
theorem dL_law_1449 : decode cL_law 1449 = .ok (.aload_n 0, 1) := by decide +kernel
theorem dL_law_1450 : decode cL_law 1450 = .ok (.iload_n 3, 1) := by decide +kernel
theorem dL_law_1451 : decode cL_law 1451 = .ok (.iconst 1, 1) := by decide +kernel
theorem dL_law_1452 : decode cL_law 1452 = .ok (.iadd, 1) := by decide +kernel
theorem dL_law_1453 : decode cL_law 1453 = .ok (.iaload, 1) := by decide +kernel
theorem dL_law_1454 : decode cL_law 1454 = .ok (.invokevirtual 148, 3) := by decide +kernel
theorem dL_law_1457 : decode cL_law 1457 = .ok (.aload_n 2, 1) := by decide +kernel
theorem dL_law_1458 : decode cL_law 1458 = .ok (.aload_n 0, 1) := by decide +kernel
theorem dL_law_1459 : decode cL_law 1459 = .ok (.iload_n 3, 1) := by decide +kernel
theorem dL_law_1460 : decode cL_law 1460 = .ok (.iconst 1, 1) := by decide +kernel
theorem dL_law_1461 : decode cL_law 1461 = .ok (.iadd, 1) := by decide +kernel
theorem dL_law_1462 : decode cL_law 1462 = .ok (.iaload, 1) := by decide +kernel
theorem dL_law_1463 : decode cL_law 1463 = .ok (.invokevirtual 152, 3) := by decide +kernel
theorem dL_law_1466 : decode cL_law 1466 = .ok (.lcmp, 1) := by decide +kernel
theorem dL_law_1467 : decode cL_law 1467 = .ok (.ifCond .eq 111, 3) := by decide +kernel
theorem dL_law_1470 : decode cL_law 1470 = .ok (.iconst 0, 1) := by decide +kernel
theorem dL_law_1471 : decode cL_law 1471 = .ok (.ireturn, 1) := by decide +kernel
theorem dL_law_1472 : decode cL_law 1472 = .ok (.aload_n 1, 1) := by decide +kernel
theorem dL_law_1473 : decode cL_law 1473 = .ok (.aload_n 0, 1) := by decide +kernel
theorem dL_law_1474 : decode cL_law 1474 = .ok (.iload_n 3, 1) := by decide +kernel
theorem dL_law_1475 : decode cL_law 1475 = .ok (.iconst 1, 1) := by decide +kernel
theorem dL_law_1476 : decode cL_law 1476 = .ok (.iadd, 1) := by decide +kernel
theorem dL_law_1477 : decode cL_law 1477 = .ok (.iaload, 1) := by decide +kernel
theorem dL_law_1478 : decode cL_law 1478 = .ok (.invokevirtual 153, 3) := by decide +kernel
theorem dL_law_1481 : decode cL_law 1481 = .ok (.aload_n 2, 1) := by decide +kernel
theorem dL_law_1482 : decode cL_law 1482 = .ok (.aload_n 0, 1) := by decide +kernel
theorem dL_law_1483 : decode cL_law 1483 = .ok (.iload_n 3, 1) := by decide +kernel
theorem dL_law_1484 : decode cL_law 1484 = .ok (.iconst 1, 1) := by decide +kernel
theorem dL_law_1485 : decode cL_law 1485 = .ok (.iadd, 1) := by decide +kernel
theorem dL_law_1486 : decode cL_law 1486 = .ok (.iaload, 1) := by decide +kernel
theorem dL_law_1487 : decode cL_law 1487 = .ok (.invokevirtual 156, 3) := by decide +kernel
theorem dL_law_1490 : decode cL_law 1490 = .ok (.if_icmp .eq 88, 3) := by decide +kernel
theorem dL_law_1493 : decode cL_law 1493 = .ok (.iconst 0, 1) := by decide +kernel
theorem dL_law_1494 : decode cL_law 1494 = .ok (.ireturn, 1) := by decide +kernel
theorem dL_law_1495 : decode cL_law 1495 = .ok (.aload_n 1, 1) := by decide +kernel
theorem dL_law_1496 : decode cL_law 1496 = .ok (.aload_n 0, 1) := by decide +kernel
theorem dL_law_1497 : decode cL_law 1497 = .ok (.iload_n 3, 1) := by decide +kernel
theorem dL_law_1498 : decode cL_law 1498 = .ok (.iconst 1, 1) := by decide +kernel
theorem dL_law_1499 : decode cL_law 1499 = .ok (.iadd, 1) := by decide +kernel
theorem dL_law_1500 : decode cL_law 1500 = .ok (.iaload, 1) := by decide +kernel
theorem dL_law_1501 : decode cL_law 1501 = .ok (.invokevirtual 157, 3) := by decide +kernel
theorem dL_law_1504 : decode cL_law 1504 = .ok (.aload_n 2, 1) := by decide +kernel
theorem dL_law_1505 : decode cL_law 1505 = .ok (.aload_n 0, 1) := by decide +kernel
theorem dL_law_1506 : decode cL_law 1506 = .ok (.iload_n 3, 1) := by decide +kernel
theorem dL_law_1507 : decode cL_law 1507 = .ok (.iconst 1, 1) := by decide +kernel
theorem dL_law_1508 : decode cL_law 1508 = .ok (.iadd, 1) := by decide +kernel
theorem dL_law_1509 : decode cL_law 1509 = .ok (.iaload, 1) := by decide +kernel
theorem dL_law_1510 : decode cL_law 1510 = .ok (.invokevirtual 160, 3) := by decide +kernel
theorem dL_law_1513 : decode cL_law 1513 = .ok (.if_icmp .eq 65, 3) := by decide +kernel
theorem dL_law_1516 : decode cL_law 1516 = .ok (.iconst 0, 1) := by decide +kernel
theorem dL_law_1517 : decode cL_law 1517 = .ok (.ireturn, 1) := by decide +kernel
theorem dL_law_1518 : decode cL_law 1518 = .ok (.aload_n 1, 1) := by decide +kernel
theorem dL_law_1519 : decode cL_law 1519 = .ok (.aload_n 0, 1) := by decide +kernel
theorem dL_law_1520 : decode cL_law 1520 = .ok (.iload_n 3, 1) := by decide +kernel
theorem dL_law_1521 : decode cL_law 1521 = .ok (.iconst 1, 1) := by decide +kernel
theorem dL_law_1522 : decode cL_law 1522 = .ok (.iadd, 1) := by decide +kernel
theorem dL_law_1523 : decode cL_law 1523 = .ok (.iaload, 1) := by decide +kernel
theorem dL_law_1524 : decode cL_law 1524 = .ok (.invokevirtual 161, 3) := by decide +kernel
theorem dL_law_1527 : decode cL_law 1527 = .ok (.aload_n 2, 1) := by decide +kernel
theorem dL_law_1528 : decode cL_law 1528 = .ok (.aload_n 0, 1) := by decide +kernel
theorem dL_law_1529 : decode cL_law 1529 = .ok (.iload_n 3, 1) := by decide +kernel
theorem dL_law_1530 : decode cL_law 1530 = .ok (.iconst 1, 1) := by decide +kernel
theorem dL_law_1531 : decode cL_law 1531 = .ok (.iadd, 1) := by decide +kernel
theorem dL_law_1532 : decode cL_law 1532 = .ok (.iaload, 1) := by decide +kernel
theorem dL_law_1533 : decode cL_law 1533 = .ok (.invokevirtual 164, 3) := by decide +kernel
theorem dL_law_1536 : decode cL_law 1536 = .ok (.if_icmp .eq 42, 3) := by decide +kernel
theorem dL_law_1539 : decode cL_law 1539 = .ok (.iconst 0, 1) := by decide +kernel
theorem dL_law_1540 : decode cL_law 1540 = .ok (.ireturn, 1) := by decide +kernel
theorem dL_law_1541 : decode cL_law 1541 = .ok (.aload_n 1, 1) := by decide +kernel
theorem dL_law_1542 : decode cL_law 1542 = .ok (.aload_n 0, 1) := by decide +kernel
theorem dL_law_1543 : decode cL_law 1543 = .ok (.iload_n 3, 1) := by decide +kernel
theorem dL_law_1544 : decode cL_law 1544 = .ok (.iconst 1, 1) := by decide +kernel
theorem dL_law_1545 : decode cL_law 1545 = .ok (.iadd, 1) := by decide +kernel
theorem dL_law_1546 : decode cL_law 1546 = .ok (.iaload, 1) := by decide +kernel
theorem dL_law_1547 : decode cL_law 1547 = .ok (.invokevirtual 165, 3) := by decide +kernel
theorem dL_law_1550 : decode cL_law 1550 = .ok (.aload_n 2, 1) := by decide +kernel
theorem dL_law_1551 : decode cL_law 1551 = .ok (.aload_n 0, 1) := by decide +kernel
theorem dL_law_1552 : decode cL_law 1552 = .ok (.iload_n 3, 1) := by decide +kernel
theorem dL_law_1553 : decode cL_law 1553 = .ok (.iconst 1, 1) := by decide +kernel
theorem dL_law_1554 : decode cL_law 1554 = .ok (.iadd, 1) := by decide +kernel
theorem dL_law_1555 : decode cL_law 1555 = .ok (.iaload, 1) := by decide +kernel
theorem dL_law_1556 : decode cL_law 1556 = .ok (.invokevirtual 168, 3) := by decide +kernel
theorem dL_law_1559 : decode cL_law 1559 = .ok (.if_icmp .eq 19, 3) := by decide +kernel
theorem dL_law_1562 : decode cL_law 1562 = .ok (.iconst 0, 1) := by decide +kernel
theorem dL_law_1563 : decode cL_law 1563 = .ok (.ireturn, 1) := by decide +kernel
theorem dL_law_1564 : decode cL_law 1564 = .ok (.aload_n 1, 1) := by decide +kernel
theorem dL_law_1565 : decode cL_law 1565 = .ok (.invokevirtual 169, 3) := by decide +kernel
theorem dL_law_1568 : decode cL_law 1568 = .ok (.aload_n 2, 1) := by decide +kernel
theorem dL_law_1569 : decode cL_law 1569 = .ok (.invokevirtual 173, 3) := by decide +kernel
theorem dL_law_1572 : decode cL_law 1572 = .ok (.lcmp, 1) := by decide +kernel
theorem dL_law_1573 : decode cL_law 1573 = .ok (.ifCond .eq 5, 3) := by decide +kernel
theorem dL_law_1576 : decode cL_law 1576 = .ok (.iconst 0, 1) := by decide +kernel
theorem dL_law_1577 : decode cL_law 1577 = .ok (.ireturn, 1) := by decide +kernel
theorem dL_law_1578 : decode cL_law 1578 = .ok (.iinc 3 7, 3) := by decide +kernel
theorem dL_law_1581 : decode cL_law 1581 = .ok (.goto (-1563), 3) := by decide +kernel
theorem dL_law_1584 : decode cL_law 1584 = .ok (.iconst 1, 1) := by decide +kernel
theorem dL_law_1585 : decode cL_law 1585 = .ok (.ireturn, 1) := by decide +kernel
