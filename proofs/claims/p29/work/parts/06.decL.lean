theorem dL_cell_0 : decode cL_cell 0 = .ok (.iload_n 1, 1) := by decide +kernel
theorem dL_cell_1 : decode cL_cell 1 = .ok (.aload_n 0, 1) := by decide +kernel
theorem dL_cell_2 : decode cL_cell 2 = .ok (.arraylength, 1) := by decide +kernel
theorem dL_cell_3 : decode cL_cell 3 = .ok (.if_icmp .ge 9, 3) := by decide +kernel
theorem dL_cell_6 : decode cL_cell 6 = .ok (.aload_n 0, 1) := by decide +kernel
theorem dL_cell_7 : decode cL_cell 7 = .ok (.iload_n 1, 1) := by decide +kernel
theorem dL_cell_8 : decode cL_cell 8 = .ok (.iaload, 1) := by decide +kernel
theorem dL_cell_9 : decode cL_cell 9 = .ok (.goto 9, 3) := by decide +kernel
theorem dL_cell_12 : decode cL_cell 12 = .ok (.ldc 7, 2) := by decide +kernel
theorem dL_cell_14 : decode cL_cell 14 = .ok (.iload_n 1, 1) := by decide +kernel
theorem dL_cell_15 : decode cL_cell 15 = .ok (.iconst 1, 1) := by decide +kernel
theorem dL_cell_16 : decode cL_cell 16 = .ok (.iadd, 1) := by decide +kernel
theorem dL_cell_17 : decode cL_cell 17 = .ok (.imul, 1) := by decide +kernel
theorem dL_cell_18 : decode cL_cell 18 = .ok (.ireturn, 1) := by decide +kernel
theorem dL_at_0 : decode cL_at 0 = .ok (.iload_n 0, 1) := by decide +kernel
theorem dL_at_1 : decode cL_at 1 = .ok (.iconst 1, 1) := by decide +kernel
theorem dL_at_2 : decode cL_at 2 = .ok (.iushr, 1) := by decide +kernel
theorem dL_at_3 : decode cL_at 3 = .ok (.iload_n 1, 1) := by decide +kernel
theorem dL_at_4 : decode cL_at 4 = .ok (.irem, 1) := by decide +kernel
theorem dL_at_5 : decode cL_at 5 = .ok (.ireturn, 1) := by decide +kernel
theorem dL_worth_0 : decode cL_worth 0 = .ok (.iload_n 0, 1) := by decide +kernel
theorem dL_worth_1 : decode cL_worth 1 = .ok (.iconst 2, 1) := by decide +kernel
theorem dL_worth_2 : decode cL_worth 2 = .ok (.if_icmp .ge 7, 3) := by decide +kernel
theorem dL_worth_5 : decode cL_worth 5 = .ok (.iload_n 1, 1) := by decide +kernel
theorem dL_worth_6 : decode cL_worth 6 = .ok (.goto 11, 3) := by decide +kernel
theorem dL_worth_9 : decode cL_worth 9 = .ok (.iload_n 1, 1) := by decide +kernel
theorem dL_worth_10 : decode cL_worth 10 = .ok (.aload_n 2, 1) := by decide +kernel
theorem dL_worth_11 : decode cL_worth 11 = .ok (.iconst 5, 1) := by decide +kernel
theorem dL_worth_12 : decode cL_worth 12 = .ok (.iaload, 1) := by decide +kernel
theorem dL_worth_13 : decode cL_worth 13 = .ok (.imul, 1) := by decide +kernel
theorem dL_worth_14 : decode cL_worth 14 = .ok (.bipush 100, 2) := by decide +kernel
theorem dL_worth_16 : decode cL_worth 16 = .ok (.idiv, 1) := by decide +kernel
theorem dL_worth_17 : decode cL_worth 17 = .ok (.ireturn, 1) := by decide +kernel
theorem dL_allowance_0 : decode cL_allowance 0 = .ok (.aload_n 1, 1) := by decide +kernel
theorem dL_allowance_1 : decode cL_allowance 1 = .ok (.iconst 5, 1) := by decide +kernel
theorem dL_allowance_2 : decode cL_allowance 2 = .ok (.iload_n 0, 1) := by decide +kernel
theorem dL_allowance_3 : decode cL_allowance 3 = .ok (.imul, 1) := by decide +kernel
theorem dL_allowance_4 : decode cL_allowance 4 = .ok (.iaload, 1) := by decide +kernel
theorem dL_allowance_5 : decode cL_allowance 5 = .ok (.aload_n 1, 1) := by decide +kernel
theorem dL_allowance_6 : decode cL_allowance 6 = .ok (.iconst 5, 1) := by decide +kernel
theorem dL_allowance_7 : decode cL_allowance 7 = .ok (.iload_n 0, 1) := by decide +kernel
theorem dL_allowance_8 : decode cL_allowance 8 = .ok (.imul, 1) := by decide +kernel
theorem dL_allowance_9 : decode cL_allowance 9 = .ok (.iconst 1, 1) := by decide +kernel
theorem dL_allowance_10 : decode cL_allowance 10 = .ok (.iadd, 1) := by decide +kernel
theorem dL_allowance_11 : decode cL_allowance 11 = .ok (.iaload, 1) := by decide +kernel
theorem dL_allowance_12 : decode cL_allowance 12 = .ok (.iadd, 1) := by decide +kernel
theorem dL_allowance_13 : decode cL_allowance 13 = .ok (.ireturn, 1) := by decide +kernel
theorem dL_byId_0 : decode cL_byId 0 = .ok (.iconst 0, 1) := by decide +kernel
theorem dL_byId_1 : decode cL_byId 1 = .ok (.istore_n 3, 1) := by decide +kernel
theorem dL_byId_2 : decode cL_byId 2 = .ok (.iload_n 3, 1) := by decide +kernel
theorem dL_byId_3 : decode cL_byId 3 = .ok (.aload_n 1, 1) := by decide +kernel
theorem dL_byId_4 : decode cL_byId 4 = .ok (.iconst 1, 1) := by decide +kernel
theorem dL_byId_5 : decode cL_byId 5 = .ok (.iaload, 1) := by decide +kernel
theorem dL_byId_6 : decode cL_byId 6 = .ok (.if_icmp .ge 24, 3) := by decide +kernel
theorem dL_byId_9 : decode cL_byId 9 = .ok (.aload_n 2, 1) := by decide +kernel
theorem dL_byId_10 : decode cL_byId 10 = .ok (.bipush 9, 2) := by decide +kernel
theorem dL_byId_12 : decode cL_byId 12 = .ok (.iload_n 3, 1) := by decide +kernel
theorem dL_byId_13 : decode cL_byId 13 = .ok (.imul, 1) := by decide +kernel
theorem dL_byId_14 : decode cL_byId 14 = .ok (.bipush 8, 2) := by decide +kernel
theorem dL_byId_16 : decode cL_byId 16 = .ok (.iadd, 1) := by decide +kernel
theorem dL_byId_17 : decode cL_byId 17 = .ok (.iaload, 1) := by decide +kernel
theorem dL_byId_18 : decode cL_byId 18 = .ok (.iload_n 0, 1) := by decide +kernel
theorem dL_byId_19 : decode cL_byId 19 = .ok (.if_icmp .ne 5, 3) := by decide +kernel
theorem dL_byId_22 : decode cL_byId 22 = .ok (.iload_n 3, 1) := by decide +kernel
theorem dL_byId_23 : decode cL_byId 23 = .ok (.ireturn, 1) := by decide +kernel
theorem dL_byId_24 : decode cL_byId 24 = .ok (.iinc 3 1, 3) := by decide +kernel
theorem dL_byId_27 : decode cL_byId 27 = .ok (.goto (-25), 3) := by decide +kernel
theorem dL_byId_30 : decode cL_byId 30 = .ok (.iconst (-1), 1) := by decide +kernel
theorem dL_byId_31 : decode cL_byId 31 = .ok (.ireturn, 1) := by decide +kernel
theorem dL_taken_0 : decode cL_taken 0 = .ok (.iconst 0, 1) := by decide +kernel
theorem dL_taken_1 : decode cL_taken 1 = .ok (.istore 4, 2) := by decide +kernel
theorem dL_taken_3 : decode cL_taken 3 = .ok (.iload 4, 2) := by decide +kernel
theorem dL_taken_5 : decode cL_taken 5 = .ok (.aload_n 2, 1) := by decide +kernel
theorem dL_taken_6 : decode cL_taken 6 = .ok (.iconst 1, 1) := by decide +kernel
theorem dL_taken_7 : decode cL_taken 7 = .ok (.iaload, 1) := by decide +kernel
theorem dL_taken_8 : decode cL_taken 8 = .ok (.if_icmp .ge 60, 3) := by decide +kernel
theorem dL_taken_11 : decode cL_taken 11 = .ok (.aload_n 3, 1) := by decide +kernel
theorem dL_taken_12 : decode cL_taken 12 = .ok (.bipush 9, 2) := by decide +kernel
theorem dL_taken_14 : decode cL_taken 14 = .ok (.iload 4, 2) := by decide +kernel
theorem dL_taken_16 : decode cL_taken 16 = .ok (.imul, 1) := by decide +kernel
theorem dL_taken_17 : decode cL_taken 17 = .ok (.iconst 2, 1) := by decide +kernel
theorem dL_taken_18 : decode cL_taken 18 = .ok (.iadd, 1) := by decide +kernel
theorem dL_taken_19 : decode cL_taken 19 = .ok (.iaload, 1) := by decide +kernel
theorem dL_taken_20 : decode cL_taken 20 = .ok (.iload_n 0, 1) := by decide +kernel
theorem dL_taken_21 : decode cL_taken 21 = .ok (.if_icmp .ne 41, 3) := by decide +kernel
theorem dL_taken_24 : decode cL_taken 24 = .ok (.aload_n 3, 1) := by decide +kernel
theorem dL_taken_25 : decode cL_taken 25 = .ok (.bipush 9, 2) := by decide +kernel
theorem dL_taken_27 : decode cL_taken 27 = .ok (.iload 4, 2) := by decide +kernel
theorem dL_taken_29 : decode cL_taken 29 = .ok (.imul, 1) := by decide +kernel
theorem dL_taken_30 : decode cL_taken 30 = .ok (.iconst 3, 1) := by decide +kernel
theorem dL_taken_31 : decode cL_taken 31 = .ok (.iadd, 1) := by decide +kernel
theorem dL_taken_32 : decode cL_taken 32 = .ok (.iaload, 1) := by decide +kernel
theorem dL_taken_33 : decode cL_taken 33 = .ok (.iload_n 1, 1) := by decide +kernel
theorem dL_taken_34 : decode cL_taken 34 = .ok (.if_icmp .gt 28, 3) := by decide +kernel
theorem dL_taken_37 : decode cL_taken 37 = .ok (.iload_n 1, 1) := by decide +kernel
theorem dL_taken_38 : decode cL_taken 38 = .ok (.aload_n 3, 1) := by decide +kernel
theorem dL_taken_39 : decode cL_taken 39 = .ok (.bipush 9, 2) := by decide +kernel
theorem dL_taken_41 : decode cL_taken 41 = .ok (.iload 4, 2) := by decide +kernel
theorem dL_taken_43 : decode cL_taken 43 = .ok (.imul, 1) := by decide +kernel
theorem dL_taken_44 : decode cL_taken 44 = .ok (.iconst 3, 1) := by decide +kernel
theorem dL_taken_45 : decode cL_taken 45 = .ok (.iadd, 1) := by decide +kernel
theorem dL_taken_46 : decode cL_taken 46 = .ok (.iaload, 1) := by decide +kernel
theorem dL_taken_47 : decode cL_taken 47 = .ok (.aload_n 3, 1) := by decide +kernel
theorem dL_taken_48 : decode cL_taken 48 = .ok (.bipush 9, 2) := by decide +kernel
theorem dL_taken_50 : decode cL_taken 50 = .ok (.iload 4, 2) := by decide +kernel
theorem dL_taken_52 : decode cL_taken 52 = .ok (.imul, 1) := by decide +kernel
theorem dL_taken_53 : decode cL_taken 53 = .ok (.iconst 4, 1) := by decide +kernel
theorem dL_taken_54 : decode cL_taken 54 = .ok (.iadd, 1) := by decide +kernel
theorem dL_taken_55 : decode cL_taken 55 = .ok (.iaload, 1) := by decide +kernel
theorem dL_taken_56 : decode cL_taken 56 = .ok (.iadd, 1) := by decide +kernel
theorem dL_taken_57 : decode cL_taken 57 = .ok (.if_icmp .ge 5, 3) := by decide +kernel
theorem dL_taken_60 : decode cL_taken 60 = .ok (.iconst 1, 1) := by decide +kernel
theorem dL_taken_61 : decode cL_taken 61 = .ok (.ireturn, 1) := by decide +kernel
theorem dL_taken_62 : decode cL_taken 62 = .ok (.iinc 4 1, 3) := by decide +kernel
theorem dL_taken_65 : decode cL_taken 65 = .ok (.goto (-62), 3) := by decide +kernel
theorem dL_taken_68 : decode cL_taken 68 = .ok (.iconst 0, 1) := by decide +kernel
theorem dL_taken_69 : decode cL_taken 69 = .ok (.ireturn, 1) := by decide +kernel
theorem dL_planned_0 : decode cL_planned 0 = .ok (.iconst 0, 1) := by decide +kernel
theorem dL_planned_1 : decode cL_planned 1 = .ok (.istore 4, 2) := by decide +kernel
theorem dL_planned_3 : decode cL_planned 3 = .ok (.iconst 0, 1) := by decide +kernel
theorem dL_planned_4 : decode cL_planned 4 = .ok (.istore 5, 2) := by decide +kernel
theorem dL_planned_6 : decode cL_planned 6 = .ok (.iload 5, 2) := by decide +kernel
theorem dL_planned_8 : decode cL_planned 8 = .ok (.aload_n 2, 1) := by decide +kernel
theorem dL_planned_9 : decode cL_planned 9 = .ok (.iconst 1, 1) := by decide +kernel
theorem dL_planned_10 : decode cL_planned 10 = .ok (.iaload, 1) := by decide +kernel
theorem dL_planned_11 : decode cL_planned 11 = .ok (.if_icmp .ge 74, 3) := by decide +kernel
theorem dL_planned_14 : decode cL_planned 14 = .ok (.iconst 0, 1) := by decide +kernel
theorem dL_planned_15 : decode cL_planned 15 = .ok (.istore 6, 2) := by decide +kernel
theorem dL_planned_17 : decode cL_planned 17 = .ok (.iload 6, 2) := by decide +kernel
theorem dL_planned_19 : decode cL_planned 19 = .ok (.aload_n 3, 1) := by decide +kernel
theorem dL_planned_20 : decode cL_planned 20 = .ok (.bipush 9, 2) := by decide +kernel
theorem dL_planned_22 : decode cL_planned 22 = .ok (.iload 5, 2) := by decide +kernel
theorem dL_planned_24 : decode cL_planned 24 = .ok (.imul, 1) := by decide +kernel
theorem dL_planned_25 : decode cL_planned 25 = .ok (.iconst 5, 1) := by decide +kernel
theorem dL_planned_26 : decode cL_planned 26 = .ok (.iadd, 1) := by decide +kernel
theorem dL_planned_27 : decode cL_planned 27 = .ok (.iaload, 1) := by decide +kernel
theorem dL_planned_28 : decode cL_planned 28 = .ok (.if_icmp .ge 51, 3) := by decide +kernel
theorem dL_planned_31 : decode cL_planned 31 = .ok (.iload 4, 2) := by decide +kernel
theorem dL_planned_33 : decode cL_planned 33 = .ok (.aload_n 3, 1) := by decide +kernel
theorem dL_planned_34 : decode cL_planned 34 = .ok (.bipush 9, 2) := by decide +kernel
theorem dL_planned_36 : decode cL_planned 36 = .ok (.iload 5, 2) := by decide +kernel
theorem dL_planned_38 : decode cL_planned 38 = .ok (.imul, 1) := by decide +kernel
theorem dL_planned_39 : decode cL_planned 39 = .ok (.iconst 2, 1) := by decide +kernel
theorem dL_planned_40 : decode cL_planned 40 = .ok (.iadd, 1) := by decide +kernel
theorem dL_planned_41 : decode cL_planned 41 = .ok (.iaload, 1) := by decide +kernel
theorem dL_planned_42 : decode cL_planned 42 = .ok (.iload_n 0, 1) := by decide +kernel
theorem dL_planned_43 : decode cL_planned 43 = .ok (.if_icmp .ne 26, 3) := by decide +kernel
theorem dL_planned_46 : decode cL_planned 46 = .ok (.aload_n 3, 1) := by decide +kernel
theorem dL_planned_47 : decode cL_planned 47 = .ok (.bipush 9, 2) := by decide +kernel
theorem dL_planned_49 : decode cL_planned 49 = .ok (.iload 5, 2) := by decide +kernel
theorem dL_planned_51 : decode cL_planned 51 = .ok (.imul, 1) := by decide +kernel
theorem dL_planned_52 : decode cL_planned 52 = .ok (.iconst 3, 1) := by decide +kernel
theorem dL_planned_53 : decode cL_planned 53 = .ok (.iadd, 1) := by decide +kernel
theorem dL_planned_54 : decode cL_planned 54 = .ok (.iaload, 1) := by decide +kernel
theorem dL_planned_55 : decode cL_planned 55 = .ok (.iload 6, 2) := by decide +kernel
theorem dL_planned_57 : decode cL_planned 57 = .ok (.iadd, 1) := by decide +kernel
theorem dL_planned_58 : decode cL_planned 58 = .ok (.bipush 60, 2) := by decide +kernel
theorem dL_planned_60 : decode cL_planned 60 = .ok (.idiv, 1) := by decide +kernel
theorem dL_planned_61 : decode cL_planned 61 = .ok (.iload_n 1, 1) := by decide +kernel
theorem dL_planned_62 : decode cL_planned 62 = .ok (.if_icmp .ne 7, 3) := by decide +kernel
theorem dL_planned_65 : decode cL_planned 65 = .ok (.iconst 1, 1) := by decide +kernel
theorem dL_planned_66 : decode cL_planned 66 = .ok (.goto 4, 3) := by decide +kernel
theorem dL_planned_69 : decode cL_planned 69 = .ok (.iconst 0, 1) := by decide +kernel
theorem dL_planned_70 : decode cL_planned 70 = .ok (.iadd, 1) := by decide +kernel
theorem dL_planned_71 : decode cL_planned 71 = .ok (.istore 4, 2) := by decide +kernel
theorem dL_planned_73 : decode cL_planned 73 = .ok (.iinc 6 1, 3) := by decide +kernel
theorem dL_planned_76 : decode cL_planned 76 = .ok (.goto (-59), 3) := by decide +kernel
theorem dL_planned_79 : decode cL_planned 79 = .ok (.iinc 5 1, 3) := by decide +kernel
theorem dL_planned_82 : decode cL_planned 82 = .ok (.goto (-76), 3) := by decide +kernel
theorem dL_planned_85 : decode cL_planned 85 = .ok (.iload 4, 2) := by decide +kernel
theorem dL_planned_87 : decode cL_planned 87 = .ok (.ireturn, 1) := by decide +kernel
theorem dL_why_0 : decode cL_why 0 = .ok (.bipush 9, 2) := by decide +kernel
theorem dL_why_2 : decode cL_why 2 = .ok (.aload_n 2, 1) := by decide +kernel
theorem dL_why_3 : decode cL_why 3 = .ok (.iconst 1, 1) := by decide +kernel
theorem dL_why_4 : decode cL_why 4 = .ok (.iaload, 1) := by decide +kernel
theorem dL_why_5 : decode cL_why 5 = .ok (.imul, 1) := by decide +kernel
theorem dL_why_6 : decode cL_why 6 = .ok (.istore 4, 2) := by decide +kernel
theorem dL_why_8 : decode cL_why 8 = .ok (.aload_n 3, 1) := by decide +kernel
theorem dL_why_9 : decode cL_why 9 = .ok (.iload 4, 2) := by decide +kernel
theorem dL_why_11 : decode cL_why 11 = .ok (.iaload, 1) := by decide +kernel
theorem dL_why_12 : decode cL_why 12 = .ok (.istore 5, 2) := by decide +kernel
theorem dL_why_14 : decode cL_why 14 = .ok (.aload_n 3, 1) := by decide +kernel
theorem dL_why_15 : decode cL_why 15 = .ok (.iload 4, 2) := by decide +kernel
theorem dL_why_17 : decode cL_why 17 = .ok (.iconst 2, 1) := by decide +kernel
theorem dL_why_18 : decode cL_why 18 = .ok (.iadd, 1) := by decide +kernel
theorem dL_why_19 : decode cL_why 19 = .ok (.iaload, 1) := by decide +kernel
theorem dL_why_20 : decode cL_why 20 = .ok (.istore 6, 2) := by decide +kernel
theorem dL_why_22 : decode cL_why 22 = .ok (.aload_n 3, 1) := by decide +kernel
theorem dL_why_23 : decode cL_why 23 = .ok (.iload 4, 2) := by decide +kernel
theorem dL_why_25 : decode cL_why 25 = .ok (.iconst 3, 1) := by decide +kernel
theorem dL_why_26 : decode cL_why 26 = .ok (.iadd, 1) := by decide +kernel
theorem dL_why_27 : decode cL_why 27 = .ok (.iaload, 1) := by decide +kernel
theorem dL_why_28 : decode cL_why 28 = .ok (.istore 7, 2) := by decide +kernel
theorem dL_why_30 : decode cL_why 30 = .ok (.iload 7, 2) := by decide +kernel
theorem dL_why_32 : decode cL_why 32 = .ok (.aload_n 3, 1) := by decide +kernel
theorem dL_why_33 : decode cL_why 33 = .ok (.iload 4, 2) := by decide +kernel
theorem dL_why_35 : decode cL_why 35 = .ok (.iconst 4, 1) := by decide +kernel
theorem dL_why_36 : decode cL_why 36 = .ok (.iadd, 1) := by decide +kernel
theorem dL_why_37 : decode cL_why 37 = .ok (.iaload, 1) := by decide +kernel
theorem dL_why_38 : decode cL_why 38 = .ok (.iadd, 1) := by decide +kernel
theorem dL_why_39 : decode cL_why 39 = .ok (.istore 8, 2) := by decide +kernel
theorem dL_why_41 : decode cL_why 41 = .ok (.iload 5, 2) := by decide +kernel
theorem dL_why_43 : decode cL_why 43 = .ok (.iconst 2, 1) := by decide +kernel
theorem dL_why_44 : decode cL_why 44 = .ok (.if_icmp .ne 18, 3) := by decide +kernel
theorem dL_why_47 : decode cL_why 47 = .ok (.aload_n 3, 1) := by decide +kernel
theorem dL_why_48 : decode cL_why 48 = .ok (.iload 4, 2) := by decide +kernel
theorem dL_why_50 : decode cL_why 50 = .ok (.bipush 7, 2) := by decide +kernel
theorem dL_why_52 : decode cL_why 52 = .ok (.iadd, 1) := by decide +kernel
theorem dL_why_53 : decode cL_why 53 = .ok (.iaload, 1) := by decide +kernel
theorem dL_why_54 : decode cL_why 54 = .ok (.aload_n 2, 1) := by decide +kernel
theorem dL_why_55 : decode cL_why 55 = .ok (.aload_n 3, 1) := by decide +kernel
theorem dL_why_56 : decode cL_why 56 = .ok (.invokestatic 8, 3) := by decide +kernel
theorem dL_why_59 : decode cL_why 59 = .ok (.goto 4, 3) := by decide +kernel
theorem dL_why_62 : decode cL_why 62 = .ok (.iconst (-1), 1) := by decide +kernel
theorem dL_why_63 : decode cL_why 63 = .ok (.istore 9, 2) := by decide +kernel
theorem dL_why_65 : decode cL_why 65 = .ok (.iload 5, 2) := by decide +kernel
theorem dL_why_67 : decode cL_why 67 = .ok (.iconst 2, 1) := by decide +kernel
theorem dL_why_68 : decode cL_why 68 = .ok (.if_icmp .ne 16, 3) := by decide +kernel
theorem dL_why_71 : decode cL_why 71 = .ok (.aload_n 3, 1) := by decide +kernel
theorem dL_why_72 : decode cL_why 72 = .ok (.bipush 9, 2) := by decide +kernel
theorem dL_why_74 : decode cL_why 74 = .ok (.iload 9, 2) := by decide +kernel
theorem dL_why_76 : decode cL_why 76 = .ok (.imul, 1) := by decide +kernel
theorem dL_why_77 : decode cL_why 77 = .ok (.iaload, 1) := by decide +kernel
theorem dL_why_78 : decode cL_why 78 = .ok (.iconst 2, 1) := by decide +kernel
theorem dL_why_79 : decode cL_why 79 = .ok (.if_icmp .ne 5, 3) := by decide +kernel
theorem dL_why_82 : decode cL_why 82 = .ok (.iconst 2, 1) := by decide +kernel
theorem dL_why_83 : decode cL_why 83 = .ok (.ireturn, 1) := by decide +kernel
theorem dL_why_84 : decode cL_why 84 = .ok (.iload 7, 2) := by decide +kernel
theorem dL_why_86 : decode cL_why 86 = .ok (.aload_n 0, 1) := by decide +kernel
theorem dL_why_87 : decode cL_why 87 = .ok (.iconst 0, 1) := by decide +kernel
theorem dL_why_88 : decode cL_why 88 = .ok (.iaload, 1) := by decide +kernel
theorem dL_why_89 : decode cL_why 89 = .ok (.if_icmp .lt 11, 3) := by decide +kernel
theorem dL_why_92 : decode cL_why 92 = .ok (.iload 8, 2) := by decide +kernel
theorem dL_why_94 : decode cL_why 94 = .ok (.aload_n 0, 1) := by decide +kernel
theorem dL_why_95 : decode cL_why 95 = .ok (.iconst 1, 1) := by decide +kernel
theorem dL_why_96 : decode cL_why 96 = .ok (.iaload, 1) := by decide +kernel
theorem dL_why_97 : decode cL_why 97 = .ok (.if_icmp .le 5, 3) := by decide +kernel
theorem dL_why_100 : decode cL_why 100 = .ok (.iconst 3, 1) := by decide +kernel
theorem dL_why_101 : decode cL_why 101 = .ok (.ireturn, 1) := by decide +kernel
theorem dL_why_102 : decode cL_why 102 = .ok (.iload 7, 2) := by decide +kernel
theorem dL_why_104 : decode cL_why 104 = .ok (.istore 10, 2) := by decide +kernel
theorem dL_why_106 : decode cL_why 106 = .ok (.iload 10, 2) := by decide +kernel
theorem dL_why_108 : decode cL_why 108 = .ok (.iload 8, 2) := by decide +kernel
theorem dL_why_110 : decode cL_why 110 = .ok (.if_icmp .ge 23, 3) := by decide +kernel
theorem dL_why_113 : decode cL_why 113 = .ok (.iload 6, 2) := by decide +kernel
theorem dL_why_115 : decode cL_why 115 = .ok (.iload 10, 2) := by decide +kernel
theorem dL_why_117 : decode cL_why 117 = .ok (.aload_n 2, 1) := by decide +kernel
theorem dL_why_118 : decode cL_why 118 = .ok (.aload_n 3, 1) := by decide +kernel
theorem dL_why_119 : decode cL_why 119 = .ok (.invokestatic 14, 3) := by decide +kernel
theorem dL_why_122 : decode cL_why 122 = .ok (.ifCond .eq 5, 3) := by decide +kernel
theorem dL_why_125 : decode cL_why 125 = .ok (.iconst 4, 1) := by decide +kernel
theorem dL_why_126 : decode cL_why 126 = .ok (.ireturn, 1) := by decide +kernel
theorem dL_why_127 : decode cL_why 127 = .ok (.iinc 10 1, 3) := by decide +kernel
theorem dL_why_130 : decode cL_why 130 = .ok (.goto (-24), 3) := by decide +kernel
theorem dL_why_133 : decode cL_why 133 = .ok (.iload 5, 2) := by decide +kernel
theorem dL_why_135 : decode cL_why 135 = .ok (.iconst 2, 1) := by decide +kernel
theorem dL_why_136 : decode cL_why 136 = .ok (.if_icmp .ne 57, 3) := by decide +kernel
theorem dL_why_139 : decode cL_why 139 = .ok (.sipush 1440, 3) := by decide +kernel
theorem dL_why_142 : decode cL_why 142 = .ok (.iload 6, 2) := by decide +kernel
theorem dL_why_144 : decode cL_why 144 = .ok (.imul, 1) := by decide +kernel
theorem dL_why_145 : decode cL_why 145 = .ok (.iload 7, 2) := by decide +kernel
theorem dL_why_147 : decode cL_why 147 = .ok (.iadd, 1) := by decide +kernel
theorem dL_why_148 : decode cL_why 148 = .ok (.sipush 1440, 3) := by decide +kernel
theorem dL_why_151 : decode cL_why 151 = .ok (.aload_n 3, 1) := by decide +kernel
theorem dL_why_152 : decode cL_why 152 = .ok (.bipush 9, 2) := by decide +kernel
theorem dL_why_154 : decode cL_why 154 = .ok (.iload 9, 2) := by decide +kernel
theorem dL_why_156 : decode cL_why 156 = .ok (.imul, 1) := by decide +kernel
theorem dL_why_157 : decode cL_why 157 = .ok (.iconst 2, 1) := by decide +kernel
theorem dL_why_158 : decode cL_why 158 = .ok (.iadd, 1) := by decide +kernel
theorem dL_why_159 : decode cL_why 159 = .ok (.iaload, 1) := by decide +kernel
theorem dL_why_160 : decode cL_why 160 = .ok (.imul, 1) := by decide +kernel
theorem dL_why_161 : decode cL_why 161 = .ok (.isub, 1) := by decide +kernel
theorem dL_why_162 : decode cL_why 162 = .ok (.aload_n 3, 1) := by decide +kernel
theorem dL_why_163 : decode cL_why 163 = .ok (.bipush 9, 2) := by decide +kernel
theorem dL_why_165 : decode cL_why 165 = .ok (.iload 9, 2) := by decide +kernel
theorem dL_why_167 : decode cL_why 167 = .ok (.imul, 1) := by decide +kernel
theorem dL_why_168 : decode cL_why 168 = .ok (.iconst 3, 1) := by decide +kernel
theorem dL_why_169 : decode cL_why 169 = .ok (.iadd, 1) := by decide +kernel
theorem dL_why_170 : decode cL_why 170 = .ok (.iaload, 1) := by decide +kernel
theorem dL_why_171 : decode cL_why 171 = .ok (.isub, 1) := by decide +kernel
theorem dL_why_172 : decode cL_why 172 = .ok (.aload_n 3, 1) := by decide +kernel
theorem dL_why_173 : decode cL_why 173 = .ok (.bipush 9, 2) := by decide +kernel
theorem dL_why_175 : decode cL_why 175 = .ok (.iload 9, 2) := by decide +kernel
theorem dL_why_177 : decode cL_why 177 = .ok (.imul, 1) := by decide +kernel
theorem dL_why_178 : decode cL_why 178 = .ok (.iconst 4, 1) := by decide +kernel
theorem dL_why_179 : decode cL_why 179 = .ok (.iadd, 1) := by decide +kernel
theorem dL_why_180 : decode cL_why 180 = .ok (.iaload, 1) := by decide +kernel
theorem dL_why_181 : decode cL_why 181 = .ok (.isub, 1) := by decide +kernel
theorem dL_why_182 : decode cL_why 182 = .ok (.bipush 60, 2) := by decide +kernel
theorem dL_why_184 : decode cL_why 184 = .ok (.aload_n 0, 1) := by decide +kernel
theorem dL_why_185 : decode cL_why 185 = .ok (.iconst 4, 1) := by decide +kernel
theorem dL_why_186 : decode cL_why 186 = .ok (.iaload, 1) := by decide +kernel
theorem dL_why_187 : decode cL_why 187 = .ok (.imul, 1) := by decide +kernel
theorem dL_why_188 : decode cL_why 188 = .ok (.if_icmp .ge 5, 3) := by decide +kernel
theorem dL_why_191 : decode cL_why 191 = .ok (.iconst 5, 1) := by decide +kernel
theorem dL_why_192 : decode cL_why 192 = .ok (.ireturn, 1) := by decide +kernel
theorem dL_why_193 : decode cL_why 193 = .ok (.iconst 0, 1) := by decide +kernel
theorem dL_why_194 : decode cL_why 194 = .ok (.istore 10, 2) := by decide +kernel
theorem dL_why_196 : decode cL_why 196 = .ok (.iconst 0, 1) := by decide +kernel
theorem dL_why_197 : decode cL_why 197 = .ok (.istore 11, 2) := by decide +kernel
theorem dL_why_199 : decode cL_why 199 = .ok (.iload 11, 2) := by decide +kernel
theorem dL_why_201 : decode cL_why 201 = .ok (.aload_n 2, 1) := by decide +kernel
theorem dL_why_202 : decode cL_why 202 = .ok (.iconst 1, 1) := by decide +kernel
theorem dL_why_203 : decode cL_why 203 = .ok (.iaload, 1) := by decide +kernel
theorem dL_why_204 : decode cL_why 204 = .ok (.if_icmp .gt 56, 3) := by decide +kernel
theorem dL_why_207 : decode cL_why 207 = .ok (.iload 10, 2) := by decide +kernel
theorem dL_why_209 : decode cL_why 209 = .ok (.aload_n 3, 1) := by decide +kernel
theorem dL_why_210 : decode cL_why 210 = .ok (.bipush 9, 2) := by decide +kernel
theorem dL_why_212 : decode cL_why 212 = .ok (.iload 11, 2) := by decide +kernel
theorem dL_why_214 : decode cL_why 214 = .ok (.imul, 1) := by decide +kernel
theorem dL_why_215 : decode cL_why 215 = .ok (.iconst 1, 1) := by decide +kernel
theorem dL_why_216 : decode cL_why 216 = .ok (.iadd, 1) := by decide +kernel
theorem dL_why_217 : decode cL_why 217 = .ok (.iaload, 1) := by decide +kernel
theorem dL_why_218 : decode cL_why 218 = .ok (.aload_n 3, 1) := by decide +kernel
theorem dL_why_219 : decode cL_why 219 = .ok (.iload 4, 2) := by decide +kernel
theorem dL_why_221 : decode cL_why 221 = .ok (.iconst 1, 1) := by decide +kernel
theorem dL_why_222 : decode cL_why 222 = .ok (.iadd, 1) := by decide +kernel
theorem dL_why_223 : decode cL_why 223 = .ok (.iaload, 1) := by decide +kernel
theorem dL_why_224 : decode cL_why 224 = .ok (.if_icmp .ne 26, 3) := by decide +kernel
theorem dL_why_227 : decode cL_why 227 = .ok (.aload_n 3, 1) := by decide +kernel
theorem dL_why_228 : decode cL_why 228 = .ok (.bipush 9, 2) := by decide +kernel
theorem dL_why_230 : decode cL_why 230 = .ok (.iload 11, 2) := by decide +kernel
theorem dL_why_232 : decode cL_why 232 = .ok (.imul, 1) := by decide +kernel
theorem dL_why_233 : decode cL_why 233 = .ok (.iaload, 1) := by decide +kernel
theorem dL_why_234 : decode cL_why 234 = .ok (.aload_n 3, 1) := by decide +kernel
theorem dL_why_235 : decode cL_why 235 = .ok (.bipush 9, 2) := by decide +kernel
theorem dL_why_237 : decode cL_why 237 = .ok (.iload 11, 2) := by decide +kernel
theorem dL_why_239 : decode cL_why 239 = .ok (.imul, 1) := by decide +kernel
theorem dL_why_240 : decode cL_why 240 = .ok (.iconst 4, 1) := by decide +kernel
theorem dL_why_241 : decode cL_why 241 = .ok (.iadd, 1) := by decide +kernel
theorem dL_why_242 : decode cL_why 242 = .ok (.iaload, 1) := by decide +kernel
theorem dL_why_243 : decode cL_why 243 = .ok (.aload_n 0, 1) := by decide +kernel
theorem dL_why_244 : decode cL_why 244 = .ok (.invokestatic 18, 3) := by decide +kernel
theorem dL_why_247 : decode cL_why 247 = .ok (.goto 4, 3) := by decide +kernel
theorem dL_why_250 : decode cL_why 250 = .ok (.iconst 0, 1) := by decide +kernel
theorem dL_why_251 : decode cL_why 251 = .ok (.iadd, 1) := by decide +kernel
theorem dL_why_252 : decode cL_why 252 = .ok (.istore 10, 2) := by decide +kernel
theorem dL_why_254 : decode cL_why 254 = .ok (.iinc 11 1, 3) := by decide +kernel
theorem dL_why_257 : decode cL_why 257 = .ok (.goto (-58), 3) := by decide +kernel
theorem dL_why_260 : decode cL_why 260 = .ok (.iload 10, 2) := by decide +kernel
theorem dL_why_262 : decode cL_why 262 = .ok (.aload_n 3, 1) := by decide +kernel
theorem dL_why_263 : decode cL_why 263 = .ok (.iload 4, 2) := by decide +kernel
theorem dL_why_265 : decode cL_why 265 = .ok (.iconst 1, 1) := by decide +kernel
theorem dL_why_266 : decode cL_why 266 = .ok (.iadd, 1) := by decide +kernel
theorem dL_why_267 : decode cL_why 267 = .ok (.iaload, 1) := by decide +kernel
theorem dL_why_268 : decode cL_why 268 = .ok (.aload_n 1, 1) := by decide +kernel
theorem dL_why_269 : decode cL_why 269 = .ok (.invokestatic 22, 3) := by decide +kernel
theorem dL_why_272 : decode cL_why 272 = .ok (.if_icmp .le 6, 3) := by decide +kernel
theorem dL_why_275 : decode cL_why 275 = .ok (.bipush 6, 2) := by decide +kernel
theorem dL_why_277 : decode cL_why 277 = .ok (.ireturn, 1) := by decide +kernel
theorem dL_why_278 : decode cL_why 278 = .ok (.iconst 0, 1) := by decide +kernel
theorem dL_why_279 : decode cL_why 279 = .ok (.istore 11, 2) := by decide +kernel
theorem dL_why_281 : decode cL_why 281 = .ok (.iload 11, 2) := by decide +kernel
theorem dL_why_283 : decode cL_why 283 = .ok (.bipush 24, 2) := by decide +kernel
theorem dL_why_285 : decode cL_why 285 = .ok (.if_icmp .ge 77, 3) := by decide +kernel
theorem dL_why_288 : decode cL_why 288 = .ok (.iconst 0, 1) := by decide +kernel
theorem dL_why_289 : decode cL_why 289 = .ok (.istore 12, 2) := by decide +kernel
theorem dL_why_291 : decode cL_why 291 = .ok (.iconst 0, 1) := by decide +kernel
theorem dL_why_292 : decode cL_why 292 = .ok (.istore 13, 2) := by decide +kernel
theorem dL_why_294 : decode cL_why 294 = .ok (.iload 13, 2) := by decide +kernel
theorem dL_why_296 : decode cL_why 296 = .ok (.aload_n 3, 1) := by decide +kernel
theorem dL_why_297 : decode cL_why 297 = .ok (.iload 4, 2) := by decide +kernel
theorem dL_why_299 : decode cL_why 299 = .ok (.iconst 5, 1) := by decide +kernel
theorem dL_why_300 : decode cL_why 300 = .ok (.iadd, 1) := by decide +kernel
theorem dL_why_301 : decode cL_why 301 = .ok (.iaload, 1) := by decide +kernel
theorem dL_why_302 : decode cL_why 302 = .ok (.if_icmp .ge 32, 3) := by decide +kernel
theorem dL_why_305 : decode cL_why 305 = .ok (.iload 12, 2) := by decide +kernel
theorem dL_why_307 : decode cL_why 307 = .ok (.iload 7, 2) := by decide +kernel
theorem dL_why_309 : decode cL_why 309 = .ok (.iload 13, 2) := by decide +kernel
theorem dL_why_311 : decode cL_why 311 = .ok (.iadd, 1) := by decide +kernel
theorem dL_why_312 : decode cL_why 312 = .ok (.bipush 60, 2) := by decide +kernel
theorem dL_why_314 : decode cL_why 314 = .ok (.idiv, 1) := by decide +kernel
theorem dL_why_315 : decode cL_why 315 = .ok (.iload 11, 2) := by decide +kernel
theorem dL_why_317 : decode cL_why 317 = .ok (.if_icmp .ne 7, 3) := by decide +kernel
theorem dL_why_320 : decode cL_why 320 = .ok (.iconst 1, 1) := by decide +kernel
theorem dL_why_321 : decode cL_why 321 = .ok (.goto 4, 3) := by decide +kernel
theorem dL_why_324 : decode cL_why 324 = .ok (.iconst 0, 1) := by decide +kernel
theorem dL_why_325 : decode cL_why 325 = .ok (.iadd, 1) := by decide +kernel
theorem dL_why_326 : decode cL_why 326 = .ok (.istore 12, 2) := by decide +kernel
theorem dL_why_328 : decode cL_why 328 = .ok (.iinc 13 1, 3) := by decide +kernel
theorem dL_why_331 : decode cL_why 331 = .ok (.goto (-37), 3) := by decide +kernel
theorem dL_why_334 : decode cL_why 334 = .ok (.iload 6, 2) := by decide +kernel
theorem dL_why_336 : decode cL_why 336 = .ok (.iload 11, 2) := by decide +kernel
theorem dL_why_338 : decode cL_why 338 = .ok (.aload_n 2, 1) := by decide +kernel
theorem dL_why_339 : decode cL_why 339 = .ok (.aload_n 3, 1) := by decide +kernel
theorem dL_why_340 : decode cL_why 340 = .ok (.invokestatic 26, 3) := by decide +kernel
theorem dL_why_343 : decode cL_why 343 = .ok (.iload 12, 2) := by decide +kernel
theorem dL_why_345 : decode cL_why 345 = .ok (.iadd, 1) := by decide +kernel
theorem dL_why_346 : decode cL_why 346 = .ok (.aload_n 0, 1) := by decide +kernel
theorem dL_why_347 : decode cL_why 347 = .ok (.bipush 6, 2) := by decide +kernel
theorem dL_why_349 : decode cL_why 349 = .ok (.iaload, 1) := by decide +kernel
theorem dL_why_350 : decode cL_why 350 = .ok (.if_icmp .le 6, 3) := by decide +kernel
theorem dL_why_353 : decode cL_why 353 = .ok (.bipush 7, 2) := by decide +kernel
theorem dL_why_355 : decode cL_why 355 = .ok (.ireturn, 1) := by decide +kernel
theorem dL_why_356 : decode cL_why 356 = .ok (.iinc 11 1, 3) := by decide +kernel
theorem dL_why_359 : decode cL_why 359 = .ok (.goto (-78), 3) := by decide +kernel
theorem dL_why_362 : decode cL_why 362 = .ok (.iconst 0, 1) := by decide +kernel
theorem dL_why_363 : decode cL_why 363 = .ok (.ireturn, 1) := by decide +kernel
theorem dL_sink_0 : decode cL_sink 0 = .ok (.aload_n 0, 1) := by decide +kernel
theorem dL_sink_1 : decode cL_sink 1 = .ok (.iconst 1, 1) := by decide +kernel
theorem dL_sink_2 : decode cL_sink 2 = .ok (.iaload, 1) := by decide +kernel
theorem dL_sink_3 : decode cL_sink 3 = .ok (.istore_n 2, 1) := by decide +kernel
theorem dL_sink_4 : decode cL_sink 4 = .ok (.aload_n 0, 1) := by decide +kernel
theorem dL_sink_5 : decode cL_sink 5 = .ok (.iconst 1, 1) := by decide +kernel
theorem dL_sink_6 : decode cL_sink 6 = .ok (.dup2, 1) := by decide +kernel
theorem dL_sink_7 : decode cL_sink 7 = .ok (.iaload, 1) := by decide +kernel
theorem dL_sink_8 : decode cL_sink 8 = .ok (.iconst 1, 1) := by decide +kernel
theorem dL_sink_9 : decode cL_sink 9 = .ok (.iadd, 1) := by decide +kernel
theorem dL_sink_10 : decode cL_sink 10 = .ok (.iastore, 1) := by decide +kernel
theorem dL_sink_11 : decode cL_sink 11 = .ok (.iload_n 2, 1) := by decide +kernel
theorem dL_sink_12 : decode cL_sink 12 = .ok (.ifCond .le 112, 3) := by decide +kernel
theorem dL_sink_15 : decode cL_sink 15 = .ok (.sipush 1440, 3) := by decide +kernel
theorem dL_sink_18 : decode cL_sink 18 = .ok (.aload_n 1, 1) := by decide +kernel
theorem dL_sink_19 : decode cL_sink 19 = .ok (.bipush 9, 2) := by decide +kernel
theorem dL_sink_21 : decode cL_sink 21 = .ok (.iload_n 2, 1) := by decide +kernel
theorem dL_sink_22 : decode cL_sink 22 = .ok (.imul, 1) := by decide +kernel
theorem dL_sink_23 : decode cL_sink 23 = .ok (.bipush 7, 2) := by decide +kernel
theorem dL_sink_25 : decode cL_sink 25 = .ok (.isub, 1) := by decide +kernel
theorem dL_sink_26 : decode cL_sink 26 = .ok (.iaload, 1) := by decide +kernel
theorem dL_sink_27 : decode cL_sink 27 = .ok (.imul, 1) := by decide +kernel
theorem dL_sink_28 : decode cL_sink 28 = .ok (.aload_n 1, 1) := by decide +kernel
theorem dL_sink_29 : decode cL_sink 29 = .ok (.bipush 9, 2) := by decide +kernel
theorem dL_sink_31 : decode cL_sink 31 = .ok (.iload_n 2, 1) := by decide +kernel
theorem dL_sink_32 : decode cL_sink 32 = .ok (.imul, 1) := by decide +kernel
theorem dL_sink_33 : decode cL_sink 33 = .ok (.bipush 6, 2) := by decide +kernel
theorem dL_sink_35 : decode cL_sink 35 = .ok (.isub, 1) := by decide +kernel
theorem dL_sink_36 : decode cL_sink 36 = .ok (.iaload, 1) := by decide +kernel
theorem dL_sink_37 : decode cL_sink 37 = .ok (.iadd, 1) := by decide +kernel
theorem dL_sink_38 : decode cL_sink 38 = .ok (.sipush 1440, 3) := by decide +kernel
theorem dL_sink_41 : decode cL_sink 41 = .ok (.aload_n 1, 1) := by decide +kernel
theorem dL_sink_42 : decode cL_sink 42 = .ok (.bipush 9, 2) := by decide +kernel
theorem dL_sink_44 : decode cL_sink 44 = .ok (.iload_n 2, 1) := by decide +kernel
theorem dL_sink_45 : decode cL_sink 45 = .ok (.imul, 1) := by decide +kernel
theorem dL_sink_46 : decode cL_sink 46 = .ok (.iconst 2, 1) := by decide +kernel
theorem dL_sink_47 : decode cL_sink 47 = .ok (.iadd, 1) := by decide +kernel
theorem dL_sink_48 : decode cL_sink 48 = .ok (.iaload, 1) := by decide +kernel
theorem dL_sink_49 : decode cL_sink 49 = .ok (.imul, 1) := by decide +kernel
theorem dL_sink_50 : decode cL_sink 50 = .ok (.aload_n 1, 1) := by decide +kernel
theorem dL_sink_51 : decode cL_sink 51 = .ok (.bipush 9, 2) := by decide +kernel
theorem dL_sink_53 : decode cL_sink 53 = .ok (.iload_n 2, 1) := by decide +kernel
theorem dL_sink_54 : decode cL_sink 54 = .ok (.imul, 1) := by decide +kernel
theorem dL_sink_55 : decode cL_sink 55 = .ok (.iconst 3, 1) := by decide +kernel
theorem dL_sink_56 : decode cL_sink 56 = .ok (.iadd, 1) := by decide +kernel
theorem dL_sink_57 : decode cL_sink 57 = .ok (.iaload, 1) := by decide +kernel
theorem dL_sink_58 : decode cL_sink 58 = .ok (.iadd, 1) := by decide +kernel
theorem dL_sink_59 : decode cL_sink 59 = .ok (.if_icmp .le 65, 3) := by decide +kernel
theorem dL_sink_62 : decode cL_sink 62 = .ok (.iconst 0, 1) := by decide +kernel
theorem dL_sink_63 : decode cL_sink 63 = .ok (.istore_n 3, 1) := by decide +kernel
theorem dL_sink_64 : decode cL_sink 64 = .ok (.iload_n 3, 1) := by decide +kernel
theorem dL_sink_65 : decode cL_sink 65 = .ok (.bipush 9, 2) := by decide +kernel
theorem dL_sink_67 : decode cL_sink 67 = .ok (.if_icmp .ge 51, 3) := by decide +kernel
theorem dL_sink_70 : decode cL_sink 70 = .ok (.aload_n 1, 1) := by decide +kernel
theorem dL_sink_71 : decode cL_sink 71 = .ok (.bipush 9, 2) := by decide +kernel
theorem dL_sink_73 : decode cL_sink 73 = .ok (.iload_n 2, 1) := by decide +kernel
theorem dL_sink_74 : decode cL_sink 74 = .ok (.imul, 1) := by decide +kernel
theorem dL_sink_75 : decode cL_sink 75 = .ok (.iload_n 3, 1) := by decide +kernel
theorem dL_sink_76 : decode cL_sink 76 = .ok (.iadd, 1) := by decide +kernel
theorem dL_sink_77 : decode cL_sink 77 = .ok (.iaload, 1) := by decide +kernel
theorem dL_sink_78 : decode cL_sink 78 = .ok (.istore 4, 2) := by decide +kernel
theorem dL_sink_80 : decode cL_sink 80 = .ok (.aload_n 1, 1) := by decide +kernel
theorem dL_sink_81 : decode cL_sink 81 = .ok (.bipush 9, 2) := by decide +kernel
theorem dL_sink_83 : decode cL_sink 83 = .ok (.iload_n 2, 1) := by decide +kernel
theorem dL_sink_84 : decode cL_sink 84 = .ok (.imul, 1) := by decide +kernel
theorem dL_sink_85 : decode cL_sink 85 = .ok (.iload_n 3, 1) := by decide +kernel
theorem dL_sink_86 : decode cL_sink 86 = .ok (.iadd, 1) := by decide +kernel
theorem dL_sink_87 : decode cL_sink 87 = .ok (.aload_n 1, 1) := by decide +kernel
theorem dL_sink_88 : decode cL_sink 88 = .ok (.bipush 9, 2) := by decide +kernel
theorem dL_sink_90 : decode cL_sink 90 = .ok (.iload_n 2, 1) := by decide +kernel
theorem dL_sink_91 : decode cL_sink 91 = .ok (.imul, 1) := by decide +kernel
theorem dL_sink_92 : decode cL_sink 92 = .ok (.bipush 9, 2) := by decide +kernel
theorem dL_sink_94 : decode cL_sink 94 = .ok (.isub, 1) := by decide +kernel
theorem dL_sink_95 : decode cL_sink 95 = .ok (.iload_n 3, 1) := by decide +kernel
theorem dL_sink_96 : decode cL_sink 96 = .ok (.iadd, 1) := by decide +kernel
theorem dL_sink_97 : decode cL_sink 97 = .ok (.iaload, 1) := by decide +kernel
theorem dL_sink_98 : decode cL_sink 98 = .ok (.iastore, 1) := by decide +kernel
theorem dL_sink_99 : decode cL_sink 99 = .ok (.aload_n 1, 1) := by decide +kernel
theorem dL_sink_100 : decode cL_sink 100 = .ok (.bipush 9, 2) := by decide +kernel
theorem dL_sink_102 : decode cL_sink 102 = .ok (.iload_n 2, 1) := by decide +kernel
theorem dL_sink_103 : decode cL_sink 103 = .ok (.imul, 1) := by decide +kernel
theorem dL_sink_104 : decode cL_sink 104 = .ok (.bipush 9, 2) := by decide +kernel
theorem dL_sink_106 : decode cL_sink 106 = .ok (.isub, 1) := by decide +kernel
theorem dL_sink_107 : decode cL_sink 107 = .ok (.iload_n 3, 1) := by decide +kernel
theorem dL_sink_108 : decode cL_sink 108 = .ok (.iadd, 1) := by decide +kernel
theorem dL_sink_109 : decode cL_sink 109 = .ok (.iload 4, 2) := by decide +kernel
theorem dL_sink_111 : decode cL_sink 111 = .ok (.iastore, 1) := by decide +kernel
theorem dL_sink_112 : decode cL_sink 112 = .ok (.iinc 3 1, 3) := by decide +kernel
theorem dL_sink_115 : decode cL_sink 115 = .ok (.goto (-51), 3) := by decide +kernel
theorem dL_sink_118 : decode cL_sink 118 = .ok (.iinc 2 (-1), 3) := by decide +kernel
theorem dL_sink_121 : decode cL_sink 121 = .ok (.goto (-110), 3) := by decide +kernel
theorem dL_sink_124 : decode cL_sink 124 = .ok (.iload_n 2, 1) := by decide +kernel
theorem dL_sink_125 : decode cL_sink 125 = .ok (.ireturn, 1) := by decide +kernel
theorem dL_clock_0 : decode cL_clock 0 = .ok (.aload_n 1, 1) := by decide +kernel
theorem dL_clock_1 : decode cL_clock 1 = .ok (.iconst 0, 1) := by decide +kernel
theorem dL_clock_2 : decode cL_clock 2 = .ok (.iaload, 1) := by decide +kernel
theorem dL_clock_3 : decode cL_clock 3 = .ok (.istore 5, 2) := by decide +kernel
theorem dL_clock_5 : decode cL_clock 5 = .ok (.iconst 0, 1) := by decide +kernel
theorem dL_clock_6 : decode cL_clock 6 = .ok (.istore 6, 2) := by decide +kernel
theorem dL_clock_8 : decode cL_clock 8 = .ok (.iload 6, 2) := by decide +kernel
theorem dL_clock_10 : decode cL_clock 10 = .ok (.aload_n 2, 1) := by decide +kernel
theorem dL_clock_11 : decode cL_clock 11 = .ok (.iconst 1, 1) := by decide +kernel
theorem dL_clock_12 : decode cL_clock 12 = .ok (.iaload, 1) := by decide +kernel
theorem dL_clock_13 : decode cL_clock 13 = .ok (.if_icmp .ge 256, 3) := by decide +kernel
theorem dL_clock_16 : decode cL_clock 16 = .ok (.bipush 9, 2) := by decide +kernel
theorem dL_clock_18 : decode cL_clock 18 = .ok (.iload 6, 2) := by decide +kernel
theorem dL_clock_20 : decode cL_clock 20 = .ok (.imul, 1) := by decide +kernel
theorem dL_clock_21 : decode cL_clock 21 = .ok (.istore 7, 2) := by decide +kernel
theorem dL_clock_23 : decode cL_clock 23 = .ok (.aload_n 3, 1) := by decide +kernel
theorem dL_clock_24 : decode cL_clock 24 = .ok (.iload 7, 2) := by decide +kernel
theorem dL_clock_26 : decode cL_clock 26 = .ok (.iconst 2, 1) := by decide +kernel
theorem dL_clock_27 : decode cL_clock 27 = .ok (.iadd, 1) := by decide +kernel
theorem dL_clock_28 : decode cL_clock 28 = .ok (.iaload, 1) := by decide +kernel
theorem dL_clock_29 : decode cL_clock 29 = .ok (.iload_n 0, 1) := by decide +kernel
theorem dL_clock_30 : decode cL_clock 30 = .ok (.if_icmp .eq 6, 3) := by decide +kernel
theorem dL_clock_33 : decode cL_clock 33 = .ok (.goto 230, 3) := by decide +kernel
theorem dL_clock_36 : decode cL_clock 36 = .ok (.iload 5, 2) := by decide +kernel
theorem dL_clock_38 : decode cL_clock 38 = .ok (.aload_n 3, 1) := by decide +kernel
theorem dL_clock_39 : decode cL_clock 39 = .ok (.iload 7, 2) := by decide +kernel
theorem dL_clock_41 : decode cL_clock 41 = .ok (.iconst 3, 1) := by decide +kernel
theorem dL_clock_42 : decode cL_clock 42 = .ok (.iadd, 1) := by decide +kernel
theorem dL_clock_43 : decode cL_clock 43 = .ok (.iaload, 1) := by decide +kernel
theorem dL_clock_44 : decode cL_clock 44 = .ok (.if_icmp .ge 12, 3) := by decide +kernel
theorem dL_clock_47 : decode cL_clock 47 = .ok (.aload_n 3, 1) := by decide +kernel
theorem dL_clock_48 : decode cL_clock 48 = .ok (.iload 7, 2) := by decide +kernel
theorem dL_clock_50 : decode cL_clock 50 = .ok (.iconst 3, 1) := by decide +kernel
theorem dL_clock_51 : decode cL_clock 51 = .ok (.iadd, 1) := by decide +kernel
theorem dL_clock_52 : decode cL_clock 52 = .ok (.iaload, 1) := by decide +kernel
theorem dL_clock_53 : decode cL_clock 53 = .ok (.goto 5, 3) := by decide +kernel
theorem dL_clock_56 : decode cL_clock 56 = .ok (.iload 5, 2) := by decide +kernel
theorem dL_clock_58 : decode cL_clock 58 = .ok (.istore 8, 2) := by decide +kernel
theorem dL_clock_60 : decode cL_clock 60 = .ok (.aload 4, 2) := by decide +kernel
theorem dL_clock_62 : decode cL_clock 62 = .ok (.iconst 4, 1) := by decide +kernel
theorem dL_clock_63 : decode cL_clock 63 = .ok (.iload 6, 2) := by decide +kernel
theorem dL_clock_65 : decode cL_clock 65 = .ok (.imul, 1) := by decide +kernel
theorem dL_clock_66 : decode cL_clock 66 = .ok (.iconst (-1), 1) := by decide +kernel
theorem dL_clock_67 : decode cL_clock 67 = .ok (.iastore, 1) := by decide +kernel
theorem dL_clock_68 : decode cL_clock 68 = .ok (.aload 4, 2) := by decide +kernel
theorem dL_clock_70 : decode cL_clock 70 = .ok (.iconst 4, 1) := by decide +kernel
theorem dL_clock_71 : decode cL_clock 71 = .ok (.iload 6, 2) := by decide +kernel
theorem dL_clock_73 : decode cL_clock 73 = .ok (.imul, 1) := by decide +kernel
theorem dL_clock_74 : decode cL_clock 74 = .ok (.iconst 1, 1) := by decide +kernel
theorem dL_clock_75 : decode cL_clock 75 = .ok (.iadd, 1) := by decide +kernel
theorem dL_clock_76 : decode cL_clock 76 = .ok (.iconst 0, 1) := by decide +kernel
theorem dL_clock_77 : decode cL_clock 77 = .ok (.iastore, 1) := by decide +kernel
theorem dL_clock_78 : decode cL_clock 78 = .ok (.aload 4, 2) := by decide +kernel
theorem dL_clock_80 : decode cL_clock 80 = .ok (.iconst 4, 1) := by decide +kernel
theorem dL_clock_81 : decode cL_clock 81 = .ok (.iload 6, 2) := by decide +kernel
theorem dL_clock_83 : decode cL_clock 83 = .ok (.imul, 1) := by decide +kernel
theorem dL_clock_84 : decode cL_clock 84 = .ok (.iconst 2, 1) := by decide +kernel
theorem dL_clock_85 : decode cL_clock 85 = .ok (.iadd, 1) := by decide +kernel
theorem dL_clock_86 : decode cL_clock 86 = .ok (.iload 8, 2) := by decide +kernel
theorem dL_clock_88 : decode cL_clock 88 = .ok (.aload_n 3, 1) := by decide +kernel
theorem dL_clock_89 : decode cL_clock 89 = .ok (.iload 7, 2) := by decide +kernel
theorem dL_clock_91 : decode cL_clock 91 = .ok (.iconst 3, 1) := by decide +kernel
theorem dL_clock_92 : decode cL_clock 92 = .ok (.iadd, 1) := by decide +kernel
theorem dL_clock_93 : decode cL_clock 93 = .ok (.iaload, 1) := by decide +kernel
theorem dL_clock_94 : decode cL_clock 94 = .ok (.isub, 1) := by decide +kernel
theorem dL_clock_95 : decode cL_clock 95 = .ok (.iastore, 1) := by decide +kernel
theorem dL_clock_96 : decode cL_clock 96 = .ok (.aload 4, 2) := by decide +kernel
theorem dL_clock_98 : decode cL_clock 98 = .ok (.iconst 4, 1) := by decide +kernel
theorem dL_clock_99 : decode cL_clock 99 = .ok (.iload 6, 2) := by decide +kernel
theorem dL_clock_101 : decode cL_clock 101 = .ok (.imul, 1) := by decide +kernel
theorem dL_clock_102 : decode cL_clock 102 = .ok (.iconst 3, 1) := by decide +kernel
theorem dL_clock_103 : decode cL_clock 103 = .ok (.iadd, 1) := by decide +kernel
theorem dL_clock_104 : decode cL_clock 104 = .ok (.iconst 2, 1) := by decide +kernel
theorem dL_clock_105 : decode cL_clock 105 = .ok (.iastore, 1) := by decide +kernel
theorem dL_clock_106 : decode cL_clock 106 = .ok (.iload 8, 2) := by decide +kernel
theorem dL_clock_108 : decode cL_clock 108 = .ok (.aload_n 3, 1) := by decide +kernel
theorem dL_clock_109 : decode cL_clock 109 = .ok (.iload 7, 2) := by decide +kernel
theorem dL_clock_111 : decode cL_clock 111 = .ok (.iconst 3, 1) := by decide +kernel
theorem dL_clock_112 : decode cL_clock 112 = .ok (.iadd, 1) := by decide +kernel
theorem dL_clock_113 : decode cL_clock 113 = .ok (.iaload, 1) := by decide +kernel
theorem dL_clock_114 : decode cL_clock 114 = .ok (.isub, 1) := by decide +kernel
theorem dL_clock_115 : decode cL_clock 115 = .ok (.aload_n 1, 1) := by decide +kernel
theorem dL_clock_116 : decode cL_clock 116 = .ok (.aload_n 3, 1) := by decide +kernel
theorem dL_clock_117 : decode cL_clock 117 = .ok (.iload 7, 2) := by decide +kernel
theorem dL_clock_119 : decode cL_clock 119 = .ok (.iaload, 1) := by decide +kernel
theorem dL_clock_120 : decode cL_clock 120 = .ok (.ifCond .ne 7, 3) := by decide +kernel
theorem dL_clock_123 : decode cL_clock 123 = .ok (.iconst 2, 1) := by decide +kernel
theorem dL_clock_124 : decode cL_clock 124 = .ok (.goto 4, 3) := by decide +kernel
theorem dL_clock_127 : decode cL_clock 127 = .ok (.iconst 3, 1) := by decide +kernel
theorem dL_clock_128 : decode cL_clock 128 = .ok (.iaload, 1) := by decide +kernel
theorem dL_clock_129 : decode cL_clock 129 = .ok (.if_icmp .gt 134, 3) := by decide +kernel
theorem dL_clock_132 : decode cL_clock 132 = .ok (.iload 8, 2) := by decide +kernel
theorem dL_clock_134 : decode cL_clock 134 = .ok (.aload_n 1, 1) := by decide +kernel
theorem dL_clock_135 : decode cL_clock 135 = .ok (.iconst 1, 1) := by decide +kernel
theorem dL_clock_136 : decode cL_clock 136 = .ok (.iaload, 1) := by decide +kernel
theorem dL_clock_137 : decode cL_clock 137 = .ok (.if_icmp .lt 6, 3) := by decide +kernel
theorem dL_clock_140 : decode cL_clock 140 = .ok (.goto 123, 3) := by decide +kernel
theorem dL_clock_143 : decode cL_clock 143 = .ok (.iload 8, 2) := by decide +kernel
theorem dL_clock_145 : decode cL_clock 145 = .ok (.aload_n 3, 1) := by decide +kernel
theorem dL_clock_146 : decode cL_clock 146 = .ok (.iload 7, 2) := by decide +kernel
theorem dL_clock_148 : decode cL_clock 148 = .ok (.iconst 4, 1) := by decide +kernel
theorem dL_clock_149 : decode cL_clock 149 = .ok (.iadd, 1) := by decide +kernel
theorem dL_clock_150 : decode cL_clock 150 = .ok (.iaload, 1) := by decide +kernel
theorem dL_clock_151 : decode cL_clock 151 = .ok (.aload_n 3, 1) := by decide +kernel
theorem dL_clock_152 : decode cL_clock 152 = .ok (.iload 7, 2) := by decide +kernel
theorem dL_clock_154 : decode cL_clock 154 = .ok (.bipush 6, 2) := by decide +kernel
theorem dL_clock_156 : decode cL_clock 156 = .ok (.iadd, 1) := by decide +kernel
theorem dL_clock_157 : decode cL_clock 157 = .ok (.iaload, 1) := by decide +kernel
theorem dL_clock_158 : decode cL_clock 158 = .ok (.iadd, 1) := by decide +kernel
theorem dL_clock_159 : decode cL_clock 159 = .ok (.ifCond .le 20, 3) := by decide +kernel
theorem dL_clock_162 : decode cL_clock 162 = .ok (.aload_n 3, 1) := by decide +kernel
theorem dL_clock_163 : decode cL_clock 163 = .ok (.iload 7, 2) := by decide +kernel
theorem dL_clock_165 : decode cL_clock 165 = .ok (.iconst 4, 1) := by decide +kernel
theorem dL_clock_166 : decode cL_clock 166 = .ok (.iadd, 1) := by decide +kernel
theorem dL_clock_167 : decode cL_clock 167 = .ok (.iaload, 1) := by decide +kernel
theorem dL_clock_168 : decode cL_clock 168 = .ok (.aload_n 3, 1) := by decide +kernel
theorem dL_clock_169 : decode cL_clock 169 = .ok (.iload 7, 2) := by decide +kernel
theorem dL_clock_171 : decode cL_clock 171 = .ok (.bipush 6, 2) := by decide +kernel
theorem dL_clock_173 : decode cL_clock 173 = .ok (.iadd, 1) := by decide +kernel
theorem dL_clock_174 : decode cL_clock 174 = .ok (.iaload, 1) := by decide +kernel
theorem dL_clock_175 : decode cL_clock 175 = .ok (.iadd, 1) := by decide +kernel
theorem dL_clock_176 : decode cL_clock 176 = .ok (.goto 4, 3) := by decide +kernel
theorem dL_clock_179 : decode cL_clock 179 = .ok (.iconst 1, 1) := by decide +kernel
theorem dL_clock_180 : decode cL_clock 180 = .ok (.iadd, 1) := by decide +kernel
theorem dL_clock_181 : decode cL_clock 181 = .ok (.istore 9, 2) := by decide +kernel
theorem dL_clock_183 : decode cL_clock 183 = .ok (.aload 4, 2) := by decide +kernel
theorem dL_clock_185 : decode cL_clock 185 = .ok (.iconst 4, 1) := by decide +kernel
theorem dL_clock_186 : decode cL_clock 186 = .ok (.iload 6, 2) := by decide +kernel
theorem dL_clock_188 : decode cL_clock 188 = .ok (.imul, 1) := by decide +kernel
theorem dL_clock_189 : decode cL_clock 189 = .ok (.iload 8, 2) := by decide +kernel
theorem dL_clock_191 : decode cL_clock 191 = .ok (.iastore, 1) := by decide +kernel
theorem dL_clock_192 : decode cL_clock 192 = .ok (.aload 4, 2) := by decide +kernel
theorem dL_clock_194 : decode cL_clock 194 = .ok (.iconst 4, 1) := by decide +kernel
theorem dL_clock_195 : decode cL_clock 195 = .ok (.iload 6, 2) := by decide +kernel
theorem dL_clock_197 : decode cL_clock 197 = .ok (.imul, 1) := by decide +kernel
theorem dL_clock_198 : decode cL_clock 198 = .ok (.iconst 3, 1) := by decide +kernel
theorem dL_clock_199 : decode cL_clock 199 = .ok (.iadd, 1) := by decide +kernel
theorem dL_clock_200 : decode cL_clock 200 = .ok (.iload 8, 2) := by decide +kernel
theorem dL_clock_202 : decode cL_clock 202 = .ok (.aload_n 3, 1) := by decide +kernel
theorem dL_clock_203 : decode cL_clock 203 = .ok (.iload 7, 2) := by decide +kernel
theorem dL_clock_205 : decode cL_clock 205 = .ok (.iconst 3, 1) := by decide +kernel
theorem dL_clock_206 : decode cL_clock 206 = .ok (.iadd, 1) := by decide +kernel
theorem dL_clock_207 : decode cL_clock 207 = .ok (.iaload, 1) := by decide +kernel
theorem dL_clock_208 : decode cL_clock 208 = .ok (.if_icmp .le 7, 3) := by decide +kernel
theorem dL_clock_211 : decode cL_clock 211 = .ok (.iconst 1, 1) := by decide +kernel
theorem dL_clock_212 : decode cL_clock 212 = .ok (.goto 4, 3) := by decide +kernel
theorem dL_clock_215 : decode cL_clock 215 = .ok (.iconst 0, 1) := by decide +kernel
theorem dL_clock_216 : decode cL_clock 216 = .ok (.iload 9, 2) := by decide +kernel
theorem dL_clock_218 : decode cL_clock 218 = .ok (.aload_n 1, 1) := by decide +kernel
theorem dL_clock_219 : decode cL_clock 219 = .ok (.iconst 1, 1) := by decide +kernel
theorem dL_clock_220 : decode cL_clock 220 = .ok (.iaload, 1) := by decide +kernel
theorem dL_clock_221 : decode cL_clock 221 = .ok (.if_icmp .le 7, 3) := by decide +kernel
theorem dL_clock_224 : decode cL_clock 224 = .ok (.iconst 4, 1) := by decide +kernel
theorem dL_clock_225 : decode cL_clock 225 = .ok (.goto 4, 3) := by decide +kernel
theorem dL_clock_228 : decode cL_clock 228 = .ok (.iconst 0, 1) := by decide +kernel
theorem dL_clock_229 : decode cL_clock 229 = .ok (.iadd, 1) := by decide +kernel
theorem dL_clock_230 : decode cL_clock 230 = .ok (.iastore, 1) := by decide +kernel
theorem dL_clock_231 : decode cL_clock 231 = .ok (.iload 9, 2) := by decide +kernel
theorem dL_clock_233 : decode cL_clock 233 = .ok (.aload_n 1, 1) := by decide +kernel
theorem dL_clock_234 : decode cL_clock 234 = .ok (.iconst 1, 1) := by decide +kernel
theorem dL_clock_235 : decode cL_clock 235 = .ok (.iaload, 1) := by decide +kernel
theorem dL_clock_236 : decode cL_clock 236 = .ok (.if_icmp .le 9, 3) := by decide +kernel
theorem dL_clock_239 : decode cL_clock 239 = .ok (.aload_n 1, 1) := by decide +kernel
theorem dL_clock_240 : decode cL_clock 240 = .ok (.iconst 1, 1) := by decide +kernel
theorem dL_clock_241 : decode cL_clock 241 = .ok (.iaload, 1) := by decide +kernel
theorem dL_clock_242 : decode cL_clock 242 = .ok (.goto 5, 3) := by decide +kernel
theorem dL_clock_245 : decode cL_clock 245 = .ok (.iload 9, 2) := by decide +kernel
theorem dL_clock_247 : decode cL_clock 247 = .ok (.istore 5, 2) := by decide +kernel
theorem dL_clock_249 : decode cL_clock 249 = .ok (.aload 4, 2) := by decide +kernel
theorem dL_clock_251 : decode cL_clock 251 = .ok (.iconst 4, 1) := by decide +kernel
theorem dL_clock_252 : decode cL_clock 252 = .ok (.iload 6, 2) := by decide +kernel
theorem dL_clock_254 : decode cL_clock 254 = .ok (.imul, 1) := by decide +kernel
theorem dL_clock_255 : decode cL_clock 255 = .ok (.iconst 1, 1) := by decide +kernel
theorem dL_clock_256 : decode cL_clock 256 = .ok (.iadd, 1) := by decide +kernel
theorem dL_clock_257 : decode cL_clock 257 = .ok (.iload 5, 2) := by decide +kernel
theorem dL_clock_259 : decode cL_clock 259 = .ok (.iload 8, 2) := by decide +kernel
theorem dL_clock_261 : decode cL_clock 261 = .ok (.isub, 1) := by decide +kernel
theorem dL_clock_262 : decode cL_clock 262 = .ok (.iastore, 1) := by decide +kernel
theorem dL_clock_263 : decode cL_clock 263 = .ok (.iinc 6 1, 3) := by decide +kernel
theorem dL_clock_266 : decode cL_clock 266 = .ok (.goto (-258), 3) := by decide +kernel
theorem dL_clock_269 : decode cL_clock 269 = .ok (.iload 5, 2) := by decide +kernel
theorem dL_clock_271 : decode cL_clock 271 = .ok (.ireturn, 1) := by decide +kernel
theorem dL_aired_0 : decode cL_aired 0 = .ok (.iconst 0, 1) := by decide +kernel
theorem dL_aired_1 : decode cL_aired 1 = .ok (.istore 5, 2) := by decide +kernel
theorem dL_aired_3 : decode cL_aired 3 = .ok (.iconst 0, 1) := by decide +kernel
theorem dL_aired_4 : decode cL_aired 4 = .ok (.istore 6, 2) := by decide +kernel
theorem dL_aired_6 : decode cL_aired 6 = .ok (.iload 6, 2) := by decide +kernel
theorem dL_aired_8 : decode cL_aired 8 = .ok (.aload_n 2, 1) := by decide +kernel
theorem dL_aired_9 : decode cL_aired 9 = .ok (.iconst 1, 1) := by decide +kernel
theorem dL_aired_10 : decode cL_aired 10 = .ok (.iaload, 1) := by decide +kernel
theorem dL_aired_11 : decode cL_aired 11 = .ok (.if_icmp .ge 86, 3) := by decide +kernel
theorem dL_aired_14 : decode cL_aired 14 = .ok (.iconst 0, 1) := by decide +kernel
theorem dL_aired_15 : decode cL_aired 15 = .ok (.istore 7, 2) := by decide +kernel
theorem dL_aired_17 : decode cL_aired 17 = .ok (.iload 7, 2) := by decide +kernel
theorem dL_aired_19 : decode cL_aired 19 = .ok (.aload_n 3, 1) := by decide +kernel
theorem dL_aired_20 : decode cL_aired 20 = .ok (.bipush 9, 2) := by decide +kernel
theorem dL_aired_22 : decode cL_aired 22 = .ok (.iload 6, 2) := by decide +kernel
theorem dL_aired_24 : decode cL_aired 24 = .ok (.imul, 1) := by decide +kernel
theorem dL_aired_25 : decode cL_aired 25 = .ok (.iconst 5, 1) := by decide +kernel
theorem dL_aired_26 : decode cL_aired 26 = .ok (.iadd, 1) := by decide +kernel
theorem dL_aired_27 : decode cL_aired 27 = .ok (.iaload, 1) := by decide +kernel
theorem dL_aired_28 : decode cL_aired 28 = .ok (.if_icmp .ge 63, 3) := by decide +kernel
theorem dL_aired_31 : decode cL_aired 31 = .ok (.iload 7, 2) := by decide +kernel
theorem dL_aired_33 : decode cL_aired 33 = .ok (.aload 4, 2) := by decide +kernel
theorem dL_aired_35 : decode cL_aired 35 = .ok (.iconst 4, 1) := by decide +kernel
theorem dL_aired_36 : decode cL_aired 36 = .ok (.iload 6, 2) := by decide +kernel
theorem dL_aired_38 : decode cL_aired 38 = .ok (.imul, 1) := by decide +kernel
theorem dL_aired_39 : decode cL_aired 39 = .ok (.iconst 1, 1) := by decide +kernel
theorem dL_aired_40 : decode cL_aired 40 = .ok (.iadd, 1) := by decide +kernel
theorem dL_aired_41 : decode cL_aired 41 = .ok (.iaload, 1) := by decide +kernel
theorem dL_aired_42 : decode cL_aired 42 = .ok (.if_icmp .ge 49, 3) := by decide +kernel
theorem dL_aired_45 : decode cL_aired 45 = .ok (.iload 5, 2) := by decide +kernel
theorem dL_aired_47 : decode cL_aired 47 = .ok (.aload_n 3, 1) := by decide +kernel
theorem dL_aired_48 : decode cL_aired 48 = .ok (.bipush 9, 2) := by decide +kernel
theorem dL_aired_50 : decode cL_aired 50 = .ok (.iload 6, 2) := by decide +kernel
theorem dL_aired_52 : decode cL_aired 52 = .ok (.imul, 1) := by decide +kernel
theorem dL_aired_53 : decode cL_aired 53 = .ok (.iconst 2, 1) := by decide +kernel
theorem dL_aired_54 : decode cL_aired 54 = .ok (.iadd, 1) := by decide +kernel
theorem dL_aired_55 : decode cL_aired 55 = .ok (.iaload, 1) := by decide +kernel
theorem dL_aired_56 : decode cL_aired 56 = .ok (.iload_n 0, 1) := by decide +kernel
theorem dL_aired_57 : decode cL_aired 57 = .ok (.if_icmp .ne 24, 3) := by decide +kernel
theorem dL_aired_60 : decode cL_aired 60 = .ok (.aload 4, 2) := by decide +kernel
theorem dL_aired_62 : decode cL_aired 62 = .ok (.iconst 4, 1) := by decide +kernel
theorem dL_aired_63 : decode cL_aired 63 = .ok (.iload 6, 2) := by decide +kernel
theorem dL_aired_65 : decode cL_aired 65 = .ok (.imul, 1) := by decide +kernel
theorem dL_aired_66 : decode cL_aired 66 = .ok (.iaload, 1) := by decide +kernel
theorem dL_aired_67 : decode cL_aired 67 = .ok (.iload 7, 2) := by decide +kernel
theorem dL_aired_69 : decode cL_aired 69 = .ok (.iadd, 1) := by decide +kernel
theorem dL_aired_70 : decode cL_aired 70 = .ok (.bipush 60, 2) := by decide +kernel
theorem dL_aired_72 : decode cL_aired 72 = .ok (.idiv, 1) := by decide +kernel
theorem dL_aired_73 : decode cL_aired 73 = .ok (.iload_n 1, 1) := by decide +kernel
theorem dL_aired_74 : decode cL_aired 74 = .ok (.if_icmp .ne 7, 3) := by decide +kernel
theorem dL_aired_77 : decode cL_aired 77 = .ok (.iconst 1, 1) := by decide +kernel
theorem dL_aired_78 : decode cL_aired 78 = .ok (.goto 4, 3) := by decide +kernel
theorem dL_aired_81 : decode cL_aired 81 = .ok (.iconst 0, 1) := by decide +kernel
theorem dL_aired_82 : decode cL_aired 82 = .ok (.iadd, 1) := by decide +kernel
theorem dL_aired_83 : decode cL_aired 83 = .ok (.istore 5, 2) := by decide +kernel
theorem dL_aired_85 : decode cL_aired 85 = .ok (.iinc 7 1, 3) := by decide +kernel
theorem dL_aired_88 : decode cL_aired 88 = .ok (.goto (-71), 3) := by decide +kernel
theorem dL_aired_91 : decode cL_aired 91 = .ok (.iinc 6 1, 3) := by decide +kernel
theorem dL_aired_94 : decode cL_aired 94 = .ok (.goto (-88), 3) := by decide +kernel
theorem dL_aired_97 : decode cL_aired 97 = .ok (.iload 5, 2) := by decide +kernel
theorem dL_aired_99 : decode cL_aired 99 = .ok (.ireturn, 1) := by decide +kernel
theorem dL_dayPart_0 : decode cL_dayPart 0 = .ok (.bipush 28, 2) := by decide +kernel
theorem dL_dayPart_2 : decode cL_dayPart 2 = .ok (.newarray .int, 2) := by decide +kernel
theorem dL_dayPart_4 : decode cL_dayPart 4 = .ok (.astore 5, 2) := by decide +kernel
theorem dL_dayPart_6 : decode cL_dayPart 6 = .ok (.iload_n 0, 1) := by decide +kernel
theorem dL_dayPart_7 : decode cL_dayPart 7 = .ok (.aload_n 2, 1) := by decide +kernel
theorem dL_dayPart_8 : decode cL_dayPart 8 = .ok (.aload_n 3, 1) := by decide +kernel
theorem dL_dayPart_9 : decode cL_dayPart 9 = .ok (.aload 4, 2) := by decide +kernel
theorem dL_dayPart_11 : decode cL_dayPart 11 = .ok (.aload 5, 2) := by decide +kernel
theorem dL_dayPart_13 : decode cL_dayPart 13 = .ok (.invokestatic 30, 3) := by decide +kernel
theorem dL_dayPart_16 : decode cL_dayPart 16 = .ok (.istore 6, 2) := by decide +kernel
theorem dL_dayPart_18 : decode cL_dayPart 18 = .ok (.iconst 0, 1) := by decide +kernel
theorem dL_dayPart_19 : decode cL_dayPart 19 = .ok (.istore 7, 2) := by decide +kernel
theorem dL_dayPart_21 : decode cL_dayPart 21 = .ok (.iconst 0, 1) := by decide +kernel
theorem dL_dayPart_22 : decode cL_dayPart 22 = .ok (.istore 8, 2) := by decide +kernel
theorem dL_dayPart_24 : decode cL_dayPart 24 = .ok (.iload 8, 2) := by decide +kernel
theorem dL_dayPart_26 : decode cL_dayPart 26 = .ok (.aload_n 3, 1) := by decide +kernel
theorem dL_dayPart_27 : decode cL_dayPart 27 = .ok (.iconst 1, 1) := by decide +kernel
theorem dL_dayPart_28 : decode cL_dayPart 28 = .ok (.iaload, 1) := by decide +kernel
theorem dL_dayPart_29 : decode cL_dayPart 29 = .ok (.if_icmp .ge 165, 3) := by decide +kernel
theorem dL_dayPart_32 : decode cL_dayPart 32 = .ok (.aload 4, 2) := by decide +kernel
theorem dL_dayPart_34 : decode cL_dayPart 34 = .ok (.bipush 9, 2) := by decide +kernel
theorem dL_dayPart_36 : decode cL_dayPart 36 = .ok (.iload 8, 2) := by decide +kernel
theorem dL_dayPart_38 : decode cL_dayPart 38 = .ok (.imul, 1) := by decide +kernel
theorem dL_dayPart_39 : decode cL_dayPart 39 = .ok (.iconst 2, 1) := by decide +kernel
theorem dL_dayPart_40 : decode cL_dayPart 40 = .ok (.iadd, 1) := by decide +kernel
theorem dL_dayPart_41 : decode cL_dayPart 41 = .ok (.iaload, 1) := by decide +kernel
theorem dL_dayPart_42 : decode cL_dayPart 42 = .ok (.iload_n 0, 1) := by decide +kernel
theorem dL_dayPart_43 : decode cL_dayPart 43 = .ok (.if_icmp .eq 6, 3) := by decide +kernel
theorem dL_dayPart_46 : decode cL_dayPart 46 = .ok (.goto 142, 3) := by decide +kernel
theorem dL_dayPart_49 : decode cL_dayPart 49 = .ok (.aload 5, 2) := by decide +kernel
theorem dL_dayPart_51 : decode cL_dayPart 51 = .ok (.iconst 4, 1) := by decide +kernel
theorem dL_dayPart_52 : decode cL_dayPart 52 = .ok (.iload 8, 2) := by decide +kernel
theorem dL_dayPart_54 : decode cL_dayPart 54 = .ok (.imul, 1) := by decide +kernel
theorem dL_dayPart_55 : decode cL_dayPart 55 = .ok (.iconst 3, 1) := by decide +kernel
theorem dL_dayPart_56 : decode cL_dayPart 56 = .ok (.iadd, 1) := by decide +kernel
theorem dL_dayPart_57 : decode cL_dayPart 57 = .ok (.iaload, 1) := by decide +kernel
theorem dL_dayPart_58 : decode cL_dayPart 58 = .ok (.iconst 2, 1) := by decide +kernel
theorem dL_dayPart_59 : decode cL_dayPart 59 = .ok (.if_icmp .eq 7, 3) := by decide +kernel
theorem dL_dayPart_62 : decode cL_dayPart 62 = .ok (.iconst 1, 1) := by decide +kernel
theorem dL_dayPart_63 : decode cL_dayPart 63 = .ok (.goto 4, 3) := by decide +kernel
theorem dL_dayPart_66 : decode cL_dayPart 66 = .ok (.iconst 0, 1) := by decide +kernel
theorem dL_dayPart_67 : decode cL_dayPart 67 = .ok (.istore 9, 2) := by decide +kernel
theorem dL_dayPart_69 : decode cL_dayPart 69 = .ok (.iload 7, 2) := by decide +kernel
theorem dL_dayPart_71 : decode cL_dayPart 71 = .ok (.iload_n 1, 1) := by decide +kernel
theorem dL_dayPart_72 : decode cL_dayPart 72 = .ok (.ifCond .ne 7, 3) := by decide +kernel
theorem dL_dayPart_75 : decode cL_dayPart 75 = .ok (.iconst 1, 1) := by decide +kernel
theorem dL_dayPart_76 : decode cL_dayPart 76 = .ok (.goto 109, 3) := by decide +kernel
theorem dL_dayPart_79 : decode cL_dayPart 79 = .ok (.iload_n 1, 1) := by decide +kernel
theorem dL_dayPart_80 : decode cL_dayPart 80 = .ok (.iconst 1, 1) := by decide +kernel
theorem dL_dayPart_81 : decode cL_dayPart 81 = .ok (.if_icmp .ne 16, 3) := by decide +kernel
theorem dL_dayPart_84 : decode cL_dayPart 84 = .ok (.aload 4, 2) := by decide +kernel
theorem dL_dayPart_86 : decode cL_dayPart 86 = .ok (.bipush 9, 2) := by decide +kernel
theorem dL_dayPart_88 : decode cL_dayPart 88 = .ok (.iload 8, 2) := by decide +kernel
theorem dL_dayPart_90 : decode cL_dayPart 90 = .ok (.imul, 1) := by decide +kernel
theorem dL_dayPart_91 : decode cL_dayPart 91 = .ok (.iconst 4, 1) := by decide +kernel
theorem dL_dayPart_92 : decode cL_dayPart 92 = .ok (.iadd, 1) := by decide +kernel
theorem dL_dayPart_93 : decode cL_dayPart 93 = .ok (.iaload, 1) := by decide +kernel
theorem dL_dayPart_94 : decode cL_dayPart 94 = .ok (.goto 91, 3) := by decide +kernel
theorem dL_dayPart_97 : decode cL_dayPart 97 = .ok (.iload_n 1, 1) := by decide +kernel
theorem dL_dayPart_98 : decode cL_dayPart 98 = .ok (.iconst 2, 1) := by decide +kernel
theorem dL_dayPart_99 : decode cL_dayPart 99 = .ok (.if_icmp .ne 15, 3) := by decide +kernel
theorem dL_dayPart_102 : decode cL_dayPart 102 = .ok (.aload 5, 2) := by decide +kernel
theorem dL_dayPart_104 : decode cL_dayPart 104 = .ok (.iconst 4, 1) := by decide +kernel
theorem dL_dayPart_105 : decode cL_dayPart 105 = .ok (.iload 8, 2) := by decide +kernel
theorem dL_dayPart_107 : decode cL_dayPart 107 = .ok (.imul, 1) := by decide +kernel
theorem dL_dayPart_108 : decode cL_dayPart 108 = .ok (.iconst 1, 1) := by decide +kernel
theorem dL_dayPart_109 : decode cL_dayPart 109 = .ok (.iadd, 1) := by decide +kernel
theorem dL_dayPart_110 : decode cL_dayPart 110 = .ok (.iaload, 1) := by decide +kernel
theorem dL_dayPart_111 : decode cL_dayPart 111 = .ok (.goto 74, 3) := by decide +kernel
theorem dL_dayPart_114 : decode cL_dayPart 114 = .ok (.iload_n 1, 1) := by decide +kernel
theorem dL_dayPart_115 : decode cL_dayPart 115 = .ok (.iconst 3, 1) := by decide +kernel
theorem dL_dayPart_116 : decode cL_dayPart 116 = .ok (.if_icmp .ne 28, 3) := by decide +kernel
theorem dL_dayPart_119 : decode cL_dayPart 119 = .ok (.iload 9, 2) := by decide +kernel
theorem dL_dayPart_121 : decode cL_dayPart 121 = .ok (.ifCond .eq 19, 3) := by decide +kernel
theorem dL_dayPart_124 : decode cL_dayPart 124 = .ok (.aload 5, 2) := by decide +kernel
theorem dL_dayPart_126 : decode cL_dayPart 126 = .ok (.iconst 4, 1) := by decide +kernel
theorem dL_dayPart_127 : decode cL_dayPart 127 = .ok (.iload 8, 2) := by decide +kernel
theorem dL_dayPart_129 : decode cL_dayPart 129 = .ok (.imul, 1) := by decide +kernel
theorem dL_dayPart_130 : decode cL_dayPart 130 = .ok (.iconst 2, 1) := by decide +kernel
theorem dL_dayPart_131 : decode cL_dayPart 131 = .ok (.iadd, 1) := by decide +kernel
theorem dL_dayPart_132 : decode cL_dayPart 132 = .ok (.iaload, 1) := by decide +kernel
theorem dL_dayPart_133 : decode cL_dayPart 133 = .ok (.ifCond .le 7, 3) := by decide +kernel
theorem dL_dayPart_136 : decode cL_dayPart 136 = .ok (.iconst 1, 1) := by decide +kernel
theorem dL_dayPart_137 : decode cL_dayPart 137 = .ok (.goto 48, 3) := by decide +kernel
theorem dL_dayPart_140 : decode cL_dayPart 140 = .ok (.iconst 0, 1) := by decide +kernel
theorem dL_dayPart_141 : decode cL_dayPart 141 = .ok (.goto 44, 3) := by decide +kernel
theorem dL_dayPart_144 : decode cL_dayPart 144 = .ok (.iload_n 1, 1) := by decide +kernel
theorem dL_dayPart_145 : decode cL_dayPart 145 = .ok (.iconst 4, 1) := by decide +kernel
theorem dL_dayPart_146 : decode cL_dayPart 146 = .ok (.if_icmp .ne 16, 3) := by decide +kernel
theorem dL_dayPart_149 : decode cL_dayPart 149 = .ok (.iload 9, 2) := by decide +kernel
theorem dL_dayPart_151 : decode cL_dayPart 151 = .ok (.ifCond .eq 7, 3) := by decide +kernel
theorem dL_dayPart_154 : decode cL_dayPart 154 = .ok (.iconst 0, 1) := by decide +kernel
theorem dL_dayPart_155 : decode cL_dayPart 155 = .ok (.goto 30, 3) := by decide +kernel
theorem dL_dayPart_158 : decode cL_dayPart 158 = .ok (.iconst 1, 1) := by decide +kernel
theorem dL_dayPart_159 : decode cL_dayPart 159 = .ok (.goto 26, 3) := by decide +kernel
theorem dL_dayPart_162 : decode cL_dayPart 162 = .ok (.iload_n 1, 1) := by decide +kernel
theorem dL_dayPart_163 : decode cL_dayPart 163 = .ok (.iconst 5, 1) := by decide +kernel
theorem dL_dayPart_164 : decode cL_dayPart 164 = .ok (.if_icmp .ne 20, 3) := by decide +kernel
theorem dL_dayPart_167 : decode cL_dayPart 167 = .ok (.iload 9, 2) := by decide +kernel
theorem dL_dayPart_169 : decode cL_dayPart 169 = .ok (.ifCond .eq 15, 3) := by decide +kernel
theorem dL_dayPart_172 : decode cL_dayPart 172 = .ok (.aload 5, 2) := by decide +kernel
theorem dL_dayPart_174 : decode cL_dayPart 174 = .ok (.iconst 4, 1) := by decide +kernel
theorem dL_dayPart_175 : decode cL_dayPart 175 = .ok (.iload 8, 2) := by decide +kernel
theorem dL_dayPart_177 : decode cL_dayPart 177 = .ok (.imul, 1) := by decide +kernel
theorem dL_dayPart_178 : decode cL_dayPart 178 = .ok (.iconst 2, 1) := by decide +kernel
theorem dL_dayPart_179 : decode cL_dayPart 179 = .ok (.iadd, 1) := by decide +kernel
theorem dL_dayPart_180 : decode cL_dayPart 180 = .ok (.iaload, 1) := by decide +kernel
theorem dL_dayPart_181 : decode cL_dayPart 181 = .ok (.goto 4, 3) := by decide +kernel
theorem dL_dayPart_184 : decode cL_dayPart 184 = .ok (.iconst 0, 1) := by decide +kernel
theorem dL_dayPart_185 : decode cL_dayPart 185 = .ok (.iadd, 1) := by decide +kernel
theorem dL_dayPart_186 : decode cL_dayPart 186 = .ok (.istore 7, 2) := by decide +kernel
theorem dL_dayPart_188 : decode cL_dayPart 188 = .ok (.iinc 8 1, 3) := by decide +kernel
theorem dL_dayPart_191 : decode cL_dayPart 191 = .ok (.goto (-167), 3) := by decide +kernel
theorem dL_dayPart_194 : decode cL_dayPart 194 = .ok (.iconst 0, 1) := by decide +kernel
theorem dL_dayPart_195 : decode cL_dayPart 195 = .ok (.istore 8, 2) := by decide +kernel
theorem dL_dayPart_197 : decode cL_dayPart 197 = .ok (.iload 8, 2) := by decide +kernel
theorem dL_dayPart_199 : decode cL_dayPart 199 = .ok (.bipush 24, 2) := by decide +kernel
theorem dL_dayPart_201 : decode cL_dayPart 201 = .ok (.if_icmp .ge 43, 3) := by decide +kernel
theorem dL_dayPart_204 : decode cL_dayPart 204 = .ok (.iload_n 1, 1) := by decide +kernel
theorem dL_dayPart_205 : decode cL_dayPart 205 = .ok (.bipush 7, 2) := by decide +kernel
theorem dL_dayPart_207 : decode cL_dayPart 207 = .ok (.if_icmp .ne 37, 3) := by decide +kernel
theorem dL_dayPart_210 : decode cL_dayPart 210 = .ok (.iload 7, 2) := by decide +kernel
theorem dL_dayPart_212 : decode cL_dayPart 212 = .ok (.iload_n 0, 1) := by decide +kernel
theorem dL_dayPart_213 : decode cL_dayPart 213 = .ok (.iload 8, 2) := by decide +kernel
theorem dL_dayPart_215 : decode cL_dayPart 215 = .ok (.aload_n 3, 1) := by decide +kernel
theorem dL_dayPart_216 : decode cL_dayPart 216 = .ok (.aload 4, 2) := by decide +kernel
theorem dL_dayPart_218 : decode cL_dayPart 218 = .ok (.aload 5, 2) := by decide +kernel
theorem dL_dayPart_220 : decode cL_dayPart 220 = .ok (.invokestatic 34, 3) := by decide +kernel
theorem dL_dayPart_223 : decode cL_dayPart 223 = .ok (.aload_n 2, 1) := by decide +kernel
theorem dL_dayPart_224 : decode cL_dayPart 224 = .ok (.bipush 6, 2) := by decide +kernel
theorem dL_dayPart_226 : decode cL_dayPart 226 = .ok (.iaload, 1) := by decide +kernel
theorem dL_dayPart_227 : decode cL_dayPart 227 = .ok (.if_icmp .le 7, 3) := by decide +kernel
theorem dL_dayPart_230 : decode cL_dayPart 230 = .ok (.iconst 1, 1) := by decide +kernel
theorem dL_dayPart_231 : decode cL_dayPart 231 = .ok (.goto 4, 3) := by decide +kernel
theorem dL_dayPart_234 : decode cL_dayPart 234 = .ok (.iconst 0, 1) := by decide +kernel
theorem dL_dayPart_235 : decode cL_dayPart 235 = .ok (.iadd, 1) := by decide +kernel
theorem dL_dayPart_236 : decode cL_dayPart 236 = .ok (.istore 7, 2) := by decide +kernel
theorem dL_dayPart_238 : decode cL_dayPart 238 = .ok (.iinc 8 1, 3) := by decide +kernel
theorem dL_dayPart_241 : decode cL_dayPart 241 = .ok (.goto (-44), 3) := by decide +kernel
theorem dL_dayPart_244 : decode cL_dayPart 244 = .ok (.iload_n 1, 1) := by decide +kernel
theorem dL_dayPart_245 : decode cL_dayPart 245 = .ok (.bipush 6, 2) := by decide +kernel
theorem dL_dayPart_247 : decode cL_dayPart 247 = .ok (.if_icmp .ne 8, 3) := by decide +kernel
theorem dL_dayPart_250 : decode cL_dayPart 250 = .ok (.iload 6, 2) := by decide +kernel
theorem dL_dayPart_252 : decode cL_dayPart 252 = .ok (.goto 5, 3) := by decide +kernel
theorem dL_dayPart_255 : decode cL_dayPart 255 = .ok (.iload 7, 2) := by decide +kernel
theorem dL_dayPart_257 : decode cL_dayPart 257 = .ok (.ireturn, 1) := by decide +kernel
theorem dL_told_0 : decode cL_told 0 = .ok (.bipush 28, 2) := by decide +kernel
theorem dL_told_2 : decode cL_told 2 = .ok (.newarray .int, 2) := by decide +kernel
theorem dL_told_4 : decode cL_told 4 = .ok (.astore 6, 2) := by decide +kernel
theorem dL_told_6 : decode cL_told 6 = .ok (.bipush 8, 2) := by decide +kernel
theorem dL_told_8 : decode cL_told 8 = .ok (.newarray .int, 2) := by decide +kernel
theorem dL_told_10 : decode cL_told 10 = .ok (.astore 7, 2) := by decide +kernel
theorem dL_told_12 : decode cL_told 12 = .ok (.iconst 0, 1) := by decide +kernel
theorem dL_told_13 : decode cL_told 13 = .ok (.istore 8, 2) := by decide +kernel
theorem dL_told_15 : decode cL_told 15 = .ok (.iconst 0, 1) := by decide +kernel
theorem dL_told_16 : decode cL_told 16 = .ok (.istore 9, 2) := by decide +kernel
theorem dL_told_18 : decode cL_told 18 = .ok (.iconst 0, 1) := by decide +kernel
theorem dL_told_19 : decode cL_told 19 = .ok (.istore 10, 2) := by decide +kernel
theorem dL_told_21 : decode cL_told 21 = .ok (.iload 10, 2) := by decide +kernel
theorem dL_told_23 : decode cL_told 23 = .ok (.bipush 7, 2) := by decide +kernel
theorem dL_told_25 : decode cL_told 25 = .ok (.if_icmp .ge 138, 3) := by decide +kernel
theorem dL_told_28 : decode cL_told 28 = .ok (.iconst 0, 1) := by decide +kernel
theorem dL_told_29 : decode cL_told 29 = .ok (.istore 11, 2) := by decide +kernel
theorem dL_told_31 : decode cL_told 31 = .ok (.iload 11, 2) := by decide +kernel
theorem dL_told_33 : decode cL_told 33 = .ok (.bipush 8, 2) := by decide +kernel
theorem dL_told_35 : decode cL_told 35 = .ok (.if_icmp .ge 48, 3) := by decide +kernel
theorem dL_told_38 : decode cL_told 38 = .ok (.iload 10, 2) := by decide +kernel
theorem dL_told_40 : decode cL_told 40 = .ok (.iload 11, 2) := by decide +kernel
theorem dL_told_42 : decode cL_told 42 = .ok (.aload_n 2, 1) := by decide +kernel
theorem dL_told_43 : decode cL_told 43 = .ok (.aload 4, 2) := by decide +kernel
theorem dL_told_45 : decode cL_told 45 = .ok (.aload 5, 2) := by decide +kernel
theorem dL_told_47 : decode cL_told 47 = .ok (.invokestatic 38, 3) := by decide +kernel
theorem dL_told_50 : decode cL_told 50 = .ok (.istore 12, 2) := by decide +kernel
theorem dL_told_52 : decode cL_told 52 = .ok (.aload 7, 2) := by decide +kernel
theorem dL_told_54 : decode cL_told 54 = .ok (.iload 11, 2) := by decide +kernel
theorem dL_told_56 : decode cL_told 56 = .ok (.dup2, 1) := by decide +kernel
theorem dL_told_57 : decode cL_told 57 = .ok (.iaload, 1) := by decide +kernel
theorem dL_told_58 : decode cL_told 58 = .ok (.iload 12, 2) := by decide +kernel
theorem dL_told_60 : decode cL_told 60 = .ok (.iadd, 1) := by decide +kernel
theorem dL_told_61 : decode cL_told 61 = .ok (.iastore, 1) := by decide +kernel
theorem dL_told_62 : decode cL_told 62 = .ok (.aload_n 0, 1) := by decide +kernel
theorem dL_told_63 : decode cL_told 63 = .ok (.iload 10, 2) := by decide +kernel
theorem dL_told_65 : decode cL_told 65 = .ok (.iload 11, 2) := by decide +kernel
theorem dL_told_67 : decode cL_told 67 = .ok (.invokevirtual 41, 3) := by decide +kernel
theorem dL_told_70 : decode cL_told 70 = .ok (.iload 12, 2) := by decide +kernel
theorem dL_told_72 : decode cL_told 72 = .ok (.if_icmp .eq 5, 3) := by decide +kernel
theorem dL_told_75 : decode cL_told 75 = .ok (.iconst 0, 1) := by decide +kernel
theorem dL_told_76 : decode cL_told 76 = .ok (.ireturn, 1) := by decide +kernel
theorem dL_told_77 : decode cL_told 77 = .ok (.iinc 11 1, 3) := by decide +kernel
theorem dL_told_80 : decode cL_told 80 = .ok (.goto (-49), 3) := by decide +kernel
theorem dL_told_83 : decode cL_told 83 = .ok (.iload 10, 2) := by decide +kernel
theorem dL_told_85 : decode cL_told 85 = .ok (.aload_n 2, 1) := by decide +kernel
theorem dL_told_86 : decode cL_told 86 = .ok (.aload 4, 2) := by decide +kernel
theorem dL_told_88 : decode cL_told 88 = .ok (.aload 5, 2) := by decide +kernel
theorem dL_told_90 : decode cL_told 90 = .ok (.aload 6, 2) := by decide +kernel
theorem dL_told_92 : decode cL_told 92 = .ok (.invokestatic 30, 3) := by decide +kernel
theorem dL_told_95 : decode cL_told 95 = .ok (.pop, 1) := by decide +kernel
theorem dL_told_96 : decode cL_told 96 = .ok (.iload_n 1, 1) := by decide +kernel
theorem dL_told_97 : decode cL_told 97 = .ok (.iload 10, 2) := by decide +kernel
theorem dL_told_99 : decode cL_told 99 = .ok (.ishr, 1) := by decide +kernel
theorem dL_told_100 : decode cL_told 100 = .ok (.bipush 24, 2) := by decide +kernel
theorem dL_told_102 : decode cL_told 102 = .ok (.invokestatic 47, 3) := by decide +kernel
theorem dL_told_105 : decode cL_told 105 = .ok (.istore 11, 2) := by decide +kernel
theorem dL_told_107 : decode cL_told 107 = .ok (.aload_n 0, 1) := by decide +kernel
theorem dL_told_108 : decode cL_told 108 = .ok (.iload 10, 2) := by decide +kernel
theorem dL_told_110 : decode cL_told 110 = .ok (.iload 11, 2) := by decide +kernel
theorem dL_told_112 : decode cL_told 112 = .ok (.iconst 0, 1) := by decide +kernel
theorem dL_told_113 : decode cL_told 113 = .ok (.invokevirtual 50, 3) := by decide +kernel
theorem dL_told_116 : decode cL_told 116 = .ok (.iload 10, 2) := by decide +kernel
theorem dL_told_118 : decode cL_told 118 = .ok (.iload 11, 2) := by decide +kernel
theorem dL_told_120 : decode cL_told 120 = .ok (.aload 4, 2) := by decide +kernel
theorem dL_told_122 : decode cL_told 122 = .ok (.aload 5, 2) := by decide +kernel
theorem dL_told_124 : decode cL_told 124 = .ok (.invokestatic 26, 3) := by decide +kernel
theorem dL_told_127 : decode cL_told 127 = .ok (.if_icmp .ne 28, 3) := by decide +kernel
theorem dL_told_130 : decode cL_told 130 = .ok (.aload_n 0, 1) := by decide +kernel
theorem dL_told_131 : decode cL_told 131 = .ok (.iload 10, 2) := by decide +kernel
theorem dL_told_133 : decode cL_told 133 = .ok (.iload 11, 2) := by decide +kernel
theorem dL_told_135 : decode cL_told 135 = .ok (.iconst 1, 1) := by decide +kernel
theorem dL_told_136 : decode cL_told 136 = .ok (.invokevirtual 50, 3) := by decide +kernel
theorem dL_told_139 : decode cL_told 139 = .ok (.iload 10, 2) := by decide +kernel
theorem dL_told_141 : decode cL_told 141 = .ok (.iload 11, 2) := by decide +kernel
theorem dL_told_143 : decode cL_told 143 = .ok (.aload 4, 2) := by decide +kernel
theorem dL_told_145 : decode cL_told 145 = .ok (.aload 5, 2) := by decide +kernel
theorem dL_told_147 : decode cL_told 147 = .ok (.aload 6, 2) := by decide +kernel
theorem dL_told_149 : decode cL_told 149 = .ok (.invokestatic 34, 3) := by decide +kernel
theorem dL_told_152 : decode cL_told 152 = .ok (.if_icmp .eq 5, 3) := by decide +kernel
theorem dL_told_155 : decode cL_told 155 = .ok (.iconst 0, 1) := by decide +kernel
theorem dL_told_156 : decode cL_told 156 = .ok (.ireturn, 1) := by decide +kernel
theorem dL_told_157 : decode cL_told 157 = .ok (.iinc 10 1, 3) := by decide +kernel
theorem dL_told_160 : decode cL_told 160 = .ok (.goto (-139), 3) := by decide +kernel
theorem dL_told_163 : decode cL_told 163 = .ok (.iconst 0, 1) := by decide +kernel
theorem dL_told_164 : decode cL_told 164 = .ok (.istore 10, 2) := by decide +kernel
theorem dL_told_166 : decode cL_told 166 = .ok (.iload 10, 2) := by decide +kernel
theorem dL_told_168 : decode cL_told 168 = .ok (.aload 4, 2) := by decide +kernel
theorem dL_told_170 : decode cL_told 170 = .ok (.iconst 1, 1) := by decide +kernel
theorem dL_told_171 : decode cL_told 171 = .ok (.iaload, 1) := by decide +kernel
theorem dL_told_172 : decode cL_told 172 = .ok (.if_icmp .ge 172, 3) := by decide +kernel
theorem dL_told_175 : decode cL_told 175 = .ok (.bipush 9, 2) := by decide +kernel
theorem dL_told_177 : decode cL_told 177 = .ok (.iload 10, 2) := by decide +kernel
theorem dL_told_179 : decode cL_told 179 = .ok (.imul, 1) := by decide +kernel
theorem dL_told_180 : decode cL_told 180 = .ok (.istore 11, 2) := by decide +kernel
theorem dL_told_182 : decode cL_told 182 = .ok (.iload 8, 2) := by decide +kernel
theorem dL_told_184 : decode cL_told 184 = .ok (.aload 5, 2) := by decide +kernel
theorem dL_told_186 : decode cL_told 186 = .ok (.iload 11, 2) := by decide +kernel
theorem dL_told_188 : decode cL_told 188 = .ok (.iaload, 1) := by decide +kernel
theorem dL_told_189 : decode cL_told 189 = .ok (.ifCond .ne 7, 3) := by decide +kernel
theorem dL_told_192 : decode cL_told 192 = .ok (.iconst 1, 1) := by decide +kernel
theorem dL_told_193 : decode cL_told 193 = .ok (.goto 4, 3) := by decide +kernel
theorem dL_told_196 : decode cL_told 196 = .ok (.iconst 0, 1) := by decide +kernel
theorem dL_told_197 : decode cL_told 197 = .ok (.iadd, 1) := by decide +kernel
theorem dL_told_198 : decode cL_told 198 = .ok (.istore 8, 2) := by decide +kernel
theorem dL_told_200 : decode cL_told 200 = .ok (.iload 9, 2) := by decide +kernel
theorem dL_told_202 : decode cL_told 202 = .ok (.aload 5, 2) := by decide +kernel
theorem dL_told_204 : decode cL_told 204 = .ok (.iload 11, 2) := by decide +kernel
theorem dL_told_206 : decode cL_told 206 = .ok (.iaload, 1) := by decide +kernel
theorem dL_told_207 : decode cL_told 207 = .ok (.iconst 2, 1) := by decide +kernel
theorem dL_told_208 : decode cL_told 208 = .ok (.if_icmp .ne 7, 3) := by decide +kernel
theorem dL_told_211 : decode cL_told 211 = .ok (.iconst 1, 1) := by decide +kernel
theorem dL_told_212 : decode cL_told 212 = .ok (.goto 4, 3) := by decide +kernel
theorem dL_told_215 : decode cL_told 215 = .ok (.iconst 0, 1) := by decide +kernel
theorem dL_told_216 : decode cL_told 216 = .ok (.iadd, 1) := by decide +kernel
theorem dL_told_217 : decode cL_told 217 = .ok (.istore 9, 2) := by decide +kernel
theorem dL_told_219 : decode cL_told 219 = .ok (.iconst 0, 1) := by decide +kernel
theorem dL_told_220 : decode cL_told 220 = .ok (.istore 12, 2) := by decide +kernel
theorem dL_told_222 : decode cL_told 222 = .ok (.iload 12, 2) := by decide +kernel
theorem dL_told_224 : decode cL_told 224 = .ok (.bipush 7, 2) := by decide +kernel
theorem dL_told_226 : decode cL_told 226 = .ok (.if_icmp .ge 30, 3) := by decide +kernel
theorem dL_told_229 : decode cL_told 229 = .ok (.aload_n 0, 1) := by decide +kernel
theorem dL_told_230 : decode cL_told 230 = .ok (.iload 10, 2) := by decide +kernel
theorem dL_told_232 : decode cL_told 232 = .ok (.iload 12, 2) := by decide +kernel
theorem dL_told_234 : decode cL_told 234 = .ok (.invokevirtual 54, 3) := by decide +kernel
theorem dL_told_237 : decode cL_told 237 = .ok (.aload 5, 2) := by decide +kernel
theorem dL_told_239 : decode cL_told 239 = .ok (.iload 11, 2) := by decide +kernel
theorem dL_told_241 : decode cL_told 241 = .ok (.iload 12, 2) := by decide +kernel
theorem dL_told_243 : decode cL_told 243 = .ok (.iadd, 1) := by decide +kernel
theorem dL_told_244 : decode cL_told 244 = .ok (.iaload, 1) := by decide +kernel
theorem dL_told_245 : decode cL_told 245 = .ok (.if_icmp .eq 5, 3) := by decide +kernel
theorem dL_told_248 : decode cL_told 248 = .ok (.iconst 0, 1) := by decide +kernel
theorem dL_told_249 : decode cL_told 249 = .ok (.ireturn, 1) := by decide +kernel
theorem dL_told_250 : decode cL_told 250 = .ok (.iinc 12 1, 3) := by decide +kernel
theorem dL_told_253 : decode cL_told 253 = .ok (.goto (-31), 3) := by decide +kernel
theorem dL_told_256 : decode cL_told 256 = .ok (.aload_n 0, 1) := by decide +kernel
theorem dL_told_257 : decode cL_told 257 = .ok (.iload 10, 2) := by decide +kernel
theorem dL_told_259 : decode cL_told 259 = .ok (.bipush 7, 2) := by decide +kernel
theorem dL_told_261 : decode cL_told 261 = .ok (.invokevirtual 54, 3) := by decide +kernel
theorem dL_told_264 : decode cL_told 264 = .ok (.aload 5, 2) := by decide +kernel
theorem dL_told_266 : decode cL_told 266 = .ok (.iload 11, 2) := by decide +kernel
theorem dL_told_268 : decode cL_told 268 = .ok (.iaload, 1) := by decide +kernel
theorem dL_told_269 : decode cL_told 269 = .ok (.iconst 2, 1) := by decide +kernel
theorem dL_told_270 : decode cL_told 270 = .ok (.if_icmp .ne 21, 3) := by decide +kernel
theorem dL_told_273 : decode cL_told 273 = .ok (.aload 5, 2) := by decide +kernel
theorem dL_told_275 : decode cL_told 275 = .ok (.iload 11, 2) := by decide +kernel
theorem dL_told_277 : decode cL_told 277 = .ok (.bipush 7, 2) := by decide +kernel
theorem dL_told_279 : decode cL_told 279 = .ok (.iadd, 1) := by decide +kernel
theorem dL_told_280 : decode cL_told 280 = .ok (.iaload, 1) := by decide +kernel
theorem dL_told_281 : decode cL_told 281 = .ok (.aload 4, 2) := by decide +kernel
theorem dL_told_283 : decode cL_told 283 = .ok (.aload 5, 2) := by decide +kernel
theorem dL_told_285 : decode cL_told 285 = .ok (.invokestatic 8, 3) := by decide +kernel
theorem dL_told_288 : decode cL_told 288 = .ok (.goto 4, 3) := by decide +kernel
theorem dL_told_291 : decode cL_told 291 = .ok (.iconst (-1), 1) := by decide +kernel
theorem dL_told_292 : decode cL_told 292 = .ok (.if_icmp .eq 5, 3) := by decide +kernel
theorem dL_told_295 : decode cL_told 295 = .ok (.iconst 0, 1) := by decide +kernel
theorem dL_told_296 : decode cL_told 296 = .ok (.ireturn, 1) := by decide +kernel
theorem dL_told_297 : decode cL_told 297 = .ok (.iconst 0, 1) := by decide +kernel
theorem dL_told_298 : decode cL_told 298 = .ok (.istore 12, 2) := by decide +kernel
theorem dL_told_300 : decode cL_told 300 = .ok (.iload 12, 2) := by decide +kernel
theorem dL_told_302 : decode cL_told 302 = .ok (.iconst 4, 1) := by decide +kernel
theorem dL_told_303 : decode cL_told 303 = .ok (.if_icmp .ge 35, 3) := by decide +kernel
theorem dL_told_306 : decode cL_told 306 = .ok (.aload_n 0, 1) := by decide +kernel
theorem dL_told_307 : decode cL_told 307 = .ok (.iload 10, 2) := by decide +kernel
theorem dL_told_309 : decode cL_told 309 = .ok (.bipush 8, 2) := by decide +kernel
theorem dL_told_311 : decode cL_told 311 = .ok (.iload 12, 2) := by decide +kernel
theorem dL_told_313 : decode cL_told 313 = .ok (.iadd, 1) := by decide +kernel
theorem dL_told_314 : decode cL_told 314 = .ok (.invokevirtual 54, 3) := by decide +kernel
theorem dL_told_317 : decode cL_told 317 = .ok (.aload 6, 2) := by decide +kernel
theorem dL_told_319 : decode cL_told 319 = .ok (.iconst 4, 1) := by decide +kernel
theorem dL_told_320 : decode cL_told 320 = .ok (.iload 10, 2) := by decide +kernel
theorem dL_told_322 : decode cL_told 322 = .ok (.imul, 1) := by decide +kernel
theorem dL_told_323 : decode cL_told 323 = .ok (.iload 12, 2) := by decide +kernel
theorem dL_told_325 : decode cL_told 325 = .ok (.iadd, 1) := by decide +kernel
theorem dL_told_326 : decode cL_told 326 = .ok (.iaload, 1) := by decide +kernel
theorem dL_told_327 : decode cL_told 327 = .ok (.if_icmp .eq 5, 3) := by decide +kernel
theorem dL_told_330 : decode cL_told 330 = .ok (.iconst 0, 1) := by decide +kernel
theorem dL_told_331 : decode cL_told 331 = .ok (.ireturn, 1) := by decide +kernel
theorem dL_told_332 : decode cL_told 332 = .ok (.iinc 12 1, 3) := by decide +kernel
theorem dL_told_335 : decode cL_told 335 = .ok (.goto (-35), 3) := by decide +kernel
theorem dL_told_338 : decode cL_told 338 = .ok (.iinc 10 1, 3) := by decide +kernel
theorem dL_told_341 : decode cL_told 341 = .ok (.goto (-175), 3) := by decide +kernel
theorem dL_told_344 : decode cL_told 344 = .ok (.iconst 0, 1) := by decide +kernel
theorem dL_told_345 : decode cL_told 345 = .ok (.istore 10, 2) := by decide +kernel
theorem dL_told_347 : decode cL_told 347 = .ok (.iload 10, 2) := by decide +kernel
theorem dL_told_349 : decode cL_told 349 = .ok (.bipush 6, 2) := by decide +kernel
theorem dL_told_351 : decode cL_told 351 = .ok (.if_icmp .ge 255, 3) := by decide +kernel
theorem dL_told_354 : decode cL_told 354 = .ok (.iconst 0, 1) := by decide +kernel
theorem dL_told_355 : decode cL_told 355 = .ok (.istore 11, 2) := by decide +kernel
theorem dL_told_357 : decode cL_told 357 = .ok (.iconst 0, 1) := by decide +kernel
theorem dL_told_358 : decode cL_told 358 = .ok (.istore 12, 2) := by decide +kernel
theorem dL_told_360 : decode cL_told 360 = .ok (.iconst 0, 1) := by decide +kernel
theorem dL_told_361 : decode cL_told 361 = .ok (.istore 13, 2) := by decide +kernel
theorem dL_told_363 : decode cL_told 363 = .ok (.iconst 0, 1) := by decide +kernel
theorem dL_told_364 : decode cL_told 364 = .ok (.istore 14, 2) := by decide +kernel
theorem dL_told_366 : decode cL_told 366 = .ok (.iload 14, 2) := by decide +kernel
theorem dL_told_368 : decode cL_told 368 = .ok (.aload 4, 2) := by decide +kernel
theorem dL_told_370 : decode cL_told 370 = .ok (.iconst 1, 1) := by decide +kernel
theorem dL_told_371 : decode cL_told 371 = .ok (.iaload, 1) := by decide +kernel
theorem dL_told_372 : decode cL_told 372 = .ok (.if_icmp .ge 83, 3) := by decide +kernel
theorem dL_told_375 : decode cL_told 375 = .ok (.aload 5, 2) := by decide +kernel
theorem dL_told_377 : decode cL_told 377 = .ok (.bipush 9, 2) := by decide +kernel
theorem dL_told_379 : decode cL_told 379 = .ok (.iload 14, 2) := by decide +kernel
theorem dL_told_381 : decode cL_told 381 = .ok (.imul, 1) := by decide +kernel
theorem dL_told_382 : decode cL_told 382 = .ok (.iconst 1, 1) := by decide +kernel
theorem dL_told_383 : decode cL_told 383 = .ok (.iadd, 1) := by decide +kernel
theorem dL_told_384 : decode cL_told 384 = .ok (.iaload, 1) := by decide +kernel
theorem dL_told_385 : decode cL_told 385 = .ok (.iload 10, 2) := by decide +kernel
theorem dL_told_387 : decode cL_told 387 = .ok (.if_icmp .eq 6, 3) := by decide +kernel
theorem dL_told_390 : decode cL_told 390 = .ok (.goto 59, 3) := by decide +kernel
theorem dL_told_393 : decode cL_told 393 = .ok (.iload 11, 2) := by decide +kernel
theorem dL_told_395 : decode cL_told 395 = .ok (.aload 5, 2) := by decide +kernel
theorem dL_told_397 : decode cL_told 397 = .ok (.bipush 9, 2) := by decide +kernel
theorem dL_told_399 : decode cL_told 399 = .ok (.iload 14, 2) := by decide +kernel
theorem dL_told_401 : decode cL_told 401 = .ok (.imul, 1) := by decide +kernel
theorem dL_told_402 : decode cL_told 402 = .ok (.iaload, 1) := by decide +kernel
theorem dL_told_403 : decode cL_told 403 = .ok (.aload 5, 2) := by decide +kernel
theorem dL_told_405 : decode cL_told 405 = .ok (.bipush 9, 2) := by decide +kernel
theorem dL_told_407 : decode cL_told 407 = .ok (.iload 14, 2) := by decide +kernel
theorem dL_told_409 : decode cL_told 409 = .ok (.imul, 1) := by decide +kernel
theorem dL_told_410 : decode cL_told 410 = .ok (.iconst 4, 1) := by decide +kernel
theorem dL_told_411 : decode cL_told 411 = .ok (.iadd, 1) := by decide +kernel
theorem dL_told_412 : decode cL_told 412 = .ok (.iaload, 1) := by decide +kernel
theorem dL_told_413 : decode cL_told 413 = .ok (.aload_n 2, 1) := by decide +kernel
theorem dL_told_414 : decode cL_told 414 = .ok (.invokestatic 18, 3) := by decide +kernel
theorem dL_told_417 : decode cL_told 417 = .ok (.iadd, 1) := by decide +kernel
theorem dL_told_418 : decode cL_told 418 = .ok (.istore 11, 2) := by decide +kernel
theorem dL_told_420 : decode cL_told 420 = .ok (.iload 12, 2) := by decide +kernel
theorem dL_told_422 : decode cL_told 422 = .ok (.aload 5, 2) := by decide +kernel
theorem dL_told_424 : decode cL_told 424 = .ok (.bipush 9, 2) := by decide +kernel
theorem dL_told_426 : decode cL_told 426 = .ok (.iload 14, 2) := by decide +kernel
theorem dL_told_428 : decode cL_told 428 = .ok (.imul, 1) := by decide +kernel
theorem dL_told_429 : decode cL_told 429 = .ok (.iaload, 1) := by decide +kernel
theorem dL_told_430 : decode cL_told 430 = .ok (.aload 6, 2) := by decide +kernel
theorem dL_told_432 : decode cL_told 432 = .ok (.iconst 4, 1) := by decide +kernel
theorem dL_told_433 : decode cL_told 433 = .ok (.iload 14, 2) := by decide +kernel
theorem dL_told_435 : decode cL_told 435 = .ok (.imul, 1) := by decide +kernel
theorem dL_told_436 : decode cL_told 436 = .ok (.iconst 1, 1) := by decide +kernel
theorem dL_told_437 : decode cL_told 437 = .ok (.iadd, 1) := by decide +kernel
theorem dL_told_438 : decode cL_told 438 = .ok (.iaload, 1) := by decide +kernel
theorem dL_told_439 : decode cL_told 439 = .ok (.aload_n 2, 1) := by decide +kernel
theorem dL_told_440 : decode cL_told 440 = .ok (.invokestatic 18, 3) := by decide +kernel
theorem dL_told_443 : decode cL_told 443 = .ok (.iadd, 1) := by decide +kernel
theorem dL_told_444 : decode cL_told 444 = .ok (.istore 12, 2) := by decide +kernel
theorem dL_told_446 : decode cL_told 446 = .ok (.iinc 13 1, 3) := by decide +kernel
theorem dL_told_449 : decode cL_told 449 = .ok (.iinc 14 1, 3) := by decide +kernel
theorem dL_told_452 : decode cL_told 452 = .ok (.goto (-86), 3) := by decide +kernel
theorem dL_told_455 : decode cL_told 455 = .ok (.aload_n 0, 1) := by decide +kernel
theorem dL_told_456 : decode cL_told 456 = .ok (.iload 10, 2) := by decide +kernel
theorem dL_told_458 : decode cL_told 458 = .ok (.iconst 0, 1) := by decide +kernel
theorem dL_told_459 : decode cL_told 459 = .ok (.invokevirtual 57, 3) := by decide +kernel
theorem dL_told_462 : decode cL_told 462 = .ok (.aload_n 3, 1) := by decide +kernel
theorem dL_told_463 : decode cL_told 463 = .ok (.iconst 5, 1) := by decide +kernel
theorem dL_told_464 : decode cL_told 464 = .ok (.iload 10, 2) := by decide +kernel
theorem dL_told_466 : decode cL_told 466 = .ok (.imul, 1) := by decide +kernel
theorem dL_told_467 : decode cL_told 467 = .ok (.iaload, 1) := by decide +kernel
theorem dL_told_468 : decode cL_told 468 = .ok (.if_icmp .ne 130, 3) := by decide +kernel
theorem dL_told_471 : decode cL_told 471 = .ok (.aload_n 0, 1) := by decide +kernel
theorem dL_told_472 : decode cL_told 472 = .ok (.iload 10, 2) := by decide +kernel
theorem dL_told_474 : decode cL_told 474 = .ok (.iconst 1, 1) := by decide +kernel
theorem dL_told_475 : decode cL_told 475 = .ok (.invokevirtual 57, 3) := by decide +kernel
theorem dL_told_478 : decode cL_told 478 = .ok (.aload_n 3, 1) := by decide +kernel
theorem dL_told_479 : decode cL_told 479 = .ok (.iconst 5, 1) := by decide +kernel
theorem dL_told_480 : decode cL_told 480 = .ok (.iload 10, 2) := by decide +kernel
theorem dL_told_482 : decode cL_told 482 = .ok (.imul, 1) := by decide +kernel
theorem dL_told_483 : decode cL_told 483 = .ok (.iconst 1, 1) := by decide +kernel
theorem dL_told_484 : decode cL_told 484 = .ok (.iadd, 1) := by decide +kernel
theorem dL_told_485 : decode cL_told 485 = .ok (.iaload, 1) := by decide +kernel
theorem dL_told_486 : decode cL_told 486 = .ok (.if_icmp .ne 112, 3) := by decide +kernel
theorem dL_told_489 : decode cL_told 489 = .ok (.aload_n 0, 1) := by decide +kernel
theorem dL_told_490 : decode cL_told 490 = .ok (.iload 10, 2) := by decide +kernel
theorem dL_told_492 : decode cL_told 492 = .ok (.iconst 2, 1) := by decide +kernel
theorem dL_told_493 : decode cL_told 493 = .ok (.invokevirtual 57, 3) := by decide +kernel
theorem dL_told_496 : decode cL_told 496 = .ok (.iload 10, 2) := by decide +kernel
theorem dL_told_498 : decode cL_told 498 = .ok (.aload_n 3, 1) := by decide +kernel
theorem dL_told_499 : decode cL_told 499 = .ok (.invokestatic 22, 3) := by decide +kernel
theorem dL_told_502 : decode cL_told 502 = .ok (.if_icmp .ne 96, 3) := by decide +kernel
theorem dL_told_505 : decode cL_told 505 = .ok (.aload_n 0, 1) := by decide +kernel
theorem dL_told_506 : decode cL_told 506 = .ok (.iload 10, 2) := by decide +kernel
theorem dL_told_508 : decode cL_told 508 = .ok (.iconst 3, 1) := by decide +kernel
theorem dL_told_509 : decode cL_told 509 = .ok (.invokevirtual 57, 3) := by decide +kernel
theorem dL_told_512 : decode cL_told 512 = .ok (.iload 11, 2) := by decide +kernel
theorem dL_told_514 : decode cL_told 514 = .ok (.if_icmp .ne 84, 3) := by decide +kernel
theorem dL_told_517 : decode cL_told 517 = .ok (.aload_n 0, 1) := by decide +kernel
theorem dL_told_518 : decode cL_told 518 = .ok (.iload 10, 2) := by decide +kernel
theorem dL_told_520 : decode cL_told 520 = .ok (.iconst 4, 1) := by decide +kernel
theorem dL_told_521 : decode cL_told 521 = .ok (.invokevirtual 57, 3) := by decide +kernel
theorem dL_told_524 : decode cL_told 524 = .ok (.iload 12, 2) := by decide +kernel
theorem dL_told_526 : decode cL_told 526 = .ok (.if_icmp .ne 72, 3) := by decide +kernel
theorem dL_told_529 : decode cL_told 529 = .ok (.aload_n 0, 1) := by decide +kernel
theorem dL_told_530 : decode cL_told 530 = .ok (.iload 10, 2) := by decide +kernel
theorem dL_told_532 : decode cL_told 532 = .ok (.iconst 5, 1) := by decide +kernel
theorem dL_told_533 : decode cL_told 533 = .ok (.invokevirtual 57, 3) := by decide +kernel
theorem dL_told_536 : decode cL_told 536 = .ok (.iload 13, 2) := by decide +kernel
theorem dL_told_538 : decode cL_told 538 = .ok (.if_icmp .ne 60, 3) := by decide +kernel
theorem dL_told_541 : decode cL_told 541 = .ok (.aload_n 0, 1) := by decide +kernel
theorem dL_told_542 : decode cL_told 542 = .ok (.iload 10, 2) := by decide +kernel
theorem dL_told_544 : decode cL_told 544 = .ok (.bipush 6, 2) := by decide +kernel
theorem dL_told_546 : decode cL_told 546 = .ok (.invokevirtual 57, 3) := by decide +kernel
theorem dL_told_549 : decode cL_told 549 = .ok (.aload_n 3, 1) := by decide +kernel
theorem dL_told_550 : decode cL_told 550 = .ok (.iconst 5, 1) := by decide +kernel
theorem dL_told_551 : decode cL_told 551 = .ok (.iload 10, 2) := by decide +kernel
theorem dL_told_553 : decode cL_told 553 = .ok (.imul, 1) := by decide +kernel
theorem dL_told_554 : decode cL_told 554 = .ok (.iconst 2, 1) := by decide +kernel
theorem dL_told_555 : decode cL_told 555 = .ok (.iadd, 1) := by decide +kernel
theorem dL_told_556 : decode cL_told 556 = .ok (.iaload, 1) := by decide +kernel
theorem dL_told_557 : decode cL_told 557 = .ok (.if_icmp .ne 41, 3) := by decide +kernel
theorem dL_told_560 : decode cL_told 560 = .ok (.aload_n 0, 1) := by decide +kernel
theorem dL_told_561 : decode cL_told 561 = .ok (.iload 10, 2) := by decide +kernel
theorem dL_told_563 : decode cL_told 563 = .ok (.bipush 7, 2) := by decide +kernel
theorem dL_told_565 : decode cL_told 565 = .ok (.invokevirtual 57, 3) := by decide +kernel
theorem dL_told_568 : decode cL_told 568 = .ok (.aload_n 3, 1) := by decide +kernel
theorem dL_told_569 : decode cL_told 569 = .ok (.iconst 5, 1) := by decide +kernel
theorem dL_told_570 : decode cL_told 570 = .ok (.iload 10, 2) := by decide +kernel
theorem dL_told_572 : decode cL_told 572 = .ok (.imul, 1) := by decide +kernel
theorem dL_told_573 : decode cL_told 573 = .ok (.iconst 3, 1) := by decide +kernel
theorem dL_told_574 : decode cL_told 574 = .ok (.iadd, 1) := by decide +kernel
theorem dL_told_575 : decode cL_told 575 = .ok (.iaload, 1) := by decide +kernel
theorem dL_told_576 : decode cL_told 576 = .ok (.if_icmp .ne 22, 3) := by decide +kernel
theorem dL_told_579 : decode cL_told 579 = .ok (.aload_n 0, 1) := by decide +kernel
theorem dL_told_580 : decode cL_told 580 = .ok (.iload 10, 2) := by decide +kernel
theorem dL_told_582 : decode cL_told 582 = .ok (.bipush 8, 2) := by decide +kernel
theorem dL_told_584 : decode cL_told 584 = .ok (.invokevirtual 57, 3) := by decide +kernel
theorem dL_told_587 : decode cL_told 587 = .ok (.aload_n 3, 1) := by decide +kernel
theorem dL_told_588 : decode cL_told 588 = .ok (.iconst 5, 1) := by decide +kernel
theorem dL_told_589 : decode cL_told 589 = .ok (.iload 10, 2) := by decide +kernel
theorem dL_told_591 : decode cL_told 591 = .ok (.imul, 1) := by decide +kernel
theorem dL_told_592 : decode cL_told 592 = .ok (.iconst 4, 1) := by decide +kernel
theorem dL_told_593 : decode cL_told 593 = .ok (.iadd, 1) := by decide +kernel
theorem dL_told_594 : decode cL_told 594 = .ok (.iaload, 1) := by decide +kernel
theorem dL_told_595 : decode cL_told 595 = .ok (.if_icmp .eq 5, 3) := by decide +kernel
theorem dL_told_598 : decode cL_told 598 = .ok (.iconst 0, 1) := by decide +kernel
theorem dL_told_599 : decode cL_told 599 = .ok (.ireturn, 1) := by decide +kernel
theorem dL_told_600 : decode cL_told 600 = .ok (.iinc 10 1, 3) := by decide +kernel
theorem dL_told_603 : decode cL_told 603 = .ok (.goto (-256), 3) := by decide +kernel
theorem dL_told_606 : decode cL_told 606 = .ok (.iconst 0, 1) := by decide +kernel
theorem dL_told_607 : decode cL_told 607 = .ok (.istore 10, 2) := by decide +kernel
theorem dL_told_609 : decode cL_told 609 = .ok (.iload 10, 2) := by decide +kernel
theorem dL_told_611 : decode cL_told 611 = .ok (.bipush 8, 2) := by decide +kernel
theorem dL_told_613 : decode cL_told 613 = .ok (.if_icmp .ge 24, 3) := by decide +kernel
theorem dL_told_616 : decode cL_told 616 = .ok (.aload_n 0, 1) := by decide +kernel
theorem dL_told_617 : decode cL_told 617 = .ok (.iload 10, 2) := by decide +kernel
theorem dL_told_619 : decode cL_told 619 = .ok (.invokevirtual 60, 3) := by decide +kernel
theorem dL_told_622 : decode cL_told 622 = .ok (.aload_n 2, 1) := by decide +kernel
theorem dL_told_623 : decode cL_told 623 = .ok (.iload 10, 2) := by decide +kernel
theorem dL_told_625 : decode cL_told 625 = .ok (.iaload, 1) := by decide +kernel
theorem dL_told_626 : decode cL_told 626 = .ok (.if_icmp .eq 5, 3) := by decide +kernel
theorem dL_told_629 : decode cL_told 629 = .ok (.iconst 0, 1) := by decide +kernel
theorem dL_told_630 : decode cL_told 630 = .ok (.ireturn, 1) := by decide +kernel
theorem dL_told_631 : decode cL_told 631 = .ok (.iinc 10 1, 3) := by decide +kernel
theorem dL_told_634 : decode cL_told 634 = .ok (.goto (-25), 3) := by decide +kernel
theorem dL_told_637 : decode cL_told 637 = .ok (.aload_n 0, 1) := by decide +kernel
theorem dL_told_638 : decode cL_told 638 = .ok (.iconst 0, 1) := by decide +kernel
theorem dL_told_639 : decode cL_told 639 = .ok (.invokevirtual 64, 3) := by decide +kernel
theorem dL_told_642 : decode cL_told 642 = .ok (.aload 4, 2) := by decide +kernel
theorem dL_told_644 : decode cL_told 644 = .ok (.iconst 0, 1) := by decide +kernel
theorem dL_told_645 : decode cL_told 645 = .ok (.iaload, 1) := by decide +kernel
theorem dL_told_646 : decode cL_told 646 = .ok (.if_icmp .ne 83, 3) := by decide +kernel
theorem dL_told_649 : decode cL_told 649 = .ok (.aload_n 0, 1) := by decide +kernel
theorem dL_told_650 : decode cL_told 650 = .ok (.iconst 1, 1) := by decide +kernel
theorem dL_told_651 : decode cL_told 651 = .ok (.invokevirtual 64, 3) := by decide +kernel
theorem dL_told_654 : decode cL_told 654 = .ok (.aload 4, 2) := by decide +kernel
theorem dL_told_656 : decode cL_told 656 = .ok (.iconst 1, 1) := by decide +kernel
theorem dL_told_657 : decode cL_told 657 = .ok (.iaload, 1) := by decide +kernel
theorem dL_told_658 : decode cL_told 658 = .ok (.if_icmp .ne 71, 3) := by decide +kernel
theorem dL_told_661 : decode cL_told 661 = .ok (.aload_n 0, 1) := by decide +kernel
theorem dL_told_662 : decode cL_told 662 = .ok (.iconst 2, 1) := by decide +kernel
theorem dL_told_663 : decode cL_told 663 = .ok (.invokevirtual 64, 3) := by decide +kernel
theorem dL_told_666 : decode cL_told 666 = .ok (.iload 8, 2) := by decide +kernel
theorem dL_told_668 : decode cL_told 668 = .ok (.if_icmp .ne 61, 3) := by decide +kernel
theorem dL_told_671 : decode cL_told 671 = .ok (.aload_n 0, 1) := by decide +kernel
theorem dL_told_672 : decode cL_told 672 = .ok (.iconst 3, 1) := by decide +kernel
theorem dL_told_673 : decode cL_told 673 = .ok (.invokevirtual 64, 3) := by decide +kernel
theorem dL_told_676 : decode cL_told 676 = .ok (.iload 9, 2) := by decide +kernel
theorem dL_told_678 : decode cL_told 678 = .ok (.if_icmp .ne 51, 3) := by decide +kernel
theorem dL_told_681 : decode cL_told 681 = .ok (.aload_n 0, 1) := by decide +kernel
theorem dL_told_682 : decode cL_told 682 = .ok (.iconst 4, 1) := by decide +kernel
theorem dL_told_683 : decode cL_told 683 = .ok (.invokevirtual 64, 3) := by decide +kernel
theorem dL_told_686 : decode cL_told 686 = .ok (.aload 7, 2) := by decide +kernel
theorem dL_told_688 : decode cL_told 688 = .ok (.iconst 3, 1) := by decide +kernel
theorem dL_told_689 : decode cL_told 689 = .ok (.iaload, 1) := by decide +kernel
theorem dL_told_690 : decode cL_told 690 = .ok (.if_icmp .ne 39, 3) := by decide +kernel
theorem dL_told_693 : decode cL_told 693 = .ok (.aload_n 0, 1) := by decide +kernel
theorem dL_told_694 : decode cL_told 694 = .ok (.iconst 5, 1) := by decide +kernel
theorem dL_told_695 : decode cL_told 695 = .ok (.invokevirtual 64, 3) := by decide +kernel
theorem dL_told_698 : decode cL_told 698 = .ok (.aload 7, 2) := by decide +kernel
theorem dL_told_700 : decode cL_told 700 = .ok (.iconst 4, 1) := by decide +kernel
theorem dL_told_701 : decode cL_told 701 = .ok (.iaload, 1) := by decide +kernel
theorem dL_told_702 : decode cL_told 702 = .ok (.if_icmp .ne 27, 3) := by decide +kernel
theorem dL_told_705 : decode cL_told 705 = .ok (.aload_n 0, 1) := by decide +kernel
theorem dL_told_706 : decode cL_told 706 = .ok (.bipush 7, 2) := by decide +kernel
theorem dL_told_708 : decode cL_told 708 = .ok (.invokevirtual 64, 3) := by decide +kernel
theorem dL_told_711 : decode cL_told 711 = .ok (.aload 7, 2) := by decide +kernel
theorem dL_told_713 : decode cL_told 713 = .ok (.iconst 2, 1) := by decide +kernel
theorem dL_told_714 : decode cL_told 714 = .ok (.iaload, 1) := by decide +kernel
theorem dL_told_715 : decode cL_told 715 = .ok (.if_icmp .ne 14, 3) := by decide +kernel
theorem dL_told_718 : decode cL_told 718 = .ok (.aload_n 0, 1) := by decide +kernel
theorem dL_told_719 : decode cL_told 719 = .ok (.invokevirtual 67, 3) := by decide +kernel
theorem dL_told_722 : decode cL_told 722 = .ok (.aload 4, 2) := by decide +kernel
theorem dL_told_724 : decode cL_told 724 = .ok (.iconst 2, 1) := by decide +kernel
theorem dL_told_725 : decode cL_told 725 = .ok (.iaload, 1) := by decide +kernel
theorem dL_told_726 : decode cL_told 726 = .ok (.if_icmp .eq 5, 3) := by decide +kernel
theorem dL_told_729 : decode cL_told 729 = .ok (.iconst 0, 1) := by decide +kernel
theorem dL_told_730 : decode cL_told 730 = .ok (.ireturn, 1) := by decide +kernel
theorem dL_told_731 : decode cL_told 731 = .ok (.aload_n 0, 1) := by decide +kernel
theorem dL_told_732 : decode cL_told 732 = .ok (.invokevirtual 71, 3) := by decide +kernel
theorem dL_told_735 : decode cL_told 735 = .ok (.dconst 1, 1) := by decide +kernel
theorem dL_told_736 : decode cL_told 736 = .ok (.aload 7, 2) := by decide +kernel
theorem dL_told_738 : decode cL_told 738 = .ok (.iconst 2, 1) := by decide +kernel
theorem dL_told_739 : decode cL_told 739 = .ok (.iaload, 1) := by decide +kernel
theorem dL_told_740 : decode cL_told 740 = .ok (.i2d, 1) := by decide +kernel
theorem dL_told_741 : decode cL_told 741 = .ok (.dmul, 1) := by decide +kernel
theorem dL_told_742 : decode cL_told 742 = .ok (.bipush 7, 2) := by decide +kernel
theorem dL_told_744 : decode cL_told 744 = .ok (.aload_n 2, 1) := by decide +kernel
theorem dL_told_745 : decode cL_told 745 = .ok (.iconst 1, 1) := by decide +kernel
theorem dL_told_746 : decode cL_told 746 = .ok (.iaload, 1) := by decide +kernel
theorem dL_told_747 : decode cL_told 747 = .ok (.aload_n 2, 1) := by decide +kernel
theorem dL_told_748 : decode cL_told 748 = .ok (.iconst 0, 1) := by decide +kernel
theorem dL_told_749 : decode cL_told 749 = .ok (.iaload, 1) := by decide +kernel
theorem dL_told_750 : decode cL_told 750 = .ok (.isub, 1) := by decide +kernel
theorem dL_told_751 : decode cL_told 751 = .ok (.imul, 1) := by decide +kernel
theorem dL_told_752 : decode cL_told 752 = .ok (.i2d, 1) := by decide +kernel
theorem dL_told_753 : decode cL_told 753 = .ok (.ddiv, 1) := by decide +kernel
theorem dL_told_754 : decode cL_told 754 = .ok (.dcmp .l, 1) := by decide +kernel
theorem dL_told_755 : decode cL_told 755 = .ok (.ifCond .ne 7, 3) := by decide +kernel
theorem dL_told_758 : decode cL_told 758 = .ok (.iconst 1, 1) := by decide +kernel
theorem dL_told_759 : decode cL_told 759 = .ok (.goto 4, 3) := by decide +kernel
theorem dL_told_762 : decode cL_told 762 = .ok (.iconst 0, 1) := by decide +kernel
theorem dL_told_763 : decode cL_told 763 = .ok (.ireturn, 1) := by decide +kernel
theorem dL_lay_0 : decode cL_lay 0 = .ok (.bipush 9, 2) := by decide +kernel
theorem dL_lay_2 : decode cL_lay 2 = .ok (.aload 8, 2) := by decide +kernel
theorem dL_lay_4 : decode cL_lay 4 = .ok (.iconst 1, 1) := by decide +kernel
theorem dL_lay_5 : decode cL_lay 5 = .ok (.iaload, 1) := by decide +kernel
theorem dL_lay_6 : decode cL_lay 6 = .ok (.imul, 1) := by decide +kernel
theorem dL_lay_7 : decode cL_lay 7 = .ok (.istore 10, 2) := by decide +kernel
theorem dL_lay_9 : decode cL_lay 9 = .ok (.aload 9, 2) := by decide +kernel
theorem dL_lay_11 : decode cL_lay 11 = .ok (.iload 10, 2) := by decide +kernel
theorem dL_lay_13 : decode cL_lay 13 = .ok (.iload_n 0, 1) := by decide +kernel
theorem dL_lay_14 : decode cL_lay 14 = .ok (.iastore, 1) := by decide +kernel
theorem dL_lay_15 : decode cL_lay 15 = .ok (.aload 9, 2) := by decide +kernel
theorem dL_lay_17 : decode cL_lay 17 = .ok (.iload 10, 2) := by decide +kernel
theorem dL_lay_19 : decode cL_lay 19 = .ok (.iconst 1, 1) := by decide +kernel
theorem dL_lay_20 : decode cL_lay 20 = .ok (.iadd, 1) := by decide +kernel
theorem dL_lay_21 : decode cL_lay 21 = .ok (.iload_n 1, 1) := by decide +kernel
theorem dL_lay_22 : decode cL_lay 22 = .ok (.iastore, 1) := by decide +kernel
theorem dL_lay_23 : decode cL_lay 23 = .ok (.aload 9, 2) := by decide +kernel
theorem dL_lay_25 : decode cL_lay 25 = .ok (.iload 10, 2) := by decide +kernel
theorem dL_lay_27 : decode cL_lay 27 = .ok (.iconst 2, 1) := by decide +kernel
theorem dL_lay_28 : decode cL_lay 28 = .ok (.iadd, 1) := by decide +kernel
theorem dL_lay_29 : decode cL_lay 29 = .ok (.iload_n 2, 1) := by decide +kernel
theorem dL_lay_30 : decode cL_lay 30 = .ok (.iastore, 1) := by decide +kernel
theorem dL_lay_31 : decode cL_lay 31 = .ok (.aload 9, 2) := by decide +kernel
theorem dL_lay_33 : decode cL_lay 33 = .ok (.iload 10, 2) := by decide +kernel
theorem dL_lay_35 : decode cL_lay 35 = .ok (.iconst 3, 1) := by decide +kernel
theorem dL_lay_36 : decode cL_lay 36 = .ok (.iadd, 1) := by decide +kernel
theorem dL_lay_37 : decode cL_lay 37 = .ok (.iload_n 3, 1) := by decide +kernel
theorem dL_lay_38 : decode cL_lay 38 = .ok (.iastore, 1) := by decide +kernel
theorem dL_lay_39 : decode cL_lay 39 = .ok (.aload 9, 2) := by decide +kernel
theorem dL_lay_41 : decode cL_lay 41 = .ok (.iload 10, 2) := by decide +kernel
theorem dL_lay_43 : decode cL_lay 43 = .ok (.iconst 4, 1) := by decide +kernel
theorem dL_lay_44 : decode cL_lay 44 = .ok (.iadd, 1) := by decide +kernel
theorem dL_lay_45 : decode cL_lay 45 = .ok (.iload 4, 2) := by decide +kernel
theorem dL_lay_47 : decode cL_lay 47 = .ok (.iastore, 1) := by decide +kernel
theorem dL_lay_48 : decode cL_lay 48 = .ok (.aload 9, 2) := by decide +kernel
theorem dL_lay_50 : decode cL_lay 50 = .ok (.iload 10, 2) := by decide +kernel
theorem dL_lay_52 : decode cL_lay 52 = .ok (.iconst 5, 1) := by decide +kernel
theorem dL_lay_53 : decode cL_lay 53 = .ok (.iadd, 1) := by decide +kernel
theorem dL_lay_54 : decode cL_lay 54 = .ok (.iload 5, 2) := by decide +kernel
theorem dL_lay_56 : decode cL_lay 56 = .ok (.iastore, 1) := by decide +kernel
theorem dL_lay_57 : decode cL_lay 57 = .ok (.aload 9, 2) := by decide +kernel
theorem dL_lay_59 : decode cL_lay 59 = .ok (.iload 10, 2) := by decide +kernel
theorem dL_lay_61 : decode cL_lay 61 = .ok (.bipush 6, 2) := by decide +kernel
theorem dL_lay_63 : decode cL_lay 63 = .ok (.iadd, 1) := by decide +kernel
theorem dL_lay_64 : decode cL_lay 64 = .ok (.iconst 0, 1) := by decide +kernel
theorem dL_lay_65 : decode cL_lay 65 = .ok (.iastore, 1) := by decide +kernel
theorem dL_lay_66 : decode cL_lay 66 = .ok (.aload 9, 2) := by decide +kernel
theorem dL_lay_68 : decode cL_lay 68 = .ok (.iload 10, 2) := by decide +kernel
theorem dL_lay_70 : decode cL_lay 70 = .ok (.bipush 7, 2) := by decide +kernel
theorem dL_lay_72 : decode cL_lay 72 = .ok (.iadd, 1) := by decide +kernel
theorem dL_lay_73 : decode cL_lay 73 = .ok (.iload 6, 2) := by decide +kernel
theorem dL_lay_75 : decode cL_lay 75 = .ok (.iastore, 1) := by decide +kernel
theorem dL_lay_76 : decode cL_lay 76 = .ok (.aload 9, 2) := by decide +kernel
theorem dL_lay_78 : decode cL_lay 78 = .ok (.iload 10, 2) := by decide +kernel
theorem dL_lay_80 : decode cL_lay 80 = .ok (.bipush 8, 2) := by decide +kernel
theorem dL_lay_82 : decode cL_lay 82 = .ok (.iadd, 1) := by decide +kernel
theorem dL_lay_83 : decode cL_lay 83 = .ok (.iload 7, 2) := by decide +kernel
theorem dL_lay_85 : decode cL_lay 85 = .ok (.iastore, 1) := by decide +kernel
theorem dL_lay_86 : decode cL_lay 86 = .ok (.return_, 1) := by decide +kernel
theorem dL_ahead_0 : decode cL_ahead 0 = .ok (.iload_n 1, 1) := by decide +kernel
theorem dL_ahead_1 : decode cL_ahead 1 = .ok (.bipush 6, 2) := by decide +kernel
theorem dL_ahead_3 : decode cL_ahead 3 = .ok (.invokestatic 47, 3) := by decide +kernel
theorem dL_ahead_6 : decode cL_ahead 6 = .ok (.istore 7, 2) := by decide +kernel
theorem dL_ahead_8 : decode cL_ahead 8 = .ok (.iload_n 1, 1) := by decide +kernel
theorem dL_ahead_9 : decode cL_ahead 9 = .ok (.iconst 3, 1) := by decide +kernel
theorem dL_ahead_10 : decode cL_ahead 10 = .ok (.ishr, 1) := by decide +kernel
theorem dL_ahead_11 : decode cL_ahead 11 = .ok (.bipush 7, 2) := by decide +kernel
theorem dL_ahead_13 : decode cL_ahead 13 = .ok (.invokestatic 47, 3) := by decide +kernel
theorem dL_ahead_16 : decode cL_ahead 16 = .ok (.istore 8, 2) := by decide +kernel
theorem dL_ahead_18 : decode cL_ahead 18 = .ok (.iconst 5, 1) := by decide +kernel
theorem dL_ahead_19 : decode cL_ahead 19 = .ok (.iload_n 2, 1) := by decide +kernel
theorem dL_ahead_20 : decode cL_ahead 20 = .ok (.bipush 120, 2) := by decide +kernel
theorem dL_ahead_22 : decode cL_ahead 22 = .ok (.invokestatic 47, 3) := by decide +kernel
theorem dL_ahead_25 : decode cL_ahead 25 = .ok (.iadd, 1) := by decide +kernel
theorem dL_ahead_26 : decode cL_ahead 26 = .ok (.istore 9, 2) := by decide +kernel
theorem dL_ahead_28 : decode cL_ahead 28 = .ok (.iload_n 2, 1) := by decide +kernel
theorem dL_ahead_29 : decode cL_ahead 29 = .ok (.bipush 7, 2) := by decide +kernel
theorem dL_ahead_31 : decode cL_ahead 31 = .ok (.ishr, 1) := by decide +kernel
theorem dL_ahead_32 : decode cL_ahead 32 = .ok (.sipush 1440, 3) := by decide +kernel
theorem dL_ahead_35 : decode cL_ahead 35 = .ok (.invokestatic 47, 3) := by decide +kernel
theorem dL_ahead_38 : decode cL_ahead 38 = .ok (.istore 10, 2) := by decide +kernel
theorem dL_ahead_40 : decode cL_ahead 40 = .ok (.iconst 1, 1) := by decide +kernel
theorem dL_ahead_41 : decode cL_ahead 41 = .ok (.iload 7, 2) := by decide +kernel
theorem dL_ahead_43 : decode cL_ahead 43 = .ok (.iload 8, 2) := by decide +kernel
theorem dL_ahead_45 : decode cL_ahead 45 = .ok (.iload 10, 2) := by decide +kernel
theorem dL_ahead_47 : decode cL_ahead 47 = .ok (.iload 9, 2) := by decide +kernel
theorem dL_ahead_49 : decode cL_ahead 49 = .ok (.iconst 0, 1) := by decide +kernel
theorem dL_ahead_50 : decode cL_ahead 50 = .ok (.iconst (-1), 1) := by decide +kernel
theorem dL_ahead_51 : decode cL_ahead 51 = .ok (.sipush 999, 3) := by decide +kernel
theorem dL_ahead_54 : decode cL_ahead 54 = .ok (.aload 5, 2) := by decide +kernel
theorem dL_ahead_56 : decode cL_ahead 56 = .ok (.aload 6, 2) := by decide +kernel
theorem dL_ahead_58 : decode cL_ahead 58 = .ok (.invokestatic 75, 3) := by decide +kernel
theorem dL_ahead_61 : decode cL_ahead 61 = .ok (.aload_n 0, 1) := by decide +kernel
theorem dL_ahead_62 : decode cL_ahead 62 = .ok (.iload 7, 2) := by decide +kernel
theorem dL_ahead_64 : decode cL_ahead 64 = .ok (.iload 8, 2) := by decide +kernel
theorem dL_ahead_66 : decode cL_ahead 66 = .ok (.iload 10, 2) := by decide +kernel
theorem dL_ahead_68 : decode cL_ahead 68 = .ok (.iload 9, 2) := by decide +kernel
theorem dL_ahead_70 : decode cL_ahead 70 = .ok (.invokevirtual 79, 3) := by decide +kernel
theorem dL_ahead_73 : decode cL_ahead 73 = .ok (.aload_n 3, 1) := by decide +kernel
theorem dL_ahead_74 : decode cL_ahead 74 = .ok (.aload 4, 2) := by decide +kernel
theorem dL_ahead_76 : decode cL_ahead 76 = .ok (.aload 5, 2) := by decide +kernel
theorem dL_ahead_78 : decode cL_ahead 78 = .ok (.aload 6, 2) := by decide +kernel
theorem dL_ahead_80 : decode cL_ahead 80 = .ok (.invokestatic 83, 3) := by decide +kernel
theorem dL_ahead_83 : decode cL_ahead 83 = .ok (.if_icmp .eq 5, 3) := by decide +kernel
theorem dL_ahead_86 : decode cL_ahead 86 = .ok (.iconst 0, 1) := by decide +kernel
theorem dL_ahead_87 : decode cL_ahead 87 = .ok (.ireturn, 1) := by decide +kernel
theorem dL_ahead_88 : decode cL_ahead 88 = .ok (.iconst 0, 1) := by decide +kernel
theorem dL_ahead_89 : decode cL_ahead 89 = .ok (.istore 11, 2) := by decide +kernel
theorem dL_ahead_91 : decode cL_ahead 91 = .ok (.iload 11, 2) := by decide +kernel
theorem dL_ahead_93 : decode cL_ahead 93 = .ok (.sipush 1440, 3) := by decide +kernel
theorem dL_ahead_96 : decode cL_ahead 96 = .ok (.if_icmp .ge 46, 3) := by decide +kernel
theorem dL_ahead_99 : decode cL_ahead 99 = .ok (.iconst 1, 1) := by decide +kernel
theorem dL_ahead_100 : decode cL_ahead 100 = .ok (.iload 7, 2) := by decide +kernel
theorem dL_ahead_102 : decode cL_ahead 102 = .ok (.iload 8, 2) := by decide +kernel
theorem dL_ahead_104 : decode cL_ahead 104 = .ok (.iload 11, 2) := by decide +kernel
theorem dL_ahead_106 : decode cL_ahead 106 = .ok (.iload 9, 2) := by decide +kernel
theorem dL_ahead_108 : decode cL_ahead 108 = .ok (.iconst 0, 1) := by decide +kernel
theorem dL_ahead_109 : decode cL_ahead 109 = .ok (.iconst (-1), 1) := by decide +kernel
theorem dL_ahead_110 : decode cL_ahead 110 = .ok (.sipush 999, 3) := by decide +kernel
theorem dL_ahead_113 : decode cL_ahead 113 = .ok (.aload 5, 2) := by decide +kernel
theorem dL_ahead_115 : decode cL_ahead 115 = .ok (.aload 6, 2) := by decide +kernel
theorem dL_ahead_117 : decode cL_ahead 117 = .ok (.invokestatic 75, 3) := by decide +kernel
theorem dL_ahead_120 : decode cL_ahead 120 = .ok (.aload_n 3, 1) := by decide +kernel
theorem dL_ahead_121 : decode cL_ahead 121 = .ok (.aload 4, 2) := by decide +kernel
theorem dL_ahead_123 : decode cL_ahead 123 = .ok (.aload 5, 2) := by decide +kernel
theorem dL_ahead_125 : decode cL_ahead 125 = .ok (.aload 6, 2) := by decide +kernel
theorem dL_ahead_127 : decode cL_ahead 127 = .ok (.invokestatic 83, 3) := by decide +kernel
theorem dL_ahead_130 : decode cL_ahead 130 = .ok (.ifCond .ne 6, 3) := by decide +kernel
theorem dL_ahead_133 : decode cL_ahead 133 = .ok (.goto 9, 3) := by decide +kernel
theorem dL_ahead_136 : decode cL_ahead 136 = .ok (.iinc 11 5, 3) := by decide +kernel
theorem dL_ahead_139 : decode cL_ahead 139 = .ok (.goto (-48), 3) := by decide +kernel
theorem dL_ahead_142 : decode cL_ahead 142 = .ok (.aload_n 0, 1) := by decide +kernel
theorem dL_ahead_143 : decode cL_ahead 143 = .ok (.iload 7, 2) := by decide +kernel
theorem dL_ahead_145 : decode cL_ahead 145 = .ok (.iload 8, 2) := by decide +kernel
theorem dL_ahead_147 : decode cL_ahead 147 = .ok (.iload 9, 2) := by decide +kernel
theorem dL_ahead_149 : decode cL_ahead 149 = .ok (.invokevirtual 86, 3) := by decide +kernel
theorem dL_ahead_152 : decode cL_ahead 152 = .ok (.iload 11, 2) := by decide +kernel
theorem dL_ahead_154 : decode cL_ahead 154 = .ok (.sipush 1440, 3) := by decide +kernel
theorem dL_ahead_157 : decode cL_ahead 157 = .ok (.if_icmp .ge 8, 3) := by decide +kernel
theorem dL_ahead_160 : decode cL_ahead 160 = .ok (.iload 11, 2) := by decide +kernel
theorem dL_ahead_162 : decode cL_ahead 162 = .ok (.goto 4, 3) := by decide +kernel
theorem dL_ahead_165 : decode cL_ahead 165 = .ok (.iconst (-1), 1) := by decide +kernel
theorem dL_ahead_166 : decode cL_ahead 166 = .ok (.if_icmp .eq 5, 3) := by decide +kernel
theorem dL_ahead_169 : decode cL_ahead 169 = .ok (.iconst 0, 1) := by decide +kernel
theorem dL_ahead_170 : decode cL_ahead 170 = .ok (.ireturn, 1) := by decide +kernel
theorem dL_ahead_171 : decode cL_ahead 171 = .ok (.aload 5, 2) := by decide +kernel
theorem dL_ahead_173 : decode cL_ahead 173 = .ok (.iconst 1, 1) := by decide +kernel
theorem dL_ahead_174 : decode cL_ahead 174 = .ok (.iaload, 1) := by decide +kernel
theorem dL_ahead_175 : decode cL_ahead 175 = .ok (.ifCond .ne 5, 3) := by decide +kernel
theorem dL_ahead_178 : decode cL_ahead 178 = .ok (.iconst 1, 1) := by decide +kernel
theorem dL_ahead_179 : decode cL_ahead 179 = .ok (.ireturn, 1) := by decide +kernel
theorem dL_ahead_180 : decode cL_ahead 180 = .ok (.iload_n 1, 1) := by decide +kernel
theorem dL_ahead_181 : decode cL_ahead 181 = .ok (.bipush 6, 2) := by decide +kernel
theorem dL_ahead_183 : decode cL_ahead 183 = .ok (.ishr, 1) := by decide +kernel
theorem dL_ahead_184 : decode cL_ahead 184 = .ok (.aload 5, 2) := by decide +kernel
theorem dL_ahead_186 : decode cL_ahead 186 = .ok (.iconst 1, 1) := by decide +kernel
theorem dL_ahead_187 : decode cL_ahead 187 = .ok (.iaload, 1) := by decide +kernel
theorem dL_ahead_188 : decode cL_ahead 188 = .ok (.invokestatic 47, 3) := by decide +kernel
theorem dL_ahead_191 : decode cL_ahead 191 = .ok (.istore 12, 2) := by decide +kernel
theorem dL_ahead_193 : decode cL_ahead 193 = .ok (.iconst 0, 1) := by decide +kernel
theorem dL_ahead_194 : decode cL_ahead 194 = .ok (.istore 13, 2) := by decide +kernel
theorem dL_ahead_196 : decode cL_ahead 196 = .ok (.iload 13, 2) := by decide +kernel
theorem dL_ahead_198 : decode cL_ahead 198 = .ok (.sipush 10080, 3) := by decide +kernel
theorem dL_ahead_201 : decode cL_ahead 201 = .ok (.if_icmp .ge 80, 3) := by decide +kernel
theorem dL_ahead_204 : decode cL_ahead 204 = .ok (.iconst 2, 1) := by decide +kernel
theorem dL_ahead_205 : decode cL_ahead 205 = .ok (.aload 6, 2) := by decide +kernel
theorem dL_ahead_207 : decode cL_ahead 207 = .ok (.bipush 9, 2) := by decide +kernel
theorem dL_ahead_209 : decode cL_ahead 209 = .ok (.iload 12, 2) := by decide +kernel
theorem dL_ahead_211 : decode cL_ahead 211 = .ok (.imul, 1) := by decide +kernel
theorem dL_ahead_212 : decode cL_ahead 212 = .ok (.iconst 1, 1) := by decide +kernel
theorem dL_ahead_213 : decode cL_ahead 213 = .ok (.iadd, 1) := by decide +kernel
theorem dL_ahead_214 : decode cL_ahead 214 = .ok (.iaload, 1) := by decide +kernel
theorem dL_ahead_215 : decode cL_ahead 215 = .ok (.iload 13, 2) := by decide +kernel
theorem dL_ahead_217 : decode cL_ahead 217 = .ok (.sipush 1440, 3) := by decide +kernel
theorem dL_ahead_220 : decode cL_ahead 220 = .ok (.idiv, 1) := by decide +kernel
theorem dL_ahead_221 : decode cL_ahead 221 = .ok (.iload 13, 2) := by decide +kernel
theorem dL_ahead_223 : decode cL_ahead 223 = .ok (.sipush 1440, 3) := by decide +kernel
theorem dL_ahead_226 : decode cL_ahead 226 = .ok (.irem, 1) := by decide +kernel
theorem dL_ahead_227 : decode cL_ahead 227 = .ok (.aload 6, 2) := by decide +kernel
theorem dL_ahead_229 : decode cL_ahead 229 = .ok (.bipush 9, 2) := by decide +kernel
theorem dL_ahead_231 : decode cL_ahead 231 = .ok (.iload 12, 2) := by decide +kernel
theorem dL_ahead_233 : decode cL_ahead 233 = .ok (.imul, 1) := by decide +kernel
theorem dL_ahead_234 : decode cL_ahead 234 = .ok (.iconst 4, 1) := by decide +kernel
theorem dL_ahead_235 : decode cL_ahead 235 = .ok (.iadd, 1) := by decide +kernel
theorem dL_ahead_236 : decode cL_ahead 236 = .ok (.iaload, 1) := by decide +kernel
theorem dL_ahead_237 : decode cL_ahead 237 = .ok (.iconst 0, 1) := by decide +kernel
theorem dL_ahead_238 : decode cL_ahead 238 = .ok (.aload 6, 2) := by decide +kernel
theorem dL_ahead_240 : decode cL_ahead 240 = .ok (.bipush 9, 2) := by decide +kernel
theorem dL_ahead_242 : decode cL_ahead 242 = .ok (.iload 12, 2) := by decide +kernel
theorem dL_ahead_244 : decode cL_ahead 244 = .ok (.imul, 1) := by decide +kernel
theorem dL_ahead_245 : decode cL_ahead 245 = .ok (.bipush 8, 2) := by decide +kernel
theorem dL_ahead_247 : decode cL_ahead 247 = .ok (.iadd, 1) := by decide +kernel
theorem dL_ahead_248 : decode cL_ahead 248 = .ok (.iaload, 1) := by decide +kernel
theorem dL_ahead_249 : decode cL_ahead 249 = .ok (.sipush 999, 3) := by decide +kernel
theorem dL_ahead_252 : decode cL_ahead 252 = .ok (.aload 5, 2) := by decide +kernel
theorem dL_ahead_254 : decode cL_ahead 254 = .ok (.aload 6, 2) := by decide +kernel
theorem dL_ahead_256 : decode cL_ahead 256 = .ok (.invokestatic 75, 3) := by decide +kernel
theorem dL_ahead_259 : decode cL_ahead 259 = .ok (.aload_n 3, 1) := by decide +kernel
theorem dL_ahead_260 : decode cL_ahead 260 = .ok (.aload 4, 2) := by decide +kernel
theorem dL_ahead_262 : decode cL_ahead 262 = .ok (.aload 5, 2) := by decide +kernel
theorem dL_ahead_264 : decode cL_ahead 264 = .ok (.aload 6, 2) := by decide +kernel
theorem dL_ahead_266 : decode cL_ahead 266 = .ok (.invokestatic 83, 3) := by decide +kernel
theorem dL_ahead_269 : decode cL_ahead 269 = .ok (.ifCond .ne 6, 3) := by decide +kernel
theorem dL_ahead_272 : decode cL_ahead 272 = .ok (.goto 9, 3) := by decide +kernel
theorem dL_ahead_275 : decode cL_ahead 275 = .ok (.iinc 13 5, 3) := by decide +kernel
theorem dL_ahead_278 : decode cL_ahead 278 = .ok (.goto (-82), 3) := by decide +kernel
theorem dL_ahead_281 : decode cL_ahead 281 = .ok (.aload_n 0, 1) := by decide +kernel
theorem dL_ahead_282 : decode cL_ahead 282 = .ok (.iload 12, 2) := by decide +kernel
theorem dL_ahead_284 : decode cL_ahead 284 = .ok (.invokevirtual 90, 3) := by decide +kernel
theorem dL_ahead_287 : decode cL_ahead 287 = .ok (.iload 13, 2) := by decide +kernel
theorem dL_ahead_289 : decode cL_ahead 289 = .ok (.sipush 10080, 3) := by decide +kernel
theorem dL_ahead_292 : decode cL_ahead 292 = .ok (.if_icmp .ge 8, 3) := by decide +kernel
theorem dL_ahead_295 : decode cL_ahead 295 = .ok (.iload 13, 2) := by decide +kernel
theorem dL_ahead_297 : decode cL_ahead 297 = .ok (.goto 4, 3) := by decide +kernel
theorem dL_ahead_300 : decode cL_ahead 300 = .ok (.iconst (-1), 1) := by decide +kernel
theorem dL_ahead_301 : decode cL_ahead 301 = .ok (.if_icmp .eq 5, 3) := by decide +kernel
theorem dL_ahead_304 : decode cL_ahead 304 = .ok (.iconst 0, 1) := by decide +kernel
theorem dL_ahead_305 : decode cL_ahead 305 = .ok (.ireturn, 1) := by decide +kernel
theorem dL_ahead_306 : decode cL_ahead 306 = .ok (.aload 6, 2) := by decide +kernel
theorem dL_ahead_308 : decode cL_ahead 308 = .ok (.bipush 9, 2) := by decide +kernel
theorem dL_ahead_310 : decode cL_ahead 310 = .ok (.iload 12, 2) := by decide +kernel
theorem dL_ahead_312 : decode cL_ahead 312 = .ok (.imul, 1) := by decide +kernel
theorem dL_ahead_313 : decode cL_ahead 313 = .ok (.iaload, 1) := by decide +kernel
theorem dL_ahead_314 : decode cL_ahead 314 = .ok (.ifCond .eq 5, 3) := by decide +kernel
theorem dL_ahead_317 : decode cL_ahead 317 = .ok (.iconst 1, 1) := by decide +kernel
theorem dL_ahead_318 : decode cL_ahead 318 = .ok (.ireturn, 1) := by decide +kernel
theorem dL_ahead_319 : decode cL_ahead 319 = .ok (.aload 6, 2) := by decide +kernel
theorem dL_ahead_321 : decode cL_ahead 321 = .ok (.bipush 9, 2) := by decide +kernel
theorem dL_ahead_323 : decode cL_ahead 323 = .ok (.iload 12, 2) := by decide +kernel
theorem dL_ahead_325 : decode cL_ahead 325 = .ok (.imul, 1) := by decide +kernel
theorem dL_ahead_326 : decode cL_ahead 326 = .ok (.bipush 6, 2) := by decide +kernel
theorem dL_ahead_328 : decode cL_ahead 328 = .ok (.iadd, 1) := by decide +kernel
theorem dL_ahead_329 : decode cL_ahead 329 = .ok (.iaload, 1) := by decide +kernel
theorem dL_ahead_330 : decode cL_ahead 330 = .ok (.istore 14, 2) := by decide +kernel
theorem dL_ahead_332 : decode cL_ahead 332 = .ok (.bipush (-101), 2) := by decide +kernel
theorem dL_ahead_334 : decode cL_ahead 334 = .ok (.istore 15, 2) := by decide +kernel
theorem dL_ahead_336 : decode cL_ahead 336 = .ok (.bipush (-60), 2) := by decide +kernel
theorem dL_ahead_338 : decode cL_ahead 338 = .ok (.istore 16, 2) := by decide +kernel
theorem dL_ahead_340 : decode cL_ahead 340 = .ok (.iload 16, 2) := by decide +kernel
theorem dL_ahead_342 : decode cL_ahead 342 = .ok (.bipush 121, 2) := by decide +kernel
theorem dL_ahead_344 : decode cL_ahead 344 = .ok (.if_icmp .ge 137, 3) := by decide +kernel
theorem dL_ahead_347 : decode cL_ahead 347 = .ok (.bipush 28, 2) := by decide +kernel
theorem dL_ahead_349 : decode cL_ahead 349 = .ok (.newarray .int, 2) := by decide +kernel
theorem dL_ahead_351 : decode cL_ahead 351 = .ok (.astore 17, 2) := by decide +kernel
theorem dL_ahead_353 : decode cL_ahead 353 = .ok (.aload 6, 2) := by decide +kernel
theorem dL_ahead_355 : decode cL_ahead 355 = .ok (.bipush 9, 2) := by decide +kernel
theorem dL_ahead_357 : decode cL_ahead 357 = .ok (.iload 12, 2) := by decide +kernel
theorem dL_ahead_359 : decode cL_ahead 359 = .ok (.imul, 1) := by decide +kernel
theorem dL_ahead_360 : decode cL_ahead 360 = .ok (.bipush 6, 2) := by decide +kernel
theorem dL_ahead_362 : decode cL_ahead 362 = .ok (.iadd, 1) := by decide +kernel
theorem dL_ahead_363 : decode cL_ahead 363 = .ok (.iload 16, 2) := by decide +kernel
theorem dL_ahead_365 : decode cL_ahead 365 = .ok (.iastore, 1) := by decide +kernel
theorem dL_ahead_366 : decode cL_ahead 366 = .ok (.aload 6, 2) := by decide +kernel
theorem dL_ahead_368 : decode cL_ahead 368 = .ok (.bipush 9, 2) := by decide +kernel
theorem dL_ahead_370 : decode cL_ahead 370 = .ok (.iload 12, 2) := by decide +kernel
theorem dL_ahead_372 : decode cL_ahead 372 = .ok (.imul, 1) := by decide +kernel
theorem dL_ahead_373 : decode cL_ahead 373 = .ok (.iconst 2, 1) := by decide +kernel
theorem dL_ahead_374 : decode cL_ahead 374 = .ok (.iadd, 1) := by decide +kernel
theorem dL_ahead_375 : decode cL_ahead 375 = .ok (.iaload, 1) := by decide +kernel
theorem dL_ahead_376 : decode cL_ahead 376 = .ok (.aload_n 3, 1) := by decide +kernel
theorem dL_ahead_377 : decode cL_ahead 377 = .ok (.aload 5, 2) := by decide +kernel
theorem dL_ahead_379 : decode cL_ahead 379 = .ok (.aload 6, 2) := by decide +kernel
theorem dL_ahead_381 : decode cL_ahead 381 = .ok (.aload 17, 2) := by decide +kernel
theorem dL_ahead_383 : decode cL_ahead 383 = .ok (.invokestatic 30, 3) := by decide +kernel
theorem dL_ahead_386 : decode cL_ahead 386 = .ok (.pop, 1) := by decide +kernel
theorem dL_ahead_387 : decode cL_ahead 387 = .ok (.iconst 0, 1) := by decide +kernel
theorem dL_ahead_388 : decode cL_ahead 388 = .ok (.istore 18, 2) := by decide +kernel
theorem dL_ahead_390 : decode cL_ahead 390 = .ok (.iconst 0, 1) := by decide +kernel
theorem dL_ahead_391 : decode cL_ahead 391 = .ok (.istore 19, 2) := by decide +kernel
theorem dL_ahead_393 : decode cL_ahead 393 = .ok (.iload 19, 2) := by decide +kernel
theorem dL_ahead_395 : decode cL_ahead 395 = .ok (.aload 5, 2) := by decide +kernel
theorem dL_ahead_397 : decode cL_ahead 397 = .ok (.iconst 1, 1) := by decide +kernel
theorem dL_ahead_398 : decode cL_ahead 398 = .ok (.iaload, 1) := by decide +kernel
theorem dL_ahead_399 : decode cL_ahead 399 = .ok (.if_icmp .ge 62, 3) := by decide +kernel
theorem dL_ahead_402 : decode cL_ahead 402 = .ok (.iload 18, 2) := by decide +kernel
theorem dL_ahead_404 : decode cL_ahead 404 = .ok (.iload 19, 2) := by decide +kernel
theorem dL_ahead_406 : decode cL_ahead 406 = .ok (.iload 12, 2) := by decide +kernel
theorem dL_ahead_408 : decode cL_ahead 408 = .ok (.if_icmp .eq 43, 3) := by decide +kernel
theorem dL_ahead_411 : decode cL_ahead 411 = .ok (.aload 6, 2) := by decide +kernel
theorem dL_ahead_413 : decode cL_ahead 413 = .ok (.bipush 9, 2) := by decide +kernel
theorem dL_ahead_415 : decode cL_ahead 415 = .ok (.iload 19, 2) := by decide +kernel
theorem dL_ahead_417 : decode cL_ahead 417 = .ok (.imul, 1) := by decide +kernel
theorem dL_ahead_418 : decode cL_ahead 418 = .ok (.iconst 2, 1) := by decide +kernel
theorem dL_ahead_419 : decode cL_ahead 419 = .ok (.iadd, 1) := by decide +kernel
theorem dL_ahead_420 : decode cL_ahead 420 = .ok (.iaload, 1) := by decide +kernel
theorem dL_ahead_421 : decode cL_ahead 421 = .ok (.aload 6, 2) := by decide +kernel
theorem dL_ahead_423 : decode cL_ahead 423 = .ok (.bipush 9, 2) := by decide +kernel
theorem dL_ahead_425 : decode cL_ahead 425 = .ok (.iload 12, 2) := by decide +kernel
theorem dL_ahead_427 : decode cL_ahead 427 = .ok (.imul, 1) := by decide +kernel
theorem dL_ahead_428 : decode cL_ahead 428 = .ok (.iconst 2, 1) := by decide +kernel
theorem dL_ahead_429 : decode cL_ahead 429 = .ok (.iadd, 1) := by decide +kernel
theorem dL_ahead_430 : decode cL_ahead 430 = .ok (.iaload, 1) := by decide +kernel
theorem dL_ahead_431 : decode cL_ahead 431 = .ok (.if_icmp .ne 20, 3) := by decide +kernel
theorem dL_ahead_434 : decode cL_ahead 434 = .ok (.aload 17, 2) := by decide +kernel
theorem dL_ahead_436 : decode cL_ahead 436 = .ok (.iconst 4, 1) := by decide +kernel
theorem dL_ahead_437 : decode cL_ahead 437 = .ok (.iload 19, 2) := by decide +kernel
theorem dL_ahead_439 : decode cL_ahead 439 = .ok (.imul, 1) := by decide +kernel
theorem dL_ahead_440 : decode cL_ahead 440 = .ok (.iconst 3, 1) := by decide +kernel
theorem dL_ahead_441 : decode cL_ahead 441 = .ok (.iadd, 1) := by decide +kernel
theorem dL_ahead_442 : decode cL_ahead 442 = .ok (.iaload, 1) := by decide +kernel
theorem dL_ahead_443 : decode cL_ahead 443 = .ok (.iconst 2, 1) := by decide +kernel
theorem dL_ahead_444 : decode cL_ahead 444 = .ok (.if_icmp .ne 7, 3) := by decide +kernel
theorem dL_ahead_447 : decode cL_ahead 447 = .ok (.iconst 1, 1) := by decide +kernel
theorem dL_ahead_448 : decode cL_ahead 448 = .ok (.goto 4, 3) := by decide +kernel
theorem dL_ahead_451 : decode cL_ahead 451 = .ok (.iconst 0, 1) := by decide +kernel
theorem dL_ahead_452 : decode cL_ahead 452 = .ok (.iadd, 1) := by decide +kernel
theorem dL_ahead_453 : decode cL_ahead 453 = .ok (.istore 18, 2) := by decide +kernel
theorem dL_ahead_455 : decode cL_ahead 455 = .ok (.iinc 19 1, 3) := by decide +kernel
theorem dL_ahead_458 : decode cL_ahead 458 = .ok (.goto (-65), 3) := by decide +kernel
theorem dL_ahead_461 : decode cL_ahead 461 = .ok (.iload 18, 2) := by decide +kernel
theorem dL_ahead_463 : decode cL_ahead 463 = .ok (.ifCond .ne 8, 3) := by decide +kernel
theorem dL_ahead_466 : decode cL_ahead 466 = .ok (.iload 16, 2) := by decide +kernel
theorem dL_ahead_468 : decode cL_ahead 468 = .ok (.goto 5, 3) := by decide +kernel
theorem dL_ahead_471 : decode cL_ahead 471 = .ok (.iload 15, 2) := by decide +kernel
theorem dL_ahead_473 : decode cL_ahead 473 = .ok (.istore 15, 2) := by decide +kernel
theorem dL_ahead_475 : decode cL_ahead 475 = .ok (.iinc 16 1, 3) := by decide +kernel
theorem dL_ahead_478 : decode cL_ahead 478 = .ok (.goto (-138), 3) := by decide +kernel
theorem dL_ahead_481 : decode cL_ahead 481 = .ok (.aload 6, 2) := by decide +kernel
theorem dL_ahead_483 : decode cL_ahead 483 = .ok (.bipush 9, 2) := by decide +kernel
theorem dL_ahead_485 : decode cL_ahead 485 = .ok (.iload 12, 2) := by decide +kernel
theorem dL_ahead_487 : decode cL_ahead 487 = .ok (.imul, 1) := by decide +kernel
theorem dL_ahead_488 : decode cL_ahead 488 = .ok (.bipush 6, 2) := by decide +kernel
theorem dL_ahead_490 : decode cL_ahead 490 = .ok (.iadd, 1) := by decide +kernel
theorem dL_ahead_491 : decode cL_ahead 491 = .ok (.iload_n 1, 1) := by decide +kernel
theorem dL_ahead_492 : decode cL_ahead 492 = .ok (.bipush 9, 2) := by decide +kernel
theorem dL_ahead_494 : decode cL_ahead 494 = .ok (.ishr, 1) := by decide +kernel
theorem dL_ahead_495 : decode cL_ahead 495 = .ok (.sipush 181, 3) := by decide +kernel
theorem dL_ahead_498 : decode cL_ahead 498 = .ok (.invokestatic 47, 3) := by decide +kernel
theorem dL_ahead_501 : decode cL_ahead 501 = .ok (.bipush 60, 2) := by decide +kernel
theorem dL_ahead_503 : decode cL_ahead 503 = .ok (.isub, 1) := by decide +kernel
theorem dL_ahead_504 : decode cL_ahead 504 = .ok (.iastore, 1) := by decide +kernel
theorem dL_ahead_505 : decode cL_ahead 505 = .ok (.iconst 0, 1) := by decide +kernel
theorem dL_ahead_506 : decode cL_ahead 506 = .ok (.istore 16, 2) := by decide +kernel
theorem dL_ahead_508 : decode cL_ahead 508 = .ok (.iload 16, 2) := by decide +kernel
theorem dL_ahead_510 : decode cL_ahead 510 = .ok (.bipush 8, 2) := by decide +kernel
theorem dL_ahead_512 : decode cL_ahead 512 = .ok (.if_icmp .ge 53, 3) := by decide +kernel
theorem dL_ahead_515 : decode cL_ahead 515 = .ok (.aload_n 0, 1) := by decide +kernel
theorem dL_ahead_516 : decode cL_ahead 516 = .ok (.iload 12, 2) := by decide +kernel
theorem dL_ahead_518 : decode cL_ahead 518 = .ok (.aload 6, 2) := by decide +kernel
theorem dL_ahead_520 : decode cL_ahead 520 = .ok (.bipush 9, 2) := by decide +kernel
theorem dL_ahead_522 : decode cL_ahead 522 = .ok (.iload 12, 2) := by decide +kernel
theorem dL_ahead_524 : decode cL_ahead 524 = .ok (.imul, 1) := by decide +kernel
theorem dL_ahead_525 : decode cL_ahead 525 = .ok (.bipush 6, 2) := by decide +kernel
theorem dL_ahead_527 : decode cL_ahead 527 = .ok (.iadd, 1) := by decide +kernel
theorem dL_ahead_528 : decode cL_ahead 528 = .ok (.iaload, 1) := by decide +kernel
theorem dL_ahead_529 : decode cL_ahead 529 = .ok (.iload 16, 2) := by decide +kernel
theorem dL_ahead_531 : decode cL_ahead 531 = .ok (.invokevirtual 93, 3) := by decide +kernel
theorem dL_ahead_534 : decode cL_ahead 534 = .ok (.aload 6, 2) := by decide +kernel
theorem dL_ahead_536 : decode cL_ahead 536 = .ok (.bipush 9, 2) := by decide +kernel
theorem dL_ahead_538 : decode cL_ahead 538 = .ok (.iload 12, 2) := by decide +kernel
theorem dL_ahead_540 : decode cL_ahead 540 = .ok (.imul, 1) := by decide +kernel
theorem dL_ahead_541 : decode cL_ahead 541 = .ok (.iconst 2, 1) := by decide +kernel
theorem dL_ahead_542 : decode cL_ahead 542 = .ok (.iadd, 1) := by decide +kernel
theorem dL_ahead_543 : decode cL_ahead 543 = .ok (.iaload, 1) := by decide +kernel
theorem dL_ahead_544 : decode cL_ahead 544 = .ok (.iload 16, 2) := by decide +kernel
theorem dL_ahead_546 : decode cL_ahead 546 = .ok (.aload_n 3, 1) := by decide +kernel
theorem dL_ahead_547 : decode cL_ahead 547 = .ok (.aload 5, 2) := by decide +kernel
theorem dL_ahead_549 : decode cL_ahead 549 = .ok (.aload 6, 2) := by decide +kernel
theorem dL_ahead_551 : decode cL_ahead 551 = .ok (.invokestatic 38, 3) := by decide +kernel
theorem dL_ahead_554 : decode cL_ahead 554 = .ok (.if_icmp .eq 5, 3) := by decide +kernel
theorem dL_ahead_557 : decode cL_ahead 557 = .ok (.iconst 0, 1) := by decide +kernel
theorem dL_ahead_558 : decode cL_ahead 558 = .ok (.ireturn, 1) := by decide +kernel
theorem dL_ahead_559 : decode cL_ahead 559 = .ok (.iinc 16 1, 3) := by decide +kernel
theorem dL_ahead_562 : decode cL_ahead 562 = .ok (.goto (-54), 3) := by decide +kernel
theorem dL_ahead_565 : decode cL_ahead 565 = .ok (.aload 6, 2) := by decide +kernel
theorem dL_ahead_567 : decode cL_ahead 567 = .ok (.bipush 9, 2) := by decide +kernel
theorem dL_ahead_569 : decode cL_ahead 569 = .ok (.iload 12, 2) := by decide +kernel
theorem dL_ahead_571 : decode cL_ahead 571 = .ok (.imul, 1) := by decide +kernel
theorem dL_ahead_572 : decode cL_ahead 572 = .ok (.bipush 6, 2) := by decide +kernel
theorem dL_ahead_574 : decode cL_ahead 574 = .ok (.iadd, 1) := by decide +kernel
theorem dL_ahead_575 : decode cL_ahead 575 = .ok (.iload 14, 2) := by decide +kernel
theorem dL_ahead_577 : decode cL_ahead 577 = .ok (.iastore, 1) := by decide +kernel
theorem dL_ahead_578 : decode cL_ahead 578 = .ok (.aload_n 0, 1) := by decide +kernel
theorem dL_ahead_579 : decode cL_ahead 579 = .ok (.iload 12, 2) := by decide +kernel
theorem dL_ahead_581 : decode cL_ahead 581 = .ok (.invokevirtual 96, 3) := by decide +kernel
theorem dL_ahead_584 : decode cL_ahead 584 = .ok (.iload 15, 2) := by decide +kernel
theorem dL_ahead_586 : decode cL_ahead 586 = .ok (.if_icmp .ne 7, 3) := by decide +kernel
theorem dL_ahead_589 : decode cL_ahead 589 = .ok (.iconst 1, 1) := by decide +kernel
theorem dL_ahead_590 : decode cL_ahead 590 = .ok (.goto 4, 3) := by decide +kernel
theorem dL_ahead_593 : decode cL_ahead 593 = .ok (.iconst 0, 1) := by decide +kernel
theorem dL_ahead_594 : decode cL_ahead 594 = .ok (.ireturn, 1) := by decide +kernel
theorem dL_act_0 : decode cL_act 0 = .ok (.iload_n 1, 1) := by decide +kernel
theorem dL_act_1 : decode cL_act 1 = .ok (.bipush 8, 2) := by decide +kernel
theorem dL_act_3 : decode cL_act 3 = .ok (.if_icmp .lt 10, 3) := by decide +kernel
theorem dL_act_6 : decode cL_act 6 = .ok (.aload 7, 2) := by decide +kernel
theorem dL_act_8 : decode cL_act 8 = .ok (.iconst 1, 1) := by decide +kernel
theorem dL_act_9 : decode cL_act 9 = .ok (.iaload, 1) := by decide +kernel
theorem dL_act_10 : decode cL_act 10 = .ok (.ifCond .ne 436, 3) := by decide +kernel
theorem dL_act_13 : decode cL_act 13 = .ok (.aload 7, 2) := by decide +kernel
theorem dL_act_15 : decode cL_act 15 = .ok (.iconst 1, 1) := by decide +kernel
theorem dL_act_16 : decode cL_act 16 = .ok (.iaload, 1) := by decide +kernel
theorem dL_act_17 : decode cL_act 17 = .ok (.bipush 6, 2) := by decide +kernel
theorem dL_act_19 : decode cL_act 19 = .ok (.if_icmp .ne 5, 3) := by decide +kernel
theorem dL_act_22 : decode cL_act 22 = .ok (.iconst 1, 1) := by decide +kernel
theorem dL_act_23 : decode cL_act 23 = .ok (.ireturn, 1) := by decide +kernel
theorem dL_act_24 : decode cL_act 24 = .ok (.iload_n 2, 1) := by decide +kernel
theorem dL_act_25 : decode cL_act 25 = .ok (.iconst 2, 1) := by decide +kernel
theorem dL_act_26 : decode cL_act 26 = .ok (.ishr, 1) := by decide +kernel
theorem dL_act_27 : decode cL_act 27 = .ok (.bipush 7, 2) := by decide +kernel
theorem dL_act_29 : decode cL_act 29 = .ok (.invokestatic 47, 3) := by decide +kernel
theorem dL_act_32 : decode cL_act 32 = .ok (.istore 9, 2) := by decide +kernel
theorem dL_act_34 : decode cL_act 34 = .ok (.aload 5, 2) := by decide +kernel
theorem dL_act_36 : decode cL_act 36 = .ok (.iconst 0, 1) := by decide +kernel
theorem dL_act_37 : decode cL_act 37 = .ok (.iaload, 1) := by decide +kernel
theorem dL_act_38 : decode cL_act 38 = .ok (.iload_n 3, 1) := by decide +kernel
theorem dL_act_39 : decode cL_act 39 = .ok (.iload_n 2, 1) := by decide +kernel
theorem dL_act_40 : decode cL_act 40 = .ok (.iconst 5, 1) := by decide +kernel
theorem dL_act_41 : decode cL_act 41 = .ok (.ishr, 1) := by decide +kernel
theorem dL_act_42 : decode cL_act 42 = .ok (.iconst 3, 1) := by decide +kernel
theorem dL_act_43 : decode cL_act 43 = .ok (.invokestatic 47, 3) := by decide +kernel
theorem dL_act_46 : decode cL_act 46 = .ok (.ifCond .ne 9, 3) := by decide +kernel
theorem dL_act_49 : decode cL_act 49 = .ok (.sipush 900, 3) := by decide +kernel
theorem dL_act_52 : decode cL_act 52 = .ok (.goto 6, 3) := by decide +kernel
theorem dL_act_55 : decode cL_act 55 = .ok (.sipush 240, 3) := by decide +kernel
theorem dL_act_58 : decode cL_act 58 = .ok (.invokestatic 47, 3) := by decide +kernel
theorem dL_act_61 : decode cL_act 61 = .ok (.iadd, 1) := by decide +kernel
theorem dL_act_62 : decode cL_act 62 = .ok (.istore 10, 2) := by decide +kernel
theorem dL_act_64 : decode cL_act 64 = .ok (.iload 10, 2) := by decide +kernel
theorem dL_act_66 : decode cL_act 66 = .ok (.sipush 1439, 3) := by decide +kernel
theorem dL_act_69 : decode cL_act 69 = .ok (.if_icmp .le 8, 3) := by decide +kernel
theorem dL_act_72 : decode cL_act 72 = .ok (.sipush 1439, 3) := by decide +kernel
theorem dL_act_75 : decode cL_act 75 = .ok (.istore 10, 2) := by decide +kernel
theorem dL_act_77 : decode cL_act 77 = .ok (.iload_n 1, 1) := by decide +kernel
theorem dL_act_78 : decode cL_act 78 = .ok (.iconst 5, 1) := by decide +kernel
theorem dL_act_79 : decode cL_act 79 = .ok (.if_icmp .lt 10, 3) := by decide +kernel
theorem dL_act_82 : decode cL_act 82 = .ok (.aload 7, 2) := by decide +kernel
theorem dL_act_84 : decode cL_act 84 = .ok (.iconst 1, 1) := by decide +kernel
theorem dL_act_85 : decode cL_act 85 = .ok (.iaload, 1) := by decide +kernel
theorem dL_act_86 : decode cL_act 86 = .ok (.ifCond .ne 90, 3) := by decide +kernel
theorem dL_act_89 : decode cL_act 89 = .ok (.iconst 5, 1) := by decide +kernel
theorem dL_act_90 : decode cL_act 90 = .ok (.iload_n 3, 1) := by decide +kernel
theorem dL_act_91 : decode cL_act 91 = .ok (.bipush 10, 2) := by decide +kernel
theorem dL_act_93 : decode cL_act 93 = .ok (.ishr, 1) := by decide +kernel
theorem dL_act_94 : decode cL_act 94 = .ok (.iload_n 2, 1) := by decide +kernel
theorem dL_act_95 : decode cL_act 95 = .ok (.bipush 7, 2) := by decide +kernel
theorem dL_act_97 : decode cL_act 97 = .ok (.ishr, 1) := by decide +kernel
theorem dL_act_98 : decode cL_act 98 = .ok (.iconst 3, 1) := by decide +kernel
theorem dL_act_99 : decode cL_act 99 = .ok (.invokestatic 47, 3) := by decide +kernel
theorem dL_act_102 : decode cL_act 102 = .ok (.ifCond .ne 9, 3) := by decide +kernel
theorem dL_act_105 : decode cL_act 105 = .ok (.sipush 236, 3) := by decide +kernel
theorem dL_act_108 : decode cL_act 108 = .ok (.goto 5, 3) := by decide +kernel
theorem dL_act_111 : decode cL_act 111 = .ok (.bipush 60, 2) := by decide +kernel
theorem dL_act_113 : decode cL_act 113 = .ok (.invokestatic 47, 3) := by decide +kernel
theorem dL_act_116 : decode cL_act 116 = .ok (.iadd, 1) := by decide +kernel
theorem dL_act_117 : decode cL_act 117 = .ok (.istore 11, 2) := by decide +kernel
theorem dL_act_119 : decode cL_act 119 = .ok (.iload_n 2, 1) := by decide +kernel
theorem dL_act_120 : decode cL_act 120 = .ok (.bipush 9, 2) := by decide +kernel
theorem dL_act_122 : decode cL_act 122 = .ok (.ishr, 1) := by decide +kernel
theorem dL_act_123 : decode cL_act 123 = .ok (.bipush 9, 2) := by decide +kernel
theorem dL_act_125 : decode cL_act 125 = .ok (.invokestatic 47, 3) := by decide +kernel
theorem dL_act_128 : decode cL_act 128 = .ok (.istore 12, 2) := by decide +kernel
theorem dL_act_130 : decode cL_act 130 = .ok (.iload_n 2, 1) := by decide +kernel
theorem dL_act_131 : decode cL_act 131 = .ok (.iconst 2, 1) := by decide +kernel
theorem dL_act_132 : decode cL_act 132 = .ok (.invokestatic 47, 3) := by decide +kernel
theorem dL_act_135 : decode cL_act 135 = .ok (.iload_n 2, 1) := by decide +kernel
theorem dL_act_136 : decode cL_act 136 = .ok (.iconst 4, 1) := by decide +kernel
theorem dL_act_137 : decode cL_act 137 = .ok (.ishr, 1) := by decide +kernel
theorem dL_act_138 : decode cL_act 138 = .ok (.bipush 6, 2) := by decide +kernel
theorem dL_act_140 : decode cL_act 140 = .ok (.invokestatic 47, 3) := by decide +kernel
theorem dL_act_143 : decode cL_act 143 = .ok (.iload 9, 2) := by decide +kernel
theorem dL_act_145 : decode cL_act 145 = .ok (.iload 10, 2) := by decide +kernel
theorem dL_act_147 : decode cL_act 147 = .ok (.iload 11, 2) := by decide +kernel
theorem dL_act_149 : decode cL_act 149 = .ok (.iload 12, 2) := by decide +kernel
theorem dL_act_151 : decode cL_act 151 = .ok (.iload 11, 2) := by decide +kernel
theorem dL_act_153 : decode cL_act 153 = .ok (.if_icmp .ge 8, 3) := by decide +kernel
theorem dL_act_156 : decode cL_act 156 = .ok (.iload 12, 2) := by decide +kernel
theorem dL_act_158 : decode cL_act 158 = .ok (.goto 5, 3) := by decide +kernel
theorem dL_act_161 : decode cL_act 161 = .ok (.iload 11, 2) := by decide +kernel
theorem dL_act_163 : decode cL_act 163 = .ok (.iconst (-1), 1) := by decide +kernel
theorem dL_act_164 : decode cL_act 164 = .ok (.iload 4, 2) := by decide +kernel
theorem dL_act_166 : decode cL_act 166 = .ok (.aload 7, 2) := by decide +kernel
theorem dL_act_168 : decode cL_act 168 = .ok (.aload 8, 2) := by decide +kernel
theorem dL_act_170 : decode cL_act 170 = .ok (.invokestatic 75, 3) := by decide +kernel
theorem dL_act_173 : decode cL_act 173 = .ok (.goto 62, 3) := by decide +kernel
theorem dL_act_176 : decode cL_act 176 = .ok (.iload_n 2, 1) := by decide +kernel
theorem dL_act_177 : decode cL_act 177 = .ok (.bipush 6, 2) := by decide +kernel
theorem dL_act_179 : decode cL_act 179 = .ok (.ishr, 1) := by decide +kernel
theorem dL_act_180 : decode cL_act 180 = .ok (.aload 7, 2) := by decide +kernel
theorem dL_act_182 : decode cL_act 182 = .ok (.iconst 1, 1) := by decide +kernel
theorem dL_act_183 : decode cL_act 183 = .ok (.iaload, 1) := by decide +kernel
theorem dL_act_184 : decode cL_act 184 = .ok (.invokestatic 47, 3) := by decide +kernel
theorem dL_act_187 : decode cL_act 187 = .ok (.istore 11, 2) := by decide +kernel
theorem dL_act_189 : decode cL_act 189 = .ok (.iconst 2, 1) := by decide +kernel
theorem dL_act_190 : decode cL_act 190 = .ok (.aload 8, 2) := by decide +kernel
theorem dL_act_192 : decode cL_act 192 = .ok (.bipush 9, 2) := by decide +kernel
theorem dL_act_194 : decode cL_act 194 = .ok (.iload 11, 2) := by decide +kernel
theorem dL_act_196 : decode cL_act 196 = .ok (.imul, 1) := by decide +kernel
theorem dL_act_197 : decode cL_act 197 = .ok (.iconst 1, 1) := by decide +kernel
theorem dL_act_198 : decode cL_act 198 = .ok (.iadd, 1) := by decide +kernel
theorem dL_act_199 : decode cL_act 199 = .ok (.iaload, 1) := by decide +kernel
theorem dL_act_200 : decode cL_act 200 = .ok (.iload 9, 2) := by decide +kernel
theorem dL_act_202 : decode cL_act 202 = .ok (.iload 10, 2) := by decide +kernel
theorem dL_act_204 : decode cL_act 204 = .ok (.aload 8, 2) := by decide +kernel
theorem dL_act_206 : decode cL_act 206 = .ok (.bipush 9, 2) := by decide +kernel
theorem dL_act_208 : decode cL_act 208 = .ok (.iload 11, 2) := by decide +kernel
theorem dL_act_210 : decode cL_act 210 = .ok (.imul, 1) := by decide +kernel
theorem dL_act_211 : decode cL_act 211 = .ok (.iconst 4, 1) := by decide +kernel
theorem dL_act_212 : decode cL_act 212 = .ok (.iadd, 1) := by decide +kernel
theorem dL_act_213 : decode cL_act 213 = .ok (.iaload, 1) := by decide +kernel
theorem dL_act_214 : decode cL_act 214 = .ok (.iconst 0, 1) := by decide +kernel
theorem dL_act_215 : decode cL_act 215 = .ok (.aload 8, 2) := by decide +kernel
theorem dL_act_217 : decode cL_act 217 = .ok (.bipush 9, 2) := by decide +kernel
theorem dL_act_219 : decode cL_act 219 = .ok (.iload 11, 2) := by decide +kernel
theorem dL_act_221 : decode cL_act 221 = .ok (.imul, 1) := by decide +kernel
theorem dL_act_222 : decode cL_act 222 = .ok (.bipush 8, 2) := by decide +kernel
theorem dL_act_224 : decode cL_act 224 = .ok (.iadd, 1) := by decide +kernel
theorem dL_act_225 : decode cL_act 225 = .ok (.iaload, 1) := by decide +kernel
theorem dL_act_226 : decode cL_act 226 = .ok (.iload 4, 2) := by decide +kernel
theorem dL_act_228 : decode cL_act 228 = .ok (.aload 7, 2) := by decide +kernel
theorem dL_act_230 : decode cL_act 230 = .ok (.aload 8, 2) := by decide +kernel
theorem dL_act_232 : decode cL_act 232 = .ok (.invokestatic 75, 3) := by decide +kernel
theorem dL_act_235 : decode cL_act 235 = .ok (.bipush 9, 2) := by decide +kernel
theorem dL_act_237 : decode cL_act 237 = .ok (.aload 7, 2) := by decide +kernel
theorem dL_act_239 : decode cL_act 239 = .ok (.iconst 1, 1) := by decide +kernel
theorem dL_act_240 : decode cL_act 240 = .ok (.iaload, 1) := by decide +kernel
theorem dL_act_241 : decode cL_act 241 = .ok (.imul, 1) := by decide +kernel
theorem dL_act_242 : decode cL_act 242 = .ok (.istore 11, 2) := by decide +kernel
theorem dL_act_244 : decode cL_act 244 = .ok (.aload 5, 2) := by decide +kernel
theorem dL_act_246 : decode cL_act 246 = .ok (.aload 6, 2) := by decide +kernel
theorem dL_act_248 : decode cL_act 248 = .ok (.aload 7, 2) := by decide +kernel
theorem dL_act_250 : decode cL_act 250 = .ok (.aload 8, 2) := by decide +kernel
theorem dL_act_252 : decode cL_act 252 = .ok (.invokestatic 83, 3) := by decide +kernel
theorem dL_act_255 : decode cL_act 255 = .ok (.istore 12, 2) := by decide +kernel
theorem dL_act_257 : decode cL_act 257 = .ok (.iload 12, 2) := by decide +kernel
theorem dL_act_259 : decode cL_act 259 = .ok (.ifCond .le 55, 3) := by decide +kernel
theorem dL_act_262 : decode cL_act 262 = .ok (.aload 8, 2) := by decide +kernel
theorem dL_act_264 : decode cL_act 264 = .ok (.iload 11, 2) := by decide +kernel
theorem dL_act_266 : decode cL_act 266 = .ok (.iaload, 1) := by decide +kernel
theorem dL_act_267 : decode cL_act 267 = .ok (.iconst 1, 1) := by decide +kernel
theorem dL_act_268 : decode cL_act 268 = .ok (.if_icmp .ne 40, 3) := by decide +kernel
theorem dL_act_271 : decode cL_act 271 = .ok (.aload 8, 2) := by decide +kernel
theorem dL_act_273 : decode cL_act 273 = .ok (.iload 11, 2) := by decide +kernel
theorem dL_act_275 : decode cL_act 275 = .ok (.iconst 5, 1) := by decide +kernel
theorem dL_act_276 : decode cL_act 276 = .ok (.iadd, 1) := by decide +kernel
theorem dL_act_277 : decode cL_act 277 = .ok (.iaload, 1) := by decide +kernel
theorem dL_act_278 : decode cL_act 278 = .ok (.ifCond .gt 30, 3) := by decide +kernel
theorem dL_act_281 : decode cL_act 281 = .ok (.aload_n 0, 1) := by decide +kernel
theorem dL_act_282 : decode cL_act 282 = .ok (.aload 8, 2) := by decide +kernel
theorem dL_act_284 : decode cL_act 284 = .ok (.iload 11, 2) := by decide +kernel
theorem dL_act_286 : decode cL_act 286 = .ok (.iconst 1, 1) := by decide +kernel
theorem dL_act_287 : decode cL_act 287 = .ok (.iadd, 1) := by decide +kernel
theorem dL_act_288 : decode cL_act 288 = .ok (.iaload, 1) := by decide +kernel
theorem dL_act_289 : decode cL_act 289 = .ok (.iload 9, 2) := by decide +kernel
theorem dL_act_291 : decode cL_act 291 = .ok (.iload 10, 2) := by decide +kernel
theorem dL_act_293 : decode cL_act 293 = .ok (.aload 8, 2) := by decide +kernel
theorem dL_act_295 : decode cL_act 295 = .ok (.iload 11, 2) := by decide +kernel
theorem dL_act_297 : decode cL_act 297 = .ok (.iconst 4, 1) := by decide +kernel
theorem dL_act_298 : decode cL_act 298 = .ok (.iadd, 1) := by decide +kernel
theorem dL_act_299 : decode cL_act 299 = .ok (.iaload, 1) := by decide +kernel
theorem dL_act_300 : decode cL_act 300 = .ok (.invokevirtual 79, 3) := by decide +kernel
theorem dL_act_303 : decode cL_act 303 = .ok (.iload 12, 2) := by decide +kernel
theorem dL_act_305 : decode cL_act 305 = .ok (.if_icmp .ne 7, 3) := by decide +kernel
theorem dL_act_308 : decode cL_act 308 = .ok (.iconst 1, 1) := by decide +kernel
theorem dL_act_309 : decode cL_act 309 = .ok (.goto 4, 3) := by decide +kernel
theorem dL_act_312 : decode cL_act 312 = .ok (.iconst 0, 1) := by decide +kernel
theorem dL_act_313 : decode cL_act 313 = .ok (.ireturn, 1) := by decide +kernel
theorem dL_act_314 : decode cL_act 314 = .ok (.aload 7, 2) := by decide +kernel
theorem dL_act_316 : decode cL_act 316 = .ok (.iconst 2, 1) := by decide +kernel
theorem dL_act_317 : decode cL_act 317 = .ok (.iconst 0, 1) := by decide +kernel
theorem dL_act_318 : decode cL_act 318 = .ok (.iastore, 1) := by decide +kernel
theorem dL_act_319 : decode cL_act 319 = .ok (.aload 8, 2) := by decide +kernel
theorem dL_act_321 : decode cL_act 321 = .ok (.iload 11, 2) := by decide +kernel
theorem dL_act_323 : decode cL_act 323 = .ok (.iaload, 1) := by decide +kernel
theorem dL_act_324 : decode cL_act 324 = .ok (.iconst 2, 1) := by decide +kernel
theorem dL_act_325 : decode cL_act 325 = .ok (.if_icmp .ne 21, 3) := by decide +kernel
theorem dL_act_328 : decode cL_act 328 = .ok (.aload 8, 2) := by decide +kernel
theorem dL_act_330 : decode cL_act 330 = .ok (.iload 11, 2) := by decide +kernel
theorem dL_act_332 : decode cL_act 332 = .ok (.bipush 7, 2) := by decide +kernel
theorem dL_act_334 : decode cL_act 334 = .ok (.iadd, 1) := by decide +kernel
theorem dL_act_335 : decode cL_act 335 = .ok (.iaload, 1) := by decide +kernel
theorem dL_act_336 : decode cL_act 336 = .ok (.aload 7, 2) := by decide +kernel
theorem dL_act_338 : decode cL_act 338 = .ok (.aload 8, 2) := by decide +kernel
theorem dL_act_340 : decode cL_act 340 = .ok (.invokestatic 8, 3) := by decide +kernel
theorem dL_act_343 : decode cL_act 343 = .ok (.goto 4, 3) := by decide +kernel
theorem dL_act_346 : decode cL_act 346 = .ok (.iconst (-1), 1) := by decide +kernel
theorem dL_act_347 : decode cL_act 347 = .ok (.istore 13, 2) := by decide +kernel
theorem dL_act_349 : decode cL_act 349 = .ok (.aload 8, 2) := by decide +kernel
theorem dL_act_351 : decode cL_act 351 = .ok (.iload 11, 2) := by decide +kernel
theorem dL_act_353 : decode cL_act 353 = .ok (.iaload, 1) := by decide +kernel
theorem dL_act_354 : decode cL_act 354 = .ok (.istore 14, 2) := by decide +kernel
theorem dL_act_356 : decode cL_act 356 = .ok (.aload 8, 2) := by decide +kernel
theorem dL_act_358 : decode cL_act 358 = .ok (.iload 11, 2) := by decide +kernel
theorem dL_act_360 : decode cL_act 360 = .ok (.iconst 1, 1) := by decide +kernel
theorem dL_act_361 : decode cL_act 361 = .ok (.iadd, 1) := by decide +kernel
theorem dL_act_362 : decode cL_act 362 = .ok (.iaload, 1) := by decide +kernel
theorem dL_act_363 : decode cL_act 363 = .ok (.istore 15, 2) := by decide +kernel
theorem dL_act_365 : decode cL_act 365 = .ok (.aload 8, 2) := by decide +kernel
theorem dL_act_367 : decode cL_act 367 = .ok (.iload 11, 2) := by decide +kernel
theorem dL_act_369 : decode cL_act 369 = .ok (.iconst 4, 1) := by decide +kernel
theorem dL_act_370 : decode cL_act 370 = .ok (.iadd, 1) := by decide +kernel
theorem dL_act_371 : decode cL_act 371 = .ok (.iaload, 1) := by decide +kernel
theorem dL_act_372 : decode cL_act 372 = .ok (.istore 16, 2) := by decide +kernel
theorem dL_act_374 : decode cL_act 374 = .ok (.aload 8, 2) := by decide +kernel
theorem dL_act_376 : decode cL_act 376 = .ok (.iload 11, 2) := by decide +kernel
theorem dL_act_378 : decode cL_act 378 = .ok (.iconst 5, 1) := by decide +kernel
theorem dL_act_379 : decode cL_act 379 = .ok (.iadd, 1) := by decide +kernel
theorem dL_act_380 : decode cL_act 380 = .ok (.iaload, 1) := by decide +kernel
theorem dL_act_381 : decode cL_act 381 = .ok (.istore 17, 2) := by decide +kernel
theorem dL_act_383 : decode cL_act 383 = .ok (.aload 7, 2) := by decide +kernel
theorem dL_act_385 : decode cL_act 385 = .ok (.aload 8, 2) := by decide +kernel
theorem dL_act_387 : decode cL_act 387 = .ok (.invokestatic 99, 3) := by decide +kernel
theorem dL_act_390 : decode cL_act 390 = .ok (.istore 18, 2) := by decide +kernel
theorem dL_act_392 : decode cL_act 392 = .ok (.iload 14, 2) := by decide +kernel
theorem dL_act_394 : decode cL_act 394 = .ok (.iconst 2, 1) := by decide +kernel
theorem dL_act_395 : decode cL_act 395 = .ok (.if_icmp .ne 16, 3) := by decide +kernel
theorem dL_act_398 : decode cL_act 398 = .ok (.aload_n 0, 1) := by decide +kernel
theorem dL_act_399 : decode cL_act 399 = .ok (.iload 13, 2) := by decide +kernel
theorem dL_act_401 : decode cL_act 401 = .ok (.iload 9, 2) := by decide +kernel
theorem dL_act_403 : decode cL_act 403 = .ok (.iload 10, 2) := by decide +kernel
theorem dL_act_405 : decode cL_act 405 = .ok (.invokevirtual 103, 3) := by decide +kernel
theorem dL_act_408 : decode cL_act 408 = .ok (.goto 27, 3) := by decide +kernel
theorem dL_act_411 : decode cL_act 411 = .ok (.aload_n 0, 1) := by decide +kernel
theorem dL_act_412 : decode cL_act 412 = .ok (.iload 14, 2) := by decide +kernel
theorem dL_act_414 : decode cL_act 414 = .ok (.ifCond .ne 7, 3) := by decide +kernel
theorem dL_act_417 : decode cL_act 417 = .ok (.iconst 1, 1) := by decide +kernel
theorem dL_act_418 : decode cL_act 418 = .ok (.goto 4, 3) := by decide +kernel
theorem dL_act_421 : decode cL_act 421 = .ok (.iconst 0, 1) := by decide +kernel
theorem dL_act_422 : decode cL_act 422 = .ok (.iload 15, 2) := by decide +kernel
theorem dL_act_424 : decode cL_act 424 = .ok (.iload 9, 2) := by decide +kernel
theorem dL_act_426 : decode cL_act 426 = .ok (.iload 10, 2) := by decide +kernel
theorem dL_act_428 : decode cL_act 428 = .ok (.iload 16, 2) := by decide +kernel
theorem dL_act_430 : decode cL_act 430 = .ok (.iload 17, 2) := by decide +kernel
theorem dL_act_432 : decode cL_act 432 = .ok (.invokevirtual 106, 3) := by decide +kernel
theorem dL_act_435 : decode cL_act 435 = .ok (.iload 18, 2) := by decide +kernel
theorem dL_act_437 : decode cL_act 437 = .ok (.if_icmp .ne 7, 3) := by decide +kernel
theorem dL_act_440 : decode cL_act 440 = .ok (.iconst 1, 1) := by decide +kernel
theorem dL_act_441 : decode cL_act 441 = .ok (.goto 4, 3) := by decide +kernel
theorem dL_act_444 : decode cL_act 444 = .ok (.iconst 0, 1) := by decide +kernel
theorem dL_act_445 : decode cL_act 445 = .ok (.ireturn, 1) := by decide +kernel
theorem dL_act_446 : decode cL_act 446 = .ok (.iload_n 2, 1) := by decide +kernel
theorem dL_act_447 : decode cL_act 447 = .ok (.aload 7, 2) := by decide +kernel
theorem dL_act_449 : decode cL_act 449 = .ok (.iconst 1, 1) := by decide +kernel
theorem dL_act_450 : decode cL_act 450 = .ok (.iaload, 1) := by decide +kernel
theorem dL_act_451 : decode cL_act 451 = .ok (.invokestatic 47, 3) := by decide +kernel
theorem dL_act_454 : decode cL_act 454 = .ok (.istore 9, 2) := by decide +kernel
theorem dL_act_456 : decode cL_act 456 = .ok (.iload_n 1, 1) := by decide +kernel
theorem dL_act_457 : decode cL_act 457 = .ok (.bipush 8, 2) := by decide +kernel
theorem dL_act_459 : decode cL_act 459 = .ok (.if_icmp .ne 151, 3) := by decide +kernel
theorem dL_act_462 : decode cL_act 462 = .ok (.aload 8, 2) := by decide +kernel
theorem dL_act_464 : decode cL_act 464 = .ok (.bipush 9, 2) := by decide +kernel
theorem dL_act_466 : decode cL_act 466 = .ok (.iload 9, 2) := by decide +kernel
theorem dL_act_468 : decode cL_act 468 = .ok (.imul, 1) := by decide +kernel
theorem dL_act_469 : decode cL_act 469 = .ok (.bipush 8, 2) := by decide +kernel
theorem dL_act_471 : decode cL_act 471 = .ok (.iadd, 1) := by decide +kernel
theorem dL_act_472 : decode cL_act 472 = .ok (.iaload, 1) := by decide +kernel
theorem dL_act_473 : decode cL_act 473 = .ok (.istore 10, 2) := by decide +kernel
theorem dL_act_475 : decode cL_act 475 = .ok (.iconst 0, 1) := by decide +kernel
theorem dL_act_476 : decode cL_act 476 = .ok (.istore 11, 2) := by decide +kernel
theorem dL_act_478 : decode cL_act 478 = .ok (.aload 7, 2) := by decide +kernel
theorem dL_act_480 : decode cL_act 480 = .ok (.iconst 1, 1) := by decide +kernel
theorem dL_act_481 : decode cL_act 481 = .ok (.iaload, 1) := by decide +kernel
theorem dL_act_482 : decode cL_act 482 = .ok (.iconst 1, 1) := by decide +kernel
theorem dL_act_483 : decode cL_act 483 = .ok (.isub, 1) := by decide +kernel
theorem dL_act_484 : decode cL_act 484 = .ok (.istore 12, 2) := by decide +kernel
theorem dL_act_486 : decode cL_act 486 = .ok (.iload 12, 2) := by decide +kernel
theorem dL_act_488 : decode cL_act 488 = .ok (.ifCond .lt 105, 3) := by decide +kernel
theorem dL_act_491 : decode cL_act 491 = .ok (.aload 8, 2) := by decide +kernel
theorem dL_act_493 : decode cL_act 493 = .ok (.bipush 9, 2) := by decide +kernel
theorem dL_act_495 : decode cL_act 495 = .ok (.iload 12, 2) := by decide +kernel
theorem dL_act_497 : decode cL_act 497 = .ok (.imul, 1) := by decide +kernel
theorem dL_act_498 : decode cL_act 498 = .ok (.bipush 8, 2) := by decide +kernel
theorem dL_act_500 : decode cL_act 500 = .ok (.iadd, 1) := by decide +kernel
theorem dL_act_501 : decode cL_act 501 = .ok (.iaload, 1) := by decide +kernel
theorem dL_act_502 : decode cL_act 502 = .ok (.iload 10, 2) := by decide +kernel
theorem dL_act_504 : decode cL_act 504 = .ok (.if_icmp .eq 34, 3) := by decide +kernel
theorem dL_act_507 : decode cL_act 507 = .ok (.aload 8, 2) := by decide +kernel
theorem dL_act_509 : decode cL_act 509 = .ok (.bipush 9, 2) := by decide +kernel
theorem dL_act_511 : decode cL_act 511 = .ok (.iload 12, 2) := by decide +kernel
theorem dL_act_513 : decode cL_act 513 = .ok (.imul, 1) := by decide +kernel
theorem dL_act_514 : decode cL_act 514 = .ok (.iaload, 1) := by decide +kernel
theorem dL_act_515 : decode cL_act 515 = .ok (.iconst 2, 1) := by decide +kernel
theorem dL_act_516 : decode cL_act 516 = .ok (.if_icmp .ne 71, 3) := by decide +kernel
theorem dL_act_519 : decode cL_act 519 = .ok (.aload 8, 2) := by decide +kernel
theorem dL_act_521 : decode cL_act 521 = .ok (.bipush 9, 2) := by decide +kernel
theorem dL_act_523 : decode cL_act 523 = .ok (.iload 12, 2) := by decide +kernel
theorem dL_act_525 : decode cL_act 525 = .ok (.imul, 1) := by decide +kernel
theorem dL_act_526 : decode cL_act 526 = .ok (.bipush 7, 2) := by decide +kernel
theorem dL_act_528 : decode cL_act 528 = .ok (.iadd, 1) := by decide +kernel
theorem dL_act_529 : decode cL_act 529 = .ok (.iaload, 1) := by decide +kernel
theorem dL_act_530 : decode cL_act 530 = .ok (.iload 10, 2) := by decide +kernel
theorem dL_act_532 : decode cL_act 532 = .ok (.if_icmp .eq 6, 3) := by decide +kernel
theorem dL_act_535 : decode cL_act 535 = .ok (.goto 52, 3) := by decide +kernel
theorem dL_act_538 : decode cL_act 538 = .ok (.iinc 11 1, 3) := by decide +kernel
theorem dL_act_541 : decode cL_act 541 = .ok (.aload 7, 2) := by decide +kernel
theorem dL_act_543 : decode cL_act 543 = .ok (.iconst 1, 1) := by decide +kernel
theorem dL_act_544 : decode cL_act 544 = .ok (.dup2, 1) := by decide +kernel
theorem dL_act_545 : decode cL_act 545 = .ok (.iaload, 1) := by decide +kernel
theorem dL_act_546 : decode cL_act 546 = .ok (.iconst 1, 1) := by decide +kernel
theorem dL_act_547 : decode cL_act 547 = .ok (.isub, 1) := by decide +kernel
theorem dL_act_548 : decode cL_act 548 = .ok (.iastore, 1) := by decide +kernel
theorem dL_act_549 : decode cL_act 549 = .ok (.bipush 9, 2) := by decide +kernel
theorem dL_act_551 : decode cL_act 551 = .ok (.iload 12, 2) := by decide +kernel
theorem dL_act_553 : decode cL_act 553 = .ok (.imul, 1) := by decide +kernel
theorem dL_act_554 : decode cL_act 554 = .ok (.istore 13, 2) := by decide +kernel
theorem dL_act_556 : decode cL_act 556 = .ok (.iload 13, 2) := by decide +kernel
theorem dL_act_558 : decode cL_act 558 = .ok (.bipush 9, 2) := by decide +kernel
theorem dL_act_560 : decode cL_act 560 = .ok (.aload 7, 2) := by decide +kernel
theorem dL_act_562 : decode cL_act 562 = .ok (.iconst 1, 1) := by decide +kernel
theorem dL_act_563 : decode cL_act 563 = .ok (.iaload, 1) := by decide +kernel
theorem dL_act_564 : decode cL_act 564 = .ok (.imul, 1) := by decide +kernel
theorem dL_act_565 : decode cL_act 565 = .ok (.if_icmp .ge 22, 3) := by decide +kernel
theorem dL_act_568 : decode cL_act 568 = .ok (.aload 8, 2) := by decide +kernel
theorem dL_act_570 : decode cL_act 570 = .ok (.iload 13, 2) := by decide +kernel
theorem dL_act_572 : decode cL_act 572 = .ok (.aload 8, 2) := by decide +kernel
theorem dL_act_574 : decode cL_act 574 = .ok (.iload 13, 2) := by decide +kernel
theorem dL_act_576 : decode cL_act 576 = .ok (.bipush 9, 2) := by decide +kernel
theorem dL_act_578 : decode cL_act 578 = .ok (.iadd, 1) := by decide +kernel
theorem dL_act_579 : decode cL_act 579 = .ok (.iaload, 1) := by decide +kernel
theorem dL_act_580 : decode cL_act 580 = .ok (.iastore, 1) := by decide +kernel
theorem dL_act_581 : decode cL_act 581 = .ok (.iinc 13 1, 3) := by decide +kernel
theorem dL_act_584 : decode cL_act 584 = .ok (.goto (-28), 3) := by decide +kernel
theorem dL_act_587 : decode cL_act 587 = .ok (.iinc 12 (-1), 3) := by decide +kernel
theorem dL_act_590 : decode cL_act 590 = .ok (.goto (-104), 3) := by decide +kernel
theorem dL_act_593 : decode cL_act 593 = .ok (.aload_n 0, 1) := by decide +kernel
theorem dL_act_594 : decode cL_act 594 = .ok (.iload 9, 2) := by decide +kernel
theorem dL_act_596 : decode cL_act 596 = .ok (.invokevirtual 110, 3) := by decide +kernel
theorem dL_act_599 : decode cL_act 599 = .ok (.iload 11, 2) := by decide +kernel
theorem dL_act_601 : decode cL_act 601 = .ok (.if_icmp .ne 7, 3) := by decide +kernel
theorem dL_act_604 : decode cL_act 604 = .ok (.iconst 1, 1) := by decide +kernel
theorem dL_act_605 : decode cL_act 605 = .ok (.goto 4, 3) := by decide +kernel
theorem dL_act_608 : decode cL_act 608 = .ok (.iconst 0, 1) := by decide +kernel
theorem dL_act_609 : decode cL_act 609 = .ok (.ireturn, 1) := by decide +kernel
theorem dL_act_610 : decode cL_act 610 = .ok (.iload_n 1, 1) := by decide +kernel
theorem dL_act_611 : decode cL_act 611 = .ok (.bipush 12, 2) := by decide +kernel
theorem dL_act_613 : decode cL_act 613 = .ok (.if_icmp .ge 78, 3) := by decide +kernel
theorem dL_act_616 : decode cL_act 616 = .ok (.aload 8, 2) := by decide +kernel
theorem dL_act_618 : decode cL_act 618 = .ok (.bipush 9, 2) := by decide +kernel
theorem dL_act_620 : decode cL_act 620 = .ok (.iload 9, 2) := by decide +kernel
theorem dL_act_622 : decode cL_act 622 = .ok (.imul, 1) := by decide +kernel
theorem dL_act_623 : decode cL_act 623 = .ok (.iaload, 1) := by decide +kernel
theorem dL_act_624 : decode cL_act 624 = .ok (.ifCond .eq 5, 3) := by decide +kernel
theorem dL_act_627 : decode cL_act 627 = .ok (.iconst 1, 1) := by decide +kernel
theorem dL_act_628 : decode cL_act 628 = .ok (.ireturn, 1) := by decide +kernel
theorem dL_act_629 : decode cL_act 629 = .ok (.aload 8, 2) := by decide +kernel
theorem dL_act_631 : decode cL_act 631 = .ok (.bipush 9, 2) := by decide +kernel
theorem dL_act_633 : decode cL_act 633 = .ok (.iload 9, 2) := by decide +kernel
theorem dL_act_635 : decode cL_act 635 = .ok (.imul, 1) := by decide +kernel
theorem dL_act_636 : decode cL_act 636 = .ok (.bipush 6, 2) := by decide +kernel
theorem dL_act_638 : decode cL_act 638 = .ok (.iadd, 1) := by decide +kernel
theorem dL_act_639 : decode cL_act 639 = .ok (.iaload, 1) := by decide +kernel
theorem dL_act_640 : decode cL_act 640 = .ok (.istore 10, 2) := by decide +kernel
theorem dL_act_642 : decode cL_act 642 = .ok (.aload 8, 2) := by decide +kernel
theorem dL_act_644 : decode cL_act 644 = .ok (.bipush 9, 2) := by decide +kernel
theorem dL_act_646 : decode cL_act 646 = .ok (.iload 9, 2) := by decide +kernel
theorem dL_act_648 : decode cL_act 648 = .ok (.imul, 1) := by decide +kernel
theorem dL_act_649 : decode cL_act 649 = .ok (.bipush 6, 2) := by decide +kernel
theorem dL_act_651 : decode cL_act 651 = .ok (.iadd, 1) := by decide +kernel
theorem dL_act_652 : decode cL_act 652 = .ok (.iload_n 3, 1) := by decide +kernel
theorem dL_act_653 : decode cL_act 653 = .ok (.sipush 181, 3) := by decide +kernel
theorem dL_act_656 : decode cL_act 656 = .ok (.invokestatic 47, 3) := by decide +kernel
theorem dL_act_659 : decode cL_act 659 = .ok (.bipush 60, 2) := by decide +kernel
theorem dL_act_661 : decode cL_act 661 = .ok (.isub, 1) := by decide +kernel
theorem dL_act_662 : decode cL_act 662 = .ok (.iastore, 1) := by decide +kernel
theorem dL_act_663 : decode cL_act 663 = .ok (.aload_n 0, 1) := by decide +kernel
theorem dL_act_664 : decode cL_act 664 = .ok (.iload 9, 2) := by decide +kernel
theorem dL_act_666 : decode cL_act 666 = .ok (.aload 8, 2) := by decide +kernel
theorem dL_act_668 : decode cL_act 668 = .ok (.bipush 9, 2) := by decide +kernel
theorem dL_act_670 : decode cL_act 670 = .ok (.iload 9, 2) := by decide +kernel
theorem dL_act_672 : decode cL_act 672 = .ok (.imul, 1) := by decide +kernel
theorem dL_act_673 : decode cL_act 673 = .ok (.bipush 6, 2) := by decide +kernel
theorem dL_act_675 : decode cL_act 675 = .ok (.iadd, 1) := by decide +kernel
theorem dL_act_676 : decode cL_act 676 = .ok (.iaload, 1) := by decide +kernel
theorem dL_act_677 : decode cL_act 677 = .ok (.invokevirtual 113, 3) := by decide +kernel
theorem dL_act_680 : decode cL_act 680 = .ok (.iload 10, 2) := by decide +kernel
theorem dL_act_682 : decode cL_act 682 = .ok (.if_icmp .ne 7, 3) := by decide +kernel
theorem dL_act_685 : decode cL_act 685 = .ok (.iconst 1, 1) := by decide +kernel
theorem dL_act_686 : decode cL_act 686 = .ok (.goto 4, 3) := by decide +kernel
theorem dL_act_689 : decode cL_act 689 = .ok (.iconst 0, 1) := by decide +kernel
theorem dL_act_690 : decode cL_act 690 = .ok (.ireturn, 1) := by decide +kernel
theorem dL_act_691 : decode cL_act 691 = .ok (.iload_n 1, 1) := by decide +kernel
theorem dL_act_692 : decode cL_act 692 = .ok (.bipush 12, 2) := by decide +kernel
theorem dL_act_694 : decode cL_act 694 = .ok (.if_icmp .ne 292, 3) := by decide +kernel
theorem dL_act_697 : decode cL_act 697 = .ok (.bipush 28, 2) := by decide +kernel
theorem dL_act_699 : decode cL_act 699 = .ok (.newarray .int, 2) := by decide +kernel
theorem dL_act_701 : decode cL_act 701 = .ok (.astore 10, 2) := by decide +kernel
theorem dL_act_703 : decode cL_act 703 = .ok (.iconst 0, 1) := by decide +kernel
theorem dL_act_704 : decode cL_act 704 = .ok (.istore 11, 2) := by decide +kernel
theorem dL_act_706 : decode cL_act 706 = .ok (.iload 11, 2) := by decide +kernel
theorem dL_act_708 : decode cL_act 708 = .ok (.bipush 7, 2) := by decide +kernel
theorem dL_act_710 : decode cL_act 710 = .ok (.if_icmp .ge 23, 3) := by decide +kernel
theorem dL_act_713 : decode cL_act 713 = .ok (.iload 11, 2) := by decide +kernel
theorem dL_act_715 : decode cL_act 715 = .ok (.aload 5, 2) := by decide +kernel
theorem dL_act_717 : decode cL_act 717 = .ok (.aload 7, 2) := by decide +kernel
theorem dL_act_719 : decode cL_act 719 = .ok (.aload 8, 2) := by decide +kernel
theorem dL_act_721 : decode cL_act 721 = .ok (.aload 10, 2) := by decide +kernel
theorem dL_act_723 : decode cL_act 723 = .ok (.invokestatic 30, 3) := by decide +kernel
theorem dL_act_726 : decode cL_act 726 = .ok (.pop, 1) := by decide +kernel
theorem dL_act_727 : decode cL_act 727 = .ok (.iinc 11 1, 3) := by decide +kernel
theorem dL_act_730 : decode cL_act 730 = .ok (.goto (-24), 3) := by decide +kernel
theorem dL_act_733 : decode cL_act 733 = .ok (.iconst 0, 1) := by decide +kernel
theorem dL_act_734 : decode cL_act 734 = .ok (.istore 11, 2) := by decide +kernel
theorem dL_act_736 : decode cL_act 736 = .ok (.iload 11, 2) := by decide +kernel
theorem dL_act_738 : decode cL_act 738 = .ok (.bipush 6, 2) := by decide +kernel
theorem dL_act_740 : decode cL_act 740 = .ok (.if_icmp .ge 191, 3) := by decide +kernel
theorem dL_act_743 : decode cL_act 743 = .ok (.iconst 0, 1) := by decide +kernel
theorem dL_act_744 : decode cL_act 744 = .ok (.istore 12, 2) := by decide +kernel
theorem dL_act_746 : decode cL_act 746 = .ok (.iconst 0, 1) := by decide +kernel
theorem dL_act_747 : decode cL_act 747 = .ok (.istore 13, 2) := by decide +kernel
theorem dL_act_749 : decode cL_act 749 = .ok (.iload 13, 2) := by decide +kernel
theorem dL_act_751 : decode cL_act 751 = .ok (.aload 7, 2) := by decide +kernel
theorem dL_act_753 : decode cL_act 753 = .ok (.iconst 1, 1) := by decide +kernel
theorem dL_act_754 : decode cL_act 754 = .ok (.iaload, 1) := by decide +kernel
theorem dL_act_755 : decode cL_act 755 = .ok (.if_icmp .ge 55, 3) := by decide +kernel
theorem dL_act_758 : decode cL_act 758 = .ok (.iload 12, 2) := by decide +kernel
theorem dL_act_760 : decode cL_act 760 = .ok (.aload 8, 2) := by decide +kernel
theorem dL_act_762 : decode cL_act 762 = .ok (.bipush 9, 2) := by decide +kernel
theorem dL_act_764 : decode cL_act 764 = .ok (.iload 13, 2) := by decide +kernel
theorem dL_act_766 : decode cL_act 766 = .ok (.imul, 1) := by decide +kernel
theorem dL_act_767 : decode cL_act 767 = .ok (.iconst 1, 1) := by decide +kernel
theorem dL_act_768 : decode cL_act 768 = .ok (.iadd, 1) := by decide +kernel
theorem dL_act_769 : decode cL_act 769 = .ok (.iaload, 1) := by decide +kernel
theorem dL_act_770 : decode cL_act 770 = .ok (.iload 11, 2) := by decide +kernel
theorem dL_act_772 : decode cL_act 772 = .ok (.if_icmp .ne 28, 3) := by decide +kernel
theorem dL_act_775 : decode cL_act 775 = .ok (.aload 8, 2) := by decide +kernel
theorem dL_act_777 : decode cL_act 777 = .ok (.bipush 9, 2) := by decide +kernel
theorem dL_act_779 : decode cL_act 779 = .ok (.iload 13, 2) := by decide +kernel
theorem dL_act_781 : decode cL_act 781 = .ok (.imul, 1) := by decide +kernel
theorem dL_act_782 : decode cL_act 782 = .ok (.iaload, 1) := by decide +kernel
theorem dL_act_783 : decode cL_act 783 = .ok (.aload 10, 2) := by decide +kernel
theorem dL_act_785 : decode cL_act 785 = .ok (.iconst 4, 1) := by decide +kernel
theorem dL_act_786 : decode cL_act 786 = .ok (.iload 13, 2) := by decide +kernel
theorem dL_act_788 : decode cL_act 788 = .ok (.imul, 1) := by decide +kernel
theorem dL_act_789 : decode cL_act 789 = .ok (.iconst 1, 1) := by decide +kernel
theorem dL_act_790 : decode cL_act 790 = .ok (.iadd, 1) := by decide +kernel
theorem dL_act_791 : decode cL_act 791 = .ok (.iaload, 1) := by decide +kernel
theorem dL_act_792 : decode cL_act 792 = .ok (.aload 5, 2) := by decide +kernel
theorem dL_act_794 : decode cL_act 794 = .ok (.invokestatic 18, 3) := by decide +kernel
theorem dL_act_797 : decode cL_act 797 = .ok (.goto 4, 3) := by decide +kernel
theorem dL_act_800 : decode cL_act 800 = .ok (.iconst 0, 1) := by decide +kernel
theorem dL_act_801 : decode cL_act 801 = .ok (.iadd, 1) := by decide +kernel
theorem dL_act_802 : decode cL_act 802 = .ok (.istore 12, 2) := by decide +kernel
theorem dL_act_804 : decode cL_act 804 = .ok (.iinc 13 1, 3) := by decide +kernel
theorem dL_act_807 : decode cL_act 807 = .ok (.goto (-58), 3) := by decide +kernel
theorem dL_act_810 : decode cL_act 810 = .ok (.iload 11, 2) := by decide +kernel
theorem dL_act_812 : decode cL_act 812 = .ok (.aload 6, 2) := by decide +kernel
theorem dL_act_814 : decode cL_act 814 = .ok (.invokestatic 22, 3) := by decide +kernel
theorem dL_act_817 : decode cL_act 817 = .ok (.iload 12, 2) := by decide +kernel
theorem dL_act_819 : decode cL_act 819 = .ok (.isub, 1) := by decide +kernel
theorem dL_act_820 : decode cL_act 820 = .ok (.istore 13, 2) := by decide +kernel
theorem dL_act_822 : decode cL_act 822 = .ok (.iload 13, 2) := by decide +kernel
theorem dL_act_824 : decode cL_act 824 = .ok (.aload 5, 2) := by decide +kernel
theorem dL_act_826 : decode cL_act 826 = .ok (.bipush 7, 2) := by decide +kernel
theorem dL_act_828 : decode cL_act 828 = .ok (.iaload, 1) := by decide +kernel
theorem dL_act_829 : decode cL_act 829 = .ok (.if_icmp .le 11, 3) := by decide +kernel
theorem dL_act_832 : decode cL_act 832 = .ok (.aload 5, 2) := by decide +kernel
theorem dL_act_834 : decode cL_act 834 = .ok (.bipush 7, 2) := by decide +kernel
theorem dL_act_836 : decode cL_act 836 = .ok (.iaload, 1) := by decide +kernel
theorem dL_act_837 : decode cL_act 837 = .ok (.goto 25, 3) := by decide +kernel
theorem dL_act_840 : decode cL_act 840 = .ok (.iload 13, 2) := by decide +kernel
theorem dL_act_842 : decode cL_act 842 = .ok (.aload 5, 2) := by decide +kernel
theorem dL_act_844 : decode cL_act 844 = .ok (.bipush 7, 2) := by decide +kernel
theorem dL_act_846 : decode cL_act 846 = .ok (.iaload, 1) := by decide +kernel
theorem dL_act_847 : decode cL_act 847 = .ok (.ineg, 1) := by decide +kernel
theorem dL_act_848 : decode cL_act 848 = .ok (.if_icmp .ge 12, 3) := by decide +kernel
theorem dL_act_851 : decode cL_act 851 = .ok (.aload 5, 2) := by decide +kernel
theorem dL_act_853 : decode cL_act 853 = .ok (.bipush 7, 2) := by decide +kernel
theorem dL_act_855 : decode cL_act 855 = .ok (.iaload, 1) := by decide +kernel
theorem dL_act_856 : decode cL_act 856 = .ok (.ineg, 1) := by decide +kernel
theorem dL_act_857 : decode cL_act 857 = .ok (.goto 5, 3) := by decide +kernel
theorem dL_act_860 : decode cL_act 860 = .ok (.iload 13, 2) := by decide +kernel
theorem dL_act_862 : decode cL_act 862 = .ok (.istore 14, 2) := by decide +kernel
theorem dL_act_864 : decode cL_act 864 = .ok (.aload 6, 2) := by decide +kernel
theorem dL_act_866 : decode cL_act 866 = .ok (.iconst 5, 1) := by decide +kernel
theorem dL_act_867 : decode cL_act 867 = .ok (.iload 11, 2) := by decide +kernel
theorem dL_act_869 : decode cL_act 869 = .ok (.imul, 1) := by decide +kernel
theorem dL_act_870 : decode cL_act 870 = .ok (.iconst 1, 1) := by decide +kernel
theorem dL_act_871 : decode cL_act 871 = .ok (.iadd, 1) := by decide +kernel
theorem dL_act_872 : decode cL_act 872 = .ok (.iload 14, 2) := by decide +kernel
theorem dL_act_874 : decode cL_act 874 = .ok (.iastore, 1) := by decide +kernel
theorem dL_act_875 : decode cL_act 875 = .ok (.aload 6, 2) := by decide +kernel
theorem dL_act_877 : decode cL_act 877 = .ok (.iconst 5, 1) := by decide +kernel
theorem dL_act_878 : decode cL_act 878 = .ok (.iload 11, 2) := by decide +kernel
theorem dL_act_880 : decode cL_act 880 = .ok (.imul, 1) := by decide +kernel
theorem dL_act_881 : decode cL_act 881 = .ok (.iconst 2, 1) := by decide +kernel
theorem dL_act_882 : decode cL_act 882 = .ok (.iadd, 1) := by decide +kernel
theorem dL_act_883 : decode cL_act 883 = .ok (.dup2, 1) := by decide +kernel
theorem dL_act_884 : decode cL_act 884 = .ok (.iaload, 1) := by decide +kernel
theorem dL_act_885 : decode cL_act 885 = .ok (.aload 6, 2) := by decide +kernel
theorem dL_act_887 : decode cL_act 887 = .ok (.iconst 5, 1) := by decide +kernel
theorem dL_act_888 : decode cL_act 888 = .ok (.iload 11, 2) := by decide +kernel
theorem dL_act_890 : decode cL_act 890 = .ok (.imul, 1) := by decide +kernel
theorem dL_act_891 : decode cL_act 891 = .ok (.iaload, 1) := by decide +kernel
theorem dL_act_892 : decode cL_act 892 = .ok (.iadd, 1) := by decide +kernel
theorem dL_act_893 : decode cL_act 893 = .ok (.iastore, 1) := by decide +kernel
theorem dL_act_894 : decode cL_act 894 = .ok (.aload 6, 2) := by decide +kernel
theorem dL_act_896 : decode cL_act 896 = .ok (.iconst 5, 1) := by decide +kernel
theorem dL_act_897 : decode cL_act 897 = .ok (.iload 11, 2) := by decide +kernel
theorem dL_act_899 : decode cL_act 899 = .ok (.imul, 1) := by decide +kernel
theorem dL_act_900 : decode cL_act 900 = .ok (.iconst 3, 1) := by decide +kernel
theorem dL_act_901 : decode cL_act 901 = .ok (.iadd, 1) := by decide +kernel
theorem dL_act_902 : decode cL_act 902 = .ok (.dup2, 1) := by decide +kernel
theorem dL_act_903 : decode cL_act 903 = .ok (.iaload, 1) := by decide +kernel
theorem dL_act_904 : decode cL_act 904 = .ok (.iload 12, 2) := by decide +kernel
theorem dL_act_906 : decode cL_act 906 = .ok (.iadd, 1) := by decide +kernel
theorem dL_act_907 : decode cL_act 907 = .ok (.iastore, 1) := by decide +kernel
theorem dL_act_908 : decode cL_act 908 = .ok (.aload 6, 2) := by decide +kernel
theorem dL_act_910 : decode cL_act 910 = .ok (.iconst 5, 1) := by decide +kernel
theorem dL_act_911 : decode cL_act 911 = .ok (.iload 11, 2) := by decide +kernel
theorem dL_act_913 : decode cL_act 913 = .ok (.imul, 1) := by decide +kernel
theorem dL_act_914 : decode cL_act 914 = .ok (.iconst 4, 1) := by decide +kernel
theorem dL_act_915 : decode cL_act 915 = .ok (.iadd, 1) := by decide +kernel
theorem dL_act_916 : decode cL_act 916 = .ok (.dup2, 1) := by decide +kernel
theorem dL_act_917 : decode cL_act 917 = .ok (.iaload, 1) := by decide +kernel
theorem dL_act_918 : decode cL_act 918 = .ok (.iload 13, 2) := by decide +kernel
theorem dL_act_920 : decode cL_act 920 = .ok (.iload 14, 2) := by decide +kernel
theorem dL_act_922 : decode cL_act 922 = .ok (.isub, 1) := by decide +kernel
theorem dL_act_923 : decode cL_act 923 = .ok (.iadd, 1) := by decide +kernel
theorem dL_act_924 : decode cL_act 924 = .ok (.iastore, 1) := by decide +kernel
theorem dL_act_925 : decode cL_act 925 = .ok (.iinc 11 1, 3) := by decide +kernel
theorem dL_act_928 : decode cL_act 928 = .ok (.goto (-192), 3) := by decide +kernel
theorem dL_act_931 : decode cL_act 931 = .ok (.iconst 0, 1) := by decide +kernel
theorem dL_act_932 : decode cL_act 932 = .ok (.istore 11, 2) := by decide +kernel
theorem dL_act_934 : decode cL_act 934 = .ok (.iload 11, 2) := by decide +kernel
theorem dL_act_936 : decode cL_act 936 = .ok (.aload 7, 2) := by decide +kernel
theorem dL_act_938 : decode cL_act 938 = .ok (.iconst 1, 1) := by decide +kernel
theorem dL_act_939 : decode cL_act 939 = .ok (.iaload, 1) := by decide +kernel
theorem dL_act_940 : decode cL_act 940 = .ok (.if_icmp .ge 21, 3) := by decide +kernel
theorem dL_act_943 : decode cL_act 943 = .ok (.aload 8, 2) := by decide +kernel
theorem dL_act_945 : decode cL_act 945 = .ok (.bipush 9, 2) := by decide +kernel
theorem dL_act_947 : decode cL_act 947 = .ok (.iload 11, 2) := by decide +kernel
theorem dL_act_949 : decode cL_act 949 = .ok (.imul, 1) := by decide +kernel
theorem dL_act_950 : decode cL_act 950 = .ok (.bipush 6, 2) := by decide +kernel
theorem dL_act_952 : decode cL_act 952 = .ok (.iadd, 1) := by decide +kernel
theorem dL_act_953 : decode cL_act 953 = .ok (.iconst 0, 1) := by decide +kernel
theorem dL_act_954 : decode cL_act 954 = .ok (.iastore, 1) := by decide +kernel
theorem dL_act_955 : decode cL_act 955 = .ok (.iinc 11 1, 3) := by decide +kernel
theorem dL_act_958 : decode cL_act 958 = .ok (.goto (-24), 3) := by decide +kernel
theorem dL_act_961 : decode cL_act 961 = .ok (.aload 7, 2) := by decide +kernel
theorem dL_act_963 : decode cL_act 963 = .ok (.iconst 0, 1) := by decide +kernel
theorem dL_act_964 : decode cL_act 964 = .ok (.dup2, 1) := by decide +kernel
theorem dL_act_965 : decode cL_act 965 = .ok (.iaload, 1) := by decide +kernel
theorem dL_act_966 : decode cL_act 966 = .ok (.iconst 1, 1) := by decide +kernel
theorem dL_act_967 : decode cL_act 967 = .ok (.iadd, 1) := by decide +kernel
theorem dL_act_968 : decode cL_act 968 = .ok (.iastore, 1) := by decide +kernel
theorem dL_act_969 : decode cL_act 969 = .ok (.aload_n 0, 1) := by decide +kernel
theorem dL_act_970 : decode cL_act 970 = .ok (.invokevirtual 116, 3) := by decide +kernel
theorem dL_act_973 : decode cL_act 973 = .ok (.aload 7, 2) := by decide +kernel
theorem dL_act_975 : decode cL_act 975 = .ok (.iconst 0, 1) := by decide +kernel
theorem dL_act_976 : decode cL_act 976 = .ok (.iaload, 1) := by decide +kernel
theorem dL_act_977 : decode cL_act 977 = .ok (.if_icmp .ne 7, 3) := by decide +kernel
theorem dL_act_980 : decode cL_act 980 = .ok (.iconst 1, 1) := by decide +kernel
theorem dL_act_981 : decode cL_act 981 = .ok (.goto 4, 3) := by decide +kernel
theorem dL_act_984 : decode cL_act 984 = .ok (.iconst 0, 1) := by decide +kernel
theorem dL_act_985 : decode cL_act 985 = .ok (.ireturn, 1) := by decide +kernel
theorem dL_act_986 : decode cL_act 986 = .ok (.iload_n 1, 1) := by decide +kernel
theorem dL_act_987 : decode cL_act 987 = .ok (.bipush 13, 2) := by decide +kernel
theorem dL_act_989 : decode cL_act 989 = .ok (.if_icmp .ne 74, 3) := by decide +kernel
theorem dL_act_992 : decode cL_act 992 = .ok (.iload_n 2, 1) := by decide +kernel
theorem dL_act_993 : decode cL_act 993 = .ok (.bipush 6, 2) := by decide +kernel
theorem dL_act_995 : decode cL_act 995 = .ok (.invokestatic 47, 3) := by decide +kernel
theorem dL_act_998 : decode cL_act 998 = .ok (.istore 10, 2) := by decide +kernel
theorem dL_act_1000 : decode cL_act 1000 = .ok (.aload 6, 2) := by decide +kernel
theorem dL_act_1002 : decode cL_act 1002 = .ok (.iconst 5, 1) := by decide +kernel
theorem dL_act_1003 : decode cL_act 1003 = .ok (.iload 10, 2) := by decide +kernel
theorem dL_act_1005 : decode cL_act 1005 = .ok (.imul, 1) := by decide +kernel
theorem dL_act_1006 : decode cL_act 1006 = .ok (.iaload, 1) := by decide +kernel
theorem dL_act_1007 : decode cL_act 1007 = .ok (.istore 11, 2) := by decide +kernel
theorem dL_act_1009 : decode cL_act 1009 = .ok (.aload 6, 2) := by decide +kernel
theorem dL_act_1011 : decode cL_act 1011 = .ok (.iconst 5, 1) := by decide +kernel
theorem dL_act_1012 : decode cL_act 1012 = .ok (.iload 10, 2) := by decide +kernel
theorem dL_act_1014 : decode cL_act 1014 = .ok (.imul, 1) := by decide +kernel
theorem dL_act_1015 : decode cL_act 1015 = .ok (.iload_n 3, 1) := by decide +kernel
theorem dL_act_1016 : decode cL_act 1016 = .ok (.iload_n 2, 1) := by decide +kernel
theorem dL_act_1017 : decode cL_act 1017 = .ok (.iconst 3, 1) := by decide +kernel
theorem dL_act_1018 : decode cL_act 1018 = .ok (.ishr, 1) := by decide +kernel
theorem dL_act_1019 : decode cL_act 1019 = .ok (.iconst 3, 1) := by decide +kernel
theorem dL_act_1020 : decode cL_act 1020 = .ok (.invokestatic 47, 3) := by decide +kernel
theorem dL_act_1023 : decode cL_act 1023 = .ok (.ifCond .ne 9, 3) := by decide +kernel
theorem dL_act_1026 : decode cL_act 1026 = .ok (.sipush 2001, 3) := by decide +kernel
theorem dL_act_1029 : decode cL_act 1029 = .ok (.goto 6, 3) := by decide +kernel
theorem dL_act_1032 : decode cL_act 1032 = .ok (.sipush 500, 3) := by decide +kernel
theorem dL_act_1035 : decode cL_act 1035 = .ok (.invokestatic 47, 3) := by decide +kernel
theorem dL_act_1038 : decode cL_act 1038 = .ok (.iastore, 1) := by decide +kernel
theorem dL_act_1039 : decode cL_act 1039 = .ok (.aload_n 0, 1) := by decide +kernel
theorem dL_act_1040 : decode cL_act 1040 = .ok (.iload 10, 2) := by decide +kernel
theorem dL_act_1042 : decode cL_act 1042 = .ok (.aload 6, 2) := by decide +kernel
theorem dL_act_1044 : decode cL_act 1044 = .ok (.iconst 5, 1) := by decide +kernel
theorem dL_act_1045 : decode cL_act 1045 = .ok (.iload 10, 2) := by decide +kernel
theorem dL_act_1047 : decode cL_act 1047 = .ok (.imul, 1) := by decide +kernel
theorem dL_act_1048 : decode cL_act 1048 = .ok (.iaload, 1) := by decide +kernel
theorem dL_act_1049 : decode cL_act 1049 = .ok (.invokevirtual 119, 3) := by decide +kernel
theorem dL_act_1052 : decode cL_act 1052 = .ok (.iload 11, 2) := by decide +kernel
theorem dL_act_1054 : decode cL_act 1054 = .ok (.if_icmp .ne 7, 3) := by decide +kernel
theorem dL_act_1057 : decode cL_act 1057 = .ok (.iconst 1, 1) := by decide +kernel
theorem dL_act_1058 : decode cL_act 1058 = .ok (.goto 4, 3) := by decide +kernel
theorem dL_act_1061 : decode cL_act 1061 = .ok (.iconst 0, 1) := by decide +kernel
theorem dL_act_1062 : decode cL_act 1062 = .ok (.ireturn, 1) := by decide +kernel
theorem dL_act_1063 : decode cL_act 1063 = .ok (.iload_n 2, 1) := by decide +kernel
theorem dL_act_1064 : decode cL_act 1064 = .ok (.bipush 8, 2) := by decide +kernel
theorem dL_act_1066 : decode cL_act 1066 = .ok (.invokestatic 47, 3) := by decide +kernel
theorem dL_act_1069 : decode cL_act 1069 = .ok (.istore 10, 2) := by decide +kernel
theorem dL_act_1071 : decode cL_act 1071 = .ok (.aload 5, 2) := by decide +kernel
theorem dL_act_1073 : decode cL_act 1073 = .ok (.iload 10, 2) := by decide +kernel
theorem dL_act_1075 : decode cL_act 1075 = .ok (.iaload, 1) := by decide +kernel
theorem dL_act_1076 : decode cL_act 1076 = .ok (.istore 11, 2) := by decide +kernel
theorem dL_act_1078 : decode cL_act 1078 = .ok (.aload 5, 2) := by decide +kernel
theorem dL_act_1080 : decode cL_act 1080 = .ok (.iload 10, 2) := by decide +kernel
theorem dL_act_1082 : decode cL_act 1082 = .ok (.iload 10, 2) := by decide +kernel
theorem dL_act_1084 : decode cL_act 1084 = .ok (.ifCond .ne 13, 3) := by decide +kernel
theorem dL_act_1087 : decode cL_act 1087 = .ok (.iload_n 3, 1) := by decide +kernel
theorem dL_act_1088 : decode cL_act 1088 = .ok (.sipush 721, 3) := by decide +kernel
theorem dL_act_1091 : decode cL_act 1091 = .ok (.invokestatic 47, 3) := by decide +kernel
theorem dL_act_1094 : decode cL_act 1094 = .ok (.goto 109, 3) := by decide +kernel
theorem dL_act_1097 : decode cL_act 1097 = .ok (.iload 10, 2) := by decide +kernel
theorem dL_act_1099 : decode cL_act 1099 = .ok (.iconst 1, 1) := by decide +kernel
theorem dL_act_1100 : decode cL_act 1100 = .ok (.if_icmp .ne 17, 3) := by decide +kernel
theorem dL_act_1103 : decode cL_act 1103 = .ok (.sipush 721, 3) := by decide +kernel
theorem dL_act_1106 : decode cL_act 1106 = .ok (.iload_n 3, 1) := by decide +kernel
theorem dL_act_1107 : decode cL_act 1107 = .ok (.sipush 720, 3) := by decide +kernel
theorem dL_act_1110 : decode cL_act 1110 = .ok (.invokestatic 47, 3) := by decide +kernel
theorem dL_act_1113 : decode cL_act 1113 = .ok (.iadd, 1) := by decide +kernel
theorem dL_act_1114 : decode cL_act 1114 = .ok (.goto 89, 3) := by decide +kernel
theorem dL_act_1117 : decode cL_act 1117 = .ok (.iload 10, 2) := by decide +kernel
theorem dL_act_1119 : decode cL_act 1119 = .ok (.iconst 2, 1) := by decide +kernel
theorem dL_act_1120 : decode cL_act 1120 = .ok (.if_icmp .ne 12, 3) := by decide +kernel
theorem dL_act_1123 : decode cL_act 1123 = .ok (.iload_n 3, 1) := by decide +kernel
theorem dL_act_1124 : decode cL_act 1124 = .ok (.bipush 121, 2) := by decide +kernel
theorem dL_act_1126 : decode cL_act 1126 = .ok (.invokestatic 47, 3) := by decide +kernel
theorem dL_act_1129 : decode cL_act 1129 = .ok (.goto 74, 3) := by decide +kernel
theorem dL_act_1132 : decode cL_act 1132 = .ok (.iload 10, 2) := by decide +kernel
theorem dL_act_1134 : decode cL_act 1134 = .ok (.iconst 3, 1) := by decide +kernel
theorem dL_act_1135 : decode cL_act 1135 = .ok (.if_icmp .ne 13, 3) := by decide +kernel
theorem dL_act_1138 : decode cL_act 1138 = .ok (.iload_n 3, 1) := by decide +kernel
theorem dL_act_1139 : decode cL_act 1139 = .ok (.sipush 241, 3) := by decide +kernel
theorem dL_act_1142 : decode cL_act 1142 = .ok (.invokestatic 47, 3) := by decide +kernel
theorem dL_act_1145 : decode cL_act 1145 = .ok (.goto 58, 3) := by decide +kernel
theorem dL_act_1148 : decode cL_act 1148 = .ok (.iload 10, 2) := by decide +kernel
theorem dL_act_1150 : decode cL_act 1150 = .ok (.iconst 4, 1) := by decide +kernel
theorem dL_act_1151 : decode cL_act 1151 = .ok (.if_icmp .ne 14, 3) := by decide +kernel
theorem dL_act_1154 : decode cL_act 1154 = .ok (.iconst 1, 1) := by decide +kernel
theorem dL_act_1155 : decode cL_act 1155 = .ok (.iload_n 3, 1) := by decide +kernel
theorem dL_act_1156 : decode cL_act 1156 = .ok (.bipush 100, 2) := by decide +kernel
theorem dL_act_1158 : decode cL_act 1158 = .ok (.invokestatic 47, 3) := by decide +kernel
theorem dL_act_1161 : decode cL_act 1161 = .ok (.iadd, 1) := by decide +kernel
theorem dL_act_1162 : decode cL_act 1162 = .ok (.goto 41, 3) := by decide +kernel
theorem dL_act_1165 : decode cL_act 1165 = .ok (.iload 10, 2) := by decide +kernel
theorem dL_act_1167 : decode cL_act 1167 = .ok (.iconst 5, 1) := by decide +kernel
theorem dL_act_1168 : decode cL_act 1168 = .ok (.if_icmp .ne 12, 3) := by decide +kernel
theorem dL_act_1171 : decode cL_act 1171 = .ok (.iload_n 3, 1) := by decide +kernel
theorem dL_act_1172 : decode cL_act 1172 = .ok (.bipush 101, 2) := by decide +kernel
theorem dL_act_1174 : decode cL_act 1174 = .ok (.invokestatic 47, 3) := by decide +kernel
theorem dL_act_1177 : decode cL_act 1177 = .ok (.goto 26, 3) := by decide +kernel
theorem dL_act_1180 : decode cL_act 1180 = .ok (.iload 10, 2) := by decide +kernel
theorem dL_act_1182 : decode cL_act 1182 = .ok (.bipush 6, 2) := by decide +kernel
theorem dL_act_1184 : decode cL_act 1184 = .ok (.if_icmp .ne 12, 3) := by decide +kernel
theorem dL_act_1187 : decode cL_act 1187 = .ok (.iload_n 3, 1) := by decide +kernel
theorem dL_act_1188 : decode cL_act 1188 = .ok (.bipush 31, 2) := by decide +kernel
theorem dL_act_1190 : decode cL_act 1190 = .ok (.invokestatic 47, 3) := by decide +kernel
theorem dL_act_1193 : decode cL_act 1193 = .ok (.goto 10, 3) := by decide +kernel
theorem dL_act_1196 : decode cL_act 1196 = .ok (.iload_n 3, 1) := by decide +kernel
theorem dL_act_1197 : decode cL_act 1197 = .ok (.sipush 601, 3) := by decide +kernel
theorem dL_act_1200 : decode cL_act 1200 = .ok (.invokestatic 47, 3) := by decide +kernel
theorem dL_act_1203 : decode cL_act 1203 = .ok (.iastore, 1) := by decide +kernel
theorem dL_act_1204 : decode cL_act 1204 = .ok (.aload_n 0, 1) := by decide +kernel
theorem dL_act_1205 : decode cL_act 1205 = .ok (.iload 10, 2) := by decide +kernel
theorem dL_act_1207 : decode cL_act 1207 = .ok (.aload 5, 2) := by decide +kernel
theorem dL_act_1209 : decode cL_act 1209 = .ok (.iload 10, 2) := by decide +kernel
theorem dL_act_1211 : decode cL_act 1211 = .ok (.iaload, 1) := by decide +kernel
theorem dL_act_1212 : decode cL_act 1212 = .ok (.invokevirtual 122, 3) := by decide +kernel
theorem dL_act_1215 : decode cL_act 1215 = .ok (.iload 11, 2) := by decide +kernel
theorem dL_act_1217 : decode cL_act 1217 = .ok (.if_icmp .ne 7, 3) := by decide +kernel
theorem dL_act_1220 : decode cL_act 1220 = .ok (.iconst 1, 1) := by decide +kernel
theorem dL_act_1221 : decode cL_act 1221 = .ok (.goto 4, 3) := by decide +kernel
theorem dL_act_1224 : decode cL_act 1224 = .ok (.iconst 0, 1) := by decide +kernel
theorem dL_act_1225 : decode cL_act 1225 = .ok (.ireturn, 1) := by decide +kernel
theorem dL_law_0 : decode cL_law 0 = .ok (.new 42, 3) := by decide +kernel
theorem dL_law_3 : decode cL_law 3 = .ok (.dup, 1) := by decide +kernel
theorem dL_law_4 : decode cL_law 4 = .ok (.invokespecial 125, 3) := by decide +kernel
theorem dL_law_7 : decode cL_law 7 = .ok (.astore_n 1, 1) := by decide +kernel
theorem dL_law_8 : decode cL_law 8 = .ok (.bipush 8, 2) := by decide +kernel
theorem dL_law_10 : decode cL_law 10 = .ok (.newarray .int, 2) := by decide +kernel
theorem dL_law_12 : decode cL_law 12 = .ok (.astore_n 2, 1) := by decide +kernel
theorem dL_law_13 : decode cL_law 13 = .ok (.bipush 30, 2) := by decide +kernel
theorem dL_law_15 : decode cL_law 15 = .ok (.newarray .int, 2) := by decide +kernel
theorem dL_law_17 : decode cL_law 17 = .ok (.astore_n 3, 1) := by decide +kernel
theorem dL_law_18 : decode cL_law 18 = .ok (.iconst 3, 1) := by decide +kernel
theorem dL_law_19 : decode cL_law 19 = .ok (.newarray .int, 2) := by decide +kernel
theorem dL_law_21 : decode cL_law 21 = .ok (.astore 4, 2) := by decide +kernel
theorem dL_law_23 : decode cL_law 23 = .ok (.bipush 63, 2) := by decide +kernel
theorem dL_law_25 : decode cL_law 25 = .ok (.newarray .int, 2) := by decide +kernel
theorem dL_law_27 : decode cL_law 27 = .ok (.astore 5, 2) := by decide +kernel
theorem dL_law_29 : decode cL_law 29 = .ok (.bipush 8, 2) := by decide +kernel
theorem dL_law_31 : decode cL_law 31 = .ok (.newarray .int, 2) := by decide +kernel
theorem dL_law_33 : decode cL_law 33 = .ok (.astore 6, 2) := by decide +kernel
theorem dL_law_35 : decode cL_law 35 = .ok (.bipush 30, 2) := by decide +kernel
theorem dL_law_37 : decode cL_law 37 = .ok (.newarray .int, 2) := by decide +kernel
theorem dL_law_39 : decode cL_law 39 = .ok (.astore 7, 2) := by decide +kernel
theorem dL_law_41 : decode cL_law 41 = .ok (.iconst 3, 1) := by decide +kernel
theorem dL_law_42 : decode cL_law 42 = .ok (.newarray .int, 2) := by decide +kernel
theorem dL_law_44 : decode cL_law 44 = .ok (.astore 8, 2) := by decide +kernel
theorem dL_law_46 : decode cL_law 46 = .ok (.bipush 63, 2) := by decide +kernel
theorem dL_law_48 : decode cL_law 48 = .ok (.newarray .int, 2) := by decide +kernel
theorem dL_law_50 : decode cL_law 50 = .ok (.astore 9, 2) := by decide +kernel
theorem dL_law_52 : decode cL_law 52 = .ok (.iconst 0, 1) := by decide +kernel
theorem dL_law_53 : decode cL_law 53 = .ok (.istore 10, 2) := by decide +kernel
theorem dL_law_55 : decode cL_law 55 = .ok (.iload 10, 2) := by decide +kernel
theorem dL_law_57 : decode cL_law 57 = .ok (.bipush 8, 2) := by decide +kernel
theorem dL_law_59 : decode cL_law 59 = .ok (.if_icmp .ge 94, 3) := by decide +kernel
theorem dL_law_62 : decode cL_law 62 = .ok (.aload_n 2, 1) := by decide +kernel
theorem dL_law_63 : decode cL_law 63 = .ok (.iload 10, 2) := by decide +kernel
theorem dL_law_65 : decode cL_law 65 = .ok (.iload 10, 2) := by decide +kernel
theorem dL_law_67 : decode cL_law 67 = .ok (.ifCond .ne 9, 3) := by decide +kernel
theorem dL_law_70 : decode cL_law 70 = .ok (.sipush 480, 3) := by decide +kernel
theorem dL_law_73 : decode cL_law 73 = .ok (.goto 73, 3) := by decide +kernel
theorem dL_law_76 : decode cL_law 76 = .ok (.iload 10, 2) := by decide +kernel
theorem dL_law_78 : decode cL_law 78 = .ok (.iconst 1, 1) := by decide +kernel
theorem dL_law_79 : decode cL_law 79 = .ok (.if_icmp .ne 9, 3) := by decide +kernel
theorem dL_law_82 : decode cL_law 82 = .ok (.sipush 1380, 3) := by decide +kernel
theorem dL_law_85 : decode cL_law 85 = .ok (.goto 61, 3) := by decide +kernel
theorem dL_law_88 : decode cL_law 88 = .ok (.iload 10, 2) := by decide +kernel
theorem dL_law_90 : decode cL_law 90 = .ok (.iconst 2, 1) := by decide +kernel
theorem dL_law_91 : decode cL_law 91 = .ok (.if_icmp .ne 8, 3) := by decide +kernel
theorem dL_law_94 : decode cL_law 94 = .ok (.bipush 10, 2) := by decide +kernel
theorem dL_law_96 : decode cL_law 96 = .ok (.goto 50, 3) := by decide +kernel
theorem dL_law_99 : decode cL_law 99 = .ok (.iload 10, 2) := by decide +kernel
theorem dL_law_101 : decode cL_law 101 = .ok (.iconst 3, 1) := by decide +kernel
theorem dL_law_102 : decode cL_law 102 = .ok (.if_icmp .ne 8, 3) := by decide +kernel
theorem dL_law_105 : decode cL_law 105 = .ok (.bipush 60, 2) := by decide +kernel
theorem dL_law_107 : decode cL_law 107 = .ok (.goto 39, 3) := by decide +kernel
theorem dL_law_110 : decode cL_law 110 = .ok (.iload 10, 2) := by decide +kernel
theorem dL_law_112 : decode cL_law 112 = .ok (.iconst 4, 1) := by decide +kernel
theorem dL_law_113 : decode cL_law 113 = .ok (.if_icmp .ne 8, 3) := by decide +kernel
theorem dL_law_116 : decode cL_law 116 = .ok (.bipush 20, 2) := by decide +kernel
theorem dL_law_118 : decode cL_law 118 = .ok (.goto 28, 3) := by decide +kernel
theorem dL_law_121 : decode cL_law 121 = .ok (.iload 10, 2) := by decide +kernel
theorem dL_law_123 : decode cL_law 123 = .ok (.iconst 5, 1) := by decide +kernel
theorem dL_law_124 : decode cL_law 124 = .ok (.if_icmp .ne 8, 3) := by decide +kernel
theorem dL_law_127 : decode cL_law 127 = .ok (.bipush 50, 2) := by decide +kernel
theorem dL_law_129 : decode cL_law 129 = .ok (.goto 17, 3) := by decide +kernel
theorem dL_law_132 : decode cL_law 132 = .ok (.iload 10, 2) := by decide +kernel
theorem dL_law_134 : decode cL_law 134 = .ok (.bipush 6, 2) := by decide +kernel
theorem dL_law_136 : decode cL_law 136 = .ok (.if_icmp .ne 8, 3) := by decide +kernel
theorem dL_law_139 : decode cL_law 139 = .ok (.bipush 8, 2) := by decide +kernel
theorem dL_law_141 : decode cL_law 141 = .ok (.goto 5, 3) := by decide +kernel
theorem dL_law_144 : decode cL_law 144 = .ok (.bipush 120, 2) := by decide +kernel
theorem dL_law_146 : decode cL_law 146 = .ok (.iastore, 1) := by decide +kernel
theorem dL_law_147 : decode cL_law 147 = .ok (.iinc 10 1, 3) := by decide +kernel
theorem dL_law_150 : decode cL_law 150 = .ok (.goto (-95), 3) := by decide +kernel
theorem dL_law_153 : decode cL_law 153 = .ok (.iconst 0, 1) := by decide +kernel
theorem dL_law_154 : decode cL_law 154 = .ok (.istore 10, 2) := by decide +kernel
theorem dL_law_156 : decode cL_law 156 = .ok (.iload 10, 2) := by decide +kernel
theorem dL_law_158 : decode cL_law 158 = .ok (.bipush 6, 2) := by decide +kernel
theorem dL_law_160 : decode cL_law 160 = .ok (.if_icmp .ge 18, 3) := by decide +kernel
theorem dL_law_163 : decode cL_law 163 = .ok (.aload_n 3, 1) := by decide +kernel
theorem dL_law_164 : decode cL_law 164 = .ok (.iconst 5, 1) := by decide +kernel
theorem dL_law_165 : decode cL_law 165 = .ok (.iload 10, 2) := by decide +kernel
theorem dL_law_167 : decode cL_law 167 = .ok (.imul, 1) := by decide +kernel
theorem dL_law_168 : decode cL_law 168 = .ok (.sipush 300, 3) := by decide +kernel
theorem dL_law_171 : decode cL_law 171 = .ok (.iastore, 1) := by decide +kernel
theorem dL_law_172 : decode cL_law 172 = .ok (.iinc 10 1, 3) := by decide +kernel
theorem dL_law_175 : decode cL_law 175 = .ok (.goto (-19), 3) := by decide +kernel
theorem dL_law_178 : decode cL_law 178 = .ok (.aload_n 1, 1) := by decide +kernel
theorem dL_law_179 : decode cL_law 179 = .ok (.iconst 0, 1) := by decide +kernel
theorem dL_law_180 : decode cL_law 180 = .ok (.aload_n 2, 1) := by decide +kernel
theorem dL_law_181 : decode cL_law 181 = .ok (.aload_n 3, 1) := by decide +kernel
theorem dL_law_182 : decode cL_law 182 = .ok (.aload 4, 2) := by decide +kernel
theorem dL_law_184 : decode cL_law 184 = .ok (.aload 5, 2) := by decide +kernel
theorem dL_law_186 : decode cL_law 186 = .ok (.invokestatic 126, 3) := by decide +kernel
theorem dL_law_189 : decode cL_law 189 = .ok (.ifCond .ne 5, 3) := by decide +kernel
theorem dL_law_192 : decode cL_law 192 = .ok (.iconst 0, 1) := by decide +kernel
theorem dL_law_193 : decode cL_law 193 = .ok (.ireturn, 1) := by decide +kernel
theorem dL_law_194 : decode cL_law 194 = .ok (.iconst 1, 1) := by decide +kernel
theorem dL_law_195 : decode cL_law 195 = .ok (.istore 10, 2) := by decide +kernel
theorem dL_law_197 : decode cL_law 197 = .ok (.iload 10, 2) := by decide +kernel
theorem dL_law_199 : decode cL_law 199 = .ok (.bipush 24, 2) := by decide +kernel
theorem dL_law_201 : decode cL_law 201 = .ok (.if_icmp .ge 358, 3) := by decide +kernel
theorem dL_law_204 : decode cL_law 204 = .ok (.aload_n 0, 1) := by decide +kernel
theorem dL_law_205 : decode cL_law 205 = .ok (.iconst 2, 1) := by decide +kernel
theorem dL_law_206 : decode cL_law 206 = .ok (.iload 10, 2) := by decide +kernel
theorem dL_law_208 : decode cL_law 208 = .ok (.imul, 1) := by decide +kernel
theorem dL_law_209 : decode cL_law 209 = .ok (.invokestatic 130, 3) := by decide +kernel
theorem dL_law_212 : decode cL_law 212 = .ok (.ldc 134, 2) := by decide +kernel
theorem dL_law_214 : decode cL_law 214 = .ok (.iand, 1) := by decide +kernel
theorem dL_law_215 : decode cL_law 215 = .ok (.istore 11, 2) := by decide +kernel
theorem dL_law_217 : decode cL_law 217 = .ok (.aload_n 0, 1) := by decide +kernel
theorem dL_law_218 : decode cL_law 218 = .ok (.iconst 2, 1) := by decide +kernel
theorem dL_law_219 : decode cL_law 219 = .ok (.iload 10, 2) := by decide +kernel
theorem dL_law_221 : decode cL_law 221 = .ok (.imul, 1) := by decide +kernel
theorem dL_law_222 : decode cL_law 222 = .ok (.iconst 1, 1) := by decide +kernel
theorem dL_law_223 : decode cL_law 223 = .ok (.iadd, 1) := by decide +kernel
theorem dL_law_224 : decode cL_law 224 = .ok (.invokestatic 130, 3) := by decide +kernel
theorem dL_law_227 : decode cL_law 227 = .ok (.ldc 134, 2) := by decide +kernel
theorem dL_law_229 : decode cL_law 229 = .ok (.iand, 1) := by decide +kernel
theorem dL_law_230 : decode cL_law 230 = .ok (.istore 12, 2) := by decide +kernel
theorem dL_law_232 : decode cL_law 232 = .ok (.aload_n 1, 1) := by decide +kernel
theorem dL_law_233 : decode cL_law 233 = .ok (.bipush 6, 2) := by decide +kernel
theorem dL_law_235 : decode cL_law 235 = .ok (.invokevirtual 64, 3) := by decide +kernel
theorem dL_law_238 : decode cL_law 238 = .ok (.istore 13, 2) := by decide +kernel
theorem dL_law_240 : decode cL_law 240 = .ok (.iconst 0, 1) := by decide +kernel
theorem dL_law_241 : decode cL_law 241 = .ok (.istore 14, 2) := by decide +kernel
theorem dL_law_243 : decode cL_law 243 = .ok (.iload 14, 2) := by decide +kernel
theorem dL_law_245 : decode cL_law 245 = .ok (.bipush 63, 2) := by decide +kernel
theorem dL_law_247 : decode cL_law 247 = .ok (.if_icmp .ge 67, 3) := by decide +kernel
theorem dL_law_250 : decode cL_law 250 = .ok (.aload 9, 2) := by decide +kernel
theorem dL_law_252 : decode cL_law 252 = .ok (.iload 14, 2) := by decide +kernel
theorem dL_law_254 : decode cL_law 254 = .ok (.aload 5, 2) := by decide +kernel
theorem dL_law_256 : decode cL_law 256 = .ok (.iload 14, 2) := by decide +kernel
theorem dL_law_258 : decode cL_law 258 = .ok (.iaload, 1) := by decide +kernel
theorem dL_law_259 : decode cL_law 259 = .ok (.iastore, 1) := by decide +kernel
theorem dL_law_260 : decode cL_law 260 = .ok (.iload 14, 2) := by decide +kernel
theorem dL_law_262 : decode cL_law 262 = .ok (.bipush 30, 2) := by decide +kernel
theorem dL_law_264 : decode cL_law 264 = .ok (.if_icmp .ge 12, 3) := by decide +kernel
theorem dL_law_267 : decode cL_law 267 = .ok (.aload 7, 2) := by decide +kernel
theorem dL_law_269 : decode cL_law 269 = .ok (.iload 14, 2) := by decide +kernel
theorem dL_law_271 : decode cL_law 271 = .ok (.aload_n 3, 1) := by decide +kernel
theorem dL_law_272 : decode cL_law 272 = .ok (.iload 14, 2) := by decide +kernel
theorem dL_law_274 : decode cL_law 274 = .ok (.iaload, 1) := by decide +kernel
theorem dL_law_275 : decode cL_law 275 = .ok (.iastore, 1) := by decide +kernel
theorem dL_law_276 : decode cL_law 276 = .ok (.iload 14, 2) := by decide +kernel
theorem dL_law_278 : decode cL_law 278 = .ok (.bipush 8, 2) := by decide +kernel
theorem dL_law_280 : decode cL_law 280 = .ok (.if_icmp .ge 12, 3) := by decide +kernel
theorem dL_law_283 : decode cL_law 283 = .ok (.aload 6, 2) := by decide +kernel
theorem dL_law_285 : decode cL_law 285 = .ok (.iload 14, 2) := by decide +kernel
theorem dL_law_287 : decode cL_law 287 = .ok (.aload_n 2, 1) := by decide +kernel
theorem dL_law_288 : decode cL_law 288 = .ok (.iload 14, 2) := by decide +kernel
theorem dL_law_290 : decode cL_law 290 = .ok (.iaload, 1) := by decide +kernel
theorem dL_law_291 : decode cL_law 291 = .ok (.iastore, 1) := by decide +kernel
theorem dL_law_292 : decode cL_law 292 = .ok (.iload 14, 2) := by decide +kernel
theorem dL_law_294 : decode cL_law 294 = .ok (.iconst 3, 1) := by decide +kernel
theorem dL_law_295 : decode cL_law 295 = .ok (.if_icmp .ge 13, 3) := by decide +kernel
theorem dL_law_298 : decode cL_law 298 = .ok (.aload 8, 2) := by decide +kernel
theorem dL_law_300 : decode cL_law 300 = .ok (.iload 14, 2) := by decide +kernel
theorem dL_law_302 : decode cL_law 302 = .ok (.aload 4, 2) := by decide +kernel
theorem dL_law_304 : decode cL_law 304 = .ok (.iload 14, 2) := by decide +kernel
theorem dL_law_306 : decode cL_law 306 = .ok (.iaload, 1) := by decide +kernel
theorem dL_law_307 : decode cL_law 307 = .ok (.iastore, 1) := by decide +kernel
theorem dL_law_308 : decode cL_law 308 = .ok (.iinc 14 1, 3) := by decide +kernel
theorem dL_law_311 : decode cL_law 311 = .ok (.goto (-68), 3) := by decide +kernel
theorem dL_law_314 : decode cL_law 314 = .ok (.aload_n 1, 1) := by decide +kernel
theorem dL_law_315 : decode cL_law 315 = .ok (.iload 10, 2) := by decide +kernel
theorem dL_law_317 : decode cL_law 317 = .ok (.iconst 4, 1) := by decide +kernel
theorem dL_law_318 : decode cL_law 318 = .ok (.if_icmp .ge 7, 3) := by decide +kernel
theorem dL_law_321 : decode cL_law 321 = .ok (.iconst 0, 1) := by decide +kernel
theorem dL_law_322 : decode cL_law 322 = .ok (.goto 13, 3) := by decide +kernel
theorem dL_law_325 : decode cL_law 325 = .ok (.iload 11, 2) := by decide +kernel
theorem dL_law_327 : decode cL_law 327 = .ok (.bipush 13, 2) := by decide +kernel
theorem dL_law_329 : decode cL_law 329 = .ok (.ishr, 1) := by decide +kernel
theorem dL_law_330 : decode cL_law 330 = .ok (.bipush 16, 2) := by decide +kernel
theorem dL_law_332 : decode cL_law 332 = .ok (.invokestatic 47, 3) := by decide +kernel
theorem dL_law_335 : decode cL_law 335 = .ok (.iload 11, 2) := by decide +kernel
theorem dL_law_337 : decode cL_law 337 = .ok (.iload 12, 2) := by decide +kernel
theorem dL_law_339 : decode cL_law 339 = .ok (.iload 10, 2) := by decide +kernel
theorem dL_law_341 : decode cL_law 341 = .ok (.aload_n 2, 1) := by decide +kernel
theorem dL_law_342 : decode cL_law 342 = .ok (.aload_n 3, 1) := by decide +kernel
theorem dL_law_343 : decode cL_law 343 = .ok (.aload 4, 2) := by decide +kernel
theorem dL_law_345 : decode cL_law 345 = .ok (.aload 5, 2) := by decide +kernel
theorem dL_law_347 : decode cL_law 347 = .ok (.invokestatic 135, 3) := by decide +kernel
theorem dL_law_350 : decode cL_law 350 = .ok (.ifCond .eq 20, 3) := by decide +kernel
theorem dL_law_353 : decode cL_law 353 = .ok (.aload_n 1, 1) := by decide +kernel
theorem dL_law_354 : decode cL_law 354 = .ok (.iload 12, 2) := by decide +kernel
theorem dL_law_356 : decode cL_law 356 = .ok (.iconst 2, 1) := by decide +kernel
theorem dL_law_357 : decode cL_law 357 = .ok (.ishr, 1) := by decide +kernel
theorem dL_law_358 : decode cL_law 358 = .ok (.aload_n 2, 1) := by decide +kernel
theorem dL_law_359 : decode cL_law 359 = .ok (.aload_n 3, 1) := by decide +kernel
theorem dL_law_360 : decode cL_law 360 = .ok (.aload 4, 2) := by decide +kernel
theorem dL_law_362 : decode cL_law 362 = .ok (.aload 5, 2) := by decide +kernel
theorem dL_law_364 : decode cL_law 364 = .ok (.invokestatic 126, 3) := by decide +kernel
theorem dL_law_367 : decode cL_law 367 = .ok (.ifCond .ne 5, 3) := by decide +kernel
theorem dL_law_370 : decode cL_law 370 = .ok (.iconst 0, 1) := by decide +kernel
theorem dL_law_371 : decode cL_law 371 = .ok (.ireturn, 1) := by decide +kernel
theorem dL_law_372 : decode cL_law 372 = .ok (.iload 13, 2) := by decide +kernel
theorem dL_law_374 : decode cL_law 374 = .ok (.bipush 6, 2) := by decide +kernel
theorem dL_law_376 : decode cL_law 376 = .ok (.if_icmp .ge 144, 3) := by decide +kernel
theorem dL_law_379 : decode cL_law 379 = .ok (.aload_n 1, 1) := by decide +kernel
theorem dL_law_380 : decode cL_law 380 = .ok (.bipush 6, 2) := by decide +kernel
theorem dL_law_382 : decode cL_law 382 = .ok (.invokevirtual 64, 3) := by decide +kernel
theorem dL_law_385 : decode cL_law 385 = .ok (.iload 13, 2) := by decide +kernel
theorem dL_law_387 : decode cL_law 387 = .ok (.iconst 1, 1) := by decide +kernel
theorem dL_law_388 : decode cL_law 388 = .ok (.iadd, 1) := by decide +kernel
theorem dL_law_389 : decode cL_law 389 = .ok (.if_icmp .ne 131, 3) := by decide +kernel
theorem dL_law_392 : decode cL_law 392 = .ok (.iload 12, 2) := by decide +kernel
theorem dL_law_394 : decode cL_law 394 = .ok (.bipush 12, 2) := by decide +kernel
theorem dL_law_396 : decode cL_law 396 = .ok (.ishr, 1) := by decide +kernel
theorem dL_law_397 : decode cL_law 397 = .ok (.iconst 4, 1) := by decide +kernel
theorem dL_law_398 : decode cL_law 398 = .ok (.invokestatic 47, 3) := by decide +kernel
theorem dL_law_401 : decode cL_law 401 = .ok (.ifCond .ne 119, 3) := by decide +kernel
theorem dL_law_404 : decode cL_law 404 = .ok (.aload 4, 2) := by decide +kernel
theorem dL_law_406 : decode cL_law 406 = .ok (.iconst 2, 1) := by decide +kernel
theorem dL_law_407 : decode cL_law 407 = .ok (.iaload, 1) := by decide +kernel
theorem dL_law_408 : decode cL_law 408 = .ok (.istore 14, 2) := by decide +kernel
theorem dL_law_410 : decode cL_law 410 = .ok (.aload_n 1, 1) := by decide +kernel
theorem dL_law_411 : decode cL_law 411 = .ok (.invokevirtual 139, 3) := by decide +kernel
theorem dL_law_414 : decode cL_law 414 = .ok (.iload 13, 2) := by decide +kernel
theorem dL_law_416 : decode cL_law 416 = .ok (.if_icmp .eq 5, 3) := by decide +kernel
theorem dL_law_419 : decode cL_law 419 = .ok (.iconst 0, 1) := by decide +kernel
theorem dL_law_420 : decode cL_law 420 = .ok (.ireturn, 1) := by decide +kernel
theorem dL_law_421 : decode cL_law 421 = .ok (.iconst 0, 1) := by decide +kernel
theorem dL_law_422 : decode cL_law 422 = .ok (.istore 15, 2) := by decide +kernel
theorem dL_law_424 : decode cL_law 424 = .ok (.iload 15, 2) := by decide +kernel
theorem dL_law_426 : decode cL_law 426 = .ok (.bipush 63, 2) := by decide +kernel
theorem dL_law_428 : decode cL_law 428 = .ok (.if_icmp .ge 67, 3) := by decide +kernel
theorem dL_law_431 : decode cL_law 431 = .ok (.aload 5, 2) := by decide +kernel
theorem dL_law_433 : decode cL_law 433 = .ok (.iload 15, 2) := by decide +kernel
theorem dL_law_435 : decode cL_law 435 = .ok (.aload 9, 2) := by decide +kernel
theorem dL_law_437 : decode cL_law 437 = .ok (.iload 15, 2) := by decide +kernel
theorem dL_law_439 : decode cL_law 439 = .ok (.iaload, 1) := by decide +kernel
theorem dL_law_440 : decode cL_law 440 = .ok (.iastore, 1) := by decide +kernel
theorem dL_law_441 : decode cL_law 441 = .ok (.iload 15, 2) := by decide +kernel
theorem dL_law_443 : decode cL_law 443 = .ok (.bipush 30, 2) := by decide +kernel
theorem dL_law_445 : decode cL_law 445 = .ok (.if_icmp .ge 12, 3) := by decide +kernel
theorem dL_law_448 : decode cL_law 448 = .ok (.aload_n 3, 1) := by decide +kernel
theorem dL_law_449 : decode cL_law 449 = .ok (.iload 15, 2) := by decide +kernel
theorem dL_law_451 : decode cL_law 451 = .ok (.aload 7, 2) := by decide +kernel
theorem dL_law_453 : decode cL_law 453 = .ok (.iload 15, 2) := by decide +kernel
theorem dL_law_455 : decode cL_law 455 = .ok (.iaload, 1) := by decide +kernel
theorem dL_law_456 : decode cL_law 456 = .ok (.iastore, 1) := by decide +kernel
theorem dL_law_457 : decode cL_law 457 = .ok (.iload 15, 2) := by decide +kernel
theorem dL_law_459 : decode cL_law 459 = .ok (.bipush 8, 2) := by decide +kernel
theorem dL_law_461 : decode cL_law 461 = .ok (.if_icmp .ge 12, 3) := by decide +kernel
theorem dL_law_464 : decode cL_law 464 = .ok (.aload_n 2, 1) := by decide +kernel
theorem dL_law_465 : decode cL_law 465 = .ok (.iload 15, 2) := by decide +kernel
theorem dL_law_467 : decode cL_law 467 = .ok (.aload 6, 2) := by decide +kernel
theorem dL_law_469 : decode cL_law 469 = .ok (.iload 15, 2) := by decide +kernel
theorem dL_law_471 : decode cL_law 471 = .ok (.iaload, 1) := by decide +kernel
theorem dL_law_472 : decode cL_law 472 = .ok (.iastore, 1) := by decide +kernel
theorem dL_law_473 : decode cL_law 473 = .ok (.iload 15, 2) := by decide +kernel
theorem dL_law_475 : decode cL_law 475 = .ok (.iconst 3, 1) := by decide +kernel
theorem dL_law_476 : decode cL_law 476 = .ok (.if_icmp .ge 13, 3) := by decide +kernel
theorem dL_law_479 : decode cL_law 479 = .ok (.aload 4, 2) := by decide +kernel
theorem dL_law_481 : decode cL_law 481 = .ok (.iload 15, 2) := by decide +kernel
theorem dL_law_483 : decode cL_law 483 = .ok (.aload 8, 2) := by decide +kernel
theorem dL_law_485 : decode cL_law 485 = .ok (.iload 15, 2) := by decide +kernel
theorem dL_law_487 : decode cL_law 487 = .ok (.iaload, 1) := by decide +kernel
theorem dL_law_488 : decode cL_law 488 = .ok (.iastore, 1) := by decide +kernel
theorem dL_law_489 : decode cL_law 489 = .ok (.iinc 15 1, 3) := by decide +kernel
theorem dL_law_492 : decode cL_law 492 = .ok (.goto (-68), 3) := by decide +kernel
theorem dL_law_495 : decode cL_law 495 = .ok (.aload 4, 2) := by decide +kernel
theorem dL_law_497 : decode cL_law 497 = .ok (.iconst 2, 1) := by decide +kernel
theorem dL_law_498 : decode cL_law 498 = .ok (.iload 14, 2) := by decide +kernel
theorem dL_law_500 : decode cL_law 500 = .ok (.iastore, 1) := by decide +kernel
theorem dL_law_501 : decode cL_law 501 = .ok (.aload_n 1, 1) := by decide +kernel
theorem dL_law_502 : decode cL_law 502 = .ok (.iload 12, 2) := by decide +kernel
theorem dL_law_504 : decode cL_law 504 = .ok (.iconst 3, 1) := by decide +kernel
theorem dL_law_505 : decode cL_law 505 = .ok (.ishr, 1) := by decide +kernel
theorem dL_law_506 : decode cL_law 506 = .ok (.aload_n 2, 1) := by decide +kernel
theorem dL_law_507 : decode cL_law 507 = .ok (.aload_n 3, 1) := by decide +kernel
theorem dL_law_508 : decode cL_law 508 = .ok (.aload 4, 2) := by decide +kernel
theorem dL_law_510 : decode cL_law 510 = .ok (.aload 5, 2) := by decide +kernel
theorem dL_law_512 : decode cL_law 512 = .ok (.invokestatic 126, 3) := by decide +kernel
theorem dL_law_515 : decode cL_law 515 = .ok (.ifCond .ne 5, 3) := by decide +kernel
theorem dL_law_518 : decode cL_law 518 = .ok (.iconst 0, 1) := by decide +kernel
theorem dL_law_519 : decode cL_law 519 = .ok (.ireturn, 1) := by decide +kernel
theorem dL_law_520 : decode cL_law 520 = .ok (.iload 10, 2) := by decide +kernel
theorem dL_law_522 : decode cL_law 522 = .ok (.bipush 7, 2) := by decide +kernel
theorem dL_law_524 : decode cL_law 524 = .ok (.irem, 1) := by decide +kernel
theorem dL_law_525 : decode cL_law 525 = .ok (.bipush 6, 2) := by decide +kernel
theorem dL_law_527 : decode cL_law 527 = .ok (.if_icmp .ne 26, 3) := by decide +kernel
theorem dL_law_530 : decode cL_law 530 = .ok (.aload_n 1, 1) := by decide +kernel
theorem dL_law_531 : decode cL_law 531 = .ok (.iload 12, 2) := by decide +kernel
theorem dL_law_533 : decode cL_law 533 = .ok (.iconst 2, 1) := by decide +kernel
theorem dL_law_534 : decode cL_law 534 = .ok (.ishr, 1) := by decide +kernel
theorem dL_law_535 : decode cL_law 535 = .ok (.iload 11, 2) := by decide +kernel
theorem dL_law_537 : decode cL_law 537 = .ok (.iconst 2, 1) := by decide +kernel
theorem dL_law_538 : decode cL_law 538 = .ok (.ishr, 1) := by decide +kernel
theorem dL_law_539 : decode cL_law 539 = .ok (.aload_n 2, 1) := by decide +kernel
theorem dL_law_540 : decode cL_law 540 = .ok (.aload_n 3, 1) := by decide +kernel
theorem dL_law_541 : decode cL_law 541 = .ok (.aload 4, 2) := by decide +kernel
theorem dL_law_543 : decode cL_law 543 = .ok (.aload 5, 2) := by decide +kernel
theorem dL_law_545 : decode cL_law 545 = .ok (.invokestatic 142, 3) := by decide +kernel
theorem dL_law_548 : decode cL_law 548 = .ok (.ifCond .ne 5, 3) := by decide +kernel
theorem dL_law_551 : decode cL_law 551 = .ok (.iconst 0, 1) := by decide +kernel
theorem dL_law_552 : decode cL_law 552 = .ok (.ireturn, 1) := by decide +kernel
theorem dL_law_553 : decode cL_law 553 = .ok (.iinc 10 1, 3) := by decide +kernel
theorem dL_law_556 : decode cL_law 556 = .ok (.goto (-359), 3) := by decide +kernel
theorem dL_law_559 : decode cL_law 559 = .ok (.iconst 1, 1) := by decide +kernel
theorem dL_law_560 : decode cL_law 560 = .ok (.ireturn, 1) := by decide +kernel
