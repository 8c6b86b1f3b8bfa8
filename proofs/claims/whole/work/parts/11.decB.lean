/-! decode rows (written by wip/whole/prog/mknames.py) -/
theorem d_Ma_init_0 : decode prog_7_method_1_code 0 = .ok (.aload_n 0, 1) := by decide +kernel
theorem d_Ma_init_1 : decode prog_7_method_1_code 1 = .ok (.invokespecial 3, 3) := by decide +kernel
theorem d_Ma_init_4 : decode prog_7_method_1_code 4 = .ok (.aload_n 0, 1) := by decide +kernel
theorem d_Ma_init_5 : decode prog_7_method_1_code 5 = .ok (.iconst 4, 1) := by decide +kernel
theorem d_Ma_init_6 : decode prog_7_method_1_code 6 = .ok (.anewarray 9, 3) := by decide +kernel
theorem d_Ma_init_9 : decode prog_7_method_1_code 9 = .ok (.putfield 11, 3) := by decide +kernel
theorem d_Ma_init_12 : decode prog_7_method_1_code 12 = .ok (.aload_n 0, 1) := by decide +kernel
theorem d_Ma_init_13 : decode prog_7_method_1_code 13 = .ok (.bipush 12, 2) := by decide +kernel
theorem d_Ma_init_15 : decode prog_7_method_1_code 15 = .ok (.newarray .int, 2) := by decide +kernel
theorem d_Ma_init_17 : decode prog_7_method_1_code 17 = .ok (.putfield 17, 3) := by decide +kernel
theorem d_Ma_init_20 : decode prog_7_method_1_code 20 = .ok (.aload_n 0, 1) := by decide +kernel
theorem d_Ma_init_21 : decode prog_7_method_1_code 21 = .ok (.aload_n 1, 1) := by decide +kernel
theorem d_Ma_init_22 : decode prog_7_method_1_code 22 = .ok (.putfield 21, 3) := by decide +kernel
theorem d_Ma_init_25 : decode prog_7_method_1_code 25 = .ok (.iconst 0, 1) := by decide +kernel
theorem d_Ma_init_26 : decode prog_7_method_1_code 26 = .ok (.istore_n 2, 1) := by decide +kernel
theorem d_Ma_init_27 : decode prog_7_method_1_code 27 = .ok (.iload_n 2, 1) := by decide +kernel
theorem d_Ma_init_28 : decode prog_7_method_1_code 28 = .ok (.iconst 4, 1) := by decide +kernel
theorem d_Ma_init_29 : decode prog_7_method_1_code 29 = .ok (.if_icmp .ge 22, 3) := by decide +kernel
theorem d_Ma_init_32 : decode prog_7_method_1_code 32 = .ok (.aload_n 0, 1) := by decide +kernel
theorem d_Ma_init_33 : decode prog_7_method_1_code 33 = .ok (.getfield 11, 3) := by decide +kernel
theorem d_Ma_init_36 : decode prog_7_method_1_code 36 = .ok (.iload_n 2, 1) := by decide +kernel
theorem d_Ma_init_37 : decode prog_7_method_1_code 37 = .ok (.new 9, 3) := by decide +kernel
theorem d_Ma_init_40 : decode prog_7_method_1_code 40 = .ok (.dup, 1) := by decide +kernel
theorem d_Ma_init_41 : decode prog_7_method_1_code 41 = .ok (.invokespecial 25, 3) := by decide +kernel
theorem d_Ma_init_44 : decode prog_7_method_1_code 44 = .ok (.aastore, 1) := by decide +kernel
theorem d_Ma_init_45 : decode prog_7_method_1_code 45 = .ok (.iinc 2 1, 3) := by decide +kernel
theorem d_Ma_init_48 : decode prog_7_method_1_code 48 = .ok (.goto (-21), 3) := by decide +kernel
theorem d_Ma_init_51 : decode prog_7_method_1_code 51 = .ok (.return_, 1) := by decide +kernel
theorem d_Ch_init_0 : decode prog_3_method_1_code 0 = .ok (.aload_n 0, 1) := by decide +kernel
theorem d_Ch_init_1 : decode prog_3_method_1_code 1 = .ok (.invokespecial 3, 3) := by decide +kernel
theorem d_Ch_init_4 : decode prog_3_method_1_code 4 = .ok (.aload_n 0, 1) := by decide +kernel
theorem d_Ch_init_5 : decode prog_3_method_1_code 5 = .ok (.bipush 14, 2) := by decide +kernel
theorem d_Ch_init_7 : decode prog_3_method_1_code 7 = .ok (.anewarray 9, 3) := by decide +kernel
theorem d_Ch_init_10 : decode prog_3_method_1_code 10 = .ok (.putfield 11, 3) := by decide +kernel
theorem d_Ch_init_13 : decode prog_3_method_1_code 13 = .ok (.aload_n 0, 1) := by decide +kernel
theorem d_Ch_init_14 : decode prog_3_method_1_code 14 = .ok (.new 17, 3) := by decide +kernel
theorem d_Ch_init_17 : decode prog_3_method_1_code 17 = .ok (.dup, 1) := by decide +kernel
theorem d_Ch_init_18 : decode prog_3_method_1_code 18 = .ok (.invokespecial 19, 3) := by decide +kernel
theorem d_Ch_init_21 : decode prog_3_method_1_code 21 = .ok (.putfield 20, 3) := by decide +kernel
theorem d_Ch_init_24 : decode prog_3_method_1_code 24 = .ok (.aload_n 0, 1) := by decide +kernel
theorem d_Ch_init_25 : decode prog_3_method_1_code 25 = .ok (.aload_n 1, 1) := by decide +kernel
theorem d_Ch_init_26 : decode prog_3_method_1_code 26 = .ok (.putfield 24, 3) := by decide +kernel
theorem d_Ch_init_29 : decode prog_3_method_1_code 29 = .ok (.aload_n 0, 1) := by decide +kernel
theorem d_Ch_init_30 : decode prog_3_method_1_code 30 = .ok (.aload_n 1, 1) := by decide +kernel
theorem d_Ch_init_31 : decode prog_3_method_1_code 31 = .ok (.iconst 0, 1) := by decide +kernel
theorem d_Ch_init_32 : decode prog_3_method_1_code 32 = .ok (.aaload, 1) := by decide +kernel
theorem d_Ch_init_33 : decode prog_3_method_1_code 33 = .ok (.putfield 28, 3) := by decide +kernel
theorem d_Ch_init_36 : decode prog_3_method_1_code 36 = .ok (.iconst 0, 1) := by decide +kernel
theorem d_Ch_init_37 : decode prog_3_method_1_code 37 = .ok (.istore_n 2, 1) := by decide +kernel
theorem d_Ch_init_38 : decode prog_3_method_1_code 38 = .ok (.iload_n 2, 1) := by decide +kernel
theorem d_Ch_init_39 : decode prog_3_method_1_code 39 = .ok (.bipush 14, 2) := by decide +kernel
theorem d_Ch_init_41 : decode prog_3_method_1_code 41 = .ok (.if_icmp .ge 22, 3) := by decide +kernel
theorem d_Ch_init_44 : decode prog_3_method_1_code 44 = .ok (.aload_n 0, 1) := by decide +kernel
theorem d_Ch_init_45 : decode prog_3_method_1_code 45 = .ok (.getfield 11, 3) := by decide +kernel
theorem d_Ch_init_48 : decode prog_3_method_1_code 48 = .ok (.iload_n 2, 1) := by decide +kernel
theorem d_Ch_init_49 : decode prog_3_method_1_code 49 = .ok (.new 9, 3) := by decide +kernel
theorem d_Ch_init_52 : decode prog_3_method_1_code 52 = .ok (.dup, 1) := by decide +kernel
theorem d_Ch_init_53 : decode prog_3_method_1_code 53 = .ok (.invokespecial 32, 3) := by decide +kernel
theorem d_Ch_init_56 : decode prog_3_method_1_code 56 = .ok (.aastore, 1) := by decide +kernel
theorem d_Ch_init_57 : decode prog_3_method_1_code 57 = .ok (.iinc 2 1, 3) := by decide +kernel
theorem d_Ch_init_60 : decode prog_3_method_1_code 60 = .ok (.goto (-22), 3) := by decide +kernel
theorem d_Ch_init_63 : decode prog_3_method_1_code 63 = .ok (.return_, 1) := by decide +kernel
theorem d_Pa_init_0 : decode prog_9_method_1_code 0 = .ok (.aload_n 0, 1) := by decide +kernel
theorem d_Pa_init_1 : decode prog_9_method_1_code 1 = .ok (.invokespecial 3, 3) := by decide +kernel
theorem d_Pa_init_4 : decode prog_9_method_1_code 4 = .ok (.aload_n 0, 1) := by decide +kernel
theorem d_Pa_init_5 : decode prog_9_method_1_code 5 = .ok (.new 9, 3) := by decide +kernel
theorem d_Pa_init_8 : decode prog_9_method_1_code 8 = .ok (.dup, 1) := by decide +kernel
theorem d_Pa_init_9 : decode prog_9_method_1_code 9 = .ok (.invokespecial 11, 3) := by decide +kernel
theorem d_Pa_init_12 : decode prog_9_method_1_code 12 = .ok (.putfield 12, 3) := by decide +kernel
theorem d_Pa_init_15 : decode prog_9_method_1_code 15 = .ok (.aload_n 0, 1) := by decide +kernel
theorem d_Pa_init_16 : decode prog_9_method_1_code 16 = .ok (.bipush 6, 2) := by decide +kernel
theorem d_Pa_init_18 : decode prog_9_method_1_code 18 = .ok (.newarray .int, 2) := by decide +kernel
theorem d_Pa_init_20 : decode prog_9_method_1_code 20 = .ok (.putfield 18, 3) := by decide +kernel
theorem d_Pa_init_23 : decode prog_9_method_1_code 23 = .ok (.aload_n 0, 1) := by decide +kernel
theorem d_Pa_init_24 : decode prog_9_method_1_code 24 = .ok (.bipush 6, 2) := by decide +kernel
theorem d_Pa_init_26 : decode prog_9_method_1_code 26 = .ok (.newarray .long, 2) := by decide +kernel
theorem d_Pa_init_28 : decode prog_9_method_1_code 28 = .ok (.putfield 22, 3) := by decide +kernel
theorem d_Pa_init_31 : decode prog_9_method_1_code 31 = .ok (.aload_n 0, 1) := by decide +kernel
theorem d_Pa_init_32 : decode prog_9_method_1_code 32 = .ok (.new 26, 3) := by decide +kernel
theorem d_Pa_init_35 : decode prog_9_method_1_code 35 = .ok (.dup, 1) := by decide +kernel
theorem d_Pa_init_36 : decode prog_9_method_1_code 36 = .ok (.invokespecial 28, 3) := by decide +kernel
theorem d_Pa_init_39 : decode prog_9_method_1_code 39 = .ok (.putfield 29, 3) := by decide +kernel
theorem d_Pa_init_42 : decode prog_9_method_1_code 42 = .ok (.aload_n 0, 1) := by decide +kernel
theorem d_Pa_init_43 : decode prog_9_method_1_code 43 = .ok (.iconst 2, 1) := by decide +kernel
theorem d_Pa_init_44 : decode prog_9_method_1_code 44 = .ok (.anewarray 33, 3) := by decide +kernel
theorem d_Pa_init_47 : decode prog_9_method_1_code 47 = .ok (.putfield 35, 3) := by decide +kernel
theorem d_Pa_init_50 : decode prog_9_method_1_code 50 = .ok (.iconst 0, 1) := by decide +kernel
theorem d_Pa_init_51 : decode prog_9_method_1_code 51 = .ok (.istore_n 1, 1) := by decide +kernel
theorem d_Pa_init_52 : decode prog_9_method_1_code 52 = .ok (.iload_n 1, 1) := by decide +kernel
theorem d_Pa_init_53 : decode prog_9_method_1_code 53 = .ok (.iconst 2, 1) := by decide +kernel
theorem d_Pa_init_54 : decode prog_9_method_1_code 54 = .ok (.if_icmp .ge 22, 3) := by decide +kernel
theorem d_Pa_init_57 : decode prog_9_method_1_code 57 = .ok (.aload_n 0, 1) := by decide +kernel
theorem d_Pa_init_58 : decode prog_9_method_1_code 58 = .ok (.getfield 35, 3) := by decide +kernel
theorem d_Pa_init_61 : decode prog_9_method_1_code 61 = .ok (.iload_n 1, 1) := by decide +kernel
theorem d_Pa_init_62 : decode prog_9_method_1_code 62 = .ok (.new 33, 3) := by decide +kernel
theorem d_Pa_init_65 : decode prog_9_method_1_code 65 = .ok (.dup, 1) := by decide +kernel
theorem d_Pa_init_66 : decode prog_9_method_1_code 66 = .ok (.invokespecial 39, 3) := by decide +kernel
theorem d_Pa_init_69 : decode prog_9_method_1_code 69 = .ok (.aastore, 1) := by decide +kernel
theorem d_Pa_init_70 : decode prog_9_method_1_code 70 = .ok (.iinc 1 1, 3) := by decide +kernel
theorem d_Pa_init_73 : decode prog_9_method_1_code 73 = .ok (.goto (-21), 3) := by decide +kernel
theorem d_Pa_init_76 : decode prog_9_method_1_code 76 = .ok (.return_, 1) := by decide +kernel
theorem d_Kn_init_0 : decode prog_6_method_1_code 0 = .ok (.aload_n 0, 1) := by decide +kernel
theorem d_Kn_init_1 : decode prog_6_method_1_code 1 = .ok (.invokespecial 3, 3) := by decide +kernel
theorem d_Kn_init_4 : decode prog_6_method_1_code 4 = .ok (.aload_n 0, 1) := by decide +kernel
theorem d_Kn_init_5 : decode prog_6_method_1_code 5 = .ok (.bipush 25, 2) := by decide +kernel
theorem d_Kn_init_7 : decode prog_6_method_1_code 7 = .ok (.newarray .long, 2) := by decide +kernel
theorem d_Kn_init_9 : decode prog_6_method_1_code 9 = .ok (.putfield 9, 3) := by decide +kernel
theorem d_Kn_init_12 : decode prog_6_method_1_code 12 = .ok (.return_, 1) := by decide +kernel
theorem d_Ba_init_0 : decode prog_2_method_1_code 0 = .ok (.aload_n 0, 1) := by decide +kernel
theorem d_Ba_init_1 : decode prog_2_method_1_code 1 = .ok (.invokespecial 3, 3) := by decide +kernel
theorem d_Ba_init_4 : decode prog_2_method_1_code 4 = .ok (.aload_n 0, 1) := by decide +kernel
theorem d_Ba_init_5 : decode prog_2_method_1_code 5 = .ok (.bipush 25, 2) := by decide +kernel
theorem d_Ba_init_7 : decode prog_2_method_1_code 7 = .ok (.newarray .long, 2) := by decide +kernel
theorem d_Ba_init_9 : decode prog_2_method_1_code 9 = .ok (.putfield 9, 3) := by decide +kernel
theorem d_Ba_init_12 : decode prog_2_method_1_code 12 = .ok (.return_, 1) := by decide +kernel
theorem d_Ch_answerFor_0 : decode prog_3_method_2_code 0 = .ok (.aload_n 1, 1) := by decide +kernel
theorem d_Ch_answerFor_1 : decode prog_3_method_2_code 1 = .ok (.getfield 33, 3) := by decide +kernel
theorem d_Ch_answerFor_4 : decode prog_3_method_2_code 4 = .ok (.ifCond .ne 5, 3) := by decide +kernel
theorem d_Ch_answerFor_7 : decode prog_3_method_2_code 7 = .ok (.iconst 2, 1) := by decide +kernel
theorem d_Ch_answerFor_8 : decode prog_3_method_2_code 8 = .ok (.ireturn, 1) := by decide +kernel
theorem d_Ch_answerFor_9 : decode prog_3_method_2_code 9 = .ok (.aload_n 0, 1) := by decide +kernel
theorem d_Ch_answerFor_10 : decode prog_3_method_2_code 10 = .ok (.aload_n 1, 1) := by decide +kernel
theorem d_Ch_answerFor_11 : decode prog_3_method_2_code 11 = .ok (.putfield 28, 3) := by decide +kernel
theorem d_Ch_answerFor_14 : decode prog_3_method_2_code 14 = .ok (.iconst 0, 1) := by decide +kernel
theorem d_Ch_answerFor_15 : decode prog_3_method_2_code 15 = .ok (.istore_n 2, 1) := by decide +kernel
theorem d_Ch_answerFor_16 : decode prog_3_method_2_code 16 = .ok (.iload_n 2, 1) := by decide +kernel
theorem d_Ch_answerFor_17 : decode prog_3_method_2_code 17 = .ok (.aload_n 1, 1) := by decide +kernel
theorem d_Ch_answerFor_18 : decode prog_3_method_2_code 18 = .ok (.getfield 39, 3) := by decide +kernel
theorem d_Ch_answerFor_21 : decode prog_3_method_2_code 21 = .ok (.if_icmp .ge 39, 3) := by decide +kernel
theorem d_Ch_answerFor_24 : decode prog_3_method_2_code 24 = .ok (.aload_n 0, 1) := by decide +kernel
theorem d_Ch_answerFor_25 : decode prog_3_method_2_code 25 = .ok (.aload_n 1, 1) := by decide +kernel
theorem d_Ch_answerFor_26 : decode prog_3_method_2_code 26 = .ok (.getfield 42, 3) := by decide +kernel
theorem d_Ch_answerFor_29 : decode prog_3_method_2_code 29 = .ok (.iload_n 2, 1) := by decide +kernel
theorem d_Ch_answerFor_30 : decode prog_3_method_2_code 30 = .ok (.aaload, 1) := by decide +kernel
theorem d_Ch_answerFor_31 : decode prog_3_method_2_code 31 = .ok (.invokevirtual 46, 3) := by decide +kernel
theorem d_Ch_answerFor_34 : decode prog_3_method_2_code 34 = .ok (.istore_n 3, 1) := by decide +kernel
theorem d_Ch_answerFor_35 : decode prog_3_method_2_code 35 = .ok (.iload_n 3, 1) := by decide +kernel
theorem d_Ch_answerFor_36 : decode prog_3_method_2_code 36 = .ok (.ifCond .eq 18, 3) := by decide +kernel
theorem d_Ch_answerFor_39 : decode prog_3_method_2_code 39 = .ok (.bipush 100, 2) := by decide +kernel
theorem d_Ch_answerFor_41 : decode prog_3_method_2_code 41 = .ok (.aload_n 1, 1) := by decide +kernel
theorem d_Ch_answerFor_42 : decode prog_3_method_2_code 42 = .ok (.getfield 42, 3) := by decide +kernel
theorem d_Ch_answerFor_45 : decode prog_3_method_2_code 45 = .ok (.iload_n 2, 1) := by decide +kernel
theorem d_Ch_answerFor_46 : decode prog_3_method_2_code 46 = .ok (.aaload, 1) := by decide +kernel
theorem d_Ch_answerFor_47 : decode prog_3_method_2_code 47 = .ok (.getfield 50, 3) := by decide +kernel
theorem d_Ch_answerFor_50 : decode prog_3_method_2_code 50 = .ok (.imul, 1) := by decide +kernel
theorem d_Ch_answerFor_51 : decode prog_3_method_2_code 51 = .ok (.iload_n 3, 1) := by decide +kernel
theorem d_Ch_answerFor_52 : decode prog_3_method_2_code 52 = .ok (.iadd, 1) := by decide +kernel
theorem d_Ch_answerFor_53 : decode prog_3_method_2_code 53 = .ok (.ireturn, 1) := by decide +kernel
theorem d_Ch_answerFor_54 : decode prog_3_method_2_code 54 = .ok (.iinc 2 1, 3) := by decide +kernel
theorem d_Ch_answerFor_57 : decode prog_3_method_2_code 57 = .ok (.goto (-41), 3) := by decide +kernel
theorem d_Ch_answerFor_60 : decode prog_3_method_2_code 60 = .ok (.iconst 0, 1) := by decide +kernel
theorem d_Ch_answerFor_61 : decode prog_3_method_2_code 61 = .ok (.ireturn, 1) := by decide +kernel
theorem d_Ch_reasonAtCut_0 : decode prog_3_method_3_code 0 = .ok (.aload_n 0, 1) := by decide +kernel
theorem d_Ch_reasonAtCut_1 : decode prog_3_method_3_code 1 = .ok (.getfield 11, 3) := by decide +kernel
theorem d_Ch_reasonAtCut_4 : decode prog_3_method_3_code 4 = .ok (.iconst 0, 1) := by decide +kernel
theorem d_Ch_reasonAtCut_5 : decode prog_3_method_3_code 5 = .ok (.aaload, 1) := by decide +kernel
theorem d_Ch_reasonAtCut_6 : decode prog_3_method_3_code 6 = .ok (.astore_n 2, 1) := by decide +kernel
theorem d_Ch_reasonAtCut_7 : decode prog_3_method_3_code 7 = .ok (.aload_n 2, 1) := by decide +kernel
theorem d_Ch_reasonAtCut_8 : decode prog_3_method_3_code 8 = .ok (.aload_n 1, 1) := by decide +kernel
theorem d_Ch_reasonAtCut_9 : decode prog_3_method_3_code 9 = .ok (.invokevirtual 55, 3) := by decide +kernel
theorem d_Ch_reasonAtCut_12 : decode prog_3_method_3_code 12 = .ok (.ifCond .ne 5, 3) := by decide +kernel
theorem d_Ch_reasonAtCut_15 : decode prog_3_method_3_code 15 = .ok (.iconst 0, 1) := by decide +kernel
theorem d_Ch_reasonAtCut_16 : decode prog_3_method_3_code 16 = .ok (.ireturn, 1) := by decide +kernel
theorem d_Ch_reasonAtCut_17 : decode prog_3_method_3_code 17 = .ok (.aload_n 2, 1) := by decide +kernel
theorem d_Ch_reasonAtCut_18 : decode prog_3_method_3_code 18 = .ok (.getfield 59, 3) := by decide +kernel
theorem d_Ch_reasonAtCut_21 : decode prog_3_method_3_code 21 = .ok (.aload_n 1, 1) := by decide +kernel
theorem d_Ch_reasonAtCut_22 : decode prog_3_method_3_code 22 = .ok (.getfield 63, 3) := by decide +kernel
theorem d_Ch_reasonAtCut_25 : decode prog_3_method_3_code 25 = .ok (.iconst 0, 1) := by decide +kernel
theorem d_Ch_reasonAtCut_26 : decode prog_3_method_3_code 26 = .ok (.aaload, 1) := by decide +kernel
theorem d_Ch_reasonAtCut_27 : decode prog_3_method_3_code 27 = .ok (.invokevirtual 67, 3) := by decide +kernel
theorem d_Ch_reasonAtCut_30 : decode prog_3_method_3_code 30 = .ok (.ifCond .ne 19, 3) := by decide +kernel
theorem d_Ch_reasonAtCut_33 : decode prog_3_method_3_code 33 = .ok (.aload_n 2, 1) := by decide +kernel
theorem d_Ch_reasonAtCut_34 : decode prog_3_method_3_code 34 = .ok (.getfield 59, 3) := by decide +kernel
theorem d_Ch_reasonAtCut_37 : decode prog_3_method_3_code 37 = .ok (.aload_n 1, 1) := by decide +kernel
theorem d_Ch_reasonAtCut_38 : decode prog_3_method_3_code 38 = .ok (.getfield 63, 3) := by decide +kernel
theorem d_Ch_reasonAtCut_41 : decode prog_3_method_3_code 41 = .ok (.iconst 1, 1) := by decide +kernel
theorem d_Ch_reasonAtCut_42 : decode prog_3_method_3_code 42 = .ok (.aaload, 1) := by decide +kernel
theorem d_Ch_reasonAtCut_43 : decode prog_3_method_3_code 43 = .ok (.invokevirtual 67, 3) := by decide +kernel
theorem d_Ch_reasonAtCut_46 : decode prog_3_method_3_code 46 = .ok (.ifCond .eq 5, 3) := by decide +kernel
theorem d_Ch_reasonAtCut_49 : decode prog_3_method_3_code 49 = .ok (.iconst 1, 1) := by decide +kernel
theorem d_Ch_reasonAtCut_50 : decode prog_3_method_3_code 50 = .ok (.ireturn, 1) := by decide +kernel
theorem d_Ch_reasonAtCut_51 : decode prog_3_method_3_code 51 = .ok (.aload_n 0, 1) := by decide +kernel
theorem d_Ch_reasonAtCut_52 : decode prog_3_method_3_code 52 = .ok (.iconst 0, 1) := by decide +kernel
theorem d_Ch_reasonAtCut_53 : decode prog_3_method_3_code 53 = .ok (.putfield 73, 3) := by decide +kernel
theorem d_Ch_reasonAtCut_56 : decode prog_3_method_3_code 56 = .ok (.aload_n 0, 1) := by decide +kernel
theorem d_Ch_reasonAtCut_57 : decode prog_3_method_3_code 57 = .ok (.iconst 0, 1) := by decide +kernel
theorem d_Ch_reasonAtCut_58 : decode prog_3_method_3_code 58 = .ok (.invokevirtual 76, 3) := by decide +kernel
theorem d_Ch_reasonAtCut_61 : decode prog_3_method_3_code 61 = .ok (.ireturn, 1) := by decide +kernel
theorem d_Pa_beginAt_0 : decode prog_9_method_2_code 0 = .ok (.aload_n 0, 1) := by decide +kernel
theorem d_Pa_beginAt_1 : decode prog_9_method_2_code 1 = .ok (.aload_n 1, 1) := by decide +kernel
theorem d_Pa_beginAt_2 : decode prog_9_method_2_code 2 = .ok (.getfield 40, 3) := by decide +kernel
theorem d_Pa_beginAt_5 : decode prog_9_method_2_code 5 = .ok (.putfield 46, 3) := by decide +kernel
theorem d_Pa_beginAt_8 : decode prog_9_method_2_code 8 = .ok (.aload_n 0, 1) := by decide +kernel
theorem d_Pa_beginAt_9 : decode prog_9_method_2_code 9 = .ok (.iconst 0, 1) := by decide +kernel
theorem d_Pa_beginAt_10 : decode prog_9_method_2_code 10 = .ok (.putfield 47, 3) := by decide +kernel
theorem d_Pa_beginAt_13 : decode prog_9_method_2_code 13 = .ok (.aload_n 0, 1) := by decide +kernel
theorem d_Pa_beginAt_14 : decode prog_9_method_2_code 14 = .ok (.iconst 0, 1) := by decide +kernel
theorem d_Pa_beginAt_15 : decode prog_9_method_2_code 15 = .ok (.putfield 50, 3) := by decide +kernel
theorem d_Pa_beginAt_18 : decode prog_9_method_2_code 18 = .ok (.aload_n 0, 1) := by decide +kernel
theorem d_Pa_beginAt_19 : decode prog_9_method_2_code 19 = .ok (.getfield 12, 3) := by decide +kernel
theorem d_Pa_beginAt_22 : decode prog_9_method_2_code 22 = .ok (.invokevirtual 53, 3) := by decide +kernel
theorem d_Pa_beginAt_25 : decode prog_9_method_2_code 25 = .ok (.iconst 0, 1) := by decide +kernel
theorem d_Pa_beginAt_26 : decode prog_9_method_2_code 26 = .ok (.istore_n 2, 1) := by decide +kernel
theorem d_Pa_beginAt_27 : decode prog_9_method_2_code 27 = .ok (.iload_n 2, 1) := by decide +kernel
theorem d_Pa_beginAt_28 : decode prog_9_method_2_code 28 = .ok (.iconst 2, 1) := by decide +kernel
theorem d_Pa_beginAt_29 : decode prog_9_method_2_code 29 = .ok (.if_icmp .ge 38, 3) := by decide +kernel
theorem d_Pa_beginAt_32 : decode prog_9_method_2_code 32 = .ok (.aload_n 0, 1) := by decide +kernel
theorem d_Pa_beginAt_33 : decode prog_9_method_2_code 33 = .ok (.getfield 35, 3) := by decide +kernel
theorem d_Pa_beginAt_36 : decode prog_9_method_2_code 36 = .ok (.iload_n 2, 1) := by decide +kernel
theorem d_Pa_beginAt_37 : decode prog_9_method_2_code 37 = .ok (.aaload, 1) := by decide +kernel
theorem d_Pa_beginAt_38 : decode prog_9_method_2_code 38 = .ok (.invokevirtual 56, 3) := by decide +kernel
theorem d_Pa_beginAt_41 : decode prog_9_method_2_code 41 = .ok (.aload_n 0, 1) := by decide +kernel
theorem d_Pa_beginAt_42 : decode prog_9_method_2_code 42 = .ok (.getfield 35, 3) := by decide +kernel
theorem d_Pa_beginAt_45 : decode prog_9_method_2_code 45 = .ok (.iload_n 2, 1) := by decide +kernel
theorem d_Pa_beginAt_46 : decode prog_9_method_2_code 46 = .ok (.aaload, 1) := by decide +kernel
theorem d_Pa_beginAt_47 : decode prog_9_method_2_code 47 = .ok (.iconst 1, 1) := by decide +kernel
theorem d_Pa_beginAt_48 : decode prog_9_method_2_code 48 = .ok (.aload_n 1, 1) := by decide +kernel
theorem d_Pa_beginAt_49 : decode prog_9_method_2_code 49 = .ok (.getfield 59, 3) := by decide +kernel
theorem d_Pa_beginAt_52 : decode prog_9_method_2_code 52 = .ok (.iload_n 2, 1) := by decide +kernel
theorem d_Pa_beginAt_53 : decode prog_9_method_2_code 53 = .ok (.aaload, 1) := by decide +kernel
theorem d_Pa_beginAt_54 : decode prog_9_method_2_code 54 = .ok (.aload_n 0, 1) := by decide +kernel
theorem d_Pa_beginAt_55 : decode prog_9_method_2_code 55 = .ok (.getfield 12, 3) := by decide +kernel
theorem d_Pa_beginAt_58 : decode prog_9_method_2_code 58 = .ok (.invokevirtual 63, 3) := by decide +kernel
theorem d_Pa_beginAt_61 : decode prog_9_method_2_code 61 = .ok (.iinc 2 1, 3) := by decide +kernel
theorem d_Pa_beginAt_64 : decode prog_9_method_2_code 64 = .ok (.goto (-37), 3) := by decide +kernel
theorem d_Pa_beginAt_67 : decode prog_9_method_2_code 67 = .ok (.aload_n 0, 1) := by decide +kernel
theorem d_Pa_beginAt_68 : decode prog_9_method_2_code 68 = .ok (.getfield 29, 3) := by decide +kernel
theorem d_Pa_beginAt_71 : decode prog_9_method_2_code 71 = .ok (.invokevirtual 67, 3) := by decide +kernel
theorem d_Pa_beginAt_74 : decode prog_9_method_2_code 74 = .ok (.aload_n 0, 1) := by decide +kernel
theorem d_Pa_beginAt_75 : decode prog_9_method_2_code 75 = .ok (.getfield 29, 3) := by decide +kernel
theorem d_Pa_beginAt_78 : decode prog_9_method_2_code 78 = .ok (.aload_n 1, 1) := by decide +kernel
theorem d_Pa_beginAt_79 : decode prog_9_method_2_code 79 = .ok (.invokevirtual 70, 3) := by decide +kernel
theorem d_Pa_beginAt_82 : decode prog_9_method_2_code 82 = .ok (.ireturn, 1) := by decide +kernel
theorem d_Ba_reset_0 : decode prog_2_method_2_code 0 = .ok (.iconst 0, 1) := by decide +kernel
theorem d_Ba_reset_1 : decode prog_2_method_2_code 1 = .ok (.istore_n 1, 1) := by decide +kernel
theorem d_Ba_reset_2 : decode prog_2_method_2_code 2 = .ok (.iload_n 1, 1) := by decide +kernel
theorem d_Ba_reset_3 : decode prog_2_method_2_code 3 = .ok (.bipush 25, 2) := by decide +kernel
theorem d_Ba_reset_5 : decode prog_2_method_2_code 5 = .ok (.if_icmp .ge 16, 3) := by decide +kernel
theorem d_Ba_reset_8 : decode prog_2_method_2_code 8 = .ok (.aload_n 0, 1) := by decide +kernel
theorem d_Ba_reset_9 : decode prog_2_method_2_code 9 = .ok (.getfield 9, 3) := by decide +kernel
theorem d_Ba_reset_12 : decode prog_2_method_2_code 12 = .ok (.iload_n 1, 1) := by decide +kernel
theorem d_Ba_reset_13 : decode prog_2_method_2_code 13 = .ok (.lconst 0, 1) := by decide +kernel
theorem d_Ba_reset_14 : decode prog_2_method_2_code 14 = .ok (.lastore, 1) := by decide +kernel
theorem d_Ba_reset_15 : decode prog_2_method_2_code 15 = .ok (.iinc 1 1, 3) := by decide +kernel
theorem d_Ba_reset_18 : decode prog_2_method_2_code 18 = .ok (.goto (-16), 3) := by decide +kernel
theorem d_Ba_reset_21 : decode prog_2_method_2_code 21 = .ok (.aload_n 0, 1) := by decide +kernel
theorem d_Ba_reset_22 : decode prog_2_method_2_code 22 = .ok (.lconst 0, 1) := by decide +kernel
theorem d_Ba_reset_23 : decode prog_2_method_2_code 23 = .ok (.putfield 15, 3) := by decide +kernel
theorem d_Ba_reset_26 : decode prog_2_method_2_code 26 = .ok (.return_, 1) := by decide +kernel
theorem d_Ba_addPotential_0 : decode prog_2_method_5_code 0 = .ok (.aload_n 0, 1) := by decide +kernel
theorem d_Ba_addPotential_1 : decode prog_2_method_5_code 1 = .ok (.dup, 1) := by decide +kernel
theorem d_Ba_addPotential_2 : decode prog_2_method_5_code 2 = .ok (.getfield 15, 3) := by decide +kernel
theorem d_Ba_addPotential_5 : decode prog_2_method_5_code 5 = .ok (.iload_n 1, 1) := by decide +kernel
theorem d_Ba_addPotential_6 : decode prog_2_method_5_code 6 = .ok (.i2l, 1) := by decide +kernel
theorem d_Ba_addPotential_7 : decode prog_2_method_5_code 7 = .ok (.aload_n 2, 1) := by decide +kernel
theorem d_Ba_addPotential_8 : decode prog_2_method_5_code 8 = .ok (.getfield 25, 3) := by decide +kernel
theorem d_Ba_addPotential_11 : decode prog_2_method_5_code 11 = .ok (.i2l, 1) := by decide +kernel
theorem d_Ba_addPotential_12 : decode prog_2_method_5_code 12 = .ok (.lmul, 1) := by decide +kernel
theorem d_Ba_addPotential_13 : decode prog_2_method_5_code 13 = .ok (.ladd, 1) := by decide +kernel
theorem d_Ba_addPotential_14 : decode prog_2_method_5_code 14 = .ok (.putfield 15, 3) := by decide +kernel
theorem d_Ba_addPotential_17 : decode prog_2_method_5_code 17 = .ok (.iconst 0, 1) := by decide +kernel
theorem d_Ba_addPotential_18 : decode prog_2_method_5_code 18 = .ok (.istore 4, 2) := by decide +kernel
theorem d_Ba_addPotential_20 : decode prog_2_method_5_code 20 = .ok (.iload 4, 2) := by decide +kernel
theorem d_Ba_addPotential_22 : decode prog_2_method_5_code 22 = .ok (.aload_n 2, 1) := by decide +kernel
theorem d_Ba_addPotential_23 : decode prog_2_method_5_code 23 = .ok (.getfield 31, 3) := by decide +kernel
theorem d_Ba_addPotential_26 : decode prog_2_method_5_code 26 = .ok (.if_icmp .ge 87, 3) := by decide +kernel
theorem d_Ba_addPotential_29 : decode prog_2_method_5_code 29 = .ok (.aload_n 2, 1) := by decide +kernel
theorem d_Ba_addPotential_30 : decode prog_2_method_5_code 30 = .ok (.getfield 34, 3) := by decide +kernel
theorem d_Ba_addPotential_33 : decode prog_2_method_5_code 33 = .ok (.iload 4, 2) := by decide +kernel
theorem d_Ba_addPotential_35 : decode prog_2_method_5_code 35 = .ok (.iaload, 1) := by decide +kernel
theorem d_Ba_addPotential_36 : decode prog_2_method_5_code 36 = .ok (.istore 5, 2) := by decide +kernel
theorem d_Ba_addPotential_38 : decode prog_2_method_5_code 38 = .ok (.aload_n 2, 1) := by decide +kernel
theorem d_Ba_addPotential_39 : decode prog_2_method_5_code 39 = .ok (.getfield 38, 3) := by decide +kernel
theorem d_Ba_addPotential_42 : decode prog_2_method_5_code 42 = .ok (.iload 4, 2) := by decide +kernel
theorem d_Ba_addPotential_44 : decode prog_2_method_5_code 44 = .ok (.iaload, 1) := by decide +kernel
theorem d_Ba_addPotential_45 : decode prog_2_method_5_code 45 = .ok (.istore 6, 2) := by decide +kernel
theorem d_Ba_addPotential_47 : decode prog_2_method_5_code 47 = .ok (.iload_n 1, 1) := by decide +kernel
theorem d_Ba_addPotential_48 : decode prog_2_method_5_code 48 = .ok (.i2l, 1) := by decide +kernel
theorem d_Ba_addPotential_49 : decode prog_2_method_5_code 49 = .ok (.aload_n 2, 1) := by decide +kernel
theorem d_Ba_addPotential_50 : decode prog_2_method_5_code 50 = .ok (.getfield 41, 3) := by decide +kernel
theorem d_Ba_addPotential_53 : decode prog_2_method_5_code 53 = .ok (.iload 4, 2) := by decide +kernel
theorem d_Ba_addPotential_55 : decode prog_2_method_5_code 55 = .ok (.iaload, 1) := by decide +kernel
theorem d_Ba_addPotential_56 : decode prog_2_method_5_code 56 = .ok (.i2l, 1) := by decide +kernel
theorem d_Ba_addPotential_57 : decode prog_2_method_5_code 57 = .ok (.lmul, 1) := by decide +kernel
theorem d_Ba_addPotential_58 : decode prog_2_method_5_code 58 = .ok (.lstore 7, 2) := by decide +kernel
theorem d_Ba_addPotential_60 : decode prog_2_method_5_code 60 = .ok (.aload_n 0, 1) := by decide +kernel
theorem d_Ba_addPotential_61 : decode prog_2_method_5_code 61 = .ok (.dup, 1) := by decide +kernel
theorem d_Ba_addPotential_62 : decode prog_2_method_5_code 62 = .ok (.getfield 15, 3) := by decide +kernel
theorem d_Ba_addPotential_65 : decode prog_2_method_5_code 65 = .ok (.lload 7, 2) := by decide +kernel
theorem d_Ba_addPotential_67 : decode prog_2_method_5_code 67 = .ok (.aload_n 3, 1) := by decide +kernel
theorem d_Ba_addPotential_68 : decode prog_2_method_5_code 68 = .ok (.getfield 43, 3) := by decide +kernel
theorem d_Ba_addPotential_71 : decode prog_2_method_5_code 71 = .ok (.iload 5, 2) := by decide +kernel
theorem d_Ba_addPotential_73 : decode prog_2_method_5_code 73 = .ok (.laload, 1) := by decide +kernel
theorem d_Ba_addPotential_74 : decode prog_2_method_5_code 74 = .ok (.aload_n 3, 1) := by decide +kernel
theorem d_Ba_addPotential_75 : decode prog_2_method_5_code 75 = .ok (.getfield 43, 3) := by decide +kernel
theorem d_Ba_addPotential_78 : decode prog_2_method_5_code 78 = .ok (.iload 6, 2) := by decide +kernel
theorem d_Ba_addPotential_80 : decode prog_2_method_5_code 80 = .ok (.laload, 1) := by decide +kernel
theorem d_Ba_addPotential_81 : decode prog_2_method_5_code 81 = .ok (.lsub, 1) := by decide +kernel
theorem d_Ba_addPotential_82 : decode prog_2_method_5_code 82 = .ok (.lmul, 1) := by decide +kernel
theorem d_Ba_addPotential_83 : decode prog_2_method_5_code 83 = .ok (.ladd, 1) := by decide +kernel
theorem d_Ba_addPotential_84 : decode prog_2_method_5_code 84 = .ok (.putfield 15, 3) := by decide +kernel
theorem d_Ba_addPotential_87 : decode prog_2_method_5_code 87 = .ok (.aload_n 0, 1) := by decide +kernel
theorem d_Ba_addPotential_88 : decode prog_2_method_5_code 88 = .ok (.lload 7, 2) := by decide +kernel
theorem d_Ba_addPotential_90 : decode prog_2_method_5_code 90 = .ok (.aload_n 3, 1) := by decide +kernel
theorem d_Ba_addPotential_91 : decode prog_2_method_5_code 91 = .ok (.getfield 48, 3) := by decide +kernel
theorem d_Ba_addPotential_94 : decode prog_2_method_5_code 94 = .ok (.iload 5, 2) := by decide +kernel
theorem d_Ba_addPotential_96 : decode prog_2_method_5_code 96 = .ok (.iaload, 1) := by decide +kernel
theorem d_Ba_addPotential_97 : decode prog_2_method_5_code 97 = .ok (.aload_n 3, 1) := by decide +kernel
theorem d_Ba_addPotential_98 : decode prog_2_method_5_code 98 = .ok (.getfield 48, 3) := by decide +kernel
theorem d_Ba_addPotential_101 : decode prog_2_method_5_code 101 = .ok (.iload 6, 2) := by decide +kernel
theorem d_Ba_addPotential_103 : decode prog_2_method_5_code 103 = .ok (.iaload, 1) := by decide +kernel
theorem d_Ba_addPotential_104 : decode prog_2_method_5_code 104 = .ok (.invokevirtual 51, 3) := by decide +kernel
theorem d_Ba_addPotential_107 : decode prog_2_method_5_code 107 = .ok (.iinc 4 1, 3) := by decide +kernel
theorem d_Ba_addPotential_110 : decode prog_2_method_5_code 110 = .ok (.goto (-90), 3) := by decide +kernel
theorem d_Ba_addPotential_113 : decode prog_2_method_5_code 113 = .ok (.return_, 1) := by decide +kernel
theorem d_Ba_addDifference_0 : decode prog_2_method_4_code 0 = .ok (.iload_n 3, 1) := by decide +kernel
theorem d_Ba_addDifference_1 : decode prog_2_method_4_code 1 = .ok (.iload 4, 2) := by decide +kernel
theorem d_Ba_addDifference_3 : decode prog_2_method_4_code 3 = .ok (.if_icmp .ge 21, 3) := by decide +kernel
theorem d_Ba_addDifference_6 : decode prog_2_method_4_code 6 = .ok (.aload_n 0, 1) := by decide +kernel
theorem d_Ba_addDifference_7 : decode prog_2_method_4_code 7 = .ok (.getfield 9, 3) := by decide +kernel
theorem d_Ba_addDifference_10 : decode prog_2_method_4_code 10 = .ok (.iconst 5, 1) := by decide +kernel
theorem d_Ba_addDifference_11 : decode prog_2_method_4_code 11 = .ok (.iload_n 3, 1) := by decide +kernel
theorem d_Ba_addDifference_12 : decode prog_2_method_4_code 12 = .ok (.imul, 1) := by decide +kernel
theorem d_Ba_addDifference_13 : decode prog_2_method_4_code 13 = .ok (.iload 4, 2) := by decide +kernel
theorem d_Ba_addDifference_15 : decode prog_2_method_4_code 15 = .ok (.iadd, 1) := by decide +kernel
theorem d_Ba_addDifference_16 : decode prog_2_method_4_code 16 = .ok (.dup2, 1) := by decide +kernel
theorem d_Ba_addDifference_17 : decode prog_2_method_4_code 17 = .ok (.laload, 1) := by decide +kernel
theorem d_Ba_addDifference_18 : decode prog_2_method_4_code 18 = .ok (.lload_n 1, 1) := by decide +kernel
theorem d_Ba_addDifference_19 : decode prog_2_method_4_code 19 = .ok (.ladd, 1) := by decide +kernel
theorem d_Ba_addDifference_20 : decode prog_2_method_4_code 20 = .ok (.lastore, 1) := by decide +kernel
theorem d_Ba_addDifference_21 : decode prog_2_method_4_code 21 = .ok (.goto 24, 3) := by decide +kernel
theorem d_Ba_addDifference_24 : decode prog_2_method_4_code 24 = .ok (.iload_n 3, 1) := by decide +kernel
theorem d_Ba_addDifference_25 : decode prog_2_method_4_code 25 = .ok (.iload 4, 2) := by decide +kernel
theorem d_Ba_addDifference_27 : decode prog_2_method_4_code 27 = .ok (.if_icmp .le 18, 3) := by decide +kernel
theorem d_Ba_addDifference_30 : decode prog_2_method_4_code 30 = .ok (.aload_n 0, 1) := by decide +kernel
theorem d_Ba_addDifference_31 : decode prog_2_method_4_code 31 = .ok (.getfield 9, 3) := by decide +kernel
theorem d_Ba_addDifference_34 : decode prog_2_method_4_code 34 = .ok (.iconst 5, 1) := by decide +kernel
theorem d_Ba_addDifference_35 : decode prog_2_method_4_code 35 = .ok (.iload 4, 2) := by decide +kernel
theorem d_Ba_addDifference_37 : decode prog_2_method_4_code 37 = .ok (.imul, 1) := by decide +kernel
theorem d_Ba_addDifference_38 : decode prog_2_method_4_code 38 = .ok (.iload_n 3, 1) := by decide +kernel
theorem d_Ba_addDifference_39 : decode prog_2_method_4_code 39 = .ok (.iadd, 1) := by decide +kernel
theorem d_Ba_addDifference_40 : decode prog_2_method_4_code 40 = .ok (.dup2, 1) := by decide +kernel
theorem d_Ba_addDifference_41 : decode prog_2_method_4_code 41 = .ok (.laload, 1) := by decide +kernel
theorem d_Ba_addDifference_42 : decode prog_2_method_4_code 42 = .ok (.lload_n 1, 1) := by decide +kernel
theorem d_Ba_addDifference_43 : decode prog_2_method_4_code 43 = .ok (.lsub, 1) := by decide +kernel
theorem d_Ba_addDifference_44 : decode prog_2_method_4_code 44 = .ok (.lastore, 1) := by decide +kernel
theorem d_Ba_addDifference_45 : decode prog_2_method_4_code 45 = .ok (.return_, 1) := by decide +kernel
theorem d_Kn_forgetAll_0 : decode prog_6_method_2_code 0 = .ok (.iconst 0, 1) := by decide +kernel
theorem d_Kn_forgetAll_1 : decode prog_6_method_2_code 1 = .ok (.istore_n 1, 1) := by decide +kernel
theorem d_Kn_forgetAll_2 : decode prog_6_method_2_code 2 = .ok (.iload_n 1, 1) := by decide +kernel
theorem d_Kn_forgetAll_3 : decode prog_6_method_2_code 3 = .ok (.iconst 5, 1) := by decide +kernel
theorem d_Kn_forgetAll_4 : decode prog_6_method_2_code 4 = .ok (.if_icmp .ge 44, 3) := by decide +kernel
theorem d_Kn_forgetAll_7 : decode prog_6_method_2_code 7 = .ok (.iconst 0, 1) := by decide +kernel
theorem d_Kn_forgetAll_8 : decode prog_6_method_2_code 8 = .ok (.istore_n 2, 1) := by decide +kernel
theorem d_Kn_forgetAll_9 : decode prog_6_method_2_code 9 = .ok (.iload_n 2, 1) := by decide +kernel
theorem d_Kn_forgetAll_10 : decode prog_6_method_2_code 10 = .ok (.iconst 5, 1) := by decide +kernel
theorem d_Kn_forgetAll_11 : decode prog_6_method_2_code 11 = .ok (.if_icmp .ge 31, 3) := by decide +kernel
theorem d_Kn_forgetAll_14 : decode prog_6_method_2_code 14 = .ok (.aload_n 0, 1) := by decide +kernel
theorem d_Kn_forgetAll_15 : decode prog_6_method_2_code 15 = .ok (.getfield 9, 3) := by decide +kernel
theorem d_Kn_forgetAll_18 : decode prog_6_method_2_code 18 = .ok (.iconst 5, 1) := by decide +kernel
theorem d_Kn_forgetAll_19 : decode prog_6_method_2_code 19 = .ok (.iload_n 1, 1) := by decide +kernel
theorem d_Kn_forgetAll_20 : decode prog_6_method_2_code 20 = .ok (.imul, 1) := by decide +kernel
theorem d_Kn_forgetAll_21 : decode prog_6_method_2_code 21 = .ok (.iload_n 2, 1) := by decide +kernel
theorem d_Kn_forgetAll_22 : decode prog_6_method_2_code 22 = .ok (.iadd, 1) := by decide +kernel
theorem d_Kn_forgetAll_23 : decode prog_6_method_2_code 23 = .ok (.iload_n 1, 1) := by decide +kernel
theorem d_Kn_forgetAll_24 : decode prog_6_method_2_code 24 = .ok (.iload_n 2, 1) := by decide +kernel
theorem d_Kn_forgetAll_25 : decode prog_6_method_2_code 25 = .ok (.if_icmp .ne 7, 3) := by decide +kernel
theorem d_Kn_forgetAll_28 : decode prog_6_method_2_code 28 = .ok (.lconst 0, 1) := by decide +kernel
theorem d_Kn_forgetAll_29 : decode prog_6_method_2_code 29 = .ok (.goto 6, 3) := by decide +kernel
theorem d_Kn_forgetAll_32 : decode prog_6_method_2_code 32 = .ok (.ldc2_w 15, 3) := by decide +kernel
theorem d_Kn_forgetAll_35 : decode prog_6_method_2_code 35 = .ok (.lastore, 1) := by decide +kernel
theorem d_Kn_forgetAll_36 : decode prog_6_method_2_code 36 = .ok (.iinc 2 1, 3) := by decide +kernel
theorem d_Kn_forgetAll_39 : decode prog_6_method_2_code 39 = .ok (.goto (-30), 3) := by decide +kernel
theorem d_Kn_forgetAll_42 : decode prog_6_method_2_code 42 = .ok (.iinc 1 1, 3) := by decide +kernel
theorem d_Kn_forgetAll_45 : decode prog_6_method_2_code 45 = .ok (.goto (-43), 3) := by decide +kernel
theorem d_Kn_forgetAll_48 : decode prog_6_method_2_code 48 = .ok (.return_, 1) := by decide +kernel
theorem d_Kn_learnClaims_0 : decode prog_6_method_6_code 0 = .ok (.iconst 0, 1) := by decide +kernel
theorem d_Kn_learnClaims_1 : decode prog_6_method_6_code 1 = .ok (.istore_n 2, 1) := by decide +kernel
theorem d_Kn_learnClaims_2 : decode prog_6_method_6_code 2 = .ok (.iload_n 2, 1) := by decide +kernel
theorem d_Kn_learnClaims_3 : decode prog_6_method_6_code 3 = .ok (.aload_n 1, 1) := by decide +kernel
theorem d_Kn_learnClaims_4 : decode prog_6_method_6_code 4 = .ok (.getfield 27, 3) := by decide +kernel
theorem d_Kn_learnClaims_7 : decode prog_6_method_6_code 7 = .ok (.if_icmp .ge 37, 3) := by decide +kernel
theorem d_Kn_learnClaims_10 : decode prog_6_method_6_code 10 = .ok (.aload_n 0, 1) := by decide +kernel
theorem d_Kn_learnClaims_11 : decode prog_6_method_6_code 11 = .ok (.aload_n 1, 1) := by decide +kernel
theorem d_Kn_learnClaims_12 : decode prog_6_method_6_code 12 = .ok (.getfield 33, 3) := by decide +kernel
theorem d_Kn_learnClaims_15 : decode prog_6_method_6_code 15 = .ok (.iload_n 2, 1) := by decide +kernel
theorem d_Kn_learnClaims_16 : decode prog_6_method_6_code 16 = .ok (.iaload, 1) := by decide +kernel
theorem d_Kn_learnClaims_17 : decode prog_6_method_6_code 17 = .ok (.aload_n 1, 1) := by decide +kernel
theorem d_Kn_learnClaims_18 : decode prog_6_method_6_code 18 = .ok (.getfield 37, 3) := by decide +kernel
theorem d_Kn_learnClaims_21 : decode prog_6_method_6_code 21 = .ok (.iload_n 2, 1) := by decide +kernel
theorem d_Kn_learnClaims_22 : decode prog_6_method_6_code 22 = .ok (.iaload, 1) := by decide +kernel
theorem d_Kn_learnClaims_23 : decode prog_6_method_6_code 23 = .ok (.aload_n 1, 1) := by decide +kernel
theorem d_Kn_learnClaims_24 : decode prog_6_method_6_code 24 = .ok (.getfield 40, 3) := by decide +kernel
theorem d_Kn_learnClaims_27 : decode prog_6_method_6_code 27 = .ok (.iload_n 2, 1) := by decide +kernel
theorem d_Kn_learnClaims_28 : decode prog_6_method_6_code 28 = .ok (.iaload, 1) := by decide +kernel
theorem d_Kn_learnClaims_29 : decode prog_6_method_6_code 29 = .ok (.i2l, 1) := by decide +kernel
theorem d_Kn_learnClaims_30 : decode prog_6_method_6_code 30 = .ok (.invokevirtual 43, 3) := by decide +kernel
theorem d_Kn_learnClaims_33 : decode prog_6_method_6_code 33 = .ok (.ifCond .ne 5, 3) := by decide +kernel
theorem d_Kn_learnClaims_36 : decode prog_6_method_6_code 36 = .ok (.iconst 0, 1) := by decide +kernel
theorem d_Kn_learnClaims_37 : decode prog_6_method_6_code 37 = .ok (.ireturn, 1) := by decide +kernel
theorem d_Kn_learnClaims_38 : decode prog_6_method_6_code 38 = .ok (.iinc 2 1, 3) := by decide +kernel
theorem d_Kn_learnClaims_41 : decode prog_6_method_6_code 41 = .ok (.goto (-39), 3) := by decide +kernel
theorem d_Kn_learnClaims_44 : decode prog_6_method_6_code 44 = .ok (.iconst 1, 1) := by decide +kernel
theorem d_Kn_learnClaims_45 : decode prog_6_method_6_code 45 = .ok (.ireturn, 1) := by decide +kernel
theorem d_Kn_learn_0 : decode prog_6_method_5_code 0 = .ok (.aload_n 0, 1) := by decide +kernel
theorem d_Kn_learn_1 : decode prog_6_method_5_code 1 = .ok (.iload_n 2, 1) := by decide +kernel
theorem d_Kn_learn_2 : decode prog_6_method_5_code 2 = .ok (.iload_n 1, 1) := by decide +kernel
theorem d_Kn_learn_3 : decode prog_6_method_5_code 3 = .ok (.invokevirtual 23, 3) := by decide +kernel
theorem d_Kn_learn_6 : decode prog_6_method_5_code 6 = .ok (.ldc2_w 15, 3) := by decide +kernel
theorem d_Kn_learn_9 : decode prog_6_method_5_code 9 = .ok (.lcmp, 1) := by decide +kernel
theorem d_Kn_learn_10 : decode prog_6_method_5_code 10 = .ok (.ifCond .eq 18, 3) := by decide +kernel
theorem d_Kn_learn_13 : decode prog_6_method_5_code 13 = .ok (.aload_n 0, 1) := by decide +kernel
theorem d_Kn_learn_14 : decode prog_6_method_5_code 14 = .ok (.iload_n 2, 1) := by decide +kernel
theorem d_Kn_learn_15 : decode prog_6_method_5_code 15 = .ok (.iload_n 1, 1) := by decide +kernel
theorem d_Kn_learn_16 : decode prog_6_method_5_code 16 = .ok (.invokevirtual 23, 3) := by decide +kernel
theorem d_Kn_learn_19 : decode prog_6_method_5_code 19 = .ok (.lload_n 3, 1) := by decide +kernel
theorem d_Kn_learn_20 : decode prog_6_method_5_code 20 = .ok (.ladd, 1) := by decide +kernel
theorem d_Kn_learn_21 : decode prog_6_method_5_code 21 = .ok (.lconst 0, 1) := by decide +kernel
theorem d_Kn_learn_22 : decode prog_6_method_5_code 22 = .ok (.lcmp, 1) := by decide +kernel
theorem d_Kn_learn_23 : decode prog_6_method_5_code 23 = .ok (.ifCond .ge 5, 3) := by decide +kernel
theorem d_Kn_learn_26 : decode prog_6_method_5_code 26 = .ok (.iconst 0, 1) := by decide +kernel
theorem d_Kn_learn_27 : decode prog_6_method_5_code 27 = .ok (.ireturn, 1) := by decide +kernel
theorem d_Kn_learn_28 : decode prog_6_method_5_code 28 = .ok (.iconst 0, 1) := by decide +kernel
theorem d_Kn_learn_29 : decode prog_6_method_5_code 29 = .ok (.istore 5, 2) := by decide +kernel
theorem d_Kn_learn_31 : decode prog_6_method_5_code 31 = .ok (.iload 5, 2) := by decide +kernel
theorem d_Kn_learn_33 : decode prog_6_method_5_code 33 = .ok (.iconst 5, 1) := by decide +kernel
theorem d_Kn_learn_34 : decode prog_6_method_5_code 34 = .ok (.if_icmp .ge 99, 3) := by decide +kernel
theorem d_Kn_learn_37 : decode prog_6_method_5_code 37 = .ok (.iconst 0, 1) := by decide +kernel
theorem d_Kn_learn_38 : decode prog_6_method_5_code 38 = .ok (.istore 6, 2) := by decide +kernel
theorem d_Kn_learn_40 : decode prog_6_method_5_code 40 = .ok (.iload 6, 2) := by decide +kernel
theorem d_Kn_learn_42 : decode prog_6_method_5_code 42 = .ok (.iconst 5, 1) := by decide +kernel
theorem d_Kn_learn_43 : decode prog_6_method_5_code 43 = .ok (.if_icmp .ge 84, 3) := by decide +kernel
theorem d_Kn_learn_46 : decode prog_6_method_5_code 46 = .ok (.aload_n 0, 1) := by decide +kernel
theorem d_Kn_learn_47 : decode prog_6_method_5_code 47 = .ok (.iload 5, 2) := by decide +kernel
theorem d_Kn_learn_49 : decode prog_6_method_5_code 49 = .ok (.iload_n 1, 1) := by decide +kernel
theorem d_Kn_learn_50 : decode prog_6_method_5_code 50 = .ok (.invokevirtual 23, 3) := by decide +kernel
theorem d_Kn_learn_53 : decode prog_6_method_5_code 53 = .ok (.ldc2_w 15, 3) := by decide +kernel
theorem d_Kn_learn_56 : decode prog_6_method_5_code 56 = .ok (.lcmp, 1) := by decide +kernel
theorem d_Kn_learn_57 : decode prog_6_method_5_code 57 = .ok (.ifCond .eq 64, 3) := by decide +kernel
theorem d_Kn_learn_60 : decode prog_6_method_5_code 60 = .ok (.aload_n 0, 1) := by decide +kernel
theorem d_Kn_learn_61 : decode prog_6_method_5_code 61 = .ok (.iload_n 2, 1) := by decide +kernel
theorem d_Kn_learn_62 : decode prog_6_method_5_code 62 = .ok (.iload 6, 2) := by decide +kernel
theorem d_Kn_learn_64 : decode prog_6_method_5_code 64 = .ok (.invokevirtual 23, 3) := by decide +kernel
theorem d_Kn_learn_67 : decode prog_6_method_5_code 67 = .ok (.ldc2_w 15, 3) := by decide +kernel
theorem d_Kn_learn_70 : decode prog_6_method_5_code 70 = .ok (.lcmp, 1) := by decide +kernel
theorem d_Kn_learn_71 : decode prog_6_method_5_code 71 = .ok (.ifCond .eq 50, 3) := by decide +kernel
theorem d_Kn_learn_74 : decode prog_6_method_5_code 74 = .ok (.aload_n 0, 1) := by decide +kernel
theorem d_Kn_learn_75 : decode prog_6_method_5_code 75 = .ok (.iload 5, 2) := by decide +kernel
theorem d_Kn_learn_77 : decode prog_6_method_5_code 77 = .ok (.iload_n 1, 1) := by decide +kernel
theorem d_Kn_learn_78 : decode prog_6_method_5_code 78 = .ok (.invokevirtual 23, 3) := by decide +kernel
theorem d_Kn_learn_81 : decode prog_6_method_5_code 81 = .ok (.lload_n 3, 1) := by decide +kernel
theorem d_Kn_learn_82 : decode prog_6_method_5_code 82 = .ok (.ladd, 1) := by decide +kernel
theorem d_Kn_learn_83 : decode prog_6_method_5_code 83 = .ok (.aload_n 0, 1) := by decide +kernel
theorem d_Kn_learn_84 : decode prog_6_method_5_code 84 = .ok (.iload_n 2, 1) := by decide +kernel
theorem d_Kn_learn_85 : decode prog_6_method_5_code 85 = .ok (.iload 6, 2) := by decide +kernel
theorem d_Kn_learn_87 : decode prog_6_method_5_code 87 = .ok (.invokevirtual 23, 3) := by decide +kernel
theorem d_Kn_learn_90 : decode prog_6_method_5_code 90 = .ok (.ladd, 1) := by decide +kernel
theorem d_Kn_learn_91 : decode prog_6_method_5_code 91 = .ok (.lstore 7, 2) := by decide +kernel
theorem d_Kn_learn_93 : decode prog_6_method_5_code 93 = .ok (.lload 7, 2) := by decide +kernel
theorem d_Kn_learn_95 : decode prog_6_method_5_code 95 = .ok (.aload_n 0, 1) := by decide +kernel
theorem d_Kn_learn_96 : decode prog_6_method_5_code 96 = .ok (.iload 5, 2) := by decide +kernel
theorem d_Kn_learn_98 : decode prog_6_method_5_code 98 = .ok (.iload 6, 2) := by decide +kernel
theorem d_Kn_learn_100 : decode prog_6_method_5_code 100 = .ok (.invokevirtual 23, 3) := by decide +kernel
theorem d_Kn_learn_103 : decode prog_6_method_5_code 103 = .ok (.lcmp, 1) := by decide +kernel
theorem d_Kn_learn_104 : decode prog_6_method_5_code 104 = .ok (.ifCond .ge 17, 3) := by decide +kernel
theorem d_Kn_learn_107 : decode prog_6_method_5_code 107 = .ok (.aload_n 0, 1) := by decide +kernel
theorem d_Kn_learn_108 : decode prog_6_method_5_code 108 = .ok (.getfield 9, 3) := by decide +kernel
theorem d_Kn_learn_111 : decode prog_6_method_5_code 111 = .ok (.iconst 5, 1) := by decide +kernel
theorem d_Kn_learn_112 : decode prog_6_method_5_code 112 = .ok (.iload 5, 2) := by decide +kernel
theorem d_Kn_learn_114 : decode prog_6_method_5_code 114 = .ok (.imul, 1) := by decide +kernel
theorem d_Kn_learn_115 : decode prog_6_method_5_code 115 = .ok (.iload 6, 2) := by decide +kernel
theorem d_Kn_learn_117 : decode prog_6_method_5_code 117 = .ok (.iadd, 1) := by decide +kernel
theorem d_Kn_learn_118 : decode prog_6_method_5_code 118 = .ok (.lload 7, 2) := by decide +kernel
theorem d_Kn_learn_120 : decode prog_6_method_5_code 120 = .ok (.lastore, 1) := by decide +kernel
theorem d_Kn_learn_121 : decode prog_6_method_5_code 121 = .ok (.iinc 6 1, 3) := by decide +kernel
theorem d_Kn_learn_124 : decode prog_6_method_5_code 124 = .ok (.goto (-84), 3) := by decide +kernel
theorem d_Kn_learn_127 : decode prog_6_method_5_code 127 = .ok (.iinc 5 1, 3) := by decide +kernel
theorem d_Kn_learn_130 : decode prog_6_method_5_code 130 = .ok (.goto (-99), 3) := by decide +kernel
theorem d_Kn_learn_133 : decode prog_6_method_5_code 133 = .ok (.iconst 1, 1) := by decide +kernel
theorem d_Kn_learn_134 : decode prog_6_method_5_code 134 = .ok (.ireturn, 1) := by decide +kernel
theorem d_Kn_boundOf_0 : decode prog_6_method_4_code 0 = .ok (.aload_n 0, 1) := by decide +kernel
theorem d_Kn_boundOf_1 : decode prog_6_method_4_code 1 = .ok (.getfield 9, 3) := by decide +kernel
theorem d_Kn_boundOf_4 : decode prog_6_method_4_code 4 = .ok (.iconst 5, 1) := by decide +kernel
theorem d_Kn_boundOf_5 : decode prog_6_method_4_code 5 = .ok (.iload_n 1, 1) := by decide +kernel
theorem d_Kn_boundOf_6 : decode prog_6_method_4_code 6 = .ok (.imul, 1) := by decide +kernel
theorem d_Kn_boundOf_7 : decode prog_6_method_4_code 7 = .ok (.iload_n 2, 1) := by decide +kernel
theorem d_Kn_boundOf_8 : decode prog_6_method_4_code 8 = .ok (.iadd, 1) := by decide +kernel
theorem d_Kn_boundOf_9 : decode prog_6_method_4_code 9 = .ok (.laload, 1) := by decide +kernel
theorem d_Kn_boundOf_10 : decode prog_6_method_4_code 10 = .ok (.lreturn, 1) := by decide +kernel
theorem d_Kn_allowsNegative_0 : decode prog_6_method_9_code 0 = .ok (.aload_n 1, 1) := by decide +kernel
theorem d_Kn_allowsNegative_1 : decode prog_6_method_9_code 1 = .ok (.getfield 55, 3) := by decide +kernel
theorem d_Kn_allowsNegative_4 : decode prog_6_method_9_code 4 = .ok (.i2l, 1) := by decide +kernel
theorem d_Kn_allowsNegative_5 : decode prog_6_method_9_code 5 = .ok (.lstore_n 2, 1) := by decide +kernel
theorem d_Kn_allowsNegative_6 : decode prog_6_method_9_code 6 = .ok (.iconst 0, 1) := by decide +kernel
theorem d_Kn_allowsNegative_7 : decode prog_6_method_9_code 7 = .ok (.istore 4, 2) := by decide +kernel
theorem d_Kn_allowsNegative_9 : decode prog_6_method_9_code 9 = .ok (.iload 4, 2) := by decide +kernel
theorem d_Kn_allowsNegative_11 : decode prog_6_method_9_code 11 = .ok (.aload_n 1, 1) := by decide +kernel
theorem d_Kn_allowsNegative_12 : decode prog_6_method_9_code 12 = .ok (.getfield 60, 3) := by decide +kernel
theorem d_Kn_allowsNegative_15 : decode prog_6_method_9_code 15 = .ok (.if_icmp .ge 54, 3) := by decide +kernel
theorem d_Kn_allowsNegative_18 : decode prog_6_method_9_code 18 = .ok (.aload_n 0, 1) := by decide +kernel
theorem d_Kn_allowsNegative_19 : decode prog_6_method_9_code 19 = .ok (.aload_n 1, 1) := by decide +kernel
theorem d_Kn_allowsNegative_20 : decode prog_6_method_9_code 20 = .ok (.getfield 63, 3) := by decide +kernel
theorem d_Kn_allowsNegative_23 : decode prog_6_method_9_code 23 = .ok (.iload 4, 2) := by decide +kernel
theorem d_Kn_allowsNegative_25 : decode prog_6_method_9_code 25 = .ok (.iaload, 1) := by decide +kernel
theorem d_Kn_allowsNegative_26 : decode prog_6_method_9_code 26 = .ok (.aload_n 1, 1) := by decide +kernel
theorem d_Kn_allowsNegative_27 : decode prog_6_method_9_code 27 = .ok (.getfield 66, 3) := by decide +kernel
theorem d_Kn_allowsNegative_30 : decode prog_6_method_9_code 30 = .ok (.iload 4, 2) := by decide +kernel
theorem d_Kn_allowsNegative_32 : decode prog_6_method_9_code 32 = .ok (.iaload, 1) := by decide +kernel
theorem d_Kn_allowsNegative_33 : decode prog_6_method_9_code 33 = .ok (.invokevirtual 23, 3) := by decide +kernel
theorem d_Kn_allowsNegative_36 : decode prog_6_method_9_code 36 = .ok (.lstore 5, 2) := by decide +kernel
theorem d_Kn_allowsNegative_38 : decode prog_6_method_9_code 38 = .ok (.lload 5, 2) := by decide +kernel
theorem d_Kn_allowsNegative_40 : decode prog_6_method_9_code 40 = .ok (.ldc2_w 15, 3) := by decide +kernel
theorem d_Kn_allowsNegative_43 : decode prog_6_method_9_code 43 = .ok (.lcmp, 1) := by decide +kernel
theorem d_Kn_allowsNegative_44 : decode prog_6_method_9_code 44 = .ok (.ifCond .ne 5, 3) := by decide +kernel
theorem d_Kn_allowsNegative_47 : decode prog_6_method_9_code 47 = .ok (.iconst 1, 1) := by decide +kernel
theorem d_Kn_allowsNegative_48 : decode prog_6_method_9_code 48 = .ok (.ireturn, 1) := by decide +kernel
theorem d_Kn_allowsNegative_49 : decode prog_6_method_9_code 49 = .ok (.lload_n 2, 1) := by decide +kernel
theorem d_Kn_allowsNegative_50 : decode prog_6_method_9_code 50 = .ok (.aload_n 1, 1) := by decide +kernel
theorem d_Kn_allowsNegative_51 : decode prog_6_method_9_code 51 = .ok (.getfield 69, 3) := by decide +kernel
theorem d_Kn_allowsNegative_54 : decode prog_6_method_9_code 54 = .ok (.iload 4, 2) := by decide +kernel
theorem d_Kn_allowsNegative_56 : decode prog_6_method_9_code 56 = .ok (.iaload, 1) := by decide +kernel
theorem d_Kn_allowsNegative_57 : decode prog_6_method_9_code 57 = .ok (.i2l, 1) := by decide +kernel
theorem d_Kn_allowsNegative_58 : decode prog_6_method_9_code 58 = .ok (.lload 5, 2) := by decide +kernel
theorem d_Kn_allowsNegative_60 : decode prog_6_method_9_code 60 = .ok (.lmul, 1) := by decide +kernel
theorem d_Kn_allowsNegative_61 : decode prog_6_method_9_code 61 = .ok (.lsub, 1) := by decide +kernel
theorem d_Kn_allowsNegative_62 : decode prog_6_method_9_code 62 = .ok (.lstore_n 2, 1) := by decide +kernel
theorem d_Kn_allowsNegative_63 : decode prog_6_method_9_code 63 = .ok (.iinc 4 1, 3) := by decide +kernel
theorem d_Kn_allowsNegative_66 : decode prog_6_method_9_code 66 = .ok (.goto (-57), 3) := by decide +kernel
theorem d_Kn_allowsNegative_69 : decode prog_6_method_9_code 69 = .ok (.lload_n 2, 1) := by decide +kernel
theorem d_Kn_allowsNegative_70 : decode prog_6_method_9_code 70 = .ok (.lconst 0, 1) := by decide +kernel
theorem d_Kn_allowsNegative_71 : decode prog_6_method_9_code 71 = .ok (.lcmp, 1) := by decide +kernel
theorem d_Kn_allowsNegative_72 : decode prog_6_method_9_code 72 = .ok (.ifCond .ge 7, 3) := by decide +kernel
theorem d_Kn_allowsNegative_75 : decode prog_6_method_9_code 75 = .ok (.iconst 1, 1) := by decide +kernel
theorem d_Kn_allowsNegative_76 : decode prog_6_method_9_code 76 = .ok (.goto 4, 3) := by decide +kernel
theorem d_Kn_allowsNegative_79 : decode prog_6_method_9_code 79 = .ok (.iconst 0, 1) := by decide +kernel
theorem d_Kn_allowsNegative_80 : decode prog_6_method_9_code 80 = .ok (.ireturn, 1) := by decide +kernel
theorem d_Ch_reasonFrom_0 : decode prog_3_method_4_code 0 = .ok (.iload_n 1, 1) := by decide +kernel
theorem d_Ch_reasonFrom_1 : decode prog_3_method_4_code 1 = .ok (.bipush 14, 2) := by decide +kernel
theorem d_Ch_reasonFrom_3 : decode prog_3_method_4_code 3 = .ok (.if_icmp .lt 5, 3) := by decide +kernel
theorem d_Ch_reasonFrom_6 : decode prog_3_method_4_code 6 = .ok (.iconst 3, 1) := by decide +kernel
theorem d_Ch_reasonFrom_7 : decode prog_3_method_4_code 7 = .ok (.ireturn, 1) := by decide +kernel
theorem d_Ch_reasonFrom_8 : decode prog_3_method_4_code 8 = .ok (.aload_n 0, 1) := by decide +kernel
theorem d_Ch_reasonFrom_9 : decode prog_3_method_4_code 9 = .ok (.getfield 11, 3) := by decide +kernel
theorem d_Ch_reasonFrom_12 : decode prog_3_method_4_code 12 = .ok (.iload_n 1, 1) := by decide +kernel
theorem d_Ch_reasonFrom_13 : decode prog_3_method_4_code 13 = .ok (.aaload, 1) := by decide +kernel
theorem d_Ch_reasonFrom_14 : decode prog_3_method_4_code 14 = .ok (.astore_n 2, 1) := by decide +kernel
theorem d_Ch_reasonFrom_15 : decode prog_3_method_4_code 15 = .ok (.iconst 0, 1) := by decide +kernel
theorem d_Ch_reasonFrom_16 : decode prog_3_method_4_code 16 = .ok (.istore_n 3, 1) := by decide +kernel
theorem d_Ch_reasonFrom_17 : decode prog_3_method_4_code 17 = .ok (.iload_n 3, 1) := by decide +kernel
theorem d_Ch_reasonFrom_18 : decode prog_3_method_4_code 18 = .ok (.bipush 40, 2) := by decide +kernel
theorem d_Ch_reasonFrom_20 : decode prog_3_method_4_code 20 = .ok (.if_icmp .gt 264, 3) := by decide +kernel
theorem d_Ch_reasonFrom_23 : decode prog_3_method_4_code 23 = .ok (.aload_n 2, 1) := by decide +kernel
theorem d_Ch_reasonFrom_24 : decode prog_3_method_4_code 24 = .ok (.getfield 80, 3) := by decide +kernel
theorem d_Ch_reasonFrom_27 : decode prog_3_method_4_code 27 = .ok (.istore 4, 2) := by decide +kernel
theorem d_Ch_reasonFrom_29 : decode prog_3_method_4_code 29 = .ok (.aload_n 0, 1) := by decide +kernel
theorem d_Ch_reasonFrom_30 : decode prog_3_method_4_code 30 = .ok (.getfield 28, 3) := by decide +kernel
theorem d_Ch_reasonFrom_33 : decode prog_3_method_4_code 33 = .ok (.iload 4, 2) := by decide +kernel
theorem d_Ch_reasonFrom_35 : decode prog_3_method_4_code 35 = .ok (.invokevirtual 81, 3) := by decide +kernel
theorem d_Ch_reasonFrom_38 : decode prog_3_method_4_code 38 = .ok (.ifCond .ne 5, 3) := by decide +kernel
theorem d_Ch_reasonFrom_41 : decode prog_3_method_4_code 41 = .ok (.iconst 2, 1) := by decide +kernel
theorem d_Ch_reasonFrom_42 : decode prog_3_method_4_code 42 = .ok (.ireturn, 1) := by decide +kernel
theorem d_Ch_reasonFrom_43 : decode prog_3_method_4_code 43 = .ok (.aload_n 2, 1) := by decide +kernel
theorem d_Ch_reasonFrom_44 : decode prog_3_method_4_code 44 = .ok (.getfield 85, 3) := by decide +kernel
theorem d_Ch_reasonFrom_47 : decode prog_3_method_4_code 47 = .ok (.ifCond .ne 7, 3) := by decide +kernel
theorem d_Ch_reasonFrom_50 : decode prog_3_method_4_code 50 = .ok (.aconst_null, 1) := by decide +kernel
theorem d_Ch_reasonFrom_51 : decode prog_3_method_4_code 51 = .ok (.goto 12, 3) := by decide +kernel
theorem d_Ch_reasonFrom_54 : decode prog_3_method_4_code 54 = .ok (.aload_n 0, 1) := by decide +kernel
theorem d_Ch_reasonFrom_55 : decode prog_3_method_4_code 55 = .ok (.getfield 28, 3) := by decide +kernel
theorem d_Ch_reasonFrom_58 : decode prog_3_method_4_code 58 = .ok (.iload 4, 2) := by decide +kernel
theorem d_Ch_reasonFrom_60 : decode prog_3_method_4_code 60 = .ok (.invokevirtual 88, 3) := by decide +kernel
theorem d_Ch_reasonFrom_63 : decode prog_3_method_4_code 63 = .ok (.astore 5, 2) := by decide +kernel
theorem d_Ch_reasonFrom_65 : decode prog_3_method_4_code 65 = .ok (.aload 5, 2) := by decide +kernel
theorem d_Ch_reasonFrom_67 : decode prog_3_method_4_code 67 = .ok (.ifnull 11, 3) := by decide +kernel
theorem d_Ch_reasonFrom_70 : decode prog_3_method_4_code 70 = .ok (.aload_n 0, 1) := by decide +kernel
theorem d_Ch_reasonFrom_71 : decode prog_3_method_4_code 71 = .ok (.aload_n 2, 1) := by decide +kernel
theorem d_Ch_reasonFrom_72 : decode prog_3_method_4_code 72 = .ok (.aload 5, 2) := by decide +kernel
theorem d_Ch_reasonFrom_74 : decode prog_3_method_4_code 74 = .ok (.invokevirtual 92, 3) := by decide +kernel
theorem d_Ch_reasonFrom_77 : decode prog_3_method_4_code 77 = .ok (.ireturn, 1) := by decide +kernel
theorem d_Ch_reasonFrom_78 : decode prog_3_method_4_code 78 = .ok (.aload_n 2, 1) := by decide +kernel
theorem d_Ch_reasonFrom_79 : decode prog_3_method_4_code 79 = .ok (.getfield 85, 3) := by decide +kernel
theorem d_Ch_reasonFrom_82 : decode prog_3_method_4_code 82 = .ok (.bipush 40, 2) := by decide +kernel
theorem d_Ch_reasonFrom_84 : decode prog_3_method_4_code 84 = .ok (.if_icmp .lt 5, 3) := by decide +kernel
theorem d_Ch_reasonFrom_87 : decode prog_3_method_4_code 87 = .ok (.iconst 3, 1) := by decide +kernel
theorem d_Ch_reasonFrom_88 : decode prog_3_method_4_code 88 = .ok (.ireturn, 1) := by decide +kernel
theorem d_Ch_reasonFrom_89 : decode prog_3_method_4_code 89 = .ok (.aload_n 0, 1) := by decide +kernel
theorem d_Ch_reasonFrom_90 : decode prog_3_method_4_code 90 = .ok (.getfield 24, 3) := by decide +kernel
theorem d_Ch_reasonFrom_93 : decode prog_3_method_4_code 93 = .ok (.aload_n 0, 1) := by decide +kernel
theorem d_Ch_reasonFrom_94 : decode prog_3_method_4_code 94 = .ok (.getfield 28, 3) := by decide +kernel
theorem d_Ch_reasonFrom_97 : decode prog_3_method_4_code 97 = .ok (.iload 4, 2) := by decide +kernel
theorem d_Ch_reasonFrom_99 : decode prog_3_method_4_code 99 = .ok (.aload_n 2, 1) := by decide +kernel
theorem d_Ch_reasonFrom_100 : decode prog_3_method_4_code 100 = .ok (.getfield 96, 3) := by decide +kernel
theorem d_Ch_reasonFrom_103 : decode prog_3_method_4_code 103 = .ok (.invokestatic 99, 3) := by decide +kernel
theorem d_Ch_reasonFrom_106 : decode prog_3_method_4_code 106 = .ok (.ifCond .eq 5, 3) := by decide +kernel
theorem d_Ch_reasonFrom_109 : decode prog_3_method_4_code 109 = .ok (.iconst 2, 1) := by decide +kernel
theorem d_Ch_reasonFrom_110 : decode prog_3_method_4_code 110 = .ok (.ireturn, 1) := by decide +kernel
theorem d_Ch_reasonFrom_111 : decode prog_3_method_4_code 111 = .ok (.aload_n 0, 1) := by decide +kernel
theorem d_Ch_reasonFrom_112 : decode prog_3_method_4_code 112 = .ok (.getfield 28, 3) := by decide +kernel
theorem d_Ch_reasonFrom_115 : decode prog_3_method_4_code 115 = .ok (.getfield 103, 3) := by decide +kernel
theorem d_Ch_reasonFrom_118 : decode prog_3_method_4_code 118 = .ok (.iload 4, 2) := by decide +kernel
theorem d_Ch_reasonFrom_120 : decode prog_3_method_4_code 120 = .ok (.iaload, 1) := by decide +kernel
theorem d_Ch_reasonFrom_121 : decode prog_3_method_4_code 121 = .ok (.istore 6, 2) := by decide +kernel
theorem d_Ch_reasonFrom_123 : decode prog_3_method_4_code 123 = .ok (.aload_n 0, 1) := by decide +kernel
theorem d_Ch_reasonFrom_124 : decode prog_3_method_4_code 124 = .ok (.getfield 28, 3) := by decide +kernel
theorem d_Ch_reasonFrom_127 : decode prog_3_method_4_code 127 = .ok (.getfield 107, 3) := by decide +kernel
theorem d_Ch_reasonFrom_130 : decode prog_3_method_4_code 130 = .ok (.iload 4, 2) := by decide +kernel
theorem d_Ch_reasonFrom_132 : decode prog_3_method_4_code 132 = .ok (.iaload, 1) := by decide +kernel
theorem d_Ch_reasonFrom_133 : decode prog_3_method_4_code 133 = .ok (.istore 7, 2) := by decide +kernel
theorem d_Ch_reasonFrom_135 : decode prog_3_method_4_code 135 = .ok (.aload_n 2, 1) := by decide +kernel
theorem d_Ch_reasonFrom_136 : decode prog_3_method_4_code 136 = .ok (.invokevirtual 110, 3) := by decide +kernel
theorem d_Ch_reasonFrom_139 : decode prog_3_method_4_code 139 = .ok (.iload 6, 2) := by decide +kernel
theorem d_Ch_reasonFrom_141 : decode prog_3_method_4_code 141 = .ok (.bipush 12, 2) := by decide +kernel
theorem d_Ch_reasonFrom_143 : decode prog_3_method_4_code 143 = .ok (.if_icmp .ne 10, 3) := by decide +kernel
theorem d_Ch_reasonFrom_146 : decode prog_3_method_4_code 146 = .ok (.aload_n 0, 1) := by decide +kernel
theorem d_Ch_reasonFrom_147 : decode prog_3_method_4_code 147 = .ok (.aload_n 2, 1) := by decide +kernel
theorem d_Ch_reasonFrom_148 : decode prog_3_method_4_code 148 = .ok (.aconst_null, 1) := by decide +kernel
theorem d_Ch_reasonFrom_149 : decode prog_3_method_4_code 149 = .ok (.invokevirtual 92, 3) := by decide +kernel
theorem d_Ch_reasonFrom_152 : decode prog_3_method_4_code 152 = .ok (.ireturn, 1) := by decide +kernel
theorem d_Ch_reasonFrom_153 : decode prog_3_method_4_code 153 = .ok (.iconst 0, 1) := by decide +kernel
theorem d_Ch_reasonFrom_154 : decode prog_3_method_4_code 154 = .ok (.istore 8, 2) := by decide +kernel
theorem d_Ch_reasonFrom_156 : decode prog_3_method_4_code 156 = .ok (.iload 6, 2) := by decide +kernel
theorem d_Ch_reasonFrom_158 : decode prog_3_method_4_code 158 = .ok (.bipush 8, 2) := by decide +kernel
theorem d_Ch_reasonFrom_160 : decode prog_3_method_4_code 160 = .ok (.if_icmp .eq 10, 3) := by decide +kernel
theorem d_Ch_reasonFrom_163 : decode prog_3_method_4_code 163 = .ok (.iload 6, 2) := by decide +kernel
theorem d_Ch_reasonFrom_165 : decode prog_3_method_4_code 165 = .ok (.bipush 9, 2) := by decide +kernel
theorem d_Ch_reasonFrom_167 : decode prog_3_method_4_code 167 = .ok (.if_icmp .ne 54, 3) := by decide +kernel
theorem d_Ch_reasonFrom_170 : decode prog_3_method_4_code 170 = .ok (.aload_n 0, 1) := by decide +kernel
theorem d_Ch_reasonFrom_171 : decode prog_3_method_4_code 171 = .ok (.iload_n 1, 1) := by decide +kernel
theorem d_Ch_reasonFrom_172 : decode prog_3_method_4_code 172 = .ok (.iload 6, 2) := by decide +kernel
theorem d_Ch_reasonFrom_174 : decode prog_3_method_4_code 174 = .ok (.bipush 9, 2) := by decide +kernel
theorem d_Ch_reasonFrom_176 : decode prog_3_method_4_code 176 = .ok (.if_icmp .ne 7, 3) := by decide +kernel
theorem d_Ch_reasonFrom_179 : decode prog_3_method_4_code 179 = .ok (.iconst 1, 1) := by decide +kernel
theorem d_Ch_reasonFrom_180 : decode prog_3_method_4_code 180 = .ok (.goto 4, 3) := by decide +kernel
theorem d_Ch_reasonFrom_183 : decode prog_3_method_4_code 183 = .ok (.iconst 0, 1) := by decide +kernel
theorem d_Ch_reasonFrom_184 : decode prog_3_method_4_code 184 = .ok (.invokevirtual 113, 3) := by decide +kernel
theorem d_Ch_reasonFrom_187 : decode prog_3_method_4_code 187 = .ok (.istore 8, 2) := by decide +kernel
theorem d_Ch_reasonFrom_189 : decode prog_3_method_4_code 189 = .ok (.aload_n 2, 1) := by decide +kernel
theorem d_Ch_reasonFrom_190 : decode prog_3_method_4_code 190 = .ok (.iload 7, 2) := by decide +kernel
theorem d_Ch_reasonFrom_192 : decode prog_3_method_4_code 192 = .ok (.putfield 80, 3) := by decide +kernel
theorem d_Ch_reasonFrom_195 : decode prog_3_method_4_code 195 = .ok (.iload 8, 2) := by decide +kernel
theorem d_Ch_reasonFrom_197 : decode prog_3_method_4_code 197 = .ok (.ifCond .ne 73, 3) := by decide +kernel
theorem d_Ch_reasonFrom_200 : decode prog_3_method_4_code 200 = .ok (.aload_n 2, 1) := by decide +kernel
theorem d_Ch_reasonFrom_201 : decode prog_3_method_4_code 201 = .ok (.iload 6, 2) := by decide +kernel
theorem d_Ch_reasonFrom_203 : decode prog_3_method_4_code 203 = .ok (.bipush 8, 2) := by decide +kernel
theorem d_Ch_reasonFrom_205 : decode prog_3_method_4_code 205 = .ok (.if_icmp .ne 7, 3) := by decide +kernel
theorem d_Ch_reasonFrom_208 : decode prog_3_method_4_code 208 = .ok (.iconst 1, 1) := by decide +kernel
theorem d_Ch_reasonFrom_209 : decode prog_3_method_4_code 209 = .ok (.goto 4, 3) := by decide +kernel
theorem d_Ch_reasonFrom_212 : decode prog_3_method_4_code 212 = .ok (.iconst 0, 1) := by decide +kernel
theorem d_Ch_reasonFrom_213 : decode prog_3_method_4_code 213 = .ok (.invokevirtual 117, 3) := by decide +kernel
theorem d_Ch_reasonFrom_216 : decode prog_3_method_4_code 216 = .ok (.ifCond .ne 54, 3) := by decide +kernel
theorem d_Ch_reasonFrom_219 : decode prog_3_method_4_code 219 = .ok (.iconst 0, 1) := by decide +kernel
theorem d_Ch_reasonFrom_220 : decode prog_3_method_4_code 220 = .ok (.ireturn, 1) := by decide +kernel
theorem d_Ch_reasonFrom_221 : decode prog_3_method_4_code 221 = .ok (.iload 6, 2) := by decide +kernel
theorem d_Ch_reasonFrom_223 : decode prog_3_method_4_code 223 = .ok (.bipush 10, 2) := by decide +kernel
theorem d_Ch_reasonFrom_225 : decode prog_3_method_4_code 225 = .ok (.if_icmp .ne 13, 3) := by decide +kernel
theorem d_Ch_reasonFrom_228 : decode prog_3_method_4_code 228 = .ok (.aload_n 0, 1) := by decide +kernel
theorem d_Ch_reasonFrom_229 : decode prog_3_method_4_code 229 = .ok (.aload_n 2, 1) := by decide +kernel
theorem d_Ch_reasonFrom_230 : decode prog_3_method_4_code 230 = .ok (.invokevirtual 121, 3) := by decide +kernel
theorem d_Ch_reasonFrom_233 : decode prog_3_method_4_code 233 = .ok (.istore 8, 2) := by decide +kernel
theorem d_Ch_reasonFrom_235 : decode prog_3_method_4_code 235 = .ok (.goto 35, 3) := by decide +kernel
theorem d_Ch_reasonFrom_238 : decode prog_3_method_4_code 238 = .ok (.iload 6, 2) := by decide +kernel
theorem d_Ch_reasonFrom_240 : decode prog_3_method_4_code 240 = .ok (.bipush 11, 2) := by decide +kernel
theorem d_Ch_reasonFrom_242 : decode prog_3_method_4_code 242 = .ok (.if_icmp .ne 20, 3) := by decide +kernel
theorem d_Ch_reasonFrom_245 : decode prog_3_method_4_code 245 = .ok (.aload_n 0, 1) := by decide +kernel
theorem d_Ch_reasonFrom_246 : decode prog_3_method_4_code 246 = .ok (.aload_n 2, 1) := by decide +kernel
theorem d_Ch_reasonFrom_247 : decode prog_3_method_4_code 247 = .ok (.aload_n 0, 1) := by decide +kernel
theorem d_Ch_reasonFrom_248 : decode prog_3_method_4_code 248 = .ok (.getfield 24, 3) := by decide +kernel
theorem d_Ch_reasonFrom_251 : decode prog_3_method_4_code 251 = .ok (.iload 7, 2) := by decide +kernel
theorem d_Ch_reasonFrom_253 : decode prog_3_method_4_code 253 = .ok (.aaload, 1) := by decide +kernel
theorem d_Ch_reasonFrom_254 : decode prog_3_method_4_code 254 = .ok (.invokevirtual 125, 3) := by decide +kernel
theorem d_Ch_reasonFrom_257 : decode prog_3_method_4_code 257 = .ok (.istore 8, 2) := by decide +kernel
theorem d_Ch_reasonFrom_259 : decode prog_3_method_4_code 259 = .ok (.goto 11, 3) := by decide +kernel
theorem d_Ch_reasonFrom_262 : decode prog_3_method_4_code 262 = .ok (.aload_n 2, 1) := by decide +kernel
theorem d_Ch_reasonFrom_263 : decode prog_3_method_4_code 263 = .ok (.iload 6, 2) := by decide +kernel
theorem d_Ch_reasonFrom_265 : decode prog_3_method_4_code 265 = .ok (.iload 7, 2) := by decide +kernel
theorem d_Ch_reasonFrom_267 : decode prog_3_method_4_code 267 = .ok (.invokevirtual 129, 3) := by decide +kernel
theorem d_Ch_reasonFrom_270 : decode prog_3_method_4_code 270 = .ok (.iload 8, 2) := by decide +kernel
theorem d_Ch_reasonFrom_272 : decode prog_3_method_4_code 272 = .ok (.ifCond .eq 6, 3) := by decide +kernel
theorem d_Ch_reasonFrom_275 : decode prog_3_method_4_code 275 = .ok (.iload 8, 2) := by decide +kernel
theorem d_Ch_reasonFrom_277 : decode prog_3_method_4_code 277 = .ok (.ireturn, 1) := by decide +kernel
theorem d_Ch_reasonFrom_278 : decode prog_3_method_4_code 278 = .ok (.iinc 3 1, 3) := by decide +kernel
theorem d_Ch_reasonFrom_281 : decode prog_3_method_4_code 281 = .ok (.goto (-264), 3) := by decide +kernel
theorem d_Ch_reasonFrom_284 : decode prog_3_method_4_code 284 = .ok (.iconst 3, 1) := by decide +kernel
theorem d_Ch_reasonFrom_285 : decode prog_3_method_4_code 285 = .ok (.ireturn, 1) := by decide +kernel
theorem d_Ch_reasonAtEnd_0 : decode prog_3_method_8_code 0 = .ok (.aload_n 0, 1) := by decide +kernel
theorem d_Ch_reasonAtEnd_1 : decode prog_3_method_8_code 1 = .ok (.getfield 73, 3) := by decide +kernel
theorem d_Ch_reasonAtEnd_4 : decode prog_3_method_8_code 4 = .ok (.bipush 50, 2) := by decide +kernel
theorem d_Ch_reasonAtEnd_6 : decode prog_3_method_8_code 6 = .ok (.if_icmp .lt 5, 3) := by decide +kernel
theorem d_Ch_reasonAtEnd_9 : decode prog_3_method_8_code 9 = .ok (.iconst 4, 1) := by decide +kernel
theorem d_Ch_reasonAtEnd_10 : decode prog_3_method_8_code 10 = .ok (.ireturn, 1) := by decide +kernel
theorem d_Ch_reasonAtEnd_11 : decode prog_3_method_8_code 11 = .ok (.aload_n 0, 1) := by decide +kernel
theorem d_Ch_reasonAtEnd_12 : decode prog_3_method_8_code 12 = .ok (.dup, 1) := by decide +kernel
theorem d_Ch_reasonAtEnd_13 : decode prog_3_method_8_code 13 = .ok (.getfield 73, 3) := by decide +kernel
theorem d_Ch_reasonAtEnd_16 : decode prog_3_method_8_code 16 = .ok (.iconst 1, 1) := by decide +kernel
theorem d_Ch_reasonAtEnd_17 : decode prog_3_method_8_code 17 = .ok (.iadd, 1) := by decide +kernel
theorem d_Ch_reasonAtEnd_18 : decode prog_3_method_8_code 18 = .ok (.putfield 73, 3) := by decide +kernel
theorem d_Ch_reasonAtEnd_21 : decode prog_3_method_8_code 21 = .ok (.aload_n 2, 1) := by decide +kernel
theorem d_Ch_reasonAtEnd_22 : decode prog_3_method_8_code 22 = .ok (.ifnull 13, 3) := by decide +kernel
theorem d_Ch_reasonAtEnd_25 : decode prog_3_method_8_code 25 = .ok (.aload_n 1, 1) := by decide +kernel
theorem d_Ch_reasonAtEnd_26 : decode prog_3_method_8_code 26 = .ok (.getfield 96, 3) := by decide +kernel
theorem d_Ch_reasonAtEnd_29 : decode prog_3_method_8_code 29 = .ok (.ifCond .le 6, 3) := by decide +kernel
theorem d_Ch_reasonAtEnd_32 : decode prog_3_method_8_code 32 = .ok (.bipush 7, 2) := by decide +kernel
theorem d_Ch_reasonAtEnd_34 : decode prog_3_method_8_code 34 = .ok (.ireturn, 1) := by decide +kernel
theorem d_Ch_reasonAtEnd_35 : decode prog_3_method_8_code 35 = .ok (.aload_n 2, 1) := by decide +kernel
theorem d_Ch_reasonAtEnd_36 : decode prog_3_method_8_code 36 = .ok (.ifnull 21, 3) := by decide +kernel
theorem d_Ch_reasonAtEnd_39 : decode prog_3_method_8_code 39 = .ok (.aload_n 1, 1) := by decide +kernel
theorem d_Ch_reasonAtEnd_40 : decode prog_3_method_8_code 40 = .ok (.getfield 59, 3) := by decide +kernel
theorem d_Ch_reasonAtEnd_43 : decode prog_3_method_8_code 43 = .ok (.aload_n 2, 1) := by decide +kernel
theorem d_Ch_reasonAtEnd_44 : decode prog_3_method_8_code 44 = .ok (.aload_n 1, 1) := by decide +kernel
theorem d_Ch_reasonAtEnd_45 : decode prog_3_method_8_code 45 = .ok (.getfield 190, 3) := by decide +kernel
theorem d_Ch_reasonAtEnd_48 : decode prog_3_method_8_code 48 = .ok (.invokevirtual 173, 3) := by decide +kernel
theorem d_Ch_reasonAtEnd_51 : decode prog_3_method_8_code 51 = .ok (.ifCond .ne 6, 3) := by decide +kernel
theorem d_Ch_reasonAtEnd_54 : decode prog_3_method_8_code 54 = .ok (.bipush 8, 2) := by decide +kernel
theorem d_Ch_reasonAtEnd_56 : decode prog_3_method_8_code 56 = .ok (.ireturn, 1) := by decide +kernel
theorem d_Ch_reasonAtEnd_57 : decode prog_3_method_8_code 57 = .ok (.iconst 0, 1) := by decide +kernel
theorem d_Ch_reasonAtEnd_58 : decode prog_3_method_8_code 58 = .ok (.istore_n 3, 1) := by decide +kernel
theorem d_Ch_reasonAtEnd_59 : decode prog_3_method_8_code 59 = .ok (.iload_n 3, 1) := by decide +kernel
theorem d_Ch_reasonAtEnd_60 : decode prog_3_method_8_code 60 = .ok (.iconst 2, 1) := by decide +kernel
theorem d_Ch_reasonAtEnd_61 : decode prog_3_method_8_code 61 = .ok (.if_icmp .ge 75, 3) := by decide +kernel
theorem d_Ch_reasonAtEnd_64 : decode prog_3_method_8_code 64 = .ok (.aload_n 2, 1) := by decide +kernel
theorem d_Ch_reasonAtEnd_65 : decode prog_3_method_8_code 65 = .ok (.ifnull 22, 3) := by decide +kernel
theorem d_Ch_reasonAtEnd_68 : decode prog_3_method_8_code 68 = .ok (.aload_n 2, 1) := by decide +kernel
theorem d_Ch_reasonAtEnd_69 : decode prog_3_method_8_code 69 = .ok (.getfield 63, 3) := by decide +kernel
theorem d_Ch_reasonAtEnd_72 : decode prog_3_method_8_code 72 = .ok (.iload_n 3, 1) := by decide +kernel
theorem d_Ch_reasonAtEnd_73 : decode prog_3_method_8_code 73 = .ok (.aaload, 1) := by decide +kernel
theorem d_Ch_reasonAtEnd_74 : decode prog_3_method_8_code 74 = .ok (.aload_n 1, 1) := by decide +kernel
theorem d_Ch_reasonAtEnd_75 : decode prog_3_method_8_code 75 = .ok (.getfield 190, 3) := by decide +kernel
theorem d_Ch_reasonAtEnd_78 : decode prog_3_method_8_code 78 = .ok (.invokevirtual 177, 3) := by decide +kernel
theorem d_Ch_reasonAtEnd_81 : decode prog_3_method_8_code 81 = .ok (.ifCond .eq 6, 3) := by decide +kernel
theorem d_Ch_reasonAtEnd_84 : decode prog_3_method_8_code 84 = .ok (.bipush 9, 2) := by decide +kernel
theorem d_Ch_reasonAtEnd_86 : decode prog_3_method_8_code 86 = .ok (.ireturn, 1) := by decide +kernel
theorem d_Ch_reasonAtEnd_87 : decode prog_3_method_8_code 87 = .ok (.aload_n 2, 1) := by decide +kernel
theorem d_Ch_reasonAtEnd_88 : decode prog_3_method_8_code 88 = .ok (.ifnull 23, 3) := by decide +kernel
theorem d_Ch_reasonAtEnd_91 : decode prog_3_method_8_code 91 = .ok (.aload_n 1, 1) := by decide +kernel
theorem d_Ch_reasonAtEnd_92 : decode prog_3_method_8_code 92 = .ok (.getfield 152, 3) := by decide +kernel
theorem d_Ch_reasonAtEnd_95 : decode prog_3_method_8_code 95 = .ok (.iload_n 3, 1) := by decide +kernel
theorem d_Ch_reasonAtEnd_96 : decode prog_3_method_8_code 96 = .ok (.aaload, 1) := by decide +kernel
theorem d_Ch_reasonAtEnd_97 : decode prog_3_method_8_code 97 = .ok (.iconst (-1), 1) := by decide +kernel
theorem d_Ch_reasonAtEnd_98 : decode prog_3_method_8_code 98 = .ok (.aload_n 2, 1) := by decide +kernel
theorem d_Ch_reasonAtEnd_99 : decode prog_3_method_8_code 99 = .ok (.getfield 63, 3) := by decide +kernel
theorem d_Ch_reasonAtEnd_102 : decode prog_3_method_8_code 102 = .ok (.iload_n 3, 1) := by decide +kernel
theorem d_Ch_reasonAtEnd_103 : decode prog_3_method_8_code 103 = .ok (.aaload, 1) := by decide +kernel
theorem d_Ch_reasonAtEnd_104 : decode prog_3_method_8_code 104 = .ok (.aload_n 1, 1) := by decide +kernel
theorem d_Ch_reasonAtEnd_105 : decode prog_3_method_8_code 105 = .ok (.getfield 190, 3) := by decide +kernel
theorem d_Ch_reasonAtEnd_108 : decode prog_3_method_8_code 108 = .ok (.invokevirtual 183, 3) := by decide +kernel
theorem d_Ch_reasonAtEnd_111 : decode prog_3_method_8_code 111 = .ok (.aload_n 1, 1) := by decide +kernel
theorem d_Ch_reasonAtEnd_112 : decode prog_3_method_8_code 112 = .ok (.getfield 152, 3) := by decide +kernel
theorem d_Ch_reasonAtEnd_115 : decode prog_3_method_8_code 115 = .ok (.iload_n 3, 1) := by decide +kernel
theorem d_Ch_reasonAtEnd_116 : decode prog_3_method_8_code 116 = .ok (.aaload, 1) := by decide +kernel
theorem d_Ch_reasonAtEnd_117 : decode prog_3_method_8_code 117 = .ok (.aload_n 1, 1) := by decide +kernel
theorem d_Ch_reasonAtEnd_118 : decode prog_3_method_8_code 118 = .ok (.getfield 59, 3) := by decide +kernel
theorem d_Ch_reasonAtEnd_121 : decode prog_3_method_8_code 121 = .ok (.invokevirtual 193, 3) := by decide +kernel
theorem d_Ch_reasonAtEnd_124 : decode prog_3_method_8_code 124 = .ok (.ifCond .ne 6, 3) := by decide +kernel
theorem d_Ch_reasonAtEnd_127 : decode prog_3_method_8_code 127 = .ok (.bipush 9, 2) := by decide +kernel
theorem d_Ch_reasonAtEnd_129 : decode prog_3_method_8_code 129 = .ok (.ireturn, 1) := by decide +kernel
theorem d_Ch_reasonAtEnd_130 : decode prog_3_method_8_code 130 = .ok (.iinc 3 1, 3) := by decide +kernel
theorem d_Ch_reasonAtEnd_133 : decode prog_3_method_8_code 133 = .ok (.goto (-74), 3) := by decide +kernel
theorem d_Ch_reasonAtEnd_136 : decode prog_3_method_8_code 136 = .ok (.iconst 0, 1) := by decide +kernel
theorem d_Ch_reasonAtEnd_137 : decode prog_3_method_8_code 137 = .ok (.ireturn, 1) := by decide +kernel
theorem d_Kn_showsClaims_0 : decode prog_6_method_7_code 0 = .ok (.iconst 0, 1) := by decide +kernel
theorem d_Kn_showsClaims_1 : decode prog_6_method_7_code 1 = .ok (.istore_n 3, 1) := by decide +kernel
theorem d_Kn_showsClaims_2 : decode prog_6_method_7_code 2 = .ok (.iload_n 3, 1) := by decide +kernel
theorem d_Kn_showsClaims_3 : decode prog_6_method_7_code 3 = .ok (.aload_n 1, 1) := by decide +kernel
theorem d_Kn_showsClaims_4 : decode prog_6_method_7_code 4 = .ok (.getfield 27, 3) := by decide +kernel
theorem d_Kn_showsClaims_7 : decode prog_6_method_7_code 7 = .ok (.if_icmp .ge 100, 3) := by decide +kernel
theorem d_Kn_showsClaims_10 : decode prog_6_method_7_code 10 = .ok (.aload_n 1, 1) := by decide +kernel
theorem d_Kn_showsClaims_11 : decode prog_6_method_7_code 11 = .ok (.getfield 33, 3) := by decide +kernel
theorem d_Kn_showsClaims_14 : decode prog_6_method_7_code 14 = .ok (.iload_n 3, 1) := by decide +kernel
theorem d_Kn_showsClaims_15 : decode prog_6_method_7_code 15 = .ok (.iaload, 1) := by decide +kernel
theorem d_Kn_showsClaims_16 : decode prog_6_method_7_code 16 = .ok (.istore 4, 2) := by decide +kernel
theorem d_Kn_showsClaims_18 : decode prog_6_method_7_code 18 = .ok (.aload_n 1, 1) := by decide +kernel
theorem d_Kn_showsClaims_19 : decode prog_6_method_7_code 19 = .ok (.getfield 37, 3) := by decide +kernel
theorem d_Kn_showsClaims_22 : decode prog_6_method_7_code 22 = .ok (.iload_n 3, 1) := by decide +kernel
theorem d_Kn_showsClaims_23 : decode prog_6_method_7_code 23 = .ok (.iaload, 1) := by decide +kernel
theorem d_Kn_showsClaims_24 : decode prog_6_method_7_code 24 = .ok (.istore 5, 2) := by decide +kernel
theorem d_Kn_showsClaims_26 : decode prog_6_method_7_code 26 = .ok (.aload_n 2, 1) := by decide +kernel
theorem d_Kn_showsClaims_27 : decode prog_6_method_7_code 27 = .ok (.getfield 47, 3) := by decide +kernel
theorem d_Kn_showsClaims_30 : decode prog_6_method_7_code 30 = .ok (.iload 4, 2) := by decide +kernel
theorem d_Kn_showsClaims_32 : decode prog_6_method_7_code 32 = .ok (.iaload, 1) := by decide +kernel
theorem d_Kn_showsClaims_33 : decode prog_6_method_7_code 33 = .ok (.iconst (-1), 1) := by decide +kernel
theorem d_Kn_showsClaims_34 : decode prog_6_method_7_code 34 = .ok (.if_icmp .eq 14, 3) := by decide +kernel
theorem d_Kn_showsClaims_37 : decode prog_6_method_7_code 37 = .ok (.aload_n 2, 1) := by decide +kernel
theorem d_Kn_showsClaims_38 : decode prog_6_method_7_code 38 = .ok (.getfield 47, 3) := by decide +kernel
theorem d_Kn_showsClaims_41 : decode prog_6_method_7_code 41 = .ok (.iload 5, 2) := by decide +kernel
theorem d_Kn_showsClaims_43 : decode prog_6_method_7_code 43 = .ok (.iaload, 1) := by decide +kernel
theorem d_Kn_showsClaims_44 : decode prog_6_method_7_code 44 = .ok (.iconst (-1), 1) := by decide +kernel
theorem d_Kn_showsClaims_45 : decode prog_6_method_7_code 45 = .ok (.if_icmp .ne 5, 3) := by decide +kernel
theorem d_Kn_showsClaims_48 : decode prog_6_method_7_code 48 = .ok (.iconst 0, 1) := by decide +kernel
theorem d_Kn_showsClaims_49 : decode prog_6_method_7_code 49 = .ok (.ireturn, 1) := by decide +kernel
theorem d_Kn_showsClaims_50 : decode prog_6_method_7_code 50 = .ok (.aload_n 1, 1) := by decide +kernel
theorem d_Kn_showsClaims_51 : decode prog_6_method_7_code 51 = .ok (.getfield 40, 3) := by decide +kernel
theorem d_Kn_showsClaims_54 : decode prog_6_method_7_code 54 = .ok (.iload_n 3, 1) := by decide +kernel
theorem d_Kn_showsClaims_55 : decode prog_6_method_7_code 55 = .ok (.iaload, 1) := by decide +kernel
theorem d_Kn_showsClaims_56 : decode prog_6_method_7_code 56 = .ok (.i2l, 1) := by decide +kernel
theorem d_Kn_showsClaims_57 : decode prog_6_method_7_code 57 = .ok (.aload_n 2, 1) := by decide +kernel
theorem d_Kn_showsClaims_58 : decode prog_6_method_7_code 58 = .ok (.getfield 52, 3) := by decide +kernel
theorem d_Kn_showsClaims_61 : decode prog_6_method_7_code 61 = .ok (.iload 4, 2) := by decide +kernel
theorem d_Kn_showsClaims_63 : decode prog_6_method_7_code 63 = .ok (.laload, 1) := by decide +kernel
theorem d_Kn_showsClaims_64 : decode prog_6_method_7_code 64 = .ok (.lsub, 1) := by decide +kernel
theorem d_Kn_showsClaims_65 : decode prog_6_method_7_code 65 = .ok (.aload_n 2, 1) := by decide +kernel
theorem d_Kn_showsClaims_66 : decode prog_6_method_7_code 66 = .ok (.getfield 52, 3) := by decide +kernel
theorem d_Kn_showsClaims_69 : decode prog_6_method_7_code 69 = .ok (.iload 5, 2) := by decide +kernel
theorem d_Kn_showsClaims_71 : decode prog_6_method_7_code 71 = .ok (.laload, 1) := by decide +kernel
theorem d_Kn_showsClaims_72 : decode prog_6_method_7_code 72 = .ok (.ladd, 1) := by decide +kernel
theorem d_Kn_showsClaims_73 : decode prog_6_method_7_code 73 = .ok (.lstore 6, 2) := by decide +kernel
theorem d_Kn_showsClaims_75 : decode prog_6_method_7_code 75 = .ok (.aload_n 0, 1) := by decide +kernel
theorem d_Kn_showsClaims_76 : decode prog_6_method_7_code 76 = .ok (.aload_n 2, 1) := by decide +kernel
theorem d_Kn_showsClaims_77 : decode prog_6_method_7_code 77 = .ok (.getfield 47, 3) := by decide +kernel
theorem d_Kn_showsClaims_80 : decode prog_6_method_7_code 80 = .ok (.iload 4, 2) := by decide +kernel
theorem d_Kn_showsClaims_82 : decode prog_6_method_7_code 82 = .ok (.iaload, 1) := by decide +kernel
theorem d_Kn_showsClaims_83 : decode prog_6_method_7_code 83 = .ok (.aload_n 2, 1) := by decide +kernel
theorem d_Kn_showsClaims_84 : decode prog_6_method_7_code 84 = .ok (.getfield 47, 3) := by decide +kernel
theorem d_Kn_showsClaims_87 : decode prog_6_method_7_code 87 = .ok (.iload 5, 2) := by decide +kernel
theorem d_Kn_showsClaims_89 : decode prog_6_method_7_code 89 = .ok (.iaload, 1) := by decide +kernel
theorem d_Kn_showsClaims_90 : decode prog_6_method_7_code 90 = .ok (.invokevirtual 23, 3) := by decide +kernel
theorem d_Kn_showsClaims_93 : decode prog_6_method_7_code 93 = .ok (.lload 6, 2) := by decide +kernel
theorem d_Kn_showsClaims_95 : decode prog_6_method_7_code 95 = .ok (.lcmp, 1) := by decide +kernel
theorem d_Kn_showsClaims_96 : decode prog_6_method_7_code 96 = .ok (.ifCond .le 5, 3) := by decide +kernel
theorem d_Kn_showsClaims_99 : decode prog_6_method_7_code 99 = .ok (.iconst 0, 1) := by decide +kernel
theorem d_Kn_showsClaims_100 : decode prog_6_method_7_code 100 = .ok (.ireturn, 1) := by decide +kernel
theorem d_Kn_showsClaims_101 : decode prog_6_method_7_code 101 = .ok (.iinc 3 1, 3) := by decide +kernel
theorem d_Kn_showsClaims_104 : decode prog_6_method_7_code 104 = .ok (.goto (-102), 3) := by decide +kernel
theorem d_Kn_showsClaims_107 : decode prog_6_method_7_code 107 = .ok (.iconst 1, 1) := by decide +kernel
theorem d_Kn_showsClaims_108 : decode prog_6_method_7_code 108 = .ok (.ireturn, 1) := by decide +kernel
theorem d_Ba_isShownNotNegative_0 : decode prog_2_method_7_code 0 = .ok (.aload_n 0, 1) := by decide +kernel
theorem d_Ba_isShownNotNegative_1 : decode prog_2_method_7_code 1 = .ok (.getfield 15, 3) := by decide +kernel
theorem d_Ba_isShownNotNegative_4 : decode prog_2_method_7_code 4 = .ok (.lstore_n 2, 1) := by decide +kernel
theorem d_Ba_isShownNotNegative_5 : decode prog_2_method_7_code 5 = .ok (.iconst 0, 1) := by decide +kernel
theorem d_Ba_isShownNotNegative_6 : decode prog_2_method_7_code 6 = .ok (.istore 4, 2) := by decide +kernel
theorem d_Ba_isShownNotNegative_8 : decode prog_2_method_7_code 8 = .ok (.iload 4, 2) := by decide +kernel
theorem d_Ba_isShownNotNegative_10 : decode prog_2_method_7_code 10 = .ok (.iconst 5, 1) := by decide +kernel
theorem d_Ba_isShownNotNegative_11 : decode prog_2_method_7_code 11 = .ok (.if_icmp .ge 111, 3) := by decide +kernel
theorem d_Ba_isShownNotNegative_14 : decode prog_2_method_7_code 14 = .ok (.iload 4, 2) := by decide +kernel
theorem d_Ba_isShownNotNegative_16 : decode prog_2_method_7_code 16 = .ok (.iconst 1, 1) := by decide +kernel
theorem d_Ba_isShownNotNegative_17 : decode prog_2_method_7_code 17 = .ok (.iadd, 1) := by decide +kernel
theorem d_Ba_isShownNotNegative_18 : decode prog_2_method_7_code 18 = .ok (.istore 5, 2) := by decide +kernel
theorem d_Ba_isShownNotNegative_20 : decode prog_2_method_7_code 20 = .ok (.iload 5, 2) := by decide +kernel
theorem d_Ba_isShownNotNegative_22 : decode prog_2_method_7_code 22 = .ok (.iconst 5, 1) := by decide +kernel
theorem d_Ba_isShownNotNegative_23 : decode prog_2_method_7_code 23 = .ok (.if_icmp .ge 93, 3) := by decide +kernel
theorem d_Ba_isShownNotNegative_26 : decode prog_2_method_7_code 26 = .ok (.aload_n 0, 1) := by decide +kernel
theorem d_Ba_isShownNotNegative_27 : decode prog_2_method_7_code 27 = .ok (.getfield 9, 3) := by decide +kernel
theorem d_Ba_isShownNotNegative_30 : decode prog_2_method_7_code 30 = .ok (.iconst 5, 1) := by decide +kernel
theorem d_Ba_isShownNotNegative_31 : decode prog_2_method_7_code 31 = .ok (.iload 4, 2) := by decide +kernel
theorem d_Ba_isShownNotNegative_33 : decode prog_2_method_7_code 33 = .ok (.imul, 1) := by decide +kernel
theorem d_Ba_isShownNotNegative_34 : decode prog_2_method_7_code 34 = .ok (.iload 5, 2) := by decide +kernel
theorem d_Ba_isShownNotNegative_36 : decode prog_2_method_7_code 36 = .ok (.iadd, 1) := by decide +kernel
theorem d_Ba_isShownNotNegative_37 : decode prog_2_method_7_code 37 = .ok (.laload, 1) := by decide +kernel
theorem d_Ba_isShownNotNegative_38 : decode prog_2_method_7_code 38 = .ok (.lstore 6, 2) := by decide +kernel
theorem d_Ba_isShownNotNegative_40 : decode prog_2_method_7_code 40 = .ok (.lload 6, 2) := by decide +kernel
theorem d_Ba_isShownNotNegative_42 : decode prog_2_method_7_code 42 = .ok (.lconst 0, 1) := by decide +kernel
theorem d_Ba_isShownNotNegative_43 : decode prog_2_method_7_code 43 = .ok (.lcmp, 1) := by decide +kernel
theorem d_Ba_isShownNotNegative_44 : decode prog_2_method_7_code 44 = .ok (.ifCond .le 14, 3) := by decide +kernel
theorem d_Ba_isShownNotNegative_47 : decode prog_2_method_7_code 47 = .ok (.aload_n 1, 1) := by decide +kernel
theorem d_Ba_isShownNotNegative_48 : decode prog_2_method_7_code 48 = .ok (.iload 5, 2) := by decide +kernel
theorem d_Ba_isShownNotNegative_50 : decode prog_2_method_7_code 50 = .ok (.iload 4, 2) := by decide +kernel
theorem d_Ba_isShownNotNegative_52 : decode prog_2_method_7_code 52 = .ok (.invokevirtual 59, 3) := by decide +kernel
theorem d_Ba_isShownNotNegative_55 : decode prog_2_method_7_code 55 = .ok (.goto 11, 3) := by decide +kernel
theorem d_Ba_isShownNotNegative_58 : decode prog_2_method_7_code 58 = .ok (.aload_n 1, 1) := by decide +kernel
theorem d_Ba_isShownNotNegative_59 : decode prog_2_method_7_code 59 = .ok (.iload 4, 2) := by decide +kernel
theorem d_Ba_isShownNotNegative_61 : decode prog_2_method_7_code 61 = .ok (.iload 5, 2) := by decide +kernel
theorem d_Ba_isShownNotNegative_63 : decode prog_2_method_7_code 63 = .ok (.invokevirtual 59, 3) := by decide +kernel
theorem d_Ba_isShownNotNegative_66 : decode prog_2_method_7_code 66 = .ok (.lstore 8, 2) := by decide +kernel
theorem d_Ba_isShownNotNegative_68 : decode prog_2_method_7_code 68 = .ok (.lload 6, 2) := by decide +kernel
theorem d_Ba_isShownNotNegative_70 : decode prog_2_method_7_code 70 = .ok (.lconst 0, 1) := by decide +kernel
theorem d_Ba_isShownNotNegative_71 : decode prog_2_method_7_code 71 = .ok (.lcmp, 1) := by decide +kernel
theorem d_Ba_isShownNotNegative_72 : decode prog_2_method_7_code 72 = .ok (.ifCond .eq 14, 3) := by decide +kernel
theorem d_Ba_isShownNotNegative_75 : decode prog_2_method_7_code 75 = .ok (.lload 8, 2) := by decide +kernel
theorem d_Ba_isShownNotNegative_77 : decode prog_2_method_7_code 77 = .ok (.ldc2_w 65, 3) := by decide +kernel
theorem d_Ba_isShownNotNegative_80 : decode prog_2_method_7_code 80 = .ok (.lcmp, 1) := by decide +kernel
theorem d_Ba_isShownNotNegative_81 : decode prog_2_method_7_code 81 = .ok (.ifCond .ne 5, 3) := by decide +kernel
theorem d_Ba_isShownNotNegative_84 : decode prog_2_method_7_code 84 = .ok (.iconst 0, 1) := by decide +kernel
theorem d_Ba_isShownNotNegative_85 : decode prog_2_method_7_code 85 = .ok (.ireturn, 1) := by decide +kernel
theorem d_Ba_isShownNotNegative_86 : decode prog_2_method_7_code 86 = .ok (.lload_n 2, 1) := by decide +kernel
theorem d_Ba_isShownNotNegative_87 : decode prog_2_method_7_code 87 = .ok (.lload 6, 2) := by decide +kernel
theorem d_Ba_isShownNotNegative_89 : decode prog_2_method_7_code 89 = .ok (.lconst 0, 1) := by decide +kernel
theorem d_Ba_isShownNotNegative_90 : decode prog_2_method_7_code 90 = .ok (.lcmp, 1) := by decide +kernel
theorem d_Ba_isShownNotNegative_91 : decode prog_2_method_7_code 91 = .ok (.ifCond .le 12, 3) := by decide +kernel
theorem d_Ba_isShownNotNegative_94 : decode prog_2_method_7_code 94 = .ok (.lload 6, 2) := by decide +kernel
theorem d_Ba_isShownNotNegative_96 : decode prog_2_method_7_code 96 = .ok (.lneg, 1) := by decide +kernel
theorem d_Ba_isShownNotNegative_97 : decode prog_2_method_7_code 97 = .ok (.lload 8, 2) := by decide +kernel
theorem d_Ba_isShownNotNegative_99 : decode prog_2_method_7_code 99 = .ok (.lmul, 1) := by decide +kernel
theorem d_Ba_isShownNotNegative_100 : decode prog_2_method_7_code 100 = .ok (.goto 8, 3) := by decide +kernel
theorem d_Ba_isShownNotNegative_103 : decode prog_2_method_7_code 103 = .ok (.lload 6, 2) := by decide +kernel
theorem d_Ba_isShownNotNegative_105 : decode prog_2_method_7_code 105 = .ok (.lload 8, 2) := by decide +kernel
theorem d_Ba_isShownNotNegative_107 : decode prog_2_method_7_code 107 = .ok (.lmul, 1) := by decide +kernel
theorem d_Ba_isShownNotNegative_108 : decode prog_2_method_7_code 108 = .ok (.ladd, 1) := by decide +kernel
theorem d_Ba_isShownNotNegative_109 : decode prog_2_method_7_code 109 = .ok (.lstore_n 2, 1) := by decide +kernel
theorem d_Ba_isShownNotNegative_110 : decode prog_2_method_7_code 110 = .ok (.iinc 5 1, 3) := by decide +kernel
theorem d_Ba_isShownNotNegative_113 : decode prog_2_method_7_code 113 = .ok (.goto (-93), 3) := by decide +kernel
theorem d_Ba_isShownNotNegative_116 : decode prog_2_method_7_code 116 = .ok (.iinc 4 1, 3) := by decide +kernel
theorem d_Ba_isShownNotNegative_119 : decode prog_2_method_7_code 119 = .ok (.goto (-111), 3) := by decide +kernel
theorem d_Ba_isShownNotNegative_122 : decode prog_2_method_7_code 122 = .ok (.lload_n 2, 1) := by decide +kernel
theorem d_Ba_isShownNotNegative_123 : decode prog_2_method_7_code 123 = .ok (.lconst 0, 1) := by decide +kernel
theorem d_Ba_isShownNotNegative_124 : decode prog_2_method_7_code 124 = .ok (.lcmp, 1) := by decide +kernel
theorem d_Ba_isShownNotNegative_125 : decode prog_2_method_7_code 125 = .ok (.ifCond .lt 7, 3) := by decide +kernel
theorem d_Ba_isShownNotNegative_128 : decode prog_2_method_7_code 128 = .ok (.iconst 1, 1) := by decide +kernel
theorem d_Ba_isShownNotNegative_129 : decode prog_2_method_7_code 129 = .ok (.goto 4, 3) := by decide +kernel
theorem d_Ba_isShownNotNegative_132 : decode prog_2_method_7_code 132 = .ok (.iconst 0, 1) := by decide +kernel
theorem d_Ba_isShownNotNegative_133 : decode prog_2_method_7_code 133 = .ok (.ireturn, 1) := by decide +kernel
theorem d_Pa_countInstruction_0 : decode prog_9_method_4_code 0 = .ok (.aload_n 0, 1) := by decide +kernel
theorem d_Pa_countInstruction_1 : decode prog_9_method_4_code 1 = .ok (.dup, 1) := by decide +kernel
theorem d_Pa_countInstruction_2 : decode prog_9_method_4_code 2 = .ok (.getfield 47, 3) := by decide +kernel
theorem d_Pa_countInstruction_5 : decode prog_9_method_4_code 5 = .ok (.iconst 1, 1) := by decide +kernel
theorem d_Pa_countInstruction_6 : decode prog_9_method_4_code 6 = .ok (.iadd, 1) := by decide +kernel
theorem d_Pa_countInstruction_7 : decode prog_9_method_4_code 7 = .ok (.putfield 47, 3) := by decide +kernel
theorem d_Pa_countInstruction_10 : decode prog_9_method_4_code 10 = .ok (.aload_n 0, 1) := by decide +kernel
theorem d_Pa_countInstruction_11 : decode prog_9_method_4_code 11 = .ok (.dup, 1) := by decide +kernel
theorem d_Pa_countInstruction_12 : decode prog_9_method_4_code 12 = .ok (.getfield 46, 3) := by decide +kernel
theorem d_Pa_countInstruction_15 : decode prog_9_method_4_code 15 = .ok (.iconst 1, 1) := by decide +kernel
theorem d_Pa_countInstruction_16 : decode prog_9_method_4_code 16 = .ok (.iadd, 1) := by decide +kernel
theorem d_Pa_countInstruction_17 : decode prog_9_method_4_code 17 = .ok (.putfield 46, 3) := by decide +kernel
theorem d_Pa_countInstruction_20 : decode prog_9_method_4_code 20 = .ok (.aload_n 0, 1) := by decide +kernel
theorem d_Pa_countInstruction_21 : decode prog_9_method_4_code 21 = .ok (.getfield 35, 3) := by decide +kernel
theorem d_Pa_countInstruction_24 : decode prog_9_method_4_code 24 = .ok (.iconst 0, 1) := by decide +kernel
theorem d_Pa_countInstruction_25 : decode prog_9_method_4_code 25 = .ok (.aaload, 1) := by decide +kernel
theorem d_Pa_countInstruction_26 : decode prog_9_method_4_code 26 = .ok (.dup, 1) := by decide +kernel
theorem d_Pa_countInstruction_27 : decode prog_9_method_4_code 27 = .ok (.getfield 90, 3) := by decide +kernel
theorem d_Pa_countInstruction_30 : decode prog_9_method_4_code 30 = .ok (.lconst 1, 1) := by decide +kernel
theorem d_Pa_countInstruction_31 : decode prog_9_method_4_code 31 = .ok (.lsub, 1) := by decide +kernel
theorem d_Pa_countInstruction_32 : decode prog_9_method_4_code 32 = .ok (.putfield 90, 3) := by decide +kernel
theorem d_Pa_countInstruction_35 : decode prog_9_method_4_code 35 = .ok (.return_, 1) := by decide +kernel
theorem d_Ch_reasonBehind_0 : decode prog_3_method_5_code 0 = .ok (.aload_n 0, 1) := by decide +kernel
theorem d_Ch_reasonBehind_1 : decode prog_3_method_5_code 1 = .ok (.getfield 11, 3) := by decide +kernel
theorem d_Ch_reasonBehind_4 : decode prog_3_method_5_code 4 = .ok (.iload_n 1, 1) := by decide +kernel
theorem d_Ch_reasonBehind_5 : decode prog_3_method_5_code 5 = .ok (.aaload, 1) := by decide +kernel
theorem d_Ch_reasonBehind_6 : decode prog_3_method_5_code 6 = .ok (.iconst 2, 1) := by decide +kernel
theorem d_Ch_reasonBehind_7 : decode prog_3_method_5_code 7 = .ok (.invokevirtual 133, 3) := by decide +kernel
theorem d_Ch_reasonBehind_10 : decode prog_3_method_5_code 10 = .ok (.iload_n 1, 1) := by decide +kernel
theorem d_Ch_reasonBehind_11 : decode prog_3_method_5_code 11 = .ok (.iconst 1, 1) := by decide +kernel
theorem d_Ch_reasonBehind_12 : decode prog_3_method_5_code 12 = .ok (.iadd, 1) := by decide +kernel
theorem d_Ch_reasonBehind_13 : decode prog_3_method_5_code 13 = .ok (.bipush 14, 2) := by decide +kernel
theorem d_Ch_reasonBehind_15 : decode prog_3_method_5_code 15 = .ok (.if_icmp .lt 5, 3) := by decide +kernel
theorem d_Ch_reasonBehind_18 : decode prog_3_method_5_code 18 = .ok (.iconst 3, 1) := by decide +kernel
theorem d_Ch_reasonBehind_19 : decode prog_3_method_5_code 19 = .ok (.ireturn, 1) := by decide +kernel
theorem d_Ch_reasonBehind_20 : decode prog_3_method_5_code 20 = .ok (.aload_n 0, 1) := by decide +kernel
theorem d_Ch_reasonBehind_21 : decode prog_3_method_5_code 21 = .ok (.getfield 11, 3) := by decide +kernel
theorem d_Ch_reasonBehind_24 : decode prog_3_method_5_code 24 = .ok (.iload_n 1, 1) := by decide +kernel
theorem d_Ch_reasonBehind_25 : decode prog_3_method_5_code 25 = .ok (.iconst 1, 1) := by decide +kernel
theorem d_Ch_reasonBehind_26 : decode prog_3_method_5_code 26 = .ok (.iadd, 1) := by decide +kernel
theorem d_Ch_reasonBehind_27 : decode prog_3_method_5_code 27 = .ok (.aaload, 1) := by decide +kernel
theorem d_Ch_reasonBehind_28 : decode prog_3_method_5_code 28 = .ok (.astore_n 3, 1) := by decide +kernel
theorem d_Ch_reasonBehind_29 : decode prog_3_method_5_code 29 = .ok (.aload_n 3, 1) := by decide +kernel
theorem d_Ch_reasonBehind_30 : decode prog_3_method_5_code 30 = .ok (.aload_n 0, 1) := by decide +kernel
theorem d_Ch_reasonBehind_31 : decode prog_3_method_5_code 31 = .ok (.getfield 11, 3) := by decide +kernel
theorem d_Ch_reasonBehind_34 : decode prog_3_method_5_code 34 = .ok (.iload_n 1, 1) := by decide +kernel
theorem d_Ch_reasonBehind_35 : decode prog_3_method_5_code 35 = .ok (.aaload, 1) := by decide +kernel
theorem d_Ch_reasonBehind_36 : decode prog_3_method_5_code 36 = .ok (.invokevirtual 137, 3) := by decide +kernel
theorem d_Ch_reasonBehind_39 : decode prog_3_method_5_code 39 = .ok (.aload_n 3, 1) := by decide +kernel
theorem d_Ch_reasonBehind_40 : decode prog_3_method_5_code 40 = .ok (.iload_n 2, 1) := by decide +kernel
theorem d_Ch_reasonBehind_41 : decode prog_3_method_5_code 41 = .ok (.invokevirtual 117, 3) := by decide +kernel
theorem d_Ch_reasonBehind_44 : decode prog_3_method_5_code 44 = .ok (.ifCond .eq 13, 3) := by decide +kernel
theorem d_Ch_reasonBehind_47 : decode prog_3_method_5_code 47 = .ok (.aload_n 0, 1) := by decide +kernel
theorem d_Ch_reasonBehind_48 : decode prog_3_method_5_code 48 = .ok (.iload_n 1, 1) := by decide +kernel
theorem d_Ch_reasonBehind_49 : decode prog_3_method_5_code 49 = .ok (.iconst 1, 1) := by decide +kernel
theorem d_Ch_reasonBehind_50 : decode prog_3_method_5_code 50 = .ok (.iadd, 1) := by decide +kernel
theorem d_Ch_reasonBehind_51 : decode prog_3_method_5_code 51 = .ok (.invokevirtual 76, 3) := by decide +kernel
theorem d_Ch_reasonBehind_54 : decode prog_3_method_5_code 54 = .ok (.goto 4, 3) := by decide +kernel
theorem d_Ch_reasonBehind_57 : decode prog_3_method_5_code 57 = .ok (.iconst 0, 1) := by decide +kernel
theorem d_Ch_reasonBehind_58 : decode prog_3_method_5_code 58 = .ok (.ireturn, 1) := by decide +kernel
theorem d_Pa_drop_0 : decode prog_9_method_6_code 0 = .ok (.aload_n 0, 1) := by decide +kernel
theorem d_Pa_drop_1 : decode prog_9_method_6_code 1 = .ok (.aload_n 0, 1) := by decide +kernel
theorem d_Pa_drop_2 : decode prog_9_method_6_code 2 = .ok (.getfield 50, 3) := by decide +kernel
theorem d_Pa_drop_5 : decode prog_9_method_6_code 5 = .ok (.iload_n 1, 1) := by decide +kernel
theorem d_Pa_drop_6 : decode prog_9_method_6_code 6 = .ok (.isub, 1) := by decide +kernel
theorem d_Pa_drop_7 : decode prog_9_method_6_code 7 = .ok (.iconst 0, 1) := by decide +kernel
theorem d_Pa_drop_8 : decode prog_9_method_6_code 8 = .ok (.invokestatic 94, 3) := by decide +kernel
theorem d_Pa_drop_11 : decode prog_9_method_6_code 11 = .ok (.putfield 50, 3) := by decide +kernel
theorem d_Pa_drop_14 : decode prog_9_method_6_code 14 = .ok (.return_, 1) := by decide +kernel
theorem d_Pa_copyFrom_0 : decode prog_9_method_3_code 0 = .ok (.aload_n 0, 1) := by decide +kernel
theorem d_Pa_copyFrom_1 : decode prog_9_method_3_code 1 = .ok (.getfield 12, 3) := by decide +kernel
theorem d_Pa_copyFrom_4 : decode prog_9_method_3_code 4 = .ok (.aload_n 1, 1) := by decide +kernel
theorem d_Pa_copyFrom_5 : decode prog_9_method_3_code 5 = .ok (.getfield 12, 3) := by decide +kernel
theorem d_Pa_copyFrom_8 : decode prog_9_method_3_code 8 = .ok (.invokevirtual 74, 3) := by decide +kernel
theorem d_Pa_copyFrom_11 : decode prog_9_method_3_code 11 = .ok (.aload_n 1, 1) := by decide +kernel
theorem d_Pa_copyFrom_12 : decode prog_9_method_3_code 12 = .ok (.getfield 18, 3) := by decide +kernel
theorem d_Pa_copyFrom_15 : decode prog_9_method_3_code 15 = .ok (.iconst 0, 1) := by decide +kernel
theorem d_Pa_copyFrom_16 : decode prog_9_method_3_code 16 = .ok (.aload_n 0, 1) := by decide +kernel
theorem d_Pa_copyFrom_17 : decode prog_9_method_3_code 17 = .ok (.getfield 18, 3) := by decide +kernel
theorem d_Pa_copyFrom_20 : decode prog_9_method_3_code 20 = .ok (.iconst 0, 1) := by decide +kernel
theorem d_Pa_copyFrom_21 : decode prog_9_method_3_code 21 = .ok (.bipush 6, 2) := by decide +kernel
theorem d_Pa_copyFrom_23 : decode prog_9_method_3_code 23 = .ok (.invokestatic 78, 3) := by decide +kernel
theorem d_Pa_copyFrom_26 : decode prog_9_method_3_code 26 = .ok (.aload_n 1, 1) := by decide +kernel
theorem d_Pa_copyFrom_27 : decode prog_9_method_3_code 27 = .ok (.getfield 22, 3) := by decide +kernel
theorem d_Pa_copyFrom_30 : decode prog_9_method_3_code 30 = .ok (.iconst 0, 1) := by decide +kernel
theorem d_Pa_copyFrom_31 : decode prog_9_method_3_code 31 = .ok (.aload_n 0, 1) := by decide +kernel
theorem d_Pa_copyFrom_32 : decode prog_9_method_3_code 32 = .ok (.getfield 22, 3) := by decide +kernel
theorem d_Pa_copyFrom_35 : decode prog_9_method_3_code 35 = .ok (.iconst 0, 1) := by decide +kernel
theorem d_Pa_copyFrom_36 : decode prog_9_method_3_code 36 = .ok (.bipush 6, 2) := by decide +kernel
theorem d_Pa_copyFrom_38 : decode prog_9_method_3_code 38 = .ok (.invokestatic 78, 3) := by decide +kernel
theorem d_Pa_copyFrom_41 : decode prog_9_method_3_code 41 = .ok (.aload_n 0, 1) := by decide +kernel
theorem d_Pa_copyFrom_42 : decode prog_9_method_3_code 42 = .ok (.aload_n 1, 1) := by decide +kernel
theorem d_Pa_copyFrom_43 : decode prog_9_method_3_code 43 = .ok (.getfield 50, 3) := by decide +kernel
theorem d_Pa_copyFrom_46 : decode prog_9_method_3_code 46 = .ok (.putfield 50, 3) := by decide +kernel
theorem d_Pa_copyFrom_49 : decode prog_9_method_3_code 49 = .ok (.aload_n 0, 1) := by decide +kernel
theorem d_Pa_copyFrom_50 : decode prog_9_method_3_code 50 = .ok (.aload_n 1, 1) := by decide +kernel
theorem d_Pa_copyFrom_51 : decode prog_9_method_3_code 51 = .ok (.getfield 46, 3) := by decide +kernel
theorem d_Pa_copyFrom_54 : decode prog_9_method_3_code 54 = .ok (.putfield 46, 3) := by decide +kernel
theorem d_Pa_copyFrom_57 : decode prog_9_method_3_code 57 = .ok (.aload_n 0, 1) := by decide +kernel
theorem d_Pa_copyFrom_58 : decode prog_9_method_3_code 58 = .ok (.aload_n 1, 1) := by decide +kernel
theorem d_Pa_copyFrom_59 : decode prog_9_method_3_code 59 = .ok (.getfield 47, 3) := by decide +kernel
theorem d_Pa_copyFrom_62 : decode prog_9_method_3_code 62 = .ok (.putfield 47, 3) := by decide +kernel
theorem d_Pa_copyFrom_65 : decode prog_9_method_3_code 65 = .ok (.aload_n 0, 1) := by decide +kernel
theorem d_Pa_copyFrom_66 : decode prog_9_method_3_code 66 = .ok (.getfield 29, 3) := by decide +kernel
theorem d_Pa_copyFrom_69 : decode prog_9_method_3_code 69 = .ok (.aload_n 1, 1) := by decide +kernel
theorem d_Pa_copyFrom_70 : decode prog_9_method_3_code 70 = .ok (.getfield 29, 3) := by decide +kernel
theorem d_Pa_copyFrom_73 : decode prog_9_method_3_code 73 = .ok (.invokevirtual 84, 3) := by decide +kernel
theorem d_Pa_copyFrom_76 : decode prog_9_method_3_code 76 = .ok (.iconst 0, 1) := by decide +kernel
theorem d_Pa_copyFrom_77 : decode prog_9_method_3_code 77 = .ok (.istore_n 2, 1) := by decide +kernel
theorem d_Pa_copyFrom_78 : decode prog_9_method_3_code 78 = .ok (.iload_n 2, 1) := by decide +kernel
theorem d_Pa_copyFrom_79 : decode prog_9_method_3_code 79 = .ok (.iconst 2, 1) := by decide +kernel
theorem d_Pa_copyFrom_80 : decode prog_9_method_3_code 80 = .ok (.if_icmp .ge 24, 3) := by decide +kernel
theorem d_Pa_copyFrom_83 : decode prog_9_method_3_code 83 = .ok (.aload_n 0, 1) := by decide +kernel
theorem d_Pa_copyFrom_84 : decode prog_9_method_3_code 84 = .ok (.getfield 35, 3) := by decide +kernel
theorem d_Pa_copyFrom_87 : decode prog_9_method_3_code 87 = .ok (.iload_n 2, 1) := by decide +kernel
theorem d_Pa_copyFrom_88 : decode prog_9_method_3_code 88 = .ok (.aaload, 1) := by decide +kernel
theorem d_Pa_copyFrom_89 : decode prog_9_method_3_code 89 = .ok (.aload_n 1, 1) := by decide +kernel
theorem d_Pa_copyFrom_90 : decode prog_9_method_3_code 90 = .ok (.getfield 35, 3) := by decide +kernel
theorem d_Pa_copyFrom_93 : decode prog_9_method_3_code 93 = .ok (.iload_n 2, 1) := by decide +kernel
theorem d_Pa_copyFrom_94 : decode prog_9_method_3_code 94 = .ok (.aaload, 1) := by decide +kernel
theorem d_Pa_copyFrom_95 : decode prog_9_method_3_code 95 = .ok (.invokevirtual 87, 3) := by decide +kernel
theorem d_Pa_copyFrom_98 : decode prog_9_method_3_code 98 = .ok (.iinc 2 1, 3) := by decide +kernel
theorem d_Pa_copyFrom_101 : decode prog_9_method_3_code 101 = .ok (.goto (-23), 3) := by decide +kernel
theorem d_Pa_copyFrom_104 : decode prog_9_method_3_code 104 = .ok (.return_, 1) := by decide +kernel
theorem d_Kn_copyFrom_0 : decode prog_6_method_3_code 0 = .ok (.aload_n 1, 1) := by decide +kernel
theorem d_Kn_copyFrom_1 : decode prog_6_method_3_code 1 = .ok (.getfield 9, 3) := by decide +kernel
theorem d_Kn_copyFrom_4 : decode prog_6_method_3_code 4 = .ok (.iconst 0, 1) := by decide +kernel
theorem d_Kn_copyFrom_5 : decode prog_6_method_3_code 5 = .ok (.aload_n 0, 1) := by decide +kernel
theorem d_Kn_copyFrom_6 : decode prog_6_method_3_code 6 = .ok (.getfield 9, 3) := by decide +kernel
theorem d_Kn_copyFrom_9 : decode prog_6_method_3_code 9 = .ok (.iconst 0, 1) := by decide +kernel
theorem d_Kn_copyFrom_10 : decode prog_6_method_3_code 10 = .ok (.bipush 25, 2) := by decide +kernel
theorem d_Kn_copyFrom_12 : decode prog_6_method_3_code 12 = .ok (.invokestatic 17, 3) := by decide +kernel
theorem d_Kn_copyFrom_15 : decode prog_6_method_3_code 15 = .ok (.return_, 1) := by decide +kernel
theorem d_Ba_copyFrom_0 : decode prog_2_method_3_code 0 = .ok (.aload_n 1, 1) := by decide +kernel
theorem d_Ba_copyFrom_1 : decode prog_2_method_3_code 1 = .ok (.getfield 9, 3) := by decide +kernel
theorem d_Ba_copyFrom_4 : decode prog_2_method_3_code 4 = .ok (.iconst 0, 1) := by decide +kernel
theorem d_Ba_copyFrom_5 : decode prog_2_method_3_code 5 = .ok (.aload_n 0, 1) := by decide +kernel
theorem d_Ba_copyFrom_6 : decode prog_2_method_3_code 6 = .ok (.getfield 9, 3) := by decide +kernel
theorem d_Ba_copyFrom_9 : decode prog_2_method_3_code 9 = .ok (.iconst 0, 1) := by decide +kernel
theorem d_Ba_copyFrom_10 : decode prog_2_method_3_code 10 = .ok (.bipush 25, 2) := by decide +kernel
theorem d_Ba_copyFrom_12 : decode prog_2_method_3_code 12 = .ok (.invokestatic 19, 3) := by decide +kernel
theorem d_Ba_copyFrom_15 : decode prog_2_method_3_code 15 = .ok (.aload_n 0, 1) := by decide +kernel
theorem d_Ba_copyFrom_16 : decode prog_2_method_3_code 16 = .ok (.aload_n 1, 1) := by decide +kernel
theorem d_Ba_copyFrom_17 : decode prog_2_method_3_code 17 = .ok (.getfield 15, 3) := by decide +kernel
theorem d_Ba_copyFrom_20 : decode prog_2_method_3_code 20 = .ok (.putfield 15, 3) := by decide +kernel
theorem d_Ba_copyFrom_23 : decode prog_2_method_3_code 23 = .ok (.return_, 1) := by decide +kernel
theorem d_Pa_learnLess_0 : decode prog_9_method_10_code 0 = .ok (.aload_n 0, 1) := by decide +kernel
theorem d_Pa_learnLess_1 : decode prog_9_method_10_code 1 = .ok (.getfield 18, 3) := by decide +kernel
theorem d_Pa_learnLess_4 : decode prog_9_method_10_code 4 = .ok (.aload_n 0, 1) := by decide +kernel
theorem d_Pa_learnLess_5 : decode prog_9_method_10_code 5 = .ok (.getfield 50, 3) := by decide +kernel
theorem d_Pa_learnLess_8 : decode prog_9_method_10_code 8 = .ok (.iaload, 1) := by decide +kernel
theorem d_Pa_learnLess_9 : decode prog_9_method_10_code 9 = .ok (.istore_n 2, 1) := by decide +kernel
theorem d_Pa_learnLess_10 : decode prog_9_method_10_code 10 = .ok (.aload_n 0, 1) := by decide +kernel
theorem d_Pa_learnLess_11 : decode prog_9_method_10_code 11 = .ok (.getfield 18, 3) := by decide +kernel
theorem d_Pa_learnLess_14 : decode prog_9_method_10_code 14 = .ok (.aload_n 0, 1) := by decide +kernel
theorem d_Pa_learnLess_15 : decode prog_9_method_10_code 15 = .ok (.getfield 50, 3) := by decide +kernel
theorem d_Pa_learnLess_18 : decode prog_9_method_10_code 18 = .ok (.iconst 1, 1) := by decide +kernel
theorem d_Pa_learnLess_19 : decode prog_9_method_10_code 19 = .ok (.iadd, 1) := by decide +kernel
theorem d_Pa_learnLess_20 : decode prog_9_method_10_code 20 = .ok (.iaload, 1) := by decide +kernel
theorem d_Pa_learnLess_21 : decode prog_9_method_10_code 21 = .ok (.istore_n 3, 1) := by decide +kernel
theorem d_Pa_learnLess_22 : decode prog_9_method_10_code 22 = .ok (.iload_n 2, 1) := by decide +kernel
theorem d_Pa_learnLess_23 : decode prog_9_method_10_code 23 = .ok (.iconst (-1), 1) := by decide +kernel
theorem d_Pa_learnLess_24 : decode prog_9_method_10_code 24 = .ok (.if_icmp .eq 8, 3) := by decide +kernel
theorem d_Pa_learnLess_27 : decode prog_9_method_10_code 27 = .ok (.iload_n 3, 1) := by decide +kernel
theorem d_Pa_learnLess_28 : decode prog_9_method_10_code 28 = .ok (.iconst (-1), 1) := by decide +kernel
theorem d_Pa_learnLess_29 : decode prog_9_method_10_code 29 = .ok (.if_icmp .ne 5, 3) := by decide +kernel
theorem d_Pa_learnLess_32 : decode prog_9_method_10_code 32 = .ok (.iconst 1, 1) := by decide +kernel
theorem d_Pa_learnLess_33 : decode prog_9_method_10_code 33 = .ok (.ireturn, 1) := by decide +kernel
theorem d_Pa_learnLess_34 : decode prog_9_method_10_code 34 = .ok (.aload_n 0, 1) := by decide +kernel
theorem d_Pa_learnLess_35 : decode prog_9_method_10_code 35 = .ok (.getfield 22, 3) := by decide +kernel
theorem d_Pa_learnLess_38 : decode prog_9_method_10_code 38 = .ok (.aload_n 0, 1) := by decide +kernel
theorem d_Pa_learnLess_39 : decode prog_9_method_10_code 39 = .ok (.getfield 50, 3) := by decide +kernel
theorem d_Pa_learnLess_42 : decode prog_9_method_10_code 42 = .ok (.iconst 1, 1) := by decide +kernel
theorem d_Pa_learnLess_43 : decode prog_9_method_10_code 43 = .ok (.iadd, 1) := by decide +kernel
theorem d_Pa_learnLess_44 : decode prog_9_method_10_code 44 = .ok (.laload, 1) := by decide +kernel
theorem d_Pa_learnLess_45 : decode prog_9_method_10_code 45 = .ok (.aload_n 0, 1) := by decide +kernel
theorem d_Pa_learnLess_46 : decode prog_9_method_10_code 46 = .ok (.getfield 22, 3) := by decide +kernel
theorem d_Pa_learnLess_49 : decode prog_9_method_10_code 49 = .ok (.aload_n 0, 1) := by decide +kernel
theorem d_Pa_learnLess_50 : decode prog_9_method_10_code 50 = .ok (.getfield 50, 3) := by decide +kernel
theorem d_Pa_learnLess_53 : decode prog_9_method_10_code 53 = .ok (.laload, 1) := by decide +kernel
theorem d_Pa_learnLess_54 : decode prog_9_method_10_code 54 = .ok (.lsub, 1) := by decide +kernel
theorem d_Pa_learnLess_55 : decode prog_9_method_10_code 55 = .ok (.lstore 4, 2) := by decide +kernel
theorem d_Pa_learnLess_57 : decode prog_9_method_10_code 57 = .ok (.iload_n 1, 1) := by decide +kernel
theorem d_Pa_learnLess_58 : decode prog_9_method_10_code 58 = .ok (.ifCond .eq 19, 3) := by decide +kernel
theorem d_Pa_learnLess_61 : decode prog_9_method_10_code 61 = .ok (.aload_n 0, 1) := by decide +kernel
theorem d_Pa_learnLess_62 : decode prog_9_method_10_code 62 = .ok (.getfield 29, 3) := by decide +kernel
theorem d_Pa_learnLess_65 : decode prog_9_method_10_code 65 = .ok (.iload_n 2, 1) := by decide +kernel
theorem d_Pa_learnLess_66 : decode prog_9_method_10_code 66 = .ok (.iload_n 3, 1) := by decide +kernel
theorem d_Pa_learnLess_67 : decode prog_9_method_10_code 67 = .ok (.lload 4, 2) := by decide +kernel
theorem d_Pa_learnLess_69 : decode prog_9_method_10_code 69 = .ok (.lconst 1, 1) := by decide +kernel
theorem d_Pa_learnLess_70 : decode prog_9_method_10_code 70 = .ok (.lsub, 1) := by decide +kernel
theorem d_Pa_learnLess_71 : decode prog_9_method_10_code 71 = .ok (.invokevirtual 125, 3) := by decide +kernel
theorem d_Pa_learnLess_74 : decode prog_9_method_10_code 74 = .ok (.goto 15, 3) := by decide +kernel
theorem d_Pa_learnLess_77 : decode prog_9_method_10_code 77 = .ok (.aload_n 0, 1) := by decide +kernel
theorem d_Pa_learnLess_78 : decode prog_9_method_10_code 78 = .ok (.getfield 29, 3) := by decide +kernel
theorem d_Pa_learnLess_81 : decode prog_9_method_10_code 81 = .ok (.iload_n 3, 1) := by decide +kernel
theorem d_Pa_learnLess_82 : decode prog_9_method_10_code 82 = .ok (.iload_n 2, 1) := by decide +kernel
theorem d_Pa_learnLess_83 : decode prog_9_method_10_code 83 = .ok (.lload 4, 2) := by decide +kernel
theorem d_Pa_learnLess_85 : decode prog_9_method_10_code 85 = .ok (.lneg, 1) := by decide +kernel
theorem d_Pa_learnLess_86 : decode prog_9_method_10_code 86 = .ok (.invokevirtual 125, 3) := by decide +kernel
theorem d_Pa_learnLess_89 : decode prog_9_method_10_code 89 = .ok (.ireturn, 1) := by decide +kernel
theorem d_Ch_reasonOfNew_0 : decode prog_3_method_6_code 0 = .ok (.aload_n 1, 1) := by decide +kernel
theorem d_Ch_reasonOfNew_1 : decode prog_3_method_6_code 1 = .ok (.iconst 1, 1) := by decide +kernel
theorem d_Ch_reasonOfNew_2 : decode prog_3_method_6_code 2 = .ok (.invokevirtual 133, 3) := by decide +kernel
theorem d_Ch_reasonOfNew_5 : decode prog_3_method_6_code 5 = .ok (.aload_n 1, 1) := by decide +kernel
theorem d_Ch_reasonOfNew_6 : decode prog_3_method_6_code 6 = .ok (.getfield 141, 3) := by decide +kernel
theorem d_Ch_reasonOfNew_9 : decode prog_3_method_6_code 9 = .ok (.aload_n 1, 1) := by decide +kernel
theorem d_Ch_reasonOfNew_10 : decode prog_3_method_6_code 10 = .ok (.getfield 96, 3) := by decide +kernel
theorem d_Ch_reasonOfNew_13 : decode prog_3_method_6_code 13 = .ok (.iaload, 1) := by decide +kernel
theorem d_Ch_reasonOfNew_14 : decode prog_3_method_6_code 14 = .ok (.istore_n 2, 1) := by decide +kernel
theorem d_Ch_reasonOfNew_15 : decode prog_3_method_6_code 15 = .ok (.aload_n 1, 1) := by decide +kernel
theorem d_Ch_reasonOfNew_16 : decode prog_3_method_6_code 16 = .ok (.getfield 144, 3) := by decide +kernel
theorem d_Ch_reasonOfNew_19 : decode prog_3_method_6_code 19 = .ok (.aload_n 1, 1) := by decide +kernel
theorem d_Ch_reasonOfNew_20 : decode prog_3_method_6_code 20 = .ok (.getfield 96, 3) := by decide +kernel
theorem d_Ch_reasonOfNew_23 : decode prog_3_method_6_code 23 = .ok (.laload, 1) := by decide +kernel
theorem d_Ch_reasonOfNew_24 : decode prog_3_method_6_code 24 = .ok (.lstore_n 3, 1) := by decide +kernel
theorem d_Ch_reasonOfNew_25 : decode prog_3_method_6_code 25 = .ok (.iload_n 2, 1) := by decide +kernel
theorem d_Ch_reasonOfNew_26 : decode prog_3_method_6_code 26 = .ok (.iconst (-1), 1) := by decide +kernel
theorem d_Ch_reasonOfNew_27 : decode prog_3_method_6_code 27 = .ok (.if_icmp .eq 15, 3) := by decide +kernel
theorem d_Ch_reasonOfNew_30 : decode prog_3_method_6_code 30 = .ok (.aload_n 1, 1) := by decide +kernel
theorem d_Ch_reasonOfNew_31 : decode prog_3_method_6_code 31 = .ok (.getfield 59, 3) := by decide +kernel
theorem d_Ch_reasonOfNew_34 : decode prog_3_method_6_code 34 = .ok (.iload_n 2, 1) := by decide +kernel
theorem d_Ch_reasonOfNew_35 : decode prog_3_method_6_code 35 = .ok (.lload_n 3, 1) := by decide +kernel
theorem d_Ch_reasonOfNew_36 : decode prog_3_method_6_code 36 = .ok (.invokevirtual 148, 3) := by decide +kernel
theorem d_Ch_reasonOfNew_39 : decode prog_3_method_6_code 39 = .ok (.ifCond .ne 5, 3) := by decide +kernel
theorem d_Ch_reasonOfNew_42 : decode prog_3_method_6_code 42 = .ok (.iconst 5, 1) := by decide +kernel
theorem d_Ch_reasonOfNew_43 : decode prog_3_method_6_code 43 = .ok (.ireturn, 1) := by decide +kernel
theorem d_Ch_reasonOfNew_44 : decode prog_3_method_6_code 44 = .ok (.aload_n 1, 1) := by decide +kernel
theorem d_Ch_reasonOfNew_45 : decode prog_3_method_6_code 45 = .ok (.getfield 152, 3) := by decide +kernel
theorem d_Ch_reasonOfNew_48 : decode prog_3_method_6_code 48 = .ok (.iconst 1, 1) := by decide +kernel
theorem d_Ch_reasonOfNew_49 : decode prog_3_method_6_code 49 = .ok (.aaload, 1) := by decide +kernel
theorem d_Ch_reasonOfNew_50 : decode prog_3_method_6_code 50 = .ok (.iload_n 2, 1) := by decide +kernel
theorem d_Ch_reasonOfNew_51 : decode prog_3_method_6_code 51 = .ok (.lload_n 3, 1) := by decide +kernel
theorem d_Ch_reasonOfNew_52 : decode prog_3_method_6_code 52 = .ok (.invokevirtual 156, 3) := by decide +kernel
theorem d_Ch_reasonOfNew_55 : decode prog_3_method_6_code 55 = .ok (.iconst 0, 1) := by decide +kernel
theorem d_Ch_reasonOfNew_56 : decode prog_3_method_6_code 56 = .ok (.ireturn, 1) := by decide +kernel
theorem d_Kn_showsNotNegative_0 : decode prog_6_method_8_code 0 = .ok (.lload_n 2, 1) := by decide +kernel
theorem d_Kn_showsNotNegative_1 : decode prog_6_method_8_code 1 = .ok (.aload_n 0, 1) := by decide +kernel
theorem d_Kn_showsNotNegative_2 : decode prog_6_method_8_code 2 = .ok (.iconst 4, 1) := by decide +kernel
theorem d_Kn_showsNotNegative_3 : decode prog_6_method_8_code 3 = .ok (.iload_n 1, 1) := by decide +kernel
theorem d_Kn_showsNotNegative_4 : decode prog_6_method_8_code 4 = .ok (.invokevirtual 23, 3) := by decide +kernel
theorem d_Kn_showsNotNegative_7 : decode prog_6_method_8_code 7 = .ok (.lsub, 1) := by decide +kernel
theorem d_Kn_showsNotNegative_8 : decode prog_6_method_8_code 8 = .ok (.lconst 0, 1) := by decide +kernel
theorem d_Kn_showsNotNegative_9 : decode prog_6_method_8_code 9 = .ok (.lcmp, 1) := by decide +kernel
theorem d_Kn_showsNotNegative_10 : decode prog_6_method_8_code 10 = .ok (.ifCond .lt 7, 3) := by decide +kernel
theorem d_Kn_showsNotNegative_13 : decode prog_6_method_8_code 13 = .ok (.iconst 1, 1) := by decide +kernel
theorem d_Kn_showsNotNegative_14 : decode prog_6_method_8_code 14 = .ok (.goto 4, 3) := by decide +kernel
theorem d_Kn_showsNotNegative_17 : decode prog_6_method_8_code 17 = .ok (.iconst 0, 1) := by decide +kernel
theorem d_Kn_showsNotNegative_18 : decode prog_6_method_8_code 18 = .ok (.ireturn, 1) := by decide +kernel
theorem d_Ba_payWords_0 : decode prog_2_method_6_code 0 = .ok (.aload_n 0, 1) := by decide +kernel
theorem d_Ba_payWords_1 : decode prog_2_method_6_code 1 = .ok (.dup, 1) := by decide +kernel
theorem d_Ba_payWords_2 : decode prog_2_method_6_code 2 = .ok (.getfield 15, 3) := by decide +kernel
theorem d_Ba_payWords_5 : decode prog_2_method_6_code 5 = .ok (.lload_n 2, 1) := by decide +kernel
theorem d_Ba_payWords_6 : decode prog_2_method_6_code 6 = .ok (.ldc2_w 55, 3) := by decide +kernel
theorem d_Ba_payWords_9 : decode prog_2_method_6_code 9 = .ok (.ladd, 1) := by decide +kernel
theorem d_Ba_payWords_10 : decode prog_2_method_6_code 10 = .ok (.lsub, 1) := by decide +kernel
theorem d_Ba_payWords_11 : decode prog_2_method_6_code 11 = .ok (.putfield 15, 3) := by decide +kernel
theorem d_Ba_payWords_14 : decode prog_2_method_6_code 14 = .ok (.aload_n 0, 1) := by decide +kernel
theorem d_Ba_payWords_15 : decode prog_2_method_6_code 15 = .ok (.ldc2_w 57, 3) := by decide +kernel
theorem d_Ba_payWords_18 : decode prog_2_method_6_code 18 = .ok (.iload_n 1, 1) := by decide +kernel
theorem d_Ba_payWords_19 : decode prog_2_method_6_code 19 = .ok (.iconst 4, 1) := by decide +kernel
theorem d_Ba_payWords_20 : decode prog_2_method_6_code 20 = .ok (.invokevirtual 51, 3) := by decide +kernel
theorem d_Ba_payWords_23 : decode prog_2_method_6_code 23 = .ok (.return_, 1) := by decide +kernel
theorem d_Ch_reasonOfCall_0 : decode prog_3_method_7_code 0 = .ok (.aload_n 1, 1) := by decide +kernel
theorem d_Ch_reasonOfCall_1 : decode prog_3_method_7_code 1 = .ok (.iconst 3, 1) := by decide +kernel
theorem d_Ch_reasonOfCall_2 : decode prog_3_method_7_code 2 = .ok (.invokevirtual 133, 3) := by decide +kernel
theorem d_Ch_reasonOfCall_5 : decode prog_3_method_7_code 5 = .ok (.aload_n 0, 1) := by decide +kernel
theorem d_Ch_reasonOfCall_6 : decode prog_3_method_7_code 6 = .ok (.getfield 20, 3) := by decide +kernel
theorem d_Ch_reasonOfCall_9 : decode prog_3_method_7_code 9 = .ok (.invokevirtual 162, 3) := by decide +kernel
theorem d_Ch_reasonOfCall_12 : decode prog_3_method_7_code 12 = .ok (.aload_n 0, 1) := by decide +kernel
theorem d_Ch_reasonOfCall_13 : decode prog_3_method_7_code 13 = .ok (.getfield 20, 3) := by decide +kernel
theorem d_Ch_reasonOfCall_16 : decode prog_3_method_7_code 16 = .ok (.iconst 3, 1) := by decide +kernel
theorem d_Ch_reasonOfCall_17 : decode prog_3_method_7_code 17 = .ok (.iconst 4, 1) := by decide +kernel
theorem d_Ch_reasonOfCall_18 : decode prog_3_method_7_code 18 = .ok (.lconst 0, 1) := by decide +kernel
theorem d_Ch_reasonOfCall_19 : decode prog_3_method_7_code 19 = .ok (.invokevirtual 165, 3) := by decide +kernel
theorem d_Ch_reasonOfCall_22 : decode prog_3_method_7_code 22 = .ok (.iconst 0, 1) := by decide +kernel
theorem d_Ch_reasonOfCall_23 : decode prog_3_method_7_code 23 = .ok (.istore_n 3, 1) := by decide +kernel
theorem d_Ch_reasonOfCall_24 : decode prog_3_method_7_code 24 = .ok (.iload_n 3, 1) := by decide +kernel
theorem d_Ch_reasonOfCall_25 : decode prog_3_method_7_code 25 = .ok (.iconst 3, 1) := by decide +kernel
theorem d_Ch_reasonOfCall_26 : decode prog_3_method_7_code 26 = .ok (.if_icmp .ge 39, 3) := by decide +kernel
theorem d_Ch_reasonOfCall_29 : decode prog_3_method_7_code 29 = .ok (.aload_n 0, 1) := by decide +kernel
theorem d_Ch_reasonOfCall_30 : decode prog_3_method_7_code 30 = .ok (.getfield 20, 3) := by decide +kernel
theorem d_Ch_reasonOfCall_33 : decode prog_3_method_7_code 33 = .ok (.iload_n 3, 1) := by decide +kernel
theorem d_Ch_reasonOfCall_34 : decode prog_3_method_7_code 34 = .ok (.aload_n 1, 1) := by decide +kernel
theorem d_Ch_reasonOfCall_35 : decode prog_3_method_7_code 35 = .ok (.getfield 141, 3) := by decide +kernel
theorem d_Ch_reasonOfCall_38 : decode prog_3_method_7_code 38 = .ok (.aload_n 1, 1) := by decide +kernel
theorem d_Ch_reasonOfCall_39 : decode prog_3_method_7_code 39 = .ok (.getfield 96, 3) := by decide +kernel
theorem d_Ch_reasonOfCall_42 : decode prog_3_method_7_code 42 = .ok (.iload_n 3, 1) := by decide +kernel
theorem d_Ch_reasonOfCall_43 : decode prog_3_method_7_code 43 = .ok (.iadd, 1) := by decide +kernel
theorem d_Ch_reasonOfCall_44 : decode prog_3_method_7_code 44 = .ok (.iaload, 1) := by decide +kernel
theorem d_Ch_reasonOfCall_45 : decode prog_3_method_7_code 45 = .ok (.aload_n 1, 1) := by decide +kernel
theorem d_Ch_reasonOfCall_46 : decode prog_3_method_7_code 46 = .ok (.getfield 144, 3) := by decide +kernel
theorem d_Ch_reasonOfCall_49 : decode prog_3_method_7_code 49 = .ok (.aload_n 1, 1) := by decide +kernel
theorem d_Ch_reasonOfCall_50 : decode prog_3_method_7_code 50 = .ok (.getfield 96, 3) := by decide +kernel
theorem d_Ch_reasonOfCall_53 : decode prog_3_method_7_code 53 = .ok (.iload_n 3, 1) := by decide +kernel
theorem d_Ch_reasonOfCall_54 : decode prog_3_method_7_code 54 = .ok (.iadd, 1) := by decide +kernel
theorem d_Ch_reasonOfCall_55 : decode prog_3_method_7_code 55 = .ok (.laload, 1) := by decide +kernel
theorem d_Ch_reasonOfCall_56 : decode prog_3_method_7_code 56 = .ok (.invokevirtual 165, 3) := by decide +kernel
theorem d_Ch_reasonOfCall_59 : decode prog_3_method_7_code 59 = .ok (.iinc 3 1, 3) := by decide +kernel
theorem d_Ch_reasonOfCall_62 : decode prog_3_method_7_code 62 = .ok (.goto (-38), 3) := by decide +kernel
theorem d_Ch_reasonOfCall_65 : decode prog_3_method_7_code 65 = .ok (.aload_n 2, 1) := by decide +kernel
theorem d_Ch_reasonOfCall_66 : decode prog_3_method_7_code 66 = .ok (.getfield 42, 3) := by decide +kernel
theorem d_Ch_reasonOfCall_69 : decode prog_3_method_7_code 69 = .ok (.iconst 0, 1) := by decide +kernel
theorem d_Ch_reasonOfCall_70 : decode prog_3_method_7_code 70 = .ok (.aaload, 1) := by decide +kernel
theorem d_Ch_reasonOfCall_71 : decode prog_3_method_7_code 71 = .ok (.astore_n 3, 1) := by decide +kernel
theorem d_Ch_reasonOfCall_72 : decode prog_3_method_7_code 72 = .ok (.aload_n 2, 1) := by decide +kernel
theorem d_Ch_reasonOfCall_73 : decode prog_3_method_7_code 73 = .ok (.getfield 169, 3) := by decide +kernel
theorem d_Ch_reasonOfCall_76 : decode prog_3_method_7_code 76 = .ok (.ifCond .eq 18, 3) := by decide +kernel
theorem d_Ch_reasonOfCall_79 : decode prog_3_method_7_code 79 = .ok (.aload_n 1, 1) := by decide +kernel
theorem d_Ch_reasonOfCall_80 : decode prog_3_method_7_code 80 = .ok (.getfield 59, 3) := by decide +kernel
theorem d_Ch_reasonOfCall_83 : decode prog_3_method_7_code 83 = .ok (.aload_n 3, 1) := by decide +kernel
theorem d_Ch_reasonOfCall_84 : decode prog_3_method_7_code 84 = .ok (.aload_n 0, 1) := by decide +kernel
theorem d_Ch_reasonOfCall_85 : decode prog_3_method_7_code 85 = .ok (.getfield 20, 3) := by decide +kernel
theorem d_Ch_reasonOfCall_88 : decode prog_3_method_7_code 88 = .ok (.invokevirtual 173, 3) := by decide +kernel
theorem d_Ch_reasonOfCall_91 : decode prog_3_method_7_code 91 = .ok (.ifCond .ne 6, 3) := by decide +kernel
theorem d_Ch_reasonOfCall_94 : decode prog_3_method_7_code 94 = .ok (.bipush 6, 2) := by decide +kernel
theorem d_Ch_reasonOfCall_96 : decode prog_3_method_7_code 96 = .ok (.ireturn, 1) := by decide +kernel
theorem d_Ch_reasonOfCall_97 : decode prog_3_method_7_code 97 = .ok (.iconst 0, 1) := by decide +kernel
theorem d_Ch_reasonOfCall_98 : decode prog_3_method_7_code 98 = .ok (.istore 4, 2) := by decide +kernel
theorem d_Ch_reasonOfCall_100 : decode prog_3_method_7_code 100 = .ok (.iload 4, 2) := by decide +kernel
theorem d_Ch_reasonOfCall_102 : decode prog_3_method_7_code 102 = .ok (.iconst 2, 1) := by decide +kernel
theorem d_Ch_reasonOfCall_103 : decode prog_3_method_7_code 103 = .ok (.if_icmp .ge 51, 3) := by decide +kernel
theorem d_Ch_reasonOfCall_106 : decode prog_3_method_7_code 106 = .ok (.aload_n 3, 1) := by decide +kernel
theorem d_Ch_reasonOfCall_107 : decode prog_3_method_7_code 107 = .ok (.getfield 63, 3) := by decide +kernel
theorem d_Ch_reasonOfCall_110 : decode prog_3_method_7_code 110 = .ok (.iload 4, 2) := by decide +kernel
theorem d_Ch_reasonOfCall_112 : decode prog_3_method_7_code 112 = .ok (.aaload, 1) := by decide +kernel
theorem d_Ch_reasonOfCall_113 : decode prog_3_method_7_code 113 = .ok (.aload_n 0, 1) := by decide +kernel
theorem d_Ch_reasonOfCall_114 : decode prog_3_method_7_code 114 = .ok (.getfield 20, 3) := by decide +kernel
theorem d_Ch_reasonOfCall_117 : decode prog_3_method_7_code 117 = .ok (.invokevirtual 177, 3) := by decide +kernel
theorem d_Ch_reasonOfCall_120 : decode prog_3_method_7_code 120 = .ok (.ifCond .eq 6, 3) := by decide +kernel
theorem d_Ch_reasonOfCall_123 : decode prog_3_method_7_code 123 = .ok (.bipush 6, 2) := by decide +kernel
theorem d_Ch_reasonOfCall_125 : decode prog_3_method_7_code 125 = .ok (.ireturn, 1) := by decide +kernel
theorem d_Ch_reasonOfCall_126 : decode prog_3_method_7_code 126 = .ok (.aload_n 1, 1) := by decide +kernel
theorem d_Ch_reasonOfCall_127 : decode prog_3_method_7_code 127 = .ok (.getfield 152, 3) := by decide +kernel
theorem d_Ch_reasonOfCall_130 : decode prog_3_method_7_code 130 = .ok (.iload 4, 2) := by decide +kernel
theorem d_Ch_reasonOfCall_132 : decode prog_3_method_7_code 132 = .ok (.aaload, 1) := by decide +kernel
theorem d_Ch_reasonOfCall_133 : decode prog_3_method_7_code 133 = .ok (.iconst (-1), 1) := by decide +kernel
theorem d_Ch_reasonOfCall_134 : decode prog_3_method_7_code 134 = .ok (.aload_n 3, 1) := by decide +kernel
theorem d_Ch_reasonOfCall_135 : decode prog_3_method_7_code 135 = .ok (.getfield 63, 3) := by decide +kernel
theorem d_Ch_reasonOfCall_138 : decode prog_3_method_7_code 138 = .ok (.iload 4, 2) := by decide +kernel
theorem d_Ch_reasonOfCall_140 : decode prog_3_method_7_code 140 = .ok (.aaload, 1) := by decide +kernel
theorem d_Ch_reasonOfCall_141 : decode prog_3_method_7_code 141 = .ok (.aload_n 0, 1) := by decide +kernel
theorem d_Ch_reasonOfCall_142 : decode prog_3_method_7_code 142 = .ok (.getfield 20, 3) := by decide +kernel
theorem d_Ch_reasonOfCall_145 : decode prog_3_method_7_code 145 = .ok (.invokevirtual 183, 3) := by decide +kernel
theorem d_Ch_reasonOfCall_148 : decode prog_3_method_7_code 148 = .ok (.iinc 4 1, 3) := by decide +kernel
theorem d_Ch_reasonOfCall_151 : decode prog_3_method_7_code 151 = .ok (.goto (-51), 3) := by decide +kernel
theorem d_Ch_reasonOfCall_154 : decode prog_3_method_7_code 154 = .ok (.aload_n 1, 1) := by decide +kernel
theorem d_Ch_reasonOfCall_155 : decode prog_3_method_7_code 155 = .ok (.iconst (-1), 1) := by decide +kernel
theorem d_Ch_reasonOfCall_156 : decode prog_3_method_7_code 156 = .ok (.lconst 0, 1) := by decide +kernel
theorem d_Ch_reasonOfCall_157 : decode prog_3_method_7_code 157 = .ok (.invokevirtual 187, 3) := by decide +kernel
theorem d_Ch_reasonOfCall_160 : decode prog_3_method_7_code 160 = .ok (.iconst 0, 1) := by decide +kernel
theorem d_Ch_reasonOfCall_161 : decode prog_3_method_7_code 161 = .ok (.ireturn, 1) := by decide +kernel
theorem d_Pa_push_0 : decode prog_9_method_5_code 0 = .ok (.aload_n 0, 1) := by decide +kernel
theorem d_Pa_push_1 : decode prog_9_method_5_code 1 = .ok (.getfield 50, 3) := by decide +kernel
theorem d_Pa_push_4 : decode prog_9_method_5_code 4 = .ok (.bipush 6, 2) := by decide +kernel
theorem d_Pa_push_6 : decode prog_9_method_5_code 6 = .ok (.if_icmp .ge 33, 3) := by decide +kernel
theorem d_Pa_push_9 : decode prog_9_method_5_code 9 = .ok (.aload_n 0, 1) := by decide +kernel
theorem d_Pa_push_10 : decode prog_9_method_5_code 10 = .ok (.getfield 18, 3) := by decide +kernel
theorem d_Pa_push_13 : decode prog_9_method_5_code 13 = .ok (.aload_n 0, 1) := by decide +kernel
theorem d_Pa_push_14 : decode prog_9_method_5_code 14 = .ok (.getfield 50, 3) := by decide +kernel
theorem d_Pa_push_17 : decode prog_9_method_5_code 17 = .ok (.iload_n 1, 1) := by decide +kernel
theorem d_Pa_push_18 : decode prog_9_method_5_code 18 = .ok (.iastore, 1) := by decide +kernel
theorem d_Pa_push_19 : decode prog_9_method_5_code 19 = .ok (.aload_n 0, 1) := by decide +kernel
theorem d_Pa_push_20 : decode prog_9_method_5_code 20 = .ok (.getfield 22, 3) := by decide +kernel
theorem d_Pa_push_23 : decode prog_9_method_5_code 23 = .ok (.aload_n 0, 1) := by decide +kernel
theorem d_Pa_push_24 : decode prog_9_method_5_code 24 = .ok (.getfield 50, 3) := by decide +kernel
theorem d_Pa_push_27 : decode prog_9_method_5_code 27 = .ok (.lload_n 2, 1) := by decide +kernel
theorem d_Pa_push_28 : decode prog_9_method_5_code 28 = .ok (.lastore, 1) := by decide +kernel
theorem d_Pa_push_29 : decode prog_9_method_5_code 29 = .ok (.aload_n 0, 1) := by decide +kernel
theorem d_Pa_push_30 : decode prog_9_method_5_code 30 = .ok (.dup, 1) := by decide +kernel
theorem d_Pa_push_31 : decode prog_9_method_5_code 31 = .ok (.getfield 50, 3) := by decide +kernel
theorem d_Pa_push_34 : decode prog_9_method_5_code 34 = .ok (.iconst 1, 1) := by decide +kernel
theorem d_Pa_push_35 : decode prog_9_method_5_code 35 = .ok (.iadd, 1) := by decide +kernel
theorem d_Pa_push_36 : decode prog_9_method_5_code 36 = .ok (.putfield 50, 3) := by decide +kernel
theorem d_Pa_push_39 : decode prog_9_method_5_code 39 = .ok (.return_, 1) := by decide +kernel
theorem d_Pa_performPlain_0 : decode prog_9_method_7_code 0 = .ok (.iload_n 1, 1) := by decide +kernel
theorem d_Pa_performPlain_1 : decode prog_9_method_7_code 1 = .ok (.tableswitch 259 0 14 #[75, 85, 110, 144, 176, 208, 225, 242, 259, 259, 259, 259, 259, 250, 259], 75) := by decide +kernel
theorem d_Pa_performPlain_76 : decode prog_9_method_7_code 76 = .ok (.aload_n 0, 1) := by decide +kernel
theorem d_Pa_performPlain_77 : decode prog_9_method_7_code 77 = .ok (.iconst 4, 1) := by decide +kernel
theorem d_Pa_performPlain_78 : decode prog_9_method_7_code 78 = .ok (.iload_n 2, 1) := by decide +kernel
theorem d_Pa_performPlain_79 : decode prog_9_method_7_code 79 = .ok (.i2l, 1) := by decide +kernel
theorem d_Pa_performPlain_80 : decode prog_9_method_7_code 80 = .ok (.invokevirtual 100, 3) := by decide +kernel
theorem d_Pa_performPlain_83 : decode prog_9_method_7_code 83 = .ok (.goto 182, 3) := by decide +kernel
theorem d_Pa_performPlain_86 : decode prog_9_method_7_code 86 = .ok (.aload_n 0, 1) := by decide +kernel
theorem d_Pa_performPlain_87 : decode prog_9_method_7_code 87 = .ok (.aload_n 0, 1) := by decide +kernel
theorem d_Pa_performPlain_88 : decode prog_9_method_7_code 88 = .ok (.getfield 12, 3) := by decide +kernel
theorem d_Pa_performPlain_91 : decode prog_9_method_7_code 91 = .ok (.getfield 104, 3) := by decide +kernel
theorem d_Pa_performPlain_94 : decode prog_9_method_7_code 94 = .ok (.iload_n 2, 1) := by decide +kernel
theorem d_Pa_performPlain_95 : decode prog_9_method_7_code 95 = .ok (.iaload, 1) := by decide +kernel
theorem d_Pa_performPlain_96 : decode prog_9_method_7_code 96 = .ok (.aload_n 0, 1) := by decide +kernel
theorem d_Pa_performPlain_97 : decode prog_9_method_7_code 97 = .ok (.getfield 12, 3) := by decide +kernel
theorem d_Pa_performPlain_100 : decode prog_9_method_7_code 100 = .ok (.getfield 107, 3) := by decide +kernel
theorem d_Pa_performPlain_103 : decode prog_9_method_7_code 103 = .ok (.iload_n 2, 1) := by decide +kernel
theorem d_Pa_performPlain_104 : decode prog_9_method_7_code 104 = .ok (.laload, 1) := by decide +kernel
theorem d_Pa_performPlain_105 : decode prog_9_method_7_code 105 = .ok (.invokevirtual 100, 3) := by decide +kernel
theorem d_Pa_performPlain_108 : decode prog_9_method_7_code 108 = .ok (.goto 157, 3) := by decide +kernel
theorem d_Pa_performPlain_111 : decode prog_9_method_7_code 111 = .ok (.aload_n 0, 1) := by decide +kernel
theorem d_Pa_performPlain_112 : decode prog_9_method_7_code 112 = .ok (.iconst 1, 1) := by decide +kernel
theorem d_Pa_performPlain_113 : decode prog_9_method_7_code 113 = .ok (.invokevirtual 110, 3) := by decide +kernel
theorem d_Pa_performPlain_116 : decode prog_9_method_7_code 116 = .ok (.aload_n 0, 1) := by decide +kernel
theorem d_Pa_performPlain_117 : decode prog_9_method_7_code 117 = .ok (.getfield 12, 3) := by decide +kernel
theorem d_Pa_performPlain_120 : decode prog_9_method_7_code 120 = .ok (.iload_n 2, 1) := by decide +kernel
theorem d_Pa_performPlain_121 : decode prog_9_method_7_code 121 = .ok (.aload_n 0, 1) := by decide +kernel
theorem d_Pa_performPlain_122 : decode prog_9_method_7_code 122 = .ok (.getfield 18, 3) := by decide +kernel
theorem d_Pa_performPlain_125 : decode prog_9_method_7_code 125 = .ok (.aload_n 0, 1) := by decide +kernel
theorem d_Pa_performPlain_126 : decode prog_9_method_7_code 126 = .ok (.getfield 50, 3) := by decide +kernel
theorem d_Pa_performPlain_129 : decode prog_9_method_7_code 129 = .ok (.iaload, 1) := by decide +kernel
theorem d_Pa_performPlain_130 : decode prog_9_method_7_code 130 = .ok (.aload_n 0, 1) := by decide +kernel
theorem d_Pa_performPlain_131 : decode prog_9_method_7_code 131 = .ok (.getfield 22, 3) := by decide +kernel
theorem d_Pa_performPlain_134 : decode prog_9_method_7_code 134 = .ok (.aload_n 0, 1) := by decide +kernel
theorem d_Pa_performPlain_135 : decode prog_9_method_7_code 135 = .ok (.getfield 50, 3) := by decide +kernel
theorem d_Pa_performPlain_138 : decode prog_9_method_7_code 138 = .ok (.laload, 1) := by decide +kernel
theorem d_Pa_performPlain_139 : decode prog_9_method_7_code 139 = .ok (.invokevirtual 114, 3) := by decide +kernel
theorem d_Pa_performPlain_142 : decode prog_9_method_7_code 142 = .ok (.goto 123, 3) := by decide +kernel
theorem d_Pa_performPlain_145 : decode prog_9_method_7_code 145 = .ok (.aload_n 0, 1) := by decide +kernel
theorem d_Pa_performPlain_146 : decode prog_9_method_7_code 146 = .ok (.iconst 2, 1) := by decide +kernel
theorem d_Pa_performPlain_147 : decode prog_9_method_7_code 147 = .ok (.invokevirtual 110, 3) := by decide +kernel
theorem d_Pa_performPlain_150 : decode prog_9_method_7_code 150 = .ok (.aload_n 0, 1) := by decide +kernel
theorem d_Pa_performPlain_151 : decode prog_9_method_7_code 151 = .ok (.aload_n 0, 1) := by decide +kernel
theorem d_Pa_performPlain_152 : decode prog_9_method_7_code 152 = .ok (.getfield 18, 3) := by decide +kernel
theorem d_Pa_performPlain_155 : decode prog_9_method_7_code 155 = .ok (.aload_n 0, 1) := by decide +kernel
theorem d_Pa_performPlain_156 : decode prog_9_method_7_code 156 = .ok (.getfield 50, 3) := by decide +kernel
theorem d_Pa_performPlain_159 : decode prog_9_method_7_code 159 = .ok (.iaload, 1) := by decide +kernel
theorem d_Pa_performPlain_160 : decode prog_9_method_7_code 160 = .ok (.aload_n 0, 1) := by decide +kernel
theorem d_Pa_performPlain_161 : decode prog_9_method_7_code 161 = .ok (.getfield 18, 3) := by decide +kernel
theorem d_Pa_performPlain_164 : decode prog_9_method_7_code 164 = .ok (.aload_n 0, 1) := by decide +kernel
theorem d_Pa_performPlain_165 : decode prog_9_method_7_code 165 = .ok (.getfield 50, 3) := by decide +kernel
theorem d_Pa_performPlain_168 : decode prog_9_method_7_code 168 = .ok (.iconst 1, 1) := by decide +kernel
theorem d_Pa_performPlain_169 : decode prog_9_method_7_code 169 = .ok (.iadd, 1) := by decide +kernel
theorem d_Pa_performPlain_170 : decode prog_9_method_7_code 170 = .ok (.iaload, 1) := by decide +kernel
theorem d_Pa_performPlain_171 : decode prog_9_method_7_code 171 = .ok (.invokevirtual 118, 3) := by decide +kernel
theorem d_Pa_performPlain_174 : decode prog_9_method_7_code 174 = .ok (.goto 91, 3) := by decide +kernel
theorem d_Pa_performPlain_177 : decode prog_9_method_7_code 177 = .ok (.aload_n 0, 1) := by decide +kernel
theorem d_Pa_performPlain_178 : decode prog_9_method_7_code 178 = .ok (.iconst 2, 1) := by decide +kernel
theorem d_Pa_performPlain_179 : decode prog_9_method_7_code 179 = .ok (.invokevirtual 110, 3) := by decide +kernel
theorem d_Pa_performPlain_182 : decode prog_9_method_7_code 182 = .ok (.aload_n 0, 1) := by decide +kernel
theorem d_Pa_performPlain_183 : decode prog_9_method_7_code 183 = .ok (.aload_n 0, 1) := by decide +kernel
theorem d_Pa_performPlain_184 : decode prog_9_method_7_code 184 = .ok (.getfield 18, 3) := by decide +kernel
theorem d_Pa_performPlain_187 : decode prog_9_method_7_code 187 = .ok (.aload_n 0, 1) := by decide +kernel
theorem d_Pa_performPlain_188 : decode prog_9_method_7_code 188 = .ok (.getfield 50, 3) := by decide +kernel
theorem d_Pa_performPlain_191 : decode prog_9_method_7_code 191 = .ok (.iaload, 1) := by decide +kernel
theorem d_Pa_performPlain_192 : decode prog_9_method_7_code 192 = .ok (.aload_n 0, 1) := by decide +kernel
theorem d_Pa_performPlain_193 : decode prog_9_method_7_code 193 = .ok (.getfield 18, 3) := by decide +kernel
theorem d_Pa_performPlain_196 : decode prog_9_method_7_code 196 = .ok (.aload_n 0, 1) := by decide +kernel
theorem d_Pa_performPlain_197 : decode prog_9_method_7_code 197 = .ok (.getfield 50, 3) := by decide +kernel
theorem d_Pa_performPlain_200 : decode prog_9_method_7_code 200 = .ok (.iconst 1, 1) := by decide +kernel
theorem d_Pa_performPlain_201 : decode prog_9_method_7_code 201 = .ok (.iadd, 1) := by decide +kernel
theorem d_Pa_performPlain_202 : decode prog_9_method_7_code 202 = .ok (.iaload, 1) := by decide +kernel
theorem d_Pa_performPlain_203 : decode prog_9_method_7_code 203 = .ok (.invokevirtual 122, 3) := by decide +kernel
theorem d_Pa_performPlain_206 : decode prog_9_method_7_code 206 = .ok (.goto 59, 3) := by decide +kernel
theorem d_Pa_performPlain_209 : decode prog_9_method_7_code 209 = .ok (.aload_n 0, 1) := by decide +kernel
theorem d_Pa_performPlain_210 : decode prog_9_method_7_code 210 = .ok (.getfield 12, 3) := by decide +kernel
theorem d_Pa_performPlain_213 : decode prog_9_method_7_code 213 = .ok (.getfield 107, 3) := by decide +kernel
theorem d_Pa_performPlain_216 : decode prog_9_method_7_code 216 = .ok (.iconst 0, 1) := by decide +kernel
theorem d_Pa_performPlain_217 : decode prog_9_method_7_code 217 = .ok (.dup2, 1) := by decide +kernel
theorem d_Pa_performPlain_218 : decode prog_9_method_7_code 218 = .ok (.laload, 1) := by decide +kernel
theorem d_Pa_performPlain_219 : decode prog_9_method_7_code 219 = .ok (.iload_n 2, 1) := by decide +kernel
theorem d_Pa_performPlain_220 : decode prog_9_method_7_code 220 = .ok (.i2l, 1) := by decide +kernel
theorem d_Pa_performPlain_221 : decode prog_9_method_7_code 221 = .ok (.ladd, 1) := by decide +kernel
theorem d_Pa_performPlain_222 : decode prog_9_method_7_code 222 = .ok (.lastore, 1) := by decide +kernel
theorem d_Pa_performPlain_223 : decode prog_9_method_7_code 223 = .ok (.goto 42, 3) := by decide +kernel
theorem d_Pa_performPlain_226 : decode prog_9_method_7_code 226 = .ok (.aload_n 0, 1) := by decide +kernel
theorem d_Pa_performPlain_227 : decode prog_9_method_7_code 227 = .ok (.getfield 12, 3) := by decide +kernel
theorem d_Pa_performPlain_230 : decode prog_9_method_7_code 230 = .ok (.getfield 107, 3) := by decide +kernel
theorem d_Pa_performPlain_233 : decode prog_9_method_7_code 233 = .ok (.iconst 1, 1) := by decide +kernel
theorem d_Pa_performPlain_234 : decode prog_9_method_7_code 234 = .ok (.dup2, 1) := by decide +kernel
theorem d_Pa_performPlain_235 : decode prog_9_method_7_code 235 = .ok (.laload, 1) := by decide +kernel
theorem d_Pa_performPlain_236 : decode prog_9_method_7_code 236 = .ok (.iload_n 2, 1) := by decide +kernel
theorem d_Pa_performPlain_237 : decode prog_9_method_7_code 237 = .ok (.i2l, 1) := by decide +kernel
theorem d_Pa_performPlain_238 : decode prog_9_method_7_code 238 = .ok (.ladd, 1) := by decide +kernel
theorem d_Pa_performPlain_239 : decode prog_9_method_7_code 239 = .ok (.lastore, 1) := by decide +kernel
theorem d_Pa_performPlain_240 : decode prog_9_method_7_code 240 = .ok (.goto 25, 3) := by decide +kernel
theorem d_Pa_performPlain_243 : decode prog_9_method_7_code 243 = .ok (.aload_n 0, 1) := by decide +kernel
theorem d_Pa_performPlain_244 : decode prog_9_method_7_code 244 = .ok (.iload_n 2, 1) := by decide +kernel
theorem d_Pa_performPlain_245 : decode prog_9_method_7_code 245 = .ok (.putfield 46, 3) := by decide +kernel
theorem d_Pa_performPlain_248 : decode prog_9_method_7_code 248 = .ok (.goto 17, 3) := by decide +kernel
theorem d_Pa_performPlain_251 : decode prog_9_method_7_code 251 = .ok (.aload_n 0, 1) := by decide +kernel
theorem d_Pa_performPlain_252 : decode prog_9_method_7_code 252 = .ok (.iconst (-1), 1) := by decide +kernel
theorem d_Pa_performPlain_253 : decode prog_9_method_7_code 253 = .ok (.lconst 0, 1) := by decide +kernel
theorem d_Pa_performPlain_254 : decode prog_9_method_7_code 254 = .ok (.invokevirtual 100, 3) := by decide +kernel
theorem d_Pa_performPlain_257 : decode prog_9_method_7_code 257 = .ok (.goto 8, 3) := by decide +kernel
theorem d_Pa_performPlain_260 : decode prog_9_method_7_code 260 = .ok (.aload_n 0, 1) := by decide +kernel
theorem d_Pa_performPlain_261 : decode prog_9_method_7_code 261 = .ok (.iconst 1, 1) := by decide +kernel
theorem d_Pa_performPlain_262 : decode prog_9_method_7_code 262 = .ok (.invokevirtual 110, 3) := by decide +kernel
theorem d_Pa_performPlain_265 : decode prog_9_method_7_code 265 = .ok (.return_, 1) := by decide +kernel
theorem d_Pa_pushSum_0 : decode prog_9_method_8_code 0 = .ok (.aload_n 0, 1) := by decide +kernel
theorem d_Pa_pushSum_1 : decode prog_9_method_8_code 1 = .ok (.getfield 22, 3) := by decide +kernel
theorem d_Pa_pushSum_4 : decode prog_9_method_8_code 4 = .ok (.aload_n 0, 1) := by decide +kernel
theorem d_Pa_pushSum_5 : decode prog_9_method_8_code 5 = .ok (.getfield 50, 3) := by decide +kernel
theorem d_Pa_pushSum_8 : decode prog_9_method_8_code 8 = .ok (.laload, 1) := by decide +kernel
theorem d_Pa_pushSum_9 : decode prog_9_method_8_code 9 = .ok (.aload_n 0, 1) := by decide +kernel
theorem d_Pa_pushSum_10 : decode prog_9_method_8_code 10 = .ok (.getfield 22, 3) := by decide +kernel
theorem d_Pa_pushSum_13 : decode prog_9_method_8_code 13 = .ok (.aload_n 0, 1) := by decide +kernel
theorem d_Pa_pushSum_14 : decode prog_9_method_8_code 14 = .ok (.getfield 50, 3) := by decide +kernel
theorem d_Pa_pushSum_17 : decode prog_9_method_8_code 17 = .ok (.iconst 1, 1) := by decide +kernel
theorem d_Pa_pushSum_18 : decode prog_9_method_8_code 18 = .ok (.iadd, 1) := by decide +kernel
theorem d_Pa_pushSum_19 : decode prog_9_method_8_code 19 = .ok (.laload, 1) := by decide +kernel
theorem d_Pa_pushSum_20 : decode prog_9_method_8_code 20 = .ok (.ladd, 1) := by decide +kernel
theorem d_Pa_pushSum_21 : decode prog_9_method_8_code 21 = .ok (.lstore_n 3, 1) := by decide +kernel
theorem d_Pa_pushSum_22 : decode prog_9_method_8_code 22 = .ok (.iload_n 2, 1) := by decide +kernel
theorem d_Pa_pushSum_23 : decode prog_9_method_8_code 23 = .ok (.iconst 4, 1) := by decide +kernel
theorem d_Pa_pushSum_24 : decode prog_9_method_8_code 24 = .ok (.if_icmp .ne 12, 3) := by decide +kernel
theorem d_Pa_pushSum_27 : decode prog_9_method_8_code 27 = .ok (.aload_n 0, 1) := by decide +kernel
theorem d_Pa_pushSum_28 : decode prog_9_method_8_code 28 = .ok (.iload_n 1, 1) := by decide +kernel
theorem d_Pa_pushSum_29 : decode prog_9_method_8_code 29 = .ok (.lload_n 3, 1) := by decide +kernel
theorem d_Pa_pushSum_30 : decode prog_9_method_8_code 30 = .ok (.invokevirtual 100, 3) := by decide +kernel
theorem d_Pa_pushSum_33 : decode prog_9_method_8_code 33 = .ok (.goto 18, 3) := by decide +kernel
theorem d_Pa_pushSum_36 : decode prog_9_method_8_code 36 = .ok (.aload_n 0, 1) := by decide +kernel
theorem d_Pa_pushSum_37 : decode prog_9_method_8_code 37 = .ok (.iload_n 1, 1) := by decide +kernel
theorem d_Pa_pushSum_38 : decode prog_9_method_8_code 38 = .ok (.iconst 4, 1) := by decide +kernel
theorem d_Pa_pushSum_39 : decode prog_9_method_8_code 39 = .ok (.if_icmp .ne 7, 3) := by decide +kernel
theorem d_Pa_pushSum_42 : decode prog_9_method_8_code 42 = .ok (.iload_n 2, 1) := by decide +kernel
theorem d_Pa_pushSum_43 : decode prog_9_method_8_code 43 = .ok (.goto 4, 3) := by decide +kernel
theorem d_Pa_pushSum_46 : decode prog_9_method_8_code 46 = .ok (.iconst (-1), 1) := by decide +kernel
theorem d_Pa_pushSum_47 : decode prog_9_method_8_code 47 = .ok (.lload_n 3, 1) := by decide +kernel
theorem d_Pa_pushSum_48 : decode prog_9_method_8_code 48 = .ok (.invokevirtual 100, 3) := by decide +kernel
theorem d_Pa_pushSum_51 : decode prog_9_method_8_code 51 = .ok (.return_, 1) := by decide +kernel
theorem d_Pa_pushDifference_0 : decode prog_9_method_9_code 0 = .ok (.aload_n 0, 1) := by decide +kernel
theorem d_Pa_pushDifference_1 : decode prog_9_method_9_code 1 = .ok (.getfield 22, 3) := by decide +kernel
theorem d_Pa_pushDifference_4 : decode prog_9_method_9_code 4 = .ok (.aload_n 0, 1) := by decide +kernel
theorem d_Pa_pushDifference_5 : decode prog_9_method_9_code 5 = .ok (.getfield 50, 3) := by decide +kernel
theorem d_Pa_pushDifference_8 : decode prog_9_method_9_code 8 = .ok (.laload, 1) := by decide +kernel
theorem d_Pa_pushDifference_9 : decode prog_9_method_9_code 9 = .ok (.aload_n 0, 1) := by decide +kernel
theorem d_Pa_pushDifference_10 : decode prog_9_method_9_code 10 = .ok (.getfield 22, 3) := by decide +kernel
theorem d_Pa_pushDifference_13 : decode prog_9_method_9_code 13 = .ok (.aload_n 0, 1) := by decide +kernel
theorem d_Pa_pushDifference_14 : decode prog_9_method_9_code 14 = .ok (.getfield 50, 3) := by decide +kernel
theorem d_Pa_pushDifference_17 : decode prog_9_method_9_code 17 = .ok (.iconst 1, 1) := by decide +kernel
theorem d_Pa_pushDifference_18 : decode prog_9_method_9_code 18 = .ok (.iadd, 1) := by decide +kernel
theorem d_Pa_pushDifference_19 : decode prog_9_method_9_code 19 = .ok (.laload, 1) := by decide +kernel
theorem d_Pa_pushDifference_20 : decode prog_9_method_9_code 20 = .ok (.lsub, 1) := by decide +kernel
theorem d_Pa_pushDifference_21 : decode prog_9_method_9_code 21 = .ok (.lstore_n 3, 1) := by decide +kernel
theorem d_Pa_pushDifference_22 : decode prog_9_method_9_code 22 = .ok (.iload_n 2, 1) := by decide +kernel
theorem d_Pa_pushDifference_23 : decode prog_9_method_9_code 23 = .ok (.iconst 4, 1) := by decide +kernel
theorem d_Pa_pushDifference_24 : decode prog_9_method_9_code 24 = .ok (.if_icmp .ne 12, 3) := by decide +kernel
theorem d_Pa_pushDifference_27 : decode prog_9_method_9_code 27 = .ok (.aload_n 0, 1) := by decide +kernel
theorem d_Pa_pushDifference_28 : decode prog_9_method_9_code 28 = .ok (.iload_n 1, 1) := by decide +kernel
theorem d_Pa_pushDifference_29 : decode prog_9_method_9_code 29 = .ok (.lload_n 3, 1) := by decide +kernel
theorem d_Pa_pushDifference_30 : decode prog_9_method_9_code 30 = .ok (.invokevirtual 100, 3) := by decide +kernel
theorem d_Pa_pushDifference_33 : decode prog_9_method_9_code 33 = .ok (.goto 23, 3) := by decide +kernel
theorem d_Pa_pushDifference_36 : decode prog_9_method_9_code 36 = .ok (.aload_n 0, 1) := by decide +kernel
theorem d_Pa_pushDifference_37 : decode prog_9_method_9_code 37 = .ok (.iload_n 1, 1) := by decide +kernel
theorem d_Pa_pushDifference_38 : decode prog_9_method_9_code 38 = .ok (.iload_n 2, 1) := by decide +kernel
theorem d_Pa_pushDifference_39 : decode prog_9_method_9_code 39 = .ok (.if_icmp .ne 12, 3) := by decide +kernel
theorem d_Pa_pushDifference_42 : decode prog_9_method_9_code 42 = .ok (.iload_n 1, 1) := by decide +kernel
theorem d_Pa_pushDifference_43 : decode prog_9_method_9_code 43 = .ok (.iconst (-1), 1) := by decide +kernel
theorem d_Pa_pushDifference_44 : decode prog_9_method_9_code 44 = .ok (.if_icmp .eq 7, 3) := by decide +kernel
theorem d_Pa_pushDifference_47 : decode prog_9_method_9_code 47 = .ok (.iconst 4, 1) := by decide +kernel
theorem d_Pa_pushDifference_48 : decode prog_9_method_9_code 48 = .ok (.goto 4, 3) := by decide +kernel
theorem d_Pa_pushDifference_51 : decode prog_9_method_9_code 51 = .ok (.iconst (-1), 1) := by decide +kernel
theorem d_Pa_pushDifference_52 : decode prog_9_method_9_code 52 = .ok (.lload_n 3, 1) := by decide +kernel
theorem d_Pa_pushDifference_53 : decode prog_9_method_9_code 53 = .ok (.invokevirtual 100, 3) := by decide +kernel
theorem d_Pa_pushDifference_56 : decode prog_9_method_9_code 56 = .ok (.return_, 1) := by decide +kernel
theorem d_Ma_addInput_0 : decode prog_7_method_2_code 0 = .ok (.aload_n 0, 1) := by decide +kernel
theorem d_Ma_addInput_1 : decode prog_7_method_2_code 1 = .ok (.getfield 26, 3) := by decide +kernel
theorem d_Ma_addInput_4 : decode prog_7_method_2_code 4 = .ok (.bipush 12, 2) := by decide +kernel
theorem d_Ma_addInput_6 : decode prog_7_method_2_code 6 = .ok (.if_icmp .lt 5, 3) := by decide +kernel
theorem d_Ma_addInput_9 : decode prog_7_method_2_code 9 = .ok (.iconst 0, 1) := by decide +kernel
theorem d_Ma_addInput_10 : decode prog_7_method_2_code 10 = .ok (.ireturn, 1) := by decide +kernel
theorem d_Ma_addInput_11 : decode prog_7_method_2_code 11 = .ok (.aload_n 0, 1) := by decide +kernel
theorem d_Ma_addInput_12 : decode prog_7_method_2_code 12 = .ok (.getfield 17, 3) := by decide +kernel
theorem d_Ma_addInput_15 : decode prog_7_method_2_code 15 = .ok (.aload_n 0, 1) := by decide +kernel
theorem d_Ma_addInput_16 : decode prog_7_method_2_code 16 = .ok (.getfield 26, 3) := by decide +kernel
theorem d_Ma_addInput_19 : decode prog_7_method_2_code 19 = .ok (.iload_n 1, 1) := by decide +kernel
theorem d_Ma_addInput_20 : decode prog_7_method_2_code 20 = .ok (.iastore, 1) := by decide +kernel
theorem d_Ma_addInput_21 : decode prog_7_method_2_code 21 = .ok (.aload_n 0, 1) := by decide +kernel
theorem d_Ma_addInput_22 : decode prog_7_method_2_code 22 = .ok (.dup, 1) := by decide +kernel
theorem d_Ma_addInput_23 : decode prog_7_method_2_code 23 = .ok (.getfield 26, 3) := by decide +kernel
theorem d_Ma_addInput_26 : decode prog_7_method_2_code 26 = .ok (.iconst 1, 1) := by decide +kernel
theorem d_Ma_addInput_27 : decode prog_7_method_2_code 27 = .ok (.iadd, 1) := by decide +kernel
theorem d_Ma_addInput_28 : decode prog_7_method_2_code 28 = .ok (.putfield 26, 3) := by decide +kernel
theorem d_Ma_addInput_31 : decode prog_7_method_2_code 31 = .ok (.iconst 1, 1) := by decide +kernel
theorem d_Ma_addInput_32 : decode prog_7_method_2_code 32 = .ok (.ireturn, 1) := by decide +kernel
theorem d_Ma_runToEnd_0 : decode prog_7_method_3_code 0 = .ok (.aload_n 0, 1) := by decide +kernel
theorem d_Ma_runToEnd_1 : decode prog_7_method_3_code 1 = .ok (.iconst 0, 1) := by decide +kernel
theorem d_Ma_runToEnd_2 : decode prog_7_method_3_code 2 = .ok (.putfield 30, 3) := by decide +kernel
theorem d_Ma_runToEnd_5 : decode prog_7_method_3_code 5 = .ok (.aload_n 0, 1) := by decide +kernel
theorem d_Ma_runToEnd_6 : decode prog_7_method_3_code 6 = .ok (.iconst 0, 1) := by decide +kernel
theorem d_Ma_runToEnd_7 : decode prog_7_method_3_code 7 = .ok (.putfield 33, 3) := by decide +kernel
theorem d_Ma_runToEnd_10 : decode prog_7_method_3_code 10 = .ok (.aload_n 0, 1) := by decide +kernel
theorem d_Ma_runToEnd_11 : decode prog_7_method_3_code 11 = .ok (.iconst 1, 1) := by decide +kernel
theorem d_Ma_runToEnd_12 : decode prog_7_method_3_code 12 = .ok (.putfield 36, 3) := by decide +kernel
theorem d_Ma_runToEnd_15 : decode prog_7_method_3_code 15 = .ok (.aload_n 0, 1) := by decide +kernel
theorem d_Ma_runToEnd_16 : decode prog_7_method_3_code 16 = .ok (.iconst 0, 1) := by decide +kernel
theorem d_Ma_runToEnd_17 : decode prog_7_method_3_code 17 = .ok (.putfield 39, 3) := by decide +kernel
theorem d_Ma_runToEnd_20 : decode prog_7_method_3_code 20 = .ok (.aload_n 0, 1) := by decide +kernel
theorem d_Ma_runToEnd_21 : decode prog_7_method_3_code 21 = .ok (.iconst 0, 1) := by decide +kernel
theorem d_Ma_runToEnd_22 : decode prog_7_method_3_code 22 = .ok (.putfield 42, 3) := by decide +kernel
theorem d_Ma_runToEnd_25 : decode prog_7_method_3_code 25 = .ok (.aload_n 0, 1) := by decide +kernel
theorem d_Ma_runToEnd_26 : decode prog_7_method_3_code 26 = .ok (.iconst 0, 1) := by decide +kernel
theorem d_Ma_runToEnd_27 : decode prog_7_method_3_code 27 = .ok (.putfield 45, 3) := by decide +kernel
theorem d_Ma_runToEnd_30 : decode prog_7_method_3_code 30 = .ok (.aload_n 0, 1) := by decide +kernel
theorem d_Ma_runToEnd_31 : decode prog_7_method_3_code 31 = .ok (.getfield 11, 3) := by decide +kernel
theorem d_Ma_runToEnd_34 : decode prog_7_method_3_code 34 = .ok (.iconst 0, 1) := by decide +kernel
theorem d_Ma_runToEnd_35 : decode prog_7_method_3_code 35 = .ok (.aaload, 1) := by decide +kernel
theorem d_Ma_runToEnd_36 : decode prog_7_method_3_code 36 = .ok (.iload_n 1, 1) := by decide +kernel
theorem d_Ma_runToEnd_37 : decode prog_7_method_3_code 37 = .ok (.iload_n 2, 1) := by decide +kernel
theorem d_Ma_runToEnd_38 : decode prog_7_method_3_code 38 = .ok (.iload_n 3, 1) := by decide +kernel
theorem d_Ma_runToEnd_39 : decode prog_7_method_3_code 39 = .ok (.iload 4, 2) := by decide +kernel
theorem d_Ma_runToEnd_41 : decode prog_7_method_3_code 41 = .ok (.invokevirtual 48, 3) := by decide +kernel
theorem d_Ma_runToEnd_44 : decode prog_7_method_3_code 44 = .ok (.iconst 0, 1) := by decide +kernel
theorem d_Ma_runToEnd_45 : decode prog_7_method_3_code 45 = .ok (.istore 5, 2) := by decide +kernel
theorem d_Ma_runToEnd_47 : decode prog_7_method_3_code 47 = .ok (.iload 5, 2) := by decide +kernel
theorem d_Ma_runToEnd_49 : decode prog_7_method_3_code 49 = .ok (.ifCond .ne 32, 3) := by decide +kernel
theorem d_Ma_runToEnd_52 : decode prog_7_method_3_code 52 = .ok (.aload_n 0, 1) := by decide +kernel
theorem d_Ma_runToEnd_53 : decode prog_7_method_3_code 53 = .ok (.getfield 30, 3) := by decide +kernel
theorem d_Ma_runToEnd_56 : decode prog_7_method_3_code 56 = .ok (.sipush 3000, 3) := by decide +kernel
theorem d_Ma_runToEnd_59 : decode prog_7_method_3_code 59 = .ok (.if_icmp .ge 22, 3) := by decide +kernel
theorem d_Ma_runToEnd_62 : decode prog_7_method_3_code 62 = .ok (.aload_n 0, 1) := by decide +kernel
theorem d_Ma_runToEnd_63 : decode prog_7_method_3_code 63 = .ok (.dup, 1) := by decide +kernel
theorem d_Ma_runToEnd_64 : decode prog_7_method_3_code 64 = .ok (.getfield 30, 3) := by decide +kernel
theorem d_Ma_runToEnd_67 : decode prog_7_method_3_code 67 = .ok (.iconst 1, 1) := by decide +kernel
theorem d_Ma_runToEnd_68 : decode prog_7_method_3_code 68 = .ok (.iadd, 1) := by decide +kernel
theorem d_Ma_runToEnd_69 : decode prog_7_method_3_code 69 = .ok (.putfield 30, 3) := by decide +kernel
theorem d_Ma_runToEnd_72 : decode prog_7_method_3_code 72 = .ok (.aload_n 0, 1) := by decide +kernel
theorem d_Ma_runToEnd_73 : decode prog_7_method_3_code 73 = .ok (.invokevirtual 52, 3) := by decide +kernel
theorem d_Ma_runToEnd_76 : decode prog_7_method_3_code 76 = .ok (.istore 5, 2) := by decide +kernel
theorem d_Ma_runToEnd_78 : decode prog_7_method_3_code 78 = .ok (.goto (-31), 3) := by decide +kernel
theorem d_Ma_runToEnd_81 : decode prog_7_method_3_code 81 = .ok (.aload_n 0, 1) := by decide +kernel
theorem d_Ma_runToEnd_82 : decode prog_7_method_3_code 82 = .ok (.iconst 0, 1) := by decide +kernel
theorem d_Ma_runToEnd_83 : decode prog_7_method_3_code 83 = .ok (.putfield 26, 3) := by decide +kernel
theorem d_Ma_runToEnd_86 : decode prog_7_method_3_code 86 = .ok (.iload 5, 2) := by decide +kernel
theorem d_Ma_runToEnd_88 : decode prog_7_method_3_code 88 = .ok (.ifCond .ne 7, 3) := by decide +kernel
theorem d_Ma_runToEnd_91 : decode prog_7_method_3_code 91 = .ok (.iconst 4, 1) := by decide +kernel
theorem d_Ma_runToEnd_92 : decode prog_7_method_3_code 92 = .ok (.goto 5, 3) := by decide +kernel
theorem d_Ma_runToEnd_95 : decode prog_7_method_3_code 95 = .ok (.iload 5, 2) := by decide +kernel
theorem d_Ma_runToEnd_97 : decode prog_7_method_3_code 97 = .ok (.ireturn, 1) := by decide +kernel
theorem d_Ma_step_0 : decode prog_7_method_4_code 0 = .ok (.aload_n 0, 1) := by decide +kernel
theorem d_Ma_step_1 : decode prog_7_method_4_code 1 = .ok (.getfield 11, 3) := by decide +kernel
theorem d_Ma_step_4 : decode prog_7_method_4_code 4 = .ok (.aload_n 0, 1) := by decide +kernel
theorem d_Ma_step_5 : decode prog_7_method_4_code 5 = .ok (.getfield 45, 3) := by decide +kernel
theorem d_Ma_step_8 : decode prog_7_method_4_code 8 = .ok (.aaload, 1) := by decide +kernel
theorem d_Ma_step_9 : decode prog_7_method_4_code 9 = .ok (.astore_n 1, 1) := by decide +kernel
theorem d_Ma_step_10 : decode prog_7_method_4_code 10 = .ok (.aload_n 0, 1) := by decide +kernel
theorem d_Ma_step_11 : decode prog_7_method_4_code 11 = .ok (.getfield 21, 3) := by decide +kernel
theorem d_Ma_step_14 : decode prog_7_method_4_code 14 = .ok (.aload_n 1, 1) := by decide +kernel
theorem d_Ma_step_15 : decode prog_7_method_4_code 15 = .ok (.getfield 56, 3) := by decide +kernel
theorem d_Ma_step_18 : decode prog_7_method_4_code 18 = .ok (.aaload, 1) := by decide +kernel
theorem d_Ma_step_19 : decode prog_7_method_4_code 19 = .ok (.astore_n 2, 1) := by decide +kernel
theorem d_Ma_step_20 : decode prog_7_method_4_code 20 = .ok (.aload_n 1, 1) := by decide +kernel
theorem d_Ma_step_21 : decode prog_7_method_4_code 21 = .ok (.getfield 59, 3) := by decide +kernel
theorem d_Ma_step_24 : decode prog_7_method_4_code 24 = .ok (.istore_n 3, 1) := by decide +kernel
theorem d_Ma_step_25 : decode prog_7_method_4_code 25 = .ok (.aload_n 0, 1) := by decide +kernel
theorem d_Ma_step_26 : decode prog_7_method_4_code 26 = .ok (.getfield 21, 3) := by decide +kernel
theorem d_Ma_step_29 : decode prog_7_method_4_code 29 = .ok (.aload_n 2, 1) := by decide +kernel
theorem d_Ma_step_30 : decode prog_7_method_4_code 30 = .ok (.iload_n 3, 1) := by decide +kernel
theorem d_Ma_step_31 : decode prog_7_method_4_code 31 = .ok (.aload_n 1, 1) := by decide +kernel
theorem d_Ma_step_32 : decode prog_7_method_4_code 32 = .ok (.getfield 62, 3) := by decide +kernel
theorem d_Ma_step_35 : decode prog_7_method_4_code 35 = .ok (.invokestatic 65, 3) := by decide +kernel
theorem d_Ma_step_38 : decode prog_7_method_4_code 38 = .ok (.ifCond .eq 5, 3) := by decide +kernel
theorem d_Ma_step_41 : decode prog_7_method_4_code 41 = .ok (.iconst 3, 1) := by decide +kernel
theorem d_Ma_step_42 : decode prog_7_method_4_code 42 = .ok (.ireturn, 1) := by decide +kernel
theorem d_Ma_step_43 : decode prog_7_method_4_code 43 = .ok (.aload_n 1, 1) := by decide +kernel
theorem d_Ma_step_44 : decode prog_7_method_4_code 44 = .ok (.iload_n 3, 1) := by decide +kernel
theorem d_Ma_step_45 : decode prog_7_method_4_code 45 = .ok (.iconst 1, 1) := by decide +kernel
theorem d_Ma_step_46 : decode prog_7_method_4_code 46 = .ok (.iadd, 1) := by decide +kernel
theorem d_Ma_step_47 : decode prog_7_method_4_code 47 = .ok (.putfield 59, 3) := by decide +kernel
theorem d_Ma_step_50 : decode prog_7_method_4_code 50 = .ok (.aload_n 0, 1) := by decide +kernel
theorem d_Ma_step_51 : decode prog_7_method_4_code 51 = .ok (.aload_n 1, 1) := by decide +kernel
theorem d_Ma_step_52 : decode prog_7_method_4_code 52 = .ok (.aload_n 2, 1) := by decide +kernel
theorem d_Ma_step_53 : decode prog_7_method_4_code 53 = .ok (.getfield 69, 3) := by decide +kernel
theorem d_Ma_step_56 : decode prog_7_method_4_code 56 = .ok (.iload_n 3, 1) := by decide +kernel
theorem d_Ma_step_57 : decode prog_7_method_4_code 57 = .ok (.iaload, 1) := by decide +kernel
theorem d_Ma_step_58 : decode prog_7_method_4_code 58 = .ok (.aload_n 2, 1) := by decide +kernel
theorem d_Ma_step_59 : decode prog_7_method_4_code 59 = .ok (.getfield 74, 3) := by decide +kernel
theorem d_Ma_step_62 : decode prog_7_method_4_code 62 = .ok (.iload_n 3, 1) := by decide +kernel
theorem d_Ma_step_63 : decode prog_7_method_4_code 63 = .ok (.iaload, 1) := by decide +kernel
theorem d_Ma_step_64 : decode prog_7_method_4_code 64 = .ok (.invokevirtual 77, 3) := by decide +kernel
theorem d_Ma_step_67 : decode prog_7_method_4_code 67 = .ok (.istore 4, 2) := by decide +kernel
theorem d_Ma_step_69 : decode prog_7_method_4_code 69 = .ok (.iload 4, 2) := by decide +kernel
theorem d_Ma_step_71 : decode prog_7_method_4_code 71 = .ok (.ifCond .eq 6, 3) := by decide +kernel
theorem d_Ma_step_74 : decode prog_7_method_4_code 74 = .ok (.iload 4, 2) := by decide +kernel
theorem d_Ma_step_76 : decode prog_7_method_4_code 76 = .ok (.ireturn, 1) := by decide +kernel
theorem d_Ma_step_77 : decode prog_7_method_4_code 77 = .ok (.aload_n 0, 1) := by decide +kernel
theorem d_Ma_step_78 : decode prog_7_method_4_code 78 = .ok (.getfield 11, 3) := by decide +kernel
theorem d_Ma_step_81 : decode prog_7_method_4_code 81 = .ok (.aload_n 0, 1) := by decide +kernel
theorem d_Ma_step_82 : decode prog_7_method_4_code 82 = .ok (.getfield 45, 3) := by decide +kernel
theorem d_Ma_step_85 : decode prog_7_method_4_code 85 = .ok (.aaload, 1) := by decide +kernel
theorem d_Ma_step_86 : decode prog_7_method_4_code 86 = .ok (.astore 5, 2) := by decide +kernel
theorem d_Ma_step_88 : decode prog_7_method_4_code 88 = .ok (.aload_n 0, 1) := by decide +kernel
theorem d_Ma_step_89 : decode prog_7_method_4_code 89 = .ok (.getfield 21, 3) := by decide +kernel
theorem d_Ma_step_92 : decode prog_7_method_4_code 92 = .ok (.aload 5, 2) := by decide +kernel
theorem d_Ma_step_94 : decode prog_7_method_4_code 94 = .ok (.getfield 56, 3) := by decide +kernel
theorem d_Ma_step_97 : decode prog_7_method_4_code 97 = .ok (.aaload, 1) := by decide +kernel
theorem d_Ma_step_98 : decode prog_7_method_4_code 98 = .ok (.aload 5, 2) := by decide +kernel
theorem d_Ma_step_100 : decode prog_7_method_4_code 100 = .ok (.getfield 59, 3) := by decide +kernel
theorem d_Ma_step_103 : decode prog_7_method_4_code 103 = .ok (.invokevirtual 81, 3) := by decide +kernel
theorem d_Ma_step_106 : decode prog_7_method_4_code 106 = .ok (.ifCond .eq 7, 3) := by decide +kernel
theorem d_Ma_step_109 : decode prog_7_method_4_code 109 = .ok (.iconst 0, 1) := by decide +kernel
theorem d_Ma_step_110 : decode prog_7_method_4_code 110 = .ok (.goto 4, 3) := by decide +kernel
theorem d_Ma_step_113 : decode prog_7_method_4_code 113 = .ok (.iconst 3, 1) := by decide +kernel
theorem d_Ma_step_114 : decode prog_7_method_4_code 114 = .ok (.ireturn, 1) := by decide +kernel
theorem d_Ma_perform_0 : decode prog_7_method_5_code 0 = .ok (.iload_n 2, 1) := by decide +kernel
theorem d_Ma_perform_1 : decode prog_7_method_5_code 1 = .ok (.tableswitch 208 0 14 #[75, 82, 94, 106, 119, 133, 140, 147, 154, 154, 172, 181, 189, 198, 208], 75) := by decide +kernel
theorem d_Ma_perform_76 : decode prog_7_method_5_code 76 = .ok (.aload_n 1, 1) := by decide +kernel
theorem d_Ma_perform_77 : decode prog_7_method_5_code 77 = .ok (.iload_n 3, 1) := by decide +kernel
theorem d_Ma_perform_78 : decode prog_7_method_5_code 78 = .ok (.invokevirtual 85, 3) := by decide +kernel
theorem d_Ma_perform_81 : decode prog_7_method_5_code 81 = .ok (.iconst 0, 1) := by decide +kernel
theorem d_Ma_perform_82 : decode prog_7_method_5_code 82 = .ok (.ireturn, 1) := by decide +kernel
theorem d_Ma_perform_83 : decode prog_7_method_5_code 83 = .ok (.aload_n 1, 1) := by decide +kernel
theorem d_Ma_perform_84 : decode prog_7_method_5_code 84 = .ok (.aload_n 1, 1) := by decide +kernel
theorem d_Ma_perform_85 : decode prog_7_method_5_code 85 = .ok (.getfield 89, 3) := by decide +kernel
theorem d_Ma_perform_88 : decode prog_7_method_5_code 88 = .ok (.iload_n 3, 1) := by decide +kernel
theorem d_Ma_perform_89 : decode prog_7_method_5_code 89 = .ok (.iaload, 1) := by decide +kernel
theorem d_Ma_perform_90 : decode prog_7_method_5_code 90 = .ok (.invokevirtual 85, 3) := by decide +kernel
theorem d_Ma_perform_93 : decode prog_7_method_5_code 93 = .ok (.iconst 0, 1) := by decide +kernel
theorem d_Ma_perform_94 : decode prog_7_method_5_code 94 = .ok (.ireturn, 1) := by decide +kernel
theorem d_Ma_perform_95 : decode prog_7_method_5_code 95 = .ok (.aload_n 1, 1) := by decide +kernel
theorem d_Ma_perform_96 : decode prog_7_method_5_code 96 = .ok (.getfield 89, 3) := by decide +kernel
theorem d_Ma_perform_99 : decode prog_7_method_5_code 99 = .ok (.iload_n 3, 1) := by decide +kernel
theorem d_Ma_perform_100 : decode prog_7_method_5_code 100 = .ok (.aload_n 1, 1) := by decide +kernel
theorem d_Ma_perform_101 : decode prog_7_method_5_code 101 = .ok (.invokevirtual 92, 3) := by decide +kernel
theorem d_Ma_perform_104 : decode prog_7_method_5_code 104 = .ok (.iastore, 1) := by decide +kernel
theorem d_Ma_perform_105 : decode prog_7_method_5_code 105 = .ok (.iconst 0, 1) := by decide +kernel
theorem d_Ma_perform_106 : decode prog_7_method_5_code 106 = .ok (.ireturn, 1) := by decide +kernel
theorem d_Ma_perform_107 : decode prog_7_method_5_code 107 = .ok (.aload_n 1, 1) := by decide +kernel
theorem d_Ma_perform_108 : decode prog_7_method_5_code 108 = .ok (.aload_n 1, 1) := by decide +kernel
theorem d_Ma_perform_109 : decode prog_7_method_5_code 109 = .ok (.invokevirtual 92, 3) := by decide +kernel
theorem d_Ma_perform_112 : decode prog_7_method_5_code 112 = .ok (.aload_n 1, 1) := by decide +kernel
theorem d_Ma_perform_113 : decode prog_7_method_5_code 113 = .ok (.invokevirtual 92, 3) := by decide +kernel
theorem d_Ma_perform_116 : decode prog_7_method_5_code 116 = .ok (.invokestatic 95, 3) := by decide +kernel
theorem d_Ma_perform_119 : decode prog_7_method_5_code 119 = .ok (.ireturn, 1) := by decide +kernel
theorem d_Ma_perform_120 : decode prog_7_method_5_code 120 = .ok (.aload_n 1, 1) := by decide +kernel
theorem d_Ma_perform_121 : decode prog_7_method_5_code 121 = .ok (.aload_n 1, 1) := by decide +kernel
theorem d_Ma_perform_122 : decode prog_7_method_5_code 122 = .ok (.invokevirtual 92, 3) := by decide +kernel
theorem d_Ma_perform_125 : decode prog_7_method_5_code 125 = .ok (.ineg, 1) := by decide +kernel
theorem d_Ma_perform_126 : decode prog_7_method_5_code 126 = .ok (.aload_n 1, 1) := by decide +kernel
theorem d_Ma_perform_127 : decode prog_7_method_5_code 127 = .ok (.invokevirtual 92, 3) := by decide +kernel
theorem d_Ma_perform_130 : decode prog_7_method_5_code 130 = .ok (.invokestatic 95, 3) := by decide +kernel
theorem d_Ma_perform_133 : decode prog_7_method_5_code 133 = .ok (.ireturn, 1) := by decide +kernel
theorem d_Ma_perform_134 : decode prog_7_method_5_code 134 = .ok (.aload_n 1, 1) := by decide +kernel
theorem d_Ma_perform_135 : decode prog_7_method_5_code 135 = .ok (.iconst 0, 1) := by decide +kernel
theorem d_Ma_perform_136 : decode prog_7_method_5_code 136 = .ok (.iload_n 3, 1) := by decide +kernel
theorem d_Ma_perform_137 : decode prog_7_method_5_code 137 = .ok (.invokestatic 98, 3) := by decide +kernel
theorem d_Ma_perform_140 : decode prog_7_method_5_code 140 = .ok (.ireturn, 1) := by decide +kernel
theorem d_Ma_perform_141 : decode prog_7_method_5_code 141 = .ok (.aload_n 1, 1) := by decide +kernel
theorem d_Ma_perform_142 : decode prog_7_method_5_code 142 = .ok (.iconst 1, 1) := by decide +kernel
theorem d_Ma_perform_143 : decode prog_7_method_5_code 143 = .ok (.iload_n 3, 1) := by decide +kernel
theorem d_Ma_perform_144 : decode prog_7_method_5_code 144 = .ok (.invokestatic 98, 3) := by decide +kernel
theorem d_Ma_perform_147 : decode prog_7_method_5_code 147 = .ok (.ireturn, 1) := by decide +kernel
theorem d_Ma_perform_148 : decode prog_7_method_5_code 148 = .ok (.aload_n 1, 1) := by decide +kernel
theorem d_Ma_perform_149 : decode prog_7_method_5_code 149 = .ok (.iload_n 3, 1) := by decide +kernel
theorem d_Ma_perform_150 : decode prog_7_method_5_code 150 = .ok (.putfield 59, 3) := by decide +kernel
theorem d_Ma_perform_153 : decode prog_7_method_5_code 153 = .ok (.iconst 0, 1) := by decide +kernel
theorem d_Ma_perform_154 : decode prog_7_method_5_code 154 = .ok (.ireturn, 1) := by decide +kernel
theorem d_Ma_perform_155 : decode prog_7_method_5_code 155 = .ok (.aload_n 1, 1) := by decide +kernel
theorem d_Ma_perform_156 : decode prog_7_method_5_code 156 = .ok (.iload_n 2, 1) := by decide +kernel
theorem d_Ma_perform_157 : decode prog_7_method_5_code 157 = .ok (.bipush 8, 2) := by decide +kernel
theorem d_Ma_perform_159 : decode prog_7_method_5_code 159 = .ok (.if_icmp .ne 7, 3) := by decide +kernel
theorem d_Ma_perform_162 : decode prog_7_method_5_code 162 = .ok (.iconst 1, 1) := by decide +kernel
theorem d_Ma_perform_163 : decode prog_7_method_5_code 163 = .ok (.goto 4, 3) := by decide +kernel
theorem d_Ma_perform_166 : decode prog_7_method_5_code 166 = .ok (.iconst 0, 1) := by decide +kernel
theorem d_Ma_perform_167 : decode prog_7_method_5_code 167 = .ok (.iload_n 3, 1) := by decide +kernel
theorem d_Ma_perform_168 : decode prog_7_method_5_code 168 = .ok (.invokestatic 101, 3) := by decide +kernel
theorem d_Ma_perform_171 : decode prog_7_method_5_code 171 = .ok (.iconst 0, 1) := by decide +kernel
theorem d_Ma_perform_172 : decode prog_7_method_5_code 172 = .ok (.ireturn, 1) := by decide +kernel
theorem d_Ma_perform_173 : decode prog_7_method_5_code 173 = .ok (.aload_n 0, 1) := by decide +kernel
theorem d_Ma_perform_174 : decode prog_7_method_5_code 174 = .ok (.aload_n 1, 1) := by decide +kernel
theorem d_Ma_perform_175 : decode prog_7_method_5_code 175 = .ok (.invokevirtual 92, 3) := by decide +kernel
theorem d_Ma_perform_178 : decode prog_7_method_5_code 178 = .ok (.invokevirtual 105, 3) := by decide +kernel
theorem d_Ma_perform_181 : decode prog_7_method_5_code 181 = .ok (.ireturn, 1) := by decide +kernel
theorem d_Ma_perform_182 : decode prog_7_method_5_code 182 = .ok (.aload_n 0, 1) := by decide +kernel
theorem d_Ma_perform_183 : decode prog_7_method_5_code 183 = .ok (.aload_n 1, 1) := by decide +kernel
theorem d_Ma_perform_184 : decode prog_7_method_5_code 184 = .ok (.iload_n 3, 1) := by decide +kernel
theorem d_Ma_perform_185 : decode prog_7_method_5_code 185 = .ok (.invokevirtual 109, 3) := by decide +kernel
theorem d_Ma_perform_188 : decode prog_7_method_5_code 188 = .ok (.iconst 0, 1) := by decide +kernel
theorem d_Ma_perform_189 : decode prog_7_method_5_code 189 = .ok (.ireturn, 1) := by decide +kernel
theorem d_Ma_perform_190 : decode prog_7_method_5_code 190 = .ok (.aload_n 0, 1) := by decide +kernel
theorem d_Ma_perform_191 : decode prog_7_method_5_code 191 = .ok (.aload_n 1, 1) := by decide +kernel
theorem d_Ma_perform_192 : decode prog_7_method_5_code 192 = .ok (.invokevirtual 92, 3) := by decide +kernel
theorem d_Ma_perform_195 : decode prog_7_method_5_code 195 = .ok (.invokevirtual 113, 3) := by decide +kernel
theorem d_Ma_perform_198 : decode prog_7_method_5_code 198 = .ok (.ireturn, 1) := by decide +kernel
theorem d_Ma_perform_199 : decode prog_7_method_5_code 199 = .ok (.aload_n 1, 1) := by decide +kernel
theorem d_Ma_perform_200 : decode prog_7_method_5_code 200 = .ok (.aload_n 0, 1) := by decide +kernel
theorem d_Ma_perform_201 : decode prog_7_method_5_code 201 = .ok (.invokevirtual 116, 3) := by decide +kernel
theorem d_Ma_perform_204 : decode prog_7_method_5_code 204 = .ok (.invokevirtual 85, 3) := by decide +kernel
theorem d_Ma_perform_207 : decode prog_7_method_5_code 207 = .ok (.iconst 0, 1) := by decide +kernel
theorem d_Ma_perform_208 : decode prog_7_method_5_code 208 = .ok (.ireturn, 1) := by decide +kernel
theorem d_Ma_perform_209 : decode prog_7_method_5_code 209 = .ok (.aload_n 1, 1) := by decide +kernel
theorem d_Ma_perform_210 : decode prog_7_method_5_code 210 = .ok (.invokevirtual 92, 3) := by decide +kernel
theorem d_Ma_perform_213 : decode prog_7_method_5_code 213 = .ok (.pop, 1) := by decide +kernel
theorem d_Ma_perform_214 : decode prog_7_method_5_code 214 = .ok (.iconst 0, 1) := by decide +kernel
theorem d_Ma_perform_215 : decode prog_7_method_5_code 215 = .ok (.ireturn, 1) := by decide +kernel
theorem d_Ma_pushSum_0 : decode prog_7_method_6_code 0 = .ok (.iload_n 1, 1) := by decide +kernel
theorem d_Ma_pushSum_1 : decode prog_7_method_6_code 1 = .ok (.iload_n 2, 1) := by decide +kernel
theorem d_Ma_pushSum_2 : decode prog_7_method_6_code 2 = .ok (.iadd, 1) := by decide +kernel
theorem d_Ma_pushSum_3 : decode prog_7_method_6_code 3 = .ok (.invokestatic 119, 3) := by decide +kernel
theorem d_Ma_pushSum_6 : decode prog_7_method_6_code 6 = .ok (.ifCond .ne 5, 3) := by decide +kernel
theorem d_Ma_pushSum_9 : decode prog_7_method_6_code 9 = .ok (.iconst 2, 1) := by decide +kernel
theorem d_Ma_pushSum_10 : decode prog_7_method_6_code 10 = .ok (.ireturn, 1) := by decide +kernel
theorem d_Ma_pushSum_11 : decode prog_7_method_6_code 11 = .ok (.aload_n 0, 1) := by decide +kernel
theorem d_Ma_pushSum_12 : decode prog_7_method_6_code 12 = .ok (.iload_n 1, 1) := by decide +kernel
theorem d_Ma_pushSum_13 : decode prog_7_method_6_code 13 = .ok (.iload_n 2, 1) := by decide +kernel
theorem d_Ma_pushSum_14 : decode prog_7_method_6_code 14 = .ok (.iadd, 1) := by decide +kernel
theorem d_Ma_pushSum_15 : decode prog_7_method_6_code 15 = .ok (.invokevirtual 85, 3) := by decide +kernel
theorem d_Ma_pushSum_18 : decode prog_7_method_6_code 18 = .ok (.iconst 0, 1) := by decide +kernel
theorem d_Ma_pushSum_19 : decode prog_7_method_6_code 19 = .ok (.ireturn, 1) := by decide +kernel
theorem d_Ma_growLocal_0 : decode prog_7_method_7_code 0 = .ok (.aload_n 0, 1) := by decide +kernel
theorem d_Ma_growLocal_1 : decode prog_7_method_7_code 1 = .ok (.getfield 89, 3) := by decide +kernel
theorem d_Ma_growLocal_4 : decode prog_7_method_7_code 4 = .ok (.iload_n 1, 1) := by decide +kernel
theorem d_Ma_growLocal_5 : decode prog_7_method_7_code 5 = .ok (.iaload, 1) := by decide +kernel
theorem d_Ma_growLocal_6 : decode prog_7_method_7_code 6 = .ok (.iload_n 2, 1) := by decide +kernel
theorem d_Ma_growLocal_7 : decode prog_7_method_7_code 7 = .ok (.iadd, 1) := by decide +kernel
theorem d_Ma_growLocal_8 : decode prog_7_method_7_code 8 = .ok (.invokestatic 119, 3) := by decide +kernel
theorem d_Ma_growLocal_11 : decode prog_7_method_7_code 11 = .ok (.ifCond .ne 5, 3) := by decide +kernel
theorem d_Ma_growLocal_14 : decode prog_7_method_7_code 14 = .ok (.iconst 2, 1) := by decide +kernel
theorem d_Ma_growLocal_15 : decode prog_7_method_7_code 15 = .ok (.ireturn, 1) := by decide +kernel
theorem d_Ma_growLocal_16 : decode prog_7_method_7_code 16 = .ok (.aload_n 0, 1) := by decide +kernel
theorem d_Ma_growLocal_17 : decode prog_7_method_7_code 17 = .ok (.getfield 89, 3) := by decide +kernel
theorem d_Ma_growLocal_20 : decode prog_7_method_7_code 20 = .ok (.iload_n 1, 1) := by decide +kernel
theorem d_Ma_growLocal_21 : decode prog_7_method_7_code 21 = .ok (.dup2, 1) := by decide +kernel
theorem d_Ma_growLocal_22 : decode prog_7_method_7_code 22 = .ok (.iaload, 1) := by decide +kernel
theorem d_Ma_growLocal_23 : decode prog_7_method_7_code 23 = .ok (.iload_n 2, 1) := by decide +kernel
theorem d_Ma_growLocal_24 : decode prog_7_method_7_code 24 = .ok (.iadd, 1) := by decide +kernel
theorem d_Ma_growLocal_25 : decode prog_7_method_7_code 25 = .ok (.iastore, 1) := by decide +kernel
theorem d_Ma_growLocal_26 : decode prog_7_method_7_code 26 = .ok (.iconst 0, 1) := by decide +kernel
theorem d_Ma_growLocal_27 : decode prog_7_method_7_code 27 = .ok (.ireturn, 1) := by decide +kernel
theorem d_Ma_goIf_0 : decode prog_7_method_8_code 0 = .ok (.aload_n 0, 1) := by decide +kernel
theorem d_Ma_goIf_1 : decode prog_7_method_8_code 1 = .ok (.invokevirtual 92, 3) := by decide +kernel
theorem d_Ma_goIf_4 : decode prog_7_method_8_code 4 = .ok (.istore_n 3, 1) := by decide +kernel
theorem d_Ma_goIf_5 : decode prog_7_method_8_code 5 = .ok (.aload_n 0, 1) := by decide +kernel
theorem d_Ma_goIf_6 : decode prog_7_method_8_code 6 = .ok (.invokevirtual 92, 3) := by decide +kernel
theorem d_Ma_goIf_9 : decode prog_7_method_8_code 9 = .ok (.istore 4, 2) := by decide +kernel
theorem d_Ma_goIf_11 : decode prog_7_method_8_code 11 = .ok (.iload 4, 2) := by decide +kernel
theorem d_Ma_goIf_13 : decode prog_7_method_8_code 13 = .ok (.iload_n 3, 1) := by decide +kernel
theorem d_Ma_goIf_14 : decode prog_7_method_8_code 14 = .ok (.if_icmp .ge 7, 3) := by decide +kernel
theorem d_Ma_goIf_17 : decode prog_7_method_8_code 17 = .ok (.iconst 1, 1) := by decide +kernel
theorem d_Ma_goIf_18 : decode prog_7_method_8_code 18 = .ok (.goto 4, 3) := by decide +kernel
theorem d_Ma_goIf_21 : decode prog_7_method_8_code 21 = .ok (.iconst 0, 1) := by decide +kernel
theorem d_Ma_goIf_22 : decode prog_7_method_8_code 22 = .ok (.iload_n 1, 1) := by decide +kernel
theorem d_Ma_goIf_23 : decode prog_7_method_8_code 23 = .ok (.if_icmp .ne 8, 3) := by decide +kernel
theorem d_Ma_goIf_26 : decode prog_7_method_8_code 26 = .ok (.aload_n 0, 1) := by decide +kernel
theorem d_Ma_goIf_27 : decode prog_7_method_8_code 27 = .ok (.iload_n 2, 1) := by decide +kernel
theorem d_Ma_goIf_28 : decode prog_7_method_8_code 28 = .ok (.putfield 59, 3) := by decide +kernel
theorem d_Ma_goIf_31 : decode prog_7_method_8_code 31 = .ok (.return_, 1) := by decide +kernel
theorem d_Ma_takeWords_0 : decode prog_7_method_9_code 0 = .ok (.iload_n 1, 1) := by decide +kernel
theorem d_Ma_takeWords_1 : decode prog_7_method_9_code 1 = .ok (.ifCond .lt 16, 3) := by decide +kernel
theorem d_Ma_takeWords_4 : decode prog_7_method_9_code 4 = .ok (.aload_n 0, 1) := by decide +kernel
theorem d_Ma_takeWords_5 : decode prog_7_method_9_code 5 = .ok (.getfield 33, 3) := by decide +kernel
theorem d_Ma_takeWords_8 : decode prog_7_method_9_code 8 = .ok (.iload_n 1, 1) := by decide +kernel
theorem d_Ma_takeWords_9 : decode prog_7_method_9_code 9 = .ok (.iadd, 1) := by decide +kernel
theorem d_Ma_takeWords_10 : decode prog_7_method_9_code 10 = .ok (.iconst 2, 1) := by decide +kernel
theorem d_Ma_takeWords_11 : decode prog_7_method_9_code 11 = .ok (.iadd, 1) := by decide +kernel
theorem d_Ma_takeWords_12 : decode prog_7_method_9_code 12 = .ok (.ldc 122, 2) := by decide +kernel
theorem d_Ma_takeWords_14 : decode prog_7_method_9_code 14 = .ok (.if_icmp .le 5, 3) := by decide +kernel
theorem d_Ma_takeWords_17 : decode prog_7_method_9_code 17 = .ok (.iconst 2, 1) := by decide +kernel
theorem d_Ma_takeWords_18 : decode prog_7_method_9_code 18 = .ok (.ireturn, 1) := by decide +kernel
theorem d_Ma_takeWords_19 : decode prog_7_method_9_code 19 = .ok (.aload_n 0, 1) := by decide +kernel
theorem d_Ma_takeWords_20 : decode prog_7_method_9_code 20 = .ok (.dup, 1) := by decide +kernel
theorem d_Ma_takeWords_21 : decode prog_7_method_9_code 21 = .ok (.getfield 33, 3) := by decide +kernel
theorem d_Ma_takeWords_24 : decode prog_7_method_9_code 24 = .ok (.iload_n 1, 1) := by decide +kernel
theorem d_Ma_takeWords_25 : decode prog_7_method_9_code 25 = .ok (.iconst 2, 1) := by decide +kernel
theorem d_Ma_takeWords_26 : decode prog_7_method_9_code 26 = .ok (.iadd, 1) := by decide +kernel
theorem d_Ma_takeWords_27 : decode prog_7_method_9_code 27 = .ok (.iadd, 1) := by decide +kernel
theorem d_Ma_takeWords_28 : decode prog_7_method_9_code 28 = .ok (.putfield 33, 3) := by decide +kernel
theorem d_Ma_takeWords_31 : decode prog_7_method_9_code 31 = .ok (.iconst 0, 1) := by decide +kernel
theorem d_Ma_takeWords_32 : decode prog_7_method_9_code 32 = .ok (.ireturn, 1) := by decide +kernel
theorem d_Ma_enterCalled_0 : decode prog_7_method_10_code 0 = .ok (.aload_n 1, 1) := by decide +kernel
theorem d_Ma_enterCalled_1 : decode prog_7_method_10_code 1 = .ok (.invokevirtual 92, 3) := by decide +kernel
theorem d_Ma_enterCalled_4 : decode prog_7_method_10_code 4 = .ok (.istore_n 3, 1) := by decide +kernel
theorem d_Ma_enterCalled_5 : decode prog_7_method_10_code 5 = .ok (.aload_n 1, 1) := by decide +kernel
theorem d_Ma_enterCalled_6 : decode prog_7_method_10_code 6 = .ok (.invokevirtual 92, 3) := by decide +kernel
theorem d_Ma_enterCalled_9 : decode prog_7_method_10_code 9 = .ok (.istore 4, 2) := by decide +kernel
theorem d_Ma_enterCalled_11 : decode prog_7_method_10_code 11 = .ok (.aload_n 1, 1) := by decide +kernel
theorem d_Ma_enterCalled_12 : decode prog_7_method_10_code 12 = .ok (.invokevirtual 92, 3) := by decide +kernel
theorem d_Ma_enterCalled_15 : decode prog_7_method_10_code 15 = .ok (.istore 5, 2) := by decide +kernel
theorem d_Ma_enterCalled_17 : decode prog_7_method_10_code 17 = .ok (.aload_n 0, 1) := by decide +kernel
theorem d_Ma_enterCalled_18 : decode prog_7_method_10_code 18 = .ok (.getfield 45, 3) := by decide +kernel
theorem d_Ma_enterCalled_21 : decode prog_7_method_10_code 21 = .ok (.iconst 3, 1) := by decide +kernel
theorem d_Ma_enterCalled_22 : decode prog_7_method_10_code 22 = .ok (.if_icmp .ge 48, 3) := by decide +kernel
theorem d_Ma_enterCalled_25 : decode prog_7_method_10_code 25 = .ok (.aload_n 0, 1) := by decide +kernel
theorem d_Ma_enterCalled_26 : decode prog_7_method_10_code 26 = .ok (.dup, 1) := by decide +kernel
theorem d_Ma_enterCalled_27 : decode prog_7_method_10_code 27 = .ok (.getfield 45, 3) := by decide +kernel
theorem d_Ma_enterCalled_30 : decode prog_7_method_10_code 30 = .ok (.iconst 1, 1) := by decide +kernel
theorem d_Ma_enterCalled_31 : decode prog_7_method_10_code 31 = .ok (.iadd, 1) := by decide +kernel
theorem d_Ma_enterCalled_32 : decode prog_7_method_10_code 32 = .ok (.putfield 45, 3) := by decide +kernel
theorem d_Ma_enterCalled_35 : decode prog_7_method_10_code 35 = .ok (.aload_n 0, 1) := by decide +kernel
theorem d_Ma_enterCalled_36 : decode prog_7_method_10_code 36 = .ok (.getfield 11, 3) := by decide +kernel
theorem d_Ma_enterCalled_39 : decode prog_7_method_10_code 39 = .ok (.aload_n 0, 1) := by decide +kernel
theorem d_Ma_enterCalled_40 : decode prog_7_method_10_code 40 = .ok (.getfield 45, 3) := by decide +kernel
theorem d_Ma_enterCalled_43 : decode prog_7_method_10_code 43 = .ok (.aaload, 1) := by decide +kernel
theorem d_Ma_enterCalled_44 : decode prog_7_method_10_code 44 = .ok (.iload_n 2, 1) := by decide +kernel
theorem d_Ma_enterCalled_45 : decode prog_7_method_10_code 45 = .ok (.iload 5, 2) := by decide +kernel
theorem d_Ma_enterCalled_47 : decode prog_7_method_10_code 47 = .ok (.iload 4, 2) := by decide +kernel
theorem d_Ma_enterCalled_49 : decode prog_7_method_10_code 49 = .ok (.iload_n 3, 1) := by decide +kernel
theorem d_Ma_enterCalled_50 : decode prog_7_method_10_code 50 = .ok (.invokevirtual 48, 3) := by decide +kernel
theorem d_Ma_enterCalled_53 : decode prog_7_method_10_code 53 = .ok (.aload_n 0, 1) := by decide +kernel
theorem d_Ma_enterCalled_54 : decode prog_7_method_10_code 54 = .ok (.aload_n 0, 1) := by decide +kernel
theorem d_Ma_enterCalled_55 : decode prog_7_method_10_code 55 = .ok (.getfield 36, 3) := by decide +kernel
theorem d_Ma_enterCalled_58 : decode prog_7_method_10_code 58 = .ok (.aload_n 0, 1) := by decide +kernel
theorem d_Ma_enterCalled_59 : decode prog_7_method_10_code 59 = .ok (.getfield 45, 3) := by decide +kernel
theorem d_Ma_enterCalled_62 : decode prog_7_method_10_code 62 = .ok (.iconst 1, 1) := by decide +kernel
theorem d_Ma_enterCalled_63 : decode prog_7_method_10_code 63 = .ok (.iadd, 1) := by decide +kernel
theorem d_Ma_enterCalled_64 : decode prog_7_method_10_code 64 = .ok (.invokestatic 123, 3) := by decide +kernel
theorem d_Ma_enterCalled_67 : decode prog_7_method_10_code 67 = .ok (.putfield 36, 3) := by decide +kernel
theorem d_Ma_enterCalled_70 : decode prog_7_method_10_code 70 = .ok (.return_, 1) := by decide +kernel
theorem d_Ma_leave_0 : decode prog_7_method_11_code 0 = .ok (.aload_n 0, 1) := by decide +kernel
theorem d_Ma_leave_1 : decode prog_7_method_11_code 1 = .ok (.getfield 45, 3) := by decide +kernel
theorem d_Ma_leave_4 : decode prog_7_method_11_code 4 = .ok (.ifCond .ne 10, 3) := by decide +kernel
theorem d_Ma_leave_7 : decode prog_7_method_11_code 7 = .ok (.aload_n 0, 1) := by decide +kernel
theorem d_Ma_leave_8 : decode prog_7_method_11_code 8 = .ok (.iload_n 1, 1) := by decide +kernel
theorem d_Ma_leave_9 : decode prog_7_method_11_code 9 = .ok (.putfield 39, 3) := by decide +kernel
theorem d_Ma_leave_12 : decode prog_7_method_11_code 12 = .ok (.iconst 1, 1) := by decide +kernel
theorem d_Ma_leave_13 : decode prog_7_method_11_code 13 = .ok (.ireturn, 1) := by decide +kernel
theorem d_Ma_leave_14 : decode prog_7_method_11_code 14 = .ok (.aload_n 0, 1) := by decide +kernel
theorem d_Ma_leave_15 : decode prog_7_method_11_code 15 = .ok (.dup, 1) := by decide +kernel
theorem d_Ma_leave_16 : decode prog_7_method_11_code 16 = .ok (.getfield 45, 3) := by decide +kernel
theorem d_Ma_leave_19 : decode prog_7_method_11_code 19 = .ok (.iconst 1, 1) := by decide +kernel
theorem d_Ma_leave_20 : decode prog_7_method_11_code 20 = .ok (.isub, 1) := by decide +kernel
theorem d_Ma_leave_21 : decode prog_7_method_11_code 21 = .ok (.putfield 45, 3) := by decide +kernel
theorem d_Ma_leave_24 : decode prog_7_method_11_code 24 = .ok (.aload_n 0, 1) := by decide +kernel
theorem d_Ma_leave_25 : decode prog_7_method_11_code 25 = .ok (.getfield 11, 3) := by decide +kernel
theorem d_Ma_leave_28 : decode prog_7_method_11_code 28 = .ok (.aload_n 0, 1) := by decide +kernel
theorem d_Ma_leave_29 : decode prog_7_method_11_code 29 = .ok (.getfield 45, 3) := by decide +kernel
theorem d_Ma_leave_32 : decode prog_7_method_11_code 32 = .ok (.aaload, 1) := by decide +kernel
theorem d_Ma_leave_33 : decode prog_7_method_11_code 33 = .ok (.iload_n 1, 1) := by decide +kernel
theorem d_Ma_leave_34 : decode prog_7_method_11_code 34 = .ok (.invokevirtual 85, 3) := by decide +kernel
theorem d_Ma_leave_37 : decode prog_7_method_11_code 37 = .ok (.iconst 0, 1) := by decide +kernel
theorem d_Ma_leave_38 : decode prog_7_method_11_code 38 = .ok (.ireturn, 1) := by decide +kernel
theorem d_Ma_nextInput_0 : decode prog_7_method_12_code 0 = .ok (.aload_n 0, 1) := by decide +kernel
theorem d_Ma_nextInput_1 : decode prog_7_method_12_code 1 = .ok (.getfield 42, 3) := by decide +kernel
theorem d_Ma_nextInput_4 : decode prog_7_method_12_code 4 = .ok (.aload_n 0, 1) := by decide +kernel
theorem d_Ma_nextInput_5 : decode prog_7_method_12_code 5 = .ok (.getfield 26, 3) := by decide +kernel
theorem d_Ma_nextInput_8 : decode prog_7_method_12_code 8 = .ok (.if_icmp .lt 5, 3) := by decide +kernel
theorem d_Ma_nextInput_11 : decode prog_7_method_12_code 11 = .ok (.iconst 0, 1) := by decide +kernel
theorem d_Ma_nextInput_12 : decode prog_7_method_12_code 12 = .ok (.ireturn, 1) := by decide +kernel
theorem d_Ma_nextInput_13 : decode prog_7_method_12_code 13 = .ok (.aload_n 0, 1) := by decide +kernel
theorem d_Ma_nextInput_14 : decode prog_7_method_12_code 14 = .ok (.dup, 1) := by decide +kernel
theorem d_Ma_nextInput_15 : decode prog_7_method_12_code 15 = .ok (.getfield 42, 3) := by decide +kernel
theorem d_Ma_nextInput_18 : decode prog_7_method_12_code 18 = .ok (.iconst 1, 1) := by decide +kernel
theorem d_Ma_nextInput_19 : decode prog_7_method_12_code 19 = .ok (.iadd, 1) := by decide +kernel
theorem d_Ma_nextInput_20 : decode prog_7_method_12_code 20 = .ok (.putfield 42, 3) := by decide +kernel
theorem d_Ma_nextInput_23 : decode prog_7_method_12_code 23 = .ok (.aload_n 0, 1) := by decide +kernel
theorem d_Ma_nextInput_24 : decode prog_7_method_12_code 24 = .ok (.getfield 17, 3) := by decide +kernel
theorem d_Ma_nextInput_27 : decode prog_7_method_12_code 27 = .ok (.aload_n 0, 1) := by decide +kernel
theorem d_Ma_nextInput_28 : decode prog_7_method_12_code 28 = .ok (.getfield 42, 3) := by decide +kernel
theorem d_Ma_nextInput_31 : decode prog_7_method_12_code 31 = .ok (.iconst 1, 1) := by decide +kernel
theorem d_Ma_nextInput_32 : decode prog_7_method_12_code 32 = .ok (.isub, 1) := by decide +kernel
theorem d_Ma_nextInput_33 : decode prog_7_method_12_code 33 = .ok (.iaload, 1) := by decide +kernel
theorem d_Ma_nextInput_34 : decode prog_7_method_12_code 34 = .ok (.ireturn, 1) := by decide +kernel
