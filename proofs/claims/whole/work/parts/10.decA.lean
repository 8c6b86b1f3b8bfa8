/-! decode rows (written by wip/whole/prog/mknames.py) -/
theorem d_CC_init_0 : decode prog_1_method_1_code 0 = .ok (.aload_n 0, 1) := by decide +kernel
theorem d_CC_init_1 : decode prog_1_method_1_code 1 = .ok (.invokespecial 3, 3) := by decide +kernel
theorem d_CC_init_4 : decode prog_1_method_1_code 4 = .ok (.iconst 4, 1) := by decide +kernel
theorem d_CC_init_5 : decode prog_1_method_1_code 5 = .ok (.anewarray 9, 3) := by decide +kernel
theorem d_CC_init_8 : decode prog_1_method_1_code 8 = .ok (.astore_n 1, 1) := by decide +kernel
theorem d_CC_init_9 : decode prog_1_method_1_code 9 = .ok (.iconst 0, 1) := by decide +kernel
theorem d_CC_init_10 : decode prog_1_method_1_code 10 = .ok (.istore_n 2, 1) := by decide +kernel
theorem d_CC_init_11 : decode prog_1_method_1_code 11 = .ok (.iload_n 2, 1) := by decide +kernel
theorem d_CC_init_12 : decode prog_1_method_1_code 12 = .ok (.iconst 4, 1) := by decide +kernel
theorem d_CC_init_13 : decode prog_1_method_1_code 13 = .ok (.if_icmp .ge 20, 3) := by decide +kernel
theorem d_CC_init_16 : decode prog_1_method_1_code 16 = .ok (.aload_n 1, 1) := by decide +kernel
theorem d_CC_init_17 : decode prog_1_method_1_code 17 = .ok (.iload_n 2, 1) := by decide +kernel
theorem d_CC_init_18 : decode prog_1_method_1_code 18 = .ok (.new 9, 3) := by decide +kernel
theorem d_CC_init_21 : decode prog_1_method_1_code 21 = .ok (.dup, 1) := by decide +kernel
theorem d_CC_init_22 : decode prog_1_method_1_code 22 = .ok (.iload_n 2, 1) := by decide +kernel
theorem d_CC_init_23 : decode prog_1_method_1_code 23 = .ok (.invokespecial 11, 3) := by decide +kernel
theorem d_CC_init_26 : decode prog_1_method_1_code 26 = .ok (.aastore, 1) := by decide +kernel
theorem d_CC_init_27 : decode prog_1_method_1_code 27 = .ok (.iinc 2 1, 3) := by decide +kernel
theorem d_CC_init_30 : decode prog_1_method_1_code 30 = .ok (.goto (-19), 3) := by decide +kernel
theorem d_CC_init_33 : decode prog_1_method_1_code 33 = .ok (.aload_n 0, 1) := by decide +kernel
theorem d_CC_init_34 : decode prog_1_method_1_code 34 = .ok (.aload_n 1, 1) := by decide +kernel
theorem d_CC_init_35 : decode prog_1_method_1_code 35 = .ok (.putfield 14, 3) := by decide +kernel
theorem d_CC_init_38 : decode prog_1_method_1_code 38 = .ok (.aload_n 0, 1) := by decide +kernel
theorem d_CC_init_39 : decode prog_1_method_1_code 39 = .ok (.new 18, 3) := by decide +kernel
theorem d_CC_init_42 : decode prog_1_method_1_code 42 = .ok (.dup, 1) := by decide +kernel
theorem d_CC_init_43 : decode prog_1_method_1_code 43 = .ok (.aload_n 1, 1) := by decide +kernel
theorem d_CC_init_44 : decode prog_1_method_1_code 44 = .ok (.invokespecial 20, 3) := by decide +kernel
theorem d_CC_init_47 : decode prog_1_method_1_code 47 = .ok (.putfield 23, 3) := by decide +kernel
theorem d_CC_init_50 : decode prog_1_method_1_code 50 = .ok (.aload_n 0, 1) := by decide +kernel
theorem d_CC_init_51 : decode prog_1_method_1_code 51 = .ok (.new 27, 3) := by decide +kernel
theorem d_CC_init_54 : decode prog_1_method_1_code 54 = .ok (.dup, 1) := by decide +kernel
theorem d_CC_init_55 : decode prog_1_method_1_code 55 = .ok (.aload_n 1, 1) := by decide +kernel
theorem d_CC_init_56 : decode prog_1_method_1_code 56 = .ok (.invokespecial 29, 3) := by decide +kernel
theorem d_CC_init_59 : decode prog_1_method_1_code 59 = .ok (.putfield 30, 3) := by decide +kernel
theorem d_CC_init_62 : decode prog_1_method_1_code 62 = .ok (.aload_n 0, 1) := by decide +kernel
theorem d_CC_init_63 : decode prog_1_method_1_code 63 = .ok (.iconst 5, 1) := by decide +kernel
theorem d_CC_init_64 : decode prog_1_method_1_code 64 = .ok (.newarray .int, 2) := by decide +kernel
theorem d_CC_init_66 : decode prog_1_method_1_code 66 = .ok (.putfield 34, 3) := by decide +kernel
theorem d_CC_init_69 : decode prog_1_method_1_code 69 = .ok (.return_, 1) := by decide +kernel
theorem d_Me_init_0 : decode prog_8_method_1_code 0 = .ok (.aload_n 0, 1) := by decide +kernel
theorem d_Me_init_1 : decode prog_8_method_1_code 1 = .ok (.invokespecial 3, 3) := by decide +kernel
theorem d_Me_init_4 : decode prog_8_method_1_code 4 = .ok (.aload_n 0, 1) := by decide +kernel
theorem d_Me_init_5 : decode prog_8_method_1_code 5 = .ok (.bipush 24, 2) := by decide +kernel
theorem d_Me_init_7 : decode prog_8_method_1_code 7 = .ok (.newarray .int, 2) := by decide +kernel
theorem d_Me_init_9 : decode prog_8_method_1_code 9 = .ok (.putfield 9, 3) := by decide +kernel
theorem d_Me_init_12 : decode prog_8_method_1_code 12 = .ok (.aload_n 0, 1) := by decide +kernel
theorem d_Me_init_13 : decode prog_8_method_1_code 13 = .ok (.bipush 24, 2) := by decide +kernel
theorem d_Me_init_15 : decode prog_8_method_1_code 15 = .ok (.newarray .int, 2) := by decide +kernel
theorem d_Me_init_17 : decode prog_8_method_1_code 17 = .ok (.putfield 15, 3) := by decide +kernel
theorem d_Me_init_20 : decode prog_8_method_1_code 20 = .ok (.aload_n 0, 1) := by decide +kernel
theorem d_Me_init_21 : decode prog_8_method_1_code 21 = .ok (.bipush 6, 2) := by decide +kernel
theorem d_Me_init_23 : decode prog_8_method_1_code 23 = .ok (.anewarray 18, 3) := by decide +kernel
theorem d_Me_init_26 : decode prog_8_method_1_code 26 = .ok (.putfield 20, 3) := by decide +kernel
theorem d_Me_init_29 : decode prog_8_method_1_code 29 = .ok (.aload_n 0, 1) := by decide +kernel
theorem d_Me_init_30 : decode prog_8_method_1_code 30 = .ok (.iload_n 1, 1) := by decide +kernel
theorem d_Me_init_31 : decode prog_8_method_1_code 31 = .ok (.putfield 24, 3) := by decide +kernel
theorem d_Me_init_34 : decode prog_8_method_1_code 34 = .ok (.iconst 0, 1) := by decide +kernel
theorem d_Me_init_35 : decode prog_8_method_1_code 35 = .ok (.istore_n 2, 1) := by decide +kernel
theorem d_Me_init_36 : decode prog_8_method_1_code 36 = .ok (.iload_n 2, 1) := by decide +kernel
theorem d_Me_init_37 : decode prog_8_method_1_code 37 = .ok (.bipush 6, 2) := by decide +kernel
theorem d_Me_init_39 : decode prog_8_method_1_code 39 = .ok (.if_icmp .ge 22, 3) := by decide +kernel
theorem d_Me_init_42 : decode prog_8_method_1_code 42 = .ok (.aload_n 0, 1) := by decide +kernel
theorem d_Me_init_43 : decode prog_8_method_1_code 43 = .ok (.getfield 20, 3) := by decide +kernel
theorem d_Me_init_46 : decode prog_8_method_1_code 46 = .ok (.iload_n 2, 1) := by decide +kernel
theorem d_Me_init_47 : decode prog_8_method_1_code 47 = .ok (.new 18, 3) := by decide +kernel
theorem d_Me_init_50 : decode prog_8_method_1_code 50 = .ok (.dup, 1) := by decide +kernel
theorem d_Me_init_51 : decode prog_8_method_1_code 51 = .ok (.invokespecial 28, 3) := by decide +kernel
theorem d_Me_init_54 : decode prog_8_method_1_code 54 = .ok (.aastore, 1) := by decide +kernel
theorem d_Me_init_55 : decode prog_8_method_1_code 55 = .ok (.iinc 2 1, 3) := by decide +kernel
theorem d_Me_init_58 : decode prog_8_method_1_code 58 = .ok (.goto (-22), 3) := by decide +kernel
theorem d_Me_init_61 : decode prog_8_method_1_code 61 = .ok (.aload_n 0, 1) := by decide +kernel
theorem d_Me_init_62 : decode prog_8_method_1_code 62 = .ok (.iconst 1, 1) := by decide +kernel
theorem d_Me_init_63 : decode prog_8_method_1_code 63 = .ok (.putfield 29, 3) := by decide +kernel
theorem d_Me_init_66 : decode prog_8_method_1_code 66 = .ok (.return_, 1) := by decide +kernel
theorem d_Cu_init_0 : decode prog_4_method_1_code 0 = .ok (.aload_n 0, 1) := by decide +kernel
theorem d_Cu_init_1 : decode prog_4_method_1_code 1 = .ok (.invokespecial 3, 3) := by decide +kernel
theorem d_Cu_init_4 : decode prog_4_method_1_code 4 = .ok (.aload_n 0, 1) := by decide +kernel
theorem d_Cu_init_5 : decode prog_4_method_1_code 5 = .ok (.bipush 6, 2) := by decide +kernel
theorem d_Cu_init_7 : decode prog_4_method_1_code 7 = .ok (.newarray .int, 2) := by decide +kernel
theorem d_Cu_init_9 : decode prog_4_method_1_code 9 = .ok (.putfield 9, 3) := by decide +kernel
theorem d_Cu_init_12 : decode prog_4_method_1_code 12 = .ok (.aload_n 0, 1) := by decide +kernel
theorem d_Cu_init_13 : decode prog_4_method_1_code 13 = .ok (.bipush 6, 2) := by decide +kernel
theorem d_Cu_init_15 : decode prog_4_method_1_code 15 = .ok (.newarray .int, 2) := by decide +kernel
theorem d_Cu_init_17 : decode prog_4_method_1_code 17 = .ok (.putfield 15, 3) := by decide +kernel
theorem d_Cu_init_20 : decode prog_4_method_1_code 20 = .ok (.aload_n 0, 1) := by decide +kernel
theorem d_Cu_init_21 : decode prog_4_method_1_code 21 = .ok (.bipush 6, 2) := by decide +kernel
theorem d_Cu_init_23 : decode prog_4_method_1_code 23 = .ok (.newarray .int, 2) := by decide +kernel
theorem d_Cu_init_25 : decode prog_4_method_1_code 25 = .ok (.putfield 18, 3) := by decide +kernel
theorem d_Cu_init_28 : decode prog_4_method_1_code 28 = .ok (.aload_n 0, 1) := by decide +kernel
theorem d_Cu_init_29 : decode prog_4_method_1_code 29 = .ok (.iconst 2, 1) := by decide +kernel
theorem d_Cu_init_30 : decode prog_4_method_1_code 30 = .ok (.anewarray 21, 3) := by decide +kernel
theorem d_Cu_init_33 : decode prog_4_method_1_code 33 = .ok (.putfield 23, 3) := by decide +kernel
theorem d_Cu_init_36 : decode prog_4_method_1_code 36 = .ok (.iconst 0, 1) := by decide +kernel
theorem d_Cu_init_37 : decode prog_4_method_1_code 37 = .ok (.istore_n 1, 1) := by decide +kernel
theorem d_Cu_init_38 : decode prog_4_method_1_code 38 = .ok (.iload_n 1, 1) := by decide +kernel
theorem d_Cu_init_39 : decode prog_4_method_1_code 39 = .ok (.iconst 2, 1) := by decide +kernel
theorem d_Cu_init_40 : decode prog_4_method_1_code 40 = .ok (.if_icmp .ge 22, 3) := by decide +kernel
theorem d_Cu_init_43 : decode prog_4_method_1_code 43 = .ok (.aload_n 0, 1) := by decide +kernel
theorem d_Cu_init_44 : decode prog_4_method_1_code 44 = .ok (.getfield 23, 3) := by decide +kernel
theorem d_Cu_init_47 : decode prog_4_method_1_code 47 = .ok (.iload_n 1, 1) := by decide +kernel
theorem d_Cu_init_48 : decode prog_4_method_1_code 48 = .ok (.new 21, 3) := by decide +kernel
theorem d_Cu_init_51 : decode prog_4_method_1_code 51 = .ok (.dup, 1) := by decide +kernel
theorem d_Cu_init_52 : decode prog_4_method_1_code 52 = .ok (.invokespecial 27, 3) := by decide +kernel
theorem d_Cu_init_55 : decode prog_4_method_1_code 55 = .ok (.aastore, 1) := by decide +kernel
theorem d_Cu_init_56 : decode prog_4_method_1_code 56 = .ok (.iinc 1 1, 3) := by decide +kernel
theorem d_Cu_init_59 : decode prog_4_method_1_code 59 = .ok (.goto (-21), 3) := by decide +kernel
theorem d_Cu_init_62 : decode prog_4_method_1_code 62 = .ok (.return_, 1) := by decide +kernel
theorem d_Po_init_0 : decode prog_10_method_1_code 0 = .ok (.aload_n 0, 1) := by decide +kernel
theorem d_Po_init_1 : decode prog_10_method_1_code 1 = .ok (.invokespecial 3, 3) := by decide +kernel
theorem d_Po_init_4 : decode prog_10_method_1_code 4 = .ok (.aload_n 0, 1) := by decide +kernel
theorem d_Po_init_5 : decode prog_10_method_1_code 5 = .ok (.iconst 3, 1) := by decide +kernel
theorem d_Po_init_6 : decode prog_10_method_1_code 6 = .ok (.newarray .int, 2) := by decide +kernel
theorem d_Po_init_8 : decode prog_10_method_1_code 8 = .ok (.putfield 9, 3) := by decide +kernel
theorem d_Po_init_11 : decode prog_10_method_1_code 11 = .ok (.aload_n 0, 1) := by decide +kernel
theorem d_Po_init_12 : decode prog_10_method_1_code 12 = .ok (.iconst 3, 1) := by decide +kernel
theorem d_Po_init_13 : decode prog_10_method_1_code 13 = .ok (.newarray .int, 2) := by decide +kernel
theorem d_Po_init_15 : decode prog_10_method_1_code 15 = .ok (.putfield 15, 3) := by decide +kernel
theorem d_Po_init_18 : decode prog_10_method_1_code 18 = .ok (.aload_n 0, 1) := by decide +kernel
theorem d_Po_init_19 : decode prog_10_method_1_code 19 = .ok (.iconst 3, 1) := by decide +kernel
theorem d_Po_init_20 : decode prog_10_method_1_code 20 = .ok (.newarray .int, 2) := by decide +kernel
theorem d_Po_init_22 : decode prog_10_method_1_code 22 = .ok (.putfield 18, 3) := by decide +kernel
theorem d_Po_init_25 : decode prog_10_method_1_code 25 = .ok (.return_, 1) := by decide +kernel
theorem d_Fr_init_0 : decode prog_5_method_1_code 0 = .ok (.aload_n 0, 1) := by decide +kernel
theorem d_Fr_init_1 : decode prog_5_method_1_code 1 = .ok (.invokespecial 3, 3) := by decide +kernel
theorem d_Fr_init_4 : decode prog_5_method_1_code 4 = .ok (.aload_n 0, 1) := by decide +kernel
theorem d_Fr_init_5 : decode prog_5_method_1_code 5 = .ok (.iconst 4, 1) := by decide +kernel
theorem d_Fr_init_6 : decode prog_5_method_1_code 6 = .ok (.newarray .int, 2) := by decide +kernel
theorem d_Fr_init_8 : decode prog_5_method_1_code 8 = .ok (.putfield 9, 3) := by decide +kernel
theorem d_Fr_init_11 : decode prog_5_method_1_code 11 = .ok (.aload_n 0, 1) := by decide +kernel
theorem d_Fr_init_12 : decode prog_5_method_1_code 12 = .ok (.bipush 6, 2) := by decide +kernel
theorem d_Fr_init_14 : decode prog_5_method_1_code 14 = .ok (.newarray .int, 2) := by decide +kernel
theorem d_Fr_init_16 : decode prog_5_method_1_code 16 = .ok (.putfield 15, 3) := by decide +kernel
theorem d_Fr_init_19 : decode prog_5_method_1_code 19 = .ok (.return_, 1) := by decide +kernel
theorem d_Sy_init_0 : decode prog_11_method_1_code 0 = .ok (.aload_n 0, 1) := by decide +kernel
theorem d_Sy_init_1 : decode prog_11_method_1_code 1 = .ok (.invokespecial 3, 3) := by decide +kernel
theorem d_Sy_init_4 : decode prog_11_method_1_code 4 = .ok (.aload_n 0, 1) := by decide +kernel
theorem d_Sy_init_5 : decode prog_11_method_1_code 5 = .ok (.iconst 5, 1) := by decide +kernel
theorem d_Sy_init_6 : decode prog_11_method_1_code 6 = .ok (.newarray .int, 2) := by decide +kernel
theorem d_Sy_init_8 : decode prog_11_method_1_code 8 = .ok (.putfield 9, 3) := by decide +kernel
theorem d_Sy_init_11 : decode prog_11_method_1_code 11 = .ok (.aload_n 0, 1) := by decide +kernel
theorem d_Sy_init_12 : decode prog_11_method_1_code 12 = .ok (.iconst 5, 1) := by decide +kernel
theorem d_Sy_init_13 : decode prog_11_method_1_code 13 = .ok (.newarray .long, 2) := by decide +kernel
theorem d_Sy_init_15 : decode prog_11_method_1_code 15 = .ok (.putfield 15, 3) := by decide +kernel
theorem d_Sy_init_18 : decode prog_11_method_1_code 18 = .ok (.return_, 1) := by decide +kernel
theorem d_CC_put_0 : decode prog_1_method_2_code 0 = .ok (.aload_n 0, 1) := by decide +kernel
theorem d_CC_put_1 : decode prog_1_method_2_code 1 = .ok (.iload_n 1, 1) := by decide +kernel
theorem d_CC_put_2 : decode prog_1_method_2_code 2 = .ok (.invokevirtual 38, 3) := by decide +kernel
theorem d_CC_put_5 : decode prog_1_method_2_code 5 = .ok (.astore 4, 2) := by decide +kernel
theorem d_CC_put_7 : decode prog_1_method_2_code 7 = .ok (.aload 4, 2) := by decide +kernel
theorem d_CC_put_9 : decode prog_1_method_2_code 9 = .ok (.ifnull 26, 3) := by decide +kernel
theorem d_CC_put_12 : decode prog_1_method_2_code 12 = .ok (.iload_n 2, 1) := by decide +kernel
theorem d_CC_put_13 : decode prog_1_method_2_code 13 = .ok (.iconst 0, 1) := by decide +kernel
theorem d_CC_put_14 : decode prog_1_method_2_code 14 = .ok (.bipush 14, 2) := by decide +kernel
theorem d_CC_put_16 : decode prog_1_method_2_code 16 = .ok (.invokestatic 42, 3) := by decide +kernel
theorem d_CC_put_19 : decode prog_1_method_2_code 19 = .ok (.ifCond .eq 16, 3) := by decide +kernel
theorem d_CC_put_22 : decode prog_1_method_2_code 22 = .ok (.iload_n 3, 1) := by decide +kernel
theorem d_CC_put_23 : decode prog_1_method_2_code 23 = .ok (.sipush (-1000), 3) := by decide +kernel
theorem d_CC_put_26 : decode prog_1_method_2_code 26 = .ok (.sipush 1000, 3) := by decide +kernel
theorem d_CC_put_29 : decode prog_1_method_2_code 29 = .ok (.invokestatic 42, 3) := by decide +kernel
theorem d_CC_put_32 : decode prog_1_method_2_code 32 = .ok (.ifCond .ne 5, 3) := by decide +kernel
theorem d_CC_put_35 : decode prog_1_method_2_code 35 = .ok (.iconst (-1), 1) := by decide +kernel
theorem d_CC_put_36 : decode prog_1_method_2_code 36 = .ok (.ireturn, 1) := by decide +kernel
theorem d_CC_put_37 : decode prog_1_method_2_code 37 = .ok (.aload_n 0, 1) := by decide +kernel
theorem d_CC_put_38 : decode prog_1_method_2_code 38 = .ok (.iload_n 1, 1) := by decide +kernel
theorem d_CC_put_39 : decode prog_1_method_2_code 39 = .ok (.aload 4, 2) := by decide +kernel
theorem d_CC_put_41 : decode prog_1_method_2_code 41 = .ok (.iload_n 2, 1) := by decide +kernel
theorem d_CC_put_42 : decode prog_1_method_2_code 42 = .ok (.iload_n 3, 1) := by decide +kernel
theorem d_CC_put_43 : decode prog_1_method_2_code 43 = .ok (.invokevirtual 46, 3) := by decide +kernel
theorem d_CC_put_46 : decode prog_1_method_2_code 46 = .ok (.invokevirtual 50, 3) := by decide +kernel
theorem d_CC_put_49 : decode prog_1_method_2_code 49 = .ok (.ifCond .eq 13, 3) := by decide +kernel
theorem d_CC_put_52 : decode prog_1_method_2_code 52 = .ok (.aload 4, 2) := by decide +kernel
theorem d_CC_put_54 : decode prog_1_method_2_code 54 = .ok (.getfield 54, 3) := by decide +kernel
theorem d_CC_put_57 : decode prog_1_method_2_code 57 = .ok (.iconst 1, 1) := by decide +kernel
theorem d_CC_put_58 : decode prog_1_method_2_code 58 = .ok (.isub, 1) := by decide +kernel
theorem d_CC_put_59 : decode prog_1_method_2_code 59 = .ok (.goto 4, 3) := by decide +kernel
theorem d_CC_put_62 : decode prog_1_method_2_code 62 = .ok (.iconst (-1), 1) := by decide +kernel
theorem d_CC_put_63 : decode prog_1_method_2_code 63 = .ok (.ireturn, 1) := by decide +kernel
theorem d_CC_methodAt_0 : decode prog_1_method_15_code 0 = .ok (.iload_n 1, 1) := by decide +kernel
theorem d_CC_methodAt_1 : decode prog_1_method_15_code 1 = .ok (.ifCond .lt 17, 3) := by decide +kernel
theorem d_CC_methodAt_4 : decode prog_1_method_15_code 4 = .ok (.iload_n 1, 1) := by decide +kernel
theorem d_CC_methodAt_5 : decode prog_1_method_15_code 5 = .ok (.iconst 4, 1) := by decide +kernel
theorem d_CC_methodAt_6 : decode prog_1_method_15_code 6 = .ok (.if_icmp .ge 12, 3) := by decide +kernel
theorem d_CC_methodAt_9 : decode prog_1_method_15_code 9 = .ok (.aload_n 0, 1) := by decide +kernel
theorem d_CC_methodAt_10 : decode prog_1_method_15_code 10 = .ok (.getfield 14, 3) := by decide +kernel
theorem d_CC_methodAt_13 : decode prog_1_method_15_code 13 = .ok (.iload_n 1, 1) := by decide +kernel
theorem d_CC_methodAt_14 : decode prog_1_method_15_code 14 = .ok (.aaload, 1) := by decide +kernel
theorem d_CC_methodAt_15 : decode prog_1_method_15_code 15 = .ok (.goto 4, 3) := by decide +kernel
theorem d_CC_methodAt_18 : decode prog_1_method_15_code 18 = .ok (.aconst_null, 1) := by decide +kernel
theorem d_CC_methodAt_19 : decode prog_1_method_15_code 19 = .ok (.areturn, 1) := by decide +kernel
theorem d_CC_isBetween_0 : decode prog_1_method_19_code 0 = .ok (.iload_n 0, 1) := by decide +kernel
theorem d_CC_isBetween_1 : decode prog_1_method_19_code 1 = .ok (.iload_n 1, 1) := by decide +kernel
theorem d_CC_isBetween_2 : decode prog_1_method_19_code 2 = .ok (.if_icmp .lt 12, 3) := by decide +kernel
theorem d_CC_isBetween_5 : decode prog_1_method_19_code 5 = .ok (.iload_n 0, 1) := by decide +kernel
theorem d_CC_isBetween_6 : decode prog_1_method_19_code 6 = .ok (.iload_n 2, 1) := by decide +kernel
theorem d_CC_isBetween_7 : decode prog_1_method_19_code 7 = .ok (.if_icmp .gt 7, 3) := by decide +kernel
theorem d_CC_isBetween_10 : decode prog_1_method_19_code 10 = .ok (.iconst 1, 1) := by decide +kernel
theorem d_CC_isBetween_11 : decode prog_1_method_19_code 11 = .ok (.goto 4, 3) := by decide +kernel
theorem d_CC_isBetween_14 : decode prog_1_method_19_code 14 = .ok (.iconst 0, 1) := by decide +kernel
theorem d_CC_isBetween_15 : decode prog_1_method_19_code 15 = .ok (.ireturn, 1) := by decide +kernel
theorem d_Me_append_0 : decode prog_8_method_3_code 0 = .ok (.aload_n 0, 1) := by decide +kernel
theorem d_Me_append_1 : decode prog_8_method_3_code 1 = .ok (.getfield 32, 3) := by decide +kernel
theorem d_Me_append_4 : decode prog_8_method_3_code 4 = .ok (.bipush 24, 2) := by decide +kernel
theorem d_Me_append_6 : decode prog_8_method_3_code 6 = .ok (.if_icmp .lt 5, 3) := by decide +kernel
theorem d_Me_append_9 : decode prog_8_method_3_code 9 = .ok (.iconst 0, 1) := by decide +kernel
theorem d_Me_append_10 : decode prog_8_method_3_code 10 = .ok (.ireturn, 1) := by decide +kernel
theorem d_Me_append_11 : decode prog_8_method_3_code 11 = .ok (.aload_n 0, 1) := by decide +kernel
theorem d_Me_append_12 : decode prog_8_method_3_code 12 = .ok (.getfield 9, 3) := by decide +kernel
theorem d_Me_append_15 : decode prog_8_method_3_code 15 = .ok (.aload_n 0, 1) := by decide +kernel
theorem d_Me_append_16 : decode prog_8_method_3_code 16 = .ok (.getfield 32, 3) := by decide +kernel
theorem d_Me_append_19 : decode prog_8_method_3_code 19 = .ok (.iload_n 1, 1) := by decide +kernel
theorem d_Me_append_20 : decode prog_8_method_3_code 20 = .ok (.iastore, 1) := by decide +kernel
theorem d_Me_append_21 : decode prog_8_method_3_code 21 = .ok (.aload_n 0, 1) := by decide +kernel
theorem d_Me_append_22 : decode prog_8_method_3_code 22 = .ok (.getfield 15, 3) := by decide +kernel
theorem d_Me_append_25 : decode prog_8_method_3_code 25 = .ok (.aload_n 0, 1) := by decide +kernel
theorem d_Me_append_26 : decode prog_8_method_3_code 26 = .ok (.getfield 32, 3) := by decide +kernel
theorem d_Me_append_29 : decode prog_8_method_3_code 29 = .ok (.iload_n 2, 1) := by decide +kernel
theorem d_Me_append_30 : decode prog_8_method_3_code 30 = .ok (.iastore, 1) := by decide +kernel
theorem d_Me_append_31 : decode prog_8_method_3_code 31 = .ok (.aload_n 0, 1) := by decide +kernel
theorem d_Me_append_32 : decode prog_8_method_3_code 32 = .ok (.dup, 1) := by decide +kernel
theorem d_Me_append_33 : decode prog_8_method_3_code 33 = .ok (.getfield 32, 3) := by decide +kernel
theorem d_Me_append_36 : decode prog_8_method_3_code 36 = .ok (.iconst 1, 1) := by decide +kernel
theorem d_Me_append_37 : decode prog_8_method_3_code 37 = .ok (.iadd, 1) := by decide +kernel
theorem d_Me_append_38 : decode prog_8_method_3_code 38 = .ok (.putfield 32, 3) := by decide +kernel
theorem d_Me_append_41 : decode prog_8_method_3_code 41 = .ok (.iconst 1, 1) := by decide +kernel
theorem d_Me_append_42 : decode prog_8_method_3_code 42 = .ok (.ireturn, 1) := by decide +kernel
theorem d_CC_noteChange_0 : decode prog_1_method_17_code 0 = .ok (.iload_n 2, 1) := by decide +kernel
theorem d_CC_noteChange_1 : decode prog_1_method_17_code 1 = .ok (.ifCond .eq 26, 3) := by decide +kernel
theorem d_CC_noteChange_4 : decode prog_1_method_17_code 4 = .ok (.iload_n 1, 1) := by decide +kernel
theorem d_CC_noteChange_5 : decode prog_1_method_17_code 5 = .ok (.istore_n 3, 1) := by decide +kernel
theorem d_CC_noteChange_6 : decode prog_1_method_17_code 6 = .ok (.iload_n 3, 1) := by decide +kernel
theorem d_CC_noteChange_7 : decode prog_1_method_17_code 7 = .ok (.iconst 4, 1) := by decide +kernel
theorem d_CC_noteChange_8 : decode prog_1_method_17_code 8 = .ok (.if_icmp .ge 19, 3) := by decide +kernel
theorem d_CC_noteChange_11 : decode prog_1_method_17_code 11 = .ok (.aload_n 0, 1) := by decide +kernel
theorem d_CC_noteChange_12 : decode prog_1_method_17_code 12 = .ok (.getfield 14, 3) := by decide +kernel
theorem d_CC_noteChange_15 : decode prog_1_method_17_code 15 = .ok (.iload_n 3, 1) := by decide +kernel
theorem d_CC_noteChange_16 : decode prog_1_method_17_code 16 = .ok (.aaload, 1) := by decide +kernel
theorem d_CC_noteChange_17 : decode prog_1_method_17_code 17 = .ok (.iconst 0, 1) := by decide +kernel
theorem d_CC_noteChange_18 : decode prog_1_method_17_code 18 = .ok (.putfield 96, 3) := by decide +kernel
theorem d_CC_noteChange_21 : decode prog_1_method_17_code 21 = .ok (.iinc 3 1, 3) := by decide +kernel
theorem d_CC_noteChange_24 : decode prog_1_method_17_code 24 = .ok (.goto (-18), 3) := by decide +kernel
theorem d_CC_noteChange_27 : decode prog_1_method_17_code 27 = .ok (.iload_n 2, 1) := by decide +kernel
theorem d_CC_noteChange_28 : decode prog_1_method_17_code 28 = .ok (.ireturn, 1) := by decide +kernel
theorem d_CC_clear_0 : decode prog_1_method_3_code 0 = .ok (.aload_n 0, 1) := by decide +kernel
theorem d_CC_clear_1 : decode prog_1_method_3_code 1 = .ok (.iload_n 1, 1) := by decide +kernel
theorem d_CC_clear_2 : decode prog_1_method_3_code 2 = .ok (.invokevirtual 38, 3) := by decide +kernel
theorem d_CC_clear_5 : decode prog_1_method_3_code 5 = .ok (.astore_n 2, 1) := by decide +kernel
theorem d_CC_clear_6 : decode prog_1_method_3_code 6 = .ok (.aload_n 2, 1) := by decide +kernel
theorem d_CC_clear_7 : decode prog_1_method_3_code 7 = .ok (.ifnonnull 5, 3) := by decide +kernel
theorem d_CC_clear_10 : decode prog_1_method_3_code 10 = .ok (.iconst 0, 1) := by decide +kernel
theorem d_CC_clear_11 : decode prog_1_method_3_code 11 = .ok (.ireturn, 1) := by decide +kernel
theorem d_CC_clear_12 : decode prog_1_method_3_code 12 = .ok (.aload_n 2, 1) := by decide +kernel
theorem d_CC_clear_13 : decode prog_1_method_3_code 13 = .ok (.invokevirtual 58, 3) := by decide +kernel
theorem d_CC_clear_16 : decode prog_1_method_3_code 16 = .ok (.aload_n 0, 1) := by decide +kernel
theorem d_CC_clear_17 : decode prog_1_method_3_code 17 = .ok (.iload_n 1, 1) := by decide +kernel
theorem d_CC_clear_18 : decode prog_1_method_3_code 18 = .ok (.iconst 1, 1) := by decide +kernel
theorem d_CC_clear_19 : decode prog_1_method_3_code 19 = .ok (.invokevirtual 50, 3) := by decide +kernel
theorem d_CC_clear_22 : decode prog_1_method_3_code 22 = .ok (.ireturn, 1) := by decide +kernel
theorem d_Me_reset_0 : decode prog_8_method_2_code 0 = .ok (.aload_n 0, 1) := by decide +kernel
theorem d_Me_reset_1 : decode prog_8_method_2_code 1 = .ok (.iconst 0, 1) := by decide +kernel
theorem d_Me_reset_2 : decode prog_8_method_2_code 2 = .ok (.putfield 32, 3) := by decide +kernel
theorem d_Me_reset_5 : decode prog_8_method_2_code 5 = .ok (.aload_n 0, 1) := by decide +kernel
theorem d_Me_reset_6 : decode prog_8_method_2_code 6 = .ok (.iconst 1, 1) := by decide +kernel
theorem d_Me_reset_7 : decode prog_8_method_2_code 7 = .ok (.putfield 29, 3) := by decide +kernel
theorem d_Me_reset_10 : decode prog_8_method_2_code 10 = .ok (.aload_n 0, 1) := by decide +kernel
theorem d_Me_reset_11 : decode prog_8_method_2_code 11 = .ok (.getfield 20, 3) := by decide +kernel
theorem d_Me_reset_14 : decode prog_8_method_2_code 14 = .ok (.iconst 0, 1) := by decide +kernel
theorem d_Me_reset_15 : decode prog_8_method_2_code 15 = .ok (.aaload, 1) := by decide +kernel
theorem d_Me_reset_16 : decode prog_8_method_2_code 16 = .ok (.iconst 0, 1) := by decide +kernel
theorem d_Me_reset_17 : decode prog_8_method_2_code 17 = .ok (.invokevirtual 35, 3) := by decide +kernel
theorem d_Me_reset_20 : decode prog_8_method_2_code 20 = .ok (.return_, 1) := by decide +kernel
theorem d_Cu_reset_0 : decode prog_4_method_2_code 0 = .ok (.aload_n 0, 1) := by decide +kernel
theorem d_Cu_reset_1 : decode prog_4_method_2_code 1 = .ok (.iload_n 1, 1) := by decide +kernel
theorem d_Cu_reset_2 : decode prog_4_method_2_code 2 = .ok (.putfield 28, 3) := by decide +kernel
theorem d_Cu_reset_5 : decode prog_4_method_2_code 5 = .ok (.aload_n 0, 1) := by decide +kernel
theorem d_Cu_reset_6 : decode prog_4_method_2_code 6 = .ok (.iconst 0, 1) := by decide +kernel
theorem d_Cu_reset_7 : decode prog_4_method_2_code 7 = .ok (.putfield 32, 3) := by decide +kernel
theorem d_Cu_reset_10 : decode prog_4_method_2_code 10 = .ok (.iconst 0, 1) := by decide +kernel
theorem d_Cu_reset_11 : decode prog_4_method_2_code 11 = .ok (.istore_n 2, 1) := by decide +kernel
theorem d_Cu_reset_12 : decode prog_4_method_2_code 12 = .ok (.iload_n 2, 1) := by decide +kernel
theorem d_Cu_reset_13 : decode prog_4_method_2_code 13 = .ok (.iconst 2, 1) := by decide +kernel
theorem d_Cu_reset_14 : decode prog_4_method_2_code 14 = .ok (.if_icmp .ge 18, 3) := by decide +kernel
theorem d_Cu_reset_17 : decode prog_4_method_2_code 17 = .ok (.aload_n 0, 1) := by decide +kernel
theorem d_Cu_reset_18 : decode prog_4_method_2_code 18 = .ok (.getfield 23, 3) := by decide +kernel
theorem d_Cu_reset_21 : decode prog_4_method_2_code 21 = .ok (.iload_n 2, 1) := by decide +kernel
theorem d_Cu_reset_22 : decode prog_4_method_2_code 22 = .ok (.aaload, 1) := by decide +kernel
theorem d_Cu_reset_23 : decode prog_4_method_2_code 23 = .ok (.invokevirtual 35, 3) := by decide +kernel
theorem d_Cu_reset_26 : decode prog_4_method_2_code 26 = .ok (.iinc 2 1, 3) := by decide +kernel
theorem d_Cu_reset_29 : decode prog_4_method_2_code 29 = .ok (.goto (-17), 3) := by decide +kernel
theorem d_Cu_reset_32 : decode prog_4_method_2_code 32 = .ok (.return_, 1) := by decide +kernel
theorem d_Po_reset_0 : decode prog_10_method_2_code 0 = .ok (.aload_n 0, 1) := by decide +kernel
theorem d_Po_reset_1 : decode prog_10_method_2_code 1 = .ok (.iconst 0, 1) := by decide +kernel
theorem d_Po_reset_2 : decode prog_10_method_2_code 2 = .ok (.putfield 21, 3) := by decide +kernel
theorem d_Po_reset_5 : decode prog_10_method_2_code 5 = .ok (.aload_n 0, 1) := by decide +kernel
theorem d_Po_reset_6 : decode prog_10_method_2_code 6 = .ok (.iconst 0, 1) := by decide +kernel
theorem d_Po_reset_7 : decode prog_10_method_2_code 7 = .ok (.putfield 25, 3) := by decide +kernel
theorem d_Po_reset_10 : decode prog_10_method_2_code 10 = .ok (.return_, 1) := by decide +kernel
theorem d_CC_cut_0 : decode prog_1_method_4_code 0 = .ok (.aload_n 0, 1) := by decide +kernel
theorem d_CC_cut_1 : decode prog_1_method_4_code 1 = .ok (.iload_n 1, 1) := by decide +kernel
theorem d_CC_cut_2 : decode prog_1_method_4_code 2 = .ok (.invokevirtual 38, 3) := by decide +kernel
theorem d_CC_cut_5 : decode prog_1_method_4_code 5 = .ok (.astore_n 3, 1) := by decide +kernel
theorem d_CC_cut_6 : decode prog_1_method_4_code 6 = .ok (.aload_n 3, 1) := by decide +kernel
theorem d_CC_cut_7 : decode prog_1_method_4_code 7 = .ok (.ifnull 20, 3) := by decide +kernel
theorem d_CC_cut_10 : decode prog_1_method_4_code 10 = .ok (.aload_n 0, 1) := by decide +kernel
theorem d_CC_cut_11 : decode prog_1_method_4_code 11 = .ok (.iload_n 1, 1) := by decide +kernel
theorem d_CC_cut_12 : decode prog_1_method_4_code 12 = .ok (.aload_n 3, 1) := by decide +kernel
theorem d_CC_cut_13 : decode prog_1_method_4_code 13 = .ok (.iload_n 2, 1) := by decide +kernel
theorem d_CC_cut_14 : decode prog_1_method_4_code 14 = .ok (.invokevirtual 61, 3) := by decide +kernel
theorem d_CC_cut_17 : decode prog_1_method_4_code 17 = .ok (.invokevirtual 50, 3) := by decide +kernel
theorem d_CC_cut_20 : decode prog_1_method_4_code 20 = .ok (.ifCond .eq 7, 3) := by decide +kernel
theorem d_CC_cut_23 : decode prog_1_method_4_code 23 = .ok (.iconst 1, 1) := by decide +kernel
theorem d_CC_cut_24 : decode prog_1_method_4_code 24 = .ok (.goto 4, 3) := by decide +kernel
theorem d_CC_cut_27 : decode prog_1_method_4_code 27 = .ok (.iconst 0, 1) := by decide +kernel
theorem d_CC_cut_28 : decode prog_1_method_4_code 28 = .ok (.ireturn, 1) := by decide +kernel
theorem d_Me_addCut_0 : decode prog_8_method_6_code 0 = .ok (.iload_n 1, 1) := by decide +kernel
theorem d_Me_addCut_1 : decode prog_8_method_6_code 1 = .ok (.iconst 0, 1) := by decide +kernel
theorem d_Me_addCut_2 : decode prog_8_method_6_code 2 = .ok (.bipush 23, 2) := by decide +kernel
theorem d_Me_addCut_4 : decode prog_8_method_6_code 4 = .ok (.invokestatic 42, 3) := by decide +kernel
theorem d_Me_addCut_7 : decode prog_8_method_6_code 7 = .ok (.ifCond .eq 20, 3) := by decide +kernel
theorem d_Me_addCut_10 : decode prog_8_method_6_code 10 = .ok (.aload_n 0, 1) := by decide +kernel
theorem d_Me_addCut_11 : decode prog_8_method_6_code 11 = .ok (.getfield 29, 3) := by decide +kernel
theorem d_Me_addCut_14 : decode prog_8_method_6_code 14 = .ok (.bipush 6, 2) := by decide +kernel
theorem d_Me_addCut_16 : decode prog_8_method_6_code 16 = .ok (.if_icmp .ge 11, 3) := by decide +kernel
theorem d_Me_addCut_19 : decode prog_8_method_6_code 19 = .ok (.aload_n 0, 1) := by decide +kernel
theorem d_Me_addCut_20 : decode prog_8_method_6_code 20 = .ok (.iload_n 1, 1) := by decide +kernel
theorem d_Me_addCut_21 : decode prog_8_method_6_code 21 = .ok (.invokevirtual 46, 3) := by decide +kernel
theorem d_Me_addCut_24 : decode prog_8_method_6_code 24 = .ok (.ifnull 5, 3) := by decide +kernel
theorem d_Me_addCut_27 : decode prog_8_method_6_code 27 = .ok (.iconst 0, 1) := by decide +kernel
theorem d_Me_addCut_28 : decode prog_8_method_6_code 28 = .ok (.ireturn, 1) := by decide +kernel
theorem d_Me_addCut_29 : decode prog_8_method_6_code 29 = .ok (.aload_n 0, 1) := by decide +kernel
theorem d_Me_addCut_30 : decode prog_8_method_6_code 30 = .ok (.getfield 20, 3) := by decide +kernel
theorem d_Me_addCut_33 : decode prog_8_method_6_code 33 = .ok (.aload_n 0, 1) := by decide +kernel
theorem d_Me_addCut_34 : decode prog_8_method_6_code 34 = .ok (.getfield 29, 3) := by decide +kernel
theorem d_Me_addCut_37 : decode prog_8_method_6_code 37 = .ok (.aaload, 1) := by decide +kernel
theorem d_Me_addCut_38 : decode prog_8_method_6_code 38 = .ok (.astore_n 2, 1) := by decide +kernel
theorem d_Me_addCut_39 : decode prog_8_method_6_code 39 = .ok (.aload_n 2, 1) := by decide +kernel
theorem d_Me_addCut_40 : decode prog_8_method_6_code 40 = .ok (.iload_n 1, 1) := by decide +kernel
theorem d_Me_addCut_41 : decode prog_8_method_6_code 41 = .ok (.invokevirtual 35, 3) := by decide +kernel
theorem d_Me_addCut_44 : decode prog_8_method_6_code 44 = .ok (.aload_n 0, 1) := by decide +kernel
theorem d_Me_addCut_45 : decode prog_8_method_6_code 45 = .ok (.getfield 29, 3) := by decide +kernel
theorem d_Me_addCut_48 : decode prog_8_method_6_code 48 = .ok (.istore_n 3, 1) := by decide +kernel
theorem d_Me_addCut_49 : decode prog_8_method_6_code 49 = .ok (.iload_n 3, 1) := by decide +kernel
theorem d_Me_addCut_50 : decode prog_8_method_6_code 50 = .ok (.ifCond .le 38, 3) := by decide +kernel
theorem d_Me_addCut_53 : decode prog_8_method_6_code 53 = .ok (.aload_n 0, 1) := by decide +kernel
theorem d_Me_addCut_54 : decode prog_8_method_6_code 54 = .ok (.getfield 20, 3) := by decide +kernel
theorem d_Me_addCut_57 : decode prog_8_method_6_code 57 = .ok (.iload_n 3, 1) := by decide +kernel
theorem d_Me_addCut_58 : decode prog_8_method_6_code 58 = .ok (.iconst 1, 1) := by decide +kernel
theorem d_Me_addCut_59 : decode prog_8_method_6_code 59 = .ok (.isub, 1) := by decide +kernel
theorem d_Me_addCut_60 : decode prog_8_method_6_code 60 = .ok (.aaload, 1) := by decide +kernel
theorem d_Me_addCut_61 : decode prog_8_method_6_code 61 = .ok (.getfield 39, 3) := by decide +kernel
theorem d_Me_addCut_64 : decode prog_8_method_6_code 64 = .ok (.iload_n 1, 1) := by decide +kernel
theorem d_Me_addCut_65 : decode prog_8_method_6_code 65 = .ok (.if_icmp .le 23, 3) := by decide +kernel
theorem d_Me_addCut_68 : decode prog_8_method_6_code 68 = .ok (.aload_n 0, 1) := by decide +kernel
theorem d_Me_addCut_69 : decode prog_8_method_6_code 69 = .ok (.getfield 20, 3) := by decide +kernel
theorem d_Me_addCut_72 : decode prog_8_method_6_code 72 = .ok (.iload_n 3, 1) := by decide +kernel
theorem d_Me_addCut_73 : decode prog_8_method_6_code 73 = .ok (.aload_n 0, 1) := by decide +kernel
theorem d_Me_addCut_74 : decode prog_8_method_6_code 74 = .ok (.getfield 20, 3) := by decide +kernel
theorem d_Me_addCut_77 : decode prog_8_method_6_code 77 = .ok (.iload_n 3, 1) := by decide +kernel
theorem d_Me_addCut_78 : decode prog_8_method_6_code 78 = .ok (.iconst 1, 1) := by decide +kernel
theorem d_Me_addCut_79 : decode prog_8_method_6_code 79 = .ok (.isub, 1) := by decide +kernel
theorem d_Me_addCut_80 : decode prog_8_method_6_code 80 = .ok (.aaload, 1) := by decide +kernel
theorem d_Me_addCut_81 : decode prog_8_method_6_code 81 = .ok (.aastore, 1) := by decide +kernel
theorem d_Me_addCut_82 : decode prog_8_method_6_code 82 = .ok (.iinc 3 (-1), 3) := by decide +kernel
theorem d_Me_addCut_85 : decode prog_8_method_6_code 85 = .ok (.goto (-36), 3) := by decide +kernel
theorem d_Me_addCut_88 : decode prog_8_method_6_code 88 = .ok (.aload_n 0, 1) := by decide +kernel
theorem d_Me_addCut_89 : decode prog_8_method_6_code 89 = .ok (.getfield 20, 3) := by decide +kernel
theorem d_Me_addCut_92 : decode prog_8_method_6_code 92 = .ok (.iload_n 3, 1) := by decide +kernel
theorem d_Me_addCut_93 : decode prog_8_method_6_code 93 = .ok (.aload_n 2, 1) := by decide +kernel
theorem d_Me_addCut_94 : decode prog_8_method_6_code 94 = .ok (.aastore, 1) := by decide +kernel
theorem d_Me_addCut_95 : decode prog_8_method_6_code 95 = .ok (.aload_n 0, 1) := by decide +kernel
theorem d_Me_addCut_96 : decode prog_8_method_6_code 96 = .ok (.dup, 1) := by decide +kernel
theorem d_Me_addCut_97 : decode prog_8_method_6_code 97 = .ok (.getfield 29, 3) := by decide +kernel
theorem d_Me_addCut_100 : decode prog_8_method_6_code 100 = .ok (.iconst 1, 1) := by decide +kernel
theorem d_Me_addCut_101 : decode prog_8_method_6_code 101 = .ok (.iadd, 1) := by decide +kernel
theorem d_Me_addCut_102 : decode prog_8_method_6_code 102 = .ok (.putfield 29, 3) := by decide +kernel
theorem d_Me_addCut_105 : decode prog_8_method_6_code 105 = .ok (.iconst 1, 1) := by decide +kernel
theorem d_Me_addCut_106 : decode prog_8_method_6_code 106 = .ok (.ireturn, 1) := by decide +kernel
theorem d_Me_findCut_0 : decode prog_8_method_5_code 0 = .ok (.iconst 0, 1) := by decide +kernel
theorem d_Me_findCut_1 : decode prog_8_method_5_code 1 = .ok (.istore_n 2, 1) := by decide +kernel
theorem d_Me_findCut_2 : decode prog_8_method_5_code 2 = .ok (.iload_n 2, 1) := by decide +kernel
theorem d_Me_findCut_3 : decode prog_8_method_5_code 3 = .ok (.aload_n 0, 1) := by decide +kernel
theorem d_Me_findCut_4 : decode prog_8_method_5_code 4 = .ok (.getfield 29, 3) := by decide +kernel
theorem d_Me_findCut_7 : decode prog_8_method_5_code 7 = .ok (.if_icmp .ge 29, 3) := by decide +kernel
theorem d_Me_findCut_10 : decode prog_8_method_5_code 10 = .ok (.aload_n 0, 1) := by decide +kernel
theorem d_Me_findCut_11 : decode prog_8_method_5_code 11 = .ok (.getfield 20, 3) := by decide +kernel
theorem d_Me_findCut_14 : decode prog_8_method_5_code 14 = .ok (.iload_n 2, 1) := by decide +kernel
theorem d_Me_findCut_15 : decode prog_8_method_5_code 15 = .ok (.aaload, 1) := by decide +kernel
theorem d_Me_findCut_16 : decode prog_8_method_5_code 16 = .ok (.getfield 39, 3) := by decide +kernel
theorem d_Me_findCut_19 : decode prog_8_method_5_code 19 = .ok (.iload_n 1, 1) := by decide +kernel
theorem d_Me_findCut_20 : decode prog_8_method_5_code 20 = .ok (.if_icmp .ne 10, 3) := by decide +kernel
theorem d_Me_findCut_23 : decode prog_8_method_5_code 23 = .ok (.aload_n 0, 1) := by decide +kernel
theorem d_Me_findCut_24 : decode prog_8_method_5_code 24 = .ok (.getfield 20, 3) := by decide +kernel
theorem d_Me_findCut_27 : decode prog_8_method_5_code 27 = .ok (.iload_n 2, 1) := by decide +kernel
theorem d_Me_findCut_28 : decode prog_8_method_5_code 28 = .ok (.aaload, 1) := by decide +kernel
theorem d_Me_findCut_29 : decode prog_8_method_5_code 29 = .ok (.areturn, 1) := by decide +kernel
theorem d_Me_findCut_30 : decode prog_8_method_5_code 30 = .ok (.iinc 2 1, 3) := by decide +kernel
theorem d_Me_findCut_33 : decode prog_8_method_5_code 33 = .ok (.goto (-31), 3) := by decide +kernel
theorem d_Me_findCut_36 : decode prog_8_method_5_code 36 = .ok (.aconst_null, 1) := by decide +kernel
theorem d_Me_findCut_37 : decode prog_8_method_5_code 37 = .ok (.areturn, 1) := by decide +kernel
theorem d_CC_claim_0 : decode prog_1_method_5_code 0 = .ok (.aload_n 0, 1) := by decide +kernel
theorem d_CC_claim_1 : decode prog_1_method_5_code 1 = .ok (.iload_n 1, 1) := by decide +kernel
theorem d_CC_claim_2 : decode prog_1_method_5_code 2 = .ok (.iload_n 2, 1) := by decide +kernel
theorem d_CC_claim_3 : decode prog_1_method_5_code 3 = .ok (.invokevirtual 65, 3) := by decide +kernel
theorem d_CC_claim_6 : decode prog_1_method_5_code 6 = .ok (.astore 6, 2) := by decide +kernel
theorem d_CC_claim_8 : decode prog_1_method_5_code 8 = .ok (.aload 6, 2) := by decide +kernel
theorem d_CC_claim_10 : decode prog_1_method_5_code 10 = .ok (.ifnull 26, 3) := by decide +kernel
theorem d_CC_claim_13 : decode prog_1_method_5_code 13 = .ok (.iload_n 3, 1) := by decide +kernel
theorem d_CC_claim_14 : decode prog_1_method_5_code 14 = .ok (.iload 4, 2) := by decide +kernel
theorem d_CC_claim_16 : decode prog_1_method_5_code 16 = .ok (.invokestatic 69, 3) := by decide +kernel
theorem d_CC_claim_19 : decode prog_1_method_5_code 19 = .ok (.ifCond .eq 17, 3) := by decide +kernel
theorem d_CC_claim_22 : decode prog_1_method_5_code 22 = .ok (.iload 5, 2) := by decide +kernel
theorem d_CC_claim_24 : decode prog_1_method_5_code 24 = .ok (.sipush (-1000), 3) := by decide +kernel
theorem d_CC_claim_27 : decode prog_1_method_5_code 27 = .ok (.sipush 1000, 3) := by decide +kernel
theorem d_CC_claim_30 : decode prog_1_method_5_code 30 = .ok (.invokestatic 42, 3) := by decide +kernel
theorem d_CC_claim_33 : decode prog_1_method_5_code 33 = .ok (.ifCond .ne 5, 3) := by decide +kernel
theorem d_CC_claim_36 : decode prog_1_method_5_code 36 = .ok (.iconst 0, 1) := by decide +kernel
theorem d_CC_claim_37 : decode prog_1_method_5_code 37 = .ok (.ireturn, 1) := by decide +kernel
theorem d_CC_claim_38 : decode prog_1_method_5_code 38 = .ok (.aload_n 0, 1) := by decide +kernel
theorem d_CC_claim_39 : decode prog_1_method_5_code 39 = .ok (.iload_n 1, 1) := by decide +kernel
theorem d_CC_claim_40 : decode prog_1_method_5_code 40 = .ok (.aload 6, 2) := by decide +kernel
theorem d_CC_claim_42 : decode prog_1_method_5_code 42 = .ok (.iload_n 3, 1) := by decide +kernel
theorem d_CC_claim_43 : decode prog_1_method_5_code 43 = .ok (.iload 4, 2) := by decide +kernel
theorem d_CC_claim_45 : decode prog_1_method_5_code 45 = .ok (.iload 5, 2) := by decide +kernel
theorem d_CC_claim_47 : decode prog_1_method_5_code 47 = .ok (.invokevirtual 72, 3) := by decide +kernel
theorem d_CC_claim_50 : decode prog_1_method_5_code 50 = .ok (.invokevirtual 50, 3) := by decide +kernel
theorem d_CC_claim_53 : decode prog_1_method_5_code 53 = .ok (.ireturn, 1) := by decide +kernel
theorem d_CC_cutAt_0 : decode prog_1_method_16_code 0 = .ok (.aload_n 0, 1) := by decide +kernel
theorem d_CC_cutAt_1 : decode prog_1_method_16_code 1 = .ok (.iload_n 1, 1) := by decide +kernel
theorem d_CC_cutAt_2 : decode prog_1_method_16_code 2 = .ok (.invokevirtual 38, 3) := by decide +kernel
theorem d_CC_cutAt_5 : decode prog_1_method_16_code 5 = .ok (.astore_n 3, 1) := by decide +kernel
theorem d_CC_cutAt_6 : decode prog_1_method_16_code 6 = .ok (.aload_n 3, 1) := by decide +kernel
theorem d_CC_cutAt_7 : decode prog_1_method_16_code 7 = .ok (.ifnonnull 7, 3) := by decide +kernel
theorem d_CC_cutAt_10 : decode prog_1_method_16_code 10 = .ok (.aconst_null, 1) := by decide +kernel
theorem d_CC_cutAt_11 : decode prog_1_method_16_code 11 = .ok (.goto 8, 3) := by decide +kernel
theorem d_CC_cutAt_14 : decode prog_1_method_16_code 14 = .ok (.aload_n 3, 1) := by decide +kernel
theorem d_CC_cutAt_15 : decode prog_1_method_16_code 15 = .ok (.iload_n 2, 1) := by decide +kernel
theorem d_CC_cutAt_16 : decode prog_1_method_16_code 16 = .ok (.invokevirtual 146, 3) := by decide +kernel
theorem d_CC_cutAt_19 : decode prog_1_method_16_code 19 = .ok (.areturn, 1) := by decide +kernel
theorem d_CC_areTwoSides_0 : decode prog_1_method_23_code 0 = .ok (.iload_n 0, 1) := by decide +kernel
theorem d_CC_areTwoSides_1 : decode prog_1_method_23_code 1 = .ok (.iconst 0, 1) := by decide +kernel
theorem d_CC_areTwoSides_2 : decode prog_1_method_23_code 2 = .ok (.iconst 4, 1) := by decide +kernel
theorem d_CC_areTwoSides_3 : decode prog_1_method_23_code 3 = .ok (.invokestatic 42, 3) := by decide +kernel
theorem d_CC_areTwoSides_6 : decode prog_1_method_23_code 6 = .ok (.ifCond .eq 21, 3) := by decide +kernel
theorem d_CC_areTwoSides_9 : decode prog_1_method_23_code 9 = .ok (.iload_n 1, 1) := by decide +kernel
theorem d_CC_areTwoSides_10 : decode prog_1_method_23_code 10 = .ok (.iconst 0, 1) := by decide +kernel
theorem d_CC_areTwoSides_11 : decode prog_1_method_23_code 11 = .ok (.iconst 4, 1) := by decide +kernel
theorem d_CC_areTwoSides_12 : decode prog_1_method_23_code 12 = .ok (.invokestatic 42, 3) := by decide +kernel
theorem d_CC_areTwoSides_15 : decode prog_1_method_23_code 15 = .ok (.ifCond .eq 12, 3) := by decide +kernel
theorem d_CC_areTwoSides_18 : decode prog_1_method_23_code 18 = .ok (.iload_n 0, 1) := by decide +kernel
theorem d_CC_areTwoSides_19 : decode prog_1_method_23_code 19 = .ok (.iload_n 1, 1) := by decide +kernel
theorem d_CC_areTwoSides_20 : decode prog_1_method_23_code 20 = .ok (.if_icmp .eq 7, 3) := by decide +kernel
theorem d_CC_areTwoSides_23 : decode prog_1_method_23_code 23 = .ok (.iconst 1, 1) := by decide +kernel
theorem d_CC_areTwoSides_24 : decode prog_1_method_23_code 24 = .ok (.goto 4, 3) := by decide +kernel
theorem d_CC_areTwoSides_27 : decode prog_1_method_23_code 27 = .ok (.iconst 0, 1) := by decide +kernel
theorem d_CC_areTwoSides_28 : decode prog_1_method_23_code 28 = .ok (.ireturn, 1) := by decide +kernel
theorem d_Cu_addClaim_0 : decode prog_4_method_3_code 0 = .ok (.aload_n 0, 1) := by decide +kernel
theorem d_Cu_addClaim_1 : decode prog_4_method_3_code 1 = .ok (.getfield 32, 3) := by decide +kernel
theorem d_Cu_addClaim_4 : decode prog_4_method_3_code 4 = .ok (.bipush 6, 2) := by decide +kernel
theorem d_Cu_addClaim_6 : decode prog_4_method_3_code 6 = .ok (.if_icmp .lt 5, 3) := by decide +kernel
theorem d_Cu_addClaim_9 : decode prog_4_method_3_code 9 = .ok (.iconst 0, 1) := by decide +kernel
theorem d_Cu_addClaim_10 : decode prog_4_method_3_code 10 = .ok (.ireturn, 1) := by decide +kernel
theorem d_Cu_addClaim_11 : decode prog_4_method_3_code 11 = .ok (.aload_n 0, 1) := by decide +kernel
theorem d_Cu_addClaim_12 : decode prog_4_method_3_code 12 = .ok (.getfield 9, 3) := by decide +kernel
theorem d_Cu_addClaim_15 : decode prog_4_method_3_code 15 = .ok (.aload_n 0, 1) := by decide +kernel
theorem d_Cu_addClaim_16 : decode prog_4_method_3_code 16 = .ok (.getfield 32, 3) := by decide +kernel
theorem d_Cu_addClaim_19 : decode prog_4_method_3_code 19 = .ok (.iload_n 1, 1) := by decide +kernel
theorem d_Cu_addClaim_20 : decode prog_4_method_3_code 20 = .ok (.iastore, 1) := by decide +kernel
theorem d_Cu_addClaim_21 : decode prog_4_method_3_code 21 = .ok (.aload_n 0, 1) := by decide +kernel
theorem d_Cu_addClaim_22 : decode prog_4_method_3_code 22 = .ok (.getfield 15, 3) := by decide +kernel
theorem d_Cu_addClaim_25 : decode prog_4_method_3_code 25 = .ok (.aload_n 0, 1) := by decide +kernel
theorem d_Cu_addClaim_26 : decode prog_4_method_3_code 26 = .ok (.getfield 32, 3) := by decide +kernel
theorem d_Cu_addClaim_29 : decode prog_4_method_3_code 29 = .ok (.iload_n 2, 1) := by decide +kernel
theorem d_Cu_addClaim_30 : decode prog_4_method_3_code 30 = .ok (.iastore, 1) := by decide +kernel
theorem d_Cu_addClaim_31 : decode prog_4_method_3_code 31 = .ok (.aload_n 0, 1) := by decide +kernel
theorem d_Cu_addClaim_32 : decode prog_4_method_3_code 32 = .ok (.getfield 18, 3) := by decide +kernel
theorem d_Cu_addClaim_35 : decode prog_4_method_3_code 35 = .ok (.aload_n 0, 1) := by decide +kernel
theorem d_Cu_addClaim_36 : decode prog_4_method_3_code 36 = .ok (.getfield 32, 3) := by decide +kernel
theorem d_Cu_addClaim_39 : decode prog_4_method_3_code 39 = .ok (.iload_n 3, 1) := by decide +kernel
theorem d_Cu_addClaim_40 : decode prog_4_method_3_code 40 = .ok (.iastore, 1) := by decide +kernel
theorem d_Cu_addClaim_41 : decode prog_4_method_3_code 41 = .ok (.aload_n 0, 1) := by decide +kernel
theorem d_Cu_addClaim_42 : decode prog_4_method_3_code 42 = .ok (.dup, 1) := by decide +kernel
theorem d_Cu_addClaim_43 : decode prog_4_method_3_code 43 = .ok (.getfield 32, 3) := by decide +kernel
theorem d_Cu_addClaim_46 : decode prog_4_method_3_code 46 = .ok (.iconst 1, 1) := by decide +kernel
theorem d_Cu_addClaim_47 : decode prog_4_method_3_code 47 = .ok (.iadd, 1) := by decide +kernel
theorem d_Cu_addClaim_48 : decode prog_4_method_3_code 48 = .ok (.putfield 32, 3) := by decide +kernel
theorem d_Cu_addClaim_51 : decode prog_4_method_3_code 51 = .ok (.iconst 1, 1) := by decide +kernel
theorem d_Cu_addClaim_52 : decode prog_4_method_3_code 52 = .ok (.ireturn, 1) := by decide +kernel
theorem d_CC_base_0 : decode prog_1_method_6_code 0 = .ok (.aload_n 0, 1) := by decide +kernel
theorem d_CC_base_1 : decode prog_1_method_6_code 1 = .ok (.iload_n 1, 1) := by decide +kernel
theorem d_CC_base_2 : decode prog_1_method_6_code 2 = .ok (.iload_n 2, 1) := by decide +kernel
theorem d_CC_base_3 : decode prog_1_method_6_code 3 = .ok (.invokevirtual 65, 3) := by decide +kernel
theorem d_CC_base_6 : decode prog_1_method_6_code 6 = .ok (.astore 5, 2) := by decide +kernel
theorem d_CC_base_8 : decode prog_1_method_6_code 8 = .ok (.aload 5, 2) := by decide +kernel
theorem d_CC_base_10 : decode prog_1_method_6_code 10 = .ok (.ifnull 24, 3) := by decide +kernel
theorem d_CC_base_13 : decode prog_1_method_6_code 13 = .ok (.iload_n 3, 1) := by decide +kernel
theorem d_CC_base_14 : decode prog_1_method_6_code 14 = .ok (.invokestatic 77, 3) := by decide +kernel
theorem d_CC_base_17 : decode prog_1_method_6_code 17 = .ok (.ifCond .eq 17, 3) := by decide +kernel
theorem d_CC_base_20 : decode prog_1_method_6_code 20 = .ok (.iload 4, 2) := by decide +kernel
theorem d_CC_base_22 : decode prog_1_method_6_code 22 = .ok (.sipush (-10000), 3) := by decide +kernel
theorem d_CC_base_25 : decode prog_1_method_6_code 25 = .ok (.sipush 10000, 3) := by decide +kernel
theorem d_CC_base_28 : decode prog_1_method_6_code 28 = .ok (.invokestatic 42, 3) := by decide +kernel
theorem d_CC_base_31 : decode prog_1_method_6_code 31 = .ok (.ifCond .ne 5, 3) := by decide +kernel
theorem d_CC_base_34 : decode prog_1_method_6_code 34 = .ok (.iconst 0, 1) := by decide +kernel
theorem d_CC_base_35 : decode prog_1_method_6_code 35 = .ok (.ireturn, 1) := by decide +kernel
theorem d_CC_base_36 : decode prog_1_method_6_code 36 = .ok (.aload 5, 2) := by decide +kernel
theorem d_CC_base_38 : decode prog_1_method_6_code 38 = .ok (.getfield 80, 3) := by decide +kernel
theorem d_CC_base_41 : decode prog_1_method_6_code 41 = .ok (.iload_n 3, 1) := by decide +kernel
theorem d_CC_base_42 : decode prog_1_method_6_code 42 = .ok (.aaload, 1) := by decide +kernel
theorem d_CC_base_43 : decode prog_1_method_6_code 43 = .ok (.iload 4, 2) := by decide +kernel
theorem d_CC_base_45 : decode prog_1_method_6_code 45 = .ok (.putfield 84, 3) := by decide +kernel
theorem d_CC_base_48 : decode prog_1_method_6_code 48 = .ok (.aload_n 0, 1) := by decide +kernel
theorem d_CC_base_49 : decode prog_1_method_6_code 49 = .ok (.iload_n 1, 1) := by decide +kernel
theorem d_CC_base_50 : decode prog_1_method_6_code 50 = .ok (.iconst 1, 1) := by decide +kernel
theorem d_CC_base_51 : decode prog_1_method_6_code 51 = .ok (.invokevirtual 50, 3) := by decide +kernel
theorem d_CC_base_54 : decode prog_1_method_6_code 54 = .ok (.ireturn, 1) := by decide +kernel
theorem d_CC_isPotential_0 : decode prog_1_method_22_code 0 = .ok (.iload_n 0, 1) := by decide +kernel
theorem d_CC_isPotential_1 : decode prog_1_method_22_code 1 = .ok (.iconst 0, 1) := by decide +kernel
theorem d_CC_isPotential_2 : decode prog_1_method_22_code 2 = .ok (.iconst 1, 1) := by decide +kernel
theorem d_CC_isPotential_3 : decode prog_1_method_22_code 3 = .ok (.invokestatic 42, 3) := by decide +kernel
theorem d_CC_isPotential_6 : decode prog_1_method_22_code 6 = .ok (.ireturn, 1) := by decide +kernel
theorem d_CC_term_0 : decode prog_1_method_7_code 0 = .ok (.aload_n 0, 1) := by decide +kernel
theorem d_CC_term_1 : decode prog_1_method_7_code 1 = .ok (.iload_n 1, 1) := by decide +kernel
theorem d_CC_term_2 : decode prog_1_method_7_code 2 = .ok (.iload_n 2, 1) := by decide +kernel
theorem d_CC_term_3 : decode prog_1_method_7_code 3 = .ok (.invokevirtual 65, 3) := by decide +kernel
theorem d_CC_term_6 : decode prog_1_method_7_code 6 = .ok (.astore 6, 2) := by decide +kernel
theorem d_CC_term_8 : decode prog_1_method_7_code 8 = .ok (.aload 6, 2) := by decide +kernel
theorem d_CC_term_10 : decode prog_1_method_7_code 10 = .ok (.ifnull 21, 3) := by decide +kernel
theorem d_CC_term_13 : decode prog_1_method_7_code 13 = .ok (.iload_n 3, 1) := by decide +kernel
theorem d_CC_term_14 : decode prog_1_method_7_code 14 = .ok (.invokestatic 77, 3) := by decide +kernel
theorem d_CC_term_17 : decode prog_1_method_7_code 17 = .ok (.ifCond .eq 14, 3) := by decide +kernel
theorem d_CC_term_20 : decode prog_1_method_7_code 20 = .ok (.iload 4, 2) := by decide +kernel
theorem d_CC_term_22 : decode prog_1_method_7_code 22 = .ok (.iconst 1, 1) := by decide +kernel
theorem d_CC_term_23 : decode prog_1_method_7_code 23 = .ok (.bipush 100, 2) := by decide +kernel
theorem d_CC_term_25 : decode prog_1_method_7_code 25 = .ok (.invokestatic 42, 3) := by decide +kernel
theorem d_CC_term_28 : decode prog_1_method_7_code 28 = .ok (.ifCond .ne 5, 3) := by decide +kernel
theorem d_CC_term_31 : decode prog_1_method_7_code 31 = .ok (.iconst 0, 1) := by decide +kernel
theorem d_CC_term_32 : decode prog_1_method_7_code 32 = .ok (.ireturn, 1) := by decide +kernel
theorem d_CC_term_33 : decode prog_1_method_7_code 33 = .ok (.iload 5, 2) := by decide +kernel
theorem d_CC_term_35 : decode prog_1_method_7_code 35 = .ok (.iconst 0, 1) := by decide +kernel
theorem d_CC_term_36 : decode prog_1_method_7_code 36 = .ok (.bipush 24, 2) := by decide +kernel
theorem d_CC_term_38 : decode prog_1_method_7_code 38 = .ok (.invokestatic 42, 3) := by decide +kernel
theorem d_CC_term_41 : decode prog_1_method_7_code 41 = .ok (.ifCond .eq 17, 3) := by decide +kernel
theorem d_CC_term_44 : decode prog_1_method_7_code 44 = .ok (.iload 5, 2) := by decide +kernel
theorem d_CC_term_46 : decode prog_1_method_7_code 46 = .ok (.iconst 5, 1) := by decide +kernel
theorem d_CC_term_47 : decode prog_1_method_7_code 47 = .ok (.idiv, 1) := by decide +kernel
theorem d_CC_term_48 : decode prog_1_method_7_code 48 = .ok (.iload 5, 2) := by decide +kernel
theorem d_CC_term_50 : decode prog_1_method_7_code 50 = .ok (.iconst 5, 1) := by decide +kernel
theorem d_CC_term_51 : decode prog_1_method_7_code 51 = .ok (.irem, 1) := by decide +kernel
theorem d_CC_term_52 : decode prog_1_method_7_code 52 = .ok (.invokestatic 69, 3) := by decide +kernel
theorem d_CC_term_55 : decode prog_1_method_7_code 55 = .ok (.ifCond .ne 5, 3) := by decide +kernel
theorem d_CC_term_58 : decode prog_1_method_7_code 58 = .ok (.iconst 0, 1) := by decide +kernel
theorem d_CC_term_59 : decode prog_1_method_7_code 59 = .ok (.ireturn, 1) := by decide +kernel
theorem d_CC_term_60 : decode prog_1_method_7_code 60 = .ok (.aload_n 0, 1) := by decide +kernel
theorem d_CC_term_61 : decode prog_1_method_7_code 61 = .ok (.iload_n 1, 1) := by decide +kernel
theorem d_CC_term_62 : decode prog_1_method_7_code 62 = .ok (.aload 6, 2) := by decide +kernel
theorem d_CC_term_64 : decode prog_1_method_7_code 64 = .ok (.getfield 80, 3) := by decide +kernel
theorem d_CC_term_67 : decode prog_1_method_7_code 67 = .ok (.iload_n 3, 1) := by decide +kernel
theorem d_CC_term_68 : decode prog_1_method_7_code 68 = .ok (.aaload, 1) := by decide +kernel
theorem d_CC_term_69 : decode prog_1_method_7_code 69 = .ok (.iload 4, 2) := by decide +kernel
theorem d_CC_term_71 : decode prog_1_method_7_code 71 = .ok (.iload 5, 2) := by decide +kernel
theorem d_CC_term_73 : decode prog_1_method_7_code 73 = .ok (.iconst 5, 1) := by decide +kernel
theorem d_CC_term_74 : decode prog_1_method_7_code 74 = .ok (.idiv, 1) := by decide +kernel
theorem d_CC_term_75 : decode prog_1_method_7_code 75 = .ok (.iload 5, 2) := by decide +kernel
theorem d_CC_term_77 : decode prog_1_method_7_code 77 = .ok (.iconst 5, 1) := by decide +kernel
theorem d_CC_term_78 : decode prog_1_method_7_code 78 = .ok (.irem, 1) := by decide +kernel
theorem d_CC_term_79 : decode prog_1_method_7_code 79 = .ok (.invokevirtual 89, 3) := by decide +kernel
theorem d_CC_term_82 : decode prog_1_method_7_code 82 = .ok (.invokevirtual 50, 3) := by decide +kernel
theorem d_CC_term_85 : decode prog_1_method_7_code 85 = .ok (.ireturn, 1) := by decide +kernel
theorem d_Po_addTerm_0 : decode prog_10_method_3_code 0 = .ok (.aload_n 0, 1) := by decide +kernel
theorem d_Po_addTerm_1 : decode prog_10_method_3_code 1 = .ok (.getfield 25, 3) := by decide +kernel
theorem d_Po_addTerm_4 : decode prog_10_method_3_code 4 = .ok (.iconst 3, 1) := by decide +kernel
theorem d_Po_addTerm_5 : decode prog_10_method_3_code 5 = .ok (.if_icmp .lt 5, 3) := by decide +kernel
theorem d_Po_addTerm_8 : decode prog_10_method_3_code 8 = .ok (.iconst 0, 1) := by decide +kernel
theorem d_Po_addTerm_9 : decode prog_10_method_3_code 9 = .ok (.ireturn, 1) := by decide +kernel
theorem d_Po_addTerm_10 : decode prog_10_method_3_code 10 = .ok (.aload_n 0, 1) := by decide +kernel
theorem d_Po_addTerm_11 : decode prog_10_method_3_code 11 = .ok (.getfield 9, 3) := by decide +kernel
theorem d_Po_addTerm_14 : decode prog_10_method_3_code 14 = .ok (.aload_n 0, 1) := by decide +kernel
theorem d_Po_addTerm_15 : decode prog_10_method_3_code 15 = .ok (.getfield 25, 3) := by decide +kernel
theorem d_Po_addTerm_18 : decode prog_10_method_3_code 18 = .ok (.iload_n 1, 1) := by decide +kernel
theorem d_Po_addTerm_19 : decode prog_10_method_3_code 19 = .ok (.iastore, 1) := by decide +kernel
theorem d_Po_addTerm_20 : decode prog_10_method_3_code 20 = .ok (.aload_n 0, 1) := by decide +kernel
theorem d_Po_addTerm_21 : decode prog_10_method_3_code 21 = .ok (.getfield 15, 3) := by decide +kernel
theorem d_Po_addTerm_24 : decode prog_10_method_3_code 24 = .ok (.aload_n 0, 1) := by decide +kernel
theorem d_Po_addTerm_25 : decode prog_10_method_3_code 25 = .ok (.getfield 25, 3) := by decide +kernel
theorem d_Po_addTerm_28 : decode prog_10_method_3_code 28 = .ok (.iload_n 2, 1) := by decide +kernel
theorem d_Po_addTerm_29 : decode prog_10_method_3_code 29 = .ok (.iastore, 1) := by decide +kernel
theorem d_Po_addTerm_30 : decode prog_10_method_3_code 30 = .ok (.aload_n 0, 1) := by decide +kernel
theorem d_Po_addTerm_31 : decode prog_10_method_3_code 31 = .ok (.getfield 18, 3) := by decide +kernel
theorem d_Po_addTerm_34 : decode prog_10_method_3_code 34 = .ok (.aload_n 0, 1) := by decide +kernel
theorem d_Po_addTerm_35 : decode prog_10_method_3_code 35 = .ok (.getfield 25, 3) := by decide +kernel
theorem d_Po_addTerm_38 : decode prog_10_method_3_code 38 = .ok (.iload_n 3, 1) := by decide +kernel
theorem d_Po_addTerm_39 : decode prog_10_method_3_code 39 = .ok (.iastore, 1) := by decide +kernel
theorem d_Po_addTerm_40 : decode prog_10_method_3_code 40 = .ok (.aload_n 0, 1) := by decide +kernel
theorem d_Po_addTerm_41 : decode prog_10_method_3_code 41 = .ok (.dup, 1) := by decide +kernel
theorem d_Po_addTerm_42 : decode prog_10_method_3_code 42 = .ok (.getfield 25, 3) := by decide +kernel
theorem d_Po_addTerm_45 : decode prog_10_method_3_code 45 = .ok (.iconst 1, 1) := by decide +kernel
theorem d_Po_addTerm_46 : decode prog_10_method_3_code 46 = .ok (.iadd, 1) := by decide +kernel
theorem d_Po_addTerm_47 : decode prog_10_method_3_code 47 = .ok (.putfield 25, 3) := by decide +kernel
theorem d_Po_addTerm_50 : decode prog_10_method_3_code 50 = .ok (.iconst 1, 1) := by decide +kernel
theorem d_Po_addTerm_51 : decode prog_10_method_3_code 51 = .ok (.ireturn, 1) := by decide +kernel
theorem d_CC_check_0 : decode prog_1_method_8_code 0 = .ok (.aload_n 0, 1) := by decide +kernel
theorem d_CC_check_1 : decode prog_1_method_8_code 1 = .ok (.iload_n 1, 1) := by decide +kernel
theorem d_CC_check_2 : decode prog_1_method_8_code 2 = .ok (.invokevirtual 38, 3) := by decide +kernel
theorem d_CC_check_5 : decode prog_1_method_8_code 5 = .ok (.astore_n 2, 1) := by decide +kernel
theorem d_CC_check_6 : decode prog_1_method_8_code 6 = .ok (.aload_n 2, 1) := by decide +kernel
theorem d_CC_check_7 : decode prog_1_method_8_code 7 = .ok (.ifnonnull 5, 3) := by decide +kernel
theorem d_CC_check_10 : decode prog_1_method_8_code 10 = .ok (.iconst (-1), 1) := by decide +kernel
theorem d_CC_check_11 : decode prog_1_method_8_code 11 = .ok (.ireturn, 1) := by decide +kernel
theorem d_CC_check_12 : decode prog_1_method_8_code 12 = .ok (.aload_n 0, 1) := by decide +kernel
theorem d_CC_check_13 : decode prog_1_method_8_code 13 = .ok (.getfield 30, 3) := by decide +kernel
theorem d_CC_check_16 : decode prog_1_method_8_code 16 = .ok (.aload_n 2, 1) := by decide +kernel
theorem d_CC_check_17 : decode prog_1_method_8_code 17 = .ok (.invokevirtual 92, 3) := by decide +kernel
theorem d_CC_check_20 : decode prog_1_method_8_code 20 = .ok (.istore_n 3, 1) := by decide +kernel
theorem d_CC_check_21 : decode prog_1_method_8_code 21 = .ok (.aload_n 2, 1) := by decide +kernel
theorem d_CC_check_22 : decode prog_1_method_8_code 22 = .ok (.iload_n 3, 1) := by decide +kernel
theorem d_CC_check_23 : decode prog_1_method_8_code 23 = .ok (.ifCond .ne 7, 3) := by decide +kernel
theorem d_CC_check_26 : decode prog_1_method_8_code 26 = .ok (.iconst 1, 1) := by decide +kernel
theorem d_CC_check_27 : decode prog_1_method_8_code 27 = .ok (.goto 4, 3) := by decide +kernel
theorem d_CC_check_30 : decode prog_1_method_8_code 30 = .ok (.iconst 0, 1) := by decide +kernel
theorem d_CC_check_31 : decode prog_1_method_8_code 31 = .ok (.putfield 96, 3) := by decide +kernel
theorem d_CC_check_34 : decode prog_1_method_8_code 34 = .ok (.iload_n 3, 1) := by decide +kernel
theorem d_CC_check_35 : decode prog_1_method_8_code 35 = .ok (.ireturn, 1) := by decide +kernel
theorem d_Sy_standForThemselves_0 : decode prog_11_method_3_code 0 = .ok (.iconst 0, 1) := by decide +kernel
theorem d_Sy_standForThemselves_1 : decode prog_11_method_3_code 1 = .ok (.istore_n 1, 1) := by decide +kernel
theorem d_Sy_standForThemselves_2 : decode prog_11_method_3_code 2 = .ok (.iload_n 1, 1) := by decide +kernel
theorem d_Sy_standForThemselves_3 : decode prog_11_method_3_code 3 = .ok (.iconst 5, 1) := by decide +kernel
theorem d_Sy_standForThemselves_4 : decode prog_11_method_3_code 4 = .ok (.if_icmp .ge 16, 3) := by decide +kernel
theorem d_Sy_standForThemselves_7 : decode prog_11_method_3_code 7 = .ok (.aload_n 0, 1) := by decide +kernel
theorem d_Sy_standForThemselves_8 : decode prog_11_method_3_code 8 = .ok (.iload_n 1, 1) := by decide +kernel
theorem d_Sy_standForThemselves_9 : decode prog_11_method_3_code 9 = .ok (.iload_n 1, 1) := by decide +kernel
theorem d_Sy_standForThemselves_10 : decode prog_11_method_3_code 10 = .ok (.lconst 0, 1) := by decide +kernel
theorem d_Sy_standForThemselves_11 : decode prog_11_method_3_code 11 = .ok (.invokevirtual 19, 3) := by decide +kernel
theorem d_Sy_standForThemselves_14 : decode prog_11_method_3_code 14 = .ok (.iinc 1 1, 3) := by decide +kernel
theorem d_Sy_standForThemselves_17 : decode prog_11_method_3_code 17 = .ok (.goto (-15), 3) := by decide +kernel
theorem d_Sy_standForThemselves_20 : decode prog_11_method_3_code 20 = .ok (.return_, 1) := by decide +kernel
theorem d_Sy_set_0 : decode prog_11_method_2_code 0 = .ok (.aload_n 0, 1) := by decide +kernel
theorem d_Sy_set_1 : decode prog_11_method_2_code 1 = .ok (.getfield 9, 3) := by decide +kernel
theorem d_Sy_set_4 : decode prog_11_method_2_code 4 = .ok (.iload_n 1, 1) := by decide +kernel
theorem d_Sy_set_5 : decode prog_11_method_2_code 5 = .ok (.iload_n 2, 1) := by decide +kernel
theorem d_Sy_set_6 : decode prog_11_method_2_code 6 = .ok (.iastore, 1) := by decide +kernel
theorem d_Sy_set_7 : decode prog_11_method_2_code 7 = .ok (.aload_n 0, 1) := by decide +kernel
theorem d_Sy_set_8 : decode prog_11_method_2_code 8 = .ok (.getfield 15, 3) := by decide +kernel
theorem d_Sy_set_11 : decode prog_11_method_2_code 11 = .ok (.iload_n 1, 1) := by decide +kernel
theorem d_Sy_set_12 : decode prog_11_method_2_code 12 = .ok (.lload_n 3, 1) := by decide +kernel
theorem d_Sy_set_13 : decode prog_11_method_2_code 13 = .ok (.lastore, 1) := by decide +kernel
theorem d_Sy_set_14 : decode prog_11_method_2_code 14 = .ok (.return_, 1) := by decide +kernel
theorem d_Me_hasPlace_0 : decode prog_8_method_4_code 0 = .ok (.iload_n 1, 1) := by decide +kernel
theorem d_Me_hasPlace_1 : decode prog_8_method_4_code 1 = .ok (.ifCond .lt 15, 3) := by decide +kernel
theorem d_Me_hasPlace_4 : decode prog_8_method_4_code 4 = .ok (.iload_n 1, 1) := by decide +kernel
theorem d_Me_hasPlace_5 : decode prog_8_method_4_code 5 = .ok (.aload_n 0, 1) := by decide +kernel
theorem d_Me_hasPlace_6 : decode prog_8_method_4_code 6 = .ok (.getfield 32, 3) := by decide +kernel
theorem d_Me_hasPlace_9 : decode prog_8_method_4_code 9 = .ok (.if_icmp .ge 7, 3) := by decide +kernel
theorem d_Me_hasPlace_12 : decode prog_8_method_4_code 12 = .ok (.iconst 1, 1) := by decide +kernel
theorem d_Me_hasPlace_13 : decode prog_8_method_4_code 13 = .ok (.goto 4, 3) := by decide +kernel
theorem d_Me_hasPlace_16 : decode prog_8_method_4_code 16 = .ok (.iconst 0, 1) := by decide +kernel
theorem d_Me_hasPlace_17 : decode prog_8_method_4_code 17 = .ok (.ireturn, 1) := by decide +kernel
theorem d_Po_speaksOfNothing_0 : decode prog_10_method_5_code 0 = .ok (.iconst 0, 1) := by decide +kernel
theorem d_Po_speaksOfNothing_1 : decode prog_10_method_5_code 1 = .ok (.istore_n 2, 1) := by decide +kernel
theorem d_Po_speaksOfNothing_2 : decode prog_10_method_5_code 2 = .ok (.iload_n 2, 1) := by decide +kernel
theorem d_Po_speaksOfNothing_3 : decode prog_10_method_5_code 3 = .ok (.aload_n 0, 1) := by decide +kernel
theorem d_Po_speaksOfNothing_4 : decode prog_10_method_5_code 4 = .ok (.getfield 25, 3) := by decide +kernel
theorem d_Po_speaksOfNothing_7 : decode prog_10_method_5_code 7 = .ok (.if_icmp .ge 41, 3) := by decide +kernel
theorem d_Po_speaksOfNothing_10 : decode prog_10_method_5_code 10 = .ok (.aload_n 1, 1) := by decide +kernel
theorem d_Po_speaksOfNothing_11 : decode prog_10_method_5_code 11 = .ok (.getfield 28, 3) := by decide +kernel
theorem d_Po_speaksOfNothing_14 : decode prog_10_method_5_code 14 = .ok (.aload_n 0, 1) := by decide +kernel
theorem d_Po_speaksOfNothing_15 : decode prog_10_method_5_code 15 = .ok (.getfield 15, 3) := by decide +kernel
theorem d_Po_speaksOfNothing_18 : decode prog_10_method_5_code 18 = .ok (.iload_n 2, 1) := by decide +kernel
theorem d_Po_speaksOfNothing_19 : decode prog_10_method_5_code 19 = .ok (.iaload, 1) := by decide +kernel
theorem d_Po_speaksOfNothing_20 : decode prog_10_method_5_code 20 = .ok (.iaload, 1) := by decide +kernel
theorem d_Po_speaksOfNothing_21 : decode prog_10_method_5_code 21 = .ok (.iconst (-1), 1) := by decide +kernel
theorem d_Po_speaksOfNothing_22 : decode prog_10_method_5_code 22 = .ok (.if_icmp .eq 18, 3) := by decide +kernel
theorem d_Po_speaksOfNothing_25 : decode prog_10_method_5_code 25 = .ok (.aload_n 1, 1) := by decide +kernel
theorem d_Po_speaksOfNothing_26 : decode prog_10_method_5_code 26 = .ok (.getfield 28, 3) := by decide +kernel
theorem d_Po_speaksOfNothing_29 : decode prog_10_method_5_code 29 = .ok (.aload_n 0, 1) := by decide +kernel
theorem d_Po_speaksOfNothing_30 : decode prog_10_method_5_code 30 = .ok (.getfield 18, 3) := by decide +kernel
theorem d_Po_speaksOfNothing_33 : decode prog_10_method_5_code 33 = .ok (.iload_n 2, 1) := by decide +kernel
theorem d_Po_speaksOfNothing_34 : decode prog_10_method_5_code 34 = .ok (.iaload, 1) := by decide +kernel
theorem d_Po_speaksOfNothing_35 : decode prog_10_method_5_code 35 = .ok (.iaload, 1) := by decide +kernel
theorem d_Po_speaksOfNothing_36 : decode prog_10_method_5_code 36 = .ok (.iconst (-1), 1) := by decide +kernel
theorem d_Po_speaksOfNothing_37 : decode prog_10_method_5_code 37 = .ok (.if_icmp .ne 5, 3) := by decide +kernel
theorem d_Po_speaksOfNothing_40 : decode prog_10_method_5_code 40 = .ok (.iconst 1, 1) := by decide +kernel
theorem d_Po_speaksOfNothing_41 : decode prog_10_method_5_code 41 = .ok (.ireturn, 1) := by decide +kernel
theorem d_Po_speaksOfNothing_42 : decode prog_10_method_5_code 42 = .ok (.iinc 2 1, 3) := by decide +kernel
theorem d_Po_speaksOfNothing_45 : decode prog_10_method_5_code 45 = .ok (.goto (-43), 3) := by decide +kernel
theorem d_Po_speaksOfNothing_48 : decode prog_10_method_5_code 48 = .ok (.iconst 0, 1) := by decide +kernel
theorem d_Po_speaksOfNothing_49 : decode prog_10_method_5_code 49 = .ok (.ireturn, 1) := by decide +kernel
theorem d_CC_isCramped_0 : decode prog_1_method_24_code 0 = .ok (.aload_n 1, 1) := by decide +kernel
theorem d_CC_isCramped_1 : decode prog_1_method_24_code 1 = .ok (.getfield 153, 3) := by decide +kernel
theorem d_CC_isCramped_4 : decode prog_1_method_24_code 4 = .ok (.iload_n 2, 1) := by decide +kernel
theorem d_CC_isCramped_5 : decode prog_1_method_24_code 5 = .ok (.iaload, 1) := by decide +kernel
theorem d_CC_isCramped_6 : decode prog_1_method_24_code 6 = .ok (.istore 4, 2) := by decide +kernel
theorem d_CC_isCramped_8 : decode prog_1_method_24_code 8 = .ok (.aload_n 1, 1) := by decide +kernel
theorem d_CC_isCramped_9 : decode prog_1_method_24_code 9 = .ok (.getfield 150, 3) := by decide +kernel
theorem d_CC_isCramped_12 : decode prog_1_method_24_code 12 = .ok (.iload_n 2, 1) := by decide +kernel
theorem d_CC_isCramped_13 : decode prog_1_method_24_code 13 = .ok (.iaload, 1) := by decide +kernel
theorem d_CC_isCramped_14 : decode prog_1_method_24_code 14 = .ok (.istore 5, 2) := by decide +kernel
theorem d_CC_isCramped_16 : decode prog_1_method_24_code 16 = .ok (.iload_n 3, 1) := by decide +kernel
theorem d_CC_isCramped_17 : decode prog_1_method_24_code 17 = .ok (.getstatic 167, 3) := by decide +kernel
theorem d_CC_isCramped_20 : decode prog_1_method_24_code 20 = .ok (.iload 4, 2) := by decide +kernel
theorem d_CC_isCramped_22 : decode prog_1_method_24_code 22 = .ok (.iaload, 1) := by decide +kernel
theorem d_CC_isCramped_23 : decode prog_1_method_24_code 23 = .ok (.isub, 1) := by decide +kernel
theorem d_CC_isCramped_24 : decode prog_1_method_24_code 24 = .ok (.istore 6, 2) := by decide +kernel
theorem d_CC_isCramped_26 : decode prog_1_method_24_code 26 = .ok (.iload 6, 2) := by decide +kernel
theorem d_CC_isCramped_28 : decode prog_1_method_24_code 28 = .ok (.ifCond .lt 17, 3) := by decide +kernel
theorem d_CC_isCramped_31 : decode prog_1_method_24_code 31 = .ok (.iload 6, 2) := by decide +kernel
theorem d_CC_isCramped_33 : decode prog_1_method_24_code 33 = .ok (.getstatic 170, 3) := by decide +kernel
theorem d_CC_isCramped_36 : decode prog_1_method_24_code 36 = .ok (.iload 4, 2) := by decide +kernel
theorem d_CC_isCramped_38 : decode prog_1_method_24_code 38 = .ok (.iaload, 1) := by decide +kernel
theorem d_CC_isCramped_39 : decode prog_1_method_24_code 39 = .ok (.iadd, 1) := by decide +kernel
theorem d_CC_isCramped_40 : decode prog_1_method_24_code 40 = .ok (.bipush 6, 2) := by decide +kernel
theorem d_CC_isCramped_42 : decode prog_1_method_24_code 42 = .ok (.if_icmp .le 5, 3) := by decide +kernel
theorem d_CC_isCramped_45 : decode prog_1_method_24_code 45 = .ok (.iconst 1, 1) := by decide +kernel
theorem d_CC_isCramped_46 : decode prog_1_method_24_code 46 = .ok (.ireturn, 1) := by decide +kernel
theorem d_CC_isCramped_47 : decode prog_1_method_24_code 47 = .ok (.iload 4, 2) := by decide +kernel
theorem d_CC_isCramped_49 : decode prog_1_method_24_code 49 = .ok (.iconst 1, 1) := by decide +kernel
theorem d_CC_isCramped_50 : decode prog_1_method_24_code 50 = .ok (.if_icmp .eq 9, 3) := by decide +kernel
theorem d_CC_isCramped_53 : decode prog_1_method_24_code 53 = .ok (.iload 4, 2) := by decide +kernel
theorem d_CC_isCramped_55 : decode prog_1_method_24_code 55 = .ok (.iconst 2, 1) := by decide +kernel
theorem d_CC_isCramped_56 : decode prog_1_method_24_code 56 = .ok (.if_icmp .ne 19, 3) := by decide +kernel
theorem d_CC_isCramped_59 : decode prog_1_method_24_code 59 = .ok (.iload 5, 2) := by decide +kernel
theorem d_CC_isCramped_61 : decode prog_1_method_24_code 61 = .ok (.iconst 0, 1) := by decide +kernel
theorem d_CC_isCramped_62 : decode prog_1_method_24_code 62 = .ok (.iconst 3, 1) := by decide +kernel
theorem d_CC_isCramped_63 : decode prog_1_method_24_code 63 = .ok (.invokestatic 42, 3) := by decide +kernel
theorem d_CC_isCramped_66 : decode prog_1_method_24_code 66 = .ok (.ifCond .ne 7, 3) := by decide +kernel
theorem d_CC_isCramped_69 : decode prog_1_method_24_code 69 = .ok (.iconst 1, 1) := by decide +kernel
theorem d_CC_isCramped_70 : decode prog_1_method_24_code 70 = .ok (.goto 4, 3) := by decide +kernel
theorem d_CC_isCramped_73 : decode prog_1_method_24_code 73 = .ok (.iconst 0, 1) := by decide +kernel
theorem d_CC_isCramped_74 : decode prog_1_method_24_code 74 = .ok (.ireturn, 1) := by decide +kernel
theorem d_CC_isCramped_75 : decode prog_1_method_24_code 75 = .ok (.iload 4, 2) := by decide +kernel
theorem d_CC_isCramped_77 : decode prog_1_method_24_code 77 = .ok (.bipush 11, 2) := by decide +kernel
theorem d_CC_isCramped_79 : decode prog_1_method_24_code 79 = .ok (.if_icmp .ne 32, 3) := by decide +kernel
theorem d_CC_isCramped_82 : decode prog_1_method_24_code 82 = .ok (.iload 5, 2) := by decide +kernel
theorem d_CC_isCramped_84 : decode prog_1_method_24_code 84 = .ok (.iconst 0, 1) := by decide +kernel
theorem d_CC_isCramped_85 : decode prog_1_method_24_code 85 = .ok (.aload_n 1, 1) := by decide +kernel
theorem d_CC_isCramped_86 : decode prog_1_method_24_code 86 = .ok (.getfield 156, 3) := by decide +kernel
theorem d_CC_isCramped_89 : decode prog_1_method_24_code 89 = .ok (.iconst 1, 1) := by decide +kernel
theorem d_CC_isCramped_90 : decode prog_1_method_24_code 90 = .ok (.isub, 1) := by decide +kernel
theorem d_CC_isCramped_91 : decode prog_1_method_24_code 91 = .ok (.invokestatic 42, 3) := by decide +kernel
theorem d_CC_isCramped_94 : decode prog_1_method_24_code 94 = .ok (.ifCond .eq 13, 3) := by decide +kernel
theorem d_CC_isCramped_97 : decode prog_1_method_24_code 97 = .ok (.aload_n 0, 1) := by decide +kernel
theorem d_CC_isCramped_98 : decode prog_1_method_24_code 98 = .ok (.iload 5, 2) := by decide +kernel
theorem d_CC_isCramped_100 : decode prog_1_method_24_code 100 = .ok (.aaload, 1) := by decide +kernel
theorem d_CC_isCramped_101 : decode prog_1_method_24_code 101 = .ok (.getfield 54, 3) := by decide +kernel
theorem d_CC_isCramped_104 : decode prog_1_method_24_code 104 = .ok (.ifCond .ne 7, 3) := by decide +kernel
theorem d_CC_isCramped_107 : decode prog_1_method_24_code 107 = .ok (.iconst 1, 1) := by decide +kernel
theorem d_CC_isCramped_108 : decode prog_1_method_24_code 108 = .ok (.goto 4, 3) := by decide +kernel
theorem d_CC_isCramped_111 : decode prog_1_method_24_code 111 = .ok (.iconst 0, 1) := by decide +kernel
theorem d_CC_isCramped_112 : decode prog_1_method_24_code 112 = .ok (.ireturn, 1) := by decide +kernel
theorem d_Sy_copyFrom_0 : decode prog_11_method_4_code 0 = .ok (.aload_n 1, 1) := by decide +kernel
theorem d_Sy_copyFrom_1 : decode prog_11_method_4_code 1 = .ok (.getfield 9, 3) := by decide +kernel
theorem d_Sy_copyFrom_4 : decode prog_11_method_4_code 4 = .ok (.iconst 0, 1) := by decide +kernel
theorem d_Sy_copyFrom_5 : decode prog_11_method_4_code 5 = .ok (.aload_n 0, 1) := by decide +kernel
theorem d_Sy_copyFrom_6 : decode prog_11_method_4_code 6 = .ok (.getfield 9, 3) := by decide +kernel
theorem d_Sy_copyFrom_9 : decode prog_11_method_4_code 9 = .ok (.iconst 0, 1) := by decide +kernel
theorem d_Sy_copyFrom_10 : decode prog_11_method_4_code 10 = .ok (.iconst 5, 1) := by decide +kernel
theorem d_Sy_copyFrom_11 : decode prog_11_method_4_code 11 = .ok (.invokestatic 23, 3) := by decide +kernel
theorem d_Sy_copyFrom_14 : decode prog_11_method_4_code 14 = .ok (.aload_n 1, 1) := by decide +kernel
theorem d_Sy_copyFrom_15 : decode prog_11_method_4_code 15 = .ok (.getfield 15, 3) := by decide +kernel
theorem d_Sy_copyFrom_18 : decode prog_11_method_4_code 18 = .ok (.iconst 0, 1) := by decide +kernel
theorem d_Sy_copyFrom_19 : decode prog_11_method_4_code 19 = .ok (.aload_n 0, 1) := by decide +kernel
theorem d_Sy_copyFrom_20 : decode prog_11_method_4_code 20 = .ok (.getfield 15, 3) := by decide +kernel
theorem d_Sy_copyFrom_23 : decode prog_11_method_4_code 23 = .ok (.iconst 0, 1) := by decide +kernel
theorem d_Sy_copyFrom_24 : decode prog_11_method_4_code 24 = .ok (.iconst 5, 1) := by decide +kernel
theorem d_Sy_copyFrom_25 : decode prog_11_method_4_code 25 = .ok (.invokestatic 23, 3) := by decide +kernel
theorem d_Sy_copyFrom_28 : decode prog_11_method_4_code 28 = .ok (.return_, 1) := by decide +kernel
theorem d_CC_accepted_0 : decode prog_1_method_9_code 0 = .ok (.aload_n 0, 1) := by decide +kernel
theorem d_CC_accepted_1 : decode prog_1_method_9_code 1 = .ok (.iload_n 1, 1) := by decide +kernel
theorem d_CC_accepted_2 : decode prog_1_method_9_code 2 = .ok (.invokevirtual 38, 3) := by decide +kernel
theorem d_CC_accepted_5 : decode prog_1_method_9_code 5 = .ok (.astore_n 2, 1) := by decide +kernel
theorem d_CC_accepted_6 : decode prog_1_method_9_code 6 = .ok (.aload_n 2, 1) := by decide +kernel
theorem d_CC_accepted_7 : decode prog_1_method_9_code 7 = .ok (.ifnull 14, 3) := by decide +kernel
theorem d_CC_accepted_10 : decode prog_1_method_9_code 10 = .ok (.aload_n 2, 1) := by decide +kernel
theorem d_CC_accepted_11 : decode prog_1_method_9_code 11 = .ok (.getfield 96, 3) := by decide +kernel
theorem d_CC_accepted_14 : decode prog_1_method_9_code 14 = .ok (.ifCond .eq 7, 3) := by decide +kernel
theorem d_CC_accepted_17 : decode prog_1_method_9_code 17 = .ok (.iconst 1, 1) := by decide +kernel
theorem d_CC_accepted_18 : decode prog_1_method_9_code 18 = .ok (.goto 4, 3) := by decide +kernel
theorem d_CC_accepted_21 : decode prog_1_method_9_code 21 = .ok (.iconst 0, 1) := by decide +kernel
theorem d_CC_accepted_22 : decode prog_1_method_9_code 22 = .ok (.ireturn, 1) := by decide +kernel
theorem d_CC_bound_0 : decode prog_1_method_10_code 0 = .ok (.aload_n 0, 1) := by decide +kernel
theorem d_CC_bound_1 : decode prog_1_method_10_code 1 = .ok (.iload_n 1, 1) := by decide +kernel
theorem d_CC_bound_2 : decode prog_1_method_10_code 2 = .ok (.invokevirtual 38, 3) := by decide +kernel
theorem d_CC_bound_5 : decode prog_1_method_10_code 5 = .ok (.astore 6, 2) := by decide +kernel
theorem d_CC_bound_7 : decode prog_1_method_10_code 7 = .ok (.aload 6, 2) := by decide +kernel
theorem d_CC_bound_9 : decode prog_1_method_10_code 9 = .ok (.ifnull 29, 3) := by decide +kernel
theorem d_CC_bound_12 : decode prog_1_method_10_code 12 = .ok (.iload_n 2, 1) := by decide +kernel
theorem d_CC_bound_13 : decode prog_1_method_10_code 13 = .ok (.invokestatic 77, 3) := by decide +kernel
theorem d_CC_bound_16 : decode prog_1_method_10_code 16 = .ok (.ifCond .eq 22, 3) := by decide +kernel
theorem d_CC_bound_19 : decode prog_1_method_10_code 19 = .ok (.aload 6, 2) := by decide +kernel
theorem d_CC_bound_21 : decode prog_1_method_10_code 21 = .ok (.getfield 96, 3) := by decide +kernel
theorem d_CC_bound_24 : decode prog_1_method_10_code 24 = .ok (.ifCond .eq 14, 3) := by decide +kernel
theorem d_CC_bound_27 : decode prog_1_method_10_code 27 = .ok (.iload_n 3, 1) := by decide +kernel
theorem d_CC_bound_28 : decode prog_1_method_10_code 28 = .ok (.iload 4, 2) := by decide +kernel
theorem d_CC_bound_30 : decode prog_1_method_10_code 30 = .ok (.iload 5, 2) := by decide +kernel
theorem d_CC_bound_32 : decode prog_1_method_10_code 32 = .ok (.invokestatic 100, 3) := by decide +kernel
theorem d_CC_bound_35 : decode prog_1_method_10_code 35 = .ok (.ifCond .ne 7, 3) := by decide +kernel
theorem d_CC_bound_38 : decode prog_1_method_10_code 38 = .ok (.ldc2_w 103, 3) := by decide +kernel
theorem d_CC_bound_41 : decode prog_1_method_10_code 41 = .ok (.lreturn, 1) := by decide +kernel
theorem d_CC_bound_42 : decode prog_1_method_10_code 42 = .ok (.aload_n 0, 1) := by decide +kernel
theorem d_CC_bound_43 : decode prog_1_method_10_code 43 = .ok (.getfield 34, 3) := by decide +kernel
theorem d_CC_bound_46 : decode prog_1_method_10_code 46 = .ok (.iconst 0, 1) := by decide +kernel
theorem d_CC_bound_47 : decode prog_1_method_10_code 47 = .ok (.iload_n 3, 1) := by decide +kernel
theorem d_CC_bound_48 : decode prog_1_method_10_code 48 = .ok (.iastore, 1) := by decide +kernel
theorem d_CC_bound_49 : decode prog_1_method_10_code 49 = .ok (.aload_n 0, 1) := by decide +kernel
theorem d_CC_bound_50 : decode prog_1_method_10_code 50 = .ok (.getfield 34, 3) := by decide +kernel
theorem d_CC_bound_53 : decode prog_1_method_10_code 53 = .ok (.iconst 1, 1) := by decide +kernel
theorem d_CC_bound_54 : decode prog_1_method_10_code 54 = .ok (.iload 4, 2) := by decide +kernel
theorem d_CC_bound_56 : decode prog_1_method_10_code 56 = .ok (.iastore, 1) := by decide +kernel
theorem d_CC_bound_57 : decode prog_1_method_10_code 57 = .ok (.aload_n 0, 1) := by decide +kernel
theorem d_CC_bound_58 : decode prog_1_method_10_code 58 = .ok (.getfield 34, 3) := by decide +kernel
theorem d_CC_bound_61 : decode prog_1_method_10_code 61 = .ok (.iconst 2, 1) := by decide +kernel
theorem d_CC_bound_62 : decode prog_1_method_10_code 62 = .ok (.iload 5, 2) := by decide +kernel
theorem d_CC_bound_64 : decode prog_1_method_10_code 64 = .ok (.iastore, 1) := by decide +kernel
theorem d_CC_bound_65 : decode prog_1_method_10_code 65 = .ok (.aload 6, 2) := by decide +kernel
theorem d_CC_bound_67 : decode prog_1_method_10_code 67 = .ok (.getfield 105, 3) := by decide +kernel
theorem d_CC_bound_70 : decode prog_1_method_10_code 70 = .ok (.iconst 0, 1) := by decide +kernel
theorem d_CC_bound_71 : decode prog_1_method_10_code 71 = .ok (.aaload, 1) := by decide +kernel
theorem d_CC_bound_72 : decode prog_1_method_10_code 72 = .ok (.astore 7, 2) := by decide +kernel
theorem d_CC_bound_74 : decode prog_1_method_10_code 74 = .ok (.aload 7, 2) := by decide +kernel
theorem d_CC_bound_76 : decode prog_1_method_10_code 76 = .ok (.aload_n 0, 1) := by decide +kernel
theorem d_CC_bound_77 : decode prog_1_method_10_code 77 = .ok (.getfield 34, 3) := by decide +kernel
theorem d_CC_bound_80 : decode prog_1_method_10_code 80 = .ok (.invokevirtual 109, 3) := by decide +kernel
theorem d_CC_bound_83 : decode prog_1_method_10_code 83 = .ok (.ifCond .eq 20, 3) := by decide +kernel
theorem d_CC_bound_86 : decode prog_1_method_10_code 86 = .ok (.aload 7, 2) := by decide +kernel
theorem d_CC_bound_88 : decode prog_1_method_10_code 88 = .ok (.getfield 80, 3) := by decide +kernel
theorem d_CC_bound_91 : decode prog_1_method_10_code 91 = .ok (.iload_n 2, 1) := by decide +kernel
theorem d_CC_bound_92 : decode prog_1_method_10_code 92 = .ok (.aaload, 1) := by decide +kernel
theorem d_CC_bound_93 : decode prog_1_method_10_code 93 = .ok (.aload_n 0, 1) := by decide +kernel
theorem d_CC_bound_94 : decode prog_1_method_10_code 94 = .ok (.getfield 34, 3) := by decide +kernel
theorem d_CC_bound_97 : decode prog_1_method_10_code 97 = .ok (.invokevirtual 113, 3) := by decide +kernel
theorem d_CC_bound_100 : decode prog_1_method_10_code 100 = .ok (.goto 6, 3) := by decide +kernel
theorem d_CC_bound_103 : decode prog_1_method_10_code 103 = .ok (.ldc2_w 103, 3) := by decide +kernel
theorem d_CC_bound_106 : decode prog_1_method_10_code 106 = .ok (.lreturn, 1) := by decide +kernel
theorem d_CC_areValues_0 : decode prog_1_method_21_code 0 = .ok (.iload_n 0, 1) := by decide +kernel
theorem d_CC_areValues_1 : decode prog_1_method_21_code 1 = .ok (.invokestatic 124, 3) := by decide +kernel
theorem d_CC_areValues_4 : decode prog_1_method_21_code 4 = .ok (.ifCond .eq 21, 3) := by decide +kernel
theorem d_CC_areValues_7 : decode prog_1_method_21_code 7 = .ok (.iload_n 1, 1) := by decide +kernel
theorem d_CC_areValues_8 : decode prog_1_method_21_code 8 = .ok (.invokestatic 124, 3) := by decide +kernel
theorem d_CC_areValues_11 : decode prog_1_method_21_code 11 = .ok (.ifCond .eq 14, 3) := by decide +kernel
theorem d_CC_areValues_14 : decode prog_1_method_21_code 14 = .ok (.iload_n 2, 1) := by decide +kernel
theorem d_CC_areValues_15 : decode prog_1_method_21_code 15 = .ok (.invokestatic 124, 3) := by decide +kernel
theorem d_CC_areValues_18 : decode prog_1_method_21_code 18 = .ok (.ifCond .eq 7, 3) := by decide +kernel
theorem d_CC_areValues_21 : decode prog_1_method_21_code 21 = .ok (.iconst 1, 1) := by decide +kernel
theorem d_CC_areValues_22 : decode prog_1_method_21_code 22 = .ok (.goto 4, 3) := by decide +kernel
theorem d_CC_areValues_25 : decode prog_1_method_21_code 25 = .ok (.iconst 0, 1) := by decide +kernel
theorem d_CC_areValues_26 : decode prog_1_method_21_code 26 = .ok (.ireturn, 1) := by decide +kernel
theorem d_CC_isValue_0 : decode prog_1_method_20_code 0 = .ok (.iload_n 0, 1) := by decide +kernel
theorem d_CC_isValue_1 : decode prog_1_method_20_code 1 = .ok (.ldc 165, 2) := by decide +kernel
theorem d_CC_isValue_3 : decode prog_1_method_20_code 3 = .ok (.ldc 166, 2) := by decide +kernel
theorem d_CC_isValue_5 : decode prog_1_method_20_code 5 = .ok (.invokestatic 42, 3) := by decide +kernel
theorem d_CC_isValue_8 : decode prog_1_method_20_code 8 = .ok (.ireturn, 1) := by decide +kernel
theorem d_Cu_holdsFor_0 : decode prog_4_method_4_code 0 = .ok (.iconst 0, 1) := by decide +kernel
theorem d_Cu_holdsFor_1 : decode prog_4_method_4_code 1 = .ok (.istore_n 2, 1) := by decide +kernel
theorem d_Cu_holdsFor_2 : decode prog_4_method_4_code 2 = .ok (.iload_n 2, 1) := by decide +kernel
theorem d_Cu_holdsFor_3 : decode prog_4_method_4_code 3 = .ok (.aload_n 0, 1) := by decide +kernel
theorem d_Cu_holdsFor_4 : decode prog_4_method_4_code 4 = .ok (.getfield 32, 3) := by decide +kernel
theorem d_Cu_holdsFor_7 : decode prog_4_method_4_code 7 = .ok (.if_icmp .ge 37, 3) := by decide +kernel
theorem d_Cu_holdsFor_10 : decode prog_4_method_4_code 10 = .ok (.aload_n 1, 1) := by decide +kernel
theorem d_Cu_holdsFor_11 : decode prog_4_method_4_code 11 = .ok (.aload_n 0, 1) := by decide +kernel
theorem d_Cu_holdsFor_12 : decode prog_4_method_4_code 12 = .ok (.getfield 9, 3) := by decide +kernel
theorem d_Cu_holdsFor_15 : decode prog_4_method_4_code 15 = .ok (.iload_n 2, 1) := by decide +kernel
theorem d_Cu_holdsFor_16 : decode prog_4_method_4_code 16 = .ok (.iaload, 1) := by decide +kernel
theorem d_Cu_holdsFor_17 : decode prog_4_method_4_code 17 = .ok (.iaload, 1) := by decide +kernel
theorem d_Cu_holdsFor_18 : decode prog_4_method_4_code 18 = .ok (.aload_n 1, 1) := by decide +kernel
theorem d_Cu_holdsFor_19 : decode prog_4_method_4_code 19 = .ok (.aload_n 0, 1) := by decide +kernel
theorem d_Cu_holdsFor_20 : decode prog_4_method_4_code 20 = .ok (.getfield 15, 3) := by decide +kernel
theorem d_Cu_holdsFor_23 : decode prog_4_method_4_code 23 = .ok (.iload_n 2, 1) := by decide +kernel
theorem d_Cu_holdsFor_24 : decode prog_4_method_4_code 24 = .ok (.iaload, 1) := by decide +kernel
theorem d_Cu_holdsFor_25 : decode prog_4_method_4_code 25 = .ok (.iaload, 1) := by decide +kernel
theorem d_Cu_holdsFor_26 : decode prog_4_method_4_code 26 = .ok (.isub, 1) := by decide +kernel
theorem d_Cu_holdsFor_27 : decode prog_4_method_4_code 27 = .ok (.aload_n 0, 1) := by decide +kernel
theorem d_Cu_holdsFor_28 : decode prog_4_method_4_code 28 = .ok (.getfield 18, 3) := by decide +kernel
theorem d_Cu_holdsFor_31 : decode prog_4_method_4_code 31 = .ok (.iload_n 2, 1) := by decide +kernel
theorem d_Cu_holdsFor_32 : decode prog_4_method_4_code 32 = .ok (.iaload, 1) := by decide +kernel
theorem d_Cu_holdsFor_33 : decode prog_4_method_4_code 33 = .ok (.if_icmp .le 5, 3) := by decide +kernel
theorem d_Cu_holdsFor_36 : decode prog_4_method_4_code 36 = .ok (.iconst 0, 1) := by decide +kernel
theorem d_Cu_holdsFor_37 : decode prog_4_method_4_code 37 = .ok (.ireturn, 1) := by decide +kernel
theorem d_Cu_holdsFor_38 : decode prog_4_method_4_code 38 = .ok (.iinc 2 1, 3) := by decide +kernel
theorem d_Cu_holdsFor_41 : decode prog_4_method_4_code 41 = .ok (.goto (-39), 3) := by decide +kernel
theorem d_Cu_holdsFor_44 : decode prog_4_method_4_code 44 = .ok (.iconst 1, 1) := by decide +kernel
theorem d_Cu_holdsFor_45 : decode prog_4_method_4_code 45 = .ok (.ireturn, 1) := by decide +kernel
theorem d_Po_valueFor_0 : decode prog_10_method_4_code 0 = .ok (.aload_n 0, 1) := by decide +kernel
theorem d_Po_valueFor_1 : decode prog_10_method_4_code 1 = .ok (.getfield 21, 3) := by decide +kernel
theorem d_Po_valueFor_4 : decode prog_10_method_4_code 4 = .ok (.i2l, 1) := by decide +kernel
theorem d_Po_valueFor_5 : decode prog_10_method_4_code 5 = .ok (.lstore_n 2, 1) := by decide +kernel
theorem d_Po_valueFor_6 : decode prog_10_method_4_code 6 = .ok (.iconst 0, 1) := by decide +kernel
theorem d_Po_valueFor_7 : decode prog_10_method_4_code 7 = .ok (.istore 4, 2) := by decide +kernel
theorem d_Po_valueFor_9 : decode prog_10_method_4_code 9 = .ok (.iload 4, 2) := by decide +kernel
theorem d_Po_valueFor_11 : decode prog_10_method_4_code 11 = .ok (.aload_n 0, 1) := by decide +kernel
theorem d_Po_valueFor_12 : decode prog_10_method_4_code 12 = .ok (.getfield 25, 3) := by decide +kernel
theorem d_Po_valueFor_15 : decode prog_10_method_4_code 15 = .ok (.if_icmp .ge 41, 3) := by decide +kernel
theorem d_Po_valueFor_18 : decode prog_10_method_4_code 18 = .ok (.lload_n 2, 1) := by decide +kernel
theorem d_Po_valueFor_19 : decode prog_10_method_4_code 19 = .ok (.aload_n 0, 1) := by decide +kernel
theorem d_Po_valueFor_20 : decode prog_10_method_4_code 20 = .ok (.getfield 9, 3) := by decide +kernel
theorem d_Po_valueFor_23 : decode prog_10_method_4_code 23 = .ok (.iload 4, 2) := by decide +kernel
theorem d_Po_valueFor_25 : decode prog_10_method_4_code 25 = .ok (.iaload, 1) := by decide +kernel
theorem d_Po_valueFor_26 : decode prog_10_method_4_code 26 = .ok (.i2l, 1) := by decide +kernel
theorem d_Po_valueFor_27 : decode prog_10_method_4_code 27 = .ok (.aload_n 1, 1) := by decide +kernel
theorem d_Po_valueFor_28 : decode prog_10_method_4_code 28 = .ok (.aload_n 0, 1) := by decide +kernel
theorem d_Po_valueFor_29 : decode prog_10_method_4_code 29 = .ok (.getfield 15, 3) := by decide +kernel
theorem d_Po_valueFor_32 : decode prog_10_method_4_code 32 = .ok (.iload 4, 2) := by decide +kernel
theorem d_Po_valueFor_34 : decode prog_10_method_4_code 34 = .ok (.iaload, 1) := by decide +kernel
theorem d_Po_valueFor_35 : decode prog_10_method_4_code 35 = .ok (.iaload, 1) := by decide +kernel
theorem d_Po_valueFor_36 : decode prog_10_method_4_code 36 = .ok (.aload_n 1, 1) := by decide +kernel
theorem d_Po_valueFor_37 : decode prog_10_method_4_code 37 = .ok (.aload_n 0, 1) := by decide +kernel
theorem d_Po_valueFor_38 : decode prog_10_method_4_code 38 = .ok (.getfield 18, 3) := by decide +kernel
theorem d_Po_valueFor_41 : decode prog_10_method_4_code 41 = .ok (.iload 4, 2) := by decide +kernel
theorem d_Po_valueFor_43 : decode prog_10_method_4_code 43 = .ok (.iaload, 1) := by decide +kernel
theorem d_Po_valueFor_44 : decode prog_10_method_4_code 44 = .ok (.iaload, 1) := by decide +kernel
theorem d_Po_valueFor_45 : decode prog_10_method_4_code 45 = .ok (.isub, 1) := by decide +kernel
theorem d_Po_valueFor_46 : decode prog_10_method_4_code 46 = .ok (.i2l, 1) := by decide +kernel
theorem d_Po_valueFor_47 : decode prog_10_method_4_code 47 = .ok (.lmul, 1) := by decide +kernel
theorem d_Po_valueFor_48 : decode prog_10_method_4_code 48 = .ok (.ladd, 1) := by decide +kernel
theorem d_Po_valueFor_49 : decode prog_10_method_4_code 49 = .ok (.lstore_n 2, 1) := by decide +kernel
theorem d_Po_valueFor_50 : decode prog_10_method_4_code 50 = .ok (.iinc 4 1, 3) := by decide +kernel
theorem d_Po_valueFor_53 : decode prog_10_method_4_code 53 = .ok (.goto (-44), 3) := by decide +kernel
theorem d_Po_valueFor_56 : decode prog_10_method_4_code 56 = .ok (.lload_n 2, 1) := by decide +kernel
theorem d_Po_valueFor_57 : decode prog_10_method_4_code 57 = .ok (.lreturn, 1) := by decide +kernel
theorem d_CC_depth_0 : decode prog_1_method_11_code 0 = .ok (.aload_n 0, 1) := by decide +kernel
theorem d_CC_depth_1 : decode prog_1_method_11_code 1 = .ok (.iload_n 1, 1) := by decide +kernel
theorem d_CC_depth_2 : decode prog_1_method_11_code 2 = .ok (.invokevirtual 38, 3) := by decide +kernel
theorem d_CC_depth_5 : decode prog_1_method_11_code 5 = .ok (.ifnonnull 5, 3) := by decide +kernel
theorem d_CC_depth_8 : decode prog_1_method_11_code 8 = .ok (.iconst (-1), 1) := by decide +kernel
theorem d_CC_depth_9 : decode prog_1_method_11_code 9 = .ok (.ireturn, 1) := by decide +kernel
theorem d_CC_depth_10 : decode prog_1_method_11_code 10 = .ok (.iconst 0, 1) := by decide +kernel
theorem d_CC_depth_11 : decode prog_1_method_11_code 11 = .ok (.istore_n 2, 1) := by decide +kernel
theorem d_CC_depth_12 : decode prog_1_method_11_code 12 = .ok (.iload_n 2, 1) := by decide +kernel
theorem d_CC_depth_13 : decode prog_1_method_11_code 13 = .ok (.iload_n 1, 1) := by decide +kernel
theorem d_CC_depth_14 : decode prog_1_method_11_code 14 = .ok (.if_icmp .gt 19, 3) := by decide +kernel
theorem d_CC_depth_17 : decode prog_1_method_11_code 17 = .ok (.aload_n 0, 1) := by decide +kernel
theorem d_CC_depth_18 : decode prog_1_method_11_code 18 = .ok (.aload_n 0, 1) := by decide +kernel
theorem d_CC_depth_19 : decode prog_1_method_11_code 19 = .ok (.getfield 14, 3) := by decide +kernel
theorem d_CC_depth_22 : decode prog_1_method_11_code 22 = .ok (.iload_n 2, 1) := by decide +kernel
theorem d_CC_depth_23 : decode prog_1_method_11_code 23 = .ok (.aaload, 1) := by decide +kernel
theorem d_CC_depth_24 : decode prog_1_method_11_code 24 = .ok (.invokevirtual 117, 3) := by decide +kernel
theorem d_CC_depth_27 : decode prog_1_method_11_code 27 = .ok (.iinc 2 1, 3) := by decide +kernel
theorem d_CC_depth_30 : decode prog_1_method_11_code 30 = .ok (.goto (-18), 3) := by decide +kernel
theorem d_CC_depth_33 : decode prog_1_method_11_code 33 = .ok (.aload_n 0, 1) := by decide +kernel
theorem d_CC_depth_34 : decode prog_1_method_11_code 34 = .ok (.getfield 14, 3) := by decide +kernel
theorem d_CC_depth_37 : decode prog_1_method_11_code 37 = .ok (.iload_n 1, 1) := by decide +kernel
theorem d_CC_depth_38 : decode prog_1_method_11_code 38 = .ok (.aaload, 1) := by decide +kernel
theorem d_CC_depth_39 : decode prog_1_method_11_code 39 = .ok (.getfield 121, 3) := by decide +kernel
theorem d_CC_depth_42 : decode prog_1_method_11_code 42 = .ok (.ireturn, 1) := by decide +kernel
theorem d_CC_measureDepth_0 : decode prog_1_method_18_code 0 = .ok (.iconst 0, 1) := by decide +kernel
theorem d_CC_measureDepth_1 : decode prog_1_method_18_code 1 = .ok (.istore_n 2, 1) := by decide +kernel
theorem d_CC_measureDepth_2 : decode prog_1_method_18_code 2 = .ok (.iconst 0, 1) := by decide +kernel
theorem d_CC_measureDepth_3 : decode prog_1_method_18_code 3 = .ok (.istore_n 3, 1) := by decide +kernel
theorem d_CC_measureDepth_4 : decode prog_1_method_18_code 4 = .ok (.iload_n 3, 1) := by decide +kernel
theorem d_CC_measureDepth_5 : decode prog_1_method_18_code 5 = .ok (.aload_n 1, 1) := by decide +kernel
theorem d_CC_measureDepth_6 : decode prog_1_method_18_code 6 = .ok (.getfield 54, 3) := by decide +kernel
theorem d_CC_measureDepth_9 : decode prog_1_method_18_code 9 = .ok (.if_icmp .ge 57, 3) := by decide +kernel
theorem d_CC_measureDepth_12 : decode prog_1_method_18_code 12 = .ok (.aload_n 1, 1) := by decide +kernel
theorem d_CC_measureDepth_13 : decode prog_1_method_18_code 13 = .ok (.getfield 150, 3) := by decide +kernel
theorem d_CC_measureDepth_16 : decode prog_1_method_18_code 16 = .ok (.iload_n 3, 1) := by decide +kernel
theorem d_CC_measureDepth_17 : decode prog_1_method_18_code 17 = .ok (.iaload, 1) := by decide +kernel
theorem d_CC_measureDepth_18 : decode prog_1_method_18_code 18 = .ok (.istore 4, 2) := by decide +kernel
theorem d_CC_measureDepth_20 : decode prog_1_method_18_code 20 = .ok (.aload_n 1, 1) := by decide +kernel
theorem d_CC_measureDepth_21 : decode prog_1_method_18_code 21 = .ok (.getfield 153, 3) := by decide +kernel
theorem d_CC_measureDepth_24 : decode prog_1_method_18_code 24 = .ok (.iload_n 3, 1) := by decide +kernel
theorem d_CC_measureDepth_25 : decode prog_1_method_18_code 25 = .ok (.iaload, 1) := by decide +kernel
theorem d_CC_measureDepth_26 : decode prog_1_method_18_code 26 = .ok (.bipush 11, 2) := by decide +kernel
theorem d_CC_measureDepth_28 : decode prog_1_method_18_code 28 = .ok (.if_icmp .ne 32, 3) := by decide +kernel
theorem d_CC_measureDepth_31 : decode prog_1_method_18_code 31 = .ok (.iload 4, 2) := by decide +kernel
theorem d_CC_measureDepth_33 : decode prog_1_method_18_code 33 = .ok (.ifCond .lt 27, 3) := by decide +kernel
theorem d_CC_measureDepth_36 : decode prog_1_method_18_code 36 = .ok (.iload 4, 2) := by decide +kernel
theorem d_CC_measureDepth_38 : decode prog_1_method_18_code 38 = .ok (.aload_n 1, 1) := by decide +kernel
theorem d_CC_measureDepth_39 : decode prog_1_method_18_code 39 = .ok (.getfield 156, 3) := by decide +kernel
theorem d_CC_measureDepth_42 : decode prog_1_method_18_code 42 = .ok (.if_icmp .ge 18, 3) := by decide +kernel
theorem d_CC_measureDepth_45 : decode prog_1_method_18_code 45 = .ok (.iload_n 2, 1) := by decide +kernel
theorem d_CC_measureDepth_46 : decode prog_1_method_18_code 46 = .ok (.aload_n 0, 1) := by decide +kernel
theorem d_CC_measureDepth_47 : decode prog_1_method_18_code 47 = .ok (.getfield 14, 3) := by decide +kernel
theorem d_CC_measureDepth_50 : decode prog_1_method_18_code 50 = .ok (.iload 4, 2) := by decide +kernel
theorem d_CC_measureDepth_52 : decode prog_1_method_18_code 52 = .ok (.aaload, 1) := by decide +kernel
theorem d_CC_measureDepth_53 : decode prog_1_method_18_code 53 = .ok (.getfield 121, 3) := by decide +kernel
theorem d_CC_measureDepth_56 : decode prog_1_method_18_code 56 = .ok (.invokestatic 159, 3) := by decide +kernel
theorem d_CC_measureDepth_59 : decode prog_1_method_18_code 59 = .ok (.istore_n 2, 1) := by decide +kernel
theorem d_CC_measureDepth_60 : decode prog_1_method_18_code 60 = .ok (.iinc 3 1, 3) := by decide +kernel
theorem d_CC_measureDepth_63 : decode prog_1_method_18_code 63 = .ok (.goto (-59), 3) := by decide +kernel
theorem d_CC_measureDepth_66 : decode prog_1_method_18_code 66 = .ok (.aload_n 1, 1) := by decide +kernel
theorem d_CC_measureDepth_67 : decode prog_1_method_18_code 67 = .ok (.aload_n 1, 1) := by decide +kernel
theorem d_CC_measureDepth_68 : decode prog_1_method_18_code 68 = .ok (.getfield 54, 3) := by decide +kernel
theorem d_CC_measureDepth_71 : decode prog_1_method_18_code 71 = .ok (.ifCond .ne 7, 3) := by decide +kernel
theorem d_CC_measureDepth_74 : decode prog_1_method_18_code 74 = .ok (.iconst 0, 1) := by decide +kernel
theorem d_CC_measureDepth_75 : decode prog_1_method_18_code 75 = .ok (.goto 6, 3) := by decide +kernel
theorem d_CC_measureDepth_78 : decode prog_1_method_18_code 78 = .ok (.iload_n 2, 1) := by decide +kernel
theorem d_CC_measureDepth_79 : decode prog_1_method_18_code 79 = .ok (.iconst 1, 1) := by decide +kernel
theorem d_CC_measureDepth_80 : decode prog_1_method_18_code 80 = .ok (.iadd, 1) := by decide +kernel
theorem d_CC_measureDepth_81 : decode prog_1_method_18_code 81 = .ok (.putfield 121, 3) := by decide +kernel
theorem d_CC_measureDepth_84 : decode prog_1_method_18_code 84 = .ok (.return_, 1) := by decide +kernel
theorem d_CC_feed_0 : decode prog_1_method_12_code 0 = .ok (.iload_n 1, 1) := by decide +kernel
theorem d_CC_feed_1 : decode prog_1_method_12_code 1 = .ok (.invokestatic 124, 3) := by decide +kernel
theorem d_CC_feed_4 : decode prog_1_method_12_code 4 = .ok (.ifCond .eq 18, 3) := by decide +kernel
theorem d_CC_feed_7 : decode prog_1_method_12_code 7 = .ok (.aload_n 0, 1) := by decide +kernel
theorem d_CC_feed_8 : decode prog_1_method_12_code 8 = .ok (.getfield 23, 3) := by decide +kernel
theorem d_CC_feed_11 : decode prog_1_method_12_code 11 = .ok (.iload_n 1, 1) := by decide +kernel
theorem d_CC_feed_12 : decode prog_1_method_12_code 12 = .ok (.invokevirtual 127, 3) := by decide +kernel
theorem d_CC_feed_15 : decode prog_1_method_12_code 15 = .ok (.ifCond .eq 7, 3) := by decide +kernel
theorem d_CC_feed_18 : decode prog_1_method_12_code 18 = .ok (.iconst 1, 1) := by decide +kernel
theorem d_CC_feed_19 : decode prog_1_method_12_code 19 = .ok (.goto 4, 3) := by decide +kernel
theorem d_CC_feed_22 : decode prog_1_method_12_code 22 = .ok (.iconst 0, 1) := by decide +kernel
theorem d_CC_feed_23 : decode prog_1_method_12_code 23 = .ok (.ireturn, 1) := by decide +kernel
theorem d_CC_run_0 : decode prog_1_method_13_code 0 = .ok (.aload_n 0, 1) := by decide +kernel
theorem d_CC_run_1 : decode prog_1_method_13_code 1 = .ok (.iload_n 1, 1) := by decide +kernel
theorem d_CC_run_2 : decode prog_1_method_13_code 2 = .ok (.invokevirtual 38, 3) := by decide +kernel
theorem d_CC_run_5 : decode prog_1_method_13_code 5 = .ok (.astore 5, 2) := by decide +kernel
theorem d_CC_run_7 : decode prog_1_method_13_code 7 = .ok (.aload 5, 2) := by decide +kernel
theorem d_CC_run_9 : decode prog_1_method_13_code 9 = .ok (.ifnull 21, 3) := by decide +kernel
theorem d_CC_run_12 : decode prog_1_method_13_code 12 = .ok (.aload 5, 2) := by decide +kernel
theorem d_CC_run_14 : decode prog_1_method_13_code 14 = .ok (.getfield 54, 3) := by decide +kernel
theorem d_CC_run_17 : decode prog_1_method_13_code 17 = .ok (.ifCond .eq 13, 3) := by decide +kernel
theorem d_CC_run_20 : decode prog_1_method_13_code 20 = .ok (.iload_n 2, 1) := by decide +kernel
theorem d_CC_run_21 : decode prog_1_method_13_code 21 = .ok (.iload_n 3, 1) := by decide +kernel
theorem d_CC_run_22 : decode prog_1_method_13_code 22 = .ok (.iload 4, 2) := by decide +kernel
theorem d_CC_run_24 : decode prog_1_method_13_code 24 = .ok (.invokestatic 100, 3) := by decide +kernel
theorem d_CC_run_27 : decode prog_1_method_13_code 27 = .ok (.ifCond .ne 5, 3) := by decide +kernel
theorem d_CC_run_30 : decode prog_1_method_13_code 30 = .ok (.iconst (-1), 1) := by decide +kernel
theorem d_CC_run_31 : decode prog_1_method_13_code 31 = .ok (.ireturn, 1) := by decide +kernel
theorem d_CC_run_32 : decode prog_1_method_13_code 32 = .ok (.aload_n 0, 1) := by decide +kernel
theorem d_CC_run_33 : decode prog_1_method_13_code 33 = .ok (.getfield 23, 3) := by decide +kernel
theorem d_CC_run_36 : decode prog_1_method_13_code 36 = .ok (.iload_n 1, 1) := by decide +kernel
theorem d_CC_run_37 : decode prog_1_method_13_code 37 = .ok (.iload_n 2, 1) := by decide +kernel
theorem d_CC_run_38 : decode prog_1_method_13_code 38 = .ok (.iload_n 3, 1) := by decide +kernel
theorem d_CC_run_39 : decode prog_1_method_13_code 39 = .ok (.iload 4, 2) := by decide +kernel
theorem d_CC_run_41 : decode prog_1_method_13_code 41 = .ok (.invokevirtual 130, 3) := by decide +kernel
theorem d_CC_run_44 : decode prog_1_method_13_code 44 = .ok (.ireturn, 1) := by decide +kernel
theorem d_Fr_enter_0 : decode prog_5_method_2_code 0 = .ok (.aload_n 0, 1) := by decide +kernel
theorem d_Fr_enter_1 : decode prog_5_method_2_code 1 = .ok (.iload_n 1, 1) := by decide +kernel
theorem d_Fr_enter_2 : decode prog_5_method_2_code 2 = .ok (.putfield 18, 3) := by decide +kernel
theorem d_Fr_enter_5 : decode prog_5_method_2_code 5 = .ok (.aload_n 0, 1) := by decide +kernel
theorem d_Fr_enter_6 : decode prog_5_method_2_code 6 = .ok (.iconst 0, 1) := by decide +kernel
theorem d_Fr_enter_7 : decode prog_5_method_2_code 7 = .ok (.putfield 22, 3) := by decide +kernel
theorem d_Fr_enter_10 : decode prog_5_method_2_code 10 = .ok (.aload_n 0, 1) := by decide +kernel
theorem d_Fr_enter_11 : decode prog_5_method_2_code 11 = .ok (.iconst 0, 1) := by decide +kernel
theorem d_Fr_enter_12 : decode prog_5_method_2_code 12 = .ok (.putfield 25, 3) := by decide +kernel
theorem d_Fr_enter_15 : decode prog_5_method_2_code 15 = .ok (.aload_n 0, 1) := by decide +kernel
theorem d_Fr_enter_16 : decode prog_5_method_2_code 16 = .ok (.getfield 9, 3) := by decide +kernel
theorem d_Fr_enter_19 : decode prog_5_method_2_code 19 = .ok (.iconst 0, 1) := by decide +kernel
theorem d_Fr_enter_20 : decode prog_5_method_2_code 20 = .ok (.iload_n 2, 1) := by decide +kernel
theorem d_Fr_enter_21 : decode prog_5_method_2_code 21 = .ok (.iastore, 1) := by decide +kernel
theorem d_Fr_enter_22 : decode prog_5_method_2_code 22 = .ok (.aload_n 0, 1) := by decide +kernel
theorem d_Fr_enter_23 : decode prog_5_method_2_code 23 = .ok (.getfield 9, 3) := by decide +kernel
theorem d_Fr_enter_26 : decode prog_5_method_2_code 26 = .ok (.iconst 1, 1) := by decide +kernel
theorem d_Fr_enter_27 : decode prog_5_method_2_code 27 = .ok (.iload_n 3, 1) := by decide +kernel
theorem d_Fr_enter_28 : decode prog_5_method_2_code 28 = .ok (.iastore, 1) := by decide +kernel
theorem d_Fr_enter_29 : decode prog_5_method_2_code 29 = .ok (.aload_n 0, 1) := by decide +kernel
theorem d_Fr_enter_30 : decode prog_5_method_2_code 30 = .ok (.getfield 9, 3) := by decide +kernel
theorem d_Fr_enter_33 : decode prog_5_method_2_code 33 = .ok (.iconst 2, 1) := by decide +kernel
theorem d_Fr_enter_34 : decode prog_5_method_2_code 34 = .ok (.iload 4, 2) := by decide +kernel
theorem d_Fr_enter_36 : decode prog_5_method_2_code 36 = .ok (.iastore, 1) := by decide +kernel
theorem d_Fr_enter_37 : decode prog_5_method_2_code 37 = .ok (.aload_n 0, 1) := by decide +kernel
theorem d_Fr_enter_38 : decode prog_5_method_2_code 38 = .ok (.getfield 9, 3) := by decide +kernel
theorem d_Fr_enter_41 : decode prog_5_method_2_code 41 = .ok (.iconst 3, 1) := by decide +kernel
theorem d_Fr_enter_42 : decode prog_5_method_2_code 42 = .ok (.iconst 0, 1) := by decide +kernel
theorem d_Fr_enter_43 : decode prog_5_method_2_code 43 = .ok (.iastore, 1) := by decide +kernel
theorem d_Fr_enter_44 : decode prog_5_method_2_code 44 = .ok (.return_, 1) := by decide +kernel
theorem d_Fr_push_0 : decode prog_5_method_3_code 0 = .ok (.aload_n 0, 1) := by decide +kernel
theorem d_Fr_push_1 : decode prog_5_method_3_code 1 = .ok (.getfield 25, 3) := by decide +kernel
theorem d_Fr_push_4 : decode prog_5_method_3_code 4 = .ok (.bipush 6, 2) := by decide +kernel
theorem d_Fr_push_6 : decode prog_5_method_3_code 6 = .ok (.if_icmp .ge 23, 3) := by decide +kernel
theorem d_Fr_push_9 : decode prog_5_method_3_code 9 = .ok (.aload_n 0, 1) := by decide +kernel
theorem d_Fr_push_10 : decode prog_5_method_3_code 10 = .ok (.getfield 15, 3) := by decide +kernel
theorem d_Fr_push_13 : decode prog_5_method_3_code 13 = .ok (.aload_n 0, 1) := by decide +kernel
theorem d_Fr_push_14 : decode prog_5_method_3_code 14 = .ok (.getfield 25, 3) := by decide +kernel
theorem d_Fr_push_17 : decode prog_5_method_3_code 17 = .ok (.iload_n 1, 1) := by decide +kernel
theorem d_Fr_push_18 : decode prog_5_method_3_code 18 = .ok (.iastore, 1) := by decide +kernel
theorem d_Fr_push_19 : decode prog_5_method_3_code 19 = .ok (.aload_n 0, 1) := by decide +kernel
theorem d_Fr_push_20 : decode prog_5_method_3_code 20 = .ok (.dup, 1) := by decide +kernel
theorem d_Fr_push_21 : decode prog_5_method_3_code 21 = .ok (.getfield 25, 3) := by decide +kernel
theorem d_Fr_push_24 : decode prog_5_method_3_code 24 = .ok (.iconst 1, 1) := by decide +kernel
theorem d_Fr_push_25 : decode prog_5_method_3_code 25 = .ok (.iadd, 1) := by decide +kernel
theorem d_Fr_push_26 : decode prog_5_method_3_code 26 = .ok (.putfield 25, 3) := by decide +kernel
theorem d_Fr_push_29 : decode prog_5_method_3_code 29 = .ok (.return_, 1) := by decide +kernel
theorem d_Fr_pop_0 : decode prog_5_method_4_code 0 = .ok (.aload_n 0, 1) := by decide +kernel
theorem d_Fr_pop_1 : decode prog_5_method_4_code 1 = .ok (.getfield 25, 3) := by decide +kernel
theorem d_Fr_pop_4 : decode prog_5_method_4_code 4 = .ok (.ifCond .gt 5, 3) := by decide +kernel
theorem d_Fr_pop_7 : decode prog_5_method_4_code 7 = .ok (.iconst 0, 1) := by decide +kernel
theorem d_Fr_pop_8 : decode prog_5_method_4_code 8 = .ok (.ireturn, 1) := by decide +kernel
theorem d_Fr_pop_9 : decode prog_5_method_4_code 9 = .ok (.aload_n 0, 1) := by decide +kernel
theorem d_Fr_pop_10 : decode prog_5_method_4_code 10 = .ok (.dup, 1) := by decide +kernel
theorem d_Fr_pop_11 : decode prog_5_method_4_code 11 = .ok (.getfield 25, 3) := by decide +kernel
theorem d_Fr_pop_14 : decode prog_5_method_4_code 14 = .ok (.iconst 1, 1) := by decide +kernel
theorem d_Fr_pop_15 : decode prog_5_method_4_code 15 = .ok (.isub, 1) := by decide +kernel
theorem d_Fr_pop_16 : decode prog_5_method_4_code 16 = .ok (.putfield 25, 3) := by decide +kernel
theorem d_Fr_pop_19 : decode prog_5_method_4_code 19 = .ok (.aload_n 0, 1) := by decide +kernel
theorem d_Fr_pop_20 : decode prog_5_method_4_code 20 = .ok (.getfield 15, 3) := by decide +kernel
theorem d_Fr_pop_23 : decode prog_5_method_4_code 23 = .ok (.aload_n 0, 1) := by decide +kernel
theorem d_Fr_pop_24 : decode prog_5_method_4_code 24 = .ok (.getfield 25, 3) := by decide +kernel
theorem d_Fr_pop_27 : decode prog_5_method_4_code 27 = .ok (.iaload, 1) := by decide +kernel
theorem d_Fr_pop_28 : decode prog_5_method_4_code 28 = .ok (.ireturn, 1) := by decide +kernel
theorem d_CC_ran_0 : decode prog_1_method_14_code 0 = .ok (.iload_n 1, 1) := by decide +kernel
theorem d_CC_ran_1 : decode prog_1_method_14_code 1 = .ok (.tableswitch 63 0 3 #[31, 39, 47, 55], 31) := by decide +kernel
theorem d_CC_ran_32 : decode prog_1_method_14_code 32 = .ok (.aload_n 0, 1) := by decide +kernel
theorem d_CC_ran_33 : decode prog_1_method_14_code 33 = .ok (.getfield 23, 3) := by decide +kernel
theorem d_CC_ran_36 : decode prog_1_method_14_code 36 = .ok (.getfield 134, 3) := by decide +kernel
theorem d_CC_ran_39 : decode prog_1_method_14_code 39 = .ok (.ireturn, 1) := by decide +kernel
theorem d_CC_ran_40 : decode prog_1_method_14_code 40 = .ok (.aload_n 0, 1) := by decide +kernel
theorem d_CC_ran_41 : decode prog_1_method_14_code 41 = .ok (.getfield 23, 3) := by decide +kernel
theorem d_CC_ran_44 : decode prog_1_method_14_code 44 = .ok (.getfield 137, 3) := by decide +kernel
theorem d_CC_ran_47 : decode prog_1_method_14_code 47 = .ok (.ireturn, 1) := by decide +kernel
theorem d_CC_ran_48 : decode prog_1_method_14_code 48 = .ok (.aload_n 0, 1) := by decide +kernel
theorem d_CC_ran_49 : decode prog_1_method_14_code 49 = .ok (.getfield 23, 3) := by decide +kernel
theorem d_CC_ran_52 : decode prog_1_method_14_code 52 = .ok (.getfield 140, 3) := by decide +kernel
theorem d_CC_ran_55 : decode prog_1_method_14_code 55 = .ok (.ireturn, 1) := by decide +kernel
theorem d_CC_ran_56 : decode prog_1_method_14_code 56 = .ok (.aload_n 0, 1) := by decide +kernel
theorem d_CC_ran_57 : decode prog_1_method_14_code 57 = .ok (.getfield 23, 3) := by decide +kernel
theorem d_CC_ran_60 : decode prog_1_method_14_code 60 = .ok (.getfield 143, 3) := by decide +kernel
theorem d_CC_ran_63 : decode prog_1_method_14_code 63 = .ok (.ireturn, 1) := by decide +kernel
theorem d_CC_ran_64 : decode prog_1_method_14_code 64 = .ok (.iconst (-1), 1) := by decide +kernel
theorem d_CC_ran_65 : decode prog_1_method_14_code 65 = .ok (.ireturn, 1) := by decide +kernel
