/-! decode rows, written by wip/whole/gennames.py -/
theorem d_D_init_0 : decode b_D_init 0 = .ok (.aload_n 0, 1) := by decide +kernel
theorem d_D_init_1 : decode b_D_init 1 = .ok (.invokespecial 3, 3) := by decide +kernel
theorem d_D_init_4 : decode b_D_init 4 = .ok (.aload_n 0, 1) := by decide +kernel
theorem d_D_init_5 : decode b_D_init 5 = .ok (.new 9, 3) := by decide +kernel
theorem d_D_init_8 : decode b_D_init 8 = .ok (.dup, 1) := by decide +kernel
theorem d_D_init_9 : decode b_D_init 9 = .ok (.invokespecial 11, 3) := by decide +kernel
theorem d_D_init_12 : decode b_D_init 12 = .ok (.putfield 12, 3) := by decide +kernel
theorem d_D_init_15 : decode b_D_init 15 = .ok (.aload_n 0, 1) := by decide +kernel
theorem d_D_init_16 : decode b_D_init 16 = .ok (.new 9, 3) := by decide +kernel
theorem d_D_init_19 : decode b_D_init 19 = .ok (.dup, 1) := by decide +kernel
theorem d_D_init_20 : decode b_D_init 20 = .ok (.invokespecial 11, 3) := by decide +kernel
theorem d_D_init_23 : decode b_D_init 23 = .ok (.putfield 16, 3) := by decide +kernel
theorem d_D_init_26 : decode b_D_init 26 = .ok (.aload_n 0, 1) := by decide +kernel
theorem d_D_init_27 : decode b_D_init 27 = .ok (.new 19, 3) := by decide +kernel
theorem d_D_init_30 : decode b_D_init 30 = .ok (.dup, 1) := by decide +kernel
theorem d_D_init_31 : decode b_D_init 31 = .ok (.invokespecial 21, 3) := by decide +kernel
theorem d_D_init_34 : decode b_D_init 34 = .ok (.putfield 22, 3) := by decide +kernel
theorem d_D_init_37 : decode b_D_init 37 = .ok (.aload_n 0, 1) := by decide +kernel
theorem d_D_init_38 : decode b_D_init 38 = .ok (.bipush 8, 2) := by decide +kernel
theorem d_D_init_40 : decode b_D_init 40 = .ok (.anewarray 26, 3) := by decide +kernel
theorem d_D_init_43 : decode b_D_init 43 = .ok (.putfield 28, 3) := by decide +kernel
theorem d_D_init_46 : decode b_D_init 46 = .ok (.aload_n 0, 1) := by decide +kernel
theorem d_D_init_47 : decode b_D_init 47 = .ok (.lconst 0, 1) := by decide +kernel
theorem d_D_init_48 : decode b_D_init 48 = .ok (.putfield 32, 3) := by decide +kernel
theorem d_D_init_51 : decode b_D_init 51 = .ok (.iconst 0, 1) := by decide +kernel
theorem d_D_init_52 : decode b_D_init 52 = .ok (.istore_n 1, 1) := by decide +kernel
theorem d_D_init_53 : decode b_D_init 53 = .ok (.iload_n 1, 1) := by decide +kernel
theorem d_D_init_54 : decode b_D_init 54 = .ok (.bipush 8, 2) := by decide +kernel
theorem d_D_init_56 : decode b_D_init 56 = .ok (.if_icmp .ge 22, 3) := by decide +kernel
theorem d_D_init_59 : decode b_D_init 59 = .ok (.aload_n 0, 1) := by decide +kernel
theorem d_D_init_60 : decode b_D_init 60 = .ok (.getfield 28, 3) := by decide +kernel
theorem d_D_init_63 : decode b_D_init 63 = .ok (.iload_n 1, 1) := by decide +kernel
theorem d_D_init_64 : decode b_D_init 64 = .ok (.new 26, 3) := by decide +kernel
theorem d_D_init_67 : decode b_D_init 67 = .ok (.dup, 1) := by decide +kernel
theorem d_D_init_68 : decode b_D_init 68 = .ok (.invokespecial 36, 3) := by decide +kernel
theorem d_D_init_71 : decode b_D_init 71 = .ok (.aastore, 1) := by decide +kernel
theorem d_D_init_72 : decode b_D_init 72 = .ok (.iinc 1 1, 3) := by decide +kernel
theorem d_D_init_75 : decode b_D_init 75 = .ok (.goto (-22), 3) := by decide +kernel
theorem d_D_init_78 : decode b_D_init 78 = .ok (.return_, 1) := by decide +kernel
theorem d_N_init_0 : decode b_N_init 0 = .ok (.aload_n 0, 1) := by decide +kernel
theorem d_N_init_1 : decode b_N_init 1 = .ok (.invokespecial 3, 3) := by decide +kernel
theorem d_N_init_4 : decode b_N_init 4 = .ok (.aload_n 0, 1) := by decide +kernel
theorem d_N_init_5 : decode b_N_init 5 = .ok (.bipush 100, 2) := by decide +kernel
theorem d_N_init_7 : decode b_N_init 7 = .ok (.newarray .int, 2) := by decide +kernel
theorem d_N_init_9 : decode b_N_init 9 = .ok (.putfield 9, 3) := by decide +kernel
theorem d_N_init_12 : decode b_N_init 12 = .ok (.aload_n 0, 1) := by decide +kernel
theorem d_N_init_13 : decode b_N_init 13 = .ok (.iconst 0, 1) := by decide +kernel
theorem d_N_init_14 : decode b_N_init 14 = .ok (.putfield 15, 3) := by decide +kernel
theorem d_N_init_17 : decode b_N_init 17 = .ok (.return_, 1) := by decide +kernel
theorem d_V_init_0 : decode b_V_init 0 = .ok (.aload_n 0, 1) := by decide +kernel
theorem d_V_init_1 : decode b_V_init 1 = .ok (.invokespecial 1, 3) := by decide +kernel
theorem d_V_init_4 : decode b_V_init 4 = .ok (.aload_n 0, 1) := by decide +kernel
theorem d_V_init_5 : decode b_V_init 5 = .ok (.iconst 0, 1) := by decide +kernel
theorem d_V_init_6 : decode b_V_init 6 = .ok (.putfield 7, 3) := by decide +kernel
theorem d_V_init_9 : decode b_V_init 9 = .ok (.aload_n 0, 1) := by decide +kernel
theorem d_V_init_10 : decode b_V_init 10 = .ok (.lconst 0, 1) := by decide +kernel
theorem d_V_init_11 : decode b_V_init 11 = .ok (.putfield 13, 3) := by decide +kernel
theorem d_V_init_14 : decode b_V_init 14 = .ok (.aload_n 0, 1) := by decide +kernel
theorem d_V_init_15 : decode b_V_init 15 = .ok (.new 17, 3) := by decide +kernel
theorem d_V_init_18 : decode b_V_init 18 = .ok (.dup, 1) := by decide +kernel
theorem d_V_init_19 : decode b_V_init 19 = .ok (.invokespecial 19, 3) := by decide +kernel
theorem d_V_init_22 : decode b_V_init 22 = .ok (.putfield 20, 3) := by decide +kernel
theorem d_V_init_25 : decode b_V_init 25 = .ok (.aload_n 0, 1) := by decide +kernel
theorem d_V_init_26 : decode b_V_init 26 = .ok (.new 17, 3) := by decide +kernel
theorem d_V_init_29 : decode b_V_init 29 = .ok (.dup, 1) := by decide +kernel
theorem d_V_init_30 : decode b_V_init 30 = .ok (.invokespecial 19, 3) := by decide +kernel
theorem d_V_init_33 : decode b_V_init 33 = .ok (.putfield 24, 3) := by decide +kernel
theorem d_V_init_36 : decode b_V_init 36 = .ok (.return_, 1) := by decide +kernel
theorem d_D_item_0 : decode b_D_item 0 = .ok (.iload_n 1, 1) := by decide +kernel
theorem d_D_item_1 : decode b_D_item 1 = .ok (.ifCond .lt 15, 3) := by decide +kernel
theorem d_D_item_4 : decode b_D_item 4 = .ok (.iload_n 1, 1) := by decide +kernel
theorem d_D_item_5 : decode b_D_item 5 = .ok (.iconst 5, 1) := by decide +kernel
theorem d_D_item_6 : decode b_D_item 6 = .ok (.if_icmp .gt 10, 3) := by decide +kernel
theorem d_D_item_9 : decode b_D_item 9 = .ok (.iload_n 2, 1) := by decide +kernel
theorem d_D_item_10 : decode b_D_item 10 = .ok (.invokestatic 37, 3) := by decide +kernel
theorem d_D_item_13 : decode b_D_item 13 = .ok (.ifCond .ne 6, 3) := by decide +kernel
theorem d_D_item_16 : decode b_D_item 16 = .ok (.bipush (-12), 2) := by decide +kernel
theorem d_D_item_18 : decode b_D_item 18 = .ok (.ireturn, 1) := by decide +kernel
theorem d_D_item_19 : decode b_D_item 19 = .ok (.aload_n 0, 1) := by decide +kernel
theorem d_D_item_20 : decode b_D_item 20 = .ok (.getfield 12, 3) := by decide +kernel
theorem d_D_item_23 : decode b_D_item 23 = .ok (.invokevirtual 41, 3) := by decide +kernel
theorem d_D_item_26 : decode b_D_item 26 = .ok (.bipush 60, 2) := by decide +kernel
theorem d_D_item_28 : decode b_D_item 28 = .ok (.if_icmp .lt 6, 3) := by decide +kernel
theorem d_D_item_31 : decode b_D_item 31 = .ok (.bipush (-14), 2) := by decide +kernel
theorem d_D_item_33 : decode b_D_item 33 = .ok (.ireturn, 1) := by decide +kernel
theorem d_D_item_34 : decode b_D_item 34 = .ok (.aload_n 0, 1) := by decide +kernel
theorem d_D_item_35 : decode b_D_item 35 = .ok (.getfield 12, 3) := by decide +kernel
theorem d_D_item_38 : decode b_D_item 38 = .ok (.new 45, 3) := by decide +kernel
theorem d_D_item_41 : decode b_D_item 41 = .ok (.dup, 1) := by decide +kernel
theorem d_D_item_42 : decode b_D_item 42 = .ok (.aload_n 0, 1) := by decide +kernel
theorem d_D_item_43 : decode b_D_item 43 = .ok (.getfield 12, 3) := by decide +kernel
theorem d_D_item_46 : decode b_D_item 46 = .ok (.invokevirtual 41, 3) := by decide +kernel
theorem d_D_item_49 : decode b_D_item 49 = .ok (.iconst 1, 1) := by decide +kernel
theorem d_D_item_50 : decode b_D_item 50 = .ok (.iadd, 1) := by decide +kernel
theorem d_D_item_51 : decode b_D_item 51 = .ok (.iload_n 1, 1) := by decide +kernel
theorem d_D_item_52 : decode b_D_item 52 = .ok (.iload_n 2, 1) := by decide +kernel
theorem d_D_item_53 : decode b_D_item 53 = .ok (.invokespecial 47, 3) := by decide +kernel
theorem d_D_item_56 : decode b_D_item 56 = .ok (.invokevirtual 50, 3) := by decide +kernel
theorem d_D_item_59 : decode b_D_item 59 = .ok (.pop, 1) := by decide +kernel
theorem d_D_item_60 : decode b_D_item 60 = .ok (.aload_n 0, 1) := by decide +kernel
theorem d_D_item_61 : decode b_D_item 61 = .ok (.getfield 12, 3) := by decide +kernel
theorem d_D_item_64 : decode b_D_item 64 = .ok (.invokevirtual 41, 3) := by decide +kernel
theorem d_D_item_67 : decode b_D_item 67 = .ok (.ireturn, 1) := by decide +kernel
theorem d_D_isPerson_0 : decode b_D_isPerson 0 = .ok (.iload_n 0, 1) := by decide +kernel
theorem d_D_isPerson_1 : decode b_D_isPerson 1 = .ok (.ifCond .lt 13, 3) := by decide +kernel
theorem d_D_isPerson_4 : decode b_D_isPerson 4 = .ok (.iload_n 0, 1) := by decide +kernel
theorem d_D_isPerson_5 : decode b_D_isPerson 5 = .ok (.bipush 100, 2) := by decide +kernel
theorem d_D_isPerson_7 : decode b_D_isPerson 7 = .ok (.if_icmp .ge 7, 3) := by decide +kernel
theorem d_D_isPerson_10 : decode b_D_isPerson 10 = .ok (.iconst 1, 1) := by decide +kernel
theorem d_D_isPerson_11 : decode b_D_isPerson 11 = .ok (.goto 4, 3) := by decide +kernel
theorem d_D_isPerson_14 : decode b_D_isPerson 14 = .ok (.iconst 0, 1) := by decide +kernel
theorem d_D_isPerson_15 : decode b_D_isPerson 15 = .ok (.ireturn, 1) := by decide +kernel
theorem d_I_init_0 : decode b_I_init 0 = .ok (.aload_n 0, 1) := by decide +kernel
theorem d_I_init_1 : decode b_I_init 1 = .ok (.invokespecial 3, 3) := by decide +kernel
theorem d_I_init_4 : decode b_I_init 4 = .ok (.aload_n 0, 1) := by decide +kernel
theorem d_I_init_5 : decode b_I_init 5 = .ok (.new 9, 3) := by decide +kernel
theorem d_I_init_8 : decode b_I_init 8 = .ok (.dup, 1) := by decide +kernel
theorem d_I_init_9 : decode b_I_init 9 = .ok (.invokespecial 11, 3) := by decide +kernel
theorem d_I_init_12 : decode b_I_init 12 = .ok (.putfield 12, 3) := by decide +kernel
theorem d_I_init_15 : decode b_I_init 15 = .ok (.aload_n 0, 1) := by decide +kernel
theorem d_I_init_16 : decode b_I_init 16 = .ok (.iload_n 1, 1) := by decide +kernel
theorem d_I_init_17 : decode b_I_init 17 = .ok (.putfield 18, 3) := by decide +kernel
theorem d_I_init_20 : decode b_I_init 20 = .ok (.aload_n 0, 1) := by decide +kernel
theorem d_I_init_21 : decode b_I_init 21 = .ok (.iload_n 2, 1) := by decide +kernel
theorem d_I_init_22 : decode b_I_init 22 = .ok (.putfield 22, 3) := by decide +kernel
theorem d_I_init_25 : decode b_I_init 25 = .ok (.aload_n 0, 1) := by decide +kernel
theorem d_I_init_26 : decode b_I_init 26 = .ok (.iload_n 3, 1) := by decide +kernel
theorem d_I_init_27 : decode b_I_init 27 = .ok (.putfield 25, 3) := by decide +kernel
theorem d_I_init_30 : decode b_I_init 30 = .ok (.aload_n 0, 1) := by decide +kernel
theorem d_I_init_31 : decode b_I_init 31 = .ok (.iload_n 2, 1) := by decide +kernel
theorem d_I_init_32 : decode b_I_init 32 = .ok (.iconst 5, 1) := by decide +kernel
theorem d_I_init_33 : decode b_I_init 33 = .ok (.if_icmp .ne 16, 3) := by decide +kernel
theorem d_I_init_36 : decode b_I_init 36 = .ok (.sipush 250, 3) := by decide +kernel
theorem d_I_init_39 : decode b_I_init 39 = .ok (.iconst 1, 1) := by decide +kernel
theorem d_I_init_40 : decode b_I_init 40 = .ok (.iload_n 1, 1) := by decide +kernel
theorem d_I_init_41 : decode b_I_init 41 = .ok (.bipush 7, 2) := by decide +kernel
theorem d_I_init_43 : decode b_I_init 43 = .ok (.irem, 1) := by decide +kernel
theorem d_I_init_44 : decode b_I_init 44 = .ok (.iadd, 1) := by decide +kernel
theorem d_I_init_45 : decode b_I_init 45 = .ok (.imul, 1) := by decide +kernel
theorem d_I_init_46 : decode b_I_init 46 = .ok (.goto 4, 3) := by decide +kernel
theorem d_I_init_49 : decode b_I_init 49 = .ok (.iconst 0, 1) := by decide +kernel
theorem d_I_init_50 : decode b_I_init 50 = .ok (.putfield 28, 3) := by decide +kernel
theorem d_I_init_53 : decode b_I_init 53 = .ok (.return_, 1) := by decide +kernel
theorem d_F_init_0 : decode b_F_init 0 = .ok (.aload_n 0, 1) := by decide +kernel
theorem d_F_init_1 : decode b_F_init 1 = .ok (.invokespecial 3, 3) := by decide +kernel
theorem d_F_init_4 : decode b_F_init 4 = .ok (.aload_n 0, 1) := by decide +kernel
theorem d_F_init_5 : decode b_F_init 5 = .ok (.iconst 0, 1) := by decide +kernel
theorem d_F_init_6 : decode b_F_init 6 = .ok (.putfield 9, 3) := by decide +kernel
theorem d_F_init_9 : decode b_F_init 9 = .ok (.aload_n 0, 1) := by decide +kernel
theorem d_F_init_10 : decode b_F_init 10 = .ok (.iconst 0, 1) := by decide +kernel
theorem d_F_init_11 : decode b_F_init 11 = .ok (.putfield 15, 3) := by decide +kernel
theorem d_F_init_14 : decode b_F_init 14 = .ok (.aload_n 0, 1) := by decide +kernel
theorem d_F_init_15 : decode b_F_init 15 = .ok (.iconst 0, 1) := by decide +kernel
theorem d_F_init_16 : decode b_F_init 16 = .ok (.putfield 18, 3) := by decide +kernel
theorem d_F_init_19 : decode b_F_init 19 = .ok (.aload_n 0, 1) := by decide +kernel
theorem d_F_init_20 : decode b_F_init 20 = .ok (.iconst 0, 1) := by decide +kernel
theorem d_F_init_21 : decode b_F_init 21 = .ok (.putfield 22, 3) := by decide +kernel
theorem d_F_init_24 : decode b_F_init 24 = .ok (.aload_n 0, 1) := by decide +kernel
theorem d_F_init_25 : decode b_F_init 25 = .ok (.iconst 0, 1) := by decide +kernel
theorem d_F_init_26 : decode b_F_init 26 = .ok (.putfield 25, 3) := by decide +kernel
theorem d_F_init_29 : decode b_F_init 29 = .ok (.aload_n 0, 1) := by decide +kernel
theorem d_F_init_30 : decode b_F_init 30 = .ok (.iconst 0, 1) := by decide +kernel
theorem d_F_init_31 : decode b_F_init 31 = .ok (.putfield 28, 3) := by decide +kernel
theorem d_F_init_34 : decode b_F_init 34 = .ok (.aload_n 0, 1) := by decide +kernel
theorem d_F_init_35 : decode b_F_init 35 = .ok (.iconst (-1), 1) := by decide +kernel
theorem d_F_init_36 : decode b_F_init 36 = .ok (.putfield 31, 3) := by decide +kernel
theorem d_F_init_39 : decode b_F_init 39 = .ok (.aload_n 0, 1) := by decide +kernel
theorem d_F_init_40 : decode b_F_init 40 = .ok (.iconst 0, 1) := by decide +kernel
theorem d_F_init_41 : decode b_F_init 41 = .ok (.putfield 34, 3) := by decide +kernel
theorem d_F_init_44 : decode b_F_init 44 = .ok (.aload_n 0, 1) := by decide +kernel
theorem d_F_init_45 : decode b_F_init 45 = .ok (.iconst (-1), 1) := by decide +kernel
theorem d_F_init_46 : decode b_F_init 46 = .ok (.putfield 37, 3) := by decide +kernel
theorem d_F_init_49 : decode b_F_init 49 = .ok (.aload_n 0, 1) := by decide +kernel
theorem d_F_init_50 : decode b_F_init 50 = .ok (.iconst 0, 1) := by decide +kernel
theorem d_F_init_51 : decode b_F_init 51 = .ok (.putfield 40, 3) := by decide +kernel
theorem d_F_init_54 : decode b_F_init 54 = .ok (.aload_n 0, 1) := by decide +kernel
theorem d_F_init_55 : decode b_F_init 55 = .ok (.iconst (-1), 1) := by decide +kernel
theorem d_F_init_56 : decode b_F_init 56 = .ok (.putfield 43, 3) := by decide +kernel
theorem d_F_init_59 : decode b_F_init 59 = .ok (.return_, 1) := by decide +kernel
theorem d_D_consent_0 : decode b_D_consent 0 = .ok (.iload_n 1, 1) := by decide +kernel
theorem d_D_consent_1 : decode b_D_consent 1 = .ok (.invokestatic 37, 3) := by decide +kernel
theorem d_D_consent_4 : decode b_D_consent 4 = .ok (.ifCond .eq 12, 3) := by decide +kernel
theorem d_D_consent_7 : decode b_D_consent 7 = .ok (.iload_n 2, 1) := by decide +kernel
theorem d_D_consent_8 : decode b_D_consent 8 = .ok (.ifCond .lt 8, 3) := by decide +kernel
theorem d_D_consent_11 : decode b_D_consent 11 = .ok (.iload_n 2, 1) := by decide +kernel
theorem d_D_consent_12 : decode b_D_consent 12 = .ok (.iconst 2, 1) := by decide +kernel
theorem d_D_consent_13 : decode b_D_consent 13 = .ok (.if_icmp .le 6, 3) := by decide +kernel
theorem d_D_consent_16 : decode b_D_consent 16 = .ok (.bipush (-12), 2) := by decide +kernel
theorem d_D_consent_18 : decode b_D_consent 18 = .ok (.ireturn, 1) := by decide +kernel
theorem d_D_consent_19 : decode b_D_consent 19 = .ok (.iload_n 2, 1) := by decide +kernel
theorem d_D_consent_20 : decode b_D_consent 20 = .ok (.iconst 2, 1) := by decide +kernel
theorem d_D_consent_21 : decode b_D_consent 21 = .ok (.if_icmp .ne 14, 3) := by decide +kernel
theorem d_D_consent_24 : decode b_D_consent 24 = .ok (.aload_n 0, 1) := by decide +kernel
theorem d_D_consent_25 : decode b_D_consent 25 = .ok (.getfield 22, 3) := by decide +kernel
theorem d_D_consent_28 : decode b_D_consent 28 = .ok (.iload_n 1, 1) := by decide +kernel
theorem d_D_consent_29 : decode b_D_consent 29 = .ok (.iconst 2, 1) := by decide +kernel
theorem d_D_consent_30 : decode b_D_consent 30 = .ok (.iconst (-1), 1) := by decide +kernel
theorem d_D_consent_31 : decode b_D_consent 31 = .ok (.invokevirtual 54, 3) := by decide +kernel
theorem d_D_consent_34 : decode b_D_consent 34 = .ok (.ireturn, 1) := by decide +kernel
theorem d_D_consent_35 : decode b_D_consent 35 = .ok (.iload_n 3, 1) := by decide +kernel
theorem d_D_consent_36 : decode b_D_consent 36 = .ok (.invokestatic 37, 3) := by decide +kernel
theorem d_D_consent_39 : decode b_D_consent 39 = .ok (.ifCond .ne 6, 3) := by decide +kernel
theorem d_D_consent_42 : decode b_D_consent 42 = .ok (.bipush (-12), 2) := by decide +kernel
theorem d_D_consent_44 : decode b_D_consent 44 = .ok (.ireturn, 1) := by decide +kernel
theorem d_D_consent_45 : decode b_D_consent 45 = .ok (.iload_n 3, 1) := by decide +kernel
theorem d_D_consent_46 : decode b_D_consent 46 = .ok (.iload_n 1, 1) := by decide +kernel
theorem d_D_consent_47 : decode b_D_consent 47 = .ok (.if_icmp .ne 8, 3) := by decide +kernel
theorem d_D_consent_50 : decode b_D_consent 50 = .ok (.bipush (-13), 2) := by decide +kernel
theorem d_D_consent_52 : decode b_D_consent 52 = .ok (.goto 13, 3) := by decide +kernel
theorem d_D_consent_55 : decode b_D_consent 55 = .ok (.aload_n 0, 1) := by decide +kernel
theorem d_D_consent_56 : decode b_D_consent 56 = .ok (.getfield 22, 3) := by decide +kernel
theorem d_D_consent_59 : decode b_D_consent 59 = .ok (.iload_n 1, 1) := by decide +kernel
theorem d_D_consent_60 : decode b_D_consent 60 = .ok (.iload_n 2, 1) := by decide +kernel
theorem d_D_consent_61 : decode b_D_consent 61 = .ok (.iload_n 3, 1) := by decide +kernel
theorem d_D_consent_62 : decode b_D_consent 62 = .ok (.invokevirtual 54, 3) := by decide +kernel
theorem d_D_consent_65 : decode b_D_consent 65 = .ok (.ireturn, 1) := by decide +kernel
theorem d_N_turn_0 : decode b_N_turn 0 = .ok (.iload_n 1, 1) := by decide +kernel
theorem d_N_turn_1 : decode b_N_turn 1 = .ok (.iload_n 2, 1) := by decide +kernel
theorem d_N_turn_2 : decode b_N_turn 2 = .ok (.iload_n 3, 1) := by decide +kernel
theorem d_N_turn_3 : decode b_N_turn 3 = .ok (.invokestatic 19, 3) := by decide +kernel
theorem d_N_turn_6 : decode b_N_turn 6 = .ok (.istore 4, 2) := by decide +kernel
theorem d_N_turn_8 : decode b_N_turn 8 = .ok (.aload_n 0, 1) := by decide +kernel
theorem d_N_turn_9 : decode b_N_turn 9 = .ok (.iload 4, 2) := by decide +kernel
theorem d_N_turn_11 : decode b_N_turn 11 = .ok (.invokevirtual 23, 3) := by decide +kernel
theorem d_N_turn_14 : decode b_N_turn 14 = .ok (.istore 5, 2) := by decide +kernel
theorem d_N_turn_16 : decode b_N_turn 16 = .ok (.iload 5, 2) := by decide +kernel
theorem d_N_turn_18 : decode b_N_turn 18 = .ok (.ifCond .lt 31, 3) := by decide +kernel
theorem d_N_turn_21 : decode b_N_turn 21 = .ok (.aload_n 0, 1) := by decide +kernel
theorem d_N_turn_22 : decode b_N_turn 22 = .ok (.dup, 1) := by decide +kernel
theorem d_N_turn_23 : decode b_N_turn 23 = .ok (.getfield 15, 3) := by decide +kernel
theorem d_N_turn_26 : decode b_N_turn 26 = .ok (.iconst 1, 1) := by decide +kernel
theorem d_N_turn_27 : decode b_N_turn 27 = .ok (.isub, 1) := by decide +kernel
theorem d_N_turn_28 : decode b_N_turn 28 = .ok (.putfield 15, 3) := by decide +kernel
theorem d_N_turn_31 : decode b_N_turn 31 = .ok (.aload_n 0, 1) := by decide +kernel
theorem d_N_turn_32 : decode b_N_turn 32 = .ok (.getfield 9, 3) := by decide +kernel
theorem d_N_turn_35 : decode b_N_turn 35 = .ok (.iload 5, 2) := by decide +kernel
theorem d_N_turn_37 : decode b_N_turn 37 = .ok (.aload_n 0, 1) := by decide +kernel
theorem d_N_turn_38 : decode b_N_turn 38 = .ok (.getfield 9, 3) := by decide +kernel
theorem d_N_turn_41 : decode b_N_turn 41 = .ok (.aload_n 0, 1) := by decide +kernel
theorem d_N_turn_42 : decode b_N_turn 42 = .ok (.getfield 15, 3) := by decide +kernel
theorem d_N_turn_45 : decode b_N_turn 45 = .ok (.iaload, 1) := by decide +kernel
theorem d_N_turn_46 : decode b_N_turn 46 = .ok (.iastore, 1) := by decide +kernel
theorem d_N_turn_47 : decode b_N_turn 47 = .ok (.iconst 0, 1) := by decide +kernel
theorem d_N_turn_48 : decode b_N_turn 48 = .ok (.ireturn, 1) := by decide +kernel
theorem d_N_turn_49 : decode b_N_turn 49 = .ok (.aload_n 0, 1) := by decide +kernel
theorem d_N_turn_50 : decode b_N_turn 50 = .ok (.getfield 15, 3) := by decide +kernel
theorem d_N_turn_53 : decode b_N_turn 53 = .ok (.bipush 100, 2) := by decide +kernel
theorem d_N_turn_55 : decode b_N_turn 55 = .ok (.if_icmp .lt 6, 3) := by decide +kernel
theorem d_N_turn_58 : decode b_N_turn 58 = .ok (.bipush (-14), 2) := by decide +kernel
theorem d_N_turn_60 : decode b_N_turn 60 = .ok (.ireturn, 1) := by decide +kernel
theorem d_N_turn_61 : decode b_N_turn 61 = .ok (.aload_n 0, 1) := by decide +kernel
theorem d_N_turn_62 : decode b_N_turn 62 = .ok (.getfield 9, 3) := by decide +kernel
theorem d_N_turn_65 : decode b_N_turn 65 = .ok (.aload_n 0, 1) := by decide +kernel
theorem d_N_turn_66 : decode b_N_turn 66 = .ok (.getfield 15, 3) := by decide +kernel
theorem d_N_turn_69 : decode b_N_turn 69 = .ok (.iload 4, 2) := by decide +kernel
theorem d_N_turn_71 : decode b_N_turn 71 = .ok (.iastore, 1) := by decide +kernel
theorem d_N_turn_72 : decode b_N_turn 72 = .ok (.aload_n 0, 1) := by decide +kernel
theorem d_N_turn_73 : decode b_N_turn 73 = .ok (.dup, 1) := by decide +kernel
theorem d_N_turn_74 : decode b_N_turn 74 = .ok (.getfield 15, 3) := by decide +kernel
theorem d_N_turn_77 : decode b_N_turn 77 = .ok (.iconst 1, 1) := by decide +kernel
theorem d_N_turn_78 : decode b_N_turn 78 = .ok (.iadd, 1) := by decide +kernel
theorem d_N_turn_79 : decode b_N_turn 79 = .ok (.putfield 15, 3) := by decide +kernel
theorem d_N_turn_82 : decode b_N_turn 82 = .ok (.iconst 1, 1) := by decide +kernel
theorem d_N_turn_83 : decode b_N_turn 83 = .ok (.ireturn, 1) := by decide +kernel
theorem d_N_codeOf_0 : decode b_N_codeOf 0 = .ok (.iload_n 1, 1) := by decide +kernel
theorem d_N_codeOf_1 : decode b_N_codeOf 1 = .ok (.bipush 100, 2) := by decide +kernel
theorem d_N_codeOf_3 : decode b_N_codeOf 3 = .ok (.imul, 1) := by decide +kernel
theorem d_N_codeOf_4 : decode b_N_codeOf 4 = .ok (.iload_n 0, 1) := by decide +kernel
theorem d_N_codeOf_5 : decode b_N_codeOf 5 = .ok (.iadd, 1) := by decide +kernel
theorem d_N_codeOf_6 : decode b_N_codeOf 6 = .ok (.bipush 101, 2) := by decide +kernel
theorem d_N_codeOf_8 : decode b_N_codeOf 8 = .ok (.imul, 1) := by decide +kernel
theorem d_N_codeOf_9 : decode b_N_codeOf 9 = .ok (.iload_n 2, 1) := by decide +kernel
theorem d_N_codeOf_10 : decode b_N_codeOf 10 = .ok (.iadd, 1) := by decide +kernel
theorem d_N_codeOf_11 : decode b_N_codeOf 11 = .ok (.iconst 1, 1) := by decide +kernel
theorem d_N_codeOf_12 : decode b_N_codeOf 12 = .ok (.iadd, 1) := by decide +kernel
theorem d_N_codeOf_13 : decode b_N_codeOf 13 = .ok (.ireturn, 1) := by decide +kernel
theorem d_N_placeOf_0 : decode b_N_placeOf 0 = .ok (.iconst 0, 1) := by decide +kernel
theorem d_N_placeOf_1 : decode b_N_placeOf 1 = .ok (.istore_n 2, 1) := by decide +kernel
theorem d_N_placeOf_2 : decode b_N_placeOf 2 = .ok (.iload_n 2, 1) := by decide +kernel
theorem d_N_placeOf_3 : decode b_N_placeOf 3 = .ok (.aload_n 0, 1) := by decide +kernel
theorem d_N_placeOf_4 : decode b_N_placeOf 4 = .ok (.getfield 15, 3) := by decide +kernel
theorem d_N_placeOf_7 : decode b_N_placeOf 7 = .ok (.if_icmp .ge 21, 3) := by decide +kernel
theorem d_N_placeOf_10 : decode b_N_placeOf 10 = .ok (.aload_n 0, 1) := by decide +kernel
theorem d_N_placeOf_11 : decode b_N_placeOf 11 = .ok (.getfield 9, 3) := by decide +kernel
theorem d_N_placeOf_14 : decode b_N_placeOf 14 = .ok (.iload_n 2, 1) := by decide +kernel
theorem d_N_placeOf_15 : decode b_N_placeOf 15 = .ok (.iaload, 1) := by decide +kernel
theorem d_N_placeOf_16 : decode b_N_placeOf 16 = .ok (.iload_n 1, 1) := by decide +kernel
theorem d_N_placeOf_17 : decode b_N_placeOf 17 = .ok (.if_icmp .ne 5, 3) := by decide +kernel
theorem d_N_placeOf_20 : decode b_N_placeOf 20 = .ok (.iload_n 2, 1) := by decide +kernel
theorem d_N_placeOf_21 : decode b_N_placeOf 21 = .ok (.ireturn, 1) := by decide +kernel
theorem d_N_placeOf_22 : decode b_N_placeOf 22 = .ok (.iinc 2 1, 3) := by decide +kernel
theorem d_N_placeOf_25 : decode b_N_placeOf 25 = .ok (.goto (-23), 3) := by decide +kernel
theorem d_N_placeOf_28 : decode b_N_placeOf 28 = .ok (.iconst (-1), 1) := by decide +kernel
theorem d_N_placeOf_29 : decode b_N_placeOf 29 = .ok (.ireturn, 1) := by decide +kernel
theorem d_D_act_0 : decode b_D_act 0 = .ok (.aload_n 0, 1) := by decide +kernel
theorem d_D_act_1 : decode b_D_act 1 = .ok (.iload_n 2, 1) := by decide +kernel
theorem d_D_act_2 : decode b_D_act 2 = .ok (.invokevirtual 58, 3) := by decide +kernel
theorem d_D_act_5 : decode b_D_act 5 = .ok (.astore 8, 2) := by decide +kernel
theorem d_D_act_7 : decode b_D_act 7 = .ok (.aload 8, 2) := by decide +kernel
theorem d_D_act_9 : decode b_D_act 9 = .ok (.ifnonnull 6, 3) := by decide +kernel
theorem d_D_act_12 : decode b_D_act 12 = .ok (.bipush (-11), 2) := by decide +kernel
theorem d_D_act_14 : decode b_D_act 14 = .ok (.ireturn, 1) := by decide +kernel
theorem d_D_act_15 : decode b_D_act 15 = .ok (.iload_n 1, 1) := by decide +kernel
theorem d_D_act_16 : decode b_D_act 16 = .ok (.invokestatic 62, 3) := by decide +kernel
theorem d_D_act_19 : decode b_D_act 19 = .ok (.ifCond .ne 6, 3) := by decide +kernel
theorem d_D_act_22 : decode b_D_act 22 = .ok (.bipush (-12), 2) := by decide +kernel
theorem d_D_act_24 : decode b_D_act 24 = .ok (.ireturn, 1) := by decide +kernel
theorem d_D_act_25 : decode b_D_act 25 = .ok (.aload_n 0, 1) := by decide +kernel
theorem d_D_act_26 : decode b_D_act 26 = .ok (.getfield 28, 3) := by decide +kernel
theorem d_D_act_29 : decode b_D_act 29 = .ok (.iload_n 1, 1) := by decide +kernel
theorem d_D_act_30 : decode b_D_act 30 = .ok (.aaload, 1) := by decide +kernel
theorem d_D_act_31 : decode b_D_act 31 = .ok (.astore 9, 2) := by decide +kernel
theorem d_D_act_33 : decode b_D_act 33 = .ok (.aload 9, 2) := by decide +kernel
theorem d_D_act_35 : decode b_D_act 35 = .ok (.getfield 65, 3) := by decide +kernel
theorem d_D_act_38 : decode b_D_act 38 = .ok (.ifCond .eq 13, 3) := by decide +kernel
theorem d_D_act_41 : decode b_D_act 41 = .ok (.aload 9, 2) := by decide +kernel
theorem d_D_act_43 : decode b_D_act 43 = .ok (.aload 8, 2) := by decide +kernel
theorem d_D_act_45 : decode b_D_act 45 = .ok (.invokevirtual 69, 3) := by decide +kernel
theorem d_D_act_48 : decode b_D_act 48 = .ok (.goto 8, 3) := by decide +kernel
theorem d_D_act_51 : decode b_D_act 51 = .ok (.aload 8, 2) := by decide +kernel
theorem d_D_act_53 : decode b_D_act 53 = .ok (.getfield 73, 3) := by decide +kernel
theorem d_D_act_56 : decode b_D_act 56 = .ok (.astore 10, 2) := by decide +kernel
theorem d_D_act_58 : decode b_D_act 58 = .ok (.aload 10, 2) := by decide +kernel
theorem d_D_act_60 : decode b_D_act 60 = .ok (.ifnonnull 6, 3) := by decide +kernel
theorem d_D_act_63 : decode b_D_act 63 = .ok (.bipush (-11), 2) := by decide +kernel
theorem d_D_act_65 : decode b_D_act 65 = .ok (.ireturn, 1) := by decide +kernel
theorem d_D_act_66 : decode b_D_act 66 = .ok (.iload_n 3, 1) := by decide +kernel
theorem d_D_act_67 : decode b_D_act 67 = .ok (.iload 4, 2) := by decide +kernel
theorem d_D_act_69 : decode b_D_act 69 = .ok (.iload 5, 2) := by decide +kernel
theorem d_D_act_71 : decode b_D_act 71 = .ok (.invokestatic 77, 3) := by decide +kernel
theorem d_D_act_74 : decode b_D_act 74 = .ok (.ifCond .eq 23, 3) := by decide +kernel
theorem d_D_act_77 : decode b_D_act 77 = .ok (.lload 6, 2) := by decide +kernel
theorem d_D_act_79 : decode b_D_act 79 = .ok (.aload 9, 2) := by decide +kernel
theorem d_D_act_81 : decode b_D_act 81 = .ok (.getfield 81, 3) := by decide +kernel
theorem d_D_act_84 : decode b_D_act 84 = .ok (.lcmp, 1) := by decide +kernel
theorem d_D_act_85 : decode b_D_act 85 = .ok (.ifCond .lt 12, 3) := by decide +kernel
theorem d_D_act_88 : decode b_D_act 88 = .ok (.lload 6, 2) := by decide +kernel
theorem d_D_act_90 : decode b_D_act 90 = .ok (.ldc2_w 84, 3) := by decide +kernel
theorem d_D_act_93 : decode b_D_act 93 = .ok (.lcmp, 1) := by decide +kernel
theorem d_D_act_94 : decode b_D_act 94 = .ok (.ifCond .le 6, 3) := by decide +kernel
theorem d_D_act_97 : decode b_D_act 97 = .ok (.bipush (-12), 2) := by decide +kernel
theorem d_D_act_99 : decode b_D_act 99 = .ok (.ireturn, 1) := by decide +kernel
theorem d_D_act_100 : decode b_D_act 100 = .ok (.lload 6, 2) := by decide +kernel
theorem d_D_act_102 : decode b_D_act 102 = .ok (.ldc2_w 86, 3) := by decide +kernel
theorem d_D_act_105 : decode b_D_act 105 = .ok (.ldiv, 1) := by decide +kernel
theorem d_D_act_106 : decode b_D_act 106 = .ok (.l2i, 1) := by decide +kernel
theorem d_D_act_107 : decode b_D_act 107 = .ok (.istore 11, 2) := by decide +kernel
theorem d_D_act_109 : decode b_D_act 109 = .ok (.aload 10, 2) := by decide +kernel
theorem d_D_act_111 : decode b_D_act 111 = .ok (.iload_n 3, 1) := by decide +kernel
theorem d_D_act_112 : decode b_D_act 112 = .ok (.iload_n 1, 1) := by decide +kernel
theorem d_D_act_113 : decode b_D_act 113 = .ok (.iload 11, 2) := by decide +kernel
theorem d_D_act_115 : decode b_D_act 115 = .ok (.invokevirtual 88, 3) := by decide +kernel
theorem d_D_act_118 : decode b_D_act 118 = .ok (.ifCond .ne 6, 3) := by decide +kernel
theorem d_D_act_121 : decode b_D_act 121 = .ok (.bipush (-13), 2) := by decide +kernel
theorem d_D_act_123 : decode b_D_act 123 = .ok (.ireturn, 1) := by decide +kernel
theorem d_D_act_124 : decode b_D_act 124 = .ok (.aload 9, 2) := by decide +kernel
theorem d_D_act_126 : decode b_D_act 126 = .ok (.getfield 65, 3) := by decide +kernel
theorem d_D_act_129 : decode b_D_act 129 = .ok (.ifCond .eq 19, 3) := by decide +kernel
theorem d_D_act_132 : decode b_D_act 132 = .ok (.aload 9, 2) := by decide +kernel
theorem d_D_act_134 : decode b_D_act 134 = .ok (.getfield 93, 3) := by decide +kernel
theorem d_D_act_137 : decode b_D_act 137 = .ok (.invokevirtual 41, 3) := by decide +kernel
theorem d_D_act_140 : decode b_D_act 140 = .ok (.bipush 30, 2) := by decide +kernel
theorem d_D_act_142 : decode b_D_act 142 = .ok (.if_icmp .lt 6, 3) := by decide +kernel
theorem d_D_act_145 : decode b_D_act 145 = .ok (.bipush (-14), 2) := by decide +kernel
theorem d_D_act_147 : decode b_D_act 147 = .ok (.ireturn, 1) := by decide +kernel
theorem d_D_act_148 : decode b_D_act 148 = .ok (.aload_n 0, 1) := by decide +kernel
theorem d_D_act_149 : decode b_D_act 149 = .ok (.aload 8, 2) := by decide +kernel
theorem d_D_act_151 : decode b_D_act 151 = .ok (.aload 10, 2) := by decide +kernel
theorem d_D_act_153 : decode b_D_act 153 = .ok (.iload_n 3, 1) := by decide +kernel
theorem d_D_act_154 : decode b_D_act 154 = .ok (.iload 4, 2) := by decide +kernel
theorem d_D_act_156 : decode b_D_act 156 = .ok (.iload 5, 2) := by decide +kernel
theorem d_D_act_158 : decode b_D_act 158 = .ok (.invokevirtual 96, 3) := by decide +kernel
theorem d_D_act_161 : decode b_D_act 161 = .ok (.istore 12, 2) := by decide +kernel
theorem d_D_act_163 : decode b_D_act 163 = .ok (.iload 12, 2) := by decide +kernel
theorem d_D_act_165 : decode b_D_act 165 = .ok (.ifCond .ge 6, 3) := by decide +kernel
theorem d_D_act_168 : decode b_D_act 168 = .ok (.iload 12, 2) := by decide +kernel
theorem d_D_act_170 : decode b_D_act 170 = .ok (.ireturn, 1) := by decide +kernel
theorem d_D_act_171 : decode b_D_act 171 = .ok (.new 100, 3) := by decide +kernel
theorem d_D_act_174 : decode b_D_act 174 = .ok (.dup, 1) := by decide +kernel
theorem d_D_act_175 : decode b_D_act 175 = .ok (.aload 8, 2) := by decide +kernel
theorem d_D_act_177 : decode b_D_act 177 = .ok (.iload_n 1, 1) := by decide +kernel
theorem d_D_act_178 : decode b_D_act 178 = .ok (.iload_n 3, 1) := by decide +kernel
theorem d_D_act_179 : decode b_D_act 179 = .ok (.iload 4, 2) := by decide +kernel
theorem d_D_act_181 : decode b_D_act 181 = .ok (.iload 12, 2) := by decide +kernel
theorem d_D_act_183 : decode b_D_act 183 = .ok (.iload 11, 2) := by decide +kernel
theorem d_D_act_185 : decode b_D_act 185 = .ok (.invokespecial 102, 3) := by decide +kernel
theorem d_D_act_188 : decode b_D_act 188 = .ok (.astore 13, 2) := by decide +kernel
theorem d_D_act_190 : decode b_D_act 190 = .ok (.aload 10, 2) := by decide +kernel
theorem d_D_act_192 : decode b_D_act 192 = .ok (.aload 13, 2) := by decide +kernel
theorem d_D_act_194 : decode b_D_act 194 = .ok (.invokevirtual 105, 3) := by decide +kernel
theorem d_D_act_197 : decode b_D_act 197 = .ok (.aload 9, 2) := by decide +kernel
theorem d_D_act_199 : decode b_D_act 199 = .ok (.lload 6, 2) := by decide +kernel
theorem d_D_act_201 : decode b_D_act 201 = .ok (.putfield 81, 3) := by decide +kernel
theorem d_D_act_204 : decode b_D_act 204 = .ok (.aload 9, 2) := by decide +kernel
theorem d_D_act_206 : decode b_D_act 206 = .ok (.getfield 65, 3) := by decide +kernel
theorem d_D_act_209 : decode b_D_act 209 = .ok (.ifCond .eq 14, 3) := by decide +kernel
theorem d_D_act_212 : decode b_D_act 212 = .ok (.aload 9, 2) := by decide +kernel
theorem d_D_act_214 : decode b_D_act 214 = .ok (.getfield 93, 3) := by decide +kernel
theorem d_D_act_217 : decode b_D_act 217 = .ok (.aload 13, 2) := by decide +kernel
theorem d_D_act_219 : decode b_D_act 219 = .ok (.invokevirtual 50, 3) := by decide +kernel
theorem d_D_act_222 : decode b_D_act 222 = .ok (.pop, 1) := by decide +kernel
theorem d_D_act_223 : decode b_D_act 223 = .ok (.iload 12, 2) := by decide +kernel
theorem d_D_act_225 : decode b_D_act 225 = .ok (.ireturn, 1) := by decide +kernel
theorem d_D_itemOf_0 : decode b_D_itemOf 0 = .ok (.iload_n 1, 1) := by decide +kernel
theorem d_D_itemOf_1 : decode b_D_itemOf 1 = .ok (.iconst 1, 1) := by decide +kernel
theorem d_D_itemOf_2 : decode b_D_itemOf 2 = .ok (.if_icmp .lt 30, 3) := by decide +kernel
theorem d_D_itemOf_5 : decode b_D_itemOf 5 = .ok (.iload_n 1, 1) := by decide +kernel
theorem d_D_itemOf_6 : decode b_D_itemOf 6 = .ok (.aload_n 0, 1) := by decide +kernel
theorem d_D_itemOf_7 : decode b_D_itemOf 7 = .ok (.getfield 12, 3) := by decide +kernel
theorem d_D_itemOf_10 : decode b_D_itemOf 10 = .ok (.invokevirtual 41, 3) := by decide +kernel
theorem d_D_itemOf_13 : decode b_D_itemOf 13 = .ok (.if_icmp .gt 19, 3) := by decide +kernel
theorem d_D_itemOf_16 : decode b_D_itemOf 16 = .ok (.aload_n 0, 1) := by decide +kernel
theorem d_D_itemOf_17 : decode b_D_itemOf 17 = .ok (.getfield 12, 3) := by decide +kernel
theorem d_D_itemOf_20 : decode b_D_itemOf 20 = .ok (.iload_n 1, 1) := by decide +kernel
theorem d_D_itemOf_21 : decode b_D_itemOf 21 = .ok (.iconst 1, 1) := by decide +kernel
theorem d_D_itemOf_22 : decode b_D_itemOf 22 = .ok (.isub, 1) := by decide +kernel
theorem d_D_itemOf_23 : decode b_D_itemOf 23 = .ok (.invokevirtual 109, 3) := by decide +kernel
theorem d_D_itemOf_26 : decode b_D_itemOf 26 = .ok (.checkcast 45, 3) := by decide +kernel
theorem d_D_itemOf_29 : decode b_D_itemOf 29 = .ok (.goto 4, 3) := by decide +kernel
theorem d_D_itemOf_32 : decode b_D_itemOf 32 = .ok (.aconst_null, 1) := by decide +kernel
theorem d_D_itemOf_33 : decode b_D_itemOf 33 = .ok (.areturn, 1) := by decide +kernel
theorem d_D_isDevice_0 : decode b_D_isDevice 0 = .ok (.iload_n 0, 1) := by decide +kernel
theorem d_D_isDevice_1 : decode b_D_isDevice 1 = .ok (.ifCond .lt 13, 3) := by decide +kernel
theorem d_D_isDevice_4 : decode b_D_isDevice 4 = .ok (.iload_n 0, 1) := by decide +kernel
theorem d_D_isDevice_5 : decode b_D_isDevice 5 = .ok (.bipush 8, 2) := by decide +kernel
theorem d_D_isDevice_7 : decode b_D_isDevice 7 = .ok (.if_icmp .ge 7, 3) := by decide +kernel
theorem d_D_isDevice_10 : decode b_D_isDevice 10 = .ok (.iconst 1, 1) := by decide +kernel
theorem d_D_isDevice_11 : decode b_D_isDevice 11 = .ok (.goto 4, 3) := by decide +kernel
theorem d_D_isDevice_14 : decode b_D_isDevice 14 = .ok (.iconst 0, 1) := by decide +kernel
theorem d_D_isDevice_15 : decode b_D_isDevice 15 = .ok (.ireturn, 1) := by decide +kernel
theorem d_V_factsOf_0 : decode b_V_factsOf 0 = .ok (.aload_n 1, 1) := by decide +kernel
theorem d_V_factsOf_1 : decode b_V_factsOf 1 = .ok (.getfield 27, 3) := by decide +kernel
theorem d_V_factsOf_4 : decode b_V_factsOf 4 = .ok (.iconst 1, 1) := by decide +kernel
theorem d_V_factsOf_5 : decode b_V_factsOf 5 = .ok (.isub, 1) := by decide +kernel
theorem d_V_factsOf_6 : decode b_V_factsOf 6 = .ok (.istore_n 2, 1) := by decide +kernel
theorem d_V_factsOf_7 : decode b_V_factsOf 7 = .ok (.iload_n 2, 1) := by decide +kernel
theorem d_V_factsOf_8 : decode b_V_factsOf 8 = .ok (.ifCond .lt 28, 3) := by decide +kernel
theorem d_V_factsOf_11 : decode b_V_factsOf 11 = .ok (.iload_n 2, 1) := by decide +kernel
theorem d_V_factsOf_12 : decode b_V_factsOf 12 = .ok (.aload_n 0, 1) := by decide +kernel
theorem d_V_factsOf_13 : decode b_V_factsOf 13 = .ok (.getfield 24, 3) := by decide +kernel
theorem d_V_factsOf_16 : decode b_V_factsOf 16 = .ok (.invokevirtual 33, 3) := by decide +kernel
theorem d_V_factsOf_19 : decode b_V_factsOf 19 = .ok (.if_icmp .ge 17, 3) := by decide +kernel
theorem d_V_factsOf_22 : decode b_V_factsOf 22 = .ok (.aload_n 0, 1) := by decide +kernel
theorem d_V_factsOf_23 : decode b_V_factsOf 23 = .ok (.getfield 24, 3) := by decide +kernel
theorem d_V_factsOf_26 : decode b_V_factsOf 26 = .ok (.iload_n 2, 1) := by decide +kernel
theorem d_V_factsOf_27 : decode b_V_factsOf 27 = .ok (.invokevirtual 37, 3) := by decide +kernel
theorem d_V_factsOf_30 : decode b_V_factsOf 30 = .ok (.checkcast 41, 3) := by decide +kernel
theorem d_V_factsOf_33 : decode b_V_factsOf 33 = .ok (.goto 4, 3) := by decide +kernel
theorem d_V_factsOf_36 : decode b_V_factsOf 36 = .ok (.aconst_null, 1) := by decide +kernel
theorem d_V_factsOf_37 : decode b_V_factsOf 37 = .ok (.areturn, 1) := by decide +kernel
theorem d_D_isActAsSaid_0 : decode b_D_isActAsSaid 0 = .ok (.iload_n 0, 1) := by decide +kernel
theorem d_D_isActAsSaid_1 : decode b_D_isActAsSaid 1 = .ok (.ifCond .lt 20, 3) := by decide +kernel
theorem d_D_isActAsSaid_4 : decode b_D_isActAsSaid 4 = .ok (.iload_n 0, 1) := by decide +kernel
theorem d_D_isActAsSaid_5 : decode b_D_isActAsSaid 5 = .ok (.iconst 5, 1) := by decide +kernel
theorem d_D_isActAsSaid_6 : decode b_D_isActAsSaid 6 = .ok (.if_icmp .gt 15, 3) := by decide +kernel
theorem d_D_isActAsSaid_9 : decode b_D_isActAsSaid 9 = .ok (.iload_n 2, 1) := by decide +kernel
theorem d_D_isActAsSaid_10 : decode b_D_isActAsSaid 10 = .ok (.iconst (-1), 1) := by decide +kernel
theorem d_D_isActAsSaid_11 : decode b_D_isActAsSaid 11 = .ok (.if_icmp .lt 10, 3) := by decide +kernel
theorem d_D_isActAsSaid_14 : decode b_D_isActAsSaid 14 = .ok (.iload_n 2, 1) := by decide +kernel
theorem d_D_isActAsSaid_15 : decode b_D_isActAsSaid 15 = .ok (.sipush 399, 3) := by decide +kernel
theorem d_D_isActAsSaid_18 : decode b_D_isActAsSaid 18 = .ok (.if_icmp .le 5, 3) := by decide +kernel
theorem d_D_isActAsSaid_21 : decode b_D_isActAsSaid 21 = .ok (.iconst 0, 1) := by decide +kernel
theorem d_D_isActAsSaid_22 : decode b_D_isActAsSaid 22 = .ok (.ireturn, 1) := by decide +kernel
theorem d_D_isActAsSaid_23 : decode b_D_isActAsSaid 23 = .ok (.iload_n 0, 1) := by decide +kernel
theorem d_D_isActAsSaid_24 : decode b_D_isActAsSaid 24 = .ok (.ifCond .eq 8, 3) := by decide +kernel
theorem d_D_isActAsSaid_27 : decode b_D_isActAsSaid 27 = .ok (.iload_n 0, 1) := by decide +kernel
theorem d_D_isActAsSaid_28 : decode b_D_isActAsSaid 28 = .ok (.iconst 2, 1) := by decide +kernel
theorem d_D_isActAsSaid_29 : decode b_D_isActAsSaid 29 = .ok (.if_icmp .ne 7, 3) := by decide +kernel
theorem d_D_isActAsSaid_32 : decode b_D_isActAsSaid 32 = .ok (.iconst 1, 1) := by decide +kernel
theorem d_D_isActAsSaid_33 : decode b_D_isActAsSaid 33 = .ok (.goto 4, 3) := by decide +kernel
theorem d_D_isActAsSaid_36 : decode b_D_isActAsSaid 36 = .ok (.iconst 0, 1) := by decide +kernel
theorem d_D_isActAsSaid_37 : decode b_D_isActAsSaid 37 = .ok (.istore_n 3, 1) := by decide +kernel
theorem d_D_isActAsSaid_38 : decode b_D_isActAsSaid 38 = .ok (.iload_n 1, 1) := by decide +kernel
theorem d_D_isActAsSaid_39 : decode b_D_isActAsSaid 39 = .ok (.invokestatic 37, 3) := by decide +kernel
theorem d_D_isActAsSaid_42 : decode b_D_isActAsSaid 42 = .ok (.ifCond .ne 12, 3) := by decide +kernel
theorem d_D_isActAsSaid_45 : decode b_D_isActAsSaid 45 = .ok (.iload_n 1, 1) := by decide +kernel
theorem d_D_isActAsSaid_46 : decode b_D_isActAsSaid 46 = .ok (.iconst (-1), 1) := by decide +kernel
theorem d_D_isActAsSaid_47 : decode b_D_isActAsSaid 47 = .ok (.if_icmp .ne 11, 3) := by decide +kernel
theorem d_D_isActAsSaid_50 : decode b_D_isActAsSaid 50 = .ok (.iload_n 3, 1) := by decide +kernel
theorem d_D_isActAsSaid_51 : decode b_D_isActAsSaid 51 = .ok (.ifCond .ne 7, 3) := by decide +kernel
theorem d_D_isActAsSaid_54 : decode b_D_isActAsSaid 54 = .ok (.iconst 1, 1) := by decide +kernel
theorem d_D_isActAsSaid_55 : decode b_D_isActAsSaid 55 = .ok (.goto 4, 3) := by decide +kernel
theorem d_D_isActAsSaid_58 : decode b_D_isActAsSaid 58 = .ok (.iconst 0, 1) := by decide +kernel
theorem d_D_isActAsSaid_59 : decode b_D_isActAsSaid 59 = .ok (.ireturn, 1) := by decide +kernel
theorem d_F_allow_0 : decode b_F_allow 0 = .ok (.iload_n 1, 1) := by decide +kernel
theorem d_F_allow_1 : decode b_F_allow 1 = .ok (.tableswitch 129 0 4 #[35, 49, 35, 78, 100], 35) := by decide +kernel
theorem d_F_allow_36 : decode b_F_allow 36 = .ok (.aload_n 0, 1) := by decide +kernel
theorem d_F_allow_37 : decode b_F_allow 37 = .ok (.getfield 9, 3) := by decide +kernel
theorem d_F_allow_40 : decode b_F_allow 40 = .ok (.iconst 2, 1) := by decide +kernel
theorem d_F_allow_41 : decode b_F_allow 41 = .ok (.if_icmp .gt 7, 3) := by decide +kernel
theorem d_F_allow_44 : decode b_F_allow 44 = .ok (.iconst 1, 1) := by decide +kernel
theorem d_F_allow_45 : decode b_F_allow 45 = .ok (.goto 4, 3) := by decide +kernel
theorem d_F_allow_48 : decode b_F_allow 48 = .ok (.iconst 0, 1) := by decide +kernel
theorem d_F_allow_49 : decode b_F_allow 49 = .ok (.ireturn, 1) := by decide +kernel
theorem d_F_allow_50 : decode b_F_allow 50 = .ok (.aload_n 0, 1) := by decide +kernel
theorem d_F_allow_51 : decode b_F_allow 51 = .ok (.getfield 9, 3) := by decide +kernel
theorem d_F_allow_54 : decode b_F_allow 54 = .ok (.ifCond .eq 19, 3) := by decide +kernel
theorem d_F_allow_57 : decode b_F_allow 57 = .ok (.aload_n 0, 1) := by decide +kernel
theorem d_F_allow_58 : decode b_F_allow 58 = .ok (.getfield 9, 3) := by decide +kernel
theorem d_F_allow_61 : decode b_F_allow 61 = .ok (.iconst 1, 1) := by decide +kernel
theorem d_F_allow_62 : decode b_F_allow 62 = .ok (.if_icmp .ne 15, 3) := by decide +kernel
theorem d_F_allow_65 : decode b_F_allow 65 = .ok (.iload_n 3, 1) := by decide +kernel
theorem d_F_allow_66 : decode b_F_allow 66 = .ok (.aload_n 0, 1) := by decide +kernel
theorem d_F_allow_67 : decode b_F_allow 67 = .ok (.getfield 25, 3) := by decide +kernel
theorem d_F_allow_70 : decode b_F_allow 70 = .ok (.if_icmp .le 7, 3) := by decide +kernel
theorem d_F_allow_73 : decode b_F_allow 73 = .ok (.iconst 1, 1) := by decide +kernel
theorem d_F_allow_74 : decode b_F_allow 74 = .ok (.goto 4, 3) := by decide +kernel
theorem d_F_allow_77 : decode b_F_allow 77 = .ok (.iconst 0, 1) := by decide +kernel
theorem d_F_allow_78 : decode b_F_allow 78 = .ok (.ireturn, 1) := by decide +kernel
theorem d_F_allow_79 : decode b_F_allow 79 = .ok (.aload_n 0, 1) := by decide +kernel
theorem d_F_allow_80 : decode b_F_allow 80 = .ok (.getfield 9, 3) := by decide +kernel
theorem d_F_allow_83 : decode b_F_allow 83 = .ok (.bipush 7, 2) := by decide +kernel
theorem d_F_allow_85 : decode b_F_allow 85 = .ok (.if_icmp .ge 14, 3) := by decide +kernel
theorem d_F_allow_88 : decode b_F_allow 88 = .ok (.aload_n 0, 1) := by decide +kernel
theorem d_F_allow_89 : decode b_F_allow 89 = .ok (.getfield 18, 3) := by decide +kernel
theorem d_F_allow_92 : decode b_F_allow 92 = .ok (.ifCond .ne 7, 3) := by decide +kernel
theorem d_F_allow_95 : decode b_F_allow 95 = .ok (.iconst 1, 1) := by decide +kernel
theorem d_F_allow_96 : decode b_F_allow 96 = .ok (.goto 4, 3) := by decide +kernel
theorem d_F_allow_99 : decode b_F_allow 99 = .ok (.iconst 0, 1) := by decide +kernel
theorem d_F_allow_100 : decode b_F_allow 100 = .ok (.ireturn, 1) := by decide +kernel
theorem d_F_allow_101 : decode b_F_allow 101 = .ok (.aload_n 0, 1) := by decide +kernel
theorem d_F_allow_102 : decode b_F_allow 102 = .ok (.invokevirtual 46, 3) := by decide +kernel
theorem d_F_allow_105 : decode b_F_allow 105 = .ok (.ifCond .eq 23, 3) := by decide +kernel
theorem d_F_allow_108 : decode b_F_allow 108 = .ok (.aload_n 0, 1) := by decide +kernel
theorem d_F_allow_109 : decode b_F_allow 109 = .ok (.getfield 31, 3) := by decide +kernel
theorem d_F_allow_112 : decode b_F_allow 112 = .ok (.iload_n 2, 1) := by decide +kernel
theorem d_F_allow_113 : decode b_F_allow 113 = .ok (.if_icmp .ne 15, 3) := by decide +kernel
theorem d_F_allow_116 : decode b_F_allow 116 = .ok (.aload_n 0, 1) := by decide +kernel
theorem d_F_allow_117 : decode b_F_allow 117 = .ok (.getfield 34, 3) := by decide +kernel
theorem d_F_allow_120 : decode b_F_allow 120 = .ok (.iload_n 3, 1) := by decide +kernel
theorem d_F_allow_121 : decode b_F_allow 121 = .ok (.if_icmp .ne 7, 3) := by decide +kernel
theorem d_F_allow_124 : decode b_F_allow 124 = .ok (.iconst 1, 1) := by decide +kernel
theorem d_F_allow_125 : decode b_F_allow 125 = .ok (.goto 4, 3) := by decide +kernel
theorem d_F_allow_128 : decode b_F_allow 128 = .ok (.iconst 0, 1) := by decide +kernel
theorem d_F_allow_129 : decode b_F_allow 129 = .ok (.ireturn, 1) := by decide +kernel
theorem d_F_allow_130 : decode b_F_allow 130 = .ok (.aload_n 0, 1) := by decide +kernel
theorem d_F_allow_131 : decode b_F_allow 131 = .ok (.getfield 9, 3) := by decide +kernel
theorem d_F_allow_134 : decode b_F_allow 134 = .ok (.iconst 1, 1) := by decide +kernel
theorem d_F_allow_135 : decode b_F_allow 135 = .ok (.if_icmp .gt 7, 3) := by decide +kernel
theorem d_F_allow_138 : decode b_F_allow 138 = .ok (.iconst 1, 1) := by decide +kernel
theorem d_F_allow_139 : decode b_F_allow 139 = .ok (.goto 4, 3) := by decide +kernel
theorem d_F_allow_142 : decode b_F_allow 142 = .ok (.iconst 0, 1) := by decide +kernel
theorem d_F_allow_143 : decode b_F_allow 143 = .ok (.ireturn, 1) := by decide +kernel
theorem d_F_isHandedOver_0 : decode b_F_isHandedOver 0 = .ok (.aload_n 0, 1) := by decide +kernel
theorem d_F_isHandedOver_1 : decode b_F_isHandedOver 1 = .ok (.getfield 9, 3) := by decide +kernel
theorem d_F_isHandedOver_4 : decode b_F_isHandedOver 4 = .ok (.iconst 3, 1) := by decide +kernel
theorem d_F_isHandedOver_5 : decode b_F_isHandedOver 5 = .ok (.if_icmp .lt 16, 3) := by decide +kernel
theorem d_F_isHandedOver_8 : decode b_F_isHandedOver 8 = .ok (.aload_n 0, 1) := by decide +kernel
theorem d_F_isHandedOver_9 : decode b_F_isHandedOver 9 = .ok (.getfield 9, 3) := by decide +kernel
theorem d_F_isHandedOver_12 : decode b_F_isHandedOver 12 = .ok (.bipush 6, 2) := by decide +kernel
theorem d_F_isHandedOver_14 : decode b_F_isHandedOver 14 = .ok (.if_icmp .gt 7, 3) := by decide +kernel
theorem d_F_isHandedOver_17 : decode b_F_isHandedOver 17 = .ok (.iconst 1, 1) := by decide +kernel
theorem d_F_isHandedOver_18 : decode b_F_isHandedOver 18 = .ok (.goto 4, 3) := by decide +kernel
theorem d_F_isHandedOver_21 : decode b_F_isHandedOver 21 = .ok (.iconst 0, 1) := by decide +kernel
theorem d_F_isHandedOver_22 : decode b_F_isHandedOver 22 = .ok (.ireturn, 1) := by decide +kernel
theorem d_D_outcomeOf_0 : decode b_D_outcomeOf 0 = .ok (.iload_n 3, 1) := by decide +kernel
theorem d_D_outcomeOf_1 : decode b_D_outcomeOf 1 = .ok (.tableswitch 93 0 4 #[35, 46, 60, 87, 90], 35) := by decide +kernel
theorem d_D_outcomeOf_36 : decode b_D_outcomeOf 36 = .ok (.aload_n 0, 1) := by decide +kernel
theorem d_D_outcomeOf_37 : decode b_D_outcomeOf 37 = .ok (.aload_n 1, 1) := by decide +kernel
theorem d_D_outcomeOf_38 : decode b_D_outcomeOf 38 = .ok (.aload_n 2, 1) := by decide +kernel
theorem d_D_outcomeOf_39 : decode b_D_outcomeOf 39 = .ok (.iload 4, 2) := by decide +kernel
theorem d_D_outcomeOf_41 : decode b_D_outcomeOf 41 = .ok (.iload 5, 2) := by decide +kernel
theorem d_D_outcomeOf_43 : decode b_D_outcomeOf 43 = .ok (.invokevirtual 183, 3) := by decide +kernel
theorem d_D_outcomeOf_46 : decode b_D_outcomeOf 46 = .ok (.ireturn, 1) := by decide +kernel
theorem d_D_outcomeOf_47 : decode b_D_outcomeOf 47 = .ok (.aload_n 2, 1) := by decide +kernel
theorem d_D_outcomeOf_48 : decode b_D_outcomeOf 48 = .ok (.getfield 157, 3) := by decide +kernel
theorem d_D_outcomeOf_51 : decode b_D_outcomeOf 51 = .ok (.ifCond .ne 7, 3) := by decide +kernel
theorem d_D_outcomeOf_54 : decode b_D_outcomeOf 54 = .ok (.iconst 5, 1) := by decide +kernel
theorem d_D_outcomeOf_55 : decode b_D_outcomeOf 55 = .ok (.goto 5, 3) := by decide +kernel
theorem d_D_outcomeOf_58 : decode b_D_outcomeOf 58 = .ok (.bipush 6, 2) := by decide +kernel
theorem d_D_outcomeOf_60 : decode b_D_outcomeOf 60 = .ok (.ireturn, 1) := by decide +kernel
theorem d_D_outcomeOf_61 : decode b_D_outcomeOf 61 = .ok (.iload 4, 2) := by decide +kernel
theorem d_D_outcomeOf_63 : decode b_D_outcomeOf 63 = .ok (.aload_n 1, 1) := by decide +kernel
theorem d_D_outcomeOf_64 : decode b_D_outcomeOf 64 = .ok (.getfield 187, 3) := by decide +kernel
theorem d_D_outcomeOf_67 : decode b_D_outcomeOf 67 = .ok (.if_icmp .eq 13, 3) := by decide +kernel
theorem d_D_outcomeOf_70 : decode b_D_outcomeOf 70 = .ok (.aload_n 0, 1) := by decide +kernel
theorem d_D_outcomeOf_71 : decode b_D_outcomeOf 71 = .ok (.aload_n 1, 1) := by decide +kernel
theorem d_D_outcomeOf_72 : decode b_D_outcomeOf 72 = .ok (.iload 4, 2) := by decide +kernel
theorem d_D_outcomeOf_74 : decode b_D_outcomeOf 74 = .ok (.invokevirtual 190, 3) := by decide +kernel
theorem d_D_outcomeOf_77 : decode b_D_outcomeOf 77 = .ok (.ifCond .eq 8, 3) := by decide +kernel
theorem d_D_outcomeOf_80 : decode b_D_outcomeOf 80 = .ok (.bipush 7, 2) := by decide +kernel
theorem d_D_outcomeOf_82 : decode b_D_outcomeOf 82 = .ok (.goto 5, 3) := by decide +kernel
theorem d_D_outcomeOf_85 : decode b_D_outcomeOf 85 = .ok (.bipush (-21), 2) := by decide +kernel
theorem d_D_outcomeOf_87 : decode b_D_outcomeOf 87 = .ok (.ireturn, 1) := by decide +kernel
theorem d_D_outcomeOf_88 : decode b_D_outcomeOf 88 = .ok (.bipush 8, 2) := by decide +kernel
theorem d_D_outcomeOf_90 : decode b_D_outcomeOf 90 = .ok (.ireturn, 1) := by decide +kernel
theorem d_D_outcomeOf_91 : decode b_D_outcomeOf 91 = .ok (.bipush 9, 2) := by decide +kernel
theorem d_D_outcomeOf_93 : decode b_D_outcomeOf 93 = .ok (.ireturn, 1) := by decide +kernel
theorem d_D_outcomeOf_94 : decode b_D_outcomeOf 94 = .ok (.aload_n 1, 1) := by decide +kernel
theorem d_D_outcomeOf_95 : decode b_D_outcomeOf 95 = .ok (.getfield 144, 3) := by decide +kernel
theorem d_D_outcomeOf_98 : decode b_D_outcomeOf 98 = .ok (.ifCond .ne 23, 3) := by decide +kernel
theorem d_D_outcomeOf_101 : decode b_D_outcomeOf 101 = .ok (.aload_n 0, 1) := by decide +kernel
theorem d_D_outcomeOf_102 : decode b_D_outcomeOf 102 = .ok (.getfield 22, 3) := by decide +kernel
theorem d_D_outcomeOf_105 : decode b_D_outcomeOf 105 = .ok (.aload_n 1, 1) := by decide +kernel
theorem d_D_outcomeOf_106 : decode b_D_outcomeOf 106 = .ok (.getfield 187, 3) := by decide +kernel
theorem d_D_outcomeOf_109 : decode b_D_outcomeOf 109 = .ok (.iconst 2, 1) := by decide +kernel
theorem d_D_outcomeOf_110 : decode b_D_outcomeOf 110 = .ok (.iconst (-1), 1) := by decide +kernel
theorem d_D_outcomeOf_111 : decode b_D_outcomeOf 111 = .ok (.invokevirtual 194, 3) := by decide +kernel
theorem d_D_outcomeOf_114 : decode b_D_outcomeOf 114 = .ok (.ifCond .eq 7, 3) := by decide +kernel
theorem d_D_outcomeOf_117 : decode b_D_outcomeOf 117 = .ok (.iconst 4, 1) := by decide +kernel
theorem d_D_outcomeOf_118 : decode b_D_outcomeOf 118 = .ok (.goto 5, 3) := by decide +kernel
theorem d_D_outcomeOf_121 : decode b_D_outcomeOf 121 = .ok (.bipush (-21), 2) := by decide +kernel
theorem d_D_outcomeOf_123 : decode b_D_outcomeOf 123 = .ok (.ireturn, 1) := by decide +kernel
theorem d_D_handOutcome_0 : decode b_D_handOutcome 0 = .ok (.aload_n 0, 1) := by decide +kernel
theorem d_D_handOutcome_1 : decode b_D_handOutcome 1 = .ok (.aload_n 1, 1) := by decide +kernel
theorem d_D_handOutcome_2 : decode b_D_handOutcome 2 = .ok (.aload_n 2, 1) := by decide +kernel
theorem d_D_handOutcome_3 : decode b_D_handOutcome 3 = .ok (.iload_n 3, 1) := by decide +kernel
theorem d_D_handOutcome_4 : decode b_D_handOutcome 4 = .ok (.invokevirtual 197, 3) := by decide +kernel
theorem d_D_handOutcome_7 : decode b_D_handOutcome 7 = .ok (.istore 5, 2) := by decide +kernel
theorem d_D_handOutcome_9 : decode b_D_handOutcome 9 = .ok (.iload 5, 2) := by decide +kernel
theorem d_D_handOutcome_11 : decode b_D_handOutcome 11 = .ok (.ifCond .ge 6, 3) := by decide +kernel
theorem d_D_handOutcome_14 : decode b_D_handOutcome 14 = .ok (.iload 5, 2) := by decide +kernel
theorem d_D_handOutcome_16 : decode b_D_handOutcome 16 = .ok (.ireturn, 1) := by decide +kernel
theorem d_D_handOutcome_17 : decode b_D_handOutcome 17 = .ok (.aload_n 1, 1) := by decide +kernel
theorem d_D_handOutcome_18 : decode b_D_handOutcome 18 = .ok (.aload_n 2, 1) := by decide +kernel
theorem d_D_handOutcome_19 : decode b_D_handOutcome 19 = .ok (.iload_n 3, 1) := by decide +kernel
theorem d_D_handOutcome_20 : decode b_D_handOutcome 20 = .ok (.iload 4, 2) := by decide +kernel
theorem d_D_handOutcome_22 : decode b_D_handOutcome 22 = .ok (.invokestatic 201, 3) := by decide +kernel
theorem d_D_handOutcome_25 : decode b_D_handOutcome 25 = .ok (.ifCond .ne 6, 3) := by decide +kernel
theorem d_D_handOutcome_28 : decode b_D_handOutcome 28 = .ok (.bipush (-22), 2) := by decide +kernel
theorem d_D_handOutcome_30 : decode b_D_handOutcome 30 = .ok (.ireturn, 1) := by decide +kernel
theorem d_D_handOutcome_31 : decode b_D_handOutcome 31 = .ok (.aload_n 1, 1) := by decide +kernel
theorem d_D_handOutcome_32 : decode b_D_handOutcome 32 = .ok (.getfield 160, 3) := by decide +kernel
theorem d_D_handOutcome_35 : decode b_D_handOutcome 35 = .ok (.ifCond .le 8, 3) := by decide +kernel
theorem d_D_handOutcome_38 : decode b_D_handOutcome 38 = .ok (.bipush (-23), 2) := by decide +kernel
theorem d_D_handOutcome_40 : decode b_D_handOutcome 40 = .ok (.goto 5, 3) := by decide +kernel
theorem d_D_handOutcome_43 : decode b_D_handOutcome 43 = .ok (.iload 5, 2) := by decide +kernel
theorem d_D_handOutcome_45 : decode b_D_handOutcome 45 = .ok (.ireturn, 1) := by decide +kernel
theorem d_D_takerOutcome_0 : decode b_D_takerOutcome 0 = .ok (.iload_n 3, 1) := by decide +kernel
theorem d_D_takerOutcome_1 : decode b_D_takerOutcome 1 = .ok (.aload_n 1, 1) := by decide +kernel
theorem d_D_takerOutcome_2 : decode b_D_takerOutcome 2 = .ok (.getfield 187, 3) := by decide +kernel
theorem d_D_takerOutcome_5 : decode b_D_takerOutcome 5 = .ok (.if_icmp .ne 5, 3) := by decide +kernel
theorem d_D_takerOutcome_8 : decode b_D_takerOutcome 8 = .ok (.iconst 1, 1) := by decide +kernel
theorem d_D_takerOutcome_9 : decode b_D_takerOutcome 9 = .ok (.ireturn, 1) := by decide +kernel
theorem d_D_takerOutcome_10 : decode b_D_takerOutcome 10 = .ok (.aload_n 0, 1) := by decide +kernel
theorem d_D_takerOutcome_11 : decode b_D_takerOutcome 11 = .ok (.aload_n 1, 1) := by decide +kernel
theorem d_D_takerOutcome_12 : decode b_D_takerOutcome 12 = .ok (.iload_n 3, 1) := by decide +kernel
theorem d_D_takerOutcome_13 : decode b_D_takerOutcome 13 = .ok (.invokevirtual 190, 3) := by decide +kernel
theorem d_D_takerOutcome_16 : decode b_D_takerOutcome 16 = .ok (.ifCond .eq 5, 3) := by decide +kernel
theorem d_D_takerOutcome_19 : decode b_D_takerOutcome 19 = .ok (.iconst 2, 1) := by decide +kernel
theorem d_D_takerOutcome_20 : decode b_D_takerOutcome 20 = .ok (.ireturn, 1) := by decide +kernel
theorem d_D_takerOutcome_21 : decode b_D_takerOutcome 21 = .ok (.aload_n 1, 1) := by decide +kernel
theorem d_D_takerOutcome_22 : decode b_D_takerOutcome 22 = .ok (.getfield 144, 3) := by decide +kernel
theorem d_D_takerOutcome_25 : decode b_D_takerOutcome 25 = .ok (.iconst 1, 1) := by decide +kernel
theorem d_D_takerOutcome_26 : decode b_D_takerOutcome 26 = .ok (.if_icmp .gt 15, 3) := by decide +kernel
theorem d_D_takerOutcome_29 : decode b_D_takerOutcome 29 = .ok (.aload_n 2, 1) := by decide +kernel
theorem d_D_takerOutcome_30 : decode b_D_takerOutcome 30 = .ok (.getfield 157, 3) := by decide +kernel
theorem d_D_takerOutcome_33 : decode b_D_takerOutcome 33 = .ok (.iconst 2, 1) := by decide +kernel
theorem d_D_takerOutcome_34 : decode b_D_takerOutcome 34 = .ok (.if_icmp .eq 7, 3) := by decide +kernel
theorem d_D_takerOutcome_37 : decode b_D_takerOutcome 37 = .ok (.iconst 1, 1) := by decide +kernel
theorem d_D_takerOutcome_38 : decode b_D_takerOutcome 38 = .ok (.goto 4, 3) := by decide +kernel
theorem d_D_takerOutcome_41 : decode b_D_takerOutcome 41 = .ok (.iconst 0, 1) := by decide +kernel
theorem d_D_takerOutcome_42 : decode b_D_takerOutcome 42 = .ok (.istore 4, 2) := by decide +kernel
theorem d_D_takerOutcome_44 : decode b_D_takerOutcome 44 = .ok (.iload 4, 2) := by decide +kernel
theorem d_D_takerOutcome_46 : decode b_D_takerOutcome 46 = .ok (.ifCond .eq 23, 3) := by decide +kernel
theorem d_D_takerOutcome_49 : decode b_D_takerOutcome 49 = .ok (.aload_n 0, 1) := by decide +kernel
theorem d_D_takerOutcome_50 : decode b_D_takerOutcome 50 = .ok (.getfield 22, 3) := by decide +kernel
theorem d_D_takerOutcome_53 : decode b_D_takerOutcome 53 = .ok (.aload_n 1, 1) := by decide +kernel
theorem d_D_takerOutcome_54 : decode b_D_takerOutcome 54 = .ok (.getfield 187, 3) := by decide +kernel
theorem d_D_takerOutcome_57 : decode b_D_takerOutcome 57 = .ok (.iconst 0, 1) := by decide +kernel
theorem d_D_takerOutcome_58 : decode b_D_takerOutcome 58 = .ok (.iload_n 3, 1) := by decide +kernel
theorem d_D_takerOutcome_59 : decode b_D_takerOutcome 59 = .ok (.invokevirtual 194, 3) := by decide +kernel
theorem d_D_takerOutcome_62 : decode b_D_takerOutcome 62 = .ok (.ifCond .eq 7, 3) := by decide +kernel
theorem d_D_takerOutcome_65 : decode b_D_takerOutcome 65 = .ok (.iconst 3, 1) := by decide +kernel
theorem d_D_takerOutcome_66 : decode b_D_takerOutcome 66 = .ok (.goto 5, 3) := by decide +kernel
theorem d_D_takerOutcome_69 : decode b_D_takerOutcome 69 = .ok (.bipush (-21), 2) := by decide +kernel
theorem d_D_takerOutcome_71 : decode b_D_takerOutcome 71 = .ok (.ireturn, 1) := by decide +kernel
theorem d_D_hasOrder_0 : decode b_D_hasOrder 0 = .ok (.aload_n 1, 1) := by decide +kernel
theorem d_D_hasOrder_1 : decode b_D_hasOrder 1 = .ok (.getfield 144, 3) := by decide +kernel
theorem d_D_hasOrder_4 : decode b_D_hasOrder 4 = .ok (.iconst 2, 1) := by decide +kernel
theorem d_D_hasOrder_5 : decode b_D_hasOrder 5 = .ok (.if_icmp .eq 23, 3) := by decide +kernel
theorem d_D_hasOrder_8 : decode b_D_hasOrder 8 = .ok (.aload_n 0, 1) := by decide +kernel
theorem d_D_hasOrder_9 : decode b_D_hasOrder 9 = .ok (.getfield 22, 3) := by decide +kernel
theorem d_D_hasOrder_12 : decode b_D_hasOrder 12 = .ok (.aload_n 1, 1) := by decide +kernel
theorem d_D_hasOrder_13 : decode b_D_hasOrder 13 = .ok (.getfield 187, 3) := by decide +kernel
theorem d_D_hasOrder_16 : decode b_D_hasOrder 16 = .ok (.iconst 1, 1) := by decide +kernel
theorem d_D_hasOrder_17 : decode b_D_hasOrder 17 = .ok (.iload_n 2, 1) := by decide +kernel
theorem d_D_hasOrder_18 : decode b_D_hasOrder 18 = .ok (.invokevirtual 194, 3) := by decide +kernel
theorem d_D_hasOrder_21 : decode b_D_hasOrder 21 = .ok (.ifCond .eq 7, 3) := by decide +kernel
theorem d_D_hasOrder_24 : decode b_D_hasOrder 24 = .ok (.iconst 1, 1) := by decide +kernel
theorem d_D_hasOrder_25 : decode b_D_hasOrder 25 = .ok (.goto 4, 3) := by decide +kernel
theorem d_D_hasOrder_28 : decode b_D_hasOrder 28 = .ok (.iconst 0, 1) := by decide +kernel
theorem d_D_hasOrder_29 : decode b_D_hasOrder 29 = .ok (.ireturn, 1) := by decide +kernel
theorem d_N_stand_0 : decode b_N_stand 0 = .ok (.aload_n 0, 1) := by decide +kernel
theorem d_N_stand_1 : decode b_N_stand 1 = .ok (.iload_n 1, 1) := by decide +kernel
theorem d_N_stand_2 : decode b_N_stand 2 = .ok (.iload_n 2, 1) := by decide +kernel
theorem d_N_stand_3 : decode b_N_stand 3 = .ok (.iload_n 3, 1) := by decide +kernel
theorem d_N_stand_4 : decode b_N_stand 4 = .ok (.invokestatic 19, 3) := by decide +kernel
theorem d_N_stand_7 : decode b_N_stand 7 = .ok (.invokevirtual 23, 3) := by decide +kernel
theorem d_N_stand_10 : decode b_N_stand 10 = .ok (.ifCond .lt 7, 3) := by decide +kernel
theorem d_N_stand_13 : decode b_N_stand 13 = .ok (.iconst 1, 1) := by decide +kernel
theorem d_N_stand_14 : decode b_N_stand 14 = .ok (.goto 4, 3) := by decide +kernel
theorem d_N_stand_17 : decode b_N_stand 17 = .ok (.iconst 0, 1) := by decide +kernel
theorem d_N_stand_18 : decode b_N_stand 18 = .ok (.ireturn, 1) := by decide +kernel
theorem d_D_isProofEnough_0 : decode b_D_isProofEnough 0 = .ok (.iload_n 3, 1) := by decide +kernel
theorem d_D_isProofEnough_1 : decode b_D_isProofEnough 1 = .ok (.iconst (-1), 1) := by decide +kernel
theorem d_D_isProofEnough_2 : decode b_D_isProofEnough 2 = .ok (.if_icmp .ne 32, 3) := by decide +kernel
theorem d_D_isProofEnough_5 : decode b_D_isProofEnough 5 = .ok (.aload_n 1, 1) := by decide +kernel
theorem d_D_isProofEnough_6 : decode b_D_isProofEnough 6 = .ok (.getfield 157, 3) := by decide +kernel
theorem d_D_isProofEnough_9 : decode b_D_isProofEnough 9 = .ok (.iconst 2, 1) := by decide +kernel
theorem d_D_isProofEnough_10 : decode b_D_isProofEnough 10 = .ok (.if_icmp .eq 22, 3) := by decide +kernel
theorem d_D_isProofEnough_13 : decode b_D_isProofEnough 13 = .ok (.aload_n 0, 1) := by decide +kernel
theorem d_D_isProofEnough_14 : decode b_D_isProofEnough 14 = .ok (.getfield 144, 3) := by decide +kernel
theorem d_D_isProofEnough_17 : decode b_D_isProofEnough 17 = .ok (.ifCond .eq 11, 3) := by decide +kernel
theorem d_D_isProofEnough_20 : decode b_D_isProofEnough 20 = .ok (.aload_n 0, 1) := by decide +kernel
theorem d_D_isProofEnough_21 : decode b_D_isProofEnough 21 = .ok (.getfield 144, 3) := by decide +kernel
theorem d_D_isProofEnough_24 : decode b_D_isProofEnough 24 = .ok (.iconst 5, 1) := by decide +kernel
theorem d_D_isProofEnough_25 : decode b_D_isProofEnough 25 = .ok (.if_icmp .ne 7, 3) := by decide +kernel
theorem d_D_isProofEnough_28 : decode b_D_isProofEnough 28 = .ok (.iconst 1, 1) := by decide +kernel
theorem d_D_isProofEnough_29 : decode b_D_isProofEnough 29 = .ok (.goto 4, 3) := by decide +kernel
theorem d_D_isProofEnough_32 : decode b_D_isProofEnough 32 = .ok (.iconst 0, 1) := by decide +kernel
theorem d_D_isProofEnough_33 : decode b_D_isProofEnough 33 = .ok (.ireturn, 1) := by decide +kernel
theorem d_D_isProofEnough_34 : decode b_D_isProofEnough 34 = .ok (.iload_n 3, 1) := by decide +kernel
theorem d_D_isProofEnough_35 : decode b_D_isProofEnough 35 = .ok (.iconst 4, 1) := by decide +kernel
theorem d_D_isProofEnough_36 : decode b_D_isProofEnough 36 = .ok (.idiv, 1) := by decide +kernel
theorem d_D_isProofEnough_37 : decode b_D_isProofEnough 37 = .ok (.iload_n 2, 1) := by decide +kernel
theorem d_D_isProofEnough_38 : decode b_D_isProofEnough 38 = .ok (.if_icmp .eq 5, 3) := by decide +kernel
theorem d_D_isProofEnough_41 : decode b_D_isProofEnough 41 = .ok (.iconst 0, 1) := by decide +kernel
theorem d_D_isProofEnough_42 : decode b_D_isProofEnough 42 = .ok (.ireturn, 1) := by decide +kernel
theorem d_D_isProofEnough_43 : decode b_D_isProofEnough 43 = .ok (.iload_n 3, 1) := by decide +kernel
theorem d_D_isProofEnough_44 : decode b_D_isProofEnough 44 = .ok (.iconst 4, 1) := by decide +kernel
theorem d_D_isProofEnough_45 : decode b_D_isProofEnough 45 = .ok (.irem, 1) := by decide +kernel
theorem d_D_isProofEnough_46 : decode b_D_isProofEnough 46 = .ok (.istore 4, 2) := by decide +kernel
theorem d_D_isProofEnough_48 : decode b_D_isProofEnough 48 = .ok (.aload_n 0, 1) := by decide +kernel
theorem d_D_isProofEnough_49 : decode b_D_isProofEnough 49 = .ok (.getfield 144, 3) := by decide +kernel
theorem d_D_isProofEnough_52 : decode b_D_isProofEnough 52 = .ok (.iconst 2, 1) := by decide +kernel
theorem d_D_isProofEnough_53 : decode b_D_isProofEnough 53 = .ok (.if_icmp .ne 21, 3) := by decide +kernel
theorem d_D_isProofEnough_56 : decode b_D_isProofEnough 56 = .ok (.iload 4, 2) := by decide +kernel
theorem d_D_isProofEnough_58 : decode b_D_isProofEnough 58 = .ok (.iconst 1, 1) := by decide +kernel
theorem d_D_isProofEnough_59 : decode b_D_isProofEnough 59 = .ok (.if_icmp .eq 9, 3) := by decide +kernel
theorem d_D_isProofEnough_62 : decode b_D_isProofEnough 62 = .ok (.iload 4, 2) := by decide +kernel
theorem d_D_isProofEnough_64 : decode b_D_isProofEnough 64 = .ok (.iconst 2, 1) := by decide +kernel
theorem d_D_isProofEnough_65 : decode b_D_isProofEnough 65 = .ok (.if_icmp .ne 7, 3) := by decide +kernel
theorem d_D_isProofEnough_68 : decode b_D_isProofEnough 68 = .ok (.iconst 1, 1) := by decide +kernel
theorem d_D_isProofEnough_69 : decode b_D_isProofEnough 69 = .ok (.goto 4, 3) := by decide +kernel
theorem d_D_isProofEnough_72 : decode b_D_isProofEnough 72 = .ok (.iconst 0, 1) := by decide +kernel
theorem d_D_isProofEnough_73 : decode b_D_isProofEnough 73 = .ok (.ireturn, 1) := by decide +kernel
theorem d_D_isProofEnough_74 : decode b_D_isProofEnough 74 = .ok (.aload_n 0, 1) := by decide +kernel
theorem d_D_isProofEnough_75 : decode b_D_isProofEnough 75 = .ok (.getfield 144, 3) := by decide +kernel
theorem d_D_isProofEnough_78 : decode b_D_isProofEnough 78 = .ok (.iconst 3, 1) := by decide +kernel
theorem d_D_isProofEnough_79 : decode b_D_isProofEnough 79 = .ok (.if_icmp .ne 9, 3) := by decide +kernel
theorem d_D_isProofEnough_82 : decode b_D_isProofEnough 82 = .ok (.iload 4, 2) := by decide +kernel
theorem d_D_isProofEnough_84 : decode b_D_isProofEnough 84 = .ok (.iconst 2, 1) := by decide +kernel
theorem d_D_isProofEnough_85 : decode b_D_isProofEnough 85 = .ok (.if_icmp .ne 7, 3) := by decide +kernel
theorem d_D_isProofEnough_88 : decode b_D_isProofEnough 88 = .ok (.iconst 1, 1) := by decide +kernel
theorem d_D_isProofEnough_89 : decode b_D_isProofEnough 89 = .ok (.goto 4, 3) := by decide +kernel
theorem d_D_isProofEnough_92 : decode b_D_isProofEnough 92 = .ok (.iconst 0, 1) := by decide +kernel
theorem d_D_isProofEnough_93 : decode b_D_isProofEnough 93 = .ok (.ireturn, 1) := by decide +kernel
theorem d_A_init_0 : decode b_A_init 0 = .ok (.aload_n 0, 1) := by decide +kernel
theorem d_A_init_1 : decode b_A_init 1 = .ok (.invokespecial 1, 3) := by decide +kernel
theorem d_A_init_4 : decode b_A_init 4 = .ok (.aload_n 0, 1) := by decide +kernel
theorem d_A_init_5 : decode b_A_init 5 = .ok (.aload_n 1, 1) := by decide +kernel
theorem d_A_init_6 : decode b_A_init 6 = .ok (.putfield 7, 3) := by decide +kernel
theorem d_A_init_9 : decode b_A_init 9 = .ok (.aload_n 0, 1) := by decide +kernel
theorem d_A_init_10 : decode b_A_init 10 = .ok (.iload_n 2, 1) := by decide +kernel
theorem d_A_init_11 : decode b_A_init 11 = .ok (.putfield 13, 3) := by decide +kernel
theorem d_A_init_14 : decode b_A_init 14 = .ok (.aload_n 0, 1) := by decide +kernel
theorem d_A_init_15 : decode b_A_init 15 = .ok (.iload_n 3, 1) := by decide +kernel
theorem d_A_init_16 : decode b_A_init 16 = .ok (.putfield 17, 3) := by decide +kernel
theorem d_A_init_19 : decode b_A_init 19 = .ok (.aload_n 0, 1) := by decide +kernel
theorem d_A_init_20 : decode b_A_init 20 = .ok (.iload 4, 2) := by decide +kernel
theorem d_A_init_22 : decode b_A_init 22 = .ok (.putfield 20, 3) := by decide +kernel
theorem d_A_init_25 : decode b_A_init 25 = .ok (.aload_n 0, 1) := by decide +kernel
theorem d_A_init_26 : decode b_A_init 26 = .ok (.iload 5, 2) := by decide +kernel
theorem d_A_init_28 : decode b_A_init 28 = .ok (.putfield 23, 3) := by decide +kernel
theorem d_A_init_31 : decode b_A_init 31 = .ok (.aload_n 0, 1) := by decide +kernel
theorem d_A_init_32 : decode b_A_init 32 = .ok (.iload 6, 2) := by decide +kernel
theorem d_A_init_34 : decode b_A_init 34 = .ok (.putfield 26, 3) := by decide +kernel
theorem d_A_init_37 : decode b_A_init 37 = .ok (.return_, 1) := by decide +kernel
theorem d_F_change_0 : decode b_F_change 0 = .ok (.aload_n 0, 1) := by decide +kernel
theorem d_F_change_1 : decode b_F_change 1 = .ok (.aload_n 1, 1) := by decide +kernel
theorem d_F_change_2 : decode b_F_change 2 = .ok (.getfield 50, 3) := by decide +kernel
theorem d_F_change_5 : decode b_F_change 5 = .ok (.putfield 43, 3) := by decide +kernel
theorem d_F_change_8 : decode b_F_change 8 = .ok (.aload_n 1, 1) := by decide +kernel
theorem d_F_change_9 : decode b_F_change 9 = .ok (.getfield 55, 3) := by decide +kernel
theorem d_F_change_12 : decode b_F_change 12 = .ok (.tableswitch 76 1 4 #[32, 43, 52, 60], 32) := by decide +kernel
theorem d_F_change_44 : decode b_F_change 44 = .ok (.aload_n 0, 1) := by decide +kernel
theorem d_F_change_45 : decode b_F_change 45 = .ok (.aload_n 1, 1) := by decide +kernel
theorem d_F_change_46 : decode b_F_change 46 = .ok (.getfield 58, 3) := by decide +kernel
theorem d_F_change_49 : decode b_F_change 49 = .ok (.invokevirtual 61, 3) := by decide +kernel
theorem d_F_change_52 : decode b_F_change 52 = .ok (.goto 41, 3) := by decide +kernel
theorem d_F_change_55 : decode b_F_change 55 = .ok (.aload_n 0, 1) := by decide +kernel
theorem d_F_change_56 : decode b_F_change 56 = .ok (.bipush 7, 2) := by decide +kernel
theorem d_F_change_58 : decode b_F_change 58 = .ok (.putfield 9, 3) := by decide +kernel
theorem d_F_change_61 : decode b_F_change 61 = .ok (.goto 32, 3) := by decide +kernel
theorem d_F_change_64 : decode b_F_change 64 = .ok (.aload_n 0, 1) := by decide +kernel
theorem d_F_change_65 : decode b_F_change 65 = .ok (.iconst 1, 1) := by decide +kernel
theorem d_F_change_66 : decode b_F_change 66 = .ok (.putfield 18, 3) := by decide +kernel
theorem d_F_change_69 : decode b_F_change 69 = .ok (.goto 24, 3) := by decide +kernel
theorem d_F_change_72 : decode b_F_change 72 = .ok (.aload_n 0, 1) := by decide +kernel
theorem d_F_change_73 : decode b_F_change 73 = .ok (.aload_n 0, 1) := by decide +kernel
theorem d_F_change_74 : decode b_F_change 74 = .ok (.getfield 15, 3) := by decide +kernel
theorem d_F_change_77 : decode b_F_change 77 = .ok (.putfield 9, 3) := by decide +kernel
theorem d_F_change_80 : decode b_F_change 80 = .ok (.aload_n 0, 1) := by decide +kernel
theorem d_F_change_81 : decode b_F_change 81 = .ok (.iconst 0, 1) := by decide +kernel
theorem d_F_change_82 : decode b_F_change 82 = .ok (.putfield 40, 3) := by decide +kernel
theorem d_F_change_85 : decode b_F_change 85 = .ok (.goto 8, 3) := by decide +kernel
theorem d_F_change_88 : decode b_F_change 88 = .ok (.aload_n 0, 1) := by decide +kernel
theorem d_F_change_89 : decode b_F_change 89 = .ok (.aload_n 1, 1) := by decide +kernel
theorem d_F_change_90 : decode b_F_change 90 = .ok (.invokevirtual 65, 3) := by decide +kernel
theorem d_F_change_93 : decode b_F_change 93 = .ok (.return_, 1) := by decide +kernel
theorem d_F_leaveCard_0 : decode b_F_leaveCard 0 = .ok (.aload_n 0, 1) := by decide +kernel
theorem d_F_leaveCard_1 : decode b_F_leaveCard 1 = .ok (.dup, 1) := by decide +kernel
theorem d_F_leaveCard_2 : decode b_F_leaveCard 2 = .ok (.getfield 22, 3) := by decide +kernel
theorem d_F_leaveCard_5 : decode b_F_leaveCard 5 = .ok (.iconst 1, 1) := by decide +kernel
theorem d_F_leaveCard_6 : decode b_F_leaveCard 6 = .ok (.iadd, 1) := by decide +kernel
theorem d_F_leaveCard_7 : decode b_F_leaveCard 7 = .ok (.putfield 22, 3) := by decide +kernel
theorem d_F_leaveCard_10 : decode b_F_leaveCard 10 = .ok (.aload_n 0, 1) := by decide +kernel
theorem d_F_leaveCard_11 : decode b_F_leaveCard 11 = .ok (.getfield 9, 3) := by decide +kernel
theorem d_F_leaveCard_14 : decode b_F_leaveCard 14 = .ok (.ifCond .ne 16, 3) := by decide +kernel
theorem d_F_leaveCard_17 : decode b_F_leaveCard 17 = .ok (.aload_n 0, 1) := by decide +kernel
theorem d_F_leaveCard_18 : decode b_F_leaveCard 18 = .ok (.iconst 1, 1) := by decide +kernel
theorem d_F_leaveCard_19 : decode b_F_leaveCard 19 = .ok (.putfield 9, 3) := by decide +kernel
theorem d_F_leaveCard_22 : decode b_F_leaveCard 22 = .ok (.aload_n 0, 1) := by decide +kernel
theorem d_F_leaveCard_23 : decode b_F_leaveCard 23 = .ok (.iload_n 1, 1) := by decide +kernel
theorem d_F_leaveCard_24 : decode b_F_leaveCard 24 = .ok (.putfield 25, 3) := by decide +kernel
theorem d_F_leaveCard_27 : decode b_F_leaveCard 27 = .ok (.goto 16, 3) := by decide +kernel
theorem d_F_leaveCard_30 : decode b_F_leaveCard 30 = .ok (.aload_n 0, 1) := by decide +kernel
theorem d_F_leaveCard_31 : decode b_F_leaveCard 31 = .ok (.iconst 2, 1) := by decide +kernel
theorem d_F_leaveCard_32 : decode b_F_leaveCard 32 = .ok (.putfield 9, 3) := by decide +kernel
theorem d_F_leaveCard_35 : decode b_F_leaveCard 35 = .ok (.aload_n 0, 1) := by decide +kernel
theorem d_F_leaveCard_36 : decode b_F_leaveCard 36 = .ok (.iload_n 1, 1) := by decide +kernel
theorem d_F_leaveCard_37 : decode b_F_leaveCard 37 = .ok (.bipush 7, 2) := by decide +kernel
theorem d_F_leaveCard_39 : decode b_F_leaveCard 39 = .ok (.iadd, 1) := by decide +kernel
theorem d_F_leaveCard_40 : decode b_F_leaveCard 40 = .ok (.putfield 28, 3) := by decide +kernel
theorem d_F_leaveCard_43 : decode b_F_leaveCard 43 = .ok (.return_, 1) := by decide +kernel
theorem d_F_handOver_0 : decode b_F_handOver 0 = .ok (.aload_n 0, 1) := by decide +kernel
theorem d_F_handOver_1 : decode b_F_handOver 1 = .ok (.aload_n 0, 1) := by decide +kernel
theorem d_F_handOver_2 : decode b_F_handOver 2 = .ok (.getfield 9, 3) := by decide +kernel
theorem d_F_handOver_5 : decode b_F_handOver 5 = .ok (.putfield 15, 3) := by decide +kernel
theorem d_F_handOver_8 : decode b_F_handOver 8 = .ok (.aload_n 0, 1) := by decide +kernel
theorem d_F_handOver_9 : decode b_F_handOver 9 = .ok (.iconst 3, 1) := by decide +kernel
theorem d_F_handOver_10 : decode b_F_handOver 10 = .ok (.aload_n 1, 1) := by decide +kernel
theorem d_F_handOver_11 : decode b_F_handOver 11 = .ok (.getfield 69, 3) := by decide +kernel
theorem d_F_handOver_14 : decode b_F_handOver 14 = .ok (.iadd, 1) := by decide +kernel
theorem d_F_handOver_15 : decode b_F_handOver 15 = .ok (.iconst 1, 1) := by decide +kernel
theorem d_F_handOver_16 : decode b_F_handOver 16 = .ok (.isub, 1) := by decide +kernel
theorem d_F_handOver_17 : decode b_F_handOver 17 = .ok (.putfield 9, 3) := by decide +kernel
theorem d_F_handOver_20 : decode b_F_handOver 20 = .ok (.aload_n 0, 1) := by decide +kernel
theorem d_F_handOver_21 : decode b_F_handOver 21 = .ok (.aload_n 1, 1) := by decide +kernel
theorem d_F_handOver_22 : decode b_F_handOver 22 = .ok (.getfield 50, 3) := by decide +kernel
theorem d_F_handOver_25 : decode b_F_handOver 25 = .ok (.putfield 31, 3) := by decide +kernel
theorem d_F_handOver_28 : decode b_F_handOver 28 = .ok (.aload_n 0, 1) := by decide +kernel
theorem d_F_handOver_29 : decode b_F_handOver 29 = .ok (.aload_n 1, 1) := by decide +kernel
theorem d_F_handOver_30 : decode b_F_handOver 30 = .ok (.getfield 58, 3) := by decide +kernel
theorem d_F_handOver_33 : decode b_F_handOver 33 = .ok (.putfield 34, 3) := by decide +kernel
theorem d_F_handOver_36 : decode b_F_handOver 36 = .ok (.aload_n 0, 1) := by decide +kernel
theorem d_F_handOver_37 : decode b_F_handOver 37 = .ok (.aload_n 1, 1) := by decide +kernel
theorem d_F_handOver_38 : decode b_F_handOver 38 = .ok (.getfield 72, 3) := by decide +kernel
theorem d_F_handOver_41 : decode b_F_handOver 41 = .ok (.putfield 37, 3) := by decide +kernel
theorem d_F_handOver_44 : decode b_F_handOver 44 = .ok (.return_, 1) := by decide +kernel
theorem d_D_join_0 : decode b_D_join 0 = .ok (.iload_n 1, 1) := by decide +kernel
theorem d_D_join_1 : decode b_D_join 1 = .ok (.invokestatic 62, 3) := by decide +kernel
theorem d_D_join_4 : decode b_D_join 4 = .ok (.ifCond .ne 6, 3) := by decide +kernel
theorem d_D_join_7 : decode b_D_join 7 = .ok (.bipush (-12), 2) := by decide +kernel
theorem d_D_join_9 : decode b_D_join 9 = .ok (.ireturn, 1) := by decide +kernel
theorem d_D_join_10 : decode b_D_join 10 = .ok (.aload_n 0, 1) := by decide +kernel
theorem d_D_join_11 : decode b_D_join 11 = .ok (.getfield 28, 3) := by decide +kernel
theorem d_D_join_14 : decode b_D_join 14 = .ok (.iload_n 1, 1) := by decide +kernel
theorem d_D_join_15 : decode b_D_join 15 = .ok (.aaload, 1) := by decide +kernel
theorem d_D_join_16 : decode b_D_join 16 = .ok (.astore_n 2, 1) := by decide +kernel
theorem d_D_join_17 : decode b_D_join 17 = .ok (.aload_n 2, 1) := by decide +kernel
theorem d_D_join_18 : decode b_D_join 18 = .ok (.getfield 65, 3) := by decide +kernel
theorem d_D_join_21 : decode b_D_join 21 = .ok (.ifCond .ne 6, 3) := by decide +kernel
theorem d_D_join_24 : decode b_D_join 24 = .ok (.bipush (-13), 2) := by decide +kernel
theorem d_D_join_26 : decode b_D_join 26 = .ok (.ireturn, 1) := by decide +kernel
theorem d_D_join_27 : decode b_D_join 27 = .ok (.aload_n 0, 1) := by decide +kernel
theorem d_D_join_28 : decode b_D_join 28 = .ok (.getfield 16, 3) := by decide +kernel
theorem d_D_join_31 : decode b_D_join 31 = .ok (.invokevirtual 41, 3) := by decide +kernel
theorem d_D_join_34 : decode b_D_join 34 = .ok (.istore_n 3, 1) := by decide +kernel
theorem d_D_join_35 : decode b_D_join 35 = .ok (.aload_n 2, 1) := by decide +kernel
theorem d_D_join_36 : decode b_D_join 36 = .ok (.getfield 93, 3) := by decide +kernel
theorem d_D_join_39 : decode b_D_join 39 = .ok (.invokevirtual 41, 3) := by decide +kernel
theorem d_D_join_42 : decode b_D_join 42 = .ok (.istore 4, 2) := by decide +kernel
theorem d_D_join_44 : decode b_D_join 44 = .ok (.iconst 0, 1) := by decide +kernel
theorem d_D_join_45 : decode b_D_join 45 = .ok (.istore 5, 2) := by decide +kernel
theorem d_D_join_47 : decode b_D_join 47 = .ok (.iload 5, 2) := by decide +kernel
theorem d_D_join_49 : decode b_D_join 49 = .ok (.iload 4, 2) := by decide +kernel
theorem d_D_join_51 : decode b_D_join 51 = .ok (.if_icmp .ge 25, 3) := by decide +kernel
theorem d_D_join_54 : decode b_D_join 54 = .ok (.aload_n 0, 1) := by decide +kernel
theorem d_D_join_55 : decode b_D_join 55 = .ok (.aload_n 2, 1) := by decide +kernel
theorem d_D_join_56 : decode b_D_join 56 = .ok (.getfield 93, 3) := by decide +kernel
theorem d_D_join_59 : decode b_D_join 59 = .ok (.iload 5, 2) := by decide +kernel
theorem d_D_join_61 : decode b_D_join 61 = .ok (.invokevirtual 109, 3) := by decide +kernel
theorem d_D_join_64 : decode b_D_join 64 = .ok (.checkcast 100, 3) := by decide +kernel
theorem d_D_join_67 : decode b_D_join 67 = .ok (.invokevirtual 113, 3) := by decide +kernel
theorem d_D_join_70 : decode b_D_join 70 = .ok (.iinc 5 1, 3) := by decide +kernel
theorem d_D_join_73 : decode b_D_join 73 = .ok (.goto (-26), 3) := by decide +kernel
theorem d_D_join_76 : decode b_D_join 76 = .ok (.aload_n 2, 1) := by decide +kernel
theorem d_D_join_77 : decode b_D_join 77 = .ok (.invokevirtual 116, 3) := by decide +kernel
theorem d_D_join_80 : decode b_D_join 80 = .ok (.aload_n 0, 1) := by decide +kernel
theorem d_D_join_81 : decode b_D_join 81 = .ok (.getfield 16, 3) := by decide +kernel
theorem d_D_join_84 : decode b_D_join 84 = .ok (.invokevirtual 41, 3) := by decide +kernel
theorem d_D_join_87 : decode b_D_join 87 = .ok (.iload_n 3, 1) := by decide +kernel
theorem d_D_join_88 : decode b_D_join 88 = .ok (.if_icmp .ne 8, 3) := by decide +kernel
theorem d_D_join_91 : decode b_D_join 91 = .ok (.iload 4, 2) := by decide +kernel
theorem d_D_join_93 : decode b_D_join 93 = .ok (.goto 6, 3) := by decide +kernel
theorem d_D_join_96 : decode b_D_join 96 = .ok (.iconst (-1), 1) := by decide +kernel
theorem d_D_join_97 : decode b_D_join 97 = .ok (.iload_n 3, 1) := by decide +kernel
theorem d_D_join_98 : decode b_D_join 98 = .ok (.isub, 1) := by decide +kernel
theorem d_D_join_99 : decode b_D_join 99 = .ok (.ireturn, 1) := by decide +kernel
theorem d_D_doForAll_0 : decode b_D_doForAll 0 = .ok (.aload_n 1, 1) := by decide +kernel
theorem d_D_doForAll_1 : decode b_D_doForAll 1 = .ok (.getfield 166, 3) := by decide +kernel
theorem d_D_doForAll_4 : decode b_D_doForAll 4 = .ok (.getfield 73, 3) := by decide +kernel
theorem d_D_doForAll_7 : decode b_D_doForAll 7 = .ok (.astore_n 2, 1) := by decide +kernel
theorem d_D_doForAll_8 : decode b_D_doForAll 8 = .ok (.aload_n 2, 1) := by decide +kernel
theorem d_D_doForAll_9 : decode b_D_doForAll 9 = .ok (.aload_n 1, 1) := by decide +kernel
theorem d_D_doForAll_10 : decode b_D_doForAll 10 = .ok (.getfield 169, 3) := by decide +kernel
theorem d_D_doForAll_13 : decode b_D_doForAll 13 = .ok (.aload_n 1, 1) := by decide +kernel
theorem d_D_doForAll_14 : decode b_D_doForAll 14 = .ok (.getfield 172, 3) := by decide +kernel
theorem d_D_doForAll_17 : decode b_D_doForAll 17 = .ok (.aload_n 1, 1) := by decide +kernel
theorem d_D_doForAll_18 : decode b_D_doForAll 18 = .ok (.getfield 175, 3) := by decide +kernel
theorem d_D_doForAll_21 : decode b_D_doForAll 21 = .ok (.invokevirtual 88, 3) := by decide +kernel
theorem d_D_doForAll_24 : decode b_D_doForAll 24 = .ok (.ifCond .eq 11, 3) := by decide +kernel
theorem d_D_doForAll_27 : decode b_D_doForAll 27 = .ok (.aload_n 2, 1) := by decide +kernel
theorem d_D_doForAll_28 : decode b_D_doForAll 28 = .ok (.aload_n 1, 1) := by decide +kernel
theorem d_D_doForAll_29 : decode b_D_doForAll 29 = .ok (.invokevirtual 105, 3) := by decide +kernel
theorem d_D_doForAll_32 : decode b_D_doForAll 32 = .ok (.goto 46, 3) := by decide +kernel
theorem d_D_doForAll_35 : decode b_D_doForAll 35 = .ok (.aload_n 0, 1) := by decide +kernel
theorem d_D_doForAll_36 : decode b_D_doForAll 36 = .ok (.getfield 16, 3) := by decide +kernel
theorem d_D_doForAll_39 : decode b_D_doForAll 39 = .ok (.invokevirtual 41, 3) := by decide +kernel
theorem d_D_doForAll_42 : decode b_D_doForAll 42 = .ok (.sipush 512, 3) := by decide +kernel
theorem d_D_doForAll_45 : decode b_D_doForAll 45 = .ok (.if_icmp .ge 33, 3) := by decide +kernel
theorem d_D_doForAll_48 : decode b_D_doForAll 48 = .ok (.aload_n 0, 1) := by decide +kernel
theorem d_D_doForAll_49 : decode b_D_doForAll 49 = .ok (.getfield 16, 3) := by decide +kernel
theorem d_D_doForAll_52 : decode b_D_doForAll 52 = .ok (.new 119, 3) := by decide +kernel
theorem d_D_doForAll_55 : decode b_D_doForAll 55 = .ok (.dup, 1) := by decide +kernel
theorem d_D_doForAll_56 : decode b_D_doForAll 56 = .ok (.aload_n 1, 1) := by decide +kernel
theorem d_D_doForAll_57 : decode b_D_doForAll 57 = .ok (.getfield 166, 3) := by decide +kernel
theorem d_D_doForAll_60 : decode b_D_doForAll 60 = .ok (.getfield 178, 3) := by decide +kernel
theorem d_D_doForAll_63 : decode b_D_doForAll 63 = .ok (.aload_n 2, 1) := by decide +kernel
theorem d_D_doForAll_64 : decode b_D_doForAll 64 = .ok (.getfield 181, 3) := by decide +kernel
theorem d_D_doForAll_67 : decode b_D_doForAll 67 = .ok (.aload_n 1, 1) := by decide +kernel
theorem d_D_doForAll_68 : decode b_D_doForAll 68 = .ok (.getfield 172, 3) := by decide +kernel
theorem d_D_doForAll_71 : decode b_D_doForAll 71 = .ok (.invokespecial 182, 3) := by decide +kernel
theorem d_D_doForAll_74 : decode b_D_doForAll 74 = .ok (.invokevirtual 50, 3) := by decide +kernel
theorem d_D_doForAll_77 : decode b_D_doForAll 77 = .ok (.pop, 1) := by decide +kernel
theorem d_D_doForAll_78 : decode b_D_doForAll 78 = .ok (.return_, 1) := by decide +kernel
theorem d_C_init_0 : decode b_C_init 0 = .ok (.aload_n 0, 1) := by decide +kernel
theorem d_C_init_1 : decode b_C_init 1 = .ok (.invokespecial 1, 3) := by decide +kernel
theorem d_C_init_4 : decode b_C_init 4 = .ok (.aload_n 0, 1) := by decide +kernel
theorem d_C_init_5 : decode b_C_init 5 = .ok (.iload_n 1, 1) := by decide +kernel
theorem d_C_init_6 : decode b_C_init 6 = .ok (.putfield 7, 3) := by decide +kernel
theorem d_C_init_9 : decode b_C_init 9 = .ok (.aload_n 0, 1) := by decide +kernel
theorem d_C_init_10 : decode b_C_init 10 = .ok (.iload_n 2, 1) := by decide +kernel
theorem d_C_init_11 : decode b_C_init 11 = .ok (.putfield 13, 3) := by decide +kernel
theorem d_C_init_14 : decode b_C_init 14 = .ok (.aload_n 0, 1) := by decide +kernel
theorem d_C_init_15 : decode b_C_init 15 = .ok (.iload_n 3, 1) := by decide +kernel
theorem d_C_init_16 : decode b_C_init 16 = .ok (.putfield 16, 3) := by decide +kernel
theorem d_C_init_19 : decode b_C_init 19 = .ok (.return_, 1) := by decide +kernel
theorem d_V_goOnLine_0 : decode b_V_goOnLine 0 = .ok (.aload_n 0, 1) := by decide +kernel
theorem d_V_goOnLine_1 : decode b_V_goOnLine 1 = .ok (.iconst 0, 1) := by decide +kernel
theorem d_V_goOnLine_2 : decode b_V_goOnLine 2 = .ok (.putfield 7, 3) := by decide +kernel
theorem d_V_goOnLine_5 : decode b_V_goOnLine 5 = .ok (.aload_n 0, 1) := by decide +kernel
theorem d_V_goOnLine_6 : decode b_V_goOnLine 6 = .ok (.getfield 20, 3) := by decide +kernel
theorem d_V_goOnLine_9 : decode b_V_goOnLine 9 = .ok (.invokevirtual 56, 3) := by decide +kernel
theorem d_V_goOnLine_12 : decode b_V_goOnLine 12 = .ok (.return_, 1) := by decide +kernel
theorem d_D_clash_0 : decode b_D_clash 0 = .ok (.iload_n 2, 1) := by decide +kernel
theorem d_D_clash_1 : decode b_D_clash 1 = .ok (.ifCond .lt 8, 3) := by decide +kernel
theorem d_D_clash_4 : decode b_D_clash 4 = .ok (.iload_n 2, 1) := by decide +kernel
theorem d_D_clash_5 : decode b_D_clash 5 = .ok (.iconst 2, 1) := by decide +kernel
theorem d_D_clash_6 : decode b_D_clash 6 = .ok (.if_icmp .le 6, 3) := by decide +kernel
theorem d_D_clash_9 : decode b_D_clash 9 = .ok (.bipush (-12), 2) := by decide +kernel
theorem d_D_clash_11 : decode b_D_clash 11 = .ok (.ireturn, 1) := by decide +kernel
theorem d_D_clash_12 : decode b_D_clash 12 = .ok (.iload_n 1, 1) := by decide +kernel
theorem d_D_clash_13 : decode b_D_clash 13 = .ok (.ifCond .lt 14, 3) := by decide +kernel
theorem d_D_clash_16 : decode b_D_clash 16 = .ok (.iload_n 1, 1) := by decide +kernel
theorem d_D_clash_17 : decode b_D_clash 17 = .ok (.aload_n 0, 1) := by decide +kernel
theorem d_D_clash_18 : decode b_D_clash 18 = .ok (.getfield 16, 3) := by decide +kernel
theorem d_D_clash_21 : decode b_D_clash 21 = .ok (.invokevirtual 41, 3) := by decide +kernel
theorem d_D_clash_24 : decode b_D_clash 24 = .ok (.if_icmp .lt 5, 3) := by decide +kernel
theorem d_D_clash_27 : decode b_D_clash 27 = .ok (.iconst (-1), 1) := by decide +kernel
theorem d_D_clash_28 : decode b_D_clash 28 = .ok (.ireturn, 1) := by decide +kernel
theorem d_D_clash_29 : decode b_D_clash 29 = .ok (.aload_n 0, 1) := by decide +kernel
theorem d_D_clash_30 : decode b_D_clash 30 = .ok (.getfield 16, 3) := by decide +kernel
theorem d_D_clash_33 : decode b_D_clash 33 = .ok (.iload_n 1, 1) := by decide +kernel
theorem d_D_clash_34 : decode b_D_clash 34 = .ok (.invokevirtual 109, 3) := by decide +kernel
theorem d_D_clash_37 : decode b_D_clash 37 = .ok (.checkcast 119, 3) := by decide +kernel
theorem d_D_clash_40 : decode b_D_clash 40 = .ok (.astore_n 3, 1) := by decide +kernel
theorem d_D_clash_41 : decode b_D_clash 41 = .ok (.iload_n 2, 1) := by decide +kernel
theorem d_D_clash_42 : decode b_D_clash 42 = .ok (.ifCond .ne 8, 3) := by decide +kernel
theorem d_D_clash_45 : decode b_D_clash 45 = .ok (.aload_n 3, 1) := by decide +kernel
theorem d_D_clash_46 : decode b_D_clash 46 = .ok (.getfield 121, 3) := by decide +kernel
theorem d_D_clash_49 : decode b_D_clash 49 = .ok (.ireturn, 1) := by decide +kernel
theorem d_D_clash_50 : decode b_D_clash 50 = .ok (.iload_n 2, 1) := by decide +kernel
theorem d_D_clash_51 : decode b_D_clash 51 = .ok (.iconst 1, 1) := by decide +kernel
theorem d_D_clash_52 : decode b_D_clash 52 = .ok (.if_icmp .ne 10, 3) := by decide +kernel
theorem d_D_clash_55 : decode b_D_clash 55 = .ok (.aload_n 3, 1) := by decide +kernel
theorem d_D_clash_56 : decode b_D_clash 56 = .ok (.getfield 125, 3) := by decide +kernel
theorem d_D_clash_59 : decode b_D_clash 59 = .ok (.goto 7, 3) := by decide +kernel
theorem d_D_clash_62 : decode b_D_clash 62 = .ok (.aload_n 3, 1) := by decide +kernel
theorem d_D_clash_63 : decode b_D_clash 63 = .ok (.getfield 128, 3) := by decide +kernel
theorem d_D_clash_66 : decode b_D_clash 66 = .ok (.ireturn, 1) := by decide +kernel
theorem d_D_cut_0 : decode b_D_cut 0 = .ok (.iload_n 1, 1) := by decide +kernel
theorem d_D_cut_1 : decode b_D_cut 1 = .ok (.invokestatic 62, 3) := by decide +kernel
theorem d_D_cut_4 : decode b_D_cut 4 = .ok (.ifCond .eq 16, 3) := by decide +kernel
theorem d_D_cut_7 : decode b_D_cut 7 = .ok (.aload_n 0, 1) := by decide +kernel
theorem d_D_cut_8 : decode b_D_cut 8 = .ok (.getfield 28, 3) := by decide +kernel
theorem d_D_cut_11 : decode b_D_cut 11 = .ok (.iload_n 1, 1) := by decide +kernel
theorem d_D_cut_12 : decode b_D_cut 12 = .ok (.aaload, 1) := by decide +kernel
theorem d_D_cut_13 : decode b_D_cut 13 = .ok (.getfield 65, 3) := by decide +kernel
theorem d_D_cut_16 : decode b_D_cut 16 = .ok (.iload_n 2, 1) := by decide +kernel
theorem d_D_cut_17 : decode b_D_cut 17 = .ok (.if_icmp .ne 5, 3) := by decide +kernel
theorem d_D_cut_20 : decode b_D_cut 20 = .ok (.iconst 0, 1) := by decide +kernel
theorem d_D_cut_21 : decode b_D_cut 21 = .ok (.ireturn, 1) := by decide +kernel
theorem d_D_cut_22 : decode b_D_cut 22 = .ok (.iload_n 2, 1) := by decide +kernel
theorem d_D_cut_23 : decode b_D_cut 23 = .ok (.ifCond .eq 19, 3) := by decide +kernel
theorem d_D_cut_26 : decode b_D_cut 26 = .ok (.aload_n 0, 1) := by decide +kernel
theorem d_D_cut_27 : decode b_D_cut 27 = .ok (.getfield 28, 3) := by decide +kernel
theorem d_D_cut_30 : decode b_D_cut 30 = .ok (.iload_n 1, 1) := by decide +kernel
theorem d_D_cut_31 : decode b_D_cut 31 = .ok (.aaload, 1) := by decide +kernel
theorem d_D_cut_32 : decode b_D_cut 32 = .ok (.aload_n 0, 1) := by decide +kernel
theorem d_D_cut_33 : decode b_D_cut 33 = .ok (.getfield 12, 3) := by decide +kernel
theorem d_D_cut_36 : decode b_D_cut 36 = .ok (.invokevirtual 131, 3) := by decide +kernel
theorem d_D_cut_39 : decode b_D_cut 39 = .ok (.goto 12, 3) := by decide +kernel
theorem d_D_cut_42 : decode b_D_cut 42 = .ok (.aload_n 0, 1) := by decide +kernel
theorem d_D_cut_43 : decode b_D_cut 43 = .ok (.getfield 28, 3) := by decide +kernel
theorem d_D_cut_46 : decode b_D_cut 46 = .ok (.iload_n 1, 1) := by decide +kernel
theorem d_D_cut_47 : decode b_D_cut 47 = .ok (.aaload, 1) := by decide +kernel
theorem d_D_cut_48 : decode b_D_cut 48 = .ok (.invokevirtual 116, 3) := by decide +kernel
theorem d_D_cut_51 : decode b_D_cut 51 = .ok (.iconst 1, 1) := by decide +kernel
theorem d_D_cut_52 : decode b_D_cut 52 = .ok (.ireturn, 1) := by decide +kernel
theorem d_V_goOffLine_0 : decode b_V_goOffLine 0 = .ok (.aload_n 0, 1) := by decide +kernel
theorem d_V_goOffLine_1 : decode b_V_goOffLine 1 = .ok (.iconst 1, 1) := by decide +kernel
theorem d_V_goOffLine_2 : decode b_V_goOffLine 2 = .ok (.putfield 7, 3) := by decide +kernel
theorem d_V_goOffLine_5 : decode b_V_goOffLine 5 = .ok (.iconst 0, 1) := by decide +kernel
theorem d_V_goOffLine_6 : decode b_V_goOffLine 6 = .ok (.istore_n 2, 1) := by decide +kernel
theorem d_V_goOffLine_7 : decode b_V_goOffLine 7 = .ok (.iload_n 2, 1) := by decide +kernel
theorem d_V_goOffLine_8 : decode b_V_goOffLine 8 = .ok (.aload_n 1, 1) := by decide +kernel
theorem d_V_goOffLine_9 : decode b_V_goOffLine 9 = .ok (.invokevirtual 33, 3) := by decide +kernel
theorem d_V_goOffLine_12 : decode b_V_goOffLine 12 = .ok (.if_icmp .ge 60, 3) := by decide +kernel
theorem d_V_goOffLine_15 : decode b_V_goOffLine 15 = .ok (.iload_n 2, 1) := by decide +kernel
theorem d_V_goOffLine_16 : decode b_V_goOffLine 16 = .ok (.aload_n 0, 1) := by decide +kernel
theorem d_V_goOffLine_17 : decode b_V_goOffLine 17 = .ok (.getfield 24, 3) := by decide +kernel
theorem d_V_goOffLine_20 : decode b_V_goOffLine 20 = .ok (.invokevirtual 33, 3) := by decide +kernel
theorem d_V_goOffLine_23 : decode b_V_goOffLine 23 = .ok (.if_icmp .lt 18, 3) := by decide +kernel
theorem d_V_goOffLine_26 : decode b_V_goOffLine 26 = .ok (.aload_n 0, 1) := by decide +kernel
theorem d_V_goOffLine_27 : decode b_V_goOffLine 27 = .ok (.getfield 24, 3) := by decide +kernel
theorem d_V_goOffLine_30 : decode b_V_goOffLine 30 = .ok (.new 41, 3) := by decide +kernel
theorem d_V_goOffLine_33 : decode b_V_goOffLine 33 = .ok (.dup, 1) := by decide +kernel
theorem d_V_goOffLine_34 : decode b_V_goOffLine 34 = .ok (.invokespecial 43, 3) := by decide +kernel
theorem d_V_goOffLine_37 : decode b_V_goOffLine 37 = .ok (.invokevirtual 44, 3) := by decide +kernel
theorem d_V_goOffLine_40 : decode b_V_goOffLine 40 = .ok (.pop, 1) := by decide +kernel
theorem d_V_goOffLine_41 : decode b_V_goOffLine 41 = .ok (.aload_n 0, 1) := by decide +kernel
theorem d_V_goOffLine_42 : decode b_V_goOffLine 42 = .ok (.getfield 24, 3) := by decide +kernel
theorem d_V_goOffLine_45 : decode b_V_goOffLine 45 = .ok (.iload_n 2, 1) := by decide +kernel
theorem d_V_goOffLine_46 : decode b_V_goOffLine 46 = .ok (.invokevirtual 37, 3) := by decide +kernel
theorem d_V_goOffLine_49 : decode b_V_goOffLine 49 = .ok (.checkcast 41, 3) := by decide +kernel
theorem d_V_goOffLine_52 : decode b_V_goOffLine 52 = .ok (.aload_n 1, 1) := by decide +kernel
theorem d_V_goOffLine_53 : decode b_V_goOffLine 53 = .ok (.iload_n 2, 1) := by decide +kernel
theorem d_V_goOffLine_54 : decode b_V_goOffLine 54 = .ok (.invokevirtual 37, 3) := by decide +kernel
theorem d_V_goOffLine_57 : decode b_V_goOffLine 57 = .ok (.checkcast 28, 3) := by decide +kernel
theorem d_V_goOffLine_60 : decode b_V_goOffLine 60 = .ok (.getfield 48, 3) := by decide +kernel
theorem d_V_goOffLine_63 : decode b_V_goOffLine 63 = .ok (.invokevirtual 52, 3) := by decide +kernel
theorem d_V_goOffLine_66 : decode b_V_goOffLine 66 = .ok (.iinc 2 1, 3) := by decide +kernel
theorem d_V_goOffLine_69 : decode b_V_goOffLine 69 = .ok (.goto (-62), 3) := by decide +kernel
theorem d_V_goOffLine_72 : decode b_V_goOffLine 72 = .ok (.return_, 1) := by decide +kernel
theorem d_F_copyFrom_0 : decode b_F_copyFrom 0 = .ok (.aload_n 0, 1) := by decide +kernel
theorem d_F_copyFrom_1 : decode b_F_copyFrom 1 = .ok (.aload_n 1, 1) := by decide +kernel
theorem d_F_copyFrom_2 : decode b_F_copyFrom 2 = .ok (.getfield 9, 3) := by decide +kernel
theorem d_F_copyFrom_5 : decode b_F_copyFrom 5 = .ok (.putfield 9, 3) := by decide +kernel
theorem d_F_copyFrom_8 : decode b_F_copyFrom 8 = .ok (.aload_n 0, 1) := by decide +kernel
theorem d_F_copyFrom_9 : decode b_F_copyFrom 9 = .ok (.aload_n 1, 1) := by decide +kernel
theorem d_F_copyFrom_10 : decode b_F_copyFrom 10 = .ok (.getfield 15, 3) := by decide +kernel
theorem d_F_copyFrom_13 : decode b_F_copyFrom 13 = .ok (.putfield 15, 3) := by decide +kernel
theorem d_F_copyFrom_16 : decode b_F_copyFrom 16 = .ok (.aload_n 0, 1) := by decide +kernel
theorem d_F_copyFrom_17 : decode b_F_copyFrom 17 = .ok (.aload_n 1, 1) := by decide +kernel
theorem d_F_copyFrom_18 : decode b_F_copyFrom 18 = .ok (.getfield 18, 3) := by decide +kernel
theorem d_F_copyFrom_21 : decode b_F_copyFrom 21 = .ok (.putfield 18, 3) := by decide +kernel
theorem d_F_copyFrom_24 : decode b_F_copyFrom 24 = .ok (.aload_n 0, 1) := by decide +kernel
theorem d_F_copyFrom_25 : decode b_F_copyFrom 25 = .ok (.aload_n 1, 1) := by decide +kernel
theorem d_F_copyFrom_26 : decode b_F_copyFrom 26 = .ok (.getfield 22, 3) := by decide +kernel
theorem d_F_copyFrom_29 : decode b_F_copyFrom 29 = .ok (.putfield 22, 3) := by decide +kernel
theorem d_F_copyFrom_32 : decode b_F_copyFrom 32 = .ok (.aload_n 0, 1) := by decide +kernel
theorem d_F_copyFrom_33 : decode b_F_copyFrom 33 = .ok (.aload_n 1, 1) := by decide +kernel
theorem d_F_copyFrom_34 : decode b_F_copyFrom 34 = .ok (.getfield 25, 3) := by decide +kernel
theorem d_F_copyFrom_37 : decode b_F_copyFrom 37 = .ok (.putfield 25, 3) := by decide +kernel
theorem d_F_copyFrom_40 : decode b_F_copyFrom 40 = .ok (.aload_n 0, 1) := by decide +kernel
theorem d_F_copyFrom_41 : decode b_F_copyFrom 41 = .ok (.aload_n 1, 1) := by decide +kernel
theorem d_F_copyFrom_42 : decode b_F_copyFrom 42 = .ok (.getfield 28, 3) := by decide +kernel
theorem d_F_copyFrom_45 : decode b_F_copyFrom 45 = .ok (.putfield 28, 3) := by decide +kernel
theorem d_F_copyFrom_48 : decode b_F_copyFrom 48 = .ok (.aload_n 0, 1) := by decide +kernel
theorem d_F_copyFrom_49 : decode b_F_copyFrom 49 = .ok (.aload_n 1, 1) := by decide +kernel
theorem d_F_copyFrom_50 : decode b_F_copyFrom 50 = .ok (.getfield 31, 3) := by decide +kernel
theorem d_F_copyFrom_53 : decode b_F_copyFrom 53 = .ok (.putfield 31, 3) := by decide +kernel
theorem d_F_copyFrom_56 : decode b_F_copyFrom 56 = .ok (.aload_n 0, 1) := by decide +kernel
theorem d_F_copyFrom_57 : decode b_F_copyFrom 57 = .ok (.aload_n 1, 1) := by decide +kernel
theorem d_F_copyFrom_58 : decode b_F_copyFrom 58 = .ok (.getfield 34, 3) := by decide +kernel
theorem d_F_copyFrom_61 : decode b_F_copyFrom 61 = .ok (.putfield 34, 3) := by decide +kernel
theorem d_F_copyFrom_64 : decode b_F_copyFrom 64 = .ok (.aload_n 0, 1) := by decide +kernel
theorem d_F_copyFrom_65 : decode b_F_copyFrom 65 = .ok (.aload_n 1, 1) := by decide +kernel
theorem d_F_copyFrom_66 : decode b_F_copyFrom 66 = .ok (.getfield 37, 3) := by decide +kernel
theorem d_F_copyFrom_69 : decode b_F_copyFrom 69 = .ok (.putfield 37, 3) := by decide +kernel
theorem d_F_copyFrom_72 : decode b_F_copyFrom 72 = .ok (.aload_n 0, 1) := by decide +kernel
theorem d_F_copyFrom_73 : decode b_F_copyFrom 73 = .ok (.aload_n 1, 1) := by decide +kernel
theorem d_F_copyFrom_74 : decode b_F_copyFrom 74 = .ok (.getfield 40, 3) := by decide +kernel
theorem d_F_copyFrom_77 : decode b_F_copyFrom 77 = .ok (.putfield 40, 3) := by decide +kernel
theorem d_F_copyFrom_80 : decode b_F_copyFrom 80 = .ok (.aload_n 0, 1) := by decide +kernel
theorem d_F_copyFrom_81 : decode b_F_copyFrom 81 = .ok (.aload_n 1, 1) := by decide +kernel
theorem d_F_copyFrom_82 : decode b_F_copyFrom 82 = .ok (.getfield 43, 3) := by decide +kernel
theorem d_F_copyFrom_85 : decode b_F_copyFrom 85 = .ok (.putfield 43, 3) := by decide +kernel
theorem d_F_copyFrom_88 : decode b_F_copyFrom 88 = .ok (.return_, 1) := by decide +kernel
theorem d_D_tries_0 : decode b_D_tries 0 = .ok (.aload_n 0, 1) := by decide +kernel
theorem d_D_tries_1 : decode b_D_tries 1 = .ok (.iload_n 1, 1) := by decide +kernel
theorem d_D_tries_2 : decode b_D_tries 2 = .ok (.invokevirtual 58, 3) := by decide +kernel
theorem d_D_tries_5 : decode b_D_tries 5 = .ok (.astore_n 2, 1) := by decide +kernel
theorem d_D_tries_6 : decode b_D_tries 6 = .ok (.aload_n 2, 1) := by decide +kernel
theorem d_D_tries_7 : decode b_D_tries 7 = .ok (.ifnonnull 8, 3) := by decide +kernel
theorem d_D_tries_10 : decode b_D_tries 10 = .ok (.bipush (-11), 2) := by decide +kernel
theorem d_D_tries_12 : decode b_D_tries 12 = .ok (.goto 10, 3) := by decide +kernel
theorem d_D_tries_15 : decode b_D_tries 15 = .ok (.aload_n 2, 1) := by decide +kernel
theorem d_D_tries_16 : decode b_D_tries 16 = .ok (.getfield 73, 3) := by decide +kernel
theorem d_D_tries_19 : decode b_D_tries 19 = .ok (.getfield 135, 3) := by decide +kernel
theorem d_D_tries_22 : decode b_D_tries 22 = .ok (.ireturn, 1) := by decide +kernel
theorem d_D_tick_0 : decode b_D_tick 0 = .ok (.lload_n 1, 1) := by decide +kernel
theorem d_D_tick_1 : decode b_D_tick 1 = .ok (.aload_n 0, 1) := by decide +kernel
theorem d_D_tick_2 : decode b_D_tick 2 = .ok (.getfield 32, 3) := by decide +kernel
theorem d_D_tick_5 : decode b_D_tick 5 = .ok (.lcmp, 1) := by decide +kernel
theorem d_D_tick_6 : decode b_D_tick 6 = .ok (.ifCond .lt 11, 3) := by decide +kernel
theorem d_D_tick_9 : decode b_D_tick 9 = .ok (.lload_n 1, 1) := by decide +kernel
theorem d_D_tick_10 : decode b_D_tick 10 = .ok (.ldc2_w 138, 3) := by decide +kernel
theorem d_D_tick_13 : decode b_D_tick 13 = .ok (.lcmp, 1) := by decide +kernel
theorem d_D_tick_14 : decode b_D_tick 14 = .ok (.ifCond .le 6, 3) := by decide +kernel
theorem d_D_tick_17 : decode b_D_tick 17 = .ok (.bipush (-12), 2) := by decide +kernel
theorem d_D_tick_19 : decode b_D_tick 19 = .ok (.ireturn, 1) := by decide +kernel
theorem d_D_tick_20 : decode b_D_tick 20 = .ok (.aload_n 0, 1) := by decide +kernel
theorem d_D_tick_21 : decode b_D_tick 21 = .ok (.lload_n 1, 1) := by decide +kernel
theorem d_D_tick_22 : decode b_D_tick 22 = .ok (.putfield 32, 3) := by decide +kernel
theorem d_D_tick_25 : decode b_D_tick 25 = .ok (.iconst 0, 1) := by decide +kernel
theorem d_D_tick_26 : decode b_D_tick 26 = .ok (.istore_n 3, 1) := by decide +kernel
theorem d_D_tick_27 : decode b_D_tick 27 = .ok (.iconst 0, 1) := by decide +kernel
theorem d_D_tick_28 : decode b_D_tick 28 = .ok (.istore 4, 2) := by decide +kernel
theorem d_D_tick_30 : decode b_D_tick 30 = .ok (.iload 4, 2) := by decide +kernel
theorem d_D_tick_32 : decode b_D_tick 32 = .ok (.aload_n 0, 1) := by decide +kernel
theorem d_D_tick_33 : decode b_D_tick 33 = .ok (.getfield 12, 3) := by decide +kernel
theorem d_D_tick_36 : decode b_D_tick 36 = .ok (.invokevirtual 41, 3) := by decide +kernel
theorem d_D_tick_39 : decode b_D_tick 39 = .ok (.if_icmp .ge 34, 3) := by decide +kernel
theorem d_D_tick_42 : decode b_D_tick 42 = .ok (.aload_n 0, 1) := by decide +kernel
theorem d_D_tick_43 : decode b_D_tick 43 = .ok (.getfield 12, 3) := by decide +kernel
theorem d_D_tick_46 : decode b_D_tick 46 = .ok (.iload 4, 2) := by decide +kernel
theorem d_D_tick_48 : decode b_D_tick 48 = .ok (.invokevirtual 109, 3) := by decide +kernel
theorem d_D_tick_51 : decode b_D_tick 51 = .ok (.checkcast 45, 3) := by decide +kernel
theorem d_D_tick_54 : decode b_D_tick 54 = .ok (.getfield 73, 3) := by decide +kernel
theorem d_D_tick_57 : decode b_D_tick 57 = .ok (.lload_n 1, 1) := by decide +kernel
theorem d_D_tick_58 : decode b_D_tick 58 = .ok (.invokevirtual 140, 3) := by decide +kernel
theorem d_D_tick_61 : decode b_D_tick 61 = .ok (.ifCond .eq 6, 3) := by decide +kernel
theorem d_D_tick_64 : decode b_D_tick 64 = .ok (.iinc 3 1, 3) := by decide +kernel
theorem d_D_tick_67 : decode b_D_tick 67 = .ok (.iinc 4 1, 3) := by decide +kernel
theorem d_D_tick_70 : decode b_D_tick 70 = .ok (.goto (-40), 3) := by decide +kernel
theorem d_D_tick_73 : decode b_D_tick 73 = .ok (.iload_n 3, 1) := by decide +kernel
theorem d_D_tick_74 : decode b_D_tick 74 = .ok (.ireturn, 1) := by decide +kernel
theorem d_F_goBackBy_0 : decode b_F_goBackBy 0 = .ok (.aload_n 0, 1) := by decide +kernel
theorem d_F_goBackBy_1 : decode b_F_goBackBy 1 = .ok (.getfield 9, 3) := by decide +kernel
theorem d_F_goBackBy_4 : decode b_F_goBackBy 4 = .ok (.iconst 2, 1) := by decide +kernel
theorem d_F_goBackBy_5 : decode b_F_goBackBy 5 = .ok (.if_icmp .ne 13, 3) := by decide +kernel
theorem d_F_goBackBy_8 : decode b_F_goBackBy 8 = .ok (.aload_n 0, 1) := by decide +kernel
theorem d_F_goBackBy_9 : decode b_F_goBackBy 9 = .ok (.getfield 28, 3) := by decide +kernel
theorem d_F_goBackBy_12 : decode b_F_goBackBy 12 = .ok (.i2l, 1) := by decide +kernel
theorem d_F_goBackBy_13 : decode b_F_goBackBy 13 = .ok (.lload_n 1, 1) := by decide +kernel
theorem d_F_goBackBy_14 : decode b_F_goBackBy 14 = .ok (.lcmp, 1) := by decide +kernel
theorem d_F_goBackBy_15 : decode b_F_goBackBy 15 = .ok (.ifCond .lt 5, 3) := by decide +kernel
theorem d_F_goBackBy_18 : decode b_F_goBackBy 18 = .ok (.iconst 0, 1) := by decide +kernel
theorem d_F_goBackBy_19 : decode b_F_goBackBy 19 = .ok (.ireturn, 1) := by decide +kernel
theorem d_F_goBackBy_20 : decode b_F_goBackBy 20 = .ok (.aload_n 0, 1) := by decide +kernel
theorem d_F_goBackBy_21 : decode b_F_goBackBy 21 = .ok (.bipush 8, 2) := by decide +kernel
theorem d_F_goBackBy_23 : decode b_F_goBackBy 23 = .ok (.putfield 9, 3) := by decide +kernel
theorem d_F_goBackBy_26 : decode b_F_goBackBy 26 = .ok (.aload_n 0, 1) := by decide +kernel
theorem d_F_goBackBy_27 : decode b_F_goBackBy 27 = .ok (.iconst (-1), 1) := by decide +kernel
theorem d_F_goBackBy_28 : decode b_F_goBackBy 28 = .ok (.putfield 43, 3) := by decide +kernel
theorem d_F_goBackBy_31 : decode b_F_goBackBy 31 = .ok (.iconst 1, 1) := by decide +kernel
theorem d_F_goBackBy_32 : decode b_F_goBackBy 32 = .ok (.ireturn, 1) := by decide +kernel
theorem d_D_slip_0 : decode b_D_slip 0 = .ok (.aload_n 0, 1) := by decide +kernel
theorem d_D_slip_1 : decode b_D_slip 1 = .ok (.iload_n 1, 1) := by decide +kernel
theorem d_D_slip_2 : decode b_D_slip 2 = .ok (.invokevirtual 58, 3) := by decide +kernel
theorem d_D_slip_5 : decode b_D_slip 5 = .ok (.astore_n 3, 1) := by decide +kernel
theorem d_D_slip_6 : decode b_D_slip 6 = .ok (.aload_n 3, 1) := by decide +kernel
theorem d_D_slip_7 : decode b_D_slip 7 = .ok (.ifnonnull 6, 3) := by decide +kernel
theorem d_D_slip_10 : decode b_D_slip 10 = .ok (.bipush (-11), 2) := by decide +kernel
theorem d_D_slip_12 : decode b_D_slip 12 = .ok (.ireturn, 1) := by decide +kernel
theorem d_D_slip_13 : decode b_D_slip 13 = .ok (.iload_n 2, 1) := by decide +kernel
theorem d_D_slip_14 : decode b_D_slip 14 = .ok (.iconst (-1), 1) := by decide +kernel
theorem d_D_slip_15 : decode b_D_slip 15 = .ok (.if_icmp .eq 13, 3) := by decide +kernel
theorem d_D_slip_18 : decode b_D_slip 18 = .ok (.iload_n 2, 1) := by decide +kernel
theorem d_D_slip_19 : decode b_D_slip 19 = .ok (.invokestatic 37, 3) := by decide +kernel
theorem d_D_slip_22 : decode b_D_slip 22 = .ok (.ifCond .ne 6, 3) := by decide +kernel
theorem d_D_slip_25 : decode b_D_slip 25 = .ok (.bipush (-12), 2) := by decide +kernel
theorem d_D_slip_27 : decode b_D_slip 27 = .ok (.ireturn, 1) := by decide +kernel
theorem d_D_slip_28 : decode b_D_slip 28 = .ok (.aload_n 3, 1) := by decide +kernel
theorem d_D_slip_29 : decode b_D_slip 29 = .ok (.getfield 73, 3) := by decide +kernel
theorem d_D_slip_32 : decode b_D_slip 32 = .ok (.astore 4, 2) := by decide +kernel
theorem d_D_slip_34 : decode b_D_slip 34 = .ok (.iload_n 2, 1) := by decide +kernel
theorem d_D_slip_35 : decode b_D_slip 35 = .ok (.iconst (-1), 1) := by decide +kernel
theorem d_D_slip_36 : decode b_D_slip 36 = .ok (.if_icmp .ne 7, 3) := by decide +kernel
theorem d_D_slip_39 : decode b_D_slip 39 = .ok (.iconst 1, 1) := by decide +kernel
theorem d_D_slip_40 : decode b_D_slip 40 = .ok (.goto 4, 3) := by decide +kernel
theorem d_D_slip_43 : decode b_D_slip 43 = .ok (.iconst 0, 1) := by decide +kernel
theorem d_D_slip_44 : decode b_D_slip 44 = .ok (.istore 5, 2) := by decide +kernel
theorem d_D_slip_46 : decode b_D_slip 46 = .ok (.aload_n 3, 1) := by decide +kernel
theorem d_D_slip_47 : decode b_D_slip 47 = .ok (.getfield 144, 3) := by decide +kernel
theorem d_D_slip_50 : decode b_D_slip 50 = .ok (.iconst 4, 1) := by decide +kernel
theorem d_D_slip_51 : decode b_D_slip 51 = .ok (.if_icmp .ne 21, 3) := by decide +kernel
theorem d_D_slip_54 : decode b_D_slip 54 = .ok (.aload 4, 2) := by decide +kernel
theorem d_D_slip_56 : decode b_D_slip 56 = .ok (.invokevirtual 147, 3) := by decide +kernel
theorem d_D_slip_59 : decode b_D_slip 59 = .ok (.ifCond .eq 13, 3) := by decide +kernel
theorem d_D_slip_62 : decode b_D_slip 62 = .ok (.aload 4, 2) := by decide +kernel
theorem d_D_slip_64 : decode b_D_slip 64 = .ok (.getfield 151, 3) := by decide +kernel
theorem d_D_slip_67 : decode b_D_slip 67 = .ok (.iload 5, 2) := by decide +kernel
theorem d_D_slip_69 : decode b_D_slip 69 = .ok (.if_icmp .eq 6, 3) := by decide +kernel
theorem d_D_slip_72 : decode b_D_slip 72 = .ok (.bipush (-13), 2) := by decide +kernel
theorem d_D_slip_74 : decode b_D_slip 74 = .ok (.ireturn, 1) := by decide +kernel
theorem d_D_slip_75 : decode b_D_slip 75 = .ok (.iload_n 2, 1) := by decide +kernel
theorem d_D_slip_76 : decode b_D_slip 76 = .ok (.iconst (-1), 1) := by decide +kernel
theorem d_D_slip_77 : decode b_D_slip 77 = .ok (.if_icmp .eq 15, 3) := by decide +kernel
theorem d_D_slip_80 : decode b_D_slip 80 = .ok (.iload_n 2, 1) := by decide +kernel
theorem d_D_slip_81 : decode b_D_slip 81 = .ok (.aload 4, 2) := by decide +kernel
theorem d_D_slip_83 : decode b_D_slip 83 = .ok (.getfield 154, 3) := by decide +kernel
theorem d_D_slip_86 : decode b_D_slip 86 = .ok (.if_icmp .eq 6, 3) := by decide +kernel
theorem d_D_slip_89 : decode b_D_slip 89 = .ok (.bipush (-21), 2) := by decide +kernel
theorem d_D_slip_91 : decode b_D_slip 91 = .ok (.ireturn, 1) := by decide +kernel
theorem d_D_slip_92 : decode b_D_slip 92 = .ok (.aload 4, 2) := by decide +kernel
theorem d_D_slip_94 : decode b_D_slip 94 = .ok (.iload_n 2, 1) := by decide +kernel
theorem d_D_slip_95 : decode b_D_slip 95 = .ok (.iconst (-1), 1) := by decide +kernel
theorem d_D_slip_96 : decode b_D_slip 96 = .ok (.if_icmp .ne 7, 3) := by decide +kernel
theorem d_D_slip_99 : decode b_D_slip 99 = .ok (.iconst 2, 1) := by decide +kernel
theorem d_D_slip_100 : decode b_D_slip 100 = .ok (.goto 4, 3) := by decide +kernel
theorem d_D_slip_103 : decode b_D_slip 103 = .ok (.iconst 1, 1) := by decide +kernel
theorem d_D_slip_104 : decode b_D_slip 104 = .ok (.putfield 151, 3) := by decide +kernel
theorem d_D_slip_107 : decode b_D_slip 107 = .ok (.aload 4, 2) := by decide +kernel
theorem d_D_slip_109 : decode b_D_slip 109 = .ok (.getfield 151, 3) := by decide +kernel
theorem d_D_slip_112 : decode b_D_slip 112 = .ok (.ireturn, 1) := by decide +kernel
theorem d_D_cash_0 : decode b_D_cash 0 = .ok (.aload_n 0, 1) := by decide +kernel
theorem d_D_cash_1 : decode b_D_cash 1 = .ok (.iload_n 1, 1) := by decide +kernel
theorem d_D_cash_2 : decode b_D_cash 2 = .ok (.invokevirtual 58, 3) := by decide +kernel
theorem d_D_cash_5 : decode b_D_cash 5 = .ok (.astore 4, 2) := by decide +kernel
theorem d_D_cash_7 : decode b_D_cash 7 = .ok (.aload 4, 2) := by decide +kernel
theorem d_D_cash_9 : decode b_D_cash 9 = .ok (.ifnonnull 6, 3) := by decide +kernel
theorem d_D_cash_12 : decode b_D_cash 12 = .ok (.bipush (-11), 2) := by decide +kernel
theorem d_D_cash_14 : decode b_D_cash 14 = .ok (.ireturn, 1) := by decide +kernel
theorem d_D_cash_15 : decode b_D_cash 15 = .ok (.lload_n 2, 1) := by decide +kernel
theorem d_D_cash_16 : decode b_D_cash 16 = .ok (.lconst 1, 1) := by decide +kernel
theorem d_D_cash_17 : decode b_D_cash 17 = .ok (.lcmp, 1) := by decide +kernel
theorem d_D_cash_18 : decode b_D_cash 18 = .ok (.ifCond .lt 11, 3) := by decide +kernel
theorem d_D_cash_21 : decode b_D_cash 21 = .ok (.lload_n 2, 1) := by decide +kernel
theorem d_D_cash_22 : decode b_D_cash 22 = .ok (.ldc2_w 138, 3) := by decide +kernel
theorem d_D_cash_25 : decode b_D_cash 25 = .ok (.lcmp, 1) := by decide +kernel
theorem d_D_cash_26 : decode b_D_cash 26 = .ok (.ifCond .le 6, 3) := by decide +kernel
theorem d_D_cash_29 : decode b_D_cash 29 = .ok (.bipush (-12), 2) := by decide +kernel
theorem d_D_cash_31 : decode b_D_cash 31 = .ok (.ireturn, 1) := by decide +kernel
theorem d_D_cash_32 : decode b_D_cash 32 = .ok (.aload 4, 2) := by decide +kernel
theorem d_D_cash_34 : decode b_D_cash 34 = .ok (.getfield 144, 3) := by decide +kernel
theorem d_D_cash_37 : decode b_D_cash 37 = .ok (.iconst 5, 1) := by decide +kernel
theorem d_D_cash_38 : decode b_D_cash 38 = .ok (.if_icmp .ne 26, 3) := by decide +kernel
theorem d_D_cash_41 : decode b_D_cash 41 = .ok (.aload 4, 2) := by decide +kernel
theorem d_D_cash_43 : decode b_D_cash 43 = .ok (.getfield 73, 3) := by decide +kernel
theorem d_D_cash_46 : decode b_D_cash 46 = .ok (.getfield 157, 3) := by decide +kernel
theorem d_D_cash_49 : decode b_D_cash 49 = .ok (.iconst 2, 1) := by decide +kernel
theorem d_D_cash_50 : decode b_D_cash 50 = .ok (.if_icmp .gt 14, 3) := by decide +kernel
theorem d_D_cash_53 : decode b_D_cash 53 = .ok (.lload_n 2, 1) := by decide +kernel
theorem d_D_cash_54 : decode b_D_cash 54 = .ok (.aload 4, 2) := by decide +kernel
theorem d_D_cash_56 : decode b_D_cash 56 = .ok (.getfield 160, 3) := by decide +kernel
theorem d_D_cash_59 : decode b_D_cash 59 = .ok (.i2l, 1) := by decide +kernel
theorem d_D_cash_60 : decode b_D_cash 60 = .ok (.lcmp, 1) := by decide +kernel
theorem d_D_cash_61 : decode b_D_cash 61 = .ok (.ifCond .le 6, 3) := by decide +kernel
theorem d_D_cash_64 : decode b_D_cash 64 = .ok (.bipush (-13), 2) := by decide +kernel
theorem d_D_cash_66 : decode b_D_cash 66 = .ok (.ireturn, 1) := by decide +kernel
theorem d_D_cash_67 : decode b_D_cash 67 = .ok (.aload 4, 2) := by decide +kernel
theorem d_D_cash_69 : decode b_D_cash 69 = .ok (.dup, 1) := by decide +kernel
theorem d_D_cash_70 : decode b_D_cash 70 = .ok (.getfield 160, 3) := by decide +kernel
theorem d_D_cash_73 : decode b_D_cash 73 = .ok (.lload_n 2, 1) := by decide +kernel
theorem d_D_cash_74 : decode b_D_cash 74 = .ok (.l2i, 1) := by decide +kernel
theorem d_D_cash_75 : decode b_D_cash 75 = .ok (.isub, 1) := by decide +kernel
theorem d_D_cash_76 : decode b_D_cash 76 = .ok (.putfield 160, 3) := by decide +kernel
theorem d_D_cash_79 : decode b_D_cash 79 = .ok (.aload 4, 2) := by decide +kernel
theorem d_D_cash_81 : decode b_D_cash 81 = .ok (.getfield 160, 3) := by decide +kernel
theorem d_D_cash_84 : decode b_D_cash 84 = .ok (.ireturn, 1) := by decide +kernel
theorem d_D_state_0 : decode b_D_state 0 = .ok (.aload_n 0, 1) := by decide +kernel
theorem d_D_state_1 : decode b_D_state 1 = .ok (.iload_n 1, 1) := by decide +kernel
theorem d_D_state_2 : decode b_D_state 2 = .ok (.invokevirtual 58, 3) := by decide +kernel
theorem d_D_state_5 : decode b_D_state 5 = .ok (.astore_n 2, 1) := by decide +kernel
theorem d_D_state_6 : decode b_D_state 6 = .ok (.aload_n 2, 1) := by decide +kernel
theorem d_D_state_7 : decode b_D_state 7 = .ok (.ifnonnull 6, 3) := by decide +kernel
theorem d_D_state_10 : decode b_D_state 10 = .ok (.bipush (-11), 2) := by decide +kernel
theorem d_D_state_12 : decode b_D_state 12 = .ok (.ireturn, 1) := by decide +kernel
theorem d_D_state_13 : decode b_D_state 13 = .ok (.aload_n 2, 1) := by decide +kernel
theorem d_D_state_14 : decode b_D_state 14 = .ok (.getfield 73, 3) := by decide +kernel
theorem d_D_state_17 : decode b_D_state 17 = .ok (.getfield 163, 3) := by decide +kernel
theorem d_D_state_20 : decode b_D_state 20 = .ok (.ifCond .eq 16, 3) := by decide +kernel
theorem d_D_state_23 : decode b_D_state 23 = .ok (.aload_n 2, 1) := by decide +kernel
theorem d_D_state_24 : decode b_D_state 24 = .ok (.getfield 73, 3) := by decide +kernel
theorem d_D_state_27 : decode b_D_state 27 = .ok (.getfield 157, 3) := by decide +kernel
theorem d_D_state_30 : decode b_D_state 30 = .ok (.bipush 10, 2) := by decide +kernel
theorem d_D_state_32 : decode b_D_state 32 = .ok (.iadd, 1) := by decide +kernel
theorem d_D_state_33 : decode b_D_state 33 = .ok (.goto 10, 3) := by decide +kernel
theorem d_D_state_36 : decode b_D_state 36 = .ok (.aload_n 2, 1) := by decide +kernel
theorem d_D_state_37 : decode b_D_state 37 = .ok (.getfield 73, 3) := by decide +kernel
theorem d_D_state_40 : decode b_D_state 40 = .ok (.getfield 157, 3) := by decide +kernel
theorem d_D_state_43 : decode b_D_state 43 = .ok (.ireturn, 1) := by decide +kernel
