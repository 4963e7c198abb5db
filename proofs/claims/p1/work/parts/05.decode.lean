theorem d_Ac_init_0 : decode b_Ac_init 0 = .ok (.aload_n 0, 1) := by decide +kernel
theorem d_Ac_init_1 : decode b_Ac_init 1 = .ok (.invokespecial 1, 3) := by decide +kernel
theorem d_Ac_init_4 : decode b_Ac_init 4 = .ok (.return_, 1) := by decide +kernel
theorem d_Ab_init_0 : decode b_Ab_init 0 = .ok (.aload_n 0, 1) := by decide +kernel
theorem d_Ab_init_1 : decode b_Ab_init 1 = .ok (.invokespecial 1, 3) := by decide +kernel
theorem d_Ab_init_4 : decode b_Ab_init 4 = .ok (.aload_n 0, 1) := by decide +kernel
theorem d_Ab_init_5 : decode b_Ab_init 5 = .ok (.iconst 0, 1) := by decide +kernel
theorem d_Ab_init_6 : decode b_Ab_init 6 = .ok (.putfield 7, 3) := by decide +kernel
theorem d_Ab_init_9 : decode b_Ab_init 9 = .ok (.return_, 1) := by decide +kernel
theorem d_Al_init_0 : decode b_Al_init 0 = .ok (.aload_n 0, 1) := by decide +kernel
theorem d_Al_init_1 : decode b_Al_init 1 = .ok (.invokespecial 1, 3) := by decide +kernel
theorem d_Al_init_4 : decode b_Al_init 4 = .ok (.aload_n 0, 1) := by decide +kernel
theorem d_Al_init_5 : decode b_Al_init 5 = .ok (.getstatic 39, 3) := by decide +kernel
theorem d_Al_init_8 : decode b_Al_init 8 = .ok (.putfield 9, 3) := by decide +kernel
theorem d_Al_init_11 : decode b_Al_init 11 = .ok (.return_, 1) := by decide +kernel
theorem d_As_init_0 : decode b_As_init 0 = .ok (.aload_n 0, 1) := by decide +kernel
theorem d_As_init_1 : decode b_As_init 1 = .ok (.invokespecial 3, 3) := by decide +kernel
theorem d_As_init_4 : decode b_As_init 4 = .ok (.getstatic 18, 3) := by decide +kernel
theorem d_As_init_7 : decode b_As_init 7 = .ok (.ifCond .eq 18, 3) := by decide +kernel
theorem d_As_init_10 : decode b_As_init 10 = .ok (.aload_n 0, 1) := by decide +kernel
theorem d_As_init_11 : decode b_As_init 11 = .ok (.iload_n 1, 1) := by decide +kernel
theorem d_As_init_12 : decode b_As_init 12 = .ok (.newarray .byte, 2) := by decide +kernel
theorem d_As_init_14 : decode b_As_init 14 = .ok (.putfield 15, 3) := by decide +kernel
theorem d_As_init_17 : decode b_As_init 17 = .ok (.aload_n 0, 1) := by decide +kernel
theorem d_As_init_18 : decode b_As_init 18 = .ok (.iconst 0, 1) := by decide +kernel
theorem d_As_init_19 : decode b_As_init 19 = .ok (.putfield 22, 3) := by decide +kernel
theorem d_As_init_22 : decode b_As_init 22 = .ok (.goto 16, 3) := by decide +kernel
theorem d_As_init_38 : decode b_As_init 38 = .ok (.return_, 1) := by decide +kernel
theorem d_Sb_init_0 : decode b_Sb_init 0 = .ok (.aload_n 0, 1) := by decide +kernel
theorem d_Sb_init_1 : decode b_Sb_init 1 = .ok (.bipush 16, 2) := by decide +kernel
theorem d_Sb_init_3 : decode b_Sb_init 3 = .ok (.invokespecial 1, 3) := by decide +kernel
theorem d_Sb_init_6 : decode b_Sb_init 6 = .ok (.return_, 1) := by decide +kernel
theorem d_Fa_init_0 : decode b_Fa_init 0 = .ok (.aload_n 0, 1) := by decide +kernel
theorem d_Fa_init_1 : decode b_Fa_init 1 = .ok (.invokespecial 3, 3) := by decide +kernel
theorem d_Fa_init_4 : decode b_Fa_init 4 = .ok (.aload_n 0, 1) := by decide +kernel
theorem d_Fa_init_5 : decode b_Fa_init 5 = .ok (.bipush 30, 2) := by decide +kernel
theorem d_Fa_init_7 : decode b_Fa_init 7 = .ok (.newarray .int, 2) := by decide +kernel
theorem d_Fa_init_9 : decode b_Fa_init 9 = .ok (.putfield 9, 3) := by decide +kernel
theorem d_Fa_init_12 : decode b_Fa_init 12 = .ok (.aload_n 0, 1) := by decide +kernel
theorem d_Fa_init_13 : decode b_Fa_init 13 = .ok (.bipush 30, 2) := by decide +kernel
theorem d_Fa_init_15 : decode b_Fa_init 15 = .ok (.newarray .int, 2) := by decide +kernel
theorem d_Fa_init_17 : decode b_Fa_init 17 = .ok (.putfield 15, 3) := by decide +kernel
theorem d_Fa_init_20 : decode b_Fa_init 20 = .ok (.aload_n 0, 1) := by decide +kernel
theorem d_Fa_init_21 : decode b_Fa_init 21 = .ok (.bipush 30, 2) := by decide +kernel
theorem d_Fa_init_23 : decode b_Fa_init 23 = .ok (.newarray .int, 2) := by decide +kernel
theorem d_Fa_init_25 : decode b_Fa_init 25 = .ok (.putfield 18, 3) := by decide +kernel
theorem d_Fa_init_28 : decode b_Fa_init 28 = .ok (.aload_n 0, 1) := by decide +kernel
theorem d_Fa_init_29 : decode b_Fa_init 29 = .ok (.bipush 30, 2) := by decide +kernel
theorem d_Fa_init_31 : decode b_Fa_init 31 = .ok (.newarray .int, 2) := by decide +kernel
theorem d_Fa_init_33 : decode b_Fa_init 33 = .ok (.putfield 21, 3) := by decide +kernel
theorem d_Fa_init_36 : decode b_Fa_init 36 = .ok (.return_, 1) := by decide +kernel
theorem d_Ro_init_0 : decode b_Ro_init 0 = .ok (.aload_n 0, 1) := by decide +kernel
theorem d_Ro_init_1 : decode b_Ro_init 1 = .ok (.invokespecial 3, 3) := by decide +kernel
theorem d_Ro_init_4 : decode b_Ro_init 4 = .ok (.aload_n 0, 1) := by decide +kernel
theorem d_Ro_init_5 : decode b_Ro_init 5 = .ok (.bipush 8, 2) := by decide +kernel
theorem d_Ro_init_7 : decode b_Ro_init 7 = .ok (.newarray .long, 2) := by decide +kernel
theorem d_Ro_init_9 : decode b_Ro_init 9 = .ok (.putfield 9, 3) := by decide +kernel
theorem d_Ro_init_12 : decode b_Ro_init 12 = .ok (.aload_n 0, 1) := by decide +kernel
theorem d_Ro_init_13 : decode b_Ro_init 13 = .ok (.bipush 8, 2) := by decide +kernel
theorem d_Ro_init_15 : decode b_Ro_init 15 = .ok (.newarray .int, 2) := by decide +kernel
theorem d_Ro_init_17 : decode b_Ro_init 17 = .ok (.putfield 15, 3) := by decide +kernel
theorem d_Ro_init_20 : decode b_Ro_init 20 = .ok (.aload_n 0, 1) := by decide +kernel
theorem d_Ro_init_21 : decode b_Ro_init 21 = .ok (.sipush 240, 3) := by decide +kernel
theorem d_Ro_init_24 : decode b_Ro_init 24 = .ok (.newarray .byte, 2) := by decide +kernel
theorem d_Ro_init_26 : decode b_Ro_init 26 = .ok (.putfield 19, 3) := by decide +kernel
theorem d_Ro_init_29 : decode b_Ro_init 29 = .ok (.return_, 1) := by decide +kernel
theorem d_Li_init_0 : decode b_Li_init 0 = .ok (.aload_n 0, 1) := by decide +kernel
theorem d_Li_init_1 : decode b_Li_init 1 = .ok (.invokespecial 3, 3) := by decide +kernel
theorem d_Li_init_4 : decode b_Li_init 4 = .ok (.aload_n 0, 1) := by decide +kernel
theorem d_Li_init_5 : decode b_Li_init 5 = .ok (.bipush 100, 2) := by decide +kernel
theorem d_Li_init_7 : decode b_Li_init 7 = .ok (.newarray .int, 2) := by decide +kernel
theorem d_Li_init_9 : decode b_Li_init 9 = .ok (.putfield 9, 3) := by decide +kernel
theorem d_Li_init_12 : decode b_Li_init 12 = .ok (.aload_n 0, 1) := by decide +kernel
theorem d_Li_init_13 : decode b_Li_init 13 = .ok (.bipush 100, 2) := by decide +kernel
theorem d_Li_init_15 : decode b_Li_init 15 = .ok (.newarray .int, 2) := by decide +kernel
theorem d_Li_init_17 : decode b_Li_init 17 = .ok (.putfield 15, 3) := by decide +kernel
theorem d_Li_init_20 : decode b_Li_init 20 = .ok (.aload_n 0, 1) := by decide +kernel
theorem d_Li_init_21 : decode b_Li_init 21 = .ok (.bipush 100, 2) := by decide +kernel
theorem d_Li_init_23 : decode b_Li_init 23 = .ok (.newarray .int, 2) := by decide +kernel
theorem d_Li_init_25 : decode b_Li_init 25 = .ok (.putfield 18, 3) := by decide +kernel
theorem d_Li_init_28 : decode b_Li_init 28 = .ok (.aload_n 0, 1) := by decide +kernel
theorem d_Li_init_29 : decode b_Li_init 29 = .ok (.bipush 100, 2) := by decide +kernel
theorem d_Li_init_31 : decode b_Li_init 31 = .ok (.newarray .int, 2) := by decide +kernel
theorem d_Li_init_33 : decode b_Li_init 33 = .ok (.putfield 21, 3) := by decide +kernel
theorem d_Li_init_36 : decode b_Li_init 36 = .ok (.aload_n 0, 1) := by decide +kernel
theorem d_Li_init_37 : decode b_Li_init 37 = .ok (.bipush 100, 2) := by decide +kernel
theorem d_Li_init_39 : decode b_Li_init 39 = .ok (.newarray .int, 2) := by decide +kernel
theorem d_Li_init_41 : decode b_Li_init 41 = .ok (.putfield 24, 3) := by decide +kernel
theorem d_Li_init_44 : decode b_Li_init 44 = .ok (.aload_n 0, 1) := by decide +kernel
theorem d_Li_init_45 : decode b_Li_init 45 = .ok (.bipush 100, 2) := by decide +kernel
theorem d_Li_init_47 : decode b_Li_init 47 = .ok (.newarray .int, 2) := by decide +kernel
theorem d_Li_init_49 : decode b_Li_init 49 = .ok (.putfield 27, 3) := by decide +kernel
theorem d_Li_init_52 : decode b_Li_init 52 = .ok (.aload_n 0, 1) := by decide +kernel
theorem d_Li_init_53 : decode b_Li_init 53 = .ok (.new 30, 3) := by decide +kernel
theorem d_Li_init_56 : decode b_Li_init 56 = .ok (.dup, 1) := by decide +kernel
theorem d_Li_init_57 : decode b_Li_init 57 = .ok (.invokespecial 32, 3) := by decide +kernel
theorem d_Li_init_60 : decode b_Li_init 60 = .ok (.putfield 33, 3) := by decide +kernel
theorem d_Li_init_63 : decode b_Li_init 63 = .ok (.return_, 1) := by decide +kernel
theorem d_Ex_init_0 : decode b_Ex_init 0 = .ok (.aload_n 0, 1) := by decide +kernel
theorem d_Ex_init_1 : decode b_Ex_init 1 = .ok (.invokespecial 3, 3) := by decide +kernel
theorem d_Ex_init_4 : decode b_Ex_init 4 = .ok (.aload_n 0, 1) := by decide +kernel
theorem d_Ex_init_5 : decode b_Ex_init 5 = .ok (.new 9, 3) := by decide +kernel
theorem d_Ex_init_8 : decode b_Ex_init 8 = .ok (.dup, 1) := by decide +kernel
theorem d_Ex_init_9 : decode b_Ex_init 9 = .ok (.invokespecial 11, 3) := by decide +kernel
theorem d_Ex_init_12 : decode b_Ex_init 12 = .ok (.putfield 12, 3) := by decide +kernel
theorem d_Ex_init_15 : decode b_Ex_init 15 = .ok (.aload_n 0, 1) := by decide +kernel
theorem d_Ex_init_16 : decode b_Ex_init 16 = .ok (.new 18, 3) := by decide +kernel
theorem d_Ex_init_19 : decode b_Ex_init 19 = .ok (.dup, 1) := by decide +kernel
theorem d_Ex_init_20 : decode b_Ex_init 20 = .ok (.invokespecial 20, 3) := by decide +kernel
theorem d_Ex_init_23 : decode b_Ex_init 23 = .ok (.putfield 21, 3) := by decide +kernel
theorem d_Ex_init_26 : decode b_Ex_init 26 = .ok (.aload_n 0, 1) := by decide +kernel
theorem d_Ex_init_27 : decode b_Ex_init 27 = .ok (.new 18, 3) := by decide +kernel
theorem d_Ex_init_30 : decode b_Ex_init 30 = .ok (.dup, 1) := by decide +kernel
theorem d_Ex_init_31 : decode b_Ex_init 31 = .ok (.invokespecial 20, 3) := by decide +kernel
theorem d_Ex_init_34 : decode b_Ex_init 34 = .ok (.putfield 25, 3) := by decide +kernel
theorem d_Ex_init_37 : decode b_Ex_init 37 = .ok (.aload_n 0, 1) := by decide +kernel
theorem d_Ex_init_38 : decode b_Ex_init 38 = .ok (.new 28, 3) := by decide +kernel
theorem d_Ex_init_41 : decode b_Ex_init 41 = .ok (.dup, 1) := by decide +kernel
theorem d_Ex_init_42 : decode b_Ex_init 42 = .ok (.invokespecial 30, 3) := by decide +kernel
theorem d_Ex_init_45 : decode b_Ex_init 45 = .ok (.putfield 31, 3) := by decide +kernel
theorem d_Ex_init_48 : decode b_Ex_init 48 = .ok (.aload_n 0, 1) := by decide +kernel
theorem d_Ex_init_49 : decode b_Ex_init 49 = .ok (.new 28, 3) := by decide +kernel
theorem d_Ex_init_52 : decode b_Ex_init 52 = .ok (.dup, 1) := by decide +kernel
theorem d_Ex_init_53 : decode b_Ex_init 53 = .ok (.invokespecial 30, 3) := by decide +kernel
theorem d_Ex_init_56 : decode b_Ex_init 56 = .ok (.putfield 35, 3) := by decide +kernel
theorem d_Ex_init_59 : decode b_Ex_init 59 = .ok (.aload_n 0, 1) := by decide +kernel
theorem d_Ex_init_60 : decode b_Ex_init 60 = .ok (.new 28, 3) := by decide +kernel
theorem d_Ex_init_63 : decode b_Ex_init 63 = .ok (.dup, 1) := by decide +kernel
theorem d_Ex_init_64 : decode b_Ex_init 64 = .ok (.invokespecial 30, 3) := by decide +kernel
theorem d_Ex_init_67 : decode b_Ex_init 67 = .ok (.putfield 38, 3) := by decide +kernel
theorem d_Ex_init_70 : decode b_Ex_init 70 = .ok (.aload_n 0, 1) := by decide +kernel
theorem d_Ex_init_71 : decode b_Ex_init 71 = .ok (.new 28, 3) := by decide +kernel
theorem d_Ex_init_74 : decode b_Ex_init 74 = .ok (.dup, 1) := by decide +kernel
theorem d_Ex_init_75 : decode b_Ex_init 75 = .ok (.invokespecial 30, 3) := by decide +kernel
theorem d_Ex_init_78 : decode b_Ex_init 78 = .ok (.putfield 41, 3) := by decide +kernel
theorem d_Ex_init_81 : decode b_Ex_init 81 = .ok (.return_, 1) := by decide +kernel
theorem d_Jt_init_0 : decode b_Jt_init 0 = .ok (.aload_n 0, 1) := by decide +kernel
theorem d_Jt_init_1 : decode b_Jt_init 1 = .ok (.invokespecial 3, 3) := by decide +kernel
theorem d_Jt_init_4 : decode b_Jt_init 4 = .ok (.aload_n 0, 1) := by decide +kernel
theorem d_Jt_init_5 : decode b_Jt_init 5 = .ok (.sipush 3000, 3) := by decide +kernel
theorem d_Jt_init_8 : decode b_Jt_init 8 = .ok (.newarray .byte, 2) := by decide +kernel
theorem d_Jt_init_10 : decode b_Jt_init 10 = .ok (.putfield 9, 3) := by decide +kernel
theorem d_Jt_init_13 : decode b_Jt_init 13 = .ok (.aload_n 0, 1) := by decide +kernel
theorem d_Jt_init_14 : decode b_Jt_init 14 = .ok (.new 13, 3) := by decide +kernel
theorem d_Jt_init_17 : decode b_Jt_init 17 = .ok (.dup, 1) := by decide +kernel
theorem d_Jt_init_18 : decode b_Jt_init 18 = .ok (.invokespecial 15, 3) := by decide +kernel
theorem d_Jt_init_21 : decode b_Jt_init 21 = .ok (.putfield 16, 3) := by decide +kernel
theorem d_Jt_init_24 : decode b_Jt_init 24 = .ok (.aload_n 0, 1) := by decide +kernel
theorem d_Jt_init_25 : decode b_Jt_init 25 = .ok (.new 20, 3) := by decide +kernel
theorem d_Jt_init_28 : decode b_Jt_init 28 = .ok (.dup, 1) := by decide +kernel
theorem d_Jt_init_29 : decode b_Jt_init 29 = .ok (.invokespecial 22, 3) := by decide +kernel
theorem d_Jt_init_32 : decode b_Jt_init 32 = .ok (.putfield 23, 3) := by decide +kernel
theorem d_Jt_init_35 : decode b_Jt_init 35 = .ok (.aload_n 0, 1) := by decide +kernel
theorem d_Jt_init_36 : decode b_Jt_init 36 = .ok (.new 27, 3) := by decide +kernel
theorem d_Jt_init_39 : decode b_Jt_init 39 = .ok (.dup, 1) := by decide +kernel
theorem d_Jt_init_40 : decode b_Jt_init 40 = .ok (.invokespecial 29, 3) := by decide +kernel
theorem d_Jt_init_43 : decode b_Jt_init 43 = .ok (.putfield 30, 3) := by decide +kernel
theorem d_Jt_init_46 : decode b_Jt_init 46 = .ok (.return_, 1) := by decide +kernel
