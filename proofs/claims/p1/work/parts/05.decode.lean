theorem d_Ac_init_0 : decode b_Ac_init 0 = .ok (.aload_n 0, 1) := by decide +kernel
theorem d_Ac_init_1 : decode b_Ac_init 1 = .ok (.invokespecial 1, 3) := by decide +kernel
theorem d_Ac_init_4 : decode b_Ac_init 4 = .ok (.return_, 1) := by decide +kernel
theorem d_Ab_init_0 : decode b_Ab_init 0 = .ok (.aload_n 0, 1) := by decide +kernel
theorem d_Ab_init_1 : decode b_Ab_init 1 = .ok (.invokespecial 1, 3) := by decide +kernel
theorem d_Ab_init_4 : decode b_Ab_init 4 = .ok (.aload_n 0, 1) := by decide +kernel
theorem d_Ab_init_5 : decode b_Ab_init 5 = .ok (.iconst 0, 1) := by decide +kernel
theorem d_Ab_init_6 : decode b_Ab_init 6 = .ok (.putfield 7, 3) := by decide +kernel
theorem d_Ab_init_9 : decode b_Ab_init 9 = .ok (.return_, 1) := by decide +kernel
theorem d_Al_init_0 : decode b_Al_init 0 = .ok (.aload_n 0, 1) := by decide +kernel
theorem d_Al_init_1 : decode b_Al_init 1 = .ok (.invokespecial 1, 3) := by decide +kernel
theorem d_Al_init_4 : decode b_Al_init 4 = .ok (.aload_n 0, 1) := by decide +kernel
theorem d_Al_init_5 : decode b_Al_init 5 = .ok (.getstatic 39, 3) := by decide +kernel
theorem d_Al_init_8 : decode b_Al_init 8 = .ok (.putfield 9, 3) := by decide +kernel
theorem d_Al_init_11 : decode b_Al_init 11 = .ok (.return_, 1) := by decide +kernel
theorem d_As_init_0 : decode b_As_init 0 = .ok (.aload_n 0, 1) := by decide +kernel
theorem d_As_init_1 : decode b_As_init 1 = .ok (.invokespecial 3, 3) := by decide +kernel
theorem d_As_init_4 : decode b_As_init 4 = .ok (.getstatic 18, 3) := by decide +kernel
theorem d_As_init_7 : decode b_As_init 7 = .ok (.ifCond .eq 18, 3) := by decide +kernel
theorem d_As_init_10 : decode b_As_init 10 = .ok (.aload_n 0, 1) := by decide +kernel
theorem d_As_init_11 : decode b_As_init 11 = .ok (.iload_n 1, 1) := by decide +kernel
theorem d_As_init_12 : decode b_As_init 12 = .ok (.newarray .byte, 2) := by decide +kernel
theorem d_As_init_14 : decode b_As_init 14 = .ok (.putfield 15, 3) := by decide +kernel
theorem d_As_init_17 : decode b_As_init 17 = .ok (.aload_n 0, 1) := by decide +kernel
theorem d_As_init_18 : decode b_As_init 18 = .ok (.iconst 0, 1) := by decide +kernel
theorem d_As_init_19 : decode b_As_init 19 = .ok (.putfield 22, 3) := by decide +kernel
theorem d_As_init_22 : decode b_As_init 22 = .ok (.goto 16, 3) := by decide +kernel
theorem d_As_init_38 : decode b_As_init 38 = .ok (.return_, 1) := by decide +kernel
theorem d_Sb_init_0 : decode b_Sb_init 0 = .ok (.aload_n 0, 1) := by decide +kernel
theorem d_Sb_init_1 : decode b_Sb_init 1 = .ok (.bipush 16, 2) := by decide +kernel
theorem d_Sb_init_3 : decode b_Sb_init 3 = .ok (.invokespecial 1, 3) := by decide +kernel
theorem d_Sb_init_6 : decode b_Sb_init 6 = .ok (.return_, 1) := by decide +kernel
theorem d_Fa_init_0 : decode b_Fa_init 0 = .ok (.aload_n 0, 1) := by decide +kernel
theorem d_Fa_init_1 : decode b_Fa_init 1 = .ok (.invokespecial 3, 3) := by decide +kernel
theorem d_Fa_init_4 : decode b_Fa_init 4 = .ok (.aload_n 0, 1) := by decide +kernel
theorem d_Fa_init_5 : decode b_Fa_init 5 = .ok (.bipush 30, 2) := by decide +kernel
theorem d_Fa_init_7 : decode b_Fa_init 7 = .ok (.newarray .int, 2) := by decide +kernel
theorem d_Fa_init_9 : decode b_Fa_init 9 = .ok (.putfield 9, 3) := by decide +kernel
theorem d_Fa_init_12 : decode b_Fa_init 12 = .ok (.aload_n 0, 1) := by decide +kernel
theorem d_Fa_init_13 : decode b_Fa_init 13 = .ok (.bipush 30, 2) := by decide +kernel
theorem d_Fa_init_15 : decode b_Fa_init 15 = .ok (.newarray .int, 2) := by decide +kernel
theorem d_Fa_init_17 : decode b_Fa_init 17 = .ok (.putfield 15, 3) := by decide +kernel
theorem d_Fa_init_20 : decode b_Fa_init 20 = .ok (.aload_n 0, 1) := by decide +kernel
theorem d_Fa_init_21 : decode b_Fa_init 21 = .ok (.bipush 30, 2) := by decide +kernel
theorem d_Fa_init_23 : decode b_Fa_init 23 = .ok (.newarray .int, 2) := by decide +kernel
theorem d_Fa_init_25 : decode b_Fa_init 25 = .ok (.putfield 18, 3) := by decide +kernel
theorem d_Fa_init_28 : decode b_Fa_init 28 = .ok (.aload_n 0, 1) := by decide +kernel
theorem d_Fa_init_29 : decode b_Fa_init 29 = .ok (.bipush 30, 2) := by decide +kernel
theorem d_Fa_init_31 : decode b_Fa_init 31 = .ok (.newarray .int, 2) := by decide +kernel
theorem d_Fa_init_33 : decode b_Fa_init 33 = .ok (.putfield 21, 3) := by decide +kernel
theorem d_Fa_init_36 : decode b_Fa_init 36 = .ok (.return_, 1) := by decide +kernel
theorem d_Ro_init_0 : decode b_Ro_init 0 = .ok (.aload_n 0, 1) := by decide +kernel
theorem d_Ro_init_1 : decode b_Ro_init 1 = .ok (.invokespecial 3, 3) := by decide +kernel
theorem d_Ro_init_4 : decode b_Ro_init 4 = .ok (.aload_n 0, 1) := by decide +kernel
theorem d_Ro_init_5 : decode b_Ro_init 5 = .ok (.bipush 8, 2) := by decide +kernel
theorem d_Ro_init_7 : decode b_Ro_init 7 = .ok (.newarray .long, 2) := by decide +kernel
theorem d_Ro_init_9 : decode b_Ro_init 9 = .ok (.putfield 9, 3) := by decide +kernel
theorem d_Ro_init_12 : decode b_Ro_init 12 = .ok (.aload_n 0, 1) := by decide +kernel
theorem d_Ro_init_13 : decode b_Ro_init 13 = .ok (.bipush 8, 2) := by decide +kernel
theorem d_Ro_init_15 : decode b_Ro_init 15 = .ok (.newarray .int, 2) := by decide +kernel
theorem d_Ro_init_17 : decode b_Ro_init 17 = .ok (.putfield 15, 3) := by decide +kernel
theorem d_Ro_init_20 : decode b_Ro_init 20 = .ok (.aload_n 0, 1) := by decide +kernel
theorem d_Ro_init_21 : decode b_Ro_init 21 = .ok (.sipush 240, 3) := by decide +kernel
theorem d_Ro_init_24 : decode b_Ro_init 24 = .ok (.newarray .byte, 2) := by decide +kernel
theorem d_Ro_init_26 : decode b_Ro_init 26 = .ok (.putfield 19, 3) := by decide +kernel
theorem d_Ro_init_29 : decode b_Ro_init 29 = .ok (.return_, 1) := by decide +kernel
theorem d_Li_init_0 : decode b_Li_init 0 = .ok (.aload_n 0, 1) := by decide +kernel
theorem d_Li_init_1 : decode b_Li_init 1 = .ok (.invokespecial 3, 3) := by decide +kernel
theorem d_Li_init_4 : decode b_Li_init 4 = .ok (.aload_n 0, 1) := by decide +kernel
theorem d_Li_init_5 : decode b_Li_init 5 = .ok (.bipush 100, 2) := by decide +kernel
theorem d_Li_init_7 : decode b_Li_init 7 = .ok (.newarray .int, 2) := by decide +kernel
theorem d_Li_init_9 : decode b_Li_init 9 = .ok (.putfield 9, 3) := by decide +kernel
theorem d_Li_init_12 : decode b_Li_init 12 = .ok (.aload_n 0, 1) := by decide +kernel
theorem d_Li_init_13 : decode b_Li_init 13 = .ok (.bipush 100, 2) := by decide +kernel
theorem d_Li_init_15 : decode b_Li_init 15 = .ok (.newarray .int, 2) := by decide +kernel
theorem d_Li_init_17 : decode b_Li_init 17 = .ok (.putfield 15, 3) := by decide +kernel
theorem d_Li_init_20 : decode b_Li_init 20 = .ok (.aload_n 0, 1) := by decide +kernel
theorem d_Li_init_21 : decode b_Li_init 21 = .ok (.bipush 100, 2) := by decide +kernel
theorem d_Li_init_23 : decode b_Li_init 23 = .ok (.newarray .int, 2) := by decide +kernel
theorem d_Li_init_25 : decode b_Li_init 25 = .ok (.putfield 18, 3) := by decide +kernel
theorem d_Li_init_28 : decode b_Li_init 28 = .ok (.aload_n 0, 1) := by decide +kernel
theorem d_Li_init_29 : decode b_Li_init 29 = .ok (.bipush 100, 2) := by decide +kernel
theorem d_Li_init_31 : decode b_Li_init 31 = .ok (.newarray .int, 2) := by decide +kernel
theorem d_Li_init_33 : decode b_Li_init 33 = .ok (.putfield 21, 3) := by decide +kernel
theorem d_Li_init_36 : decode b_Li_init 36 = .ok (.aload_n 0, 1) := by decide +kernel
theorem d_Li_init_37 : decode b_Li_init 37 = .ok (.bipush 100, 2) := by decide +kernel
theorem d_Li_init_39 : decode b_Li_init 39 = .ok (.newarray .int, 2) := by decide +kernel
theorem d_Li_init_41 : decode b_Li_init 41 = .ok (.putfield 24, 3) := by decide +kernel
theorem d_Li_init_44 : decode b_Li_init 44 = .ok (.aload_n 0, 1) := by decide +kernel
theorem d_Li_init_45 : decode b_Li_init 45 = .ok (.bipush 100, 2) := by decide +kernel
theorem d_Li_init_47 : decode b_Li_init 47 = .ok (.newarray .int, 2) := by decide +kernel
theorem d_Li_init_49 : decode b_Li_init 49 = .ok (.putfield 27, 3) := by decide +kernel
theorem d_Li_init_52 : decode b_Li_init 52 = .ok (.aload_n 0, 1) := by decide +kernel
theorem d_Li_init_53 : decode b_Li_init 53 = .ok (.new 30, 3) := by decide +kernel
theorem d_Li_init_56 : decode b_Li_init 56 = .ok (.dup, 1) := by decide +kernel
theorem d_Li_init_57 : decode b_Li_init 57 = .ok (.invokespecial 32, 3) := by decide +kernel
theorem d_Li_init_60 : decode b_Li_init 60 = .ok (.putfield 33, 3) := by decide +kernel
theorem d_Li_init_63 : decode b_Li_init 63 = .ok (.return_, 1) := by decide +kernel
theorem d_Ex_init_0 : decode b_Ex_init 0 = .ok (.aload_n 0, 1) := by decide +kernel
theorem d_Ex_init_1 : decode b_Ex_init 1 = .ok (.invokespecial 3, 3) := by decide +kernel
theorem d_Ex_init_4 : decode b_Ex_init 4 = .ok (.aload_n 0, 1) := by decide +kernel
theorem d_Ex_init_5 : decode b_Ex_init 5 = .ok (.new 9, 3) := by decide +kernel
theorem d_Ex_init_8 : decode b_Ex_init 8 = .ok (.dup, 1) := by decide +kernel
theorem d_Ex_init_9 : decode b_Ex_init 9 = .ok (.invokespecial 11, 3) := by decide +kernel
theorem d_Ex_init_12 : decode b_Ex_init 12 = .ok (.putfield 12, 3) := by decide +kernel
theorem d_Ex_init_15 : decode b_Ex_init 15 = .ok (.aload_n 0, 1) := by decide +kernel
theorem d_Ex_init_16 : decode b_Ex_init 16 = .ok (.new 18, 3) := by decide +kernel
theorem d_Ex_init_19 : decode b_Ex_init 19 = .ok (.dup, 1) := by decide +kernel
theorem d_Ex_init_20 : decode b_Ex_init 20 = .ok (.invokespecial 20, 3) := by decide +kernel
theorem d_Ex_init_23 : decode b_Ex_init 23 = .ok (.putfield 21, 3) := by decide +kernel
theorem d_Ex_init_26 : decode b_Ex_init 26 = .ok (.aload_n 0, 1) := by decide +kernel
theorem d_Ex_init_27 : decode b_Ex_init 27 = .ok (.new 18, 3) := by decide +kernel
theorem d_Ex_init_30 : decode b_Ex_init 30 = .ok (.dup, 1) := by decide +kernel
theorem d_Ex_init_31 : decode b_Ex_init 31 = .ok (.invokespecial 20, 3) := by decide +kernel
theorem d_Ex_init_34 : decode b_Ex_init 34 = .ok (.putfield 25, 3) := by decide +kernel
theorem d_Ex_init_37 : decode b_Ex_init 37 = .ok (.aload_n 0, 1) := by decide +kernel
theorem d_Ex_init_38 : decode b_Ex_init 38 = .ok (.new 28, 3) := by decide +kernel
theorem d_Ex_init_41 : decode b_Ex_init 41 = .ok (.dup, 1) := by decide +kernel
theorem d_Ex_init_42 : decode b_Ex_init 42 = .ok (.invokespecial 30, 3) := by decide +kernel
theorem d_Ex_init_45 : decode b_Ex_init 45 = .ok (.putfield 31, 3) := by decide +kernel
theorem d_Ex_init_48 : decode b_Ex_init 48 = .ok (.aload_n 0, 1) := by decide +kernel
theorem d_Ex_init_49 : decode b_Ex_init 49 = .ok (.new 28, 3) := by decide +kernel
theorem d_Ex_init_52 : decode b_Ex_init 52 = .ok (.dup, 1) := by decide +kernel
theorem d_Ex_init_53 : decode b_Ex_init 53 = .ok (.invokespecial 30, 3) := by decide +kernel
theorem d_Ex_init_56 : decode b_Ex_init 56 = .ok (.putfield 35, 3) := by decide +kernel
theorem d_Ex_init_59 : decode b_Ex_init 59 = .ok (.aload_n 0, 1) := by decide +kernel
theorem d_Ex_init_60 : decode b_Ex_init 60 = .ok (.new 28, 3) := by decide +kernel
theorem d_Ex_init_63 : decode b_Ex_init 63 = .ok (.dup, 1) := by decide +kernel
theorem d_Ex_init_64 : decode b_Ex_init 64 = .ok (.invokespecial 30, 3) := by decide +kernel
theorem d_Ex_init_67 : decode b_Ex_init 67 = .ok (.putfield 38, 3) := by decide +kernel
theorem d_Ex_init_70 : decode b_Ex_init 70 = .ok (.aload_n 0, 1) := by decide +kernel
theorem d_Ex_init_71 : decode b_Ex_init 71 = .ok (.new 28, 3) := by decide +kernel
theorem d_Ex_init_74 : decode b_Ex_init 74 = .ok (.dup, 1) := by decide +kernel
theorem d_Ex_init_75 : decode b_Ex_init 75 = .ok (.invokespecial 30, 3) := by decide +kernel
theorem d_Ex_init_78 : decode b_Ex_init 78 = .ok (.putfield 41, 3) := by decide +kernel
theorem d_Ex_init_81 : decode b_Ex_init 81 = .ok (.return_, 1) := by decide +kernel
theorem d_Jt_init_0 : decode b_Jt_init 0 = .ok (.aload_n 0, 1) := by decide +kernel
theorem d_Jt_init_1 : decode b_Jt_init 1 = .ok (.invokespecial 3, 3) := by decide +kernel
theorem d_Jt_init_4 : decode b_Jt_init 4 = .ok (.aload_n 0, 1) := by decide +kernel
theorem d_Jt_init_5 : decode b_Jt_init 5 = .ok (.sipush 3000, 3) := by decide +kernel
theorem d_Jt_init_8 : decode b_Jt_init 8 = .ok (.newarray .byte, 2) := by decide +kernel
theorem d_Jt_init_10 : decode b_Jt_init 10 = .ok (.putfield 9, 3) := by decide +kernel
theorem d_Jt_init_13 : decode b_Jt_init 13 = .ok (.aload_n 0, 1) := by decide +kernel
theorem d_Jt_init_14 : decode b_Jt_init 14 = .ok (.new 13, 3) := by decide +kernel
theorem d_Jt_init_17 : decode b_Jt_init 17 = .ok (.dup, 1) := by decide +kernel
theorem d_Jt_init_18 : decode b_Jt_init 18 = .ok (.invokespecial 15, 3) := by decide +kernel
theorem d_Jt_init_21 : decode b_Jt_init 21 = .ok (.putfield 16, 3) := by decide +kernel
theorem d_Jt_init_24 : decode b_Jt_init 24 = .ok (.aload_n 0, 1) := by decide +kernel
theorem d_Jt_init_25 : decode b_Jt_init 25 = .ok (.new 20, 3) := by decide +kernel
theorem d_Jt_init_28 : decode b_Jt_init 28 = .ok (.dup, 1) := by decide +kernel
theorem d_Jt_init_29 : decode b_Jt_init 29 = .ok (.invokespecial 22, 3) := by decide +kernel
theorem d_Jt_init_32 : decode b_Jt_init 32 = .ok (.putfield 23, 3) := by decide +kernel
theorem d_Jt_init_35 : decode b_Jt_init 35 = .ok (.aload_n 0, 1) := by decide +kernel
theorem d_Jt_init_36 : decode b_Jt_init 36 = .ok (.new 27, 3) := by decide +kernel
theorem d_Jt_init_39 : decode b_Jt_init 39 = .ok (.dup, 1) := by decide +kernel
theorem d_Jt_init_40 : decode b_Jt_init 40 = .ok (.invokespecial 29, 3) := by decide +kernel
theorem d_Jt_init_43 : decode b_Jt_init 43 = .ok (.putfield 30, 3) := by decide +kernel
theorem d_Jt_init_46 : decode b_Jt_init 46 = .ok (.return_, 1) := by decide +kernel
theorem d_Mo_init_0 : decode b_Mo_init 0 = .ok (.aload_n 0, 1) := by decide +kernel
theorem d_Mo_init_1 : decode b_Mo_init 1 = .ok (.invokespecial 1, 3) := by decide +kernel
theorem d_Mo_init_4 : decode b_Mo_init 4 = .ok (.aload_n 0, 1) := by decide +kernel
theorem d_Mo_init_5 : decode b_Mo_init 5 = .ok (.ldc 7, 2) := by decide +kernel
theorem d_Mo_init_7 : decode b_Mo_init 7 = .ok (.newarray .int, 2) := by decide +kernel
theorem d_Mo_init_9 : decode b_Mo_init 9 = .ok (.putfield 8, 3) := by decide +kernel
theorem d_Mo_init_12 : decode b_Mo_init 12 = .ok (.aload_n 0, 1) := by decide +kernel
theorem d_Mo_init_13 : decode b_Mo_init 13 = .ok (.sipush 3000, 3) := by decide +kernel
theorem d_Mo_init_16 : decode b_Mo_init 16 = .ok (.newarray .int, 2) := by decide +kernel
theorem d_Mo_init_18 : decode b_Mo_init 18 = .ok (.putfield 14, 3) := by decide +kernel
theorem d_Mo_init_21 : decode b_Mo_init 21 = .ok (.aload_n 0, 1) := by decide +kernel
theorem d_Mo_init_22 : decode b_Mo_init 22 = .ok (.bipush 13, 2) := by decide +kernel
theorem d_Mo_init_24 : decode b_Mo_init 24 = .ok (.newarray .int, 2) := by decide +kernel
theorem d_Mo_init_26 : decode b_Mo_init 26 = .ok (.putfield 17, 3) := by decide +kernel
theorem d_Mo_init_29 : decode b_Mo_init 29 = .ok (.aload_n 0, 1) := by decide +kernel
theorem d_Mo_init_30 : decode b_Mo_init 30 = .ok (.sipush 6760, 3) := by decide +kernel
theorem d_Mo_init_33 : decode b_Mo_init 33 = .ok (.newarray .int, 2) := by decide +kernel
theorem d_Mo_init_35 : decode b_Mo_init 35 = .ok (.putfield 20, 3) := by decide +kernel
theorem d_Mo_init_38 : decode b_Mo_init 38 = .ok (.aload_n 0, 1) := by decide +kernel
theorem d_Mo_init_39 : decode b_Mo_init 39 = .ok (.sipush 6760, 3) := by decide +kernel
theorem d_Mo_init_42 : decode b_Mo_init 42 = .ok (.newarray .int, 2) := by decide +kernel
theorem d_Mo_init_44 : decode b_Mo_init 44 = .ok (.putfield 23, 3) := by decide +kernel
theorem d_Mo_init_47 : decode b_Mo_init 47 = .ok (.aload_n 0, 1) := by decide +kernel
theorem d_Mo_init_48 : decode b_Mo_init 48 = .ok (.sipush 6760, 3) := by decide +kernel
theorem d_Mo_init_51 : decode b_Mo_init 51 = .ok (.newarray .int, 2) := by decide +kernel
theorem d_Mo_init_53 : decode b_Mo_init 53 = .ok (.putfield 26, 3) := by decide +kernel
theorem d_Mo_init_56 : decode b_Mo_init 56 = .ok (.aload_n 0, 1) := by decide +kernel
theorem d_Mo_init_57 : decode b_Mo_init 57 = .ok (.sipush 6760, 3) := by decide +kernel
theorem d_Mo_init_60 : decode b_Mo_init 60 = .ok (.newarray .int, 2) := by decide +kernel
theorem d_Mo_init_62 : decode b_Mo_init 62 = .ok (.putfield 29, 3) := by decide +kernel
theorem d_Mo_init_65 : decode b_Mo_init 65 = .ok (.aload_n 0, 1) := by decide +kernel
theorem d_Mo_init_66 : decode b_Mo_init 66 = .ok (.sipush 6760, 3) := by decide +kernel
theorem d_Mo_init_69 : decode b_Mo_init 69 = .ok (.newarray .int, 2) := by decide +kernel
theorem d_Mo_init_71 : decode b_Mo_init 71 = .ok (.putfield 32, 3) := by decide +kernel
theorem d_Mo_init_74 : decode b_Mo_init 74 = .ok (.aload_n 0, 1) := by decide +kernel
theorem d_Mo_init_75 : decode b_Mo_init 75 = .ok (.sipush 6760, 3) := by decide +kernel
theorem d_Mo_init_78 : decode b_Mo_init 78 = .ok (.newarray .int, 2) := by decide +kernel
theorem d_Mo_init_80 : decode b_Mo_init 80 = .ok (.putfield 35, 3) := by decide +kernel
theorem d_Mo_init_83 : decode b_Mo_init 83 = .ok (.aload_n 0, 1) := by decide +kernel
theorem d_Mo_init_84 : decode b_Mo_init 84 = .ok (.sipush 6760, 3) := by decide +kernel
theorem d_Mo_init_87 : decode b_Mo_init 87 = .ok (.newarray .int, 2) := by decide +kernel
theorem d_Mo_init_89 : decode b_Mo_init 89 = .ok (.putfield 38, 3) := by decide +kernel
theorem d_Mo_init_92 : decode b_Mo_init 92 = .ok (.aload_n 0, 1) := by decide +kernel
theorem d_Mo_init_93 : decode b_Mo_init 93 = .ok (.sipush 6760, 3) := by decide +kernel
theorem d_Mo_init_96 : decode b_Mo_init 96 = .ok (.newarray .int, 2) := by decide +kernel
theorem d_Mo_init_98 : decode b_Mo_init 98 = .ok (.putfield 41, 3) := by decide +kernel
theorem d_Mo_init_101 : decode b_Mo_init 101 = .ok (.aload_n 0, 1) := by decide +kernel
theorem d_Mo_init_102 : decode b_Mo_init 102 = .ok (.sipush 6760, 3) := by decide +kernel
theorem d_Mo_init_105 : decode b_Mo_init 105 = .ok (.newarray .int, 2) := by decide +kernel
theorem d_Mo_init_107 : decode b_Mo_init 107 = .ok (.putfield 44, 3) := by decide +kernel
theorem d_Mo_init_110 : decode b_Mo_init 110 = .ok (.aload_n 0, 1) := by decide +kernel
theorem d_Mo_init_111 : decode b_Mo_init 111 = .ok (.sipush 6760, 3) := by decide +kernel
theorem d_Mo_init_114 : decode b_Mo_init 114 = .ok (.newarray .int, 2) := by decide +kernel
theorem d_Mo_init_116 : decode b_Mo_init 116 = .ok (.putfield 47, 3) := by decide +kernel
theorem d_Mo_init_119 : decode b_Mo_init 119 = .ok (.aload_n 0, 1) := by decide +kernel
theorem d_Mo_init_120 : decode b_Mo_init 120 = .ok (.sipush 6760, 3) := by decide +kernel
theorem d_Mo_init_123 : decode b_Mo_init 123 = .ok (.newarray .int, 2) := by decide +kernel
theorem d_Mo_init_125 : decode b_Mo_init 125 = .ok (.putfield 50, 3) := by decide +kernel
theorem d_Mo_init_128 : decode b_Mo_init 128 = .ok (.aload_n 0, 1) := by decide +kernel
theorem d_Mo_init_129 : decode b_Mo_init 129 = .ok (.ldc 53, 2) := by decide +kernel
theorem d_Mo_init_131 : decode b_Mo_init 131 = .ok (.newarray .int, 2) := by decide +kernel
theorem d_Mo_init_133 : decode b_Mo_init 133 = .ok (.putfield 54, 3) := by decide +kernel
theorem d_Mo_init_136 : decode b_Mo_init 136 = .ok (.aload_n 0, 1) := by decide +kernel
theorem d_Mo_init_137 : decode b_Mo_init 137 = .ok (.ldc 53, 2) := by decide +kernel
theorem d_Mo_init_139 : decode b_Mo_init 139 = .ok (.newarray .int, 2) := by decide +kernel
theorem d_Mo_init_141 : decode b_Mo_init 141 = .ok (.putfield 57, 3) := by decide +kernel
theorem d_Mo_init_144 : decode b_Mo_init 144 = .ok (.aload_n 0, 1) := by decide +kernel
theorem d_Mo_init_145 : decode b_Mo_init 145 = .ok (.ldc 53, 2) := by decide +kernel
theorem d_Mo_init_147 : decode b_Mo_init 147 = .ok (.newarray .int, 2) := by decide +kernel
theorem d_Mo_init_149 : decode b_Mo_init 149 = .ok (.putfield 60, 3) := by decide +kernel
theorem d_Mo_init_152 : decode b_Mo_init 152 = .ok (.aload_n 0, 1) := by decide +kernel
theorem d_Mo_init_153 : decode b_Mo_init 153 = .ok (.bipush 30, 2) := by decide +kernel
theorem d_Mo_init_155 : decode b_Mo_init 155 = .ok (.newarray .int, 2) := by decide +kernel
theorem d_Mo_init_157 : decode b_Mo_init 157 = .ok (.putfield 63, 3) := by decide +kernel
theorem d_Mo_init_160 : decode b_Mo_init 160 = .ok (.aload_n 0, 1) := by decide +kernel
theorem d_Mo_init_161 : decode b_Mo_init 161 = .ok (.bipush 30, 2) := by decide +kernel
theorem d_Mo_init_163 : decode b_Mo_init 163 = .ok (.newarray .int, 2) := by decide +kernel
theorem d_Mo_init_165 : decode b_Mo_init 165 = .ok (.putfield 66, 3) := by decide +kernel
theorem d_Mo_init_168 : decode b_Mo_init 168 = .ok (.aload_n 0, 1) := by decide +kernel
theorem d_Mo_init_169 : decode b_Mo_init 169 = .ok (.bipush 30, 2) := by decide +kernel
theorem d_Mo_init_171 : decode b_Mo_init 171 = .ok (.newarray .int, 2) := by decide +kernel
theorem d_Mo_init_173 : decode b_Mo_init 173 = .ok (.putfield 69, 3) := by decide +kernel
theorem d_Mo_init_176 : decode b_Mo_init 176 = .ok (.aload_n 0, 1) := by decide +kernel
theorem d_Mo_init_177 : decode b_Mo_init 177 = .ok (.bipush 30, 2) := by decide +kernel
theorem d_Mo_init_179 : decode b_Mo_init 179 = .ok (.newarray .int, 2) := by decide +kernel
theorem d_Mo_init_181 : decode b_Mo_init 181 = .ok (.putfield 72, 3) := by decide +kernel
theorem d_Mo_init_184 : decode b_Mo_init 184 = .ok (.aload_n 0, 1) := by decide +kernel
theorem d_Mo_init_185 : decode b_Mo_init 185 = .ok (.sipush 3001, 3) := by decide +kernel
theorem d_Mo_init_188 : decode b_Mo_init 188 = .ok (.newarray .int, 2) := by decide +kernel
theorem d_Mo_init_190 : decode b_Mo_init 190 = .ok (.putfield 75, 3) := by decide +kernel
theorem d_Mo_init_193 : decode b_Mo_init 193 = .ok (.aload_n 0, 1) := by decide +kernel
theorem d_Mo_init_194 : decode b_Mo_init 194 = .ok (.sipush 3001, 3) := by decide +kernel
theorem d_Mo_init_197 : decode b_Mo_init 197 = .ok (.newarray .int, 2) := by decide +kernel
theorem d_Mo_init_199 : decode b_Mo_init 199 = .ok (.putfield 78, 3) := by decide +kernel
theorem d_Mo_init_202 : decode b_Mo_init 202 = .ok (.aload_n 0, 1) := by decide +kernel
theorem d_Mo_init_203 : decode b_Mo_init 203 = .ok (.bipush 9, 2) := by decide +kernel
theorem d_Mo_init_205 : decode b_Mo_init 205 = .ok (.newarray .boolean, 2) := by decide +kernel
theorem d_Mo_init_207 : decode b_Mo_init 207 = .ok (.putfield 81, 3) := by decide +kernel
theorem d_Mo_init_210 : decode b_Mo_init 210 = .ok (.aload_n 0, 1) := by decide +kernel
theorem d_Mo_init_211 : decode b_Mo_init 211 = .ok (.bipush 8, 2) := by decide +kernel
theorem d_Mo_init_213 : decode b_Mo_init 213 = .ok (.newarray .int, 2) := by decide +kernel
theorem d_Mo_init_215 : decode b_Mo_init 215 = .ok (.putfield 85, 3) := by decide +kernel
theorem d_Mo_init_218 : decode b_Mo_init 218 = .ok (.aload_n 0, 1) := by decide +kernel
theorem d_Mo_init_219 : decode b_Mo_init 219 = .ok (.bipush 100, 2) := by decide +kernel
theorem d_Mo_init_221 : decode b_Mo_init 221 = .ok (.newarray .int, 2) := by decide +kernel
theorem d_Mo_init_223 : decode b_Mo_init 223 = .ok (.putfield 88, 3) := by decide +kernel
theorem d_Mo_init_226 : decode b_Mo_init 226 = .ok (.aload_n 0, 1) := by decide +kernel
theorem d_Mo_init_227 : decode b_Mo_init 227 = .ok (.bipush 100, 2) := by decide +kernel
theorem d_Mo_init_229 : decode b_Mo_init 229 = .ok (.newarray .int, 2) := by decide +kernel
theorem d_Mo_init_231 : decode b_Mo_init 231 = .ok (.putfield 91, 3) := by decide +kernel
theorem d_Mo_init_234 : decode b_Mo_init 234 = .ok (.aload_n 0, 1) := by decide +kernel
theorem d_Mo_init_235 : decode b_Mo_init 235 = .ok (.bipush 100, 2) := by decide +kernel
theorem d_Mo_init_237 : decode b_Mo_init 237 = .ok (.newarray .int, 2) := by decide +kernel
theorem d_Mo_init_239 : decode b_Mo_init 239 = .ok (.putfield 94, 3) := by decide +kernel
theorem d_Mo_init_242 : decode b_Mo_init 242 = .ok (.aload_n 0, 1) := by decide +kernel
theorem d_Mo_init_243 : decode b_Mo_init 243 = .ok (.bipush 100, 2) := by decide +kernel
theorem d_Mo_init_245 : decode b_Mo_init 245 = .ok (.newarray .int, 2) := by decide +kernel
theorem d_Mo_init_247 : decode b_Mo_init 247 = .ok (.putfield 97, 3) := by decide +kernel
theorem d_Mo_init_250 : decode b_Mo_init 250 = .ok (.aload_n 0, 1) := by decide +kernel
theorem d_Mo_init_251 : decode b_Mo_init 251 = .ok (.bipush 100, 2) := by decide +kernel
theorem d_Mo_init_253 : decode b_Mo_init 253 = .ok (.newarray .int, 2) := by decide +kernel
theorem d_Mo_init_255 : decode b_Mo_init 255 = .ok (.putfield 100, 3) := by decide +kernel
theorem d_Mo_init_258 : decode b_Mo_init 258 = .ok (.aload_n 0, 1) := by decide +kernel
theorem d_Mo_init_259 : decode b_Mo_init 259 = .ok (.bipush 100, 2) := by decide +kernel
theorem d_Mo_init_261 : decode b_Mo_init 261 = .ok (.newarray .int, 2) := by decide +kernel
theorem d_Mo_init_263 : decode b_Mo_init 263 = .ok (.putfield 103, 3) := by decide +kernel
theorem d_Mo_init_266 : decode b_Mo_init 266 = .ok (.aload_n 0, 1) := by decide +kernel
theorem d_Mo_init_267 : decode b_Mo_init 267 = .ok (.ldc 106, 2) := by decide +kernel
theorem d_Mo_init_269 : decode b_Mo_init 269 = .ok (.newarray .int, 2) := by decide +kernel
theorem d_Mo_init_271 : decode b_Mo_init 271 = .ok (.putfield 107, 3) := by decide +kernel
theorem d_Mo_init_274 : decode b_Mo_init 274 = .ok (.aload_n 0, 1) := by decide +kernel
theorem d_Mo_init_275 : decode b_Mo_init 275 = .ok (.sipush 16000, 3) := by decide +kernel
theorem d_Mo_init_278 : decode b_Mo_init 278 = .ok (.newarray .int, 2) := by decide +kernel
theorem d_Mo_init_280 : decode b_Mo_init 280 = .ok (.putfield 110, 3) := by decide +kernel
theorem d_Mo_init_283 : decode b_Mo_init 283 = .ok (.aload_n 0, 1) := by decide +kernel
theorem d_Mo_init_284 : decode b_Mo_init 284 = .ok (.sipush 16000, 3) := by decide +kernel
theorem d_Mo_init_287 : decode b_Mo_init 287 = .ok (.newarray .int, 2) := by decide +kernel
theorem d_Mo_init_289 : decode b_Mo_init 289 = .ok (.putfield 113, 3) := by decide +kernel
theorem d_Mo_init_292 : decode b_Mo_init 292 = .ok (.aload_n 0, 1) := by decide +kernel
theorem d_Mo_init_293 : decode b_Mo_init 293 = .ok (.sipush 16000, 3) := by decide +kernel
theorem d_Mo_init_296 : decode b_Mo_init 296 = .ok (.newarray .int, 2) := by decide +kernel
theorem d_Mo_init_298 : decode b_Mo_init 298 = .ok (.putfield 116, 3) := by decide +kernel
theorem d_Mo_init_301 : decode b_Mo_init 301 = .ok (.aload_n 0, 1) := by decide +kernel
theorem d_Mo_init_302 : decode b_Mo_init 302 = .ok (.bipush 104, 2) := by decide +kernel
theorem d_Mo_init_304 : decode b_Mo_init 304 = .ok (.newarray .int, 2) := by decide +kernel
theorem d_Mo_init_306 : decode b_Mo_init 306 = .ok (.putfield 119, 3) := by decide +kernel
theorem d_Mo_init_309 : decode b_Mo_init 309 = .ok (.aload_n 0, 1) := by decide +kernel
theorem d_Mo_init_310 : decode b_Mo_init 310 = .ok (.bipush 104, 2) := by decide +kernel
theorem d_Mo_init_312 : decode b_Mo_init 312 = .ok (.newarray .int, 2) := by decide +kernel
theorem d_Mo_init_314 : decode b_Mo_init 314 = .ok (.putfield 122, 3) := by decide +kernel
theorem d_Mo_init_317 : decode b_Mo_init 317 = .ok (.aload_n 0, 1) := by decide +kernel
theorem d_Mo_init_318 : decode b_Mo_init 318 = .ok (.bipush 104, 2) := by decide +kernel
theorem d_Mo_init_320 : decode b_Mo_init 320 = .ok (.newarray .int, 2) := by decide +kernel
theorem d_Mo_init_322 : decode b_Mo_init 322 = .ok (.putfield 125, 3) := by decide +kernel
theorem d_Mo_init_325 : decode b_Mo_init 325 = .ok (.aload_n 0, 1) := by decide +kernel
theorem d_Mo_init_326 : decode b_Mo_init 326 = .ok (.bipush 104, 2) := by decide +kernel
theorem d_Mo_init_328 : decode b_Mo_init 328 = .ok (.newarray .int, 2) := by decide +kernel
theorem d_Mo_init_330 : decode b_Mo_init 330 = .ok (.putfield 128, 3) := by decide +kernel
theorem d_Mo_init_333 : decode b_Mo_init 333 = .ok (.aload_n 0, 1) := by decide +kernel
theorem d_Mo_init_334 : decode b_Mo_init 334 = .ok (.bipush 104, 2) := by decide +kernel
theorem d_Mo_init_336 : decode b_Mo_init 336 = .ok (.newarray .int, 2) := by decide +kernel
theorem d_Mo_init_338 : decode b_Mo_init 338 = .ok (.putfield 131, 3) := by decide +kernel
theorem d_Mo_init_341 : decode b_Mo_init 341 = .ok (.aload_n 0, 1) := by decide +kernel
theorem d_Mo_init_342 : decode b_Mo_init 342 = .ok (.bipush 104, 2) := by decide +kernel
theorem d_Mo_init_344 : decode b_Mo_init 344 = .ok (.newarray .int, 2) := by decide +kernel
theorem d_Mo_init_346 : decode b_Mo_init 346 = .ok (.putfield 134, 3) := by decide +kernel
theorem d_Mo_init_349 : decode b_Mo_init 349 = .ok (.aload_n 0, 1) := by decide +kernel
theorem d_Mo_init_350 : decode b_Mo_init 350 = .ok (.bipush 104, 2) := by decide +kernel
theorem d_Mo_init_352 : decode b_Mo_init 352 = .ok (.newarray .int, 2) := by decide +kernel
theorem d_Mo_init_354 : decode b_Mo_init 354 = .ok (.putfield 137, 3) := by decide +kernel
theorem d_Mo_init_357 : decode b_Mo_init 357 = .ok (.aload_n 0, 1) := by decide +kernel
theorem d_Mo_init_358 : decode b_Mo_init 358 = .ok (.bipush 104, 2) := by decide +kernel
theorem d_Mo_init_360 : decode b_Mo_init 360 = .ok (.newarray .int, 2) := by decide +kernel
theorem d_Mo_init_362 : decode b_Mo_init 362 = .ok (.putfield 140, 3) := by decide +kernel
theorem d_Mo_init_365 : decode b_Mo_init 365 = .ok (.aload_n 0, 1) := by decide +kernel
theorem d_Mo_init_366 : decode b_Mo_init 366 = .ok (.bipush 104, 2) := by decide +kernel
theorem d_Mo_init_368 : decode b_Mo_init 368 = .ok (.newarray .int, 2) := by decide +kernel
theorem d_Mo_init_370 : decode b_Mo_init 370 = .ok (.putfield 143, 3) := by decide +kernel
theorem d_Mo_init_373 : decode b_Mo_init 373 = .ok (.aload_n 0, 1) := by decide +kernel
theorem d_Mo_init_374 : decode b_Mo_init 374 = .ok (.sipush 7000, 3) := by decide +kernel
theorem d_Mo_init_377 : decode b_Mo_init 377 = .ok (.newarray .int, 2) := by decide +kernel
theorem d_Mo_init_379 : decode b_Mo_init 379 = .ok (.putfield 146, 3) := by decide +kernel
theorem d_Mo_init_382 : decode b_Mo_init 382 = .ok (.aload_n 0, 1) := by decide +kernel
theorem d_Mo_init_383 : decode b_Mo_init 383 = .ok (.sipush 7000, 3) := by decide +kernel
theorem d_Mo_init_386 : decode b_Mo_init 386 = .ok (.newarray .int, 2) := by decide +kernel
theorem d_Mo_init_388 : decode b_Mo_init 388 = .ok (.putfield 149, 3) := by decide +kernel
theorem d_Mo_init_391 : decode b_Mo_init 391 = .ok (.aload_n 0, 1) := by decide +kernel
theorem d_Mo_init_392 : decode b_Mo_init 392 = .ok (.sipush 7000, 3) := by decide +kernel
theorem d_Mo_init_395 : decode b_Mo_init 395 = .ok (.newarray .int, 2) := by decide +kernel
theorem d_Mo_init_397 : decode b_Mo_init 397 = .ok (.putfield 152, 3) := by decide +kernel
theorem d_Mo_init_400 : decode b_Mo_init 400 = .ok (.aload_n 0, 1) := by decide +kernel
theorem d_Mo_init_401 : decode b_Mo_init 401 = .ok (.sipush 7000, 3) := by decide +kernel
theorem d_Mo_init_404 : decode b_Mo_init 404 = .ok (.newarray .int, 2) := by decide +kernel
theorem d_Mo_init_406 : decode b_Mo_init 406 = .ok (.putfield 155, 3) := by decide +kernel
theorem d_Mo_init_409 : decode b_Mo_init 409 = .ok (.aload_n 0, 1) := by decide +kernel
theorem d_Mo_init_410 : decode b_Mo_init 410 = .ok (.sipush 7000, 3) := by decide +kernel
theorem d_Mo_init_413 : decode b_Mo_init 413 = .ok (.newarray .boolean, 2) := by decide +kernel
theorem d_Mo_init_415 : decode b_Mo_init 415 = .ok (.putfield 158, 3) := by decide +kernel
theorem d_Mo_init_418 : decode b_Mo_init 418 = .ok (.aload_n 0, 1) := by decide +kernel
theorem d_Mo_init_419 : decode b_Mo_init 419 = .ok (.sipush 13000, 3) := by decide +kernel
theorem d_Mo_init_422 : decode b_Mo_init 422 = .ok (.newarray .int, 2) := by decide +kernel
theorem d_Mo_init_424 : decode b_Mo_init 424 = .ok (.putfield 161, 3) := by decide +kernel
theorem d_Mo_init_427 : decode b_Mo_init 427 = .ok (.aload_n 0, 1) := by decide +kernel
theorem d_Mo_init_428 : decode b_Mo_init 428 = .ok (.sipush 13000, 3) := by decide +kernel
theorem d_Mo_init_431 : decode b_Mo_init 431 = .ok (.newarray .int, 2) := by decide +kernel
theorem d_Mo_init_433 : decode b_Mo_init 433 = .ok (.putfield 164, 3) := by decide +kernel
theorem d_Mo_init_436 : decode b_Mo_init 436 = .ok (.aload_n 0, 1) := by decide +kernel
theorem d_Mo_init_437 : decode b_Mo_init 437 = .ok (.sipush 13000, 3) := by decide +kernel
theorem d_Mo_init_440 : decode b_Mo_init 440 = .ok (.newarray .int, 2) := by decide +kernel
theorem d_Mo_init_442 : decode b_Mo_init 442 = .ok (.putfield 167, 3) := by decide +kernel
theorem d_Mo_init_445 : decode b_Mo_init 445 = .ok (.aload_n 0, 1) := by decide +kernel
theorem d_Mo_init_446 : decode b_Mo_init 446 = .ok (.bipush 40, 2) := by decide +kernel
theorem d_Mo_init_448 : decode b_Mo_init 448 = .ok (.newarray .int, 2) := by decide +kernel
theorem d_Mo_init_450 : decode b_Mo_init 450 = .ok (.putfield 170, 3) := by decide +kernel
theorem d_Mo_init_453 : decode b_Mo_init 453 = .ok (.aload_n 0, 1) := by decide +kernel
theorem d_Mo_init_454 : decode b_Mo_init 454 = .ok (.bipush 40, 2) := by decide +kernel
theorem d_Mo_init_456 : decode b_Mo_init 456 = .ok (.newarray .int, 2) := by decide +kernel
theorem d_Mo_init_458 : decode b_Mo_init 458 = .ok (.putfield 173, 3) := by decide +kernel
theorem d_Mo_init_461 : decode b_Mo_init 461 = .ok (.return_, 1) := by decide +kernel
theorem d_Fa_total_0 : decode b_Fa_total 0 = .ok (.aload_n 0, 1) := by decide +kernel
theorem d_Fa_total_1 : decode b_Fa_total 1 = .ok (.getfield 24, 3) := by decide +kernel
theorem d_Fa_total_4 : decode b_Fa_total 4 = .ok (.ireturn, 1) := by decide +kernel
theorem d_Fa_clear_0 : decode b_Fa_clear 0 = .ok (.aload_n 0, 1) := by decide +kernel
theorem d_Fa_clear_1 : decode b_Fa_clear 1 = .ok (.iconst 0, 1) := by decide +kernel
theorem d_Fa_clear_2 : decode b_Fa_clear 2 = .ok (.putfield 24, 3) := by decide +kernel
theorem d_Fa_clear_5 : decode b_Fa_clear 5 = .ok (.return_, 1) := by decide +kernel
theorem d_Fa_tell_0 : decode b_Fa_tell 0 = .ok (.iload_n 1, 1) := by decide +kernel
theorem d_Fa_tell_1 : decode b_Fa_tell 1 = .ok (.ifCond .lt 17, 3) := by decide +kernel
theorem d_Fa_tell_18 : decode b_Fa_tell 18 = .ok (.iconst (-1), 1) := by decide +kernel
theorem d_Fa_tell_19 : decode b_Fa_tell 19 = .ok (.ireturn, 1) := by decide +kernel
theorem d_Fa_tell_4 : decode b_Fa_tell 4 = .ok (.iload_n 1, 1) := by decide +kernel
theorem d_Fa_tell_5 : decode b_Fa_tell 5 = .ok (.aload_n 0, 1) := by decide +kernel
theorem d_Fa_tell_6 : decode b_Fa_tell 6 = .ok (.getfield 24, 3) := by decide +kernel
theorem d_Fa_tell_9 : decode b_Fa_tell 9 = .ok (.if_icmp .ge 9, 3) := by decide +kernel
theorem d_Ex_listing_0 : decode b_Ex_listing 0 = .ok (.aload_n 0, 1) := by decide +kernel
theorem d_Ex_listing_1 : decode b_Ex_listing 1 = .ok (.getfield 12, 3) := by decide +kernel
theorem d_Ex_listing_4 : decode b_Ex_listing 4 = .ok (.areturn, 1) := by decide +kernel
theorem d_Ex_missing_0 : decode b_Ex_missing 0 = .ok (.aload_n 0, 1) := by decide +kernel
theorem d_Ex_missing_1 : decode b_Ex_missing 1 = .ok (.getfield 44, 3) := by decide +kernel
theorem d_Ex_missing_4 : decode b_Ex_missing 4 = .ok (.ireturn, 1) := by decide +kernel
theorem d_Li_size_0 : decode b_Li_size 0 = .ok (.aload_n 0, 1) := by decide +kernel
theorem d_Li_size_1 : decode b_Li_size 1 = .ok (.getfield 37, 3) := by decide +kernel
theorem d_Li_size_4 : decode b_Li_size 4 = .ok (.ireturn, 1) := by decide +kernel
theorem d_Li_tell_0 : decode b_Li_tell 0 = .ok (.iload_n 1, 1) := by decide +kernel
theorem d_Li_tell_1 : decode b_Li_tell 1 = .ok (.ifCond .lt 11, 3) := by decide +kernel
theorem d_Li_tell_12 : decode b_Li_tell 12 = .ok (.iconst (-1), 1) := by decide +kernel
theorem d_Li_tell_13 : decode b_Li_tell 13 = .ok (.ireturn, 1) := by decide +kernel
theorem d_Li_tell_4 : decode b_Li_tell 4 = .ok (.iload_n 1, 1) := by decide +kernel
theorem d_Li_tell_5 : decode b_Li_tell 5 = .ok (.aload_n 0, 1) := by decide +kernel
theorem d_Li_tell_6 : decode b_Li_tell 6 = .ok (.getfield 37, 3) := by decide +kernel
theorem d_Li_tell_9 : decode b_Li_tell 9 = .ok (.if_icmp .lt 5, 3) := by decide +kernel
theorem d_Li_letterOf_0 : decode b_Li_letterOf 0 = .ok (.iload_n 1, 1) := by decide +kernel
theorem d_Li_letterOf_1 : decode b_Li_letterOf 1 = .ok (.ifCond .lt 15, 3) := by decide +kernel
theorem d_Li_letterOf_16 : decode b_Li_letterOf 16 = .ok (.iconst (-1), 1) := by decide +kernel
theorem d_Li_letterOf_17 : decode b_Li_letterOf 17 = .ok (.ireturn, 1) := by decide +kernel
theorem d_Li_letterOf_4 : decode b_Li_letterOf 4 = .ok (.iload_n 1, 1) := by decide +kernel
theorem d_Li_letterOf_5 : decode b_Li_letterOf 5 = .ok (.aload_n 0, 1) := by decide +kernel
theorem d_Li_letterOf_6 : decode b_Li_letterOf 6 = .ok (.getfield 37, 3) := by decide +kernel
theorem d_Li_letterOf_9 : decode b_Li_letterOf 9 = .ok (.if_icmp .ge 7, 3) := by decide +kernel
theorem d_Al_size_0 : decode b_Al_size 0 = .ok (.aload_n 0, 1) := by decide +kernel
theorem d_Al_size_1 : decode b_Al_size 1 = .ok (.getfield 48, 3) := by decide +kernel
theorem d_Al_size_4 : decode b_Al_size 4 = .ok (.ireturn, 1) := by decide +kernel
theorem d_Jt_nameLength_0 : decode b_Jt_nameLength 0 = .ok (.iconst 0, 1) := by decide +kernel
theorem d_Jt_nameLength_1 : decode b_Jt_nameLength 1 = .ok (.istore_n 2, 1) := by decide +kernel
theorem d_Jt_nameLength_2 : decode b_Jt_nameLength 2 = .ok (.iconst 0, 1) := by decide +kernel
theorem d_Jt_nameLength_3 : decode b_Jt_nameLength 3 = .ok (.istore_n 3, 1) := by decide +kernel
theorem d_Jt_nameLength_4 : decode b_Jt_nameLength 4 = .ok (.iload_n 3, 1) := by decide +kernel
theorem d_Jt_nameLength_5 : decode b_Jt_nameLength 5 = .ok (.bipush 64, 2) := by decide +kernel
theorem d_Jt_nameLength_7 : decode b_Jt_nameLength 7 = .ok (.if_icmp .ge 24, 3) := by decide +kernel
theorem d_Jt_nameLength_10 : decode b_Jt_nameLength 10 = .ok (.lload_n 0, 1) := by decide +kernel
theorem d_Jt_nameLength_11 : decode b_Jt_nameLength 11 = .ok (.iload_n 3, 1) := by decide +kernel
theorem d_Jt_nameLength_12 : decode b_Jt_nameLength 12 = .ok (.lushr, 1) := by decide +kernel
theorem d_Jt_nameLength_13 : decode b_Jt_nameLength 13 = .ok (.ldc2_w 191, 3) := by decide +kernel
theorem d_Jt_nameLength_16 : decode b_Jt_nameLength 16 = .ok (.land, 1) := by decide +kernel
theorem d_Jt_nameLength_17 : decode b_Jt_nameLength 17 = .ok (.lconst 0, 1) := by decide +kernel
theorem d_Jt_nameLength_18 : decode b_Jt_nameLength 18 = .ok (.lcmp, 1) := by decide +kernel
theorem d_Jt_nameLength_19 : decode b_Jt_nameLength 19 = .ok (.ifCond .eq 6, 3) := by decide +kernel
theorem d_Jt_nameLength_25 : decode b_Jt_nameLength 25 = .ok (.iinc 3 8, 3) := by decide +kernel
theorem d_Jt_nameLength_28 : decode b_Jt_nameLength 28 = .ok (.goto (-24), 3) := by decide +kernel
theorem d_Jt_nameLength_31 : decode b_Jt_nameLength 31 = .ok (.iload_n 2, 1) := by decide +kernel
theorem d_Jt_nameLength_32 : decode b_Jt_nameLength 32 = .ok (.ireturn, 1) := by decide +kernel
theorem d_Jt_nameSign_0 : decode b_Jt_nameSign 0 = .ok (.lload_n 0, 1) := by decide +kernel
theorem d_Jt_nameSign_1 : decode b_Jt_nameSign 1 = .ok (.invokestatic 193, 3) := by decide +kernel
theorem d_Jt_nameSign_4 : decode b_Jt_nameSign 4 = .ok (.istore_n 3, 1) := by decide +kernel
theorem d_Jt_nameSign_5 : decode b_Jt_nameSign 5 = .ok (.iload_n 2, 1) := by decide +kernel
theorem d_Jt_nameSign_6 : decode b_Jt_nameSign 6 = .ok (.ifCond .lt 8, 3) := by decide +kernel
theorem d_Jt_nameSign_14 : decode b_Jt_nameSign 14 = .ok (.iconst (-1), 1) := by decide +kernel
theorem d_Jt_nameSign_15 : decode b_Jt_nameSign 15 = .ok (.ireturn, 1) := by decide +kernel
theorem d_Jt_nameSign_9 : decode b_Jt_nameSign 9 = .ok (.iload_n 2, 1) := by decide +kernel
theorem d_Jt_nameSign_10 : decode b_Jt_nameSign 10 = .ok (.iload_n 3, 1) := by decide +kernel
theorem d_Jt_nameSign_11 : decode b_Jt_nameSign 11 = .ok (.if_icmp .lt 5, 3) := by decide +kernel
theorem d_Ex_calledSign_0 : decode b_Ex_calledSign 0 = .ok (.aload_n 0, 1) := by decide +kernel
theorem d_Ex_calledSign_1 : decode b_Ex_calledSign 1 = .ok (.getfield 48, 3) := by decide +kernel
theorem d_Ex_calledSign_4 : decode b_Ex_calledSign 4 = .ok (.iload_n 1, 1) := by decide +kernel
theorem d_Ex_calledSign_5 : decode b_Ex_calledSign 5 = .ok (.invokestatic 52, 3) := by decide +kernel
theorem d_Ex_calledSign_8 : decode b_Ex_calledSign 8 = .ok (.ireturn, 1) := by decide +kernel
theorem d_Jt_hasJob_0 : decode b_Jt_hasJob 0 = .ok (.aload_n 0, 1) := by decide +kernel
theorem d_Jt_hasJob_1 : decode b_Jt_hasJob 1 = .ok (.getfield 77, 3) := by decide +kernel
theorem d_Jt_hasJob_4 : decode b_Jt_hasJob 4 = .ok (.ifnull 17, 3) := by decide +kernel
theorem d_Jt_hasJob_21 : decode b_Jt_hasJob 21 = .ok (.iconst 0, 1) := by decide +kernel
theorem d_Jt_hasJob_22 : decode b_Jt_hasJob 22 = .ok (.ireturn, 1) := by decide +kernel
theorem d_Jt_statementOf_0 : decode b_Jt_statementOf 0 = .ok (.aload_n 0, 1) := by decide +kernel
theorem d_Jt_statementOf_1 : decode b_Jt_statementOf 1 = .ok (.getfield 77, 3) := by decide +kernel
theorem d_Jt_statementOf_4 : decode b_Jt_statementOf 4 = .ok (.ifnonnull 7, 3) := by decide +kernel
theorem d_Jt_statementOf_7 : decode b_Jt_statementOf 7 = .ok (.aconst_null, 1) := by decide +kernel
theorem d_Jt_statementOf_8 : decode b_Jt_statementOf 8 = .ok (.goto 11, 3) := by decide +kernel
theorem d_Jt_statementOf_19 : decode b_Jt_statementOf 19 = .ok (.areturn, 1) := by decide +kernel
theorem d_Jt_statement_0 : decode b_Jt_statement 0 = .ok (.aload_n 0, 1) := by decide +kernel
theorem d_Jt_statement_1 : decode b_Jt_statement 1 = .ok (.iload_n 1, 1) := by decide +kernel
theorem d_Jt_statement_2 : decode b_Jt_statement 2 = .ok (.invokevirtual 93, 3) := by decide +kernel
theorem d_Jt_statement_5 : decode b_Jt_statement 5 = .ok (.astore_n 3, 1) := by decide +kernel
theorem d_Jt_statement_6 : decode b_Jt_statement 6 = .ok (.aload_n 3, 1) := by decide +kernel
theorem d_Jt_statement_7 : decode b_Jt_statement 7 = .ok (.ifnonnull 7, 3) := by decide +kernel
theorem d_Jt_statement_10 : decode b_Jt_statement 10 = .ok (.iconst (-1), 1) := by decide +kernel
theorem d_Jt_statement_11 : decode b_Jt_statement 11 = .ok (.goto 8, 3) := by decide +kernel
theorem d_Jt_statement_19 : decode b_Jt_statement 19 = .ok (.ireturn, 1) := by decide +kernel
theorem d_Jt_parameter_0 : decode b_Jt_parameter 0 = .ok (.aload_n 0, 1) := by decide +kernel
theorem d_Jt_parameter_1 : decode b_Jt_parameter 1 = .ok (.iload_n 1, 1) := by decide +kernel
theorem d_Jt_parameter_2 : decode b_Jt_parameter 2 = .ok (.invokevirtual 93, 3) := by decide +kernel
theorem d_Jt_parameter_5 : decode b_Jt_parameter 5 = .ok (.astore 4, 2) := by decide +kernel
theorem d_Jt_parameter_7 : decode b_Jt_parameter 7 = .ok (.aload 4, 2) := by decide +kernel
theorem d_Jt_parameter_9 : decode b_Jt_parameter 9 = .ok (.ifnull 16, 3) := by decide +kernel
theorem d_Jt_parameter_25 : decode b_Jt_parameter 25 = .ok (.iconst (-1), 1) := by decide +kernel
theorem d_Jt_parameter_26 : decode b_Jt_parameter 26 = .ok (.ireturn, 1) := by decide +kernel
theorem d_Jt_data_0 : decode b_Jt_data 0 = .ok (.aload_n 0, 1) := by decide +kernel
theorem d_Jt_data_1 : decode b_Jt_data 1 = .ok (.iload_n 1, 1) := by decide +kernel
theorem d_Jt_data_2 : decode b_Jt_data 2 = .ok (.invokevirtual 93, 3) := by decide +kernel
theorem d_Jt_data_5 : decode b_Jt_data 5 = .ok (.astore_n 3, 1) := by decide +kernel
theorem d_Jt_data_6 : decode b_Jt_data 6 = .ok (.aload_n 3, 1) := by decide +kernel
theorem d_Jt_data_7 : decode b_Jt_data 7 = .ok (.ifnull 15, 3) := by decide +kernel
theorem d_Jt_data_22 : decode b_Jt_data 22 = .ok (.iconst (-1), 1) := by decide +kernel
theorem d_Jt_data_23 : decode b_Jt_data 23 = .ok (.ireturn, 1) := by decide +kernel
theorem d_Jt_fault_0 : decode b_Jt_fault 0 = .ok (.aload_n 0, 1) := by decide +kernel
theorem d_Jt_fault_1 : decode b_Jt_fault 1 = .ok (.getfield 16, 3) := by decide +kernel
theorem d_Jt_fault_4 : decode b_Jt_fault 4 = .ok (.iload_n 1, 1) := by decide +kernel
theorem d_Jt_fault_5 : decode b_Jt_fault 5 = .ok (.iload_n 2, 1) := by decide +kernel
theorem d_Jt_fault_6 : decode b_Jt_fault 6 = .ok (.invokevirtual 124, 3) := by decide +kernel
theorem d_Jt_fault_9 : decode b_Jt_fault 9 = .ok (.ireturn, 1) := by decide +kernel
theorem d_Jt_expand_0 : decode b_Jt_expand 0 = .ok (.aload_n 0, 1) := by decide +kernel
theorem d_Jt_expand_1 : decode b_Jt_expand 1 = .ok (.invokevirtual 126, 3) := by decide +kernel
theorem d_Jt_expand_4 : decode b_Jt_expand 4 = .ok (.ifCond .ne 6, 3) := by decide +kernel
theorem d_Jt_expand_7 : decode b_Jt_expand 7 = .ok (.bipush (-2), 2) := by decide +kernel
theorem d_Jt_expand_9 : decode b_Jt_expand 9 = .ok (.ireturn, 1) := by decide +kernel
theorem d_Jt_at_0 : decode b_Jt_at 0 = .ok (.aload_n 0, 1) := by decide +kernel
theorem d_Jt_at_1 : decode b_Jt_at 1 = .ok (.getfield 30, 3) := by decide +kernel
theorem d_Jt_at_4 : decode b_Jt_at 4 = .ok (.invokevirtual 143, 3) := by decide +kernel
theorem d_Jt_at_7 : decode b_Jt_at 7 = .ok (.iload_n 1, 1) := by decide +kernel
theorem d_Jt_at_8 : decode b_Jt_at 8 = .ok (.iload_n 2, 1) := by decide +kernel
theorem d_Jt_at_9 : decode b_Jt_at 9 = .ok (.invokevirtual 147, 3) := by decide +kernel
theorem d_Jt_at_12 : decode b_Jt_at 12 = .ok (.ireturn, 1) := by decide +kernel
theorem d_Jt_letter_0 : decode b_Jt_letter 0 = .ok (.aload_n 0, 1) := by decide +kernel
theorem d_Jt_letter_1 : decode b_Jt_letter 1 = .ok (.getfield 30, 3) := by decide +kernel
theorem d_Jt_letter_4 : decode b_Jt_letter 4 = .ok (.invokevirtual 143, 3) := by decide +kernel
theorem d_Jt_letter_7 : decode b_Jt_letter 7 = .ok (.iload_n 1, 1) := by decide +kernel
theorem d_Jt_letter_8 : decode b_Jt_letter 8 = .ok (.iload_n 2, 1) := by decide +kernel
theorem d_Jt_letter_9 : decode b_Jt_letter 9 = .ok (.invokevirtual 150, 3) := by decide +kernel
theorem d_Jt_letter_12 : decode b_Jt_letter 12 = .ok (.ireturn, 1) := by decide +kernel
theorem d_Jt_ring_0 : decode b_Jt_ring 0 = .ok (.aload_n 0, 1) := by decide +kernel
theorem d_Jt_ring_1 : decode b_Jt_ring 1 = .ok (.getfield 30, 3) := by decide +kernel
theorem d_Jt_ring_4 : decode b_Jt_ring 4 = .ok (.iload_n 1, 1) := by decide +kernel
theorem d_Jt_ring_5 : decode b_Jt_ring 5 = .ok (.invokevirtual 153, 3) := by decide +kernel
theorem d_Jt_ring_8 : decode b_Jt_ring 8 = .ok (.ireturn, 1) := by decide +kernel
theorem d_Te_init_0 : decode b_Te_init 0 = .ok (.aload_n 0, 1) := by decide +kernel
theorem d_Te_init_1 : decode b_Te_init 1 = .ok (.invokespecial 3, 3) := by decide +kernel
theorem d_Te_init_4 : decode b_Te_init 4 = .ok (.aload_n 0, 1) := by decide +kernel
theorem d_Te_init_5 : decode b_Te_init 5 = .ok (.new 9, 3) := by decide +kernel
theorem d_Te_init_8 : decode b_Te_init 8 = .ok (.dup, 1) := by decide +kernel
theorem d_Te_init_9 : decode b_Te_init 9 = .ok (.invokespecial 11, 3) := by decide +kernel
theorem d_Te_init_12 : decode b_Te_init 12 = .ok (.putfield 12, 3) := by decide +kernel
theorem d_Te_init_15 : decode b_Te_init 15 = .ok (.aload_n 0, 1) := by decide +kernel
theorem d_Te_init_16 : decode b_Te_init 16 = .ok (.new 18, 3) := by decide +kernel
theorem d_Te_init_19 : decode b_Te_init 19 = .ok (.dup, 1) := by decide +kernel
theorem d_Te_init_20 : decode b_Te_init 20 = .ok (.invokespecial 20, 3) := by decide +kernel
theorem d_Te_init_23 : decode b_Te_init 23 = .ok (.putfield 21, 3) := by decide +kernel
theorem d_Te_init_26 : decode b_Te_init 26 = .ok (.aload_n 0, 1) := by decide +kernel
theorem d_Te_init_27 : decode b_Te_init 27 = .ok (.new 18, 3) := by decide +kernel
theorem d_Te_init_30 : decode b_Te_init 30 = .ok (.dup, 1) := by decide +kernel
theorem d_Te_init_31 : decode b_Te_init 31 = .ok (.invokespecial 20, 3) := by decide +kernel
theorem d_Te_init_34 : decode b_Te_init 34 = .ok (.putfield 25, 3) := by decide +kernel
theorem d_Te_init_37 : decode b_Te_init 37 = .ok (.return_, 1) := by decide +kernel
theorem d_Ln_totalOf_0 : decode b_Ln_totalOf 0 = .ok (.iconst 0, 1) := by decide +kernel
theorem d_Ln_totalOf_1 : decode b_Ln_totalOf 1 = .ok (.istore_n 2, 1) := by decide +kernel
theorem d_Ln_totalOf_2 : decode b_Ln_totalOf 2 = .ok (.iconst 0, 1) := by decide +kernel
theorem d_Ln_totalOf_3 : decode b_Ln_totalOf 3 = .ok (.istore_n 3, 1) := by decide +kernel
theorem d_Ln_totalOf_4 : decode b_Ln_totalOf 4 = .ok (.iload_n 3, 1) := by decide +kernel
theorem d_Ln_totalOf_5 : decode b_Ln_totalOf 5 = .ok (.iload_n 1, 1) := by decide +kernel
theorem d_Ln_totalOf_6 : decode b_Ln_totalOf 6 = .ok (.if_icmp .ge 27, 3) := by decide +kernel
theorem d_Ln_totalOf_33 : decode b_Ln_totalOf 33 = .ok (.iload_n 2, 1) := by decide +kernel
theorem d_Ln_totalOf_34 : decode b_Ln_totalOf 34 = .ok (.ireturn, 1) := by decide +kernel
theorem d_Ln_init_0 : decode b_Ln_init 0 = .ok (.aload_n 0, 1) := by decide +kernel
theorem d_Ln_init_1 : decode b_Ln_init 1 = .ok (.invokespecial 3, 3) := by decide +kernel
theorem d_Ln_init_4 : decode b_Ln_init 4 = .ok (.aload_n 0, 1) := by decide +kernel
theorem d_Ln_init_5 : decode b_Ln_init 5 = .ok (.aload_n 1, 1) := by decide +kernel
theorem d_Ln_init_6 : decode b_Ln_init 6 = .ok (.putfield 9, 3) := by decide +kernel
theorem d_Ln_init_9 : decode b_Ln_init 9 = .ok (.iload_n 2, 1) := by decide +kernel
theorem d_Ln_init_10 : decode b_Ln_init 10 = .ok (.aload_n 1, 1) := by decide +kernel
theorem d_Ln_init_11 : decode b_Ln_init 11 = .ok (.arraylength, 1) := by decide +kernel
theorem d_Ln_init_12 : decode b_Ln_init 12 = .ok (.invokestatic 15, 3) := by decide +kernel
theorem d_Ln_init_15 : decode b_Ln_init 15 = .ok (.istore_n 3, 1) := by decide +kernel
theorem d_Ln_init_16 : decode b_Ln_init 16 = .ok (.aload_n 0, 1) := by decide +kernel
theorem d_Ln_init_17 : decode b_Ln_init 17 = .ok (.aload_n 1, 1) := by decide +kernel
theorem d_Ln_init_18 : decode b_Ln_init 18 = .ok (.iload_n 3, 1) := by decide +kernel
theorem d_Ln_init_19 : decode b_Ln_init 19 = .ok (.invokestatic 21, 3) := by decide +kernel
theorem d_Ln_init_22 : decode b_Ln_init 22 = .ok (.putfield 25, 3) := by decide +kernel
theorem d_Ln_init_25 : decode b_Ln_init 25 = .ok (.aload_n 0, 1) := by decide +kernel
theorem d_Ln_init_26 : decode b_Ln_init 26 = .ok (.aload_n 0, 1) := by decide +kernel
theorem d_Ln_init_27 : decode b_Ln_init 27 = .ok (.getfield 25, 3) := by decide +kernel
theorem d_Ln_init_30 : decode b_Ln_init 30 = .ok (.newarray .int, 2) := by decide +kernel
theorem d_Ln_init_32 : decode b_Ln_init 32 = .ok (.putfield 29, 3) := by decide +kernel
theorem d_Ln_init_35 : decode b_Ln_init 35 = .ok (.aload_n 0, 1) := by decide +kernel
theorem d_Ln_init_36 : decode b_Ln_init 36 = .ok (.aload_n 0, 1) := by decide +kernel
theorem d_Ln_init_37 : decode b_Ln_init 37 = .ok (.getfield 25, 3) := by decide +kernel
theorem d_Ln_init_40 : decode b_Ln_init 40 = .ok (.newarray .int, 2) := by decide +kernel
theorem d_Ln_init_42 : decode b_Ln_init 42 = .ok (.putfield 33, 3) := by decide +kernel
theorem d_Ln_init_45 : decode b_Ln_init 45 = .ok (.iconst 0, 1) := by decide +kernel
theorem d_Ln_init_46 : decode b_Ln_init 46 = .ok (.istore 4, 2) := by decide +kernel
theorem d_Ln_init_48 : decode b_Ln_init 48 = .ok (.iconst 0, 1) := by decide +kernel
theorem d_Ln_init_49 : decode b_Ln_init 49 = .ok (.istore 5, 2) := by decide +kernel
theorem d_Ln_init_51 : decode b_Ln_init 51 = .ok (.iconst 0, 1) := by decide +kernel
theorem d_Ln_init_52 : decode b_Ln_init 52 = .ok (.istore 6, 2) := by decide +kernel
theorem d_Ln_init_54 : decode b_Ln_init 54 = .ok (.iload 6, 2) := by decide +kernel
theorem d_Ln_init_56 : decode b_Ln_init 56 = .ok (.iload_n 3, 1) := by decide +kernel
theorem d_Ln_init_57 : decode b_Ln_init 57 = .ok (.if_icmp .gt 68, 3) := by decide +kernel
theorem d_Ln_init_60 : decode b_Ln_init 60 = .ok (.iload 4, 2) := by decide +kernel
theorem d_Ln_init_62 : decode b_Ln_init 62 = .ok (.aload_n 0, 1) := by decide +kernel
theorem d_Ln_init_63 : decode b_Ln_init 63 = .ok (.getfield 25, 3) := by decide +kernel
theorem d_Ln_init_66 : decode b_Ln_init 66 = .ok (.if_icmp .ge 59, 3) := by decide +kernel
theorem d_Ln_init_125 : decode b_Ln_init 125 = .ok (.return_, 1) := by decide +kernel
theorem d_Ln_total_0 : decode b_Ln_total 0 = .ok (.aload_n 0, 1) := by decide +kernel
theorem d_Ln_total_1 : decode b_Ln_total 1 = .ok (.getfield 25, 3) := by decide +kernel
theorem d_Ln_total_4 : decode b_Ln_total 4 = .ok (.ireturn, 1) := by decide +kernel
theorem d_Te_rows_0 : decode b_Te_rows 0 = .ok (.aload_n 0, 1) := by decide +kernel
theorem d_Te_rows_1 : decode b_Te_rows 1 = .ok (.getfield 12, 3) := by decide +kernel
theorem d_Te_rows_4 : decode b_Te_rows 4 = .ok (.areturn, 1) := by decide +kernel
theorem d_Te_isOpen_0 : decode b_Te_isOpen 0 = .ok (.aload_n 0, 1) := by decide +kernel
theorem d_Te_isOpen_1 : decode b_Te_isOpen 1 = .ok (.getfield 42, 3) := by decide +kernel
theorem d_Te_isOpen_4 : decode b_Te_isOpen 4 = .ok (.ifnonnull 10, 3) := by decide +kernel
theorem d_Te_isOpen_7 : decode b_Te_isOpen 7 = .ok (.aload_n 0, 1) := by decide +kernel
theorem d_Te_isOpen_8 : decode b_Te_isOpen 8 = .ok (.getfield 45, 3) := by decide +kernel
theorem d_Te_isOpen_11 : decode b_Te_isOpen 11 = .ok (.ifCond .le 7, 3) := by decide +kernel
theorem d_Te_isOpen_18 : decode b_Te_isOpen 18 = .ok (.iconst 0, 1) := by decide +kernel
theorem d_Te_isOpen_19 : decode b_Te_isOpen 19 = .ok (.ireturn, 1) := by decide +kernel
theorem d_Te_job_0 : decode b_Te_job 0 = .ok (.aload_n 0, 1) := by decide +kernel
theorem d_Te_job_1 : decode b_Te_job 1 = .ok (.getfield 28, 3) := by decide +kernel
theorem d_Te_job_4 : decode b_Te_job 4 = .ok (.areturn, 1) := by decide +kernel
theorem d_Te_procedures_0 : decode b_Te_procedures 0 = .ok (.aload_n 0, 1) := by decide +kernel
theorem d_Te_procedures_1 : decode b_Te_procedures 1 = .ok (.getfield 25, 3) := by decide +kernel
theorem d_Te_procedures_4 : decode b_Te_procedures 4 = .ok (.areturn, 1) := by decide +kernel
theorem d_Te_size_0 : decode b_Te_size 0 = .ok (.aload_n 0, 1) := by decide +kernel
theorem d_Te_size_1 : decode b_Te_size 1 = .ok (.getfield 21, 3) := by decide +kernel
theorem d_Te_size_4 : decode b_Te_size 4 = .ok (.invokevirtual 32, 3) := by decide +kernel
theorem d_Te_size_7 : decode b_Te_size 7 = .ok (.ireturn, 1) := by decide +kernel
theorem d_Re_init_0 : decode b_Re_init 0 = .ok (.aload_n 0, 1) := by decide +kernel
theorem d_Re_init_1 : decode b_Re_init 1 = .ok (.invokespecial 3, 3) := by decide +kernel
theorem d_Re_init_4 : decode b_Re_init 4 = .ok (.aload_n 0, 1) := by decide +kernel
theorem d_Re_init_5 : decode b_Re_init 5 = .ok (.aload_n 1, 1) := by decide +kernel
theorem d_Re_init_6 : decode b_Re_init 6 = .ok (.putfield 9, 3) := by decide +kernel
theorem d_Re_init_9 : decode b_Re_init 9 = .ok (.aload_n 0, 1) := by decide +kernel
theorem d_Re_init_10 : decode b_Re_init 10 = .ok (.aload_n 2, 1) := by decide +kernel
theorem d_Re_init_11 : decode b_Re_init 11 = .ok (.putfield 15, 3) := by decide +kernel
theorem d_Re_init_14 : decode b_Re_init 14 = .ok (.aload_n 0, 1) := by decide +kernel
theorem d_Re_init_15 : decode b_Re_init 15 = .ok (.aload_n 2, 1) := by decide +kernel
theorem d_Re_init_16 : decode b_Re_init 16 = .ok (.invokevirtual 19, 3) := by decide +kernel
theorem d_Re_init_19 : decode b_Re_init 19 = .ok (.putfield 25, 3) := by decide +kernel
theorem d_Re_init_22 : decode b_Re_init 22 = .ok (.aload_n 0, 1) := by decide +kernel
theorem d_Re_init_23 : decode b_Re_init 23 = .ok (.aload_n 3, 1) := by decide +kernel
theorem d_Re_init_24 : decode b_Re_init 24 = .ok (.putfield 28, 3) := by decide +kernel
theorem d_Re_init_27 : decode b_Re_init 27 = .ok (.return_, 1) := by decide +kernel
theorem d_Jt_shelve_0 : decode b_Jt_shelve 0 = .ok (.aload_n 1, 1) := by decide +kernel
theorem d_Jt_shelve_1 : decode b_Jt_shelve 1 = .ok (.invokevirtual 164, 3) := by decide +kernel
theorem d_Jt_shelve_4 : decode b_Jt_shelve 4 = .ok (.astore_n 2, 1) := by decide +kernel
theorem d_Jt_shelve_5 : decode b_Jt_shelve 5 = .ok (.iconst 0, 1) := by decide +kernel
theorem d_Jt_shelve_6 : decode b_Jt_shelve 6 = .ok (.istore_n 3, 1) := by decide +kernel
theorem d_Jt_shelve_7 : decode b_Jt_shelve 7 = .ok (.iconst 0, 1) := by decide +kernel
theorem d_Jt_shelve_8 : decode b_Jt_shelve 8 = .ok (.istore 4, 2) := by decide +kernel
theorem d_Jt_shelve_10 : decode b_Jt_shelve 10 = .ok (.iload 4, 2) := by decide +kernel
theorem d_Jt_shelve_12 : decode b_Jt_shelve 12 = .ok (.aload_n 2, 1) := by decide +kernel
theorem d_Jt_shelve_13 : decode b_Jt_shelve 13 = .ok (.invokevirtual 156, 3) := by decide +kernel
theorem d_Jt_shelve_16 : decode b_Jt_shelve 16 = .ok (.if_icmp .ge 35, 3) := by decide +kernel
theorem d_Jt_shelve_51 : decode b_Jt_shelve 51 = .ok (.aload_n 0, 1) := by decide +kernel
theorem d_Jt_shelve_52 : decode b_Jt_shelve 52 = .ok (.getfield 23, 3) := by decide +kernel
theorem d_Jt_shelve_55 : decode b_Jt_shelve 55 = .ok (.invokevirtual 156, 3) := by decide +kernel
theorem d_Jt_shelve_58 : decode b_Jt_shelve 58 = .ok (.iload_n 3, 1) := by decide +kernel
theorem d_Jt_shelve_59 : decode b_Jt_shelve 59 = .ok (.iadd, 1) := by decide +kernel
theorem d_Jt_shelve_60 : decode b_Jt_shelve 60 = .ok (.bipush 12, 2) := by decide +kernel
theorem d_Jt_shelve_62 : decode b_Jt_shelve 62 = .ok (.if_icmp .le 5, 3) := by decide +kernel
theorem d_Jt_shelve_67 : decode b_Jt_shelve 67 = .ok (.iconst 0, 1) := by decide +kernel
theorem d_Jt_shelve_68 : decode b_Jt_shelve 68 = .ok (.istore 4, 2) := by decide +kernel
theorem d_Jt_shelve_70 : decode b_Jt_shelve 70 = .ok (.iload 4, 2) := by decide +kernel
theorem d_Jt_shelve_72 : decode b_Jt_shelve 72 = .ok (.aload_n 2, 1) := by decide +kernel
theorem d_Jt_shelve_73 : decode b_Jt_shelve 73 = .ok (.invokevirtual 156, 3) := by decide +kernel
theorem d_Jt_shelve_76 : decode b_Jt_shelve 76 = .ok (.if_icmp .ge 65, 3) := by decide +kernel
theorem d_Jt_shelve_141 : decode b_Jt_shelve 141 = .ok (.iconst 1, 1) := by decide +kernel
theorem d_Jt_shelve_142 : decode b_Jt_shelve 142 = .ok (.ireturn, 1) := by decide +kernel
theorem d_Jt_read_0 : decode b_Jt_read 0 = .ok (.aload_n 0, 1) := by decide +kernel
theorem d_Jt_read_1 : decode b_Jt_read 1 = .ok (.getfield 16, 3) := by decide +kernel
theorem d_Jt_read_4 : decode b_Jt_read 4 = .ok (.invokevirtual 42, 3) := by decide +kernel
theorem d_Jt_read_7 : decode b_Jt_read 7 = .ok (.new 45, 3) := by decide +kernel
theorem d_Jt_read_10 : decode b_Jt_read 10 = .ok (.dup, 1) := by decide +kernel
theorem d_Jt_read_11 : decode b_Jt_read 11 = .ok (.invokespecial 47, 3) := by decide +kernel
theorem d_Jt_read_14 : decode b_Jt_read 14 = .ok (.astore_n 1, 1) := by decide +kernel
theorem d_Jt_read_15 : decode b_Jt_read 15 = .ok (.new 48, 3) := by decide +kernel
theorem d_Jt_read_18 : decode b_Jt_read 18 = .ok (.dup, 1) := by decide +kernel
theorem d_Jt_read_19 : decode b_Jt_read 19 = .ok (.aload_n 0, 1) := by decide +kernel
theorem d_Jt_read_20 : decode b_Jt_read 20 = .ok (.getfield 9, 3) := by decide +kernel
theorem d_Jt_read_23 : decode b_Jt_read 23 = .ok (.aload_n 0, 1) := by decide +kernel
theorem d_Jt_read_24 : decode b_Jt_read 24 = .ok (.getfield 38, 3) := by decide +kernel
theorem d_Jt_read_27 : decode b_Jt_read 27 = .ok (.invokespecial 50, 3) := by decide +kernel
theorem d_Jt_read_30 : decode b_Jt_read 30 = .ok (.astore_n 2, 1) := by decide +kernel
theorem d_Jt_read_31 : decode b_Jt_read 31 = .ok (.new 53, 3) := by decide +kernel
theorem d_Jt_read_34 : decode b_Jt_read 34 = .ok (.dup, 1) := by decide +kernel
theorem d_Jt_read_35 : decode b_Jt_read 35 = .ok (.aload_n 2, 1) := by decide +kernel
theorem d_Jt_read_36 : decode b_Jt_read 36 = .ok (.aload_n 1, 1) := by decide +kernel
theorem d_Jt_read_37 : decode b_Jt_read 37 = .ok (.aload_n 0, 1) := by decide +kernel
theorem d_Jt_read_38 : decode b_Jt_read 38 = .ok (.getfield 16, 3) := by decide +kernel
theorem d_Jt_read_41 : decode b_Jt_read 41 = .ok (.invokespecial 55, 3) := by decide +kernel
theorem d_Jt_read_44 : decode b_Jt_read 44 = .ok (.astore_n 3, 1) := by decide +kernel
theorem d_Jt_read_45 : decode b_Jt_read 45 = .ok (.iconst 1, 1) := by decide +kernel
theorem d_Jt_read_46 : decode b_Jt_read 46 = .ok (.istore 4, 2) := by decide +kernel
theorem d_Jt_read_48 : decode b_Jt_read 48 = .ok (.iconst 0, 1) := by decide +kernel
theorem d_Jt_read_49 : decode b_Jt_read 49 = .ok (.istore 5, 2) := by decide +kernel
theorem d_Jt_read_51 : decode b_Jt_read 51 = .ok (.iload 5, 2) := by decide +kernel
theorem d_Jt_read_53 : decode b_Jt_read 53 = .ok (.aload_n 2, 1) := by decide +kernel
theorem d_Jt_read_54 : decode b_Jt_read 54 = .ok (.invokevirtual 58, 3) := by decide +kernel
theorem d_Jt_read_57 : decode b_Jt_read 57 = .ok (.if_icmp .ge 30, 3) := by decide +kernel
theorem d_Jt_read_87 : decode b_Jt_read 87 = .ok (.aload_n 1, 1) := by decide +kernel
theorem d_Jt_read_88 : decode b_Jt_read 88 = .ok (.invokevirtual 69, 3) := by decide +kernel
theorem d_Jt_read_91 : decode b_Jt_read 91 = .ok (.ifCond .eq 17, 3) := by decide +kernel
theorem d_Jt_read_108 : decode b_Jt_read 108 = .ok (.aload_n 0, 1) := by decide +kernel
theorem d_Jt_read_109 : decode b_Jt_read 109 = .ok (.iconst 0, 1) := by decide +kernel
theorem d_Jt_read_110 : decode b_Jt_read 110 = .ok (.putfield 38, 3) := by decide +kernel
theorem d_Jt_read_113 : decode b_Jt_read 113 = .ok (.aload_n 0, 1) := by decide +kernel
theorem d_Jt_read_114 : decode b_Jt_read 114 = .ok (.aconst_null, 1) := by decide +kernel
theorem d_Jt_read_115 : decode b_Jt_read 115 = .ok (.putfield 77, 3) := by decide +kernel
theorem d_Jt_read_118 : decode b_Jt_read 118 = .ok (.aload_n 0, 1) := by decide +kernel
theorem d_Jt_read_119 : decode b_Jt_read 119 = .ok (.getfield 16, 3) := by decide +kernel
theorem d_Jt_read_122 : decode b_Jt_read 122 = .ok (.invokevirtual 81, 3) := by decide +kernel
theorem d_Jt_read_125 : decode b_Jt_read 125 = .ok (.ifCond .le 13, 3) := by decide +kernel
theorem d_Jt_read_138 : decode b_Jt_read 138 = .ok (.aload_n 1, 1) := by decide +kernel
theorem d_Jt_read_139 : decode b_Jt_read 139 = .ok (.invokevirtual 82, 3) := by decide +kernel
theorem d_Jt_read_142 : decode b_Jt_read 142 = .ok (.ifnonnull 13, 3) := by decide +kernel
theorem d_Jt_read_145 : decode b_Jt_read 145 = .ok (.aload_n 0, 1) := by decide +kernel
theorem d_Jt_read_146 : decode b_Jt_read 146 = .ok (.aload_n 1, 1) := by decide +kernel
theorem d_Jt_read_147 : decode b_Jt_read 147 = .ok (.invokevirtual 86, 3) := by decide +kernel
theorem d_Jt_read_150 : decode b_Jt_read 150 = .ok (.ifCond .ne 5, 3) := by decide +kernel
theorem d_Jt_read_155 : decode b_Jt_read 155 = .ok (.aload_n 0, 1) := by decide +kernel
theorem d_Jt_read_156 : decode b_Jt_read 156 = .ok (.aload_n 1, 1) := by decide +kernel
theorem d_Jt_read_157 : decode b_Jt_read 157 = .ok (.putfield 77, 3) := by decide +kernel
theorem d_Jt_read_160 : decode b_Jt_read 160 = .ok (.aload_n 1, 1) := by decide +kernel
theorem d_Jt_read_161 : decode b_Jt_read 161 = .ok (.invokevirtual 90, 3) := by decide +kernel
theorem d_Jt_read_164 : decode b_Jt_read 164 = .ok (.ireturn, 1) := by decide +kernel
theorem d_Jt_count_0 : decode b_Jt_count 0 = .ok (.iload_n 1, 1) := by decide +kernel
theorem d_Jt_count_1 : decode b_Jt_count 1 = .ok (.tableswitch 115 0 6 #[43, 48, 56, 75, 83, 94, 102], 43) := by decide +kernel
theorem d_Jt_count_116 : decode b_Jt_count 116 = .ok (.iconst (-1), 1) := by decide +kernel
theorem d_Jt_count_117 : decode b_Jt_count 117 = .ok (.ireturn, 1) := by decide +kernel
theorem d_Jt_count_44 : decode b_Jt_count 44 = .ok (.aload_n 0, 1) := by decide +kernel
theorem d_Jt_count_45 : decode b_Jt_count 45 = .ok (.getfield 38, 3) := by decide +kernel
theorem d_Jt_count_48 : decode b_Jt_count 48 = .ok (.ireturn, 1) := by decide +kernel
theorem d_Jt_count_49 : decode b_Jt_count 49 = .ok (.aload_n 0, 1) := by decide +kernel
theorem d_Jt_count_50 : decode b_Jt_count 50 = .ok (.getfield 23, 3) := by decide +kernel
theorem d_Jt_count_53 : decode b_Jt_count 53 = .ok (.invokevirtual 156, 3) := by decide +kernel
theorem d_Jt_count_56 : decode b_Jt_count 56 = .ok (.ireturn, 1) := by decide +kernel
theorem d_Jt_count_57 : decode b_Jt_count 57 = .ok (.aload_n 0, 1) := by decide +kernel
theorem d_Jt_count_58 : decode b_Jt_count 58 = .ok (.getfield 77, 3) := by decide +kernel
theorem d_Jt_count_61 : decode b_Jt_count 61 = .ok (.ifnonnull 7, 3) := by decide +kernel
theorem d_Jt_count_64 : decode b_Jt_count 64 = .ok (.iconst 0, 1) := by decide +kernel
theorem d_Jt_count_65 : decode b_Jt_count 65 = .ok (.goto 10, 3) := by decide +kernel
theorem d_Jt_count_75 : decode b_Jt_count 75 = .ok (.ireturn, 1) := by decide +kernel
theorem d_Jt_count_76 : decode b_Jt_count 76 = .ok (.aload_n 0, 1) := by decide +kernel
theorem d_Jt_count_77 : decode b_Jt_count 77 = .ok (.getfield 16, 3) := by decide +kernel
theorem d_Jt_count_80 : decode b_Jt_count 80 = .ok (.invokevirtual 81, 3) := by decide +kernel
theorem d_Jt_count_83 : decode b_Jt_count 83 = .ok (.ireturn, 1) := by decide +kernel
theorem d_Jt_count_84 : decode b_Jt_count 84 = .ok (.aload_n 0, 1) := by decide +kernel
theorem d_Jt_count_85 : decode b_Jt_count 85 = .ok (.getfield 30, 3) := by decide +kernel
theorem d_Jt_count_88 : decode b_Jt_count 88 = .ok (.invokevirtual 143, 3) := by decide +kernel
theorem d_Jt_count_91 : decode b_Jt_count 91 = .ok (.invokevirtual 157, 3) := by decide +kernel
theorem d_Jt_count_94 : decode b_Jt_count 94 = .ok (.ireturn, 1) := by decide +kernel
theorem d_Jt_count_95 : decode b_Jt_count 95 = .ok (.aload_n 0, 1) := by decide +kernel
theorem d_Jt_count_96 : decode b_Jt_count 96 = .ok (.getfield 30, 3) := by decide +kernel
theorem d_Jt_count_99 : decode b_Jt_count 99 = .ok (.invokevirtual 158, 3) := by decide +kernel
theorem d_Jt_count_102 : decode b_Jt_count 102 = .ok (.ireturn, 1) := by decide +kernel
theorem d_Jt_count_103 : decode b_Jt_count 103 = .ok (.aload_n 0, 1) := by decide +kernel
theorem d_Jt_count_104 : decode b_Jt_count 104 = .ok (.invokevirtual 126, 3) := by decide +kernel
theorem d_Jt_count_107 : decode b_Jt_count 107 = .ok (.ifCond .eq 7, 3) := by decide +kernel
theorem d_Jt_count_114 : decode b_Jt_count 114 = .ok (.iconst 0, 1) := by decide +kernel
theorem d_Jt_count_115 : decode b_Jt_count 115 = .ok (.ireturn, 1) := by decide +kernel
theorem d_Jt_isSign_0 : decode b_Jt_isSign 0 = .ok (.iload_n 0, 1) := by decide +kernel
theorem d_Jt_isSign_1 : decode b_Jt_isSign 1 = .ok (.bipush 10, 2) := by decide +kernel
theorem d_Jt_isSign_3 : decode b_Jt_isSign 3 = .ok (.if_icmp .eq 15, 3) := by decide +kernel
theorem d_Jt_isSign_18 : decode b_Jt_isSign 18 = .ok (.iconst 1, 1) := by decide +kernel
theorem d_Jt_isSign_19 : decode b_Jt_isSign 19 = .ok (.goto 4, 3) := by decide +kernel
theorem d_Jt_isSign_23 : decode b_Jt_isSign 23 = .ok (.ireturn, 1) := by decide +kernel
theorem d_Jt_isSign_6 : decode b_Jt_isSign 6 = .ok (.iload_n 0, 1) := by decide +kernel
theorem d_Jt_isSign_7 : decode b_Jt_isSign 7 = .ok (.bipush 32, 2) := by decide +kernel
theorem d_Jt_isSign_9 : decode b_Jt_isSign 9 = .ok (.if_icmp .lt 13, 3) := by decide +kernel
theorem d_Jt_isSign_22 : decode b_Jt_isSign 22 = .ok (.iconst 0, 1) := by decide +kernel
theorem d_Jt_isSign_12 : decode b_Jt_isSign 12 = .ok (.iload_n 0, 1) := by decide +kernel
theorem d_Jt_isSign_13 : decode b_Jt_isSign 13 = .ok (.bipush 126, 2) := by decide +kernel
theorem d_Jt_isSign_15 : decode b_Jt_isSign 15 = .ok (.if_icmp .gt 7, 3) := by decide +kernel
theorem d_Jt_sign_3 : decode b_Jt_sign 3 = .ok (.iload_n 3, 1) := by decide +kernel
theorem d_Jt_sign_4 : decode b_Jt_sign 4 = .ok (.ifCond .lt 61, 3) := by decide +kernel
theorem d_Jt_sign_65 : decode b_Jt_sign 65 = .ok (.return_, 1) := by decide +kernel
theorem d_Jt_sign_7 : decode b_Jt_sign 7 = .ok (.lload_n 1, 1) := by decide +kernel
theorem d_Jt_sign_8 : decode b_Jt_sign 8 = .ok (.iload_n 3, 1) := by decide +kernel
theorem d_Jt_sign_9 : decode b_Jt_sign 9 = .ok (.lushr, 1) := by decide +kernel
theorem d_Jt_sign_10 : decode b_Jt_sign 10 = .ok (.l2i, 1) := by decide +kernel
theorem d_Jt_sign_11 : decode b_Jt_sign 11 = .ok (.sipush 255, 3) := by decide +kernel
theorem d_Jt_sign_14 : decode b_Jt_sign 14 = .ok (.iand, 1) := by decide +kernel
theorem d_Jt_sign_15 : decode b_Jt_sign 15 = .ok (.istore 4, 2) := by decide +kernel
theorem d_Jt_sign_17 : decode b_Jt_sign 17 = .ok (.iload 4, 2) := by decide +kernel
theorem d_Jt_sign_19 : decode b_Jt_sign 19 = .ok (.invokestatic 34, 3) := by decide +kernel
theorem d_Jt_sign_22 : decode b_Jt_sign 22 = .ok (.ifCond .eq 37, 3) := by decide +kernel
theorem d_Jt_sign_59 : decode b_Jt_sign 59 = .ok (.iinc 3 (-8), 3) := by decide +kernel
theorem d_Jt_sign_62 : decode b_Jt_sign 62 = .ok (.goto (-59), 3) := by decide +kernel
theorem d_Jt_sign_25 : decode b_Jt_sign 25 = .ok (.aload_n 0, 1) := by decide +kernel
theorem d_Jt_sign_26 : decode b_Jt_sign 26 = .ok (.getfield 38, 3) := by decide +kernel
theorem d_Jt_sign_29 : decode b_Jt_sign 29 = .ok (.aload_n 0, 1) := by decide +kernel
theorem d_Jt_sign_30 : decode b_Jt_sign 30 = .ok (.getfield 9, 3) := by decide +kernel
theorem d_Jt_sign_33 : decode b_Jt_sign 33 = .ok (.arraylength, 1) := by decide +kernel
theorem d_Jt_sign_34 : decode b_Jt_sign 34 = .ok (.if_icmp .ge 25, 3) := by decide +kernel
theorem d_Jt_sign_37 : decode b_Jt_sign 37 = .ok (.aload_n 0, 1) := by decide +kernel
theorem d_Jt_sign_38 : decode b_Jt_sign 38 = .ok (.getfield 9, 3) := by decide +kernel
theorem d_Jt_sign_41 : decode b_Jt_sign 41 = .ok (.aload_n 0, 1) := by decide +kernel
theorem d_Jt_sign_42 : decode b_Jt_sign 42 = .ok (.getfield 38, 3) := by decide +kernel
theorem d_Jt_sign_45 : decode b_Jt_sign 45 = .ok (.iload 4, 2) := by decide +kernel
theorem d_Jt_sign_47 : decode b_Jt_sign 47 = .ok (.i2b, 1) := by decide +kernel
theorem d_Jt_sign_48 : decode b_Jt_sign 48 = .ok (.bastore, 1) := by decide +kernel
theorem d_Jt_sign_49 : decode b_Jt_sign 49 = .ok (.aload_n 0, 1) := by decide +kernel
theorem d_Jt_sign_50 : decode b_Jt_sign 50 = .ok (.dup, 1) := by decide +kernel
theorem d_Jt_sign_51 : decode b_Jt_sign 51 = .ok (.getfield 38, 3) := by decide +kernel
theorem d_Jt_sign_54 : decode b_Jt_sign 54 = .ok (.iconst 1, 1) := by decide +kernel
theorem d_Jt_sign_55 : decode b_Jt_sign 55 = .ok (.iadd, 1) := by decide +kernel
theorem d_Jt_sign_56 : decode b_Jt_sign 56 = .ok (.putfield 38, 3) := by decide +kernel
theorem d_Jt_sign_0 : decode b_Jt_sign 0 = .ok (.bipush 56, 2) := by decide +kernel
theorem d_Jt_sign_2 : decode b_Jt_sign 2 = .ok (.istore_n 3, 1) := by decide +kernel
theorem d_Mo_sign_8 : decode b_Mo_sign 8 = .ok (.iload_n 3, 1) := by decide +kernel
theorem d_Mo_sign_9 : decode b_Mo_sign 9 = .ok (.ifCond .lt 71, 3) := by decide +kernel
theorem d_Mo_sign_80 : decode b_Mo_sign 80 = .ok (.return_, 1) := by decide +kernel
theorem d_Mo_sign_12 : decode b_Mo_sign 12 = .ok (.lload_n 1, 1) := by decide +kernel
theorem d_Mo_sign_13 : decode b_Mo_sign 13 = .ok (.iload_n 3, 1) := by decide +kernel
theorem d_Mo_sign_14 : decode b_Mo_sign 14 = .ok (.lshr, 1) := by decide +kernel
theorem d_Mo_sign_15 : decode b_Mo_sign 15 = .ok (.ldc2_w 180, 3) := by decide +kernel
theorem d_Mo_sign_18 : decode b_Mo_sign 18 = .ok (.land, 1) := by decide +kernel
theorem d_Mo_sign_19 : decode b_Mo_sign 19 = .ok (.l2i, 1) := by decide +kernel
theorem d_Mo_sign_20 : decode b_Mo_sign 20 = .ok (.istore 4, 2) := by decide +kernel
theorem d_Mo_sign_22 : decode b_Mo_sign 22 = .ok (.iload 4, 2) := by decide +kernel
theorem d_Mo_sign_24 : decode b_Mo_sign 24 = .ok (.bipush 10, 2) := by decide +kernel
theorem d_Mo_sign_26 : decode b_Mo_sign 26 = .ok (.if_icmp .eq 17, 3) := by decide +kernel
theorem d_Mo_sign_43 : decode b_Mo_sign 43 = .ok (.aload_n 0, 1) := by decide +kernel
theorem d_Mo_sign_44 : decode b_Mo_sign 44 = .ok (.getfield 182, 3) := by decide +kernel
theorem d_Mo_sign_47 : decode b_Mo_sign 47 = .ok (.sipush 3000, 3) := by decide +kernel
theorem d_Mo_sign_50 : decode b_Mo_sign 50 = .ok (.if_icmp .ge 24, 3) := by decide +kernel
theorem d_Mo_sign_74 : decode b_Mo_sign 74 = .ok (.iinc 3 (-8), 3) := by decide +kernel
theorem d_Mo_sign_77 : decode b_Mo_sign 77 = .ok (.goto (-69), 3) := by decide +kernel
theorem d_Mo_sign_53 : decode b_Mo_sign 53 = .ok (.aload_n 0, 1) := by decide +kernel
theorem d_Mo_sign_54 : decode b_Mo_sign 54 = .ok (.getfield 14, 3) := by decide +kernel
theorem d_Mo_sign_57 : decode b_Mo_sign 57 = .ok (.aload_n 0, 1) := by decide +kernel
theorem d_Mo_sign_58 : decode b_Mo_sign 58 = .ok (.getfield 182, 3) := by decide +kernel
theorem d_Mo_sign_61 : decode b_Mo_sign 61 = .ok (.iload 4, 2) := by decide +kernel
theorem d_Mo_sign_63 : decode b_Mo_sign 63 = .ok (.iastore, 1) := by decide +kernel
theorem d_Mo_sign_64 : decode b_Mo_sign 64 = .ok (.aload_n 0, 1) := by decide +kernel
theorem d_Mo_sign_65 : decode b_Mo_sign 65 = .ok (.dup, 1) := by decide +kernel
theorem d_Mo_sign_66 : decode b_Mo_sign 66 = .ok (.getfield 182, 3) := by decide +kernel
theorem d_Mo_sign_69 : decode b_Mo_sign 69 = .ok (.iconst 1, 1) := by decide +kernel
theorem d_Mo_sign_70 : decode b_Mo_sign 70 = .ok (.iadd, 1) := by decide +kernel
theorem d_Mo_sign_71 : decode b_Mo_sign 71 = .ok (.putfield 182, 3) := by decide +kernel
theorem d_Mo_sign_29 : decode b_Mo_sign 29 = .ok (.iload 4, 2) := by decide +kernel
theorem d_Mo_sign_31 : decode b_Mo_sign 31 = .ok (.bipush 32, 2) := by decide +kernel
theorem d_Mo_sign_33 : decode b_Mo_sign 33 = .ok (.if_icmp .lt 41, 3) := by decide +kernel
theorem d_Mo_sign_36 : decode b_Mo_sign 36 = .ok (.iload 4, 2) := by decide +kernel
theorem d_Mo_sign_38 : decode b_Mo_sign 38 = .ok (.bipush 126, 2) := by decide +kernel
theorem d_Mo_sign_40 : decode b_Mo_sign 40 = .ok (.if_icmp .gt 34, 3) := by decide +kernel
theorem d_Mo_sign_0 : decode b_Mo_sign 0 = .ok (.aload_n 0, 1) := by decide +kernel
theorem d_Mo_sign_1 : decode b_Mo_sign 1 = .ok (.iconst 0, 1) := by decide +kernel
theorem d_Mo_sign_2 : decode b_Mo_sign 2 = .ok (.putfield 176, 3) := by decide +kernel
theorem d_Mo_sign_5 : decode b_Mo_sign 5 = .ok (.bipush 56, 2) := by decide +kernel
theorem d_Mo_sign_7 : decode b_Mo_sign 7 = .ok (.istore_n 3, 1) := by decide +kernel
theorem d_Mo_statement_0 : decode b_Mo_statement 0 = .ok (.aload_n 0, 1) := by decide +kernel
theorem d_Mo_statement_1 : decode b_Mo_statement 1 = .ok (.iconst 0, 1) := by decide +kernel
theorem d_Mo_statement_2 : decode b_Mo_statement 2 = .ok (.putfield 176, 3) := by decide +kernel
theorem d_Mo_statement_5 : decode b_Mo_statement 5 = .ok (.iload_n 1, 1) := by decide +kernel
theorem d_Mo_statement_6 : decode b_Mo_statement 6 = .ok (.ifCond .lt 13, 3) := by decide +kernel
theorem d_Mo_statement_19 : decode b_Mo_statement 19 = .ok (.iconst (-1), 1) := by decide +kernel
theorem d_Mo_statement_20 : decode b_Mo_statement 20 = .ok (.ireturn, 1) := by decide +kernel
theorem d_Mo_statement_9 : decode b_Mo_statement 9 = .ok (.iload_n 1, 1) := by decide +kernel
theorem d_Mo_statement_10 : decode b_Mo_statement 10 = .ok (.aload_n 0, 1) := by decide +kernel
theorem d_Mo_statement_11 : decode b_Mo_statement 11 = .ok (.getfield 17, 3) := by decide +kernel
theorem d_Mo_statement_14 : decode b_Mo_statement 14 = .ok (.iconst 0, 1) := by decide +kernel
theorem d_Mo_statement_15 : decode b_Mo_statement 15 = .ok (.iaload, 1) := by decide +kernel
theorem d_Mo_statement_16 : decode b_Mo_statement 16 = .ok (.if_icmp .lt 5, 3) := by decide +kernel
theorem d_Mo_parameter_0 : decode b_Mo_parameter 0 = .ok (.aload_n 0, 1) := by decide +kernel
theorem d_Mo_parameter_1 : decode b_Mo_parameter 1 = .ok (.iconst 0, 1) := by decide +kernel
theorem d_Mo_parameter_2 : decode b_Mo_parameter 2 = .ok (.putfield 176, 3) := by decide +kernel
theorem d_Mo_parameter_5 : decode b_Mo_parameter 5 = .ok (.iload_n 1, 1) := by decide +kernel
theorem d_Mo_parameter_6 : decode b_Mo_parameter 6 = .ok (.ifCond .lt 27, 3) := by decide +kernel
theorem d_Mo_parameter_33 : decode b_Mo_parameter 33 = .ok (.iconst (-1), 1) := by decide +kernel
theorem d_Mo_parameter_34 : decode b_Mo_parameter 34 = .ok (.ireturn, 1) := by decide +kernel
theorem d_Mo_parameter_9 : decode b_Mo_parameter 9 = .ok (.iload_n 1, 1) := by decide +kernel
theorem d_Mo_parameter_10 : decode b_Mo_parameter 10 = .ok (.aload_n 0, 1) := by decide +kernel
theorem d_Mo_parameter_11 : decode b_Mo_parameter 11 = .ok (.getfield 17, 3) := by decide +kernel
theorem d_Mo_parameter_14 : decode b_Mo_parameter 14 = .ok (.iconst 0, 1) := by decide +kernel
theorem d_Mo_parameter_15 : decode b_Mo_parameter 15 = .ok (.iaload, 1) := by decide +kernel
theorem d_Mo_parameter_16 : decode b_Mo_parameter 16 = .ok (.if_icmp .ge 17, 3) := by decide +kernel
theorem d_Mo_data_0 : decode b_Mo_data 0 = .ok (.aload_n 0, 1) := by decide +kernel
theorem d_Mo_data_1 : decode b_Mo_data 1 = .ok (.iconst 0, 1) := by decide +kernel
theorem d_Mo_data_2 : decode b_Mo_data 2 = .ok (.putfield 176, 3) := by decide +kernel
theorem d_Mo_data_5 : decode b_Mo_data 5 = .ok (.iload_n 1, 1) := by decide +kernel
theorem d_Mo_data_6 : decode b_Mo_data 6 = .ok (.ifCond .lt 27, 3) := by decide +kernel
theorem d_Mo_data_33 : decode b_Mo_data 33 = .ok (.iconst (-1), 1) := by decide +kernel
theorem d_Mo_data_34 : decode b_Mo_data 34 = .ok (.goto 11, 3) := by decide +kernel
theorem d_Mo_data_45 : decode b_Mo_data 45 = .ok (.ireturn, 1) := by decide +kernel
theorem d_Mo_data_9 : decode b_Mo_data 9 = .ok (.iload_n 1, 1) := by decide +kernel
theorem d_Mo_data_10 : decode b_Mo_data 10 = .ok (.aload_n 0, 1) := by decide +kernel
theorem d_Mo_data_11 : decode b_Mo_data 11 = .ok (.getfield 17, 3) := by decide +kernel
theorem d_Mo_data_14 : decode b_Mo_data 14 = .ok (.iconst 0, 1) := by decide +kernel
theorem d_Mo_data_15 : decode b_Mo_data 15 = .ok (.iaload, 1) := by decide +kernel
theorem d_Mo_data_16 : decode b_Mo_data 16 = .ok (.if_icmp .ge 17, 3) := by decide +kernel
theorem d_Mo_fault_0 : decode b_Mo_fault 0 = .ok (.aload_n 0, 1) := by decide +kernel
theorem d_Mo_fault_1 : decode b_Mo_fault 1 = .ok (.iconst 0, 1) := by decide +kernel
theorem d_Mo_fault_2 : decode b_Mo_fault 2 = .ok (.putfield 176, 3) := by decide +kernel
theorem d_Mo_fault_5 : decode b_Mo_fault 5 = .ok (.iload_n 1, 1) := by decide +kernel
theorem d_Mo_fault_6 : decode b_Mo_fault 6 = .ok (.ifCond .lt 17, 3) := by decide +kernel
theorem d_Mo_fault_23 : decode b_Mo_fault 23 = .ok (.iconst (-1), 1) := by decide +kernel
theorem d_Mo_fault_24 : decode b_Mo_fault 24 = .ok (.ireturn, 1) := by decide +kernel
theorem d_Mo_fault_9 : decode b_Mo_fault 9 = .ok (.iload_n 1, 1) := by decide +kernel
theorem d_Mo_fault_10 : decode b_Mo_fault 10 = .ok (.aload_n 0, 1) := by decide +kernel
theorem d_Mo_fault_11 : decode b_Mo_fault 11 = .ok (.getfield 188, 3) := by decide +kernel
theorem d_Mo_fault_14 : decode b_Mo_fault 14 = .ok (.if_icmp .ge 9, 3) := by decide +kernel
theorem d_Mo_expand_0 : decode b_Mo_expand 0 = .ok (.aload_n 0, 1) := by decide +kernel
theorem d_Mo_expand_1 : decode b_Mo_expand 1 = .ok (.iconst 0, 1) := by decide +kernel
theorem d_Mo_expand_2 : decode b_Mo_expand 2 = .ok (.putfield 176, 3) := by decide +kernel
theorem d_Mo_expand_5 : decode b_Mo_expand 5 = .ok (.aload_n 0, 1) := by decide +kernel
theorem d_Mo_expand_6 : decode b_Mo_expand 6 = .ok (.getfield 344, 3) := by decide +kernel
theorem d_Mo_expand_9 : decode b_Mo_expand 9 = .ok (.ifCond .ne 6, 3) := by decide +kernel
theorem d_Mo_expand_12 : decode b_Mo_expand 12 = .ok (.bipush (-2), 2) := by decide +kernel
theorem d_Mo_expand_14 : decode b_Mo_expand 14 = .ok (.ireturn, 1) := by decide +kernel
theorem d_Mo_at_0 : decode b_Mo_at 0 = .ok (.aload_n 0, 1) := by decide +kernel
theorem d_Mo_at_1 : decode b_Mo_at 1 = .ok (.iconst 0, 1) := by decide +kernel
theorem d_Mo_at_2 : decode b_Mo_at 2 = .ok (.putfield 176, 3) := by decide +kernel
theorem d_Mo_at_5 : decode b_Mo_at 5 = .ok (.iload_n 1, 1) := by decide +kernel
theorem d_Mo_at_6 : decode b_Mo_at 6 = .ok (.ifCond .lt 11, 3) := by decide +kernel
theorem d_Mo_at_17 : decode b_Mo_at 17 = .ok (.iconst (-1), 1) := by decide +kernel
theorem d_Mo_at_18 : decode b_Mo_at 18 = .ok (.ireturn, 1) := by decide +kernel
theorem d_Mo_at_9 : decode b_Mo_at 9 = .ok (.iload_n 1, 1) := by decide +kernel
theorem d_Mo_at_10 : decode b_Mo_at 10 = .ok (.aload_n 0, 1) := by decide +kernel
theorem d_Mo_at_11 : decode b_Mo_at 11 = .ok (.getfield 404, 3) := by decide +kernel
theorem d_Mo_at_14 : decode b_Mo_at 14 = .ok (.if_icmp .lt 5, 3) := by decide +kernel
theorem d_Mo_letter_0 : decode b_Mo_letter 0 = .ok (.aload_n 0, 1) := by decide +kernel
theorem d_Mo_letter_1 : decode b_Mo_letter 1 = .ok (.iconst 0, 1) := by decide +kernel
theorem d_Mo_letter_2 : decode b_Mo_letter 2 = .ok (.putfield 176, 3) := by decide +kernel
theorem d_Mo_letter_5 : decode b_Mo_letter 5 = .ok (.iload_n 1, 1) := by decide +kernel
theorem d_Mo_letter_6 : decode b_Mo_letter 6 = .ok (.ifCond .lt 25, 3) := by decide +kernel
theorem d_Mo_letter_31 : decode b_Mo_letter 31 = .ok (.iconst (-1), 1) := by decide +kernel
theorem d_Mo_letter_32 : decode b_Mo_letter 32 = .ok (.goto 15, 3) := by decide +kernel
theorem d_Mo_letter_47 : decode b_Mo_letter 47 = .ok (.ireturn, 1) := by decide +kernel
theorem d_Mo_letter_9 : decode b_Mo_letter 9 = .ok (.iload_n 1, 1) := by decide +kernel
theorem d_Mo_letter_10 : decode b_Mo_letter 10 = .ok (.aload_n 0, 1) := by decide +kernel
theorem d_Mo_letter_11 : decode b_Mo_letter 11 = .ok (.getfield 404, 3) := by decide +kernel
theorem d_Mo_letter_14 : decode b_Mo_letter 14 = .ok (.if_icmp .ge 17, 3) := by decide +kernel
theorem d_Mo_ring_0 : decode b_Mo_ring 0 = .ok (.aload_n 0, 1) := by decide +kernel
theorem d_Mo_ring_1 : decode b_Mo_ring 1 = .ok (.iconst 0, 1) := by decide +kernel
theorem d_Mo_ring_2 : decode b_Mo_ring 2 = .ok (.putfield 176, 3) := by decide +kernel
theorem d_Mo_ring_5 : decode b_Mo_ring 5 = .ok (.iload_n 1, 1) := by decide +kernel
theorem d_Mo_ring_6 : decode b_Mo_ring 6 = .ok (.ifCond .lt 11, 3) := by decide +kernel
theorem d_Mo_ring_17 : decode b_Mo_ring 17 = .ok (.iconst (-1), 1) := by decide +kernel
theorem d_Mo_ring_18 : decode b_Mo_ring 18 = .ok (.goto 9, 3) := by decide +kernel
theorem d_Mo_ring_27 : decode b_Mo_ring 27 = .ok (.ireturn, 1) := by decide +kernel
theorem d_Mo_ring_9 : decode b_Mo_ring 9 = .ok (.iload_n 1, 1) := by decide +kernel
theorem d_Mo_ring_10 : decode b_Mo_ring 10 = .ok (.aload_n 0, 1) := by decide +kernel
theorem d_Mo_ring_11 : decode b_Mo_ring 11 = .ok (.getfield 436, 3) := by decide +kernel
theorem d_Mo_ring_14 : decode b_Mo_ring 14 = .ok (.if_icmp .lt 7, 3) := by decide +kernel
theorem d_Mo_split_0 : decode b_Mo_split 0 = .ok (.aload_n 0, 1) := by decide +kernel
theorem d_Mo_split_1 : decode b_Mo_split 1 = .ok (.iconst 0, 1) := by decide +kernel
theorem d_Mo_split_2 : decode b_Mo_split 2 = .ok (.putfield 185, 3) := by decide +kernel
theorem d_Mo_split_5 : decode b_Mo_split 5 = .ok (.iconst 0, 1) := by decide +kernel
theorem d_Mo_split_6 : decode b_Mo_split 6 = .ok (.istore_n 2, 1) := by decide +kernel
theorem d_Mo_split_7 : decode b_Mo_split 7 = .ok (.iload_n 2, 1) := by decide +kernel
theorem d_Mo_split_8 : decode b_Mo_split 8 = .ok (.iload_n 1, 1) := by decide +kernel
theorem d_Mo_split_9 : decode b_Mo_split 9 = .ok (.if_icmp .ge 79, 3) := by decide +kernel
theorem d_Mo_split_88 : decode b_Mo_split 88 = .ok (.return_, 1) := by decide +kernel
theorem d_Mo_count_0 : decode b_Mo_count 0 = .ok (.aload_n 0, 1) := by decide +kernel
theorem d_Mo_count_1 : decode b_Mo_count 1 = .ok (.iconst 0, 1) := by decide +kernel
theorem d_Mo_count_2 : decode b_Mo_count 2 = .ok (.putfield 176, 3) := by decide +kernel
theorem d_Mo_count_5 : decode b_Mo_count 5 = .ok (.iload_n 1, 1) := by decide +kernel
theorem d_Mo_count_6 : decode b_Mo_count 6 = .ok (.tableswitch 87 0 6 #[42, 47, 52, 59, 64, 69, 74], 42) := by decide +kernel
theorem d_Mo_count_93 : decode b_Mo_count 93 = .ok (.iconst (-1), 1) := by decide +kernel
theorem d_Mo_count_94 : decode b_Mo_count 94 = .ok (.ireturn, 1) := by decide +kernel
theorem d_Mo_count_48 : decode b_Mo_count 48 = .ok (.aload_n 0, 1) := by decide +kernel
theorem d_Mo_count_49 : decode b_Mo_count 49 = .ok (.getfield 182, 3) := by decide +kernel
theorem d_Mo_count_52 : decode b_Mo_count 52 = .ok (.ireturn, 1) := by decide +kernel
theorem d_Mo_count_53 : decode b_Mo_count 53 = .ok (.aload_n 0, 1) := by decide +kernel
theorem d_Mo_count_54 : decode b_Mo_count 54 = .ok (.getfield 354, 3) := by decide +kernel
theorem d_Mo_count_57 : decode b_Mo_count 57 = .ok (.ireturn, 1) := by decide +kernel
theorem d_Mo_count_58 : decode b_Mo_count 58 = .ok (.aload_n 0, 1) := by decide +kernel
theorem d_Mo_count_59 : decode b_Mo_count 59 = .ok (.getfield 17, 3) := by decide +kernel
theorem d_Mo_count_62 : decode b_Mo_count 62 = .ok (.iconst 0, 1) := by decide +kernel
theorem d_Mo_count_63 : decode b_Mo_count 63 = .ok (.iaload, 1) := by decide +kernel
theorem d_Mo_count_64 : decode b_Mo_count 64 = .ok (.ireturn, 1) := by decide +kernel
theorem d_Mo_count_65 : decode b_Mo_count 65 = .ok (.aload_n 0, 1) := by decide +kernel
theorem d_Mo_count_66 : decode b_Mo_count 66 = .ok (.getfield 188, 3) := by decide +kernel
theorem d_Mo_count_69 : decode b_Mo_count 69 = .ok (.ireturn, 1) := by decide +kernel
theorem d_Mo_count_70 : decode b_Mo_count 70 = .ok (.aload_n 0, 1) := by decide +kernel
theorem d_Mo_count_71 : decode b_Mo_count 71 = .ok (.getfield 404, 3) := by decide +kernel
theorem d_Mo_count_74 : decode b_Mo_count 74 = .ok (.ireturn, 1) := by decide +kernel
theorem d_Mo_count_75 : decode b_Mo_count 75 = .ok (.aload_n 0, 1) := by decide +kernel
theorem d_Mo_count_76 : decode b_Mo_count 76 = .ok (.getfield 389, 3) := by decide +kernel
theorem d_Mo_count_79 : decode b_Mo_count 79 = .ok (.ireturn, 1) := by decide +kernel
theorem d_Mo_count_80 : decode b_Mo_count 80 = .ok (.aload_n 0, 1) := by decide +kernel
theorem d_Mo_count_81 : decode b_Mo_count 81 = .ok (.getfield 344, 3) := by decide +kernel
theorem d_Mo_count_84 : decode b_Mo_count 84 = .ok (.ifCond .eq 7, 3) := by decide +kernel
theorem d_Mo_count_91 : decode b_Mo_count 91 = .ok (.iconst 0, 1) := by decide +kernel
theorem d_Mo_count_92 : decode b_Mo_count 92 = .ok (.ireturn, 1) := by decide +kernel
theorem d_Mo_read_0 : decode b_Mo_read 0 = .ok (.aload_n 0, 1) := by decide +kernel
theorem d_Mo_read_1 : decode b_Mo_read 1 = .ok (.iconst 0, 1) := by decide +kernel
theorem d_Mo_read_2 : decode b_Mo_read 2 = .ok (.putfield 176, 3) := by decide +kernel
theorem d_Mo_read_5 : decode b_Mo_read 5 = .ok (.iconst 0, 1) := by decide +kernel
theorem d_Mo_read_6 : decode b_Mo_read 6 = .ok (.istore_n 1, 1) := by decide +kernel
theorem d_Mo_read_7 : decode b_Mo_read 7 = .ok (.iload_n 1, 1) := by decide +kernel
theorem d_Mo_read_8 : decode b_Mo_read 8 = .ok (.aload_n 0, 1) := by decide +kernel
theorem d_Mo_read_9 : decode b_Mo_read 9 = .ok (.getfield 182, 3) := by decide +kernel
theorem d_Mo_read_12 : decode b_Mo_read 12 = .ok (.if_icmp .ge 21, 3) := by decide +kernel
theorem d_Mo_read_33 : decode b_Mo_read 33 = .ok (.aload_n 0, 1) := by decide +kernel
theorem d_Mo_read_34 : decode b_Mo_read 34 = .ok (.aload_n 0, 1) := by decide +kernel
theorem d_Mo_read_35 : decode b_Mo_read 35 = .ok (.getfield 182, 3) := by decide +kernel
theorem d_Mo_read_38 : decode b_Mo_read 38 = .ok (.invokevirtual 341, 3) := by decide +kernel
theorem d_Mo_read_41 : decode b_Mo_read 41 = .ok (.aload_n 0, 1) := by decide +kernel
theorem d_Mo_read_42 : decode b_Mo_read 42 = .ok (.iconst 0, 1) := by decide +kernel
theorem d_Mo_read_43 : decode b_Mo_read 43 = .ok (.putfield 182, 3) := by decide +kernel
theorem d_Mo_read_46 : decode b_Mo_read 46 = .ok (.aload_n 0, 1) := by decide +kernel
theorem d_Mo_read_47 : decode b_Mo_read 47 = .ok (.iconst 0, 1) := by decide +kernel
theorem d_Mo_read_48 : decode b_Mo_read 48 = .ok (.putfield 258, 3) := by decide +kernel
theorem d_Mo_read_51 : decode b_Mo_read 51 = .ok (.aload_n 0, 1) := by decide +kernel
theorem d_Mo_read_52 : decode b_Mo_read 52 = .ok (.iconst 0, 1) := by decide +kernel
theorem d_Mo_read_53 : decode b_Mo_read 53 = .ok (.putfield 188, 3) := by decide +kernel
theorem d_Mo_read_56 : decode b_Mo_read 56 = .ok (.aload_n 0, 1) := by decide +kernel
theorem d_Mo_read_57 : decode b_Mo_read 57 = .ok (.iconst 0, 1) := by decide +kernel
theorem d_Mo_read_58 : decode b_Mo_read 58 = .ok (.putfield 249, 3) := by decide +kernel
theorem d_Mo_read_61 : decode b_Mo_read 61 = .ok (.aload_n 0, 1) := by decide +kernel
theorem d_Mo_read_62 : decode b_Mo_read 62 = .ok (.getfield 17, 3) := by decide +kernel
theorem d_Mo_read_65 : decode b_Mo_read 65 = .ok (.iconst 0, 1) := by decide +kernel
theorem d_Mo_read_66 : decode b_Mo_read 66 = .ok (.iconst 0, 1) := by decide +kernel
theorem d_Mo_read_67 : decode b_Mo_read 67 = .ok (.iastore, 1) := by decide +kernel
theorem d_Mo_read_68 : decode b_Mo_read 68 = .ok (.aload_n 0, 1) := by decide +kernel
theorem d_Mo_read_69 : decode b_Mo_read 69 = .ok (.iconst 0, 1) := by decide +kernel
theorem d_Mo_read_70 : decode b_Mo_read 70 = .ok (.putfield 344, 3) := by decide +kernel
theorem d_Mo_read_73 : decode b_Mo_read 73 = .ok (.aload_n 0, 1) := by decide +kernel
theorem d_Mo_read_74 : decode b_Mo_read 74 = .ok (.iconst 0, 1) := by decide +kernel
theorem d_Mo_read_75 : decode b_Mo_read 75 = .ok (.putfield 290, 3) := by decide +kernel
theorem d_Mo_read_78 : decode b_Mo_read 78 = .ok (.aload_n 0, 1) := by decide +kernel
theorem d_Mo_read_79 : decode b_Mo_read 79 = .ok (.iconst (-1), 1) := by decide +kernel
theorem d_Mo_read_80 : decode b_Mo_read 80 = .ok (.putfield 271, 3) := by decide +kernel
theorem d_Mo_read_83 : decode b_Mo_read 83 = .ok (.aload_n 0, 1) := by decide +kernel
theorem d_Mo_read_84 : decode b_Mo_read 84 = .ok (.iconst (-1), 1) := by decide +kernel
theorem d_Mo_read_85 : decode b_Mo_read 85 = .ok (.putfield 281, 3) := by decide +kernel
theorem d_Mo_read_88 : decode b_Mo_read 88 = .ok (.aload_n 0, 1) := by decide +kernel
theorem d_Mo_read_89 : decode b_Mo_read 89 = .ok (.iconst (-1), 1) := by decide +kernel
theorem d_Mo_read_90 : decode b_Mo_read 90 = .ok (.putfield 278, 3) := by decide +kernel
theorem d_Mo_read_93 : decode b_Mo_read 93 = .ok (.aload_n 0, 1) := by decide +kernel
theorem d_Mo_read_94 : decode b_Mo_read 94 = .ok (.iconst 0, 1) := by decide +kernel
theorem d_Mo_read_95 : decode b_Mo_read 95 = .ok (.putfield 284, 3) := by decide +kernel
theorem d_Mo_read_98 : decode b_Mo_read 98 = .ok (.aload_n 0, 1) := by decide +kernel
theorem d_Mo_read_99 : decode b_Mo_read 99 = .ok (.getfield 258, 3) := by decide +kernel
theorem d_Mo_read_102 : decode b_Mo_read 102 = .ok (.aload_n 0, 1) := by decide +kernel
theorem d_Mo_read_103 : decode b_Mo_read 103 = .ok (.getfield 185, 3) := by decide +kernel
theorem d_Mo_read_106 : decode b_Mo_read 106 = .ok (.if_icmp .ge 10, 3) := by decide +kernel
theorem d_Mo_read_116 : decode b_Mo_read 116 = .ok (.aload_n 0, 1) := by decide +kernel
theorem d_Mo_read_117 : decode b_Mo_read 117 = .ok (.getfield 284, 3) := by decide +kernel
theorem d_Mo_read_120 : decode b_Mo_read 120 = .ok (.ifCond .gt 10, 3) := by decide +kernel
theorem d_Mo_read_123 : decode b_Mo_read 123 = .ok (.aload_n 0, 1) := by decide +kernel
theorem d_Mo_read_124 : decode b_Mo_read 124 = .ok (.getfield 271, 3) := by decide +kernel
theorem d_Mo_read_127 : decode b_Mo_read 127 = .ok (.ifCond .lt 14, 3) := by decide +kernel
theorem d_Mo_read_141 : decode b_Mo_read 141 = .ok (.aload_n 0, 1) := by decide +kernel
theorem d_Mo_read_142 : decode b_Mo_read 142 = .ok (.getfield 188, 3) := by decide +kernel
theorem d_Mo_read_145 : decode b_Mo_read 145 = .ok (.ifCond .le 17, 3) := by decide +kernel
theorem d_Mo_read_162 : decode b_Mo_read 162 = .ok (.aload_n 0, 1) := by decide +kernel
theorem d_Mo_read_163 : decode b_Mo_read 163 = .ok (.aload_n 0, 1) := by decide +kernel
theorem d_Mo_read_164 : decode b_Mo_read 164 = .ok (.getfield 290, 3) := by decide +kernel
theorem d_Mo_read_167 : decode b_Mo_read 167 = .ok (.putfield 344, 3) := by decide +kernel
theorem d_Mo_read_170 : decode b_Mo_read 170 = .ok (.aload_n 0, 1) := by decide +kernel
theorem d_Mo_read_171 : decode b_Mo_read 171 = .ok (.getfield 290, 3) := by decide +kernel
theorem d_Mo_read_174 : decode b_Mo_read 174 = .ok (.ifCond .ne 19, 3) := by decide +kernel
theorem d_Mo_read_177 : decode b_Mo_read 177 = .ok (.aload_n 0, 1) := by decide +kernel
theorem d_Mo_read_178 : decode b_Mo_read 178 = .ok (.invokevirtual 350, 3) := by decide +kernel
theorem d_Mo_keep_0 : decode b_Mo_keep 0 = .ok (.iconst 0, 1) := by decide +kernel
theorem d_Mo_keep_1 : decode b_Mo_keep 1 = .ok (.istore_n 1, 1) := by decide +kernel
theorem d_Mo_keep_2 : decode b_Mo_keep 2 = .ok (.iconst 0, 1) := by decide +kernel
theorem d_Mo_keep_3 : decode b_Mo_keep 3 = .ok (.istore_n 2, 1) := by decide +kernel
theorem d_Mo_keep_4 : decode b_Mo_keep 4 = .ok (.iload_n 2, 1) := by decide +kernel
theorem d_Mo_keep_5 : decode b_Mo_keep 5 = .ok (.aload_n 0, 1) := by decide +kernel
theorem d_Mo_keep_6 : decode b_Mo_keep 6 = .ok (.getfield 17, 3) := by decide +kernel
theorem d_Mo_keep_9 : decode b_Mo_keep 9 = .ok (.iconst 0, 1) := by decide +kernel
theorem d_Mo_keep_10 : decode b_Mo_keep 10 = .ok (.iaload, 1) := by decide +kernel
theorem d_Mo_keep_11 : decode b_Mo_keep 11 = .ok (.if_icmp .ge 35, 3) := by decide +kernel
theorem d_Mo_keep_46 : decode b_Mo_keep 46 = .ok (.aload_n 0, 1) := by decide +kernel
theorem d_Mo_keep_47 : decode b_Mo_keep 47 = .ok (.getfield 354, 3) := by decide +kernel
theorem d_Mo_keep_50 : decode b_Mo_keep 50 = .ok (.iload_n 1, 1) := by decide +kernel
theorem d_Mo_keep_51 : decode b_Mo_keep 51 = .ok (.iadd, 1) := by decide +kernel
theorem d_Mo_keep_52 : decode b_Mo_keep 52 = .ok (.bipush 12, 2) := by decide +kernel
theorem d_Mo_keep_54 : decode b_Mo_keep 54 = .ok (.if_icmp .le 5, 3) := by decide +kernel
theorem d_Mo_keep_59 : decode b_Mo_keep 59 = .ok (.iconst 0, 1) := by decide +kernel
theorem d_Mo_keep_60 : decode b_Mo_keep 60 = .ok (.istore_n 2, 1) := by decide +kernel
theorem d_Mo_keep_61 : decode b_Mo_keep 61 = .ok (.iload_n 2, 1) := by decide +kernel
theorem d_Mo_keep_62 : decode b_Mo_keep 62 = .ok (.aload_n 0, 1) := by decide +kernel
theorem d_Mo_keep_63 : decode b_Mo_keep 63 = .ok (.getfield 17, 3) := by decide +kernel
theorem d_Mo_keep_66 : decode b_Mo_keep 66 = .ok (.iconst 0, 1) := by decide +kernel
theorem d_Mo_keep_67 : decode b_Mo_keep 67 = .ok (.iaload, 1) := by decide +kernel
theorem d_Mo_keep_68 : decode b_Mo_keep 68 = .ok (.if_icmp .ge 53, 3) := by decide +kernel
theorem d_Mo_keep_121 : decode b_Mo_keep 121 = .ok (.iconst 1, 1) := by decide +kernel
theorem d_Mo_keep_122 : decode b_Mo_keep 122 = .ok (.ireturn, 1) := by decide +kernel
theorem d_Mo_read_181 : decode b_Mo_read 181 = .ok (.ifCond .ne 12, 3) := by decide +kernel
theorem d_Mo_read_193 : decode b_Mo_read 193 = .ok (.aload_n 0, 1) := by decide +kernel
theorem d_Mo_read_194 : decode b_Mo_read 194 = .ok (.getfield 17, 3) := by decide +kernel
theorem d_Mo_read_197 : decode b_Mo_read 197 = .ok (.iconst 0, 1) := by decide +kernel
theorem d_Mo_read_198 : decode b_Mo_read 198 = .ok (.iaload, 1) := by decide +kernel
theorem d_Mo_read_199 : decode b_Mo_read 199 = .ok (.ireturn, 1) := by decide +kernel
theorem d_law_0 : decode b_law 0 = .ok (.new 7, 3) := by decide +kernel
theorem d_law_3 : decode b_law 3 = .ok (.dup, 1) := by decide +kernel
theorem d_law_4 : decode b_law 4 = .ok (.invokespecial 9, 3) := by decide +kernel
theorem d_law_7 : decode b_law 7 = .ok (.astore_n 1, 1) := by decide +kernel
theorem d_law_8 : decode b_law 8 = .ok (.new 10, 3) := by decide +kernel
theorem d_law_11 : decode b_law 11 = .ok (.dup, 1) := by decide +kernel
theorem d_law_12 : decode b_law 12 = .ok (.invokespecial 12, 3) := by decide +kernel
theorem d_law_15 : decode b_law 15 = .ok (.astore_n 2, 1) := by decide +kernel
theorem d_law_16 : decode b_law 16 = .ok (.iconst 0, 1) := by decide +kernel
theorem d_law_17 : decode b_law 17 = .ok (.istore_n 3, 1) := by decide +kernel
theorem d_law_18 : decode b_law 18 = .ok (.iload_n 3, 1) := by decide +kernel
theorem d_law_19 : decode b_law 19 = .ok (.aload_n 0, 1) := by decide +kernel
theorem d_law_20 : decode b_law 20 = .ok (.arraylength, 1) := by decide +kernel
theorem d_law_21 : decode b_law 21 = .ok (.iconst 4, 1) := by decide +kernel
theorem d_law_22 : decode b_law 22 = .ok (.isub, 1) := by decide +kernel
theorem d_law_23 : decode b_law 23 = .ok (.if_icmp .gt 406, 3) := by decide +kernel
theorem d_law_429 : decode b_law 429 = .ok (.iconst 1, 1) := by decide +kernel
theorem d_law_430 : decode b_law 430 = .ok (.ireturn, 1) := by decide +kernel
theorem d_law_26 : decode b_law 26 = .ok (.aload_n 0, 1) := by decide +kernel
theorem d_law_27 : decode b_law 27 = .ok (.iload_n 3, 1) := by decide +kernel
theorem d_law_28 : decode b_law 28 = .ok (.iaload, 1) := by decide +kernel
theorem d_law_29 : decode b_law 29 = .ok (.bipush 15, 2) := by decide +kernel
theorem d_law_31 : decode b_law 31 = .ok (.iand, 1) := by decide +kernel
theorem d_law_32 : decode b_law 32 = .ok (.tableswitch 391 0 10 #[60, 111, 124, 157, 200, 233, 266, 279, 312, 345, 368], 60) := by decide +kernel
theorem d_law_423 : decode b_law 423 = .ok (.iinc 3 4, 3) := by decide +kernel
theorem d_law_426 : decode b_law 426 = .ok (.goto (-408), 3) := by decide +kernel
theorem d_law_92 : decode b_law 92 = .ok (.aload_n 1, 1) := by decide +kernel
theorem d_law_93 : decode b_law 93 = .ok (.aload_n 0, 1) := by decide +kernel
theorem d_law_94 : decode b_law 94 = .ok (.iload_n 3, 1) := by decide +kernel
theorem d_law_95 : decode b_law 95 = .ok (.iconst 1, 1) := by decide +kernel
theorem d_law_96 : decode b_law 96 = .ok (.iadd, 1) := by decide +kernel
theorem d_law_97 : decode b_law 97 = .ok (.iaload, 1) := by decide +kernel
theorem d_law_98 : decode b_law 98 = .ok (.i2l, 1) := by decide +kernel
theorem d_law_99 : decode b_law 99 = .ok (.bipush 32, 2) := by decide +kernel
theorem d_law_101 : decode b_law 101 = .ok (.lshl, 1) := by decide +kernel
theorem d_law_102 : decode b_law 102 = .ok (.aload_n 0, 1) := by decide +kernel
theorem d_law_103 : decode b_law 103 = .ok (.iload_n 3, 1) := by decide +kernel
theorem d_law_104 : decode b_law 104 = .ok (.iconst 2, 1) := by decide +kernel
theorem d_law_105 : decode b_law 105 = .ok (.iadd, 1) := by decide +kernel
theorem d_law_106 : decode b_law 106 = .ok (.iaload, 1) := by decide +kernel
theorem d_law_107 : decode b_law 107 = .ok (.i2l, 1) := by decide +kernel
theorem d_law_108 : decode b_law 108 = .ok (.ldc2_w 13, 3) := by decide +kernel
theorem d_law_111 : decode b_law 111 = .ok (.land, 1) := by decide +kernel
theorem d_law_112 : decode b_law 112 = .ok (.lor, 1) := by decide +kernel
theorem d_law_113 : decode b_law 113 = .ok (.invokevirtual 15, 3) := by decide +kernel
theorem d_law_116 : decode b_law 116 = .ok (.aload_n 2, 1) := by decide +kernel
theorem d_law_117 : decode b_law 117 = .ok (.aload_n 0, 1) := by decide +kernel
theorem d_law_118 : decode b_law 118 = .ok (.iload_n 3, 1) := by decide +kernel
theorem d_law_119 : decode b_law 119 = .ok (.iconst 1, 1) := by decide +kernel
theorem d_law_120 : decode b_law 120 = .ok (.iadd, 1) := by decide +kernel
theorem d_law_121 : decode b_law 121 = .ok (.iaload, 1) := by decide +kernel
theorem d_law_122 : decode b_law 122 = .ok (.i2l, 1) := by decide +kernel
theorem d_law_123 : decode b_law 123 = .ok (.bipush 32, 2) := by decide +kernel
theorem d_law_125 : decode b_law 125 = .ok (.lshl, 1) := by decide +kernel
theorem d_law_126 : decode b_law 126 = .ok (.aload_n 0, 1) := by decide +kernel
theorem d_law_127 : decode b_law 127 = .ok (.iload_n 3, 1) := by decide +kernel
theorem d_law_128 : decode b_law 128 = .ok (.iconst 2, 1) := by decide +kernel
theorem d_law_129 : decode b_law 129 = .ok (.iadd, 1) := by decide +kernel
theorem d_law_130 : decode b_law 130 = .ok (.iaload, 1) := by decide +kernel
theorem d_law_131 : decode b_law 131 = .ok (.i2l, 1) := by decide +kernel
theorem d_law_132 : decode b_law 132 = .ok (.ldc2_w 13, 3) := by decide +kernel
theorem d_law_135 : decode b_law 135 = .ok (.land, 1) := by decide +kernel
theorem d_law_136 : decode b_law 136 = .ok (.lor, 1) := by decide +kernel
theorem d_law_137 : decode b_law 137 = .ok (.invokevirtual 19, 3) := by decide +kernel
theorem d_law_140 : decode b_law 140 = .ok (.goto 283, 3) := by decide +kernel
theorem d_law_143 : decode b_law 143 = .ok (.aload_n 1, 1) := by decide +kernel
theorem d_law_144 : decode b_law 144 = .ok (.invokevirtual 20, 3) := by decide +kernel
theorem d_law_147 : decode b_law 147 = .ok (.aload_n 2, 1) := by decide +kernel
theorem d_law_148 : decode b_law 148 = .ok (.invokevirtual 24, 3) := by decide +kernel
theorem d_law_151 : decode b_law 151 = .ok (.if_icmp .eq 272, 3) := by decide +kernel
theorem d_law_156 : decode b_law 156 = .ok (.aload_n 1, 1) := by decide +kernel
theorem d_law_157 : decode b_law 157 = .ok (.aload_n 0, 1) := by decide +kernel
theorem d_law_158 : decode b_law 158 = .ok (.iload_n 3, 1) := by decide +kernel
theorem d_law_159 : decode b_law 159 = .ok (.iconst 1, 1) := by decide +kernel
theorem d_law_160 : decode b_law 160 = .ok (.iadd, 1) := by decide +kernel
theorem d_law_161 : decode b_law 161 = .ok (.iaload, 1) := by decide +kernel
theorem d_law_162 : decode b_law 162 = .ok (.aload_n 0, 1) := by decide +kernel
theorem d_law_163 : decode b_law 163 = .ok (.iload_n 3, 1) := by decide +kernel
theorem d_law_164 : decode b_law 164 = .ok (.iconst 2, 1) := by decide +kernel
theorem d_law_165 : decode b_law 165 = .ok (.iadd, 1) := by decide +kernel
theorem d_law_166 : decode b_law 166 = .ok (.iaload, 1) := by decide +kernel
theorem d_law_167 : decode b_law 167 = .ok (.invokevirtual 25, 3) := by decide +kernel
theorem d_law_170 : decode b_law 170 = .ok (.aload_n 2, 1) := by decide +kernel
theorem d_law_171 : decode b_law 171 = .ok (.aload_n 0, 1) := by decide +kernel
theorem d_law_172 : decode b_law 172 = .ok (.iload_n 3, 1) := by decide +kernel
theorem d_law_173 : decode b_law 173 = .ok (.iconst 1, 1) := by decide +kernel
theorem d_law_174 : decode b_law 174 = .ok (.iadd, 1) := by decide +kernel
theorem d_law_175 : decode b_law 175 = .ok (.iaload, 1) := by decide +kernel
theorem d_law_176 : decode b_law 176 = .ok (.aload_n 0, 1) := by decide +kernel
theorem d_law_177 : decode b_law 177 = .ok (.iload_n 3, 1) := by decide +kernel
theorem d_law_178 : decode b_law 178 = .ok (.iconst 2, 1) := by decide +kernel
theorem d_law_179 : decode b_law 179 = .ok (.iadd, 1) := by decide +kernel
theorem d_law_180 : decode b_law 180 = .ok (.iaload, 1) := by decide +kernel
theorem d_law_181 : decode b_law 181 = .ok (.invokevirtual 29, 3) := by decide +kernel
theorem d_law_184 : decode b_law 184 = .ok (.if_icmp .eq 239, 3) := by decide +kernel
theorem d_law_189 : decode b_law 189 = .ok (.aload_n 1, 1) := by decide +kernel
theorem d_law_190 : decode b_law 190 = .ok (.aload_n 0, 1) := by decide +kernel
theorem d_law_191 : decode b_law 191 = .ok (.iload_n 3, 1) := by decide +kernel
theorem d_law_192 : decode b_law 192 = .ok (.iconst 1, 1) := by decide +kernel
theorem d_law_193 : decode b_law 193 = .ok (.iadd, 1) := by decide +kernel
theorem d_law_194 : decode b_law 194 = .ok (.iaload, 1) := by decide +kernel
theorem d_law_195 : decode b_law 195 = .ok (.aload_n 0, 1) := by decide +kernel
theorem d_law_196 : decode b_law 196 = .ok (.iload_n 3, 1) := by decide +kernel
theorem d_law_197 : decode b_law 197 = .ok (.iconst 2, 1) := by decide +kernel
theorem d_law_198 : decode b_law 198 = .ok (.iadd, 1) := by decide +kernel
theorem d_law_199 : decode b_law 199 = .ok (.iaload, 1) := by decide +kernel
theorem d_law_200 : decode b_law 200 = .ok (.aload_n 0, 1) := by decide +kernel
theorem d_law_201 : decode b_law 201 = .ok (.iload_n 3, 1) := by decide +kernel
theorem d_law_202 : decode b_law 202 = .ok (.iconst 3, 1) := by decide +kernel
theorem d_law_203 : decode b_law 203 = .ok (.iadd, 1) := by decide +kernel
theorem d_law_204 : decode b_law 204 = .ok (.iaload, 1) := by decide +kernel
theorem d_law_205 : decode b_law 205 = .ok (.invokevirtual 30, 3) := by decide +kernel
theorem d_law_208 : decode b_law 208 = .ok (.aload_n 2, 1) := by decide +kernel
theorem d_law_209 : decode b_law 209 = .ok (.aload_n 0, 1) := by decide +kernel
theorem d_law_210 : decode b_law 210 = .ok (.iload_n 3, 1) := by decide +kernel
theorem d_law_211 : decode b_law 211 = .ok (.iconst 1, 1) := by decide +kernel
theorem d_law_212 : decode b_law 212 = .ok (.iadd, 1) := by decide +kernel
theorem d_law_213 : decode b_law 213 = .ok (.iaload, 1) := by decide +kernel
theorem d_law_214 : decode b_law 214 = .ok (.aload_n 0, 1) := by decide +kernel
theorem d_law_215 : decode b_law 215 = .ok (.iload_n 3, 1) := by decide +kernel
theorem d_law_216 : decode b_law 216 = .ok (.iconst 2, 1) := by decide +kernel
theorem d_law_217 : decode b_law 217 = .ok (.iadd, 1) := by decide +kernel
theorem d_law_218 : decode b_law 218 = .ok (.iaload, 1) := by decide +kernel
theorem d_law_219 : decode b_law 219 = .ok (.aload_n 0, 1) := by decide +kernel
theorem d_law_220 : decode b_law 220 = .ok (.iload_n 3, 1) := by decide +kernel
theorem d_law_221 : decode b_law 221 = .ok (.iconst 3, 1) := by decide +kernel
theorem d_law_222 : decode b_law 222 = .ok (.iadd, 1) := by decide +kernel
theorem d_law_223 : decode b_law 223 = .ok (.iaload, 1) := by decide +kernel
theorem d_law_224 : decode b_law 224 = .ok (.invokevirtual 34, 3) := by decide +kernel
theorem d_law_227 : decode b_law 227 = .ok (.if_icmp .eq 196, 3) := by decide +kernel
theorem d_law_232 : decode b_law 232 = .ok (.aload_n 1, 1) := by decide +kernel
theorem d_law_233 : decode b_law 233 = .ok (.aload_n 0, 1) := by decide +kernel
theorem d_law_234 : decode b_law 234 = .ok (.iload_n 3, 1) := by decide +kernel
theorem d_law_235 : decode b_law 235 = .ok (.iconst 1, 1) := by decide +kernel
theorem d_law_236 : decode b_law 236 = .ok (.iadd, 1) := by decide +kernel
theorem d_law_237 : decode b_law 237 = .ok (.iaload, 1) := by decide +kernel
theorem d_law_238 : decode b_law 238 = .ok (.aload_n 0, 1) := by decide +kernel
theorem d_law_239 : decode b_law 239 = .ok (.iload_n 3, 1) := by decide +kernel
theorem d_law_240 : decode b_law 240 = .ok (.iconst 2, 1) := by decide +kernel
theorem d_law_241 : decode b_law 241 = .ok (.iadd, 1) := by decide +kernel
theorem d_law_242 : decode b_law 242 = .ok (.iaload, 1) := by decide +kernel
theorem d_law_243 : decode b_law 243 = .ok (.invokevirtual 35, 3) := by decide +kernel
theorem d_law_246 : decode b_law 246 = .ok (.aload_n 2, 1) := by decide +kernel
theorem d_law_247 : decode b_law 247 = .ok (.aload_n 0, 1) := by decide +kernel
theorem d_law_248 : decode b_law 248 = .ok (.iload_n 3, 1) := by decide +kernel
theorem d_law_249 : decode b_law 249 = .ok (.iconst 1, 1) := by decide +kernel
theorem d_law_250 : decode b_law 250 = .ok (.iadd, 1) := by decide +kernel
theorem d_law_251 : decode b_law 251 = .ok (.iaload, 1) := by decide +kernel
theorem d_law_252 : decode b_law 252 = .ok (.aload_n 0, 1) := by decide +kernel
theorem d_law_253 : decode b_law 253 = .ok (.iload_n 3, 1) := by decide +kernel
theorem d_law_254 : decode b_law 254 = .ok (.iconst 2, 1) := by decide +kernel
theorem d_law_255 : decode b_law 255 = .ok (.iadd, 1) := by decide +kernel
theorem d_law_256 : decode b_law 256 = .ok (.iaload, 1) := by decide +kernel
theorem d_law_257 : decode b_law 257 = .ok (.invokevirtual 38, 3) := by decide +kernel
theorem d_law_260 : decode b_law 260 = .ok (.if_icmp .eq 163, 3) := by decide +kernel
theorem d_law_265 : decode b_law 265 = .ok (.aload_n 1, 1) := by decide +kernel
theorem d_law_266 : decode b_law 266 = .ok (.aload_n 0, 1) := by decide +kernel
theorem d_law_267 : decode b_law 267 = .ok (.iload_n 3, 1) := by decide +kernel
theorem d_law_268 : decode b_law 268 = .ok (.iconst 1, 1) := by decide +kernel
theorem d_law_269 : decode b_law 269 = .ok (.iadd, 1) := by decide +kernel
theorem d_law_270 : decode b_law 270 = .ok (.iaload, 1) := by decide +kernel
theorem d_law_271 : decode b_law 271 = .ok (.aload_n 0, 1) := by decide +kernel
theorem d_law_272 : decode b_law 272 = .ok (.iload_n 3, 1) := by decide +kernel
theorem d_law_273 : decode b_law 273 = .ok (.iconst 2, 1) := by decide +kernel
theorem d_law_274 : decode b_law 274 = .ok (.iadd, 1) := by decide +kernel
theorem d_law_275 : decode b_law 275 = .ok (.iaload, 1) := by decide +kernel
theorem d_law_276 : decode b_law 276 = .ok (.invokevirtual 39, 3) := by decide +kernel
theorem d_law_279 : decode b_law 279 = .ok (.aload_n 2, 1) := by decide +kernel
theorem d_law_280 : decode b_law 280 = .ok (.aload_n 0, 1) := by decide +kernel
theorem d_law_281 : decode b_law 281 = .ok (.iload_n 3, 1) := by decide +kernel
theorem d_law_282 : decode b_law 282 = .ok (.iconst 1, 1) := by decide +kernel
theorem d_law_283 : decode b_law 283 = .ok (.iadd, 1) := by decide +kernel
theorem d_law_284 : decode b_law 284 = .ok (.iaload, 1) := by decide +kernel
theorem d_law_285 : decode b_law 285 = .ok (.aload_n 0, 1) := by decide +kernel
theorem d_law_286 : decode b_law 286 = .ok (.iload_n 3, 1) := by decide +kernel
theorem d_law_287 : decode b_law 287 = .ok (.iconst 2, 1) := by decide +kernel
theorem d_law_288 : decode b_law 288 = .ok (.iadd, 1) := by decide +kernel
theorem d_law_289 : decode b_law 289 = .ok (.iaload, 1) := by decide +kernel
theorem d_law_290 : decode b_law 290 = .ok (.invokevirtual 42, 3) := by decide +kernel
theorem d_law_293 : decode b_law 293 = .ok (.if_icmp .eq 130, 3) := by decide +kernel
theorem d_law_298 : decode b_law 298 = .ok (.aload_n 1, 1) := by decide +kernel
theorem d_law_299 : decode b_law 299 = .ok (.invokevirtual 43, 3) := by decide +kernel
theorem d_law_302 : decode b_law 302 = .ok (.aload_n 2, 1) := by decide +kernel
theorem d_law_303 : decode b_law 303 = .ok (.invokevirtual 46, 3) := by decide +kernel
theorem d_law_306 : decode b_law 306 = .ok (.if_icmp .eq 117, 3) := by decide +kernel
theorem d_law_311 : decode b_law 311 = .ok (.aload_n 1, 1) := by decide +kernel
theorem d_law_312 : decode b_law 312 = .ok (.aload_n 0, 1) := by decide +kernel
theorem d_law_313 : decode b_law 313 = .ok (.iload_n 3, 1) := by decide +kernel
theorem d_law_314 : decode b_law 314 = .ok (.iconst 1, 1) := by decide +kernel
theorem d_law_315 : decode b_law 315 = .ok (.iadd, 1) := by decide +kernel
theorem d_law_316 : decode b_law 316 = .ok (.iaload, 1) := by decide +kernel
theorem d_law_317 : decode b_law 317 = .ok (.aload_n 0, 1) := by decide +kernel
theorem d_law_318 : decode b_law 318 = .ok (.iload_n 3, 1) := by decide +kernel
theorem d_law_319 : decode b_law 319 = .ok (.iconst 2, 1) := by decide +kernel
theorem d_law_320 : decode b_law 320 = .ok (.iadd, 1) := by decide +kernel
theorem d_law_321 : decode b_law 321 = .ok (.iaload, 1) := by decide +kernel
theorem d_law_322 : decode b_law 322 = .ok (.invokevirtual 47, 3) := by decide +kernel
theorem d_law_325 : decode b_law 325 = .ok (.aload_n 2, 1) := by decide +kernel
theorem d_law_326 : decode b_law 326 = .ok (.aload_n 0, 1) := by decide +kernel
theorem d_law_327 : decode b_law 327 = .ok (.iload_n 3, 1) := by decide +kernel
theorem d_law_328 : decode b_law 328 = .ok (.iconst 1, 1) := by decide +kernel
theorem d_law_329 : decode b_law 329 = .ok (.iadd, 1) := by decide +kernel
theorem d_law_330 : decode b_law 330 = .ok (.iaload, 1) := by decide +kernel
theorem d_law_331 : decode b_law 331 = .ok (.aload_n 0, 1) := by decide +kernel
theorem d_law_332 : decode b_law 332 = .ok (.iload_n 3, 1) := by decide +kernel
theorem d_law_333 : decode b_law 333 = .ok (.iconst 2, 1) := by decide +kernel
theorem d_law_334 : decode b_law 334 = .ok (.iadd, 1) := by decide +kernel
theorem d_law_335 : decode b_law 335 = .ok (.iaload, 1) := by decide +kernel
theorem d_law_336 : decode b_law 336 = .ok (.invokevirtual 50, 3) := by decide +kernel
theorem d_law_339 : decode b_law 339 = .ok (.if_icmp .eq 84, 3) := by decide +kernel
theorem d_law_344 : decode b_law 344 = .ok (.aload_n 1, 1) := by decide +kernel
theorem d_law_345 : decode b_law 345 = .ok (.aload_n 0, 1) := by decide +kernel
theorem d_law_346 : decode b_law 346 = .ok (.iload_n 3, 1) := by decide +kernel
theorem d_law_347 : decode b_law 347 = .ok (.iconst 1, 1) := by decide +kernel
theorem d_law_348 : decode b_law 348 = .ok (.iadd, 1) := by decide +kernel
theorem d_law_349 : decode b_law 349 = .ok (.iaload, 1) := by decide +kernel
theorem d_law_350 : decode b_law 350 = .ok (.aload_n 0, 1) := by decide +kernel
theorem d_law_351 : decode b_law 351 = .ok (.iload_n 3, 1) := by decide +kernel
theorem d_law_352 : decode b_law 352 = .ok (.iconst 2, 1) := by decide +kernel
theorem d_law_353 : decode b_law 353 = .ok (.iadd, 1) := by decide +kernel
theorem d_law_354 : decode b_law 354 = .ok (.iaload, 1) := by decide +kernel
theorem d_law_355 : decode b_law 355 = .ok (.invokevirtual 51, 3) := by decide +kernel
theorem d_law_358 : decode b_law 358 = .ok (.aload_n 2, 1) := by decide +kernel
theorem d_law_359 : decode b_law 359 = .ok (.aload_n 0, 1) := by decide +kernel
theorem d_law_360 : decode b_law 360 = .ok (.iload_n 3, 1) := by decide +kernel
theorem d_law_361 : decode b_law 361 = .ok (.iconst 1, 1) := by decide +kernel
theorem d_law_362 : decode b_law 362 = .ok (.iadd, 1) := by decide +kernel
theorem d_law_363 : decode b_law 363 = .ok (.iaload, 1) := by decide +kernel
theorem d_law_364 : decode b_law 364 = .ok (.aload_n 0, 1) := by decide +kernel
theorem d_law_365 : decode b_law 365 = .ok (.iload_n 3, 1) := by decide +kernel
theorem d_law_366 : decode b_law 366 = .ok (.iconst 2, 1) := by decide +kernel
theorem d_law_367 : decode b_law 367 = .ok (.iadd, 1) := by decide +kernel
theorem d_law_368 : decode b_law 368 = .ok (.iaload, 1) := by decide +kernel
theorem d_law_369 : decode b_law 369 = .ok (.invokevirtual 54, 3) := by decide +kernel
theorem d_law_372 : decode b_law 372 = .ok (.if_icmp .eq 51, 3) := by decide +kernel
theorem d_law_377 : decode b_law 377 = .ok (.aload_n 1, 1) := by decide +kernel
theorem d_law_378 : decode b_law 378 = .ok (.aload_n 0, 1) := by decide +kernel
theorem d_law_379 : decode b_law 379 = .ok (.iload_n 3, 1) := by decide +kernel
theorem d_law_380 : decode b_law 380 = .ok (.iconst 1, 1) := by decide +kernel
theorem d_law_381 : decode b_law 381 = .ok (.iadd, 1) := by decide +kernel
theorem d_law_382 : decode b_law 382 = .ok (.iaload, 1) := by decide +kernel
theorem d_law_383 : decode b_law 383 = .ok (.invokevirtual 55, 3) := by decide +kernel
theorem d_law_386 : decode b_law 386 = .ok (.aload_n 2, 1) := by decide +kernel
theorem d_law_387 : decode b_law 387 = .ok (.aload_n 0, 1) := by decide +kernel
theorem d_law_388 : decode b_law 388 = .ok (.iload_n 3, 1) := by decide +kernel
theorem d_law_389 : decode b_law 389 = .ok (.iconst 1, 1) := by decide +kernel
theorem d_law_390 : decode b_law 390 = .ok (.iadd, 1) := by decide +kernel
theorem d_law_391 : decode b_law 391 = .ok (.iaload, 1) := by decide +kernel
theorem d_law_392 : decode b_law 392 = .ok (.invokevirtual 59, 3) := by decide +kernel
theorem d_law_395 : decode b_law 395 = .ok (.if_icmp .eq 28, 3) := by decide +kernel
theorem d_law_400 : decode b_law 400 = .ok (.aload_n 1, 1) := by decide +kernel
theorem d_law_401 : decode b_law 401 = .ok (.aload_n 0, 1) := by decide +kernel
theorem d_law_402 : decode b_law 402 = .ok (.iload_n 3, 1) := by decide +kernel
theorem d_law_403 : decode b_law 403 = .ok (.iconst 1, 1) := by decide +kernel
theorem d_law_404 : decode b_law 404 = .ok (.iadd, 1) := by decide +kernel
theorem d_law_405 : decode b_law 405 = .ok (.iaload, 1) := by decide +kernel
theorem d_law_406 : decode b_law 406 = .ok (.invokevirtual 60, 3) := by decide +kernel
theorem d_law_409 : decode b_law 409 = .ok (.aload_n 2, 1) := by decide +kernel
theorem d_law_410 : decode b_law 410 = .ok (.aload_n 0, 1) := by decide +kernel
theorem d_law_411 : decode b_law 411 = .ok (.iload_n 3, 1) := by decide +kernel
theorem d_law_412 : decode b_law 412 = .ok (.iconst 1, 1) := by decide +kernel
theorem d_law_413 : decode b_law 413 = .ok (.iadd, 1) := by decide +kernel
theorem d_law_414 : decode b_law 414 = .ok (.iaload, 1) := by decide +kernel
theorem d_law_415 : decode b_law 415 = .ok (.invokevirtual 63, 3) := by decide +kernel
theorem d_law_418 : decode b_law 418 = .ok (.if_icmp .eq 5, 3) := by decide +kernel
