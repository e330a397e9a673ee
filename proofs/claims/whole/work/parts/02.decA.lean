theorem dX0_init_0 : decode cX0_init 0 = .ok (.aload_n 0, 1) := by decide +kernel
theorem dX0_init_1 : decode cX0_init 1 = .ok (.bipush 35, 2) := by decide +kernel
theorem dX0_init_3 : decode cX0_init 3 = .ok (.newarray .int, 2) := by decide +kernel
theorem dX0_init_5 : decode cX0_init 5 = .ok (.invokespecial 3, 3) := by decide +kernel
theorem dX0_init_8 : decode cX0_init 8 = .ok (.aload_n 0, 1) := by decide +kernel
theorem dX0_init_9 : decode cX0_init 9 = .ok (.bipush 9, 2) := by decide +kernel
theorem dX0_init_11 : decode cX0_init 11 = .ok (.newarray .int, 2) := by decide +kernel
theorem dX0_init_13 : decode cX0_init 13 = .ok (.putfield 9, 3) := by decide +kernel
theorem dX0_init_16 : decode cX0_init 16 = .ok (.aload_n 0, 1) := by decide +kernel
theorem dX0_init_17 : decode cX0_init 17 = .ok (.bipush 9, 2) := by decide +kernel
theorem dX0_init_19 : decode cX0_init 19 = .ok (.newarray .int, 2) := by decide +kernel
theorem dX0_init_21 : decode cX0_init 21 = .ok (.putfield 15, 3) := by decide +kernel
theorem dX0_init_24 : decode cX0_init 24 = .ok (.aload_n 0, 1) := by decide +kernel
theorem dX0_init_25 : decode cX0_init 25 = .ok (.bipush 9, 2) := by decide +kernel
theorem dX0_init_27 : decode cX0_init 27 = .ok (.newarray .int, 2) := by decide +kernel
theorem dX0_init_29 : decode cX0_init 29 = .ok (.putfield 18, 3) := by decide +kernel
theorem dX0_init_32 : decode cX0_init 32 = .ok (.aload_n 0, 1) := by decide +kernel
theorem dX0_init_33 : decode cX0_init 33 = .ok (.bipush 9, 2) := by decide +kernel
theorem dX0_init_35 : decode cX0_init 35 = .ok (.newarray .int, 2) := by decide +kernel
theorem dX0_init_37 : decode cX0_init 37 = .ok (.putfield 21, 3) := by decide +kernel
theorem dX0_init_40 : decode cX0_init 40 = .ok (.return_, 1) := by decide +kernel
theorem dX0_fits_0 : decode cX0_fits 0 = .ok (.iload_n 2, 1) := by decide +kernel
theorem dX0_fits_1 : decode cX0_fits 1 = .ok (.lookupswitch 58 #[(0, 27), (1, 34)], 27) := by decide +kernel
theorem dX0_fits_28 : decode cX0_fits 28 = .ok (.iload_n 1, 1) := by decide +kernel
theorem dX0_fits_29 : decode cX0_fits 29 = .ok (.bipush 57, 2) := by decide +kernel
theorem dX0_fits_31 : decode cX0_fits 31 = .ok (.invokestatic 24, 3) := by decide +kernel
theorem dX0_fits_34 : decode cX0_fits 34 = .ok (.ireturn, 1) := by decide +kernel
theorem dX0_fits_35 : decode cX0_fits 35 = .ok (.iload_n 1, 1) := by decide +kernel
theorem dX0_fits_36 : decode cX0_fits 36 = .ok (.bipush 111, 2) := by decide +kernel
theorem dX0_fits_38 : decode cX0_fits 38 = .ok (.if_icmp .eq 15, 3) := by decide +kernel
theorem dX0_fits_41 : decode cX0_fits 41 = .ok (.iload_n 1, 1) := by decide +kernel
theorem dX0_fits_42 : decode cX0_fits 42 = .ok (.bipush 98, 2) := by decide +kernel
theorem dX0_fits_44 : decode cX0_fits 44 = .ok (.if_icmp .eq 9, 3) := by decide +kernel
theorem dX0_fits_47 : decode cX0_fits 47 = .ok (.iload_n 1, 1) := by decide +kernel
theorem dX0_fits_48 : decode cX0_fits 48 = .ok (.bipush 112, 2) := by decide +kernel
theorem dX0_fits_50 : decode cX0_fits 50 = .ok (.if_icmp .ne 7, 3) := by decide +kernel
theorem dX0_fits_53 : decode cX0_fits 53 = .ok (.iconst 1, 1) := by decide +kernel
theorem dX0_fits_54 : decode cX0_fits 54 = .ok (.goto 4, 3) := by decide +kernel
theorem dX0_fits_57 : decode cX0_fits 57 = .ok (.iconst 0, 1) := by decide +kernel
theorem dX0_fits_58 : decode cX0_fits 58 = .ok (.ireturn, 1) := by decide +kernel
theorem dX0_fits_59 : decode cX0_fits 59 = .ok (.iload_n 1, 1) := by decide +kernel
theorem dX0_fits_60 : decode cX0_fits 60 = .ok (.bipush 46, 2) := by decide +kernel
theorem dX0_fits_62 : decode cX0_fits 62 = .ok (.if_icmp .eq 12, 3) := by decide +kernel
theorem dX0_fits_65 : decode cX0_fits 65 = .ok (.iload_n 1, 1) := by decide +kernel
theorem dX0_fits_66 : decode cX0_fits 66 = .ok (.bipush 56, 2) := by decide +kernel
theorem dX0_fits_68 : decode cX0_fits 68 = .ok (.invokestatic 24, 3) := by decide +kernel
theorem dX0_fits_71 : decode cX0_fits 71 = .ok (.ifCond .eq 7, 3) := by decide +kernel
theorem dX0_fits_74 : decode cX0_fits 74 = .ok (.iconst 1, 1) := by decide +kernel
theorem dX0_fits_75 : decode cX0_fits 75 = .ok (.goto 4, 3) := by decide +kernel
theorem dX0_fits_78 : decode cX0_fits 78 = .ok (.iconst 0, 1) := by decide +kernel
theorem dX0_fits_79 : decode cX0_fits 79 = .ok (.ireturn, 1) := by decide +kernel
theorem dX0_keep_0 : decode cX0_keep 0 = .ok (.iload_n 1, 1) := by decide +kernel
theorem dX0_keep_1 : decode cX0_keep 1 = .ok (.iconst 0, 1) := by decide +kernel
theorem dX0_keep_2 : decode cX0_keep 2 = .ok (.bipush 8, 2) := by decide +kernel
theorem dX0_keep_4 : decode cX0_keep 4 = .ok (.invokestatic 28, 3) := by decide +kernel
theorem dX0_keep_7 : decode cX0_keep 7 = .ok (.ifCond .eq 83, 3) := by decide +kernel
theorem dX0_keep_10 : decode cX0_keep 10 = .ok (.aload_n 0, 1) := by decide +kernel
theorem dX0_keep_11 : decode cX0_keep 11 = .ok (.getfield 9, 3) := by decide +kernel
theorem dX0_keep_14 : decode cX0_keep 14 = .ok (.iload_n 1, 1) := by decide +kernel
theorem dX0_keep_15 : decode cX0_keep 15 = .ok (.iload_n 2, 1) := by decide +kernel
theorem dX0_keep_16 : decode cX0_keep 16 = .ok (.bipush 48, 2) := by decide +kernel
theorem dX0_keep_18 : decode cX0_keep 18 = .ok (.isub, 1) := by decide +kernel
theorem dX0_keep_19 : decode cX0_keep 19 = .ok (.iastore, 1) := by decide +kernel
theorem dX0_keep_20 : decode cX0_keep 20 = .ok (.aload_n 0, 1) := by decide +kernel
theorem dX0_keep_21 : decode cX0_keep 21 = .ok (.getfield 15, 3) := by decide +kernel
theorem dX0_keep_24 : decode cX0_keep 24 = .ok (.iload_n 1, 1) := by decide +kernel
theorem dX0_keep_25 : decode cX0_keep 25 = .ok (.iload_n 3, 1) := by decide +kernel
theorem dX0_keep_26 : decode cX0_keep 26 = .ok (.bipush 98, 2) := by decide +kernel
theorem dX0_keep_28 : decode cX0_keep 28 = .ok (.if_icmp .ne 7, 3) := by decide +kernel
theorem dX0_keep_31 : decode cX0_keep 31 = .ok (.iconst 1, 1) := by decide +kernel
theorem dX0_keep_32 : decode cX0_keep 32 = .ok (.goto 14, 3) := by decide +kernel
theorem dX0_keep_35 : decode cX0_keep 35 = .ok (.iload_n 3, 1) := by decide +kernel
theorem dX0_keep_36 : decode cX0_keep 36 = .ok (.bipush 112, 2) := by decide +kernel
theorem dX0_keep_38 : decode cX0_keep 38 = .ok (.if_icmp .ne 7, 3) := by decide +kernel
theorem dX0_keep_41 : decode cX0_keep 41 = .ok (.iconst 2, 1) := by decide +kernel
theorem dX0_keep_42 : decode cX0_keep 42 = .ok (.goto 4, 3) := by decide +kernel
theorem dX0_keep_45 : decode cX0_keep 45 = .ok (.iconst 0, 1) := by decide +kernel
theorem dX0_keep_46 : decode cX0_keep 46 = .ok (.iastore, 1) := by decide +kernel
theorem dX0_keep_47 : decode cX0_keep 47 = .ok (.aload_n 0, 1) := by decide +kernel
theorem dX0_keep_48 : decode cX0_keep 48 = .ok (.getfield 18, 3) := by decide +kernel
theorem dX0_keep_51 : decode cX0_keep 51 = .ok (.iload_n 1, 1) := by decide +kernel
theorem dX0_keep_52 : decode cX0_keep 52 = .ok (.iload 4, 2) := by decide +kernel
theorem dX0_keep_54 : decode cX0_keep 54 = .ok (.bipush 46, 2) := by decide +kernel
theorem dX0_keep_56 : decode cX0_keep 56 = .ok (.if_icmp .ne 7, 3) := by decide +kernel
theorem dX0_keep_59 : decode cX0_keep 59 = .ok (.iconst (-1), 1) := by decide +kernel
theorem dX0_keep_60 : decode cX0_keep 60 = .ok (.goto 8, 3) := by decide +kernel
theorem dX0_keep_63 : decode cX0_keep 63 = .ok (.iload 4, 2) := by decide +kernel
theorem dX0_keep_65 : decode cX0_keep 65 = .ok (.bipush 48, 2) := by decide +kernel
theorem dX0_keep_67 : decode cX0_keep 67 = .ok (.isub, 1) := by decide +kernel
theorem dX0_keep_68 : decode cX0_keep 68 = .ok (.iastore, 1) := by decide +kernel
theorem dX0_keep_69 : decode cX0_keep 69 = .ok (.aload_n 0, 1) := by decide +kernel
theorem dX0_keep_70 : decode cX0_keep 70 = .ok (.getfield 21, 3) := by decide +kernel
theorem dX0_keep_73 : decode cX0_keep 73 = .ok (.iload_n 1, 1) := by decide +kernel
theorem dX0_keep_74 : decode cX0_keep 74 = .ok (.aload_n 0, 1) := by decide +kernel
theorem dX0_keep_75 : decode cX0_keep 75 = .ok (.getfield 9, 3) := by decide +kernel
theorem dX0_keep_78 : decode cX0_keep 78 = .ok (.iload_n 1, 1) := by decide +kernel
theorem dX0_keep_79 : decode cX0_keep 79 = .ok (.iaload, 1) := by decide +kernel
theorem dX0_keep_80 : decode cX0_keep 80 = .ok (.aload_n 0, 1) := by decide +kernel
theorem dX0_keep_81 : decode cX0_keep 81 = .ok (.getfield 15, 3) := by decide +kernel
theorem dX0_keep_84 : decode cX0_keep 84 = .ok (.iload_n 1, 1) := by decide +kernel
theorem dX0_keep_85 : decode cX0_keep 85 = .ok (.iaload, 1) := by decide +kernel
theorem dX0_keep_86 : decode cX0_keep 86 = .ok (.invokestatic 32, 3) := by decide +kernel
theorem dX0_keep_89 : decode cX0_keep 89 = .ok (.iastore, 1) := by decide +kernel
theorem dX0_keep_90 : decode cX0_keep 90 = .ok (.return_, 1) := by decide +kernel
theorem dX0_useAlone_0 : decode cX0_useAlone 0 = .ok (.iload_n 1, 1) := by decide +kernel
theorem dX0_useAlone_1 : decode cX0_useAlone 1 = .ok (.lookupswitch 33 #[(1, 27), (2, 29)], 27) := by decide +kernel
theorem dX0_useAlone_28 : decode cX0_useAlone 28 = .ok (.iconst 0, 1) := by decide +kernel
theorem dX0_useAlone_29 : decode cX0_useAlone 29 = .ok (.ireturn, 1) := by decide +kernel
theorem dX0_useAlone_30 : decode cX0_useAlone 30 = .ok (.iload_n 0, 1) := by decide +kernel
theorem dX0_useAlone_31 : decode cX0_useAlone 31 = .ok (.iconst 2, 1) := by decide +kernel
theorem dX0_useAlone_32 : decode cX0_useAlone 32 = .ok (.idiv, 1) := by decide +kernel
theorem dX0_useAlone_33 : decode cX0_useAlone 33 = .ok (.ireturn, 1) := by decide +kernel
theorem dX0_useAlone_34 : decode cX0_useAlone 34 = .ok (.iload_n 0, 1) := by decide +kernel
theorem dX0_useAlone_35 : decode cX0_useAlone 35 = .ok (.ireturn, 1) := by decide +kernel
theorem dX0_worth_0 : decode cX0_worth 0 = .ok (.iload_n 1, 1) := by decide +kernel
theorem dX0_worth_1 : decode cX0_worth 1 = .ok (.iconst 0, 1) := by decide +kernel
theorem dX0_worth_2 : decode cX0_worth 2 = .ok (.bipush 8, 2) := by decide +kernel
theorem dX0_worth_4 : decode cX0_worth 4 = .ok (.invokestatic 28, 3) := by decide +kernel
theorem dX0_worth_7 : decode cX0_worth 7 = .ok (.ifCond .eq 12, 3) := by decide +kernel
theorem dX0_worth_10 : decode cX0_worth 10 = .ok (.aload_n 0, 1) := by decide +kernel
theorem dX0_worth_11 : decode cX0_worth 11 = .ok (.getfield 9, 3) := by decide +kernel
theorem dX0_worth_14 : decode cX0_worth 14 = .ok (.iload_n 1, 1) := by decide +kernel
theorem dX0_worth_15 : decode cX0_worth 15 = .ok (.iaload, 1) := by decide +kernel
theorem dX0_worth_16 : decode cX0_worth 16 = .ok (.goto 4, 3) := by decide +kernel
theorem dX0_worth_19 : decode cX0_worth 19 = .ok (.iconst 0, 1) := by decide +kernel
theorem dX0_worth_20 : decode cX0_worth 20 = .ok (.ireturn, 1) := by decide +kernel
theorem dX0_kind_0 : decode cX0_kind 0 = .ok (.iload_n 1, 1) := by decide +kernel
theorem dX0_kind_1 : decode cX0_kind 1 = .ok (.iconst 0, 1) := by decide +kernel
theorem dX0_kind_2 : decode cX0_kind 2 = .ok (.bipush 8, 2) := by decide +kernel
theorem dX0_kind_4 : decode cX0_kind 4 = .ok (.invokestatic 28, 3) := by decide +kernel
theorem dX0_kind_7 : decode cX0_kind 7 = .ok (.ifCond .eq 12, 3) := by decide +kernel
theorem dX0_kind_10 : decode cX0_kind 10 = .ok (.aload_n 0, 1) := by decide +kernel
theorem dX0_kind_11 : decode cX0_kind 11 = .ok (.getfield 15, 3) := by decide +kernel
theorem dX0_kind_14 : decode cX0_kind 14 = .ok (.iload_n 1, 1) := by decide +kernel
theorem dX0_kind_15 : decode cX0_kind 15 = .ok (.iaload, 1) := by decide +kernel
theorem dX0_kind_16 : decode cX0_kind 16 = .ok (.goto 4, 3) := by decide +kernel
theorem dX0_kind_19 : decode cX0_kind 19 = .ok (.iconst 0, 1) := by decide +kernel
theorem dX0_kind_20 : decode cX0_kind 20 = .ok (.ireturn, 1) := by decide +kernel
theorem dX0_leansOn_0 : decode cX0_leansOn 0 = .ok (.iload_n 1, 1) := by decide +kernel
theorem dX0_leansOn_1 : decode cX0_leansOn 1 = .ok (.iconst 0, 1) := by decide +kernel
theorem dX0_leansOn_2 : decode cX0_leansOn 2 = .ok (.bipush 8, 2) := by decide +kernel
theorem dX0_leansOn_4 : decode cX0_leansOn 4 = .ok (.invokestatic 28, 3) := by decide +kernel
theorem dX0_leansOn_7 : decode cX0_leansOn 7 = .ok (.ifCond .eq 12, 3) := by decide +kernel
theorem dX0_leansOn_10 : decode cX0_leansOn 10 = .ok (.aload_n 0, 1) := by decide +kernel
theorem dX0_leansOn_11 : decode cX0_leansOn 11 = .ok (.getfield 18, 3) := by decide +kernel
theorem dX0_leansOn_14 : decode cX0_leansOn 14 = .ok (.iload_n 1, 1) := by decide +kernel
theorem dX0_leansOn_15 : decode cX0_leansOn 15 = .ok (.iaload, 1) := by decide +kernel
theorem dX0_leansOn_16 : decode cX0_leansOn 16 = .ok (.goto 4, 3) := by decide +kernel
theorem dX0_leansOn_19 : decode cX0_leansOn 19 = .ok (.iconst (-1), 1) := by decide +kernel
theorem dX0_leansOn_20 : decode cX0_leansOn 20 = .ok (.ireturn, 1) := by decide +kernel
theorem dX0_useOf_0 : decode cX0_useOf 0 = .ok (.iload_n 1, 1) := by decide +kernel
theorem dX0_useOf_1 : decode cX0_useOf 1 = .ok (.aload_n 0, 1) := by decide +kernel
theorem dX0_useOf_2 : decode cX0_useOf 2 = .ok (.invokevirtual 36, 3) := by decide +kernel
theorem dX0_useOf_5 : decode cX0_useOf 5 = .ok (.iand, 1) := by decide +kernel
theorem dX0_useOf_6 : decode cX0_useOf 6 = .ok (.istore_n 2, 1) := by decide +kernel
theorem dX0_useOf_7 : decode cX0_useOf 7 = .ok (.iconst 0, 1) := by decide +kernel
theorem dX0_useOf_8 : decode cX0_useOf 8 = .ok (.istore_n 3, 1) := by decide +kernel
theorem dX0_useOf_9 : decode cX0_useOf 9 = .ok (.iconst 0, 1) := by decide +kernel
theorem dX0_useOf_10 : decode cX0_useOf 10 = .ok (.istore 4, 2) := by decide +kernel
theorem dX0_useOf_12 : decode cX0_useOf 12 = .ok (.iload 4, 2) := by decide +kernel
theorem dX0_useOf_14 : decode cX0_useOf 14 = .ok (.bipush 8, 2) := by decide +kernel
theorem dX0_useOf_16 : decode cX0_useOf 16 = .ok (.if_icmp .gt 67, 3) := by decide +kernel
theorem dX0_useOf_19 : decode cX0_useOf 19 = .ok (.aload_n 0, 1) := by decide +kernel
theorem dX0_useOf_20 : decode cX0_useOf 20 = .ok (.getfield 18, 3) := by decide +kernel
theorem dX0_useOf_23 : decode cX0_useOf 23 = .ok (.iload 4, 2) := by decide +kernel
theorem dX0_useOf_25 : decode cX0_useOf 25 = .ok (.iaload, 1) := by decide +kernel
theorem dX0_useOf_26 : decode cX0_useOf 26 = .ok (.iconst (-1), 1) := by decide +kernel
theorem dX0_useOf_27 : decode cX0_useOf 27 = .ok (.if_icmp .eq 18, 3) := by decide +kernel
theorem dX0_useOf_30 : decode cX0_useOf 30 = .ok (.iload_n 2, 1) := by decide +kernel
theorem dX0_useOf_31 : decode cX0_useOf 31 = .ok (.aload_n 0, 1) := by decide +kernel
theorem dX0_useOf_32 : decode cX0_useOf 32 = .ok (.getfield 18, 3) := by decide +kernel
theorem dX0_useOf_35 : decode cX0_useOf 35 = .ok (.iload 4, 2) := by decide +kernel
theorem dX0_useOf_37 : decode cX0_useOf 37 = .ok (.iaload, 1) := by decide +kernel
theorem dX0_useOf_38 : decode cX0_useOf 38 = .ok (.ishr, 1) := by decide +kernel
theorem dX0_useOf_39 : decode cX0_useOf 39 = .ok (.iconst 1, 1) := by decide +kernel
theorem dX0_useOf_40 : decode cX0_useOf 40 = .ok (.iand, 1) := by decide +kernel
theorem dX0_useOf_41 : decode cX0_useOf 41 = .ok (.iconst 1, 1) := by decide +kernel
theorem dX0_useOf_42 : decode cX0_useOf 42 = .ok (.if_icmp .ne 7, 3) := by decide +kernel
theorem dX0_useOf_45 : decode cX0_useOf 45 = .ok (.iconst 1, 1) := by decide +kernel
theorem dX0_useOf_46 : decode cX0_useOf 46 = .ok (.goto 4, 3) := by decide +kernel
theorem dX0_useOf_49 : decode cX0_useOf 49 = .ok (.iconst 0, 1) := by decide +kernel
theorem dX0_useOf_50 : decode cX0_useOf 50 = .ok (.istore 5, 2) := by decide +kernel
theorem dX0_useOf_52 : decode cX0_useOf 52 = .ok (.iload_n 2, 1) := by decide +kernel
theorem dX0_useOf_53 : decode cX0_useOf 53 = .ok (.iload 4, 2) := by decide +kernel
theorem dX0_useOf_55 : decode cX0_useOf 55 = .ok (.ishr, 1) := by decide +kernel
theorem dX0_useOf_56 : decode cX0_useOf 56 = .ok (.iconst 1, 1) := by decide +kernel
theorem dX0_useOf_57 : decode cX0_useOf 57 = .ok (.iand, 1) := by decide +kernel
theorem dX0_useOf_58 : decode cX0_useOf 58 = .ok (.iconst 1, 1) := by decide +kernel
theorem dX0_useOf_59 : decode cX0_useOf 59 = .ok (.if_icmp .ne 18, 3) := by decide +kernel
theorem dX0_useOf_62 : decode cX0_useOf 62 = .ok (.iload 5, 2) := by decide +kernel
theorem dX0_useOf_64 : decode cX0_useOf 64 = .ok (.ifCond .eq 13, 3) := by decide +kernel
theorem dX0_useOf_67 : decode cX0_useOf 67 = .ok (.iload_n 3, 1) := by decide +kernel
theorem dX0_useOf_68 : decode cX0_useOf 68 = .ok (.aload_n 0, 1) := by decide +kernel
theorem dX0_useOf_69 : decode cX0_useOf 69 = .ok (.getfield 21, 3) := by decide +kernel
theorem dX0_useOf_72 : decode cX0_useOf 72 = .ok (.iload 4, 2) := by decide +kernel
theorem dX0_useOf_74 : decode cX0_useOf 74 = .ok (.iaload, 1) := by decide +kernel
theorem dX0_useOf_75 : decode cX0_useOf 75 = .ok (.iadd, 1) := by decide +kernel
theorem dX0_useOf_76 : decode cX0_useOf 76 = .ok (.istore_n 3, 1) := by decide +kernel
theorem dX0_useOf_77 : decode cX0_useOf 77 = .ok (.iinc 4 1, 3) := by decide +kernel
theorem dX0_useOf_80 : decode cX0_useOf 80 = .ok (.goto (-68), 3) := by decide +kernel
theorem dX0_useOf_83 : decode cX0_useOf 83 = .ok (.iload_n 3, 1) := by decide +kernel
theorem dX0_useOf_84 : decode cX0_useOf 84 = .ok (.ireturn, 1) := by decide +kernel
theorem dX0_blanksOf_0 : decode cX0_blanksOf 0 = .ok (.iload_n 1, 1) := by decide +kernel
theorem dX0_blanksOf_1 : decode cX0_blanksOf 1 = .ok (.aload_n 0, 1) := by decide +kernel
theorem dX0_blanksOf_2 : decode cX0_blanksOf 2 = .ok (.invokevirtual 36, 3) := by decide +kernel
theorem dX0_blanksOf_5 : decode cX0_blanksOf 5 = .ok (.iand, 1) := by decide +kernel
theorem dX0_blanksOf_6 : decode cX0_blanksOf 6 = .ok (.istore_n 2, 1) := by decide +kernel
theorem dX0_blanksOf_7 : decode cX0_blanksOf 7 = .ok (.iconst 0, 1) := by decide +kernel
theorem dX0_blanksOf_8 : decode cX0_blanksOf 8 = .ok (.istore_n 3, 1) := by decide +kernel
theorem dX0_blanksOf_9 : decode cX0_blanksOf 9 = .ok (.iconst 0, 1) := by decide +kernel
theorem dX0_blanksOf_10 : decode cX0_blanksOf 10 = .ok (.istore 4, 2) := by decide +kernel
theorem dX0_blanksOf_12 : decode cX0_blanksOf 12 = .ok (.iload 4, 2) := by decide +kernel
theorem dX0_blanksOf_14 : decode cX0_blanksOf 14 = .ok (.bipush 8, 2) := by decide +kernel
theorem dX0_blanksOf_16 : decode cX0_blanksOf 16 = .ok (.if_icmp .gt 32, 3) := by decide +kernel
theorem dX0_blanksOf_19 : decode cX0_blanksOf 19 = .ok (.iload_n 2, 1) := by decide +kernel
theorem dX0_blanksOf_20 : decode cX0_blanksOf 20 = .ok (.iload 4, 2) := by decide +kernel
theorem dX0_blanksOf_22 : decode cX0_blanksOf 22 = .ok (.invokestatic 40, 3) := by decide +kernel
theorem dX0_blanksOf_25 : decode cX0_blanksOf 25 = .ok (.ifCond .eq 17, 3) := by decide +kernel
theorem dX0_blanksOf_28 : decode cX0_blanksOf 28 = .ok (.aload_n 0, 1) := by decide +kernel
theorem dX0_blanksOf_29 : decode cX0_blanksOf 29 = .ok (.getfield 15, 3) := by decide +kernel
theorem dX0_blanksOf_32 : decode cX0_blanksOf 32 = .ok (.iload 4, 2) := by decide +kernel
theorem dX0_blanksOf_34 : decode cX0_blanksOf 34 = .ok (.iaload, 1) := by decide +kernel
theorem dX0_blanksOf_35 : decode cX0_blanksOf 35 = .ok (.iconst 1, 1) := by decide +kernel
theorem dX0_blanksOf_36 : decode cX0_blanksOf 36 = .ok (.if_icmp .ne 6, 3) := by decide +kernel
theorem dX0_blanksOf_39 : decode cX0_blanksOf 39 = .ok (.iinc 3 1, 3) := by decide +kernel
theorem dX0_blanksOf_42 : decode cX0_blanksOf 42 = .ok (.iinc 4 1, 3) := by decide +kernel
theorem dX0_blanksOf_45 : decode cX0_blanksOf 45 = .ok (.goto (-33), 3) := by decide +kernel
theorem dX0_blanksOf_48 : decode cX0_blanksOf 48 = .ok (.iload_n 3, 1) := by decide +kernel
theorem dX0_blanksOf_49 : decode cX0_blanksOf 49 = .ok (.ireturn, 1) := by decide +kernel
theorem dX1_init_0 : decode cX1_init 0 = .ok (.aload_n 0, 1) := by decide +kernel
theorem dX1_init_1 : decode cX1_init 1 = .ok (.invokespecial 3, 3) := by decide +kernel
theorem dX1_init_4 : decode cX1_init 4 = .ok (.aload_n 0, 1) := by decide +kernel
theorem dX1_init_5 : decode cX1_init 5 = .ok (.bipush 9, 2) := by decide +kernel
theorem dX1_init_7 : decode cX1_init 7 = .ok (.newarray .int, 2) := by decide +kernel
theorem dX1_init_9 : decode cX1_init 9 = .ok (.putfield 9, 3) := by decide +kernel
theorem dX1_init_12 : decode cX1_init 12 = .ok (.aload_n 0, 1) := by decide +kernel
theorem dX1_init_13 : decode cX1_init 13 = .ok (.iconst 0, 1) := by decide +kernel
theorem dX1_init_14 : decode cX1_init 14 = .ok (.putfield 15, 3) := by decide +kernel
theorem dX1_init_17 : decode cX1_init 17 = .ok (.aload_n 0, 1) := by decide +kernel
theorem dX1_init_18 : decode cX1_init 18 = .ok (.iconst 0, 1) := by decide +kernel
theorem dX1_init_19 : decode cX1_init 19 = .ok (.putfield 19, 3) := by decide +kernel
theorem dX1_init_22 : decode cX1_init 22 = .ok (.return_, 1) := by decide +kernel
theorem dX1_append_0 : decode cX1_append 0 = .ok (.iload_n 1, 1) := by decide +kernel
theorem dX1_append_1 : decode cX1_append 1 = .ok (.iconst 0, 1) := by decide +kernel
theorem dX1_append_2 : decode cX1_append 2 = .ok (.bipush 8, 2) := by decide +kernel
theorem dX1_append_4 : decode cX1_append 4 = .ok (.invokestatic 22, 3) := by decide +kernel
theorem dX1_append_7 : decode cX1_append 7 = .ok (.ifCond .eq 26, 3) := by decide +kernel
theorem dX1_append_10 : decode cX1_append 10 = .ok (.aload_n 0, 1) := by decide +kernel
theorem dX1_append_11 : decode cX1_append 11 = .ok (.getfield 19, 3) := by decide +kernel
theorem dX1_append_14 : decode cX1_append 14 = .ok (.iload_n 1, 1) := by decide +kernel
theorem dX1_append_15 : decode cX1_append 15 = .ok (.invokestatic 26, 3) := by decide +kernel
theorem dX1_append_18 : decode cX1_append 18 = .ok (.ifCond .ne 15, 3) := by decide +kernel
theorem dX1_append_21 : decode cX1_append 21 = .ok (.aload_n 0, 1) := by decide +kernel
theorem dX1_append_22 : decode cX1_append 22 = .ok (.getfield 15, 3) := by decide +kernel
theorem dX1_append_25 : decode cX1_append 25 = .ok (.aload_n 0, 1) := by decide +kernel
theorem dX1_append_26 : decode cX1_append 26 = .ok (.getfield 9, 3) := by decide +kernel
theorem dX1_append_29 : decode cX1_append 29 = .ok (.arraylength, 1) := by decide +kernel
theorem dX1_append_30 : decode cX1_append 30 = .ok (.if_icmp .lt 6, 3) := by decide +kernel
theorem dX1_append_33 : decode cX1_append 33 = .ok (.bipush (-2), 2) := by decide +kernel
theorem dX1_append_35 : decode cX1_append 35 = .ok (.ireturn, 1) := by decide +kernel
theorem dX1_append_36 : decode cX1_append 36 = .ok (.aload_n 0, 1) := by decide +kernel
theorem dX1_append_37 : decode cX1_append 37 = .ok (.getfield 9, 3) := by decide +kernel
theorem dX1_append_40 : decode cX1_append 40 = .ok (.aload_n 0, 1) := by decide +kernel
theorem dX1_append_41 : decode cX1_append 41 = .ok (.getfield 15, 3) := by decide +kernel
theorem dX1_append_44 : decode cX1_append 44 = .ok (.iload_n 1, 1) := by decide +kernel
theorem dX1_append_45 : decode cX1_append 45 = .ok (.iastore, 1) := by decide +kernel
theorem dX1_append_46 : decode cX1_append 46 = .ok (.aload_n 0, 1) := by decide +kernel
theorem dX1_append_47 : decode cX1_append 47 = .ok (.dup, 1) := by decide +kernel
theorem dX1_append_48 : decode cX1_append 48 = .ok (.getfield 15, 3) := by decide +kernel
theorem dX1_append_51 : decode cX1_append 51 = .ok (.iconst 1, 1) := by decide +kernel
theorem dX1_append_52 : decode cX1_append 52 = .ok (.iadd, 1) := by decide +kernel
theorem dX1_append_53 : decode cX1_append 53 = .ok (.putfield 15, 3) := by decide +kernel
theorem dX1_append_56 : decode cX1_append 56 = .ok (.aload_n 0, 1) := by decide +kernel
theorem dX1_append_57 : decode cX1_append 57 = .ok (.dup, 1) := by decide +kernel
theorem dX1_append_58 : decode cX1_append 58 = .ok (.getfield 19, 3) := by decide +kernel
theorem dX1_append_61 : decode cX1_append 61 = .ok (.iconst 1, 1) := by decide +kernel
theorem dX1_append_62 : decode cX1_append 62 = .ok (.iload_n 1, 1) := by decide +kernel
theorem dX1_append_63 : decode cX1_append 63 = .ok (.ishl, 1) := by decide +kernel
theorem dX1_append_64 : decode cX1_append 64 = .ok (.ior, 1) := by decide +kernel
theorem dX1_append_65 : decode cX1_append 65 = .ok (.putfield 19, 3) := by decide +kernel
theorem dX1_append_68 : decode cX1_append 68 = .ok (.aload_n 0, 1) := by decide +kernel
theorem dX1_append_69 : decode cX1_append 69 = .ok (.getfield 15, 3) := by decide +kernel
theorem dX1_append_72 : decode cX1_append 72 = .ok (.ireturn, 1) := by decide +kernel
theorem dX1_dropLast_0 : decode cX1_dropLast 0 = .ok (.aload_n 0, 1) := by decide +kernel
theorem dX1_dropLast_1 : decode cX1_dropLast 1 = .ok (.getfield 15, 3) := by decide +kernel
theorem dX1_dropLast_4 : decode cX1_dropLast 4 = .ok (.iconst 1, 1) := by decide +kernel
theorem dX1_dropLast_5 : decode cX1_dropLast 5 = .ok (.aload_n 0, 1) := by decide +kernel
theorem dX1_dropLast_6 : decode cX1_dropLast 6 = .ok (.getfield 9, 3) := by decide +kernel
theorem dX1_dropLast_9 : decode cX1_dropLast 9 = .ok (.arraylength, 1) := by decide +kernel
theorem dX1_dropLast_10 : decode cX1_dropLast 10 = .ok (.invokestatic 22, 3) := by decide +kernel
theorem dX1_dropLast_13 : decode cX1_dropLast 13 = .ok (.ifCond .ne 6, 3) := by decide +kernel
theorem dX1_dropLast_16 : decode cX1_dropLast 16 = .ok (.bipush (-3), 2) := by decide +kernel
theorem dX1_dropLast_18 : decode cX1_dropLast 18 = .ok (.ireturn, 1) := by decide +kernel
theorem dX1_dropLast_19 : decode cX1_dropLast 19 = .ok (.aload_n 0, 1) := by decide +kernel
theorem dX1_dropLast_20 : decode cX1_dropLast 20 = .ok (.dup, 1) := by decide +kernel
theorem dX1_dropLast_21 : decode cX1_dropLast 21 = .ok (.getfield 15, 3) := by decide +kernel
theorem dX1_dropLast_24 : decode cX1_dropLast 24 = .ok (.iconst 1, 1) := by decide +kernel
theorem dX1_dropLast_25 : decode cX1_dropLast 25 = .ok (.isub, 1) := by decide +kernel
theorem dX1_dropLast_26 : decode cX1_dropLast 26 = .ok (.putfield 15, 3) := by decide +kernel
theorem dX1_dropLast_29 : decode cX1_dropLast 29 = .ok (.aload_n 0, 1) := by decide +kernel
theorem dX1_dropLast_30 : decode cX1_dropLast 30 = .ok (.dup, 1) := by decide +kernel
theorem dX1_dropLast_31 : decode cX1_dropLast 31 = .ok (.getfield 19, 3) := by decide +kernel
theorem dX1_dropLast_34 : decode cX1_dropLast 34 = .ok (.iconst 1, 1) := by decide +kernel
theorem dX1_dropLast_35 : decode cX1_dropLast 35 = .ok (.aload_n 0, 1) := by decide +kernel
theorem dX1_dropLast_36 : decode cX1_dropLast 36 = .ok (.getfield 9, 3) := by decide +kernel
theorem dX1_dropLast_39 : decode cX1_dropLast 39 = .ok (.aload_n 0, 1) := by decide +kernel
theorem dX1_dropLast_40 : decode cX1_dropLast 40 = .ok (.getfield 15, 3) := by decide +kernel
theorem dX1_dropLast_43 : decode cX1_dropLast 43 = .ok (.iaload, 1) := by decide +kernel
theorem dX1_dropLast_44 : decode cX1_dropLast 44 = .ok (.ishl, 1) := by decide +kernel
theorem dX1_dropLast_45 : decode cX1_dropLast 45 = .ok (.iconst (-1), 1) := by decide +kernel
theorem dX1_dropLast_46 : decode cX1_dropLast 46 = .ok (.ixor, 1) := by decide +kernel
theorem dX1_dropLast_47 : decode cX1_dropLast 47 = .ok (.iand, 1) := by decide +kernel
theorem dX1_dropLast_48 : decode cX1_dropLast 48 = .ok (.putfield 19, 3) := by decide +kernel
theorem dX1_dropLast_51 : decode cX1_dropLast 51 = .ok (.aload_n 0, 1) := by decide +kernel
theorem dX1_dropLast_52 : decode cX1_dropLast 52 = .ok (.getfield 15, 3) := by decide +kernel
theorem dX1_dropLast_55 : decode cX1_dropLast 55 = .ok (.ireturn, 1) := by decide +kernel
theorem dX1_size_0 : decode cX1_size 0 = .ok (.aload_n 0, 1) := by decide +kernel
theorem dX1_size_1 : decode cX1_size 1 = .ok (.getfield 15, 3) := by decide +kernel
theorem dX1_size_4 : decode cX1_size 4 = .ok (.ireturn, 1) := by decide +kernel
theorem dX1_bits_0 : decode cX1_bits 0 = .ok (.aload_n 0, 1) := by decide +kernel
theorem dX1_bits_1 : decode cX1_bits 1 = .ok (.getfield 19, 3) := by decide +kernel
theorem dX1_bits_4 : decode cX1_bits 4 = .ok (.ireturn, 1) := by decide +kernel
theorem dX2_init_0 : decode cX2_init 0 = .ok (.aload_n 0, 1) := by decide +kernel
theorem dX2_init_1 : decode cX2_init 1 = .ok (.invokespecial 3, 3) := by decide +kernel
theorem dX2_init_4 : decode cX2_init 4 = .ok (.aload_n 0, 1) := by decide +kernel
theorem dX2_init_5 : decode cX2_init 5 = .ok (.iconst 0, 1) := by decide +kernel
theorem dX2_init_6 : decode cX2_init 6 = .ok (.putfield 9, 3) := by decide +kernel
theorem dX2_init_9 : decode cX2_init 9 = .ok (.aload_n 0, 1) := by decide +kernel
theorem dX2_init_10 : decode cX2_init 10 = .ok (.iconst (-1), 1) := by decide +kernel
theorem dX2_init_11 : decode cX2_init 11 = .ok (.putfield 15, 3) := by decide +kernel
theorem dX2_init_14 : decode cX2_init 14 = .ok (.aload_n 0, 1) := by decide +kernel
theorem dX2_init_15 : decode cX2_init 15 = .ok (.iconst 0, 1) := by decide +kernel
theorem dX2_init_16 : decode cX2_init 16 = .ok (.putfield 18, 3) := by decide +kernel
theorem dX2_init_19 : decode cX2_init 19 = .ok (.aload_n 0, 1) := by decide +kernel
theorem dX2_init_20 : decode cX2_init 20 = .ok (.aload_n 1, 1) := by decide +kernel
theorem dX2_init_21 : decode cX2_init 21 = .ok (.putfield 21, 3) := by decide +kernel
theorem dX2_init_24 : decode cX2_init 24 = .ok (.return_, 1) := by decide +kernel
theorem dX2_append_0 : decode cX2_append 0 = .ok (.aload_n 0, 1) := by decide +kernel
theorem dX2_append_1 : decode cX2_append 1 = .ok (.getfield 9, 3) := by decide +kernel
theorem dX2_append_4 : decode cX2_append 4 = .ok (.aload_n 0, 1) := by decide +kernel
theorem dX2_append_5 : decode cX2_append 5 = .ok (.getfield 21, 3) := by decide +kernel
theorem dX2_append_8 : decode cX2_append 8 = .ok (.arraylength, 1) := by decide +kernel
theorem dX2_append_9 : decode cX2_append 9 = .ok (.if_icmp .lt 6, 3) := by decide +kernel
theorem dX2_append_12 : decode cX2_append 12 = .ok (.bipush (-4), 2) := by decide +kernel
theorem dX2_append_14 : decode cX2_append 14 = .ok (.ireturn, 1) := by decide +kernel
theorem dX2_append_15 : decode cX2_append 15 = .ok (.aload_n 0, 1) := by decide +kernel
theorem dX2_append_16 : decode cX2_append 16 = .ok (.getfield 21, 3) := by decide +kernel
theorem dX2_append_19 : decode cX2_append 19 = .ok (.aload_n 0, 1) := by decide +kernel
theorem dX2_append_20 : decode cX2_append 20 = .ok (.getfield 9, 3) := by decide +kernel
theorem dX2_append_23 : decode cX2_append 23 = .ok (.iload_n 1, 1) := by decide +kernel
theorem dX2_append_24 : decode cX2_append 24 = .ok (.iastore, 1) := by decide +kernel
theorem dX2_append_25 : decode cX2_append 25 = .ok (.aload_n 0, 1) := by decide +kernel
theorem dX2_append_26 : decode cX2_append 26 = .ok (.dup, 1) := by decide +kernel
theorem dX2_append_27 : decode cX2_append 27 = .ok (.getfield 9, 3) := by decide +kernel
theorem dX2_append_30 : decode cX2_append 30 = .ok (.iconst 1, 1) := by decide +kernel
theorem dX2_append_31 : decode cX2_append 31 = .ok (.iadd, 1) := by decide +kernel
theorem dX2_append_32 : decode cX2_append 32 = .ok (.putfield 9, 3) := by decide +kernel
theorem dX2_append_35 : decode cX2_append 35 = .ok (.aload_n 0, 1) := by decide +kernel
theorem dX2_append_36 : decode cX2_append 36 = .ok (.invokevirtual 25, 3) := by decide +kernel
theorem dX2_append_39 : decode cX2_append 39 = .ok (.aload_n 0, 1) := by decide +kernel
theorem dX2_append_40 : decode cX2_append 40 = .ok (.getfield 9, 3) := by decide +kernel
theorem dX2_append_43 : decode cX2_append 43 = .ok (.ireturn, 1) := by decide +kernel
theorem dX2_clear_0 : decode cX2_clear 0 = .ok (.aload_n 0, 1) := by decide +kernel
theorem dX2_clear_1 : decode cX2_clear 1 = .ok (.getfield 9, 3) := by decide +kernel
theorem dX2_clear_4 : decode cX2_clear 4 = .ok (.istore_n 1, 1) := by decide +kernel
theorem dX2_clear_5 : decode cX2_clear 5 = .ok (.aload_n 0, 1) := by decide +kernel
theorem dX2_clear_6 : decode cX2_clear 6 = .ok (.iconst 0, 1) := by decide +kernel
theorem dX2_clear_7 : decode cX2_clear 7 = .ok (.putfield 9, 3) := by decide +kernel
theorem dX2_clear_10 : decode cX2_clear 10 = .ok (.aload_n 0, 1) := by decide +kernel
theorem dX2_clear_11 : decode cX2_clear 11 = .ok (.invokevirtual 25, 3) := by decide +kernel
theorem dX2_clear_14 : decode cX2_clear 14 = .ok (.iload_n 1, 1) := by decide +kernel
theorem dX2_clear_15 : decode cX2_clear 15 = .ok (.ireturn, 1) := by decide +kernel
theorem dX2_dropLast_0 : decode cX2_dropLast 0 = .ok (.aload_n 0, 1) := by decide +kernel
theorem dX2_dropLast_1 : decode cX2_dropLast 1 = .ok (.getfield 9, 3) := by decide +kernel
theorem dX2_dropLast_4 : decode cX2_dropLast 4 = .ok (.ifCond .gt 6, 3) := by decide +kernel
theorem dX2_dropLast_7 : decode cX2_dropLast 7 = .ok (.bipush (-3), 2) := by decide +kernel
theorem dX2_dropLast_9 : decode cX2_dropLast 9 = .ok (.ireturn, 1) := by decide +kernel
theorem dX2_dropLast_10 : decode cX2_dropLast 10 = .ok (.aload_n 0, 1) := by decide +kernel
theorem dX2_dropLast_11 : decode cX2_dropLast 11 = .ok (.dup, 1) := by decide +kernel
theorem dX2_dropLast_12 : decode cX2_dropLast 12 = .ok (.getfield 9, 3) := by decide +kernel
theorem dX2_dropLast_15 : decode cX2_dropLast 15 = .ok (.iconst 1, 1) := by decide +kernel
theorem dX2_dropLast_16 : decode cX2_dropLast 16 = .ok (.isub, 1) := by decide +kernel
theorem dX2_dropLast_17 : decode cX2_dropLast 17 = .ok (.putfield 9, 3) := by decide +kernel
theorem dX2_dropLast_20 : decode cX2_dropLast 20 = .ok (.aload_n 0, 1) := by decide +kernel
theorem dX2_dropLast_21 : decode cX2_dropLast 21 = .ok (.invokevirtual 25, 3) := by decide +kernel
theorem dX2_dropLast_24 : decode cX2_dropLast 24 = .ok (.aload_n 0, 1) := by decide +kernel
theorem dX2_dropLast_25 : decode cX2_dropLast 25 = .ok (.getfield 9, 3) := by decide +kernel
theorem dX2_dropLast_28 : decode cX2_dropLast 28 = .ok (.ireturn, 1) := by decide +kernel
theorem dX2_length_0 : decode cX2_length 0 = .ok (.aload_n 0, 1) := by decide +kernel
theorem dX2_length_1 : decode cX2_length 1 = .ok (.getfield 9, 3) := by decide +kernel
theorem dX2_length_4 : decode cX2_length 4 = .ok (.ireturn, 1) := by decide +kernel
theorem dX2_faultPlace_0 : decode cX2_faultPlace 0 = .ok (.aload_n 0, 1) := by decide +kernel
theorem dX2_faultPlace_1 : decode cX2_faultPlace 1 = .ok (.getfield 15, 3) := by decide +kernel
theorem dX2_faultPlace_4 : decode cX2_faultPlace 4 = .ok (.ireturn, 1) := by decide +kernel
theorem dX2_number_0 : decode cX2_number 0 = .ok (.aload_n 0, 1) := by decide +kernel
theorem dX2_number_1 : decode cX2_number 1 = .ok (.getfield 18, 3) := by decide +kernel
theorem dX2_number_4 : decode cX2_number 4 = .ok (.ireturn, 1) := by decide +kernel
theorem dX2_every_0 : decode cX2_every 0 = .ok (.iconst 1, 1) := by decide +kernel
theorem dX2_every_1 : decode cX2_every 1 = .ok (.aload_n 0, 1) := by decide +kernel
theorem dX2_every_2 : decode cX2_every 2 = .ok (.getfield 18, 3) := by decide +kernel
theorem dX2_every_5 : decode cX2_every 5 = .ok (.ishl, 1) := by decide +kernel
theorem dX2_every_6 : decode cX2_every 6 = .ok (.iconst 1, 1) := by decide +kernel
theorem dX2_every_7 : decode cX2_every 7 = .ok (.isub, 1) := by decide +kernel
theorem dX2_every_8 : decode cX2_every 8 = .ok (.ireturn, 1) := by decide +kernel
theorem dX2_isFigure_0 : decode cX2_isFigure 0 = .ok (.iload_n 0, 1) := by decide +kernel
theorem dX2_isFigure_1 : decode cX2_isFigure 1 = .ok (.bipush 48, 2) := by decide +kernel
theorem dX2_isFigure_3 : decode cX2_isFigure 3 = .ok (.iload_n 1, 1) := by decide +kernel
theorem dX2_isFigure_4 : decode cX2_isFigure 4 = .ok (.invokestatic 28, 3) := by decide +kernel
theorem dX2_isFigure_7 : decode cX2_isFigure 7 = .ok (.ireturn, 1) := by decide +kernel
theorem dX2_reread_0 : decode cX2_reread 0 = .ok (.aload_n 0, 1) := by decide +kernel
theorem dX2_reread_1 : decode cX2_reread 1 = .ok (.aload_n 0, 1) := by decide +kernel
theorem dX2_reread_2 : decode cX2_reread 2 = .ok (.invokevirtual 32, 3) := by decide +kernel
theorem dX2_reread_5 : decode cX2_reread 5 = .ok (.putfield 15, 3) := by decide +kernel
theorem dX2_reread_8 : decode cX2_reread 8 = .ok (.aload_n 0, 1) := by decide +kernel
theorem dX2_reread_9 : decode cX2_reread 9 = .ok (.aload_n 0, 1) := by decide +kernel
theorem dX2_reread_10 : decode cX2_reread 10 = .ok (.getfield 15, 3) := by decide +kernel
theorem dX2_reread_13 : decode cX2_reread 13 = .ok (.iconst (-1), 1) := by decide +kernel
theorem dX2_reread_14 : decode cX2_reread 14 = .ok (.if_icmp .ne 14, 3) := by decide +kernel
theorem dX2_reread_17 : decode cX2_reread 17 = .ok (.aload_n 0, 1) := by decide +kernel
theorem dX2_reread_18 : decode cX2_reread 18 = .ok (.getfield 9, 3) := by decide +kernel
theorem dX2_reread_21 : decode cX2_reread 21 = .ok (.iconst 1, 1) := by decide +kernel
theorem dX2_reread_22 : decode cX2_reread 22 = .ok (.iadd, 1) := by decide +kernel
theorem dX2_reread_23 : decode cX2_reread 23 = .ok (.iconst 4, 1) := by decide +kernel
theorem dX2_reread_24 : decode cX2_reread 24 = .ok (.idiv, 1) := by decide +kernel
theorem dX2_reread_25 : decode cX2_reread 25 = .ok (.goto 4, 3) := by decide +kernel
theorem dX2_reread_28 : decode cX2_reread 28 = .ok (.iconst 0, 1) := by decide +kernel
theorem dX2_reread_29 : decode cX2_reread 29 = .ok (.putfield 18, 3) := by decide +kernel
theorem dX2_reread_32 : decode cX2_reread 32 = .ok (.iconst 0, 1) := by decide +kernel
theorem dX2_reread_33 : decode cX2_reread 33 = .ok (.istore_n 1, 1) := by decide +kernel
theorem dX2_reread_34 : decode cX2_reread 34 = .ok (.iload_n 1, 1) := by decide +kernel
theorem dX2_reread_35 : decode cX2_reread 35 = .ok (.aload_n 0, 1) := by decide +kernel
theorem dX2_reread_36 : decode cX2_reread 36 = .ok (.getfield 18, 3) := by decide +kernel
theorem dX2_reread_39 : decode cX2_reread 39 = .ok (.if_icmp .ge 51, 3) := by decide +kernel
theorem dX2_reread_42 : decode cX2_reread 42 = .ok (.iconst 4, 1) := by decide +kernel
theorem dX2_reread_43 : decode cX2_reread 43 = .ok (.iload_n 1, 1) := by decide +kernel
theorem dX2_reread_44 : decode cX2_reread 44 = .ok (.imul, 1) := by decide +kernel
theorem dX2_reread_45 : decode cX2_reread 45 = .ok (.istore_n 2, 1) := by decide +kernel
theorem dX2_reread_46 : decode cX2_reread 46 = .ok (.iload_n 2, 1) := by decide +kernel
theorem dX2_reread_47 : decode cX2_reread 47 = .ok (.iconst 2, 1) := by decide +kernel
theorem dX2_reread_48 : decode cX2_reread 48 = .ok (.iadd, 1) := by decide +kernel
theorem dX2_reread_49 : decode cX2_reread 49 = .ok (.aload_n 0, 1) := by decide +kernel
theorem dX2_reread_50 : decode cX2_reread 50 = .ok (.getfield 21, 3) := by decide +kernel
theorem dX2_reread_53 : decode cX2_reread 53 = .ok (.arraylength, 1) := by decide +kernel
theorem dX2_reread_54 : decode cX2_reread 54 = .ok (.if_icmp .ge 30, 3) := by decide +kernel
theorem dX2_reread_57 : decode cX2_reread 57 = .ok (.aload_n 0, 1) := by decide +kernel
theorem dX2_reread_58 : decode cX2_reread 58 = .ok (.iload_n 1, 1) := by decide +kernel
theorem dX2_reread_59 : decode cX2_reread 59 = .ok (.aload_n 0, 1) := by decide +kernel
theorem dX2_reread_60 : decode cX2_reread 60 = .ok (.getfield 21, 3) := by decide +kernel
theorem dX2_reread_63 : decode cX2_reread 63 = .ok (.iload_n 2, 1) := by decide +kernel
theorem dX2_reread_64 : decode cX2_reread 64 = .ok (.iaload, 1) := by decide +kernel
theorem dX2_reread_65 : decode cX2_reread 65 = .ok (.aload_n 0, 1) := by decide +kernel
theorem dX2_reread_66 : decode cX2_reread 66 = .ok (.getfield 21, 3) := by decide +kernel
theorem dX2_reread_69 : decode cX2_reread 69 = .ok (.iload_n 2, 1) := by decide +kernel
theorem dX2_reread_70 : decode cX2_reread 70 = .ok (.iconst 1, 1) := by decide +kernel
theorem dX2_reread_71 : decode cX2_reread 71 = .ok (.iadd, 1) := by decide +kernel
theorem dX2_reread_72 : decode cX2_reread 72 = .ok (.iaload, 1) := by decide +kernel
theorem dX2_reread_73 : decode cX2_reread 73 = .ok (.aload_n 0, 1) := by decide +kernel
theorem dX2_reread_74 : decode cX2_reread 74 = .ok (.getfield 21, 3) := by decide +kernel
theorem dX2_reread_77 : decode cX2_reread 77 = .ok (.iload_n 2, 1) := by decide +kernel
theorem dX2_reread_78 : decode cX2_reread 78 = .ok (.iconst 2, 1) := by decide +kernel
theorem dX2_reread_79 : decode cX2_reread 79 = .ok (.iadd, 1) := by decide +kernel
theorem dX2_reread_80 : decode cX2_reread 80 = .ok (.iaload, 1) := by decide +kernel
theorem dX2_reread_81 : decode cX2_reread 81 = .ok (.invokevirtual 36, 3) := by decide +kernel
theorem dX2_reread_84 : decode cX2_reread 84 = .ok (.iinc 1 1, 3) := by decide +kernel
theorem dX2_reread_87 : decode cX2_reread 87 = .ok (.goto (-53), 3) := by decide +kernel
theorem dX2_reread_90 : decode cX2_reread 90 = .ok (.return_, 1) := by decide +kernel
theorem dX2_firstFault_0 : decode cX2_firstFault 0 = .ok (.iconst 0, 1) := by decide +kernel
theorem dX2_firstFault_1 : decode cX2_firstFault 1 = .ok (.istore_n 1, 1) := by decide +kernel
theorem dX2_firstFault_2 : decode cX2_firstFault 2 = .ok (.iload_n 1, 1) := by decide +kernel
theorem dX2_firstFault_3 : decode cX2_firstFault 3 = .ok (.aload_n 0, 1) := by decide +kernel
theorem dX2_firstFault_4 : decode cX2_firstFault 4 = .ok (.getfield 9, 3) := by decide +kernel
theorem dX2_firstFault_7 : decode cX2_firstFault 7 = .ok (.if_icmp .ge 64, 3) := by decide +kernel
theorem dX2_firstFault_10 : decode cX2_firstFault 10 = .ok (.iload_n 1, 1) := by decide +kernel
theorem dX2_firstFault_11 : decode cX2_firstFault 11 = .ok (.aload_n 0, 1) := by decide +kernel
theorem dX2_firstFault_12 : decode cX2_firstFault 12 = .ok (.getfield 21, 3) := by decide +kernel
theorem dX2_firstFault_15 : decode cX2_firstFault 15 = .ok (.arraylength, 1) := by decide +kernel
theorem dX2_firstFault_16 : decode cX2_firstFault 16 = .ok (.if_icmp .ge 55, 3) := by decide +kernel
theorem dX2_firstFault_19 : decode cX2_firstFault 19 = .ok (.iload_n 1, 1) := by decide +kernel
theorem dX2_firstFault_20 : decode cX2_firstFault 20 = .ok (.iconst 4, 1) := by decide +kernel
theorem dX2_firstFault_21 : decode cX2_firstFault 21 = .ok (.irem, 1) := by decide +kernel
theorem dX2_firstFault_22 : decode cX2_firstFault 22 = .ok (.istore_n 2, 1) := by decide +kernel
theorem dX2_firstFault_23 : decode cX2_firstFault 23 = .ok (.iload_n 2, 1) := by decide +kernel
theorem dX2_firstFault_24 : decode cX2_firstFault 24 = .ok (.iconst 3, 1) := by decide +kernel
theorem dX2_firstFault_25 : decode cX2_firstFault 25 = .ok (.if_icmp .ne 22, 3) := by decide +kernel
theorem dX2_firstFault_28 : decode cX2_firstFault 28 = .ok (.aload_n 0, 1) := by decide +kernel
theorem dX2_firstFault_29 : decode cX2_firstFault 29 = .ok (.getfield 21, 3) := by decide +kernel
theorem dX2_firstFault_32 : decode cX2_firstFault 32 = .ok (.iload_n 1, 1) := by decide +kernel
theorem dX2_firstFault_33 : decode cX2_firstFault 33 = .ok (.iaload, 1) := by decide +kernel
theorem dX2_firstFault_34 : decode cX2_firstFault 34 = .ok (.bipush 59, 2) := by decide +kernel
theorem dX2_firstFault_36 : decode cX2_firstFault 36 = .ok (.if_icmp .ne 7, 3) := by decide +kernel
theorem dX2_firstFault_39 : decode cX2_firstFault 39 = .ok (.iconst 1, 1) := by decide +kernel
theorem dX2_firstFault_40 : decode cX2_firstFault 40 = .ok (.goto 18, 3) := by decide +kernel
theorem dX2_firstFault_43 : decode cX2_firstFault 43 = .ok (.iconst 0, 1) := by decide +kernel
theorem dX2_firstFault_44 : decode cX2_firstFault 44 = .ok (.goto 14, 3) := by decide +kernel
theorem dX2_firstFault_47 : decode cX2_firstFault 47 = .ok (.aload_n 0, 1) := by decide +kernel
theorem dX2_firstFault_48 : decode cX2_firstFault 48 = .ok (.aload_n 0, 1) := by decide +kernel
theorem dX2_firstFault_49 : decode cX2_firstFault 49 = .ok (.getfield 21, 3) := by decide +kernel
theorem dX2_firstFault_52 : decode cX2_firstFault 52 = .ok (.iload_n 1, 1) := by decide +kernel
theorem dX2_firstFault_53 : decode cX2_firstFault 53 = .ok (.iaload, 1) := by decide +kernel
theorem dX2_firstFault_54 : decode cX2_firstFault 54 = .ok (.iload_n 2, 1) := by decide +kernel
theorem dX2_firstFault_55 : decode cX2_firstFault 55 = .ok (.invokevirtual 40, 3) := by decide +kernel
theorem dX2_firstFault_58 : decode cX2_firstFault 58 = .ok (.istore_n 3, 1) := by decide +kernel
theorem dX2_firstFault_59 : decode cX2_firstFault 59 = .ok (.iload_n 3, 1) := by decide +kernel
theorem dX2_firstFault_60 : decode cX2_firstFault 60 = .ok (.ifCond .ne 5, 3) := by decide +kernel
theorem dX2_firstFault_63 : decode cX2_firstFault 63 = .ok (.iload_n 1, 1) := by decide +kernel
theorem dX2_firstFault_64 : decode cX2_firstFault 64 = .ok (.ireturn, 1) := by decide +kernel
theorem dX2_firstFault_65 : decode cX2_firstFault 65 = .ok (.iinc 1 1, 3) := by decide +kernel
theorem dX2_firstFault_68 : decode cX2_firstFault 68 = .ok (.goto (-66), 3) := by decide +kernel
theorem dX2_firstFault_71 : decode cX2_firstFault 71 = .ok (.aload_n 0, 1) := by decide +kernel
theorem dX2_firstFault_72 : decode cX2_firstFault 72 = .ok (.getfield 9, 3) := by decide +kernel
theorem dX2_firstFault_75 : decode cX2_firstFault 75 = .ok (.ifCond .eq 13, 3) := by decide +kernel
theorem dX2_firstFault_78 : decode cX2_firstFault 78 = .ok (.aload_n 0, 1) := by decide +kernel
theorem dX2_firstFault_79 : decode cX2_firstFault 79 = .ok (.getfield 9, 3) := by decide +kernel
theorem dX2_firstFault_82 : decode cX2_firstFault 82 = .ok (.iconst 4, 1) := by decide +kernel
theorem dX2_firstFault_83 : decode cX2_firstFault 83 = .ok (.irem, 1) := by decide +kernel
theorem dX2_firstFault_84 : decode cX2_firstFault 84 = .ok (.iconst 3, 1) := by decide +kernel
theorem dX2_firstFault_85 : decode cX2_firstFault 85 = .ok (.if_icmp .ne 7, 3) := by decide +kernel
theorem dX2_firstFault_88 : decode cX2_firstFault 88 = .ok (.iconst (-1), 1) := by decide +kernel
theorem dX2_firstFault_89 : decode cX2_firstFault 89 = .ok (.goto 7, 3) := by decide +kernel
theorem dX2_firstFault_92 : decode cX2_firstFault 92 = .ok (.aload_n 0, 1) := by decide +kernel
theorem dX2_firstFault_93 : decode cX2_firstFault 93 = .ok (.getfield 9, 3) := by decide +kernel
theorem dX2_firstFault_96 : decode cX2_firstFault 96 = .ok (.ireturn, 1) := by decide +kernel
theorem dX3_init_0 : decode cX3_init 0 = .ok (.aload_n 0, 1) := by decide +kernel
theorem dX3_init_1 : decode cX3_init 1 = .ok (.bipush 23, 2) := by decide +kernel
theorem dX3_init_3 : decode cX3_init 3 = .ok (.newarray .int, 2) := by decide +kernel
theorem dX3_init_5 : decode cX3_init 5 = .ok (.invokespecial 1, 3) := by decide +kernel
theorem dX3_init_8 : decode cX3_init 8 = .ok (.aload_n 0, 1) := by decide +kernel
theorem dX3_init_9 : decode cX3_init 9 = .ok (.bipush 6, 2) := by decide +kernel
theorem dX3_init_11 : decode cX3_init 11 = .ok (.newarray .int, 2) := by decide +kernel
theorem dX3_init_13 : decode cX3_init 13 = .ok (.putfield 9, 3) := by decide +kernel
theorem dX3_init_16 : decode cX3_init 16 = .ok (.aload_n 0, 1) := by decide +kernel
theorem dX3_init_17 : decode cX3_init 17 = .ok (.bipush 6, 2) := by decide +kernel
theorem dX3_init_19 : decode cX3_init 19 = .ok (.newarray .int, 2) := by decide +kernel
theorem dX3_init_21 : decode cX3_init 21 = .ok (.putfield 13, 3) := by decide +kernel
theorem dX3_init_24 : decode cX3_init 24 = .ok (.return_, 1) := by decide +kernel
theorem dX3_fits_0 : decode cX3_fits 0 = .ok (.iload_n 1, 1) := by decide +kernel
theorem dX3_fits_1 : decode cX3_fits 1 = .ok (.bipush 57, 2) := by decide +kernel
theorem dX3_fits_3 : decode cX3_fits 3 = .ok (.invokestatic 16, 3) := by decide +kernel
theorem dX3_fits_6 : decode cX3_fits 6 = .ok (.ireturn, 1) := by decide +kernel
theorem dX3_keep_0 : decode cX3_keep 0 = .ok (.iload_n 1, 1) := by decide +kernel
theorem dX3_keep_1 : decode cX3_keep 1 = .ok (.iconst 0, 1) := by decide +kernel
theorem dX3_keep_2 : decode cX3_keep 2 = .ok (.iconst 5, 1) := by decide +kernel
theorem dX3_keep_3 : decode cX3_keep 3 = .ok (.invokestatic 20, 3) := by decide +kernel
theorem dX3_keep_6 : decode cX3_keep 6 = .ok (.ifCond .eq 32, 3) := by decide +kernel
theorem dX3_keep_9 : decode cX3_keep 9 = .ok (.aload_n 0, 1) := by decide +kernel
theorem dX3_keep_10 : decode cX3_keep 10 = .ok (.getfield 9, 3) := by decide +kernel
theorem dX3_keep_13 : decode cX3_keep 13 = .ok (.iload_n 1, 1) := by decide +kernel
theorem dX3_keep_14 : decode cX3_keep 14 = .ok (.bipush 10, 2) := by decide +kernel
theorem dX3_keep_16 : decode cX3_keep 16 = .ok (.iload_n 2, 1) := by decide +kernel
theorem dX3_keep_17 : decode cX3_keep 17 = .ok (.bipush 48, 2) := by decide +kernel
theorem dX3_keep_19 : decode cX3_keep 19 = .ok (.isub, 1) := by decide +kernel
theorem dX3_keep_20 : decode cX3_keep 20 = .ok (.imul, 1) := by decide +kernel
theorem dX3_keep_21 : decode cX3_keep 21 = .ok (.iload_n 3, 1) := by decide +kernel
theorem dX3_keep_22 : decode cX3_keep 22 = .ok (.iadd, 1) := by decide +kernel
theorem dX3_keep_23 : decode cX3_keep 23 = .ok (.bipush 48, 2) := by decide +kernel
theorem dX3_keep_25 : decode cX3_keep 25 = .ok (.isub, 1) := by decide +kernel
theorem dX3_keep_26 : decode cX3_keep 26 = .ok (.iastore, 1) := by decide +kernel
theorem dX3_keep_27 : decode cX3_keep 27 = .ok (.aload_n 0, 1) := by decide +kernel
theorem dX3_keep_28 : decode cX3_keep 28 = .ok (.getfield 13, 3) := by decide +kernel
theorem dX3_keep_31 : decode cX3_keep 31 = .ok (.iload_n 1, 1) := by decide +kernel
theorem dX3_keep_32 : decode cX3_keep 32 = .ok (.iload 4, 2) := by decide +kernel
theorem dX3_keep_34 : decode cX3_keep 34 = .ok (.bipush 48, 2) := by decide +kernel
theorem dX3_keep_36 : decode cX3_keep 36 = .ok (.isub, 1) := by decide +kernel
theorem dX3_keep_37 : decode cX3_keep 37 = .ok (.iastore, 1) := by decide +kernel
theorem dX3_keep_38 : decode cX3_keep 38 = .ok (.return_, 1) := by decide +kernel
theorem dX3_has_0 : decode cX3_has 0 = .ok (.iload_n 1, 1) := by decide +kernel
theorem dX3_has_1 : decode cX3_has 1 = .ok (.iconst 0, 1) := by decide +kernel
theorem dX3_has_2 : decode cX3_has 2 = .ok (.iconst 5, 1) := by decide +kernel
theorem dX3_has_3 : decode cX3_has 3 = .ok (.invokestatic 20, 3) := by decide +kernel
theorem dX3_has_6 : decode cX3_has 6 = .ok (.ifCond .eq 12, 3) := by decide +kernel
theorem dX3_has_9 : decode cX3_has 9 = .ok (.aload_n 0, 1) := by decide +kernel
theorem dX3_has_10 : decode cX3_has 10 = .ok (.getfield 9, 3) := by decide +kernel
theorem dX3_has_13 : decode cX3_has 13 = .ok (.iload_n 1, 1) := by decide +kernel
theorem dX3_has_14 : decode cX3_has 14 = .ok (.iaload, 1) := by decide +kernel
theorem dX3_has_15 : decode cX3_has 15 = .ok (.goto 4, 3) := by decide +kernel
theorem dX3_has_18 : decode cX3_has 18 = .ok (.iconst 0, 1) := by decide +kernel
theorem dX3_has_19 : decode cX3_has 19 = .ok (.ireturn, 1) := by decide +kernel
theorem dX3_need_0 : decode cX3_need 0 = .ok (.iload_n 1, 1) := by decide +kernel
theorem dX3_need_1 : decode cX3_need 1 = .ok (.iconst 0, 1) := by decide +kernel
theorem dX3_need_2 : decode cX3_need 2 = .ok (.iconst 5, 1) := by decide +kernel
theorem dX3_need_3 : decode cX3_need 3 = .ok (.invokestatic 20, 3) := by decide +kernel
theorem dX3_need_6 : decode cX3_need 6 = .ok (.ifCond .eq 12, 3) := by decide +kernel
theorem dX3_need_9 : decode cX3_need 9 = .ok (.aload_n 0, 1) := by decide +kernel
theorem dX3_need_10 : decode cX3_need 10 = .ok (.getfield 13, 3) := by decide +kernel
theorem dX3_need_13 : decode cX3_need 13 = .ok (.iload_n 1, 1) := by decide +kernel
theorem dX3_need_14 : decode cX3_need 14 = .ok (.iaload, 1) := by decide +kernel
theorem dX3_need_15 : decode cX3_need 15 = .ok (.goto 4, 3) := by decide +kernel
theorem dX3_need_18 : decode cX3_need 18 = .ok (.iconst 0, 1) := by decide +kernel
theorem dX3_need_19 : decode cX3_need 19 = .ok (.ireturn, 1) := by decide +kernel
theorem dX4_init_0 : decode cX4_init 0 = .ok (.aload_n 0, 1) := by decide +kernel
theorem dX4_init_1 : decode cX4_init 1 = .ok (.invokespecial 1, 3) := by decide +kernel
theorem dX4_init_4 : decode cX4_init 4 = .ok (.aload_n 0, 1) := by decide +kernel
theorem dX4_init_5 : decode cX4_init 5 = .ok (.iload_n 1, 1) := by decide +kernel
theorem dX4_init_6 : decode cX4_init 6 = .ok (.putfield 7, 3) := by decide +kernel
theorem dX4_init_9 : decode cX4_init 9 = .ok (.return_, 1) := by decide +kernel
theorem dX4_draw_0 : decode cX4_draw 0 = .ok (.aload_n 0, 1) := by decide +kernel
theorem dX4_draw_1 : decode cX4_draw 1 = .ok (.ldc 13, 2) := by decide +kernel
theorem dX4_draw_3 : decode cX4_draw 3 = .ok (.aload_n 0, 1) := by decide +kernel
theorem dX4_draw_4 : decode cX4_draw 4 = .ok (.getfield 7, 3) := by decide +kernel
theorem dX4_draw_7 : decode cX4_draw 7 = .ok (.imul, 1) := by decide +kernel
theorem dX4_draw_8 : decode cX4_draw 8 = .ok (.sipush 12345, 3) := by decide +kernel
theorem dX4_draw_11 : decode cX4_draw 11 = .ok (.iadd, 1) := by decide +kernel
theorem dX4_draw_12 : decode cX4_draw 12 = .ok (.putfield 7, 3) := by decide +kernel
theorem dX4_draw_15 : decode cX4_draw 15 = .ok (.iload_n 1, 1) := by decide +kernel
theorem dX4_draw_16 : decode cX4_draw 16 = .ok (.ifCond .le 15, 3) := by decide +kernel
theorem dX4_draw_19 : decode cX4_draw 19 = .ok (.aload_n 0, 1) := by decide +kernel
theorem dX4_draw_20 : decode cX4_draw 20 = .ok (.getfield 7, 3) := by decide +kernel
theorem dX4_draw_23 : decode cX4_draw 23 = .ok (.bipush 16, 2) := by decide +kernel
theorem dX4_draw_25 : decode cX4_draw 25 = .ok (.iushr, 1) := by decide +kernel
theorem dX4_draw_26 : decode cX4_draw 26 = .ok (.iload_n 1, 1) := by decide +kernel
theorem dX4_draw_27 : decode cX4_draw 27 = .ok (.irem, 1) := by decide +kernel
theorem dX4_draw_28 : decode cX4_draw 28 = .ok (.goto 4, 3) := by decide +kernel
theorem dX4_draw_31 : decode cX4_draw 31 = .ok (.iconst 0, 1) := by decide +kernel
theorem dX4_draw_32 : decode cX4_draw 32 = .ok (.ireturn, 1) := by decide +kernel
theorem dX5_init_0 : decode cX5_init 0 = .ok (.aload_n 0, 1) := by decide +kernel
theorem dX5_init_1 : decode cX5_init 1 = .ok (.invokespecial 3, 3) := by decide +kernel
theorem dX5_init_4 : decode cX5_init 4 = .ok (.aload_n 0, 1) := by decide +kernel
theorem dX5_init_5 : decode cX5_init 5 = .ok (.bipush 8, 2) := by decide +kernel
theorem dX5_init_7 : decode cX5_init 7 = .ok (.newarray .int, 2) := by decide +kernel
theorem dX5_init_9 : decode cX5_init 9 = .ok (.putfield 11, 3) := by decide +kernel
theorem dX5_init_12 : decode cX5_init 12 = .ok (.aload_n 0, 1) := by decide +kernel
theorem dX5_init_13 : decode cX5_init 13 = .ok (.bipush 8, 2) := by decide +kernel
theorem dX5_init_15 : decode cX5_init 15 = .ok (.newarray .int, 2) := by decide +kernel
theorem dX5_init_17 : decode cX5_init 17 = .ok (.putfield 15, 3) := by decide +kernel
theorem dX5_init_20 : decode cX5_init 20 = .ok (.aload_n 0, 1) := by decide +kernel
theorem dX5_init_21 : decode cX5_init 21 = .ok (.bipush 8, 2) := by decide +kernel
theorem dX5_init_23 : decode cX5_init 23 = .ok (.newarray .int, 2) := by decide +kernel
theorem dX5_init_25 : decode cX5_init 25 = .ok (.putfield 18, 3) := by decide +kernel
theorem dX5_init_28 : decode cX5_init 28 = .ok (.aload_n 0, 1) := by decide +kernel
theorem dX5_init_29 : decode cX5_init 29 = .ok (.iconst 0, 1) := by decide +kernel
theorem dX5_init_30 : decode cX5_init 30 = .ok (.putfield 21, 3) := by decide +kernel
theorem dX5_init_33 : decode cX5_init 33 = .ok (.return_, 1) := by decide +kernel
theorem dX5_append_0 : decode cX5_append 0 = .ok (.aload_n 0, 1) := by decide +kernel
theorem dX5_append_1 : decode cX5_append 1 = .ok (.getfield 21, 3) := by decide +kernel
theorem dX5_append_4 : decode cX5_append 4 = .ok (.bipush 8, 2) := by decide +kernel
theorem dX5_append_6 : decode cX5_append 6 = .ok (.if_icmp .lt 6, 3) := by decide +kernel
theorem dX5_append_9 : decode cX5_append 9 = .ok (.bipush (-4), 2) := by decide +kernel
theorem dX5_append_11 : decode cX5_append 11 = .ok (.ireturn, 1) := by decide +kernel
theorem dX5_append_12 : decode cX5_append 12 = .ok (.aload_n 0, 1) := by decide +kernel
theorem dX5_append_13 : decode cX5_append 13 = .ok (.getfield 11, 3) := by decide +kernel
theorem dX5_append_16 : decode cX5_append 16 = .ok (.aload_n 0, 1) := by decide +kernel
theorem dX5_append_17 : decode cX5_append 17 = .ok (.getfield 21, 3) := by decide +kernel
theorem dX5_append_20 : decode cX5_append 20 = .ok (.iload_n 1, 1) := by decide +kernel
theorem dX5_append_21 : decode cX5_append 21 = .ok (.iastore, 1) := by decide +kernel
theorem dX5_append_22 : decode cX5_append 22 = .ok (.aload_n 0, 1) := by decide +kernel
theorem dX5_append_23 : decode cX5_append 23 = .ok (.getfield 15, 3) := by decide +kernel
theorem dX5_append_26 : decode cX5_append 26 = .ok (.aload_n 0, 1) := by decide +kernel
theorem dX5_append_27 : decode cX5_append 27 = .ok (.getfield 21, 3) := by decide +kernel
theorem dX5_append_30 : decode cX5_append 30 = .ok (.iload_n 2, 1) := by decide +kernel
theorem dX5_append_31 : decode cX5_append 31 = .ok (.iastore, 1) := by decide +kernel
theorem dX5_append_32 : decode cX5_append 32 = .ok (.aload_n 0, 1) := by decide +kernel
theorem dX5_append_33 : decode cX5_append 33 = .ok (.getfield 18, 3) := by decide +kernel
theorem dX5_append_36 : decode cX5_append 36 = .ok (.aload_n 0, 1) := by decide +kernel
theorem dX5_append_37 : decode cX5_append 37 = .ok (.getfield 21, 3) := by decide +kernel
theorem dX5_append_40 : decode cX5_append 40 = .ok (.iload_n 3, 1) := by decide +kernel
theorem dX5_append_41 : decode cX5_append 41 = .ok (.iastore, 1) := by decide +kernel
theorem dX5_append_42 : decode cX5_append 42 = .ok (.aload_n 0, 1) := by decide +kernel
theorem dX5_append_43 : decode cX5_append 43 = .ok (.dup, 1) := by decide +kernel
theorem dX5_append_44 : decode cX5_append 44 = .ok (.getfield 21, 3) := by decide +kernel
theorem dX5_append_47 : decode cX5_append 47 = .ok (.iconst 1, 1) := by decide +kernel
theorem dX5_append_48 : decode cX5_append 48 = .ok (.iadd, 1) := by decide +kernel
theorem dX5_append_49 : decode cX5_append 49 = .ok (.putfield 21, 3) := by decide +kernel
theorem dX5_append_52 : decode cX5_append 52 = .ok (.aload_n 0, 1) := by decide +kernel
theorem dX5_append_53 : decode cX5_append 53 = .ok (.getfield 21, 3) := by decide +kernel
theorem dX5_append_56 : decode cX5_append 56 = .ok (.ireturn, 1) := by decide +kernel
theorem dX5_clear_0 : decode cX5_clear 0 = .ok (.aload_n 0, 1) := by decide +kernel
theorem dX5_clear_1 : decode cX5_clear 1 = .ok (.getfield 21, 3) := by decide +kernel
theorem dX5_clear_4 : decode cX5_clear 4 = .ok (.istore_n 1, 1) := by decide +kernel
theorem dX5_clear_5 : decode cX5_clear 5 = .ok (.aload_n 0, 1) := by decide +kernel
theorem dX5_clear_6 : decode cX5_clear 6 = .ok (.iconst 0, 1) := by decide +kernel
theorem dX5_clear_7 : decode cX5_clear 7 = .ok (.putfield 21, 3) := by decide +kernel
theorem dX5_clear_10 : decode cX5_clear 10 = .ok (.iload_n 1, 1) := by decide +kernel
theorem dX5_clear_11 : decode cX5_clear 11 = .ok (.ireturn, 1) := by decide +kernel
theorem dX5_size_0 : decode cX5_size 0 = .ok (.aload_n 0, 1) := by decide +kernel
theorem dX5_size_1 : decode cX5_size 1 = .ok (.getfield 21, 3) := by decide +kernel
theorem dX5_size_4 : decode cX5_size 4 = .ok (.ireturn, 1) := by decide +kernel
theorem dX5_allow_0 : decode cX5_allow 0 = .ok (.iconst 0, 1) := by decide +kernel
theorem dX5_allow_1 : decode cX5_allow 1 = .ok (.istore_n 3, 1) := by decide +kernel
theorem dX5_allow_2 : decode cX5_allow 2 = .ok (.iload_n 3, 1) := by decide +kernel
theorem dX5_allow_3 : decode cX5_allow 3 = .ok (.aload_n 0, 1) := by decide +kernel
theorem dX5_allow_4 : decode cX5_allow 4 = .ok (.getfield 21, 3) := by decide +kernel
theorem dX5_allow_7 : decode cX5_allow 7 = .ok (.if_icmp .ge 56, 3) := by decide +kernel
theorem dX5_allow_10 : decode cX5_allow 10 = .ok (.iload_n 3, 1) := by decide +kernel
theorem dX5_allow_11 : decode cX5_allow 11 = .ok (.bipush 8, 2) := by decide +kernel
theorem dX5_allow_13 : decode cX5_allow 13 = .ok (.if_icmp .ge 50, 3) := by decide +kernel
theorem dX5_allow_16 : decode cX5_allow 16 = .ok (.aload_n 1, 1) := by decide +kernel
theorem dX5_allow_17 : decode cX5_allow 17 = .ok (.iload_n 2, 1) := by decide +kernel
theorem dX5_allow_18 : decode cX5_allow 18 = .ok (.aload_n 0, 1) := by decide +kernel
theorem dX5_allow_19 : decode cX5_allow 19 = .ok (.getfield 11, 3) := by decide +kernel
theorem dX5_allow_22 : decode cX5_allow 22 = .ok (.iload_n 3, 1) := by decide +kernel
theorem dX5_allow_23 : decode cX5_allow 23 = .ok (.iaload, 1) := by decide +kernel
theorem dX5_allow_24 : decode cX5_allow 24 = .ok (.aload_n 0, 1) := by decide +kernel
theorem dX5_allow_25 : decode cX5_allow 25 = .ok (.getfield 15, 3) := by decide +kernel
theorem dX5_allow_28 : decode cX5_allow 28 = .ok (.iload_n 3, 1) := by decide +kernel
theorem dX5_allow_29 : decode cX5_allow 29 = .ok (.iaload, 1) := by decide +kernel
theorem dX5_allow_30 : decode cX5_allow 30 = .ok (.invokestatic 25, 3) := by decide +kernel
theorem dX5_allow_33 : decode cX5_allow 33 = .ok (.istore 4, 2) := by decide +kernel
theorem dX5_allow_35 : decode cX5_allow 35 = .ok (.iload 4, 2) := by decide +kernel
theorem dX5_allow_37 : decode cX5_allow 37 = .ok (.aload_n 0, 1) := by decide +kernel
theorem dX5_allow_38 : decode cX5_allow 38 = .ok (.getfield 18, 3) := by decide +kernel
theorem dX5_allow_41 : decode cX5_allow 41 = .ok (.iload_n 3, 1) := by decide +kernel
theorem dX5_allow_42 : decode cX5_allow 42 = .ok (.iaload, 1) := by decide +kernel
theorem dX5_allow_43 : decode cX5_allow 43 = .ok (.iconst 1, 1) := by decide +kernel
theorem dX5_allow_44 : decode cX5_allow 44 = .ok (.if_icmp .ne 7, 3) := by decide +kernel
theorem dX5_allow_47 : decode cX5_allow 47 = .ok (.iconst 1, 1) := by decide +kernel
theorem dX5_allow_48 : decode cX5_allow 48 = .ok (.goto 4, 3) := by decide +kernel
theorem dX5_allow_51 : decode cX5_allow 51 = .ok (.iconst 0, 1) := by decide +kernel
theorem dX5_allow_52 : decode cX5_allow 52 = .ok (.if_icmp .eq 5, 3) := by decide +kernel
theorem dX5_allow_55 : decode cX5_allow 55 = .ok (.iconst 0, 1) := by decide +kernel
theorem dX5_allow_56 : decode cX5_allow 56 = .ok (.ireturn, 1) := by decide +kernel
theorem dX5_allow_57 : decode cX5_allow 57 = .ok (.iinc 3 1, 3) := by decide +kernel
theorem dX5_allow_60 : decode cX5_allow 60 = .ok (.goto (-58), 3) := by decide +kernel
theorem dX5_allow_63 : decode cX5_allow 63 = .ok (.iconst 1, 1) := by decide +kernel
theorem dX5_allow_64 : decode cX5_allow 64 = .ok (.ireturn, 1) := by decide +kernel
theorem dX5_isSo_0 : decode cX5_isSo 0 = .ok (.iload_n 2, 1) := by decide +kernel
theorem dX5_isSo_1 : decode cX5_isSo 1 = .ok (.lookupswitch 57 #[(0, 27), (1, 42)], 27) := by decide +kernel
theorem dX5_isSo_28 : decode cX5_isSo 28 = .ok (.aload_n 0, 1) := by decide +kernel
theorem dX5_isSo_29 : decode cX5_isSo 29 = .ok (.iload_n 1, 1) := by decide +kernel
theorem dX5_isSo_30 : decode cX5_isSo 30 = .ok (.invokevirtual 29, 3) := by decide +kernel
theorem dX5_isSo_33 : decode cX5_isSo 33 = .ok (.iload_n 3, 1) := by decide +kernel
theorem dX5_isSo_34 : decode cX5_isSo 34 = .ok (.if_icmp .lt 7, 3) := by decide +kernel
theorem dX5_isSo_37 : decode cX5_isSo 37 = .ok (.iconst 1, 1) := by decide +kernel
theorem dX5_isSo_38 : decode cX5_isSo 38 = .ok (.goto 4, 3) := by decide +kernel
theorem dX5_isSo_41 : decode cX5_isSo 41 = .ok (.iconst 0, 1) := by decide +kernel
theorem dX5_isSo_42 : decode cX5_isSo 42 = .ok (.ireturn, 1) := by decide +kernel
theorem dX5_isSo_43 : decode cX5_isSo 43 = .ok (.aload_n 0, 1) := by decide +kernel
theorem dX5_isSo_44 : decode cX5_isSo 44 = .ok (.iload_n 1, 1) := by decide +kernel
theorem dX5_isSo_45 : decode cX5_isSo 45 = .ok (.invokevirtual 35, 3) := by decide +kernel
theorem dX5_isSo_48 : decode cX5_isSo 48 = .ok (.iload_n 3, 1) := by decide +kernel
theorem dX5_isSo_49 : decode cX5_isSo 49 = .ok (.if_icmp .ne 7, 3) := by decide +kernel
theorem dX5_isSo_52 : decode cX5_isSo 52 = .ok (.iconst 1, 1) := by decide +kernel
theorem dX5_isSo_53 : decode cX5_isSo 53 = .ok (.goto 4, 3) := by decide +kernel
theorem dX5_isSo_56 : decode cX5_isSo 56 = .ok (.iconst 0, 1) := by decide +kernel
theorem dX5_isSo_57 : decode cX5_isSo 57 = .ok (.ireturn, 1) := by decide +kernel
theorem dX5_isSo_58 : decode cX5_isSo 58 = .ok (.aload_n 0, 1) := by decide +kernel
theorem dX5_isSo_59 : decode cX5_isSo 59 = .ok (.iload_n 1, 1) := by decide +kernel
theorem dX5_isSo_60 : decode cX5_isSo 60 = .ok (.invokevirtual 38, 3) := by decide +kernel
theorem dX5_isSo_63 : decode cX5_isSo 63 = .ok (.iload_n 3, 1) := by decide +kernel
theorem dX5_isSo_64 : decode cX5_isSo 64 = .ok (.if_icmp .ne 7, 3) := by decide +kernel
theorem dX5_isSo_67 : decode cX5_isSo 67 = .ok (.iconst 1, 1) := by decide +kernel
theorem dX5_isSo_68 : decode cX5_isSo 68 = .ok (.goto 4, 3) := by decide +kernel
theorem dX5_isSo_71 : decode cX5_isSo 71 = .ok (.iconst 0, 1) := by decide +kernel
theorem dX5_isSo_72 : decode cX5_isSo 72 = .ok (.ireturn, 1) := by decide +kernel
theorem dX6_init_0 : decode cX6_init 0 = .ok (.aload_n 0, 1) := by decide +kernel
theorem dX6_init_1 : decode cX6_init 1 = .ok (.invokespecial 3, 3) := by decide +kernel
theorem dX6_init_4 : decode cX6_init 4 = .ok (.aload_n 0, 1) := by decide +kernel
theorem dX6_init_5 : decode cX6_init 5 = .ok (.bipush 48, 2) := by decide +kernel
theorem dX6_init_7 : decode cX6_init 7 = .ok (.newarray .int, 2) := by decide +kernel
theorem dX6_init_9 : decode cX6_init 9 = .ok (.putfield 9, 3) := by decide +kernel
theorem dX6_init_12 : decode cX6_init 12 = .ok (.aload_n 0, 1) := by decide +kernel
theorem dX6_init_13 : decode cX6_init 13 = .ok (.iconst 0, 1) := by decide +kernel
theorem dX6_init_14 : decode cX6_init 14 = .ok (.putfield 15, 3) := by decide +kernel
theorem dX6_init_17 : decode cX6_init 17 = .ok (.aload_n 0, 1) := by decide +kernel
theorem dX6_init_18 : decode cX6_init 18 = .ok (.iconst (-1), 1) := by decide +kernel
theorem dX6_init_19 : decode cX6_init 19 = .ok (.putfield 19, 3) := by decide +kernel
theorem dX6_init_22 : decode cX6_init 22 = .ok (.return_, 1) := by decide +kernel
theorem dX6_renew_0 : decode cX6_renew 0 = .ok (.aload_n 0, 1) := by decide +kernel
theorem dX6_renew_1 : decode cX6_renew 1 = .ok (.iload_n 1, 1) := by decide +kernel
theorem dX6_renew_2 : decode cX6_renew 2 = .ok (.putfield 15, 3) := by decide +kernel
theorem dX6_renew_5 : decode cX6_renew 5 = .ok (.aload_n 0, 1) := by decide +kernel
theorem dX6_renew_6 : decode cX6_renew 6 = .ok (.iload_n 2, 1) := by decide +kernel
theorem dX6_renew_7 : decode cX6_renew 7 = .ok (.putfield 19, 3) := by decide +kernel
theorem dX6_renew_10 : decode cX6_renew 10 = .ok (.iconst 0, 1) := by decide +kernel
theorem dX6_renew_11 : decode cX6_renew 11 = .ok (.istore_n 3, 1) := by decide +kernel
theorem dX6_renew_12 : decode cX6_renew 12 = .ok (.iload_n 3, 1) := by decide +kernel
theorem dX6_renew_13 : decode cX6_renew 13 = .ok (.aload_n 0, 1) := by decide +kernel
theorem dX6_renew_14 : decode cX6_renew 14 = .ok (.getfield 9, 3) := by decide +kernel
theorem dX6_renew_17 : decode cX6_renew 17 = .ok (.arraylength, 1) := by decide +kernel
theorem dX6_renew_18 : decode cX6_renew 18 = .ok (.if_icmp .ge 16, 3) := by decide +kernel
theorem dX6_renew_21 : decode cX6_renew 21 = .ok (.aload_n 0, 1) := by decide +kernel
theorem dX6_renew_22 : decode cX6_renew 22 = .ok (.getfield 9, 3) := by decide +kernel
theorem dX6_renew_25 : decode cX6_renew 25 = .ok (.iload_n 3, 1) := by decide +kernel
theorem dX6_renew_26 : decode cX6_renew 26 = .ok (.iconst 0, 1) := by decide +kernel
theorem dX6_renew_27 : decode cX6_renew 27 = .ok (.iastore, 1) := by decide +kernel
theorem dX6_renew_28 : decode cX6_renew 28 = .ok (.iinc 3 1, 3) := by decide +kernel
theorem dX6_renew_31 : decode cX6_renew 31 = .ok (.goto (-19), 3) := by decide +kernel
theorem dX6_renew_34 : decode cX6_renew 34 = .ok (.return_, 1) := by decide +kernel
theorem dX6_drop_0 : decode cX6_drop 0 = .ok (.aload_n 0, 1) := by decide +kernel
theorem dX6_drop_1 : decode cX6_drop 1 = .ok (.getfield 19, 3) := by decide +kernel
theorem dX6_drop_4 : decode cX6_drop 4 = .ok (.istore_n 1, 1) := by decide +kernel
theorem dX6_drop_5 : decode cX6_drop 5 = .ok (.aload_n 0, 1) := by decide +kernel
theorem dX6_drop_6 : decode cX6_drop 6 = .ok (.iconst (-1), 1) := by decide +kernel
theorem dX6_drop_7 : decode cX6_drop 7 = .ok (.putfield 19, 3) := by decide +kernel
theorem dX6_drop_10 : decode cX6_drop 10 = .ok (.iload_n 1, 1) := by decide +kernel
theorem dX6_drop_11 : decode cX6_drop 11 = .ok (.ireturn, 1) := by decide +kernel
theorem dX6_isLost_0 : decode cX6_isLost 0 = .ok (.aload_n 0, 1) := by decide +kernel
theorem dX6_isLost_1 : decode cX6_isLost 1 = .ok (.getfield 19, 3) := by decide +kernel
theorem dX6_isLost_4 : decode cX6_isLost 4 = .ok (.iconst (-1), 1) := by decide +kernel
theorem dX6_isLost_5 : decode cX6_isLost 5 = .ok (.if_icmp .ne 7, 3) := by decide +kernel
theorem dX6_isLost_8 : decode cX6_isLost 8 = .ok (.iconst 1, 1) := by decide +kernel
theorem dX6_isLost_9 : decode cX6_isLost 9 = .ok (.goto 4, 3) := by decide +kernel
theorem dX6_isLost_12 : decode cX6_isLost 12 = .ok (.iconst 0, 1) := by decide +kernel
theorem dX6_isLost_13 : decode cX6_isLost 13 = .ok (.ireturn, 1) := by decide +kernel
theorem dX6_form_0 : decode cX6_form 0 = .ok (.aload_n 0, 1) := by decide +kernel
theorem dX6_form_1 : decode cX6_form 1 = .ok (.getfield 15, 3) := by decide +kernel
theorem dX6_form_4 : decode cX6_form 4 = .ok (.ireturn, 1) := by decide +kernel
theorem dX6_size_0 : decode cX6_size 0 = .ok (.aload_n 0, 1) := by decide +kernel
theorem dX6_size_1 : decode cX6_size 1 = .ok (.getfield 19, 3) := by decide +kernel
theorem dX6_size_4 : decode cX6_size 4 = .ok (.ireturn, 1) := by decide +kernel
theorem dX6_hasItem_0 : decode cX6_hasItem 0 = .ok (.iload_n 1, 1) := by decide +kernel
theorem dX6_hasItem_1 : decode cX6_hasItem 1 = .ok (.iconst 0, 1) := by decide +kernel
theorem dX6_hasItem_2 : decode cX6_hasItem 2 = .ok (.aload_n 0, 1) := by decide +kernel
theorem dX6_hasItem_3 : decode cX6_hasItem 3 = .ok (.getfield 19, 3) := by decide +kernel
theorem dX6_hasItem_6 : decode cX6_hasItem 6 = .ok (.iconst 1, 1) := by decide +kernel
theorem dX6_hasItem_7 : decode cX6_hasItem 7 = .ok (.isub, 1) := by decide +kernel
theorem dX6_hasItem_8 : decode cX6_hasItem 8 = .ok (.invokestatic 22, 3) := by decide +kernel
theorem dX6_hasItem_11 : decode cX6_hasItem 11 = .ok (.ifCond .eq 16, 3) := by decide +kernel
theorem dX6_hasItem_14 : decode cX6_hasItem 14 = .ok (.iload_n 1, 1) := by decide +kernel
theorem dX6_hasItem_15 : decode cX6_hasItem 15 = .ok (.aload_n 0, 1) := by decide +kernel
theorem dX6_hasItem_16 : decode cX6_hasItem 16 = .ok (.getfield 9, 3) := by decide +kernel
theorem dX6_hasItem_19 : decode cX6_hasItem 19 = .ok (.arraylength, 1) := by decide +kernel
theorem dX6_hasItem_20 : decode cX6_hasItem 20 = .ok (.if_icmp .ge 7, 3) := by decide +kernel
theorem dX6_hasItem_23 : decode cX6_hasItem 23 = .ok (.iconst 1, 1) := by decide +kernel
theorem dX6_hasItem_24 : decode cX6_hasItem 24 = .ok (.goto 4, 3) := by decide +kernel
theorem dX6_hasItem_27 : decode cX6_hasItem 27 = .ok (.iconst 0, 1) := by decide +kernel
theorem dX6_hasItem_28 : decode cX6_hasItem 28 = .ok (.ireturn, 1) := by decide +kernel
theorem dX6_hasItems_0 : decode cX6_hasItems 0 = .ok (.aload_n 0, 1) := by decide +kernel
theorem dX6_hasItems_1 : decode cX6_hasItems 1 = .ok (.getfield 19, 3) := by decide +kernel
theorem dX6_hasItems_4 : decode cX6_hasItems 4 = .ok (.aload_n 0, 1) := by decide +kernel
theorem dX6_hasItems_5 : decode cX6_hasItems 5 = .ok (.getfield 9, 3) := by decide +kernel
theorem dX6_hasItems_8 : decode cX6_hasItems 8 = .ok (.arraylength, 1) := by decide +kernel
theorem dX6_hasItems_9 : decode cX6_hasItems 9 = .ok (.if_icmp .gt 33, 3) := by decide +kernel
theorem dX6_hasItems_12 : decode cX6_hasItems 12 = .ok (.iload_n 1, 1) := by decide +kernel
theorem dX6_hasItems_13 : decode cX6_hasItems 13 = .ok (.iconst 0, 1) := by decide +kernel
theorem dX6_hasItems_14 : decode cX6_hasItems 14 = .ok (.aload_n 0, 1) := by decide +kernel
theorem dX6_hasItems_15 : decode cX6_hasItems 15 = .ok (.getfield 19, 3) := by decide +kernel
theorem dX6_hasItems_18 : decode cX6_hasItems 18 = .ok (.invokestatic 22, 3) := by decide +kernel
theorem dX6_hasItems_21 : decode cX6_hasItems 21 = .ok (.ifCond .eq 21, 3) := by decide +kernel
theorem dX6_hasItems_24 : decode cX6_hasItems 24 = .ok (.iload_n 2, 1) := by decide +kernel
theorem dX6_hasItems_25 : decode cX6_hasItems 25 = .ok (.iconst 0, 1) := by decide +kernel
theorem dX6_hasItems_26 : decode cX6_hasItems 26 = .ok (.aload_n 0, 1) := by decide +kernel
theorem dX6_hasItems_27 : decode cX6_hasItems 27 = .ok (.getfield 19, 3) := by decide +kernel
theorem dX6_hasItems_30 : decode cX6_hasItems 30 = .ok (.iload_n 1, 1) := by decide +kernel
theorem dX6_hasItems_31 : decode cX6_hasItems 31 = .ok (.isub, 1) := by decide +kernel
theorem dX6_hasItems_32 : decode cX6_hasItems 32 = .ok (.invokestatic 22, 3) := by decide +kernel
theorem dX6_hasItems_35 : decode cX6_hasItems 35 = .ok (.ifCond .eq 7, 3) := by decide +kernel
theorem dX6_hasItems_38 : decode cX6_hasItems 38 = .ok (.iconst 1, 1) := by decide +kernel
theorem dX6_hasItems_39 : decode cX6_hasItems 39 = .ok (.goto 4, 3) := by decide +kernel
theorem dX6_hasItems_42 : decode cX6_hasItems 42 = .ok (.iconst 0, 1) := by decide +kernel
theorem dX6_hasItems_43 : decode cX6_hasItems 43 = .ok (.ireturn, 1) := by decide +kernel
theorem dX6_item_0 : decode cX6_item 0 = .ok (.aload_n 0, 1) := by decide +kernel
theorem dX6_item_1 : decode cX6_item 1 = .ok (.iload_n 1, 1) := by decide +kernel
theorem dX6_item_2 : decode cX6_item 2 = .ok (.invokevirtual 26, 3) := by decide +kernel
theorem dX6_item_5 : decode cX6_item 5 = .ok (.ifCond .eq 12, 3) := by decide +kernel
theorem dX6_item_8 : decode cX6_item 8 = .ok (.aload_n 0, 1) := by decide +kernel
theorem dX6_item_9 : decode cX6_item 9 = .ok (.getfield 9, 3) := by decide +kernel
theorem dX6_item_12 : decode cX6_item 12 = .ok (.iload_n 1, 1) := by decide +kernel
theorem dX6_item_13 : decode cX6_item 13 = .ok (.iaload, 1) := by decide +kernel
theorem dX6_item_14 : decode cX6_item 14 = .ok (.goto 4, 3) := by decide +kernel
theorem dX6_item_17 : decode cX6_item 17 = .ok (.iconst 0, 1) := by decide +kernel
theorem dX6_item_18 : decode cX6_item 18 = .ok (.ireturn, 1) := by decide +kernel
theorem dX6_change_0 : decode cX6_change 0 = .ok (.aload_n 0, 1) := by decide +kernel
theorem dX6_change_1 : decode cX6_change 1 = .ok (.iload_n 1, 1) := by decide +kernel
theorem dX6_change_2 : decode cX6_change 2 = .ok (.invokevirtual 26, 3) := by decide +kernel
theorem dX6_change_5 : decode cX6_change 5 = .ok (.ifCond .eq 14, 3) := by decide +kernel
theorem dX6_change_8 : decode cX6_change 8 = .ok (.aload_n 0, 1) := by decide +kernel
theorem dX6_change_9 : decode cX6_change 9 = .ok (.getfield 9, 3) := by decide +kernel
theorem dX6_change_12 : decode cX6_change 12 = .ok (.iload_n 1, 1) := by decide +kernel
theorem dX6_change_13 : decode cX6_change 13 = .ok (.aload_n 0, 1) := by decide +kernel
theorem dX6_change_14 : decode cX6_change 14 = .ok (.iload_n 2, 1) := by decide +kernel
theorem dX6_change_15 : decode cX6_change 15 = .ok (.invokevirtual 30, 3) := by decide +kernel
theorem dX6_change_18 : decode cX6_change 18 = .ok (.iastore, 1) := by decide +kernel
theorem dX6_change_19 : decode cX6_change 19 = .ok (.return_, 1) := by decide +kernel
theorem dX6_fill_0 : decode cX6_fill 0 = .ok (.aload_n 2, 1) := by decide +kernel
theorem dX6_fill_1 : decode cX6_fill 1 = .ok (.iload_n 3, 1) := by decide +kernel
theorem dX6_fill_2 : decode cX6_fill 2 = .ok (.iload 4, 2) := by decide +kernel
theorem dX6_fill_4 : decode cX6_fill 4 = .ok (.invokevirtual 34, 3) := by decide +kernel
theorem dX6_fill_7 : decode cX6_fill 7 = .ok (.ifCond .eq 28, 3) := by decide +kernel
theorem dX6_fill_10 : decode cX6_fill 10 = .ok (.aload_n 0, 1) := by decide +kernel
theorem dX6_fill_11 : decode cX6_fill 11 = .ok (.iload_n 1, 1) := by decide +kernel
theorem dX6_fill_12 : decode cX6_fill 12 = .ok (.iload 4, 2) := by decide +kernel
theorem dX6_fill_14 : decode cX6_fill 14 = .ok (.invokevirtual 34, 3) := by decide +kernel
theorem dX6_fill_17 : decode cX6_fill 17 = .ok (.ifCond .eq 18, 3) := by decide +kernel
theorem dX6_fill_20 : decode cX6_fill 20 = .ok (.aload_n 2, 1) := by decide +kernel
theorem dX6_fill_21 : decode cX6_fill 21 = .ok (.getfield 9, 3) := by decide +kernel
theorem dX6_fill_24 : decode cX6_fill 24 = .ok (.iload_n 3, 1) := by decide +kernel
theorem dX6_fill_25 : decode cX6_fill 25 = .ok (.aload_n 0, 1) := by decide +kernel
theorem dX6_fill_26 : decode cX6_fill 26 = .ok (.getfield 9, 3) := by decide +kernel
theorem dX6_fill_29 : decode cX6_fill 29 = .ok (.iload_n 1, 1) := by decide +kernel
theorem dX6_fill_30 : decode cX6_fill 30 = .ok (.iload 4, 2) := by decide +kernel
theorem dX6_fill_32 : decode cX6_fill 32 = .ok (.invokestatic 38, 3) := by decide +kernel
theorem dX6_fill_35 : decode cX6_fill 35 = .ok (.return_, 1) := by decide +kernel
theorem dX6_narrowed_0 : decode cX6_narrowed 0 = .ok (.aload_n 0, 1) := by decide +kernel
theorem dX6_narrowed_1 : decode cX6_narrowed 1 = .ok (.getfield 15, 3) := by decide +kernel
theorem dX6_narrowed_4 : decode cX6_narrowed 4 = .ok (.lookupswitch 34 #[(0, 28), (1, 31)], 28) := by decide +kernel
theorem dX6_narrowed_32 : decode cX6_narrowed 32 = .ok (.iload_n 1, 1) := by decide +kernel
theorem dX6_narrowed_33 : decode cX6_narrowed 33 = .ok (.i2b, 1) := by decide +kernel
theorem dX6_narrowed_34 : decode cX6_narrowed 34 = .ok (.ireturn, 1) := by decide +kernel
theorem dX6_narrowed_35 : decode cX6_narrowed 35 = .ok (.iload_n 1, 1) := by decide +kernel
theorem dX6_narrowed_36 : decode cX6_narrowed 36 = .ok (.i2s, 1) := by decide +kernel
theorem dX6_narrowed_37 : decode cX6_narrowed 37 = .ok (.ireturn, 1) := by decide +kernel
theorem dX6_narrowed_38 : decode cX6_narrowed 38 = .ok (.iload_n 1, 1) := by decide +kernel
theorem dX6_narrowed_39 : decode cX6_narrowed 39 = .ok (.ireturn, 1) := by decide +kernel
theorem dX7_init_0 : decode cX7_init 0 = .ok (.aload_n 0, 1) := by decide +kernel
theorem dX7_init_1 : decode cX7_init 1 = .ok (.invokespecial 1, 3) := by decide +kernel
theorem dX7_init_4 : decode cX7_init 4 = .ok (.aload_n 0, 1) := by decide +kernel
theorem dX7_init_5 : decode cX7_init 5 = .ok (.new 7, 3) := by decide +kernel
theorem dX7_init_8 : decode cX7_init 8 = .ok (.dup, 1) := by decide +kernel
theorem dX7_init_9 : decode cX7_init 9 = .ok (.invokespecial 9, 3) := by decide +kernel
theorem dX7_init_12 : decode cX7_init 12 = .ok (.putfield 10, 3) := by decide +kernel
theorem dX7_init_15 : decode cX7_init 15 = .ok (.aload_n 0, 1) := by decide +kernel
theorem dX7_init_16 : decode cX7_init 16 = .ok (.new 16, 3) := by decide +kernel
theorem dX7_init_19 : decode cX7_init 19 = .ok (.dup, 1) := by decide +kernel
theorem dX7_init_20 : decode cX7_init 20 = .ok (.invokespecial 18, 3) := by decide +kernel
theorem dX7_init_23 : decode cX7_init 23 = .ok (.putfield 19, 3) := by decide +kernel
theorem dX7_init_26 : decode cX7_init 26 = .ok (.aload_n 0, 1) := by decide +kernel
theorem dX7_init_27 : decode cX7_init 27 = .ok (.new 23, 3) := by decide +kernel
theorem dX7_init_30 : decode cX7_init 30 = .ok (.dup, 1) := by decide +kernel
theorem dX7_init_31 : decode cX7_init 31 = .ok (.invokespecial 25, 3) := by decide +kernel
theorem dX7_init_34 : decode cX7_init 34 = .ok (.putfield 26, 3) := by decide +kernel
theorem dX7_init_37 : decode cX7_init 37 = .ok (.aload_n 0, 1) := by decide +kernel
theorem dX7_init_38 : decode cX7_init 38 = .ok (.new 30, 3) := by decide +kernel
theorem dX7_init_41 : decode cX7_init 41 = .ok (.dup, 1) := by decide +kernel
theorem dX7_init_42 : decode cX7_init 42 = .ok (.invokespecial 32, 3) := by decide +kernel
theorem dX7_init_45 : decode cX7_init 45 = .ok (.putfield 33, 3) := by decide +kernel
theorem dX7_init_48 : decode cX7_init 48 = .ok (.aload_n 0, 1) := by decide +kernel
theorem dX7_init_49 : decode cX7_init 49 = .ok (.iconst 4, 1) := by decide +kernel
theorem dX7_init_50 : decode cX7_init 50 = .ok (.anewarray 37, 3) := by decide +kernel
theorem dX7_init_53 : decode cX7_init 53 = .ok (.putfield 39, 3) := by decide +kernel
theorem dX7_init_56 : decode cX7_init 56 = .ok (.aload_n 0, 1) := by decide +kernel
theorem dX7_init_57 : decode cX7_init 57 = .ok (.bipush 30, 2) := by decide +kernel
theorem dX7_init_59 : decode cX7_init 59 = .ok (.putfield 43, 3) := by decide +kernel
theorem dX7_init_62 : decode cX7_init 62 = .ok (.aload_n 0, 1) := by decide +kernel
theorem dX7_init_63 : decode cX7_init 63 = .ok (.iconst 3, 1) := by decide +kernel
theorem dX7_init_64 : decode cX7_init 64 = .ok (.putfield 47, 3) := by decide +kernel
theorem dX7_init_67 : decode cX7_init 67 = .ok (.aload_n 0, 1) := by decide +kernel
theorem dX7_init_68 : decode cX7_init 68 = .ok (.bipush 8, 2) := by decide +kernel
theorem dX7_init_70 : decode cX7_init 70 = .ok (.putfield 50, 3) := by decide +kernel
theorem dX7_init_73 : decode cX7_init 73 = .ok (.aload_n 0, 1) := by decide +kernel
theorem dX7_init_74 : decode cX7_init 74 = .ok (.iconst 0, 1) := by decide +kernel
theorem dX7_init_75 : decode cX7_init 75 = .ok (.putfield 53, 3) := by decide +kernel
theorem dX7_init_78 : decode cX7_init 78 = .ok (.aload_n 0, 1) := by decide +kernel
theorem dX7_init_79 : decode cX7_init 79 = .ok (.iconst 0, 1) := by decide +kernel
theorem dX7_init_80 : decode cX7_init 80 = .ok (.putfield 56, 3) := by decide +kernel
theorem dX7_init_83 : decode cX7_init 83 = .ok (.aload_n 0, 1) := by decide +kernel
theorem dX7_init_84 : decode cX7_init 84 = .ok (.iconst 0, 1) := by decide +kernel
theorem dX7_init_85 : decode cX7_init 85 = .ok (.putfield 59, 3) := by decide +kernel
theorem dX7_init_88 : decode cX7_init 88 = .ok (.iconst 0, 1) := by decide +kernel
theorem dX7_init_89 : decode cX7_init 89 = .ok (.istore_n 1, 1) := by decide +kernel
theorem dX7_init_90 : decode cX7_init 90 = .ok (.iload_n 1, 1) := by decide +kernel
theorem dX7_init_91 : decode cX7_init 91 = .ok (.aload_n 0, 1) := by decide +kernel
theorem dX7_init_92 : decode cX7_init 92 = .ok (.getfield 39, 3) := by decide +kernel
theorem dX7_init_95 : decode cX7_init 95 = .ok (.arraylength, 1) := by decide +kernel
theorem dX7_init_96 : decode cX7_init 96 = .ok (.if_icmp .ge 22, 3) := by decide +kernel
theorem dX7_init_99 : decode cX7_init 99 = .ok (.aload_n 0, 1) := by decide +kernel
theorem dX7_init_100 : decode cX7_init 100 = .ok (.getfield 39, 3) := by decide +kernel
theorem dX7_init_103 : decode cX7_init 103 = .ok (.iload_n 1, 1) := by decide +kernel
theorem dX7_init_104 : decode cX7_init 104 = .ok (.new 37, 3) := by decide +kernel
theorem dX7_init_107 : decode cX7_init 107 = .ok (.dup, 1) := by decide +kernel
theorem dX7_init_108 : decode cX7_init 108 = .ok (.invokespecial 62, 3) := by decide +kernel
theorem dX7_init_111 : decode cX7_init 111 = .ok (.aastore, 1) := by decide +kernel
theorem dX7_init_112 : decode cX7_init 112 = .ok (.iinc 1 1, 3) := by decide +kernel
theorem dX7_init_115 : decode cX7_init 115 = .ok (.goto (-25), 3) := by decide +kernel
theorem dX7_init_118 : decode cX7_init 118 = .ok (.return_, 1) := by decide +kernel
theorem dX7_type_0 : decode cX7_type 0 = .ok (.aload_n 0, 1) := by decide +kernel
theorem dX7_type_1 : decode cX7_type 1 = .ok (.iload_n 1, 1) := by decide +kernel
theorem dX7_type_2 : decode cX7_type 2 = .ok (.invokevirtual 63, 3) := by decide +kernel
theorem dX7_type_5 : decode cX7_type 5 = .ok (.astore_n 3, 1) := by decide +kernel
theorem dX7_type_6 : decode cX7_type 6 = .ok (.aload_n 3, 1) := by decide +kernel
theorem dX7_type_7 : decode cX7_type 7 = .ok (.ifnull 14, 3) := by decide +kernel
theorem dX7_type_10 : decode cX7_type 10 = .ok (.iload_n 2, 1) := by decide +kernel
theorem dX7_type_11 : decode cX7_type 11 = .ok (.iconst 0, 1) := by decide +kernel
theorem dX7_type_12 : decode cX7_type 12 = .ok (.sipush 255, 3) := by decide +kernel
theorem dX7_type_15 : decode cX7_type 15 = .ok (.invokestatic 67, 3) := by decide +kernel
theorem dX7_type_18 : decode cX7_type 18 = .ok (.ifCond .ne 6, 3) := by decide +kernel
theorem dX7_type_21 : decode cX7_type 21 = .ok (.bipush (-2), 2) := by decide +kernel
theorem dX7_type_23 : decode cX7_type 23 = .ok (.ireturn, 1) := by decide +kernel
theorem dX7_type_24 : decode cX7_type 24 = .ok (.aload_n 3, 1) := by decide +kernel
theorem dX7_type_25 : decode cX7_type 25 = .ok (.iload_n 2, 1) := by decide +kernel
theorem dX7_type_26 : decode cX7_type 26 = .ok (.invokevirtual 71, 3) := by decide +kernel
theorem dX7_type_29 : decode cX7_type 29 = .ok (.ireturn, 1) := by decide +kernel
theorem dX7_wipe_0 : decode cX7_wipe 0 = .ok (.aload_n 0, 1) := by decide +kernel
theorem dX7_wipe_1 : decode cX7_wipe 1 = .ok (.iload_n 1, 1) := by decide +kernel
theorem dX7_wipe_2 : decode cX7_wipe 2 = .ok (.invokevirtual 63, 3) := by decide +kernel
theorem dX7_wipe_5 : decode cX7_wipe 5 = .ok (.astore_n 2, 1) := by decide +kernel
theorem dX7_wipe_6 : decode cX7_wipe 6 = .ok (.aload_n 2, 1) := by decide +kernel
theorem dX7_wipe_7 : decode cX7_wipe 7 = .ok (.ifnonnull 8, 3) := by decide +kernel
theorem dX7_wipe_10 : decode cX7_wipe 10 = .ok (.bipush (-2), 2) := by decide +kernel
theorem dX7_wipe_12 : decode cX7_wipe 12 = .ok (.goto 7, 3) := by decide +kernel
theorem dX7_wipe_15 : decode cX7_wipe 15 = .ok (.aload_n 2, 1) := by decide +kernel
theorem dX7_wipe_16 : decode cX7_wipe 16 = .ok (.invokevirtual 77, 3) := by decide +kernel
theorem dX7_wipe_19 : decode cX7_wipe 19 = .ok (.ireturn, 1) := by decide +kernel
theorem dX7_undo_0 : decode cX7_undo 0 = .ok (.aload_n 0, 1) := by decide +kernel
theorem dX7_undo_1 : decode cX7_undo 1 = .ok (.iload_n 1, 1) := by decide +kernel
theorem dX7_undo_2 : decode cX7_undo 2 = .ok (.invokevirtual 63, 3) := by decide +kernel
theorem dX7_undo_5 : decode cX7_undo 5 = .ok (.astore_n 2, 1) := by decide +kernel
theorem dX7_undo_6 : decode cX7_undo 6 = .ok (.aload_n 2, 1) := by decide +kernel
theorem dX7_undo_7 : decode cX7_undo 7 = .ok (.ifnonnull 8, 3) := by decide +kernel
theorem dX7_undo_10 : decode cX7_undo 10 = .ok (.bipush (-2), 2) := by decide +kernel
theorem dX7_undo_12 : decode cX7_undo 12 = .ok (.goto 7, 3) := by decide +kernel
theorem dX7_undo_15 : decode cX7_undo 15 = .ok (.aload_n 2, 1) := by decide +kernel
theorem dX7_undo_16 : decode cX7_undo 16 = .ok (.invokevirtual 81, 3) := by decide +kernel
theorem dX7_undo_19 : decode cX7_undo 19 = .ok (.ireturn, 1) := by decide +kernel
theorem dX7_fault_0 : decode cX7_fault 0 = .ok (.aload_n 0, 1) := by decide +kernel
theorem dX7_fault_1 : decode cX7_fault 1 = .ok (.iload_n 1, 1) := by decide +kernel
theorem dX7_fault_2 : decode cX7_fault 2 = .ok (.invokevirtual 63, 3) := by decide +kernel
theorem dX7_fault_5 : decode cX7_fault 5 = .ok (.astore_n 2, 1) := by decide +kernel
theorem dX7_fault_6 : decode cX7_fault 6 = .ok (.aload_n 2, 1) := by decide +kernel
theorem dX7_fault_7 : decode cX7_fault 7 = .ok (.ifnonnull 8, 3) := by decide +kernel
theorem dX7_fault_10 : decode cX7_fault 10 = .ok (.bipush (-2), 2) := by decide +kernel
theorem dX7_fault_12 : decode cX7_fault 12 = .ok (.goto 7, 3) := by decide +kernel
theorem dX7_fault_15 : decode cX7_fault 15 = .ok (.aload_n 2, 1) := by decide +kernel
theorem dX7_fault_16 : decode cX7_fault 16 = .ok (.invokevirtual 84, 3) := by decide +kernel
theorem dX7_fault_19 : decode cX7_fault 19 = .ok (.ireturn, 1) := by decide +kernel
theorem dX7_book_0 : decode cX7_book 0 = .ok (.iload_n 1, 1) := by decide +kernel
theorem dX7_book_1 : decode cX7_book 1 = .ok (.iconst 0, 1) := by decide +kernel
theorem dX7_book_2 : decode cX7_book 2 = .ok (.aload_n 0, 1) := by decide +kernel
theorem dX7_book_3 : decode cX7_book 3 = .ok (.getfield 10, 3) := by decide +kernel
theorem dX7_book_6 : decode cX7_book 6 = .ok (.invokevirtual 87, 3) := by decide +kernel
theorem dX7_book_9 : decode cX7_book 9 = .ok (.iconst 1, 1) := by decide +kernel
theorem dX7_book_10 : decode cX7_book 10 = .ok (.isub, 1) := by decide +kernel
theorem dX7_book_11 : decode cX7_book 11 = .ok (.invokestatic 67, 3) := by decide +kernel
theorem dX7_book_14 : decode cX7_book 14 = .ok (.ifCond .ne 6, 3) := by decide +kernel
theorem dX7_book_17 : decode cX7_book 17 = .ok (.bipush (-2), 2) := by decide +kernel
theorem dX7_book_19 : decode cX7_book 19 = .ok (.ireturn, 1) := by decide +kernel
theorem dX7_book_20 : decode cX7_book 20 = .ok (.iload_n 2, 1) := by decide +kernel
theorem dX7_book_21 : decode cX7_book 21 = .ok (.tableswitch 54 0 2 #[27, 36, 45], 27) := by decide +kernel
theorem dX7_book_48 : decode cX7_book 48 = .ok (.aload_n 0, 1) := by decide +kernel
theorem dX7_book_49 : decode cX7_book 49 = .ok (.getfield 10, 3) := by decide +kernel
theorem dX7_book_52 : decode cX7_book 52 = .ok (.iload_n 1, 1) := by decide +kernel
theorem dX7_book_53 : decode cX7_book 53 = .ok (.invokevirtual 90, 3) := by decide +kernel
theorem dX7_book_56 : decode cX7_book 56 = .ok (.ireturn, 1) := by decide +kernel
theorem dX7_book_57 : decode cX7_book 57 = .ok (.aload_n 0, 1) := by decide +kernel
theorem dX7_book_58 : decode cX7_book 58 = .ok (.getfield 10, 3) := by decide +kernel
theorem dX7_book_61 : decode cX7_book 61 = .ok (.iload_n 1, 1) := by decide +kernel
theorem dX7_book_62 : decode cX7_book 62 = .ok (.invokevirtual 93, 3) := by decide +kernel
theorem dX7_book_65 : decode cX7_book 65 = .ok (.ireturn, 1) := by decide +kernel
theorem dX7_book_66 : decode cX7_book 66 = .ok (.aload_n 0, 1) := by decide +kernel
theorem dX7_book_67 : decode cX7_book 67 = .ok (.getfield 10, 3) := by decide +kernel
theorem dX7_book_70 : decode cX7_book 70 = .ok (.iload_n 1, 1) := by decide +kernel
theorem dX7_book_71 : decode cX7_book 71 = .ok (.invokevirtual 96, 3) := by decide +kernel
theorem dX7_book_74 : decode cX7_book 74 = .ok (.ireturn, 1) := by decide +kernel
theorem dX7_book_75 : decode cX7_book 75 = .ok (.bipush (-2), 2) := by decide +kernel
theorem dX7_book_77 : decode cX7_book 77 = .ok (.ireturn, 1) := by decide +kernel
theorem dX7_king_0 : decode cX7_king 0 = .ok (.aload_n 0, 1) := by decide +kernel
theorem dX7_king_1 : decode cX7_king 1 = .ok (.iload_n 1, 1) := by decide +kernel
theorem dX7_king_2 : decode cX7_king 2 = .ok (.invokevirtual 99, 3) := by decide +kernel
theorem dX7_king_5 : decode cX7_king 5 = .ok (.ifCond .eq 12, 3) := by decide +kernel
theorem dX7_king_8 : decode cX7_king 8 = .ok (.iload_n 2, 1) := by decide +kernel
theorem dX7_king_9 : decode cX7_king 9 = .ok (.iconst 0, 1) := by decide +kernel
theorem dX7_king_10 : decode cX7_king 10 = .ok (.iconst 1, 1) := by decide +kernel
theorem dX7_king_11 : decode cX7_king 11 = .ok (.invokestatic 67, 3) := by decide +kernel
theorem dX7_king_14 : decode cX7_king 14 = .ok (.ifCond .ne 6, 3) := by decide +kernel
theorem dX7_king_17 : decode cX7_king 17 = .ok (.bipush (-2), 2) := by decide +kernel
theorem dX7_king_19 : decode cX7_king 19 = .ok (.ireturn, 1) := by decide +kernel
theorem dX7_king_20 : decode cX7_king 20 = .ok (.iload_n 2, 1) := by decide +kernel
theorem dX7_king_21 : decode cX7_king 21 = .ok (.ifCond .ne 14, 3) := by decide +kernel
theorem dX7_king_24 : decode cX7_king 24 = .ok (.aload_n 0, 1) := by decide +kernel
theorem dX7_king_25 : decode cX7_king 25 = .ok (.getfield 19, 3) := by decide +kernel
theorem dX7_king_28 : decode cX7_king 28 = .ok (.iload_n 1, 1) := by decide +kernel
theorem dX7_king_29 : decode cX7_king 29 = .ok (.invokevirtual 103, 3) := by decide +kernel
theorem dX7_king_32 : decode cX7_king 32 = .ok (.goto 11, 3) := by decide +kernel
theorem dX7_king_35 : decode cX7_king 35 = .ok (.aload_n 0, 1) := by decide +kernel
theorem dX7_king_36 : decode cX7_king 36 = .ok (.getfield 19, 3) := by decide +kernel
theorem dX7_king_39 : decode cX7_king 39 = .ok (.iload_n 1, 1) := by decide +kernel
theorem dX7_king_40 : decode cX7_king 40 = .ok (.invokevirtual 106, 3) := by decide +kernel
theorem dX7_king_43 : decode cX7_king 43 = .ok (.ireturn, 1) := by decide +kernel
theorem dX7_set_0 : decode cX7_set 0 = .ok (.iload_n 1, 1) := by decide +kernel
theorem dX7_set_1 : decode cX7_set 1 = .ok (.ifCond .ne 26, 3) := by decide +kernel
theorem dX7_set_4 : decode cX7_set 4 = .ok (.iload_n 2, 1) := by decide +kernel
theorem dX7_set_5 : decode cX7_set 5 = .ok (.iconst 0, 1) := by decide +kernel
theorem dX7_set_6 : decode cX7_set 6 = .ok (.bipush 99, 2) := by decide +kernel
theorem dX7_set_8 : decode cX7_set 8 = .ok (.invokestatic 67, 3) := by decide +kernel
theorem dX7_set_11 : decode cX7_set 11 = .ok (.ifCond .eq 16, 3) := by decide +kernel
theorem dX7_set_14 : decode cX7_set 14 = .ok (.aload_n 0, 1) := by decide +kernel
theorem dX7_set_15 : decode cX7_set 15 = .ok (.getfield 43, 3) := by decide +kernel
theorem dX7_set_18 : decode cX7_set 18 = .ok (.istore_n 3, 1) := by decide +kernel
theorem dX7_set_19 : decode cX7_set 19 = .ok (.aload_n 0, 1) := by decide +kernel
theorem dX7_set_20 : decode cX7_set 20 = .ok (.iload_n 2, 1) := by decide +kernel
theorem dX7_set_21 : decode cX7_set 21 = .ok (.putfield 43, 3) := by decide +kernel
theorem dX7_set_24 : decode cX7_set 24 = .ok (.goto 62, 3) := by decide +kernel
theorem dX7_set_27 : decode cX7_set 27 = .ok (.iload_n 1, 1) := by decide +kernel
theorem dX7_set_28 : decode cX7_set 28 = .ok (.iconst 1, 1) := by decide +kernel
theorem dX7_set_29 : decode cX7_set 29 = .ok (.if_icmp .ne 26, 3) := by decide +kernel
theorem dX7_set_32 : decode cX7_set 32 = .ok (.iload_n 2, 1) := by decide +kernel
theorem dX7_set_33 : decode cX7_set 33 = .ok (.iconst 1, 1) := by decide +kernel
theorem dX7_set_34 : decode cX7_set 34 = .ok (.bipush 9, 2) := by decide +kernel
theorem dX7_set_36 : decode cX7_set 36 = .ok (.invokestatic 67, 3) := by decide +kernel
theorem dX7_set_39 : decode cX7_set 39 = .ok (.ifCond .eq 16, 3) := by decide +kernel
theorem dX7_set_42 : decode cX7_set 42 = .ok (.aload_n 0, 1) := by decide +kernel
theorem dX7_set_43 : decode cX7_set 43 = .ok (.getfield 47, 3) := by decide +kernel
theorem dX7_set_46 : decode cX7_set 46 = .ok (.istore_n 3, 1) := by decide +kernel
theorem dX7_set_47 : decode cX7_set 47 = .ok (.aload_n 0, 1) := by decide +kernel
theorem dX7_set_48 : decode cX7_set 48 = .ok (.iload_n 2, 1) := by decide +kernel
theorem dX7_set_49 : decode cX7_set 49 = .ok (.putfield 47, 3) := by decide +kernel
theorem dX7_set_52 : decode cX7_set 52 = .ok (.goto 34, 3) := by decide +kernel
theorem dX7_set_55 : decode cX7_set 55 = .ok (.iload_n 1, 1) := by decide +kernel
theorem dX7_set_56 : decode cX7_set 56 = .ok (.iconst 2, 1) := by decide +kernel
theorem dX7_set_57 : decode cX7_set 57 = .ok (.if_icmp .ne 26, 3) := by decide +kernel
theorem dX7_set_60 : decode cX7_set 60 = .ok (.iload_n 2, 1) := by decide +kernel
theorem dX7_set_61 : decode cX7_set 61 = .ok (.iconst 0, 1) := by decide +kernel
theorem dX7_set_62 : decode cX7_set 62 = .ok (.bipush 16, 2) := by decide +kernel
theorem dX7_set_64 : decode cX7_set 64 = .ok (.invokestatic 67, 3) := by decide +kernel
theorem dX7_set_67 : decode cX7_set 67 = .ok (.ifCond .eq 16, 3) := by decide +kernel
theorem dX7_set_70 : decode cX7_set 70 = .ok (.aload_n 0, 1) := by decide +kernel
theorem dX7_set_71 : decode cX7_set 71 = .ok (.getfield 50, 3) := by decide +kernel
theorem dX7_set_74 : decode cX7_set 74 = .ok (.istore_n 3, 1) := by decide +kernel
theorem dX7_set_75 : decode cX7_set 75 = .ok (.aload_n 0, 1) := by decide +kernel
theorem dX7_set_76 : decode cX7_set 76 = .ok (.iload_n 2, 1) := by decide +kernel
theorem dX7_set_77 : decode cX7_set 77 = .ok (.putfield 50, 3) := by decide +kernel
theorem dX7_set_80 : decode cX7_set 80 = .ok (.goto 6, 3) := by decide +kernel
theorem dX7_set_83 : decode cX7_set 83 = .ok (.bipush (-2), 2) := by decide +kernel
theorem dX7_set_85 : decode cX7_set 85 = .ok (.istore_n 3, 1) := by decide +kernel
theorem dX7_set_86 : decode cX7_set 86 = .ok (.iload_n 3, 1) := by decide +kernel
theorem dX7_set_87 : decode cX7_set 87 = .ok (.ireturn, 1) := by decide +kernel
theorem dX7_burn_0 : decode cX7_burn 0 = .ok (.aload_n 0, 1) := by decide +kernel
theorem dX7_burn_1 : decode cX7_burn 1 = .ok (.getfield 26, 3) := by decide +kernel
theorem dX7_burn_4 : decode cX7_burn 4 = .ok (.iload_n 1, 1) := by decide +kernel
theorem dX7_burn_5 : decode cX7_burn 5 = .ok (.invokevirtual 109, 3) := by decide +kernel
theorem dX7_burn_8 : decode cX7_burn 8 = .ok (.ireturn, 1) := by decide +kernel
theorem dX7_back_0 : decode cX7_back 0 = .ok (.aload_n 0, 1) := by decide +kernel
theorem dX7_back_1 : decode cX7_back 1 = .ok (.getfield 26, 3) := by decide +kernel
theorem dX7_back_4 : decode cX7_back 4 = .ok (.invokevirtual 110, 3) := by decide +kernel
theorem dX7_back_7 : decode cX7_back 7 = .ok (.ireturn, 1) := by decide +kernel
theorem dX7_read_0 : decode cX7_read 0 = .ok (.aload_n 0, 1) := by decide +kernel
theorem dX7_read_1 : decode cX7_read 1 = .ok (.iload_n 1, 1) := by decide +kernel
theorem dX7_read_2 : decode cX7_read 2 = .ok (.invokevirtual 111, 3) := by decide +kernel
theorem dX7_read_5 : decode cX7_read 5 = .ok (.astore_n 2, 1) := by decide +kernel
theorem dX7_read_6 : decode cX7_read 6 = .ok (.aload_n 2, 1) := by decide +kernel
theorem dX7_read_7 : decode cX7_read 7 = .ok (.ifnonnull 6, 3) := by decide +kernel
theorem dX7_read_10 : decode cX7_read 10 = .ok (.bipush (-2), 2) := by decide +kernel
theorem dX7_read_12 : decode cX7_read 12 = .ok (.ireturn, 1) := by decide +kernel
theorem dX7_read_13 : decode cX7_read 13 = .ok (.aload_n 2, 1) := by decide +kernel
theorem dX7_read_14 : decode cX7_read 14 = .ok (.invokevirtual 115, 3) := by decide +kernel
theorem dX7_read_17 : decode cX7_read 17 = .ok (.ifCond .eq 9, 3) := by decide +kernel
theorem dX7_read_20 : decode cX7_read 20 = .ok (.aload_n 0, 1) := by decide +kernel
theorem dX7_read_21 : decode cX7_read 21 = .ok (.iconst 1, 1) := by decide +kernel
theorem dX7_read_22 : decode cX7_read 22 = .ok (.invokevirtual 119, 3) := by decide +kernel
theorem dX7_read_25 : decode cX7_read 25 = .ok (.ireturn, 1) := by decide +kernel
theorem dX7_read_26 : decode cX7_read 26 = .ok (.iconst 0, 1) := by decide +kernel
theorem dX7_read_27 : decode cX7_read 27 = .ok (.istore_n 3, 1) := by decide +kernel
theorem dX7_read_28 : decode cX7_read 28 = .ok (.iload_n 3, 1) := by decide +kernel
theorem dX7_read_29 : decode cX7_read 29 = .ok (.aload_n 2, 1) := by decide +kernel
theorem dX7_read_30 : decode cX7_read 30 = .ok (.invokevirtual 122, 3) := by decide +kernel
theorem dX7_read_33 : decode cX7_read 33 = .ok (.if_icmp .ge 26, 3) := by decide +kernel
theorem dX7_read_36 : decode cX7_read 36 = .ok (.aload_n 0, 1) := by decide +kernel
theorem dX7_read_37 : decode cX7_read 37 = .ok (.getfield 26, 3) := by decide +kernel
theorem dX7_read_40 : decode cX7_read 40 = .ok (.aload_n 2, 1) := by decide +kernel
theorem dX7_read_41 : decode cX7_read 41 = .ok (.iload_n 3, 1) := by decide +kernel
theorem dX7_read_42 : decode cX7_read 42 = .ok (.invokevirtual 125, 3) := by decide +kernel
theorem dX7_read_45 : decode cX7_read 45 = .ok (.invokevirtual 109, 3) := by decide +kernel
theorem dX7_read_48 : decode cX7_read 48 = .ok (.bipush (-2), 2) := by decide +kernel
theorem dX7_read_50 : decode cX7_read 50 = .ok (.if_icmp .eq 9, 3) := by decide +kernel
theorem dX7_read_53 : decode cX7_read 53 = .ok (.iinc 3 1, 3) := by decide +kernel
theorem dX7_read_56 : decode cX7_read 56 = .ok (.goto (-28), 3) := by decide +kernel
theorem dX7_read_59 : decode cX7_read 59 = .ok (.iload_n 3, 1) := by decide +kernel
theorem dX7_read_60 : decode cX7_read 60 = .ok (.ireturn, 1) := by decide +kernel
theorem dX7_left_0 : decode cX7_left 0 = .ok (.aload_n 0, 1) := by decide +kernel
theorem dX7_left_1 : decode cX7_left 1 = .ok (.getfield 10, 3) := by decide +kernel
theorem dX7_left_4 : decode cX7_left 4 = .ok (.invokevirtual 128, 3) := by decide +kernel
theorem dX7_left_7 : decode cX7_left 7 = .ok (.aload_n 0, 1) := by decide +kernel
theorem dX7_left_8 : decode cX7_left 8 = .ok (.getfield 26, 3) := by decide +kernel
theorem dX7_left_11 : decode cX7_left 11 = .ok (.invokevirtual 131, 3) := by decide +kernel
theorem dX7_left_14 : decode cX7_left 14 = .ok (.iconst (-1), 1) := by decide +kernel
theorem dX7_left_15 : decode cX7_left 15 = .ok (.ixor, 1) := by decide +kernel
theorem dX7_left_16 : decode cX7_left 16 = .ok (.iand, 1) := by decide +kernel
theorem dX7_left_17 : decode cX7_left 17 = .ok (.ireturn, 1) := by decide +kernel
theorem dX7_use_0 : decode cX7_use 0 = .ok (.iload_n 1, 1) := by decide +kernel
theorem dX7_use_1 : decode cX7_use 1 = .ok (.invokestatic 134, 3) := by decide +kernel
theorem dX7_use_4 : decode cX7_use 4 = .ok (.ifCond .eq 14, 3) := by decide +kernel
theorem dX7_use_7 : decode cX7_use 7 = .ok (.aload_n 0, 1) := by decide +kernel
theorem dX7_use_8 : decode cX7_use 8 = .ok (.getfield 10, 3) := by decide +kernel
theorem dX7_use_11 : decode cX7_use 11 = .ok (.iload_n 1, 1) := by decide +kernel
theorem dX7_use_12 : decode cX7_use 12 = .ok (.invokevirtual 137, 3) := by decide +kernel
theorem dX7_use_15 : decode cX7_use 15 = .ok (.goto 5, 3) := by decide +kernel
theorem dX7_use_18 : decode cX7_use 18 = .ok (.bipush (-2), 2) := by decide +kernel
theorem dX7_use_20 : decode cX7_use 20 = .ok (.ireturn, 1) := by decide +kernel
theorem dX7_gain_0 : decode cX7_gain 0 = .ok (.aload_n 0, 1) := by decide +kernel
theorem dX7_gain_1 : decode cX7_gain 1 = .ok (.iload_n 1, 1) := by decide +kernel
theorem dX7_gain_2 : decode cX7_gain 2 = .ok (.invokevirtual 99, 3) := by decide +kernel
theorem dX7_gain_5 : decode cX7_gain 5 = .ok (.ifCond .eq 19, 3) := by decide +kernel
theorem dX7_gain_8 : decode cX7_gain 8 = .ok (.iload_n 2, 1) := by decide +kernel
theorem dX7_gain_9 : decode cX7_gain 9 = .ok (.invokestatic 134, 3) := by decide +kernel
theorem dX7_gain_12 : decode cX7_gain 12 = .ok (.ifCond .eq 12, 3) := by decide +kernel
theorem dX7_gain_15 : decode cX7_gain 15 = .ok (.aload_n 0, 1) := by decide +kernel
theorem dX7_gain_16 : decode cX7_gain 16 = .ok (.iload_n 1, 1) := by decide +kernel
theorem dX7_gain_17 : decode cX7_gain 17 = .ok (.iload_n 2, 1) := by decide +kernel
theorem dX7_gain_18 : decode cX7_gain 18 = .ok (.invokevirtual 140, 3) := by decide +kernel
theorem dX7_gain_21 : decode cX7_gain 21 = .ok (.goto 5, 3) := by decide +kernel
theorem dX7_gain_24 : decode cX7_gain 24 = .ok (.bipush (-2), 2) := by decide +kernel
theorem dX7_gain_26 : decode cX7_gain 26 = .ok (.ireturn, 1) := by decide +kernel
theorem dX7_loss_0 : decode cX7_loss 0 = .ok (.aload_n 0, 1) := by decide +kernel
theorem dX7_loss_1 : decode cX7_loss 1 = .ok (.getfield 10, 3) := by decide +kernel
theorem dX7_loss_4 : decode cX7_loss 4 = .ok (.aload_n 0, 1) := by decide +kernel
theorem dX7_loss_5 : decode cX7_loss 5 = .ok (.getfield 10, 3) := by decide +kernel
theorem dX7_loss_8 : decode cX7_loss 8 = .ok (.invokevirtual 128, 3) := by decide +kernel
theorem dX7_loss_11 : decode cX7_loss 11 = .ok (.invokevirtual 137, 3) := by decide +kernel
theorem dX7_loss_14 : decode cX7_loss 14 = .ok (.aload_n 0, 1) := by decide +kernel
theorem dX7_loss_15 : decode cX7_loss 15 = .ok (.getfield 10, 3) := by decide +kernel
theorem dX7_loss_18 : decode cX7_loss 18 = .ok (.aload_n 0, 1) := by decide +kernel
theorem dX7_loss_19 : decode cX7_loss 19 = .ok (.invokevirtual 144, 3) := by decide +kernel
theorem dX7_loss_22 : decode cX7_loss 22 = .ok (.invokevirtual 137, 3) := by decide +kernel
theorem dX7_loss_25 : decode cX7_loss 25 = .ok (.isub, 1) := by decide +kernel
theorem dX7_loss_26 : decode cX7_loss 26 = .ok (.ireturn, 1) := by decide +kernel
theorem dX7_enough_0 : decode cX7_enough 0 = .ok (.iload_n 1, 1) := by decide +kernel
theorem dX7_enough_1 : decode cX7_enough 1 = .ok (.iconst 0, 1) := by decide +kernel
theorem dX7_enough_2 : decode cX7_enough 2 = .ok (.bipush 99, 2) := by decide +kernel
theorem dX7_enough_4 : decode cX7_enough 4 = .ok (.invokestatic 67, 3) := by decide +kernel
theorem dX7_enough_7 : decode cX7_enough 7 = .ok (.ifCond .ne 6, 3) := by decide +kernel
theorem dX7_enough_10 : decode cX7_enough 10 = .ok (.bipush (-2), 2) := by decide +kernel
theorem dX7_enough_12 : decode cX7_enough 12 = .ok (.ireturn, 1) := by decide +kernel
theorem dX7_enough_13 : decode cX7_enough 13 = .ok (.aload_n 0, 1) := by decide +kernel
theorem dX7_enough_14 : decode cX7_enough 14 = .ok (.invokevirtual 144, 3) := by decide +kernel
theorem dX7_enough_17 : decode cX7_enough 17 = .ok (.iconst (-1), 1) := by decide +kernel
theorem dX7_enough_18 : decode cX7_enough 18 = .ok (.ixor, 1) := by decide +kernel
theorem dX7_enough_19 : decode cX7_enough 19 = .ok (.istore_n 2, 1) := by decide +kernel
theorem dX7_enough_20 : decode cX7_enough 20 = .ok (.iconst (-1), 1) := by decide +kernel
theorem dX7_enough_21 : decode cX7_enough 21 = .ok (.istore_n 3, 1) := by decide +kernel
theorem dX7_enough_22 : decode cX7_enough 22 = .ok (.iconst 0, 1) := by decide +kernel
theorem dX7_enough_23 : decode cX7_enough 23 = .ok (.istore 4, 2) := by decide +kernel
theorem dX7_enough_25 : decode cX7_enough 25 = .ok (.iload 4, 2) := by decide +kernel
theorem dX7_enough_27 : decode cX7_enough 27 = .ok (.sipush 511, 3) := by decide +kernel
theorem dX7_enough_30 : decode cX7_enough 30 = .ok (.if_icmp .gt 61, 3) := by decide +kernel
theorem dX7_enough_33 : decode cX7_enough 33 = .ok (.iload_n 3, 1) := by decide +kernel
theorem dX7_enough_34 : decode cX7_enough 34 = .ok (.iconst (-1), 1) := by decide +kernel
theorem dX7_enough_35 : decode cX7_enough 35 = .ok (.if_icmp .eq 15, 3) := by decide +kernel
theorem dX7_enough_38 : decode cX7_enough 38 = .ok (.iload 4, 2) := by decide +kernel
theorem dX7_enough_40 : decode cX7_enough 40 = .ok (.invokestatic 147, 3) := by decide +kernel
theorem dX7_enough_43 : decode cX7_enough 43 = .ok (.iload_n 3, 1) := by decide +kernel
theorem dX7_enough_44 : decode cX7_enough 44 = .ok (.invokestatic 147, 3) := by decide +kernel
theorem dX7_enough_47 : decode cX7_enough 47 = .ok (.if_icmp .ge 7, 3) := by decide +kernel
theorem dX7_enough_50 : decode cX7_enough 50 = .ok (.iconst 1, 1) := by decide +kernel
theorem dX7_enough_51 : decode cX7_enough 51 = .ok (.goto 4, 3) := by decide +kernel
theorem dX7_enough_54 : decode cX7_enough 54 = .ok (.iconst 0, 1) := by decide +kernel
theorem dX7_enough_55 : decode cX7_enough 55 = .ok (.istore 5, 2) := by decide +kernel
theorem dX7_enough_57 : decode cX7_enough 57 = .ok (.iload 4, 2) := by decide +kernel
theorem dX7_enough_59 : decode cX7_enough 59 = .ok (.iload_n 2, 1) := by decide +kernel
theorem dX7_enough_60 : decode cX7_enough 60 = .ok (.iand, 1) := by decide +kernel
theorem dX7_enough_61 : decode cX7_enough 61 = .ok (.ifCond .ne 24, 3) := by decide +kernel
theorem dX7_enough_64 : decode cX7_enough 64 = .ok (.iload 5, 2) := by decide +kernel
theorem dX7_enough_66 : decode cX7_enough 66 = .ok (.ifCond .eq 19, 3) := by decide +kernel
theorem dX7_enough_69 : decode cX7_enough 69 = .ok (.aload_n 0, 1) := by decide +kernel
theorem dX7_enough_70 : decode cX7_enough 70 = .ok (.getfield 10, 3) := by decide +kernel
theorem dX7_enough_73 : decode cX7_enough 73 = .ok (.iload 4, 2) := by decide +kernel
theorem dX7_enough_75 : decode cX7_enough 75 = .ok (.invokevirtual 137, 3) := by decide +kernel
theorem dX7_enough_78 : decode cX7_enough 78 = .ok (.iload_n 1, 1) := by decide +kernel
theorem dX7_enough_79 : decode cX7_enough 79 = .ok (.if_icmp .lt 6, 3) := by decide +kernel
theorem dX7_enough_82 : decode cX7_enough 82 = .ok (.iload 4, 2) := by decide +kernel
theorem dX7_enough_84 : decode cX7_enough 84 = .ok (.istore_n 3, 1) := by decide +kernel
theorem dX7_enough_85 : decode cX7_enough 85 = .ok (.iinc 4 1, 3) := by decide +kernel
theorem dX7_enough_88 : decode cX7_enough 88 = .ok (.goto (-63), 3) := by decide +kernel
theorem dX7_enough_91 : decode cX7_enough 91 = .ok (.iload_n 3, 1) := by decide +kernel
theorem dX7_enough_92 : decode cX7_enough 92 = .ok (.ireturn, 1) := by decide +kernel
theorem dX7_dearest_0 : decode cX7_dearest 0 = .ok (.aload_n 0, 1) := by decide +kernel
theorem dX7_dearest_1 : decode cX7_dearest 1 = .ok (.invokevirtual 144, 3) := by decide +kernel
theorem dX7_dearest_4 : decode cX7_dearest 4 = .ok (.istore_n 1, 1) := by decide +kernel
theorem dX7_dearest_5 : decode cX7_dearest 5 = .ok (.iconst (-1), 1) := by decide +kernel
theorem dX7_dearest_6 : decode cX7_dearest 6 = .ok (.istore_n 2, 1) := by decide +kernel
theorem dX7_dearest_7 : decode cX7_dearest 7 = .ok (.iconst 0, 1) := by decide +kernel
theorem dX7_dearest_8 : decode cX7_dearest 8 = .ok (.istore_n 3, 1) := by decide +kernel
theorem dX7_dearest_9 : decode cX7_dearest 9 = .ok (.iconst 0, 1) := by decide +kernel
theorem dX7_dearest_10 : decode cX7_dearest 10 = .ok (.istore 4, 2) := by decide +kernel
theorem dX7_dearest_12 : decode cX7_dearest 12 = .ok (.iload 4, 2) := by decide +kernel
theorem dX7_dearest_14 : decode cX7_dearest 14 = .ok (.bipush 8, 2) := by decide +kernel
theorem dX7_dearest_16 : decode cX7_dearest 16 = .ok (.if_icmp .gt 52, 3) := by decide +kernel
theorem dX7_dearest_19 : decode cX7_dearest 19 = .ok (.iload_n 1, 1) := by decide +kernel
theorem dX7_dearest_20 : decode cX7_dearest 20 = .ok (.iload 4, 2) := by decide +kernel
theorem dX7_dearest_22 : decode cX7_dearest 22 = .ok (.invokestatic 152, 3) := by decide +kernel
theorem dX7_dearest_25 : decode cX7_dearest 25 = .ok (.ifCond .eq 37, 3) := by decide +kernel
theorem dX7_dearest_28 : decode cX7_dearest 28 = .ok (.aload_n 0, 1) := by decide +kernel
theorem dX7_dearest_29 : decode cX7_dearest 29 = .ok (.getfield 10, 3) := by decide +kernel
theorem dX7_dearest_32 : decode cX7_dearest 32 = .ok (.iload_n 1, 1) := by decide +kernel
theorem dX7_dearest_33 : decode cX7_dearest 33 = .ok (.iconst 1, 1) := by decide +kernel
theorem dX7_dearest_34 : decode cX7_dearest 34 = .ok (.iload 4, 2) := by decide +kernel
theorem dX7_dearest_36 : decode cX7_dearest 36 = .ok (.ishl, 1) := by decide +kernel
theorem dX7_dearest_37 : decode cX7_dearest 37 = .ok (.iconst (-1), 1) := by decide +kernel
theorem dX7_dearest_38 : decode cX7_dearest 38 = .ok (.ixor, 1) := by decide +kernel
theorem dX7_dearest_39 : decode cX7_dearest 39 = .ok (.iand, 1) := by decide +kernel
theorem dX7_dearest_40 : decode cX7_dearest 40 = .ok (.invokevirtual 137, 3) := by decide +kernel
theorem dX7_dearest_43 : decode cX7_dearest 43 = .ok (.istore 5, 2) := by decide +kernel
theorem dX7_dearest_45 : decode cX7_dearest 45 = .ok (.iload_n 2, 1) := by decide +kernel
theorem dX7_dearest_46 : decode cX7_dearest 46 = .ok (.iconst (-1), 1) := by decide +kernel
theorem dX7_dearest_47 : decode cX7_dearest 47 = .ok (.if_icmp .eq 9, 3) := by decide +kernel
theorem dX7_dearest_50 : decode cX7_dearest 50 = .ok (.iload 5, 2) := by decide +kernel
theorem dX7_dearest_52 : decode cX7_dearest 52 = .ok (.iload_n 3, 1) := by decide +kernel
theorem dX7_dearest_53 : decode cX7_dearest 53 = .ok (.if_icmp .ge 9, 3) := by decide +kernel
theorem dX7_dearest_56 : decode cX7_dearest 56 = .ok (.iload 4, 2) := by decide +kernel
theorem dX7_dearest_58 : decode cX7_dearest 58 = .ok (.istore_n 2, 1) := by decide +kernel
theorem dX7_dearest_59 : decode cX7_dearest 59 = .ok (.iload 5, 2) := by decide +kernel
theorem dX7_dearest_61 : decode cX7_dearest 61 = .ok (.istore_n 3, 1) := by decide +kernel
theorem dX7_dearest_62 : decode cX7_dearest 62 = .ok (.iinc 4 1, 3) := by decide +kernel
theorem dX7_dearest_65 : decode cX7_dearest 65 = .ok (.goto (-53), 3) := by decide +kernel
theorem dX7_dearest_68 : decode cX7_dearest 68 = .ok (.iload_n 2, 1) := by decide +kernel
theorem dX7_dearest_69 : decode cX7_dearest 69 = .ok (.ireturn, 1) := by decide +kernel
theorem dX7_act_0 : decode cX7_act 0 = .ok (.aload_n 0, 1) := by decide +kernel
theorem dX7_act_1 : decode cX7_act 1 = .ok (.iload_n 1, 1) := by decide +kernel
theorem dX7_act_2 : decode cX7_act 2 = .ok (.invokevirtual 99, 3) := by decide +kernel
theorem dX7_act_5 : decode cX7_act 5 = .ok (.ifCond .eq 23, 3) := by decide +kernel
theorem dX7_act_8 : decode cX7_act 8 = .ok (.iload_n 2, 1) := by decide +kernel
theorem dX7_act_9 : decode cX7_act 9 = .ok (.invokestatic 134, 3) := by decide +kernel
theorem dX7_act_12 : decode cX7_act 12 = .ok (.ifCond .eq 16, 3) := by decide +kernel
theorem dX7_act_15 : decode cX7_act 15 = .ok (.aload_n 0, 1) := by decide +kernel
theorem dX7_act_16 : decode cX7_act 16 = .ok (.iload_n 1, 1) := by decide +kernel
theorem dX7_act_17 : decode cX7_act 17 = .ok (.iload_n 2, 1) := by decide +kernel
theorem dX7_act_18 : decode cX7_act 18 = .ok (.aload_n 0, 1) := by decide +kernel
theorem dX7_act_19 : decode cX7_act 19 = .ok (.getfield 43, 3) := by decide +kernel
theorem dX7_act_22 : decode cX7_act 22 = .ok (.invokevirtual 156, 3) := by decide +kernel
theorem dX7_act_25 : decode cX7_act 25 = .ok (.goto 5, 3) := by decide +kernel
theorem dX7_act_28 : decode cX7_act 28 = .ok (.bipush (-2), 2) := by decide +kernel
theorem dX7_act_30 : decode cX7_act 30 = .ok (.ireturn, 1) := by decide +kernel
theorem dX7_value_0 : decode cX7_value 0 = .ok (.aload_n 0, 1) := by decide +kernel
theorem dX7_value_1 : decode cX7_value 1 = .ok (.iload_n 1, 1) := by decide +kernel
theorem dX7_value_2 : decode cX7_value 2 = .ok (.invokevirtual 99, 3) := by decide +kernel
theorem dX7_value_5 : decode cX7_value 5 = .ok (.ifCond .eq 19, 3) := by decide +kernel
theorem dX7_value_8 : decode cX7_value 8 = .ok (.iload_n 2, 1) := by decide +kernel
theorem dX7_value_9 : decode cX7_value 9 = .ok (.invokestatic 134, 3) := by decide +kernel
theorem dX7_value_12 : decode cX7_value 12 = .ok (.ifCond .eq 12, 3) := by decide +kernel
theorem dX7_value_15 : decode cX7_value 15 = .ok (.iload_n 3, 1) := by decide +kernel
theorem dX7_value_16 : decode cX7_value 16 = .ok (.iconst 0, 1) := by decide +kernel
theorem dX7_value_17 : decode cX7_value 17 = .ok (.iconst 1, 1) := by decide +kernel
theorem dX7_value_18 : decode cX7_value 18 = .ok (.invokestatic 67, 3) := by decide +kernel
theorem dX7_value_21 : decode cX7_value 21 = .ok (.ifCond .ne 9, 3) := by decide +kernel
theorem dX7_value_24 : decode cX7_value 24 = .ok (.bipush (-2), 2) := by decide +kernel
theorem dX7_value_26 : decode cX7_value 26 = .ok (.invokestatic 160, 3) := by decide +kernel
theorem dX7_value_29 : decode cX7_value 29 = .ok (.lreturn, 1) := by decide +kernel
theorem dX7_value_30 : decode cX7_value 30 = .ok (.aload_n 0, 1) := by decide +kernel
theorem dX7_value_31 : decode cX7_value 31 = .ok (.iload_n 1, 1) := by decide +kernel
theorem dX7_value_32 : decode cX7_value 32 = .ok (.iload_n 2, 1) := by decide +kernel
theorem dX7_value_33 : decode cX7_value 33 = .ok (.aload_n 0, 1) := by decide +kernel
theorem dX7_value_34 : decode cX7_value 34 = .ok (.getfield 43, 3) := by decide +kernel
theorem dX7_value_37 : decode cX7_value 37 = .ok (.invokevirtual 156, 3) := by decide +kernel
theorem dX7_value_40 : decode cX7_value 40 = .ok (.iconst 2, 1) := by decide +kernel
theorem dX7_value_41 : decode cX7_value 41 = .ok (.if_icmp .ne 7, 3) := by decide +kernel
theorem dX7_value_44 : decode cX7_value 44 = .ok (.iconst 1, 1) := by decide +kernel
theorem dX7_value_45 : decode cX7_value 45 = .ok (.goto 4, 3) := by decide +kernel
theorem dX7_value_48 : decode cX7_value 48 = .ok (.iconst 0, 1) := by decide +kernel
theorem dX7_value_49 : decode cX7_value 49 = .ok (.istore 4, 2) := by decide +kernel
theorem dX7_value_51 : decode cX7_value 51 = .ok (.iload 4, 2) := by decide +kernel
theorem dX7_value_53 : decode cX7_value 53 = .ok (.ifCond .eq 18, 3) := by decide +kernel
theorem dX7_value_56 : decode cX7_value 56 = .ok (.aload_n 0, 1) := by decide +kernel
theorem dX7_value_57 : decode cX7_value 57 = .ok (.iload_n 1, 1) := by decide +kernel
theorem dX7_value_58 : decode cX7_value 58 = .ok (.iload_n 2, 1) := by decide +kernel
theorem dX7_value_59 : decode cX7_value 59 = .ok (.invokevirtual 140, 3) := by decide +kernel
theorem dX7_value_62 : decode cX7_value 62 = .ok (.aload_n 0, 1) := by decide +kernel
theorem dX7_value_63 : decode cX7_value 63 = .ok (.getfield 43, 3) := by decide +kernel
theorem dX7_value_66 : decode cX7_value 66 = .ok (.isub, 1) := by decide +kernel
theorem dX7_value_67 : decode cX7_value 67 = .ok (.i2l, 1) := by decide +kernel
theorem dX7_value_68 : decode cX7_value 68 = .ok (.goto 4, 3) := by decide +kernel
theorem dX7_value_71 : decode cX7_value 71 = .ok (.lconst 0, 1) := by decide +kernel
theorem dX7_value_72 : decode cX7_value 72 = .ok (.iload_n 3, 1) := by decide +kernel
theorem dX7_value_73 : decode cX7_value 73 = .ok (.invokestatic 164, 3) := by decide +kernel
theorem dX7_value_76 : decode cX7_value 76 = .ok (.lreturn, 1) := by decide +kernel
theorem dX7_buys_0 : decode cX7_buys 0 = .ok (.aload_n 0, 1) := by decide +kernel
theorem dX7_buys_1 : decode cX7_buys 1 = .ok (.iload_n 1, 1) := by decide +kernel
theorem dX7_buys_2 : decode cX7_buys 2 = .ok (.invokevirtual 99, 3) := by decide +kernel
theorem dX7_buys_5 : decode cX7_buys 5 = .ok (.ifCond .eq 12, 3) := by decide +kernel
theorem dX7_buys_8 : decode cX7_buys 8 = .ok (.iload_n 2, 1) := by decide +kernel
theorem dX7_buys_9 : decode cX7_buys 9 = .ok (.iconst 0, 1) := by decide +kernel
theorem dX7_buys_10 : decode cX7_buys 10 = .ok (.iconst 1, 1) := by decide +kernel
theorem dX7_buys_11 : decode cX7_buys 11 = .ok (.invokestatic 67, 3) := by decide +kernel
theorem dX7_buys_14 : decode cX7_buys 14 = .ok (.ifCond .ne 9, 3) := by decide +kernel
theorem dX7_buys_17 : decode cX7_buys 17 = .ok (.bipush (-2), 2) := by decide +kernel
theorem dX7_buys_19 : decode cX7_buys 19 = .ok (.invokestatic 160, 3) := by decide +kernel
theorem dX7_buys_22 : decode cX7_buys 22 = .ok (.lreturn, 1) := by decide +kernel
theorem dX7_buys_23 : decode cX7_buys 23 = .ok (.aload_n 0, 1) := by decide +kernel
theorem dX7_buys_24 : decode cX7_buys 24 = .ok (.iload_n 1, 1) := by decide +kernel
theorem dX7_buys_25 : decode cX7_buys 25 = .ok (.aload_n 0, 1) := by decide +kernel
theorem dX7_buys_26 : decode cX7_buys 26 = .ok (.invokevirtual 144, 3) := by decide +kernel
theorem dX7_buys_29 : decode cX7_buys 29 = .ok (.aload_n 0, 1) := by decide +kernel
theorem dX7_buys_30 : decode cX7_buys 30 = .ok (.getfield 43, 3) := by decide +kernel
theorem dX7_buys_33 : decode cX7_buys 33 = .ok (.invokevirtual 156, 3) := by decide +kernel
theorem dX7_buys_36 : decode cX7_buys 36 = .ok (.iconst 2, 1) := by decide +kernel
theorem dX7_buys_37 : decode cX7_buys 37 = .ok (.if_icmp .ne 7, 3) := by decide +kernel
theorem dX7_buys_40 : decode cX7_buys 40 = .ok (.lconst 1, 1) := by decide +kernel
theorem dX7_buys_41 : decode cX7_buys 41 = .ok (.goto 4, 3) := by decide +kernel
theorem dX7_buys_44 : decode cX7_buys 44 = .ok (.lconst 0, 1) := by decide +kernel
theorem dX7_buys_45 : decode cX7_buys 45 = .ok (.iload_n 2, 1) := by decide +kernel
theorem dX7_buys_46 : decode cX7_buys 46 = .ok (.invokestatic 164, 3) := by decide +kernel
theorem dX7_buys_49 : decode cX7_buys 49 = .ok (.lreturn, 1) := by decide +kernel
theorem dX7_take_0 : decode cX7_take 0 = .ok (.aload_n 0, 1) := by decide +kernel
theorem dX7_take_1 : decode cX7_take 1 = .ok (.iload_n 1, 1) := by decide +kernel
theorem dX7_take_2 : decode cX7_take 2 = .ok (.invokevirtual 99, 3) := by decide +kernel
theorem dX7_take_5 : decode cX7_take 5 = .ok (.ifCond .eq 22, 3) := by decide +kernel
theorem dX7_take_8 : decode cX7_take 8 = .ok (.iload_n 2, 1) := by decide +kernel
theorem dX7_take_9 : decode cX7_take 9 = .ok (.iconst 0, 1) := by decide +kernel
theorem dX7_take_10 : decode cX7_take 10 = .ok (.bipush 99, 2) := by decide +kernel
theorem dX7_take_12 : decode cX7_take 12 = .ok (.invokestatic 67, 3) := by decide +kernel
theorem dX7_take_15 : decode cX7_take 15 = .ok (.ifCond .eq 12, 3) := by decide +kernel
theorem dX7_take_18 : decode cX7_take 18 = .ok (.iload_n 3, 1) := by decide +kernel
theorem dX7_take_19 : decode cX7_take 19 = .ok (.iconst 0, 1) := by decide +kernel
theorem dX7_take_20 : decode cX7_take 20 = .ok (.iconst 1, 1) := by decide +kernel
theorem dX7_take_21 : decode cX7_take 21 = .ok (.invokestatic 67, 3) := by decide +kernel
theorem dX7_take_24 : decode cX7_take 24 = .ok (.ifCond .ne 9, 3) := by decide +kernel
theorem dX7_take_27 : decode cX7_take 27 = .ok (.bipush (-2), 2) := by decide +kernel
theorem dX7_take_29 : decode cX7_take 29 = .ok (.invokestatic 160, 3) := by decide +kernel
theorem dX7_take_32 : decode cX7_take 32 = .ok (.lreturn, 1) := by decide +kernel
theorem dX7_take_33 : decode cX7_take 33 = .ok (.aload_n 0, 1) := by decide +kernel
theorem dX7_take_34 : decode cX7_take 34 = .ok (.iload_n 1, 1) := by decide +kernel
theorem dX7_take_35 : decode cX7_take 35 = .ok (.aload_n 0, 1) := by decide +kernel
theorem dX7_take_36 : decode cX7_take 36 = .ok (.invokevirtual 144, 3) := by decide +kernel
theorem dX7_take_39 : decode cX7_take 39 = .ok (.iload_n 2, 1) := by decide +kernel
theorem dX7_take_40 : decode cX7_take 40 = .ok (.invokevirtual 156, 3) := by decide +kernel
theorem dX7_take_43 : decode cX7_take 43 = .ok (.iconst 2, 1) := by decide +kernel
theorem dX7_take_44 : decode cX7_take 44 = .ok (.if_icmp .ne 8, 3) := by decide +kernel
theorem dX7_take_47 : decode cX7_take 47 = .ok (.iload_n 2, 1) := by decide +kernel
theorem dX7_take_48 : decode cX7_take 48 = .ok (.i2l, 1) := by decide +kernel
theorem dX7_take_49 : decode cX7_take 49 = .ok (.goto 4, 3) := by decide +kernel
theorem dX7_take_52 : decode cX7_take 52 = .ok (.lconst 0, 1) := by decide +kernel
theorem dX7_take_53 : decode cX7_take 53 = .ok (.iload_n 3, 1) := by decide +kernel
theorem dX7_take_54 : decode cX7_take 54 = .ok (.invokestatic 164, 3) := by decide +kernel
theorem dX7_take_57 : decode cX7_take 57 = .ok (.lreturn, 1) := by decide +kernel
theorem dX7_price_0 : decode cX7_price 0 = .ok (.aload_n 0, 1) := by decide +kernel
theorem dX7_price_1 : decode cX7_price 1 = .ok (.iload_n 1, 1) := by decide +kernel
theorem dX7_price_2 : decode cX7_price 2 = .ok (.invokevirtual 99, 3) := by decide +kernel
theorem dX7_price_5 : decode cX7_price 5 = .ok (.ifCond .eq 15, 3) := by decide +kernel
theorem dX7_price_8 : decode cX7_price 8 = .ok (.aload_n 0, 1) := by decide +kernel
theorem dX7_price_9 : decode cX7_price 9 = .ok (.iload_n 1, 1) := by decide +kernel
theorem dX7_price_10 : decode cX7_price 10 = .ok (.aload_n 0, 1) := by decide +kernel
theorem dX7_price_11 : decode cX7_price 11 = .ok (.invokevirtual 144, 3) := by decide +kernel
theorem dX7_price_14 : decode cX7_price 14 = .ok (.invokevirtual 168, 3) := by decide +kernel
theorem dX7_price_17 : decode cX7_price 17 = .ok (.goto 5, 3) := by decide +kernel
theorem dX7_price_20 : decode cX7_price 20 = .ok (.bipush (-2), 2) := by decide +kernel
theorem dX7_price_22 : decode cX7_price 22 = .ok (.ireturn, 1) := by decide +kernel
theorem dX7_burns_0 : decode cX7_burns 0 = .ok (.aload_n 0, 1) := by decide +kernel
theorem dX7_burns_1 : decode cX7_burns 1 = .ok (.iload_n 1, 1) := by decide +kernel
theorem dX7_burns_2 : decode cX7_burns 2 = .ok (.invokevirtual 99, 3) := by decide +kernel
theorem dX7_burns_5 : decode cX7_burns 5 = .ok (.ifCond .eq 7, 3) := by decide +kernel
theorem dX7_burns_8 : decode cX7_burns 8 = .ok (.iconst 1, 1) := by decide +kernel
theorem dX7_burns_9 : decode cX7_burns 9 = .ok (.goto 5, 3) := by decide +kernel
theorem dX7_burns_12 : decode cX7_burns 12 = .ok (.bipush (-2), 2) := by decide +kernel
theorem dX7_burns_14 : decode cX7_burns 14 = .ok (.ireturn, 1) := by decide +kernel
theorem dX7_share_0 : decode cX7_share 0 = .ok (.aload_n 0, 1) := by decide +kernel
theorem dX7_share_1 : decode cX7_share 1 = .ok (.iload_n 1, 1) := by decide +kernel
theorem dX7_share_2 : decode cX7_share 2 = .ok (.invokevirtual 99, 3) := by decide +kernel
theorem dX7_share_5 : decode cX7_share 5 = .ok (.ifCond .eq 33, 3) := by decide +kernel
theorem dX7_share_8 : decode cX7_share 8 = .ok (.aload_n 0, 1) := by decide +kernel
theorem dX7_share_9 : decode cX7_share 9 = .ok (.iload_n 2, 1) := by decide +kernel
theorem dX7_share_10 : decode cX7_share 10 = .ok (.invokevirtual 99, 3) := by decide +kernel
theorem dX7_share_13 : decode cX7_share 13 = .ok (.ifCond .eq 25, 3) := by decide +kernel
theorem dX7_share_16 : decode cX7_share 16 = .ok (.iload_n 1, 1) := by decide +kernel
theorem dX7_share_17 : decode cX7_share 17 = .ok (.iload_n 2, 1) := by decide +kernel
theorem dX7_share_18 : decode cX7_share 18 = .ok (.if_icmp .eq 20, 3) := by decide +kernel
theorem dX7_share_21 : decode cX7_share 21 = .ok (.iload_n 3, 1) := by decide +kernel
theorem dX7_share_22 : decode cX7_share 22 = .ok (.invokestatic 134, 3) := by decide +kernel
theorem dX7_share_25 : decode cX7_share 25 = .ok (.ifCond .eq 13, 3) := by decide +kernel
theorem dX7_share_28 : decode cX7_share 28 = .ok (.iload 4, 2) := by decide +kernel
theorem dX7_share_30 : decode cX7_share 30 = .ok (.iconst 0, 1) := by decide +kernel
theorem dX7_share_31 : decode cX7_share 31 = .ok (.iconst 1, 1) := by decide +kernel
theorem dX7_share_32 : decode cX7_share 32 = .ok (.invokestatic 67, 3) := by decide +kernel
theorem dX7_share_35 : decode cX7_share 35 = .ok (.ifCond .ne 6, 3) := by decide +kernel
theorem dX7_share_38 : decode cX7_share 38 = .ok (.bipush (-2), 2) := by decide +kernel
theorem dX7_share_40 : decode cX7_share 40 = .ok (.ireturn, 1) := by decide +kernel
theorem dX7_share_41 : decode cX7_share 41 = .ok (.iconst 0, 1) := by decide +kernel
theorem dX7_share_42 : decode cX7_share 42 = .ok (.aload_n 0, 1) := by decide +kernel
theorem dX7_share_43 : decode cX7_share 43 = .ok (.getfield 43, 3) := by decide +kernel
theorem dX7_share_46 : decode cX7_share 46 = .ok (.aload_n 0, 1) := by decide +kernel
theorem dX7_share_47 : decode cX7_share 47 = .ok (.iload_n 2, 1) := by decide +kernel
theorem dX7_share_48 : decode cX7_share 48 = .ok (.iload_n 3, 1) := by decide +kernel
theorem dX7_share_49 : decode cX7_share 49 = .ok (.invokevirtual 168, 3) := by decide +kernel
theorem dX7_share_52 : decode cX7_share 52 = .ok (.isub, 1) := by decide +kernel
theorem dX7_share_53 : decode cX7_share 53 = .ok (.invokestatic 171, 3) := by decide +kernel
theorem dX7_share_56 : decode cX7_share 56 = .ok (.istore 5, 2) := by decide +kernel
theorem dX7_share_58 : decode cX7_share 58 = .ok (.aload_n 0, 1) := by decide +kernel
theorem dX7_share_59 : decode cX7_share 59 = .ok (.getfield 43, 3) := by decide +kernel
theorem dX7_share_62 : decode cX7_share 62 = .ok (.aload_n 0, 1) := by decide +kernel
theorem dX7_share_63 : decode cX7_share 63 = .ok (.iload_n 1, 1) := by decide +kernel
theorem dX7_share_64 : decode cX7_share 64 = .ok (.iload_n 3, 1) := by decide +kernel
theorem dX7_share_65 : decode cX7_share 65 = .ok (.invokevirtual 168, 3) := by decide +kernel
theorem dX7_share_68 : decode cX7_share 68 = .ok (.invokestatic 176, 3) := by decide +kernel
theorem dX7_share_71 : decode cX7_share 71 = .ok (.istore 6, 2) := by decide +kernel
theorem dX7_share_73 : decode cX7_share 73 = .ok (.iload 5, 2) := by decide +kernel
theorem dX7_share_75 : decode cX7_share 75 = .ok (.iload 6, 2) := by decide +kernel
theorem dX7_share_77 : decode cX7_share 77 = .ok (.if_icmp .le 5, 3) := by decide +kernel
theorem dX7_share_80 : decode cX7_share 80 = .ok (.iconst (-1), 1) := by decide +kernel
theorem dX7_share_81 : decode cX7_share 81 = .ok (.ireturn, 1) := by decide +kernel
theorem dX7_share_82 : decode cX7_share 82 = .ok (.iload 4, 2) := by decide +kernel
theorem dX7_share_84 : decode cX7_share 84 = .ok (.ifCond .ne 8, 3) := by decide +kernel
theorem dX7_share_87 : decode cX7_share 87 = .ok (.iload 5, 2) := by decide +kernel
theorem dX7_share_89 : decode cX7_share 89 = .ok (.goto 5, 3) := by decide +kernel
theorem dX7_share_92 : decode cX7_share 92 = .ok (.iload 6, 2) := by decide +kernel
theorem dX7_share_94 : decode cX7_share 94 = .ok (.ireturn, 1) := by decide +kernel
theorem dX7_page_0 : decode cX7_page 0 = .ok (.iload_n 1, 1) := by decide +kernel
theorem dX7_page_1 : decode cX7_page 1 = .ok (.iconst 0, 1) := by decide +kernel
theorem dX7_page_2 : decode cX7_page 2 = .ok (.iconst 1, 1) := by decide +kernel
theorem dX7_page_3 : decode cX7_page 3 = .ok (.invokestatic 67, 3) := by decide +kernel
theorem dX7_page_6 : decode cX7_page 6 = .ok (.ifCond .ne 6, 3) := by decide +kernel
theorem dX7_page_9 : decode cX7_page 9 = .ok (.bipush (-2), 2) := by decide +kernel
theorem dX7_page_11 : decode cX7_page 11 = .ok (.ireturn, 1) := by decide +kernel
theorem dX7_page_12 : decode cX7_page 12 = .ok (.aload_n 0, 1) := by decide +kernel
theorem dX7_page_13 : decode cX7_page 13 = .ok (.getfield 53, 3) := by decide +kernel
theorem dX7_page_16 : decode cX7_page 16 = .ok (.aload_n 0, 1) := by decide +kernel
theorem dX7_page_17 : decode cX7_page 17 = .ok (.getfield 56, 3) := by decide +kernel
theorem dX7_page_20 : decode cX7_page 20 = .ok (.iadd, 1) := by decide +kernel
theorem dX7_page_21 : decode cX7_page 21 = .ok (.bipush 9, 2) := by decide +kernel
theorem dX7_page_23 : decode cX7_page 23 = .ok (.if_icmp .lt 6, 3) := by decide +kernel
theorem dX7_page_26 : decode cX7_page 26 = .ok (.bipush (-4), 2) := by decide +kernel
theorem dX7_page_28 : decode cX7_page 28 = .ok (.ireturn, 1) := by decide +kernel
theorem dX7_page_29 : decode cX7_page 29 = .ok (.iload_n 1, 1) := by decide +kernel
theorem dX7_page_30 : decode cX7_page 30 = .ok (.iconst 1, 1) := by decide +kernel
theorem dX7_page_31 : decode cX7_page 31 = .ok (.if_icmp .ne 16, 3) := by decide +kernel
theorem dX7_page_34 : decode cX7_page 34 = .ok (.aload_n 0, 1) := by decide +kernel
theorem dX7_page_35 : decode cX7_page 35 = .ok (.dup, 1) := by decide +kernel
theorem dX7_page_36 : decode cX7_page 36 = .ok (.getfield 53, 3) := by decide +kernel
theorem dX7_page_39 : decode cX7_page 39 = .ok (.iconst 1, 1) := by decide +kernel
theorem dX7_page_40 : decode cX7_page 40 = .ok (.iadd, 1) := by decide +kernel
theorem dX7_page_41 : decode cX7_page 41 = .ok (.putfield 53, 3) := by decide +kernel
theorem dX7_page_44 : decode cX7_page 44 = .ok (.goto 13, 3) := by decide +kernel
theorem dX7_page_47 : decode cX7_page 47 = .ok (.aload_n 0, 1) := by decide +kernel
theorem dX7_page_48 : decode cX7_page 48 = .ok (.dup, 1) := by decide +kernel
theorem dX7_page_49 : decode cX7_page 49 = .ok (.getfield 56, 3) := by decide +kernel
theorem dX7_page_52 : decode cX7_page 52 = .ok (.iconst 1, 1) := by decide +kernel
theorem dX7_page_53 : decode cX7_page 53 = .ok (.iadd, 1) := by decide +kernel
theorem dX7_page_54 : decode cX7_page 54 = .ok (.putfield 56, 3) := by decide +kernel
theorem dX7_page_57 : decode cX7_page 57 = .ok (.aload_n 0, 1) := by decide +kernel
theorem dX7_page_58 : decode cX7_page 58 = .ok (.getfield 53, 3) := by decide +kernel
theorem dX7_page_61 : decode cX7_page 61 = .ok (.aload_n 0, 1) := by decide +kernel
theorem dX7_page_62 : decode cX7_page 62 = .ok (.getfield 56, 3) := by decide +kernel
theorem dX7_page_65 : decode cX7_page 65 = .ok (.iadd, 1) := by decide +kernel
theorem dX7_page_66 : decode cX7_page 66 = .ok (.ireturn, 1) := by decide +kernel
theorem dX7_trust_0 : decode cX7_trust 0 = .ok (.iload_n 1, 1) := by decide +kernel
theorem dX7_trust_1 : decode cX7_trust 1 = .ok (.iconst 0, 1) := by decide +kernel
theorem dX7_trust_2 : decode cX7_trust 2 = .ok (.iconst 1, 1) := by decide +kernel
theorem dX7_trust_3 : decode cX7_trust 3 = .ok (.invokestatic 67, 3) := by decide +kernel
theorem dX7_trust_6 : decode cX7_trust 6 = .ok (.ifCond .ne 9, 3) := by decide +kernel
theorem dX7_trust_9 : decode cX7_trust 9 = .ok (.bipush (-2), 2) := by decide +kernel
theorem dX7_trust_11 : decode cX7_trust 11 = .ok (.invokestatic 160, 3) := by decide +kernel
theorem dX7_trust_14 : decode cX7_trust 14 = .ok (.lreturn, 1) := by decide +kernel
theorem dX7_trust_15 : decode cX7_trust 15 = .ok (.aload_n 0, 1) := by decide +kernel
theorem dX7_trust_16 : decode cX7_trust 16 = .ok (.invokevirtual 144, 3) := by decide +kernel
theorem dX7_trust_19 : decode cX7_trust 19 = .ok (.istore_n 2, 1) := by decide +kernel
theorem dX7_trust_20 : decode cX7_trust 20 = .ok (.iload_n 2, 1) := by decide +kernel
theorem dX7_trust_21 : decode cX7_trust 21 = .ok (.invokestatic 147, 3) := by decide +kernel
theorem dX7_trust_24 : decode cX7_trust 24 = .ok (.istore_n 3, 1) := by decide +kernel
theorem dX7_trust_25 : decode cX7_trust 25 = .ok (.aload_n 0, 1) := by decide +kernel
theorem dX7_trust_26 : decode cX7_trust 26 = .ok (.getfield 10, 3) := by decide +kernel
theorem dX7_trust_29 : decode cX7_trust 29 = .ok (.iload_n 2, 1) := by decide +kernel
theorem dX7_trust_30 : decode cX7_trust 30 = .ok (.invokevirtual 179, 3) := by decide +kernel
theorem dX7_trust_33 : decode cX7_trust 33 = .ok (.istore 4, 2) := by decide +kernel
theorem dX7_trust_35 : decode cX7_trust 35 = .ok (.iload 4, 2) := by decide +kernel
theorem dX7_trust_37 : decode cX7_trust 37 = .ok (.aload_n 0, 1) := by decide +kernel
theorem dX7_trust_38 : decode cX7_trust 38 = .ok (.getfield 53, 3) := by decide +kernel
theorem dX7_trust_41 : decode cX7_trust 41 = .ok (.invokestatic 182, 3) := by decide +kernel
theorem dX7_trust_44 : decode cX7_trust 44 = .ok (.iload_n 3, 1) := by decide +kernel
theorem dX7_trust_45 : decode cX7_trust 45 = .ok (.iload 4, 2) := by decide +kernel
theorem dX7_trust_47 : decode cX7_trust 47 = .ok (.isub, 1) := by decide +kernel
theorem dX7_trust_48 : decode cX7_trust 48 = .ok (.aload_n 0, 1) := by decide +kernel
theorem dX7_trust_49 : decode cX7_trust 49 = .ok (.getfield 56, 3) := by decide +kernel
theorem dX7_trust_52 : decode cX7_trust 52 = .ok (.invokestatic 182, 3) := by decide +kernel
theorem dX7_trust_55 : decode cX7_trust 55 = .ok (.lmul, 1) := by decide +kernel
theorem dX7_trust_56 : decode cX7_trust 56 = .ok (.lstore 5, 2) := by decide +kernel
theorem dX7_trust_58 : decode cX7_trust 58 = .ok (.bipush 16, 2) := by decide +kernel
theorem dX7_trust_60 : decode cX7_trust 60 = .ok (.aload_n 0, 1) := by decide +kernel
theorem dX7_trust_61 : decode cX7_trust 61 = .ok (.getfield 50, 3) := by decide +kernel
theorem dX7_trust_64 : decode cX7_trust 64 = .ok (.isub, 1) := by decide +kernel
theorem dX7_trust_65 : decode cX7_trust 65 = .ok (.i2l, 1) := by decide +kernel
theorem dX7_trust_66 : decode cX7_trust 66 = .ok (.lload 5, 2) := by decide +kernel
theorem dX7_trust_68 : decode cX7_trust 68 = .ok (.lmul, 1) := by decide +kernel
theorem dX7_trust_69 : decode cX7_trust 69 = .ok (.lstore 7, 2) := by decide +kernel
theorem dX7_trust_71 : decode cX7_trust 71 = .ok (.aload_n 0, 1) := by decide +kernel
theorem dX7_trust_72 : decode cX7_trust 72 = .ok (.getfield 56, 3) := by decide +kernel
theorem dX7_trust_75 : decode cX7_trust 75 = .ok (.ifCond .le 7, 3) := by decide +kernel
theorem dX7_trust_78 : decode cX7_trust 78 = .ok (.lconst 0, 1) := by decide +kernel
theorem dX7_trust_79 : decode cX7_trust 79 = .ok (.goto 17, 3) := by decide +kernel
theorem dX7_trust_82 : decode cX7_trust 82 = .ok (.aload_n 0, 1) := by decide +kernel
theorem dX7_trust_83 : decode cX7_trust 83 = .ok (.getfield 50, 3) := by decide +kernel
theorem dX7_trust_86 : decode cX7_trust 86 = .ok (.i2l, 1) := by decide +kernel
theorem dX7_trust_87 : decode cX7_trust 87 = .ok (.iload_n 3, 1) := by decide +kernel
theorem dX7_trust_88 : decode cX7_trust 88 = .ok (.aload_n 0, 1) := by decide +kernel
theorem dX7_trust_89 : decode cX7_trust 89 = .ok (.getfield 53, 3) := by decide +kernel
theorem dX7_trust_92 : decode cX7_trust 92 = .ok (.invokestatic 182, 3) := by decide +kernel
theorem dX7_trust_95 : decode cX7_trust 95 = .ok (.lmul, 1) := by decide +kernel
theorem dX7_trust_96 : decode cX7_trust 96 = .ok (.lstore 9, 2) := by decide +kernel
theorem dX7_trust_98 : decode cX7_trust 98 = .ok (.iload_n 3, 1) := by decide +kernel
theorem dX7_trust_99 : decode cX7_trust 99 = .ok (.ifCond .eq 13, 3) := by decide +kernel
theorem dX7_trust_102 : decode cX7_trust 102 = .ok (.lload 7, 2) := by decide +kernel
theorem dX7_trust_104 : decode cX7_trust 104 = .ok (.lload 9, 2) := by decide +kernel
theorem dX7_trust_106 : decode cX7_trust 106 = .ok (.ladd, 1) := by decide +kernel
theorem dX7_trust_107 : decode cX7_trust 107 = .ok (.lconst 0, 1) := by decide +kernel
theorem dX7_trust_108 : decode cX7_trust 108 = .ok (.lcmp, 1) := by decide +kernel
theorem dX7_trust_109 : decode cX7_trust 109 = .ok (.ifCond .ne 9, 3) := by decide +kernel
theorem dX7_trust_112 : decode cX7_trust 112 = .ok (.bipush (-3), 2) := by decide +kernel
theorem dX7_trust_114 : decode cX7_trust 114 = .ok (.invokestatic 160, 3) := by decide +kernel
theorem dX7_trust_117 : decode cX7_trust 117 = .ok (.lreturn, 1) := by decide +kernel
theorem dX7_trust_118 : decode cX7_trust 118 = .ok (.lload 7, 2) := by decide +kernel
theorem dX7_trust_120 : decode cX7_trust 120 = .ok (.lload 7, 2) := by decide +kernel
theorem dX7_trust_122 : decode cX7_trust 122 = .ok (.lload 9, 2) := by decide +kernel
theorem dX7_trust_124 : decode cX7_trust 124 = .ok (.ladd, 1) := by decide +kernel
theorem dX7_trust_125 : decode cX7_trust 125 = .ok (.iload_n 1, 1) := by decide +kernel
theorem dX7_trust_126 : decode cX7_trust 126 = .ok (.invokestatic 186, 3) := by decide +kernel
theorem dX7_trust_129 : decode cX7_trust 129 = .ok (.lreturn, 1) := by decide +kernel
theorem dX7_said_0 : decode cX7_said 0 = .ok (.iload_n 1, 1) := by decide +kernel
theorem dX7_said_1 : decode cX7_said 1 = .ok (.tableswitch 62 0 2 #[27, 39, 50], 27) := by decide +kernel
theorem dX7_said_28 : decode cX7_said 28 = .ok (.iload_n 2, 1) := by decide +kernel
theorem dX7_said_29 : decode cX7_said 29 = .ok (.iconst 0, 1) := by decide +kernel
theorem dX7_said_30 : decode cX7_said 30 = .ok (.bipush 9, 2) := by decide +kernel
theorem dX7_said_32 : decode cX7_said 32 = .ok (.invokestatic 67, 3) := by decide +kernel
theorem dX7_said_35 : decode cX7_said 35 = .ok (.istore 4, 2) := by decide +kernel
theorem dX7_said_37 : decode cX7_said 37 = .ok (.goto 29, 3) := by decide +kernel
theorem dX7_said_40 : decode cX7_said 40 = .ok (.iload_n 2, 1) := by decide +kernel
theorem dX7_said_41 : decode cX7_said 41 = .ok (.iconst 0, 1) := by decide +kernel
theorem dX7_said_42 : decode cX7_said 42 = .ok (.iconst 2, 1) := by decide +kernel
theorem dX7_said_43 : decode cX7_said 43 = .ok (.invokestatic 67, 3) := by decide +kernel
theorem dX7_said_46 : decode cX7_said 46 = .ok (.istore 4, 2) := by decide +kernel
theorem dX7_said_48 : decode cX7_said 48 = .ok (.goto 18, 3) := by decide +kernel
theorem dX7_said_51 : decode cX7_said 51 = .ok (.iload_n 2, 1) := by decide +kernel
theorem dX7_said_52 : decode cX7_said 52 = .ok (.iconst (-1), 1) := by decide +kernel
theorem dX7_said_53 : decode cX7_said 53 = .ok (.bipush 8, 2) := by decide +kernel
theorem dX7_said_55 : decode cX7_said 55 = .ok (.invokestatic 67, 3) := by decide +kernel
theorem dX7_said_58 : decode cX7_said 58 = .ok (.istore 4, 2) := by decide +kernel
theorem dX7_said_60 : decode cX7_said 60 = .ok (.goto 6, 3) := by decide +kernel
theorem dX7_said_63 : decode cX7_said 63 = .ok (.iconst 0, 1) := by decide +kernel
theorem dX7_said_64 : decode cX7_said 64 = .ok (.istore 4, 2) := by decide +kernel
theorem dX7_said_66 : decode cX7_said 66 = .ok (.iload 4, 2) := by decide +kernel
theorem dX7_said_68 : decode cX7_said 68 = .ok (.ifCond .eq 25, 3) := by decide +kernel
theorem dX7_said_71 : decode cX7_said 71 = .ok (.iload_n 3, 1) := by decide +kernel
theorem dX7_said_72 : decode cX7_said 72 = .ok (.iconst 0, 1) := by decide +kernel
theorem dX7_said_73 : decode cX7_said 73 = .ok (.iconst 1, 1) := by decide +kernel
theorem dX7_said_74 : decode cX7_said 74 = .ok (.invokestatic 67, 3) := by decide +kernel
theorem dX7_said_77 : decode cX7_said 77 = .ok (.ifCond .eq 16, 3) := by decide +kernel
theorem dX7_said_80 : decode cX7_said 80 = .ok (.aload_n 0, 1) := by decide +kernel
theorem dX7_said_81 : decode cX7_said 81 = .ok (.getfield 33, 3) := by decide +kernel
theorem dX7_said_84 : decode cX7_said 84 = .ok (.iload_n 1, 1) := by decide +kernel
theorem dX7_said_85 : decode cX7_said 85 = .ok (.iload_n 2, 1) := by decide +kernel
theorem dX7_said_86 : decode cX7_said 86 = .ok (.iload_n 3, 1) := by decide +kernel
theorem dX7_said_87 : decode cX7_said 87 = .ok (.invokevirtual 190, 3) := by decide +kernel
theorem dX7_said_90 : decode cX7_said 90 = .ok (.goto 5, 3) := by decide +kernel
theorem dX7_said_93 : decode cX7_said 93 = .ok (.bipush (-2), 2) := by decide +kernel
theorem dX7_said_95 : decode cX7_said 95 = .ok (.ireturn, 1) := by decide +kernel
theorem dX7_forget_0 : decode cX7_forget 0 = .ok (.iload_n 1, 1) := by decide +kernel
theorem dX7_forget_1 : decode cX7_forget 1 = .ok (.iconst 0, 1) := by decide +kernel
theorem dX7_forget_2 : decode cX7_forget 2 = .ok (.iconst 1, 1) := by decide +kernel
theorem dX7_forget_3 : decode cX7_forget 3 = .ok (.invokestatic 67, 3) := by decide +kernel
theorem dX7_forget_6 : decode cX7_forget 6 = .ok (.ifCond .ne 6, 3) := by decide +kernel
theorem dX7_forget_9 : decode cX7_forget 9 = .ok (.bipush (-2), 2) := by decide +kernel
theorem dX7_forget_11 : decode cX7_forget 11 = .ok (.ireturn, 1) := by decide +kernel
theorem dX7_forget_12 : decode cX7_forget 12 = .ok (.iload_n 1, 1) := by decide +kernel
theorem dX7_forget_13 : decode cX7_forget 13 = .ok (.iconst 1, 1) := by decide +kernel
theorem dX7_forget_14 : decode cX7_forget 14 = .ok (.if_icmp .ne 11, 3) := by decide +kernel
theorem dX7_forget_17 : decode cX7_forget 17 = .ok (.aload_n 0, 1) := by decide +kernel
theorem dX7_forget_18 : decode cX7_forget 18 = .ok (.getfield 33, 3) := by decide +kernel
theorem dX7_forget_21 : decode cX7_forget 21 = .ok (.invokevirtual 192, 3) := by decide +kernel
theorem dX7_forget_24 : decode cX7_forget 24 = .ok (.ireturn, 1) := by decide +kernel
theorem dX7_forget_25 : decode cX7_forget 25 = .ok (.aload_n 0, 1) := by decide +kernel
theorem dX7_forget_26 : decode cX7_forget 26 = .ok (.getfield 53, 3) := by decide +kernel
theorem dX7_forget_29 : decode cX7_forget 29 = .ok (.aload_n 0, 1) := by decide +kernel
theorem dX7_forget_30 : decode cX7_forget 30 = .ok (.getfield 56, 3) := by decide +kernel
theorem dX7_forget_33 : decode cX7_forget 33 = .ok (.iadd, 1) := by decide +kernel
theorem dX7_forget_34 : decode cX7_forget 34 = .ok (.istore_n 2, 1) := by decide +kernel
theorem dX7_forget_35 : decode cX7_forget 35 = .ok (.aload_n 0, 1) := by decide +kernel
theorem dX7_forget_36 : decode cX7_forget 36 = .ok (.iconst 0, 1) := by decide +kernel
theorem dX7_forget_37 : decode cX7_forget 37 = .ok (.putfield 53, 3) := by decide +kernel
theorem dX7_forget_40 : decode cX7_forget 40 = .ok (.aload_n 0, 1) := by decide +kernel
theorem dX7_forget_41 : decode cX7_forget 41 = .ok (.iconst 0, 1) := by decide +kernel
theorem dX7_forget_42 : decode cX7_forget 42 = .ok (.putfield 56, 3) := by decide +kernel
theorem dX7_forget_45 : decode cX7_forget 45 = .ok (.iload_n 2, 1) := by decide +kernel
theorem dX7_forget_46 : decode cX7_forget 46 = .ok (.ireturn, 1) := by decide +kernel
theorem dX7_fourth_0 : decode cX7_fourth 0 = .ok (.iconst 0, 1) := by decide +kernel
theorem dX7_fourth_1 : decode cX7_fourth 1 = .ok (.istore_n 1, 1) := by decide +kernel
theorem dX7_fourth_2 : decode cX7_fourth 2 = .ok (.iconst 0, 1) := by decide +kernel
theorem dX7_fourth_3 : decode cX7_fourth 3 = .ok (.istore_n 2, 1) := by decide +kernel
theorem dX7_fourth_4 : decode cX7_fourth 4 = .ok (.iload_n 2, 1) := by decide +kernel
theorem dX7_fourth_5 : decode cX7_fourth 5 = .ok (.aload_n 0, 1) := by decide +kernel
theorem dX7_fourth_6 : decode cX7_fourth 6 = .ok (.getfield 10, 3) := by decide +kernel
theorem dX7_fourth_9 : decode cX7_fourth 9 = .ok (.invokevirtual 87, 3) := by decide +kernel
theorem dX7_fourth_12 : decode cX7_fourth 12 = .ok (.if_icmp .ge 44, 3) := by decide +kernel
theorem dX7_fourth_15 : decode cX7_fourth 15 = .ok (.aload_n 0, 1) := by decide +kernel
theorem dX7_fourth_16 : decode cX7_fourth 16 = .ok (.getfield 26, 3) := by decide +kernel
theorem dX7_fourth_19 : decode cX7_fourth 19 = .ok (.invokevirtual 131, 3) := by decide +kernel
theorem dX7_fourth_22 : decode cX7_fourth 22 = .ok (.iload_n 2, 1) := by decide +kernel
theorem dX7_fourth_23 : decode cX7_fourth 23 = .ok (.invokestatic 152, 3) := by decide +kernel
theorem dX7_fourth_26 : decode cX7_fourth 26 = .ok (.ifCond .eq 24, 3) := by decide +kernel
theorem dX7_fourth_29 : decode cX7_fourth 29 = .ok (.aload_n 0, 1) := by decide +kernel
theorem dX7_fourth_30 : decode cX7_fourth 30 = .ok (.getfield 33, 3) := by decide +kernel
theorem dX7_fourth_33 : decode cX7_fourth 33 = .ok (.aload_n 0, 1) := by decide +kernel
theorem dX7_fourth_34 : decode cX7_fourth 34 = .ok (.getfield 10, 3) := by decide +kernel
theorem dX7_fourth_37 : decode cX7_fourth 37 = .ok (.iload_n 2, 1) := by decide +kernel
theorem dX7_fourth_38 : decode cX7_fourth 38 = .ok (.invokevirtual 193, 3) := by decide +kernel
theorem dX7_fourth_41 : decode cX7_fourth 41 = .ok (.ifCond .eq 9, 3) := by decide +kernel
theorem dX7_fourth_44 : decode cX7_fourth 44 = .ok (.iload_n 1, 1) := by decide +kernel
theorem dX7_fourth_45 : decode cX7_fourth 45 = .ok (.iconst 1, 1) := by decide +kernel
theorem dX7_fourth_46 : decode cX7_fourth 46 = .ok (.iload_n 2, 1) := by decide +kernel
theorem dX7_fourth_47 : decode cX7_fourth 47 = .ok (.ishl, 1) := by decide +kernel
theorem dX7_fourth_48 : decode cX7_fourth 48 = .ok (.ior, 1) := by decide +kernel
theorem dX7_fourth_49 : decode cX7_fourth 49 = .ok (.istore_n 1, 1) := by decide +kernel
theorem dX7_fourth_50 : decode cX7_fourth 50 = .ok (.iinc 2 1, 3) := by decide +kernel
theorem dX7_fourth_53 : decode cX7_fourth 53 = .ok (.goto (-49), 3) := by decide +kernel
theorem dX7_fourth_56 : decode cX7_fourth 56 = .ok (.iload_n 1, 1) := by decide +kernel
theorem dX7_fourth_57 : decode cX7_fourth 57 = .ok (.ireturn, 1) := by decide +kernel
theorem dX7_coming_0 : decode cX7_coming 0 = .ok (.iload_n 2, 1) := by decide +kernel
theorem dX7_coming_1 : decode cX7_coming 1 = .ok (.iconst 0, 1) := by decide +kernel
theorem dX7_coming_2 : decode cX7_coming 2 = .ok (.iconst 1, 1) := by decide +kernel
theorem dX7_coming_3 : decode cX7_coming 3 = .ok (.invokestatic 67, 3) := by decide +kernel
theorem dX7_coming_6 : decode cX7_coming 6 = .ok (.ifCond .ne 6, 3) := by decide +kernel
theorem dX7_coming_9 : decode cX7_coming 9 = .ok (.bipush (-2), 2) := by decide +kernel
theorem dX7_coming_11 : decode cX7_coming 11 = .ok (.ireturn, 1) := by decide +kernel
theorem dX7_coming_12 : decode cX7_coming 12 = .ok (.new 197, 3) := by decide +kernel
theorem dX7_coming_15 : decode cX7_coming 15 = .ok (.dup, 1) := by decide +kernel
theorem dX7_coming_16 : decode cX7_coming 16 = .ok (.iload_n 1, 1) := by decide +kernel
theorem dX7_coming_17 : decode cX7_coming 17 = .ok (.invokespecial 199, 3) := by decide +kernel
theorem dX7_coming_20 : decode cX7_coming 20 = .ok (.astore_n 3, 1) := by decide +kernel
theorem dX7_coming_21 : decode cX7_coming 21 = .ok (.aload_n 0, 1) := by decide +kernel
theorem dX7_coming_22 : decode cX7_coming 22 = .ok (.invokevirtual 144, 3) := by decide +kernel
theorem dX7_coming_25 : decode cX7_coming 25 = .ok (.istore 4, 2) := by decide +kernel
theorem dX7_coming_27 : decode cX7_coming 27 = .ok (.iconst 0, 1) := by decide +kernel
theorem dX7_coming_28 : decode cX7_coming 28 = .ok (.istore 5, 2) := by decide +kernel
theorem dX7_coming_30 : decode cX7_coming 30 = .ok (.iload 5, 2) := by decide +kernel
theorem dX7_coming_32 : decode cX7_coming 32 = .ok (.bipush 8, 2) := by decide +kernel
theorem dX7_coming_34 : decode cX7_coming 34 = .ok (.if_icmp .gt 73, 3) := by decide +kernel
theorem dX7_coming_37 : decode cX7_coming 37 = .ok (.iload 4, 2) := by decide +kernel
theorem dX7_coming_39 : decode cX7_coming 39 = .ok (.ifCond .eq 68, 3) := by decide +kernel
theorem dX7_coming_42 : decode cX7_coming 42 = .ok (.aload_n 0, 1) := by decide +kernel
theorem dX7_coming_43 : decode cX7_coming 43 = .ok (.getfield 19, 3) := by decide +kernel
theorem dX7_coming_46 : decode cX7_coming 46 = .ok (.invokevirtual 202, 3) := by decide +kernel
theorem dX7_coming_49 : decode cX7_coming 49 = .ok (.ifCond .le 58, 3) := by decide +kernel
theorem dX7_coming_52 : decode cX7_coming 52 = .ok (.aload_n 3, 1) := by decide +kernel
theorem dX7_coming_53 : decode cX7_coming 53 = .ok (.aload_n 0, 1) := by decide +kernel
theorem dX7_coming_54 : decode cX7_coming 54 = .ok (.getfield 19, 3) := by decide +kernel
theorem dX7_coming_57 : decode cX7_coming 57 = .ok (.invokevirtual 202, 3) := by decide +kernel
theorem dX7_coming_60 : decode cX7_coming 60 = .ok (.invokevirtual 203, 3) := by decide +kernel
theorem dX7_coming_63 : decode cX7_coming 63 = .ok (.istore 6, 2) := by decide +kernel
theorem dX7_coming_65 : decode cX7_coming 65 = .ok (.aload_n 0, 1) := by decide +kernel
theorem dX7_coming_66 : decode cX7_coming 66 = .ok (.iload 6, 2) := by decide +kernel
theorem dX7_coming_68 : decode cX7_coming 68 = .ok (.iload 4, 2) := by decide +kernel
theorem dX7_coming_70 : decode cX7_coming 70 = .ok (.invokevirtual 168, 3) := by decide +kernel
theorem dX7_coming_73 : decode cX7_coming 73 = .ok (.aload_n 0, 1) := by decide +kernel
theorem dX7_coming_74 : decode cX7_coming 74 = .ok (.getfield 43, 3) := by decide +kernel
theorem dX7_coming_77 : decode cX7_coming 77 = .ok (.if_icmp .lt 15, 3) := by decide +kernel
theorem dX7_coming_80 : decode cX7_coming 80 = .ok (.iload_n 2, 1) := by decide +kernel
theorem dX7_coming_81 : decode cX7_coming 81 = .ok (.ifCond .ne 8, 3) := by decide +kernel
theorem dX7_coming_84 : decode cX7_coming 84 = .ok (.iload 4, 2) := by decide +kernel
theorem dX7_coming_86 : decode cX7_coming 86 = .ok (.goto 5, 3) := by decide +kernel
theorem dX7_coming_89 : decode cX7_coming 89 = .ok (.iload 6, 2) := by decide +kernel
theorem dX7_coming_91 : decode cX7_coming 91 = .ok (.ireturn, 1) := by decide +kernel
theorem dX7_coming_92 : decode cX7_coming 92 = .ok (.aload_n 0, 1) := by decide +kernel
theorem dX7_coming_93 : decode cX7_coming 93 = .ok (.iload 4, 2) := by decide +kernel
theorem dX7_coming_95 : decode cX7_coming 95 = .ok (.aload_n 3, 1) := by decide +kernel
theorem dX7_coming_96 : decode cX7_coming 96 = .ok (.invokevirtual 206, 3) := by decide +kernel
theorem dX7_coming_99 : decode cX7_coming 99 = .ok (.istore 4, 2) := by decide +kernel
theorem dX7_coming_101 : decode cX7_coming 101 = .ok (.iinc 5 1, 3) := by decide +kernel
theorem dX7_coming_104 : decode cX7_coming 104 = .ok (.goto (-74), 3) := by decide +kernel
theorem dX7_coming_107 : decode cX7_coming 107 = .ok (.iconst (-1), 1) := by decide +kernel
theorem dX7_coming_108 : decode cX7_coming 108 = .ok (.ireturn, 1) := by decide +kernel
theorem dX7_sheet_0 : decode cX7_sheet 0 = .ok (.aload_n 0, 1) := by decide +kernel
theorem dX7_sheet_1 : decode cX7_sheet 1 = .ok (.iload_n 1, 1) := by decide +kernel
theorem dX7_sheet_2 : decode cX7_sheet 2 = .ok (.invokevirtual 111, 3) := by decide +kernel
theorem dX7_sheet_5 : decode cX7_sheet 5 = .ok (.astore 4, 2) := by decide +kernel
theorem dX7_sheet_7 : decode cX7_sheet 7 = .ok (.aload 4, 2) := by decide +kernel
theorem dX7_sheet_9 : decode cX7_sheet 9 = .ok (.ifnull 18, 3) := by decide +kernel
theorem dX7_sheet_12 : decode cX7_sheet 12 = .ok (.iload_n 2, 1) := by decide +kernel
theorem dX7_sheet_13 : decode cX7_sheet 13 = .ok (.iconst 0, 1) := by decide +kernel
theorem dX7_sheet_14 : decode cX7_sheet 14 = .ok (.iconst 2, 1) := by decide +kernel
theorem dX7_sheet_15 : decode cX7_sheet 15 = .ok (.invokestatic 67, 3) := by decide +kernel
theorem dX7_sheet_18 : decode cX7_sheet 18 = .ok (.ifCond .eq 9, 3) := by decide +kernel
theorem dX7_sheet_21 : decode cX7_sheet 21 = .ok (.iload_n 3, 1) := by decide +kernel
theorem dX7_sheet_22 : decode cX7_sheet 22 = .ok (.bipush 48, 2) := by decide +kernel
theorem dX7_sheet_24 : decode cX7_sheet 24 = .ok (.if_icmp .le 6, 3) := by decide +kernel
theorem dX7_sheet_27 : decode cX7_sheet 27 = .ok (.bipush (-2), 2) := by decide +kernel
theorem dX7_sheet_29 : decode cX7_sheet 29 = .ok (.ireturn, 1) := by decide +kernel
theorem dX7_sheet_30 : decode cX7_sheet 30 = .ok (.iload_n 3, 1) := by decide +kernel
theorem dX7_sheet_31 : decode cX7_sheet 31 = .ok (.ifCond .ge 9, 3) := by decide +kernel
theorem dX7_sheet_34 : decode cX7_sheet 34 = .ok (.aload_n 0, 1) := by decide +kernel
theorem dX7_sheet_35 : decode cX7_sheet 35 = .ok (.iconst 5, 1) := by decide +kernel
theorem dX7_sheet_36 : decode cX7_sheet 36 = .ok (.invokevirtual 119, 3) := by decide +kernel
theorem dX7_sheet_39 : decode cX7_sheet 39 = .ok (.ireturn, 1) := by decide +kernel
theorem dX7_sheet_40 : decode cX7_sheet 40 = .ok (.aload 4, 2) := by decide +kernel
theorem dX7_sheet_42 : decode cX7_sheet 42 = .ok (.iload_n 2, 1) := by decide +kernel
theorem dX7_sheet_43 : decode cX7_sheet 43 = .ok (.iload_n 3, 1) := by decide +kernel
theorem dX7_sheet_44 : decode cX7_sheet 44 = .ok (.invokevirtual 210, 3) := by decide +kernel
theorem dX7_sheet_47 : decode cX7_sheet 47 = .ok (.iload_n 3, 1) := by decide +kernel
theorem dX7_sheet_48 : decode cX7_sheet 48 = .ok (.ireturn, 1) := by decide +kernel
theorem dX7_lose_0 : decode cX7_lose 0 = .ok (.aload_n 0, 1) := by decide +kernel
theorem dX7_lose_1 : decode cX7_lose 1 = .ok (.iload_n 1, 1) := by decide +kernel
theorem dX7_lose_2 : decode cX7_lose 2 = .ok (.invokevirtual 111, 3) := by decide +kernel
theorem dX7_lose_5 : decode cX7_lose 5 = .ok (.astore_n 2, 1) := by decide +kernel
theorem dX7_lose_6 : decode cX7_lose 6 = .ok (.aload_n 2, 1) := by decide +kernel
theorem dX7_lose_7 : decode cX7_lose 7 = .ok (.ifnonnull 6, 3) := by decide +kernel
theorem dX7_lose_10 : decode cX7_lose 10 = .ok (.bipush (-2), 2) := by decide +kernel
theorem dX7_lose_12 : decode cX7_lose 12 = .ok (.ireturn, 1) := by decide +kernel
theorem dX7_lose_13 : decode cX7_lose 13 = .ok (.aload_n 2, 1) := by decide +kernel
theorem dX7_lose_14 : decode cX7_lose 14 = .ok (.invokevirtual 115, 3) := by decide +kernel
theorem dX7_lose_17 : decode cX7_lose 17 = .ok (.ifCond .eq 11, 3) := by decide +kernel
theorem dX7_lose_20 : decode cX7_lose 20 = .ok (.aload_n 0, 1) := by decide +kernel
theorem dX7_lose_21 : decode cX7_lose 21 = .ok (.iconst 1, 1) := by decide +kernel
theorem dX7_lose_22 : decode cX7_lose 22 = .ok (.invokevirtual 119, 3) := by decide +kernel
theorem dX7_lose_25 : decode cX7_lose 25 = .ok (.goto 7, 3) := by decide +kernel
theorem dX7_lose_28 : decode cX7_lose 28 = .ok (.aload_n 2, 1) := by decide +kernel
theorem dX7_lose_29 : decode cX7_lose 29 = .ok (.invokevirtual 214, 3) := by decide +kernel
theorem dX7_lose_32 : decode cX7_lose 32 = .ok (.ireturn, 1) := by decide +kernel
theorem dX7_put_0 : decode cX7_put 0 = .ok (.aload_n 0, 1) := by decide +kernel
theorem dX7_put_1 : decode cX7_put 1 = .ok (.iload_n 1, 1) := by decide +kernel
theorem dX7_put_2 : decode cX7_put 2 = .ok (.iload_n 2, 1) := by decide +kernel
theorem dX7_put_3 : decode cX7_put 3 = .ok (.iload_n 3, 1) := by decide +kernel
theorem dX7_put_4 : decode cX7_put 4 = .ok (.invokevirtual 217, 3) := by decide +kernel
theorem dX7_put_7 : decode cX7_put 7 = .ok (.istore 5, 2) := by decide +kernel
theorem dX7_put_9 : decode cX7_put 9 = .ok (.aload_n 0, 1) := by decide +kernel
theorem dX7_put_10 : decode cX7_put 10 = .ok (.iload_n 1, 1) := by decide +kernel
theorem dX7_put_11 : decode cX7_put 11 = .ok (.invokevirtual 111, 3) := by decide +kernel
theorem dX7_put_14 : decode cX7_put 14 = .ok (.astore 6, 2) := by decide +kernel
theorem dX7_put_16 : decode cX7_put 16 = .ok (.iload 5, 2) := by decide +kernel
theorem dX7_put_18 : decode cX7_put 18 = .ok (.ifCond .ne 8, 3) := by decide +kernel
theorem dX7_put_21 : decode cX7_put 21 = .ok (.aload 6, 2) := by decide +kernel
theorem dX7_put_23 : decode cX7_put 23 = .ok (.ifnonnull 6, 3) := by decide +kernel
theorem dX7_put_26 : decode cX7_put 26 = .ok (.iload 5, 2) := by decide +kernel
theorem dX7_put_28 : decode cX7_put 28 = .ok (.ireturn, 1) := by decide +kernel
theorem dX7_put_29 : decode cX7_put 29 = .ok (.aload 6, 2) := by decide +kernel
theorem dX7_put_31 : decode cX7_put 31 = .ok (.iload_n 3, 1) := by decide +kernel
theorem dX7_put_32 : decode cX7_put 32 = .ok (.iload 4, 2) := by decide +kernel
theorem dX7_put_34 : decode cX7_put 34 = .ok (.invokevirtual 220, 3) := by decide +kernel
theorem dX7_put_37 : decode cX7_put 37 = .ok (.iconst 1, 1) := by decide +kernel
theorem dX7_put_38 : decode cX7_put 38 = .ok (.ireturn, 1) := by decide +kernel
theorem dX7_get_0 : decode cX7_get 0 = .ok (.aload_n 0, 1) := by decide +kernel
theorem dX7_get_1 : decode cX7_get 1 = .ok (.iload_n 1, 1) := by decide +kernel
theorem dX7_get_2 : decode cX7_get 2 = .ok (.iload_n 2, 1) := by decide +kernel
theorem dX7_get_3 : decode cX7_get 3 = .ok (.iload_n 3, 1) := by decide +kernel
theorem dX7_get_4 : decode cX7_get 4 = .ok (.invokevirtual 217, 3) := by decide +kernel
theorem dX7_get_7 : decode cX7_get 7 = .ok (.istore 4, 2) := by decide +kernel
theorem dX7_get_9 : decode cX7_get 9 = .ok (.aload_n 0, 1) := by decide +kernel
theorem dX7_get_10 : decode cX7_get 10 = .ok (.iload_n 1, 1) := by decide +kernel
theorem dX7_get_11 : decode cX7_get 11 = .ok (.invokevirtual 111, 3) := by decide +kernel
theorem dX7_get_14 : decode cX7_get 14 = .ok (.astore 5, 2) := by decide +kernel
theorem dX7_get_16 : decode cX7_get 16 = .ok (.iload 4, 2) := by decide +kernel
theorem dX7_get_18 : decode cX7_get 18 = .ok (.ifCond .ne 8, 3) := by decide +kernel
theorem dX7_get_21 : decode cX7_get 21 = .ok (.aload 5, 2) := by decide +kernel
theorem dX7_get_23 : decode cX7_get 23 = .ok (.ifnonnull 8, 3) := by decide +kernel
theorem dX7_get_26 : decode cX7_get 26 = .ok (.ldc 223, 2) := by decide +kernel
theorem dX7_get_28 : decode cX7_get 28 = .ok (.goto 9, 3) := by decide +kernel
theorem dX7_get_31 : decode cX7_get 31 = .ok (.aload 5, 2) := by decide +kernel
theorem dX7_get_33 : decode cX7_get 33 = .ok (.iload_n 3, 1) := by decide +kernel
theorem dX7_get_34 : decode cX7_get 34 = .ok (.invokevirtual 125, 3) := by decide +kernel
theorem dX7_get_37 : decode cX7_get 37 = .ok (.ireturn, 1) := by decide +kernel
theorem dX7_copy_0 : decode cX7_copy 0 = .ok (.aload_n 0, 1) := by decide +kernel
theorem dX7_copy_1 : decode cX7_copy 1 = .ok (.iload_n 1, 1) := by decide +kernel
theorem dX7_copy_2 : decode cX7_copy 2 = .ok (.invokevirtual 111, 3) := by decide +kernel
theorem dX7_copy_5 : decode cX7_copy 5 = .ok (.astore 6, 2) := by decide +kernel
theorem dX7_copy_7 : decode cX7_copy 7 = .ok (.aload_n 0, 1) := by decide +kernel
theorem dX7_copy_8 : decode cX7_copy 8 = .ok (.iload_n 3, 1) := by decide +kernel
theorem dX7_copy_9 : decode cX7_copy 9 = .ok (.invokevirtual 111, 3) := by decide +kernel
theorem dX7_copy_12 : decode cX7_copy 12 = .ok (.astore 7, 2) := by decide +kernel
theorem dX7_copy_14 : decode cX7_copy 14 = .ok (.aload 6, 2) := by decide +kernel
theorem dX7_copy_16 : decode cX7_copy 16 = .ok (.ifnull 8, 3) := by decide +kernel
theorem dX7_copy_19 : decode cX7_copy 19 = .ok (.aload 7, 2) := by decide +kernel
theorem dX7_copy_21 : decode cX7_copy 21 = .ok (.ifnonnull 6, 3) := by decide +kernel
theorem dX7_copy_24 : decode cX7_copy 24 = .ok (.bipush (-2), 2) := by decide +kernel
theorem dX7_copy_26 : decode cX7_copy 26 = .ok (.ireturn, 1) := by decide +kernel
theorem dX7_copy_27 : decode cX7_copy 27 = .ok (.aload 6, 2) := by decide +kernel
theorem dX7_copy_29 : decode cX7_copy 29 = .ok (.invokevirtual 115, 3) := by decide +kernel
theorem dX7_copy_32 : decode cX7_copy 32 = .ok (.ifCond .ne 11, 3) := by decide +kernel
theorem dX7_copy_35 : decode cX7_copy 35 = .ok (.aload 7, 2) := by decide +kernel
theorem dX7_copy_37 : decode cX7_copy 37 = .ok (.invokevirtual 115, 3) := by decide +kernel
theorem dX7_copy_40 : decode cX7_copy 40 = .ok (.ifCond .eq 9, 3) := by decide +kernel
theorem dX7_copy_43 : decode cX7_copy 43 = .ok (.aload_n 0, 1) := by decide +kernel
theorem dX7_copy_44 : decode cX7_copy 44 = .ok (.iconst 1, 1) := by decide +kernel
theorem dX7_copy_45 : decode cX7_copy 45 = .ok (.invokevirtual 119, 3) := by decide +kernel
theorem dX7_copy_48 : decode cX7_copy 48 = .ok (.ireturn, 1) := by decide +kernel
theorem dX7_copy_49 : decode cX7_copy 49 = .ok (.aload 6, 2) := by decide +kernel
theorem dX7_copy_51 : decode cX7_copy 51 = .ok (.invokevirtual 224, 3) := by decide +kernel
theorem dX7_copy_54 : decode cX7_copy 54 = .ok (.aload 7, 2) := by decide +kernel
theorem dX7_copy_56 : decode cX7_copy 56 = .ok (.invokevirtual 224, 3) := by decide +kernel
theorem dX7_copy_59 : decode cX7_copy 59 = .ok (.if_icmp .eq 9, 3) := by decide +kernel
theorem dX7_copy_62 : decode cX7_copy 62 = .ok (.aload_n 0, 1) := by decide +kernel
theorem dX7_copy_63 : decode cX7_copy 63 = .ok (.iconst 4, 1) := by decide +kernel
theorem dX7_copy_64 : decode cX7_copy 64 = .ok (.invokevirtual 119, 3) := by decide +kernel
theorem dX7_copy_67 : decode cX7_copy 67 = .ok (.ireturn, 1) := by decide +kernel
theorem dX7_copy_68 : decode cX7_copy 68 = .ok (.aload 6, 2) := by decide +kernel
theorem dX7_copy_70 : decode cX7_copy 70 = .ok (.iload_n 2, 1) := by decide +kernel
theorem dX7_copy_71 : decode cX7_copy 71 = .ok (.iload 5, 2) := by decide +kernel
theorem dX7_copy_73 : decode cX7_copy 73 = .ok (.invokevirtual 227, 3) := by decide +kernel
theorem dX7_copy_76 : decode cX7_copy 76 = .ok (.ifCond .eq 15, 3) := by decide +kernel
theorem dX7_copy_79 : decode cX7_copy 79 = .ok (.aload 7, 2) := by decide +kernel
theorem dX7_copy_81 : decode cX7_copy 81 = .ok (.iload 4, 2) := by decide +kernel
theorem dX7_copy_83 : decode cX7_copy 83 = .ok (.iload 5, 2) := by decide +kernel
theorem dX7_copy_85 : decode cX7_copy 85 = .ok (.invokevirtual 227, 3) := by decide +kernel
theorem dX7_copy_88 : decode cX7_copy 88 = .ok (.ifCond .ne 9, 3) := by decide +kernel
theorem dX7_copy_91 : decode cX7_copy 91 = .ok (.aload_n 0, 1) := by decide +kernel
theorem dX7_copy_92 : decode cX7_copy 92 = .ok (.iconst 2, 1) := by decide +kernel
theorem dX7_copy_93 : decode cX7_copy 93 = .ok (.invokevirtual 119, 3) := by decide +kernel
theorem dX7_copy_96 : decode cX7_copy 96 = .ok (.ireturn, 1) := by decide +kernel
theorem dX7_copy_97 : decode cX7_copy 97 = .ok (.aload 7, 2) := by decide +kernel
theorem dX7_copy_99 : decode cX7_copy 99 = .ok (.iload 4, 2) := by decide +kernel
theorem dX7_copy_101 : decode cX7_copy 101 = .ok (.aload 6, 2) := by decide +kernel
theorem dX7_copy_103 : decode cX7_copy 103 = .ok (.iload_n 2, 1) := by decide +kernel
theorem dX7_copy_104 : decode cX7_copy 104 = .ok (.iload 5, 2) := by decide +kernel
theorem dX7_copy_106 : decode cX7_copy 106 = .ok (.invokevirtual 230, 3) := by decide +kernel
theorem dX7_copy_109 : decode cX7_copy 109 = .ok (.iconst 1, 1) := by decide +kernel
theorem dX7_copy_110 : decode cX7_copy 110 = .ok (.ireturn, 1) := by decide +kernel
theorem dX7_write_0 : decode cX7_write 0 = .ok (.aload_n 0, 1) := by decide +kernel
theorem dX7_write_1 : decode cX7_write 1 = .ok (.iload_n 2, 1) := by decide +kernel
theorem dX7_write_2 : decode cX7_write 2 = .ok (.invokevirtual 111, 3) := by decide +kernel
theorem dX7_write_5 : decode cX7_write 5 = .ok (.astore_n 3, 1) := by decide +kernel
theorem dX7_write_6 : decode cX7_write 6 = .ok (.aload_n 0, 1) := by decide +kernel
theorem dX7_write_7 : decode cX7_write 7 = .ok (.iload_n 1, 1) := by decide +kernel
theorem dX7_write_8 : decode cX7_write 8 = .ok (.invokevirtual 99, 3) := by decide +kernel
theorem dX7_write_11 : decode cX7_write 11 = .ok (.ifCond .eq 7, 3) := by decide +kernel
theorem dX7_write_14 : decode cX7_write 14 = .ok (.aload_n 3, 1) := by decide +kernel
theorem dX7_write_15 : decode cX7_write 15 = .ok (.ifnonnull 6, 3) := by decide +kernel
theorem dX7_write_18 : decode cX7_write 18 = .ok (.bipush (-2), 2) := by decide +kernel
theorem dX7_write_20 : decode cX7_write 20 = .ok (.ireturn, 1) := by decide +kernel
theorem dX7_write_21 : decode cX7_write 21 = .ok (.aload_n 3, 1) := by decide +kernel
theorem dX7_write_22 : decode cX7_write 22 = .ok (.invokevirtual 115, 3) := by decide +kernel
theorem dX7_write_25 : decode cX7_write 25 = .ok (.ifCond .eq 9, 3) := by decide +kernel
theorem dX7_write_28 : decode cX7_write 28 = .ok (.aload_n 0, 1) := by decide +kernel
theorem dX7_write_29 : decode cX7_write 29 = .ok (.iconst 1, 1) := by decide +kernel
theorem dX7_write_30 : decode cX7_write 30 = .ok (.invokevirtual 119, 3) := by decide +kernel
theorem dX7_write_33 : decode cX7_write 33 = .ok (.ireturn, 1) := by decide +kernel
theorem dX7_write_34 : decode cX7_write 34 = .ok (.aload_n 0, 1) := by decide +kernel
theorem dX7_write_35 : decode cX7_write 35 = .ok (.invokevirtual 144, 3) := by decide +kernel
theorem dX7_write_38 : decode cX7_write 38 = .ok (.istore 4, 2) := by decide +kernel
theorem dX7_write_40 : decode cX7_write 40 = .ok (.iconst 0, 1) := by decide +kernel
theorem dX7_write_41 : decode cX7_write 41 = .ok (.istore 5, 2) := by decide +kernel
theorem dX7_write_43 : decode cX7_write 43 = .ok (.iload 5, 2) := by decide +kernel
theorem dX7_write_45 : decode cX7_write 45 = .ok (.aload_n 3, 1) := by decide +kernel
theorem dX7_write_46 : decode cX7_write 46 = .ok (.invokevirtual 122, 3) := by decide +kernel
theorem dX7_write_49 : decode cX7_write 49 = .ok (.if_icmp .ge 24, 3) := by decide +kernel
theorem dX7_write_52 : decode cX7_write 52 = .ok (.aload_n 3, 1) := by decide +kernel
theorem dX7_write_53 : decode cX7_write 53 = .ok (.iload 5, 2) := by decide +kernel
theorem dX7_write_55 : decode cX7_write 55 = .ok (.aload_n 0, 1) := by decide +kernel
theorem dX7_write_56 : decode cX7_write 56 = .ok (.iload_n 1, 1) := by decide +kernel
theorem dX7_write_57 : decode cX7_write 57 = .ok (.iload 4, 2) := by decide +kernel
theorem dX7_write_59 : decode cX7_write 59 = .ok (.iload 5, 2) := by decide +kernel
theorem dX7_write_61 : decode cX7_write 61 = .ok (.invokevirtual 156, 3) := by decide +kernel
theorem dX7_write_64 : decode cX7_write 64 = .ok (.invokevirtual 220, 3) := by decide +kernel
theorem dX7_write_67 : decode cX7_write 67 = .ok (.iinc 5 1, 3) := by decide +kernel
theorem dX7_write_70 : decode cX7_write 70 = .ok (.goto (-27), 3) := by decide +kernel
theorem dX7_write_73 : decode cX7_write 73 = .ok (.aload_n 3, 1) := by decide +kernel
theorem dX7_write_74 : decode cX7_write 74 = .ok (.invokevirtual 122, 3) := by decide +kernel
theorem dX7_write_77 : decode cX7_write 77 = .ok (.ireturn, 1) := by decide +kernel
theorem dX7_count_0 : decode cX7_count 0 = .ok (.iload_n 1, 1) := by decide +kernel
theorem dX7_count_1 : decode cX7_count 1 = .ok (.tableswitch 126 0 8 #[51, 59, 67, 75, 83, 91, 101, 109, 121], 51) := by decide +kernel
theorem dX7_count_52 : decode cX7_count 52 = .ok (.aload_n 0, 1) := by decide +kernel
theorem dX7_count_53 : decode cX7_count 53 = .ok (.getfield 10, 3) := by decide +kernel
theorem dX7_count_56 : decode cX7_count 56 = .ok (.invokevirtual 87, 3) := by decide +kernel
theorem dX7_count_59 : decode cX7_count 59 = .ok (.ireturn, 1) := by decide +kernel
theorem dX7_count_60 : decode cX7_count 60 = .ok (.aload_n 0, 1) := by decide +kernel
theorem dX7_count_61 : decode cX7_count 61 = .ok (.getfield 19, 3) := by decide +kernel
theorem dX7_count_64 : decode cX7_count 64 = .ok (.invokevirtual 202, 3) := by decide +kernel
theorem dX7_count_67 : decode cX7_count 67 = .ok (.ireturn, 1) := by decide +kernel
theorem dX7_count_68 : decode cX7_count 68 = .ok (.aload_n 0, 1) := by decide +kernel
theorem dX7_count_69 : decode cX7_count 69 = .ok (.getfield 10, 3) := by decide +kernel
theorem dX7_count_72 : decode cX7_count 72 = .ok (.invokevirtual 234, 3) := by decide +kernel
theorem dX7_count_75 : decode cX7_count 75 = .ok (.ireturn, 1) := by decide +kernel
theorem dX7_count_76 : decode cX7_count 76 = .ok (.aload_n 0, 1) := by decide +kernel
theorem dX7_count_77 : decode cX7_count 77 = .ok (.getfield 19, 3) := by decide +kernel
theorem dX7_count_80 : decode cX7_count 80 = .ok (.invokevirtual 237, 3) := by decide +kernel
theorem dX7_count_83 : decode cX7_count 83 = .ok (.ireturn, 1) := by decide +kernel
theorem dX7_count_84 : decode cX7_count 84 = .ok (.aload_n 0, 1) := by decide +kernel
theorem dX7_count_85 : decode cX7_count 85 = .ok (.getfield 26, 3) := by decide +kernel
theorem dX7_count_88 : decode cX7_count 88 = .ok (.invokevirtual 238, 3) := by decide +kernel
theorem dX7_count_91 : decode cX7_count 91 = .ok (.ireturn, 1) := by decide +kernel
theorem dX7_count_92 : decode cX7_count 92 = .ok (.aload_n 0, 1) := by decide +kernel
theorem dX7_count_93 : decode cX7_count 93 = .ok (.getfield 53, 3) := by decide +kernel
theorem dX7_count_96 : decode cX7_count 96 = .ok (.aload_n 0, 1) := by decide +kernel
theorem dX7_count_97 : decode cX7_count 97 = .ok (.getfield 56, 3) := by decide +kernel
theorem dX7_count_100 : decode cX7_count 100 = .ok (.iadd, 1) := by decide +kernel
theorem dX7_count_101 : decode cX7_count 101 = .ok (.ireturn, 1) := by decide +kernel
theorem dX7_count_102 : decode cX7_count 102 = .ok (.aload_n 0, 1) := by decide +kernel
theorem dX7_count_103 : decode cX7_count 103 = .ok (.getfield 33, 3) := by decide +kernel
theorem dX7_count_106 : decode cX7_count 106 = .ok (.invokevirtual 239, 3) := by decide +kernel
theorem dX7_count_109 : decode cX7_count 109 = .ok (.ireturn, 1) := by decide +kernel
theorem dX7_count_110 : decode cX7_count 110 = .ok (.aload_n 0, 1) := by decide +kernel
theorem dX7_count_111 : decode cX7_count 111 = .ok (.getfield 10, 3) := by decide +kernel
theorem dX7_count_114 : decode cX7_count 114 = .ok (.aload_n 0, 1) := by decide +kernel
theorem dX7_count_115 : decode cX7_count 115 = .ok (.invokevirtual 144, 3) := by decide +kernel
theorem dX7_count_118 : decode cX7_count 118 = .ok (.invokevirtual 179, 3) := by decide +kernel
theorem dX7_count_121 : decode cX7_count 121 = .ok (.ireturn, 1) := by decide +kernel
theorem dX7_count_122 : decode cX7_count 122 = .ok (.aload_n 0, 1) := by decide +kernel
theorem dX7_count_123 : decode cX7_count 123 = .ok (.getfield 59, 3) := by decide +kernel
theorem dX7_count_126 : decode cX7_count 126 = .ok (.ireturn, 1) := by decide +kernel
theorem dX7_count_127 : decode cX7_count 127 = .ok (.bipush (-2), 2) := by decide +kernel
theorem dX7_count_129 : decode cX7_count 129 = .ok (.ireturn, 1) := by decide +kernel
theorem dX7_digest_0 : decode cX7_digest 0 = .ok (.ldc2_w 240, 3) := by decide +kernel
theorem dX7_digest_3 : decode cX7_digest 3 = .ok (.lstore_n 1, 1) := by decide +kernel
theorem dX7_digest_4 : decode cX7_digest 4 = .ok (.iconst 0, 1) := by decide +kernel
theorem dX7_digest_5 : decode cX7_digest 5 = .ok (.istore_n 3, 1) := by decide +kernel
theorem dX7_digest_6 : decode cX7_digest 6 = .ok (.iload_n 3, 1) := by decide +kernel
theorem dX7_digest_7 : decode cX7_digest 7 = .ok (.bipush 7, 2) := by decide +kernel
theorem dX7_digest_9 : decode cX7_digest 9 = .ok (.if_icmp .gt 20, 3) := by decide +kernel
theorem dX7_digest_12 : decode cX7_digest 12 = .ok (.lload_n 1, 1) := by decide +kernel
theorem dX7_digest_13 : decode cX7_digest 13 = .ok (.aload_n 0, 1) := by decide +kernel
theorem dX7_digest_14 : decode cX7_digest 14 = .ok (.iload_n 3, 1) := by decide +kernel
theorem dX7_digest_15 : decode cX7_digest 15 = .ok (.invokevirtual 242, 3) := by decide +kernel
theorem dX7_digest_18 : decode cX7_digest 18 = .ok (.i2l, 1) := by decide +kernel
theorem dX7_digest_19 : decode cX7_digest 19 = .ok (.invokestatic 245, 3) := by decide +kernel
theorem dX7_digest_22 : decode cX7_digest 22 = .ok (.lstore_n 1, 1) := by decide +kernel
theorem dX7_digest_23 : decode cX7_digest 23 = .ok (.iinc 3 1, 3) := by decide +kernel
theorem dX7_digest_26 : decode cX7_digest 26 = .ok (.goto (-20), 3) := by decide +kernel
theorem dX7_digest_29 : decode cX7_digest 29 = .ok (.lload_n 1, 1) := by decide +kernel
theorem dX7_digest_30 : decode cX7_digest 30 = .ok (.aload_n 0, 1) := by decide +kernel
theorem dX7_digest_31 : decode cX7_digest 31 = .ok (.iconst 0, 1) := by decide +kernel
theorem dX7_digest_32 : decode cX7_digest 32 = .ok (.invokevirtual 249, 3) := by decide +kernel
theorem dX7_digest_35 : decode cX7_digest 35 = .ok (.i2l, 1) := by decide +kernel
theorem dX7_digest_36 : decode cX7_digest 36 = .ok (.invokestatic 245, 3) := by decide +kernel
theorem dX7_digest_39 : decode cX7_digest 39 = .ok (.aload_n 0, 1) := by decide +kernel
theorem dX7_digest_40 : decode cX7_digest 40 = .ok (.iconst 1, 1) := by decide +kernel
theorem dX7_digest_41 : decode cX7_digest 41 = .ok (.invokevirtual 249, 3) := by decide +kernel
theorem dX7_digest_44 : decode cX7_digest 44 = .ok (.i2l, 1) := by decide +kernel
theorem dX7_digest_45 : decode cX7_digest 45 = .ok (.invokestatic 245, 3) := by decide +kernel
theorem dX7_digest_48 : decode cX7_digest 48 = .ok (.lstore_n 1, 1) := by decide +kernel
theorem dX7_digest_49 : decode cX7_digest 49 = .ok (.iconst 0, 1) := by decide +kernel
theorem dX7_digest_50 : decode cX7_digest 50 = .ok (.istore_n 3, 1) := by decide +kernel
theorem dX7_digest_51 : decode cX7_digest 51 = .ok (.iload_n 3, 1) := by decide +kernel
theorem dX7_digest_52 : decode cX7_digest 52 = .ok (.aload_n 0, 1) := by decide +kernel
theorem dX7_digest_53 : decode cX7_digest 53 = .ok (.getfield 10, 3) := by decide +kernel
theorem dX7_digest_56 : decode cX7_digest 56 = .ok (.invokevirtual 87, 3) := by decide +kernel
theorem dX7_digest_59 : decode cX7_digest 59 = .ok (.if_icmp .ge 37, 3) := by decide +kernel
theorem dX7_digest_62 : decode cX7_digest 62 = .ok (.iconst 0, 1) := by decide +kernel
theorem dX7_digest_63 : decode cX7_digest 63 = .ok (.istore 4, 2) := by decide +kernel
theorem dX7_digest_65 : decode cX7_digest 65 = .ok (.iload 4, 2) := by decide +kernel
theorem dX7_digest_67 : decode cX7_digest 67 = .ok (.iconst 2, 1) := by decide +kernel
theorem dX7_digest_68 : decode cX7_digest 68 = .ok (.if_icmp .gt 22, 3) := by decide +kernel
theorem dX7_digest_71 : decode cX7_digest 71 = .ok (.lload_n 1, 1) := by decide +kernel
theorem dX7_digest_72 : decode cX7_digest 72 = .ok (.aload_n 0, 1) := by decide +kernel
theorem dX7_digest_73 : decode cX7_digest 73 = .ok (.iload_n 3, 1) := by decide +kernel
theorem dX7_digest_74 : decode cX7_digest 74 = .ok (.iload 4, 2) := by decide +kernel
theorem dX7_digest_76 : decode cX7_digest 76 = .ok (.invokevirtual 252, 3) := by decide +kernel
theorem dX7_digest_79 : decode cX7_digest 79 = .ok (.i2l, 1) := by decide +kernel
theorem dX7_digest_80 : decode cX7_digest 80 = .ok (.invokestatic 245, 3) := by decide +kernel
theorem dX7_digest_83 : decode cX7_digest 83 = .ok (.lstore_n 1, 1) := by decide +kernel
theorem dX7_digest_84 : decode cX7_digest 84 = .ok (.iinc 4 1, 3) := by decide +kernel
theorem dX7_digest_87 : decode cX7_digest 87 = .ok (.goto (-22), 3) := by decide +kernel
theorem dX7_digest_90 : decode cX7_digest 90 = .ok (.iinc 3 1, 3) := by decide +kernel
theorem dX7_digest_93 : decode cX7_digest 93 = .ok (.goto (-42), 3) := by decide +kernel
theorem dX7_digest_96 : decode cX7_digest 96 = .ok (.iconst 0, 1) := by decide +kernel
theorem dX7_digest_97 : decode cX7_digest 97 = .ok (.istore_n 3, 1) := by decide +kernel
theorem dX7_digest_98 : decode cX7_digest 98 = .ok (.iload_n 3, 1) := by decide +kernel
theorem dX7_digest_99 : decode cX7_digest 99 = .ok (.aload_n 0, 1) := by decide +kernel
theorem dX7_digest_100 : decode cX7_digest 100 = .ok (.getfield 19, 3) := by decide +kernel
theorem dX7_digest_103 : decode cX7_digest 103 = .ok (.invokevirtual 202, 3) := by decide +kernel
theorem dX7_digest_106 : decode cX7_digest 106 = .ok (.if_icmp .ge 180, 3) := by decide +kernel
theorem dX7_digest_109 : decode cX7_digest 109 = .ok (.lload_n 1, 1) := by decide +kernel
theorem dX7_digest_110 : decode cX7_digest 110 = .ok (.aload_n 0, 1) := by decide +kernel
theorem dX7_digest_111 : decode cX7_digest 111 = .ok (.iload_n 3, 1) := by decide +kernel
theorem dX7_digest_112 : decode cX7_digest 112 = .ok (.iconst 0, 1) := by decide +kernel
theorem dX7_digest_113 : decode cX7_digest 113 = .ok (.invokevirtual 255, 3) := by decide +kernel
theorem dX7_digest_116 : decode cX7_digest 116 = .ok (.i2l, 1) := by decide +kernel
theorem dX7_digest_117 : decode cX7_digest 117 = .ok (.invokestatic 245, 3) := by decide +kernel
theorem dX7_digest_120 : decode cX7_digest 120 = .ok (.aload_n 0, 1) := by decide +kernel
theorem dX7_digest_121 : decode cX7_digest 121 = .ok (.iload_n 3, 1) := by decide +kernel
theorem dX7_digest_122 : decode cX7_digest 122 = .ok (.iconst 1, 1) := by decide +kernel
theorem dX7_digest_123 : decode cX7_digest 123 = .ok (.invokevirtual 255, 3) := by decide +kernel
theorem dX7_digest_126 : decode cX7_digest 126 = .ok (.i2l, 1) := by decide +kernel
theorem dX7_digest_127 : decode cX7_digest 127 = .ok (.invokestatic 245, 3) := by decide +kernel
theorem dX7_digest_130 : decode cX7_digest 130 = .ok (.lstore_n 1, 1) := by decide +kernel
theorem dX7_digest_131 : decode cX7_digest 131 = .ok (.lload_n 1, 1) := by decide +kernel
theorem dX7_digest_132 : decode cX7_digest 132 = .ok (.aload_n 0, 1) := by decide +kernel
theorem dX7_digest_133 : decode cX7_digest 133 = .ok (.iload_n 3, 1) := by decide +kernel
theorem dX7_digest_134 : decode cX7_digest 134 = .ok (.sipush 511, 3) := by decide +kernel
theorem dX7_digest_137 : decode cX7_digest 137 = .ok (.invokevirtual 258, 3) := by decide +kernel
theorem dX7_digest_140 : decode cX7_digest 140 = .ok (.i2l, 1) := by decide +kernel
theorem dX7_digest_141 : decode cX7_digest 141 = .ok (.invokestatic 245, 3) := by decide +kernel
theorem dX7_digest_144 : decode cX7_digest 144 = .ok (.aload_n 0, 1) := by decide +kernel
theorem dX7_digest_145 : decode cX7_digest 145 = .ok (.iload_n 3, 1) := by decide +kernel
theorem dX7_digest_146 : decode cX7_digest 146 = .ok (.aload_n 0, 1) := by decide +kernel
theorem dX7_digest_147 : decode cX7_digest 147 = .ok (.invokevirtual 144, 3) := by decide +kernel
theorem dX7_digest_150 : decode cX7_digest 150 = .ok (.invokevirtual 261, 3) := by decide +kernel
theorem dX7_digest_153 : decode cX7_digest 153 = .ok (.i2l, 1) := by decide +kernel
theorem dX7_digest_154 : decode cX7_digest 154 = .ok (.invokestatic 245, 3) := by decide +kernel
theorem dX7_digest_157 : decode cX7_digest 157 = .ok (.lstore_n 1, 1) := by decide +kernel
theorem dX7_digest_158 : decode cX7_digest 158 = .ok (.lload_n 1, 1) := by decide +kernel
theorem dX7_digest_159 : decode cX7_digest 159 = .ok (.aload_n 0, 1) := by decide +kernel
theorem dX7_digest_160 : decode cX7_digest 160 = .ok (.iload_n 3, 1) := by decide +kernel
theorem dX7_digest_161 : decode cX7_digest 161 = .ok (.aload_n 0, 1) := by decide +kernel
theorem dX7_digest_162 : decode cX7_digest 162 = .ok (.invokevirtual 144, 3) := by decide +kernel
theorem dX7_digest_165 : decode cX7_digest 165 = .ok (.iconst 0, 1) := by decide +kernel
theorem dX7_digest_166 : decode cX7_digest 166 = .ok (.invokevirtual 264, 3) := by decide +kernel
theorem dX7_digest_169 : decode cX7_digest 169 = .ok (.invokestatic 245, 3) := by decide +kernel
theorem dX7_digest_172 : decode cX7_digest 172 = .ok (.aload_n 0, 1) := by decide +kernel
theorem dX7_digest_173 : decode cX7_digest 173 = .ok (.iload_n 3, 1) := by decide +kernel
theorem dX7_digest_174 : decode cX7_digest 174 = .ok (.aload_n 0, 1) := by decide +kernel
theorem dX7_digest_175 : decode cX7_digest 175 = .ok (.invokevirtual 144, 3) := by decide +kernel
theorem dX7_digest_178 : decode cX7_digest 178 = .ok (.iconst 1, 1) := by decide +kernel
theorem dX7_digest_179 : decode cX7_digest 179 = .ok (.invokevirtual 264, 3) := by decide +kernel
theorem dX7_digest_182 : decode cX7_digest 182 = .ok (.invokestatic 245, 3) := by decide +kernel
theorem dX7_digest_185 : decode cX7_digest 185 = .ok (.lstore_n 1, 1) := by decide +kernel
theorem dX7_digest_186 : decode cX7_digest 186 = .ok (.lload_n 1, 1) := by decide +kernel
theorem dX7_digest_187 : decode cX7_digest 187 = .ok (.aload_n 0, 1) := by decide +kernel
theorem dX7_digest_188 : decode cX7_digest 188 = .ok (.iload_n 3, 1) := by decide +kernel
theorem dX7_digest_189 : decode cX7_digest 189 = .ok (.iconst 0, 1) := by decide +kernel
theorem dX7_digest_190 : decode cX7_digest 190 = .ok (.invokevirtual 268, 3) := by decide +kernel
theorem dX7_digest_193 : decode cX7_digest 193 = .ok (.invokestatic 245, 3) := by decide +kernel
theorem dX7_digest_196 : decode cX7_digest 196 = .ok (.aload_n 0, 1) := by decide +kernel
theorem dX7_digest_197 : decode cX7_digest 197 = .ok (.iload_n 3, 1) := by decide +kernel
theorem dX7_digest_198 : decode cX7_digest 198 = .ok (.iconst 1, 1) := by decide +kernel
theorem dX7_digest_199 : decode cX7_digest 199 = .ok (.invokevirtual 268, 3) := by decide +kernel
theorem dX7_digest_202 : decode cX7_digest 202 = .ok (.invokestatic 245, 3) := by decide +kernel
theorem dX7_digest_205 : decode cX7_digest 205 = .ok (.lstore_n 1, 1) := by decide +kernel
theorem dX7_digest_206 : decode cX7_digest 206 = .ok (.lload_n 1, 1) := by decide +kernel
theorem dX7_digest_207 : decode cX7_digest 207 = .ok (.aload_n 0, 1) := by decide +kernel
theorem dX7_digest_208 : decode cX7_digest 208 = .ok (.iload_n 3, 1) := by decide +kernel
theorem dX7_digest_209 : decode cX7_digest 209 = .ok (.bipush 20, 2) := by decide +kernel
theorem dX7_digest_211 : decode cX7_digest 211 = .ok (.iconst 0, 1) := by decide +kernel
theorem dX7_digest_212 : decode cX7_digest 212 = .ok (.invokevirtual 271, 3) := by decide +kernel
theorem dX7_digest_215 : decode cX7_digest 215 = .ok (.invokestatic 245, 3) := by decide +kernel
theorem dX7_digest_218 : decode cX7_digest 218 = .ok (.aload_n 0, 1) := by decide +kernel
theorem dX7_digest_219 : decode cX7_digest 219 = .ok (.iload_n 3, 1) := by decide +kernel
theorem dX7_digest_220 : decode cX7_digest 220 = .ok (.bipush 20, 2) := by decide +kernel
theorem dX7_digest_222 : decode cX7_digest 222 = .ok (.iconst 1, 1) := by decide +kernel
theorem dX7_digest_223 : decode cX7_digest 223 = .ok (.invokevirtual 271, 3) := by decide +kernel
theorem dX7_digest_226 : decode cX7_digest 226 = .ok (.invokestatic 245, 3) := by decide +kernel
theorem dX7_digest_229 : decode cX7_digest 229 = .ok (.lstore_n 1, 1) := by decide +kernel
theorem dX7_digest_230 : decode cX7_digest 230 = .ok (.lload_n 1, 1) := by decide +kernel
theorem dX7_digest_231 : decode cX7_digest 231 = .ok (.aload_n 0, 1) := by decide +kernel
theorem dX7_digest_232 : decode cX7_digest 232 = .ok (.iload_n 3, 1) := by decide +kernel
theorem dX7_digest_233 : decode cX7_digest 233 = .ok (.invokevirtual 274, 3) := by decide +kernel
theorem dX7_digest_236 : decode cX7_digest 236 = .ok (.i2l, 1) := by decide +kernel
theorem dX7_digest_237 : decode cX7_digest 237 = .ok (.invokestatic 245, 3) := by decide +kernel
theorem dX7_digest_240 : decode cX7_digest 240 = .ok (.aload_n 0, 1) := by decide +kernel
theorem dX7_digest_241 : decode cX7_digest 241 = .ok (.iload_n 3, 1) := by decide +kernel
theorem dX7_digest_242 : decode cX7_digest 242 = .ok (.invokevirtual 277, 3) := by decide +kernel
theorem dX7_digest_245 : decode cX7_digest 245 = .ok (.i2l, 1) := by decide +kernel
theorem dX7_digest_246 : decode cX7_digest 246 = .ok (.invokestatic 245, 3) := by decide +kernel
theorem dX7_digest_249 : decode cX7_digest 249 = .ok (.lstore_n 1, 1) := by decide +kernel
theorem dX7_digest_250 : decode cX7_digest 250 = .ok (.lload_n 1, 1) := by decide +kernel
theorem dX7_digest_251 : decode cX7_digest 251 = .ok (.aload_n 0, 1) := by decide +kernel
theorem dX7_digest_252 : decode cX7_digest 252 = .ok (.iconst 0, 1) := by decide +kernel
theorem dX7_digest_253 : decode cX7_digest 253 = .ok (.iload_n 3, 1) := by decide +kernel
theorem dX7_digest_254 : decode cX7_digest 254 = .ok (.sipush 511, 3) := by decide +kernel
theorem dX7_digest_257 : decode cX7_digest 257 = .ok (.iconst 0, 1) := by decide +kernel
theorem dX7_digest_258 : decode cX7_digest 258 = .ok (.invokevirtual 280, 3) := by decide +kernel
theorem dX7_digest_261 : decode cX7_digest 261 = .ok (.i2l, 1) := by decide +kernel
theorem dX7_digest_262 : decode cX7_digest 262 = .ok (.invokestatic 245, 3) := by decide +kernel
theorem dX7_digest_265 : decode cX7_digest 265 = .ok (.aload_n 0, 1) := by decide +kernel
theorem dX7_digest_266 : decode cX7_digest 266 = .ok (.iconst 0, 1) := by decide +kernel
theorem dX7_digest_267 : decode cX7_digest 267 = .ok (.iload_n 3, 1) := by decide +kernel
theorem dX7_digest_268 : decode cX7_digest 268 = .ok (.sipush 511, 3) := by decide +kernel
theorem dX7_digest_271 : decode cX7_digest 271 = .ok (.iconst 1, 1) := by decide +kernel
theorem dX7_digest_272 : decode cX7_digest 272 = .ok (.invokevirtual 280, 3) := by decide +kernel
theorem dX7_digest_275 : decode cX7_digest 275 = .ok (.i2l, 1) := by decide +kernel
theorem dX7_digest_276 : decode cX7_digest 276 = .ok (.invokestatic 245, 3) := by decide +kernel
theorem dX7_digest_279 : decode cX7_digest 279 = .ok (.lstore_n 1, 1) := by decide +kernel
theorem dX7_digest_280 : decode cX7_digest 280 = .ok (.iinc 3 1, 3) := by decide +kernel
theorem dX7_digest_283 : decode cX7_digest 283 = .ok (.goto (-185), 3) := by decide +kernel
theorem dX7_digest_286 : decode cX7_digest 286 = .ok (.lload_n 1, 1) := by decide +kernel
theorem dX7_digest_287 : decode cX7_digest 287 = .ok (.aload_n 0, 1) := by decide +kernel
theorem dX7_digest_288 : decode cX7_digest 288 = .ok (.invokevirtual 144, 3) := by decide +kernel
theorem dX7_digest_291 : decode cX7_digest 291 = .ok (.i2l, 1) := by decide +kernel
theorem dX7_digest_292 : decode cX7_digest 292 = .ok (.invokestatic 245, 3) := by decide +kernel
theorem dX7_digest_295 : decode cX7_digest 295 = .ok (.aload_n 0, 1) := by decide +kernel
theorem dX7_digest_296 : decode cX7_digest 296 = .ok (.aload_n 0, 1) := by decide +kernel
theorem dX7_digest_297 : decode cX7_digest 297 = .ok (.invokevirtual 144, 3) := by decide +kernel
theorem dX7_digest_300 : decode cX7_digest 300 = .ok (.invokevirtual 284, 3) := by decide +kernel
theorem dX7_digest_303 : decode cX7_digest 303 = .ok (.i2l, 1) := by decide +kernel
theorem dX7_digest_304 : decode cX7_digest 304 = .ok (.invokestatic 245, 3) := by decide +kernel
theorem dX7_digest_307 : decode cX7_digest 307 = .ok (.lstore_n 1, 1) := by decide +kernel
theorem dX7_digest_308 : decode cX7_digest 308 = .ok (.lload_n 1, 1) := by decide +kernel
theorem dX7_digest_309 : decode cX7_digest 309 = .ok (.aload_n 0, 1) := by decide +kernel
theorem dX7_digest_310 : decode cX7_digest 310 = .ok (.invokevirtual 287, 3) := by decide +kernel
theorem dX7_digest_313 : decode cX7_digest 313 = .ok (.i2l, 1) := by decide +kernel
theorem dX7_digest_314 : decode cX7_digest 314 = .ok (.invokestatic 245, 3) := by decide +kernel
theorem dX7_digest_317 : decode cX7_digest 317 = .ok (.aload_n 0, 1) := by decide +kernel
theorem dX7_digest_318 : decode cX7_digest 318 = .ok (.bipush 9, 2) := by decide +kernel
theorem dX7_digest_320 : decode cX7_digest 320 = .ok (.invokevirtual 290, 3) := by decide +kernel
theorem dX7_digest_323 : decode cX7_digest 323 = .ok (.i2l, 1) := by decide +kernel
theorem dX7_digest_324 : decode cX7_digest 324 = .ok (.invokestatic 245, 3) := by decide +kernel
theorem dX7_digest_327 : decode cX7_digest 327 = .ok (.aload_n 0, 1) := by decide +kernel
theorem dX7_digest_328 : decode cX7_digest 328 = .ok (.invokevirtual 293, 3) := by decide +kernel
theorem dX7_digest_331 : decode cX7_digest 331 = .ok (.i2l, 1) := by decide +kernel
theorem dX7_digest_332 : decode cX7_digest 332 = .ok (.invokestatic 245, 3) := by decide +kernel
theorem dX7_digest_335 : decode cX7_digest 335 = .ok (.lstore_n 1, 1) := by decide +kernel
theorem dX7_digest_336 : decode cX7_digest 336 = .ok (.lload_n 1, 1) := by decide +kernel
theorem dX7_digest_337 : decode cX7_digest 337 = .ok (.aload_n 0, 1) := by decide +kernel
theorem dX7_digest_338 : decode cX7_digest 338 = .ok (.iconst 0, 1) := by decide +kernel
theorem dX7_digest_339 : decode cX7_digest 339 = .ok (.invokevirtual 296, 3) := by decide +kernel
theorem dX7_digest_342 : decode cX7_digest 342 = .ok (.invokestatic 245, 3) := by decide +kernel
theorem dX7_digest_345 : decode cX7_digest 345 = .ok (.aload_n 0, 1) := by decide +kernel
theorem dX7_digest_346 : decode cX7_digest 346 = .ok (.iconst 1, 1) := by decide +kernel
theorem dX7_digest_347 : decode cX7_digest 347 = .ok (.invokevirtual 296, 3) := by decide +kernel
theorem dX7_digest_350 : decode cX7_digest 350 = .ok (.invokestatic 245, 3) := by decide +kernel
theorem dX7_digest_353 : decode cX7_digest 353 = .ok (.lstore_n 1, 1) := by decide +kernel
theorem dX7_digest_354 : decode cX7_digest 354 = .ok (.lload_n 1, 1) := by decide +kernel
theorem dX7_digest_355 : decode cX7_digest 355 = .ok (.aload_n 0, 1) := by decide +kernel
theorem dX7_digest_356 : decode cX7_digest 356 = .ok (.invokevirtual 299, 3) := by decide +kernel
theorem dX7_digest_359 : decode cX7_digest 359 = .ok (.i2l, 1) := by decide +kernel
theorem dX7_digest_360 : decode cX7_digest 360 = .ok (.invokestatic 245, 3) := by decide +kernel
theorem dX7_digest_363 : decode cX7_digest 363 = .ok (.lstore_n 1, 1) := by decide +kernel
theorem dX7_digest_364 : decode cX7_digest 364 = .ok (.lload_n 1, 1) := by decide +kernel
theorem dX7_digest_365 : decode cX7_digest 365 = .ok (.aload_n 0, 1) := by decide +kernel
theorem dX7_digest_366 : decode cX7_digest 366 = .ok (.bipush 7, 2) := by decide +kernel
theorem dX7_digest_368 : decode cX7_digest 368 = .ok (.iconst 0, 1) := by decide +kernel
theorem dX7_digest_369 : decode cX7_digest 369 = .ok (.invokevirtual 302, 3) := by decide +kernel
theorem dX7_digest_372 : decode cX7_digest 372 = .ok (.i2l, 1) := by decide +kernel
theorem dX7_digest_373 : decode cX7_digest 373 = .ok (.invokestatic 245, 3) := by decide +kernel
theorem dX7_digest_376 : decode cX7_digest 376 = .ok (.aload_n 0, 1) := by decide +kernel
theorem dX7_digest_377 : decode cX7_digest 377 = .ok (.bipush 7, 2) := by decide +kernel
theorem dX7_digest_379 : decode cX7_digest 379 = .ok (.iconst 1, 1) := by decide +kernel
theorem dX7_digest_380 : decode cX7_digest 380 = .ok (.invokevirtual 302, 3) := by decide +kernel
theorem dX7_digest_383 : decode cX7_digest 383 = .ok (.i2l, 1) := by decide +kernel
theorem dX7_digest_384 : decode cX7_digest 384 = .ok (.invokestatic 245, 3) := by decide +kernel
theorem dX7_digest_387 : decode cX7_digest 387 = .ok (.lreturn, 1) := by decide +kernel
theorem dX7_with_0 : decode cX7_with 0 = .ok (.ldc2_w 305, 3) := by decide +kernel
theorem dX7_with_3 : decode cX7_with 3 = .ok (.lload_n 0, 1) := by decide +kernel
theorem dX7_with_4 : decode cX7_with 4 = .ok (.lmul, 1) := by decide +kernel
theorem dX7_with_5 : decode cX7_with 5 = .ok (.lload_n 2, 1) := by decide +kernel
theorem dX7_with_6 : decode cX7_with 6 = .ok (.ladd, 1) := by decide +kernel
theorem dX7_with_7 : decode cX7_with 7 = .ok (.lreturn, 1) := by decide +kernel
theorem dX7_within_0 : decode cX7_within 0 = .ok (.iload_n 1, 1) := by decide +kernel
theorem dX7_within_1 : decode cX7_within 1 = .ok (.iload_n 0, 1) := by decide +kernel
theorem dX7_within_2 : decode cX7_within 2 = .ok (.if_icmp .gt 12, 3) := by decide +kernel
theorem dX7_within_5 : decode cX7_within 5 = .ok (.iload_n 0, 1) := by decide +kernel
theorem dX7_within_6 : decode cX7_within 6 = .ok (.iload_n 2, 1) := by decide +kernel
theorem dX7_within_7 : decode cX7_within 7 = .ok (.if_icmp .gt 7, 3) := by decide +kernel
theorem dX7_within_10 : decode cX7_within 10 = .ok (.iconst 1, 1) := by decide +kernel
theorem dX7_within_11 : decode cX7_within 11 = .ok (.goto 4, 3) := by decide +kernel
theorem dX7_within_14 : decode cX7_within 14 = .ok (.iconst 0, 1) := by decide +kernel
theorem dX7_within_15 : decode cX7_within 15 = .ok (.ireturn, 1) := by decide +kernel
theorem dX7_isSet_0 : decode cX7_isSet 0 = .ok (.iload_n 0, 1) := by decide +kernel
theorem dX7_isSet_1 : decode cX7_isSet 1 = .ok (.iconst 0, 1) := by decide +kernel
theorem dX7_isSet_2 : decode cX7_isSet 2 = .ok (.sipush 511, 3) := by decide +kernel
theorem dX7_isSet_5 : decode cX7_isSet 5 = .ok (.invokestatic 67, 3) := by decide +kernel
theorem dX7_isSet_8 : decode cX7_isSet 8 = .ok (.ireturn, 1) := by decide +kernel
theorem dX7_holds_0 : decode cX7_holds 0 = .ok (.iload_n 1, 1) := by decide +kernel
theorem dX7_holds_1 : decode cX7_holds 1 = .ok (.iconst 0, 1) := by decide +kernel
theorem dX7_holds_2 : decode cX7_holds 2 = .ok (.bipush 8, 2) := by decide +kernel
theorem dX7_holds_4 : decode cX7_holds 4 = .ok (.invokestatic 67, 3) := by decide +kernel
theorem dX7_holds_7 : decode cX7_holds 7 = .ok (.ifCond .eq 16, 3) := by decide +kernel
theorem dX7_holds_10 : decode cX7_holds 10 = .ok (.iload_n 0, 1) := by decide +kernel
theorem dX7_holds_11 : decode cX7_holds 11 = .ok (.iload_n 1, 1) := by decide +kernel
theorem dX7_holds_12 : decode cX7_holds 12 = .ok (.ishr, 1) := by decide +kernel
theorem dX7_holds_13 : decode cX7_holds 13 = .ok (.iconst 1, 1) := by decide +kernel
theorem dX7_holds_14 : decode cX7_holds 14 = .ok (.iand, 1) := by decide +kernel
theorem dX7_holds_15 : decode cX7_holds 15 = .ok (.iconst 1, 1) := by decide +kernel
theorem dX7_holds_16 : decode cX7_holds 16 = .ok (.if_icmp .ne 7, 3) := by decide +kernel
theorem dX7_holds_19 : decode cX7_holds 19 = .ok (.iconst 1, 1) := by decide +kernel
theorem dX7_holds_20 : decode cX7_holds 20 = .ok (.goto 4, 3) := by decide +kernel
theorem dX7_holds_23 : decode cX7_holds 23 = .ok (.iconst 0, 1) := by decide +kernel
theorem dX7_holds_24 : decode cX7_holds 24 = .ok (.ireturn, 1) := by decide +kernel
theorem dX7_isKing_0 : decode cX7_isKing 0 = .ok (.iload_n 1, 1) := by decide +kernel
theorem dX7_isKing_1 : decode cX7_isKing 1 = .ok (.iconst 0, 1) := by decide +kernel
theorem dX7_isKing_2 : decode cX7_isKing 2 = .ok (.aload_n 0, 1) := by decide +kernel
theorem dX7_isKing_3 : decode cX7_isKing 3 = .ok (.getfield 19, 3) := by decide +kernel
theorem dX7_isKing_6 : decode cX7_isKing 6 = .ok (.invokevirtual 202, 3) := by decide +kernel
theorem dX7_isKing_9 : decode cX7_isKing 9 = .ok (.iconst 1, 1) := by decide +kernel
theorem dX7_isKing_10 : decode cX7_isKing 10 = .ok (.isub, 1) := by decide +kernel
theorem dX7_isKing_11 : decode cX7_isKing 11 = .ok (.invokestatic 67, 3) := by decide +kernel
theorem dX7_isKing_14 : decode cX7_isKing 14 = .ok (.ireturn, 1) := by decide +kernel
theorem dX7_textOf_0 : decode cX7_textOf 0 = .ok (.iload_n 1, 1) := by decide +kernel
theorem dX7_textOf_1 : decode cX7_textOf 1 = .ok (.lookupswitch 37 #[(0, 27), (1, 32)], 27) := by decide +kernel
theorem dX7_textOf_28 : decode cX7_textOf 28 = .ok (.aload_n 0, 1) := by decide +kernel
theorem dX7_textOf_29 : decode cX7_textOf 29 = .ok (.getfield 10, 3) := by decide +kernel
theorem dX7_textOf_32 : decode cX7_textOf 32 = .ok (.areturn, 1) := by decide +kernel
theorem dX7_textOf_33 : decode cX7_textOf 33 = .ok (.aload_n 0, 1) := by decide +kernel
theorem dX7_textOf_34 : decode cX7_textOf 34 = .ok (.getfield 19, 3) := by decide +kernel
theorem dX7_textOf_37 : decode cX7_textOf 37 = .ok (.areturn, 1) := by decide +kernel
theorem dX7_textOf_38 : decode cX7_textOf 38 = .ok (.aconst_null, 1) := by decide +kernel
theorem dX7_textOf_39 : decode cX7_textOf 39 = .ok (.areturn, 1) := by decide +kernel
theorem dX7_sheetOf_0 : decode cX7_sheetOf 0 = .ok (.iload_n 1, 1) := by decide +kernel
theorem dX7_sheetOf_1 : decode cX7_sheetOf 1 = .ok (.iconst 0, 1) := by decide +kernel
theorem dX7_sheetOf_2 : decode cX7_sheetOf 2 = .ok (.aload_n 0, 1) := by decide +kernel
theorem dX7_sheetOf_3 : decode cX7_sheetOf 3 = .ok (.getfield 39, 3) := by decide +kernel
theorem dX7_sheetOf_6 : decode cX7_sheetOf 6 = .ok (.arraylength, 1) := by decide +kernel
theorem dX7_sheetOf_7 : decode cX7_sheetOf 7 = .ok (.iconst 1, 1) := by decide +kernel
theorem dX7_sheetOf_8 : decode cX7_sheetOf 8 = .ok (.isub, 1) := by decide +kernel
theorem dX7_sheetOf_9 : decode cX7_sheetOf 9 = .ok (.invokestatic 67, 3) := by decide +kernel
theorem dX7_sheetOf_12 : decode cX7_sheetOf 12 = .ok (.ifCond .eq 12, 3) := by decide +kernel
theorem dX7_sheetOf_15 : decode cX7_sheetOf 15 = .ok (.aload_n 0, 1) := by decide +kernel
theorem dX7_sheetOf_16 : decode cX7_sheetOf 16 = .ok (.getfield 39, 3) := by decide +kernel
theorem dX7_sheetOf_19 : decode cX7_sheetOf 19 = .ok (.iload_n 1, 1) := by decide +kernel
theorem dX7_sheetOf_20 : decode cX7_sheetOf 20 = .ok (.aaload, 1) := by decide +kernel
theorem dX7_sheetOf_21 : decode cX7_sheetOf 21 = .ok (.goto 4, 3) := by decide +kernel
theorem dX7_sheetOf_24 : decode cX7_sheetOf 24 = .ok (.aconst_null, 1) := by decide +kernel
theorem dX7_sheetOf_25 : decode cX7_sheetOf 25 = .ok (.areturn, 1) := by decide +kernel
theorem dX7_gainOf_0 : decode cX7_gainOf 0 = .ok (.aload_n 0, 1) := by decide +kernel
theorem dX7_gainOf_1 : decode cX7_gainOf 1 = .ok (.getfield 19, 3) := by decide +kernel
theorem dX7_gainOf_4 : decode cX7_gainOf 4 = .ok (.iload_n 1, 1) := by decide +kernel
theorem dX7_gainOf_5 : decode cX7_gainOf 5 = .ok (.invokevirtual 106, 3) := by decide +kernel
theorem dX7_gainOf_8 : decode cX7_gainOf 8 = .ok (.aload_n 0, 1) := by decide +kernel
theorem dX7_gainOf_9 : decode cX7_gainOf 9 = .ok (.getfield 10, 3) := by decide +kernel
theorem dX7_gainOf_12 : decode cX7_gainOf 12 = .ok (.iload_n 2, 1) := by decide +kernel
theorem dX7_gainOf_13 : decode cX7_gainOf 13 = .ok (.invokevirtual 137, 3) := by decide +kernel
theorem dX7_gainOf_16 : decode cX7_gainOf 16 = .ok (.imul, 1) := by decide +kernel
theorem dX7_gainOf_17 : decode cX7_gainOf 17 = .ok (.ireturn, 1) := by decide +kernel
theorem dX7_mostPaid_0 : decode cX7_mostPaid 0 = .ok (.aload_n 0, 1) := by decide +kernel
theorem dX7_mostPaid_1 : decode cX7_mostPaid 1 = .ok (.getfield 19, 3) := by decide +kernel
theorem dX7_mostPaid_4 : decode cX7_mostPaid 4 = .ok (.iload_n 1, 1) := by decide +kernel
theorem dX7_mostPaid_5 : decode cX7_mostPaid 5 = .ok (.invokevirtual 103, 3) := by decide +kernel
theorem dX7_mostPaid_8 : decode cX7_mostPaid 8 = .ok (.aload_n 0, 1) := by decide +kernel
theorem dX7_mostPaid_9 : decode cX7_mostPaid 9 = .ok (.iload_n 1, 1) := by decide +kernel
theorem dX7_mostPaid_10 : decode cX7_mostPaid 10 = .ok (.iload_n 2, 1) := by decide +kernel
theorem dX7_mostPaid_11 : decode cX7_mostPaid 11 = .ok (.invokevirtual 140, 3) := by decide +kernel
theorem dX7_mostPaid_14 : decode cX7_mostPaid 14 = .ok (.invokestatic 176, 3) := by decide +kernel
theorem dX7_mostPaid_17 : decode cX7_mostPaid 17 = .ok (.ireturn, 1) := by decide +kernel
theorem dX7_actAt_0 : decode cX7_actAt 0 = .ok (.iload_n 2, 1) := by decide +kernel
theorem dX7_actAt_1 : decode cX7_actAt 1 = .ok (.aload_n 0, 1) := by decide +kernel
theorem dX7_actAt_2 : decode cX7_actAt 2 = .ok (.getfield 10, 3) := by decide +kernel
theorem dX7_actAt_5 : decode cX7_actAt 5 = .ok (.invokevirtual 128, 3) := by decide +kernel
theorem dX7_actAt_8 : decode cX7_actAt 8 = .ok (.iand, 1) := by decide +kernel
theorem dX7_actAt_9 : decode cX7_actAt 9 = .ok (.ifCond .eq 7, 3) := by decide +kernel
theorem dX7_actAt_12 : decode cX7_actAt 12 = .ok (.iconst 1, 1) := by decide +kernel
theorem dX7_actAt_13 : decode cX7_actAt 13 = .ok (.goto 4, 3) := by decide +kernel
theorem dX7_actAt_16 : decode cX7_actAt 16 = .ok (.iconst 0, 1) := by decide +kernel
theorem dX7_actAt_17 : decode cX7_actAt 17 = .ok (.istore 4, 2) := by decide +kernel
theorem dX7_actAt_19 : decode cX7_actAt 19 = .ok (.iload 4, 2) := by decide +kernel
theorem dX7_actAt_21 : decode cX7_actAt 21 = .ok (.ifCond .eq 17, 3) := by decide +kernel
theorem dX7_actAt_24 : decode cX7_actAt 24 = .ok (.aload_n 0, 1) := by decide +kernel
theorem dX7_actAt_25 : decode cX7_actAt 25 = .ok (.iload_n 1, 1) := by decide +kernel
theorem dX7_actAt_26 : decode cX7_actAt 26 = .ok (.iload_n 2, 1) := by decide +kernel
theorem dX7_actAt_27 : decode cX7_actAt 27 = .ok (.invokevirtual 168, 3) := by decide +kernel
theorem dX7_actAt_30 : decode cX7_actAt 30 = .ok (.iload_n 3, 1) := by decide +kernel
theorem dX7_actAt_31 : decode cX7_actAt 31 = .ok (.if_icmp .lt 7, 3) := by decide +kernel
theorem dX7_actAt_34 : decode cX7_actAt 34 = .ok (.iconst 2, 1) := by decide +kernel
theorem dX7_actAt_35 : decode cX7_actAt 35 = .ok (.goto 4, 3) := by decide +kernel
theorem dX7_actAt_38 : decode cX7_actAt 38 = .ok (.iconst 0, 1) := by decide +kernel
theorem dX7_actAt_39 : decode cX7_actAt 39 = .ok (.ireturn, 1) := by decide +kernel
theorem dX7_burnByLots_0 : decode cX7_burnByLots 0 = .ok (.iload_n 1, 1) := by decide +kernel
theorem dX7_burnByLots_1 : decode cX7_burnByLots 1 = .ok (.istore_n 3, 1) := by decide +kernel
theorem dX7_burnByLots_2 : decode cX7_burnByLots 2 = .ok (.iconst 0, 1) := by decide +kernel
theorem dX7_burnByLots_3 : decode cX7_burnByLots 3 = .ok (.istore 4, 2) := by decide +kernel
theorem dX7_burnByLots_5 : decode cX7_burnByLots 5 = .ok (.iload 4, 2) := by decide +kernel
theorem dX7_burnByLots_7 : decode cX7_burnByLots 7 = .ok (.aload_n 0, 1) := by decide +kernel
theorem dX7_burnByLots_8 : decode cX7_burnByLots 8 = .ok (.getfield 47, 3) := by decide +kernel
theorem dX7_burnByLots_11 : decode cX7_burnByLots 11 = .ok (.if_icmp .ge 32, 3) := by decide +kernel
theorem dX7_burnByLots_14 : decode cX7_burnByLots 14 = .ok (.iload_n 3, 1) := by decide +kernel
theorem dX7_burnByLots_15 : decode cX7_burnByLots 15 = .ok (.ifCond .eq 28, 3) := by decide +kernel
theorem dX7_burnByLots_18 : decode cX7_burnByLots 18 = .ok (.iload_n 3, 1) := by decide +kernel
theorem dX7_burnByLots_19 : decode cX7_burnByLots 19 = .ok (.iconst 1, 1) := by decide +kernel
theorem dX7_burnByLots_20 : decode cX7_burnByLots 20 = .ok (.iload_n 3, 1) := by decide +kernel
theorem dX7_burnByLots_21 : decode cX7_burnByLots 21 = .ok (.aload_n 2, 1) := by decide +kernel
theorem dX7_burnByLots_22 : decode cX7_burnByLots 22 = .ok (.iload_n 3, 1) := by decide +kernel
theorem dX7_burnByLots_23 : decode cX7_burnByLots 23 = .ok (.invokestatic 147, 3) := by decide +kernel
theorem dX7_burnByLots_26 : decode cX7_burnByLots 26 = .ok (.invokevirtual 203, 3) := by decide +kernel
theorem dX7_burnByLots_29 : decode cX7_burnByLots 29 = .ok (.invokestatic 307, 3) := by decide +kernel
theorem dX7_burnByLots_32 : decode cX7_burnByLots 32 = .ok (.ishl, 1) := by decide +kernel
theorem dX7_burnByLots_33 : decode cX7_burnByLots 33 = .ok (.iconst (-1), 1) := by decide +kernel
theorem dX7_burnByLots_34 : decode cX7_burnByLots 34 = .ok (.ixor, 1) := by decide +kernel
theorem dX7_burnByLots_35 : decode cX7_burnByLots 35 = .ok (.iand, 1) := by decide +kernel
theorem dX7_burnByLots_36 : decode cX7_burnByLots 36 = .ok (.istore_n 3, 1) := by decide +kernel
theorem dX7_burnByLots_37 : decode cX7_burnByLots 37 = .ok (.iinc 4 1, 3) := by decide +kernel
theorem dX7_burnByLots_40 : decode cX7_burnByLots 40 = .ok (.goto (-35), 3) := by decide +kernel
theorem dX7_burnByLots_43 : decode cX7_burnByLots 43 = .ok (.iload_n 3, 1) := by decide +kernel
theorem dX7_burnByLots_44 : decode cX7_burnByLots 44 = .ok (.ireturn, 1) := by decide +kernel
theorem dX7_bookAt_0 : decode cX7_bookAt 0 = .ok (.iload_n 0, 1) := by decide +kernel
theorem dX7_bookAt_1 : decode cX7_bookAt 1 = .ok (.istore_n 2, 1) := by decide +kernel
theorem dX7_bookAt_2 : decode cX7_bookAt 2 = .ok (.iconst 0, 1) := by decide +kernel
theorem dX7_bookAt_3 : decode cX7_bookAt 3 = .ok (.istore_n 3, 1) := by decide +kernel
theorem dX7_bookAt_4 : decode cX7_bookAt 4 = .ok (.iload_n 3, 1) := by decide +kernel
theorem dX7_bookAt_5 : decode cX7_bookAt 5 = .ok (.iload_n 1, 1) := by decide +kernel
theorem dX7_bookAt_6 : decode cX7_bookAt 6 = .ok (.if_icmp .ge 15, 3) := by decide +kernel
theorem dX7_bookAt_9 : decode cX7_bookAt 9 = .ok (.iload_n 2, 1) := by decide +kernel
theorem dX7_bookAt_10 : decode cX7_bookAt 10 = .ok (.iload_n 2, 1) := by decide +kernel
theorem dX7_bookAt_11 : decode cX7_bookAt 11 = .ok (.iconst 1, 1) := by decide +kernel
theorem dX7_bookAt_12 : decode cX7_bookAt 12 = .ok (.isub, 1) := by decide +kernel
theorem dX7_bookAt_13 : decode cX7_bookAt 13 = .ok (.iand, 1) := by decide +kernel
theorem dX7_bookAt_14 : decode cX7_bookAt 14 = .ok (.istore_n 2, 1) := by decide +kernel
theorem dX7_bookAt_15 : decode cX7_bookAt 15 = .ok (.iinc 3 1, 3) := by decide +kernel
theorem dX7_bookAt_18 : decode cX7_bookAt 18 = .ok (.goto (-14), 3) := by decide +kernel
theorem dX7_bookAt_21 : decode cX7_bookAt 21 = .ok (.iload_n 2, 1) := by decide +kernel
theorem dX7_bookAt_22 : decode cX7_bookAt 22 = .ok (.invokestatic 310, 3) := by decide +kernel
theorem dX7_bookAt_25 : decode cX7_bookAt 25 = .ok (.ireturn, 1) := by decide +kernel
theorem dX7_power_0 : decode cX7_power 0 = .ok (.lconst 1, 1) := by decide +kernel
theorem dX7_power_1 : decode cX7_power 1 = .ok (.lstore_n 2, 1) := by decide +kernel
theorem dX7_power_2 : decode cX7_power 2 = .ok (.iconst 0, 1) := by decide +kernel
theorem dX7_power_3 : decode cX7_power 3 = .ok (.istore 4, 2) := by decide +kernel
theorem dX7_power_5 : decode cX7_power 5 = .ok (.iload 4, 2) := by decide +kernel
theorem dX7_power_7 : decode cX7_power 7 = .ok (.iload_n 1, 1) := by decide +kernel
theorem dX7_power_8 : decode cX7_power 8 = .ok (.if_icmp .ge 14, 3) := by decide +kernel
theorem dX7_power_11 : decode cX7_power 11 = .ok (.lload_n 2, 1) := by decide +kernel
theorem dX7_power_12 : decode cX7_power 12 = .ok (.iload_n 0, 1) := by decide +kernel
theorem dX7_power_13 : decode cX7_power 13 = .ok (.i2l, 1) := by decide +kernel
theorem dX7_power_14 : decode cX7_power 14 = .ok (.lmul, 1) := by decide +kernel
theorem dX7_power_15 : decode cX7_power 15 = .ok (.lstore_n 2, 1) := by decide +kernel
theorem dX7_power_16 : decode cX7_power 16 = .ok (.iinc 4 1, 3) := by decide +kernel
theorem dX7_power_19 : decode cX7_power 19 = .ok (.goto (-14), 3) := by decide +kernel
theorem dX7_power_22 : decode cX7_power 22 = .ok (.lload_n 2, 1) := by decide +kernel
theorem dX7_power_23 : decode cX7_power 23 = .ok (.lreturn, 1) := by decide +kernel
theorem dX7_refused_0 : decode cX7_refused 0 = .ok (.ldc2_w 313, 3) := by decide +kernel
theorem dX7_refused_3 : decode cX7_refused 3 = .ok (.iload_n 0, 1) := by decide +kernel
theorem dX7_refused_4 : decode cX7_refused 4 = .ok (.i2l, 1) := by decide +kernel
theorem dX7_refused_5 : decode cX7_refused 5 = .ok (.lsub, 1) := by decide +kernel
theorem dX7_refused_6 : decode cX7_refused 6 = .ok (.lreturn, 1) := by decide +kernel
theorem dX7_whole_0 : decode cX7_whole 0 = .ok (.iload_n 2, 1) := by decide +kernel
theorem dX7_whole_1 : decode cX7_whole 1 = .ok (.ifCond .ne 7, 3) := by decide +kernel
theorem dX7_whole_4 : decode cX7_whole 4 = .ok (.lload_n 0, 1) := by decide +kernel
theorem dX7_whole_5 : decode cX7_whole 5 = .ok (.goto 4, 3) := by decide +kernel
theorem dX7_whole_8 : decode cX7_whole 8 = .ok (.lconst 1, 1) := by decide +kernel
theorem dX7_whole_9 : decode cX7_whole 9 = .ok (.lreturn, 1) := by decide +kernel
theorem dX7_inLowestTerms_0 : decode cX7_inLowestTerms 0 = .ok (.lload_n 0, 1) := by decide +kernel
theorem dX7_inLowestTerms_1 : decode cX7_inLowestTerms 1 = .ok (.lload_n 2, 1) := by decide +kernel
theorem dX7_inLowestTerms_2 : decode cX7_inLowestTerms 2 = .ok (.invokestatic 315, 3) := by decide +kernel
theorem dX7_inLowestTerms_5 : decode cX7_inLowestTerms 5 = .ok (.lstore 5, 2) := by decide +kernel
theorem dX7_inLowestTerms_7 : decode cX7_inLowestTerms 7 = .ok (.iload 4, 2) := by decide +kernel
theorem dX7_inLowestTerms_9 : decode cX7_inLowestTerms 9 = .ok (.ifCond .ne 7, 3) := by decide +kernel
theorem dX7_inLowestTerms_12 : decode cX7_inLowestTerms 12 = .ok (.lload_n 0, 1) := by decide +kernel
theorem dX7_inLowestTerms_13 : decode cX7_inLowestTerms 13 = .ok (.goto 4, 3) := by decide +kernel
theorem dX7_inLowestTerms_16 : decode cX7_inLowestTerms 16 = .ok (.lload_n 2, 1) := by decide +kernel
theorem dX7_inLowestTerms_17 : decode cX7_inLowestTerms 17 = .ok (.lstore 7, 2) := by decide +kernel
theorem dX7_inLowestTerms_19 : decode cX7_inLowestTerms 19 = .ok (.lload 5, 2) := by decide +kernel
theorem dX7_inLowestTerms_21 : decode cX7_inLowestTerms 21 = .ok (.lconst 0, 1) := by decide +kernel
theorem dX7_inLowestTerms_22 : decode cX7_inLowestTerms 22 = .ok (.lcmp, 1) := by decide +kernel
theorem dX7_inLowestTerms_23 : decode cX7_inLowestTerms 23 = .ok (.ifCond .ne 8, 3) := by decide +kernel
theorem dX7_inLowestTerms_26 : decode cX7_inLowestTerms 26 = .ok (.lload 7, 2) := by decide +kernel
theorem dX7_inLowestTerms_28 : decode cX7_inLowestTerms 28 = .ok (.goto 8, 3) := by decide +kernel
theorem dX7_inLowestTerms_31 : decode cX7_inLowestTerms 31 = .ok (.lload 7, 2) := by decide +kernel
theorem dX7_inLowestTerms_33 : decode cX7_inLowestTerms 33 = .ok (.lload 5, 2) := by decide +kernel
theorem dX7_inLowestTerms_35 : decode cX7_inLowestTerms 35 = .ok (.ldiv, 1) := by decide +kernel
theorem dX7_inLowestTerms_36 : decode cX7_inLowestTerms 36 = .ok (.lreturn, 1) := by decide +kernel
theorem dX7_commonDivisor_0 : decode cX7_commonDivisor 0 = .ok (.lload_n 0, 1) := by decide +kernel
theorem dX7_commonDivisor_1 : decode cX7_commonDivisor 1 = .ok (.lstore 4, 2) := by decide +kernel
theorem dX7_commonDivisor_3 : decode cX7_commonDivisor 3 = .ok (.lload_n 2, 1) := by decide +kernel
theorem dX7_commonDivisor_4 : decode cX7_commonDivisor 4 = .ok (.lstore 6, 2) := by decide +kernel
theorem dX7_commonDivisor_6 : decode cX7_commonDivisor 6 = .ok (.iconst 0, 1) := by decide +kernel
theorem dX7_commonDivisor_7 : decode cX7_commonDivisor 7 = .ok (.istore 8, 2) := by decide +kernel
theorem dX7_commonDivisor_9 : decode cX7_commonDivisor 9 = .ok (.iload 8, 2) := by decide +kernel
theorem dX7_commonDivisor_11 : decode cX7_commonDivisor 11 = .ok (.bipush 100, 2) := by decide +kernel
theorem dX7_commonDivisor_13 : decode cX7_commonDivisor 13 = .ok (.if_icmp .ge 31, 3) := by decide +kernel
theorem dX7_commonDivisor_16 : decode cX7_commonDivisor 16 = .ok (.lload 6, 2) := by decide +kernel
theorem dX7_commonDivisor_18 : decode cX7_commonDivisor 18 = .ok (.lconst 0, 1) := by decide +kernel
theorem dX7_commonDivisor_19 : decode cX7_commonDivisor 19 = .ok (.lcmp, 1) := by decide +kernel
theorem dX7_commonDivisor_20 : decode cX7_commonDivisor 20 = .ok (.ifCond .eq 24, 3) := by decide +kernel
theorem dX7_commonDivisor_23 : decode cX7_commonDivisor 23 = .ok (.lload 4, 2) := by decide +kernel
theorem dX7_commonDivisor_25 : decode cX7_commonDivisor 25 = .ok (.lload 6, 2) := by decide +kernel
theorem dX7_commonDivisor_27 : decode cX7_commonDivisor 27 = .ok (.lrem, 1) := by decide +kernel
theorem dX7_commonDivisor_28 : decode cX7_commonDivisor 28 = .ok (.lstore 9, 2) := by decide +kernel
theorem dX7_commonDivisor_30 : decode cX7_commonDivisor 30 = .ok (.lload 6, 2) := by decide +kernel
theorem dX7_commonDivisor_32 : decode cX7_commonDivisor 32 = .ok (.lstore 4, 2) := by decide +kernel
theorem dX7_commonDivisor_34 : decode cX7_commonDivisor 34 = .ok (.lload 9, 2) := by decide +kernel
theorem dX7_commonDivisor_36 : decode cX7_commonDivisor 36 = .ok (.lstore 6, 2) := by decide +kernel
theorem dX7_commonDivisor_38 : decode cX7_commonDivisor 38 = .ok (.iinc 8 1, 3) := by decide +kernel
theorem dX7_commonDivisor_41 : decode cX7_commonDivisor 41 = .ok (.goto (-32), 3) := by decide +kernel
theorem dX7_commonDivisor_44 : decode cX7_commonDivisor 44 = .ok (.lload 4, 2) := by decide +kernel
theorem dX7_commonDivisor_46 : decode cX7_commonDivisor 46 = .ok (.lreturn, 1) := by decide +kernel
theorem dX7_found_0 : decode cX7_found 0 = .ok (.aload_n 0, 1) := by decide +kernel
theorem dX7_found_1 : decode cX7_found 1 = .ok (.iload_n 1, 1) := by decide +kernel
theorem dX7_found_2 : decode cX7_found 2 = .ok (.putfield 59, 3) := by decide +kernel
theorem dX7_found_5 : decode cX7_found 5 = .ok (.bipush (-10), 2) := by decide +kernel
theorem dX7_found_7 : decode cX7_found 7 = .ok (.iload_n 1, 1) := by decide +kernel
theorem dX7_found_8 : decode cX7_found 8 = .ok (.isub, 1) := by decide +kernel
theorem dX7_found_9 : decode cX7_found 9 = .ok (.ireturn, 1) := by decide +kernel
theorem dX7_itemRefusal_0 : decode cX7_itemRefusal 0 = .ok (.aload_n 0, 1) := by decide +kernel
theorem dX7_itemRefusal_1 : decode cX7_itemRefusal 1 = .ok (.iload_n 1, 1) := by decide +kernel
theorem dX7_itemRefusal_2 : decode cX7_itemRefusal 2 = .ok (.invokevirtual 111, 3) := by decide +kernel
theorem dX7_itemRefusal_5 : decode cX7_itemRefusal 5 = .ok (.astore 4, 2) := by decide +kernel
theorem dX7_itemRefusal_7 : decode cX7_itemRefusal 7 = .ok (.aload 4, 2) := by decide +kernel
theorem dX7_itemRefusal_9 : decode cX7_itemRefusal 9 = .ok (.ifnull 12, 3) := by decide +kernel
theorem dX7_itemRefusal_12 : decode cX7_itemRefusal 12 = .ok (.iload_n 2, 1) := by decide +kernel
theorem dX7_itemRefusal_13 : decode cX7_itemRefusal 13 = .ok (.iconst 0, 1) := by decide +kernel
theorem dX7_itemRefusal_14 : decode cX7_itemRefusal 14 = .ok (.iconst 2, 1) := by decide +kernel
theorem dX7_itemRefusal_15 : decode cX7_itemRefusal 15 = .ok (.invokestatic 67, 3) := by decide +kernel
theorem dX7_itemRefusal_18 : decode cX7_itemRefusal 18 = .ok (.ifCond .ne 6, 3) := by decide +kernel
theorem dX7_itemRefusal_21 : decode cX7_itemRefusal 21 = .ok (.bipush (-2), 2) := by decide +kernel
theorem dX7_itemRefusal_23 : decode cX7_itemRefusal 23 = .ok (.ireturn, 1) := by decide +kernel
theorem dX7_itemRefusal_24 : decode cX7_itemRefusal 24 = .ok (.aload 4, 2) := by decide +kernel
theorem dX7_itemRefusal_26 : decode cX7_itemRefusal 26 = .ok (.invokevirtual 115, 3) := by decide +kernel
theorem dX7_itemRefusal_29 : decode cX7_itemRefusal 29 = .ok (.ifCond .eq 9, 3) := by decide +kernel
theorem dX7_itemRefusal_32 : decode cX7_itemRefusal 32 = .ok (.aload_n 0, 1) := by decide +kernel
theorem dX7_itemRefusal_33 : decode cX7_itemRefusal 33 = .ok (.iconst 1, 1) := by decide +kernel
theorem dX7_itemRefusal_34 : decode cX7_itemRefusal 34 = .ok (.invokevirtual 119, 3) := by decide +kernel
theorem dX7_itemRefusal_37 : decode cX7_itemRefusal 37 = .ok (.ireturn, 1) := by decide +kernel
theorem dX7_itemRefusal_38 : decode cX7_itemRefusal 38 = .ok (.aload 4, 2) := by decide +kernel
theorem dX7_itemRefusal_40 : decode cX7_itemRefusal 40 = .ok (.invokevirtual 224, 3) := by decide +kernel
theorem dX7_itemRefusal_43 : decode cX7_itemRefusal 43 = .ok (.iload_n 2, 1) := by decide +kernel
theorem dX7_itemRefusal_44 : decode cX7_itemRefusal 44 = .ok (.if_icmp .eq 9, 3) := by decide +kernel
theorem dX7_itemRefusal_47 : decode cX7_itemRefusal 47 = .ok (.aload_n 0, 1) := by decide +kernel
theorem dX7_itemRefusal_48 : decode cX7_itemRefusal 48 = .ok (.iconst 3, 1) := by decide +kernel
theorem dX7_itemRefusal_49 : decode cX7_itemRefusal 49 = .ok (.invokevirtual 119, 3) := by decide +kernel
theorem dX7_itemRefusal_52 : decode cX7_itemRefusal 52 = .ok (.ireturn, 1) := by decide +kernel
theorem dX7_itemRefusal_53 : decode cX7_itemRefusal 53 = .ok (.aload 4, 2) := by decide +kernel
theorem dX7_itemRefusal_55 : decode cX7_itemRefusal 55 = .ok (.iload_n 3, 1) := by decide +kernel
theorem dX7_itemRefusal_56 : decode cX7_itemRefusal 56 = .ok (.invokevirtual 318, 3) := by decide +kernel
theorem dX7_itemRefusal_59 : decode cX7_itemRefusal 59 = .ok (.ifCond .eq 7, 3) := by decide +kernel
theorem dX7_itemRefusal_62 : decode cX7_itemRefusal 62 = .ok (.iconst 0, 1) := by decide +kernel
theorem dX7_itemRefusal_63 : decode cX7_itemRefusal 63 = .ok (.goto 8, 3) := by decide +kernel
theorem dX7_itemRefusal_66 : decode cX7_itemRefusal 66 = .ok (.aload_n 0, 1) := by decide +kernel
theorem dX7_itemRefusal_67 : decode cX7_itemRefusal 67 = .ok (.iconst 2, 1) := by decide +kernel
theorem dX7_itemRefusal_68 : decode cX7_itemRefusal 68 = .ok (.invokevirtual 119, 3) := by decide +kernel
theorem dX7_itemRefusal_71 : decode cX7_itemRefusal 71 = .ok (.ireturn, 1) := by decide +kernel
theorem dJ6_numberOfTrailingZeros_0f7a4_0 : decode cJ6_numberOfTrailingZeros_0f7a4 0 = .ok (.iload_n 0, 1) := by decide +kernel
theorem dJ6_numberOfTrailingZeros_0f7a4_1 : decode cJ6_numberOfTrailingZeros_0f7a4 1 = .ok (.iconst (-1), 1) := by decide +kernel
theorem dJ6_numberOfTrailingZeros_0f7a4_2 : decode cJ6_numberOfTrailingZeros_0f7a4 2 = .ok (.ixor, 1) := by decide +kernel
theorem dJ6_numberOfTrailingZeros_0f7a4_3 : decode cJ6_numberOfTrailingZeros_0f7a4 3 = .ok (.iload_n 0, 1) := by decide +kernel
theorem dJ6_numberOfTrailingZeros_0f7a4_4 : decode cJ6_numberOfTrailingZeros_0f7a4 4 = .ok (.iconst 1, 1) := by decide +kernel
theorem dJ6_numberOfTrailingZeros_0f7a4_5 : decode cJ6_numberOfTrailingZeros_0f7a4 5 = .ok (.isub, 1) := by decide +kernel
theorem dJ6_numberOfTrailingZeros_0f7a4_6 : decode cJ6_numberOfTrailingZeros_0f7a4 6 = .ok (.iand, 1) := by decide +kernel
theorem dJ6_numberOfTrailingZeros_0f7a4_7 : decode cJ6_numberOfTrailingZeros_0f7a4 7 = .ok (.istore_n 0, 1) := by decide +kernel
theorem dJ6_numberOfTrailingZeros_0f7a4_8 : decode cJ6_numberOfTrailingZeros_0f7a4 8 = .ok (.iload_n 0, 1) := by decide +kernel
theorem dJ6_numberOfTrailingZeros_0f7a4_9 : decode cJ6_numberOfTrailingZeros_0f7a4 9 = .ok (.ifCond .gt 8, 3) := by decide +kernel
theorem dJ6_numberOfTrailingZeros_0f7a4_12 : decode cJ6_numberOfTrailingZeros_0f7a4 12 = .ok (.iload_n 0, 1) := by decide +kernel
theorem dJ6_numberOfTrailingZeros_0f7a4_13 : decode cJ6_numberOfTrailingZeros_0f7a4 13 = .ok (.bipush 32, 2) := by decide +kernel
theorem dJ6_numberOfTrailingZeros_0f7a4_15 : decode cJ6_numberOfTrailingZeros_0f7a4 15 = .ok (.iand, 1) := by decide +kernel
theorem dJ6_numberOfTrailingZeros_0f7a4_16 : decode cJ6_numberOfTrailingZeros_0f7a4 16 = .ok (.ireturn, 1) := by decide +kernel
theorem dJ6_numberOfTrailingZeros_0f7a4_17 : decode cJ6_numberOfTrailingZeros_0f7a4 17 = .ok (.iconst 1, 1) := by decide +kernel
theorem dJ6_numberOfTrailingZeros_0f7a4_18 : decode cJ6_numberOfTrailingZeros_0f7a4 18 = .ok (.istore_n 1, 1) := by decide +kernel
theorem dJ6_numberOfTrailingZeros_0f7a4_19 : decode cJ6_numberOfTrailingZeros_0f7a4 19 = .ok (.iload_n 0, 1) := by decide +kernel
theorem dJ6_numberOfTrailingZeros_0f7a4_20 : decode cJ6_numberOfTrailingZeros_0f7a4 20 = .ok (.ldc_w 264, 3) := by decide +kernel
theorem dJ6_numberOfTrailingZeros_0f7a4_23 : decode cJ6_numberOfTrailingZeros_0f7a4 23 = .ok (.if_icmp .le 11, 3) := by decide +kernel
theorem dJ6_numberOfTrailingZeros_0f7a4_26 : decode cJ6_numberOfTrailingZeros_0f7a4 26 = .ok (.iinc 1 16, 3) := by decide +kernel
theorem dJ6_numberOfTrailingZeros_0f7a4_29 : decode cJ6_numberOfTrailingZeros_0f7a4 29 = .ok (.iload_n 0, 1) := by decide +kernel
theorem dJ6_numberOfTrailingZeros_0f7a4_30 : decode cJ6_numberOfTrailingZeros_0f7a4 30 = .ok (.bipush 16, 2) := by decide +kernel
theorem dJ6_numberOfTrailingZeros_0f7a4_32 : decode cJ6_numberOfTrailingZeros_0f7a4 32 = .ok (.iushr, 1) := by decide +kernel
theorem dJ6_numberOfTrailingZeros_0f7a4_33 : decode cJ6_numberOfTrailingZeros_0f7a4 33 = .ok (.istore_n 0, 1) := by decide +kernel
theorem dJ6_numberOfTrailingZeros_0f7a4_34 : decode cJ6_numberOfTrailingZeros_0f7a4 34 = .ok (.iload_n 0, 1) := by decide +kernel
theorem dJ6_numberOfTrailingZeros_0f7a4_35 : decode cJ6_numberOfTrailingZeros_0f7a4 35 = .ok (.sipush 256, 3) := by decide +kernel
theorem dJ6_numberOfTrailingZeros_0f7a4_38 : decode cJ6_numberOfTrailingZeros_0f7a4 38 = .ok (.if_icmp .le 11, 3) := by decide +kernel
theorem dJ6_numberOfTrailingZeros_0f7a4_41 : decode cJ6_numberOfTrailingZeros_0f7a4 41 = .ok (.iinc 1 8, 3) := by decide +kernel
theorem dJ6_numberOfTrailingZeros_0f7a4_44 : decode cJ6_numberOfTrailingZeros_0f7a4 44 = .ok (.iload_n 0, 1) := by decide +kernel
theorem dJ6_numberOfTrailingZeros_0f7a4_45 : decode cJ6_numberOfTrailingZeros_0f7a4 45 = .ok (.bipush 8, 2) := by decide +kernel
theorem dJ6_numberOfTrailingZeros_0f7a4_47 : decode cJ6_numberOfTrailingZeros_0f7a4 47 = .ok (.iushr, 1) := by decide +kernel
theorem dJ6_numberOfTrailingZeros_0f7a4_48 : decode cJ6_numberOfTrailingZeros_0f7a4 48 = .ok (.istore_n 0, 1) := by decide +kernel
theorem dJ6_numberOfTrailingZeros_0f7a4_49 : decode cJ6_numberOfTrailingZeros_0f7a4 49 = .ok (.iload_n 0, 1) := by decide +kernel
theorem dJ6_numberOfTrailingZeros_0f7a4_50 : decode cJ6_numberOfTrailingZeros_0f7a4 50 = .ok (.bipush 16, 2) := by decide +kernel
theorem dJ6_numberOfTrailingZeros_0f7a4_52 : decode cJ6_numberOfTrailingZeros_0f7a4 52 = .ok (.if_icmp .le 10, 3) := by decide +kernel
theorem dJ6_numberOfTrailingZeros_0f7a4_55 : decode cJ6_numberOfTrailingZeros_0f7a4 55 = .ok (.iinc 1 4, 3) := by decide +kernel
theorem dJ6_numberOfTrailingZeros_0f7a4_58 : decode cJ6_numberOfTrailingZeros_0f7a4 58 = .ok (.iload_n 0, 1) := by decide +kernel
theorem dJ6_numberOfTrailingZeros_0f7a4_59 : decode cJ6_numberOfTrailingZeros_0f7a4 59 = .ok (.iconst 4, 1) := by decide +kernel
theorem dJ6_numberOfTrailingZeros_0f7a4_60 : decode cJ6_numberOfTrailingZeros_0f7a4 60 = .ok (.iushr, 1) := by decide +kernel
theorem dJ6_numberOfTrailingZeros_0f7a4_61 : decode cJ6_numberOfTrailingZeros_0f7a4 61 = .ok (.istore_n 0, 1) := by decide +kernel
theorem dJ6_numberOfTrailingZeros_0f7a4_62 : decode cJ6_numberOfTrailingZeros_0f7a4 62 = .ok (.iload_n 0, 1) := by decide +kernel
theorem dJ6_numberOfTrailingZeros_0f7a4_63 : decode cJ6_numberOfTrailingZeros_0f7a4 63 = .ok (.iconst 4, 1) := by decide +kernel
theorem dJ6_numberOfTrailingZeros_0f7a4_64 : decode cJ6_numberOfTrailingZeros_0f7a4 64 = .ok (.if_icmp .le 10, 3) := by decide +kernel
theorem dJ6_numberOfTrailingZeros_0f7a4_67 : decode cJ6_numberOfTrailingZeros_0f7a4 67 = .ok (.iinc 1 2, 3) := by decide +kernel
theorem dJ6_numberOfTrailingZeros_0f7a4_70 : decode cJ6_numberOfTrailingZeros_0f7a4 70 = .ok (.iload_n 0, 1) := by decide +kernel
theorem dJ6_numberOfTrailingZeros_0f7a4_71 : decode cJ6_numberOfTrailingZeros_0f7a4 71 = .ok (.iconst 2, 1) := by decide +kernel
theorem dJ6_numberOfTrailingZeros_0f7a4_72 : decode cJ6_numberOfTrailingZeros_0f7a4 72 = .ok (.iushr, 1) := by decide +kernel
theorem dJ6_numberOfTrailingZeros_0f7a4_73 : decode cJ6_numberOfTrailingZeros_0f7a4 73 = .ok (.istore_n 0, 1) := by decide +kernel
theorem dJ6_numberOfTrailingZeros_0f7a4_74 : decode cJ6_numberOfTrailingZeros_0f7a4 74 = .ok (.iload_n 1, 1) := by decide +kernel
theorem dJ6_numberOfTrailingZeros_0f7a4_75 : decode cJ6_numberOfTrailingZeros_0f7a4 75 = .ok (.iload_n 0, 1) := by decide +kernel
theorem dJ6_numberOfTrailingZeros_0f7a4_76 : decode cJ6_numberOfTrailingZeros_0f7a4 76 = .ok (.iconst 1, 1) := by decide +kernel
theorem dJ6_numberOfTrailingZeros_0f7a4_77 : decode cJ6_numberOfTrailingZeros_0f7a4 77 = .ok (.iushr, 1) := by decide +kernel
theorem dJ6_numberOfTrailingZeros_0f7a4_78 : decode cJ6_numberOfTrailingZeros_0f7a4 78 = .ok (.iadd, 1) := by decide +kernel
theorem dJ6_numberOfTrailingZeros_0f7a4_79 : decode cJ6_numberOfTrailingZeros_0f7a4 79 = .ok (.ireturn, 1) := by decide +kernel
theorem dJ6_bitCount_0f7a4_0 : decode cJ6_bitCount_0f7a4 0 = .ok (.iload_n 0, 1) := by decide +kernel
theorem dJ6_bitCount_0f7a4_1 : decode cJ6_bitCount_0f7a4 1 = .ok (.iload_n 0, 1) := by decide +kernel
theorem dJ6_bitCount_0f7a4_2 : decode cJ6_bitCount_0f7a4 2 = .ok (.iconst 1, 1) := by decide +kernel
theorem dJ6_bitCount_0f7a4_3 : decode cJ6_bitCount_0f7a4 3 = .ok (.iushr, 1) := by decide +kernel
theorem dJ6_bitCount_0f7a4_4 : decode cJ6_bitCount_0f7a4 4 = .ok (.ldc_w 265, 3) := by decide +kernel
theorem dJ6_bitCount_0f7a4_7 : decode cJ6_bitCount_0f7a4 7 = .ok (.iand, 1) := by decide +kernel
theorem dJ6_bitCount_0f7a4_8 : decode cJ6_bitCount_0f7a4 8 = .ok (.isub, 1) := by decide +kernel
theorem dJ6_bitCount_0f7a4_9 : decode cJ6_bitCount_0f7a4 9 = .ok (.istore_n 0, 1) := by decide +kernel
theorem dJ6_bitCount_0f7a4_10 : decode cJ6_bitCount_0f7a4 10 = .ok (.iload_n 0, 1) := by decide +kernel
theorem dJ6_bitCount_0f7a4_11 : decode cJ6_bitCount_0f7a4 11 = .ok (.ldc_w 266, 3) := by decide +kernel
theorem dJ6_bitCount_0f7a4_14 : decode cJ6_bitCount_0f7a4 14 = .ok (.iand, 1) := by decide +kernel
theorem dJ6_bitCount_0f7a4_15 : decode cJ6_bitCount_0f7a4 15 = .ok (.iload_n 0, 1) := by decide +kernel
theorem dJ6_bitCount_0f7a4_16 : decode cJ6_bitCount_0f7a4 16 = .ok (.iconst 2, 1) := by decide +kernel
theorem dJ6_bitCount_0f7a4_17 : decode cJ6_bitCount_0f7a4 17 = .ok (.iushr, 1) := by decide +kernel
theorem dJ6_bitCount_0f7a4_18 : decode cJ6_bitCount_0f7a4 18 = .ok (.ldc_w 266, 3) := by decide +kernel
theorem dJ6_bitCount_0f7a4_21 : decode cJ6_bitCount_0f7a4 21 = .ok (.iand, 1) := by decide +kernel
theorem dJ6_bitCount_0f7a4_22 : decode cJ6_bitCount_0f7a4 22 = .ok (.iadd, 1) := by decide +kernel
theorem dJ6_bitCount_0f7a4_23 : decode cJ6_bitCount_0f7a4 23 = .ok (.istore_n 0, 1) := by decide +kernel
theorem dJ6_bitCount_0f7a4_24 : decode cJ6_bitCount_0f7a4 24 = .ok (.iload_n 0, 1) := by decide +kernel
theorem dJ6_bitCount_0f7a4_25 : decode cJ6_bitCount_0f7a4 25 = .ok (.iload_n 0, 1) := by decide +kernel
theorem dJ6_bitCount_0f7a4_26 : decode cJ6_bitCount_0f7a4 26 = .ok (.iconst 4, 1) := by decide +kernel
theorem dJ6_bitCount_0f7a4_27 : decode cJ6_bitCount_0f7a4 27 = .ok (.iushr, 1) := by decide +kernel
theorem dJ6_bitCount_0f7a4_28 : decode cJ6_bitCount_0f7a4 28 = .ok (.iadd, 1) := by decide +kernel
theorem dJ6_bitCount_0f7a4_29 : decode cJ6_bitCount_0f7a4 29 = .ok (.ldc_w 267, 3) := by decide +kernel
theorem dJ6_bitCount_0f7a4_32 : decode cJ6_bitCount_0f7a4 32 = .ok (.iand, 1) := by decide +kernel
theorem dJ6_bitCount_0f7a4_33 : decode cJ6_bitCount_0f7a4 33 = .ok (.istore_n 0, 1) := by decide +kernel
theorem dJ6_bitCount_0f7a4_34 : decode cJ6_bitCount_0f7a4 34 = .ok (.iload_n 0, 1) := by decide +kernel
theorem dJ6_bitCount_0f7a4_35 : decode cJ6_bitCount_0f7a4 35 = .ok (.iload_n 0, 1) := by decide +kernel
theorem dJ6_bitCount_0f7a4_36 : decode cJ6_bitCount_0f7a4 36 = .ok (.bipush 8, 2) := by decide +kernel
theorem dJ6_bitCount_0f7a4_38 : decode cJ6_bitCount_0f7a4 38 = .ok (.iushr, 1) := by decide +kernel
theorem dJ6_bitCount_0f7a4_39 : decode cJ6_bitCount_0f7a4 39 = .ok (.iadd, 1) := by decide +kernel
theorem dJ6_bitCount_0f7a4_40 : decode cJ6_bitCount_0f7a4 40 = .ok (.istore_n 0, 1) := by decide +kernel
theorem dJ6_bitCount_0f7a4_41 : decode cJ6_bitCount_0f7a4 41 = .ok (.iload_n 0, 1) := by decide +kernel
theorem dJ6_bitCount_0f7a4_42 : decode cJ6_bitCount_0f7a4 42 = .ok (.iload_n 0, 1) := by decide +kernel
theorem dJ6_bitCount_0f7a4_43 : decode cJ6_bitCount_0f7a4 43 = .ok (.bipush 16, 2) := by decide +kernel
theorem dJ6_bitCount_0f7a4_45 : decode cJ6_bitCount_0f7a4 45 = .ok (.iushr, 1) := by decide +kernel
theorem dJ6_bitCount_0f7a4_46 : decode cJ6_bitCount_0f7a4 46 = .ok (.iadd, 1) := by decide +kernel
theorem dJ6_bitCount_0f7a4_47 : decode cJ6_bitCount_0f7a4 47 = .ok (.istore_n 0, 1) := by decide +kernel
theorem dJ6_bitCount_0f7a4_48 : decode cJ6_bitCount_0f7a4 48 = .ok (.iload_n 0, 1) := by decide +kernel
theorem dJ6_bitCount_0f7a4_49 : decode cJ6_bitCount_0f7a4 49 = .ok (.bipush 63, 2) := by decide +kernel
theorem dJ6_bitCount_0f7a4_51 : decode cJ6_bitCount_0f7a4 51 = .ok (.iand, 1) := by decide +kernel
theorem dJ6_bitCount_0f7a4_52 : decode cJ6_bitCount_0f7a4 52 = .ok (.ireturn, 1) := by decide +kernel
