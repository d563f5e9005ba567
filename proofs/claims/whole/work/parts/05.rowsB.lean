theorem dX3_init_0 : decode cX3_init 0 = .ok (.aload_n 0, 1) := by decide +kernel
theorem dX3_init_1 : decode cX3_init 1 = .ok (.invokespecial 1, 3) := by decide +kernel
theorem dX3_init_4 : decode cX3_init 4 = .ok (.aload_n 0, 1) := by decide +kernel
theorem dX3_init_5 : decode cX3_init 5 = .ok (.iconst 3, 1) := by decide +kernel
theorem dX3_init_6 : decode cX3_init 6 = .ok (.putfield 7, 3) := by decide +kernel
theorem dX3_init_9 : decode cX3_init 9 = .ok (.aload_n 0, 1) := by decide +kernel
theorem dX3_init_10 : decode cX3_init 10 = .ok (.invokevirtual 13, 3) := by decide +kernel
theorem dX3_init_13 : decode cX3_init 13 = .ok (.aload_n 0, 1) := by decide +kernel
theorem dX3_init_14 : decode cX3_init 14 = .ok (.invokevirtual 16, 3) := by decide +kernel
theorem dX3_init_17 : decode cX3_init 17 = .ok (.return_, 1) := by decide +kernel
theorem dX3_storeRegister_0 : decode cX3_storeRegister 0 = .ok (.iload_n 2, 1) := by decide +kernel
theorem dX3_storeRegister_1 : decode cX3_storeRegister 1 = .ok (.sipush 128, 3) := by decide +kernel
theorem dX3_storeRegister_4 : decode cX3_storeRegister 4 = .ok (.iand, 1) := by decide +kernel
theorem dX3_storeRegister_5 : decode cX3_storeRegister 5 = .ok (.ifCond .eq 15, 3) := by decide +kernel
theorem dX3_storeRegister_8 : decode cX3_storeRegister 8 = .ok (.aload_n 0, 1) := by decide +kernel
theorem dX3_storeRegister_9 : decode cX3_storeRegister 9 = .ok (.invokevirtual 19, 3) := by decide +kernel
theorem dX3_storeRegister_12 : decode cX3_storeRegister 12 = .ok (.aload_n 0, 1) := by decide +kernel
theorem dX3_storeRegister_13 : decode cX3_storeRegister 13 = .ok (.iconst 3, 1) := by decide +kernel
theorem dX3_storeRegister_14 : decode cX3_storeRegister 14 = .ok (.putfield 7, 3) := by decide +kernel
theorem dX3_storeRegister_17 : decode cX3_storeRegister 17 = .ok (.goto 56, 3) := by decide +kernel
theorem dX3_storeRegister_20 : decode cX3_storeRegister 20 = .ok (.aload_n 0, 1) := by decide +kernel
theorem dX3_storeRegister_21 : decode cX3_storeRegister 21 = .ok (.dup, 1) := by decide +kernel
theorem dX3_storeRegister_22 : decode cX3_storeRegister 22 = .ok (.getfield 22, 3) := by decide +kernel
theorem dX3_storeRegister_25 : decode cX3_storeRegister 25 = .ok (.iload_n 2, 1) := by decide +kernel
theorem dX3_storeRegister_26 : decode cX3_storeRegister 26 = .ok (.iconst 1, 1) := by decide +kernel
theorem dX3_storeRegister_27 : decode cX3_storeRegister 27 = .ok (.iand, 1) := by decide +kernel
theorem dX3_storeRegister_28 : decode cX3_storeRegister 28 = .ok (.aload_n 0, 1) := by decide +kernel
theorem dX3_storeRegister_29 : decode cX3_storeRegister 29 = .ok (.getfield 25, 3) := by decide +kernel
theorem dX3_storeRegister_32 : decode cX3_storeRegister 32 = .ok (.ishl, 1) := by decide +kernel
theorem dX3_storeRegister_33 : decode cX3_storeRegister 33 = .ok (.ior, 1) := by decide +kernel
theorem dX3_storeRegister_34 : decode cX3_storeRegister 34 = .ok (.putfield 22, 3) := by decide +kernel
theorem dX3_storeRegister_37 : decode cX3_storeRegister 37 = .ok (.aload_n 0, 1) := by decide +kernel
theorem dX3_storeRegister_38 : decode cX3_storeRegister 38 = .ok (.dup, 1) := by decide +kernel
theorem dX3_storeRegister_39 : decode cX3_storeRegister 39 = .ok (.getfield 25, 3) := by decide +kernel
theorem dX3_storeRegister_42 : decode cX3_storeRegister 42 = .ok (.iconst 1, 1) := by decide +kernel
theorem dX3_storeRegister_43 : decode cX3_storeRegister 43 = .ok (.iadd, 1) := by decide +kernel
theorem dX3_storeRegister_44 : decode cX3_storeRegister 44 = .ok (.putfield 25, 3) := by decide +kernel
theorem dX3_storeRegister_47 : decode cX3_storeRegister 47 = .ok (.aload_n 0, 1) := by decide +kernel
theorem dX3_storeRegister_48 : decode cX3_storeRegister 48 = .ok (.getfield 25, 3) := by decide +kernel
theorem dX3_storeRegister_51 : decode cX3_storeRegister 51 = .ok (.iconst 5, 1) := by decide +kernel
theorem dX3_storeRegister_52 : decode cX3_storeRegister 52 = .ok (.if_icmp .ne 21, 3) := by decide +kernel
theorem dX3_storeRegister_55 : decode cX3_storeRegister 55 = .ok (.aload_n 0, 1) := by decide +kernel
theorem dX3_storeRegister_56 : decode cX3_storeRegister 56 = .ok (.iload_n 1, 1) := by decide +kernel
theorem dX3_storeRegister_57 : decode cX3_storeRegister 57 = .ok (.bipush 13, 2) := by decide +kernel
theorem dX3_storeRegister_59 : decode cX3_storeRegister 59 = .ok (.ishr, 1) := by decide +kernel
theorem dX3_storeRegister_60 : decode cX3_storeRegister 60 = .ok (.iconst 3, 1) := by decide +kernel
theorem dX3_storeRegister_61 : decode cX3_storeRegister 61 = .ok (.iand, 1) := by decide +kernel
theorem dX3_storeRegister_62 : decode cX3_storeRegister 62 = .ok (.aload_n 0, 1) := by decide +kernel
theorem dX3_storeRegister_63 : decode cX3_storeRegister 63 = .ok (.getfield 22, 3) := by decide +kernel
theorem dX3_storeRegister_66 : decode cX3_storeRegister 66 = .ok (.invokevirtual 28, 3) := by decide +kernel
theorem dX3_storeRegister_69 : decode cX3_storeRegister 69 = .ok (.aload_n 0, 1) := by decide +kernel
theorem dX3_storeRegister_70 : decode cX3_storeRegister 70 = .ok (.invokevirtual 19, 3) := by decide +kernel
theorem dX3_storeRegister_73 : decode cX3_storeRegister 73 = .ok (.aload_n 0, 1) := by decide +kernel
theorem dX3_storeRegister_74 : decode cX3_storeRegister 74 = .ok (.invokevirtual 13, 3) := by decide +kernel
theorem dX3_storeRegister_77 : decode cX3_storeRegister 77 = .ok (.aload_n 0, 1) := by decide +kernel
theorem dX3_storeRegister_78 : decode cX3_storeRegister 78 = .ok (.invokevirtual 16, 3) := by decide +kernel
theorem dX3_storeRegister_81 : decode cX3_storeRegister 81 = .ok (.return_, 1) := by decide +kernel
theorem dX3_forgetShifted_0 : decode cX3_forgetShifted 0 = .ok (.aload_n 0, 1) := by decide +kernel
theorem dX3_forgetShifted_1 : decode cX3_forgetShifted 1 = .ok (.iconst 0, 1) := by decide +kernel
theorem dX3_forgetShifted_2 : decode cX3_forgetShifted 2 = .ok (.putfield 22, 3) := by decide +kernel
theorem dX3_forgetShifted_5 : decode cX3_forgetShifted 5 = .ok (.aload_n 0, 1) := by decide +kernel
theorem dX3_forgetShifted_6 : decode cX3_forgetShifted 6 = .ok (.iconst 0, 1) := by decide +kernel
theorem dX3_forgetShifted_7 : decode cX3_forgetShifted 7 = .ok (.putfield 25, 3) := by decide +kernel
theorem dX3_forgetShifted_10 : decode cX3_forgetShifted 10 = .ok (.return_, 1) := by decide +kernel
theorem dX3_noteLine_0 : decode cX3_noteLine 0 = .ok (.return_, 1) := by decide +kernel
theorem dX3_lineCounter_0 : decode cX3_lineCounter 0 = .ok (.iconst 0, 1) := by decide +kernel
theorem dX3_lineCounter_1 : decode cX3_lineCounter 1 = .ok (.ireturn, 1) := by decide +kernel
theorem dX3_setRegister_0 : decode cX3_setRegister 0 = .ok (.iload_n 1, 1) := by decide +kernel
theorem dX3_setRegister_1 : decode cX3_setRegister 1 = .ok (.tableswitch 71 0 2 #[27, 55, 63], 27) := by decide +kernel
theorem dX3_setRegister_28 : decode cX3_setRegister 28 = .ok (.aload_n 0, 1) := by decide +kernel
theorem dX3_setRegister_29 : decode cX3_setRegister 29 = .ok (.iload_n 2, 1) := by decide +kernel
theorem dX3_setRegister_30 : decode cX3_setRegister 30 = .ok (.iconst 3, 1) := by decide +kernel
theorem dX3_setRegister_31 : decode cX3_setRegister 31 = .ok (.iand, 1) := by decide +kernel
theorem dX3_setRegister_32 : decode cX3_setRegister 32 = .ok (.putfield 32, 3) := by decide +kernel
theorem dX3_setRegister_35 : decode cX3_setRegister 35 = .ok (.aload_n 0, 1) := by decide +kernel
theorem dX3_setRegister_36 : decode cX3_setRegister 36 = .ok (.iload_n 2, 1) := by decide +kernel
theorem dX3_setRegister_37 : decode cX3_setRegister 37 = .ok (.iconst 2, 1) := by decide +kernel
theorem dX3_setRegister_38 : decode cX3_setRegister 38 = .ok (.ishr, 1) := by decide +kernel
theorem dX3_setRegister_39 : decode cX3_setRegister 39 = .ok (.iconst 3, 1) := by decide +kernel
theorem dX3_setRegister_40 : decode cX3_setRegister 40 = .ok (.iand, 1) := by decide +kernel
theorem dX3_setRegister_41 : decode cX3_setRegister 41 = .ok (.putfield 7, 3) := by decide +kernel
theorem dX3_setRegister_44 : decode cX3_setRegister 44 = .ok (.aload_n 0, 1) := by decide +kernel
theorem dX3_setRegister_45 : decode cX3_setRegister 45 = .ok (.iload_n 2, 1) := by decide +kernel
theorem dX3_setRegister_46 : decode cX3_setRegister 46 = .ok (.iconst 4, 1) := by decide +kernel
theorem dX3_setRegister_47 : decode cX3_setRegister 47 = .ok (.ishr, 1) := by decide +kernel
theorem dX3_setRegister_48 : decode cX3_setRegister 48 = .ok (.iconst 1, 1) := by decide +kernel
theorem dX3_setRegister_49 : decode cX3_setRegister 49 = .ok (.iand, 1) := by decide +kernel
theorem dX3_setRegister_50 : decode cX3_setRegister 50 = .ok (.putfield 35, 3) := by decide +kernel
theorem dX3_setRegister_53 : decode cX3_setRegister 53 = .ok (.goto 24, 3) := by decide +kernel
theorem dX3_setRegister_56 : decode cX3_setRegister 56 = .ok (.aload_n 0, 1) := by decide +kernel
theorem dX3_setRegister_57 : decode cX3_setRegister 57 = .ok (.iload_n 2, 1) := by decide +kernel
theorem dX3_setRegister_58 : decode cX3_setRegister 58 = .ok (.putfield 38, 3) := by decide +kernel
theorem dX3_setRegister_61 : decode cX3_setRegister 61 = .ok (.goto 16, 3) := by decide +kernel
theorem dX3_setRegister_64 : decode cX3_setRegister 64 = .ok (.aload_n 0, 1) := by decide +kernel
theorem dX3_setRegister_65 : decode cX3_setRegister 65 = .ok (.iload_n 2, 1) := by decide +kernel
theorem dX3_setRegister_66 : decode cX3_setRegister 66 = .ok (.putfield 41, 3) := by decide +kernel
theorem dX3_setRegister_69 : decode cX3_setRegister 69 = .ok (.goto 8, 3) := by decide +kernel
theorem dX3_setRegister_72 : decode cX3_setRegister 72 = .ok (.aload_n 0, 1) := by decide +kernel
theorem dX3_setRegister_73 : decode cX3_setRegister 73 = .ok (.iload_n 2, 1) := by decide +kernel
theorem dX3_setRegister_74 : decode cX3_setRegister 74 = .ok (.putfield 44, 3) := by decide +kernel
theorem dX3_setRegister_77 : decode cX3_setRegister 77 = .ok (.return_, 1) := by decide +kernel
theorem dX3_mapRom_0 : decode cX3_mapRom 0 = .ok (.iconst 2, 1) := by decide +kernel
theorem dX3_mapRom_1 : decode cX3_mapRom 1 = .ok (.aload_n 0, 1) := by decide +kernel
theorem dX3_mapRom_2 : decode cX3_mapRom 2 = .ok (.getfield 44, 3) := by decide +kernel
theorem dX3_mapRom_5 : decode cX3_mapRom 5 = .ok (.iconst 3, 1) := by decide +kernel
theorem dX3_mapRom_6 : decode cX3_mapRom 6 = .ok (.iand, 1) := by decide +kernel
theorem dX3_mapRom_7 : decode cX3_mapRom 7 = .ok (.imul, 1) := by decide +kernel
theorem dX3_mapRom_8 : decode cX3_mapRom 8 = .ok (.istore_n 1, 1) := by decide +kernel
theorem dX3_mapRom_9 : decode cX3_mapRom 9 = .ok (.aload_n 0, 1) := by decide +kernel
theorem dX3_mapRom_10 : decode cX3_mapRom 10 = .ok (.getfield 7, 3) := by decide +kernel
theorem dX3_mapRom_13 : decode cX3_mapRom 13 = .ok (.iconst 2, 1) := by decide +kernel
theorem dX3_mapRom_14 : decode cX3_mapRom 14 = .ok (.if_icmp .ne 16, 3) := by decide +kernel
theorem dX3_mapRom_17 : decode cX3_mapRom 17 = .ok (.aload_n 0, 1) := by decide +kernel
theorem dX3_mapRom_18 : decode cX3_mapRom 18 = .ok (.iconst 0, 1) := by decide +kernel
theorem dX3_mapRom_19 : decode cX3_mapRom 19 = .ok (.iconst 1, 1) := by decide +kernel
theorem dX3_mapRom_20 : decode cX3_mapRom 20 = .ok (.iload_n 1, 1) := by decide +kernel
theorem dX3_mapRom_21 : decode cX3_mapRom 21 = .ok (.iload_n 1, 1) := by decide +kernel
theorem dX3_mapRom_22 : decode cX3_mapRom 22 = .ok (.iconst 1, 1) := by decide +kernel
theorem dX3_mapRom_23 : decode cX3_mapRom 23 = .ok (.iadd, 1) := by decide +kernel
theorem dX3_mapRom_24 : decode cX3_mapRom 24 = .ok (.invokevirtual 47, 3) := by decide +kernel
theorem dX3_mapRom_27 : decode cX3_mapRom 27 = .ok (.goto 51, 3) := by decide +kernel
theorem dX3_mapRom_30 : decode cX3_mapRom 30 = .ok (.aload_n 0, 1) := by decide +kernel
theorem dX3_mapRom_31 : decode cX3_mapRom 31 = .ok (.getfield 7, 3) := by decide +kernel
theorem dX3_mapRom_34 : decode cX3_mapRom 34 = .ok (.iconst 3, 1) := by decide +kernel
theorem dX3_mapRom_35 : decode cX3_mapRom 35 = .ok (.if_icmp .ne 18, 3) := by decide +kernel
theorem dX3_mapRom_38 : decode cX3_mapRom 38 = .ok (.aload_n 0, 1) := by decide +kernel
theorem dX3_mapRom_39 : decode cX3_mapRom 39 = .ok (.iload_n 1, 1) := by decide +kernel
theorem dX3_mapRom_40 : decode cX3_mapRom 40 = .ok (.iload_n 1, 1) := by decide +kernel
theorem dX3_mapRom_41 : decode cX3_mapRom 41 = .ok (.iconst 1, 1) := by decide +kernel
theorem dX3_mapRom_42 : decode cX3_mapRom 42 = .ok (.iadd, 1) := by decide +kernel
theorem dX3_mapRom_43 : decode cX3_mapRom 43 = .ok (.bipush 6, 2) := by decide +kernel
theorem dX3_mapRom_45 : decode cX3_mapRom 45 = .ok (.bipush 7, 2) := by decide +kernel
theorem dX3_mapRom_47 : decode cX3_mapRom 47 = .ok (.invokevirtual 47, 3) := by decide +kernel
theorem dX3_mapRom_50 : decode cX3_mapRom 50 = .ok (.goto 28, 3) := by decide +kernel
theorem dX3_mapRom_53 : decode cX3_mapRom 53 = .ok (.iconst 4, 1) := by decide +kernel
theorem dX3_mapRom_54 : decode cX3_mapRom 54 = .ok (.aload_n 0, 1) := by decide +kernel
theorem dX3_mapRom_55 : decode cX3_mapRom 55 = .ok (.getfield 44, 3) := by decide +kernel
theorem dX3_mapRom_58 : decode cX3_mapRom 58 = .ok (.iconst 1, 1) := by decide +kernel
theorem dX3_mapRom_59 : decode cX3_mapRom 59 = .ok (.ishr, 1) := by decide +kernel
theorem dX3_mapRom_60 : decode cX3_mapRom 60 = .ok (.iconst 1, 1) := by decide +kernel
theorem dX3_mapRom_61 : decode cX3_mapRom 61 = .ok (.iand, 1) := by decide +kernel
theorem dX3_mapRom_62 : decode cX3_mapRom 62 = .ok (.imul, 1) := by decide +kernel
theorem dX3_mapRom_63 : decode cX3_mapRom 63 = .ok (.istore_n 2, 1) := by decide +kernel
theorem dX3_mapRom_64 : decode cX3_mapRom 64 = .ok (.aload_n 0, 1) := by decide +kernel
theorem dX3_mapRom_65 : decode cX3_mapRom 65 = .ok (.iload_n 2, 1) := by decide +kernel
theorem dX3_mapRom_66 : decode cX3_mapRom 66 = .ok (.iload_n 2, 1) := by decide +kernel
theorem dX3_mapRom_67 : decode cX3_mapRom 67 = .ok (.iconst 1, 1) := by decide +kernel
theorem dX3_mapRom_68 : decode cX3_mapRom 68 = .ok (.iadd, 1) := by decide +kernel
theorem dX3_mapRom_69 : decode cX3_mapRom 69 = .ok (.iload_n 2, 1) := by decide +kernel
theorem dX3_mapRom_70 : decode cX3_mapRom 70 = .ok (.iconst 2, 1) := by decide +kernel
theorem dX3_mapRom_71 : decode cX3_mapRom 71 = .ok (.iadd, 1) := by decide +kernel
theorem dX3_mapRom_72 : decode cX3_mapRom 72 = .ok (.iload_n 2, 1) := by decide +kernel
theorem dX3_mapRom_73 : decode cX3_mapRom 73 = .ok (.iconst 3, 1) := by decide +kernel
theorem dX3_mapRom_74 : decode cX3_mapRom 74 = .ok (.iadd, 1) := by decide +kernel
theorem dX3_mapRom_75 : decode cX3_mapRom 75 = .ok (.invokevirtual 47, 3) := by decide +kernel
theorem dX3_mapRom_78 : decode cX3_mapRom 78 = .ok (.return_, 1) := by decide +kernel
theorem dX3_mapChr_0 : decode cX3_mapChr 0 = .ok (.aload_n 0, 1) := by decide +kernel
theorem dX3_mapChr_1 : decode cX3_mapChr 1 = .ok (.getfield 35, 3) := by decide +kernel
theorem dX3_mapChr_4 : decode cX3_mapChr 4 = .ok (.ifCond .ne 7, 3) := by decide +kernel
theorem dX3_mapChr_7 : decode cX3_mapChr 7 = .ok (.iconst 0, 1) := by decide +kernel
theorem dX3_mapChr_8 : decode cX3_mapChr 8 = .ok (.goto 11, 3) := by decide +kernel
theorem dX3_mapChr_11 : decode cX3_mapChr 11 = .ok (.iconst 4, 1) := by decide +kernel
theorem dX3_mapChr_12 : decode cX3_mapChr 12 = .ok (.aload_n 0, 1) := by decide +kernel
theorem dX3_mapChr_13 : decode cX3_mapChr 13 = .ok (.getfield 38, 3) := by decide +kernel
theorem dX3_mapChr_16 : decode cX3_mapChr 16 = .ok (.iconst 1, 1) := by decide +kernel
theorem dX3_mapChr_17 : decode cX3_mapChr 17 = .ok (.iand, 1) := by decide +kernel
theorem dX3_mapChr_18 : decode cX3_mapChr 18 = .ok (.imul, 1) := by decide +kernel
theorem dX3_mapChr_19 : decode cX3_mapChr 19 = .ok (.istore_n 1, 1) := by decide +kernel
theorem dX3_mapChr_20 : decode cX3_mapChr 20 = .ok (.aload_n 0, 1) := by decide +kernel
theorem dX3_mapChr_21 : decode cX3_mapChr 21 = .ok (.getfield 35, 3) := by decide +kernel
theorem dX3_mapChr_24 : decode cX3_mapChr 24 = .ok (.ifCond .ne 7, 3) := by decide +kernel
theorem dX3_mapChr_27 : decode cX3_mapChr 27 = .ok (.iconst 4, 1) := by decide +kernel
theorem dX3_mapChr_28 : decode cX3_mapChr 28 = .ok (.goto 11, 3) := by decide +kernel
theorem dX3_mapChr_31 : decode cX3_mapChr 31 = .ok (.iconst 4, 1) := by decide +kernel
theorem dX3_mapChr_32 : decode cX3_mapChr 32 = .ok (.aload_n 0, 1) := by decide +kernel
theorem dX3_mapChr_33 : decode cX3_mapChr 33 = .ok (.getfield 41, 3) := by decide +kernel
theorem dX3_mapChr_36 : decode cX3_mapChr 36 = .ok (.iconst 1, 1) := by decide +kernel
theorem dX3_mapChr_37 : decode cX3_mapChr 37 = .ok (.iand, 1) := by decide +kernel
theorem dX3_mapChr_38 : decode cX3_mapChr 38 = .ok (.imul, 1) := by decide +kernel
theorem dX3_mapChr_39 : decode cX3_mapChr 39 = .ok (.istore_n 2, 1) := by decide +kernel
theorem dX3_mapChr_40 : decode cX3_mapChr 40 = .ok (.aload_n 0, 1) := by decide +kernel
theorem dX3_mapChr_41 : decode cX3_mapChr 41 = .ok (.iconst 0, 1) := by decide +kernel
theorem dX3_mapChr_42 : decode cX3_mapChr 42 = .ok (.iload_n 1, 1) := by decide +kernel
theorem dX3_mapChr_43 : decode cX3_mapChr 43 = .ok (.iload_n 1, 1) := by decide +kernel
theorem dX3_mapChr_44 : decode cX3_mapChr 44 = .ok (.iconst 1, 1) := by decide +kernel
theorem dX3_mapChr_45 : decode cX3_mapChr 45 = .ok (.iadd, 1) := by decide +kernel
theorem dX3_mapChr_46 : decode cX3_mapChr 46 = .ok (.iload_n 1, 1) := by decide +kernel
theorem dX3_mapChr_47 : decode cX3_mapChr 47 = .ok (.iconst 2, 1) := by decide +kernel
theorem dX3_mapChr_48 : decode cX3_mapChr 48 = .ok (.iadd, 1) := by decide +kernel
theorem dX3_mapChr_49 : decode cX3_mapChr 49 = .ok (.iload_n 1, 1) := by decide +kernel
theorem dX3_mapChr_50 : decode cX3_mapChr 50 = .ok (.iconst 3, 1) := by decide +kernel
theorem dX3_mapChr_51 : decode cX3_mapChr 51 = .ok (.iadd, 1) := by decide +kernel
theorem dX3_mapChr_52 : decode cX3_mapChr 52 = .ok (.invokevirtual 51, 3) := by decide +kernel
theorem dX3_mapChr_55 : decode cX3_mapChr 55 = .ok (.aload_n 0, 1) := by decide +kernel
theorem dX3_mapChr_56 : decode cX3_mapChr 56 = .ok (.iconst 4, 1) := by decide +kernel
theorem dX3_mapChr_57 : decode cX3_mapChr 57 = .ok (.iload_n 2, 1) := by decide +kernel
theorem dX3_mapChr_58 : decode cX3_mapChr 58 = .ok (.iload_n 2, 1) := by decide +kernel
theorem dX3_mapChr_59 : decode cX3_mapChr 59 = .ok (.iconst 1, 1) := by decide +kernel
theorem dX3_mapChr_60 : decode cX3_mapChr 60 = .ok (.iadd, 1) := by decide +kernel
theorem dX3_mapChr_61 : decode cX3_mapChr 61 = .ok (.iload_n 2, 1) := by decide +kernel
theorem dX3_mapChr_62 : decode cX3_mapChr 62 = .ok (.iconst 2, 1) := by decide +kernel
theorem dX3_mapChr_63 : decode cX3_mapChr 63 = .ok (.iadd, 1) := by decide +kernel
theorem dX3_mapChr_64 : decode cX3_mapChr 64 = .ok (.iload_n 2, 1) := by decide +kernel
theorem dX3_mapChr_65 : decode cX3_mapChr 65 = .ok (.iconst 3, 1) := by decide +kernel
theorem dX3_mapChr_66 : decode cX3_mapChr 66 = .ok (.iadd, 1) := by decide +kernel
theorem dX3_mapChr_67 : decode cX3_mapChr 67 = .ok (.invokevirtual 51, 3) := by decide +kernel
theorem dX3_mapChr_70 : decode cX3_mapChr 70 = .ok (.return_, 1) := by decide +kernel
theorem dX4_init_0 : decode cX4_init 0 = .ok (.aload_n 0, 1) := by decide +kernel
theorem dX4_init_1 : decode cX4_init 1 = .ok (.invokespecial 1, 3) := by decide +kernel
theorem dX4_init_4 : decode cX4_init 4 = .ok (.aload_n 0, 1) := by decide +kernel
theorem dX4_init_5 : decode cX4_init 5 = .ok (.bipush 8, 2) := by decide +kernel
theorem dX4_init_7 : decode cX4_init 7 = .ok (.newarray .int, 2) := by decide +kernel
theorem dX4_init_9 : decode cX4_init 9 = .ok (.putfield 7, 3) := by decide +kernel
theorem dX4_init_12 : decode cX4_init 12 = .ok (.aload_n 0, 1) := by decide +kernel
theorem dX4_init_13 : decode cX4_init 13 = .ok (.iconst 2, 1) := by decide +kernel
theorem dX4_init_14 : decode cX4_init 14 = .ok (.putfield 13, 3) := by decide +kernel
theorem dX4_init_17 : decode cX4_init 17 = .ok (.aload_n 0, 1) := by decide +kernel
theorem dX4_init_18 : decode cX4_init 18 = .ok (.invokevirtual 17, 3) := by decide +kernel
theorem dX4_init_21 : decode cX4_init 21 = .ok (.aload_n 0, 1) := by decide +kernel
theorem dX4_init_22 : decode cX4_init 22 = .ok (.invokevirtual 20, 3) := by decide +kernel
theorem dX4_init_25 : decode cX4_init 25 = .ok (.return_, 1) := by decide +kernel
theorem dX4_storeRegister_0 : decode cX4_storeRegister 0 = .ok (.iload_n 1, 1) := by decide +kernel
theorem dX4_storeRegister_1 : decode cX4_storeRegister 1 = .ok (.bipush 12, 2) := by decide +kernel
theorem dX4_storeRegister_3 : decode cX4_storeRegister 3 = .ok (.ishr, 1) := by decide +kernel
theorem dX4_storeRegister_4 : decode cX4_storeRegister 4 = .ok (.bipush 6, 2) := by decide +kernel
theorem dX4_storeRegister_6 : decode cX4_storeRegister 6 = .ok (.iand, 1) := by decide +kernel
theorem dX4_storeRegister_7 : decode cX4_storeRegister 7 = .ok (.iload_n 1, 1) := by decide +kernel
theorem dX4_storeRegister_8 : decode cX4_storeRegister 8 = .ok (.iconst 1, 1) := by decide +kernel
theorem dX4_storeRegister_9 : decode cX4_storeRegister 9 = .ok (.iand, 1) := by decide +kernel
theorem dX4_storeRegister_10 : decode cX4_storeRegister 10 = .ok (.ior, 1) := by decide +kernel
theorem dX4_storeRegister_11 : decode cX4_storeRegister 11 = .ok (.tableswitch 118 0 7 #[45, 53, 69, 118, 81, 89, 97, 110], 45) := by decide +kernel
theorem dX4_storeRegister_56 : decode cX4_storeRegister 56 = .ok (.aload_n 0, 1) := by decide +kernel
theorem dX4_storeRegister_57 : decode cX4_storeRegister 57 = .ok (.iload_n 2, 1) := by decide +kernel
theorem dX4_storeRegister_58 : decode cX4_storeRegister 58 = .ok (.putfield 23, 3) := by decide +kernel
theorem dX4_storeRegister_61 : decode cX4_storeRegister 61 = .ok (.goto 68, 3) := by decide +kernel
theorem dX4_storeRegister_64 : decode cX4_storeRegister 64 = .ok (.aload_n 0, 1) := by decide +kernel
theorem dX4_storeRegister_65 : decode cX4_storeRegister 65 = .ok (.getfield 7, 3) := by decide +kernel
theorem dX4_storeRegister_68 : decode cX4_storeRegister 68 = .ok (.aload_n 0, 1) := by decide +kernel
theorem dX4_storeRegister_69 : decode cX4_storeRegister 69 = .ok (.getfield 23, 3) := by decide +kernel
theorem dX4_storeRegister_72 : decode cX4_storeRegister 72 = .ok (.bipush 7, 2) := by decide +kernel
theorem dX4_storeRegister_74 : decode cX4_storeRegister 74 = .ok (.iand, 1) := by decide +kernel
theorem dX4_storeRegister_75 : decode cX4_storeRegister 75 = .ok (.iload_n 2, 1) := by decide +kernel
theorem dX4_storeRegister_76 : decode cX4_storeRegister 76 = .ok (.iastore, 1) := by decide +kernel
theorem dX4_storeRegister_77 : decode cX4_storeRegister 77 = .ok (.goto 52, 3) := by decide +kernel
theorem dX4_storeRegister_80 : decode cX4_storeRegister 80 = .ok (.aload_n 0, 1) := by decide +kernel
theorem dX4_storeRegister_81 : decode cX4_storeRegister 81 = .ok (.iconst 2, 1) := by decide +kernel
theorem dX4_storeRegister_82 : decode cX4_storeRegister 82 = .ok (.iload_n 2, 1) := by decide +kernel
theorem dX4_storeRegister_83 : decode cX4_storeRegister 83 = .ok (.iconst 1, 1) := by decide +kernel
theorem dX4_storeRegister_84 : decode cX4_storeRegister 84 = .ok (.iand, 1) := by decide +kernel
theorem dX4_storeRegister_85 : decode cX4_storeRegister 85 = .ok (.ior, 1) := by decide +kernel
theorem dX4_storeRegister_86 : decode cX4_storeRegister 86 = .ok (.putfield 13, 3) := by decide +kernel
theorem dX4_storeRegister_89 : decode cX4_storeRegister 89 = .ok (.goto 40, 3) := by decide +kernel
theorem dX4_storeRegister_92 : decode cX4_storeRegister 92 = .ok (.aload_n 0, 1) := by decide +kernel
theorem dX4_storeRegister_93 : decode cX4_storeRegister 93 = .ok (.iload_n 2, 1) := by decide +kernel
theorem dX4_storeRegister_94 : decode cX4_storeRegister 94 = .ok (.putfield 26, 3) := by decide +kernel
theorem dX4_storeRegister_97 : decode cX4_storeRegister 97 = .ok (.goto 32, 3) := by decide +kernel
theorem dX4_storeRegister_100 : decode cX4_storeRegister 100 = .ok (.aload_n 0, 1) := by decide +kernel
theorem dX4_storeRegister_101 : decode cX4_storeRegister 101 = .ok (.iconst 0, 1) := by decide +kernel
theorem dX4_storeRegister_102 : decode cX4_storeRegister 102 = .ok (.putfield 29, 3) := by decide +kernel
theorem dX4_storeRegister_105 : decode cX4_storeRegister 105 = .ok (.goto 24, 3) := by decide +kernel
theorem dX4_storeRegister_108 : decode cX4_storeRegister 108 = .ok (.aload_n 0, 1) := by decide +kernel
theorem dX4_storeRegister_109 : decode cX4_storeRegister 109 = .ok (.iconst 0, 1) := by decide +kernel
theorem dX4_storeRegister_110 : decode cX4_storeRegister 110 = .ok (.putfield 32, 3) := by decide +kernel
theorem dX4_storeRegister_113 : decode cX4_storeRegister 113 = .ok (.aload_n 0, 1) := by decide +kernel
theorem dX4_storeRegister_114 : decode cX4_storeRegister 114 = .ok (.iconst 0, 1) := by decide +kernel
theorem dX4_storeRegister_115 : decode cX4_storeRegister 115 = .ok (.putfield 36, 3) := by decide +kernel
theorem dX4_storeRegister_118 : decode cX4_storeRegister 118 = .ok (.goto 11, 3) := by decide +kernel
theorem dX4_storeRegister_121 : decode cX4_storeRegister 121 = .ok (.aload_n 0, 1) := by decide +kernel
theorem dX4_storeRegister_122 : decode cX4_storeRegister 122 = .ok (.iconst 1, 1) := by decide +kernel
theorem dX4_storeRegister_123 : decode cX4_storeRegister 123 = .ok (.putfield 32, 3) := by decide +kernel
theorem dX4_storeRegister_126 : decode cX4_storeRegister 126 = .ok (.goto 3, 3) := by decide +kernel
theorem dX4_storeRegister_129 : decode cX4_storeRegister 129 = .ok (.aload_n 0, 1) := by decide +kernel
theorem dX4_storeRegister_130 : decode cX4_storeRegister 130 = .ok (.invokevirtual 17, 3) := by decide +kernel
theorem dX4_storeRegister_133 : decode cX4_storeRegister 133 = .ok (.aload_n 0, 1) := by decide +kernel
theorem dX4_storeRegister_134 : decode cX4_storeRegister 134 = .ok (.invokevirtual 20, 3) := by decide +kernel
theorem dX4_storeRegister_137 : decode cX4_storeRegister 137 = .ok (.return_, 1) := by decide +kernel
theorem dX4_forgetShifted_0 : decode cX4_forgetShifted 0 = .ok (.return_, 1) := by decide +kernel
theorem dX4_noteLine_0 : decode cX4_noteLine 0 = .ok (.aload_n 0, 1) := by decide +kernel
theorem dX4_noteLine_1 : decode cX4_noteLine 1 = .ok (.aload_n 0, 1) := by decide +kernel
theorem dX4_noteLine_2 : decode cX4_noteLine 2 = .ok (.getfield 29, 3) := by decide +kernel
theorem dX4_noteLine_5 : decode cX4_noteLine 5 = .ok (.ifCond .ne 10, 3) := by decide +kernel
theorem dX4_noteLine_8 : decode cX4_noteLine 8 = .ok (.aload_n 0, 1) := by decide +kernel
theorem dX4_noteLine_9 : decode cX4_noteLine 9 = .ok (.getfield 26, 3) := by decide +kernel
theorem dX4_noteLine_12 : decode cX4_noteLine 12 = .ok (.goto 9, 3) := by decide +kernel
theorem dX4_noteLine_15 : decode cX4_noteLine 15 = .ok (.aload_n 0, 1) := by decide +kernel
theorem dX4_noteLine_16 : decode cX4_noteLine 16 = .ok (.getfield 29, 3) := by decide +kernel
theorem dX4_noteLine_19 : decode cX4_noteLine 19 = .ok (.iconst 1, 1) := by decide +kernel
theorem dX4_noteLine_20 : decode cX4_noteLine 20 = .ok (.isub, 1) := by decide +kernel
theorem dX4_noteLine_21 : decode cX4_noteLine 21 = .ok (.putfield 29, 3) := by decide +kernel
theorem dX4_noteLine_24 : decode cX4_noteLine 24 = .ok (.aload_n 0, 1) := by decide +kernel
theorem dX4_noteLine_25 : decode cX4_noteLine 25 = .ok (.getfield 29, 3) := by decide +kernel
theorem dX4_noteLine_28 : decode cX4_noteLine 28 = .ok (.ifCond .ne 15, 3) := by decide +kernel
theorem dX4_noteLine_31 : decode cX4_noteLine 31 = .ok (.aload_n 0, 1) := by decide +kernel
theorem dX4_noteLine_32 : decode cX4_noteLine 32 = .ok (.getfield 32, 3) := by decide +kernel
theorem dX4_noteLine_35 : decode cX4_noteLine 35 = .ok (.ifCond .eq 8, 3) := by decide +kernel
theorem dX4_noteLine_38 : decode cX4_noteLine 38 = .ok (.aload_n 0, 1) := by decide +kernel
theorem dX4_noteLine_39 : decode cX4_noteLine 39 = .ok (.iconst 1, 1) := by decide +kernel
theorem dX4_noteLine_40 : decode cX4_noteLine 40 = .ok (.putfield 36, 3) := by decide +kernel
theorem dX4_noteLine_43 : decode cX4_noteLine 43 = .ok (.return_, 1) := by decide +kernel
theorem dX4_lineCounter_0 : decode cX4_lineCounter 0 = .ok (.aload_n 0, 1) := by decide +kernel
theorem dX4_lineCounter_1 : decode cX4_lineCounter 1 = .ok (.getfield 29, 3) := by decide +kernel
theorem dX4_lineCounter_4 : decode cX4_lineCounter 4 = .ok (.ireturn, 1) := by decide +kernel
theorem dX4_mapRom_0 : decode cX4_mapRom 0 = .ok (.aload_n 0, 1) := by decide +kernel
theorem dX4_mapRom_1 : decode cX4_mapRom 1 = .ok (.getfield 23, 3) := by decide +kernel
theorem dX4_mapRom_4 : decode cX4_mapRom 4 = .ok (.bipush 64, 2) := by decide +kernel
theorem dX4_mapRom_6 : decode cX4_mapRom 6 = .ok (.iand, 1) := by decide +kernel
theorem dX4_mapRom_7 : decode cX4_mapRom 7 = .ok (.ifCond .ne 28, 3) := by decide +kernel
theorem dX4_mapRom_10 : decode cX4_mapRom 10 = .ok (.aload_n 0, 1) := by decide +kernel
theorem dX4_mapRom_11 : decode cX4_mapRom 11 = .ok (.aload_n 0, 1) := by decide +kernel
theorem dX4_mapRom_12 : decode cX4_mapRom 12 = .ok (.getfield 7, 3) := by decide +kernel
theorem dX4_mapRom_15 : decode cX4_mapRom 15 = .ok (.bipush 6, 2) := by decide +kernel
theorem dX4_mapRom_17 : decode cX4_mapRom 17 = .ok (.iaload, 1) := by decide +kernel
theorem dX4_mapRom_18 : decode cX4_mapRom 18 = .ok (.aload_n 0, 1) := by decide +kernel
theorem dX4_mapRom_19 : decode cX4_mapRom 19 = .ok (.getfield 7, 3) := by decide +kernel
theorem dX4_mapRom_22 : decode cX4_mapRom 22 = .ok (.bipush 7, 2) := by decide +kernel
theorem dX4_mapRom_24 : decode cX4_mapRom 24 = .ok (.iaload, 1) := by decide +kernel
theorem dX4_mapRom_25 : decode cX4_mapRom 25 = .ok (.bipush 6, 2) := by decide +kernel
theorem dX4_mapRom_27 : decode cX4_mapRom 27 = .ok (.bipush 7, 2) := by decide +kernel
theorem dX4_mapRom_29 : decode cX4_mapRom 29 = .ok (.invokevirtual 39, 3) := by decide +kernel
theorem dX4_mapRom_32 : decode cX4_mapRom 32 = .ok (.goto 25, 3) := by decide +kernel
theorem dX4_mapRom_35 : decode cX4_mapRom 35 = .ok (.aload_n 0, 1) := by decide +kernel
theorem dX4_mapRom_36 : decode cX4_mapRom 36 = .ok (.bipush 6, 2) := by decide +kernel
theorem dX4_mapRom_38 : decode cX4_mapRom 38 = .ok (.aload_n 0, 1) := by decide +kernel
theorem dX4_mapRom_39 : decode cX4_mapRom 39 = .ok (.getfield 7, 3) := by decide +kernel
theorem dX4_mapRom_42 : decode cX4_mapRom 42 = .ok (.bipush 7, 2) := by decide +kernel
theorem dX4_mapRom_44 : decode cX4_mapRom 44 = .ok (.iaload, 1) := by decide +kernel
theorem dX4_mapRom_45 : decode cX4_mapRom 45 = .ok (.aload_n 0, 1) := by decide +kernel
theorem dX4_mapRom_46 : decode cX4_mapRom 46 = .ok (.getfield 7, 3) := by decide +kernel
theorem dX4_mapRom_49 : decode cX4_mapRom 49 = .ok (.bipush 6, 2) := by decide +kernel
theorem dX4_mapRom_51 : decode cX4_mapRom 51 = .ok (.iaload, 1) := by decide +kernel
theorem dX4_mapRom_52 : decode cX4_mapRom 52 = .ok (.bipush 7, 2) := by decide +kernel
theorem dX4_mapRom_54 : decode cX4_mapRom 54 = .ok (.invokevirtual 39, 3) := by decide +kernel
theorem dX4_mapRom_57 : decode cX4_mapRom 57 = .ok (.return_, 1) := by decide +kernel
theorem dX4_mapChr_0 : decode cX4_mapChr 0 = .ok (.aload_n 0, 1) := by decide +kernel
theorem dX4_mapChr_1 : decode cX4_mapChr 1 = .ok (.getfield 23, 3) := by decide +kernel
theorem dX4_mapChr_4 : decode cX4_mapChr 4 = .ok (.sipush 128, 3) := by decide +kernel
theorem dX4_mapChr_7 : decode cX4_mapChr 7 = .ok (.iand, 1) := by decide +kernel
theorem dX4_mapChr_8 : decode cX4_mapChr 8 = .ok (.ifCond .ne 7, 3) := by decide +kernel
theorem dX4_mapChr_11 : decode cX4_mapChr 11 = .ok (.iconst 0, 1) := by decide +kernel
theorem dX4_mapChr_12 : decode cX4_mapChr 12 = .ok (.goto 4, 3) := by decide +kernel
theorem dX4_mapChr_15 : decode cX4_mapChr 15 = .ok (.iconst 4, 1) := by decide +kernel
theorem dX4_mapChr_16 : decode cX4_mapChr 16 = .ok (.istore_n 1, 1) := by decide +kernel
theorem dX4_mapChr_17 : decode cX4_mapChr 17 = .ok (.aload_n 0, 1) := by decide +kernel
theorem dX4_mapChr_18 : decode cX4_mapChr 18 = .ok (.getfield 7, 3) := by decide +kernel
theorem dX4_mapChr_21 : decode cX4_mapChr 21 = .ok (.iconst 0, 1) := by decide +kernel
theorem dX4_mapChr_22 : decode cX4_mapChr 22 = .ok (.iaload, 1) := by decide +kernel
theorem dX4_mapChr_23 : decode cX4_mapChr 23 = .ok (.istore_n 2, 1) := by decide +kernel
theorem dX4_mapChr_24 : decode cX4_mapChr 24 = .ok (.aload_n 0, 1) := by decide +kernel
theorem dX4_mapChr_25 : decode cX4_mapChr 25 = .ok (.getfield 7, 3) := by decide +kernel
theorem dX4_mapChr_28 : decode cX4_mapChr 28 = .ok (.iconst 1, 1) := by decide +kernel
theorem dX4_mapChr_29 : decode cX4_mapChr 29 = .ok (.iaload, 1) := by decide +kernel
theorem dX4_mapChr_30 : decode cX4_mapChr 30 = .ok (.istore_n 3, 1) := by decide +kernel
theorem dX4_mapChr_31 : decode cX4_mapChr 31 = .ok (.aload_n 0, 1) := by decide +kernel
theorem dX4_mapChr_32 : decode cX4_mapChr 32 = .ok (.iload_n 1, 1) := by decide +kernel
theorem dX4_mapChr_33 : decode cX4_mapChr 33 = .ok (.iload_n 2, 1) := by decide +kernel
theorem dX4_mapChr_34 : decode cX4_mapChr 34 = .ok (.bipush (-2), 2) := by decide +kernel
theorem dX4_mapChr_36 : decode cX4_mapChr 36 = .ok (.iand, 1) := by decide +kernel
theorem dX4_mapChr_37 : decode cX4_mapChr 37 = .ok (.iload_n 2, 1) := by decide +kernel
theorem dX4_mapChr_38 : decode cX4_mapChr 38 = .ok (.iconst 1, 1) := by decide +kernel
theorem dX4_mapChr_39 : decode cX4_mapChr 39 = .ok (.ior, 1) := by decide +kernel
theorem dX4_mapChr_40 : decode cX4_mapChr 40 = .ok (.iload_n 3, 1) := by decide +kernel
theorem dX4_mapChr_41 : decode cX4_mapChr 41 = .ok (.bipush (-2), 2) := by decide +kernel
theorem dX4_mapChr_43 : decode cX4_mapChr 43 = .ok (.iand, 1) := by decide +kernel
theorem dX4_mapChr_44 : decode cX4_mapChr 44 = .ok (.iload_n 3, 1) := by decide +kernel
theorem dX4_mapChr_45 : decode cX4_mapChr 45 = .ok (.iconst 1, 1) := by decide +kernel
theorem dX4_mapChr_46 : decode cX4_mapChr 46 = .ok (.ior, 1) := by decide +kernel
theorem dX4_mapChr_47 : decode cX4_mapChr 47 = .ok (.invokevirtual 43, 3) := by decide +kernel
theorem dX4_mapChr_50 : decode cX4_mapChr 50 = .ok (.aload_n 0, 1) := by decide +kernel
theorem dX4_mapChr_51 : decode cX4_mapChr 51 = .ok (.iconst 4, 1) := by decide +kernel
theorem dX4_mapChr_52 : decode cX4_mapChr 52 = .ok (.iload_n 1, 1) := by decide +kernel
theorem dX4_mapChr_53 : decode cX4_mapChr 53 = .ok (.isub, 1) := by decide +kernel
theorem dX4_mapChr_54 : decode cX4_mapChr 54 = .ok (.aload_n 0, 1) := by decide +kernel
theorem dX4_mapChr_55 : decode cX4_mapChr 55 = .ok (.getfield 7, 3) := by decide +kernel
theorem dX4_mapChr_58 : decode cX4_mapChr 58 = .ok (.iconst 2, 1) := by decide +kernel
theorem dX4_mapChr_59 : decode cX4_mapChr 59 = .ok (.iaload, 1) := by decide +kernel
theorem dX4_mapChr_60 : decode cX4_mapChr 60 = .ok (.aload_n 0, 1) := by decide +kernel
theorem dX4_mapChr_61 : decode cX4_mapChr 61 = .ok (.getfield 7, 3) := by decide +kernel
theorem dX4_mapChr_64 : decode cX4_mapChr 64 = .ok (.iconst 3, 1) := by decide +kernel
theorem dX4_mapChr_65 : decode cX4_mapChr 65 = .ok (.iaload, 1) := by decide +kernel
theorem dX4_mapChr_66 : decode cX4_mapChr 66 = .ok (.aload_n 0, 1) := by decide +kernel
theorem dX4_mapChr_67 : decode cX4_mapChr 67 = .ok (.getfield 7, 3) := by decide +kernel
theorem dX4_mapChr_70 : decode cX4_mapChr 70 = .ok (.iconst 4, 1) := by decide +kernel
theorem dX4_mapChr_71 : decode cX4_mapChr 71 = .ok (.iaload, 1) := by decide +kernel
theorem dX4_mapChr_72 : decode cX4_mapChr 72 = .ok (.aload_n 0, 1) := by decide +kernel
theorem dX4_mapChr_73 : decode cX4_mapChr 73 = .ok (.getfield 7, 3) := by decide +kernel
theorem dX4_mapChr_76 : decode cX4_mapChr 76 = .ok (.iconst 5, 1) := by decide +kernel
theorem dX4_mapChr_77 : decode cX4_mapChr 77 = .ok (.iaload, 1) := by decide +kernel
theorem dX4_mapChr_78 : decode cX4_mapChr 78 = .ok (.invokevirtual 43, 3) := by decide +kernel
theorem dX4_mapChr_81 : decode cX4_mapChr 81 = .ok (.return_, 1) := by decide +kernel
theorem dX6_init_0 : decode cX6_init 0 = .ok (.aload_n 0, 1) := by decide +kernel
theorem dX6_init_1 : decode cX6_init 1 = .ok (.invokespecial 1, 3) := by decide +kernel
theorem dX6_init_4 : decode cX6_init 4 = .ok (.aload_n 0, 1) := by decide +kernel
theorem dX6_init_5 : decode cX6_init 5 = .ok (.iconst 2, 1) := by decide +kernel
theorem dX6_init_6 : decode cX6_init 6 = .ok (.newarray .int, 2) := by decide +kernel
theorem dX6_init_8 : decode cX6_init 8 = .ok (.putfield 7, 3) := by decide +kernel
theorem dX6_init_11 : decode cX6_init 11 = .ok (.aload_n 0, 1) := by decide +kernel
theorem dX6_init_12 : decode cX6_init 12 = .ok (.iconst 2, 1) := by decide +kernel
theorem dX6_init_13 : decode cX6_init 13 = .ok (.newarray .int, 2) := by decide +kernel
theorem dX6_init_15 : decode cX6_init 15 = .ok (.dup, 1) := by decide +kernel
theorem dX6_init_16 : decode cX6_init 16 = .ok (.iconst 0, 1) := by decide +kernel
theorem dX6_init_17 : decode cX6_init 17 = .ok (.sipush 255, 3) := by decide +kernel
theorem dX6_init_20 : decode cX6_init 20 = .ok (.iastore, 1) := by decide +kernel
theorem dX6_init_21 : decode cX6_init 21 = .ok (.dup, 1) := by decide +kernel
theorem dX6_init_22 : decode cX6_init 22 = .ok (.iconst 1, 1) := by decide +kernel
theorem dX6_init_23 : decode cX6_init 23 = .ok (.sipush 255, 3) := by decide +kernel
theorem dX6_init_26 : decode cX6_init 26 = .ok (.iastore, 1) := by decide +kernel
theorem dX6_init_27 : decode cX6_init 27 = .ok (.putfield 13, 3) := by decide +kernel
theorem dX6_init_30 : decode cX6_init 30 = .ok (.return_, 1) := by decide +kernel
theorem dX6_setStrobe_0 : decode cX6_setStrobe 0 = .ok (.aload_n 0, 1) := by decide +kernel
theorem dX6_setStrobe_1 : decode cX6_setStrobe 1 = .ok (.getfield 16, 3) := by decide +kernel
theorem dX6_setStrobe_4 : decode cX6_setStrobe 4 = .ok (.ifCond .eq 31, 3) := by decide +kernel
theorem dX6_setStrobe_7 : decode cX6_setStrobe 7 = .ok (.iload_n 1, 1) := by decide +kernel
theorem dX6_setStrobe_8 : decode cX6_setStrobe 8 = .ok (.ifCond .ne 27, 3) := by decide +kernel
theorem dX6_setStrobe_11 : decode cX6_setStrobe 11 = .ok (.aload_n 0, 1) := by decide +kernel
theorem dX6_setStrobe_12 : decode cX6_setStrobe 12 = .ok (.getfield 13, 3) := by decide +kernel
theorem dX6_setStrobe_15 : decode cX6_setStrobe 15 = .ok (.iconst 0, 1) := by decide +kernel
theorem dX6_setStrobe_16 : decode cX6_setStrobe 16 = .ok (.aload_n 0, 1) := by decide +kernel
theorem dX6_setStrobe_17 : decode cX6_setStrobe 17 = .ok (.getfield 7, 3) := by decide +kernel
theorem dX6_setStrobe_20 : decode cX6_setStrobe 20 = .ok (.iconst 0, 1) := by decide +kernel
theorem dX6_setStrobe_21 : decode cX6_setStrobe 21 = .ok (.iaload, 1) := by decide +kernel
theorem dX6_setStrobe_22 : decode cX6_setStrobe 22 = .ok (.iastore, 1) := by decide +kernel
theorem dX6_setStrobe_23 : decode cX6_setStrobe 23 = .ok (.aload_n 0, 1) := by decide +kernel
theorem dX6_setStrobe_24 : decode cX6_setStrobe 24 = .ok (.getfield 13, 3) := by decide +kernel
theorem dX6_setStrobe_27 : decode cX6_setStrobe 27 = .ok (.iconst 1, 1) := by decide +kernel
theorem dX6_setStrobe_28 : decode cX6_setStrobe 28 = .ok (.aload_n 0, 1) := by decide +kernel
theorem dX6_setStrobe_29 : decode cX6_setStrobe 29 = .ok (.getfield 7, 3) := by decide +kernel
theorem dX6_setStrobe_32 : decode cX6_setStrobe 32 = .ok (.iconst 1, 1) := by decide +kernel
theorem dX6_setStrobe_33 : decode cX6_setStrobe 33 = .ok (.iaload, 1) := by decide +kernel
theorem dX6_setStrobe_34 : decode cX6_setStrobe 34 = .ok (.iastore, 1) := by decide +kernel
theorem dX6_setStrobe_35 : decode cX6_setStrobe 35 = .ok (.aload_n 0, 1) := by decide +kernel
theorem dX6_setStrobe_36 : decode cX6_setStrobe 36 = .ok (.iload_n 1, 1) := by decide +kernel
theorem dX6_setStrobe_37 : decode cX6_setStrobe 37 = .ok (.putfield 16, 3) := by decide +kernel
theorem dX6_setStrobe_40 : decode cX6_setStrobe 40 = .ok (.return_, 1) := by decide +kernel
theorem dX6_nextBit_0 : decode cX6_nextBit 0 = .ok (.iload_n 1, 1) := by decide +kernel
theorem dX6_nextBit_1 : decode cX6_nextBit 1 = .ok (.iconst 1, 1) := by decide +kernel
theorem dX6_nextBit_2 : decode cX6_nextBit 2 = .ok (.iand, 1) := by decide +kernel
theorem dX6_nextBit_3 : decode cX6_nextBit 3 = .ok (.istore_n 2, 1) := by decide +kernel
theorem dX6_nextBit_4 : decode cX6_nextBit 4 = .ok (.aload_n 0, 1) := by decide +kernel
theorem dX6_nextBit_5 : decode cX6_nextBit 5 = .ok (.getfield 16, 3) := by decide +kernel
theorem dX6_nextBit_8 : decode cX6_nextBit 8 = .ok (.ifCond .eq 12, 3) := by decide +kernel
theorem dX6_nextBit_11 : decode cX6_nextBit 11 = .ok (.aload_n 0, 1) := by decide +kernel
theorem dX6_nextBit_12 : decode cX6_nextBit 12 = .ok (.getfield 7, 3) := by decide +kernel
theorem dX6_nextBit_15 : decode cX6_nextBit 15 = .ok (.iload_n 2, 1) := by decide +kernel
theorem dX6_nextBit_16 : decode cX6_nextBit 16 = .ok (.iaload, 1) := by decide +kernel
theorem dX6_nextBit_17 : decode cX6_nextBit 17 = .ok (.iconst 1, 1) := by decide +kernel
theorem dX6_nextBit_18 : decode cX6_nextBit 18 = .ok (.iand, 1) := by decide +kernel
theorem dX6_nextBit_19 : decode cX6_nextBit 19 = .ok (.ireturn, 1) := by decide +kernel
theorem dX6_nextBit_20 : decode cX6_nextBit 20 = .ok (.aload_n 0, 1) := by decide +kernel
theorem dX6_nextBit_21 : decode cX6_nextBit 21 = .ok (.getfield 13, 3) := by decide +kernel
theorem dX6_nextBit_24 : decode cX6_nextBit 24 = .ok (.iload_n 2, 1) := by decide +kernel
theorem dX6_nextBit_25 : decode cX6_nextBit 25 = .ok (.iaload, 1) := by decide +kernel
theorem dX6_nextBit_26 : decode cX6_nextBit 26 = .ok (.iconst 1, 1) := by decide +kernel
theorem dX6_nextBit_27 : decode cX6_nextBit 27 = .ok (.iand, 1) := by decide +kernel
theorem dX6_nextBit_28 : decode cX6_nextBit 28 = .ok (.istore_n 3, 1) := by decide +kernel
theorem dX6_nextBit_29 : decode cX6_nextBit 29 = .ok (.aload_n 0, 1) := by decide +kernel
theorem dX6_nextBit_30 : decode cX6_nextBit 30 = .ok (.getfield 13, 3) := by decide +kernel
theorem dX6_nextBit_33 : decode cX6_nextBit 33 = .ok (.iload_n 2, 1) := by decide +kernel
theorem dX6_nextBit_34 : decode cX6_nextBit 34 = .ok (.aload_n 0, 1) := by decide +kernel
theorem dX6_nextBit_35 : decode cX6_nextBit 35 = .ok (.getfield 13, 3) := by decide +kernel
theorem dX6_nextBit_38 : decode cX6_nextBit 38 = .ok (.iload_n 2, 1) := by decide +kernel
theorem dX6_nextBit_39 : decode cX6_nextBit 39 = .ok (.iaload, 1) := by decide +kernel
theorem dX6_nextBit_40 : decode cX6_nextBit 40 = .ok (.iconst 1, 1) := by decide +kernel
theorem dX6_nextBit_41 : decode cX6_nextBit 41 = .ok (.ishr, 1) := by decide +kernel
theorem dX6_nextBit_42 : decode cX6_nextBit 42 = .ok (.sipush 128, 3) := by decide +kernel
theorem dX6_nextBit_45 : decode cX6_nextBit 45 = .ok (.ior, 1) := by decide +kernel
theorem dX6_nextBit_46 : decode cX6_nextBit 46 = .ok (.iastore, 1) := by decide +kernel
theorem dX6_nextBit_47 : decode cX6_nextBit 47 = .ok (.iload_n 3, 1) := by decide +kernel
theorem dX6_nextBit_48 : decode cX6_nextBit 48 = .ok (.ireturn, 1) := by decide +kernel
theorem dX7_init_0 : decode cX7_init 0 = .ok (.aload_n 0, 1) := by decide +kernel
theorem dX7_init_1 : decode cX7_init 1 = .ok (.invokespecial 1, 3) := by decide +kernel
theorem dX7_init_4 : decode cX7_init 4 = .ok (.aload_n 0, 1) := by decide +kernel
theorem dX7_init_5 : decode cX7_init 5 = .ok (.sipush 256, 3) := by decide +kernel
theorem dX7_init_8 : decode cX7_init 8 = .ok (.newarray .int, 2) := by decide +kernel
theorem dX7_init_10 : decode cX7_init 10 = .ok (.putfield 7, 3) := by decide +kernel
theorem dX7_init_13 : decode cX7_init 13 = .ok (.aload_n 0, 1) := by decide +kernel
theorem dX7_init_14 : decode cX7_init 14 = .ok (.sipush 2048, 3) := by decide +kernel
theorem dX7_init_17 : decode cX7_init 17 = .ok (.newarray .int, 2) := by decide +kernel
theorem dX7_init_19 : decode cX7_init 19 = .ok (.putfield 13, 3) := by decide +kernel
theorem dX7_init_22 : decode cX7_init 22 = .ok (.aload_n 0, 1) := by decide +kernel
theorem dX7_init_23 : decode cX7_init 23 = .ok (.bipush 32, 2) := by decide +kernel
theorem dX7_init_25 : decode cX7_init 25 = .ok (.newarray .int, 2) := by decide +kernel
theorem dX7_init_27 : decode cX7_init 27 = .ok (.putfield 16, 3) := by decide +kernel
theorem dX7_init_30 : decode cX7_init 30 = .ok (.aload_n 0, 1) := by decide +kernel
theorem dX7_init_31 : decode cX7_init 31 = .ok (.aload_n 1, 1) := by decide +kernel
theorem dX7_init_32 : decode cX7_init 32 = .ok (.putfield 19, 3) := by decide +kernel
theorem dX7_init_35 : decode cX7_init 35 = .ok (.return_, 1) := by decide +kernel
theorem dX7_restart_0 : decode cX7_restart 0 = .ok (.aload_n 0, 1) := by decide +kernel
theorem dX7_restart_1 : decode cX7_restart 1 = .ok (.iconst 0, 1) := by decide +kernel
theorem dX7_restart_2 : decode cX7_restart 2 = .ok (.putfield 23, 3) := by decide +kernel
theorem dX7_restart_5 : decode cX7_restart 5 = .ok (.aload_n 0, 1) := by decide +kernel
theorem dX7_restart_6 : decode cX7_restart 6 = .ok (.iconst 0, 1) := by decide +kernel
theorem dX7_restart_7 : decode cX7_restart 7 = .ok (.putfield 27, 3) := by decide +kernel
theorem dX7_restart_10 : decode cX7_restart 10 = .ok (.aload_n 0, 1) := by decide +kernel
theorem dX7_restart_11 : decode cX7_restart 11 = .ok (.iconst 0, 1) := by decide +kernel
theorem dX7_restart_12 : decode cX7_restart 12 = .ok (.putfield 30, 3) := by decide +kernel
theorem dX7_restart_15 : decode cX7_restart 15 = .ok (.aload_n 0, 1) := by decide +kernel
theorem dX7_restart_16 : decode cX7_restart 16 = .ok (.iconst 0, 1) := by decide +kernel
theorem dX7_restart_17 : decode cX7_restart 17 = .ok (.putfield 33, 3) := by decide +kernel
theorem dX7_restart_20 : decode cX7_restart 20 = .ok (.return_, 1) := by decide +kernel
theorem dX7_takeNmi_0 : decode cX7_takeNmi 0 = .ok (.aload_n 0, 1) := by decide +kernel
theorem dX7_takeNmi_1 : decode cX7_takeNmi 1 = .ok (.getfield 33, 3) := by decide +kernel
theorem dX7_takeNmi_4 : decode cX7_takeNmi 4 = .ok (.istore_n 1, 1) := by decide +kernel
theorem dX7_takeNmi_5 : decode cX7_takeNmi 5 = .ok (.aload_n 0, 1) := by decide +kernel
theorem dX7_takeNmi_6 : decode cX7_takeNmi 6 = .ok (.iconst 0, 1) := by decide +kernel
theorem dX7_takeNmi_7 : decode cX7_takeNmi 7 = .ok (.putfield 33, 3) := by decide +kernel
theorem dX7_takeNmi_10 : decode cX7_takeNmi 10 = .ok (.iload_n 1, 1) := by decide +kernel
theorem dX7_takeNmi_11 : decode cX7_takeNmi 11 = .ok (.ireturn, 1) := by decide +kernel
theorem dX7_load_0 : decode cX7_load 0 = .ok (.iconst 0, 1) := by decide +kernel
theorem dX7_load_1 : decode cX7_load 1 = .ok (.istore_n 2, 1) := by decide +kernel
theorem dX7_load_2 : decode cX7_load 2 = .ok (.iload_n 1, 1) := by decide +kernel
theorem dX7_load_3 : decode cX7_load 3 = .ok (.iconst 2, 1) := by decide +kernel
theorem dX7_load_4 : decode cX7_load 4 = .ok (.if_icmp .ne 24, 3) := by decide +kernel
theorem dX7_load_7 : decode cX7_load 7 = .ok (.aload_n 0, 1) := by decide +kernel
theorem dX7_load_8 : decode cX7_load 8 = .ok (.getfield 37, 3) := by decide +kernel
theorem dX7_load_11 : decode cX7_load 11 = .ok (.bipush 7, 2) := by decide +kernel
theorem dX7_load_13 : decode cX7_load 13 = .ok (.ishl, 1) := by decide +kernel
theorem dX7_load_14 : decode cX7_load 14 = .ok (.istore_n 2, 1) := by decide +kernel
theorem dX7_load_15 : decode cX7_load 15 = .ok (.aload_n 0, 1) := by decide +kernel
theorem dX7_load_16 : decode cX7_load 16 = .ok (.iconst 0, 1) := by decide +kernel
theorem dX7_load_17 : decode cX7_load 17 = .ok (.putfield 37, 3) := by decide +kernel
theorem dX7_load_20 : decode cX7_load 20 = .ok (.aload_n 0, 1) := by decide +kernel
theorem dX7_load_21 : decode cX7_load 21 = .ok (.iconst 0, 1) := by decide +kernel
theorem dX7_load_22 : decode cX7_load 22 = .ok (.putfield 30, 3) := by decide +kernel
theorem dX7_load_25 : decode cX7_load 25 = .ok (.goto 104, 3) := by decide +kernel
theorem dX7_load_28 : decode cX7_load 28 = .ok (.iload_n 1, 1) := by decide +kernel
theorem dX7_load_29 : decode cX7_load 29 = .ok (.iconst 4, 1) := by decide +kernel
theorem dX7_load_30 : decode cX7_load 30 = .ok (.if_icmp .ne 20, 3) := by decide +kernel
theorem dX7_load_33 : decode cX7_load 33 = .ok (.aload_n 0, 1) := by decide +kernel
theorem dX7_load_34 : decode cX7_load 34 = .ok (.getfield 7, 3) := by decide +kernel
theorem dX7_load_37 : decode cX7_load 37 = .ok (.aload_n 0, 1) := by decide +kernel
theorem dX7_load_38 : decode cX7_load 38 = .ok (.getfield 40, 3) := by decide +kernel
theorem dX7_load_41 : decode cX7_load 41 = .ok (.sipush 255, 3) := by decide +kernel
theorem dX7_load_44 : decode cX7_load 44 = .ok (.iand, 1) := by decide +kernel
theorem dX7_load_45 : decode cX7_load 45 = .ok (.iaload, 1) := by decide +kernel
theorem dX7_load_46 : decode cX7_load 46 = .ok (.istore_n 2, 1) := by decide +kernel
theorem dX7_load_47 : decode cX7_load 47 = .ok (.goto 82, 3) := by decide +kernel
theorem dX7_load_50 : decode cX7_load 50 = .ok (.iload_n 1, 1) := by decide +kernel
theorem dX7_load_51 : decode cX7_load 51 = .ok (.bipush 7, 2) := by decide +kernel
theorem dX7_load_53 : decode cX7_load 53 = .ok (.if_icmp .ne 76, 3) := by decide +kernel
theorem dX7_load_56 : decode cX7_load 56 = .ok (.aload_n 0, 1) := by decide +kernel
theorem dX7_load_57 : decode cX7_load 57 = .ok (.getfield 43, 3) := by decide +kernel
theorem dX7_load_60 : decode cX7_load 60 = .ok (.sipush 16383, 3) := by decide +kernel
theorem dX7_load_63 : decode cX7_load 63 = .ok (.iand, 1) := by decide +kernel
theorem dX7_load_64 : decode cX7_load 64 = .ok (.istore_n 3, 1) := by decide +kernel
theorem dX7_load_65 : decode cX7_load 65 = .ok (.aload_n 0, 1) := by decide +kernel
theorem dX7_load_66 : decode cX7_load 66 = .ok (.iload_n 3, 1) := by decide +kernel
theorem dX7_load_67 : decode cX7_load 67 = .ok (.invokevirtual 46, 3) := by decide +kernel
theorem dX7_load_70 : decode cX7_load 70 = .ok (.istore 4, 2) := by decide +kernel
theorem dX7_load_72 : decode cX7_load 72 = .ok (.iload_n 3, 1) := by decide +kernel
theorem dX7_load_73 : decode cX7_load 73 = .ok (.sipush 16128, 3) := by decide +kernel
theorem dX7_load_76 : decode cX7_load 76 = .ok (.if_icmp .lt 7, 3) := by decide +kernel
theorem dX7_load_79 : decode cX7_load 79 = .ok (.iconst 1, 1) := by decide +kernel
theorem dX7_load_80 : decode cX7_load 80 = .ok (.goto 4, 3) := by decide +kernel
theorem dX7_load_83 : decode cX7_load 83 = .ok (.iconst 0, 1) := by decide +kernel
theorem dX7_load_84 : decode cX7_load 84 = .ok (.istore 5, 2) := by decide +kernel
theorem dX7_load_86 : decode cX7_load 86 = .ok (.iload 5, 2) := by decide +kernel
theorem dX7_load_88 : decode cX7_load 88 = .ok (.ifCond .eq 8, 3) := by decide +kernel
theorem dX7_load_91 : decode cX7_load 91 = .ok (.iload 4, 2) := by decide +kernel
theorem dX7_load_93 : decode cX7_load 93 = .ok (.goto 7, 3) := by decide +kernel
theorem dX7_load_96 : decode cX7_load 96 = .ok (.aload_n 0, 1) := by decide +kernel
theorem dX7_load_97 : decode cX7_load 97 = .ok (.getfield 50, 3) := by decide +kernel
theorem dX7_load_100 : decode cX7_load 100 = .ok (.istore_n 2, 1) := by decide +kernel
theorem dX7_load_101 : decode cX7_load 101 = .ok (.aload_n 0, 1) := by decide +kernel
theorem dX7_load_102 : decode cX7_load 102 = .ok (.iload 5, 2) := by decide +kernel
theorem dX7_load_104 : decode cX7_load 104 = .ok (.ifCond .eq 16, 3) := by decide +kernel
theorem dX7_load_107 : decode cX7_load 107 = .ok (.aload_n 0, 1) := by decide +kernel
theorem dX7_load_108 : decode cX7_load 108 = .ok (.getfield 13, 3) := by decide +kernel
theorem dX7_load_111 : decode cX7_load 111 = .ok (.aload_n 0, 1) := by decide +kernel
theorem dX7_load_112 : decode cX7_load 112 = .ok (.iload_n 3, 1) := by decide +kernel
theorem dX7_load_113 : decode cX7_load 113 = .ok (.invokevirtual 53, 3) := by decide +kernel
theorem dX7_load_116 : decode cX7_load 116 = .ok (.iaload, 1) := by decide +kernel
theorem dX7_load_117 : decode cX7_load 117 = .ok (.goto 5, 3) := by decide +kernel
theorem dX7_load_120 : decode cX7_load 120 = .ok (.iload 4, 2) := by decide +kernel
theorem dX7_load_122 : decode cX7_load 122 = .ok (.putfield 50, 3) := by decide +kernel
theorem dX7_load_125 : decode cX7_load 125 = .ok (.aload_n 0, 1) := by decide +kernel
theorem dX7_load_126 : decode cX7_load 126 = .ok (.invokevirtual 56, 3) := by decide +kernel
theorem dX7_load_129 : decode cX7_load 129 = .ok (.iload_n 2, 1) := by decide +kernel
theorem dX7_load_130 : decode cX7_load 130 = .ok (.ireturn, 1) := by decide +kernel
theorem dX7_store_0 : decode cX7_store 0 = .ok (.iload_n 1, 1) := by decide +kernel
theorem dX7_store_1 : decode cX7_store 1 = .ok (.tableswitch 138 0 7 #[47, 55, 138, 63, 71, 102, 110, 118], 47) := by decide +kernel
theorem dX7_store_48 : decode cX7_store 48 = .ok (.aload_n 0, 1) := by decide +kernel
theorem dX7_store_49 : decode cX7_store 49 = .ok (.iload_n 2, 1) := by decide +kernel
theorem dX7_store_50 : decode cX7_store 50 = .ok (.invokevirtual 59, 3) := by decide +kernel
theorem dX7_store_53 : decode cX7_store 53 = .ok (.goto 86, 3) := by decide +kernel
theorem dX7_store_56 : decode cX7_store 56 = .ok (.aload_n 0, 1) := by decide +kernel
theorem dX7_store_57 : decode cX7_store 57 = .ok (.iload_n 2, 1) := by decide +kernel
theorem dX7_store_58 : decode cX7_store 58 = .ok (.putfield 27, 3) := by decide +kernel
theorem dX7_store_61 : decode cX7_store 61 = .ok (.goto 78, 3) := by decide +kernel
theorem dX7_store_64 : decode cX7_store 64 = .ok (.aload_n 0, 1) := by decide +kernel
theorem dX7_store_65 : decode cX7_store 65 = .ok (.iload_n 2, 1) := by decide +kernel
theorem dX7_store_66 : decode cX7_store 66 = .ok (.putfield 40, 3) := by decide +kernel
theorem dX7_store_69 : decode cX7_store 69 = .ok (.goto 70, 3) := by decide +kernel
theorem dX7_store_72 : decode cX7_store 72 = .ok (.aload_n 0, 1) := by decide +kernel
theorem dX7_store_73 : decode cX7_store 73 = .ok (.getfield 7, 3) := by decide +kernel
theorem dX7_store_76 : decode cX7_store 76 = .ok (.aload_n 0, 1) := by decide +kernel
theorem dX7_store_77 : decode cX7_store 77 = .ok (.getfield 40, 3) := by decide +kernel
theorem dX7_store_80 : decode cX7_store 80 = .ok (.sipush 255, 3) := by decide +kernel
theorem dX7_store_83 : decode cX7_store 83 = .ok (.iand, 1) := by decide +kernel
theorem dX7_store_84 : decode cX7_store 84 = .ok (.iload_n 2, 1) := by decide +kernel
theorem dX7_store_85 : decode cX7_store 85 = .ok (.iastore, 1) := by decide +kernel
theorem dX7_store_86 : decode cX7_store 86 = .ok (.aload_n 0, 1) := by decide +kernel
theorem dX7_store_87 : decode cX7_store 87 = .ok (.aload_n 0, 1) := by decide +kernel
theorem dX7_store_88 : decode cX7_store 88 = .ok (.getfield 40, 3) := by decide +kernel
theorem dX7_store_91 : decode cX7_store 91 = .ok (.iconst 1, 1) := by decide +kernel
theorem dX7_store_92 : decode cX7_store 92 = .ok (.iadd, 1) := by decide +kernel
theorem dX7_store_93 : decode cX7_store 93 = .ok (.sipush 255, 3) := by decide +kernel
theorem dX7_store_96 : decode cX7_store 96 = .ok (.iand, 1) := by decide +kernel
theorem dX7_store_97 : decode cX7_store 97 = .ok (.putfield 40, 3) := by decide +kernel
theorem dX7_store_100 : decode cX7_store 100 = .ok (.goto 39, 3) := by decide +kernel
theorem dX7_store_103 : decode cX7_store 103 = .ok (.aload_n 0, 1) := by decide +kernel
theorem dX7_store_104 : decode cX7_store 104 = .ok (.iload_n 2, 1) := by decide +kernel
theorem dX7_store_105 : decode cX7_store 105 = .ok (.invokevirtual 63, 3) := by decide +kernel
theorem dX7_store_108 : decode cX7_store 108 = .ok (.goto 31, 3) := by decide +kernel
theorem dX7_store_111 : decode cX7_store 111 = .ok (.aload_n 0, 1) := by decide +kernel
theorem dX7_store_112 : decode cX7_store 112 = .ok (.iload_n 2, 1) := by decide +kernel
theorem dX7_store_113 : decode cX7_store 113 = .ok (.invokevirtual 66, 3) := by decide +kernel
theorem dX7_store_116 : decode cX7_store 116 = .ok (.goto 23, 3) := by decide +kernel
theorem dX7_store_119 : decode cX7_store 119 = .ok (.aload_n 0, 1) := by decide +kernel
theorem dX7_store_120 : decode cX7_store 120 = .ok (.aload_n 0, 1) := by decide +kernel
theorem dX7_store_121 : decode cX7_store 121 = .ok (.getfield 43, 3) := by decide +kernel
theorem dX7_store_124 : decode cX7_store 124 = .ok (.sipush 16383, 3) := by decide +kernel
theorem dX7_store_127 : decode cX7_store 127 = .ok (.iand, 1) := by decide +kernel
theorem dX7_store_128 : decode cX7_store 128 = .ok (.iload_n 2, 1) := by decide +kernel
theorem dX7_store_129 : decode cX7_store 129 = .ok (.invokevirtual 69, 3) := by decide +kernel
theorem dX7_store_132 : decode cX7_store 132 = .ok (.aload_n 0, 1) := by decide +kernel
theorem dX7_store_133 : decode cX7_store 133 = .ok (.invokevirtual 56, 3) := by decide +kernel
theorem dX7_store_136 : decode cX7_store 136 = .ok (.goto 3, 3) := by decide +kernel
theorem dX7_store_139 : decode cX7_store 139 = .ok (.return_, 1) := by decide +kernel
theorem dX7_storeControl_0 : decode cX7_storeControl 0 = .ok (.aload_n 0, 1) := by decide +kernel
theorem dX7_storeControl_1 : decode cX7_storeControl 1 = .ok (.getfield 23, 3) := by decide +kernel
theorem dX7_storeControl_4 : decode cX7_storeControl 4 = .ok (.sipush 128, 3) := by decide +kernel
theorem dX7_storeControl_7 : decode cX7_storeControl 7 = .ok (.iand, 1) := by decide +kernel
theorem dX7_storeControl_8 : decode cX7_storeControl 8 = .ok (.ifCond .ne 7, 3) := by decide +kernel
theorem dX7_storeControl_11 : decode cX7_storeControl 11 = .ok (.iconst 1, 1) := by decide +kernel
theorem dX7_storeControl_12 : decode cX7_storeControl 12 = .ok (.goto 4, 3) := by decide +kernel
theorem dX7_storeControl_15 : decode cX7_storeControl 15 = .ok (.iconst 0, 1) := by decide +kernel
theorem dX7_storeControl_16 : decode cX7_storeControl 16 = .ok (.istore_n 2, 1) := by decide +kernel
theorem dX7_storeControl_17 : decode cX7_storeControl 17 = .ok (.aload_n 0, 1) := by decide +kernel
theorem dX7_storeControl_18 : decode cX7_storeControl 18 = .ok (.iload_n 1, 1) := by decide +kernel
theorem dX7_storeControl_19 : decode cX7_storeControl 19 = .ok (.putfield 23, 3) := by decide +kernel
theorem dX7_storeControl_22 : decode cX7_storeControl 22 = .ok (.aload_n 0, 1) := by decide +kernel
theorem dX7_storeControl_23 : decode cX7_storeControl 23 = .ok (.aload_n 0, 1) := by decide +kernel
theorem dX7_storeControl_24 : decode cX7_storeControl 24 = .ok (.getfield 73, 3) := by decide +kernel
theorem dX7_storeControl_27 : decode cX7_storeControl 27 = .ok (.sipush (-3073), 3) := by decide +kernel
theorem dX7_storeControl_30 : decode cX7_storeControl 30 = .ok (.iand, 1) := by decide +kernel
theorem dX7_storeControl_31 : decode cX7_storeControl 31 = .ok (.iload_n 1, 1) := by decide +kernel
theorem dX7_storeControl_32 : decode cX7_storeControl 32 = .ok (.iconst 3, 1) := by decide +kernel
theorem dX7_storeControl_33 : decode cX7_storeControl 33 = .ok (.iand, 1) := by decide +kernel
theorem dX7_storeControl_34 : decode cX7_storeControl 34 = .ok (.bipush 10, 2) := by decide +kernel
theorem dX7_storeControl_36 : decode cX7_storeControl 36 = .ok (.ishl, 1) := by decide +kernel
theorem dX7_storeControl_37 : decode cX7_storeControl 37 = .ok (.ior, 1) := by decide +kernel
theorem dX7_storeControl_38 : decode cX7_storeControl 38 = .ok (.putfield 73, 3) := by decide +kernel
theorem dX7_storeControl_41 : decode cX7_storeControl 41 = .ok (.iload_n 2, 1) := by decide +kernel
theorem dX7_storeControl_42 : decode cX7_storeControl 42 = .ok (.ifCond .eq 24, 3) := by decide +kernel
theorem dX7_storeControl_45 : decode cX7_storeControl 45 = .ok (.iload_n 1, 1) := by decide +kernel
theorem dX7_storeControl_46 : decode cX7_storeControl 46 = .ok (.sipush 128, 3) := by decide +kernel
theorem dX7_storeControl_49 : decode cX7_storeControl 49 = .ok (.iand, 1) := by decide +kernel
theorem dX7_storeControl_50 : decode cX7_storeControl 50 = .ok (.ifCond .eq 16, 3) := by decide +kernel
theorem dX7_storeControl_53 : decode cX7_storeControl 53 = .ok (.aload_n 0, 1) := by decide +kernel
theorem dX7_storeControl_54 : decode cX7_storeControl 54 = .ok (.getfield 37, 3) := by decide +kernel
theorem dX7_storeControl_57 : decode cX7_storeControl 57 = .ok (.iconst 1, 1) := by decide +kernel
theorem dX7_storeControl_58 : decode cX7_storeControl 58 = .ok (.if_icmp .ne 8, 3) := by decide +kernel
theorem dX7_storeControl_61 : decode cX7_storeControl 61 = .ok (.aload_n 0, 1) := by decide +kernel
theorem dX7_storeControl_62 : decode cX7_storeControl 62 = .ok (.iconst 1, 1) := by decide +kernel
theorem dX7_storeControl_63 : decode cX7_storeControl 63 = .ok (.putfield 33, 3) := by decide +kernel
theorem dX7_storeControl_66 : decode cX7_storeControl 66 = .ok (.return_, 1) := by decide +kernel
theorem dX7_storeScroll_0 : decode cX7_storeScroll 0 = .ok (.aload_n 0, 1) := by decide +kernel
theorem dX7_storeScroll_1 : decode cX7_storeScroll 1 = .ok (.getfield 30, 3) := by decide +kernel
theorem dX7_storeScroll_4 : decode cX7_storeScroll 4 = .ok (.ifCond .ne 29, 3) := by decide +kernel
theorem dX7_storeScroll_7 : decode cX7_storeScroll 7 = .ok (.aload_n 0, 1) := by decide +kernel
theorem dX7_storeScroll_8 : decode cX7_storeScroll 8 = .ok (.aload_n 0, 1) := by decide +kernel
theorem dX7_storeScroll_9 : decode cX7_storeScroll 9 = .ok (.getfield 73, 3) := by decide +kernel
theorem dX7_storeScroll_12 : decode cX7_storeScroll 12 = .ok (.bipush (-32), 2) := by decide +kernel
theorem dX7_storeScroll_14 : decode cX7_storeScroll 14 = .ok (.iand, 1) := by decide +kernel
theorem dX7_storeScroll_15 : decode cX7_storeScroll 15 = .ok (.iload_n 1, 1) := by decide +kernel
theorem dX7_storeScroll_16 : decode cX7_storeScroll 16 = .ok (.iconst 3, 1) := by decide +kernel
theorem dX7_storeScroll_17 : decode cX7_storeScroll 17 = .ok (.ishr, 1) := by decide +kernel
theorem dX7_storeScroll_18 : decode cX7_storeScroll 18 = .ok (.ior, 1) := by decide +kernel
theorem dX7_storeScroll_19 : decode cX7_storeScroll 19 = .ok (.putfield 73, 3) := by decide +kernel
theorem dX7_storeScroll_22 : decode cX7_storeScroll 22 = .ok (.aload_n 0, 1) := by decide +kernel
theorem dX7_storeScroll_23 : decode cX7_storeScroll 23 = .ok (.iload_n 1, 1) := by decide +kernel
theorem dX7_storeScroll_24 : decode cX7_storeScroll 24 = .ok (.bipush 7, 2) := by decide +kernel
theorem dX7_storeScroll_26 : decode cX7_storeScroll 26 = .ok (.iand, 1) := by decide +kernel
theorem dX7_storeScroll_27 : decode cX7_storeScroll 27 = .ok (.putfield 76, 3) := by decide +kernel
theorem dX7_storeScroll_30 : decode cX7_storeScroll 30 = .ok (.goto 29, 3) := by decide +kernel
theorem dX7_storeScroll_33 : decode cX7_storeScroll 33 = .ok (.aload_n 0, 1) := by decide +kernel
theorem dX7_storeScroll_34 : decode cX7_storeScroll 34 = .ok (.aload_n 0, 1) := by decide +kernel
theorem dX7_storeScroll_35 : decode cX7_storeScroll 35 = .ok (.getfield 73, 3) := by decide +kernel
theorem dX7_storeScroll_38 : decode cX7_storeScroll 38 = .ok (.sipush (-29665), 3) := by decide +kernel
theorem dX7_storeScroll_41 : decode cX7_storeScroll 41 = .ok (.iand, 1) := by decide +kernel
theorem dX7_storeScroll_42 : decode cX7_storeScroll 42 = .ok (.iload_n 1, 1) := by decide +kernel
theorem dX7_storeScroll_43 : decode cX7_storeScroll 43 = .ok (.bipush 7, 2) := by decide +kernel
theorem dX7_storeScroll_45 : decode cX7_storeScroll 45 = .ok (.iand, 1) := by decide +kernel
theorem dX7_storeScroll_46 : decode cX7_storeScroll 46 = .ok (.bipush 12, 2) := by decide +kernel
theorem dX7_storeScroll_48 : decode cX7_storeScroll 48 = .ok (.ishl, 1) := by decide +kernel
theorem dX7_storeScroll_49 : decode cX7_storeScroll 49 = .ok (.ior, 1) := by decide +kernel
theorem dX7_storeScroll_50 : decode cX7_storeScroll 50 = .ok (.iload_n 1, 1) := by decide +kernel
theorem dX7_storeScroll_51 : decode cX7_storeScroll 51 = .ok (.iconst 3, 1) := by decide +kernel
theorem dX7_storeScroll_52 : decode cX7_storeScroll 52 = .ok (.ishr, 1) := by decide +kernel
theorem dX7_storeScroll_53 : decode cX7_storeScroll 53 = .ok (.iconst 5, 1) := by decide +kernel
theorem dX7_storeScroll_54 : decode cX7_storeScroll 54 = .ok (.ishl, 1) := by decide +kernel
theorem dX7_storeScroll_55 : decode cX7_storeScroll 55 = .ok (.ior, 1) := by decide +kernel
theorem dX7_storeScroll_56 : decode cX7_storeScroll 56 = .ok (.putfield 73, 3) := by decide +kernel
theorem dX7_storeScroll_59 : decode cX7_storeScroll 59 = .ok (.aload_n 0, 1) := by decide +kernel
theorem dX7_storeScroll_60 : decode cX7_storeScroll 60 = .ok (.iconst 1, 1) := by decide +kernel
theorem dX7_storeScroll_61 : decode cX7_storeScroll 61 = .ok (.aload_n 0, 1) := by decide +kernel
theorem dX7_storeScroll_62 : decode cX7_storeScroll 62 = .ok (.getfield 30, 3) := by decide +kernel
theorem dX7_storeScroll_65 : decode cX7_storeScroll 65 = .ok (.isub, 1) := by decide +kernel
theorem dX7_storeScroll_66 : decode cX7_storeScroll 66 = .ok (.putfield 30, 3) := by decide +kernel
theorem dX7_storeScroll_69 : decode cX7_storeScroll 69 = .ok (.return_, 1) := by decide +kernel
theorem dX7_storeAddress_0 : decode cX7_storeAddress 0 = .ok (.aload_n 0, 1) := by decide +kernel
theorem dX7_storeAddress_1 : decode cX7_storeAddress 1 = .ok (.getfield 30, 3) := by decide +kernel
theorem dX7_storeAddress_4 : decode cX7_storeAddress 4 = .ok (.ifCond .ne 26, 3) := by decide +kernel
theorem dX7_storeAddress_7 : decode cX7_storeAddress 7 = .ok (.aload_n 0, 1) := by decide +kernel
theorem dX7_storeAddress_8 : decode cX7_storeAddress 8 = .ok (.aload_n 0, 1) := by decide +kernel
theorem dX7_storeAddress_9 : decode cX7_storeAddress 9 = .ok (.getfield 73, 3) := by decide +kernel
theorem dX7_storeAddress_12 : decode cX7_storeAddress 12 = .ok (.sipush 255, 3) := by decide +kernel
theorem dX7_storeAddress_15 : decode cX7_storeAddress 15 = .ok (.iand, 1) := by decide +kernel
theorem dX7_storeAddress_16 : decode cX7_storeAddress 16 = .ok (.iload_n 1, 1) := by decide +kernel
theorem dX7_storeAddress_17 : decode cX7_storeAddress 17 = .ok (.bipush 63, 2) := by decide +kernel
theorem dX7_storeAddress_19 : decode cX7_storeAddress 19 = .ok (.iand, 1) := by decide +kernel
theorem dX7_storeAddress_20 : decode cX7_storeAddress 20 = .ok (.bipush 8, 2) := by decide +kernel
theorem dX7_storeAddress_22 : decode cX7_storeAddress 22 = .ok (.ishl, 1) := by decide +kernel
theorem dX7_storeAddress_23 : decode cX7_storeAddress 23 = .ok (.ior, 1) := by decide +kernel
theorem dX7_storeAddress_24 : decode cX7_storeAddress 24 = .ok (.putfield 73, 3) := by decide +kernel
theorem dX7_storeAddress_27 : decode cX7_storeAddress 27 = .ok (.goto 25, 3) := by decide +kernel
theorem dX7_storeAddress_30 : decode cX7_storeAddress 30 = .ok (.aload_n 0, 1) := by decide +kernel
theorem dX7_storeAddress_31 : decode cX7_storeAddress 31 = .ok (.aload_n 0, 1) := by decide +kernel
theorem dX7_storeAddress_32 : decode cX7_storeAddress 32 = .ok (.getfield 73, 3) := by decide +kernel
theorem dX7_storeAddress_35 : decode cX7_storeAddress 35 = .ok (.sipush 32512, 3) := by decide +kernel
theorem dX7_storeAddress_38 : decode cX7_storeAddress 38 = .ok (.iand, 1) := by decide +kernel
theorem dX7_storeAddress_39 : decode cX7_storeAddress 39 = .ok (.iload_n 1, 1) := by decide +kernel
theorem dX7_storeAddress_40 : decode cX7_storeAddress 40 = .ok (.ior, 1) := by decide +kernel
theorem dX7_storeAddress_41 : decode cX7_storeAddress 41 = .ok (.putfield 73, 3) := by decide +kernel
theorem dX7_storeAddress_44 : decode cX7_storeAddress 44 = .ok (.aload_n 0, 1) := by decide +kernel
theorem dX7_storeAddress_45 : decode cX7_storeAddress 45 = .ok (.aload_n 0, 1) := by decide +kernel
theorem dX7_storeAddress_46 : decode cX7_storeAddress 46 = .ok (.getfield 73, 3) := by decide +kernel
theorem dX7_storeAddress_49 : decode cX7_storeAddress 49 = .ok (.putfield 43, 3) := by decide +kernel
theorem dX7_storeAddress_52 : decode cX7_storeAddress 52 = .ok (.aload_n 0, 1) := by decide +kernel
theorem dX7_storeAddress_53 : decode cX7_storeAddress 53 = .ok (.iconst 1, 1) := by decide +kernel
theorem dX7_storeAddress_54 : decode cX7_storeAddress 54 = .ok (.aload_n 0, 1) := by decide +kernel
theorem dX7_storeAddress_55 : decode cX7_storeAddress 55 = .ok (.getfield 30, 3) := by decide +kernel
theorem dX7_storeAddress_58 : decode cX7_storeAddress 58 = .ok (.isub, 1) := by decide +kernel
theorem dX7_storeAddress_59 : decode cX7_storeAddress 59 = .ok (.putfield 30, 3) := by decide +kernel
theorem dX7_storeAddress_62 : decode cX7_storeAddress 62 = .ok (.return_, 1) := by decide +kernel
theorem dX7_growV_0 : decode cX7_growV 0 = .ok (.aload_n 0, 1) := by decide +kernel
theorem dX7_growV_1 : decode cX7_growV 1 = .ok (.aload_n 0, 1) := by decide +kernel
theorem dX7_growV_2 : decode cX7_growV 2 = .ok (.getfield 43, 3) := by decide +kernel
theorem dX7_growV_5 : decode cX7_growV 5 = .ok (.aload_n 0, 1) := by decide +kernel
theorem dX7_growV_6 : decode cX7_growV 6 = .ok (.getfield 23, 3) := by decide +kernel
theorem dX7_growV_9 : decode cX7_growV 9 = .ok (.iconst 4, 1) := by decide +kernel
theorem dX7_growV_10 : decode cX7_growV 10 = .ok (.iand, 1) := by decide +kernel
theorem dX7_growV_11 : decode cX7_growV 11 = .ok (.ifCond .ne 7, 3) := by decide +kernel
theorem dX7_growV_14 : decode cX7_growV 14 = .ok (.iconst 1, 1) := by decide +kernel
theorem dX7_growV_15 : decode cX7_growV 15 = .ok (.goto 5, 3) := by decide +kernel
theorem dX7_growV_18 : decode cX7_growV 18 = .ok (.bipush 32, 2) := by decide +kernel
theorem dX7_growV_20 : decode cX7_growV 20 = .ok (.iadd, 1) := by decide +kernel
theorem dX7_growV_21 : decode cX7_growV 21 = .ok (.sipush 32767, 3) := by decide +kernel
theorem dX7_growV_24 : decode cX7_growV 24 = .ok (.iand, 1) := by decide +kernel
theorem dX7_growV_25 : decode cX7_growV 25 = .ok (.putfield 43, 3) := by decide +kernel
theorem dX7_growV_28 : decode cX7_growV 28 = .ok (.return_, 1) := by decide +kernel
theorem dX7_byteAt_0 : decode cX7_byteAt 0 = .ok (.iload_n 1, 1) := by decide +kernel
theorem dX7_byteAt_1 : decode cX7_byteAt 1 = .ok (.sipush 8192, 3) := by decide +kernel
theorem dX7_byteAt_4 : decode cX7_byteAt 4 = .ok (.if_icmp .ge 12, 3) := by decide +kernel
theorem dX7_byteAt_7 : decode cX7_byteAt 7 = .ok (.aload_n 0, 1) := by decide +kernel
theorem dX7_byteAt_8 : decode cX7_byteAt 8 = .ok (.getfield 19, 3) := by decide +kernel
theorem dX7_byteAt_11 : decode cX7_byteAt 11 = .ok (.iload_n 1, 1) := by decide +kernel
theorem dX7_byteAt_12 : decode cX7_byteAt 12 = .ok (.invokevirtual 79, 3) := by decide +kernel
theorem dX7_byteAt_15 : decode cX7_byteAt 15 = .ok (.ireturn, 1) := by decide +kernel
theorem dX7_byteAt_16 : decode cX7_byteAt 16 = .ok (.iload_n 1, 1) := by decide +kernel
theorem dX7_byteAt_17 : decode cX7_byteAt 17 = .ok (.sipush 16128, 3) := by decide +kernel
theorem dX7_byteAt_20 : decode cX7_byteAt 20 = .ok (.if_icmp .ge 14, 3) := by decide +kernel
theorem dX7_byteAt_23 : decode cX7_byteAt 23 = .ok (.aload_n 0, 1) := by decide +kernel
theorem dX7_byteAt_24 : decode cX7_byteAt 24 = .ok (.getfield 13, 3) := by decide +kernel
theorem dX7_byteAt_27 : decode cX7_byteAt 27 = .ok (.aload_n 0, 1) := by decide +kernel
theorem dX7_byteAt_28 : decode cX7_byteAt 28 = .ok (.iload_n 1, 1) := by decide +kernel
theorem dX7_byteAt_29 : decode cX7_byteAt 29 = .ok (.invokevirtual 53, 3) := by decide +kernel
theorem dX7_byteAt_32 : decode cX7_byteAt 32 = .ok (.iaload, 1) := by decide +kernel
theorem dX7_byteAt_33 : decode cX7_byteAt 33 = .ok (.ireturn, 1) := by decide +kernel
theorem dX7_byteAt_34 : decode cX7_byteAt 34 = .ok (.aload_n 0, 1) := by decide +kernel
theorem dX7_byteAt_35 : decode cX7_byteAt 35 = .ok (.getfield 16, 3) := by decide +kernel
theorem dX7_byteAt_38 : decode cX7_byteAt 38 = .ok (.iload_n 1, 1) := by decide +kernel
theorem dX7_byteAt_39 : decode cX7_byteAt 39 = .ok (.invokestatic 84, 3) := by decide +kernel
theorem dX7_byteAt_42 : decode cX7_byteAt 42 = .ok (.iaload, 1) := by decide +kernel
theorem dX7_byteAt_43 : decode cX7_byteAt 43 = .ok (.ireturn, 1) := by decide +kernel
theorem dX7_storeByte_0 : decode cX7_storeByte 0 = .ok (.iload_n 1, 1) := by decide +kernel
theorem dX7_storeByte_1 : decode cX7_storeByte 1 = .ok (.sipush 16128, 3) := by decide +kernel
theorem dX7_storeByte_4 : decode cX7_storeByte 4 = .ok (.if_icmp .lt 16, 3) := by decide +kernel
theorem dX7_storeByte_7 : decode cX7_storeByte 7 = .ok (.aload_n 0, 1) := by decide +kernel
theorem dX7_storeByte_8 : decode cX7_storeByte 8 = .ok (.getfield 16, 3) := by decide +kernel
theorem dX7_storeByte_11 : decode cX7_storeByte 11 = .ok (.iload_n 1, 1) := by decide +kernel
theorem dX7_storeByte_12 : decode cX7_storeByte 12 = .ok (.invokestatic 84, 3) := by decide +kernel
theorem dX7_storeByte_15 : decode cX7_storeByte 15 = .ok (.iload_n 2, 1) := by decide +kernel
theorem dX7_storeByte_16 : decode cX7_storeByte 16 = .ok (.iastore, 1) := by decide +kernel
theorem dX7_storeByte_17 : decode cX7_storeByte 17 = .ok (.goto 21, 3) := by decide +kernel
theorem dX7_storeByte_20 : decode cX7_storeByte 20 = .ok (.iload_n 1, 1) := by decide +kernel
theorem dX7_storeByte_21 : decode cX7_storeByte 21 = .ok (.sipush 8192, 3) := by decide +kernel
theorem dX7_storeByte_24 : decode cX7_storeByte 24 = .ok (.if_icmp .lt 14, 3) := by decide +kernel
theorem dX7_storeByte_27 : decode cX7_storeByte 27 = .ok (.aload_n 0, 1) := by decide +kernel
theorem dX7_storeByte_28 : decode cX7_storeByte 28 = .ok (.getfield 13, 3) := by decide +kernel
theorem dX7_storeByte_31 : decode cX7_storeByte 31 = .ok (.aload_n 0, 1) := by decide +kernel
theorem dX7_storeByte_32 : decode cX7_storeByte 32 = .ok (.iload_n 1, 1) := by decide +kernel
theorem dX7_storeByte_33 : decode cX7_storeByte 33 = .ok (.invokevirtual 53, 3) := by decide +kernel
theorem dX7_storeByte_36 : decode cX7_storeByte 36 = .ok (.iload_n 2, 1) := by decide +kernel
theorem dX7_storeByte_37 : decode cX7_storeByte 37 = .ok (.iastore, 1) := by decide +kernel
theorem dX7_storeByte_38 : decode cX7_storeByte 38 = .ok (.return_, 1) := by decide +kernel
theorem dX7_nameTablePlace_0 : decode cX7_nameTablePlace 0 = .ok (.aload_n 0, 1) := by decide +kernel
theorem dX7_nameTablePlace_1 : decode cX7_nameTablePlace 1 = .ok (.getfield 19, 3) := by decide +kernel
theorem dX7_nameTablePlace_4 : decode cX7_nameTablePlace 4 = .ok (.getfield 87, 3) := by decide +kernel
theorem dX7_nameTablePlace_7 : decode cX7_nameTablePlace 7 = .ok (.tableswitch 45 0 2 #[25, 30, 35], 25) := by decide +kernel
theorem dX7_nameTablePlace_32 : decode cX7_nameTablePlace 32 = .ok (.iconst 0, 1) := by decide +kernel
theorem dX7_nameTablePlace_33 : decode cX7_nameTablePlace 33 = .ok (.istore_n 2, 1) := by decide +kernel
theorem dX7_nameTablePlace_34 : decode cX7_nameTablePlace 34 = .ok (.goto 25, 3) := by decide +kernel
theorem dX7_nameTablePlace_37 : decode cX7_nameTablePlace 37 = .ok (.iconst 1, 1) := by decide +kernel
theorem dX7_nameTablePlace_38 : decode cX7_nameTablePlace 38 = .ok (.istore_n 2, 1) := by decide +kernel
theorem dX7_nameTablePlace_39 : decode cX7_nameTablePlace 39 = .ok (.goto 20, 3) := by decide +kernel
theorem dX7_nameTablePlace_42 : decode cX7_nameTablePlace 42 = .ok (.iload_n 1, 1) := by decide +kernel
theorem dX7_nameTablePlace_43 : decode cX7_nameTablePlace 43 = .ok (.bipush 10, 2) := by decide +kernel
theorem dX7_nameTablePlace_45 : decode cX7_nameTablePlace 45 = .ok (.ishr, 1) := by decide +kernel
theorem dX7_nameTablePlace_46 : decode cX7_nameTablePlace 46 = .ok (.iconst 1, 1) := by decide +kernel
theorem dX7_nameTablePlace_47 : decode cX7_nameTablePlace 47 = .ok (.iand, 1) := by decide +kernel
theorem dX7_nameTablePlace_48 : decode cX7_nameTablePlace 48 = .ok (.istore_n 2, 1) := by decide +kernel
theorem dX7_nameTablePlace_49 : decode cX7_nameTablePlace 49 = .ok (.goto 10, 3) := by decide +kernel
theorem dX7_nameTablePlace_52 : decode cX7_nameTablePlace 52 = .ok (.iload_n 1, 1) := by decide +kernel
theorem dX7_nameTablePlace_53 : decode cX7_nameTablePlace 53 = .ok (.bipush 11, 2) := by decide +kernel
theorem dX7_nameTablePlace_55 : decode cX7_nameTablePlace 55 = .ok (.ishr, 1) := by decide +kernel
theorem dX7_nameTablePlace_56 : decode cX7_nameTablePlace 56 = .ok (.iconst 1, 1) := by decide +kernel
theorem dX7_nameTablePlace_57 : decode cX7_nameTablePlace 57 = .ok (.iand, 1) := by decide +kernel
theorem dX7_nameTablePlace_58 : decode cX7_nameTablePlace 58 = .ok (.istore_n 2, 1) := by decide +kernel
theorem dX7_nameTablePlace_59 : decode cX7_nameTablePlace 59 = .ok (.iload_n 2, 1) := by decide +kernel
theorem dX7_nameTablePlace_60 : decode cX7_nameTablePlace 60 = .ok (.bipush 10, 2) := by decide +kernel
theorem dX7_nameTablePlace_62 : decode cX7_nameTablePlace 62 = .ok (.ishl, 1) := by decide +kernel
theorem dX7_nameTablePlace_63 : decode cX7_nameTablePlace 63 = .ok (.iload_n 1, 1) := by decide +kernel
theorem dX7_nameTablePlace_64 : decode cX7_nameTablePlace 64 = .ok (.sipush 1023, 3) := by decide +kernel
theorem dX7_nameTablePlace_67 : decode cX7_nameTablePlace 67 = .ok (.iand, 1) := by decide +kernel
theorem dX7_nameTablePlace_68 : decode cX7_nameTablePlace 68 = .ok (.ior, 1) := by decide +kernel
theorem dX7_nameTablePlace_69 : decode cX7_nameTablePlace 69 = .ok (.ireturn, 1) := by decide +kernel
theorem dX7_palettePlace_0 : decode cX7_palettePlace 0 = .ok (.iload_n 0, 1) := by decide +kernel
theorem dX7_palettePlace_1 : decode cX7_palettePlace 1 = .ok (.bipush 31, 2) := by decide +kernel
theorem dX7_palettePlace_3 : decode cX7_palettePlace 3 = .ok (.iand, 1) := by decide +kernel
theorem dX7_palettePlace_4 : decode cX7_palettePlace 4 = .ok (.istore_n 1, 1) := by decide +kernel
theorem dX7_palettePlace_5 : decode cX7_palettePlace 5 = .ok (.iload_n 1, 1) := by decide +kernel
theorem dX7_palettePlace_6 : decode cX7_palettePlace 6 = .ok (.iconst 3, 1) := by decide +kernel
theorem dX7_palettePlace_7 : decode cX7_palettePlace 7 = .ok (.iand, 1) := by decide +kernel
theorem dX7_palettePlace_8 : decode cX7_palettePlace 8 = .ok (.ifCond .ne 10, 3) := by decide +kernel
theorem dX7_palettePlace_11 : decode cX7_palettePlace 11 = .ok (.iload_n 1, 1) := by decide +kernel
theorem dX7_palettePlace_12 : decode cX7_palettePlace 12 = .ok (.bipush 15, 2) := by decide +kernel
theorem dX7_palettePlace_14 : decode cX7_palettePlace 14 = .ok (.iand, 1) := by decide +kernel
theorem dX7_palettePlace_15 : decode cX7_palettePlace 15 = .ok (.goto 4, 3) := by decide +kernel
theorem dX7_palettePlace_18 : decode cX7_palettePlace 18 = .ok (.iload_n 1, 1) := by decide +kernel
theorem dX7_palettePlace_19 : decode cX7_palettePlace 19 = .ok (.ireturn, 1) := by decide +kernel
theorem dX7_advance_0 : decode cX7_advance 0 = .ok (.iload_n 1, 1) := by decide +kernel
theorem dX7_advance_1 : decode cX7_advance 1 = .ok (.istore_n 2, 1) := by decide +kernel
theorem dX7_advance_2 : decode cX7_advance 2 = .ok (.iconst 0, 1) := by decide +kernel
theorem dX7_advance_3 : decode cX7_advance 3 = .ok (.istore_n 3, 1) := by decide +kernel
theorem dX7_advance_4 : decode cX7_advance 4 = .ok (.iload_n 3, 1) := by decide +kernel
theorem dX7_advance_5 : decode cX7_advance 5 = .ok (.sipush 1000, 3) := by decide +kernel
theorem dX7_advance_8 : decode cX7_advance 8 = .ok (.if_icmp .ge 126, 3) := by decide +kernel
theorem dX7_advance_11 : decode cX7_advance 11 = .ok (.iload_n 2, 1) := by decide +kernel
theorem dX7_advance_12 : decode cX7_advance 12 = .ok (.ifCond .le 122, 3) := by decide +kernel
theorem dX7_advance_15 : decode cX7_advance 15 = .ok (.iload_n 2, 1) := by decide +kernel
theorem dX7_advance_16 : decode cX7_advance 16 = .ok (.sipush 341, 3) := by decide +kernel
theorem dX7_advance_19 : decode cX7_advance 19 = .ok (.aload_n 0, 1) := by decide +kernel
theorem dX7_advance_20 : decode cX7_advance 20 = .ok (.getfield 90, 3) := by decide +kernel
theorem dX7_advance_23 : decode cX7_advance 23 = .ok (.isub, 1) := by decide +kernel
theorem dX7_advance_24 : decode cX7_advance 24 = .ok (.invokestatic 93, 3) := by decide +kernel
theorem dX7_advance_27 : decode cX7_advance 27 = .ok (.istore 4, 2) := by decide +kernel
theorem dX7_advance_29 : decode cX7_advance 29 = .ok (.aload_n 0, 1) := by decide +kernel
theorem dX7_advance_30 : decode cX7_advance 30 = .ok (.getfield 90, 3) := by decide +kernel
theorem dX7_advance_33 : decode cX7_advance 33 = .ok (.iload 4, 2) := by decide +kernel
theorem dX7_advance_35 : decode cX7_advance 35 = .ok (.iadd, 1) := by decide +kernel
theorem dX7_advance_36 : decode cX7_advance 36 = .ok (.istore 5, 2) := by decide +kernel
theorem dX7_advance_38 : decode cX7_advance 38 = .ok (.aload_n 0, 1) := by decide +kernel
theorem dX7_advance_39 : decode cX7_advance 39 = .ok (.getfield 90, 3) := by decide +kernel
theorem dX7_advance_42 : decode cX7_advance 42 = .ok (.iconst 1, 1) := by decide +kernel
theorem dX7_advance_43 : decode cX7_advance 43 = .ok (.if_icmp .ge 13, 3) := by decide +kernel
theorem dX7_advance_46 : decode cX7_advance 46 = .ok (.iload 5, 2) := by decide +kernel
theorem dX7_advance_48 : decode cX7_advance 48 = .ok (.iconst 1, 1) := by decide +kernel
theorem dX7_advance_49 : decode cX7_advance 49 = .ok (.if_icmp .lt 7, 3) := by decide +kernel
theorem dX7_advance_52 : decode cX7_advance 52 = .ok (.aload_n 0, 1) := by decide +kernel
theorem dX7_advance_53 : decode cX7_advance 53 = .ok (.invokevirtual 99, 3) := by decide +kernel
theorem dX7_advance_56 : decode cX7_advance 56 = .ok (.aload_n 0, 1) := by decide +kernel
theorem dX7_advance_57 : decode cX7_advance 57 = .ok (.getfield 90, 3) := by decide +kernel
theorem dX7_advance_60 : decode cX7_advance 60 = .ok (.sipush 260, 3) := by decide +kernel
theorem dX7_advance_63 : decode cX7_advance 63 = .ok (.if_icmp .ge 15, 3) := by decide +kernel
theorem dX7_advance_66 : decode cX7_advance 66 = .ok (.iload 5, 2) := by decide +kernel
theorem dX7_advance_68 : decode cX7_advance 68 = .ok (.sipush 260, 3) := by decide +kernel
theorem dX7_advance_71 : decode cX7_advance 71 = .ok (.if_icmp .lt 7, 3) := by decide +kernel
theorem dX7_advance_74 : decode cX7_advance 74 = .ok (.aload_n 0, 1) := by decide +kernel
theorem dX7_advance_75 : decode cX7_advance 75 = .ok (.invokevirtual 102, 3) := by decide +kernel
theorem dX7_advance_78 : decode cX7_advance 78 = .ok (.iload_n 2, 1) := by decide +kernel
theorem dX7_advance_79 : decode cX7_advance 79 = .ok (.iload 4, 2) := by decide +kernel
theorem dX7_advance_81 : decode cX7_advance 81 = .ok (.isub, 1) := by decide +kernel
theorem dX7_advance_82 : decode cX7_advance 82 = .ok (.istore_n 2, 1) := by decide +kernel
theorem dX7_advance_83 : decode cX7_advance 83 = .ok (.aload_n 0, 1) := by decide +kernel
theorem dX7_advance_84 : decode cX7_advance 84 = .ok (.iload 5, 2) := by decide +kernel
theorem dX7_advance_86 : decode cX7_advance 86 = .ok (.putfield 90, 3) := by decide +kernel
theorem dX7_advance_89 : decode cX7_advance 89 = .ok (.aload_n 0, 1) := by decide +kernel
theorem dX7_advance_90 : decode cX7_advance 90 = .ok (.getfield 90, 3) := by decide +kernel
theorem dX7_advance_93 : decode cX7_advance 93 = .ok (.sipush 341, 3) := by decide +kernel
theorem dX7_advance_96 : decode cX7_advance 96 = .ok (.if_icmp .ne 32, 3) := by decide +kernel
theorem dX7_advance_99 : decode cX7_advance 99 = .ok (.aload_n 0, 1) := by decide +kernel
theorem dX7_advance_100 : decode cX7_advance 100 = .ok (.iconst 0, 1) := by decide +kernel
theorem dX7_advance_101 : decode cX7_advance 101 = .ok (.putfield 90, 3) := by decide +kernel
theorem dX7_advance_104 : decode cX7_advance 104 = .ok (.aload_n 0, 1) := by decide +kernel
theorem dX7_advance_105 : decode cX7_advance 105 = .ok (.aload_n 0, 1) := by decide +kernel
theorem dX7_advance_106 : decode cX7_advance 106 = .ok (.getfield 105, 3) := by decide +kernel
theorem dX7_advance_109 : decode cX7_advance 109 = .ok (.sipush 261, 3) := by decide +kernel
theorem dX7_advance_112 : decode cX7_advance 112 = .ok (.if_icmp .ne 7, 3) := by decide +kernel
theorem dX7_advance_115 : decode cX7_advance 115 = .ok (.iconst 0, 1) := by decide +kernel
theorem dX7_advance_116 : decode cX7_advance 116 = .ok (.goto 9, 3) := by decide +kernel
theorem dX7_advance_119 : decode cX7_advance 119 = .ok (.aload_n 0, 1) := by decide +kernel
theorem dX7_advance_120 : decode cX7_advance 120 = .ok (.getfield 105, 3) := by decide +kernel
theorem dX7_advance_123 : decode cX7_advance 123 = .ok (.iconst 1, 1) := by decide +kernel
theorem dX7_advance_124 : decode cX7_advance 124 = .ok (.iadd, 1) := by decide +kernel
theorem dX7_advance_125 : decode cX7_advance 125 = .ok (.putfield 105, 3) := by decide +kernel
theorem dX7_advance_128 : decode cX7_advance 128 = .ok (.iinc 3 1, 3) := by decide +kernel
theorem dX7_advance_131 : decode cX7_advance 131 = .ok (.goto (-127), 3) := by decide +kernel
theorem dX7_advance_134 : decode cX7_advance 134 = .ok (.return_, 1) := by decide +kernel
theorem dX7_comeToDotOne_0 : decode cX7_comeToDotOne 0 = .ok (.aload_n 0, 1) := by decide +kernel
theorem dX7_comeToDotOne_1 : decode cX7_comeToDotOne 1 = .ok (.getfield 105, 3) := by decide +kernel
theorem dX7_comeToDotOne_4 : decode cX7_comeToDotOne 4 = .ok (.sipush 241, 3) := by decide +kernel
theorem dX7_comeToDotOne_7 : decode cX7_comeToDotOne 7 = .ok (.if_icmp .ne 27, 3) := by decide +kernel
theorem dX7_comeToDotOne_10 : decode cX7_comeToDotOne 10 = .ok (.aload_n 0, 1) := by decide +kernel
theorem dX7_comeToDotOne_11 : decode cX7_comeToDotOne 11 = .ok (.iconst 1, 1) := by decide +kernel
theorem dX7_comeToDotOne_12 : decode cX7_comeToDotOne 12 = .ok (.putfield 37, 3) := by decide +kernel
theorem dX7_comeToDotOne_15 : decode cX7_comeToDotOne 15 = .ok (.aload_n 0, 1) := by decide +kernel
theorem dX7_comeToDotOne_16 : decode cX7_comeToDotOne 16 = .ok (.getfield 23, 3) := by decide +kernel
theorem dX7_comeToDotOne_19 : decode cX7_comeToDotOne 19 = .ok (.sipush 128, 3) := by decide +kernel
theorem dX7_comeToDotOne_22 : decode cX7_comeToDotOne 22 = .ok (.iand, 1) := by decide +kernel
theorem dX7_comeToDotOne_23 : decode cX7_comeToDotOne 23 = .ok (.ifCond .eq 26, 3) := by decide +kernel
theorem dX7_comeToDotOne_26 : decode cX7_comeToDotOne 26 = .ok (.aload_n 0, 1) := by decide +kernel
theorem dX7_comeToDotOne_27 : decode cX7_comeToDotOne 27 = .ok (.iconst 1, 1) := by decide +kernel
theorem dX7_comeToDotOne_28 : decode cX7_comeToDotOne 28 = .ok (.putfield 33, 3) := by decide +kernel
theorem dX7_comeToDotOne_31 : decode cX7_comeToDotOne 31 = .ok (.goto 18, 3) := by decide +kernel
theorem dX7_comeToDotOne_34 : decode cX7_comeToDotOne 34 = .ok (.aload_n 0, 1) := by decide +kernel
theorem dX7_comeToDotOne_35 : decode cX7_comeToDotOne 35 = .ok (.getfield 105, 3) := by decide +kernel
theorem dX7_comeToDotOne_38 : decode cX7_comeToDotOne 38 = .ok (.sipush 261, 3) := by decide +kernel
theorem dX7_comeToDotOne_41 : decode cX7_comeToDotOne 41 = .ok (.if_icmp .ne 8, 3) := by decide +kernel
theorem dX7_comeToDotOne_44 : decode cX7_comeToDotOne 44 = .ok (.aload_n 0, 1) := by decide +kernel
theorem dX7_comeToDotOne_45 : decode cX7_comeToDotOne 45 = .ok (.iconst 0, 1) := by decide +kernel
theorem dX7_comeToDotOne_46 : decode cX7_comeToDotOne 46 = .ok (.putfield 37, 3) := by decide +kernel
theorem dX7_comeToDotOne_49 : decode cX7_comeToDotOne 49 = .ok (.return_, 1) := by decide +kernel
theorem dX7_tellLine_0 : decode cX7_tellLine 0 = .ok (.aload_n 0, 1) := by decide +kernel
theorem dX7_tellLine_1 : decode cX7_tellLine 1 = .ok (.getfield 105, 3) := by decide +kernel
theorem dX7_tellLine_4 : decode cX7_tellLine 4 = .ok (.sipush 240, 3) := by decide +kernel
theorem dX7_tellLine_7 : decode cX7_tellLine 7 = .ok (.if_icmp .lt 13, 3) := by decide +kernel
theorem dX7_tellLine_10 : decode cX7_tellLine 10 = .ok (.aload_n 0, 1) := by decide +kernel
theorem dX7_tellLine_11 : decode cX7_tellLine 11 = .ok (.getfield 105, 3) := by decide +kernel
theorem dX7_tellLine_14 : decode cX7_tellLine 14 = .ok (.sipush 261, 3) := by decide +kernel
theorem dX7_tellLine_17 : decode cX7_tellLine 17 = .ok (.if_icmp .ne 7, 3) := by decide +kernel
theorem dX7_tellLine_20 : decode cX7_tellLine 20 = .ok (.iconst 1, 1) := by decide +kernel
theorem dX7_tellLine_21 : decode cX7_tellLine 21 = .ok (.goto 4, 3) := by decide +kernel
theorem dX7_tellLine_24 : decode cX7_tellLine 24 = .ok (.iconst 0, 1) := by decide +kernel
theorem dX7_tellLine_25 : decode cX7_tellLine 25 = .ok (.istore_n 1, 1) := by decide +kernel
theorem dX7_tellLine_26 : decode cX7_tellLine 26 = .ok (.iload_n 1, 1) := by decide +kernel
theorem dX7_tellLine_27 : decode cX7_tellLine 27 = .ok (.ifCond .eq 20, 3) := by decide +kernel
theorem dX7_tellLine_30 : decode cX7_tellLine 30 = .ok (.aload_n 0, 1) := by decide +kernel
theorem dX7_tellLine_31 : decode cX7_tellLine 31 = .ok (.getfield 27, 3) := by decide +kernel
theorem dX7_tellLine_34 : decode cX7_tellLine 34 = .ok (.bipush 24, 2) := by decide +kernel
theorem dX7_tellLine_36 : decode cX7_tellLine 36 = .ok (.iand, 1) := by decide +kernel
theorem dX7_tellLine_37 : decode cX7_tellLine 37 = .ok (.ifCond .eq 10, 3) := by decide +kernel
theorem dX7_tellLine_40 : decode cX7_tellLine 40 = .ok (.aload_n 0, 1) := by decide +kernel
theorem dX7_tellLine_41 : decode cX7_tellLine 41 = .ok (.getfield 19, 3) := by decide +kernel
theorem dX7_tellLine_44 : decode cX7_tellLine 44 = .ok (.invokevirtual 108, 3) := by decide +kernel
theorem dX7_tellLine_47 : decode cX7_tellLine 47 = .ok (.return_, 1) := by decide +kernel
theorem dX8_init_0 : decode cX8_init 0 = .ok (.aload_n 0, 1) := by decide +kernel
theorem dX8_init_1 : decode cX8_init 1 = .ok (.invokespecial 1, 3) := by decide +kernel
theorem dX8_init_4 : decode cX8_init 4 = .ok (.aload_n 0, 1) := by decide +kernel
theorem dX8_init_5 : decode cX8_init 5 = .ok (.iconst 4, 1) := by decide +kernel
theorem dX8_init_6 : decode cX8_init 6 = .ok (.newarray .int, 2) := by decide +kernel
theorem dX8_init_8 : decode cX8_init 8 = .ok (.putfield 9, 3) := by decide +kernel
theorem dX8_init_11 : decode cX8_init 11 = .ok (.return_, 1) := by decide +kernel
theorem dX8_restart_0 : decode cX8_restart 0 = .ok (.aload_n 0, 1) := by decide +kernel
theorem dX8_restart_1 : decode cX8_restart 1 = .ok (.iconst 0, 1) := by decide +kernel
theorem dX8_restart_2 : decode cX8_restart 2 = .ok (.invokevirtual 13, 3) := by decide +kernel
theorem dX8_restart_5 : decode cX8_restart 5 = .ok (.aload_n 0, 1) := by decide +kernel
theorem dX8_restart_6 : decode cX8_restart 6 = .ok (.iconst 0, 1) := by decide +kernel
theorem dX8_restart_7 : decode cX8_restart 7 = .ok (.putfield 17, 3) := by decide +kernel
theorem dX8_restart_10 : decode cX8_restart 10 = .ok (.return_, 1) := by decide +kernel
theorem dX8_loadStatus_0 : decode cX8_loadStatus 0 = .ok (.aload_n 0, 1) := by decide +kernel
theorem dX8_loadStatus_1 : decode cX8_loadStatus 1 = .ok (.getfield 17, 3) := by decide +kernel
theorem dX8_loadStatus_4 : decode cX8_loadStatus 4 = .ok (.ifCond .eq 8, 3) := by decide +kernel
theorem dX8_loadStatus_7 : decode cX8_loadStatus 7 = .ok (.bipush 64, 2) := by decide +kernel
theorem dX8_loadStatus_9 : decode cX8_loadStatus 9 = .ok (.goto 4, 3) := by decide +kernel
theorem dX8_loadStatus_12 : decode cX8_loadStatus 12 = .ok (.iconst 0, 1) := by decide +kernel
theorem dX8_loadStatus_13 : decode cX8_loadStatus 13 = .ok (.istore_n 1, 1) := by decide +kernel
theorem dX8_loadStatus_14 : decode cX8_loadStatus 14 = .ok (.aload_n 0, 1) := by decide +kernel
theorem dX8_loadStatus_15 : decode cX8_loadStatus 15 = .ok (.iconst 0, 1) := by decide +kernel
theorem dX8_loadStatus_16 : decode cX8_loadStatus 16 = .ok (.putfield 17, 3) := by decide +kernel
theorem dX8_loadStatus_19 : decode cX8_loadStatus 19 = .ok (.iconst 0, 1) := by decide +kernel
theorem dX8_loadStatus_20 : decode cX8_loadStatus 20 = .ok (.istore_n 2, 1) := by decide +kernel
theorem dX8_loadStatus_21 : decode cX8_loadStatus 21 = .ok (.iload_n 2, 1) := by decide +kernel
theorem dX8_loadStatus_22 : decode cX8_loadStatus 22 = .ok (.iconst 4, 1) := by decide +kernel
theorem dX8_loadStatus_23 : decode cX8_loadStatus 23 = .ok (.if_icmp .ge 24, 3) := by decide +kernel
theorem dX8_loadStatus_26 : decode cX8_loadStatus 26 = .ok (.aload_n 0, 1) := by decide +kernel
theorem dX8_loadStatus_27 : decode cX8_loadStatus 27 = .ok (.getfield 9, 3) := by decide +kernel
theorem dX8_loadStatus_30 : decode cX8_loadStatus 30 = .ok (.iload_n 2, 1) := by decide +kernel
theorem dX8_loadStatus_31 : decode cX8_loadStatus 31 = .ok (.iaload, 1) := by decide +kernel
theorem dX8_loadStatus_32 : decode cX8_loadStatus 32 = .ok (.ifCond .le 9, 3) := by decide +kernel
theorem dX8_loadStatus_35 : decode cX8_loadStatus 35 = .ok (.iload_n 1, 1) := by decide +kernel
theorem dX8_loadStatus_36 : decode cX8_loadStatus 36 = .ok (.iconst 1, 1) := by decide +kernel
theorem dX8_loadStatus_37 : decode cX8_loadStatus 37 = .ok (.iload_n 2, 1) := by decide +kernel
theorem dX8_loadStatus_38 : decode cX8_loadStatus 38 = .ok (.ishl, 1) := by decide +kernel
theorem dX8_loadStatus_39 : decode cX8_loadStatus 39 = .ok (.ior, 1) := by decide +kernel
theorem dX8_loadStatus_40 : decode cX8_loadStatus 40 = .ok (.istore_n 1, 1) := by decide +kernel
theorem dX8_loadStatus_41 : decode cX8_loadStatus 41 = .ok (.iinc 2 1, 3) := by decide +kernel
theorem dX8_loadStatus_44 : decode cX8_loadStatus 44 = .ok (.goto (-23), 3) := by decide +kernel
theorem dX8_loadStatus_47 : decode cX8_loadStatus 47 = .ok (.iload_n 1, 1) := by decide +kernel
theorem dX8_loadStatus_48 : decode cX8_loadStatus 48 = .ok (.ireturn, 1) := by decide +kernel
theorem dX8_store_0 : decode cX8_store 0 = .ok (.iload_n 1, 1) := by decide +kernel
theorem dX8_store_1 : decode cX8_store 1 = .ok (.bipush 21, 2) := by decide +kernel
theorem dX8_store_3 : decode cX8_store 3 = .ok (.if_icmp .ne 14, 3) := by decide +kernel
theorem dX8_store_6 : decode cX8_store 6 = .ok (.aload_n 0, 1) := by decide +kernel
theorem dX8_store_7 : decode cX8_store 7 = .ok (.iload_n 2, 1) := by decide +kernel
theorem dX8_store_8 : decode cX8_store 8 = .ok (.bipush 15, 2) := by decide +kernel
theorem dX8_store_10 : decode cX8_store 10 = .ok (.iand, 1) := by decide +kernel
theorem dX8_store_11 : decode cX8_store 11 = .ok (.invokevirtual 13, 3) := by decide +kernel
theorem dX8_store_14 : decode cX8_store 14 = .ok (.goto 36, 3) := by decide +kernel
theorem dX8_store_17 : decode cX8_store 17 = .ok (.iload_n 1, 1) := by decide +kernel
theorem dX8_store_18 : decode cX8_store 18 = .ok (.bipush 23, 2) := by decide +kernel
theorem dX8_store_20 : decode cX8_store 20 = .ok (.if_icmp .ne 11, 3) := by decide +kernel
theorem dX8_store_23 : decode cX8_store 23 = .ok (.aload_n 0, 1) := by decide +kernel
theorem dX8_store_24 : decode cX8_store 24 = .ok (.iload_n 2, 1) := by decide +kernel
theorem dX8_store_25 : decode cX8_store 25 = .ok (.invokevirtual 21, 3) := by decide +kernel
theorem dX8_store_28 : decode cX8_store 28 = .ok (.goto 22, 3) := by decide +kernel
theorem dX8_store_31 : decode cX8_store 31 = .ok (.iload_n 1, 1) := by decide +kernel
theorem dX8_store_32 : decode cX8_store 32 = .ok (.bipush 16, 2) := by decide +kernel
theorem dX8_store_34 : decode cX8_store 34 = .ok (.if_icmp .ge 16, 3) := by decide +kernel
theorem dX8_store_37 : decode cX8_store 37 = .ok (.aload_n 0, 1) := by decide +kernel
theorem dX8_store_38 : decode cX8_store 38 = .ok (.iload_n 1, 1) := by decide +kernel
theorem dX8_store_39 : decode cX8_store 39 = .ok (.iconst 2, 1) := by decide +kernel
theorem dX8_store_40 : decode cX8_store 40 = .ok (.ishr, 1) := by decide +kernel
theorem dX8_store_41 : decode cX8_store 41 = .ok (.iconst 3, 1) := by decide +kernel
theorem dX8_store_42 : decode cX8_store 42 = .ok (.iand, 1) := by decide +kernel
theorem dX8_store_43 : decode cX8_store 43 = .ok (.iload_n 1, 1) := by decide +kernel
theorem dX8_store_44 : decode cX8_store 44 = .ok (.iconst 3, 1) := by decide +kernel
theorem dX8_store_45 : decode cX8_store 45 = .ok (.iand, 1) := by decide +kernel
theorem dX8_store_46 : decode cX8_store 46 = .ok (.iload_n 2, 1) := by decide +kernel
theorem dX8_store_47 : decode cX8_store 47 = .ok (.invokevirtual 24, 3) := by decide +kernel
theorem dX8_store_50 : decode cX8_store 50 = .ok (.return_, 1) := by decide +kernel
theorem dX8_storeChannel_0 : decode cX8_storeChannel 0 = .ok (.iconst 1, 1) := by decide +kernel
theorem dX8_storeChannel_1 : decode cX8_storeChannel 1 = .ok (.iload_n 1, 1) := by decide +kernel
theorem dX8_storeChannel_2 : decode cX8_storeChannel 2 = .ok (.ishl, 1) := by decide +kernel
theorem dX8_storeChannel_3 : decode cX8_storeChannel 3 = .ok (.istore 4, 2) := by decide +kernel
theorem dX8_storeChannel_5 : decode cX8_storeChannel 5 = .ok (.iload_n 2, 1) := by decide +kernel
theorem dX8_storeChannel_6 : decode cX8_storeChannel 6 = .ok (.ifCond .ne 51, 3) := by decide +kernel
theorem dX8_storeChannel_9 : decode cX8_storeChannel 9 = .ok (.iload_n 1, 1) := by decide +kernel
theorem dX8_storeChannel_10 : decode cX8_storeChannel 10 = .ok (.iconst 2, 1) := by decide +kernel
theorem dX8_storeChannel_11 : decode cX8_storeChannel 11 = .ok (.if_icmp .ne 9, 3) := by decide +kernel
theorem dX8_storeChannel_14 : decode cX8_storeChannel 14 = .ok (.sipush 128, 3) := by decide +kernel
theorem dX8_storeChannel_17 : decode cX8_storeChannel 17 = .ok (.goto 5, 3) := by decide +kernel
theorem dX8_storeChannel_20 : decode cX8_storeChannel 20 = .ok (.bipush 32, 2) := by decide +kernel
theorem dX8_storeChannel_22 : decode cX8_storeChannel 22 = .ok (.istore 5, 2) := by decide +kernel
theorem dX8_storeChannel_24 : decode cX8_storeChannel 24 = .ok (.aload_n 0, 1) := by decide +kernel
theorem dX8_storeChannel_25 : decode cX8_storeChannel 25 = .ok (.iload_n 3, 1) := by decide +kernel
theorem dX8_storeChannel_26 : decode cX8_storeChannel 26 = .ok (.iload 5, 2) := by decide +kernel
theorem dX8_storeChannel_28 : decode cX8_storeChannel 28 = .ok (.iand, 1) := by decide +kernel
theorem dX8_storeChannel_29 : decode cX8_storeChannel 29 = .ok (.ifCond .eq 13, 3) := by decide +kernel
theorem dX8_storeChannel_32 : decode cX8_storeChannel 32 = .ok (.aload_n 0, 1) := by decide +kernel
theorem dX8_storeChannel_33 : decode cX8_storeChannel 33 = .ok (.getfield 28, 3) := by decide +kernel
theorem dX8_storeChannel_36 : decode cX8_storeChannel 36 = .ok (.iload 4, 2) := by decide +kernel
theorem dX8_storeChannel_38 : decode cX8_storeChannel 38 = .ok (.ior, 1) := by decide +kernel
theorem dX8_storeChannel_39 : decode cX8_storeChannel 39 = .ok (.goto 12, 3) := by decide +kernel
theorem dX8_storeChannel_42 : decode cX8_storeChannel 42 = .ok (.aload_n 0, 1) := by decide +kernel
theorem dX8_storeChannel_43 : decode cX8_storeChannel 43 = .ok (.getfield 28, 3) := by decide +kernel
theorem dX8_storeChannel_46 : decode cX8_storeChannel 46 = .ok (.iload 4, 2) := by decide +kernel
theorem dX8_storeChannel_48 : decode cX8_storeChannel 48 = .ok (.iconst (-1), 1) := by decide +kernel
theorem dX8_storeChannel_49 : decode cX8_storeChannel 49 = .ok (.ixor, 1) := by decide +kernel
theorem dX8_storeChannel_50 : decode cX8_storeChannel 50 = .ok (.iand, 1) := by decide +kernel
theorem dX8_storeChannel_51 : decode cX8_storeChannel 51 = .ok (.putfield 28, 3) := by decide +kernel
theorem dX8_storeChannel_54 : decode cX8_storeChannel 54 = .ok (.goto 36, 3) := by decide +kernel
theorem dX8_storeChannel_57 : decode cX8_storeChannel 57 = .ok (.iload_n 2, 1) := by decide +kernel
theorem dX8_storeChannel_58 : decode cX8_storeChannel 58 = .ok (.iconst 3, 1) := by decide +kernel
theorem dX8_storeChannel_59 : decode cX8_storeChannel 59 = .ok (.if_icmp .ne 31, 3) := by decide +kernel
theorem dX8_storeChannel_62 : decode cX8_storeChannel 62 = .ok (.aload_n 0, 1) := by decide +kernel
theorem dX8_storeChannel_63 : decode cX8_storeChannel 63 = .ok (.getfield 32, 3) := by decide +kernel
theorem dX8_storeChannel_66 : decode cX8_storeChannel 66 = .ok (.iload 4, 2) := by decide +kernel
theorem dX8_storeChannel_68 : decode cX8_storeChannel 68 = .ok (.iand, 1) := by decide +kernel
theorem dX8_storeChannel_69 : decode cX8_storeChannel 69 = .ok (.ifCond .eq 21, 3) := by decide +kernel
theorem dX8_storeChannel_72 : decode cX8_storeChannel 72 = .ok (.aload_n 0, 1) := by decide +kernel
theorem dX8_storeChannel_73 : decode cX8_storeChannel 73 = .ok (.getfield 9, 3) := by decide +kernel
theorem dX8_storeChannel_76 : decode cX8_storeChannel 76 = .ok (.iload_n 1, 1) := by decide +kernel
theorem dX8_storeChannel_77 : decode cX8_storeChannel 77 = .ok (.iconst 3, 1) := by decide +kernel
theorem dX8_storeChannel_78 : decode cX8_storeChannel 78 = .ok (.iand, 1) := by decide +kernel
theorem dX8_storeChannel_79 : decode cX8_storeChannel 79 = .ok (.getstatic 35, 3) := by decide +kernel
theorem dX8_storeChannel_82 : decode cX8_storeChannel 82 = .ok (.iload_n 3, 1) := by decide +kernel
theorem dX8_storeChannel_83 : decode cX8_storeChannel 83 = .ok (.iconst 3, 1) := by decide +kernel
theorem dX8_storeChannel_84 : decode cX8_storeChannel 84 = .ok (.ishr, 1) := by decide +kernel
theorem dX8_storeChannel_85 : decode cX8_storeChannel 85 = .ok (.bipush 31, 2) := by decide +kernel
theorem dX8_storeChannel_87 : decode cX8_storeChannel 87 = .ok (.iand, 1) := by decide +kernel
theorem dX8_storeChannel_88 : decode cX8_storeChannel 88 = .ok (.iaload, 1) := by decide +kernel
theorem dX8_storeChannel_89 : decode cX8_storeChannel 89 = .ok (.iastore, 1) := by decide +kernel
theorem dX8_storeChannel_90 : decode cX8_storeChannel 90 = .ok (.return_, 1) := by decide +kernel
theorem dX8_enable_0 : decode cX8_enable 0 = .ok (.aload_n 0, 1) := by decide +kernel
theorem dX8_enable_1 : decode cX8_enable 1 = .ok (.iload_n 1, 1) := by decide +kernel
theorem dX8_enable_2 : decode cX8_enable 2 = .ok (.putfield 32, 3) := by decide +kernel
theorem dX8_enable_5 : decode cX8_enable 5 = .ok (.iconst 0, 1) := by decide +kernel
theorem dX8_enable_6 : decode cX8_enable 6 = .ok (.istore_n 2, 1) := by decide +kernel
theorem dX8_enable_7 : decode cX8_enable 7 = .ok (.iload_n 2, 1) := by decide +kernel
theorem dX8_enable_8 : decode cX8_enable 8 = .ok (.iconst 4, 1) := by decide +kernel
theorem dX8_enable_9 : decode cX8_enable 9 = .ok (.if_icmp .ge 24, 3) := by decide +kernel
theorem dX8_enable_12 : decode cX8_enable 12 = .ok (.iload_n 1, 1) := by decide +kernel
theorem dX8_enable_13 : decode cX8_enable 13 = .ok (.iload_n 2, 1) := by decide +kernel
theorem dX8_enable_14 : decode cX8_enable 14 = .ok (.ishr, 1) := by decide +kernel
theorem dX8_enable_15 : decode cX8_enable 15 = .ok (.iconst 1, 1) := by decide +kernel
theorem dX8_enable_16 : decode cX8_enable 16 = .ok (.iand, 1) := by decide +kernel
theorem dX8_enable_17 : decode cX8_enable 17 = .ok (.ifCond .ne 10, 3) := by decide +kernel
theorem dX8_enable_20 : decode cX8_enable 20 = .ok (.aload_n 0, 1) := by decide +kernel
theorem dX8_enable_21 : decode cX8_enable 21 = .ok (.getfield 9, 3) := by decide +kernel
theorem dX8_enable_24 : decode cX8_enable 24 = .ok (.iload_n 2, 1) := by decide +kernel
theorem dX8_enable_25 : decode cX8_enable 25 = .ok (.iconst 0, 1) := by decide +kernel
theorem dX8_enable_26 : decode cX8_enable 26 = .ok (.iastore, 1) := by decide +kernel
theorem dX8_enable_27 : decode cX8_enable 27 = .ok (.iinc 2 1, 3) := by decide +kernel
theorem dX8_enable_30 : decode cX8_enable 30 = .ok (.goto (-23), 3) := by decide +kernel
theorem dX8_enable_33 : decode cX8_enable 33 = .ok (.return_, 1) := by decide +kernel
theorem dX8_restartFrame_0 : decode cX8_restartFrame 0 = .ok (.aload_n 0, 1) := by decide +kernel
theorem dX8_restartFrame_1 : decode cX8_restartFrame 1 = .ok (.iload_n 1, 1) := by decide +kernel
theorem dX8_restartFrame_2 : decode cX8_restartFrame 2 = .ok (.sipush 128, 3) := by decide +kernel
theorem dX8_restartFrame_5 : decode cX8_restartFrame 5 = .ok (.iand, 1) := by decide +kernel
theorem dX8_restartFrame_6 : decode cX8_restartFrame 6 = .ok (.ifCond .eq 7, 3) := by decide +kernel
theorem dX8_restartFrame_9 : decode cX8_restartFrame 9 = .ok (.iconst 1, 1) := by decide +kernel
theorem dX8_restartFrame_10 : decode cX8_restartFrame 10 = .ok (.goto 4, 3) := by decide +kernel
theorem dX8_restartFrame_13 : decode cX8_restartFrame 13 = .ok (.iconst 0, 1) := by decide +kernel
theorem dX8_restartFrame_14 : decode cX8_restartFrame 14 = .ok (.putfield 38, 3) := by decide +kernel
theorem dX8_restartFrame_17 : decode cX8_restartFrame 17 = .ok (.aload_n 0, 1) := by decide +kernel
theorem dX8_restartFrame_18 : decode cX8_restartFrame 18 = .ok (.iload_n 1, 1) := by decide +kernel
theorem dX8_restartFrame_19 : decode cX8_restartFrame 19 = .ok (.bipush 64, 2) := by decide +kernel
theorem dX8_restartFrame_21 : decode cX8_restartFrame 21 = .ok (.iand, 1) := by decide +kernel
theorem dX8_restartFrame_22 : decode cX8_restartFrame 22 = .ok (.ifCond .eq 7, 3) := by decide +kernel
theorem dX8_restartFrame_25 : decode cX8_restartFrame 25 = .ok (.iconst 1, 1) := by decide +kernel
theorem dX8_restartFrame_26 : decode cX8_restartFrame 26 = .ok (.goto 4, 3) := by decide +kernel
theorem dX8_restartFrame_29 : decode cX8_restartFrame 29 = .ok (.iconst 0, 1) := by decide +kernel
theorem dX8_restartFrame_30 : decode cX8_restartFrame 30 = .ok (.putfield 41, 3) := by decide +kernel
theorem dX8_restartFrame_33 : decode cX8_restartFrame 33 = .ok (.aload_n 0, 1) := by decide +kernel
theorem dX8_restartFrame_34 : decode cX8_restartFrame 34 = .ok (.getfield 41, 3) := by decide +kernel
theorem dX8_restartFrame_37 : decode cX8_restartFrame 37 = .ok (.ifCond .eq 8, 3) := by decide +kernel
theorem dX8_restartFrame_40 : decode cX8_restartFrame 40 = .ok (.aload_n 0, 1) := by decide +kernel
theorem dX8_restartFrame_41 : decode cX8_restartFrame 41 = .ok (.iconst 0, 1) := by decide +kernel
theorem dX8_restartFrame_42 : decode cX8_restartFrame 42 = .ok (.putfield 17, 3) := by decide +kernel
theorem dX8_restartFrame_45 : decode cX8_restartFrame 45 = .ok (.aload_n 0, 1) := by decide +kernel
theorem dX8_restartFrame_46 : decode cX8_restartFrame 46 = .ok (.iconst 0, 1) := by decide +kernel
theorem dX8_restartFrame_47 : decode cX8_restartFrame 47 = .ok (.putfield 44, 3) := by decide +kernel
theorem dX8_restartFrame_50 : decode cX8_restartFrame 50 = .ok (.aload_n 0, 1) := by decide +kernel
theorem dX8_restartFrame_51 : decode cX8_restartFrame 51 = .ok (.getfield 38, 3) := by decide +kernel
theorem dX8_restartFrame_54 : decode cX8_restartFrame 54 = .ok (.ifCond .eq 7, 3) := by decide +kernel
theorem dX8_restartFrame_57 : decode cX8_restartFrame 57 = .ok (.aload_n 0, 1) := by decide +kernel
theorem dX8_restartFrame_58 : decode cX8_restartFrame 58 = .ok (.invokevirtual 47, 3) := by decide +kernel
theorem dX8_restartFrame_61 : decode cX8_restartFrame 61 = .ok (.return_, 1) := by decide +kernel
theorem dX8_countLengths_0 : decode cX8_countLengths 0 = .ok (.iconst 0, 1) := by decide +kernel
theorem dX8_countLengths_1 : decode cX8_countLengths 1 = .ok (.istore_n 1, 1) := by decide +kernel
theorem dX8_countLengths_2 : decode cX8_countLengths 2 = .ok (.iload_n 1, 1) := by decide +kernel
theorem dX8_countLengths_3 : decode cX8_countLengths 3 = .ok (.iconst 4, 1) := by decide +kernel
theorem dX8_countLengths_4 : decode cX8_countLengths 4 = .ok (.if_icmp .ge 39, 3) := by decide +kernel
theorem dX8_countLengths_7 : decode cX8_countLengths 7 = .ok (.aload_n 0, 1) := by decide +kernel
theorem dX8_countLengths_8 : decode cX8_countLengths 8 = .ok (.getfield 9, 3) := by decide +kernel
theorem dX8_countLengths_11 : decode cX8_countLengths 11 = .ok (.iload_n 1, 1) := by decide +kernel
theorem dX8_countLengths_12 : decode cX8_countLengths 12 = .ok (.iaload, 1) := by decide +kernel
theorem dX8_countLengths_13 : decode cX8_countLengths 13 = .ok (.ifCond .le 24, 3) := by decide +kernel
theorem dX8_countLengths_16 : decode cX8_countLengths 16 = .ok (.aload_n 0, 1) := by decide +kernel
theorem dX8_countLengths_17 : decode cX8_countLengths 17 = .ok (.getfield 28, 3) := by decide +kernel
theorem dX8_countLengths_20 : decode cX8_countLengths 20 = .ok (.iload_n 1, 1) := by decide +kernel
theorem dX8_countLengths_21 : decode cX8_countLengths 21 = .ok (.ishr, 1) := by decide +kernel
theorem dX8_countLengths_22 : decode cX8_countLengths 22 = .ok (.iconst 1, 1) := by decide +kernel
theorem dX8_countLengths_23 : decode cX8_countLengths 23 = .ok (.iand, 1) := by decide +kernel
theorem dX8_countLengths_24 : decode cX8_countLengths 24 = .ok (.ifCond .ne 13, 3) := by decide +kernel
theorem dX8_countLengths_27 : decode cX8_countLengths 27 = .ok (.aload_n 0, 1) := by decide +kernel
theorem dX8_countLengths_28 : decode cX8_countLengths 28 = .ok (.getfield 9, 3) := by decide +kernel
theorem dX8_countLengths_31 : decode cX8_countLengths 31 = .ok (.iload_n 1, 1) := by decide +kernel
theorem dX8_countLengths_32 : decode cX8_countLengths 32 = .ok (.dup2, 1) := by decide +kernel
theorem dX8_countLengths_33 : decode cX8_countLengths 33 = .ok (.iaload, 1) := by decide +kernel
theorem dX8_countLengths_34 : decode cX8_countLengths 34 = .ok (.iconst 1, 1) := by decide +kernel
theorem dX8_countLengths_35 : decode cX8_countLengths 35 = .ok (.isub, 1) := by decide +kernel
theorem dX8_countLengths_36 : decode cX8_countLengths 36 = .ok (.iastore, 1) := by decide +kernel
theorem dX8_countLengths_37 : decode cX8_countLengths 37 = .ok (.iinc 1 1, 3) := by decide +kernel
theorem dX8_countLengths_40 : decode cX8_countLengths 40 = .ok (.goto (-38), 3) := by decide +kernel
theorem dX8_countLengths_43 : decode cX8_countLengths 43 = .ok (.return_, 1) := by decide +kernel
theorem dX8_advance_0 : decode cX8_advance 0 = .ok (.iload_n 1, 1) := by decide +kernel
theorem dX8_advance_1 : decode cX8_advance 1 = .ok (.istore_n 2, 1) := by decide +kernel
theorem dX8_advance_2 : decode cX8_advance 2 = .ok (.iconst 0, 1) := by decide +kernel
theorem dX8_advance_3 : decode cX8_advance 3 = .ok (.istore_n 3, 1) := by decide +kernel
theorem dX8_advance_4 : decode cX8_advance 4 = .ok (.iload_n 3, 1) := by decide +kernel
theorem dX8_advance_5 : decode cX8_advance 5 = .ok (.sipush 1000, 3) := by decide +kernel
theorem dX8_advance_8 : decode cX8_advance 8 = .ok (.if_icmp .ge 61, 3) := by decide +kernel
theorem dX8_advance_11 : decode cX8_advance 11 = .ok (.iload_n 2, 1) := by decide +kernel
theorem dX8_advance_12 : decode cX8_advance 12 = .ok (.ifCond .le 57, 3) := by decide +kernel
theorem dX8_advance_15 : decode cX8_advance 15 = .ok (.aload_n 0, 1) := by decide +kernel
theorem dX8_advance_16 : decode cX8_advance 16 = .ok (.invokevirtual 50, 3) := by decide +kernel
theorem dX8_advance_19 : decode cX8_advance 19 = .ok (.istore 4, 2) := by decide +kernel
theorem dX8_advance_21 : decode cX8_advance 21 = .ok (.iload_n 2, 1) := by decide +kernel
theorem dX8_advance_22 : decode cX8_advance 22 = .ok (.iload 4, 2) := by decide +kernel
theorem dX8_advance_24 : decode cX8_advance 24 = .ok (.aload_n 0, 1) := by decide +kernel
theorem dX8_advance_25 : decode cX8_advance 25 = .ok (.getfield 44, 3) := by decide +kernel
theorem dX8_advance_28 : decode cX8_advance 28 = .ok (.isub, 1) := by decide +kernel
theorem dX8_advance_29 : decode cX8_advance 29 = .ok (.invokestatic 54, 3) := by decide +kernel
theorem dX8_advance_32 : decode cX8_advance 32 = .ok (.istore 5, 2) := by decide +kernel
theorem dX8_advance_34 : decode cX8_advance 34 = .ok (.iload_n 2, 1) := by decide +kernel
theorem dX8_advance_35 : decode cX8_advance 35 = .ok (.iload 5, 2) := by decide +kernel
theorem dX8_advance_37 : decode cX8_advance 37 = .ok (.isub, 1) := by decide +kernel
theorem dX8_advance_38 : decode cX8_advance 38 = .ok (.istore_n 2, 1) := by decide +kernel
theorem dX8_advance_39 : decode cX8_advance 39 = .ok (.aload_n 0, 1) := by decide +kernel
theorem dX8_advance_40 : decode cX8_advance 40 = .ok (.dup, 1) := by decide +kernel
theorem dX8_advance_41 : decode cX8_advance 41 = .ok (.getfield 44, 3) := by decide +kernel
theorem dX8_advance_44 : decode cX8_advance 44 = .ok (.iload 5, 2) := by decide +kernel
theorem dX8_advance_46 : decode cX8_advance 46 = .ok (.iadd, 1) := by decide +kernel
theorem dX8_advance_47 : decode cX8_advance 47 = .ok (.putfield 44, 3) := by decide +kernel
theorem dX8_advance_50 : decode cX8_advance 50 = .ok (.aload_n 0, 1) := by decide +kernel
theorem dX8_advance_51 : decode cX8_advance 51 = .ok (.getfield 44, 3) := by decide +kernel
theorem dX8_advance_54 : decode cX8_advance 54 = .ok (.iload 4, 2) := by decide +kernel
theorem dX8_advance_56 : decode cX8_advance 56 = .ok (.if_icmp .ne 7, 3) := by decide +kernel
theorem dX8_advance_59 : decode cX8_advance 59 = .ok (.aload_n 0, 1) := by decide +kernel
theorem dX8_advance_60 : decode cX8_advance 60 = .ok (.invokevirtual 60, 3) := by decide +kernel
theorem dX8_advance_63 : decode cX8_advance 63 = .ok (.iinc 3 1, 3) := by decide +kernel
theorem dX8_advance_66 : decode cX8_advance 66 = .ok (.goto (-62), 3) := by decide +kernel
theorem dX8_advance_69 : decode cX8_advance 69 = .ok (.return_, 1) := by decide +kernel
theorem dX8_frameEnd_0 : decode cX8_frameEnd 0 = .ok (.aload_n 0, 1) := by decide +kernel
theorem dX8_frameEnd_1 : decode cX8_frameEnd 1 = .ok (.getfield 38, 3) := by decide +kernel
theorem dX8_frameEnd_4 : decode cX8_frameEnd 4 = .ok (.ifCond .eq 8, 3) := by decide +kernel
theorem dX8_frameEnd_7 : decode cX8_frameEnd 7 = .ok (.ldc 63, 2) := by decide +kernel
theorem dX8_frameEnd_9 : decode cX8_frameEnd 9 = .ok (.goto 6, 3) := by decide +kernel
theorem dX8_frameEnd_12 : decode cX8_frameEnd 12 = .ok (.sipush 29829, 3) := by decide +kernel
theorem dX8_frameEnd_15 : decode cX8_frameEnd 15 = .ok (.ireturn, 1) := by decide +kernel
theorem dX8_nextMark_0 : decode cX8_nextMark 0 = .ok (.aload_n 0, 1) := by decide +kernel
theorem dX8_nextMark_1 : decode cX8_nextMark 1 = .ok (.getfield 44, 3) := by decide +kernel
theorem dX8_nextMark_4 : decode cX8_nextMark 4 = .ok (.sipush 14913, 3) := by decide +kernel
theorem dX8_nextMark_7 : decode cX8_nextMark 7 = .ok (.if_icmp .ge 7, 3) := by decide +kernel
theorem dX8_nextMark_10 : decode cX8_nextMark 10 = .ok (.sipush 14913, 3) := by decide +kernel
theorem dX8_nextMark_13 : decode cX8_nextMark 13 = .ok (.ireturn, 1) := by decide +kernel
theorem dX8_nextMark_14 : decode cX8_nextMark 14 = .ok (.aload_n 0, 1) := by decide +kernel
theorem dX8_nextMark_15 : decode cX8_nextMark 15 = .ok (.getfield 44, 3) := by decide +kernel
theorem dX8_nextMark_18 : decode cX8_nextMark 18 = .ok (.aload_n 0, 1) := by decide +kernel
theorem dX8_nextMark_19 : decode cX8_nextMark 19 = .ok (.invokevirtual 64, 3) := by decide +kernel
theorem dX8_nextMark_22 : decode cX8_nextMark 22 = .ok (.if_icmp .ge 10, 3) := by decide +kernel
theorem dX8_nextMark_25 : decode cX8_nextMark 25 = .ok (.aload_n 0, 1) := by decide +kernel
theorem dX8_nextMark_26 : decode cX8_nextMark 26 = .ok (.invokevirtual 64, 3) := by decide +kernel
theorem dX8_nextMark_29 : decode cX8_nextMark 29 = .ok (.goto 9, 3) := by decide +kernel
theorem dX8_nextMark_32 : decode cX8_nextMark 32 = .ok (.aload_n 0, 1) := by decide +kernel
theorem dX8_nextMark_33 : decode cX8_nextMark 33 = .ok (.invokevirtual 64, 3) := by decide +kernel
theorem dX8_nextMark_36 : decode cX8_nextMark 36 = .ok (.iconst 1, 1) := by decide +kernel
theorem dX8_nextMark_37 : decode cX8_nextMark 37 = .ok (.iadd, 1) := by decide +kernel
theorem dX8_nextMark_38 : decode cX8_nextMark 38 = .ok (.ireturn, 1) := by decide +kernel
theorem dX8_comeToMark_0 : decode cX8_comeToMark 0 = .ok (.aload_n 0, 1) := by decide +kernel
theorem dX8_comeToMark_1 : decode cX8_comeToMark 1 = .ok (.getfield 44, 3) := by decide +kernel
theorem dX8_comeToMark_4 : decode cX8_comeToMark 4 = .ok (.aload_n 0, 1) := by decide +kernel
theorem dX8_comeToMark_5 : decode cX8_comeToMark 5 = .ok (.invokevirtual 64, 3) := by decide +kernel
theorem dX8_comeToMark_8 : decode cX8_comeToMark 8 = .ok (.if_icmp .le 9, 3) := by decide +kernel
theorem dX8_comeToMark_11 : decode cX8_comeToMark 11 = .ok (.aload_n 0, 1) := by decide +kernel
theorem dX8_comeToMark_12 : decode cX8_comeToMark 12 = .ok (.iconst 0, 1) := by decide +kernel
theorem dX8_comeToMark_13 : decode cX8_comeToMark 13 = .ok (.putfield 44, 3) := by decide +kernel
theorem dX8_comeToMark_16 : decode cX8_comeToMark 16 = .ok (.return_, 1) := by decide +kernel
theorem dX8_comeToMark_17 : decode cX8_comeToMark 17 = .ok (.aload_n 0, 1) := by decide +kernel
theorem dX8_comeToMark_18 : decode cX8_comeToMark 18 = .ok (.invokevirtual 47, 3) := by decide +kernel
theorem dX8_comeToMark_21 : decode cX8_comeToMark 21 = .ok (.aload_n 0, 1) := by decide +kernel
theorem dX8_comeToMark_22 : decode cX8_comeToMark 22 = .ok (.getfield 44, 3) := by decide +kernel
theorem dX8_comeToMark_25 : decode cX8_comeToMark 25 = .ok (.aload_n 0, 1) := by decide +kernel
theorem dX8_comeToMark_26 : decode cX8_comeToMark 26 = .ok (.invokevirtual 64, 3) := by decide +kernel
theorem dX8_comeToMark_29 : decode cX8_comeToMark 29 = .ok (.if_icmp .ne 22, 3) := by decide +kernel
theorem dX8_comeToMark_32 : decode cX8_comeToMark 32 = .ok (.aload_n 0, 1) := by decide +kernel
theorem dX8_comeToMark_33 : decode cX8_comeToMark 33 = .ok (.getfield 38, 3) := by decide +kernel
theorem dX8_comeToMark_36 : decode cX8_comeToMark 36 = .ok (.ifCond .ne 15, 3) := by decide +kernel
theorem dX8_comeToMark_39 : decode cX8_comeToMark 39 = .ok (.aload_n 0, 1) := by decide +kernel
theorem dX8_comeToMark_40 : decode cX8_comeToMark 40 = .ok (.getfield 41, 3) := by decide +kernel
theorem dX8_comeToMark_43 : decode cX8_comeToMark 43 = .ok (.ifCond .ne 8, 3) := by decide +kernel
theorem dX8_comeToMark_46 : decode cX8_comeToMark 46 = .ok (.aload_n 0, 1) := by decide +kernel
theorem dX8_comeToMark_47 : decode cX8_comeToMark 47 = .ok (.iconst 1, 1) := by decide +kernel
theorem dX8_comeToMark_48 : decode cX8_comeToMark 48 = .ok (.putfield 17, 3) := by decide +kernel
theorem dX8_comeToMark_51 : decode cX8_comeToMark 51 = .ok (.return_, 1) := by decide +kernel
theorem dX9_init_0 : decode cX9_init 0 = .ok (.aload_n 0, 1) := by decide +kernel
theorem dX9_init_1 : decode cX9_init 1 = .ok (.invokespecial 1, 3) := by decide +kernel
theorem dX9_init_4 : decode cX9_init 4 = .ok (.iload_n 1, 1) := by decide +kernel
theorem dX9_init_5 : decode cX9_init 5 = .ok (.iconst 1, 1) := by decide +kernel
theorem dX9_init_6 : decode cX9_init 6 = .ok (.iand, 1) := by decide +kernel
theorem dX9_init_7 : decode cX9_init 7 = .ok (.iconst 1, 1) := by decide +kernel
theorem dX9_init_8 : decode cX9_init 8 = .ok (.if_icmp .ne 17, 3) := by decide +kernel
theorem dX9_init_11 : decode cX9_init 11 = .ok (.aload_n 0, 1) := by decide +kernel
theorem dX9_init_12 : decode cX9_init 12 = .ok (.new 7, 3) := by decide +kernel
theorem dX9_init_15 : decode cX9_init 15 = .ok (.dup, 1) := by decide +kernel
theorem dX9_init_16 : decode cX9_init 16 = .ok (.invokespecial 9, 3) := by decide +kernel
theorem dX9_init_19 : decode cX9_init 19 = .ok (.putfield 10, 3) := by decide +kernel
theorem dX9_init_22 : decode cX9_init 22 = .ok (.goto 14, 3) := by decide +kernel
theorem dX9_init_25 : decode cX9_init 25 = .ok (.aload_n 0, 1) := by decide +kernel
theorem dX9_init_26 : decode cX9_init 26 = .ok (.new 16, 3) := by decide +kernel
theorem dX9_init_29 : decode cX9_init 29 = .ok (.dup, 1) := by decide +kernel
theorem dX9_init_30 : decode cX9_init 30 = .ok (.invokespecial 18, 3) := by decide +kernel
theorem dX9_init_33 : decode cX9_init 33 = .ok (.putfield 10, 3) := by decide +kernel
theorem dX9_init_36 : decode cX9_init 36 = .ok (.aload_n 0, 1) := by decide +kernel
theorem dX9_init_37 : decode cX9_init 37 = .ok (.new 19, 3) := by decide +kernel
theorem dX9_init_40 : decode cX9_init 40 = .ok (.dup, 1) := by decide +kernel
theorem dX9_init_41 : decode cX9_init 41 = .ok (.aload_n 0, 1) := by decide +kernel
theorem dX9_init_42 : decode cX9_init 42 = .ok (.getfield 10, 3) := by decide +kernel
theorem dX9_init_45 : decode cX9_init 45 = .ok (.invokespecial 21, 3) := by decide +kernel
theorem dX9_init_48 : decode cX9_init 48 = .ok (.putfield 24, 3) := by decide +kernel
theorem dX9_init_51 : decode cX9_init 51 = .ok (.aload_n 0, 1) := by decide +kernel
theorem dX9_init_52 : decode cX9_init 52 = .ok (.new 28, 3) := by decide +kernel
theorem dX9_init_55 : decode cX9_init 55 = .ok (.dup, 1) := by decide +kernel
theorem dX9_init_56 : decode cX9_init 56 = .ok (.invokespecial 30, 3) := by decide +kernel
theorem dX9_init_59 : decode cX9_init 59 = .ok (.putfield 31, 3) := by decide +kernel
theorem dX9_init_62 : decode cX9_init 62 = .ok (.aload_n 0, 1) := by decide +kernel
theorem dX9_init_63 : decode cX9_init 63 = .ok (.new 35, 3) := by decide +kernel
theorem dX9_init_66 : decode cX9_init 66 = .ok (.dup, 1) := by decide +kernel
theorem dX9_init_67 : decode cX9_init 67 = .ok (.invokespecial 37, 3) := by decide +kernel
theorem dX9_init_70 : decode cX9_init 70 = .ok (.putfield 38, 3) := by decide +kernel
theorem dX9_init_73 : decode cX9_init 73 = .ok (.aload_n 0, 1) := by decide +kernel
theorem dX9_init_74 : decode cX9_init 74 = .ok (.new 42, 3) := by decide +kernel
theorem dX9_init_77 : decode cX9_init 77 = .ok (.dup, 1) := by decide +kernel
theorem dX9_init_78 : decode cX9_init 78 = .ok (.aload_n 0, 1) := by decide +kernel
theorem dX9_init_79 : decode cX9_init 79 = .ok (.getfield 24, 3) := by decide +kernel
theorem dX9_init_82 : decode cX9_init 82 = .ok (.aload_n 0, 1) := by decide +kernel
theorem dX9_init_83 : decode cX9_init 83 = .ok (.getfield 31, 3) := by decide +kernel
theorem dX9_init_86 : decode cX9_init 86 = .ok (.aload_n 0, 1) := by decide +kernel
theorem dX9_init_87 : decode cX9_init 87 = .ok (.getfield 38, 3) := by decide +kernel
theorem dX9_init_90 : decode cX9_init 90 = .ok (.aload_n 0, 1) := by decide +kernel
theorem dX9_init_91 : decode cX9_init 91 = .ok (.getfield 10, 3) := by decide +kernel
theorem dX9_init_94 : decode cX9_init 94 = .ok (.invokespecial 44, 3) := by decide +kernel
theorem dX9_init_97 : decode cX9_init 97 = .ok (.putfield 47, 3) := by decide +kernel
theorem dX9_init_100 : decode cX9_init 100 = .ok (.aload_n 0, 1) := by decide +kernel
theorem dX9_init_101 : decode cX9_init 101 = .ok (.new 51, 3) := by decide +kernel
theorem dX9_init_104 : decode cX9_init 104 = .ok (.dup, 1) := by decide +kernel
theorem dX9_init_105 : decode cX9_init 105 = .ok (.aload_n 0, 1) := by decide +kernel
theorem dX9_init_106 : decode cX9_init 106 = .ok (.getfield 47, 3) := by decide +kernel
theorem dX9_init_109 : decode cX9_init 109 = .ok (.invokespecial 53, 3) := by decide +kernel
theorem dX9_init_112 : decode cX9_init 112 = .ok (.putfield 56, 3) := by decide +kernel
theorem dX9_init_115 : decode cX9_init 115 = .ok (.return_, 1) := by decide +kernel
theorem dX9_rom_0 : decode cX9_rom 0 = .ok (.iload_n 1, 1) := by decide +kernel
theorem dX9_rom_1 : decode cX9_rom 1 = .ok (.ifCond .lt 10, 3) := by decide +kernel
theorem dX9_rom_4 : decode cX9_rom 4 = .ok (.iload_n 1, 1) := by decide +kernel
theorem dX9_rom_5 : decode cX9_rom 5 = .ok (.sipush 512, 3) := by decide +kernel
theorem dX9_rom_8 : decode cX9_rom 8 = .ok (.if_icmp .lt 13, 3) := by decide +kernel
theorem dX9_rom_11 : decode cX9_rom 11 = .ok (.new 60, 3) := by decide +kernel
theorem dX9_rom_14 : decode cX9_rom 14 = .ok (.dup, 1) := by decide +kernel
theorem dX9_rom_15 : decode cX9_rom 15 = .ok (.ldc 62, 2) := by decide +kernel
theorem dX9_rom_17 : decode cX9_rom 17 = .ok (.invokespecial 64, 3) := by decide +kernel
theorem dX9_rom_20 : decode cX9_rom 20 = .ok (.athrow, 1) := by decide +kernel
theorem dX9_rom_21 : decode cX9_rom 21 = .ok (.aload_n 0, 1) := by decide +kernel
theorem dX9_rom_22 : decode cX9_rom 22 = .ok (.getfield 10, 3) := by decide +kernel
theorem dX9_rom_25 : decode cX9_rom 25 = .ok (.getfield 67, 3) := by decide +kernel
theorem dX9_rom_28 : decode cX9_rom 28 = .ok (.iload_n 1, 1) := by decide +kernel
theorem dX9_rom_29 : decode cX9_rom 29 = .ok (.iload_n 2, 1) := by decide +kernel
theorem dX9_rom_30 : decode cX9_rom 30 = .ok (.sipush 255, 3) := by decide +kernel
theorem dX9_rom_33 : decode cX9_rom 33 = .ok (.iand, 1) := by decide +kernel
theorem dX9_rom_34 : decode cX9_rom 34 = .ok (.iastore, 1) := by decide +kernel
theorem dX9_rom_35 : decode cX9_rom 35 = .ok (.return_, 1) := by decide +kernel
theorem dX9_chr_0 : decode cX9_chr 0 = .ok (.iload_n 1, 1) := by decide +kernel
theorem dX9_chr_1 : decode cX9_chr 1 = .ok (.ifCond .lt 10, 3) := by decide +kernel
theorem dX9_chr_4 : decode cX9_chr 4 = .ok (.iload_n 1, 1) := by decide +kernel
theorem dX9_chr_5 : decode cX9_chr 5 = .ok (.sipush 128, 3) := by decide +kernel
theorem dX9_chr_8 : decode cX9_chr 8 = .ok (.if_icmp .lt 13, 3) := by decide +kernel
theorem dX9_chr_11 : decode cX9_chr 11 = .ok (.new 60, 3) := by decide +kernel
theorem dX9_chr_14 : decode cX9_chr 14 = .ok (.dup, 1) := by decide +kernel
theorem dX9_chr_15 : decode cX9_chr 15 = .ok (.ldc 73, 2) := by decide +kernel
theorem dX9_chr_17 : decode cX9_chr 17 = .ok (.invokespecial 64, 3) := by decide +kernel
theorem dX9_chr_20 : decode cX9_chr 20 = .ok (.athrow, 1) := by decide +kernel
theorem dX9_chr_21 : decode cX9_chr 21 = .ok (.aload_n 0, 1) := by decide +kernel
theorem dX9_chr_22 : decode cX9_chr 22 = .ok (.getfield 10, 3) := by decide +kernel
theorem dX9_chr_25 : decode cX9_chr 25 = .ok (.getfield 75, 3) := by decide +kernel
theorem dX9_chr_28 : decode cX9_chr 28 = .ok (.iload_n 1, 1) := by decide +kernel
theorem dX9_chr_29 : decode cX9_chr 29 = .ok (.iload_n 2, 1) := by decide +kernel
theorem dX9_chr_30 : decode cX9_chr 30 = .ok (.sipush 255, 3) := by decide +kernel
theorem dX9_chr_33 : decode cX9_chr 33 = .ok (.iand, 1) := by decide +kernel
theorem dX9_chr_34 : decode cX9_chr 34 = .ok (.iastore, 1) := by decide +kernel
theorem dX9_chr_35 : decode cX9_chr 35 = .ok (.return_, 1) := by decide +kernel
theorem dX9_reset_0 : decode cX9_reset 0 = .ok (.aload_n 0, 1) := by decide +kernel
theorem dX9_reset_1 : decode cX9_reset 1 = .ok (.getfield 10, 3) := by decide +kernel
theorem dX9_reset_4 : decode cX9_reset 4 = .ok (.invokevirtual 78, 3) := by decide +kernel
theorem dX9_reset_7 : decode cX9_reset 7 = .ok (.aload_n 0, 1) := by decide +kernel
theorem dX9_reset_8 : decode cX9_reset 8 = .ok (.getfield 24, 3) := by decide +kernel
theorem dX9_reset_11 : decode cX9_reset 11 = .ok (.invokevirtual 81, 3) := by decide +kernel
theorem dX9_reset_14 : decode cX9_reset 14 = .ok (.aload_n 0, 1) := by decide +kernel
theorem dX9_reset_15 : decode cX9_reset 15 = .ok (.getfield 31, 3) := by decide +kernel
theorem dX9_reset_18 : decode cX9_reset 18 = .ok (.invokevirtual 84, 3) := by decide +kernel
theorem dX9_reset_21 : decode cX9_reset 21 = .ok (.aload_n 0, 1) := by decide +kernel
theorem dX9_reset_22 : decode cX9_reset 22 = .ok (.getfield 56, 3) := by decide +kernel
theorem dX9_reset_25 : decode cX9_reset 25 = .ok (.invokevirtual 85, 3) := by decide +kernel
theorem dX9_reset_28 : decode cX9_reset 28 = .ok (.return_, 1) := by decide +kernel
theorem dX9_step_0 : decode cX9_step 0 = .ok (.aload_n 0, 1) := by decide +kernel
theorem dX9_step_1 : decode cX9_step 1 = .ok (.aload_n 0, 1) := by decide +kernel
theorem dX9_step_2 : decode cX9_step 2 = .ok (.getfield 56, 3) := by decide +kernel
theorem dX9_step_5 : decode cX9_step 5 = .ok (.aload_n 0, 1) := by decide +kernel
theorem dX9_step_6 : decode cX9_step 6 = .ok (.getfield 24, 3) := by decide +kernel
theorem dX9_step_9 : decode cX9_step 9 = .ok (.invokevirtual 86, 3) := by decide +kernel
theorem dX9_step_12 : decode cX9_step 12 = .ok (.aload_n 0, 1) := by decide +kernel
theorem dX9_step_13 : decode cX9_step 13 = .ok (.invokevirtual 90, 3) := by decide +kernel
theorem dX9_step_16 : decode cX9_step 16 = .ok (.ifCond .eq 7, 3) := by decide +kernel
theorem dX9_step_19 : decode cX9_step 19 = .ok (.iconst 1, 1) := by decide +kernel
theorem dX9_step_20 : decode cX9_step 20 = .ok (.goto 4, 3) := by decide +kernel
theorem dX9_step_23 : decode cX9_step 23 = .ok (.iconst 0, 1) := by decide +kernel
theorem dX9_step_24 : decode cX9_step 24 = .ok (.invokevirtual 94, 3) := by decide +kernel
theorem dX9_step_27 : decode cX9_step 27 = .ok (.invokevirtual 98, 3) := by decide +kernel
theorem dX9_step_30 : decode cX9_step 30 = .ok (.ireturn, 1) := by decide +kernel
theorem dX9_run_0 : decode cX9_run 0 = .ok (.iload_n 1, 1) := by decide +kernel
theorem dX9_run_1 : decode cX9_run 1 = .ok (.ifCond .lt 10, 3) := by decide +kernel
theorem dX9_run_4 : decode cX9_run 4 = .ok (.iload_n 1, 1) := by decide +kernel
theorem dX9_run_5 : decode cX9_run 5 = .ok (.sipush 200, 3) := by decide +kernel
theorem dX9_run_8 : decode cX9_run 8 = .ok (.if_icmp .le 5, 3) := by decide +kernel
theorem dX9_run_11 : decode cX9_run 11 = .ok (.iconst (-1), 1) := by decide +kernel
theorem dX9_run_12 : decode cX9_run 12 = .ok (.ireturn, 1) := by decide +kernel
theorem dX9_run_13 : decode cX9_run 13 = .ok (.iconst 0, 1) := by decide +kernel
theorem dX9_run_14 : decode cX9_run 14 = .ok (.istore_n 2, 1) := by decide +kernel
theorem dX9_run_15 : decode cX9_run 15 = .ok (.iconst 0, 1) := by decide +kernel
theorem dX9_run_16 : decode cX9_run 16 = .ok (.istore_n 3, 1) := by decide +kernel
theorem dX9_run_17 : decode cX9_run 17 = .ok (.iload_n 3, 1) := by decide +kernel
theorem dX9_run_18 : decode cX9_run 18 = .ok (.iload_n 1, 1) := by decide +kernel
theorem dX9_run_19 : decode cX9_run 19 = .ok (.if_icmp .ge 42, 3) := by decide +kernel
theorem dX9_run_22 : decode cX9_run 22 = .ok (.iload_n 2, 1) := by decide +kernel
theorem dX9_run_23 : decode cX9_run 23 = .ok (.aload_n 0, 1) := by decide +kernel
theorem dX9_run_24 : decode cX9_run 24 = .ok (.aload_n 0, 1) := by decide +kernel
theorem dX9_run_25 : decode cX9_run 25 = .ok (.getfield 56, 3) := by decide +kernel
theorem dX9_run_28 : decode cX9_run 28 = .ok (.aload_n 0, 1) := by decide +kernel
theorem dX9_run_29 : decode cX9_run 29 = .ok (.getfield 24, 3) := by decide +kernel
theorem dX9_run_32 : decode cX9_run 32 = .ok (.invokevirtual 86, 3) := by decide +kernel
theorem dX9_run_35 : decode cX9_run 35 = .ok (.aload_n 0, 1) := by decide +kernel
theorem dX9_run_36 : decode cX9_run 36 = .ok (.invokevirtual 90, 3) := by decide +kernel
theorem dX9_run_39 : decode cX9_run 39 = .ok (.ifCond .eq 7, 3) := by decide +kernel
theorem dX9_run_42 : decode cX9_run 42 = .ok (.iconst 1, 1) := by decide +kernel
theorem dX9_run_43 : decode cX9_run 43 = .ok (.goto 4, 3) := by decide +kernel
theorem dX9_run_46 : decode cX9_run 46 = .ok (.iconst 0, 1) := by decide +kernel
theorem dX9_run_47 : decode cX9_run 47 = .ok (.invokevirtual 94, 3) := by decide +kernel
theorem dX9_run_50 : decode cX9_run 50 = .ok (.invokevirtual 98, 3) := by decide +kernel
theorem dX9_run_53 : decode cX9_run 53 = .ok (.iadd, 1) := by decide +kernel
theorem dX9_run_54 : decode cX9_run 54 = .ok (.istore_n 2, 1) := by decide +kernel
theorem dX9_run_55 : decode cX9_run 55 = .ok (.iinc 3 1, 3) := by decide +kernel
theorem dX9_run_58 : decode cX9_run 58 = .ok (.goto (-41), 3) := by decide +kernel
theorem dX9_run_61 : decode cX9_run 61 = .ok (.iload_n 2, 1) := by decide +kernel
theorem dX9_run_62 : decode cX9_run 62 = .ok (.ireturn, 1) := by decide +kernel
theorem dX9_pass_0 : decode cX9_pass 0 = .ok (.iload_n 1, 1) := by decide +kernel
theorem dX9_pass_1 : decode cX9_pass 1 = .ok (.ifCond .lt 10, 3) := by decide +kernel
theorem dX9_pass_4 : decode cX9_pass 4 = .ok (.iload_n 1, 1) := by decide +kernel
theorem dX9_pass_5 : decode cX9_pass 5 = .ok (.sipush 30000, 3) := by decide +kernel
theorem dX9_pass_8 : decode cX9_pass 8 = .ok (.if_icmp .le 5, 3) := by decide +kernel
theorem dX9_pass_11 : decode cX9_pass 11 = .ok (.iconst 0, 1) := by decide +kernel
theorem dX9_pass_12 : decode cX9_pass 12 = .ok (.ireturn, 1) := by decide +kernel
theorem dX9_pass_13 : decode cX9_pass 13 = .ok (.aload_n 0, 1) := by decide +kernel
theorem dX9_pass_14 : decode cX9_pass 14 = .ok (.iload_n 1, 1) := by decide +kernel
theorem dX9_pass_15 : decode cX9_pass 15 = .ok (.invokevirtual 102, 3) := by decide +kernel
theorem dX9_pass_18 : decode cX9_pass 18 = .ok (.iconst 1, 1) := by decide +kernel
theorem dX9_pass_19 : decode cX9_pass 19 = .ok (.ireturn, 1) := by decide +kernel
theorem dX9_read_0 : decode cX9_read 0 = .ok (.aload_n 0, 1) := by decide +kernel
theorem dX9_read_1 : decode cX9_read 1 = .ok (.getfield 47, 3) := by decide +kernel
theorem dX9_read_4 : decode cX9_read 4 = .ok (.iload_n 1, 1) := by decide +kernel
theorem dX9_read_5 : decode cX9_read 5 = .ok (.ldc 106, 2) := by decide +kernel
theorem dX9_read_7 : decode cX9_read 7 = .ok (.iand, 1) := by decide +kernel
theorem dX9_read_8 : decode cX9_read 8 = .ok (.invokevirtual 107, 3) := by decide +kernel
theorem dX9_read_11 : decode cX9_read 11 = .ok (.ireturn, 1) := by decide +kernel
theorem dX9_write_0 : decode cX9_write 0 = .ok (.aload_n 0, 1) := by decide +kernel
theorem dX9_write_1 : decode cX9_write 1 = .ok (.getfield 47, 3) := by decide +kernel
theorem dX9_write_4 : decode cX9_write 4 = .ok (.iload_n 1, 1) := by decide +kernel
theorem dX9_write_5 : decode cX9_write 5 = .ok (.ldc 106, 2) := by decide +kernel
theorem dX9_write_7 : decode cX9_write 7 = .ok (.iand, 1) := by decide +kernel
theorem dX9_write_8 : decode cX9_write 8 = .ok (.iload_n 2, 1) := by decide +kernel
theorem dX9_write_9 : decode cX9_write 9 = .ok (.sipush 255, 3) := by decide +kernel
theorem dX9_write_12 : decode cX9_write 12 = .ok (.iand, 1) := by decide +kernel
theorem dX9_write_13 : decode cX9_write 13 = .ok (.invokevirtual 110, 3) := by decide +kernel
theorem dX9_write_16 : decode cX9_write 16 = .ok (.aload_n 0, 1) := by decide +kernel
theorem dX9_write_17 : decode cX9_write 17 = .ok (.iconst 0, 1) := by decide +kernel
theorem dX9_write_18 : decode cX9_write 18 = .ok (.invokevirtual 98, 3) := by decide +kernel
theorem dX9_write_21 : decode cX9_write 21 = .ok (.pop, 1) := by decide +kernel
theorem dX9_write_22 : decode cX9_write 22 = .ok (.return_, 1) := by decide +kernel
theorem dX9_pad_0 : decode cX9_pad 0 = .ok (.iload_n 1, 1) := by decide +kernel
theorem dX9_pad_1 : decode cX9_pad 1 = .ok (.ifCond .lt 8, 3) := by decide +kernel
theorem dX9_pad_4 : decode cX9_pad 4 = .ok (.iload_n 1, 1) := by decide +kernel
theorem dX9_pad_5 : decode cX9_pad 5 = .ok (.iconst 1, 1) := by decide +kernel
theorem dX9_pad_6 : decode cX9_pad 6 = .ok (.if_icmp .le 13, 3) := by decide +kernel
theorem dX9_pad_9 : decode cX9_pad 9 = .ok (.new 114, 3) := by decide +kernel
theorem dX9_pad_12 : decode cX9_pad 12 = .ok (.dup, 1) := by decide +kernel
theorem dX9_pad_13 : decode cX9_pad 13 = .ok (.ldc 116, 2) := by decide +kernel
theorem dX9_pad_15 : decode cX9_pad 15 = .ok (.invokespecial 118, 3) := by decide +kernel
theorem dX9_pad_18 : decode cX9_pad 18 = .ok (.athrow, 1) := by decide +kernel
theorem dX9_pad_19 : decode cX9_pad 19 = .ok (.aload_n 0, 1) := by decide +kernel
theorem dX9_pad_20 : decode cX9_pad 20 = .ok (.getfield 38, 3) := by decide +kernel
theorem dX9_pad_23 : decode cX9_pad 23 = .ok (.getfield 119, 3) := by decide +kernel
theorem dX9_pad_26 : decode cX9_pad 26 = .ok (.iload_n 1, 1) := by decide +kernel
theorem dX9_pad_27 : decode cX9_pad 27 = .ok (.iload_n 2, 1) := by decide +kernel
theorem dX9_pad_28 : decode cX9_pad 28 = .ok (.sipush 255, 3) := by decide +kernel
theorem dX9_pad_31 : decode cX9_pad 31 = .ok (.iand, 1) := by decide +kernel
theorem dX9_pad_32 : decode cX9_pad 32 = .ok (.iastore, 1) := by decide +kernel
theorem dX9_pad_33 : decode cX9_pad 33 = .ok (.return_, 1) := by decide +kernel
theorem dX9_core_0 : decode cX9_core 0 = .ok (.iload_n 1, 1) := by decide +kernel
theorem dX9_core_1 : decode cX9_core 1 = .ok (.tableswitch 125 0 8 #[51, 59, 67, 75, 83, 91, 99, 104, 120], 51) := by decide +kernel
theorem dX9_core_52 : decode cX9_core 52 = .ok (.aload_n 0, 1) := by decide +kernel
theorem dX9_core_53 : decode cX9_core 53 = .ok (.getfield 56, 3) := by decide +kernel
theorem dX9_core_56 : decode cX9_core 56 = .ok (.getfield 122, 3) := by decide +kernel
theorem dX9_core_59 : decode cX9_core 59 = .ok (.ireturn, 1) := by decide +kernel
theorem dX9_core_60 : decode cX9_core 60 = .ok (.aload_n 0, 1) := by decide +kernel
theorem dX9_core_61 : decode cX9_core 61 = .ok (.getfield 56, 3) := by decide +kernel
theorem dX9_core_64 : decode cX9_core 64 = .ok (.getfield 126, 3) := by decide +kernel
theorem dX9_core_67 : decode cX9_core 67 = .ok (.ireturn, 1) := by decide +kernel
theorem dX9_core_68 : decode cX9_core 68 = .ok (.aload_n 0, 1) := by decide +kernel
theorem dX9_core_69 : decode cX9_core 69 = .ok (.getfield 56, 3) := by decide +kernel
theorem dX9_core_72 : decode cX9_core 72 = .ok (.getfield 129, 3) := by decide +kernel
theorem dX9_core_75 : decode cX9_core 75 = .ok (.ireturn, 1) := by decide +kernel
theorem dX9_core_76 : decode cX9_core 76 = .ok (.aload_n 0, 1) := by decide +kernel
theorem dX9_core_77 : decode cX9_core 77 = .ok (.getfield 56, 3) := by decide +kernel
theorem dX9_core_80 : decode cX9_core 80 = .ok (.getfield 132, 3) := by decide +kernel
theorem dX9_core_83 : decode cX9_core 83 = .ok (.ireturn, 1) := by decide +kernel
theorem dX9_core_84 : decode cX9_core 84 = .ok (.aload_n 0, 1) := by decide +kernel
theorem dX9_core_85 : decode cX9_core 85 = .ok (.getfield 56, 3) := by decide +kernel
theorem dX9_core_88 : decode cX9_core 88 = .ok (.getfield 135, 3) := by decide +kernel
theorem dX9_core_91 : decode cX9_core 91 = .ok (.ireturn, 1) := by decide +kernel
theorem dX9_core_92 : decode cX9_core 92 = .ok (.aload_n 0, 1) := by decide +kernel
theorem dX9_core_93 : decode cX9_core 93 = .ok (.getfield 56, 3) := by decide +kernel
theorem dX9_core_96 : decode cX9_core 96 = .ok (.getfield 138, 3) := by decide +kernel
theorem dX9_core_99 : decode cX9_core 99 = .ok (.ireturn, 1) := by decide +kernel
theorem dX9_core_100 : decode cX9_core 100 = .ok (.aload_n 0, 1) := by decide +kernel
theorem dX9_core_101 : decode cX9_core 101 = .ok (.getfield 141, 3) := by decide +kernel
theorem dX9_core_104 : decode cX9_core 104 = .ok (.ireturn, 1) := by decide +kernel
theorem dX9_core_105 : decode cX9_core 105 = .ok (.aload_n 0, 1) := by decide +kernel
theorem dX9_core_106 : decode cX9_core 106 = .ok (.getfield 24, 3) := by decide +kernel
theorem dX9_core_109 : decode cX9_core 109 = .ok (.getfield 144, 3) := by decide +kernel
theorem dX9_core_112 : decode cX9_core 112 = .ok (.ifCond .eq 7, 3) := by decide +kernel
theorem dX9_core_115 : decode cX9_core 115 = .ok (.iconst 1, 1) := by decide +kernel
theorem dX9_core_116 : decode cX9_core 116 = .ok (.goto 4, 3) := by decide +kernel
theorem dX9_core_119 : decode cX9_core 119 = .ok (.iconst 0, 1) := by decide +kernel
theorem dX9_core_120 : decode cX9_core 120 = .ok (.ireturn, 1) := by decide +kernel
theorem dX9_core_121 : decode cX9_core 121 = .ok (.aload_n 0, 1) := by decide +kernel
theorem dX9_core_122 : decode cX9_core 122 = .ok (.invokevirtual 90, 3) := by decide +kernel
theorem dX9_core_125 : decode cX9_core 125 = .ok (.ireturn, 1) := by decide +kernel
theorem dX9_core_126 : decode cX9_core 126 = .ok (.new 114, 3) := by decide +kernel
theorem dX9_core_129 : decode cX9_core 129 = .ok (.dup, 1) := by decide +kernel
theorem dX9_core_130 : decode cX9_core 130 = .ok (.ldc 148, 2) := by decide +kernel
theorem dX9_core_132 : decode cX9_core 132 = .ok (.invokespecial 118, 3) := by decide +kernel
theorem dX9_core_135 : decode cX9_core 135 = .ok (.athrow, 1) := by decide +kernel
theorem dX9_picture_0 : decode cX9_picture 0 = .ok (.iload_n 1, 1) := by decide +kernel
theorem dX9_picture_1 : decode cX9_picture 1 = .ok (.tableswitch 147 0 10 #[59, 67, 75, 83, 91, 99, 107, 115, 123, 131, 139], 59) := by decide +kernel
theorem dX9_picture_60 : decode cX9_picture 60 = .ok (.aload_n 0, 1) := by decide +kernel
theorem dX9_picture_61 : decode cX9_picture 61 = .ok (.getfield 24, 3) := by decide +kernel
theorem dX9_picture_64 : decode cX9_picture 64 = .ok (.getfield 150, 3) := by decide +kernel
theorem dX9_picture_67 : decode cX9_picture 67 = .ok (.ireturn, 1) := by decide +kernel
theorem dX9_picture_68 : decode cX9_picture 68 = .ok (.aload_n 0, 1) := by decide +kernel
theorem dX9_picture_69 : decode cX9_picture 69 = .ok (.getfield 24, 3) := by decide +kernel
theorem dX9_picture_72 : decode cX9_picture 72 = .ok (.getfield 153, 3) := by decide +kernel
theorem dX9_picture_75 : decode cX9_picture 75 = .ok (.ireturn, 1) := by decide +kernel
theorem dX9_picture_76 : decode cX9_picture 76 = .ok (.aload_n 0, 1) := by decide +kernel
theorem dX9_picture_77 : decode cX9_picture 77 = .ok (.getfield 24, 3) := by decide +kernel
theorem dX9_picture_80 : decode cX9_picture 80 = .ok (.getfield 156, 3) := by decide +kernel
theorem dX9_picture_83 : decode cX9_picture 83 = .ok (.ireturn, 1) := by decide +kernel
theorem dX9_picture_84 : decode cX9_picture 84 = .ok (.aload_n 0, 1) := by decide +kernel
theorem dX9_picture_85 : decode cX9_picture 85 = .ok (.getfield 24, 3) := by decide +kernel
theorem dX9_picture_88 : decode cX9_picture 88 = .ok (.getfield 157, 3) := by decide +kernel
theorem dX9_picture_91 : decode cX9_picture 91 = .ok (.ireturn, 1) := by decide +kernel
theorem dX9_picture_92 : decode cX9_picture 92 = .ok (.aload_n 0, 1) := by decide +kernel
theorem dX9_picture_93 : decode cX9_picture 93 = .ok (.getfield 24, 3) := by decide +kernel
theorem dX9_picture_96 : decode cX9_picture 96 = .ok (.getfield 160, 3) := by decide +kernel
theorem dX9_picture_99 : decode cX9_picture 99 = .ok (.ireturn, 1) := by decide +kernel
theorem dX9_picture_100 : decode cX9_picture 100 = .ok (.aload_n 0, 1) := by decide +kernel
theorem dX9_picture_101 : decode cX9_picture 101 = .ok (.getfield 24, 3) := by decide +kernel
theorem dX9_picture_104 : decode cX9_picture 104 = .ok (.getfield 163, 3) := by decide +kernel
theorem dX9_picture_107 : decode cX9_picture 107 = .ok (.ireturn, 1) := by decide +kernel
theorem dX9_picture_108 : decode cX9_picture 108 = .ok (.aload_n 0, 1) := by decide +kernel
theorem dX9_picture_109 : decode cX9_picture 109 = .ok (.getfield 24, 3) := by decide +kernel
theorem dX9_picture_112 : decode cX9_picture 112 = .ok (.getfield 166, 3) := by decide +kernel
theorem dX9_picture_115 : decode cX9_picture 115 = .ok (.ireturn, 1) := by decide +kernel
theorem dX9_picture_116 : decode cX9_picture 116 = .ok (.aload_n 0, 1) := by decide +kernel
theorem dX9_picture_117 : decode cX9_picture 117 = .ok (.getfield 24, 3) := by decide +kernel
theorem dX9_picture_120 : decode cX9_picture 120 = .ok (.getfield 169, 3) := by decide +kernel
theorem dX9_picture_123 : decode cX9_picture 123 = .ok (.ireturn, 1) := by decide +kernel
theorem dX9_picture_124 : decode cX9_picture 124 = .ok (.aload_n 0, 1) := by decide +kernel
theorem dX9_picture_125 : decode cX9_picture 125 = .ok (.getfield 24, 3) := by decide +kernel
theorem dX9_picture_128 : decode cX9_picture 128 = .ok (.getfield 172, 3) := by decide +kernel
theorem dX9_picture_131 : decode cX9_picture 131 = .ok (.ireturn, 1) := by decide +kernel
theorem dX9_picture_132 : decode cX9_picture 132 = .ok (.aload_n 0, 1) := by decide +kernel
theorem dX9_picture_133 : decode cX9_picture 133 = .ok (.getfield 24, 3) := by decide +kernel
theorem dX9_picture_136 : decode cX9_picture 136 = .ok (.getfield 175, 3) := by decide +kernel
theorem dX9_picture_139 : decode cX9_picture 139 = .ok (.ireturn, 1) := by decide +kernel
theorem dX9_picture_140 : decode cX9_picture 140 = .ok (.aload_n 0, 1) := by decide +kernel
theorem dX9_picture_141 : decode cX9_picture 141 = .ok (.getfield 24, 3) := by decide +kernel
theorem dX9_picture_144 : decode cX9_picture 144 = .ok (.getfield 178, 3) := by decide +kernel
theorem dX9_picture_147 : decode cX9_picture 147 = .ok (.ireturn, 1) := by decide +kernel
theorem dX9_picture_148 : decode cX9_picture 148 = .ok (.new 114, 3) := by decide +kernel
theorem dX9_picture_151 : decode cX9_picture 151 = .ok (.dup, 1) := by decide +kernel
theorem dX9_picture_152 : decode cX9_picture 152 = .ok (.ldc 181, 2) := by decide +kernel
theorem dX9_picture_154 : decode cX9_picture 154 = .ok (.invokespecial 118, 3) := by decide +kernel
theorem dX9_picture_157 : decode cX9_picture 157 = .ok (.athrow, 1) := by decide +kernel
theorem dX9_memory_0 : decode cX9_memory 0 = .ok (.aload_n 0, 1) := by decide +kernel
theorem dX9_memory_1 : decode cX9_memory 1 = .ok (.getfield 24, 3) := by decide +kernel
theorem dX9_memory_4 : decode cX9_memory 4 = .ok (.iload_n 1, 1) := by decide +kernel
theorem dX9_memory_5 : decode cX9_memory 5 = .ok (.sipush 16383, 3) := by decide +kernel
theorem dX9_memory_8 : decode cX9_memory 8 = .ok (.iand, 1) := by decide +kernel
theorem dX9_memory_9 : decode cX9_memory 9 = .ok (.invokevirtual 183, 3) := by decide +kernel
theorem dX9_memory_12 : decode cX9_memory 12 = .ok (.ireturn, 1) := by decide +kernel
theorem dX9_oam_0 : decode cX9_oam 0 = .ok (.iload_n 1, 1) := by decide +kernel
theorem dX9_oam_1 : decode cX9_oam 1 = .ok (.ifCond .lt 10, 3) := by decide +kernel
theorem dX9_oam_4 : decode cX9_oam 4 = .ok (.iload_n 1, 1) := by decide +kernel
theorem dX9_oam_5 : decode cX9_oam 5 = .ok (.sipush 256, 3) := by decide +kernel
theorem dX9_oam_8 : decode cX9_oam 8 = .ok (.if_icmp .lt 13, 3) := by decide +kernel
theorem dX9_oam_11 : decode cX9_oam 11 = .ok (.new 114, 3) := by decide +kernel
theorem dX9_oam_14 : decode cX9_oam 14 = .ok (.dup, 1) := by decide +kernel
theorem dX9_oam_15 : decode cX9_oam 15 = .ok (.ldc 186, 2) := by decide +kernel
theorem dX9_oam_17 : decode cX9_oam 17 = .ok (.invokespecial 118, 3) := by decide +kernel
theorem dX9_oam_20 : decode cX9_oam 20 = .ok (.athrow, 1) := by decide +kernel
theorem dX9_oam_21 : decode cX9_oam 21 = .ok (.aload_n 0, 1) := by decide +kernel
theorem dX9_oam_22 : decode cX9_oam 22 = .ok (.getfield 24, 3) := by decide +kernel
theorem dX9_oam_25 : decode cX9_oam 25 = .ok (.getfield 188, 3) := by decide +kernel
theorem dX9_oam_28 : decode cX9_oam 28 = .ok (.iload_n 1, 1) := by decide +kernel
theorem dX9_oam_29 : decode cX9_oam 29 = .ok (.iaload, 1) := by decide +kernel
theorem dX9_oam_30 : decode cX9_oam 30 = .ok (.ireturn, 1) := by decide +kernel
theorem dX9_cartridge_0 : decode cX9_cartridge 0 = .ok (.iload_n 1, 1) := by decide +kernel
theorem dX9_cartridge_1 : decode cX9_cartridge 1 = .ok (.ifCond .lt 9, 3) := by decide +kernel
theorem dX9_cartridge_4 : decode cX9_cartridge 4 = .ok (.iload_n 1, 1) := by decide +kernel
theorem dX9_cartridge_5 : decode cX9_cartridge 5 = .ok (.bipush 13, 2) := by decide +kernel
theorem dX9_cartridge_7 : decode cX9_cartridge 7 = .ok (.if_icmp .le 13, 3) := by decide +kernel
theorem dX9_cartridge_10 : decode cX9_cartridge 10 = .ok (.new 114, 3) := by decide +kernel
theorem dX9_cartridge_13 : decode cX9_cartridge 13 = .ok (.dup, 1) := by decide +kernel
theorem dX9_cartridge_14 : decode cX9_cartridge 14 = .ok (.ldc 191, 2) := by decide +kernel
theorem dX9_cartridge_16 : decode cX9_cartridge 16 = .ok (.invokespecial 118, 3) := by decide +kernel
theorem dX9_cartridge_19 : decode cX9_cartridge 19 = .ok (.athrow, 1) := by decide +kernel
theorem dX9_cartridge_20 : decode cX9_cartridge 20 = .ok (.iload_n 1, 1) := by decide +kernel
theorem dX9_cartridge_21 : decode cX9_cartridge 21 = .ok (.iconst 4, 1) := by decide +kernel
theorem dX9_cartridge_22 : decode cX9_cartridge 22 = .ok (.if_icmp .ge 13, 3) := by decide +kernel
theorem dX9_cartridge_25 : decode cX9_cartridge 25 = .ok (.aload_n 0, 1) := by decide +kernel
theorem dX9_cartridge_26 : decode cX9_cartridge 26 = .ok (.getfield 10, 3) := by decide +kernel
theorem dX9_cartridge_29 : decode cX9_cartridge 29 = .ok (.getfield 193, 3) := by decide +kernel
theorem dX9_cartridge_32 : decode cX9_cartridge 32 = .ok (.iload_n 1, 1) := by decide +kernel
theorem dX9_cartridge_33 : decode cX9_cartridge 33 = .ok (.iaload, 1) := by decide +kernel
theorem dX9_cartridge_34 : decode cX9_cartridge 34 = .ok (.ireturn, 1) := by decide +kernel
theorem dX9_cartridge_35 : decode cX9_cartridge 35 = .ok (.iload_n 1, 1) := by decide +kernel
theorem dX9_cartridge_36 : decode cX9_cartridge 36 = .ok (.bipush 12, 2) := by decide +kernel
theorem dX9_cartridge_38 : decode cX9_cartridge 38 = .ok (.if_icmp .ge 15, 3) := by decide +kernel
theorem dX9_cartridge_41 : decode cX9_cartridge 41 = .ok (.aload_n 0, 1) := by decide +kernel
theorem dX9_cartridge_42 : decode cX9_cartridge 42 = .ok (.getfield 10, 3) := by decide +kernel
theorem dX9_cartridge_45 : decode cX9_cartridge 45 = .ok (.getfield 196, 3) := by decide +kernel
theorem dX9_cartridge_48 : decode cX9_cartridge 48 = .ok (.iload_n 1, 1) := by decide +kernel
theorem dX9_cartridge_49 : decode cX9_cartridge 49 = .ok (.iconst 4, 1) := by decide +kernel
theorem dX9_cartridge_50 : decode cX9_cartridge 50 = .ok (.isub, 1) := by decide +kernel
theorem dX9_cartridge_51 : decode cX9_cartridge 51 = .ok (.iaload, 1) := by decide +kernel
theorem dX9_cartridge_52 : decode cX9_cartridge 52 = .ok (.ireturn, 1) := by decide +kernel
theorem dX9_cartridge_53 : decode cX9_cartridge 53 = .ok (.iload_n 1, 1) := by decide +kernel
theorem dX9_cartridge_54 : decode cX9_cartridge 54 = .ok (.bipush 12, 2) := by decide +kernel
theorem dX9_cartridge_56 : decode cX9_cartridge 56 = .ok (.if_icmp .ne 13, 3) := by decide +kernel
theorem dX9_cartridge_59 : decode cX9_cartridge 59 = .ok (.aload_n 0, 1) := by decide +kernel
theorem dX9_cartridge_60 : decode cX9_cartridge 60 = .ok (.getfield 10, 3) := by decide +kernel
theorem dX9_cartridge_63 : decode cX9_cartridge 63 = .ok (.getfield 199, 3) := by decide +kernel
theorem dX9_cartridge_66 : decode cX9_cartridge 66 = .ok (.goto 10, 3) := by decide +kernel
theorem dX9_cartridge_69 : decode cX9_cartridge 69 = .ok (.aload_n 0, 1) := by decide +kernel
theorem dX9_cartridge_70 : decode cX9_cartridge 70 = .ok (.getfield 10, 3) := by decide +kernel
theorem dX9_cartridge_73 : decode cX9_cartridge 73 = .ok (.invokevirtual 202, 3) := by decide +kernel
theorem dX9_cartridge_76 : decode cX9_cartridge 76 = .ok (.ireturn, 1) := by decide +kernel
theorem dX9_sound_0 : decode cX9_sound 0 = .ok (.iload_n 1, 1) := by decide +kernel
theorem dX9_sound_1 : decode cX9_sound 1 = .ok (.ifCond .lt 8, 3) := by decide +kernel
theorem dX9_sound_4 : decode cX9_sound 4 = .ok (.iload_n 1, 1) := by decide +kernel
theorem dX9_sound_5 : decode cX9_sound 5 = .ok (.iconst 4, 1) := by decide +kernel
theorem dX9_sound_6 : decode cX9_sound 6 = .ok (.if_icmp .le 13, 3) := by decide +kernel
theorem dX9_sound_9 : decode cX9_sound 9 = .ok (.new 114, 3) := by decide +kernel
theorem dX9_sound_12 : decode cX9_sound 12 = .ok (.dup, 1) := by decide +kernel
theorem dX9_sound_13 : decode cX9_sound 13 = .ok (.ldc 205, 2) := by decide +kernel
theorem dX9_sound_15 : decode cX9_sound 15 = .ok (.invokespecial 118, 3) := by decide +kernel
theorem dX9_sound_18 : decode cX9_sound 18 = .ok (.athrow, 1) := by decide +kernel
theorem dX9_sound_19 : decode cX9_sound 19 = .ok (.iload_n 1, 1) := by decide +kernel
theorem dX9_sound_20 : decode cX9_sound 20 = .ok (.iconst 4, 1) := by decide +kernel
theorem dX9_sound_21 : decode cX9_sound 21 = .ok (.if_icmp .ne 13, 3) := by decide +kernel
theorem dX9_sound_24 : decode cX9_sound 24 = .ok (.aload_n 0, 1) := by decide +kernel
theorem dX9_sound_25 : decode cX9_sound 25 = .ok (.getfield 31, 3) := by decide +kernel
theorem dX9_sound_28 : decode cX9_sound 28 = .ok (.getfield 207, 3) := by decide +kernel
theorem dX9_sound_31 : decode cX9_sound 31 = .ok (.goto 12, 3) := by decide +kernel
theorem dX9_sound_34 : decode cX9_sound 34 = .ok (.aload_n 0, 1) := by decide +kernel
theorem dX9_sound_35 : decode cX9_sound 35 = .ok (.getfield 31, 3) := by decide +kernel
theorem dX9_sound_38 : decode cX9_sound 38 = .ok (.getfield 210, 3) := by decide +kernel
theorem dX9_sound_41 : decode cX9_sound 41 = .ok (.iload_n 1, 1) := by decide +kernel
theorem dX9_sound_42 : decode cX9_sound 42 = .ok (.iaload, 1) := by decide +kernel
theorem dX9_sound_43 : decode cX9_sound 43 = .ok (.ireturn, 1) := by decide +kernel
theorem dX9_irqLines_0 : decode cX9_irqLines 0 = .ok (.aload_n 0, 1) := by decide +kernel
theorem dX9_irqLines_1 : decode cX9_irqLines 1 = .ok (.getfield 31, 3) := by decide +kernel
theorem dX9_irqLines_4 : decode cX9_irqLines 4 = .ok (.getfield 213, 3) := by decide +kernel
theorem dX9_irqLines_7 : decode cX9_irqLines 7 = .ok (.ifCond .eq 7, 3) := by decide +kernel
theorem dX9_irqLines_10 : decode cX9_irqLines 10 = .ok (.iconst 1, 1) := by decide +kernel
theorem dX9_irqLines_11 : decode cX9_irqLines 11 = .ok (.goto 4, 3) := by decide +kernel
theorem dX9_irqLines_14 : decode cX9_irqLines 14 = .ok (.iconst 0, 1) := by decide +kernel
theorem dX9_irqLines_15 : decode cX9_irqLines 15 = .ok (.aload_n 0, 1) := by decide +kernel
theorem dX9_irqLines_16 : decode cX9_irqLines 16 = .ok (.getfield 10, 3) := by decide +kernel
theorem dX9_irqLines_19 : decode cX9_irqLines 19 = .ok (.getfield 216, 3) := by decide +kernel
theorem dX9_irqLines_22 : decode cX9_irqLines 22 = .ok (.ifCond .eq 7, 3) := by decide +kernel
theorem dX9_irqLines_25 : decode cX9_irqLines 25 = .ok (.iconst 2, 1) := by decide +kernel
theorem dX9_irqLines_26 : decode cX9_irqLines 26 = .ok (.goto 4, 3) := by decide +kernel
theorem dX9_irqLines_29 : decode cX9_irqLines 29 = .ok (.iconst 0, 1) := by decide +kernel
theorem dX9_irqLines_30 : decode cX9_irqLines 30 = .ok (.ior, 1) := by decide +kernel
theorem dX9_irqLines_31 : decode cX9_irqLines 31 = .ok (.ireturn, 1) := by decide +kernel
theorem dX9_settle_0 : decode cX9_settle 0 = .ok (.iload_n 1, 1) := by decide +kernel
theorem dX9_settle_1 : decode cX9_settle 1 = .ok (.aload_n 0, 1) := by decide +kernel
theorem dX9_settle_2 : decode cX9_settle 2 = .ok (.getfield 47, 3) := by decide +kernel
theorem dX9_settle_5 : decode cX9_settle 5 = .ok (.aload_n 0, 1) := by decide +kernel
theorem dX9_settle_6 : decode cX9_settle 6 = .ok (.getfield 141, 3) := by decide +kernel
theorem dX9_settle_9 : decode cX9_settle 9 = .ok (.iconst 1, 1) := by decide +kernel
theorem dX9_settle_10 : decode cX9_settle 10 = .ok (.iand, 1) := by decide +kernel
theorem dX9_settle_11 : decode cX9_settle 11 = .ok (.invokevirtual 217, 3) := by decide +kernel
theorem dX9_settle_14 : decode cX9_settle 14 = .ok (.iadd, 1) := by decide +kernel
theorem dX9_settle_15 : decode cX9_settle 15 = .ok (.istore_n 2, 1) := by decide +kernel
theorem dX9_settle_16 : decode cX9_settle 16 = .ok (.aload_n 0, 1) := by decide +kernel
theorem dX9_settle_17 : decode cX9_settle 17 = .ok (.iload_n 2, 1) := by decide +kernel
theorem dX9_settle_18 : decode cX9_settle 18 = .ok (.invokevirtual 102, 3) := by decide +kernel
theorem dX9_settle_21 : decode cX9_settle 21 = .ok (.iload_n 2, 1) := by decide +kernel
theorem dX9_settle_22 : decode cX9_settle 22 = .ok (.ireturn, 1) := by decide +kernel
theorem dX9_letTimePass_0 : decode cX9_letTimePass 0 = .ok (.aload_n 0, 1) := by decide +kernel
theorem dX9_letTimePass_1 : decode cX9_letTimePass 1 = .ok (.aload_n 0, 1) := by decide +kernel
theorem dX9_letTimePass_2 : decode cX9_letTimePass 2 = .ok (.getfield 141, 3) := by decide +kernel
theorem dX9_letTimePass_5 : decode cX9_letTimePass 5 = .ok (.iload_n 1, 1) := by decide +kernel
theorem dX9_letTimePass_6 : decode cX9_letTimePass 6 = .ok (.iadd, 1) := by decide +kernel
theorem dX9_letTimePass_7 : decode cX9_letTimePass 7 = .ok (.ldc 106, 2) := by decide +kernel
theorem dX9_letTimePass_9 : decode cX9_letTimePass 9 = .ok (.iand, 1) := by decide +kernel
theorem dX9_letTimePass_10 : decode cX9_letTimePass 10 = .ok (.putfield 141, 3) := by decide +kernel
theorem dX9_letTimePass_13 : decode cX9_letTimePass 13 = .ok (.aload_n 0, 1) := by decide +kernel
theorem dX9_letTimePass_14 : decode cX9_letTimePass 14 = .ok (.getfield 24, 3) := by decide +kernel
theorem dX9_letTimePass_17 : decode cX9_letTimePass 17 = .ok (.iconst 3, 1) := by decide +kernel
theorem dX9_letTimePass_18 : decode cX9_letTimePass 18 = .ok (.iload_n 1, 1) := by decide +kernel
theorem dX9_letTimePass_19 : decode cX9_letTimePass 19 = .ok (.imul, 1) := by decide +kernel
theorem dX9_letTimePass_20 : decode cX9_letTimePass 20 = .ok (.invokevirtual 220, 3) := by decide +kernel
theorem dX9_letTimePass_23 : decode cX9_letTimePass 23 = .ok (.aload_n 0, 1) := by decide +kernel
theorem dX9_letTimePass_24 : decode cX9_letTimePass 24 = .ok (.getfield 31, 3) := by decide +kernel
theorem dX9_letTimePass_27 : decode cX9_letTimePass 27 = .ok (.iload_n 1, 1) := by decide +kernel
theorem dX9_letTimePass_28 : decode cX9_letTimePass 28 = .ok (.invokevirtual 223, 3) := by decide +kernel
theorem dX9_letTimePass_31 : decode cX9_letTimePass 31 = .ok (.return_, 1) := by decide +kernel
