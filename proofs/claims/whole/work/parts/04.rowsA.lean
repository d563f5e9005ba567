theorem dX0_init_0 : decode cX0_init 0 = .ok (.aload_n 0, 1) := by decide +kernel
theorem dX0_init_1 : decode cX0_init 1 = .ok (.invokespecial 1, 3) := by decide +kernel
theorem dX0_init_4 : decode cX0_init 4 = .ok (.aload_n 0, 1) := by decide +kernel
theorem dX0_init_5 : decode cX0_init 5 = .ok (.sipush 2048, 3) := by decide +kernel
theorem dX0_init_8 : decode cX0_init 8 = .ok (.newarray .int, 2) := by decide +kernel
theorem dX0_init_10 : decode cX0_init 10 = .ok (.putfield 7, 3) := by decide +kernel
theorem dX0_init_13 : decode cX0_init 13 = .ok (.aload_n 0, 1) := by decide +kernel
theorem dX0_init_14 : decode cX0_init 14 = .ok (.sipush 256, 3) := by decide +kernel
theorem dX0_init_17 : decode cX0_init 17 = .ok (.newarray .int, 2) := by decide +kernel
theorem dX0_init_19 : decode cX0_init 19 = .ok (.putfield 13, 3) := by decide +kernel
theorem dX0_init_22 : decode cX0_init 22 = .ok (.aload_n 0, 1) := by decide +kernel
theorem dX0_init_23 : decode cX0_init 23 = .ok (.iconst (-1), 1) := by decide +kernel
theorem dX0_init_24 : decode cX0_init 24 = .ok (.putfield 16, 3) := by decide +kernel
theorem dX0_init_27 : decode cX0_init 27 = .ok (.aload_n 0, 1) := by decide +kernel
theorem dX0_init_28 : decode cX0_init 28 = .ok (.aload_n 1, 1) := by decide +kernel
theorem dX0_init_29 : decode cX0_init 29 = .ok (.putfield 20, 3) := by decide +kernel
theorem dX0_init_32 : decode cX0_init 32 = .ok (.aload_n 0, 1) := by decide +kernel
theorem dX0_init_33 : decode cX0_init 33 = .ok (.aload_n 2, 1) := by decide +kernel
theorem dX0_init_34 : decode cX0_init 34 = .ok (.putfield 24, 3) := by decide +kernel
theorem dX0_init_37 : decode cX0_init 37 = .ok (.aload_n 0, 1) := by decide +kernel
theorem dX0_init_38 : decode cX0_init 38 = .ok (.aload_n 3, 1) := by decide +kernel
theorem dX0_init_39 : decode cX0_init 39 = .ok (.putfield 28, 3) := by decide +kernel
theorem dX0_init_42 : decode cX0_init 42 = .ok (.aload_n 0, 1) := by decide +kernel
theorem dX0_init_43 : decode cX0_init 43 = .ok (.aload 4, 2) := by decide +kernel
theorem dX0_init_45 : decode cX0_init 45 = .ok (.putfield 32, 3) := by decide +kernel
theorem dX0_init_48 : decode cX0_init 48 = .ok (.return_, 1) := by decide +kernel
theorem dX0_load_0 : decode cX0_load 0 = .ok (.iload_n 1, 1) := by decide +kernel
theorem dX0_load_1 : decode cX0_load 1 = .ok (.sipush 8192, 3) := by decide +kernel
theorem dX0_load_4 : decode cX0_load 4 = .ok (.if_icmp .ge 14, 3) := by decide +kernel
theorem dX0_load_7 : decode cX0_load 7 = .ok (.aload_n 0, 1) := by decide +kernel
theorem dX0_load_8 : decode cX0_load 8 = .ok (.getfield 7, 3) := by decide +kernel
theorem dX0_load_11 : decode cX0_load 11 = .ok (.iload_n 1, 1) := by decide +kernel
theorem dX0_load_12 : decode cX0_load 12 = .ok (.sipush 2047, 3) := by decide +kernel
theorem dX0_load_15 : decode cX0_load 15 = .ok (.iand, 1) := by decide +kernel
theorem dX0_load_16 : decode cX0_load 16 = .ok (.iaload, 1) := by decide +kernel
theorem dX0_load_17 : decode cX0_load 17 = .ok (.ireturn, 1) := by decide +kernel
theorem dX0_load_18 : decode cX0_load 18 = .ok (.iload_n 1, 1) := by decide +kernel
theorem dX0_load_19 : decode cX0_load 19 = .ok (.sipush 16384, 3) := by decide +kernel
theorem dX0_load_22 : decode cX0_load 22 = .ok (.if_icmp .ge 15, 3) := by decide +kernel
theorem dX0_load_25 : decode cX0_load 25 = .ok (.aload_n 0, 1) := by decide +kernel
theorem dX0_load_26 : decode cX0_load 26 = .ok (.getfield 20, 3) := by decide +kernel
theorem dX0_load_29 : decode cX0_load 29 = .ok (.iload_n 1, 1) := by decide +kernel
theorem dX0_load_30 : decode cX0_load 30 = .ok (.bipush 7, 2) := by decide +kernel
theorem dX0_load_32 : decode cX0_load 32 = .ok (.iand, 1) := by decide +kernel
theorem dX0_load_33 : decode cX0_load 33 = .ok (.invokevirtual 36, 3) := by decide +kernel
theorem dX0_load_36 : decode cX0_load 36 = .ok (.ireturn, 1) := by decide +kernel
theorem dX0_load_37 : decode cX0_load 37 = .ok (.iload_n 1, 1) := by decide +kernel
theorem dX0_load_38 : decode cX0_load 38 = .ok (.sipush 24576, 3) := by decide +kernel
theorem dX0_load_41 : decode cX0_load 41 = .ok (.if_icmp .ge 9, 3) := by decide +kernel
theorem dX0_load_44 : decode cX0_load 44 = .ok (.aload_n 0, 1) := by decide +kernel
theorem dX0_load_45 : decode cX0_load 45 = .ok (.iload_n 1, 1) := by decide +kernel
theorem dX0_load_46 : decode cX0_load 46 = .ok (.invokevirtual 42, 3) := by decide +kernel
theorem dX0_load_49 : decode cX0_load 49 = .ok (.ireturn, 1) := by decide +kernel
theorem dX0_load_50 : decode cX0_load 50 = .ok (.iload_n 1, 1) := by decide +kernel
theorem dX0_load_51 : decode cX0_load 51 = .ok (.ldc 45, 2) := by decide +kernel
theorem dX0_load_53 : decode cX0_load 53 = .ok (.if_icmp .ge 14, 3) := by decide +kernel
theorem dX0_load_56 : decode cX0_load 56 = .ok (.aload_n 0, 1) := by decide +kernel
theorem dX0_load_57 : decode cX0_load 57 = .ok (.getfield 13, 3) := by decide +kernel
theorem dX0_load_60 : decode cX0_load 60 = .ok (.iload_n 1, 1) := by decide +kernel
theorem dX0_load_61 : decode cX0_load 61 = .ok (.sipush 255, 3) := by decide +kernel
theorem dX0_load_64 : decode cX0_load 64 = .ok (.iand, 1) := by decide +kernel
theorem dX0_load_65 : decode cX0_load 65 = .ok (.iaload, 1) := by decide +kernel
theorem dX0_load_66 : decode cX0_load 66 = .ok (.ireturn, 1) := by decide +kernel
theorem dX0_load_67 : decode cX0_load 67 = .ok (.aload_n 0, 1) := by decide +kernel
theorem dX0_load_68 : decode cX0_load 68 = .ok (.getfield 32, 3) := by decide +kernel
theorem dX0_load_71 : decode cX0_load 71 = .ok (.iload_n 1, 1) := by decide +kernel
theorem dX0_load_72 : decode cX0_load 72 = .ok (.invokevirtual 46, 3) := by decide +kernel
theorem dX0_load_75 : decode cX0_load 75 = .ok (.ireturn, 1) := by decide +kernel
theorem dX0_loadInput_0 : decode cX0_loadInput 0 = .ok (.iload_n 1, 1) := by decide +kernel
theorem dX0_loadInput_1 : decode cX0_loadInput 1 = .ok (.tableswitch 53 16405 16407 #[27, 35, 44], 27) := by decide +kernel
theorem dX0_loadInput_28 : decode cX0_loadInput 28 = .ok (.aload_n 0, 1) := by decide +kernel
theorem dX0_loadInput_29 : decode cX0_loadInput 29 = .ok (.getfield 24, 3) := by decide +kernel
theorem dX0_loadInput_32 : decode cX0_loadInput 32 = .ok (.invokevirtual 51, 3) := by decide +kernel
theorem dX0_loadInput_35 : decode cX0_loadInput 35 = .ok (.ireturn, 1) := by decide +kernel
theorem dX0_loadInput_36 : decode cX0_loadInput 36 = .ok (.aload_n 0, 1) := by decide +kernel
theorem dX0_loadInput_37 : decode cX0_loadInput 37 = .ok (.getfield 28, 3) := by decide +kernel
theorem dX0_loadInput_40 : decode cX0_loadInput 40 = .ok (.iconst 0, 1) := by decide +kernel
theorem dX0_loadInput_41 : decode cX0_loadInput 41 = .ok (.invokevirtual 57, 3) := by decide +kernel
theorem dX0_loadInput_44 : decode cX0_loadInput 44 = .ok (.ireturn, 1) := by decide +kernel
theorem dX0_loadInput_45 : decode cX0_loadInput 45 = .ok (.aload_n 0, 1) := by decide +kernel
theorem dX0_loadInput_46 : decode cX0_loadInput 46 = .ok (.getfield 28, 3) := by decide +kernel
theorem dX0_loadInput_49 : decode cX0_loadInput 49 = .ok (.iconst 1, 1) := by decide +kernel
theorem dX0_loadInput_50 : decode cX0_loadInput 50 = .ok (.invokevirtual 57, 3) := by decide +kernel
theorem dX0_loadInput_53 : decode cX0_loadInput 53 = .ok (.ireturn, 1) := by decide +kernel
theorem dX0_loadInput_54 : decode cX0_loadInput 54 = .ok (.iconst 0, 1) := by decide +kernel
theorem dX0_loadInput_55 : decode cX0_loadInput 55 = .ok (.ireturn, 1) := by decide +kernel
theorem dX0_store_0 : decode cX0_store 0 = .ok (.iload_n 1, 1) := by decide +kernel
theorem dX0_store_1 : decode cX0_store 1 = .ok (.sipush 8192, 3) := by decide +kernel
theorem dX0_store_4 : decode cX0_store 4 = .ok (.if_icmp .ge 17, 3) := by decide +kernel
theorem dX0_store_7 : decode cX0_store 7 = .ok (.aload_n 0, 1) := by decide +kernel
theorem dX0_store_8 : decode cX0_store 8 = .ok (.getfield 7, 3) := by decide +kernel
theorem dX0_store_11 : decode cX0_store 11 = .ok (.iload_n 1, 1) := by decide +kernel
theorem dX0_store_12 : decode cX0_store 12 = .ok (.sipush 2047, 3) := by decide +kernel
theorem dX0_store_15 : decode cX0_store 15 = .ok (.iand, 1) := by decide +kernel
theorem dX0_store_16 : decode cX0_store 16 = .ok (.iload_n 2, 1) := by decide +kernel
theorem dX0_store_17 : decode cX0_store 17 = .ok (.iastore, 1) := by decide +kernel
theorem dX0_store_18 : decode cX0_store 18 = .ok (.goto 127, 3) := by decide +kernel
theorem dX0_store_21 : decode cX0_store 21 = .ok (.iload_n 1, 1) := by decide +kernel
theorem dX0_store_22 : decode cX0_store 22 = .ok (.sipush 16384, 3) := by decide +kernel
theorem dX0_store_25 : decode cX0_store 25 = .ok (.if_icmp .ge 18, 3) := by decide +kernel
theorem dX0_store_28 : decode cX0_store 28 = .ok (.aload_n 0, 1) := by decide +kernel
theorem dX0_store_29 : decode cX0_store 29 = .ok (.getfield 20, 3) := by decide +kernel
theorem dX0_store_32 : decode cX0_store 32 = .ok (.iload_n 1, 1) := by decide +kernel
theorem dX0_store_33 : decode cX0_store 33 = .ok (.bipush 7, 2) := by decide +kernel
theorem dX0_store_35 : decode cX0_store 35 = .ok (.iand, 1) := by decide +kernel
theorem dX0_store_36 : decode cX0_store 36 = .ok (.iload_n 2, 1) := by decide +kernel
theorem dX0_store_37 : decode cX0_store 37 = .ok (.invokevirtual 62, 3) := by decide +kernel
theorem dX0_store_40 : decode cX0_store 40 = .ok (.goto 105, 3) := by decide +kernel
theorem dX0_store_43 : decode cX0_store 43 = .ok (.iload_n 1, 1) := by decide +kernel
theorem dX0_store_44 : decode cX0_store 44 = .ok (.sipush 16404, 3) := by decide +kernel
theorem dX0_store_47 : decode cX0_store 47 = .ok (.if_icmp .ne 11, 3) := by decide +kernel
theorem dX0_store_50 : decode cX0_store 50 = .ok (.aload_n 0, 1) := by decide +kernel
theorem dX0_store_51 : decode cX0_store 51 = .ok (.iload_n 2, 1) := by decide +kernel
theorem dX0_store_52 : decode cX0_store 52 = .ok (.putfield 16, 3) := by decide +kernel
theorem dX0_store_55 : decode cX0_store 55 = .ok (.goto 90, 3) := by decide +kernel
theorem dX0_store_58 : decode cX0_store 58 = .ok (.iload_n 1, 1) := by decide +kernel
theorem dX0_store_59 : decode cX0_store 59 = .ok (.sipush 16406, 3) := by decide +kernel
theorem dX0_store_62 : decode cX0_store 62 = .ok (.if_icmp .ne 25, 3) := by decide +kernel
theorem dX0_store_65 : decode cX0_store 65 = .ok (.aload_n 0, 1) := by decide +kernel
theorem dX0_store_66 : decode cX0_store 66 = .ok (.getfield 28, 3) := by decide +kernel
theorem dX0_store_69 : decode cX0_store 69 = .ok (.iload_n 2, 1) := by decide +kernel
theorem dX0_store_70 : decode cX0_store 70 = .ok (.iconst 1, 1) := by decide +kernel
theorem dX0_store_71 : decode cX0_store 71 = .ok (.iand, 1) := by decide +kernel
theorem dX0_store_72 : decode cX0_store 72 = .ok (.iconst 1, 1) := by decide +kernel
theorem dX0_store_73 : decode cX0_store 73 = .ok (.if_icmp .ne 7, 3) := by decide +kernel
theorem dX0_store_76 : decode cX0_store 76 = .ok (.iconst 1, 1) := by decide +kernel
theorem dX0_store_77 : decode cX0_store 77 = .ok (.goto 4, 3) := by decide +kernel
theorem dX0_store_80 : decode cX0_store 80 = .ok (.iconst 0, 1) := by decide +kernel
theorem dX0_store_81 : decode cX0_store 81 = .ok (.invokevirtual 66, 3) := by decide +kernel
theorem dX0_store_84 : decode cX0_store 84 = .ok (.goto 61, 3) := by decide +kernel
theorem dX0_store_87 : decode cX0_store 87 = .ok (.iload_n 1, 1) := by decide +kernel
theorem dX0_store_88 : decode cX0_store 88 = .ok (.sipush 16408, 3) := by decide +kernel
theorem dX0_store_91 : decode cX0_store 91 = .ok (.if_icmp .ge 18, 3) := by decide +kernel
theorem dX0_store_94 : decode cX0_store 94 = .ok (.aload_n 0, 1) := by decide +kernel
theorem dX0_store_95 : decode cX0_store 95 = .ok (.getfield 24, 3) := by decide +kernel
theorem dX0_store_98 : decode cX0_store 98 = .ok (.iload_n 1, 1) := by decide +kernel
theorem dX0_store_99 : decode cX0_store 99 = .ok (.bipush 31, 2) := by decide +kernel
theorem dX0_store_101 : decode cX0_store 101 = .ok (.iand, 1) := by decide +kernel
theorem dX0_store_102 : decode cX0_store 102 = .ok (.iload_n 2, 1) := by decide +kernel
theorem dX0_store_103 : decode cX0_store 103 = .ok (.invokevirtual 70, 3) := by decide +kernel
theorem dX0_store_106 : decode cX0_store 106 = .ok (.goto 39, 3) := by decide +kernel
theorem dX0_store_109 : decode cX0_store 109 = .ok (.iload_n 1, 1) := by decide +kernel
theorem dX0_store_110 : decode cX0_store 110 = .ok (.ldc 45, 2) := by decide +kernel
theorem dX0_store_112 : decode cX0_store 112 = .ok (.if_icmp .lt 15, 3) := by decide +kernel
theorem dX0_store_115 : decode cX0_store 115 = .ok (.aload_n 0, 1) := by decide +kernel
theorem dX0_store_116 : decode cX0_store 116 = .ok (.getfield 32, 3) := by decide +kernel
theorem dX0_store_119 : decode cX0_store 119 = .ok (.iload_n 1, 1) := by decide +kernel
theorem dX0_store_120 : decode cX0_store 120 = .ok (.iload_n 2, 1) := by decide +kernel
theorem dX0_store_121 : decode cX0_store 121 = .ok (.invokevirtual 71, 3) := by decide +kernel
theorem dX0_store_124 : decode cX0_store 124 = .ok (.goto 21, 3) := by decide +kernel
theorem dX0_store_127 : decode cX0_store 127 = .ok (.iload_n 1, 1) := by decide +kernel
theorem dX0_store_128 : decode cX0_store 128 = .ok (.sipush 24576, 3) := by decide +kernel
theorem dX0_store_131 : decode cX0_store 131 = .ok (.if_icmp .lt 14, 3) := by decide +kernel
theorem dX0_store_134 : decode cX0_store 134 = .ok (.aload_n 0, 1) := by decide +kernel
theorem dX0_store_135 : decode cX0_store 135 = .ok (.getfield 13, 3) := by decide +kernel
theorem dX0_store_138 : decode cX0_store 138 = .ok (.iload_n 1, 1) := by decide +kernel
theorem dX0_store_139 : decode cX0_store 139 = .ok (.sipush 255, 3) := by decide +kernel
theorem dX0_store_142 : decode cX0_store 142 = .ok (.iand, 1) := by decide +kernel
theorem dX0_store_143 : decode cX0_store 143 = .ok (.iload_n 2, 1) := by decide +kernel
theorem dX0_store_144 : decode cX0_store 144 = .ok (.iastore, 1) := by decide +kernel
theorem dX0_store_145 : decode cX0_store 145 = .ok (.return_, 1) := by decide +kernel
theorem dX0_copyPageAsked_0 : decode cX0_copyPageAsked 0 = .ok (.aload_n 0, 1) := by decide +kernel
theorem dX0_copyPageAsked_1 : decode cX0_copyPageAsked 1 = .ok (.getfield 16, 3) := by decide +kernel
theorem dX0_copyPageAsked_4 : decode cX0_copyPageAsked 4 = .ok (.iconst (-1), 1) := by decide +kernel
theorem dX0_copyPageAsked_5 : decode cX0_copyPageAsked 5 = .ok (.if_icmp .ne 5, 3) := by decide +kernel
theorem dX0_copyPageAsked_8 : decode cX0_copyPageAsked 8 = .ok (.iconst 0, 1) := by decide +kernel
theorem dX0_copyPageAsked_9 : decode cX0_copyPageAsked 9 = .ok (.ireturn, 1) := by decide +kernel
theorem dX0_copyPageAsked_10 : decode cX0_copyPageAsked 10 = .ok (.aload_n 0, 1) := by decide +kernel
theorem dX0_copyPageAsked_11 : decode cX0_copyPageAsked 11 = .ok (.getfield 16, 3) := by decide +kernel
theorem dX0_copyPageAsked_14 : decode cX0_copyPageAsked 14 = .ok (.bipush 8, 2) := by decide +kernel
theorem dX0_copyPageAsked_16 : decode cX0_copyPageAsked 16 = .ok (.ishl, 1) := by decide +kernel
theorem dX0_copyPageAsked_17 : decode cX0_copyPageAsked 17 = .ok (.istore_n 2, 1) := by decide +kernel
theorem dX0_copyPageAsked_18 : decode cX0_copyPageAsked 18 = .ok (.aload_n 0, 1) := by decide +kernel
theorem dX0_copyPageAsked_19 : decode cX0_copyPageAsked 19 = .ok (.iconst (-1), 1) := by decide +kernel
theorem dX0_copyPageAsked_20 : decode cX0_copyPageAsked 20 = .ok (.putfield 16, 3) := by decide +kernel
theorem dX0_copyPageAsked_23 : decode cX0_copyPageAsked 23 = .ok (.iconst 0, 1) := by decide +kernel
theorem dX0_copyPageAsked_24 : decode cX0_copyPageAsked 24 = .ok (.istore_n 3, 1) := by decide +kernel
theorem dX0_copyPageAsked_25 : decode cX0_copyPageAsked 25 = .ok (.iload_n 3, 1) := by decide +kernel
theorem dX0_copyPageAsked_26 : decode cX0_copyPageAsked 26 = .ok (.sipush 256, 3) := by decide +kernel
theorem dX0_copyPageAsked_29 : decode cX0_copyPageAsked 29 = .ok (.if_icmp .ge 24, 3) := by decide +kernel
theorem dX0_copyPageAsked_32 : decode cX0_copyPageAsked 32 = .ok (.aload_n 0, 1) := by decide +kernel
theorem dX0_copyPageAsked_33 : decode cX0_copyPageAsked 33 = .ok (.getfield 20, 3) := by decide +kernel
theorem dX0_copyPageAsked_36 : decode cX0_copyPageAsked 36 = .ok (.iconst 4, 1) := by decide +kernel
theorem dX0_copyPageAsked_37 : decode cX0_copyPageAsked 37 = .ok (.aload_n 0, 1) := by decide +kernel
theorem dX0_copyPageAsked_38 : decode cX0_copyPageAsked 38 = .ok (.iload_n 2, 1) := by decide +kernel
theorem dX0_copyPageAsked_39 : decode cX0_copyPageAsked 39 = .ok (.iload_n 3, 1) := by decide +kernel
theorem dX0_copyPageAsked_40 : decode cX0_copyPageAsked 40 = .ok (.ior, 1) := by decide +kernel
theorem dX0_copyPageAsked_41 : decode cX0_copyPageAsked 41 = .ok (.invokevirtual 74, 3) := by decide +kernel
theorem dX0_copyPageAsked_44 : decode cX0_copyPageAsked 44 = .ok (.invokevirtual 62, 3) := by decide +kernel
theorem dX0_copyPageAsked_47 : decode cX0_copyPageAsked 47 = .ok (.iinc 3 1, 3) := by decide +kernel
theorem dX0_copyPageAsked_50 : decode cX0_copyPageAsked 50 = .ok (.goto (-25), 3) := by decide +kernel
theorem dX0_copyPageAsked_53 : decode cX0_copyPageAsked 53 = .ok (.sipush 513, 3) := by decide +kernel
theorem dX0_copyPageAsked_56 : decode cX0_copyPageAsked 56 = .ok (.iload_n 1, 1) := by decide +kernel
theorem dX0_copyPageAsked_57 : decode cX0_copyPageAsked 57 = .ok (.iadd, 1) := by decide +kernel
theorem dX0_copyPageAsked_58 : decode cX0_copyPageAsked 58 = .ok (.ireturn, 1) := by decide +kernel
theorem dX0_storeStack_0 : decode cX0_storeStack 0 = .ok (.aload_n 0, 1) := by decide +kernel
theorem dX0_storeStack_1 : decode cX0_storeStack 1 = .ok (.getfield 7, 3) := by decide +kernel
theorem dX0_storeStack_4 : decode cX0_storeStack 4 = .ok (.sipush 256, 3) := by decide +kernel
theorem dX0_storeStack_7 : decode cX0_storeStack 7 = .ok (.iload_n 1, 1) := by decide +kernel
theorem dX0_storeStack_8 : decode cX0_storeStack 8 = .ok (.sipush 255, 3) := by decide +kernel
theorem dX0_storeStack_11 : decode cX0_storeStack 11 = .ok (.iand, 1) := by decide +kernel
theorem dX0_storeStack_12 : decode cX0_storeStack 12 = .ok (.ior, 1) := by decide +kernel
theorem dX0_storeStack_13 : decode cX0_storeStack 13 = .ok (.iload_n 2, 1) := by decide +kernel
theorem dX0_storeStack_14 : decode cX0_storeStack 14 = .ok (.iastore, 1) := by decide +kernel
theorem dX0_storeStack_15 : decode cX0_storeStack 15 = .ok (.return_, 1) := by decide +kernel
theorem dX0_loadStack_0 : decode cX0_loadStack 0 = .ok (.aload_n 0, 1) := by decide +kernel
theorem dX0_loadStack_1 : decode cX0_loadStack 1 = .ok (.getfield 7, 3) := by decide +kernel
theorem dX0_loadStack_4 : decode cX0_loadStack 4 = .ok (.sipush 256, 3) := by decide +kernel
theorem dX0_loadStack_7 : decode cX0_loadStack 7 = .ok (.iload_n 1, 1) := by decide +kernel
theorem dX0_loadStack_8 : decode cX0_loadStack 8 = .ok (.sipush 255, 3) := by decide +kernel
theorem dX0_loadStack_11 : decode cX0_loadStack 11 = .ok (.iand, 1) := by decide +kernel
theorem dX0_loadStack_12 : decode cX0_loadStack 12 = .ok (.ior, 1) := by decide +kernel
theorem dX0_loadStack_13 : decode cX0_loadStack 13 = .ok (.iaload, 1) := by decide +kernel
theorem dX0_loadStack_14 : decode cX0_loadStack 14 = .ok (.ireturn, 1) := by decide +kernel
theorem dX0_vector_0 : decode cX0_vector 0 = .ok (.aload_n 0, 1) := by decide +kernel
theorem dX0_vector_1 : decode cX0_vector 1 = .ok (.getfield 32, 3) := by decide +kernel
theorem dX0_vector_4 : decode cX0_vector 4 = .ok (.iload_n 1, 1) := by decide +kernel
theorem dX0_vector_5 : decode cX0_vector 5 = .ok (.invokevirtual 46, 3) := by decide +kernel
theorem dX0_vector_8 : decode cX0_vector 8 = .ok (.aload_n 0, 1) := by decide +kernel
theorem dX0_vector_9 : decode cX0_vector 9 = .ok (.getfield 32, 3) := by decide +kernel
theorem dX0_vector_12 : decode cX0_vector 12 = .ok (.iload_n 1, 1) := by decide +kernel
theorem dX0_vector_13 : decode cX0_vector 13 = .ok (.iconst 1, 1) := by decide +kernel
theorem dX0_vector_14 : decode cX0_vector 14 = .ok (.iadd, 1) := by decide +kernel
theorem dX0_vector_15 : decode cX0_vector 15 = .ok (.invokevirtual 46, 3) := by decide +kernel
theorem dX0_vector_18 : decode cX0_vector 18 = .ok (.bipush 8, 2) := by decide +kernel
theorem dX0_vector_20 : decode cX0_vector 20 = .ok (.ishl, 1) := by decide +kernel
theorem dX0_vector_21 : decode cX0_vector 21 = .ok (.ior, 1) := by decide +kernel
theorem dX0_vector_22 : decode cX0_vector 22 = .ok (.ireturn, 1) := by decide +kernel
theorem dX1_init_0 : decode cX1_init 0 = .ok (.aload_n 0, 1) := by decide +kernel
theorem dX1_init_1 : decode cX1_init 1 = .ok (.invokespecial 3, 3) := by decide +kernel
theorem dX1_init_4 : decode cX1_init 4 = .ok (.aload_n 0, 1) := by decide +kernel
theorem dX1_init_5 : decode cX1_init 5 = .ok (.sipush 512, 3) := by decide +kernel
theorem dX1_init_8 : decode cX1_init 8 = .ok (.newarray .int, 2) := by decide +kernel
theorem dX1_init_10 : decode cX1_init 10 = .ok (.putfield 9, 3) := by decide +kernel
theorem dX1_init_13 : decode cX1_init 13 = .ok (.aload_n 0, 1) := by decide +kernel
theorem dX1_init_14 : decode cX1_init 14 = .ok (.sipush 128, 3) := by decide +kernel
theorem dX1_init_17 : decode cX1_init 17 = .ok (.newarray .int, 2) := by decide +kernel
theorem dX1_init_19 : decode cX1_init 19 = .ok (.putfield 15, 3) := by decide +kernel
theorem dX1_init_22 : decode cX1_init 22 = .ok (.aload_n 0, 1) := by decide +kernel
theorem dX1_init_23 : decode cX1_init 23 = .ok (.iconst 4, 1) := by decide +kernel
theorem dX1_init_24 : decode cX1_init 24 = .ok (.newarray .int, 2) := by decide +kernel
theorem dX1_init_26 : decode cX1_init 26 = .ok (.putfield 18, 3) := by decide +kernel
theorem dX1_init_29 : decode cX1_init 29 = .ok (.aload_n 0, 1) := by decide +kernel
theorem dX1_init_30 : decode cX1_init 30 = .ok (.bipush 8, 2) := by decide +kernel
theorem dX1_init_32 : decode cX1_init 32 = .ok (.newarray .int, 2) := by decide +kernel
theorem dX1_init_34 : decode cX1_init 34 = .ok (.putfield 21, 3) := by decide +kernel
theorem dX1_init_37 : decode cX1_init 37 = .ok (.return_, 1) := by decide +kernel
theorem dX1_romByte_0 : decode cX1_romByte 0 = .ok (.aload_n 0, 1) := by decide +kernel
theorem dX1_romByte_1 : decode cX1_romByte 1 = .ok (.getfield 9, 3) := by decide +kernel
theorem dX1_romByte_4 : decode cX1_romByte 4 = .ok (.aload_n 0, 1) := by decide +kernel
theorem dX1_romByte_5 : decode cX1_romByte 5 = .ok (.getfield 18, 3) := by decide +kernel
theorem dX1_romByte_8 : decode cX1_romByte 8 = .ok (.iload_n 1, 1) := by decide +kernel
theorem dX1_romByte_9 : decode cX1_romByte 9 = .ok (.bipush 13, 2) := by decide +kernel
theorem dX1_romByte_11 : decode cX1_romByte 11 = .ok (.ishr, 1) := by decide +kernel
theorem dX1_romByte_12 : decode cX1_romByte 12 = .ok (.iconst 3, 1) := by decide +kernel
theorem dX1_romByte_13 : decode cX1_romByte 13 = .ok (.iand, 1) := by decide +kernel
theorem dX1_romByte_14 : decode cX1_romByte 14 = .ok (.iaload, 1) := by decide +kernel
theorem dX1_romByte_15 : decode cX1_romByte 15 = .ok (.bipush 7, 2) := by decide +kernel
theorem dX1_romByte_17 : decode cX1_romByte 17 = .ok (.iand, 1) := by decide +kernel
theorem dX1_romByte_18 : decode cX1_romByte 18 = .ok (.bipush 6, 2) := by decide +kernel
theorem dX1_romByte_20 : decode cX1_romByte 20 = .ok (.ishl, 1) := by decide +kernel
theorem dX1_romByte_21 : decode cX1_romByte 21 = .ok (.iload_n 1, 1) := by decide +kernel
theorem dX1_romByte_22 : decode cX1_romByte 22 = .ok (.bipush 63, 2) := by decide +kernel
theorem dX1_romByte_24 : decode cX1_romByte 24 = .ok (.iand, 1) := by decide +kernel
theorem dX1_romByte_25 : decode cX1_romByte 25 = .ok (.ior, 1) := by decide +kernel
theorem dX1_romByte_26 : decode cX1_romByte 26 = .ok (.iaload, 1) := by decide +kernel
theorem dX1_romByte_27 : decode cX1_romByte 27 = .ok (.ireturn, 1) := by decide +kernel
theorem dX1_chrByte_0 : decode cX1_chrByte 0 = .ok (.aload_n 0, 1) := by decide +kernel
theorem dX1_chrByte_1 : decode cX1_chrByte 1 = .ok (.getfield 15, 3) := by decide +kernel
theorem dX1_chrByte_4 : decode cX1_chrByte 4 = .ok (.aload_n 0, 1) := by decide +kernel
theorem dX1_chrByte_5 : decode cX1_chrByte 5 = .ok (.getfield 21, 3) := by decide +kernel
theorem dX1_chrByte_8 : decode cX1_chrByte 8 = .ok (.iload_n 1, 1) := by decide +kernel
theorem dX1_chrByte_9 : decode cX1_chrByte 9 = .ok (.bipush 10, 2) := by decide +kernel
theorem dX1_chrByte_11 : decode cX1_chrByte 11 = .ok (.ishr, 1) := by decide +kernel
theorem dX1_chrByte_12 : decode cX1_chrByte 12 = .ok (.bipush 7, 2) := by decide +kernel
theorem dX1_chrByte_14 : decode cX1_chrByte 14 = .ok (.iand, 1) := by decide +kernel
theorem dX1_chrByte_15 : decode cX1_chrByte 15 = .ok (.iaload, 1) := by decide +kernel
theorem dX1_chrByte_16 : decode cX1_chrByte 16 = .ok (.bipush 7, 2) := by decide +kernel
theorem dX1_chrByte_18 : decode cX1_chrByte 18 = .ok (.iand, 1) := by decide +kernel
theorem dX1_chrByte_19 : decode cX1_chrByte 19 = .ok (.iconst 4, 1) := by decide +kernel
theorem dX1_chrByte_20 : decode cX1_chrByte 20 = .ok (.ishl, 1) := by decide +kernel
theorem dX1_chrByte_21 : decode cX1_chrByte 21 = .ok (.iload_n 1, 1) := by decide +kernel
theorem dX1_chrByte_22 : decode cX1_chrByte 22 = .ok (.bipush 15, 2) := by decide +kernel
theorem dX1_chrByte_24 : decode cX1_chrByte 24 = .ok (.iand, 1) := by decide +kernel
theorem dX1_chrByte_25 : decode cX1_chrByte 25 = .ok (.ior, 1) := by decide +kernel
theorem dX1_chrByte_26 : decode cX1_chrByte 26 = .ok (.iaload, 1) := by decide +kernel
theorem dX1_chrByte_27 : decode cX1_chrByte 27 = .ok (.ireturn, 1) := by decide +kernel
theorem dX1_setRomBanks_0 : decode cX1_setRomBanks 0 = .ok (.aload_n 0, 1) := by decide +kernel
theorem dX1_setRomBanks_1 : decode cX1_setRomBanks 1 = .ok (.getfield 18, 3) := by decide +kernel
theorem dX1_setRomBanks_4 : decode cX1_setRomBanks 4 = .ok (.iconst 0, 1) := by decide +kernel
theorem dX1_setRomBanks_5 : decode cX1_setRomBanks 5 = .ok (.iload_n 1, 1) := by decide +kernel
theorem dX1_setRomBanks_6 : decode cX1_setRomBanks 6 = .ok (.bipush 7, 2) := by decide +kernel
theorem dX1_setRomBanks_8 : decode cX1_setRomBanks 8 = .ok (.iand, 1) := by decide +kernel
theorem dX1_setRomBanks_9 : decode cX1_setRomBanks 9 = .ok (.iastore, 1) := by decide +kernel
theorem dX1_setRomBanks_10 : decode cX1_setRomBanks 10 = .ok (.aload_n 0, 1) := by decide +kernel
theorem dX1_setRomBanks_11 : decode cX1_setRomBanks 11 = .ok (.getfield 18, 3) := by decide +kernel
theorem dX1_setRomBanks_14 : decode cX1_setRomBanks 14 = .ok (.iconst 1, 1) := by decide +kernel
theorem dX1_setRomBanks_15 : decode cX1_setRomBanks 15 = .ok (.iload_n 2, 1) := by decide +kernel
theorem dX1_setRomBanks_16 : decode cX1_setRomBanks 16 = .ok (.bipush 7, 2) := by decide +kernel
theorem dX1_setRomBanks_18 : decode cX1_setRomBanks 18 = .ok (.iand, 1) := by decide +kernel
theorem dX1_setRomBanks_19 : decode cX1_setRomBanks 19 = .ok (.iastore, 1) := by decide +kernel
theorem dX1_setRomBanks_20 : decode cX1_setRomBanks 20 = .ok (.aload_n 0, 1) := by decide +kernel
theorem dX1_setRomBanks_21 : decode cX1_setRomBanks 21 = .ok (.getfield 18, 3) := by decide +kernel
theorem dX1_setRomBanks_24 : decode cX1_setRomBanks 24 = .ok (.iconst 2, 1) := by decide +kernel
theorem dX1_setRomBanks_25 : decode cX1_setRomBanks 25 = .ok (.iload_n 3, 1) := by decide +kernel
theorem dX1_setRomBanks_26 : decode cX1_setRomBanks 26 = .ok (.bipush 7, 2) := by decide +kernel
theorem dX1_setRomBanks_28 : decode cX1_setRomBanks 28 = .ok (.iand, 1) := by decide +kernel
theorem dX1_setRomBanks_29 : decode cX1_setRomBanks 29 = .ok (.iastore, 1) := by decide +kernel
theorem dX1_setRomBanks_30 : decode cX1_setRomBanks 30 = .ok (.aload_n 0, 1) := by decide +kernel
theorem dX1_setRomBanks_31 : decode cX1_setRomBanks 31 = .ok (.getfield 18, 3) := by decide +kernel
theorem dX1_setRomBanks_34 : decode cX1_setRomBanks 34 = .ok (.iconst 3, 1) := by decide +kernel
theorem dX1_setRomBanks_35 : decode cX1_setRomBanks 35 = .ok (.iload 4, 2) := by decide +kernel
theorem dX1_setRomBanks_37 : decode cX1_setRomBanks 37 = .ok (.bipush 7, 2) := by decide +kernel
theorem dX1_setRomBanks_39 : decode cX1_setRomBanks 39 = .ok (.iand, 1) := by decide +kernel
theorem dX1_setRomBanks_40 : decode cX1_setRomBanks 40 = .ok (.iastore, 1) := by decide +kernel
theorem dX1_setRomBanks_41 : decode cX1_setRomBanks 41 = .ok (.return_, 1) := by decide +kernel
theorem dX1_setFourChrBanks_0 : decode cX1_setFourChrBanks 0 = .ok (.aload_n 0, 1) := by decide +kernel
theorem dX1_setFourChrBanks_1 : decode cX1_setFourChrBanks 1 = .ok (.getfield 21, 3) := by decide +kernel
theorem dX1_setFourChrBanks_4 : decode cX1_setFourChrBanks 4 = .ok (.iload_n 1, 1) := by decide +kernel
theorem dX1_setFourChrBanks_5 : decode cX1_setFourChrBanks 5 = .ok (.iconst 4, 1) := by decide +kernel
theorem dX1_setFourChrBanks_6 : decode cX1_setFourChrBanks 6 = .ok (.iand, 1) := by decide +kernel
theorem dX1_setFourChrBanks_7 : decode cX1_setFourChrBanks 7 = .ok (.iload_n 2, 1) := by decide +kernel
theorem dX1_setFourChrBanks_8 : decode cX1_setFourChrBanks 8 = .ok (.bipush 7, 2) := by decide +kernel
theorem dX1_setFourChrBanks_10 : decode cX1_setFourChrBanks 10 = .ok (.iand, 1) := by decide +kernel
theorem dX1_setFourChrBanks_11 : decode cX1_setFourChrBanks 11 = .ok (.iastore, 1) := by decide +kernel
theorem dX1_setFourChrBanks_12 : decode cX1_setFourChrBanks 12 = .ok (.aload_n 0, 1) := by decide +kernel
theorem dX1_setFourChrBanks_13 : decode cX1_setFourChrBanks 13 = .ok (.getfield 21, 3) := by decide +kernel
theorem dX1_setFourChrBanks_16 : decode cX1_setFourChrBanks 16 = .ok (.iload_n 1, 1) := by decide +kernel
theorem dX1_setFourChrBanks_17 : decode cX1_setFourChrBanks 17 = .ok (.iconst 4, 1) := by decide +kernel
theorem dX1_setFourChrBanks_18 : decode cX1_setFourChrBanks 18 = .ok (.iand, 1) := by decide +kernel
theorem dX1_setFourChrBanks_19 : decode cX1_setFourChrBanks 19 = .ok (.iconst 1, 1) := by decide +kernel
theorem dX1_setFourChrBanks_20 : decode cX1_setFourChrBanks 20 = .ok (.ior, 1) := by decide +kernel
theorem dX1_setFourChrBanks_21 : decode cX1_setFourChrBanks 21 = .ok (.iload_n 3, 1) := by decide +kernel
theorem dX1_setFourChrBanks_22 : decode cX1_setFourChrBanks 22 = .ok (.bipush 7, 2) := by decide +kernel
theorem dX1_setFourChrBanks_24 : decode cX1_setFourChrBanks 24 = .ok (.iand, 1) := by decide +kernel
theorem dX1_setFourChrBanks_25 : decode cX1_setFourChrBanks 25 = .ok (.iastore, 1) := by decide +kernel
theorem dX1_setFourChrBanks_26 : decode cX1_setFourChrBanks 26 = .ok (.aload_n 0, 1) := by decide +kernel
theorem dX1_setFourChrBanks_27 : decode cX1_setFourChrBanks 27 = .ok (.getfield 21, 3) := by decide +kernel
theorem dX1_setFourChrBanks_30 : decode cX1_setFourChrBanks 30 = .ok (.iload_n 1, 1) := by decide +kernel
theorem dX1_setFourChrBanks_31 : decode cX1_setFourChrBanks 31 = .ok (.iconst 4, 1) := by decide +kernel
theorem dX1_setFourChrBanks_32 : decode cX1_setFourChrBanks 32 = .ok (.iand, 1) := by decide +kernel
theorem dX1_setFourChrBanks_33 : decode cX1_setFourChrBanks 33 = .ok (.iconst 2, 1) := by decide +kernel
theorem dX1_setFourChrBanks_34 : decode cX1_setFourChrBanks 34 = .ok (.ior, 1) := by decide +kernel
theorem dX1_setFourChrBanks_35 : decode cX1_setFourChrBanks 35 = .ok (.iload 4, 2) := by decide +kernel
theorem dX1_setFourChrBanks_37 : decode cX1_setFourChrBanks 37 = .ok (.bipush 7, 2) := by decide +kernel
theorem dX1_setFourChrBanks_39 : decode cX1_setFourChrBanks 39 = .ok (.iand, 1) := by decide +kernel
theorem dX1_setFourChrBanks_40 : decode cX1_setFourChrBanks 40 = .ok (.iastore, 1) := by decide +kernel
theorem dX1_setFourChrBanks_41 : decode cX1_setFourChrBanks 41 = .ok (.aload_n 0, 1) := by decide +kernel
theorem dX1_setFourChrBanks_42 : decode cX1_setFourChrBanks 42 = .ok (.getfield 21, 3) := by decide +kernel
theorem dX1_setFourChrBanks_45 : decode cX1_setFourChrBanks 45 = .ok (.iload_n 1, 1) := by decide +kernel
theorem dX1_setFourChrBanks_46 : decode cX1_setFourChrBanks 46 = .ok (.iconst 4, 1) := by decide +kernel
theorem dX1_setFourChrBanks_47 : decode cX1_setFourChrBanks 47 = .ok (.iand, 1) := by decide +kernel
theorem dX1_setFourChrBanks_48 : decode cX1_setFourChrBanks 48 = .ok (.iconst 3, 1) := by decide +kernel
theorem dX1_setFourChrBanks_49 : decode cX1_setFourChrBanks 49 = .ok (.ior, 1) := by decide +kernel
theorem dX1_setFourChrBanks_50 : decode cX1_setFourChrBanks 50 = .ok (.iload 5, 2) := by decide +kernel
theorem dX1_setFourChrBanks_52 : decode cX1_setFourChrBanks 52 = .ok (.bipush 7, 2) := by decide +kernel
theorem dX1_setFourChrBanks_54 : decode cX1_setFourChrBanks 54 = .ok (.iand, 1) := by decide +kernel
theorem dX1_setFourChrBanks_55 : decode cX1_setFourChrBanks 55 = .ok (.iastore, 1) := by decide +kernel
theorem dX1_setFourChrBanks_56 : decode cX1_setFourChrBanks 56 = .ok (.return_, 1) := by decide +kernel
theorem dX2_init_0 : decode cX2_init 0 = .ok (.aload_n 0, 1) := by decide +kernel
theorem dX2_init_1 : decode cX2_init 1 = .ok (.invokespecial 1, 3) := by decide +kernel
theorem dX2_init_4 : decode cX2_init 4 = .ok (.aload_n 0, 1) := by decide +kernel
theorem dX2_init_5 : decode cX2_init 5 = .ok (.bipush 32, 2) := by decide +kernel
theorem dX2_init_7 : decode cX2_init 7 = .ok (.putfield 9, 3) := by decide +kernel
theorem dX2_init_10 : decode cX2_init 10 = .ok (.aload_n 0, 1) := by decide +kernel
theorem dX2_init_11 : decode cX2_init 11 = .ok (.aload_n 1, 1) := by decide +kernel
theorem dX2_init_12 : decode cX2_init 12 = .ok (.putfield 13, 3) := by decide +kernel
theorem dX2_init_15 : decode cX2_init 15 = .ok (.return_, 1) := by decide +kernel
theorem dX2_restart_0 : decode cX2_restart 0 = .ok (.aload_n 0, 1) := by decide +kernel
theorem dX2_restart_1 : decode cX2_restart 1 = .ok (.aload_n 0, 1) := by decide +kernel
theorem dX2_restart_2 : decode cX2_restart 2 = .ok (.getfield 17, 3) := by decide +kernel
theorem dX2_restart_5 : decode cX2_restart 5 = .ok (.iconst 3, 1) := by decide +kernel
theorem dX2_restart_6 : decode cX2_restart 6 = .ok (.isub, 1) := by decide +kernel
theorem dX2_restart_7 : decode cX2_restart 7 = .ok (.sipush 255, 3) := by decide +kernel
theorem dX2_restart_10 : decode cX2_restart 10 = .ok (.iand, 1) := by decide +kernel
theorem dX2_restart_11 : decode cX2_restart 11 = .ok (.putfield 17, 3) := by decide +kernel
theorem dX2_restart_14 : decode cX2_restart 14 = .ok (.aload_n 0, 1) := by decide +kernel
theorem dX2_restart_15 : decode cX2_restart 15 = .ok (.dup, 1) := by decide +kernel
theorem dX2_restart_16 : decode cX2_restart 16 = .ok (.getfield 9, 3) := by decide +kernel
theorem dX2_restart_19 : decode cX2_restart 19 = .ok (.iconst 4, 1) := by decide +kernel
theorem dX2_restart_20 : decode cX2_restart 20 = .ok (.ior, 1) := by decide +kernel
theorem dX2_restart_21 : decode cX2_restart 21 = .ok (.putfield 9, 3) := by decide +kernel
theorem dX2_restart_24 : decode cX2_restart 24 = .ok (.aload_n 0, 1) := by decide +kernel
theorem dX2_restart_25 : decode cX2_restart 25 = .ok (.aload_n 0, 1) := by decide +kernel
theorem dX2_restart_26 : decode cX2_restart 26 = .ok (.getfield 13, 3) := by decide +kernel
theorem dX2_restart_29 : decode cX2_restart 29 = .ok (.ldc 20, 2) := by decide +kernel
theorem dX2_restart_31 : decode cX2_restart 31 = .ok (.invokevirtual 21, 3) := by decide +kernel
theorem dX2_restart_34 : decode cX2_restart 34 = .ok (.putfield 27, 3) := by decide +kernel
theorem dX2_restart_37 : decode cX2_restart 37 = .ok (.return_, 1) := by decide +kernel
theorem dX2_takeStep_0 : decode cX2_takeStep 0 = .ok (.iload_n 1, 1) := by decide +kernel
theorem dX2_takeStep_1 : decode cX2_takeStep 1 = .ok (.ifCond .eq 20, 3) := by decide +kernel
theorem dX2_takeStep_4 : decode cX2_takeStep 4 = .ok (.aload_n 0, 1) := by decide +kernel
theorem dX2_takeStep_5 : decode cX2_takeStep 5 = .ok (.ldc 30, 2) := by decide +kernel
theorem dX2_takeStep_7 : decode cX2_takeStep 7 = .ok (.aload_n 0, 1) := by decide +kernel
theorem dX2_takeStep_8 : decode cX2_takeStep 8 = .ok (.getfield 27, 3) := by decide +kernel
theorem dX2_takeStep_11 : decode cX2_takeStep 11 = .ok (.aload_n 0, 1) := by decide +kernel
theorem dX2_takeStep_12 : decode cX2_takeStep 12 = .ok (.getfield 9, 3) := by decide +kernel
theorem dX2_takeStep_15 : decode cX2_takeStep 15 = .ok (.invokevirtual 31, 3) := by decide +kernel
theorem dX2_takeStep_18 : decode cX2_takeStep 18 = .ok (.bipush 7, 2) := by decide +kernel
theorem dX2_takeStep_20 : decode cX2_takeStep 20 = .ok (.ireturn, 1) := by decide +kernel
theorem dX2_takeStep_21 : decode cX2_takeStep 21 = .ok (.iload_n 2, 1) := by decide +kernel
theorem dX2_takeStep_22 : decode cX2_takeStep 22 = .ok (.ifCond .eq 29, 3) := by decide +kernel
theorem dX2_takeStep_25 : decode cX2_takeStep 25 = .ok (.aload_n 0, 1) := by decide +kernel
theorem dX2_takeStep_26 : decode cX2_takeStep 26 = .ok (.getfield 9, 3) := by decide +kernel
theorem dX2_takeStep_29 : decode cX2_takeStep 29 = .ok (.iconst 4, 1) := by decide +kernel
theorem dX2_takeStep_30 : decode cX2_takeStep 30 = .ok (.iand, 1) := by decide +kernel
theorem dX2_takeStep_31 : decode cX2_takeStep 31 = .ok (.ifCond .ne 20, 3) := by decide +kernel
theorem dX2_takeStep_34 : decode cX2_takeStep 34 = .ok (.aload_n 0, 1) := by decide +kernel
theorem dX2_takeStep_35 : decode cX2_takeStep 35 = .ok (.ldc 35, 2) := by decide +kernel
theorem dX2_takeStep_37 : decode cX2_takeStep 37 = .ok (.aload_n 0, 1) := by decide +kernel
theorem dX2_takeStep_38 : decode cX2_takeStep 38 = .ok (.getfield 27, 3) := by decide +kernel
theorem dX2_takeStep_41 : decode cX2_takeStep 41 = .ok (.aload_n 0, 1) := by decide +kernel
theorem dX2_takeStep_42 : decode cX2_takeStep 42 = .ok (.getfield 9, 3) := by decide +kernel
theorem dX2_takeStep_45 : decode cX2_takeStep 45 = .ok (.invokevirtual 31, 3) := by decide +kernel
theorem dX2_takeStep_48 : decode cX2_takeStep 48 = .ok (.bipush 7, 2) := by decide +kernel
theorem dX2_takeStep_50 : decode cX2_takeStep 50 = .ok (.ireturn, 1) := by decide +kernel
theorem dX2_takeStep_51 : decode cX2_takeStep 51 = .ok (.aload_n 0, 1) := by decide +kernel
theorem dX2_takeStep_52 : decode cX2_takeStep 52 = .ok (.getfield 27, 3) := by decide +kernel
theorem dX2_takeStep_55 : decode cX2_takeStep 55 = .ok (.istore_n 3, 1) := by decide +kernel
theorem dX2_takeStep_56 : decode cX2_takeStep 56 = .ok (.aload_n 0, 1) := by decide +kernel
theorem dX2_takeStep_57 : decode cX2_takeStep 57 = .ok (.invokevirtual 36, 3) := by decide +kernel
theorem dX2_takeStep_60 : decode cX2_takeStep 60 = .ok (.sipush 255, 3) := by decide +kernel
theorem dX2_takeStep_63 : decode cX2_takeStep 63 = .ok (.iand, 1) := by decide +kernel
theorem dX2_takeStep_64 : decode cX2_takeStep 64 = .ok (.istore 4, 2) := by decide +kernel
theorem dX2_takeStep_66 : decode cX2_takeStep 66 = .ok (.getstatic 40, 3) := by decide +kernel
theorem dX2_takeStep_69 : decode cX2_takeStep 69 = .ok (.iload 4, 2) := by decide +kernel
theorem dX2_takeStep_71 : decode cX2_takeStep 71 = .ok (.iaload, 1) := by decide +kernel
theorem dX2_takeStep_72 : decode cX2_takeStep 72 = .ok (.istore 5, 2) := by decide +kernel
theorem dX2_takeStep_74 : decode cX2_takeStep 74 = .ok (.iconst 0, 1) := by decide +kernel
theorem dX2_takeStep_75 : decode cX2_takeStep 75 = .ok (.istore 6, 2) := by decide +kernel
theorem dX2_takeStep_77 : decode cX2_takeStep 77 = .ok (.iload 5, 2) := by decide +kernel
theorem dX2_takeStep_79 : decode cX2_takeStep 79 = .ok (.ifCond .ne 11, 3) := by decide +kernel
theorem dX2_takeStep_82 : decode cX2_takeStep 82 = .ok (.aload_n 0, 1) := by decide +kernel
theorem dX2_takeStep_83 : decode cX2_takeStep 83 = .ok (.iload_n 3, 1) := by decide +kernel
theorem dX2_takeStep_84 : decode cX2_takeStep 84 = .ok (.putfield 27, 3) := by decide +kernel
theorem dX2_takeStep_87 : decode cX2_takeStep 87 = .ok (.goto 33, 3) := by decide +kernel
theorem dX2_takeStep_90 : decode cX2_takeStep 90 = .ok (.getstatic 46, 3) := by decide +kernel
theorem dX2_takeStep_93 : decode cX2_takeStep 93 = .ok (.iload 4, 2) := by decide +kernel
theorem dX2_takeStep_95 : decode cX2_takeStep 95 = .ok (.iaload, 1) := by decide +kernel
theorem dX2_takeStep_96 : decode cX2_takeStep 96 = .ok (.istore 7, 2) := by decide +kernel
theorem dX2_takeStep_98 : decode cX2_takeStep 98 = .ok (.aload_n 0, 1) := by decide +kernel
theorem dX2_takeStep_99 : decode cX2_takeStep 99 = .ok (.iload 5, 2) := by decide +kernel
theorem dX2_takeStep_101 : decode cX2_takeStep 101 = .ok (.iload 7, 2) := by decide +kernel
theorem dX2_takeStep_103 : decode cX2_takeStep 103 = .ok (.aload_n 0, 1) := by decide +kernel
theorem dX2_takeStep_104 : decode cX2_takeStep 104 = .ok (.iload 7, 2) := by decide +kernel
theorem dX2_takeStep_106 : decode cX2_takeStep 106 = .ok (.aload_n 0, 1) := by decide +kernel
theorem dX2_takeStep_107 : decode cX2_takeStep 107 = .ok (.iload 7, 2) := by decide +kernel
theorem dX2_takeStep_109 : decode cX2_takeStep 109 = .ok (.invokevirtual 49, 3) := by decide +kernel
theorem dX2_takeStep_112 : decode cX2_takeStep 112 = .ok (.invokevirtual 52, 3) := by decide +kernel
theorem dX2_takeStep_115 : decode cX2_takeStep 115 = .ok (.invokevirtual 56, 3) := by decide +kernel
theorem dX2_takeStep_118 : decode cX2_takeStep 118 = .ok (.istore 6, 2) := by decide +kernel
theorem dX2_takeStep_120 : decode cX2_takeStep 120 = .ok (.getstatic 60, 3) := by decide +kernel
theorem dX2_takeStep_123 : decode cX2_takeStep 123 = .ok (.iload 4, 2) := by decide +kernel
theorem dX2_takeStep_125 : decode cX2_takeStep 125 = .ok (.iaload, 1) := by decide +kernel
theorem dX2_takeStep_126 : decode cX2_takeStep 126 = .ok (.iload 6, 2) := by decide +kernel
theorem dX2_takeStep_128 : decode cX2_takeStep 128 = .ok (.iadd, 1) := by decide +kernel
theorem dX2_takeStep_129 : decode cX2_takeStep 129 = .ok (.ireturn, 1) := by decide +kernel
theorem dX2_fetch_0 : decode cX2_fetch 0 = .ok (.aload_n 0, 1) := by decide +kernel
theorem dX2_fetch_1 : decode cX2_fetch 1 = .ok (.getfield 13, 3) := by decide +kernel
theorem dX2_fetch_4 : decode cX2_fetch 4 = .ok (.aload_n 0, 1) := by decide +kernel
theorem dX2_fetch_5 : decode cX2_fetch 5 = .ok (.getfield 27, 3) := by decide +kernel
theorem dX2_fetch_8 : decode cX2_fetch 8 = .ok (.invokevirtual 63, 3) := by decide +kernel
theorem dX2_fetch_11 : decode cX2_fetch 11 = .ok (.istore_n 1, 1) := by decide +kernel
theorem dX2_fetch_12 : decode cX2_fetch 12 = .ok (.aload_n 0, 1) := by decide +kernel
theorem dX2_fetch_13 : decode cX2_fetch 13 = .ok (.aload_n 0, 1) := by decide +kernel
theorem dX2_fetch_14 : decode cX2_fetch 14 = .ok (.getfield 27, 3) := by decide +kernel
theorem dX2_fetch_17 : decode cX2_fetch 17 = .ok (.iconst 1, 1) := by decide +kernel
theorem dX2_fetch_18 : decode cX2_fetch 18 = .ok (.iadd, 1) := by decide +kernel
theorem dX2_fetch_19 : decode cX2_fetch 19 = .ok (.ldc 66, 2) := by decide +kernel
theorem dX2_fetch_21 : decode cX2_fetch 21 = .ok (.iand, 1) := by decide +kernel
theorem dX2_fetch_22 : decode cX2_fetch 22 = .ok (.putfield 27, 3) := by decide +kernel
theorem dX2_fetch_25 : decode cX2_fetch 25 = .ok (.iload_n 1, 1) := by decide +kernel
theorem dX2_fetch_26 : decode cX2_fetch 26 = .ok (.ireturn, 1) := by decide +kernel
theorem dX2_fetchOperand_0 : decode cX2_fetchOperand 0 = .ok (.iload_n 1, 1) := by decide +kernel
theorem dX2_fetchOperand_1 : decode cX2_fetchOperand 1 = .ok (.iconst 2, 1) := by decide +kernel
theorem dX2_fetchOperand_2 : decode cX2_fetchOperand 2 = .ok (.if_icmp .ge 5, 3) := by decide +kernel
theorem dX2_fetchOperand_5 : decode cX2_fetchOperand 5 = .ok (.iconst 0, 1) := by decide +kernel
theorem dX2_fetchOperand_6 : decode cX2_fetchOperand 6 = .ok (.ireturn, 1) := by decide +kernel
theorem dX2_fetchOperand_7 : decode cX2_fetchOperand 7 = .ok (.aload_n 0, 1) := by decide +kernel
theorem dX2_fetchOperand_8 : decode cX2_fetchOperand 8 = .ok (.invokevirtual 36, 3) := by decide +kernel
theorem dX2_fetchOperand_11 : decode cX2_fetchOperand 11 = .ok (.istore_n 2, 1) := by decide +kernel
theorem dX2_fetchOperand_12 : decode cX2_fetchOperand 12 = .ok (.iload_n 1, 1) := by decide +kernel
theorem dX2_fetchOperand_13 : decode cX2_fetchOperand 13 = .ok (.bipush 9, 2) := by decide +kernel
theorem dX2_fetchOperand_15 : decode cX2_fetchOperand 15 = .ok (.if_icmp .ge 7, 3) := by decide +kernel
theorem dX2_fetchOperand_18 : decode cX2_fetchOperand 18 = .ok (.iload_n 2, 1) := by decide +kernel
theorem dX2_fetchOperand_19 : decode cX2_fetchOperand 19 = .ok (.goto 12, 3) := by decide +kernel
theorem dX2_fetchOperand_22 : decode cX2_fetchOperand 22 = .ok (.iload_n 2, 1) := by decide +kernel
theorem dX2_fetchOperand_23 : decode cX2_fetchOperand 23 = .ok (.aload_n 0, 1) := by decide +kernel
theorem dX2_fetchOperand_24 : decode cX2_fetchOperand 24 = .ok (.invokevirtual 36, 3) := by decide +kernel
theorem dX2_fetchOperand_27 : decode cX2_fetchOperand 27 = .ok (.bipush 8, 2) := by decide +kernel
theorem dX2_fetchOperand_29 : decode cX2_fetchOperand 29 = .ok (.ishl, 1) := by decide +kernel
theorem dX2_fetchOperand_30 : decode cX2_fetchOperand 30 = .ok (.ior, 1) := by decide +kernel
theorem dX2_fetchOperand_31 : decode cX2_fetchOperand 31 = .ok (.ireturn, 1) := by decide +kernel
theorem dX2_addressOf_0 : decode cX2_addressOf 0 = .ok (.aload_n 0, 1) := by decide +kernel
theorem dX2_addressOf_1 : decode cX2_addressOf 1 = .ok (.iconst 0, 1) := by decide +kernel
theorem dX2_addressOf_2 : decode cX2_addressOf 2 = .ok (.putfield 67, 3) := by decide +kernel
theorem dX2_addressOf_5 : decode cX2_addressOf 5 = .ok (.iload_n 1, 1) := by decide +kernel
theorem dX2_addressOf_6 : decode cX2_addressOf 6 = .ok (.tableswitch 138 4 12 #[50, 61, 72, 87, 101, 138, 112, 122, 132], 50) := by decide +kernel
theorem dX2_addressOf_56 : decode cX2_addressOf 56 = .ok (.iload_n 2, 1) := by decide +kernel
theorem dX2_addressOf_57 : decode cX2_addressOf 57 = .ok (.aload_n 0, 1) := by decide +kernel
theorem dX2_addressOf_58 : decode cX2_addressOf 58 = .ok (.getfield 70, 3) := by decide +kernel
theorem dX2_addressOf_61 : decode cX2_addressOf 61 = .ok (.iadd, 1) := by decide +kernel
theorem dX2_addressOf_62 : decode cX2_addressOf 62 = .ok (.sipush 255, 3) := by decide +kernel
theorem dX2_addressOf_65 : decode cX2_addressOf 65 = .ok (.iand, 1) := by decide +kernel
theorem dX2_addressOf_66 : decode cX2_addressOf 66 = .ok (.ireturn, 1) := by decide +kernel
theorem dX2_addressOf_67 : decode cX2_addressOf 67 = .ok (.iload_n 2, 1) := by decide +kernel
theorem dX2_addressOf_68 : decode cX2_addressOf 68 = .ok (.aload_n 0, 1) := by decide +kernel
theorem dX2_addressOf_69 : decode cX2_addressOf 69 = .ok (.getfield 73, 3) := by decide +kernel
theorem dX2_addressOf_72 : decode cX2_addressOf 72 = .ok (.iadd, 1) := by decide +kernel
theorem dX2_addressOf_73 : decode cX2_addressOf 73 = .ok (.sipush 255, 3) := by decide +kernel
theorem dX2_addressOf_76 : decode cX2_addressOf 76 = .ok (.iand, 1) := by decide +kernel
theorem dX2_addressOf_77 : decode cX2_addressOf 77 = .ok (.ireturn, 1) := by decide +kernel
theorem dX2_addressOf_78 : decode cX2_addressOf 78 = .ok (.aload_n 0, 1) := by decide +kernel
theorem dX2_addressOf_79 : decode cX2_addressOf 79 = .ok (.iload_n 2, 1) := by decide +kernel
theorem dX2_addressOf_80 : decode cX2_addressOf 80 = .ok (.aload_n 0, 1) := by decide +kernel
theorem dX2_addressOf_81 : decode cX2_addressOf 81 = .ok (.getfield 70, 3) := by decide +kernel
theorem dX2_addressOf_84 : decode cX2_addressOf 84 = .ok (.iadd, 1) := by decide +kernel
theorem dX2_addressOf_85 : decode cX2_addressOf 85 = .ok (.sipush 255, 3) := by decide +kernel
theorem dX2_addressOf_88 : decode cX2_addressOf 88 = .ok (.iand, 1) := by decide +kernel
theorem dX2_addressOf_89 : decode cX2_addressOf 89 = .ok (.invokevirtual 76, 3) := by decide +kernel
theorem dX2_addressOf_92 : decode cX2_addressOf 92 = .ok (.ireturn, 1) := by decide +kernel
theorem dX2_addressOf_93 : decode cX2_addressOf 93 = .ok (.aload_n 0, 1) := by decide +kernel
theorem dX2_addressOf_94 : decode cX2_addressOf 94 = .ok (.aload_n 0, 1) := by decide +kernel
theorem dX2_addressOf_95 : decode cX2_addressOf 95 = .ok (.iload_n 2, 1) := by decide +kernel
theorem dX2_addressOf_96 : decode cX2_addressOf 96 = .ok (.invokevirtual 76, 3) := by decide +kernel
theorem dX2_addressOf_99 : decode cX2_addressOf 99 = .ok (.aload_n 0, 1) := by decide +kernel
theorem dX2_addressOf_100 : decode cX2_addressOf 100 = .ok (.getfield 73, 3) := by decide +kernel
theorem dX2_addressOf_103 : decode cX2_addressOf 103 = .ok (.invokevirtual 79, 3) := by decide +kernel
theorem dX2_addressOf_106 : decode cX2_addressOf 106 = .ok (.ireturn, 1) := by decide +kernel
theorem dX2_addressOf_107 : decode cX2_addressOf 107 = .ok (.aload_n 0, 1) := by decide +kernel
theorem dX2_addressOf_108 : decode cX2_addressOf 108 = .ok (.getfield 27, 3) := by decide +kernel
theorem dX2_addressOf_111 : decode cX2_addressOf 111 = .ok (.iload_n 2, 1) := by decide +kernel
theorem dX2_addressOf_112 : decode cX2_addressOf 112 = .ok (.i2b, 1) := by decide +kernel
theorem dX2_addressOf_113 : decode cX2_addressOf 113 = .ok (.iadd, 1) := by decide +kernel
theorem dX2_addressOf_114 : decode cX2_addressOf 114 = .ok (.ldc 66, 2) := by decide +kernel
theorem dX2_addressOf_116 : decode cX2_addressOf 116 = .ok (.iand, 1) := by decide +kernel
theorem dX2_addressOf_117 : decode cX2_addressOf 117 = .ok (.ireturn, 1) := by decide +kernel
theorem dX2_addressOf_118 : decode cX2_addressOf 118 = .ok (.aload_n 0, 1) := by decide +kernel
theorem dX2_addressOf_119 : decode cX2_addressOf 119 = .ok (.iload_n 2, 1) := by decide +kernel
theorem dX2_addressOf_120 : decode cX2_addressOf 120 = .ok (.aload_n 0, 1) := by decide +kernel
theorem dX2_addressOf_121 : decode cX2_addressOf 121 = .ok (.getfield 70, 3) := by decide +kernel
theorem dX2_addressOf_124 : decode cX2_addressOf 124 = .ok (.invokevirtual 79, 3) := by decide +kernel
theorem dX2_addressOf_127 : decode cX2_addressOf 127 = .ok (.ireturn, 1) := by decide +kernel
theorem dX2_addressOf_128 : decode cX2_addressOf 128 = .ok (.aload_n 0, 1) := by decide +kernel
theorem dX2_addressOf_129 : decode cX2_addressOf 129 = .ok (.iload_n 2, 1) := by decide +kernel
theorem dX2_addressOf_130 : decode cX2_addressOf 130 = .ok (.aload_n 0, 1) := by decide +kernel
theorem dX2_addressOf_131 : decode cX2_addressOf 131 = .ok (.getfield 73, 3) := by decide +kernel
theorem dX2_addressOf_134 : decode cX2_addressOf 134 = .ok (.invokevirtual 79, 3) := by decide +kernel
theorem dX2_addressOf_137 : decode cX2_addressOf 137 = .ok (.ireturn, 1) := by decide +kernel
theorem dX2_addressOf_138 : decode cX2_addressOf 138 = .ok (.aload_n 0, 1) := by decide +kernel
theorem dX2_addressOf_139 : decode cX2_addressOf 139 = .ok (.iload_n 2, 1) := by decide +kernel
theorem dX2_addressOf_140 : decode cX2_addressOf 140 = .ok (.invokevirtual 76, 3) := by decide +kernel
theorem dX2_addressOf_143 : decode cX2_addressOf 143 = .ok (.ireturn, 1) := by decide +kernel
theorem dX2_addressOf_144 : decode cX2_addressOf 144 = .ok (.iload_n 2, 1) := by decide +kernel
theorem dX2_addressOf_145 : decode cX2_addressOf 145 = .ok (.ireturn, 1) := by decide +kernel
theorem dX2_wordWithinPage_0 : decode cX2_wordWithinPage 0 = .ok (.aload_n 0, 1) := by decide +kernel
theorem dX2_wordWithinPage_1 : decode cX2_wordWithinPage 1 = .ok (.getfield 13, 3) := by decide +kernel
theorem dX2_wordWithinPage_4 : decode cX2_wordWithinPage 4 = .ok (.iload_n 1, 1) := by decide +kernel
theorem dX2_wordWithinPage_5 : decode cX2_wordWithinPage 5 = .ok (.invokevirtual 63, 3) := by decide +kernel
theorem dX2_wordWithinPage_8 : decode cX2_wordWithinPage 8 = .ok (.istore_n 2, 1) := by decide +kernel
theorem dX2_wordWithinPage_9 : decode cX2_wordWithinPage 9 = .ok (.iload_n 2, 1) := by decide +kernel
theorem dX2_wordWithinPage_10 : decode cX2_wordWithinPage 10 = .ok (.aload_n 0, 1) := by decide +kernel
theorem dX2_wordWithinPage_11 : decode cX2_wordWithinPage 11 = .ok (.getfield 13, 3) := by decide +kernel
theorem dX2_wordWithinPage_14 : decode cX2_wordWithinPage 14 = .ok (.iload_n 1, 1) := by decide +kernel
theorem dX2_wordWithinPage_15 : decode cX2_wordWithinPage 15 = .ok (.ldc 82, 2) := by decide +kernel
theorem dX2_wordWithinPage_17 : decode cX2_wordWithinPage 17 = .ok (.iand, 1) := by decide +kernel
theorem dX2_wordWithinPage_18 : decode cX2_wordWithinPage 18 = .ok (.iload_n 1, 1) := by decide +kernel
theorem dX2_wordWithinPage_19 : decode cX2_wordWithinPage 19 = .ok (.iconst 1, 1) := by decide +kernel
theorem dX2_wordWithinPage_20 : decode cX2_wordWithinPage 20 = .ok (.iadd, 1) := by decide +kernel
theorem dX2_wordWithinPage_21 : decode cX2_wordWithinPage 21 = .ok (.sipush 255, 3) := by decide +kernel
theorem dX2_wordWithinPage_24 : decode cX2_wordWithinPage 24 = .ok (.iand, 1) := by decide +kernel
theorem dX2_wordWithinPage_25 : decode cX2_wordWithinPage 25 = .ok (.ior, 1) := by decide +kernel
theorem dX2_wordWithinPage_26 : decode cX2_wordWithinPage 26 = .ok (.invokevirtual 63, 3) := by decide +kernel
theorem dX2_wordWithinPage_29 : decode cX2_wordWithinPage 29 = .ok (.bipush 8, 2) := by decide +kernel
theorem dX2_wordWithinPage_31 : decode cX2_wordWithinPage 31 = .ok (.ishl, 1) := by decide +kernel
theorem dX2_wordWithinPage_32 : decode cX2_wordWithinPage 32 = .ok (.ior, 1) := by decide +kernel
theorem dX2_wordWithinPage_33 : decode cX2_wordWithinPage 33 = .ok (.ireturn, 1) := by decide +kernel
theorem dX2_indexed_0 : decode cX2_indexed 0 = .ok (.iload_n 1, 1) := by decide +kernel
theorem dX2_indexed_1 : decode cX2_indexed 1 = .ok (.iload_n 2, 1) := by decide +kernel
theorem dX2_indexed_2 : decode cX2_indexed 2 = .ok (.iadd, 1) := by decide +kernel
theorem dX2_indexed_3 : decode cX2_indexed 3 = .ok (.ldc 66, 2) := by decide +kernel
theorem dX2_indexed_5 : decode cX2_indexed 5 = .ok (.iand, 1) := by decide +kernel
theorem dX2_indexed_6 : decode cX2_indexed 6 = .ok (.istore_n 3, 1) := by decide +kernel
theorem dX2_indexed_7 : decode cX2_indexed 7 = .ok (.aload_n 0, 1) := by decide +kernel
theorem dX2_indexed_8 : decode cX2_indexed 8 = .ok (.iload_n 1, 1) := by decide +kernel
theorem dX2_indexed_9 : decode cX2_indexed 9 = .ok (.iload_n 3, 1) := by decide +kernel
theorem dX2_indexed_10 : decode cX2_indexed 10 = .ok (.invokestatic 83, 3) := by decide +kernel
theorem dX2_indexed_13 : decode cX2_indexed 13 = .ok (.putfield 67, 3) := by decide +kernel
theorem dX2_indexed_16 : decode cX2_indexed 16 = .ok (.iload_n 3, 1) := by decide +kernel
theorem dX2_indexed_17 : decode cX2_indexed 17 = .ok (.ireturn, 1) := by decide +kernel
theorem dX2_otherPage_0 : decode cX2_otherPage 0 = .ok (.iload_n 0, 1) := by decide +kernel
theorem dX2_otherPage_1 : decode cX2_otherPage 1 = .ok (.ldc 82, 2) := by decide +kernel
theorem dX2_otherPage_3 : decode cX2_otherPage 3 = .ok (.iand, 1) := by decide +kernel
theorem dX2_otherPage_4 : decode cX2_otherPage 4 = .ok (.iload_n 1, 1) := by decide +kernel
theorem dX2_otherPage_5 : decode cX2_otherPage 5 = .ok (.ldc 82, 2) := by decide +kernel
theorem dX2_otherPage_7 : decode cX2_otherPage 7 = .ok (.iand, 1) := by decide +kernel
theorem dX2_otherPage_8 : decode cX2_otherPage 8 = .ok (.if_icmp .ne 7, 3) := by decide +kernel
theorem dX2_otherPage_11 : decode cX2_otherPage 11 = .ok (.iconst 0, 1) := by decide +kernel
theorem dX2_otherPage_12 : decode cX2_otherPage 12 = .ok (.goto 4, 3) := by decide +kernel
theorem dX2_otherPage_15 : decode cX2_otherPage 15 = .ok (.iconst 1, 1) := by decide +kernel
theorem dX2_otherPage_16 : decode cX2_otherPage 16 = .ok (.ireturn, 1) := by decide +kernel
theorem dX2_perform_0 : decode cX2_perform 0 = .ok (.iconst 0, 1) := by decide +kernel
theorem dX2_perform_1 : decode cX2_perform 1 = .ok (.istore 4, 2) := by decide +kernel
theorem dX2_perform_3 : decode cX2_perform 3 = .ok (.iload_n 1, 1) := by decide +kernel
theorem dX2_perform_4 : decode cX2_perform 4 = .ok (.bipush 12, 2) := by decide +kernel
theorem dX2_perform_6 : decode cX2_perform 6 = .ok (.if_icmp .gt 34, 3) := by decide +kernel
theorem dX2_perform_9 : decode cX2_perform 9 = .ok (.aload_n 0, 1) := by decide +kernel
theorem dX2_perform_10 : decode cX2_perform 10 = .ok (.iload_n 1, 1) := by decide +kernel
theorem dX2_perform_11 : decode cX2_perform 11 = .ok (.iload_n 2, 1) := by decide +kernel
theorem dX2_perform_12 : decode cX2_perform 12 = .ok (.iconst 2, 1) := by decide +kernel
theorem dX2_perform_13 : decode cX2_perform 13 = .ok (.if_icmp .ne 7, 3) := by decide +kernel
theorem dX2_perform_16 : decode cX2_perform 16 = .ok (.iload_n 3, 1) := by decide +kernel
theorem dX2_perform_17 : decode cX2_perform 17 = .ok (.goto 11, 3) := by decide +kernel
theorem dX2_perform_20 : decode cX2_perform 20 = .ok (.aload_n 0, 1) := by decide +kernel
theorem dX2_perform_21 : decode cX2_perform 21 = .ok (.getfield 13, 3) := by decide +kernel
theorem dX2_perform_24 : decode cX2_perform 24 = .ok (.iload_n 3, 1) := by decide +kernel
theorem dX2_perform_25 : decode cX2_perform 25 = .ok (.invokevirtual 63, 3) := by decide +kernel
theorem dX2_perform_28 : decode cX2_perform 28 = .ok (.invokevirtual 86, 3) := by decide +kernel
theorem dX2_perform_31 : decode cX2_perform 31 = .ok (.aload_n 0, 1) := by decide +kernel
theorem dX2_perform_32 : decode cX2_perform 32 = .ok (.getfield 67, 3) := by decide +kernel
theorem dX2_perform_35 : decode cX2_perform 35 = .ok (.istore 4, 2) := by decide +kernel
theorem dX2_perform_37 : decode cX2_perform 37 = .ok (.goto 106, 3) := by decide +kernel
theorem dX2_perform_40 : decode cX2_perform 40 = .ok (.iload_n 1, 1) := by decide +kernel
theorem dX2_perform_41 : decode cX2_perform 41 = .ok (.bipush 15, 2) := by decide +kernel
theorem dX2_perform_43 : decode cX2_perform 43 = .ok (.if_icmp .gt 19, 3) := by decide +kernel
theorem dX2_perform_46 : decode cX2_perform 46 = .ok (.aload_n 0, 1) := by decide +kernel
theorem dX2_perform_47 : decode cX2_perform 47 = .ok (.getfield 13, 3) := by decide +kernel
theorem dX2_perform_50 : decode cX2_perform 50 = .ok (.iload_n 3, 1) := by decide +kernel
theorem dX2_perform_51 : decode cX2_perform 51 = .ok (.aload_n 0, 1) := by decide +kernel
theorem dX2_perform_52 : decode cX2_perform 52 = .ok (.iload_n 1, 1) := by decide +kernel
theorem dX2_perform_53 : decode cX2_perform 53 = .ok (.invokevirtual 90, 3) := by decide +kernel
theorem dX2_perform_56 : decode cX2_perform 56 = .ok (.invokevirtual 93, 3) := by decide +kernel
theorem dX2_perform_59 : decode cX2_perform 59 = .ok (.goto 84, 3) := by decide +kernel
theorem dX2_perform_62 : decode cX2_perform 62 = .ok (.iload_n 1, 1) := by decide +kernel
theorem dX2_perform_63 : decode cX2_perform 63 = .ok (.bipush 21, 2) := by decide +kernel
theorem dX2_perform_65 : decode cX2_perform 65 = .ok (.if_icmp .gt 13, 3) := by decide +kernel
theorem dX2_perform_68 : decode cX2_perform 68 = .ok (.aload_n 0, 1) := by decide +kernel
theorem dX2_perform_69 : decode cX2_perform 69 = .ok (.iload_n 1, 1) := by decide +kernel
theorem dX2_perform_70 : decode cX2_perform 70 = .ok (.iload_n 2, 1) := by decide +kernel
theorem dX2_perform_71 : decode cX2_perform 71 = .ok (.iload_n 3, 1) := by decide +kernel
theorem dX2_perform_72 : decode cX2_perform 72 = .ok (.invokevirtual 96, 3) := by decide +kernel
theorem dX2_perform_75 : decode cX2_perform 75 = .ok (.goto 68, 3) := by decide +kernel
theorem dX2_perform_78 : decode cX2_perform 78 = .ok (.iload_n 1, 1) := by decide +kernel
theorem dX2_perform_79 : decode cX2_perform 79 = .ok (.bipush 29, 2) := by decide +kernel
theorem dX2_perform_81 : decode cX2_perform 81 = .ok (.if_icmp .gt 14, 3) := by decide +kernel
theorem dX2_perform_84 : decode cX2_perform 84 = .ok (.aload_n 0, 1) := by decide +kernel
theorem dX2_perform_85 : decode cX2_perform 85 = .ok (.iload_n 1, 1) := by decide +kernel
theorem dX2_perform_86 : decode cX2_perform 86 = .ok (.iload_n 3, 1) := by decide +kernel
theorem dX2_perform_87 : decode cX2_perform 87 = .ok (.invokevirtual 99, 3) := by decide +kernel
theorem dX2_perform_90 : decode cX2_perform 90 = .ok (.istore 4, 2) := by decide +kernel
theorem dX2_perform_92 : decode cX2_perform 92 = .ok (.goto 51, 3) := by decide +kernel
theorem dX2_perform_95 : decode cX2_perform 95 = .ok (.iload_n 1, 1) := by decide +kernel
theorem dX2_perform_96 : decode cX2_perform 96 = .ok (.bipush 39, 2) := by decide +kernel
theorem dX2_perform_98 : decode cX2_perform 98 = .ok (.if_icmp .gt 11, 3) := by decide +kernel
theorem dX2_perform_101 : decode cX2_perform 101 = .ok (.aload_n 0, 1) := by decide +kernel
theorem dX2_perform_102 : decode cX2_perform 102 = .ok (.iload_n 1, 1) := by decide +kernel
theorem dX2_perform_103 : decode cX2_perform 103 = .ok (.invokevirtual 102, 3) := by decide +kernel
theorem dX2_perform_106 : decode cX2_perform 106 = .ok (.goto 37, 3) := by decide +kernel
theorem dX2_perform_109 : decode cX2_perform 109 = .ok (.iload_n 1, 1) := by decide +kernel
theorem dX2_perform_110 : decode cX2_perform 110 = .ok (.bipush 47, 2) := by decide +kernel
theorem dX2_perform_112 : decode cX2_perform 112 = .ok (.if_icmp .gt 11, 3) := by decide +kernel
theorem dX2_perform_115 : decode cX2_perform 115 = .ok (.aload_n 0, 1) := by decide +kernel
theorem dX2_perform_116 : decode cX2_perform 116 = .ok (.iload_n 1, 1) := by decide +kernel
theorem dX2_perform_117 : decode cX2_perform 117 = .ok (.invokevirtual 106, 3) := by decide +kernel
theorem dX2_perform_120 : decode cX2_perform 120 = .ok (.goto 23, 3) := by decide +kernel
theorem dX2_perform_123 : decode cX2_perform 123 = .ok (.iload_n 1, 1) := by decide +kernel
theorem dX2_perform_124 : decode cX2_perform 124 = .ok (.bipush 51, 2) := by decide +kernel
theorem dX2_perform_126 : decode cX2_perform 126 = .ok (.if_icmp .gt 11, 3) := by decide +kernel
theorem dX2_perform_129 : decode cX2_perform 129 = .ok (.aload_n 0, 1) := by decide +kernel
theorem dX2_perform_130 : decode cX2_perform 130 = .ok (.iload_n 1, 1) := by decide +kernel
theorem dX2_perform_131 : decode cX2_perform 131 = .ok (.invokevirtual 109, 3) := by decide +kernel
theorem dX2_perform_134 : decode cX2_perform 134 = .ok (.goto 9, 3) := by decide +kernel
theorem dX2_perform_137 : decode cX2_perform 137 = .ok (.aload_n 0, 1) := by decide +kernel
theorem dX2_perform_138 : decode cX2_perform 138 = .ok (.iload_n 1, 1) := by decide +kernel
theorem dX2_perform_139 : decode cX2_perform 139 = .ok (.iload_n 3, 1) := by decide +kernel
theorem dX2_perform_140 : decode cX2_perform 140 = .ok (.invokevirtual 112, 3) := by decide +kernel
theorem dX2_perform_143 : decode cX2_perform 143 = .ok (.iload 4, 2) := by decide +kernel
theorem dX2_perform_145 : decode cX2_perform 145 = .ok (.ireturn, 1) := by decide +kernel
theorem dX2_combine_0 : decode cX2_combine 0 = .ok (.iload_n 1, 1) := by decide +kernel
theorem dX2_combine_1 : decode cX2_combine 1 = .ok (.tableswitch 202 1 11 #[59, 71, 83, 95, 103, 115, 132, 149, 166, 178, 190], 59) := by decide +kernel
theorem dX2_combine_60 : decode cX2_combine 60 = .ok (.aload_n 0, 1) := by decide +kernel
theorem dX2_combine_61 : decode cX2_combine 61 = .ok (.aload_n 0, 1) := by decide +kernel
theorem dX2_combine_62 : decode cX2_combine 62 = .ok (.iload_n 2, 1) := by decide +kernel
theorem dX2_combine_63 : decode cX2_combine 63 = .ok (.invokevirtual 115, 3) := by decide +kernel
theorem dX2_combine_66 : decode cX2_combine 66 = .ok (.putfield 118, 3) := by decide +kernel
theorem dX2_combine_69 : decode cX2_combine 69 = .ok (.goto 139, 3) := by decide +kernel
theorem dX2_combine_72 : decode cX2_combine 72 = .ok (.aload_n 0, 1) := by decide +kernel
theorem dX2_combine_73 : decode cX2_combine 73 = .ok (.aload_n 0, 1) := by decide +kernel
theorem dX2_combine_74 : decode cX2_combine 74 = .ok (.iload_n 2, 1) := by decide +kernel
theorem dX2_combine_75 : decode cX2_combine 75 = .ok (.invokevirtual 115, 3) := by decide +kernel
theorem dX2_combine_78 : decode cX2_combine 78 = .ok (.putfield 70, 3) := by decide +kernel
theorem dX2_combine_81 : decode cX2_combine 81 = .ok (.goto 127, 3) := by decide +kernel
theorem dX2_combine_84 : decode cX2_combine 84 = .ok (.aload_n 0, 1) := by decide +kernel
theorem dX2_combine_85 : decode cX2_combine 85 = .ok (.aload_n 0, 1) := by decide +kernel
theorem dX2_combine_86 : decode cX2_combine 86 = .ok (.iload_n 2, 1) := by decide +kernel
theorem dX2_combine_87 : decode cX2_combine 87 = .ok (.invokevirtual 115, 3) := by decide +kernel
theorem dX2_combine_90 : decode cX2_combine 90 = .ok (.putfield 73, 3) := by decide +kernel
theorem dX2_combine_93 : decode cX2_combine 93 = .ok (.goto 115, 3) := by decide +kernel
theorem dX2_combine_96 : decode cX2_combine 96 = .ok (.aload_n 0, 1) := by decide +kernel
theorem dX2_combine_97 : decode cX2_combine 97 = .ok (.iload_n 2, 1) := by decide +kernel
theorem dX2_combine_98 : decode cX2_combine 98 = .ok (.invokevirtual 121, 3) := by decide +kernel
theorem dX2_combine_101 : decode cX2_combine 101 = .ok (.goto 107, 3) := by decide +kernel
theorem dX2_combine_104 : decode cX2_combine 104 = .ok (.aload_n 0, 1) := by decide +kernel
theorem dX2_combine_105 : decode cX2_combine 105 = .ok (.iload_n 2, 1) := by decide +kernel
theorem dX2_combine_106 : decode cX2_combine 106 = .ok (.sipush 255, 3) := by decide +kernel
theorem dX2_combine_109 : decode cX2_combine 109 = .ok (.ixor, 1) := by decide +kernel
theorem dX2_combine_110 : decode cX2_combine 110 = .ok (.invokevirtual 121, 3) := by decide +kernel
theorem dX2_combine_113 : decode cX2_combine 113 = .ok (.goto 95, 3) := by decide +kernel
theorem dX2_combine_116 : decode cX2_combine 116 = .ok (.aload_n 0, 1) := by decide +kernel
theorem dX2_combine_117 : decode cX2_combine 117 = .ok (.aload_n 0, 1) := by decide +kernel
theorem dX2_combine_118 : decode cX2_combine 118 = .ok (.aload_n 0, 1) := by decide +kernel
theorem dX2_combine_119 : decode cX2_combine 119 = .ok (.getfield 118, 3) := by decide +kernel
theorem dX2_combine_122 : decode cX2_combine 122 = .ok (.iload_n 2, 1) := by decide +kernel
theorem dX2_combine_123 : decode cX2_combine 123 = .ok (.iand, 1) := by decide +kernel
theorem dX2_combine_124 : decode cX2_combine 124 = .ok (.invokevirtual 115, 3) := by decide +kernel
theorem dX2_combine_127 : decode cX2_combine 127 = .ok (.putfield 118, 3) := by decide +kernel
theorem dX2_combine_130 : decode cX2_combine 130 = .ok (.goto 78, 3) := by decide +kernel
theorem dX2_combine_133 : decode cX2_combine 133 = .ok (.aload_n 0, 1) := by decide +kernel
theorem dX2_combine_134 : decode cX2_combine 134 = .ok (.aload_n 0, 1) := by decide +kernel
theorem dX2_combine_135 : decode cX2_combine 135 = .ok (.aload_n 0, 1) := by decide +kernel
theorem dX2_combine_136 : decode cX2_combine 136 = .ok (.getfield 118, 3) := by decide +kernel
theorem dX2_combine_139 : decode cX2_combine 139 = .ok (.iload_n 2, 1) := by decide +kernel
theorem dX2_combine_140 : decode cX2_combine 140 = .ok (.ior, 1) := by decide +kernel
theorem dX2_combine_141 : decode cX2_combine 141 = .ok (.invokevirtual 115, 3) := by decide +kernel
theorem dX2_combine_144 : decode cX2_combine 144 = .ok (.putfield 118, 3) := by decide +kernel
theorem dX2_combine_147 : decode cX2_combine 147 = .ok (.goto 61, 3) := by decide +kernel
theorem dX2_combine_150 : decode cX2_combine 150 = .ok (.aload_n 0, 1) := by decide +kernel
theorem dX2_combine_151 : decode cX2_combine 151 = .ok (.aload_n 0, 1) := by decide +kernel
theorem dX2_combine_152 : decode cX2_combine 152 = .ok (.aload_n 0, 1) := by decide +kernel
theorem dX2_combine_153 : decode cX2_combine 153 = .ok (.getfield 118, 3) := by decide +kernel
theorem dX2_combine_156 : decode cX2_combine 156 = .ok (.iload_n 2, 1) := by decide +kernel
theorem dX2_combine_157 : decode cX2_combine 157 = .ok (.ixor, 1) := by decide +kernel
theorem dX2_combine_158 : decode cX2_combine 158 = .ok (.invokevirtual 115, 3) := by decide +kernel
theorem dX2_combine_161 : decode cX2_combine 161 = .ok (.putfield 118, 3) := by decide +kernel
theorem dX2_combine_164 : decode cX2_combine 164 = .ok (.goto 44, 3) := by decide +kernel
theorem dX2_combine_167 : decode cX2_combine 167 = .ok (.aload_n 0, 1) := by decide +kernel
theorem dX2_combine_168 : decode cX2_combine 168 = .ok (.aload_n 0, 1) := by decide +kernel
theorem dX2_combine_169 : decode cX2_combine 169 = .ok (.getfield 118, 3) := by decide +kernel
theorem dX2_combine_172 : decode cX2_combine 172 = .ok (.iload_n 2, 1) := by decide +kernel
theorem dX2_combine_173 : decode cX2_combine 173 = .ok (.invokevirtual 124, 3) := by decide +kernel
theorem dX2_combine_176 : decode cX2_combine 176 = .ok (.goto 32, 3) := by decide +kernel
theorem dX2_combine_179 : decode cX2_combine 179 = .ok (.aload_n 0, 1) := by decide +kernel
theorem dX2_combine_180 : decode cX2_combine 180 = .ok (.aload_n 0, 1) := by decide +kernel
theorem dX2_combine_181 : decode cX2_combine 181 = .ok (.getfield 70, 3) := by decide +kernel
theorem dX2_combine_184 : decode cX2_combine 184 = .ok (.iload_n 2, 1) := by decide +kernel
theorem dX2_combine_185 : decode cX2_combine 185 = .ok (.invokevirtual 124, 3) := by decide +kernel
theorem dX2_combine_188 : decode cX2_combine 188 = .ok (.goto 20, 3) := by decide +kernel
theorem dX2_combine_191 : decode cX2_combine 191 = .ok (.aload_n 0, 1) := by decide +kernel
theorem dX2_combine_192 : decode cX2_combine 192 = .ok (.aload_n 0, 1) := by decide +kernel
theorem dX2_combine_193 : decode cX2_combine 193 = .ok (.getfield 73, 3) := by decide +kernel
theorem dX2_combine_196 : decode cX2_combine 196 = .ok (.iload_n 2, 1) := by decide +kernel
theorem dX2_combine_197 : decode cX2_combine 197 = .ok (.invokevirtual 124, 3) := by decide +kernel
theorem dX2_combine_200 : decode cX2_combine 200 = .ok (.goto 8, 3) := by decide +kernel
theorem dX2_combine_203 : decode cX2_combine 203 = .ok (.aload_n 0, 1) := by decide +kernel
theorem dX2_combine_204 : decode cX2_combine 204 = .ok (.iload_n 2, 1) := by decide +kernel
theorem dX2_combine_205 : decode cX2_combine 205 = .ok (.invokevirtual 127, 3) := by decide +kernel
theorem dX2_combine_208 : decode cX2_combine 208 = .ok (.return_, 1) := by decide +kernel
theorem dX2_add_0 : decode cX2_add 0 = .ok (.aload_n 0, 1) := by decide +kernel
theorem dX2_add_1 : decode cX2_add 1 = .ok (.getfield 118, 3) := by decide +kernel
theorem dX2_add_4 : decode cX2_add 4 = .ok (.iload_n 1, 1) := by decide +kernel
theorem dX2_add_5 : decode cX2_add 5 = .ok (.iadd, 1) := by decide +kernel
theorem dX2_add_6 : decode cX2_add 6 = .ok (.aload_n 0, 1) := by decide +kernel
theorem dX2_add_7 : decode cX2_add 7 = .ok (.getfield 9, 3) := by decide +kernel
theorem dX2_add_10 : decode cX2_add 10 = .ok (.iconst 1, 1) := by decide +kernel
theorem dX2_add_11 : decode cX2_add 11 = .ok (.iand, 1) := by decide +kernel
theorem dX2_add_12 : decode cX2_add 12 = .ok (.iadd, 1) := by decide +kernel
theorem dX2_add_13 : decode cX2_add 13 = .ok (.istore_n 2, 1) := by decide +kernel
theorem dX2_add_14 : decode cX2_add 14 = .ok (.aload_n 0, 1) := by decide +kernel
theorem dX2_add_15 : decode cX2_add 15 = .ok (.iconst 1, 1) := by decide +kernel
theorem dX2_add_16 : decode cX2_add 16 = .ok (.iload_n 2, 1) := by decide +kernel
theorem dX2_add_17 : decode cX2_add 17 = .ok (.sipush 255, 3) := by decide +kernel
theorem dX2_add_20 : decode cX2_add 20 = .ok (.if_icmp .le 7, 3) := by decide +kernel
theorem dX2_add_23 : decode cX2_add 23 = .ok (.iconst 1, 1) := by decide +kernel
theorem dX2_add_24 : decode cX2_add 24 = .ok (.goto 4, 3) := by decide +kernel
theorem dX2_add_27 : decode cX2_add 27 = .ok (.iconst 0, 1) := by decide +kernel
theorem dX2_add_28 : decode cX2_add 28 = .ok (.invokevirtual 130, 3) := by decide +kernel
theorem dX2_add_31 : decode cX2_add 31 = .ok (.aload_n 0, 1) := by decide +kernel
theorem dX2_add_32 : decode cX2_add 32 = .ok (.bipush 64, 2) := by decide +kernel
theorem dX2_add_34 : decode cX2_add 34 = .ok (.aload_n 0, 1) := by decide +kernel
theorem dX2_add_35 : decode cX2_add 35 = .ok (.getfield 118, 3) := by decide +kernel
theorem dX2_add_38 : decode cX2_add 38 = .ok (.iload_n 2, 1) := by decide +kernel
theorem dX2_add_39 : decode cX2_add 39 = .ok (.ixor, 1) := by decide +kernel
theorem dX2_add_40 : decode cX2_add 40 = .ok (.iload_n 1, 1) := by decide +kernel
theorem dX2_add_41 : decode cX2_add 41 = .ok (.iload_n 2, 1) := by decide +kernel
theorem dX2_add_42 : decode cX2_add 42 = .ok (.ixor, 1) := by decide +kernel
theorem dX2_add_43 : decode cX2_add 43 = .ok (.iand, 1) := by decide +kernel
theorem dX2_add_44 : decode cX2_add 44 = .ok (.sipush 128, 3) := by decide +kernel
theorem dX2_add_47 : decode cX2_add 47 = .ok (.iand, 1) := by decide +kernel
theorem dX2_add_48 : decode cX2_add 48 = .ok (.ifCond .eq 7, 3) := by decide +kernel
theorem dX2_add_51 : decode cX2_add 51 = .ok (.iconst 1, 1) := by decide +kernel
theorem dX2_add_52 : decode cX2_add 52 = .ok (.goto 4, 3) := by decide +kernel
theorem dX2_add_55 : decode cX2_add 55 = .ok (.iconst 0, 1) := by decide +kernel
theorem dX2_add_56 : decode cX2_add 56 = .ok (.invokevirtual 130, 3) := by decide +kernel
theorem dX2_add_59 : decode cX2_add 59 = .ok (.aload_n 0, 1) := by decide +kernel
theorem dX2_add_60 : decode cX2_add 60 = .ok (.aload_n 0, 1) := by decide +kernel
theorem dX2_add_61 : decode cX2_add 61 = .ok (.iload_n 2, 1) := by decide +kernel
theorem dX2_add_62 : decode cX2_add 62 = .ok (.invokevirtual 115, 3) := by decide +kernel
theorem dX2_add_65 : decode cX2_add 65 = .ok (.putfield 118, 3) := by decide +kernel
theorem dX2_add_68 : decode cX2_add 68 = .ok (.return_, 1) := by decide +kernel
theorem dX2_compare_0 : decode cX2_compare 0 = .ok (.aload_n 0, 1) := by decide +kernel
theorem dX2_compare_1 : decode cX2_compare 1 = .ok (.iconst 1, 1) := by decide +kernel
theorem dX2_compare_2 : decode cX2_compare 2 = .ok (.iload_n 1, 1) := by decide +kernel
theorem dX2_compare_3 : decode cX2_compare 3 = .ok (.iload_n 2, 1) := by decide +kernel
theorem dX2_compare_4 : decode cX2_compare 4 = .ok (.if_icmp .lt 7, 3) := by decide +kernel
theorem dX2_compare_7 : decode cX2_compare 7 = .ok (.iconst 1, 1) := by decide +kernel
theorem dX2_compare_8 : decode cX2_compare 8 = .ok (.goto 4, 3) := by decide +kernel
theorem dX2_compare_11 : decode cX2_compare 11 = .ok (.iconst 0, 1) := by decide +kernel
theorem dX2_compare_12 : decode cX2_compare 12 = .ok (.invokevirtual 130, 3) := by decide +kernel
theorem dX2_compare_15 : decode cX2_compare 15 = .ok (.aload_n 0, 1) := by decide +kernel
theorem dX2_compare_16 : decode cX2_compare 16 = .ok (.iload_n 1, 1) := by decide +kernel
theorem dX2_compare_17 : decode cX2_compare 17 = .ok (.iload_n 2, 1) := by decide +kernel
theorem dX2_compare_18 : decode cX2_compare 18 = .ok (.isub, 1) := by decide +kernel
theorem dX2_compare_19 : decode cX2_compare 19 = .ok (.invokevirtual 115, 3) := by decide +kernel
theorem dX2_compare_22 : decode cX2_compare 22 = .ok (.pop, 1) := by decide +kernel
theorem dX2_compare_23 : decode cX2_compare 23 = .ok (.return_, 1) := by decide +kernel
theorem dX2_testBits_0 : decode cX2_testBits 0 = .ok (.aload_n 0, 1) := by decide +kernel
theorem dX2_testBits_1 : decode cX2_testBits 1 = .ok (.iconst 2, 1) := by decide +kernel
theorem dX2_testBits_2 : decode cX2_testBits 2 = .ok (.aload_n 0, 1) := by decide +kernel
theorem dX2_testBits_3 : decode cX2_testBits 3 = .ok (.getfield 118, 3) := by decide +kernel
theorem dX2_testBits_6 : decode cX2_testBits 6 = .ok (.iload_n 1, 1) := by decide +kernel
theorem dX2_testBits_7 : decode cX2_testBits 7 = .ok (.iand, 1) := by decide +kernel
theorem dX2_testBits_8 : decode cX2_testBits 8 = .ok (.ifCond .ne 7, 3) := by decide +kernel
theorem dX2_testBits_11 : decode cX2_testBits 11 = .ok (.iconst 1, 1) := by decide +kernel
theorem dX2_testBits_12 : decode cX2_testBits 12 = .ok (.goto 4, 3) := by decide +kernel
theorem dX2_testBits_15 : decode cX2_testBits 15 = .ok (.iconst 0, 1) := by decide +kernel
theorem dX2_testBits_16 : decode cX2_testBits 16 = .ok (.invokevirtual 130, 3) := by decide +kernel
theorem dX2_testBits_19 : decode cX2_testBits 19 = .ok (.aload_n 0, 1) := by decide +kernel
theorem dX2_testBits_20 : decode cX2_testBits 20 = .ok (.bipush 64, 2) := by decide +kernel
theorem dX2_testBits_22 : decode cX2_testBits 22 = .ok (.iload_n 1, 1) := by decide +kernel
theorem dX2_testBits_23 : decode cX2_testBits 23 = .ok (.bipush 64, 2) := by decide +kernel
theorem dX2_testBits_25 : decode cX2_testBits 25 = .ok (.iand, 1) := by decide +kernel
theorem dX2_testBits_26 : decode cX2_testBits 26 = .ok (.ifCond .eq 7, 3) := by decide +kernel
theorem dX2_testBits_29 : decode cX2_testBits 29 = .ok (.iconst 1, 1) := by decide +kernel
theorem dX2_testBits_30 : decode cX2_testBits 30 = .ok (.goto 4, 3) := by decide +kernel
theorem dX2_testBits_33 : decode cX2_testBits 33 = .ok (.iconst 0, 1) := by decide +kernel
theorem dX2_testBits_34 : decode cX2_testBits 34 = .ok (.invokevirtual 130, 3) := by decide +kernel
theorem dX2_testBits_37 : decode cX2_testBits 37 = .ok (.aload_n 0, 1) := by decide +kernel
theorem dX2_testBits_38 : decode cX2_testBits 38 = .ok (.sipush 128, 3) := by decide +kernel
theorem dX2_testBits_41 : decode cX2_testBits 41 = .ok (.iload_n 1, 1) := by decide +kernel
theorem dX2_testBits_42 : decode cX2_testBits 42 = .ok (.sipush 128, 3) := by decide +kernel
theorem dX2_testBits_45 : decode cX2_testBits 45 = .ok (.iand, 1) := by decide +kernel
theorem dX2_testBits_46 : decode cX2_testBits 46 = .ok (.ifCond .eq 7, 3) := by decide +kernel
theorem dX2_testBits_49 : decode cX2_testBits 49 = .ok (.iconst 1, 1) := by decide +kernel
theorem dX2_testBits_50 : decode cX2_testBits 50 = .ok (.goto 4, 3) := by decide +kernel
theorem dX2_testBits_53 : decode cX2_testBits 53 = .ok (.iconst 0, 1) := by decide +kernel
theorem dX2_testBits_54 : decode cX2_testBits 54 = .ok (.invokevirtual 130, 3) := by decide +kernel
theorem dX2_testBits_57 : decode cX2_testBits 57 = .ok (.return_, 1) := by decide +kernel
theorem dX2_stored_0 : decode cX2_stored 0 = .ok (.iload_n 1, 1) := by decide +kernel
theorem dX2_stored_1 : decode cX2_stored 1 = .ok (.lookupswitch 37 #[(13, 27), (14, 32)], 27) := by decide +kernel
theorem dX2_stored_28 : decode cX2_stored 28 = .ok (.aload_n 0, 1) := by decide +kernel
theorem dX2_stored_29 : decode cX2_stored 29 = .ok (.getfield 118, 3) := by decide +kernel
theorem dX2_stored_32 : decode cX2_stored 32 = .ok (.ireturn, 1) := by decide +kernel
theorem dX2_stored_33 : decode cX2_stored 33 = .ok (.aload_n 0, 1) := by decide +kernel
theorem dX2_stored_34 : decode cX2_stored 34 = .ok (.getfield 70, 3) := by decide +kernel
theorem dX2_stored_37 : decode cX2_stored 37 = .ok (.ireturn, 1) := by decide +kernel
theorem dX2_stored_38 : decode cX2_stored 38 = .ok (.aload_n 0, 1) := by decide +kernel
theorem dX2_stored_39 : decode cX2_stored 39 = .ok (.getfield 73, 3) := by decide +kernel
theorem dX2_stored_42 : decode cX2_stored 42 = .ok (.ireturn, 1) := by decide +kernel
theorem dX2_change_0 : decode cX2_change 0 = .ok (.iload_n 2, 1) := by decide +kernel
theorem dX2_change_1 : decode cX2_change 1 = .ok (.iconst 1, 1) := by decide +kernel
theorem dX2_change_2 : decode cX2_change 2 = .ok (.if_icmp .ne 19, 3) := by decide +kernel
theorem dX2_change_5 : decode cX2_change 5 = .ok (.aload_n 0, 1) := by decide +kernel
theorem dX2_change_6 : decode cX2_change 6 = .ok (.aload_n 0, 1) := by decide +kernel
theorem dX2_change_7 : decode cX2_change 7 = .ok (.iload_n 1, 1) := by decide +kernel
theorem dX2_change_8 : decode cX2_change 8 = .ok (.aload_n 0, 1) := by decide +kernel
theorem dX2_change_9 : decode cX2_change 9 = .ok (.getfield 118, 3) := by decide +kernel
theorem dX2_change_12 : decode cX2_change 12 = .ok (.invokevirtual 134, 3) := by decide +kernel
theorem dX2_change_15 : decode cX2_change 15 = .ok (.putfield 118, 3) := by decide +kernel
theorem dX2_change_18 : decode cX2_change 18 = .ok (.goto 24, 3) := by decide +kernel
theorem dX2_change_21 : decode cX2_change 21 = .ok (.aload_n 0, 1) := by decide +kernel
theorem dX2_change_22 : decode cX2_change 22 = .ok (.getfield 13, 3) := by decide +kernel
theorem dX2_change_25 : decode cX2_change 25 = .ok (.iload_n 3, 1) := by decide +kernel
theorem dX2_change_26 : decode cX2_change 26 = .ok (.aload_n 0, 1) := by decide +kernel
theorem dX2_change_27 : decode cX2_change 27 = .ok (.iload_n 1, 1) := by decide +kernel
theorem dX2_change_28 : decode cX2_change 28 = .ok (.aload_n 0, 1) := by decide +kernel
theorem dX2_change_29 : decode cX2_change 29 = .ok (.getfield 13, 3) := by decide +kernel
theorem dX2_change_32 : decode cX2_change 32 = .ok (.iload_n 3, 1) := by decide +kernel
theorem dX2_change_33 : decode cX2_change 33 = .ok (.invokevirtual 63, 3) := by decide +kernel
theorem dX2_change_36 : decode cX2_change 36 = .ok (.invokevirtual 134, 3) := by decide +kernel
theorem dX2_change_39 : decode cX2_change 39 = .ok (.invokevirtual 93, 3) := by decide +kernel
theorem dX2_change_42 : decode cX2_change 42 = .ok (.return_, 1) := by decide +kernel
theorem dX2_changed_0 : decode cX2_changed 0 = .ok (.iload_n 1, 1) := by decide +kernel
theorem dX2_changed_1 : decode cX2_changed 1 = .ok (.tableswitch 81 16 20 #[35, 42, 49, 61, 73], 35) := by decide +kernel
theorem dX2_changed_36 : decode cX2_changed 36 = .ok (.aload_n 0, 1) := by decide +kernel
theorem dX2_changed_37 : decode cX2_changed 37 = .ok (.iload_n 2, 1) := by decide +kernel
theorem dX2_changed_38 : decode cX2_changed 38 = .ok (.iconst 0, 1) := by decide +kernel
theorem dX2_changed_39 : decode cX2_changed 39 = .ok (.invokevirtual 137, 3) := by decide +kernel
theorem dX2_changed_42 : decode cX2_changed 42 = .ok (.ireturn, 1) := by decide +kernel
theorem dX2_changed_43 : decode cX2_changed 43 = .ok (.aload_n 0, 1) := by decide +kernel
theorem dX2_changed_44 : decode cX2_changed 44 = .ok (.iload_n 2, 1) := by decide +kernel
theorem dX2_changed_45 : decode cX2_changed 45 = .ok (.iconst 0, 1) := by decide +kernel
theorem dX2_changed_46 : decode cX2_changed 46 = .ok (.invokevirtual 140, 3) := by decide +kernel
theorem dX2_changed_49 : decode cX2_changed 49 = .ok (.ireturn, 1) := by decide +kernel
theorem dX2_changed_50 : decode cX2_changed 50 = .ok (.aload_n 0, 1) := by decide +kernel
theorem dX2_changed_51 : decode cX2_changed 51 = .ok (.iload_n 2, 1) := by decide +kernel
theorem dX2_changed_52 : decode cX2_changed 52 = .ok (.aload_n 0, 1) := by decide +kernel
theorem dX2_changed_53 : decode cX2_changed 53 = .ok (.getfield 9, 3) := by decide +kernel
theorem dX2_changed_56 : decode cX2_changed 56 = .ok (.iconst 1, 1) := by decide +kernel
theorem dX2_changed_57 : decode cX2_changed 57 = .ok (.iand, 1) := by decide +kernel
theorem dX2_changed_58 : decode cX2_changed 58 = .ok (.invokevirtual 137, 3) := by decide +kernel
theorem dX2_changed_61 : decode cX2_changed 61 = .ok (.ireturn, 1) := by decide +kernel
theorem dX2_changed_62 : decode cX2_changed 62 = .ok (.aload_n 0, 1) := by decide +kernel
theorem dX2_changed_63 : decode cX2_changed 63 = .ok (.iload_n 2, 1) := by decide +kernel
theorem dX2_changed_64 : decode cX2_changed 64 = .ok (.aload_n 0, 1) := by decide +kernel
theorem dX2_changed_65 : decode cX2_changed 65 = .ok (.getfield 9, 3) := by decide +kernel
theorem dX2_changed_68 : decode cX2_changed 68 = .ok (.iconst 1, 1) := by decide +kernel
theorem dX2_changed_69 : decode cX2_changed 69 = .ok (.iand, 1) := by decide +kernel
theorem dX2_changed_70 : decode cX2_changed 70 = .ok (.invokevirtual 140, 3) := by decide +kernel
theorem dX2_changed_73 : decode cX2_changed 73 = .ok (.ireturn, 1) := by decide +kernel
theorem dX2_changed_74 : decode cX2_changed 74 = .ok (.aload_n 0, 1) := by decide +kernel
theorem dX2_changed_75 : decode cX2_changed 75 = .ok (.iload_n 2, 1) := by decide +kernel
theorem dX2_changed_76 : decode cX2_changed 76 = .ok (.iconst 1, 1) := by decide +kernel
theorem dX2_changed_77 : decode cX2_changed 77 = .ok (.iadd, 1) := by decide +kernel
theorem dX2_changed_78 : decode cX2_changed 78 = .ok (.invokevirtual 115, 3) := by decide +kernel
theorem dX2_changed_81 : decode cX2_changed 81 = .ok (.ireturn, 1) := by decide +kernel
theorem dX2_changed_82 : decode cX2_changed 82 = .ok (.aload_n 0, 1) := by decide +kernel
theorem dX2_changed_83 : decode cX2_changed 83 = .ok (.iload_n 2, 1) := by decide +kernel
theorem dX2_changed_84 : decode cX2_changed 84 = .ok (.iconst 1, 1) := by decide +kernel
theorem dX2_changed_85 : decode cX2_changed 85 = .ok (.isub, 1) := by decide +kernel
theorem dX2_changed_86 : decode cX2_changed 86 = .ok (.invokevirtual 115, 3) := by decide +kernel
theorem dX2_changed_89 : decode cX2_changed 89 = .ok (.ireturn, 1) := by decide +kernel
theorem dX2_shiftedUp_0 : decode cX2_shiftedUp 0 = .ok (.aload_n 0, 1) := by decide +kernel
theorem dX2_shiftedUp_1 : decode cX2_shiftedUp 1 = .ok (.iconst 1, 1) := by decide +kernel
theorem dX2_shiftedUp_2 : decode cX2_shiftedUp 2 = .ok (.iload_n 1, 1) := by decide +kernel
theorem dX2_shiftedUp_3 : decode cX2_shiftedUp 3 = .ok (.sipush 128, 3) := by decide +kernel
theorem dX2_shiftedUp_6 : decode cX2_shiftedUp 6 = .ok (.iand, 1) := by decide +kernel
theorem dX2_shiftedUp_7 : decode cX2_shiftedUp 7 = .ok (.ifCond .eq 7, 3) := by decide +kernel
theorem dX2_shiftedUp_10 : decode cX2_shiftedUp 10 = .ok (.iconst 1, 1) := by decide +kernel
theorem dX2_shiftedUp_11 : decode cX2_shiftedUp 11 = .ok (.goto 4, 3) := by decide +kernel
theorem dX2_shiftedUp_14 : decode cX2_shiftedUp 14 = .ok (.iconst 0, 1) := by decide +kernel
theorem dX2_shiftedUp_15 : decode cX2_shiftedUp 15 = .ok (.invokevirtual 130, 3) := by decide +kernel
theorem dX2_shiftedUp_18 : decode cX2_shiftedUp 18 = .ok (.aload_n 0, 1) := by decide +kernel
theorem dX2_shiftedUp_19 : decode cX2_shiftedUp 19 = .ok (.iload_n 1, 1) := by decide +kernel
theorem dX2_shiftedUp_20 : decode cX2_shiftedUp 20 = .ok (.iconst 1, 1) := by decide +kernel
theorem dX2_shiftedUp_21 : decode cX2_shiftedUp 21 = .ok (.ishl, 1) := by decide +kernel
theorem dX2_shiftedUp_22 : decode cX2_shiftedUp 22 = .ok (.iload_n 2, 1) := by decide +kernel
theorem dX2_shiftedUp_23 : decode cX2_shiftedUp 23 = .ok (.ior, 1) := by decide +kernel
theorem dX2_shiftedUp_24 : decode cX2_shiftedUp 24 = .ok (.invokevirtual 115, 3) := by decide +kernel
theorem dX2_shiftedUp_27 : decode cX2_shiftedUp 27 = .ok (.ireturn, 1) := by decide +kernel
theorem dX2_shiftedDown_0 : decode cX2_shiftedDown 0 = .ok (.aload_n 0, 1) := by decide +kernel
theorem dX2_shiftedDown_1 : decode cX2_shiftedDown 1 = .ok (.iconst 1, 1) := by decide +kernel
theorem dX2_shiftedDown_2 : decode cX2_shiftedDown 2 = .ok (.iload_n 1, 1) := by decide +kernel
theorem dX2_shiftedDown_3 : decode cX2_shiftedDown 3 = .ok (.iconst 1, 1) := by decide +kernel
theorem dX2_shiftedDown_4 : decode cX2_shiftedDown 4 = .ok (.iand, 1) := by decide +kernel
theorem dX2_shiftedDown_5 : decode cX2_shiftedDown 5 = .ok (.ifCond .eq 7, 3) := by decide +kernel
theorem dX2_shiftedDown_8 : decode cX2_shiftedDown 8 = .ok (.iconst 1, 1) := by decide +kernel
theorem dX2_shiftedDown_9 : decode cX2_shiftedDown 9 = .ok (.goto 4, 3) := by decide +kernel
theorem dX2_shiftedDown_12 : decode cX2_shiftedDown 12 = .ok (.iconst 0, 1) := by decide +kernel
theorem dX2_shiftedDown_13 : decode cX2_shiftedDown 13 = .ok (.invokevirtual 130, 3) := by decide +kernel
theorem dX2_shiftedDown_16 : decode cX2_shiftedDown 16 = .ok (.aload_n 0, 1) := by decide +kernel
theorem dX2_shiftedDown_17 : decode cX2_shiftedDown 17 = .ok (.iload_n 1, 1) := by decide +kernel
theorem dX2_shiftedDown_18 : decode cX2_shiftedDown 18 = .ok (.iconst 1, 1) := by decide +kernel
theorem dX2_shiftedDown_19 : decode cX2_shiftedDown 19 = .ok (.ishr, 1) := by decide +kernel
theorem dX2_shiftedDown_20 : decode cX2_shiftedDown 20 = .ok (.iload_n 2, 1) := by decide +kernel
theorem dX2_shiftedDown_21 : decode cX2_shiftedDown 21 = .ok (.bipush 7, 2) := by decide +kernel
theorem dX2_shiftedDown_23 : decode cX2_shiftedDown 23 = .ok (.ishl, 1) := by decide +kernel
theorem dX2_shiftedDown_24 : decode cX2_shiftedDown 24 = .ok (.ior, 1) := by decide +kernel
theorem dX2_shiftedDown_25 : decode cX2_shiftedDown 25 = .ok (.invokevirtual 115, 3) := by decide +kernel
theorem dX2_shiftedDown_28 : decode cX2_shiftedDown 28 = .ok (.ireturn, 1) := by decide +kernel
theorem dX2_branch_0 : decode cX2_branch 0 = .ok (.aload_n 0, 1) := by decide +kernel
theorem dX2_branch_1 : decode cX2_branch 1 = .ok (.iload_n 1, 1) := by decide +kernel
theorem dX2_branch_2 : decode cX2_branch 2 = .ok (.invokevirtual 143, 3) := by decide +kernel
theorem dX2_branch_5 : decode cX2_branch 5 = .ok (.ifCond .ne 5, 3) := by decide +kernel
theorem dX2_branch_8 : decode cX2_branch 8 = .ok (.iconst 0, 1) := by decide +kernel
theorem dX2_branch_9 : decode cX2_branch 9 = .ok (.ireturn, 1) := by decide +kernel
theorem dX2_branch_10 : decode cX2_branch 10 = .ok (.iconst 1, 1) := by decide +kernel
theorem dX2_branch_11 : decode cX2_branch 11 = .ok (.aload_n 0, 1) := by decide +kernel
theorem dX2_branch_12 : decode cX2_branch 12 = .ok (.getfield 27, 3) := by decide +kernel
theorem dX2_branch_15 : decode cX2_branch 15 = .ok (.iload_n 2, 1) := by decide +kernel
theorem dX2_branch_16 : decode cX2_branch 16 = .ok (.invokestatic 83, 3) := by decide +kernel
theorem dX2_branch_19 : decode cX2_branch 19 = .ok (.iadd, 1) := by decide +kernel
theorem dX2_branch_20 : decode cX2_branch 20 = .ok (.istore_n 3, 1) := by decide +kernel
theorem dX2_branch_21 : decode cX2_branch 21 = .ok (.aload_n 0, 1) := by decide +kernel
theorem dX2_branch_22 : decode cX2_branch 22 = .ok (.iload_n 2, 1) := by decide +kernel
theorem dX2_branch_23 : decode cX2_branch 23 = .ok (.putfield 27, 3) := by decide +kernel
theorem dX2_branch_26 : decode cX2_branch 26 = .ok (.iload_n 3, 1) := by decide +kernel
theorem dX2_branch_27 : decode cX2_branch 27 = .ok (.ireturn, 1) := by decide +kernel
theorem dX2_branchTaken_0 : decode cX2_branchTaken 0 = .ok (.iload_n 1, 1) := by decide +kernel
theorem dX2_branchTaken_1 : decode cX2_branchTaken 1 = .ok (.tableswitch 154 22 28 #[43, 60, 77, 93, 109, 124, 139], 43) := by decide +kernel
theorem dX2_branchTaken_44 : decode cX2_branchTaken 44 = .ok (.aload_n 0, 1) := by decide +kernel
theorem dX2_branchTaken_45 : decode cX2_branchTaken 45 = .ok (.getfield 9, 3) := by decide +kernel
theorem dX2_branchTaken_48 : decode cX2_branchTaken 48 = .ok (.sipush 128, 3) := by decide +kernel
theorem dX2_branchTaken_51 : decode cX2_branchTaken 51 = .ok (.iand, 1) := by decide +kernel
theorem dX2_branchTaken_52 : decode cX2_branchTaken 52 = .ok (.ifCond .ne 7, 3) := by decide +kernel
theorem dX2_branchTaken_55 : decode cX2_branchTaken 55 = .ok (.iconst 1, 1) := by decide +kernel
theorem dX2_branchTaken_56 : decode cX2_branchTaken 56 = .ok (.goto 4, 3) := by decide +kernel
theorem dX2_branchTaken_59 : decode cX2_branchTaken 59 = .ok (.iconst 0, 1) := by decide +kernel
theorem dX2_branchTaken_60 : decode cX2_branchTaken 60 = .ok (.ireturn, 1) := by decide +kernel
theorem dX2_branchTaken_61 : decode cX2_branchTaken 61 = .ok (.aload_n 0, 1) := by decide +kernel
theorem dX2_branchTaken_62 : decode cX2_branchTaken 62 = .ok (.getfield 9, 3) := by decide +kernel
theorem dX2_branchTaken_65 : decode cX2_branchTaken 65 = .ok (.sipush 128, 3) := by decide +kernel
theorem dX2_branchTaken_68 : decode cX2_branchTaken 68 = .ok (.iand, 1) := by decide +kernel
theorem dX2_branchTaken_69 : decode cX2_branchTaken 69 = .ok (.ifCond .eq 7, 3) := by decide +kernel
theorem dX2_branchTaken_72 : decode cX2_branchTaken 72 = .ok (.iconst 1, 1) := by decide +kernel
theorem dX2_branchTaken_73 : decode cX2_branchTaken 73 = .ok (.goto 4, 3) := by decide +kernel
theorem dX2_branchTaken_76 : decode cX2_branchTaken 76 = .ok (.iconst 0, 1) := by decide +kernel
theorem dX2_branchTaken_77 : decode cX2_branchTaken 77 = .ok (.ireturn, 1) := by decide +kernel
theorem dX2_branchTaken_78 : decode cX2_branchTaken 78 = .ok (.aload_n 0, 1) := by decide +kernel
theorem dX2_branchTaken_79 : decode cX2_branchTaken 79 = .ok (.getfield 9, 3) := by decide +kernel
theorem dX2_branchTaken_82 : decode cX2_branchTaken 82 = .ok (.bipush 64, 2) := by decide +kernel
theorem dX2_branchTaken_84 : decode cX2_branchTaken 84 = .ok (.iand, 1) := by decide +kernel
theorem dX2_branchTaken_85 : decode cX2_branchTaken 85 = .ok (.ifCond .ne 7, 3) := by decide +kernel
theorem dX2_branchTaken_88 : decode cX2_branchTaken 88 = .ok (.iconst 1, 1) := by decide +kernel
theorem dX2_branchTaken_89 : decode cX2_branchTaken 89 = .ok (.goto 4, 3) := by decide +kernel
theorem dX2_branchTaken_92 : decode cX2_branchTaken 92 = .ok (.iconst 0, 1) := by decide +kernel
theorem dX2_branchTaken_93 : decode cX2_branchTaken 93 = .ok (.ireturn, 1) := by decide +kernel
theorem dX2_branchTaken_94 : decode cX2_branchTaken 94 = .ok (.aload_n 0, 1) := by decide +kernel
theorem dX2_branchTaken_95 : decode cX2_branchTaken 95 = .ok (.getfield 9, 3) := by decide +kernel
theorem dX2_branchTaken_98 : decode cX2_branchTaken 98 = .ok (.bipush 64, 2) := by decide +kernel
theorem dX2_branchTaken_100 : decode cX2_branchTaken 100 = .ok (.iand, 1) := by decide +kernel
theorem dX2_branchTaken_101 : decode cX2_branchTaken 101 = .ok (.ifCond .eq 7, 3) := by decide +kernel
theorem dX2_branchTaken_104 : decode cX2_branchTaken 104 = .ok (.iconst 1, 1) := by decide +kernel
theorem dX2_branchTaken_105 : decode cX2_branchTaken 105 = .ok (.goto 4, 3) := by decide +kernel
theorem dX2_branchTaken_108 : decode cX2_branchTaken 108 = .ok (.iconst 0, 1) := by decide +kernel
theorem dX2_branchTaken_109 : decode cX2_branchTaken 109 = .ok (.ireturn, 1) := by decide +kernel
theorem dX2_branchTaken_110 : decode cX2_branchTaken 110 = .ok (.aload_n 0, 1) := by decide +kernel
theorem dX2_branchTaken_111 : decode cX2_branchTaken 111 = .ok (.getfield 9, 3) := by decide +kernel
theorem dX2_branchTaken_114 : decode cX2_branchTaken 114 = .ok (.iconst 1, 1) := by decide +kernel
theorem dX2_branchTaken_115 : decode cX2_branchTaken 115 = .ok (.iand, 1) := by decide +kernel
theorem dX2_branchTaken_116 : decode cX2_branchTaken 116 = .ok (.ifCond .ne 7, 3) := by decide +kernel
theorem dX2_branchTaken_119 : decode cX2_branchTaken 119 = .ok (.iconst 1, 1) := by decide +kernel
theorem dX2_branchTaken_120 : decode cX2_branchTaken 120 = .ok (.goto 4, 3) := by decide +kernel
theorem dX2_branchTaken_123 : decode cX2_branchTaken 123 = .ok (.iconst 0, 1) := by decide +kernel
theorem dX2_branchTaken_124 : decode cX2_branchTaken 124 = .ok (.ireturn, 1) := by decide +kernel
theorem dX2_branchTaken_125 : decode cX2_branchTaken 125 = .ok (.aload_n 0, 1) := by decide +kernel
theorem dX2_branchTaken_126 : decode cX2_branchTaken 126 = .ok (.getfield 9, 3) := by decide +kernel
theorem dX2_branchTaken_129 : decode cX2_branchTaken 129 = .ok (.iconst 1, 1) := by decide +kernel
theorem dX2_branchTaken_130 : decode cX2_branchTaken 130 = .ok (.iand, 1) := by decide +kernel
theorem dX2_branchTaken_131 : decode cX2_branchTaken 131 = .ok (.ifCond .eq 7, 3) := by decide +kernel
theorem dX2_branchTaken_134 : decode cX2_branchTaken 134 = .ok (.iconst 1, 1) := by decide +kernel
theorem dX2_branchTaken_135 : decode cX2_branchTaken 135 = .ok (.goto 4, 3) := by decide +kernel
theorem dX2_branchTaken_138 : decode cX2_branchTaken 138 = .ok (.iconst 0, 1) := by decide +kernel
theorem dX2_branchTaken_139 : decode cX2_branchTaken 139 = .ok (.ireturn, 1) := by decide +kernel
theorem dX2_branchTaken_140 : decode cX2_branchTaken 140 = .ok (.aload_n 0, 1) := by decide +kernel
theorem dX2_branchTaken_141 : decode cX2_branchTaken 141 = .ok (.getfield 9, 3) := by decide +kernel
theorem dX2_branchTaken_144 : decode cX2_branchTaken 144 = .ok (.iconst 2, 1) := by decide +kernel
theorem dX2_branchTaken_145 : decode cX2_branchTaken 145 = .ok (.iand, 1) := by decide +kernel
theorem dX2_branchTaken_146 : decode cX2_branchTaken 146 = .ok (.ifCond .ne 7, 3) := by decide +kernel
theorem dX2_branchTaken_149 : decode cX2_branchTaken 149 = .ok (.iconst 1, 1) := by decide +kernel
theorem dX2_branchTaken_150 : decode cX2_branchTaken 150 = .ok (.goto 4, 3) := by decide +kernel
theorem dX2_branchTaken_153 : decode cX2_branchTaken 153 = .ok (.iconst 0, 1) := by decide +kernel
theorem dX2_branchTaken_154 : decode cX2_branchTaken 154 = .ok (.ireturn, 1) := by decide +kernel
theorem dX2_branchTaken_155 : decode cX2_branchTaken 155 = .ok (.aload_n 0, 1) := by decide +kernel
theorem dX2_branchTaken_156 : decode cX2_branchTaken 156 = .ok (.getfield 9, 3) := by decide +kernel
theorem dX2_branchTaken_159 : decode cX2_branchTaken 159 = .ok (.iconst 2, 1) := by decide +kernel
theorem dX2_branchTaken_160 : decode cX2_branchTaken 160 = .ok (.iand, 1) := by decide +kernel
theorem dX2_branchTaken_161 : decode cX2_branchTaken 161 = .ok (.ifCond .eq 7, 3) := by decide +kernel
theorem dX2_branchTaken_164 : decode cX2_branchTaken 164 = .ok (.iconst 1, 1) := by decide +kernel
theorem dX2_branchTaken_165 : decode cX2_branchTaken 165 = .ok (.goto 4, 3) := by decide +kernel
theorem dX2_branchTaken_168 : decode cX2_branchTaken 168 = .ok (.iconst 0, 1) := by decide +kernel
theorem dX2_branchTaken_169 : decode cX2_branchTaken 169 = .ok (.ireturn, 1) := by decide +kernel
theorem dX2_changeRegister_0 : decode cX2_changeRegister 0 = .ok (.iload_n 1, 1) := by decide +kernel
theorem dX2_changeRegister_1 : decode cX2_changeRegister 1 = .ok (.tableswitch 188 30 38 #[51, 66, 81, 96, 111, 126, 137, 154, 171], 51) := by decide +kernel
theorem dX2_changeRegister_52 : decode cX2_changeRegister 52 = .ok (.aload_n 0, 1) := by decide +kernel
theorem dX2_changeRegister_53 : decode cX2_changeRegister 53 = .ok (.aload_n 0, 1) := by decide +kernel
theorem dX2_changeRegister_54 : decode cX2_changeRegister 54 = .ok (.aload_n 0, 1) := by decide +kernel
theorem dX2_changeRegister_55 : decode cX2_changeRegister 55 = .ok (.getfield 118, 3) := by decide +kernel
theorem dX2_changeRegister_58 : decode cX2_changeRegister 58 = .ok (.invokevirtual 115, 3) := by decide +kernel
theorem dX2_changeRegister_61 : decode cX2_changeRegister 61 = .ok (.putfield 70, 3) := by decide +kernel
theorem dX2_changeRegister_64 : decode cX2_changeRegister 64 = .ok (.goto 139, 3) := by decide +kernel
theorem dX2_changeRegister_67 : decode cX2_changeRegister 67 = .ok (.aload_n 0, 1) := by decide +kernel
theorem dX2_changeRegister_68 : decode cX2_changeRegister 68 = .ok (.aload_n 0, 1) := by decide +kernel
theorem dX2_changeRegister_69 : decode cX2_changeRegister 69 = .ok (.aload_n 0, 1) := by decide +kernel
theorem dX2_changeRegister_70 : decode cX2_changeRegister 70 = .ok (.getfield 118, 3) := by decide +kernel
theorem dX2_changeRegister_73 : decode cX2_changeRegister 73 = .ok (.invokevirtual 115, 3) := by decide +kernel
theorem dX2_changeRegister_76 : decode cX2_changeRegister 76 = .ok (.putfield 73, 3) := by decide +kernel
theorem dX2_changeRegister_79 : decode cX2_changeRegister 79 = .ok (.goto 124, 3) := by decide +kernel
theorem dX2_changeRegister_82 : decode cX2_changeRegister 82 = .ok (.aload_n 0, 1) := by decide +kernel
theorem dX2_changeRegister_83 : decode cX2_changeRegister 83 = .ok (.aload_n 0, 1) := by decide +kernel
theorem dX2_changeRegister_84 : decode cX2_changeRegister 84 = .ok (.aload_n 0, 1) := by decide +kernel
theorem dX2_changeRegister_85 : decode cX2_changeRegister 85 = .ok (.getfield 70, 3) := by decide +kernel
theorem dX2_changeRegister_88 : decode cX2_changeRegister 88 = .ok (.invokevirtual 115, 3) := by decide +kernel
theorem dX2_changeRegister_91 : decode cX2_changeRegister 91 = .ok (.putfield 118, 3) := by decide +kernel
theorem dX2_changeRegister_94 : decode cX2_changeRegister 94 = .ok (.goto 109, 3) := by decide +kernel
theorem dX2_changeRegister_97 : decode cX2_changeRegister 97 = .ok (.aload_n 0, 1) := by decide +kernel
theorem dX2_changeRegister_98 : decode cX2_changeRegister 98 = .ok (.aload_n 0, 1) := by decide +kernel
theorem dX2_changeRegister_99 : decode cX2_changeRegister 99 = .ok (.aload_n 0, 1) := by decide +kernel
theorem dX2_changeRegister_100 : decode cX2_changeRegister 100 = .ok (.getfield 73, 3) := by decide +kernel
theorem dX2_changeRegister_103 : decode cX2_changeRegister 103 = .ok (.invokevirtual 115, 3) := by decide +kernel
theorem dX2_changeRegister_106 : decode cX2_changeRegister 106 = .ok (.putfield 118, 3) := by decide +kernel
theorem dX2_changeRegister_109 : decode cX2_changeRegister 109 = .ok (.goto 94, 3) := by decide +kernel
theorem dX2_changeRegister_112 : decode cX2_changeRegister 112 = .ok (.aload_n 0, 1) := by decide +kernel
theorem dX2_changeRegister_113 : decode cX2_changeRegister 113 = .ok (.aload_n 0, 1) := by decide +kernel
theorem dX2_changeRegister_114 : decode cX2_changeRegister 114 = .ok (.aload_n 0, 1) := by decide +kernel
theorem dX2_changeRegister_115 : decode cX2_changeRegister 115 = .ok (.getfield 17, 3) := by decide +kernel
theorem dX2_changeRegister_118 : decode cX2_changeRegister 118 = .ok (.invokevirtual 115, 3) := by decide +kernel
theorem dX2_changeRegister_121 : decode cX2_changeRegister 121 = .ok (.putfield 70, 3) := by decide +kernel
theorem dX2_changeRegister_124 : decode cX2_changeRegister 124 = .ok (.goto 79, 3) := by decide +kernel
theorem dX2_changeRegister_127 : decode cX2_changeRegister 127 = .ok (.aload_n 0, 1) := by decide +kernel
theorem dX2_changeRegister_128 : decode cX2_changeRegister 128 = .ok (.aload_n 0, 1) := by decide +kernel
theorem dX2_changeRegister_129 : decode cX2_changeRegister 129 = .ok (.getfield 70, 3) := by decide +kernel
theorem dX2_changeRegister_132 : decode cX2_changeRegister 132 = .ok (.putfield 17, 3) := by decide +kernel
theorem dX2_changeRegister_135 : decode cX2_changeRegister 135 = .ok (.goto 68, 3) := by decide +kernel
theorem dX2_changeRegister_138 : decode cX2_changeRegister 138 = .ok (.aload_n 0, 1) := by decide +kernel
theorem dX2_changeRegister_139 : decode cX2_changeRegister 139 = .ok (.aload_n 0, 1) := by decide +kernel
theorem dX2_changeRegister_140 : decode cX2_changeRegister 140 = .ok (.aload_n 0, 1) := by decide +kernel
theorem dX2_changeRegister_141 : decode cX2_changeRegister 141 = .ok (.getfield 70, 3) := by decide +kernel
theorem dX2_changeRegister_144 : decode cX2_changeRegister 144 = .ok (.iconst 1, 1) := by decide +kernel
theorem dX2_changeRegister_145 : decode cX2_changeRegister 145 = .ok (.iadd, 1) := by decide +kernel
theorem dX2_changeRegister_146 : decode cX2_changeRegister 146 = .ok (.invokevirtual 115, 3) := by decide +kernel
theorem dX2_changeRegister_149 : decode cX2_changeRegister 149 = .ok (.putfield 70, 3) := by decide +kernel
theorem dX2_changeRegister_152 : decode cX2_changeRegister 152 = .ok (.goto 51, 3) := by decide +kernel
theorem dX2_changeRegister_155 : decode cX2_changeRegister 155 = .ok (.aload_n 0, 1) := by decide +kernel
theorem dX2_changeRegister_156 : decode cX2_changeRegister 156 = .ok (.aload_n 0, 1) := by decide +kernel
theorem dX2_changeRegister_157 : decode cX2_changeRegister 157 = .ok (.aload_n 0, 1) := by decide +kernel
theorem dX2_changeRegister_158 : decode cX2_changeRegister 158 = .ok (.getfield 73, 3) := by decide +kernel
theorem dX2_changeRegister_161 : decode cX2_changeRegister 161 = .ok (.iconst 1, 1) := by decide +kernel
theorem dX2_changeRegister_162 : decode cX2_changeRegister 162 = .ok (.iadd, 1) := by decide +kernel
theorem dX2_changeRegister_163 : decode cX2_changeRegister 163 = .ok (.invokevirtual 115, 3) := by decide +kernel
theorem dX2_changeRegister_166 : decode cX2_changeRegister 166 = .ok (.putfield 73, 3) := by decide +kernel
theorem dX2_changeRegister_169 : decode cX2_changeRegister 169 = .ok (.goto 34, 3) := by decide +kernel
theorem dX2_changeRegister_172 : decode cX2_changeRegister 172 = .ok (.aload_n 0, 1) := by decide +kernel
theorem dX2_changeRegister_173 : decode cX2_changeRegister 173 = .ok (.aload_n 0, 1) := by decide +kernel
theorem dX2_changeRegister_174 : decode cX2_changeRegister 174 = .ok (.aload_n 0, 1) := by decide +kernel
theorem dX2_changeRegister_175 : decode cX2_changeRegister 175 = .ok (.getfield 70, 3) := by decide +kernel
theorem dX2_changeRegister_178 : decode cX2_changeRegister 178 = .ok (.iconst 1, 1) := by decide +kernel
theorem dX2_changeRegister_179 : decode cX2_changeRegister 179 = .ok (.isub, 1) := by decide +kernel
theorem dX2_changeRegister_180 : decode cX2_changeRegister 180 = .ok (.invokevirtual 115, 3) := by decide +kernel
theorem dX2_changeRegister_183 : decode cX2_changeRegister 183 = .ok (.putfield 70, 3) := by decide +kernel
theorem dX2_changeRegister_186 : decode cX2_changeRegister 186 = .ok (.goto 17, 3) := by decide +kernel
theorem dX2_changeRegister_189 : decode cX2_changeRegister 189 = .ok (.aload_n 0, 1) := by decide +kernel
theorem dX2_changeRegister_190 : decode cX2_changeRegister 190 = .ok (.aload_n 0, 1) := by decide +kernel
theorem dX2_changeRegister_191 : decode cX2_changeRegister 191 = .ok (.aload_n 0, 1) := by decide +kernel
theorem dX2_changeRegister_192 : decode cX2_changeRegister 192 = .ok (.getfield 73, 3) := by decide +kernel
theorem dX2_changeRegister_195 : decode cX2_changeRegister 195 = .ok (.iconst 1, 1) := by decide +kernel
theorem dX2_changeRegister_196 : decode cX2_changeRegister 196 = .ok (.isub, 1) := by decide +kernel
theorem dX2_changeRegister_197 : decode cX2_changeRegister 197 = .ok (.invokevirtual 115, 3) := by decide +kernel
theorem dX2_changeRegister_200 : decode cX2_changeRegister 200 = .ok (.putfield 73, 3) := by decide +kernel
theorem dX2_changeRegister_203 : decode cX2_changeRegister 203 = .ok (.return_, 1) := by decide +kernel
theorem dX2_changeFlag_0 : decode cX2_changeFlag 0 = .ok (.iload_n 1, 1) := by decide +kernel
theorem dX2_changeFlag_1 : decode cX2_changeFlag 1 = .ok (.tableswitch 109 40 46 #[43, 52, 61, 70, 79, 89, 99], 43) := by decide +kernel
theorem dX2_changeFlag_44 : decode cX2_changeFlag 44 = .ok (.aload_n 0, 1) := by decide +kernel
theorem dX2_changeFlag_45 : decode cX2_changeFlag 45 = .ok (.iconst 1, 1) := by decide +kernel
theorem dX2_changeFlag_46 : decode cX2_changeFlag 46 = .ok (.iconst 0, 1) := by decide +kernel
theorem dX2_changeFlag_47 : decode cX2_changeFlag 47 = .ok (.invokevirtual 130, 3) := by decide +kernel
theorem dX2_changeFlag_50 : decode cX2_changeFlag 50 = .ok (.goto 60, 3) := by decide +kernel
theorem dX2_changeFlag_53 : decode cX2_changeFlag 53 = .ok (.aload_n 0, 1) := by decide +kernel
theorem dX2_changeFlag_54 : decode cX2_changeFlag 54 = .ok (.iconst 1, 1) := by decide +kernel
theorem dX2_changeFlag_55 : decode cX2_changeFlag 55 = .ok (.iconst 1, 1) := by decide +kernel
theorem dX2_changeFlag_56 : decode cX2_changeFlag 56 = .ok (.invokevirtual 130, 3) := by decide +kernel
theorem dX2_changeFlag_59 : decode cX2_changeFlag 59 = .ok (.goto 51, 3) := by decide +kernel
theorem dX2_changeFlag_62 : decode cX2_changeFlag 62 = .ok (.aload_n 0, 1) := by decide +kernel
theorem dX2_changeFlag_63 : decode cX2_changeFlag 63 = .ok (.iconst 4, 1) := by decide +kernel
theorem dX2_changeFlag_64 : decode cX2_changeFlag 64 = .ok (.iconst 0, 1) := by decide +kernel
theorem dX2_changeFlag_65 : decode cX2_changeFlag 65 = .ok (.invokevirtual 130, 3) := by decide +kernel
theorem dX2_changeFlag_68 : decode cX2_changeFlag 68 = .ok (.goto 42, 3) := by decide +kernel
theorem dX2_changeFlag_71 : decode cX2_changeFlag 71 = .ok (.aload_n 0, 1) := by decide +kernel
theorem dX2_changeFlag_72 : decode cX2_changeFlag 72 = .ok (.iconst 4, 1) := by decide +kernel
theorem dX2_changeFlag_73 : decode cX2_changeFlag 73 = .ok (.iconst 1, 1) := by decide +kernel
theorem dX2_changeFlag_74 : decode cX2_changeFlag 74 = .ok (.invokevirtual 130, 3) := by decide +kernel
theorem dX2_changeFlag_77 : decode cX2_changeFlag 77 = .ok (.goto 33, 3) := by decide +kernel
theorem dX2_changeFlag_80 : decode cX2_changeFlag 80 = .ok (.aload_n 0, 1) := by decide +kernel
theorem dX2_changeFlag_81 : decode cX2_changeFlag 81 = .ok (.bipush 64, 2) := by decide +kernel
theorem dX2_changeFlag_83 : decode cX2_changeFlag 83 = .ok (.iconst 0, 1) := by decide +kernel
theorem dX2_changeFlag_84 : decode cX2_changeFlag 84 = .ok (.invokevirtual 130, 3) := by decide +kernel
theorem dX2_changeFlag_87 : decode cX2_changeFlag 87 = .ok (.goto 23, 3) := by decide +kernel
theorem dX2_changeFlag_90 : decode cX2_changeFlag 90 = .ok (.aload_n 0, 1) := by decide +kernel
theorem dX2_changeFlag_91 : decode cX2_changeFlag 91 = .ok (.bipush 8, 2) := by decide +kernel
theorem dX2_changeFlag_93 : decode cX2_changeFlag 93 = .ok (.iconst 0, 1) := by decide +kernel
theorem dX2_changeFlag_94 : decode cX2_changeFlag 94 = .ok (.invokevirtual 130, 3) := by decide +kernel
theorem dX2_changeFlag_97 : decode cX2_changeFlag 97 = .ok (.goto 13, 3) := by decide +kernel
theorem dX2_changeFlag_100 : decode cX2_changeFlag 100 = .ok (.aload_n 0, 1) := by decide +kernel
theorem dX2_changeFlag_101 : decode cX2_changeFlag 101 = .ok (.bipush 8, 2) := by decide +kernel
theorem dX2_changeFlag_103 : decode cX2_changeFlag 103 = .ok (.iconst 1, 1) := by decide +kernel
theorem dX2_changeFlag_104 : decode cX2_changeFlag 104 = .ok (.invokevirtual 130, 3) := by decide +kernel
theorem dX2_changeFlag_107 : decode cX2_changeFlag 107 = .ok (.goto 3, 3) := by decide +kernel
theorem dX2_changeFlag_110 : decode cX2_changeFlag 110 = .ok (.return_, 1) := by decide +kernel
theorem dX2_useStack_0 : decode cX2_useStack 0 = .ok (.iload_n 1, 1) := by decide +kernel
theorem dX2_useStack_1 : decode cX2_useStack 1 = .ok (.tableswitch 67 48 50 #[27, 38, 52], 27) := by decide +kernel
theorem dX2_useStack_28 : decode cX2_useStack 28 = .ok (.aload_n 0, 1) := by decide +kernel
theorem dX2_useStack_29 : decode cX2_useStack 29 = .ok (.aload_n 0, 1) := by decide +kernel
theorem dX2_useStack_30 : decode cX2_useStack 30 = .ok (.getfield 118, 3) := by decide +kernel
theorem dX2_useStack_33 : decode cX2_useStack 33 = .ok (.invokevirtual 147, 3) := by decide +kernel
theorem dX2_useStack_36 : decode cX2_useStack 36 = .ok (.goto 36, 3) := by decide +kernel
theorem dX2_useStack_39 : decode cX2_useStack 39 = .ok (.aload_n 0, 1) := by decide +kernel
theorem dX2_useStack_40 : decode cX2_useStack 40 = .ok (.aload_n 0, 1) := by decide +kernel
theorem dX2_useStack_41 : decode cX2_useStack 41 = .ok (.getfield 9, 3) := by decide +kernel
theorem dX2_useStack_44 : decode cX2_useStack 44 = .ok (.bipush 16, 2) := by decide +kernel
theorem dX2_useStack_46 : decode cX2_useStack 46 = .ok (.ior, 1) := by decide +kernel
theorem dX2_useStack_47 : decode cX2_useStack 47 = .ok (.invokevirtual 147, 3) := by decide +kernel
theorem dX2_useStack_50 : decode cX2_useStack 50 = .ok (.goto 22, 3) := by decide +kernel
theorem dX2_useStack_53 : decode cX2_useStack 53 = .ok (.aload_n 0, 1) := by decide +kernel
theorem dX2_useStack_54 : decode cX2_useStack 54 = .ok (.aload_n 0, 1) := by decide +kernel
theorem dX2_useStack_55 : decode cX2_useStack 55 = .ok (.aload_n 0, 1) := by decide +kernel
theorem dX2_useStack_56 : decode cX2_useStack 56 = .ok (.invokevirtual 150, 3) := by decide +kernel
theorem dX2_useStack_59 : decode cX2_useStack 59 = .ok (.invokevirtual 115, 3) := by decide +kernel
theorem dX2_useStack_62 : decode cX2_useStack 62 = .ok (.putfield 118, 3) := by decide +kernel
theorem dX2_useStack_65 : decode cX2_useStack 65 = .ok (.goto 7, 3) := by decide +kernel
theorem dX2_useStack_68 : decode cX2_useStack 68 = .ok (.aload_n 0, 1) := by decide +kernel
theorem dX2_useStack_69 : decode cX2_useStack 69 = .ok (.invokevirtual 153, 3) := by decide +kernel
theorem dX2_useStack_72 : decode cX2_useStack 72 = .ok (.return_, 1) := by decide +kernel
theorem dX2_jump_0 : decode cX2_jump 0 = .ok (.iload_n 1, 1) := by decide +kernel
theorem dX2_jump_1 : decode cX2_jump 1 = .ok (.tableswitch 88 52 55 #[31, 39, 57, 73], 31) := by decide +kernel
theorem dX2_jump_32 : decode cX2_jump 32 = .ok (.aload_n 0, 1) := by decide +kernel
theorem dX2_jump_33 : decode cX2_jump 33 = .ok (.iload_n 2, 1) := by decide +kernel
theorem dX2_jump_34 : decode cX2_jump 34 = .ok (.putfield 27, 3) := by decide +kernel
theorem dX2_jump_37 : decode cX2_jump 37 = .ok (.goto 71, 3) := by decide +kernel
theorem dX2_jump_40 : decode cX2_jump 40 = .ok (.aload_n 0, 1) := by decide +kernel
theorem dX2_jump_41 : decode cX2_jump 41 = .ok (.aload_n 0, 1) := by decide +kernel
theorem dX2_jump_42 : decode cX2_jump 42 = .ok (.getfield 27, 3) := by decide +kernel
theorem dX2_jump_45 : decode cX2_jump 45 = .ok (.iconst 1, 1) := by decide +kernel
theorem dX2_jump_46 : decode cX2_jump 46 = .ok (.isub, 1) := by decide +kernel
theorem dX2_jump_47 : decode cX2_jump 47 = .ok (.invokevirtual 156, 3) := by decide +kernel
theorem dX2_jump_50 : decode cX2_jump 50 = .ok (.aload_n 0, 1) := by decide +kernel
theorem dX2_jump_51 : decode cX2_jump 51 = .ok (.iload_n 2, 1) := by decide +kernel
theorem dX2_jump_52 : decode cX2_jump 52 = .ok (.putfield 27, 3) := by decide +kernel
theorem dX2_jump_55 : decode cX2_jump 55 = .ok (.goto 53, 3) := by decide +kernel
theorem dX2_jump_58 : decode cX2_jump 58 = .ok (.aload_n 0, 1) := by decide +kernel
theorem dX2_jump_59 : decode cX2_jump 59 = .ok (.aload_n 0, 1) := by decide +kernel
theorem dX2_jump_60 : decode cX2_jump 60 = .ok (.invokevirtual 159, 3) := by decide +kernel
theorem dX2_jump_63 : decode cX2_jump 63 = .ok (.iconst 1, 1) := by decide +kernel
theorem dX2_jump_64 : decode cX2_jump 64 = .ok (.iadd, 1) := by decide +kernel
theorem dX2_jump_65 : decode cX2_jump 65 = .ok (.ldc 66, 2) := by decide +kernel
theorem dX2_jump_67 : decode cX2_jump 67 = .ok (.iand, 1) := by decide +kernel
theorem dX2_jump_68 : decode cX2_jump 68 = .ok (.putfield 27, 3) := by decide +kernel
theorem dX2_jump_71 : decode cX2_jump 71 = .ok (.goto 37, 3) := by decide +kernel
theorem dX2_jump_74 : decode cX2_jump 74 = .ok (.aload_n 0, 1) := by decide +kernel
theorem dX2_jump_75 : decode cX2_jump 75 = .ok (.invokevirtual 153, 3) := by decide +kernel
theorem dX2_jump_78 : decode cX2_jump 78 = .ok (.aload_n 0, 1) := by decide +kernel
theorem dX2_jump_79 : decode cX2_jump 79 = .ok (.aload_n 0, 1) := by decide +kernel
theorem dX2_jump_80 : decode cX2_jump 80 = .ok (.invokevirtual 159, 3) := by decide +kernel
theorem dX2_jump_83 : decode cX2_jump 83 = .ok (.putfield 27, 3) := by decide +kernel
theorem dX2_jump_86 : decode cX2_jump 86 = .ok (.goto 22, 3) := by decide +kernel
theorem dX2_jump_89 : decode cX2_jump 89 = .ok (.aload_n 0, 1) := by decide +kernel
theorem dX2_jump_90 : decode cX2_jump 90 = .ok (.ldc 35, 2) := by decide +kernel
theorem dX2_jump_92 : decode cX2_jump 92 = .ok (.aload_n 0, 1) := by decide +kernel
theorem dX2_jump_93 : decode cX2_jump 93 = .ok (.getfield 27, 3) := by decide +kernel
theorem dX2_jump_96 : decode cX2_jump 96 = .ok (.iconst 1, 1) := by decide +kernel
theorem dX2_jump_97 : decode cX2_jump 97 = .ok (.iadd, 1) := by decide +kernel
theorem dX2_jump_98 : decode cX2_jump 98 = .ok (.aload_n 0, 1) := by decide +kernel
theorem dX2_jump_99 : decode cX2_jump 99 = .ok (.getfield 9, 3) := by decide +kernel
theorem dX2_jump_102 : decode cX2_jump 102 = .ok (.bipush 16, 2) := by decide +kernel
theorem dX2_jump_104 : decode cX2_jump 104 = .ok (.ior, 1) := by decide +kernel
theorem dX2_jump_105 : decode cX2_jump 105 = .ok (.invokevirtual 31, 3) := by decide +kernel
theorem dX2_jump_108 : decode cX2_jump 108 = .ok (.return_, 1) := by decide +kernel
theorem dX2_enter_0 : decode cX2_enter 0 = .ok (.aload_n 0, 1) := by decide +kernel
theorem dX2_enter_1 : decode cX2_enter 1 = .ok (.iload_n 2, 1) := by decide +kernel
theorem dX2_enter_2 : decode cX2_enter 2 = .ok (.invokevirtual 156, 3) := by decide +kernel
theorem dX2_enter_5 : decode cX2_enter 5 = .ok (.aload_n 0, 1) := by decide +kernel
theorem dX2_enter_6 : decode cX2_enter 6 = .ok (.iload_n 3, 1) := by decide +kernel
theorem dX2_enter_7 : decode cX2_enter 7 = .ok (.invokevirtual 147, 3) := by decide +kernel
theorem dX2_enter_10 : decode cX2_enter 10 = .ok (.aload_n 0, 1) := by decide +kernel
theorem dX2_enter_11 : decode cX2_enter 11 = .ok (.dup, 1) := by decide +kernel
theorem dX2_enter_12 : decode cX2_enter 12 = .ok (.getfield 9, 3) := by decide +kernel
theorem dX2_enter_15 : decode cX2_enter 15 = .ok (.iconst 4, 1) := by decide +kernel
theorem dX2_enter_16 : decode cX2_enter 16 = .ok (.ior, 1) := by decide +kernel
theorem dX2_enter_17 : decode cX2_enter 17 = .ok (.putfield 9, 3) := by decide +kernel
theorem dX2_enter_20 : decode cX2_enter 20 = .ok (.aload_n 0, 1) := by decide +kernel
theorem dX2_enter_21 : decode cX2_enter 21 = .ok (.aload_n 0, 1) := by decide +kernel
theorem dX2_enter_22 : decode cX2_enter 22 = .ok (.getfield 13, 3) := by decide +kernel
theorem dX2_enter_25 : decode cX2_enter 25 = .ok (.iload_n 1, 1) := by decide +kernel
theorem dX2_enter_26 : decode cX2_enter 26 = .ok (.invokevirtual 21, 3) := by decide +kernel
theorem dX2_enter_29 : decode cX2_enter 29 = .ok (.putfield 27, 3) := by decide +kernel
theorem dX2_enter_32 : decode cX2_enter 32 = .ok (.return_, 1) := by decide +kernel
theorem dX2_push_0 : decode cX2_push 0 = .ok (.aload_n 0, 1) := by decide +kernel
theorem dX2_push_1 : decode cX2_push 1 = .ok (.getfield 13, 3) := by decide +kernel
theorem dX2_push_4 : decode cX2_push 4 = .ok (.aload_n 0, 1) := by decide +kernel
theorem dX2_push_5 : decode cX2_push 5 = .ok (.getfield 17, 3) := by decide +kernel
theorem dX2_push_8 : decode cX2_push 8 = .ok (.iload_n 1, 1) := by decide +kernel
theorem dX2_push_9 : decode cX2_push 9 = .ok (.invokevirtual 162, 3) := by decide +kernel
theorem dX2_push_12 : decode cX2_push 12 = .ok (.aload_n 0, 1) := by decide +kernel
theorem dX2_push_13 : decode cX2_push 13 = .ok (.aload_n 0, 1) := by decide +kernel
theorem dX2_push_14 : decode cX2_push 14 = .ok (.getfield 17, 3) := by decide +kernel
theorem dX2_push_17 : decode cX2_push 17 = .ok (.iconst 1, 1) := by decide +kernel
theorem dX2_push_18 : decode cX2_push 18 = .ok (.isub, 1) := by decide +kernel
theorem dX2_push_19 : decode cX2_push 19 = .ok (.sipush 255, 3) := by decide +kernel
theorem dX2_push_22 : decode cX2_push 22 = .ok (.iand, 1) := by decide +kernel
theorem dX2_push_23 : decode cX2_push 23 = .ok (.putfield 17, 3) := by decide +kernel
theorem dX2_push_26 : decode cX2_push 26 = .ok (.return_, 1) := by decide +kernel
theorem dX2_pushWord_0 : decode cX2_pushWord 0 = .ok (.aload_n 0, 1) := by decide +kernel
theorem dX2_pushWord_1 : decode cX2_pushWord 1 = .ok (.iload_n 1, 1) := by decide +kernel
theorem dX2_pushWord_2 : decode cX2_pushWord 2 = .ok (.bipush 8, 2) := by decide +kernel
theorem dX2_pushWord_4 : decode cX2_pushWord 4 = .ok (.ishr, 1) := by decide +kernel
theorem dX2_pushWord_5 : decode cX2_pushWord 5 = .ok (.sipush 255, 3) := by decide +kernel
theorem dX2_pushWord_8 : decode cX2_pushWord 8 = .ok (.iand, 1) := by decide +kernel
theorem dX2_pushWord_9 : decode cX2_pushWord 9 = .ok (.invokevirtual 147, 3) := by decide +kernel
theorem dX2_pushWord_12 : decode cX2_pushWord 12 = .ok (.aload_n 0, 1) := by decide +kernel
theorem dX2_pushWord_13 : decode cX2_pushWord 13 = .ok (.iload_n 1, 1) := by decide +kernel
theorem dX2_pushWord_14 : decode cX2_pushWord 14 = .ok (.sipush 255, 3) := by decide +kernel
theorem dX2_pushWord_17 : decode cX2_pushWord 17 = .ok (.iand, 1) := by decide +kernel
theorem dX2_pushWord_18 : decode cX2_pushWord 18 = .ok (.invokevirtual 147, 3) := by decide +kernel
theorem dX2_pushWord_21 : decode cX2_pushWord 21 = .ok (.return_, 1) := by decide +kernel
theorem dX2_pull_0 : decode cX2_pull 0 = .ok (.aload_n 0, 1) := by decide +kernel
theorem dX2_pull_1 : decode cX2_pull 1 = .ok (.aload_n 0, 1) := by decide +kernel
theorem dX2_pull_2 : decode cX2_pull 2 = .ok (.getfield 17, 3) := by decide +kernel
theorem dX2_pull_5 : decode cX2_pull 5 = .ok (.iconst 1, 1) := by decide +kernel
theorem dX2_pull_6 : decode cX2_pull 6 = .ok (.iadd, 1) := by decide +kernel
theorem dX2_pull_7 : decode cX2_pull 7 = .ok (.sipush 255, 3) := by decide +kernel
theorem dX2_pull_10 : decode cX2_pull 10 = .ok (.iand, 1) := by decide +kernel
theorem dX2_pull_11 : decode cX2_pull 11 = .ok (.putfield 17, 3) := by decide +kernel
theorem dX2_pull_14 : decode cX2_pull 14 = .ok (.aload_n 0, 1) := by decide +kernel
theorem dX2_pull_15 : decode cX2_pull 15 = .ok (.getfield 13, 3) := by decide +kernel
theorem dX2_pull_18 : decode cX2_pull 18 = .ok (.aload_n 0, 1) := by decide +kernel
theorem dX2_pull_19 : decode cX2_pull 19 = .ok (.getfield 17, 3) := by decide +kernel
theorem dX2_pull_22 : decode cX2_pull 22 = .ok (.invokevirtual 165, 3) := by decide +kernel
theorem dX2_pull_25 : decode cX2_pull 25 = .ok (.ireturn, 1) := by decide +kernel
theorem dX2_pullWord_0 : decode cX2_pullWord 0 = .ok (.aload_n 0, 1) := by decide +kernel
theorem dX2_pullWord_1 : decode cX2_pullWord 1 = .ok (.invokevirtual 150, 3) := by decide +kernel
theorem dX2_pullWord_4 : decode cX2_pullWord 4 = .ok (.istore_n 1, 1) := by decide +kernel
theorem dX2_pullWord_5 : decode cX2_pullWord 5 = .ok (.iload_n 1, 1) := by decide +kernel
theorem dX2_pullWord_6 : decode cX2_pullWord 6 = .ok (.aload_n 0, 1) := by decide +kernel
theorem dX2_pullWord_7 : decode cX2_pullWord 7 = .ok (.invokevirtual 150, 3) := by decide +kernel
theorem dX2_pullWord_10 : decode cX2_pullWord 10 = .ok (.bipush 8, 2) := by decide +kernel
theorem dX2_pullWord_12 : decode cX2_pullWord 12 = .ok (.ishl, 1) := by decide +kernel
theorem dX2_pullWord_13 : decode cX2_pullWord 13 = .ok (.ior, 1) := by decide +kernel
theorem dX2_pullWord_14 : decode cX2_pullWord 14 = .ok (.ireturn, 1) := by decide +kernel
theorem dX2_pullFlags_0 : decode cX2_pullFlags 0 = .ok (.aload_n 0, 1) := by decide +kernel
theorem dX2_pullFlags_1 : decode cX2_pullFlags 1 = .ok (.aload_n 0, 1) := by decide +kernel
theorem dX2_pullFlags_2 : decode cX2_pullFlags 2 = .ok (.invokevirtual 150, 3) := by decide +kernel
theorem dX2_pullFlags_5 : decode cX2_pullFlags 5 = .ok (.bipush (-17), 2) := by decide +kernel
theorem dX2_pullFlags_7 : decode cX2_pullFlags 7 = .ok (.iand, 1) := by decide +kernel
theorem dX2_pullFlags_8 : decode cX2_pullFlags 8 = .ok (.bipush 32, 2) := by decide +kernel
theorem dX2_pullFlags_10 : decode cX2_pullFlags 10 = .ok (.ior, 1) := by decide +kernel
theorem dX2_pullFlags_11 : decode cX2_pullFlags 11 = .ok (.putfield 9, 3) := by decide +kernel
theorem dX2_pullFlags_14 : decode cX2_pullFlags 14 = .ok (.return_, 1) := by decide +kernel
theorem dX2_setFlag_0 : decode cX2_setFlag 0 = .ok (.aload_n 0, 1) := by decide +kernel
theorem dX2_setFlag_1 : decode cX2_setFlag 1 = .ok (.iload_n 2, 1) := by decide +kernel
theorem dX2_setFlag_2 : decode cX2_setFlag 2 = .ok (.ifCond .eq 12, 3) := by decide +kernel
theorem dX2_setFlag_5 : decode cX2_setFlag 5 = .ok (.aload_n 0, 1) := by decide +kernel
theorem dX2_setFlag_6 : decode cX2_setFlag 6 = .ok (.getfield 9, 3) := by decide +kernel
theorem dX2_setFlag_9 : decode cX2_setFlag 9 = .ok (.iload_n 1, 1) := by decide +kernel
theorem dX2_setFlag_10 : decode cX2_setFlag 10 = .ok (.ior, 1) := by decide +kernel
theorem dX2_setFlag_11 : decode cX2_setFlag 11 = .ok (.goto 11, 3) := by decide +kernel
theorem dX2_setFlag_14 : decode cX2_setFlag 14 = .ok (.aload_n 0, 1) := by decide +kernel
theorem dX2_setFlag_15 : decode cX2_setFlag 15 = .ok (.getfield 9, 3) := by decide +kernel
theorem dX2_setFlag_18 : decode cX2_setFlag 18 = .ok (.iload_n 1, 1) := by decide +kernel
theorem dX2_setFlag_19 : decode cX2_setFlag 19 = .ok (.iconst (-1), 1) := by decide +kernel
theorem dX2_setFlag_20 : decode cX2_setFlag 20 = .ok (.ixor, 1) := by decide +kernel
theorem dX2_setFlag_21 : decode cX2_setFlag 21 = .ok (.iand, 1) := by decide +kernel
theorem dX2_setFlag_22 : decode cX2_setFlag 22 = .ok (.putfield 9, 3) := by decide +kernel
theorem dX2_setFlag_25 : decode cX2_setFlag 25 = .ok (.return_, 1) := by decide +kernel
theorem dX2_judged_0 : decode cX2_judged 0 = .ok (.iload_n 1, 1) := by decide +kernel
theorem dX2_judged_1 : decode cX2_judged 1 = .ok (.sipush 255, 3) := by decide +kernel
theorem dX2_judged_4 : decode cX2_judged 4 = .ok (.iand, 1) := by decide +kernel
theorem dX2_judged_5 : decode cX2_judged 5 = .ok (.istore_n 2, 1) := by decide +kernel
theorem dX2_judged_6 : decode cX2_judged 6 = .ok (.aload_n 0, 1) := by decide +kernel
theorem dX2_judged_7 : decode cX2_judged 7 = .ok (.iconst 2, 1) := by decide +kernel
theorem dX2_judged_8 : decode cX2_judged 8 = .ok (.iload_n 2, 1) := by decide +kernel
theorem dX2_judged_9 : decode cX2_judged 9 = .ok (.ifCond .ne 7, 3) := by decide +kernel
theorem dX2_judged_12 : decode cX2_judged 12 = .ok (.iconst 1, 1) := by decide +kernel
theorem dX2_judged_13 : decode cX2_judged 13 = .ok (.goto 4, 3) := by decide +kernel
theorem dX2_judged_16 : decode cX2_judged 16 = .ok (.iconst 0, 1) := by decide +kernel
theorem dX2_judged_17 : decode cX2_judged 17 = .ok (.invokevirtual 130, 3) := by decide +kernel
theorem dX2_judged_20 : decode cX2_judged 20 = .ok (.aload_n 0, 1) := by decide +kernel
theorem dX2_judged_21 : decode cX2_judged 21 = .ok (.sipush 128, 3) := by decide +kernel
theorem dX2_judged_24 : decode cX2_judged 24 = .ok (.iload_n 2, 1) := by decide +kernel
theorem dX2_judged_25 : decode cX2_judged 25 = .ok (.sipush 128, 3) := by decide +kernel
theorem dX2_judged_28 : decode cX2_judged 28 = .ok (.iand, 1) := by decide +kernel
theorem dX2_judged_29 : decode cX2_judged 29 = .ok (.ifCond .eq 7, 3) := by decide +kernel
theorem dX2_judged_32 : decode cX2_judged 32 = .ok (.iconst 1, 1) := by decide +kernel
theorem dX2_judged_33 : decode cX2_judged 33 = .ok (.goto 4, 3) := by decide +kernel
theorem dX2_judged_36 : decode cX2_judged 36 = .ok (.iconst 0, 1) := by decide +kernel
theorem dX2_judged_37 : decode cX2_judged 37 = .ok (.invokevirtual 130, 3) := by decide +kernel
theorem dX2_judged_40 : decode cX2_judged 40 = .ok (.iload_n 2, 1) := by decide +kernel
theorem dX2_judged_41 : decode cX2_judged 41 = .ok (.ireturn, 1) := by decide +kernel
