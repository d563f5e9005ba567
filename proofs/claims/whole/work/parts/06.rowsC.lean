theorem dX10_init_0 : decode cX10_init 0 = .ok (.aload_n 0, 1) := by decide +kernel
theorem dX10_init_1 : decode cX10_init 1 = .ok (.invokespecial 1, 3) := by decide +kernel
theorem dX10_init_4 : decode cX10_init 4 = .ok (.aload_n 0, 1) := by decide +kernel
theorem dX10_init_5 : decode cX10_init 5 = .ok (.sipush 2048, 3) := by decide +kernel
theorem dX10_init_8 : decode cX10_init 8 = .ok (.newarray .int, 2) := by decide +kernel
theorem dX10_init_10 : decode cX10_init 10 = .ok (.putfield 7, 3) := by decide +kernel
theorem dX10_init_13 : decode cX10_init 13 = .ok (.aload_n 0, 1) := by decide +kernel
theorem dX10_init_14 : decode cX10_init 14 = .ok (.sipush 256, 3) := by decide +kernel
theorem dX10_init_17 : decode cX10_init 17 = .ok (.newarray .int, 2) := by decide +kernel
theorem dX10_init_19 : decode cX10_init 19 = .ok (.putfield 13, 3) := by decide +kernel
theorem dX10_init_22 : decode cX10_init 22 = .ok (.aload_n 0, 1) := by decide +kernel
theorem dX10_init_23 : decode cX10_init 23 = .ok (.sipush 512, 3) := by decide +kernel
theorem dX10_init_26 : decode cX10_init 26 = .ok (.newarray .int, 2) := by decide +kernel
theorem dX10_init_28 : decode cX10_init 28 = .ok (.putfield 16, 3) := by decide +kernel
theorem dX10_init_31 : decode cX10_init 31 = .ok (.aload_n 0, 1) := by decide +kernel
theorem dX10_init_32 : decode cX10_init 32 = .ok (.sipush 128, 3) := by decide +kernel
theorem dX10_init_35 : decode cX10_init 35 = .ok (.newarray .int, 2) := by decide +kernel
theorem dX10_init_37 : decode cX10_init 37 = .ok (.putfield 19, 3) := by decide +kernel
theorem dX10_init_40 : decode cX10_init 40 = .ok (.aload_n 0, 1) := by decide +kernel
theorem dX10_init_41 : decode cX10_init 41 = .ok (.bipush 32, 2) := by decide +kernel
theorem dX10_init_43 : decode cX10_init 43 = .ok (.putfield 22, 3) := by decide +kernel
theorem dX10_init_46 : decode cX10_init 46 = .ok (.aload_n 0, 1) := by decide +kernel
theorem dX10_init_47 : decode cX10_init 47 = .ok (.sipush 256, 3) := by decide +kernel
theorem dX10_init_50 : decode cX10_init 50 = .ok (.newarray .int, 2) := by decide +kernel
theorem dX10_init_52 : decode cX10_init 52 = .ok (.putfield 26, 3) := by decide +kernel
theorem dX10_init_55 : decode cX10_init 55 = .ok (.aload_n 0, 1) := by decide +kernel
theorem dX10_init_56 : decode cX10_init 56 = .ok (.sipush 2048, 3) := by decide +kernel
theorem dX10_init_59 : decode cX10_init 59 = .ok (.newarray .int, 2) := by decide +kernel
theorem dX10_init_61 : decode cX10_init 61 = .ok (.putfield 29, 3) := by decide +kernel
theorem dX10_init_64 : decode cX10_init 64 = .ok (.aload_n 0, 1) := by decide +kernel
theorem dX10_init_65 : decode cX10_init 65 = .ok (.bipush 32, 2) := by decide +kernel
theorem dX10_init_67 : decode cX10_init 67 = .ok (.newarray .int, 2) := by decide +kernel
theorem dX10_init_69 : decode cX10_init 69 = .ok (.putfield 32, 3) := by decide +kernel
theorem dX10_init_72 : decode cX10_init 72 = .ok (.aload_n 0, 1) := by decide +kernel
theorem dX10_init_73 : decode cX10_init 73 = .ok (.bipush 8, 2) := by decide +kernel
theorem dX10_init_75 : decode cX10_init 75 = .ok (.newarray .int, 2) := by decide +kernel
theorem dX10_init_77 : decode cX10_init 77 = .ok (.putfield 35, 3) := by decide +kernel
theorem dX10_init_80 : decode cX10_init 80 = .ok (.aload_n 0, 1) := by decide +kernel
theorem dX10_init_81 : decode cX10_init 81 = .ok (.iconst 4, 1) := by decide +kernel
theorem dX10_init_82 : decode cX10_init 82 = .ok (.newarray .int, 2) := by decide +kernel
theorem dX10_init_84 : decode cX10_init 84 = .ok (.putfield 38, 3) := by decide +kernel
theorem dX10_init_87 : decode cX10_init 87 = .ok (.aload_n 0, 1) := by decide +kernel
theorem dX10_init_88 : decode cX10_init 88 = .ok (.iconst 4, 1) := by decide +kernel
theorem dX10_init_89 : decode cX10_init 89 = .ok (.newarray .boolean, 2) := by decide +kernel
theorem dX10_init_91 : decode cX10_init 91 = .ok (.putfield 41, 3) := by decide +kernel
theorem dX10_init_94 : decode cX10_init 94 = .ok (.aload_n 0, 1) := by decide +kernel
theorem dX10_init_95 : decode cX10_init 95 = .ok (.iconst 2, 1) := by decide +kernel
theorem dX10_init_96 : decode cX10_init 96 = .ok (.newarray .int, 2) := by decide +kernel
theorem dX10_init_98 : decode cX10_init 98 = .ok (.putfield 45, 3) := by decide +kernel
theorem dX10_init_101 : decode cX10_init 101 = .ok (.aload_n 0, 1) := by decide +kernel
theorem dX10_init_102 : decode cX10_init 102 = .ok (.iconst 2, 1) := by decide +kernel
theorem dX10_init_103 : decode cX10_init 103 = .ok (.newarray .int, 2) := by decide +kernel
theorem dX10_init_105 : decode cX10_init 105 = .ok (.putfield 48, 3) := by decide +kernel
theorem dX10_init_108 : decode cX10_init 108 = .ok (.aload_n 0, 1) := by decide +kernel
theorem dX10_init_109 : decode cX10_init 109 = .ok (.iload_n 1, 1) := by decide +kernel
theorem dX10_init_110 : decode cX10_init 110 = .ok (.iconst 1, 1) := by decide +kernel
theorem dX10_init_111 : decode cX10_init 111 = .ok (.iand, 1) := by decide +kernel
theorem dX10_init_112 : decode cX10_init 112 = .ok (.iconst 1, 1) := by decide +kernel
theorem dX10_init_113 : decode cX10_init 113 = .ok (.if_icmp .ne 7, 3) := by decide +kernel
theorem dX10_init_116 : decode cX10_init 116 = .ok (.iconst 1, 1) := by decide +kernel
theorem dX10_init_117 : decode cX10_init 117 = .ok (.goto 4, 3) := by decide +kernel
theorem dX10_init_120 : decode cX10_init 120 = .ok (.iconst 0, 1) := by decide +kernel
theorem dX10_init_121 : decode cX10_init 121 = .ok (.putfield 51, 3) := by decide +kernel
theorem dX10_init_124 : decode cX10_init 124 = .ok (.aload_n 0, 1) := by decide +kernel
theorem dX10_init_125 : decode cX10_init 125 = .ok (.aload_n 0, 1) := by decide +kernel
theorem dX10_init_126 : decode cX10_init 126 = .ok (.getfield 51, 3) := by decide +kernel
theorem dX10_init_129 : decode cX10_init 129 = .ok (.ifCond .eq 7, 3) := by decide +kernel
theorem dX10_init_132 : decode cX10_init 132 = .ok (.iconst 2, 1) := by decide +kernel
theorem dX10_init_133 : decode cX10_init 133 = .ok (.goto 4, 3) := by decide +kernel
theorem dX10_init_136 : decode cX10_init 136 = .ok (.iconst 0, 1) := by decide +kernel
theorem dX10_init_137 : decode cX10_init 137 = .ok (.putfield 55, 3) := by decide +kernel
theorem dX10_init_140 : decode cX10_init 140 = .ok (.aload_n 0, 1) := by decide +kernel
theorem dX10_init_141 : decode cX10_init 141 = .ok (.bipush 12, 2) := by decide +kernel
theorem dX10_init_143 : decode cX10_init 143 = .ok (.putfield 58, 3) := by decide +kernel
theorem dX10_init_146 : decode cX10_init 146 = .ok (.aload_n 0, 1) := by decide +kernel
theorem dX10_init_147 : decode cX10_init 147 = .ok (.getfield 48, 3) := by decide +kernel
theorem dX10_init_150 : decode cX10_init 150 = .ok (.iconst 0, 1) := by decide +kernel
theorem dX10_init_151 : decode cX10_init 151 = .ok (.sipush 255, 3) := by decide +kernel
theorem dX10_init_154 : decode cX10_init 154 = .ok (.iastore, 1) := by decide +kernel
theorem dX10_init_155 : decode cX10_init 155 = .ok (.aload_n 0, 1) := by decide +kernel
theorem dX10_init_156 : decode cX10_init 156 = .ok (.getfield 48, 3) := by decide +kernel
theorem dX10_init_159 : decode cX10_init 159 = .ok (.iconst 1, 1) := by decide +kernel
theorem dX10_init_160 : decode cX10_init 160 = .ok (.sipush 255, 3) := by decide +kernel
theorem dX10_init_163 : decode cX10_init 163 = .ok (.iastore, 1) := by decide +kernel
theorem dX10_init_164 : decode cX10_init 164 = .ok (.return_, 1) := by decide +kernel
theorem dX10_thrown_0 : decode cX10_thrown 0 = .ok (.aload_n 0, 1) := by decide +kernel
theorem dX10_thrown_1 : decode cX10_thrown 1 = .ok (.getfield 61, 3) := by decide +kernel
theorem dX10_thrown_4 : decode cX10_thrown 4 = .ok (.ireturn, 1) := by decide +kernel
theorem dX10_fail_0 : decode cX10_fail 0 = .ok (.aload_n 0, 1) := by decide +kernel
theorem dX10_fail_1 : decode cX10_fail 1 = .ok (.iconst 1, 1) := by decide +kernel
theorem dX10_fail_2 : decode cX10_fail 2 = .ok (.putfield 61, 3) := by decide +kernel
theorem dX10_fail_5 : decode cX10_fail 5 = .ok (.iconst 0, 1) := by decide +kernel
theorem dX10_fail_6 : decode cX10_fail 6 = .ok (.ireturn, 1) := by decide +kernel
theorem dX10_rom_0 : decode cX10_rom 0 = .ok (.aload_n 0, 1) := by decide +kernel
theorem dX10_rom_1 : decode cX10_rom 1 = .ok (.iload_n 1, 1) := by decide +kernel
theorem dX10_rom_2 : decode cX10_rom 2 = .ok (.ifCond .lt 10, 3) := by decide +kernel
theorem dX10_rom_5 : decode cX10_rom 5 = .ok (.iload_n 1, 1) := by decide +kernel
theorem dX10_rom_6 : decode cX10_rom 6 = .ok (.sipush 511, 3) := by decide +kernel
theorem dX10_rom_9 : decode cX10_rom 9 = .ok (.if_icmp .le 7, 3) := by decide +kernel
theorem dX10_rom_12 : decode cX10_rom 12 = .ok (.iconst 1, 1) := by decide +kernel
theorem dX10_rom_13 : decode cX10_rom 13 = .ok (.goto 4, 3) := by decide +kernel
theorem dX10_rom_16 : decode cX10_rom 16 = .ok (.iconst 0, 1) := by decide +kernel
theorem dX10_rom_17 : decode cX10_rom 17 = .ok (.putfield 61, 3) := by decide +kernel
theorem dX10_rom_20 : decode cX10_rom 20 = .ok (.aload_n 0, 1) := by decide +kernel
theorem dX10_rom_21 : decode cX10_rom 21 = .ok (.getfield 61, 3) := by decide +kernel
theorem dX10_rom_24 : decode cX10_rom 24 = .ok (.ifCond .ne 14, 3) := by decide +kernel
theorem dX10_rom_27 : decode cX10_rom 27 = .ok (.aload_n 0, 1) := by decide +kernel
theorem dX10_rom_28 : decode cX10_rom 28 = .ok (.getfield 16, 3) := by decide +kernel
theorem dX10_rom_31 : decode cX10_rom 31 = .ok (.iload_n 1, 1) := by decide +kernel
theorem dX10_rom_32 : decode cX10_rom 32 = .ok (.iload_n 2, 1) := by decide +kernel
theorem dX10_rom_33 : decode cX10_rom 33 = .ok (.sipush 255, 3) := by decide +kernel
theorem dX10_rom_36 : decode cX10_rom 36 = .ok (.iand, 1) := by decide +kernel
theorem dX10_rom_37 : decode cX10_rom 37 = .ok (.iastore, 1) := by decide +kernel
theorem dX10_rom_38 : decode cX10_rom 38 = .ok (.return_, 1) := by decide +kernel
theorem dX10_chr_0 : decode cX10_chr 0 = .ok (.aload_n 0, 1) := by decide +kernel
theorem dX10_chr_1 : decode cX10_chr 1 = .ok (.iload_n 1, 1) := by decide +kernel
theorem dX10_chr_2 : decode cX10_chr 2 = .ok (.ifCond .lt 9, 3) := by decide +kernel
theorem dX10_chr_5 : decode cX10_chr 5 = .ok (.iload_n 1, 1) := by decide +kernel
theorem dX10_chr_6 : decode cX10_chr 6 = .ok (.bipush 127, 2) := by decide +kernel
theorem dX10_chr_8 : decode cX10_chr 8 = .ok (.if_icmp .le 7, 3) := by decide +kernel
theorem dX10_chr_11 : decode cX10_chr 11 = .ok (.iconst 1, 1) := by decide +kernel
theorem dX10_chr_12 : decode cX10_chr 12 = .ok (.goto 4, 3) := by decide +kernel
theorem dX10_chr_15 : decode cX10_chr 15 = .ok (.iconst 0, 1) := by decide +kernel
theorem dX10_chr_16 : decode cX10_chr 16 = .ok (.putfield 61, 3) := by decide +kernel
theorem dX10_chr_19 : decode cX10_chr 19 = .ok (.aload_n 0, 1) := by decide +kernel
theorem dX10_chr_20 : decode cX10_chr 20 = .ok (.getfield 61, 3) := by decide +kernel
theorem dX10_chr_23 : decode cX10_chr 23 = .ok (.ifCond .ne 14, 3) := by decide +kernel
theorem dX10_chr_26 : decode cX10_chr 26 = .ok (.aload_n 0, 1) := by decide +kernel
theorem dX10_chr_27 : decode cX10_chr 27 = .ok (.getfield 19, 3) := by decide +kernel
theorem dX10_chr_30 : decode cX10_chr 30 = .ok (.iload_n 1, 1) := by decide +kernel
theorem dX10_chr_31 : decode cX10_chr 31 = .ok (.iload_n 2, 1) := by decide +kernel
theorem dX10_chr_32 : decode cX10_chr 32 = .ok (.sipush 255, 3) := by decide +kernel
theorem dX10_chr_35 : decode cX10_chr 35 = .ok (.iand, 1) := by decide +kernel
theorem dX10_chr_36 : decode cX10_chr 36 = .ok (.iastore, 1) := by decide +kernel
theorem dX10_chr_37 : decode cX10_chr 37 = .ok (.return_, 1) := by decide +kernel
theorem dX10_prgBank_0 : decode cX10_prgBank 0 = .ok (.iconst 2, 1) := by decide +kernel
theorem dX10_prgBank_1 : decode cX10_prgBank 1 = .ok (.aload_n 0, 1) := by decide +kernel
theorem dX10_prgBank_2 : decode cX10_prgBank 2 = .ok (.getfield 64, 3) := by decide +kernel
theorem dX10_prgBank_5 : decode cX10_prgBank 5 = .ok (.iconst 3, 1) := by decide +kernel
theorem dX10_prgBank_6 : decode cX10_prgBank 6 = .ok (.iand, 1) := by decide +kernel
theorem dX10_prgBank_7 : decode cX10_prgBank 7 = .ok (.imul, 1) := by decide +kernel
theorem dX10_prgBank_8 : decode cX10_prgBank 8 = .ok (.istore_n 2, 1) := by decide +kernel
theorem dX10_prgBank_9 : decode cX10_prgBank 9 = .ok (.aload_n 0, 1) := by decide +kernel
theorem dX10_prgBank_10 : decode cX10_prgBank 10 = .ok (.getfield 51, 3) := by decide +kernel
theorem dX10_prgBank_13 : decode cX10_prgBank 13 = .ok (.ifCond .eq 77, 3) := by decide +kernel
theorem dX10_prgBank_16 : decode cX10_prgBank 16 = .ok (.aload_n 0, 1) := by decide +kernel
theorem dX10_prgBank_17 : decode cX10_prgBank 17 = .ok (.getfield 67, 3) := by decide +kernel
theorem dX10_prgBank_20 : decode cX10_prgBank 20 = .ok (.bipush 64, 2) := by decide +kernel
theorem dX10_prgBank_22 : decode cX10_prgBank 22 = .ok (.iand, 1) := by decide +kernel
theorem dX10_prgBank_23 : decode cX10_prgBank 23 = .ok (.ifCond .eq 7, 3) := by decide +kernel
theorem dX10_prgBank_26 : decode cX10_prgBank 26 = .ok (.iconst 1, 1) := by decide +kernel
theorem dX10_prgBank_27 : decode cX10_prgBank 27 = .ok (.goto 4, 3) := by decide +kernel
theorem dX10_prgBank_30 : decode cX10_prgBank 30 = .ok (.iconst 0, 1) := by decide +kernel
theorem dX10_prgBank_31 : decode cX10_prgBank 31 = .ok (.istore_n 3, 1) := by decide +kernel
theorem dX10_prgBank_32 : decode cX10_prgBank 32 = .ok (.iload_n 1, 1) := by decide +kernel
theorem dX10_prgBank_33 : decode cX10_prgBank 33 = .ok (.iconst 1, 1) := by decide +kernel
theorem dX10_prgBank_34 : decode cX10_prgBank 34 = .ok (.if_icmp .ne 13, 3) := by decide +kernel
theorem dX10_prgBank_37 : decode cX10_prgBank 37 = .ok (.aload_n 0, 1) := by decide +kernel
theorem dX10_prgBank_38 : decode cX10_prgBank 38 = .ok (.getfield 35, 3) := by decide +kernel
theorem dX10_prgBank_41 : decode cX10_prgBank 41 = .ok (.bipush 7, 2) := by decide +kernel
theorem dX10_prgBank_43 : decode cX10_prgBank 43 = .ok (.iaload, 1) := by decide +kernel
theorem dX10_prgBank_44 : decode cX10_prgBank 44 = .ok (.goto 38, 3) := by decide +kernel
theorem dX10_prgBank_47 : decode cX10_prgBank 47 = .ok (.iload_n 1, 1) := by decide +kernel
theorem dX10_prgBank_48 : decode cX10_prgBank 48 = .ok (.iconst 3, 1) := by decide +kernel
theorem dX10_prgBank_49 : decode cX10_prgBank 49 = .ok (.if_icmp .ne 8, 3) := by decide +kernel
theorem dX10_prgBank_52 : decode cX10_prgBank 52 = .ok (.bipush 7, 2) := by decide +kernel
theorem dX10_prgBank_54 : decode cX10_prgBank 54 = .ok (.goto 28, 3) := by decide +kernel
theorem dX10_prgBank_57 : decode cX10_prgBank 57 = .ok (.iload_n 1, 1) := by decide +kernel
theorem dX10_prgBank_58 : decode cX10_prgBank 58 = .ok (.ifCond .ne 7, 3) := by decide +kernel
theorem dX10_prgBank_61 : decode cX10_prgBank 61 = .ok (.iconst 1, 1) := by decide +kernel
theorem dX10_prgBank_62 : decode cX10_prgBank 62 = .ok (.goto 4, 3) := by decide +kernel
theorem dX10_prgBank_65 : decode cX10_prgBank 65 = .ok (.iconst 0, 1) := by decide +kernel
theorem dX10_prgBank_66 : decode cX10_prgBank 66 = .ok (.iload_n 3, 1) := by decide +kernel
theorem dX10_prgBank_67 : decode cX10_prgBank 67 = .ok (.if_icmp .eq 13, 3) := by decide +kernel
theorem dX10_prgBank_70 : decode cX10_prgBank 70 = .ok (.aload_n 0, 1) := by decide +kernel
theorem dX10_prgBank_71 : decode cX10_prgBank 71 = .ok (.getfield 35, 3) := by decide +kernel
theorem dX10_prgBank_74 : decode cX10_prgBank 74 = .ok (.bipush 6, 2) := by decide +kernel
theorem dX10_prgBank_76 : decode cX10_prgBank 76 = .ok (.iaload, 1) := by decide +kernel
theorem dX10_prgBank_77 : decode cX10_prgBank 77 = .ok (.goto 5, 3) := by decide +kernel
theorem dX10_prgBank_80 : decode cX10_prgBank 80 = .ok (.bipush 6, 2) := by decide +kernel
theorem dX10_prgBank_82 : decode cX10_prgBank 82 = .ok (.istore 4, 2) := by decide +kernel
theorem dX10_prgBank_84 : decode cX10_prgBank 84 = .ok (.iload 4, 2) := by decide +kernel
theorem dX10_prgBank_86 : decode cX10_prgBank 86 = .ok (.bipush 7, 2) := by decide +kernel
theorem dX10_prgBank_88 : decode cX10_prgBank 88 = .ok (.iand, 1) := by decide +kernel
theorem dX10_prgBank_89 : decode cX10_prgBank 89 = .ok (.ireturn, 1) := by decide +kernel
theorem dX10_prgBank_90 : decode cX10_prgBank 90 = .ok (.aload_n 0, 1) := by decide +kernel
theorem dX10_prgBank_91 : decode cX10_prgBank 91 = .ok (.getfield 58, 3) := by decide +kernel
theorem dX10_prgBank_94 : decode cX10_prgBank 94 = .ok (.iconst 2, 1) := by decide +kernel
theorem dX10_prgBank_95 : decode cX10_prgBank 95 = .ok (.ishr, 1) := by decide +kernel
theorem dX10_prgBank_96 : decode cX10_prgBank 96 = .ok (.iconst 3, 1) := by decide +kernel
theorem dX10_prgBank_97 : decode cX10_prgBank 97 = .ok (.iand, 1) := by decide +kernel
theorem dX10_prgBank_98 : decode cX10_prgBank 98 = .ok (.istore_n 3, 1) := by decide +kernel
theorem dX10_prgBank_99 : decode cX10_prgBank 99 = .ok (.iload_n 3, 1) := by decide +kernel
theorem dX10_prgBank_100 : decode cX10_prgBank 100 = .ok (.iconst 2, 1) := by decide +kernel
theorem dX10_prgBank_101 : decode cX10_prgBank 101 = .ok (.if_icmp .ge 16, 3) := by decide +kernel
theorem dX10_prgBank_104 : decode cX10_prgBank 104 = .ok (.iconst 4, 1) := by decide +kernel
theorem dX10_prgBank_105 : decode cX10_prgBank 105 = .ok (.aload_n 0, 1) := by decide +kernel
theorem dX10_prgBank_106 : decode cX10_prgBank 106 = .ok (.getfield 64, 3) := by decide +kernel
theorem dX10_prgBank_109 : decode cX10_prgBank 109 = .ok (.iconst 1, 1) := by decide +kernel
theorem dX10_prgBank_110 : decode cX10_prgBank 110 = .ok (.ishr, 1) := by decide +kernel
theorem dX10_prgBank_111 : decode cX10_prgBank 111 = .ok (.iconst 1, 1) := by decide +kernel
theorem dX10_prgBank_112 : decode cX10_prgBank 112 = .ok (.iand, 1) := by decide +kernel
theorem dX10_prgBank_113 : decode cX10_prgBank 113 = .ok (.imul, 1) := by decide +kernel
theorem dX10_prgBank_114 : decode cX10_prgBank 114 = .ok (.iload_n 1, 1) := by decide +kernel
theorem dX10_prgBank_115 : decode cX10_prgBank 115 = .ok (.iadd, 1) := by decide +kernel
theorem dX10_prgBank_116 : decode cX10_prgBank 116 = .ok (.ireturn, 1) := by decide +kernel
theorem dX10_prgBank_117 : decode cX10_prgBank 117 = .ok (.iload_n 3, 1) := by decide +kernel
theorem dX10_prgBank_118 : decode cX10_prgBank 118 = .ok (.iconst 2, 1) := by decide +kernel
theorem dX10_prgBank_119 : decode cX10_prgBank 119 = .ok (.if_icmp .ne 18, 3) := by decide +kernel
theorem dX10_prgBank_122 : decode cX10_prgBank 122 = .ok (.iload_n 1, 1) := by decide +kernel
theorem dX10_prgBank_123 : decode cX10_prgBank 123 = .ok (.iconst 2, 1) := by decide +kernel
theorem dX10_prgBank_124 : decode cX10_prgBank 124 = .ok (.if_icmp .ge 7, 3) := by decide +kernel
theorem dX10_prgBank_127 : decode cX10_prgBank 127 = .ok (.iload_n 1, 1) := by decide +kernel
theorem dX10_prgBank_128 : decode cX10_prgBank 128 = .ok (.goto 8, 3) := by decide +kernel
theorem dX10_prgBank_131 : decode cX10_prgBank 131 = .ok (.iload_n 2, 1) := by decide +kernel
theorem dX10_prgBank_132 : decode cX10_prgBank 132 = .ok (.iload_n 1, 1) := by decide +kernel
theorem dX10_prgBank_133 : decode cX10_prgBank 133 = .ok (.iadd, 1) := by decide +kernel
theorem dX10_prgBank_134 : decode cX10_prgBank 134 = .ok (.iconst 2, 1) := by decide +kernel
theorem dX10_prgBank_135 : decode cX10_prgBank 135 = .ok (.isub, 1) := by decide +kernel
theorem dX10_prgBank_136 : decode cX10_prgBank 136 = .ok (.ireturn, 1) := by decide +kernel
theorem dX10_prgBank_137 : decode cX10_prgBank 137 = .ok (.iload_n 1, 1) := by decide +kernel
theorem dX10_prgBank_138 : decode cX10_prgBank 138 = .ok (.iconst 2, 1) := by decide +kernel
theorem dX10_prgBank_139 : decode cX10_prgBank 139 = .ok (.if_icmp .ge 9, 3) := by decide +kernel
theorem dX10_prgBank_142 : decode cX10_prgBank 142 = .ok (.iload_n 2, 1) := by decide +kernel
theorem dX10_prgBank_143 : decode cX10_prgBank 143 = .ok (.iload_n 1, 1) := by decide +kernel
theorem dX10_prgBank_144 : decode cX10_prgBank 144 = .ok (.iadd, 1) := by decide +kernel
theorem dX10_prgBank_145 : decode cX10_prgBank 145 = .ok (.goto 6, 3) := by decide +kernel
theorem dX10_prgBank_148 : decode cX10_prgBank 148 = .ok (.iconst 4, 1) := by decide +kernel
theorem dX10_prgBank_149 : decode cX10_prgBank 149 = .ok (.iload_n 1, 1) := by decide +kernel
theorem dX10_prgBank_150 : decode cX10_prgBank 150 = .ok (.iadd, 1) := by decide +kernel
theorem dX10_prgBank_151 : decode cX10_prgBank 151 = .ok (.ireturn, 1) := by decide +kernel
theorem dX10_chrBank_0 : decode cX10_chrBank 0 = .ok (.aload_n 0, 1) := by decide +kernel
theorem dX10_chrBank_1 : decode cX10_chrBank 1 = .ok (.getfield 51, 3) := by decide +kernel
theorem dX10_chrBank_4 : decode cX10_chrBank 4 = .ok (.ifCond .ne 40, 3) := by decide +kernel
theorem dX10_chrBank_7 : decode cX10_chrBank 7 = .ok (.aload_n 0, 1) := by decide +kernel
theorem dX10_chrBank_8 : decode cX10_chrBank 8 = .ok (.getfield 58, 3) := by decide +kernel
theorem dX10_chrBank_11 : decode cX10_chrBank 11 = .ok (.bipush 16, 2) := by decide +kernel
theorem dX10_chrBank_13 : decode cX10_chrBank 13 = .ok (.iand, 1) := by decide +kernel
theorem dX10_chrBank_14 : decode cX10_chrBank 14 = .ok (.ifCond .ne 5, 3) := by decide +kernel
theorem dX10_chrBank_17 : decode cX10_chrBank 17 = .ok (.iload_n 1, 1) := by decide +kernel
theorem dX10_chrBank_18 : decode cX10_chrBank 18 = .ok (.ireturn, 1) := by decide +kernel
theorem dX10_chrBank_19 : decode cX10_chrBank 19 = .ok (.iconst 4, 1) := by decide +kernel
theorem dX10_chrBank_20 : decode cX10_chrBank 20 = .ok (.iload_n 1, 1) := by decide +kernel
theorem dX10_chrBank_21 : decode cX10_chrBank 21 = .ok (.iconst 4, 1) := by decide +kernel
theorem dX10_chrBank_22 : decode cX10_chrBank 22 = .ok (.if_icmp .ge 10, 3) := by decide +kernel
theorem dX10_chrBank_25 : decode cX10_chrBank 25 = .ok (.aload_n 0, 1) := by decide +kernel
theorem dX10_chrBank_26 : decode cX10_chrBank 26 = .ok (.getfield 70, 3) := by decide +kernel
theorem dX10_chrBank_29 : decode cX10_chrBank 29 = .ok (.goto 7, 3) := by decide +kernel
theorem dX10_chrBank_32 : decode cX10_chrBank 32 = .ok (.aload_n 0, 1) := by decide +kernel
theorem dX10_chrBank_33 : decode cX10_chrBank 33 = .ok (.getfield 73, 3) := by decide +kernel
theorem dX10_chrBank_36 : decode cX10_chrBank 36 = .ok (.iconst 1, 1) := by decide +kernel
theorem dX10_chrBank_37 : decode cX10_chrBank 37 = .ok (.iand, 1) := by decide +kernel
theorem dX10_chrBank_38 : decode cX10_chrBank 38 = .ok (.imul, 1) := by decide +kernel
theorem dX10_chrBank_39 : decode cX10_chrBank 39 = .ok (.iload_n 1, 1) := by decide +kernel
theorem dX10_chrBank_40 : decode cX10_chrBank 40 = .ok (.iconst 3, 1) := by decide +kernel
theorem dX10_chrBank_41 : decode cX10_chrBank 41 = .ok (.iand, 1) := by decide +kernel
theorem dX10_chrBank_42 : decode cX10_chrBank 42 = .ok (.iadd, 1) := by decide +kernel
theorem dX10_chrBank_43 : decode cX10_chrBank 43 = .ok (.ireturn, 1) := by decide +kernel
theorem dX10_chrBank_44 : decode cX10_chrBank 44 = .ok (.aload_n 0, 1) := by decide +kernel
theorem dX10_chrBank_45 : decode cX10_chrBank 45 = .ok (.getfield 67, 3) := by decide +kernel
theorem dX10_chrBank_48 : decode cX10_chrBank 48 = .ok (.sipush 128, 3) := by decide +kernel
theorem dX10_chrBank_51 : decode cX10_chrBank 51 = .ok (.iand, 1) := by decide +kernel
theorem dX10_chrBank_52 : decode cX10_chrBank 52 = .ok (.ifCond .eq 9, 3) := by decide +kernel
theorem dX10_chrBank_55 : decode cX10_chrBank 55 = .ok (.iload_n 1, 1) := by decide +kernel
theorem dX10_chrBank_56 : decode cX10_chrBank 56 = .ok (.iconst 4, 1) := by decide +kernel
theorem dX10_chrBank_57 : decode cX10_chrBank 57 = .ok (.ixor, 1) := by decide +kernel
theorem dX10_chrBank_58 : decode cX10_chrBank 58 = .ok (.goto 4, 3) := by decide +kernel
theorem dX10_chrBank_61 : decode cX10_chrBank 61 = .ok (.iload_n 1, 1) := by decide +kernel
theorem dX10_chrBank_62 : decode cX10_chrBank 62 = .ok (.istore_n 2, 1) := by decide +kernel
theorem dX10_chrBank_63 : decode cX10_chrBank 63 = .ok (.iload_n 2, 1) := by decide +kernel
theorem dX10_chrBank_64 : decode cX10_chrBank 64 = .ok (.iconst 4, 1) := by decide +kernel
theorem dX10_chrBank_65 : decode cX10_chrBank 65 = .ok (.if_icmp .ge 22, 3) := by decide +kernel
theorem dX10_chrBank_68 : decode cX10_chrBank 68 = .ok (.aload_n 0, 1) := by decide +kernel
theorem dX10_chrBank_69 : decode cX10_chrBank 69 = .ok (.getfield 35, 3) := by decide +kernel
theorem dX10_chrBank_72 : decode cX10_chrBank 72 = .ok (.iload_n 2, 1) := by decide +kernel
theorem dX10_chrBank_73 : decode cX10_chrBank 73 = .ok (.iconst 2, 1) := by decide +kernel
theorem dX10_chrBank_74 : decode cX10_chrBank 74 = .ok (.idiv, 1) := by decide +kernel
theorem dX10_chrBank_75 : decode cX10_chrBank 75 = .ok (.iaload, 1) := by decide +kernel
theorem dX10_chrBank_76 : decode cX10_chrBank 76 = .ok (.sipush 254, 3) := by decide +kernel
theorem dX10_chrBank_79 : decode cX10_chrBank 79 = .ok (.iand, 1) := by decide +kernel
theorem dX10_chrBank_80 : decode cX10_chrBank 80 = .ok (.iload_n 2, 1) := by decide +kernel
theorem dX10_chrBank_81 : decode cX10_chrBank 81 = .ok (.iconst 1, 1) := by decide +kernel
theorem dX10_chrBank_82 : decode cX10_chrBank 82 = .ok (.iand, 1) := by decide +kernel
theorem dX10_chrBank_83 : decode cX10_chrBank 83 = .ok (.ior, 1) := by decide +kernel
theorem dX10_chrBank_84 : decode cX10_chrBank 84 = .ok (.goto 11, 3) := by decide +kernel
theorem dX10_chrBank_87 : decode cX10_chrBank 87 = .ok (.aload_n 0, 1) := by decide +kernel
theorem dX10_chrBank_88 : decode cX10_chrBank 88 = .ok (.getfield 35, 3) := by decide +kernel
theorem dX10_chrBank_91 : decode cX10_chrBank 91 = .ok (.iload_n 2, 1) := by decide +kernel
theorem dX10_chrBank_92 : decode cX10_chrBank 92 = .ok (.iconst 2, 1) := by decide +kernel
theorem dX10_chrBank_93 : decode cX10_chrBank 93 = .ok (.isub, 1) := by decide +kernel
theorem dX10_chrBank_94 : decode cX10_chrBank 94 = .ok (.iaload, 1) := by decide +kernel
theorem dX10_chrBank_95 : decode cX10_chrBank 95 = .ok (.istore_n 3, 1) := by decide +kernel
theorem dX10_chrBank_96 : decode cX10_chrBank 96 = .ok (.iload_n 3, 1) := by decide +kernel
theorem dX10_chrBank_97 : decode cX10_chrBank 97 = .ok (.bipush 7, 2) := by decide +kernel
theorem dX10_chrBank_99 : decode cX10_chrBank 99 = .ok (.iand, 1) := by decide +kernel
theorem dX10_chrBank_100 : decode cX10_chrBank 100 = .ok (.ireturn, 1) := by decide +kernel
theorem dX10_writeOne_0 : decode cX10_writeOne 0 = .ok (.iload_n 2, 1) := by decide +kernel
theorem dX10_writeOne_1 : decode cX10_writeOne 1 = .ok (.sipush 128, 3) := by decide +kernel
theorem dX10_writeOne_4 : decode cX10_writeOne 4 = .ok (.iand, 1) := by decide +kernel
theorem dX10_writeOne_5 : decode cX10_writeOne 5 = .ok (.ifCond .eq 25, 3) := by decide +kernel
theorem dX10_writeOne_8 : decode cX10_writeOne 8 = .ok (.aload_n 0, 1) := by decide +kernel
theorem dX10_writeOne_9 : decode cX10_writeOne 9 = .ok (.iconst 0, 1) := by decide +kernel
theorem dX10_writeOne_10 : decode cX10_writeOne 10 = .ok (.putfield 76, 3) := by decide +kernel
theorem dX10_writeOne_13 : decode cX10_writeOne 13 = .ok (.aload_n 0, 1) := by decide +kernel
theorem dX10_writeOne_14 : decode cX10_writeOne 14 = .ok (.iconst 0, 1) := by decide +kernel
theorem dX10_writeOne_15 : decode cX10_writeOne 15 = .ok (.putfield 79, 3) := by decide +kernel
theorem dX10_writeOne_18 : decode cX10_writeOne 18 = .ok (.aload_n 0, 1) := by decide +kernel
theorem dX10_writeOne_19 : decode cX10_writeOne 19 = .ok (.dup, 1) := by decide +kernel
theorem dX10_writeOne_20 : decode cX10_writeOne 20 = .ok (.getfield 58, 3) := by decide +kernel
theorem dX10_writeOne_23 : decode cX10_writeOne 23 = .ok (.bipush 12, 2) := by decide +kernel
theorem dX10_writeOne_25 : decode cX10_writeOne 25 = .ok (.ior, 1) := by decide +kernel
theorem dX10_writeOne_26 : decode cX10_writeOne 26 = .ok (.putfield 58, 3) := by decide +kernel
theorem dX10_writeOne_29 : decode cX10_writeOne 29 = .ok (.return_, 1) := by decide +kernel
theorem dX10_writeOne_30 : decode cX10_writeOne 30 = .ok (.aload_n 0, 1) := by decide +kernel
theorem dX10_writeOne_31 : decode cX10_writeOne 31 = .ok (.dup, 1) := by decide +kernel
theorem dX10_writeOne_32 : decode cX10_writeOne 32 = .ok (.getfield 79, 3) := by decide +kernel
theorem dX10_writeOne_35 : decode cX10_writeOne 35 = .ok (.iload_n 2, 1) := by decide +kernel
theorem dX10_writeOne_36 : decode cX10_writeOne 36 = .ok (.iconst 1, 1) := by decide +kernel
theorem dX10_writeOne_37 : decode cX10_writeOne 37 = .ok (.iand, 1) := by decide +kernel
theorem dX10_writeOne_38 : decode cX10_writeOne 38 = .ok (.aload_n 0, 1) := by decide +kernel
theorem dX10_writeOne_39 : decode cX10_writeOne 39 = .ok (.getfield 76, 3) := by decide +kernel
theorem dX10_writeOne_42 : decode cX10_writeOne 42 = .ok (.ishl, 1) := by decide +kernel
theorem dX10_writeOne_43 : decode cX10_writeOne 43 = .ok (.ior, 1) := by decide +kernel
theorem dX10_writeOne_44 : decode cX10_writeOne 44 = .ok (.putfield 79, 3) := by decide +kernel
theorem dX10_writeOne_47 : decode cX10_writeOne 47 = .ok (.aload_n 0, 1) := by decide +kernel
theorem dX10_writeOne_48 : decode cX10_writeOne 48 = .ok (.dup, 1) := by decide +kernel
theorem dX10_writeOne_49 : decode cX10_writeOne 49 = .ok (.getfield 76, 3) := by decide +kernel
theorem dX10_writeOne_52 : decode cX10_writeOne 52 = .ok (.iconst 1, 1) := by decide +kernel
theorem dX10_writeOne_53 : decode cX10_writeOne 53 = .ok (.iadd, 1) := by decide +kernel
theorem dX10_writeOne_54 : decode cX10_writeOne 54 = .ok (.putfield 76, 3) := by decide +kernel
theorem dX10_writeOne_57 : decode cX10_writeOne 57 = .ok (.aload_n 0, 1) := by decide +kernel
theorem dX10_writeOne_58 : decode cX10_writeOne 58 = .ok (.getfield 76, 3) := by decide +kernel
theorem dX10_writeOne_61 : decode cX10_writeOne 61 = .ok (.iconst 5, 1) := by decide +kernel
theorem dX10_writeOne_62 : decode cX10_writeOne 62 = .ok (.if_icmp .ge 4, 3) := by decide +kernel
theorem dX10_writeOne_65 : decode cX10_writeOne 65 = .ok (.return_, 1) := by decide +kernel
theorem dX10_writeOne_66 : decode cX10_writeOne 66 = .ok (.iload_n 1, 1) := by decide +kernel
theorem dX10_writeOne_67 : decode cX10_writeOne 67 = .ok (.bipush 13, 2) := by decide +kernel
theorem dX10_writeOne_69 : decode cX10_writeOne 69 = .ok (.ishr, 1) := by decide +kernel
theorem dX10_writeOne_70 : decode cX10_writeOne 70 = .ok (.iconst 3, 1) := by decide +kernel
theorem dX10_writeOne_71 : decode cX10_writeOne 71 = .ok (.iand, 1) := by decide +kernel
theorem dX10_writeOne_72 : decode cX10_writeOne 72 = .ok (.tableswitch 71 0 2 #[28, 49, 60], 28) := by decide +kernel
theorem dX10_writeOne_100 : decode cX10_writeOne 100 = .ok (.aload_n 0, 1) := by decide +kernel
theorem dX10_writeOne_101 : decode cX10_writeOne 101 = .ok (.aload_n 0, 1) := by decide +kernel
theorem dX10_writeOne_102 : decode cX10_writeOne 102 = .ok (.getfield 79, 3) := by decide +kernel
theorem dX10_writeOne_105 : decode cX10_writeOne 105 = .ok (.putfield 58, 3) := by decide +kernel
theorem dX10_writeOne_108 : decode cX10_writeOne 108 = .ok (.aload_n 0, 1) := by decide +kernel
theorem dX10_writeOne_109 : decode cX10_writeOne 109 = .ok (.aload_n 0, 1) := by decide +kernel
theorem dX10_writeOne_110 : decode cX10_writeOne 110 = .ok (.getfield 79, 3) := by decide +kernel
theorem dX10_writeOne_113 : decode cX10_writeOne 113 = .ok (.iconst 3, 1) := by decide +kernel
theorem dX10_writeOne_114 : decode cX10_writeOne 114 = .ok (.iand, 1) := by decide +kernel
theorem dX10_writeOne_115 : decode cX10_writeOne 115 = .ok (.putfield 55, 3) := by decide +kernel
theorem dX10_writeOne_118 : decode cX10_writeOne 118 = .ok (.goto 33, 3) := by decide +kernel
theorem dX10_writeOne_121 : decode cX10_writeOne 121 = .ok (.aload_n 0, 1) := by decide +kernel
theorem dX10_writeOne_122 : decode cX10_writeOne 122 = .ok (.aload_n 0, 1) := by decide +kernel
theorem dX10_writeOne_123 : decode cX10_writeOne 123 = .ok (.getfield 79, 3) := by decide +kernel
theorem dX10_writeOne_126 : decode cX10_writeOne 126 = .ok (.putfield 70, 3) := by decide +kernel
theorem dX10_writeOne_129 : decode cX10_writeOne 129 = .ok (.goto 22, 3) := by decide +kernel
theorem dX10_writeOne_132 : decode cX10_writeOne 132 = .ok (.aload_n 0, 1) := by decide +kernel
theorem dX10_writeOne_133 : decode cX10_writeOne 133 = .ok (.aload_n 0, 1) := by decide +kernel
theorem dX10_writeOne_134 : decode cX10_writeOne 134 = .ok (.getfield 79, 3) := by decide +kernel
theorem dX10_writeOne_137 : decode cX10_writeOne 137 = .ok (.putfield 73, 3) := by decide +kernel
theorem dX10_writeOne_140 : decode cX10_writeOne 140 = .ok (.goto 11, 3) := by decide +kernel
theorem dX10_writeOne_143 : decode cX10_writeOne 143 = .ok (.aload_n 0, 1) := by decide +kernel
theorem dX10_writeOne_144 : decode cX10_writeOne 144 = .ok (.aload_n 0, 1) := by decide +kernel
theorem dX10_writeOne_145 : decode cX10_writeOne 145 = .ok (.getfield 79, 3) := by decide +kernel
theorem dX10_writeOne_148 : decode cX10_writeOne 148 = .ok (.putfield 64, 3) := by decide +kernel
theorem dX10_writeOne_151 : decode cX10_writeOne 151 = .ok (.aload_n 0, 1) := by decide +kernel
theorem dX10_writeOne_152 : decode cX10_writeOne 152 = .ok (.iconst 0, 1) := by decide +kernel
theorem dX10_writeOne_153 : decode cX10_writeOne 153 = .ok (.putfield 76, 3) := by decide +kernel
theorem dX10_writeOne_156 : decode cX10_writeOne 156 = .ok (.aload_n 0, 1) := by decide +kernel
theorem dX10_writeOne_157 : decode cX10_writeOne 157 = .ok (.iconst 0, 1) := by decide +kernel
theorem dX10_writeOne_158 : decode cX10_writeOne 158 = .ok (.putfield 79, 3) := by decide +kernel
theorem dX10_writeOne_161 : decode cX10_writeOne 161 = .ok (.return_, 1) := by decide +kernel
theorem dX10_writeThree_0 : decode cX10_writeThree 0 = .ok (.iload_n 1, 1) := by decide +kernel
theorem dX10_writeThree_1 : decode cX10_writeThree 1 = .ok (.iconst 1, 1) := by decide +kernel
theorem dX10_writeThree_2 : decode cX10_writeThree 2 = .ok (.iand, 1) := by decide +kernel
theorem dX10_writeThree_3 : decode cX10_writeThree 3 = .ok (.iconst 1, 1) := by decide +kernel
theorem dX10_writeThree_4 : decode cX10_writeThree 4 = .ok (.if_icmp .ne 7, 3) := by decide +kernel
theorem dX10_writeThree_7 : decode cX10_writeThree 7 = .ok (.iconst 1, 1) := by decide +kernel
theorem dX10_writeThree_8 : decode cX10_writeThree 8 = .ok (.goto 4, 3) := by decide +kernel
theorem dX10_writeThree_11 : decode cX10_writeThree 11 = .ok (.iconst 0, 1) := by decide +kernel
theorem dX10_writeThree_12 : decode cX10_writeThree 12 = .ok (.istore_n 3, 1) := by decide +kernel
theorem dX10_writeThree_13 : decode cX10_writeThree 13 = .ok (.iload_n 1, 1) := by decide +kernel
theorem dX10_writeThree_14 : decode cX10_writeThree 14 = .ok (.bipush 13, 2) := by decide +kernel
theorem dX10_writeThree_16 : decode cX10_writeThree 16 = .ok (.ishr, 1) := by decide +kernel
theorem dX10_writeThree_17 : decode cX10_writeThree 17 = .ok (.iconst 3, 1) := by decide +kernel
theorem dX10_writeThree_18 : decode cX10_writeThree 18 = .ok (.iand, 1) := by decide +kernel
theorem dX10_writeThree_19 : decode cX10_writeThree 19 = .ok (.tableswitch 89 0 2 #[25, 53, 69], 25) := by decide +kernel
theorem dX10_writeThree_44 : decode cX10_writeThree 44 = .ok (.iload_n 3, 1) := by decide +kernel
theorem dX10_writeThree_45 : decode cX10_writeThree 45 = .ok (.ifCond .eq 19, 3) := by decide +kernel
theorem dX10_writeThree_48 : decode cX10_writeThree 48 = .ok (.aload_n 0, 1) := by decide +kernel
theorem dX10_writeThree_49 : decode cX10_writeThree 49 = .ok (.getfield 35, 3) := by decide +kernel
theorem dX10_writeThree_52 : decode cX10_writeThree 52 = .ok (.aload_n 0, 1) := by decide +kernel
theorem dX10_writeThree_53 : decode cX10_writeThree 53 = .ok (.getfield 67, 3) := by decide +kernel
theorem dX10_writeThree_56 : decode cX10_writeThree 56 = .ok (.bipush 7, 2) := by decide +kernel
theorem dX10_writeThree_58 : decode cX10_writeThree 58 = .ok (.iand, 1) := by decide +kernel
theorem dX10_writeThree_59 : decode cX10_writeThree 59 = .ok (.iload_n 2, 1) := by decide +kernel
theorem dX10_writeThree_60 : decode cX10_writeThree 60 = .ok (.iastore, 1) := by decide +kernel
theorem dX10_writeThree_61 : decode cX10_writeThree 61 = .ok (.goto 61, 3) := by decide +kernel
theorem dX10_writeThree_64 : decode cX10_writeThree 64 = .ok (.aload_n 0, 1) := by decide +kernel
theorem dX10_writeThree_65 : decode cX10_writeThree 65 = .ok (.iload_n 2, 1) := by decide +kernel
theorem dX10_writeThree_66 : decode cX10_writeThree 66 = .ok (.putfield 67, 3) := by decide +kernel
theorem dX10_writeThree_69 : decode cX10_writeThree 69 = .ok (.goto 53, 3) := by decide +kernel
theorem dX10_writeThree_72 : decode cX10_writeThree 72 = .ok (.iload_n 3, 1) := by decide +kernel
theorem dX10_writeThree_73 : decode cX10_writeThree 73 = .ok (.ifCond .ne 49, 3) := by decide +kernel
theorem dX10_writeThree_76 : decode cX10_writeThree 76 = .ok (.aload_n 0, 1) := by decide +kernel
theorem dX10_writeThree_77 : decode cX10_writeThree 77 = .ok (.iconst 2, 1) := by decide +kernel
theorem dX10_writeThree_78 : decode cX10_writeThree 78 = .ok (.iload_n 2, 1) := by decide +kernel
theorem dX10_writeThree_79 : decode cX10_writeThree 79 = .ok (.iconst 1, 1) := by decide +kernel
theorem dX10_writeThree_80 : decode cX10_writeThree 80 = .ok (.iand, 1) := by decide +kernel
theorem dX10_writeThree_81 : decode cX10_writeThree 81 = .ok (.iadd, 1) := by decide +kernel
theorem dX10_writeThree_82 : decode cX10_writeThree 82 = .ok (.putfield 55, 3) := by decide +kernel
theorem dX10_writeThree_85 : decode cX10_writeThree 85 = .ok (.goto 37, 3) := by decide +kernel
theorem dX10_writeThree_88 : decode cX10_writeThree 88 = .ok (.iload_n 3, 1) := by decide +kernel
theorem dX10_writeThree_89 : decode cX10_writeThree 89 = .ok (.ifCond .eq 11, 3) := by decide +kernel
theorem dX10_writeThree_92 : decode cX10_writeThree 92 = .ok (.aload_n 0, 1) := by decide +kernel
theorem dX10_writeThree_93 : decode cX10_writeThree 93 = .ok (.iconst 0, 1) := by decide +kernel
theorem dX10_writeThree_94 : decode cX10_writeThree 94 = .ok (.putfield 82, 3) := by decide +kernel
theorem dX10_writeThree_97 : decode cX10_writeThree 97 = .ok (.goto 25, 3) := by decide +kernel
theorem dX10_writeThree_100 : decode cX10_writeThree 100 = .ok (.aload_n 0, 1) := by decide +kernel
theorem dX10_writeThree_101 : decode cX10_writeThree 101 = .ok (.iload_n 2, 1) := by decide +kernel
theorem dX10_writeThree_102 : decode cX10_writeThree 102 = .ok (.putfield 85, 3) := by decide +kernel
theorem dX10_writeThree_105 : decode cX10_writeThree 105 = .ok (.goto 17, 3) := by decide +kernel
theorem dX10_writeThree_108 : decode cX10_writeThree 108 = .ok (.aload_n 0, 1) := by decide +kernel
theorem dX10_writeThree_109 : decode cX10_writeThree 109 = .ok (.iload_n 3, 1) := by decide +kernel
theorem dX10_writeThree_110 : decode cX10_writeThree 110 = .ok (.putfield 88, 3) := by decide +kernel
theorem dX10_writeThree_113 : decode cX10_writeThree 113 = .ok (.iload_n 3, 1) := by decide +kernel
theorem dX10_writeThree_114 : decode cX10_writeThree 114 = .ok (.ifCond .ne 8, 3) := by decide +kernel
theorem dX10_writeThree_117 : decode cX10_writeThree 117 = .ok (.aload_n 0, 1) := by decide +kernel
theorem dX10_writeThree_118 : decode cX10_writeThree 118 = .ok (.iconst 0, 1) := by decide +kernel
theorem dX10_writeThree_119 : decode cX10_writeThree 119 = .ok (.putfield 91, 3) := by decide +kernel
theorem dX10_writeThree_122 : decode cX10_writeThree 122 = .ok (.return_, 1) := by decide +kernel
theorem dX10_tellLine_0 : decode cX10_tellLine 0 = .ok (.aload_n 0, 1) := by decide +kernel
theorem dX10_tellLine_1 : decode cX10_tellLine 1 = .ok (.getfield 51, 3) := by decide +kernel
theorem dX10_tellLine_4 : decode cX10_tellLine 4 = .ok (.ifCond .ne 4, 3) := by decide +kernel
theorem dX10_tellLine_7 : decode cX10_tellLine 7 = .ok (.return_, 1) := by decide +kernel
theorem dX10_tellLine_8 : decode cX10_tellLine 8 = .ok (.aload_n 0, 1) := by decide +kernel
theorem dX10_tellLine_9 : decode cX10_tellLine 9 = .ok (.aload_n 0, 1) := by decide +kernel
theorem dX10_tellLine_10 : decode cX10_tellLine 10 = .ok (.getfield 82, 3) := by decide +kernel
theorem dX10_tellLine_13 : decode cX10_tellLine 13 = .ok (.ifCond .ne 10, 3) := by decide +kernel
theorem dX10_tellLine_16 : decode cX10_tellLine 16 = .ok (.aload_n 0, 1) := by decide +kernel
theorem dX10_tellLine_17 : decode cX10_tellLine 17 = .ok (.getfield 85, 3) := by decide +kernel
theorem dX10_tellLine_20 : decode cX10_tellLine 20 = .ok (.goto 9, 3) := by decide +kernel
theorem dX10_tellLine_23 : decode cX10_tellLine 23 = .ok (.aload_n 0, 1) := by decide +kernel
theorem dX10_tellLine_24 : decode cX10_tellLine 24 = .ok (.getfield 82, 3) := by decide +kernel
theorem dX10_tellLine_27 : decode cX10_tellLine 27 = .ok (.iconst 1, 1) := by decide +kernel
theorem dX10_tellLine_28 : decode cX10_tellLine 28 = .ok (.isub, 1) := by decide +kernel
theorem dX10_tellLine_29 : decode cX10_tellLine 29 = .ok (.putfield 82, 3) := by decide +kernel
theorem dX10_tellLine_32 : decode cX10_tellLine 32 = .ok (.aload_n 0, 1) := by decide +kernel
theorem dX10_tellLine_33 : decode cX10_tellLine 33 = .ok (.getfield 82, 3) := by decide +kernel
theorem dX10_tellLine_36 : decode cX10_tellLine 36 = .ok (.ifCond .ne 15, 3) := by decide +kernel
theorem dX10_tellLine_39 : decode cX10_tellLine 39 = .ok (.aload_n 0, 1) := by decide +kernel
theorem dX10_tellLine_40 : decode cX10_tellLine 40 = .ok (.getfield 88, 3) := by decide +kernel
theorem dX10_tellLine_43 : decode cX10_tellLine 43 = .ok (.ifCond .eq 8, 3) := by decide +kernel
theorem dX10_tellLine_46 : decode cX10_tellLine 46 = .ok (.aload_n 0, 1) := by decide +kernel
theorem dX10_tellLine_47 : decode cX10_tellLine 47 = .ok (.iconst 1, 1) := by decide +kernel
theorem dX10_tellLine_48 : decode cX10_tellLine 48 = .ok (.putfield 91, 3) := by decide +kernel
theorem dX10_tellLine_51 : decode cX10_tellLine 51 = .ok (.return_, 1) := by decide +kernel
theorem dX10_tablePlace_0 : decode cX10_tablePlace 0 = .ok (.aload_n 0, 1) := by decide +kernel
theorem dX10_tablePlace_1 : decode cX10_tablePlace 1 = .ok (.getfield 55, 3) := by decide +kernel
theorem dX10_tablePlace_4 : decode cX10_tablePlace 4 = .ok (.ifCond .ne 7, 3) := by decide +kernel
theorem dX10_tablePlace_7 : decode cX10_tablePlace 7 = .ok (.iconst 0, 1) := by decide +kernel
theorem dX10_tablePlace_8 : decode cX10_tablePlace 8 = .ok (.goto 38, 3) := by decide +kernel
theorem dX10_tablePlace_11 : decode cX10_tablePlace 11 = .ok (.aload_n 0, 1) := by decide +kernel
theorem dX10_tablePlace_12 : decode cX10_tablePlace 12 = .ok (.getfield 55, 3) := by decide +kernel
theorem dX10_tablePlace_15 : decode cX10_tablePlace 15 = .ok (.iconst 1, 1) := by decide +kernel
theorem dX10_tablePlace_16 : decode cX10_tablePlace 16 = .ok (.if_icmp .ne 7, 3) := by decide +kernel
theorem dX10_tablePlace_19 : decode cX10_tablePlace 19 = .ok (.iconst 1, 1) := by decide +kernel
theorem dX10_tablePlace_20 : decode cX10_tablePlace 20 = .ok (.goto 26, 3) := by decide +kernel
theorem dX10_tablePlace_23 : decode cX10_tablePlace 23 = .ok (.aload_n 0, 1) := by decide +kernel
theorem dX10_tablePlace_24 : decode cX10_tablePlace 24 = .ok (.getfield 55, 3) := by decide +kernel
theorem dX10_tablePlace_27 : decode cX10_tablePlace 27 = .ok (.iconst 2, 1) := by decide +kernel
theorem dX10_tablePlace_28 : decode cX10_tablePlace 28 = .ok (.if_icmp .ne 12, 3) := by decide +kernel
theorem dX10_tablePlace_31 : decode cX10_tablePlace 31 = .ok (.iload_n 1, 1) := by decide +kernel
theorem dX10_tablePlace_32 : decode cX10_tablePlace 32 = .ok (.bipush 10, 2) := by decide +kernel
theorem dX10_tablePlace_34 : decode cX10_tablePlace 34 = .ok (.ishr, 1) := by decide +kernel
theorem dX10_tablePlace_35 : decode cX10_tablePlace 35 = .ok (.iconst 1, 1) := by decide +kernel
theorem dX10_tablePlace_36 : decode cX10_tablePlace 36 = .ok (.iand, 1) := by decide +kernel
theorem dX10_tablePlace_37 : decode cX10_tablePlace 37 = .ok (.goto 9, 3) := by decide +kernel
theorem dX10_tablePlace_40 : decode cX10_tablePlace 40 = .ok (.iload_n 1, 1) := by decide +kernel
theorem dX10_tablePlace_41 : decode cX10_tablePlace 41 = .ok (.bipush 11, 2) := by decide +kernel
theorem dX10_tablePlace_43 : decode cX10_tablePlace 43 = .ok (.ishr, 1) := by decide +kernel
theorem dX10_tablePlace_44 : decode cX10_tablePlace 44 = .ok (.iconst 1, 1) := by decide +kernel
theorem dX10_tablePlace_45 : decode cX10_tablePlace 45 = .ok (.iand, 1) := by decide +kernel
theorem dX10_tablePlace_46 : decode cX10_tablePlace 46 = .ok (.istore_n 2, 1) := by decide +kernel
theorem dX10_tablePlace_47 : decode cX10_tablePlace 47 = .ok (.sipush 1024, 3) := by decide +kernel
theorem dX10_tablePlace_50 : decode cX10_tablePlace 50 = .ok (.iload_n 2, 1) := by decide +kernel
theorem dX10_tablePlace_51 : decode cX10_tablePlace 51 = .ok (.imul, 1) := by decide +kernel
theorem dX10_tablePlace_52 : decode cX10_tablePlace 52 = .ok (.iload_n 1, 1) := by decide +kernel
theorem dX10_tablePlace_53 : decode cX10_tablePlace 53 = .ok (.sipush 1023, 3) := by decide +kernel
theorem dX10_tablePlace_56 : decode cX10_tablePlace 56 = .ok (.iand, 1) := by decide +kernel
theorem dX10_tablePlace_57 : decode cX10_tablePlace 57 = .ok (.iadd, 1) := by decide +kernel
theorem dX10_tablePlace_58 : decode cX10_tablePlace 58 = .ok (.ireturn, 1) := by decide +kernel
theorem dX10_palettePlace_0 : decode cX10_palettePlace 0 = .ok (.iload_n 0, 1) := by decide +kernel
theorem dX10_palettePlace_1 : decode cX10_palettePlace 1 = .ok (.bipush 31, 2) := by decide +kernel
theorem dX10_palettePlace_3 : decode cX10_palettePlace 3 = .ok (.iand, 1) := by decide +kernel
theorem dX10_palettePlace_4 : decode cX10_palettePlace 4 = .ok (.istore_n 1, 1) := by decide +kernel
theorem dX10_palettePlace_5 : decode cX10_palettePlace 5 = .ok (.iload_n 1, 1) := by decide +kernel
theorem dX10_palettePlace_6 : decode cX10_palettePlace 6 = .ok (.bipush 19, 2) := by decide +kernel
theorem dX10_palettePlace_8 : decode cX10_palettePlace 8 = .ok (.iand, 1) := by decide +kernel
theorem dX10_palettePlace_9 : decode cX10_palettePlace 9 = .ok (.bipush 16, 2) := by decide +kernel
theorem dX10_palettePlace_11 : decode cX10_palettePlace 11 = .ok (.if_icmp .ne 10, 3) := by decide +kernel
theorem dX10_palettePlace_14 : decode cX10_palettePlace 14 = .ok (.iload_n 1, 1) := by decide +kernel
theorem dX10_palettePlace_15 : decode cX10_palettePlace 15 = .ok (.bipush 16, 2) := by decide +kernel
theorem dX10_palettePlace_17 : decode cX10_palettePlace 17 = .ok (.isub, 1) := by decide +kernel
theorem dX10_palettePlace_18 : decode cX10_palettePlace 18 = .ok (.goto 4, 3) := by decide +kernel
theorem dX10_palettePlace_21 : decode cX10_palettePlace 21 = .ok (.iload_n 1, 1) := by decide +kernel
theorem dX10_palettePlace_22 : decode cX10_palettePlace 22 = .ok (.ireturn, 1) := by decide +kernel
theorem dX10_seen_0 : decode cX10_seen 0 = .ok (.iload_n 1, 1) := by decide +kernel
theorem dX10_seen_1 : decode cX10_seen 1 = .ok (.sipush 16383, 3) := by decide +kernel
theorem dX10_seen_4 : decode cX10_seen 4 = .ok (.iand, 1) := by decide +kernel
theorem dX10_seen_5 : decode cX10_seen 5 = .ok (.istore_n 2, 1) := by decide +kernel
theorem dX10_seen_6 : decode cX10_seen 6 = .ok (.iload_n 2, 1) := by decide +kernel
theorem dX10_seen_7 : decode cX10_seen 7 = .ok (.sipush 8192, 3) := by decide +kernel
theorem dX10_seen_10 : decode cX10_seen 10 = .ok (.if_icmp .ge 25, 3) := by decide +kernel
theorem dX10_seen_13 : decode cX10_seen 13 = .ok (.aload_n 0, 1) := by decide +kernel
theorem dX10_seen_14 : decode cX10_seen 14 = .ok (.getfield 19, 3) := by decide +kernel
theorem dX10_seen_17 : decode cX10_seen 17 = .ok (.bipush 16, 2) := by decide +kernel
theorem dX10_seen_19 : decode cX10_seen 19 = .ok (.aload_n 0, 1) := by decide +kernel
theorem dX10_seen_20 : decode cX10_seen 20 = .ok (.iload_n 2, 1) := by decide +kernel
theorem dX10_seen_21 : decode cX10_seen 21 = .ok (.bipush 10, 2) := by decide +kernel
theorem dX10_seen_23 : decode cX10_seen 23 = .ok (.ishr, 1) := by decide +kernel
theorem dX10_seen_24 : decode cX10_seen 24 = .ok (.invokevirtual 94, 3) := by decide +kernel
theorem dX10_seen_27 : decode cX10_seen 27 = .ok (.imul, 1) := by decide +kernel
theorem dX10_seen_28 : decode cX10_seen 28 = .ok (.iload_n 2, 1) := by decide +kernel
theorem dX10_seen_29 : decode cX10_seen 29 = .ok (.bipush 15, 2) := by decide +kernel
theorem dX10_seen_31 : decode cX10_seen 31 = .ok (.iand, 1) := by decide +kernel
theorem dX10_seen_32 : decode cX10_seen 32 = .ok (.iadd, 1) := by decide +kernel
theorem dX10_seen_33 : decode cX10_seen 33 = .ok (.iaload, 1) := by decide +kernel
theorem dX10_seen_34 : decode cX10_seen 34 = .ok (.ireturn, 1) := by decide +kernel
theorem dX10_seen_35 : decode cX10_seen 35 = .ok (.iload_n 2, 1) := by decide +kernel
theorem dX10_seen_36 : decode cX10_seen 36 = .ok (.sipush 16128, 3) := by decide +kernel
theorem dX10_seen_39 : decode cX10_seen 39 = .ok (.if_icmp .ge 16, 3) := by decide +kernel
theorem dX10_seen_42 : decode cX10_seen 42 = .ok (.aload_n 0, 1) := by decide +kernel
theorem dX10_seen_43 : decode cX10_seen 43 = .ok (.getfield 29, 3) := by decide +kernel
theorem dX10_seen_46 : decode cX10_seen 46 = .ok (.aload_n 0, 1) := by decide +kernel
theorem dX10_seen_47 : decode cX10_seen 47 = .ok (.iload_n 2, 1) := by decide +kernel
theorem dX10_seen_48 : decode cX10_seen 48 = .ok (.invokevirtual 98, 3) := by decide +kernel
theorem dX10_seen_51 : decode cX10_seen 51 = .ok (.iaload, 1) := by decide +kernel
theorem dX10_seen_52 : decode cX10_seen 52 = .ok (.goto 12, 3) := by decide +kernel
theorem dX10_seen_55 : decode cX10_seen 55 = .ok (.aload_n 0, 1) := by decide +kernel
theorem dX10_seen_56 : decode cX10_seen 56 = .ok (.getfield 32, 3) := by decide +kernel
theorem dX10_seen_59 : decode cX10_seen 59 = .ok (.iload_n 2, 1) := by decide +kernel
theorem dX10_seen_60 : decode cX10_seen 60 = .ok (.invokestatic 101, 3) := by decide +kernel
theorem dX10_seen_63 : decode cX10_seen 63 = .ok (.iaload, 1) := by decide +kernel
theorem dX10_seen_64 : decode cX10_seen 64 = .ok (.ireturn, 1) := by decide +kernel
theorem dX10_keep_0 : decode cX10_keep 0 = .ok (.iload_n 1, 1) := by decide +kernel
theorem dX10_keep_1 : decode cX10_keep 1 = .ok (.sipush 16383, 3) := by decide +kernel
theorem dX10_keep_4 : decode cX10_keep 4 = .ok (.iand, 1) := by decide +kernel
theorem dX10_keep_5 : decode cX10_keep 5 = .ok (.istore_n 3, 1) := by decide +kernel
theorem dX10_keep_6 : decode cX10_keep 6 = .ok (.iload_n 3, 1) := by decide +kernel
theorem dX10_keep_7 : decode cX10_keep 7 = .ok (.sipush 16128, 3) := by decide +kernel
theorem dX10_keep_10 : decode cX10_keep 10 = .ok (.if_icmp .lt 16, 3) := by decide +kernel
theorem dX10_keep_13 : decode cX10_keep 13 = .ok (.aload_n 0, 1) := by decide +kernel
theorem dX10_keep_14 : decode cX10_keep 14 = .ok (.getfield 32, 3) := by decide +kernel
theorem dX10_keep_17 : decode cX10_keep 17 = .ok (.iload_n 3, 1) := by decide +kernel
theorem dX10_keep_18 : decode cX10_keep 18 = .ok (.invokestatic 101, 3) := by decide +kernel
theorem dX10_keep_21 : decode cX10_keep 21 = .ok (.iload_n 2, 1) := by decide +kernel
theorem dX10_keep_22 : decode cX10_keep 22 = .ok (.iastore, 1) := by decide +kernel
theorem dX10_keep_23 : decode cX10_keep 23 = .ok (.goto 21, 3) := by decide +kernel
theorem dX10_keep_26 : decode cX10_keep 26 = .ok (.iload_n 3, 1) := by decide +kernel
theorem dX10_keep_27 : decode cX10_keep 27 = .ok (.sipush 8192, 3) := by decide +kernel
theorem dX10_keep_30 : decode cX10_keep 30 = .ok (.if_icmp .lt 14, 3) := by decide +kernel
theorem dX10_keep_33 : decode cX10_keep 33 = .ok (.aload_n 0, 1) := by decide +kernel
theorem dX10_keep_34 : decode cX10_keep 34 = .ok (.getfield 29, 3) := by decide +kernel
theorem dX10_keep_37 : decode cX10_keep 37 = .ok (.aload_n 0, 1) := by decide +kernel
theorem dX10_keep_38 : decode cX10_keep 38 = .ok (.iload_n 3, 1) := by decide +kernel
theorem dX10_keep_39 : decode cX10_keep 39 = .ok (.invokevirtual 98, 3) := by decide +kernel
theorem dX10_keep_42 : decode cX10_keep 42 = .ok (.iload_n 2, 1) := by decide +kernel
theorem dX10_keep_43 : decode cX10_keep 43 = .ok (.iastore, 1) := by decide +kernel
theorem dX10_keep_44 : decode cX10_keep 44 = .ok (.return_, 1) := by decide +kernel
theorem dX10_goOn_0 : decode cX10_goOn 0 = .ok (.aload_n 0, 1) := by decide +kernel
theorem dX10_goOn_1 : decode cX10_goOn 1 = .ok (.aload_n 0, 1) := by decide +kernel
theorem dX10_goOn_2 : decode cX10_goOn 2 = .ok (.getfield 104, 3) := by decide +kernel
theorem dX10_goOn_5 : decode cX10_goOn 5 = .ok (.aload_n 0, 1) := by decide +kernel
theorem dX10_goOn_6 : decode cX10_goOn 6 = .ok (.getfield 107, 3) := by decide +kernel
theorem dX10_goOn_9 : decode cX10_goOn 9 = .ok (.iconst 4, 1) := by decide +kernel
theorem dX10_goOn_10 : decode cX10_goOn 10 = .ok (.iand, 1) := by decide +kernel
theorem dX10_goOn_11 : decode cX10_goOn 11 = .ok (.ifCond .eq 8, 3) := by decide +kernel
theorem dX10_goOn_14 : decode cX10_goOn 14 = .ok (.bipush 32, 2) := by decide +kernel
theorem dX10_goOn_16 : decode cX10_goOn 16 = .ok (.goto 4, 3) := by decide +kernel
theorem dX10_goOn_19 : decode cX10_goOn 19 = .ok (.iconst 1, 1) := by decide +kernel
theorem dX10_goOn_20 : decode cX10_goOn 20 = .ok (.iadd, 1) := by decide +kernel
theorem dX10_goOn_21 : decode cX10_goOn 21 = .ok (.sipush 32767, 3) := by decide +kernel
theorem dX10_goOn_24 : decode cX10_goOn 24 = .ok (.iand, 1) := by decide +kernel
theorem dX10_goOn_25 : decode cX10_goOn 25 = .ok (.putfield 104, 3) := by decide +kernel
theorem dX10_goOn_28 : decode cX10_goOn 28 = .ok (.return_, 1) := by decide +kernel
theorem dX10_readPicture_0 : decode cX10_readPicture 0 = .ok (.iconst 0, 1) := by decide +kernel
theorem dX10_readPicture_1 : decode cX10_readPicture 1 = .ok (.istore_n 2, 1) := by decide +kernel
theorem dX10_readPicture_2 : decode cX10_readPicture 2 = .ok (.iload_n 1, 1) := by decide +kernel
theorem dX10_readPicture_3 : decode cX10_readPicture 3 = .ok (.iconst 2, 1) := by decide +kernel
theorem dX10_readPicture_4 : decode cX10_readPicture 4 = .ok (.if_icmp .ne 24, 3) := by decide +kernel
theorem dX10_readPicture_7 : decode cX10_readPicture 7 = .ok (.aload_n 0, 1) := by decide +kernel
theorem dX10_readPicture_8 : decode cX10_readPicture 8 = .ok (.getfield 110, 3) := by decide +kernel
theorem dX10_readPicture_11 : decode cX10_readPicture 11 = .ok (.bipush 7, 2) := by decide +kernel
theorem dX10_readPicture_13 : decode cX10_readPicture 13 = .ok (.ishl, 1) := by decide +kernel
theorem dX10_readPicture_14 : decode cX10_readPicture 14 = .ok (.istore_n 2, 1) := by decide +kernel
theorem dX10_readPicture_15 : decode cX10_readPicture 15 = .ok (.aload_n 0, 1) := by decide +kernel
theorem dX10_readPicture_16 : decode cX10_readPicture 16 = .ok (.iconst 0, 1) := by decide +kernel
theorem dX10_readPicture_17 : decode cX10_readPicture 17 = .ok (.putfield 110, 3) := by decide +kernel
theorem dX10_readPicture_20 : decode cX10_readPicture 20 = .ok (.aload_n 0, 1) := by decide +kernel
theorem dX10_readPicture_21 : decode cX10_readPicture 21 = .ok (.iconst 0, 1) := by decide +kernel
theorem dX10_readPicture_22 : decode cX10_readPicture 22 = .ok (.putfield 113, 3) := by decide +kernel
theorem dX10_readPicture_25 : decode cX10_readPicture 25 = .ok (.goto 107, 3) := by decide +kernel
theorem dX10_readPicture_28 : decode cX10_readPicture 28 = .ok (.iload_n 1, 1) := by decide +kernel
theorem dX10_readPicture_29 : decode cX10_readPicture 29 = .ok (.iconst 4, 1) := by decide +kernel
theorem dX10_readPicture_30 : decode cX10_readPicture 30 = .ok (.if_icmp .ne 16, 3) := by decide +kernel
theorem dX10_readPicture_33 : decode cX10_readPicture 33 = .ok (.aload_n 0, 1) := by decide +kernel
theorem dX10_readPicture_34 : decode cX10_readPicture 34 = .ok (.getfield 26, 3) := by decide +kernel
theorem dX10_readPicture_37 : decode cX10_readPicture 37 = .ok (.aload_n 0, 1) := by decide +kernel
theorem dX10_readPicture_38 : decode cX10_readPicture 38 = .ok (.getfield 116, 3) := by decide +kernel
theorem dX10_readPicture_41 : decode cX10_readPicture 41 = .ok (.iaload, 1) := by decide +kernel
theorem dX10_readPicture_42 : decode cX10_readPicture 42 = .ok (.istore_n 2, 1) := by decide +kernel
theorem dX10_readPicture_43 : decode cX10_readPicture 43 = .ok (.goto 89, 3) := by decide +kernel
theorem dX10_readPicture_46 : decode cX10_readPicture 46 = .ok (.iload_n 1, 1) := by decide +kernel
theorem dX10_readPicture_47 : decode cX10_readPicture 47 = .ok (.bipush 7, 2) := by decide +kernel
theorem dX10_readPicture_49 : decode cX10_readPicture 49 = .ok (.if_icmp .ne 83, 3) := by decide +kernel
theorem dX10_readPicture_52 : decode cX10_readPicture 52 = .ok (.aload_n 0, 1) := by decide +kernel
theorem dX10_readPicture_53 : decode cX10_readPicture 53 = .ok (.getfield 104, 3) := by decide +kernel
theorem dX10_readPicture_56 : decode cX10_readPicture 56 = .ok (.sipush 16383, 3) := by decide +kernel
theorem dX10_readPicture_59 : decode cX10_readPicture 59 = .ok (.iand, 1) := by decide +kernel
theorem dX10_readPicture_60 : decode cX10_readPicture 60 = .ok (.sipush 16128, 3) := by decide +kernel
theorem dX10_readPicture_63 : decode cX10_readPicture 63 = .ok (.if_icmp .lt 7, 3) := by decide +kernel
theorem dX10_readPicture_66 : decode cX10_readPicture 66 = .ok (.iconst 1, 1) := by decide +kernel
theorem dX10_readPicture_67 : decode cX10_readPicture 67 = .ok (.goto 4, 3) := by decide +kernel
theorem dX10_readPicture_70 : decode cX10_readPicture 70 = .ok (.iconst 0, 1) := by decide +kernel
theorem dX10_readPicture_71 : decode cX10_readPicture 71 = .ok (.istore_n 3, 1) := by decide +kernel
theorem dX10_readPicture_72 : decode cX10_readPicture 72 = .ok (.iload_n 3, 1) := by decide +kernel
theorem dX10_readPicture_73 : decode cX10_readPicture 73 = .ok (.ifCond .eq 14, 3) := by decide +kernel
theorem dX10_readPicture_76 : decode cX10_readPicture 76 = .ok (.aload_n 0, 1) := by decide +kernel
theorem dX10_readPicture_77 : decode cX10_readPicture 77 = .ok (.aload_n 0, 1) := by decide +kernel
theorem dX10_readPicture_78 : decode cX10_readPicture 78 = .ok (.getfield 104, 3) := by decide +kernel
theorem dX10_readPicture_81 : decode cX10_readPicture 81 = .ok (.invokevirtual 119, 3) := by decide +kernel
theorem dX10_readPicture_84 : decode cX10_readPicture 84 = .ok (.goto 7, 3) := by decide +kernel
theorem dX10_readPicture_87 : decode cX10_readPicture 87 = .ok (.aload_n 0, 1) := by decide +kernel
theorem dX10_readPicture_88 : decode cX10_readPicture 88 = .ok (.getfield 122, 3) := by decide +kernel
theorem dX10_readPicture_91 : decode cX10_readPicture 91 = .ok (.istore_n 2, 1) := by decide +kernel
theorem dX10_readPicture_92 : decode cX10_readPicture 92 = .ok (.aload_n 0, 1) := by decide +kernel
theorem dX10_readPicture_93 : decode cX10_readPicture 93 = .ok (.iload_n 3, 1) := by decide +kernel
theorem dX10_readPicture_94 : decode cX10_readPicture 94 = .ok (.ifCond .eq 23, 3) := by decide +kernel
theorem dX10_readPicture_97 : decode cX10_readPicture 97 = .ok (.aload_n 0, 1) := by decide +kernel
theorem dX10_readPicture_98 : decode cX10_readPicture 98 = .ok (.getfield 29, 3) := by decide +kernel
theorem dX10_readPicture_101 : decode cX10_readPicture 101 = .ok (.aload_n 0, 1) := by decide +kernel
theorem dX10_readPicture_102 : decode cX10_readPicture 102 = .ok (.aload_n 0, 1) := by decide +kernel
theorem dX10_readPicture_103 : decode cX10_readPicture 103 = .ok (.getfield 104, 3) := by decide +kernel
theorem dX10_readPicture_106 : decode cX10_readPicture 106 = .ok (.sipush 16383, 3) := by decide +kernel
theorem dX10_readPicture_109 : decode cX10_readPicture 109 = .ok (.iand, 1) := by decide +kernel
theorem dX10_readPicture_110 : decode cX10_readPicture 110 = .ok (.invokevirtual 98, 3) := by decide +kernel
theorem dX10_readPicture_113 : decode cX10_readPicture 113 = .ok (.iaload, 1) := by decide +kernel
theorem dX10_readPicture_114 : decode cX10_readPicture 114 = .ok (.goto 11, 3) := by decide +kernel
theorem dX10_readPicture_117 : decode cX10_readPicture 117 = .ok (.aload_n 0, 1) := by decide +kernel
theorem dX10_readPicture_118 : decode cX10_readPicture 118 = .ok (.aload_n 0, 1) := by decide +kernel
theorem dX10_readPicture_119 : decode cX10_readPicture 119 = .ok (.getfield 104, 3) := by decide +kernel
theorem dX10_readPicture_122 : decode cX10_readPicture 122 = .ok (.invokevirtual 119, 3) := by decide +kernel
theorem dX10_readPicture_125 : decode cX10_readPicture 125 = .ok (.putfield 122, 3) := by decide +kernel
theorem dX10_readPicture_128 : decode cX10_readPicture 128 = .ok (.aload_n 0, 1) := by decide +kernel
theorem dX10_readPicture_129 : decode cX10_readPicture 129 = .ok (.invokevirtual 125, 3) := by decide +kernel
theorem dX10_readPicture_132 : decode cX10_readPicture 132 = .ok (.iload_n 2, 1) := by decide +kernel
theorem dX10_readPicture_133 : decode cX10_readPicture 133 = .ok (.ireturn, 1) := by decide +kernel
theorem dX10_writePicture_0 : decode cX10_writePicture 0 = .ok (.iload_n 1, 1) := by decide +kernel
theorem dX10_writePicture_1 : decode cX10_writePicture 1 = .ok (.tableswitch 302 0 7 #[47, 102, 302, 110, 118, 145, 221, 286], 47) := by decide +kernel
theorem dX10_writePicture_48 : decode cX10_writePicture 48 = .ok (.aload_n 0, 1) := by decide +kernel
theorem dX10_writePicture_49 : decode cX10_writePicture 49 = .ok (.getfield 110, 3) := by decide +kernel
theorem dX10_writePicture_52 : decode cX10_writePicture 52 = .ok (.iconst 1, 1) := by decide +kernel
theorem dX10_writePicture_53 : decode cX10_writePicture 53 = .ok (.if_icmp .ne 23, 3) := by decide +kernel
theorem dX10_writePicture_56 : decode cX10_writePicture 56 = .ok (.iload_n 2, 1) := by decide +kernel
theorem dX10_writePicture_57 : decode cX10_writePicture 57 = .ok (.aload_n 0, 1) := by decide +kernel
theorem dX10_writePicture_58 : decode cX10_writePicture 58 = .ok (.getfield 107, 3) := by decide +kernel
theorem dX10_writePicture_61 : decode cX10_writePicture 61 = .ok (.iconst (-1), 1) := by decide +kernel
theorem dX10_writePicture_62 : decode cX10_writePicture 62 = .ok (.ixor, 1) := by decide +kernel
theorem dX10_writePicture_63 : decode cX10_writePicture 63 = .ok (.iand, 1) := by decide +kernel
theorem dX10_writePicture_64 : decode cX10_writePicture 64 = .ok (.sipush 128, 3) := by decide +kernel
theorem dX10_writePicture_67 : decode cX10_writePicture 67 = .ok (.iand, 1) := by decide +kernel
theorem dX10_writePicture_68 : decode cX10_writePicture 68 = .ok (.ifCond .eq 8, 3) := by decide +kernel
theorem dX10_writePicture_71 : decode cX10_writePicture 71 = .ok (.aload_n 0, 1) := by decide +kernel
theorem dX10_writePicture_72 : decode cX10_writePicture 72 = .ok (.iconst 1, 1) := by decide +kernel
theorem dX10_writePicture_73 : decode cX10_writePicture 73 = .ok (.putfield 128, 3) := by decide +kernel
theorem dX10_writePicture_76 : decode cX10_writePicture 76 = .ok (.aload_n 0, 1) := by decide +kernel
theorem dX10_writePicture_77 : decode cX10_writePicture 77 = .ok (.iload_n 2, 1) := by decide +kernel
theorem dX10_writePicture_78 : decode cX10_writePicture 78 = .ok (.putfield 107, 3) := by decide +kernel
theorem dX10_writePicture_81 : decode cX10_writePicture 81 = .ok (.aload_n 0, 1) := by decide +kernel
theorem dX10_writePicture_82 : decode cX10_writePicture 82 = .ok (.aload_n 0, 1) := by decide +kernel
theorem dX10_writePicture_83 : decode cX10_writePicture 83 = .ok (.getfield 131, 3) := by decide +kernel
theorem dX10_writePicture_86 : decode cX10_writePicture 86 = .ok (.sipush (-3073), 3) := by decide +kernel
theorem dX10_writePicture_89 : decode cX10_writePicture 89 = .ok (.iand, 1) := by decide +kernel
theorem dX10_writePicture_90 : decode cX10_writePicture 90 = .ok (.iload_n 2, 1) := by decide +kernel
theorem dX10_writePicture_91 : decode cX10_writePicture 91 = .ok (.iconst 3, 1) := by decide +kernel
theorem dX10_writePicture_92 : decode cX10_writePicture 92 = .ok (.iand, 1) := by decide +kernel
theorem dX10_writePicture_93 : decode cX10_writePicture 93 = .ok (.bipush 10, 2) := by decide +kernel
theorem dX10_writePicture_95 : decode cX10_writePicture 95 = .ok (.ishl, 1) := by decide +kernel
theorem dX10_writePicture_96 : decode cX10_writePicture 96 = .ok (.ior, 1) := by decide +kernel
theorem dX10_writePicture_97 : decode cX10_writePicture 97 = .ok (.putfield 131, 3) := by decide +kernel
theorem dX10_writePicture_100 : decode cX10_writePicture 100 = .ok (.goto 203, 3) := by decide +kernel
theorem dX10_writePicture_103 : decode cX10_writePicture 103 = .ok (.aload_n 0, 1) := by decide +kernel
theorem dX10_writePicture_104 : decode cX10_writePicture 104 = .ok (.iload_n 2, 1) := by decide +kernel
theorem dX10_writePicture_105 : decode cX10_writePicture 105 = .ok (.putfield 134, 3) := by decide +kernel
theorem dX10_writePicture_108 : decode cX10_writePicture 108 = .ok (.goto 195, 3) := by decide +kernel
theorem dX10_writePicture_111 : decode cX10_writePicture 111 = .ok (.aload_n 0, 1) := by decide +kernel
theorem dX10_writePicture_112 : decode cX10_writePicture 112 = .ok (.iload_n 2, 1) := by decide +kernel
theorem dX10_writePicture_113 : decode cX10_writePicture 113 = .ok (.putfield 116, 3) := by decide +kernel
theorem dX10_writePicture_116 : decode cX10_writePicture 116 = .ok (.goto 187, 3) := by decide +kernel
theorem dX10_writePicture_119 : decode cX10_writePicture 119 = .ok (.aload_n 0, 1) := by decide +kernel
theorem dX10_writePicture_120 : decode cX10_writePicture 120 = .ok (.getfield 26, 3) := by decide +kernel
theorem dX10_writePicture_123 : decode cX10_writePicture 123 = .ok (.aload_n 0, 1) := by decide +kernel
theorem dX10_writePicture_124 : decode cX10_writePicture 124 = .ok (.getfield 116, 3) := by decide +kernel
theorem dX10_writePicture_127 : decode cX10_writePicture 127 = .ok (.iload_n 2, 1) := by decide +kernel
theorem dX10_writePicture_128 : decode cX10_writePicture 128 = .ok (.iastore, 1) := by decide +kernel
theorem dX10_writePicture_129 : decode cX10_writePicture 129 = .ok (.aload_n 0, 1) := by decide +kernel
theorem dX10_writePicture_130 : decode cX10_writePicture 130 = .ok (.aload_n 0, 1) := by decide +kernel
theorem dX10_writePicture_131 : decode cX10_writePicture 131 = .ok (.getfield 116, 3) := by decide +kernel
theorem dX10_writePicture_134 : decode cX10_writePicture 134 = .ok (.iconst 1, 1) := by decide +kernel
theorem dX10_writePicture_135 : decode cX10_writePicture 135 = .ok (.iadd, 1) := by decide +kernel
theorem dX10_writePicture_136 : decode cX10_writePicture 136 = .ok (.sipush 255, 3) := by decide +kernel
theorem dX10_writePicture_139 : decode cX10_writePicture 139 = .ok (.iand, 1) := by decide +kernel
theorem dX10_writePicture_140 : decode cX10_writePicture 140 = .ok (.putfield 116, 3) := by decide +kernel
theorem dX10_writePicture_143 : decode cX10_writePicture 143 = .ok (.goto 160, 3) := by decide +kernel
theorem dX10_writePicture_146 : decode cX10_writePicture 146 = .ok (.aload_n 0, 1) := by decide +kernel
theorem dX10_writePicture_147 : decode cX10_writePicture 147 = .ok (.getfield 113, 3) := by decide +kernel
theorem dX10_writePicture_150 : decode cX10_writePicture 150 = .ok (.ifCond .ne 29, 3) := by decide +kernel
theorem dX10_writePicture_153 : decode cX10_writePicture 153 = .ok (.aload_n 0, 1) := by decide +kernel
theorem dX10_writePicture_154 : decode cX10_writePicture 154 = .ok (.aload_n 0, 1) := by decide +kernel
theorem dX10_writePicture_155 : decode cX10_writePicture 155 = .ok (.getfield 131, 3) := by decide +kernel
theorem dX10_writePicture_158 : decode cX10_writePicture 158 = .ok (.bipush (-32), 2) := by decide +kernel
theorem dX10_writePicture_160 : decode cX10_writePicture 160 = .ok (.iand, 1) := by decide +kernel
theorem dX10_writePicture_161 : decode cX10_writePicture 161 = .ok (.iload_n 2, 1) := by decide +kernel
theorem dX10_writePicture_162 : decode cX10_writePicture 162 = .ok (.iconst 3, 1) := by decide +kernel
theorem dX10_writePicture_163 : decode cX10_writePicture 163 = .ok (.ishr, 1) := by decide +kernel
theorem dX10_writePicture_164 : decode cX10_writePicture 164 = .ok (.ior, 1) := by decide +kernel
theorem dX10_writePicture_165 : decode cX10_writePicture 165 = .ok (.putfield 131, 3) := by decide +kernel
theorem dX10_writePicture_168 : decode cX10_writePicture 168 = .ok (.aload_n 0, 1) := by decide +kernel
theorem dX10_writePicture_169 : decode cX10_writePicture 169 = .ok (.iload_n 2, 1) := by decide +kernel
theorem dX10_writePicture_170 : decode cX10_writePicture 170 = .ok (.bipush 7, 2) := by decide +kernel
theorem dX10_writePicture_172 : decode cX10_writePicture 172 = .ok (.iand, 1) := by decide +kernel
theorem dX10_writePicture_173 : decode cX10_writePicture 173 = .ok (.putfield 137, 3) := by decide +kernel
theorem dX10_writePicture_176 : decode cX10_writePicture 176 = .ok (.goto 33, 3) := by decide +kernel
theorem dX10_writePicture_179 : decode cX10_writePicture 179 = .ok (.aload_n 0, 1) := by decide +kernel
theorem dX10_writePicture_180 : decode cX10_writePicture 180 = .ok (.aload_n 0, 1) := by decide +kernel
theorem dX10_writePicture_181 : decode cX10_writePicture 181 = .ok (.getfield 131, 3) := by decide +kernel
theorem dX10_writePicture_184 : decode cX10_writePicture 184 = .ok (.sipush (-29665), 3) := by decide +kernel
theorem dX10_writePicture_187 : decode cX10_writePicture 187 = .ok (.iand, 1) := by decide +kernel
theorem dX10_writePicture_188 : decode cX10_writePicture 188 = .ok (.sipush 32767, 3) := by decide +kernel
theorem dX10_writePicture_191 : decode cX10_writePicture 191 = .ok (.iand, 1) := by decide +kernel
theorem dX10_writePicture_192 : decode cX10_writePicture 192 = .ok (.iload_n 2, 1) := by decide +kernel
theorem dX10_writePicture_193 : decode cX10_writePicture 193 = .ok (.bipush 7, 2) := by decide +kernel
theorem dX10_writePicture_195 : decode cX10_writePicture 195 = .ok (.iand, 1) := by decide +kernel
theorem dX10_writePicture_196 : decode cX10_writePicture 196 = .ok (.bipush 12, 2) := by decide +kernel
theorem dX10_writePicture_198 : decode cX10_writePicture 198 = .ok (.ishl, 1) := by decide +kernel
theorem dX10_writePicture_199 : decode cX10_writePicture 199 = .ok (.ior, 1) := by decide +kernel
theorem dX10_writePicture_200 : decode cX10_writePicture 200 = .ok (.iload_n 2, 1) := by decide +kernel
theorem dX10_writePicture_201 : decode cX10_writePicture 201 = .ok (.iconst 3, 1) := by decide +kernel
theorem dX10_writePicture_202 : decode cX10_writePicture 202 = .ok (.ishr, 1) := by decide +kernel
theorem dX10_writePicture_203 : decode cX10_writePicture 203 = .ok (.iconst 5, 1) := by decide +kernel
theorem dX10_writePicture_204 : decode cX10_writePicture 204 = .ok (.ishl, 1) := by decide +kernel
theorem dX10_writePicture_205 : decode cX10_writePicture 205 = .ok (.ior, 1) := by decide +kernel
theorem dX10_writePicture_206 : decode cX10_writePicture 206 = .ok (.putfield 131, 3) := by decide +kernel
theorem dX10_writePicture_209 : decode cX10_writePicture 209 = .ok (.aload_n 0, 1) := by decide +kernel
theorem dX10_writePicture_210 : decode cX10_writePicture 210 = .ok (.iconst 1, 1) := by decide +kernel
theorem dX10_writePicture_211 : decode cX10_writePicture 211 = .ok (.aload_n 0, 1) := by decide +kernel
theorem dX10_writePicture_212 : decode cX10_writePicture 212 = .ok (.getfield 113, 3) := by decide +kernel
theorem dX10_writePicture_215 : decode cX10_writePicture 215 = .ok (.isub, 1) := by decide +kernel
theorem dX10_writePicture_216 : decode cX10_writePicture 216 = .ok (.putfield 113, 3) := by decide +kernel
theorem dX10_writePicture_219 : decode cX10_writePicture 219 = .ok (.goto 84, 3) := by decide +kernel
theorem dX10_writePicture_222 : decode cX10_writePicture 222 = .ok (.aload_n 0, 1) := by decide +kernel
theorem dX10_writePicture_223 : decode cX10_writePicture 223 = .ok (.getfield 113, 3) := by decide +kernel
theorem dX10_writePicture_226 : decode cX10_writePicture 226 = .ok (.ifCond .ne 26, 3) := by decide +kernel
theorem dX10_writePicture_229 : decode cX10_writePicture 229 = .ok (.aload_n 0, 1) := by decide +kernel
theorem dX10_writePicture_230 : decode cX10_writePicture 230 = .ok (.aload_n 0, 1) := by decide +kernel
theorem dX10_writePicture_231 : decode cX10_writePicture 231 = .ok (.getfield 131, 3) := by decide +kernel
theorem dX10_writePicture_234 : decode cX10_writePicture 234 = .ok (.sipush 255, 3) := by decide +kernel
theorem dX10_writePicture_237 : decode cX10_writePicture 237 = .ok (.iand, 1) := by decide +kernel
theorem dX10_writePicture_238 : decode cX10_writePicture 238 = .ok (.iload_n 2, 1) := by decide +kernel
theorem dX10_writePicture_239 : decode cX10_writePicture 239 = .ok (.bipush 63, 2) := by decide +kernel
theorem dX10_writePicture_241 : decode cX10_writePicture 241 = .ok (.iand, 1) := by decide +kernel
theorem dX10_writePicture_242 : decode cX10_writePicture 242 = .ok (.bipush 8, 2) := by decide +kernel
theorem dX10_writePicture_244 : decode cX10_writePicture 244 = .ok (.ishl, 1) := by decide +kernel
theorem dX10_writePicture_245 : decode cX10_writePicture 245 = .ok (.ior, 1) := by decide +kernel
theorem dX10_writePicture_246 : decode cX10_writePicture 246 = .ok (.putfield 131, 3) := by decide +kernel
theorem dX10_writePicture_249 : decode cX10_writePicture 249 = .ok (.goto 25, 3) := by decide +kernel
theorem dX10_writePicture_252 : decode cX10_writePicture 252 = .ok (.aload_n 0, 1) := by decide +kernel
theorem dX10_writePicture_253 : decode cX10_writePicture 253 = .ok (.aload_n 0, 1) := by decide +kernel
theorem dX10_writePicture_254 : decode cX10_writePicture 254 = .ok (.getfield 131, 3) := by decide +kernel
theorem dX10_writePicture_257 : decode cX10_writePicture 257 = .ok (.sipush (-256), 3) := by decide +kernel
theorem dX10_writePicture_260 : decode cX10_writePicture 260 = .ok (.iand, 1) := by decide +kernel
theorem dX10_writePicture_261 : decode cX10_writePicture 261 = .ok (.iload_n 2, 1) := by decide +kernel
theorem dX10_writePicture_262 : decode cX10_writePicture 262 = .ok (.ior, 1) := by decide +kernel
theorem dX10_writePicture_263 : decode cX10_writePicture 263 = .ok (.putfield 131, 3) := by decide +kernel
theorem dX10_writePicture_266 : decode cX10_writePicture 266 = .ok (.aload_n 0, 1) := by decide +kernel
theorem dX10_writePicture_267 : decode cX10_writePicture 267 = .ok (.aload_n 0, 1) := by decide +kernel
theorem dX10_writePicture_268 : decode cX10_writePicture 268 = .ok (.getfield 131, 3) := by decide +kernel
theorem dX10_writePicture_271 : decode cX10_writePicture 271 = .ok (.putfield 104, 3) := by decide +kernel
theorem dX10_writePicture_274 : decode cX10_writePicture 274 = .ok (.aload_n 0, 1) := by decide +kernel
theorem dX10_writePicture_275 : decode cX10_writePicture 275 = .ok (.iconst 1, 1) := by decide +kernel
theorem dX10_writePicture_276 : decode cX10_writePicture 276 = .ok (.aload_n 0, 1) := by decide +kernel
theorem dX10_writePicture_277 : decode cX10_writePicture 277 = .ok (.getfield 113, 3) := by decide +kernel
theorem dX10_writePicture_280 : decode cX10_writePicture 280 = .ok (.isub, 1) := by decide +kernel
theorem dX10_writePicture_281 : decode cX10_writePicture 281 = .ok (.putfield 113, 3) := by decide +kernel
theorem dX10_writePicture_284 : decode cX10_writePicture 284 = .ok (.goto 19, 3) := by decide +kernel
theorem dX10_writePicture_287 : decode cX10_writePicture 287 = .ok (.aload_n 0, 1) := by decide +kernel
theorem dX10_writePicture_288 : decode cX10_writePicture 288 = .ok (.aload_n 0, 1) := by decide +kernel
theorem dX10_writePicture_289 : decode cX10_writePicture 289 = .ok (.getfield 104, 3) := by decide +kernel
theorem dX10_writePicture_292 : decode cX10_writePicture 292 = .ok (.iload_n 2, 1) := by decide +kernel
theorem dX10_writePicture_293 : decode cX10_writePicture 293 = .ok (.invokevirtual 140, 3) := by decide +kernel
theorem dX10_writePicture_296 : decode cX10_writePicture 296 = .ok (.aload_n 0, 1) := by decide +kernel
theorem dX10_writePicture_297 : decode cX10_writePicture 297 = .ok (.invokevirtual 125, 3) := by decide +kernel
theorem dX10_writePicture_300 : decode cX10_writePicture 300 = .ok (.goto 3, 3) := by decide +kernel
theorem dX10_writePicture_303 : decode cX10_writePicture 303 = .ok (.return_, 1) := by decide +kernel
theorem dX10_lengthOf_0 : decode cX10_lengthOf 0 = .ok (.iload_n 0, 1) := by decide +kernel
theorem dX10_lengthOf_1 : decode cX10_lengthOf 1 = .ok (.tableswitch 193 0 30 #[139, 142, 146, 193, 149, 193, 152, 193, 155, 193, 159, 193, 162, 193, 165, 193, 168, 193, 171, 193, 174, 193, 177, 193, 180, 193, 184, 193, 187, 193, 190], 139) := by decide +kernel
theorem dX10_lengthOf_140 : decode cX10_lengthOf 140 = .ok (.bipush 10, 2) := by decide +kernel
theorem dX10_lengthOf_142 : decode cX10_lengthOf 142 = .ok (.ireturn, 1) := by decide +kernel
theorem dX10_lengthOf_143 : decode cX10_lengthOf 143 = .ok (.sipush 254, 3) := by decide +kernel
theorem dX10_lengthOf_146 : decode cX10_lengthOf 146 = .ok (.ireturn, 1) := by decide +kernel
theorem dX10_lengthOf_147 : decode cX10_lengthOf 147 = .ok (.bipush 20, 2) := by decide +kernel
theorem dX10_lengthOf_149 : decode cX10_lengthOf 149 = .ok (.ireturn, 1) := by decide +kernel
theorem dX10_lengthOf_150 : decode cX10_lengthOf 150 = .ok (.bipush 40, 2) := by decide +kernel
theorem dX10_lengthOf_152 : decode cX10_lengthOf 152 = .ok (.ireturn, 1) := by decide +kernel
theorem dX10_lengthOf_153 : decode cX10_lengthOf 153 = .ok (.bipush 80, 2) := by decide +kernel
theorem dX10_lengthOf_155 : decode cX10_lengthOf 155 = .ok (.ireturn, 1) := by decide +kernel
theorem dX10_lengthOf_156 : decode cX10_lengthOf 156 = .ok (.sipush 160, 3) := by decide +kernel
theorem dX10_lengthOf_159 : decode cX10_lengthOf 159 = .ok (.ireturn, 1) := by decide +kernel
theorem dX10_lengthOf_160 : decode cX10_lengthOf 160 = .ok (.bipush 60, 2) := by decide +kernel
theorem dX10_lengthOf_162 : decode cX10_lengthOf 162 = .ok (.ireturn, 1) := by decide +kernel
theorem dX10_lengthOf_163 : decode cX10_lengthOf 163 = .ok (.bipush 14, 2) := by decide +kernel
theorem dX10_lengthOf_165 : decode cX10_lengthOf 165 = .ok (.ireturn, 1) := by decide +kernel
theorem dX10_lengthOf_166 : decode cX10_lengthOf 166 = .ok (.bipush 26, 2) := by decide +kernel
theorem dX10_lengthOf_168 : decode cX10_lengthOf 168 = .ok (.ireturn, 1) := by decide +kernel
theorem dX10_lengthOf_169 : decode cX10_lengthOf 169 = .ok (.bipush 12, 2) := by decide +kernel
theorem dX10_lengthOf_171 : decode cX10_lengthOf 171 = .ok (.ireturn, 1) := by decide +kernel
theorem dX10_lengthOf_172 : decode cX10_lengthOf 172 = .ok (.bipush 24, 2) := by decide +kernel
theorem dX10_lengthOf_174 : decode cX10_lengthOf 174 = .ok (.ireturn, 1) := by decide +kernel
theorem dX10_lengthOf_175 : decode cX10_lengthOf 175 = .ok (.bipush 48, 2) := by decide +kernel
theorem dX10_lengthOf_177 : decode cX10_lengthOf 177 = .ok (.ireturn, 1) := by decide +kernel
theorem dX10_lengthOf_178 : decode cX10_lengthOf 178 = .ok (.bipush 96, 2) := by decide +kernel
theorem dX10_lengthOf_180 : decode cX10_lengthOf 180 = .ok (.ireturn, 1) := by decide +kernel
theorem dX10_lengthOf_181 : decode cX10_lengthOf 181 = .ok (.sipush 192, 3) := by decide +kernel
theorem dX10_lengthOf_184 : decode cX10_lengthOf 184 = .ok (.ireturn, 1) := by decide +kernel
theorem dX10_lengthOf_185 : decode cX10_lengthOf 185 = .ok (.bipush 72, 2) := by decide +kernel
theorem dX10_lengthOf_187 : decode cX10_lengthOf 187 = .ok (.ireturn, 1) := by decide +kernel
theorem dX10_lengthOf_188 : decode cX10_lengthOf 188 = .ok (.bipush 16, 2) := by decide +kernel
theorem dX10_lengthOf_190 : decode cX10_lengthOf 190 = .ok (.ireturn, 1) := by decide +kernel
theorem dX10_lengthOf_191 : decode cX10_lengthOf 191 = .ok (.bipush 32, 2) := by decide +kernel
theorem dX10_lengthOf_193 : decode cX10_lengthOf 193 = .ok (.ireturn, 1) := by decide +kernel
theorem dX10_lengthOf_194 : decode cX10_lengthOf 194 = .ok (.iload_n 0, 1) := by decide +kernel
theorem dX10_lengthOf_195 : decode cX10_lengthOf 195 = .ok (.iconst 1, 1) := by decide +kernel
theorem dX10_lengthOf_196 : decode cX10_lengthOf 196 = .ok (.isub, 1) := by decide +kernel
theorem dX10_lengthOf_197 : decode cX10_lengthOf 197 = .ok (.ireturn, 1) := by decide +kernel
theorem dX10_count_0 : decode cX10_count 0 = .ok (.iconst 0, 1) := by decide +kernel
theorem dX10_count_1 : decode cX10_count 1 = .ok (.istore_n 1, 1) := by decide +kernel
theorem dX10_count_2 : decode cX10_count 2 = .ok (.iload_n 1, 1) := by decide +kernel
theorem dX10_count_3 : decode cX10_count 3 = .ok (.iconst 4, 1) := by decide +kernel
theorem dX10_count_4 : decode cX10_count 4 = .ok (.if_icmp .ge 37, 3) := by decide +kernel
theorem dX10_count_7 : decode cX10_count 7 = .ok (.aload_n 0, 1) := by decide +kernel
theorem dX10_count_8 : decode cX10_count 8 = .ok (.getfield 38, 3) := by decide +kernel
theorem dX10_count_11 : decode cX10_count 11 = .ok (.iload_n 1, 1) := by decide +kernel
theorem dX10_count_12 : decode cX10_count 12 = .ok (.iaload, 1) := by decide +kernel
theorem dX10_count_13 : decode cX10_count 13 = .ok (.ifCond .le 22, 3) := by decide +kernel
theorem dX10_count_16 : decode cX10_count 16 = .ok (.aload_n 0, 1) := by decide +kernel
theorem dX10_count_17 : decode cX10_count 17 = .ok (.getfield 41, 3) := by decide +kernel
theorem dX10_count_20 : decode cX10_count 20 = .ok (.iload_n 1, 1) := by decide +kernel
theorem dX10_count_21 : decode cX10_count 21 = .ok (.baload, 1) := by decide +kernel
theorem dX10_count_22 : decode cX10_count 22 = .ok (.ifCond .ne 13, 3) := by decide +kernel
theorem dX10_count_25 : decode cX10_count 25 = .ok (.aload_n 0, 1) := by decide +kernel
theorem dX10_count_26 : decode cX10_count 26 = .ok (.getfield 38, 3) := by decide +kernel
theorem dX10_count_29 : decode cX10_count 29 = .ok (.iload_n 1, 1) := by decide +kernel
theorem dX10_count_30 : decode cX10_count 30 = .ok (.dup2, 1) := by decide +kernel
theorem dX10_count_31 : decode cX10_count 31 = .ok (.iaload, 1) := by decide +kernel
theorem dX10_count_32 : decode cX10_count 32 = .ok (.iconst 1, 1) := by decide +kernel
theorem dX10_count_33 : decode cX10_count 33 = .ok (.isub, 1) := by decide +kernel
theorem dX10_count_34 : decode cX10_count 34 = .ok (.iastore, 1) := by decide +kernel
theorem dX10_count_35 : decode cX10_count 35 = .ok (.iinc 1 1, 3) := by decide +kernel
theorem dX10_count_38 : decode cX10_count 38 = .ok (.goto (-36), 3) := by decide +kernel
theorem dX10_count_41 : decode cX10_count 41 = .ok (.return_, 1) := by decide +kernel
theorem dX10_writeSound_0 : decode cX10_writeSound 0 = .ok (.iload_n 1, 1) := by decide +kernel
theorem dX10_writeSound_1 : decode cX10_writeSound 1 = .ok (.iconst 2, 1) := by decide +kernel
theorem dX10_writeSound_2 : decode cX10_writeSound 2 = .ok (.ishr, 1) := by decide +kernel
theorem dX10_writeSound_3 : decode cX10_writeSound 3 = .ok (.istore_n 3, 1) := by decide +kernel
theorem dX10_writeSound_4 : decode cX10_writeSound 4 = .ok (.iload_n 1, 1) := by decide +kernel
theorem dX10_writeSound_5 : decode cX10_writeSound 5 = .ok (.bipush 16, 2) := by decide +kernel
theorem dX10_writeSound_7 : decode cX10_writeSound 7 = .ok (.if_icmp .ge 72, 3) := by decide +kernel
theorem dX10_writeSound_10 : decode cX10_writeSound 10 = .ok (.iload_n 1, 1) := by decide +kernel
theorem dX10_writeSound_11 : decode cX10_writeSound 11 = .ok (.iconst 3, 1) := by decide +kernel
theorem dX10_writeSound_12 : decode cX10_writeSound 12 = .ok (.iand, 1) := by decide +kernel
theorem dX10_writeSound_13 : decode cX10_writeSound 13 = .ok (.ifCond .ne 32, 3) := by decide +kernel
theorem dX10_writeSound_16 : decode cX10_writeSound 16 = .ok (.aload_n 0, 1) := by decide +kernel
theorem dX10_writeSound_17 : decode cX10_writeSound 17 = .ok (.getfield 41, 3) := by decide +kernel
theorem dX10_writeSound_20 : decode cX10_writeSound 20 = .ok (.iload_n 3, 1) := by decide +kernel
theorem dX10_writeSound_21 : decode cX10_writeSound 21 = .ok (.iload_n 2, 1) := by decide +kernel
theorem dX10_writeSound_22 : decode cX10_writeSound 22 = .ok (.iload_n 3, 1) := by decide +kernel
theorem dX10_writeSound_23 : decode cX10_writeSound 23 = .ok (.iconst 2, 1) := by decide +kernel
theorem dX10_writeSound_24 : decode cX10_writeSound 24 = .ok (.if_icmp .ne 9, 3) := by decide +kernel
theorem dX10_writeSound_27 : decode cX10_writeSound 27 = .ok (.sipush 128, 3) := by decide +kernel
theorem dX10_writeSound_30 : decode cX10_writeSound 30 = .ok (.goto 5, 3) := by decide +kernel
theorem dX10_writeSound_33 : decode cX10_writeSound 33 = .ok (.bipush 32, 2) := by decide +kernel
theorem dX10_writeSound_35 : decode cX10_writeSound 35 = .ok (.iand, 1) := by decide +kernel
theorem dX10_writeSound_36 : decode cX10_writeSound 36 = .ok (.ifCond .eq 7, 3) := by decide +kernel
theorem dX10_writeSound_39 : decode cX10_writeSound 39 = .ok (.iconst 1, 1) := by decide +kernel
theorem dX10_writeSound_40 : decode cX10_writeSound 40 = .ok (.goto 4, 3) := by decide +kernel
theorem dX10_writeSound_43 : decode cX10_writeSound 43 = .ok (.iconst 0, 1) := by decide +kernel
theorem dX10_writeSound_44 : decode cX10_writeSound 44 = .ok (.bastore, 1) := by decide +kernel
theorem dX10_writeSound_45 : decode cX10_writeSound 45 = .ok (.iload_n 1, 1) := by decide +kernel
theorem dX10_writeSound_46 : decode cX10_writeSound 46 = .ok (.iconst 3, 1) := by decide +kernel
theorem dX10_writeSound_47 : decode cX10_writeSound 47 = .ok (.iand, 1) := by decide +kernel
theorem dX10_writeSound_48 : decode cX10_writeSound 48 = .ok (.iconst 3, 1) := by decide +kernel
theorem dX10_writeSound_49 : decode cX10_writeSound 49 = .ok (.if_icmp .ne 246, 3) := by decide +kernel
theorem dX10_writeSound_52 : decode cX10_writeSound 52 = .ok (.aload_n 0, 1) := by decide +kernel
theorem dX10_writeSound_53 : decode cX10_writeSound 53 = .ok (.getfield 144, 3) := by decide +kernel
theorem dX10_writeSound_56 : decode cX10_writeSound 56 = .ok (.iload_n 3, 1) := by decide +kernel
theorem dX10_writeSound_57 : decode cX10_writeSound 57 = .ok (.ishr, 1) := by decide +kernel
theorem dX10_writeSound_58 : decode cX10_writeSound 58 = .ok (.iconst 1, 1) := by decide +kernel
theorem dX10_writeSound_59 : decode cX10_writeSound 59 = .ok (.iand, 1) := by decide +kernel
theorem dX10_writeSound_60 : decode cX10_writeSound 60 = .ok (.iconst 1, 1) := by decide +kernel
theorem dX10_writeSound_61 : decode cX10_writeSound 61 = .ok (.if_icmp .ne 234, 3) := by decide +kernel
theorem dX10_writeSound_64 : decode cX10_writeSound 64 = .ok (.aload_n 0, 1) := by decide +kernel
theorem dX10_writeSound_65 : decode cX10_writeSound 65 = .ok (.getfield 38, 3) := by decide +kernel
theorem dX10_writeSound_68 : decode cX10_writeSound 68 = .ok (.iload_n 3, 1) := by decide +kernel
theorem dX10_writeSound_69 : decode cX10_writeSound 69 = .ok (.iload_n 2, 1) := by decide +kernel
theorem dX10_writeSound_70 : decode cX10_writeSound 70 = .ok (.iconst 3, 1) := by decide +kernel
theorem dX10_writeSound_71 : decode cX10_writeSound 71 = .ok (.ishr, 1) := by decide +kernel
theorem dX10_writeSound_72 : decode cX10_writeSound 72 = .ok (.invokestatic 147, 3) := by decide +kernel
theorem dX10_writeSound_75 : decode cX10_writeSound 75 = .ok (.iastore, 1) := by decide +kernel
theorem dX10_writeSound_76 : decode cX10_writeSound 76 = .ok (.goto 219, 3) := by decide +kernel
theorem dX10_writeSound_79 : decode cX10_writeSound 79 = .ok (.iload_n 1, 1) := by decide +kernel
theorem dX10_writeSound_80 : decode cX10_writeSound 80 = .ok (.bipush 20, 2) := by decide +kernel
theorem dX10_writeSound_82 : decode cX10_writeSound 82 = .ok (.if_icmp .ne 11, 3) := by decide +kernel
theorem dX10_writeSound_85 : decode cX10_writeSound 85 = .ok (.aload_n 0, 1) := by decide +kernel
theorem dX10_writeSound_86 : decode cX10_writeSound 86 = .ok (.iload_n 2, 1) := by decide +kernel
theorem dX10_writeSound_87 : decode cX10_writeSound 87 = .ok (.invokevirtual 150, 3) := by decide +kernel
theorem dX10_writeSound_90 : decode cX10_writeSound 90 = .ok (.goto 205, 3) := by decide +kernel
theorem dX10_writeSound_93 : decode cX10_writeSound 93 = .ok (.iload_n 1, 1) := by decide +kernel
theorem dX10_writeSound_94 : decode cX10_writeSound 94 = .ok (.bipush 21, 2) := by decide +kernel
theorem dX10_writeSound_96 : decode cX10_writeSound 96 = .ok (.if_icmp .ne 56, 3) := by decide +kernel
theorem dX10_writeSound_99 : decode cX10_writeSound 99 = .ok (.aload_n 0, 1) := by decide +kernel
theorem dX10_writeSound_100 : decode cX10_writeSound 100 = .ok (.iload_n 2, 1) := by decide +kernel
theorem dX10_writeSound_101 : decode cX10_writeSound 101 = .ok (.bipush 15, 2) := by decide +kernel
theorem dX10_writeSound_103 : decode cX10_writeSound 103 = .ok (.iand, 1) := by decide +kernel
theorem dX10_writeSound_104 : decode cX10_writeSound 104 = .ok (.putfield 144, 3) := by decide +kernel
theorem dX10_writeSound_107 : decode cX10_writeSound 107 = .ok (.iconst 0, 1) := by decide +kernel
theorem dX10_writeSound_108 : decode cX10_writeSound 108 = .ok (.istore 4, 2) := by decide +kernel
theorem dX10_writeSound_110 : decode cX10_writeSound 110 = .ok (.iload 4, 2) := by decide +kernel
theorem dX10_writeSound_112 : decode cX10_writeSound 112 = .ok (.iconst 4, 1) := by decide +kernel
theorem dX10_writeSound_113 : decode cX10_writeSound 113 = .ok (.if_icmp .ge 36, 3) := by decide +kernel
theorem dX10_writeSound_116 : decode cX10_writeSound 116 = .ok (.aload_n 0, 1) := by decide +kernel
theorem dX10_writeSound_117 : decode cX10_writeSound 117 = .ok (.getfield 38, 3) := by decide +kernel
theorem dX10_writeSound_120 : decode cX10_writeSound 120 = .ok (.iload 4, 2) := by decide +kernel
theorem dX10_writeSound_122 : decode cX10_writeSound 122 = .ok (.iload_n 2, 1) := by decide +kernel
theorem dX10_writeSound_123 : decode cX10_writeSound 123 = .ok (.iload 4, 2) := by decide +kernel
theorem dX10_writeSound_125 : decode cX10_writeSound 125 = .ok (.ishr, 1) := by decide +kernel
theorem dX10_writeSound_126 : decode cX10_writeSound 126 = .ok (.iconst 1, 1) := by decide +kernel
theorem dX10_writeSound_127 : decode cX10_writeSound 127 = .ok (.iand, 1) := by decide +kernel
theorem dX10_writeSound_128 : decode cX10_writeSound 128 = .ok (.ifCond .ne 7, 3) := by decide +kernel
theorem dX10_writeSound_131 : decode cX10_writeSound 131 = .ok (.iconst 0, 1) := by decide +kernel
theorem dX10_writeSound_132 : decode cX10_writeSound 132 = .ok (.goto 10, 3) := by decide +kernel
theorem dX10_writeSound_135 : decode cX10_writeSound 135 = .ok (.aload_n 0, 1) := by decide +kernel
theorem dX10_writeSound_136 : decode cX10_writeSound 136 = .ok (.getfield 38, 3) := by decide +kernel
theorem dX10_writeSound_139 : decode cX10_writeSound 139 = .ok (.iload 4, 2) := by decide +kernel
theorem dX10_writeSound_141 : decode cX10_writeSound 141 = .ok (.iaload, 1) := by decide +kernel
theorem dX10_writeSound_142 : decode cX10_writeSound 142 = .ok (.iastore, 1) := by decide +kernel
theorem dX10_writeSound_143 : decode cX10_writeSound 143 = .ok (.iinc 4 1, 3) := by decide +kernel
theorem dX10_writeSound_146 : decode cX10_writeSound 146 = .ok (.goto (-36), 3) := by decide +kernel
theorem dX10_writeSound_149 : decode cX10_writeSound 149 = .ok (.goto 146, 3) := by decide +kernel
theorem dX10_writeSound_152 : decode cX10_writeSound 152 = .ok (.iload_n 1, 1) := by decide +kernel
theorem dX10_writeSound_153 : decode cX10_writeSound 153 = .ok (.bipush 22, 2) := by decide +kernel
theorem dX10_writeSound_155 : decode cX10_writeSound 155 = .ok (.if_icmp .ne 66, 3) := by decide +kernel
theorem dX10_writeSound_158 : decode cX10_writeSound 158 = .ok (.iconst 0, 1) := by decide +kernel
theorem dX10_writeSound_159 : decode cX10_writeSound 159 = .ok (.istore 4, 2) := by decide +kernel
theorem dX10_writeSound_161 : decode cX10_writeSound 161 = .ok (.iload 4, 2) := by decide +kernel
theorem dX10_writeSound_163 : decode cX10_writeSound 163 = .ok (.iconst 2, 1) := by decide +kernel
theorem dX10_writeSound_164 : decode cX10_writeSound 164 = .ok (.if_icmp .ge 47, 3) := by decide +kernel
theorem dX10_writeSound_167 : decode cX10_writeSound 167 = .ok (.aload_n 0, 1) := by decide +kernel
theorem dX10_writeSound_168 : decode cX10_writeSound 168 = .ok (.getfield 48, 3) := by decide +kernel
theorem dX10_writeSound_171 : decode cX10_writeSound 171 = .ok (.iload 4, 2) := by decide +kernel
theorem dX10_writeSound_173 : decode cX10_writeSound 173 = .ok (.aload_n 0, 1) := by decide +kernel
theorem dX10_writeSound_174 : decode cX10_writeSound 174 = .ok (.getfield 154, 3) := by decide +kernel
theorem dX10_writeSound_177 : decode cX10_writeSound 177 = .ok (.iconst 1, 1) := by decide +kernel
theorem dX10_writeSound_178 : decode cX10_writeSound 178 = .ok (.if_icmp .ne 19, 3) := by decide +kernel
theorem dX10_writeSound_181 : decode cX10_writeSound 181 = .ok (.iload_n 2, 1) := by decide +kernel
theorem dX10_writeSound_182 : decode cX10_writeSound 182 = .ok (.iconst 1, 1) := by decide +kernel
theorem dX10_writeSound_183 : decode cX10_writeSound 183 = .ok (.iand, 1) := by decide +kernel
theorem dX10_writeSound_184 : decode cX10_writeSound 184 = .ok (.ifCond .ne 13, 3) := by decide +kernel
theorem dX10_writeSound_187 : decode cX10_writeSound 187 = .ok (.aload_n 0, 1) := by decide +kernel
theorem dX10_writeSound_188 : decode cX10_writeSound 188 = .ok (.getfield 45, 3) := by decide +kernel
theorem dX10_writeSound_191 : decode cX10_writeSound 191 = .ok (.iload 4, 2) := by decide +kernel
theorem dX10_writeSound_193 : decode cX10_writeSound 193 = .ok (.iaload, 1) := by decide +kernel
theorem dX10_writeSound_194 : decode cX10_writeSound 194 = .ok (.goto 10, 3) := by decide +kernel
theorem dX10_writeSound_197 : decode cX10_writeSound 197 = .ok (.aload_n 0, 1) := by decide +kernel
theorem dX10_writeSound_198 : decode cX10_writeSound 198 = .ok (.getfield 48, 3) := by decide +kernel
theorem dX10_writeSound_201 : decode cX10_writeSound 201 = .ok (.iload 4, 2) := by decide +kernel
theorem dX10_writeSound_203 : decode cX10_writeSound 203 = .ok (.iaload, 1) := by decide +kernel
theorem dX10_writeSound_204 : decode cX10_writeSound 204 = .ok (.iastore, 1) := by decide +kernel
theorem dX10_writeSound_205 : decode cX10_writeSound 205 = .ok (.iinc 4 1, 3) := by decide +kernel
theorem dX10_writeSound_208 : decode cX10_writeSound 208 = .ok (.goto (-47), 3) := by decide +kernel
theorem dX10_writeSound_211 : decode cX10_writeSound 211 = .ok (.aload_n 0, 1) := by decide +kernel
theorem dX10_writeSound_212 : decode cX10_writeSound 212 = .ok (.iload_n 2, 1) := by decide +kernel
theorem dX10_writeSound_213 : decode cX10_writeSound 213 = .ok (.iconst 1, 1) := by decide +kernel
theorem dX10_writeSound_214 : decode cX10_writeSound 214 = .ok (.iand, 1) := by decide +kernel
theorem dX10_writeSound_215 : decode cX10_writeSound 215 = .ok (.putfield 154, 3) := by decide +kernel
theorem dX10_writeSound_218 : decode cX10_writeSound 218 = .ok (.goto 77, 3) := by decide +kernel
theorem dX10_writeSound_221 : decode cX10_writeSound 221 = .ok (.iload_n 1, 1) := by decide +kernel
theorem dX10_writeSound_222 : decode cX10_writeSound 222 = .ok (.bipush 23, 2) := by decide +kernel
theorem dX10_writeSound_224 : decode cX10_writeSound 224 = .ok (.if_icmp .ne 71, 3) := by decide +kernel
theorem dX10_writeSound_227 : decode cX10_writeSound 227 = .ok (.aload_n 0, 1) := by decide +kernel
theorem dX10_writeSound_228 : decode cX10_writeSound 228 = .ok (.iload_n 2, 1) := by decide +kernel
theorem dX10_writeSound_229 : decode cX10_writeSound 229 = .ok (.sipush 128, 3) := by decide +kernel
theorem dX10_writeSound_232 : decode cX10_writeSound 232 = .ok (.iand, 1) := by decide +kernel
theorem dX10_writeSound_233 : decode cX10_writeSound 233 = .ok (.ifCond .eq 7, 3) := by decide +kernel
theorem dX10_writeSound_236 : decode cX10_writeSound 236 = .ok (.iconst 1, 1) := by decide +kernel
theorem dX10_writeSound_237 : decode cX10_writeSound 237 = .ok (.goto 4, 3) := by decide +kernel
theorem dX10_writeSound_240 : decode cX10_writeSound 240 = .ok (.iconst 0, 1) := by decide +kernel
theorem dX10_writeSound_241 : decode cX10_writeSound 241 = .ok (.putfield 157, 3) := by decide +kernel
theorem dX10_writeSound_244 : decode cX10_writeSound 244 = .ok (.aload_n 0, 1) := by decide +kernel
theorem dX10_writeSound_245 : decode cX10_writeSound 245 = .ok (.iload_n 2, 1) := by decide +kernel
theorem dX10_writeSound_246 : decode cX10_writeSound 246 = .ok (.bipush 64, 2) := by decide +kernel
theorem dX10_writeSound_248 : decode cX10_writeSound 248 = .ok (.iand, 1) := by decide +kernel
theorem dX10_writeSound_249 : decode cX10_writeSound 249 = .ok (.ifCond .eq 7, 3) := by decide +kernel
theorem dX10_writeSound_252 : decode cX10_writeSound 252 = .ok (.iconst 1, 1) := by decide +kernel
theorem dX10_writeSound_253 : decode cX10_writeSound 253 = .ok (.goto 4, 3) := by decide +kernel
theorem dX10_writeSound_256 : decode cX10_writeSound 256 = .ok (.iconst 0, 1) := by decide +kernel
theorem dX10_writeSound_257 : decode cX10_writeSound 257 = .ok (.putfield 160, 3) := by decide +kernel
theorem dX10_writeSound_260 : decode cX10_writeSound 260 = .ok (.aload_n 0, 1) := by decide +kernel
theorem dX10_writeSound_261 : decode cX10_writeSound 261 = .ok (.aload_n 0, 1) := by decide +kernel
theorem dX10_writeSound_262 : decode cX10_writeSound 262 = .ok (.getfield 160, 3) := by decide +kernel
theorem dX10_writeSound_265 : decode cX10_writeSound 265 = .ok (.ifCond .eq 7, 3) := by decide +kernel
theorem dX10_writeSound_268 : decode cX10_writeSound 268 = .ok (.iconst 0, 1) := by decide +kernel
theorem dX10_writeSound_269 : decode cX10_writeSound 269 = .ok (.goto 7, 3) := by decide +kernel
theorem dX10_writeSound_272 : decode cX10_writeSound 272 = .ok (.aload_n 0, 1) := by decide +kernel
theorem dX10_writeSound_273 : decode cX10_writeSound 273 = .ok (.getfield 163, 3) := by decide +kernel
theorem dX10_writeSound_276 : decode cX10_writeSound 276 = .ok (.putfield 163, 3) := by decide +kernel
theorem dX10_writeSound_279 : decode cX10_writeSound 279 = .ok (.aload_n 0, 1) := by decide +kernel
theorem dX10_writeSound_280 : decode cX10_writeSound 280 = .ok (.iconst 0, 1) := by decide +kernel
theorem dX10_writeSound_281 : decode cX10_writeSound 281 = .ok (.putfield 166, 3) := by decide +kernel
theorem dX10_writeSound_284 : decode cX10_writeSound 284 = .ok (.aload_n 0, 1) := by decide +kernel
theorem dX10_writeSound_285 : decode cX10_writeSound 285 = .ok (.getfield 157, 3) := by decide +kernel
theorem dX10_writeSound_288 : decode cX10_writeSound 288 = .ok (.ifCond .eq 7, 3) := by decide +kernel
theorem dX10_writeSound_291 : decode cX10_writeSound 291 = .ok (.aload_n 0, 1) := by decide +kernel
theorem dX10_writeSound_292 : decode cX10_writeSound 292 = .ok (.invokevirtual 169, 3) := by decide +kernel
theorem dX10_writeSound_295 : decode cX10_writeSound 295 = .ok (.return_, 1) := by decide +kernel
theorem dX10_readSound_0 : decode cX10_readSound 0 = .ok (.iload_n 1, 1) := by decide +kernel
theorem dX10_readSound_1 : decode cX10_readSound 1 = .ok (.bipush 21, 2) := by decide +kernel
theorem dX10_readSound_3 : decode cX10_readSound 3 = .ok (.if_icmp .ne 50, 3) := by decide +kernel
theorem dX10_readSound_6 : decode cX10_readSound 6 = .ok (.aload_n 0, 1) := by decide +kernel
theorem dX10_readSound_7 : decode cX10_readSound 7 = .ok (.getfield 163, 3) := by decide +kernel
theorem dX10_readSound_10 : decode cX10_readSound 10 = .ok (.bipush 6, 2) := by decide +kernel
theorem dX10_readSound_12 : decode cX10_readSound 12 = .ok (.ishl, 1) := by decide +kernel
theorem dX10_readSound_13 : decode cX10_readSound 13 = .ok (.istore_n 2, 1) := by decide +kernel
theorem dX10_readSound_14 : decode cX10_readSound 14 = .ok (.iconst 0, 1) := by decide +kernel
theorem dX10_readSound_15 : decode cX10_readSound 15 = .ok (.istore_n 3, 1) := by decide +kernel
theorem dX10_readSound_16 : decode cX10_readSound 16 = .ok (.iload_n 3, 1) := by decide +kernel
theorem dX10_readSound_17 : decode cX10_readSound 17 = .ok (.iconst 4, 1) := by decide +kernel
theorem dX10_readSound_18 : decode cX10_readSound 18 = .ok (.if_icmp .ge 28, 3) := by decide +kernel
theorem dX10_readSound_21 : decode cX10_readSound 21 = .ok (.iload_n 2, 1) := by decide +kernel
theorem dX10_readSound_22 : decode cX10_readSound 22 = .ok (.aload_n 0, 1) := by decide +kernel
theorem dX10_readSound_23 : decode cX10_readSound 23 = .ok (.getfield 38, 3) := by decide +kernel
theorem dX10_readSound_26 : decode cX10_readSound 26 = .ok (.iload_n 3, 1) := by decide +kernel
theorem dX10_readSound_27 : decode cX10_readSound 27 = .ok (.iaload, 1) := by decide +kernel
theorem dX10_readSound_28 : decode cX10_readSound 28 = .ok (.ifCond .le 9, 3) := by decide +kernel
theorem dX10_readSound_31 : decode cX10_readSound 31 = .ok (.iconst 1, 1) := by decide +kernel
theorem dX10_readSound_32 : decode cX10_readSound 32 = .ok (.iload_n 3, 1) := by decide +kernel
theorem dX10_readSound_33 : decode cX10_readSound 33 = .ok (.ishl, 1) := by decide +kernel
theorem dX10_readSound_34 : decode cX10_readSound 34 = .ok (.goto 4, 3) := by decide +kernel
theorem dX10_readSound_37 : decode cX10_readSound 37 = .ok (.iconst 0, 1) := by decide +kernel
theorem dX10_readSound_38 : decode cX10_readSound 38 = .ok (.ior, 1) := by decide +kernel
theorem dX10_readSound_39 : decode cX10_readSound 39 = .ok (.istore_n 2, 1) := by decide +kernel
theorem dX10_readSound_40 : decode cX10_readSound 40 = .ok (.iinc 3 1, 3) := by decide +kernel
theorem dX10_readSound_43 : decode cX10_readSound 43 = .ok (.goto (-27), 3) := by decide +kernel
theorem dX10_readSound_46 : decode cX10_readSound 46 = .ok (.aload_n 0, 1) := by decide +kernel
theorem dX10_readSound_47 : decode cX10_readSound 47 = .ok (.iconst 0, 1) := by decide +kernel
theorem dX10_readSound_48 : decode cX10_readSound 48 = .ok (.putfield 163, 3) := by decide +kernel
theorem dX10_readSound_51 : decode cX10_readSound 51 = .ok (.iload_n 2, 1) := by decide +kernel
theorem dX10_readSound_52 : decode cX10_readSound 52 = .ok (.ireturn, 1) := by decide +kernel
theorem dX10_readSound_53 : decode cX10_readSound 53 = .ok (.iload_n 1, 1) := by decide +kernel
theorem dX10_readSound_54 : decode cX10_readSound 54 = .ok (.bipush 22, 2) := by decide +kernel
theorem dX10_readSound_56 : decode cX10_readSound 56 = .ok (.if_icmp .ge 5, 3) := by decide +kernel
theorem dX10_readSound_59 : decode cX10_readSound 59 = .ok (.iconst 0, 1) := by decide +kernel
theorem dX10_readSound_60 : decode cX10_readSound 60 = .ok (.ireturn, 1) := by decide +kernel
theorem dX10_readSound_61 : decode cX10_readSound 61 = .ok (.iload_n 1, 1) := by decide +kernel
theorem dX10_readSound_62 : decode cX10_readSound 62 = .ok (.bipush 22, 2) := by decide +kernel
theorem dX10_readSound_64 : decode cX10_readSound 64 = .ok (.isub, 1) := by decide +kernel
theorem dX10_readSound_65 : decode cX10_readSound 65 = .ok (.istore_n 2, 1) := by decide +kernel
theorem dX10_readSound_66 : decode cX10_readSound 66 = .ok (.aload_n 0, 1) := by decide +kernel
theorem dX10_readSound_67 : decode cX10_readSound 67 = .ok (.getfield 154, 3) := by decide +kernel
theorem dX10_readSound_70 : decode cX10_readSound 70 = .ok (.iconst 1, 1) := by decide +kernel
theorem dX10_readSound_71 : decode cX10_readSound 71 = .ok (.if_icmp .ne 12, 3) := by decide +kernel
theorem dX10_readSound_74 : decode cX10_readSound 74 = .ok (.aload_n 0, 1) := by decide +kernel
theorem dX10_readSound_75 : decode cX10_readSound 75 = .ok (.getfield 45, 3) := by decide +kernel
theorem dX10_readSound_78 : decode cX10_readSound 78 = .ok (.iload_n 2, 1) := by decide +kernel
theorem dX10_readSound_79 : decode cX10_readSound 79 = .ok (.iaload, 1) := by decide +kernel
theorem dX10_readSound_80 : decode cX10_readSound 80 = .ok (.iconst 1, 1) := by decide +kernel
theorem dX10_readSound_81 : decode cX10_readSound 81 = .ok (.iand, 1) := by decide +kernel
theorem dX10_readSound_82 : decode cX10_readSound 82 = .ok (.ireturn, 1) := by decide +kernel
theorem dX10_readSound_83 : decode cX10_readSound 83 = .ok (.aload_n 0, 1) := by decide +kernel
theorem dX10_readSound_84 : decode cX10_readSound 84 = .ok (.getfield 48, 3) := by decide +kernel
theorem dX10_readSound_87 : decode cX10_readSound 87 = .ok (.iload_n 2, 1) := by decide +kernel
theorem dX10_readSound_88 : decode cX10_readSound 88 = .ok (.iaload, 1) := by decide +kernel
theorem dX10_readSound_89 : decode cX10_readSound 89 = .ok (.iconst 1, 1) := by decide +kernel
theorem dX10_readSound_90 : decode cX10_readSound 90 = .ok (.iand, 1) := by decide +kernel
theorem dX10_readSound_91 : decode cX10_readSound 91 = .ok (.istore_n 3, 1) := by decide +kernel
theorem dX10_readSound_92 : decode cX10_readSound 92 = .ok (.aload_n 0, 1) := by decide +kernel
theorem dX10_readSound_93 : decode cX10_readSound 93 = .ok (.getfield 48, 3) := by decide +kernel
theorem dX10_readSound_96 : decode cX10_readSound 96 = .ok (.iload_n 2, 1) := by decide +kernel
theorem dX10_readSound_97 : decode cX10_readSound 97 = .ok (.aload_n 0, 1) := by decide +kernel
theorem dX10_readSound_98 : decode cX10_readSound 98 = .ok (.getfield 48, 3) := by decide +kernel
theorem dX10_readSound_101 : decode cX10_readSound 101 = .ok (.iload_n 2, 1) := by decide +kernel
theorem dX10_readSound_102 : decode cX10_readSound 102 = .ok (.iaload, 1) := by decide +kernel
theorem dX10_readSound_103 : decode cX10_readSound 103 = .ok (.iconst 1, 1) := by decide +kernel
theorem dX10_readSound_104 : decode cX10_readSound 104 = .ok (.ishr, 1) := by decide +kernel
theorem dX10_readSound_105 : decode cX10_readSound 105 = .ok (.sipush 128, 3) := by decide +kernel
theorem dX10_readSound_108 : decode cX10_readSound 108 = .ok (.ior, 1) := by decide +kernel
theorem dX10_readSound_109 : decode cX10_readSound 109 = .ok (.iastore, 1) := by decide +kernel
theorem dX10_readSound_110 : decode cX10_readSound 110 = .ok (.iload_n 3, 1) := by decide +kernel
theorem dX10_readSound_111 : decode cX10_readSound 111 = .ok (.ireturn, 1) := by decide +kernel
theorem dX10_dma_0 : decode cX10_dma 0 = .ok (.iconst 0, 1) := by decide +kernel
theorem dX10_dma_1 : decode cX10_dma 1 = .ok (.istore_n 2, 1) := by decide +kernel
theorem dX10_dma_2 : decode cX10_dma 2 = .ok (.iload_n 2, 1) := by decide +kernel
theorem dX10_dma_3 : decode cX10_dma 3 = .ok (.sipush 256, 3) := by decide +kernel
theorem dX10_dma_6 : decode cX10_dma 6 = .ok (.if_icmp .ge 27, 3) := by decide +kernel
theorem dX10_dma_9 : decode cX10_dma 9 = .ok (.aload_n 0, 1) := by decide +kernel
theorem dX10_dma_10 : decode cX10_dma 10 = .ok (.sipush 256, 3) := by decide +kernel
theorem dX10_dma_13 : decode cX10_dma 13 = .ok (.iload_n 1, 1) := by decide +kernel
theorem dX10_dma_14 : decode cX10_dma 14 = .ok (.imul, 1) := by decide +kernel
theorem dX10_dma_15 : decode cX10_dma 15 = .ok (.iload_n 2, 1) := by decide +kernel
theorem dX10_dma_16 : decode cX10_dma 16 = .ok (.iadd, 1) := by decide +kernel
theorem dX10_dma_17 : decode cX10_dma 17 = .ok (.invokevirtual 172, 3) := by decide +kernel
theorem dX10_dma_20 : decode cX10_dma 20 = .ok (.istore_n 3, 1) := by decide +kernel
theorem dX10_dma_21 : decode cX10_dma 21 = .ok (.aload_n 0, 1) := by decide +kernel
theorem dX10_dma_22 : decode cX10_dma 22 = .ok (.iconst 4, 1) := by decide +kernel
theorem dX10_dma_23 : decode cX10_dma 23 = .ok (.iload_n 3, 1) := by decide +kernel
theorem dX10_dma_24 : decode cX10_dma 24 = .ok (.invokevirtual 175, 3) := by decide +kernel
theorem dX10_dma_27 : decode cX10_dma 27 = .ok (.iinc 2 1, 3) := by decide +kernel
theorem dX10_dma_30 : decode cX10_dma 30 = .ok (.goto (-28), 3) := by decide +kernel
theorem dX10_dma_33 : decode cX10_dma 33 = .ok (.aload_n 0, 1) := by decide +kernel
theorem dX10_dma_34 : decode cX10_dma 34 = .ok (.dup, 1) := by decide +kernel
theorem dX10_dma_35 : decode cX10_dma 35 = .ok (.getfield 178, 3) := by decide +kernel
theorem dX10_dma_38 : decode cX10_dma 38 = .ok (.sipush 513, 3) := by decide +kernel
theorem dX10_dma_41 : decode cX10_dma 41 = .ok (.aload_n 0, 1) := by decide +kernel
theorem dX10_dma_42 : decode cX10_dma 42 = .ok (.getfield 181, 3) := by decide +kernel
theorem dX10_dma_45 : decode cX10_dma 45 = .ok (.lconst 1, 1) := by decide +kernel
theorem dX10_dma_46 : decode cX10_dma 46 = .ok (.land, 1) := by decide +kernel
theorem dX10_dma_47 : decode cX10_dma 47 = .ok (.l2i, 1) := by decide +kernel
theorem dX10_dma_48 : decode cX10_dma 48 = .ok (.iadd, 1) := by decide +kernel
theorem dX10_dma_49 : decode cX10_dma 49 = .ok (.iadd, 1) := by decide +kernel
theorem dX10_dma_50 : decode cX10_dma 50 = .ok (.putfield 178, 3) := by decide +kernel
theorem dX10_dma_53 : decode cX10_dma 53 = .ok (.return_, 1) := by decide +kernel
theorem dX10_get_0 : decode cX10_get 0 = .ok (.iload_n 1, 1) := by decide +kernel
theorem dX10_get_1 : decode cX10_get 1 = .ok (.sipush 8192, 3) := by decide +kernel
theorem dX10_get_4 : decode cX10_get 4 = .ok (.if_icmp .ge 14, 3) := by decide +kernel
theorem dX10_get_7 : decode cX10_get 7 = .ok (.aload_n 0, 1) := by decide +kernel
theorem dX10_get_8 : decode cX10_get 8 = .ok (.getfield 7, 3) := by decide +kernel
theorem dX10_get_11 : decode cX10_get 11 = .ok (.iload_n 1, 1) := by decide +kernel
theorem dX10_get_12 : decode cX10_get 12 = .ok (.sipush 2047, 3) := by decide +kernel
theorem dX10_get_15 : decode cX10_get 15 = .ok (.iand, 1) := by decide +kernel
theorem dX10_get_16 : decode cX10_get 16 = .ok (.iaload, 1) := by decide +kernel
theorem dX10_get_17 : decode cX10_get 17 = .ok (.ireturn, 1) := by decide +kernel
theorem dX10_get_18 : decode cX10_get 18 = .ok (.iload_n 1, 1) := by decide +kernel
theorem dX10_get_19 : decode cX10_get 19 = .ok (.sipush 16384, 3) := by decide +kernel
theorem dX10_get_22 : decode cX10_get 22 = .ok (.if_icmp .ge 12, 3) := by decide +kernel
theorem dX10_get_25 : decode cX10_get 25 = .ok (.aload_n 0, 1) := by decide +kernel
theorem dX10_get_26 : decode cX10_get 26 = .ok (.iload_n 1, 1) := by decide +kernel
theorem dX10_get_27 : decode cX10_get 27 = .ok (.bipush 7, 2) := by decide +kernel
theorem dX10_get_29 : decode cX10_get 29 = .ok (.iand, 1) := by decide +kernel
theorem dX10_get_30 : decode cX10_get 30 = .ok (.invokevirtual 185, 3) := by decide +kernel
theorem dX10_get_33 : decode cX10_get 33 = .ok (.ireturn, 1) := by decide +kernel
theorem dX10_get_34 : decode cX10_get 34 = .ok (.iload_n 1, 1) := by decide +kernel
theorem dX10_get_35 : decode cX10_get 35 = .ok (.sipush 16408, 3) := by decide +kernel
theorem dX10_get_38 : decode cX10_get 38 = .ok (.if_icmp .ge 13, 3) := by decide +kernel
theorem dX10_get_41 : decode cX10_get 41 = .ok (.aload_n 0, 1) := by decide +kernel
theorem dX10_get_42 : decode cX10_get 42 = .ok (.iload_n 1, 1) := by decide +kernel
theorem dX10_get_43 : decode cX10_get 43 = .ok (.sipush 16384, 3) := by decide +kernel
theorem dX10_get_46 : decode cX10_get 46 = .ok (.isub, 1) := by decide +kernel
theorem dX10_get_47 : decode cX10_get 47 = .ok (.invokevirtual 188, 3) := by decide +kernel
theorem dX10_get_50 : decode cX10_get 50 = .ok (.ireturn, 1) := by decide +kernel
theorem dX10_get_51 : decode cX10_get 51 = .ok (.iload_n 1, 1) := by decide +kernel
theorem dX10_get_52 : decode cX10_get 52 = .ok (.ldc 191, 2) := by decide +kernel
theorem dX10_get_54 : decode cX10_get 54 = .ok (.if_icmp .lt 27, 3) := by decide +kernel
theorem dX10_get_57 : decode cX10_get 57 = .ok (.aload_n 0, 1) := by decide +kernel
theorem dX10_get_58 : decode cX10_get 58 = .ok (.getfield 16, 3) := by decide +kernel
theorem dX10_get_61 : decode cX10_get 61 = .ok (.bipush 64, 2) := by decide +kernel
theorem dX10_get_63 : decode cX10_get 63 = .ok (.aload_n 0, 1) := by decide +kernel
theorem dX10_get_64 : decode cX10_get 64 = .ok (.iload_n 1, 1) := by decide +kernel
theorem dX10_get_65 : decode cX10_get 65 = .ok (.bipush 13, 2) := by decide +kernel
theorem dX10_get_67 : decode cX10_get 67 = .ok (.ishr, 1) := by decide +kernel
theorem dX10_get_68 : decode cX10_get 68 = .ok (.iconst 3, 1) := by decide +kernel
theorem dX10_get_69 : decode cX10_get 69 = .ok (.iand, 1) := by decide +kernel
theorem dX10_get_70 : decode cX10_get 70 = .ok (.invokevirtual 192, 3) := by decide +kernel
theorem dX10_get_73 : decode cX10_get 73 = .ok (.imul, 1) := by decide +kernel
theorem dX10_get_74 : decode cX10_get 74 = .ok (.iload_n 1, 1) := by decide +kernel
theorem dX10_get_75 : decode cX10_get 75 = .ok (.bipush 63, 2) := by decide +kernel
theorem dX10_get_77 : decode cX10_get 77 = .ok (.iand, 1) := by decide +kernel
theorem dX10_get_78 : decode cX10_get 78 = .ok (.iadd, 1) := by decide +kernel
theorem dX10_get_79 : decode cX10_get 79 = .ok (.iaload, 1) := by decide +kernel
theorem dX10_get_80 : decode cX10_get 80 = .ok (.ireturn, 1) := by decide +kernel
theorem dX10_get_81 : decode cX10_get 81 = .ok (.iload_n 1, 1) := by decide +kernel
theorem dX10_get_82 : decode cX10_get 82 = .ok (.sipush 24576, 3) := by decide +kernel
theorem dX10_get_85 : decode cX10_get 85 = .ok (.if_icmp .lt 16, 3) := by decide +kernel
theorem dX10_get_88 : decode cX10_get 88 = .ok (.aload_n 0, 1) := by decide +kernel
theorem dX10_get_89 : decode cX10_get 89 = .ok (.getfield 13, 3) := by decide +kernel
theorem dX10_get_92 : decode cX10_get 92 = .ok (.iload_n 1, 1) := by decide +kernel
theorem dX10_get_93 : decode cX10_get 93 = .ok (.sipush 255, 3) := by decide +kernel
theorem dX10_get_96 : decode cX10_get 96 = .ok (.iand, 1) := by decide +kernel
theorem dX10_get_97 : decode cX10_get 97 = .ok (.iaload, 1) := by decide +kernel
theorem dX10_get_98 : decode cX10_get 98 = .ok (.goto 4, 3) := by decide +kernel
theorem dX10_get_101 : decode cX10_get 101 = .ok (.iconst 0, 1) := by decide +kernel
theorem dX10_get_102 : decode cX10_get 102 = .ok (.ireturn, 1) := by decide +kernel
theorem dX10_put_0 : decode cX10_put 0 = .ok (.iload_n 1, 1) := by decide +kernel
theorem dX10_put_1 : decode cX10_put 1 = .ok (.sipush 8192, 3) := by decide +kernel
theorem dX10_put_4 : decode cX10_put 4 = .ok (.if_icmp .ge 17, 3) := by decide +kernel
theorem dX10_put_7 : decode cX10_put 7 = .ok (.aload_n 0, 1) := by decide +kernel
theorem dX10_put_8 : decode cX10_put 8 = .ok (.getfield 7, 3) := by decide +kernel
theorem dX10_put_11 : decode cX10_put 11 = .ok (.iload_n 1, 1) := by decide +kernel
theorem dX10_put_12 : decode cX10_put 12 = .ok (.sipush 2047, 3) := by decide +kernel
theorem dX10_put_15 : decode cX10_put 15 = .ok (.iand, 1) := by decide +kernel
theorem dX10_put_16 : decode cX10_put 16 = .ok (.iload_n 2, 1) := by decide +kernel
theorem dX10_put_17 : decode cX10_put 17 = .ok (.iastore, 1) := by decide +kernel
theorem dX10_put_18 : decode cX10_put 18 = .ok (.goto 97, 3) := by decide +kernel
theorem dX10_put_21 : decode cX10_put 21 = .ok (.iload_n 1, 1) := by decide +kernel
theorem dX10_put_22 : decode cX10_put 22 = .ok (.sipush 16384, 3) := by decide +kernel
theorem dX10_put_25 : decode cX10_put 25 = .ok (.if_icmp .ge 15, 3) := by decide +kernel
theorem dX10_put_28 : decode cX10_put 28 = .ok (.aload_n 0, 1) := by decide +kernel
theorem dX10_put_29 : decode cX10_put 29 = .ok (.iload_n 1, 1) := by decide +kernel
theorem dX10_put_30 : decode cX10_put 30 = .ok (.bipush 7, 2) := by decide +kernel
theorem dX10_put_32 : decode cX10_put 32 = .ok (.iand, 1) := by decide +kernel
theorem dX10_put_33 : decode cX10_put 33 = .ok (.iload_n 2, 1) := by decide +kernel
theorem dX10_put_34 : decode cX10_put 34 = .ok (.invokevirtual 175, 3) := by decide +kernel
theorem dX10_put_37 : decode cX10_put 37 = .ok (.goto 78, 3) := by decide +kernel
theorem dX10_put_40 : decode cX10_put 40 = .ok (.iload_n 1, 1) := by decide +kernel
theorem dX10_put_41 : decode cX10_put 41 = .ok (.sipush 16408, 3) := by decide +kernel
theorem dX10_put_44 : decode cX10_put 44 = .ok (.if_icmp .ge 16, 3) := by decide +kernel
theorem dX10_put_47 : decode cX10_put 47 = .ok (.aload_n 0, 1) := by decide +kernel
theorem dX10_put_48 : decode cX10_put 48 = .ok (.iload_n 1, 1) := by decide +kernel
theorem dX10_put_49 : decode cX10_put 49 = .ok (.sipush 16384, 3) := by decide +kernel
theorem dX10_put_52 : decode cX10_put 52 = .ok (.isub, 1) := by decide +kernel
theorem dX10_put_53 : decode cX10_put 53 = .ok (.iload_n 2, 1) := by decide +kernel
theorem dX10_put_54 : decode cX10_put 54 = .ok (.invokevirtual 195, 3) := by decide +kernel
theorem dX10_put_57 : decode cX10_put 57 = .ok (.goto 58, 3) := by decide +kernel
theorem dX10_put_60 : decode cX10_put 60 = .ok (.iload_n 1, 1) := by decide +kernel
theorem dX10_put_61 : decode cX10_put 61 = .ok (.ldc 191, 2) := by decide +kernel
theorem dX10_put_63 : decode cX10_put 63 = .ok (.if_icmp .lt 19, 3) := by decide +kernel
theorem dX10_put_66 : decode cX10_put 66 = .ok (.aload_n 0, 1) := by decide +kernel
theorem dX10_put_67 : decode cX10_put 67 = .ok (.getfield 51, 3) := by decide +kernel
theorem dX10_put_70 : decode cX10_put 70 = .ok (.ifCond .eq 12, 3) := by decide +kernel
theorem dX10_put_73 : decode cX10_put 73 = .ok (.aload_n 0, 1) := by decide +kernel
theorem dX10_put_74 : decode cX10_put 74 = .ok (.iload_n 1, 1) := by decide +kernel
theorem dX10_put_75 : decode cX10_put 75 = .ok (.iload_n 2, 1) := by decide +kernel
theorem dX10_put_76 : decode cX10_put 76 = .ok (.invokevirtual 198, 3) := by decide +kernel
theorem dX10_put_79 : decode cX10_put 79 = .ok (.goto 36, 3) := by decide +kernel
theorem dX10_put_82 : decode cX10_put 82 = .ok (.iload_n 1, 1) := by decide +kernel
theorem dX10_put_83 : decode cX10_put 83 = .ok (.ldc 191, 2) := by decide +kernel
theorem dX10_put_85 : decode cX10_put 85 = .ok (.if_icmp .lt 12, 3) := by decide +kernel
theorem dX10_put_88 : decode cX10_put 88 = .ok (.aload_n 0, 1) := by decide +kernel
theorem dX10_put_89 : decode cX10_put 89 = .ok (.iload_n 1, 1) := by decide +kernel
theorem dX10_put_90 : decode cX10_put 90 = .ok (.iload_n 2, 1) := by decide +kernel
theorem dX10_put_91 : decode cX10_put 91 = .ok (.invokevirtual 201, 3) := by decide +kernel
theorem dX10_put_94 : decode cX10_put 94 = .ok (.goto 21, 3) := by decide +kernel
theorem dX10_put_97 : decode cX10_put 97 = .ok (.iload_n 1, 1) := by decide +kernel
theorem dX10_put_98 : decode cX10_put 98 = .ok (.sipush 24576, 3) := by decide +kernel
theorem dX10_put_101 : decode cX10_put 101 = .ok (.if_icmp .lt 14, 3) := by decide +kernel
theorem dX10_put_104 : decode cX10_put 104 = .ok (.aload_n 0, 1) := by decide +kernel
theorem dX10_put_105 : decode cX10_put 105 = .ok (.getfield 13, 3) := by decide +kernel
theorem dX10_put_108 : decode cX10_put 108 = .ok (.iload_n 1, 1) := by decide +kernel
theorem dX10_put_109 : decode cX10_put 109 = .ok (.sipush 255, 3) := by decide +kernel
theorem dX10_put_112 : decode cX10_put 112 = .ok (.iand, 1) := by decide +kernel
theorem dX10_put_113 : decode cX10_put 113 = .ok (.iload_n 2, 1) := by decide +kernel
theorem dX10_put_114 : decode cX10_put 114 = .ok (.iastore, 1) := by decide +kernel
theorem dX10_put_115 : decode cX10_put 115 = .ok (.return_, 1) := by decide +kernel
theorem dX10_word_0 : decode cX10_word 0 = .ok (.aload_n 0, 1) := by decide +kernel
theorem dX10_word_1 : decode cX10_word 1 = .ok (.iload_n 1, 1) := by decide +kernel
theorem dX10_word_2 : decode cX10_word 2 = .ok (.invokevirtual 172, 3) := by decide +kernel
theorem dX10_word_5 : decode cX10_word 5 = .ok (.istore_n 2, 1) := by decide +kernel
theorem dX10_word_6 : decode cX10_word 6 = .ok (.iload_n 2, 1) := by decide +kernel
theorem dX10_word_7 : decode cX10_word 7 = .ok (.aload_n 0, 1) := by decide +kernel
theorem dX10_word_8 : decode cX10_word 8 = .ok (.iload_n 1, 1) := by decide +kernel
theorem dX10_word_9 : decode cX10_word 9 = .ok (.iconst 1, 1) := by decide +kernel
theorem dX10_word_10 : decode cX10_word 10 = .ok (.iadd, 1) := by decide +kernel
theorem dX10_word_11 : decode cX10_word 11 = .ok (.ldc 204, 2) := by decide +kernel
theorem dX10_word_13 : decode cX10_word 13 = .ok (.iand, 1) := by decide +kernel
theorem dX10_word_14 : decode cX10_word 14 = .ok (.invokevirtual 172, 3) := by decide +kernel
theorem dX10_word_17 : decode cX10_word 17 = .ok (.bipush 8, 2) := by decide +kernel
theorem dX10_word_19 : decode cX10_word 19 = .ok (.ishl, 1) := by decide +kernel
theorem dX10_word_20 : decode cX10_word 20 = .ok (.ior, 1) := by decide +kernel
theorem dX10_word_21 : decode cX10_word 21 = .ok (.ireturn, 1) := by decide +kernel
theorem dX10_tick_0 : decode cX10_tick 0 = .ok (.aload_n 0, 1) := by decide +kernel
theorem dX10_tick_1 : decode cX10_tick 1 = .ok (.dup, 1) := by decide +kernel
theorem dX10_tick_2 : decode cX10_tick 2 = .ok (.getfield 181, 3) := by decide +kernel
theorem dX10_tick_5 : decode cX10_tick 5 = .ok (.lconst 1, 1) := by decide +kernel
theorem dX10_tick_6 : decode cX10_tick 6 = .ok (.ladd, 1) := by decide +kernel
theorem dX10_tick_7 : decode cX10_tick 7 = .ok (.putfield 181, 3) := by decide +kernel
theorem dX10_tick_10 : decode cX10_tick 10 = .ok (.iconst 0, 1) := by decide +kernel
theorem dX10_tick_11 : decode cX10_tick 11 = .ok (.istore_n 1, 1) := by decide +kernel
theorem dX10_tick_12 : decode cX10_tick 12 = .ok (.iload_n 1, 1) := by decide +kernel
theorem dX10_tick_13 : decode cX10_tick 13 = .ok (.iconst 3, 1) := by decide +kernel
theorem dX10_tick_14 : decode cX10_tick 14 = .ok (.if_icmp .ge 164, 3) := by decide +kernel
theorem dX10_tick_17 : decode cX10_tick 17 = .ok (.aload_n 0, 1) := by decide +kernel
theorem dX10_tick_18 : decode cX10_tick 18 = .ok (.dup, 1) := by decide +kernel
theorem dX10_tick_19 : decode cX10_tick 19 = .ok (.getfield 205, 3) := by decide +kernel
theorem dX10_tick_22 : decode cX10_tick 22 = .ok (.iconst 1, 1) := by decide +kernel
theorem dX10_tick_23 : decode cX10_tick 23 = .ok (.iadd, 1) := by decide +kernel
theorem dX10_tick_24 : decode cX10_tick 24 = .ok (.putfield 205, 3) := by decide +kernel
theorem dX10_tick_27 : decode cX10_tick 27 = .ok (.aload_n 0, 1) := by decide +kernel
theorem dX10_tick_28 : decode cX10_tick 28 = .ok (.getfield 205, 3) := by decide +kernel
theorem dX10_tick_31 : decode cX10_tick 31 = .ok (.sipush 341, 3) := by decide +kernel
theorem dX10_tick_34 : decode cX10_tick 34 = .ok (.if_icmp .ne 32, 3) := by decide +kernel
theorem dX10_tick_37 : decode cX10_tick 37 = .ok (.aload_n 0, 1) := by decide +kernel
theorem dX10_tick_38 : decode cX10_tick 38 = .ok (.iconst 0, 1) := by decide +kernel
theorem dX10_tick_39 : decode cX10_tick 39 = .ok (.putfield 205, 3) := by decide +kernel
theorem dX10_tick_42 : decode cX10_tick 42 = .ok (.aload_n 0, 1) := by decide +kernel
theorem dX10_tick_43 : decode cX10_tick 43 = .ok (.aload_n 0, 1) := by decide +kernel
theorem dX10_tick_44 : decode cX10_tick 44 = .ok (.getfield 208, 3) := by decide +kernel
theorem dX10_tick_47 : decode cX10_tick 47 = .ok (.sipush 261, 3) := by decide +kernel
theorem dX10_tick_50 : decode cX10_tick 50 = .ok (.if_icmp .ne 7, 3) := by decide +kernel
theorem dX10_tick_53 : decode cX10_tick 53 = .ok (.iconst 0, 1) := by decide +kernel
theorem dX10_tick_54 : decode cX10_tick 54 = .ok (.goto 9, 3) := by decide +kernel
theorem dX10_tick_57 : decode cX10_tick 57 = .ok (.aload_n 0, 1) := by decide +kernel
theorem dX10_tick_58 : decode cX10_tick 58 = .ok (.getfield 208, 3) := by decide +kernel
theorem dX10_tick_61 : decode cX10_tick 61 = .ok (.iconst 1, 1) := by decide +kernel
theorem dX10_tick_62 : decode cX10_tick 62 = .ok (.iadd, 1) := by decide +kernel
theorem dX10_tick_63 : decode cX10_tick 63 = .ok (.putfield 208, 3) := by decide +kernel
theorem dX10_tick_66 : decode cX10_tick 66 = .ok (.aload_n 0, 1) := by decide +kernel
theorem dX10_tick_67 : decode cX10_tick 67 = .ok (.getfield 205, 3) := by decide +kernel
theorem dX10_tick_70 : decode cX10_tick 70 = .ok (.iconst 1, 1) := by decide +kernel
theorem dX10_tick_71 : decode cX10_tick 71 = .ok (.if_icmp .ne 34, 3) := by decide +kernel
theorem dX10_tick_74 : decode cX10_tick 74 = .ok (.aload_n 0, 1) := by decide +kernel
theorem dX10_tick_75 : decode cX10_tick 75 = .ok (.getfield 208, 3) := by decide +kernel
theorem dX10_tick_78 : decode cX10_tick 78 = .ok (.sipush 241, 3) := by decide +kernel
theorem dX10_tick_81 : decode cX10_tick 81 = .ok (.if_icmp .ne 24, 3) := by decide +kernel
theorem dX10_tick_84 : decode cX10_tick 84 = .ok (.aload_n 0, 1) := by decide +kernel
theorem dX10_tick_85 : decode cX10_tick 85 = .ok (.iconst 1, 1) := by decide +kernel
theorem dX10_tick_86 : decode cX10_tick 86 = .ok (.putfield 110, 3) := by decide +kernel
theorem dX10_tick_89 : decode cX10_tick 89 = .ok (.aload_n 0, 1) := by decide +kernel
theorem dX10_tick_90 : decode cX10_tick 90 = .ok (.getfield 107, 3) := by decide +kernel
theorem dX10_tick_93 : decode cX10_tick 93 = .ok (.sipush 128, 3) := by decide +kernel
theorem dX10_tick_96 : decode cX10_tick 96 = .ok (.iand, 1) := by decide +kernel
theorem dX10_tick_97 : decode cX10_tick 97 = .ok (.ifCond .eq 8, 3) := by decide +kernel
theorem dX10_tick_100 : decode cX10_tick 100 = .ok (.aload_n 0, 1) := by decide +kernel
theorem dX10_tick_101 : decode cX10_tick 101 = .ok (.iconst 1, 1) := by decide +kernel
theorem dX10_tick_102 : decode cX10_tick 102 = .ok (.putfield 128, 3) := by decide +kernel
theorem dX10_tick_105 : decode cX10_tick 105 = .ok (.aload_n 0, 1) := by decide +kernel
theorem dX10_tick_106 : decode cX10_tick 106 = .ok (.getfield 205, 3) := by decide +kernel
theorem dX10_tick_109 : decode cX10_tick 109 = .ok (.iconst 1, 1) := by decide +kernel
theorem dX10_tick_110 : decode cX10_tick 110 = .ok (.if_icmp .ne 18, 3) := by decide +kernel
theorem dX10_tick_113 : decode cX10_tick 113 = .ok (.aload_n 0, 1) := by decide +kernel
theorem dX10_tick_114 : decode cX10_tick 114 = .ok (.getfield 208, 3) := by decide +kernel
theorem dX10_tick_117 : decode cX10_tick 117 = .ok (.sipush 261, 3) := by decide +kernel
theorem dX10_tick_120 : decode cX10_tick 120 = .ok (.if_icmp .ne 8, 3) := by decide +kernel
theorem dX10_tick_123 : decode cX10_tick 123 = .ok (.aload_n 0, 1) := by decide +kernel
theorem dX10_tick_124 : decode cX10_tick 124 = .ok (.iconst 0, 1) := by decide +kernel
theorem dX10_tick_125 : decode cX10_tick 125 = .ok (.putfield 110, 3) := by decide +kernel
theorem dX10_tick_128 : decode cX10_tick 128 = .ok (.aload_n 0, 1) := by decide +kernel
theorem dX10_tick_129 : decode cX10_tick 129 = .ok (.getfield 205, 3) := by decide +kernel
theorem dX10_tick_132 : decode cX10_tick 132 = .ok (.sipush 260, 3) := by decide +kernel
theorem dX10_tick_135 : decode cX10_tick 135 = .ok (.if_icmp .ne 37, 3) := by decide +kernel
theorem dX10_tick_138 : decode cX10_tick 138 = .ok (.aload_n 0, 1) := by decide +kernel
theorem dX10_tick_139 : decode cX10_tick 139 = .ok (.getfield 208, 3) := by decide +kernel
theorem dX10_tick_142 : decode cX10_tick 142 = .ok (.sipush 240, 3) := by decide +kernel
theorem dX10_tick_145 : decode cX10_tick 145 = .ok (.if_icmp .lt 13, 3) := by decide +kernel
theorem dX10_tick_148 : decode cX10_tick 148 = .ok (.aload_n 0, 1) := by decide +kernel
theorem dX10_tick_149 : decode cX10_tick 149 = .ok (.getfield 208, 3) := by decide +kernel
theorem dX10_tick_152 : decode cX10_tick 152 = .ok (.sipush 261, 3) := by decide +kernel
theorem dX10_tick_155 : decode cX10_tick 155 = .ok (.if_icmp .ne 17, 3) := by decide +kernel
theorem dX10_tick_158 : decode cX10_tick 158 = .ok (.aload_n 0, 1) := by decide +kernel
theorem dX10_tick_159 : decode cX10_tick 159 = .ok (.getfield 134, 3) := by decide +kernel
theorem dX10_tick_162 : decode cX10_tick 162 = .ok (.bipush 24, 2) := by decide +kernel
theorem dX10_tick_164 : decode cX10_tick 164 = .ok (.iand, 1) := by decide +kernel
theorem dX10_tick_165 : decode cX10_tick 165 = .ok (.ifCond .eq 7, 3) := by decide +kernel
theorem dX10_tick_168 : decode cX10_tick 168 = .ok (.aload_n 0, 1) := by decide +kernel
theorem dX10_tick_169 : decode cX10_tick 169 = .ok (.invokevirtual 211, 3) := by decide +kernel
theorem dX10_tick_172 : decode cX10_tick 172 = .ok (.iinc 1 1, 3) := by decide +kernel
theorem dX10_tick_175 : decode cX10_tick 175 = .ok (.goto (-163), 3) := by decide +kernel
theorem dX10_tick_178 : decode cX10_tick 178 = .ok (.aload_n 0, 1) := by decide +kernel
theorem dX10_tick_179 : decode cX10_tick 179 = .ok (.dup, 1) := by decide +kernel
theorem dX10_tick_180 : decode cX10_tick 180 = .ok (.getfield 166, 3) := by decide +kernel
theorem dX10_tick_183 : decode cX10_tick 183 = .ok (.iconst 1, 1) := by decide +kernel
theorem dX10_tick_184 : decode cX10_tick 184 = .ok (.iadd, 1) := by decide +kernel
theorem dX10_tick_185 : decode cX10_tick 185 = .ok (.putfield 166, 3) := by decide +kernel
theorem dX10_tick_188 : decode cX10_tick 188 = .ok (.aload_n 0, 1) := by decide +kernel
theorem dX10_tick_189 : decode cX10_tick 189 = .ok (.getfield 157, 3) := by decide +kernel
theorem dX10_tick_192 : decode cX10_tick 192 = .ok (.ifCond .eq 8, 3) := by decide +kernel
theorem dX10_tick_195 : decode cX10_tick 195 = .ok (.ldc 214, 2) := by decide +kernel
theorem dX10_tick_197 : decode cX10_tick 197 = .ok (.goto 6, 3) := by decide +kernel
theorem dX10_tick_200 : decode cX10_tick 200 = .ok (.sipush 29829, 3) := by decide +kernel
theorem dX10_tick_203 : decode cX10_tick 203 = .ok (.istore_n 1, 1) := by decide +kernel
theorem dX10_tick_204 : decode cX10_tick 204 = .ok (.aload_n 0, 1) := by decide +kernel
theorem dX10_tick_205 : decode cX10_tick 205 = .ok (.getfield 166, 3) := by decide +kernel
theorem dX10_tick_208 : decode cX10_tick 208 = .ok (.sipush 14913, 3) := by decide +kernel
theorem dX10_tick_211 : decode cX10_tick 211 = .ok (.if_icmp .eq 11, 3) := by decide +kernel
theorem dX10_tick_214 : decode cX10_tick 214 = .ok (.aload_n 0, 1) := by decide +kernel
theorem dX10_tick_215 : decode cX10_tick 215 = .ok (.getfield 166, 3) := by decide +kernel
theorem dX10_tick_218 : decode cX10_tick 218 = .ok (.iload_n 1, 1) := by decide +kernel
theorem dX10_tick_219 : decode cX10_tick 219 = .ok (.if_icmp .ne 7, 3) := by decide +kernel
theorem dX10_tick_222 : decode cX10_tick 222 = .ok (.aload_n 0, 1) := by decide +kernel
theorem dX10_tick_223 : decode cX10_tick 223 = .ok (.invokevirtual 169, 3) := by decide +kernel
theorem dX10_tick_226 : decode cX10_tick 226 = .ok (.aload_n 0, 1) := by decide +kernel
theorem dX10_tick_227 : decode cX10_tick 227 = .ok (.getfield 166, 3) := by decide +kernel
theorem dX10_tick_230 : decode cX10_tick 230 = .ok (.iload_n 1, 1) := by decide +kernel
theorem dX10_tick_231 : decode cX10_tick 231 = .ok (.if_icmp .ne 22, 3) := by decide +kernel
theorem dX10_tick_234 : decode cX10_tick 234 = .ok (.aload_n 0, 1) := by decide +kernel
theorem dX10_tick_235 : decode cX10_tick 235 = .ok (.getfield 157, 3) := by decide +kernel
theorem dX10_tick_238 : decode cX10_tick 238 = .ok (.ifCond .ne 15, 3) := by decide +kernel
theorem dX10_tick_241 : decode cX10_tick 241 = .ok (.aload_n 0, 1) := by decide +kernel
theorem dX10_tick_242 : decode cX10_tick 242 = .ok (.getfield 160, 3) := by decide +kernel
theorem dX10_tick_245 : decode cX10_tick 245 = .ok (.ifCond .ne 8, 3) := by decide +kernel
theorem dX10_tick_248 : decode cX10_tick 248 = .ok (.aload_n 0, 1) := by decide +kernel
theorem dX10_tick_249 : decode cX10_tick 249 = .ok (.iconst 1, 1) := by decide +kernel
theorem dX10_tick_250 : decode cX10_tick 250 = .ok (.putfield 163, 3) := by decide +kernel
theorem dX10_tick_253 : decode cX10_tick 253 = .ok (.aload_n 0, 1) := by decide +kernel
theorem dX10_tick_254 : decode cX10_tick 254 = .ok (.getfield 166, 3) := by decide +kernel
theorem dX10_tick_257 : decode cX10_tick 257 = .ok (.iload_n 1, 1) := by decide +kernel
theorem dX10_tick_258 : decode cX10_tick 258 = .ok (.if_icmp .le 8, 3) := by decide +kernel
theorem dX10_tick_261 : decode cX10_tick 261 = .ok (.aload_n 0, 1) := by decide +kernel
theorem dX10_tick_262 : decode cX10_tick 262 = .ok (.iconst 0, 1) := by decide +kernel
theorem dX10_tick_263 : decode cX10_tick 263 = .ok (.putfield 166, 3) := by decide +kernel
theorem dX10_tick_266 : decode cX10_tick 266 = .ok (.return_, 1) := by decide +kernel
theorem dX10_elapse_0 : decode cX10_elapse 0 = .ok (.iconst 0, 1) := by decide +kernel
theorem dX10_elapse_1 : decode cX10_elapse 1 = .ok (.istore_n 2, 1) := by decide +kernel
theorem dX10_elapse_2 : decode cX10_elapse 2 = .ok (.iload_n 2, 1) := by decide +kernel
theorem dX10_elapse_3 : decode cX10_elapse 3 = .ok (.iload_n 1, 1) := by decide +kernel
theorem dX10_elapse_4 : decode cX10_elapse 4 = .ok (.if_icmp .ge 13, 3) := by decide +kernel
theorem dX10_elapse_7 : decode cX10_elapse 7 = .ok (.aload_n 0, 1) := by decide +kernel
theorem dX10_elapse_8 : decode cX10_elapse 8 = .ok (.invokevirtual 215, 3) := by decide +kernel
theorem dX10_elapse_11 : decode cX10_elapse 11 = .ok (.iinc 2 1, 3) := by decide +kernel
theorem dX10_elapse_14 : decode cX10_elapse 14 = .ok (.goto (-12), 3) := by decide +kernel
theorem dX10_elapse_17 : decode cX10_elapse 17 = .ok (.return_, 1) := by decide +kernel
theorem dX10_fetch_0 : decode cX10_fetch 0 = .ok (.aload_n 0, 1) := by decide +kernel
theorem dX10_fetch_1 : decode cX10_fetch 1 = .ok (.aload_n 0, 1) := by decide +kernel
theorem dX10_fetch_2 : decode cX10_fetch 2 = .ok (.getfield 218, 3) := by decide +kernel
theorem dX10_fetch_5 : decode cX10_fetch 5 = .ok (.invokevirtual 172, 3) := by decide +kernel
theorem dX10_fetch_8 : decode cX10_fetch 8 = .ok (.istore_n 1, 1) := by decide +kernel
theorem dX10_fetch_9 : decode cX10_fetch 9 = .ok (.aload_n 0, 1) := by decide +kernel
theorem dX10_fetch_10 : decode cX10_fetch 10 = .ok (.aload_n 0, 1) := by decide +kernel
theorem dX10_fetch_11 : decode cX10_fetch 11 = .ok (.getfield 218, 3) := by decide +kernel
theorem dX10_fetch_14 : decode cX10_fetch 14 = .ok (.iconst 1, 1) := by decide +kernel
theorem dX10_fetch_15 : decode cX10_fetch 15 = .ok (.iadd, 1) := by decide +kernel
theorem dX10_fetch_16 : decode cX10_fetch 16 = .ok (.ldc 204, 2) := by decide +kernel
theorem dX10_fetch_18 : decode cX10_fetch 18 = .ok (.iand, 1) := by decide +kernel
theorem dX10_fetch_19 : decode cX10_fetch 19 = .ok (.putfield 218, 3) := by decide +kernel
theorem dX10_fetch_22 : decode cX10_fetch 22 = .ok (.iload_n 1, 1) := by decide +kernel
theorem dX10_fetch_23 : decode cX10_fetch 23 = .ok (.ireturn, 1) := by decide +kernel
theorem dX10_fetchWord_0 : decode cX10_fetchWord 0 = .ok (.aload_n 0, 1) := by decide +kernel
theorem dX10_fetchWord_1 : decode cX10_fetchWord 1 = .ok (.invokevirtual 221, 3) := by decide +kernel
theorem dX10_fetchWord_4 : decode cX10_fetchWord 4 = .ok (.istore_n 1, 1) := by decide +kernel
theorem dX10_fetchWord_5 : decode cX10_fetchWord 5 = .ok (.iload_n 1, 1) := by decide +kernel
theorem dX10_fetchWord_6 : decode cX10_fetchWord 6 = .ok (.aload_n 0, 1) := by decide +kernel
theorem dX10_fetchWord_7 : decode cX10_fetchWord 7 = .ok (.invokevirtual 221, 3) := by decide +kernel
theorem dX10_fetchWord_10 : decode cX10_fetchWord 10 = .ok (.bipush 8, 2) := by decide +kernel
theorem dX10_fetchWord_12 : decode cX10_fetchWord 12 = .ok (.ishl, 1) := by decide +kernel
theorem dX10_fetchWord_13 : decode cX10_fetchWord 13 = .ok (.ior, 1) := by decide +kernel
theorem dX10_fetchWord_14 : decode cX10_fetchWord 14 = .ok (.ireturn, 1) := by decide +kernel
theorem dX10_push_0 : decode cX10_push 0 = .ok (.aload_n 0, 1) := by decide +kernel
theorem dX10_push_1 : decode cX10_push 1 = .ok (.getfield 7, 3) := by decide +kernel
theorem dX10_push_4 : decode cX10_push 4 = .ok (.sipush 256, 3) := by decide +kernel
theorem dX10_push_7 : decode cX10_push 7 = .ok (.aload_n 0, 1) := by decide +kernel
theorem dX10_push_8 : decode cX10_push 8 = .ok (.getfield 225, 3) := by decide +kernel
theorem dX10_push_11 : decode cX10_push 11 = .ok (.iadd, 1) := by decide +kernel
theorem dX10_push_12 : decode cX10_push 12 = .ok (.iload_n 1, 1) := by decide +kernel
theorem dX10_push_13 : decode cX10_push 13 = .ok (.iastore, 1) := by decide +kernel
theorem dX10_push_14 : decode cX10_push 14 = .ok (.aload_n 0, 1) := by decide +kernel
theorem dX10_push_15 : decode cX10_push 15 = .ok (.aload_n 0, 1) := by decide +kernel
theorem dX10_push_16 : decode cX10_push 16 = .ok (.getfield 225, 3) := by decide +kernel
theorem dX10_push_19 : decode cX10_push 19 = .ok (.iconst 1, 1) := by decide +kernel
theorem dX10_push_20 : decode cX10_push 20 = .ok (.isub, 1) := by decide +kernel
theorem dX10_push_21 : decode cX10_push 21 = .ok (.sipush 255, 3) := by decide +kernel
theorem dX10_push_24 : decode cX10_push 24 = .ok (.iand, 1) := by decide +kernel
theorem dX10_push_25 : decode cX10_push 25 = .ok (.putfield 225, 3) := by decide +kernel
theorem dX10_push_28 : decode cX10_push 28 = .ok (.return_, 1) := by decide +kernel
theorem dX10_pull_0 : decode cX10_pull 0 = .ok (.aload_n 0, 1) := by decide +kernel
theorem dX10_pull_1 : decode cX10_pull 1 = .ok (.aload_n 0, 1) := by decide +kernel
theorem dX10_pull_2 : decode cX10_pull 2 = .ok (.getfield 225, 3) := by decide +kernel
theorem dX10_pull_5 : decode cX10_pull 5 = .ok (.iconst 1, 1) := by decide +kernel
theorem dX10_pull_6 : decode cX10_pull 6 = .ok (.iadd, 1) := by decide +kernel
theorem dX10_pull_7 : decode cX10_pull 7 = .ok (.sipush 255, 3) := by decide +kernel
theorem dX10_pull_10 : decode cX10_pull 10 = .ok (.iand, 1) := by decide +kernel
theorem dX10_pull_11 : decode cX10_pull 11 = .ok (.putfield 225, 3) := by decide +kernel
theorem dX10_pull_14 : decode cX10_pull 14 = .ok (.aload_n 0, 1) := by decide +kernel
theorem dX10_pull_15 : decode cX10_pull 15 = .ok (.getfield 7, 3) := by decide +kernel
theorem dX10_pull_18 : decode cX10_pull 18 = .ok (.sipush 256, 3) := by decide +kernel
theorem dX10_pull_21 : decode cX10_pull 21 = .ok (.aload_n 0, 1) := by decide +kernel
theorem dX10_pull_22 : decode cX10_pull 22 = .ok (.getfield 225, 3) := by decide +kernel
theorem dX10_pull_25 : decode cX10_pull 25 = .ok (.iadd, 1) := by decide +kernel
theorem dX10_pull_26 : decode cX10_pull 26 = .ok (.iaload, 1) := by decide +kernel
theorem dX10_pull_27 : decode cX10_pull 27 = .ok (.ireturn, 1) := by decide +kernel
theorem dX10_pushWord_0 : decode cX10_pushWord 0 = .ok (.aload_n 0, 1) := by decide +kernel
theorem dX10_pushWord_1 : decode cX10_pushWord 1 = .ok (.iload_n 1, 1) := by decide +kernel
theorem dX10_pushWord_2 : decode cX10_pushWord 2 = .ok (.bipush 8, 2) := by decide +kernel
theorem dX10_pushWord_4 : decode cX10_pushWord 4 = .ok (.ishr, 1) := by decide +kernel
theorem dX10_pushWord_5 : decode cX10_pushWord 5 = .ok (.invokevirtual 228, 3) := by decide +kernel
theorem dX10_pushWord_8 : decode cX10_pushWord 8 = .ok (.aload_n 0, 1) := by decide +kernel
theorem dX10_pushWord_9 : decode cX10_pushWord 9 = .ok (.iload_n 1, 1) := by decide +kernel
theorem dX10_pushWord_10 : decode cX10_pushWord 10 = .ok (.sipush 255, 3) := by decide +kernel
theorem dX10_pushWord_13 : decode cX10_pushWord 13 = .ok (.iand, 1) := by decide +kernel
theorem dX10_pushWord_14 : decode cX10_pushWord 14 = .ok (.invokevirtual 228, 3) := by decide +kernel
theorem dX10_pushWord_17 : decode cX10_pushWord 17 = .ok (.return_, 1) := by decide +kernel
theorem dX10_pullWord_0 : decode cX10_pullWord 0 = .ok (.aload_n 0, 1) := by decide +kernel
theorem dX10_pullWord_1 : decode cX10_pullWord 1 = .ok (.invokevirtual 231, 3) := by decide +kernel
theorem dX10_pullWord_4 : decode cX10_pullWord 4 = .ok (.istore_n 1, 1) := by decide +kernel
theorem dX10_pullWord_5 : decode cX10_pullWord 5 = .ok (.iload_n 1, 1) := by decide +kernel
theorem dX10_pullWord_6 : decode cX10_pullWord 6 = .ok (.aload_n 0, 1) := by decide +kernel
theorem dX10_pullWord_7 : decode cX10_pullWord 7 = .ok (.invokevirtual 231, 3) := by decide +kernel
theorem dX10_pullWord_10 : decode cX10_pullWord 10 = .ok (.bipush 8, 2) := by decide +kernel
theorem dX10_pullWord_12 : decode cX10_pullWord 12 = .ok (.ishl, 1) := by decide +kernel
theorem dX10_pullWord_13 : decode cX10_pullWord 13 = .ok (.ior, 1) := by decide +kernel
theorem dX10_pullWord_14 : decode cX10_pullWord 14 = .ok (.ireturn, 1) := by decide +kernel
theorem dX10_flag_0 : decode cX10_flag 0 = .ok (.aload_n 0, 1) := by decide +kernel
theorem dX10_flag_1 : decode cX10_flag 1 = .ok (.iload_n 2, 1) := by decide +kernel
theorem dX10_flag_2 : decode cX10_flag 2 = .ok (.ifCond .eq 12, 3) := by decide +kernel
theorem dX10_flag_5 : decode cX10_flag 5 = .ok (.aload_n 0, 1) := by decide +kernel
theorem dX10_flag_6 : decode cX10_flag 6 = .ok (.getfield 22, 3) := by decide +kernel
theorem dX10_flag_9 : decode cX10_flag 9 = .ok (.iload_n 1, 1) := by decide +kernel
theorem dX10_flag_10 : decode cX10_flag 10 = .ok (.ior, 1) := by decide +kernel
theorem dX10_flag_11 : decode cX10_flag 11 = .ok (.goto 11, 3) := by decide +kernel
theorem dX10_flag_14 : decode cX10_flag 14 = .ok (.aload_n 0, 1) := by decide +kernel
theorem dX10_flag_15 : decode cX10_flag 15 = .ok (.getfield 22, 3) := by decide +kernel
theorem dX10_flag_18 : decode cX10_flag 18 = .ok (.iload_n 1, 1) := by decide +kernel
theorem dX10_flag_19 : decode cX10_flag 19 = .ok (.iconst (-1), 1) := by decide +kernel
theorem dX10_flag_20 : decode cX10_flag 20 = .ok (.ixor, 1) := by decide +kernel
theorem dX10_flag_21 : decode cX10_flag 21 = .ok (.iand, 1) := by decide +kernel
theorem dX10_flag_22 : decode cX10_flag 22 = .ok (.putfield 22, 3) := by decide +kernel
theorem dX10_flag_25 : decode cX10_flag 25 = .ok (.return_, 1) := by decide +kernel
theorem dX10_shown_0 : decode cX10_shown 0 = .ok (.aload_n 0, 1) := by decide +kernel
theorem dX10_shown_1 : decode cX10_shown 1 = .ok (.iconst 2, 1) := by decide +kernel
theorem dX10_shown_2 : decode cX10_shown 2 = .ok (.iload_n 1, 1) := by decide +kernel
theorem dX10_shown_3 : decode cX10_shown 3 = .ok (.ifCond .ne 7, 3) := by decide +kernel
theorem dX10_shown_6 : decode cX10_shown 6 = .ok (.iconst 1, 1) := by decide +kernel
theorem dX10_shown_7 : decode cX10_shown 7 = .ok (.goto 4, 3) := by decide +kernel
theorem dX10_shown_10 : decode cX10_shown 10 = .ok (.iconst 0, 1) := by decide +kernel
theorem dX10_shown_11 : decode cX10_shown 11 = .ok (.invokevirtual 234, 3) := by decide +kernel
theorem dX10_shown_14 : decode cX10_shown 14 = .ok (.aload_n 0, 1) := by decide +kernel
theorem dX10_shown_15 : decode cX10_shown 15 = .ok (.sipush 128, 3) := by decide +kernel
theorem dX10_shown_18 : decode cX10_shown 18 = .ok (.iload_n 1, 1) := by decide +kernel
theorem dX10_shown_19 : decode cX10_shown 19 = .ok (.sipush 128, 3) := by decide +kernel
theorem dX10_shown_22 : decode cX10_shown 22 = .ok (.iand, 1) := by decide +kernel
theorem dX10_shown_23 : decode cX10_shown 23 = .ok (.ifCond .eq 7, 3) := by decide +kernel
theorem dX10_shown_26 : decode cX10_shown 26 = .ok (.iconst 1, 1) := by decide +kernel
theorem dX10_shown_27 : decode cX10_shown 27 = .ok (.goto 4, 3) := by decide +kernel
theorem dX10_shown_30 : decode cX10_shown 30 = .ok (.iconst 0, 1) := by decide +kernel
theorem dX10_shown_31 : decode cX10_shown 31 = .ok (.invokevirtual 234, 3) := by decide +kernel
theorem dX10_shown_34 : decode cX10_shown 34 = .ok (.iload_n 1, 1) := by decide +kernel
theorem dX10_shown_35 : decode cX10_shown 35 = .ok (.ireturn, 1) := by decide +kernel
theorem dX10_interrupt_0 : decode cX10_interrupt 0 = .ok (.aload_n 0, 1) := by decide +kernel
theorem dX10_interrupt_1 : decode cX10_interrupt 1 = .ok (.aload_n 0, 1) := by decide +kernel
theorem dX10_interrupt_2 : decode cX10_interrupt 2 = .ok (.getfield 218, 3) := by decide +kernel
theorem dX10_interrupt_5 : decode cX10_interrupt 5 = .ok (.invokevirtual 238, 3) := by decide +kernel
theorem dX10_interrupt_8 : decode cX10_interrupt 8 = .ok (.aload_n 0, 1) := by decide +kernel
theorem dX10_interrupt_9 : decode cX10_interrupt 9 = .ok (.iload_n 2, 1) := by decide +kernel
theorem dX10_interrupt_10 : decode cX10_interrupt 10 = .ok (.invokevirtual 228, 3) := by decide +kernel
theorem dX10_interrupt_13 : decode cX10_interrupt 13 = .ok (.aload_n 0, 1) := by decide +kernel
theorem dX10_interrupt_14 : decode cX10_interrupt 14 = .ok (.iconst 4, 1) := by decide +kernel
theorem dX10_interrupt_15 : decode cX10_interrupt 15 = .ok (.iconst 1, 1) := by decide +kernel
theorem dX10_interrupt_16 : decode cX10_interrupt 16 = .ok (.invokevirtual 234, 3) := by decide +kernel
theorem dX10_interrupt_19 : decode cX10_interrupt 19 = .ok (.aload_n 0, 1) := by decide +kernel
theorem dX10_interrupt_20 : decode cX10_interrupt 20 = .ok (.aload_n 0, 1) := by decide +kernel
theorem dX10_interrupt_21 : decode cX10_interrupt 21 = .ok (.iload_n 1, 1) := by decide +kernel
theorem dX10_interrupt_22 : decode cX10_interrupt 22 = .ok (.invokevirtual 241, 3) := by decide +kernel
theorem dX10_interrupt_25 : decode cX10_interrupt 25 = .ok (.putfield 218, 3) := by decide +kernel
theorem dX10_interrupt_28 : decode cX10_interrupt 28 = .ok (.return_, 1) := by decide +kernel
theorem dX10_addressed_0 : decode cX10_addressed 0 = .ok (.iload_n 1, 1) := by decide +kernel
theorem dX10_addressed_1 : decode cX10_addressed 1 = .ok (.tableswitch 153 1 8 #[47, 71, 76, 90, 104, 109, 122, 135], 47) := by decide +kernel
theorem dX10_addressed_48 : decode cX10_addressed 48 = .ok (.aload_n 0, 1) := by decide +kernel
theorem dX10_addressed_49 : decode cX10_addressed 49 = .ok (.aload_n 0, 1) := by decide +kernel
theorem dX10_addressed_50 : decode cX10_addressed 50 = .ok (.getfield 218, 3) := by decide +kernel
theorem dX10_addressed_53 : decode cX10_addressed 53 = .ok (.iconst 1, 1) := by decide +kernel
theorem dX10_addressed_54 : decode cX10_addressed 54 = .ok (.iadd, 1) := by decide +kernel
theorem dX10_addressed_55 : decode cX10_addressed 55 = .ok (.ldc 204, 2) := by decide +kernel
theorem dX10_addressed_57 : decode cX10_addressed 57 = .ok (.iand, 1) := by decide +kernel
theorem dX10_addressed_58 : decode cX10_addressed 58 = .ok (.putfield 218, 3) := by decide +kernel
theorem dX10_addressed_61 : decode cX10_addressed 61 = .ok (.aload_n 0, 1) := by decide +kernel
theorem dX10_addressed_62 : decode cX10_addressed 62 = .ok (.getfield 218, 3) := by decide +kernel
theorem dX10_addressed_65 : decode cX10_addressed 65 = .ok (.ldc 204, 2) := by decide +kernel
theorem dX10_addressed_67 : decode cX10_addressed 67 = .ok (.iadd, 1) := by decide +kernel
theorem dX10_addressed_68 : decode cX10_addressed 68 = .ok (.ldc 204, 2) := by decide +kernel
theorem dX10_addressed_70 : decode cX10_addressed 70 = .ok (.iand, 1) := by decide +kernel
theorem dX10_addressed_71 : decode cX10_addressed 71 = .ok (.ireturn, 1) := by decide +kernel
theorem dX10_addressed_72 : decode cX10_addressed 72 = .ok (.aload_n 0, 1) := by decide +kernel
theorem dX10_addressed_73 : decode cX10_addressed 73 = .ok (.invokevirtual 221, 3) := by decide +kernel
theorem dX10_addressed_76 : decode cX10_addressed 76 = .ok (.ireturn, 1) := by decide +kernel
theorem dX10_addressed_77 : decode cX10_addressed 77 = .ok (.aload_n 0, 1) := by decide +kernel
theorem dX10_addressed_78 : decode cX10_addressed 78 = .ok (.invokevirtual 221, 3) := by decide +kernel
theorem dX10_addressed_81 : decode cX10_addressed 81 = .ok (.aload_n 0, 1) := by decide +kernel
theorem dX10_addressed_82 : decode cX10_addressed 82 = .ok (.getfield 244, 3) := by decide +kernel
theorem dX10_addressed_85 : decode cX10_addressed 85 = .ok (.iadd, 1) := by decide +kernel
theorem dX10_addressed_86 : decode cX10_addressed 86 = .ok (.sipush 255, 3) := by decide +kernel
theorem dX10_addressed_89 : decode cX10_addressed 89 = .ok (.iand, 1) := by decide +kernel
theorem dX10_addressed_90 : decode cX10_addressed 90 = .ok (.ireturn, 1) := by decide +kernel
theorem dX10_addressed_91 : decode cX10_addressed 91 = .ok (.aload_n 0, 1) := by decide +kernel
theorem dX10_addressed_92 : decode cX10_addressed 92 = .ok (.invokevirtual 221, 3) := by decide +kernel
theorem dX10_addressed_95 : decode cX10_addressed 95 = .ok (.aload_n 0, 1) := by decide +kernel
theorem dX10_addressed_96 : decode cX10_addressed 96 = .ok (.getfield 247, 3) := by decide +kernel
theorem dX10_addressed_99 : decode cX10_addressed 99 = .ok (.iadd, 1) := by decide +kernel
theorem dX10_addressed_100 : decode cX10_addressed 100 = .ok (.sipush 255, 3) := by decide +kernel
theorem dX10_addressed_103 : decode cX10_addressed 103 = .ok (.iand, 1) := by decide +kernel
theorem dX10_addressed_104 : decode cX10_addressed 104 = .ok (.ireturn, 1) := by decide +kernel
theorem dX10_addressed_105 : decode cX10_addressed 105 = .ok (.aload_n 0, 1) := by decide +kernel
theorem dX10_addressed_106 : decode cX10_addressed 106 = .ok (.invokevirtual 250, 3) := by decide +kernel
theorem dX10_addressed_109 : decode cX10_addressed 109 = .ok (.ireturn, 1) := by decide +kernel
theorem dX10_addressed_110 : decode cX10_addressed 110 = .ok (.aload_n 0, 1) := by decide +kernel
theorem dX10_addressed_111 : decode cX10_addressed 111 = .ok (.aload_n 0, 1) := by decide +kernel
theorem dX10_addressed_112 : decode cX10_addressed 112 = .ok (.invokevirtual 250, 3) := by decide +kernel
theorem dX10_addressed_115 : decode cX10_addressed 115 = .ok (.aload_n 0, 1) := by decide +kernel
theorem dX10_addressed_116 : decode cX10_addressed 116 = .ok (.getfield 244, 3) := by decide +kernel
theorem dX10_addressed_119 : decode cX10_addressed 119 = .ok (.invokevirtual 253, 3) := by decide +kernel
theorem dX10_addressed_122 : decode cX10_addressed 122 = .ok (.ireturn, 1) := by decide +kernel
theorem dX10_addressed_123 : decode cX10_addressed 123 = .ok (.aload_n 0, 1) := by decide +kernel
theorem dX10_addressed_124 : decode cX10_addressed 124 = .ok (.aload_n 0, 1) := by decide +kernel
theorem dX10_addressed_125 : decode cX10_addressed 125 = .ok (.invokevirtual 250, 3) := by decide +kernel
theorem dX10_addressed_128 : decode cX10_addressed 128 = .ok (.aload_n 0, 1) := by decide +kernel
theorem dX10_addressed_129 : decode cX10_addressed 129 = .ok (.getfield 247, 3) := by decide +kernel
theorem dX10_addressed_132 : decode cX10_addressed 132 = .ok (.invokevirtual 253, 3) := by decide +kernel
theorem dX10_addressed_135 : decode cX10_addressed 135 = .ok (.ireturn, 1) := by decide +kernel
theorem dX10_addressed_136 : decode cX10_addressed 136 = .ok (.aload_n 0, 1) := by decide +kernel
theorem dX10_addressed_137 : decode cX10_addressed 137 = .ok (.aload_n 0, 1) := by decide +kernel
theorem dX10_addressed_138 : decode cX10_addressed 138 = .ok (.invokevirtual 221, 3) := by decide +kernel
theorem dX10_addressed_141 : decode cX10_addressed 141 = .ok (.aload_n 0, 1) := by decide +kernel
theorem dX10_addressed_142 : decode cX10_addressed 142 = .ok (.getfield 244, 3) := by decide +kernel
theorem dX10_addressed_145 : decode cX10_addressed 145 = .ok (.iadd, 1) := by decide +kernel
theorem dX10_addressed_146 : decode cX10_addressed 146 = .ok (.sipush 255, 3) := by decide +kernel
theorem dX10_addressed_149 : decode cX10_addressed 149 = .ok (.iand, 1) := by decide +kernel
theorem dX10_addressed_150 : decode cX10_addressed 150 = .ok (.invokevirtual 257, 3) := by decide +kernel
theorem dX10_addressed_153 : decode cX10_addressed 153 = .ok (.ireturn, 1) := by decide +kernel
theorem dX10_addressed_154 : decode cX10_addressed 154 = .ok (.aload_n 0, 1) := by decide +kernel
theorem dX10_addressed_155 : decode cX10_addressed 155 = .ok (.aload_n 0, 1) := by decide +kernel
theorem dX10_addressed_156 : decode cX10_addressed 156 = .ok (.aload_n 0, 1) := by decide +kernel
theorem dX10_addressed_157 : decode cX10_addressed 157 = .ok (.invokevirtual 221, 3) := by decide +kernel
theorem dX10_addressed_160 : decode cX10_addressed 160 = .ok (.invokevirtual 257, 3) := by decide +kernel
theorem dX10_addressed_163 : decode cX10_addressed 163 = .ok (.aload_n 0, 1) := by decide +kernel
theorem dX10_addressed_164 : decode cX10_addressed 164 = .ok (.getfield 247, 3) := by decide +kernel
theorem dX10_addressed_167 : decode cX10_addressed 167 = .ok (.invokevirtual 253, 3) := by decide +kernel
theorem dX10_addressed_170 : decode cX10_addressed 170 = .ok (.ireturn, 1) := by decide +kernel
theorem dX10_pointed_0 : decode cX10_pointed 0 = .ok (.aload_n 0, 1) := by decide +kernel
theorem dX10_pointed_1 : decode cX10_pointed 1 = .ok (.getfield 7, 3) := by decide +kernel
theorem dX10_pointed_4 : decode cX10_pointed 4 = .ok (.iload_n 1, 1) := by decide +kernel
theorem dX10_pointed_5 : decode cX10_pointed 5 = .ok (.iaload, 1) := by decide +kernel
theorem dX10_pointed_6 : decode cX10_pointed 6 = .ok (.istore_n 2, 1) := by decide +kernel
theorem dX10_pointed_7 : decode cX10_pointed 7 = .ok (.iload_n 2, 1) := by decide +kernel
theorem dX10_pointed_8 : decode cX10_pointed 8 = .ok (.aload_n 0, 1) := by decide +kernel
theorem dX10_pointed_9 : decode cX10_pointed 9 = .ok (.getfield 7, 3) := by decide +kernel
theorem dX10_pointed_12 : decode cX10_pointed 12 = .ok (.iload_n 1, 1) := by decide +kernel
theorem dX10_pointed_13 : decode cX10_pointed 13 = .ok (.iconst 1, 1) := by decide +kernel
theorem dX10_pointed_14 : decode cX10_pointed 14 = .ok (.iadd, 1) := by decide +kernel
theorem dX10_pointed_15 : decode cX10_pointed 15 = .ok (.sipush 255, 3) := by decide +kernel
theorem dX10_pointed_18 : decode cX10_pointed 18 = .ok (.iand, 1) := by decide +kernel
theorem dX10_pointed_19 : decode cX10_pointed 19 = .ok (.iaload, 1) := by decide +kernel
theorem dX10_pointed_20 : decode cX10_pointed 20 = .ok (.bipush 8, 2) := by decide +kernel
theorem dX10_pointed_22 : decode cX10_pointed 22 = .ok (.ishl, 1) := by decide +kernel
theorem dX10_pointed_23 : decode cX10_pointed 23 = .ok (.ior, 1) := by decide +kernel
theorem dX10_pointed_24 : decode cX10_pointed 24 = .ok (.ireturn, 1) := by decide +kernel
theorem dX10_indexed_0 : decode cX10_indexed 0 = .ok (.iload_n 1, 1) := by decide +kernel
theorem dX10_indexed_1 : decode cX10_indexed 1 = .ok (.iload_n 2, 1) := by decide +kernel
theorem dX10_indexed_2 : decode cX10_indexed 2 = .ok (.iadd, 1) := by decide +kernel
theorem dX10_indexed_3 : decode cX10_indexed 3 = .ok (.ldc 204, 2) := by decide +kernel
theorem dX10_indexed_5 : decode cX10_indexed 5 = .ok (.iand, 1) := by decide +kernel
theorem dX10_indexed_6 : decode cX10_indexed 6 = .ok (.istore_n 3, 1) := by decide +kernel
theorem dX10_indexed_7 : decode cX10_indexed 7 = .ok (.aload_n 0, 1) := by decide +kernel
theorem dX10_indexed_8 : decode cX10_indexed 8 = .ok (.iload_n 3, 1) := by decide +kernel
theorem dX10_indexed_9 : decode cX10_indexed 9 = .ok (.iload_n 1, 1) := by decide +kernel
theorem dX10_indexed_10 : decode cX10_indexed 10 = .ok (.ixor, 1) := by decide +kernel
theorem dX10_indexed_11 : decode cX10_indexed 11 = .ok (.sipush 255, 3) := by decide +kernel
theorem dX10_indexed_14 : decode cX10_indexed 14 = .ok (.if_icmp .le 7, 3) := by decide +kernel
theorem dX10_indexed_17 : decode cX10_indexed 17 = .ok (.iconst 1, 1) := by decide +kernel
theorem dX10_indexed_18 : decode cX10_indexed 18 = .ok (.goto 4, 3) := by decide +kernel
theorem dX10_indexed_21 : decode cX10_indexed 21 = .ok (.iconst 0, 1) := by decide +kernel
theorem dX10_indexed_22 : decode cX10_indexed 22 = .ok (.putfield 260, 3) := by decide +kernel
theorem dX10_indexed_25 : decode cX10_indexed 25 = .ok (.iload_n 3, 1) := by decide +kernel
theorem dX10_indexed_26 : decode cX10_indexed 26 = .ok (.ireturn, 1) := by decide +kernel
theorem dX10_cyclesOf_0 : decode cX10_cyclesOf 0 = .ok (.iload_n 0, 1) := by decide +kernel
theorem dX10_cyclesOf_1 : decode cX10_cyclesOf 1 = .ok (.tableswitch 60 1 9 #[51, 53, 60, 60, 60, 60, 60, 55, 58], 51) := by decide +kernel
theorem dX10_cyclesOf_52 : decode cX10_cyclesOf 52 = .ok (.iconst 2, 1) := by decide +kernel
theorem dX10_cyclesOf_53 : decode cX10_cyclesOf 53 = .ok (.ireturn, 1) := by decide +kernel
theorem dX10_cyclesOf_54 : decode cX10_cyclesOf 54 = .ok (.iconst 3, 1) := by decide +kernel
theorem dX10_cyclesOf_55 : decode cX10_cyclesOf 55 = .ok (.ireturn, 1) := by decide +kernel
theorem dX10_cyclesOf_56 : decode cX10_cyclesOf 56 = .ok (.bipush 6, 2) := by decide +kernel
theorem dX10_cyclesOf_58 : decode cX10_cyclesOf 58 = .ok (.ireturn, 1) := by decide +kernel
theorem dX10_cyclesOf_59 : decode cX10_cyclesOf 59 = .ok (.iconst 5, 1) := by decide +kernel
theorem dX10_cyclesOf_60 : decode cX10_cyclesOf 60 = .ok (.ireturn, 1) := by decide +kernel
theorem dX10_cyclesOf_61 : decode cX10_cyclesOf 61 = .ok (.iconst 4, 1) := by decide +kernel
theorem dX10_cyclesOf_62 : decode cX10_cyclesOf 62 = .ok (.ireturn, 1) := by decide +kernel
theorem dX10_modeOne_0 : decode cX10_modeOne 0 = .ok (.iload_n 1, 1) := by decide +kernel
theorem dX10_modeOne_1 : decode cX10_modeOne 1 = .ok (.ifCond .ne 8, 3) := by decide +kernel
theorem dX10_modeOne_4 : decode cX10_modeOne 4 = .ok (.bipush 8, 2) := by decide +kernel
theorem dX10_modeOne_6 : decode cX10_modeOne 6 = .ok (.goto 62, 3) := by decide +kernel
theorem dX10_modeOne_9 : decode cX10_modeOne 9 = .ok (.iload_n 1, 1) := by decide +kernel
theorem dX10_modeOne_10 : decode cX10_modeOne 10 = .ok (.iconst 1, 1) := by decide +kernel
theorem dX10_modeOne_11 : decode cX10_modeOne 11 = .ok (.if_icmp .ne 7, 3) := by decide +kernel
theorem dX10_modeOne_14 : decode cX10_modeOne 14 = .ok (.iconst 2, 1) := by decide +kernel
theorem dX10_modeOne_15 : decode cX10_modeOne 15 = .ok (.goto 53, 3) := by decide +kernel
theorem dX10_modeOne_18 : decode cX10_modeOne 18 = .ok (.iload_n 1, 1) := by decide +kernel
theorem dX10_modeOne_19 : decode cX10_modeOne 19 = .ok (.iconst 2, 1) := by decide +kernel
theorem dX10_modeOne_20 : decode cX10_modeOne 20 = .ok (.if_icmp .ne 7, 3) := by decide +kernel
theorem dX10_modeOne_23 : decode cX10_modeOne 23 = .ok (.iconst 1, 1) := by decide +kernel
theorem dX10_modeOne_24 : decode cX10_modeOne 24 = .ok (.goto 44, 3) := by decide +kernel
theorem dX10_modeOne_27 : decode cX10_modeOne 27 = .ok (.iload_n 1, 1) := by decide +kernel
theorem dX10_modeOne_28 : decode cX10_modeOne 28 = .ok (.iconst 3, 1) := by decide +kernel
theorem dX10_modeOne_29 : decode cX10_modeOne 29 = .ok (.if_icmp .ne 7, 3) := by decide +kernel
theorem dX10_modeOne_32 : decode cX10_modeOne 32 = .ok (.iconst 5, 1) := by decide +kernel
theorem dX10_modeOne_33 : decode cX10_modeOne 33 = .ok (.goto 35, 3) := by decide +kernel
theorem dX10_modeOne_36 : decode cX10_modeOne 36 = .ok (.iload_n 1, 1) := by decide +kernel
theorem dX10_modeOne_37 : decode cX10_modeOne 37 = .ok (.iconst 4, 1) := by decide +kernel
theorem dX10_modeOne_38 : decode cX10_modeOne 38 = .ok (.if_icmp .ne 8, 3) := by decide +kernel
theorem dX10_modeOne_41 : decode cX10_modeOne 41 = .ok (.bipush 9, 2) := by decide +kernel
theorem dX10_modeOne_43 : decode cX10_modeOne 43 = .ok (.goto 25, 3) := by decide +kernel
theorem dX10_modeOne_46 : decode cX10_modeOne 46 = .ok (.iload_n 1, 1) := by decide +kernel
theorem dX10_modeOne_47 : decode cX10_modeOne 47 = .ok (.iconst 5, 1) := by decide +kernel
theorem dX10_modeOne_48 : decode cX10_modeOne 48 = .ok (.if_icmp .ne 7, 3) := by decide +kernel
theorem dX10_modeOne_51 : decode cX10_modeOne 51 = .ok (.iconst 3, 1) := by decide +kernel
theorem dX10_modeOne_52 : decode cX10_modeOne 52 = .ok (.goto 16, 3) := by decide +kernel
theorem dX10_modeOne_55 : decode cX10_modeOne 55 = .ok (.iload_n 1, 1) := by decide +kernel
theorem dX10_modeOne_56 : decode cX10_modeOne 56 = .ok (.bipush 6, 2) := by decide +kernel
theorem dX10_modeOne_58 : decode cX10_modeOne 58 = .ok (.if_icmp .ne 8, 3) := by decide +kernel
theorem dX10_modeOne_61 : decode cX10_modeOne 61 = .ok (.bipush 7, 2) := by decide +kernel
theorem dX10_modeOne_63 : decode cX10_modeOne 63 = .ok (.goto 5, 3) := by decide +kernel
theorem dX10_modeOne_66 : decode cX10_modeOne 66 = .ok (.bipush 6, 2) := by decide +kernel
theorem dX10_modeOne_68 : decode cX10_modeOne 68 = .ok (.ireturn, 1) := by decide +kernel
theorem dX10_compare_0 : decode cX10_compare 0 = .ok (.aload_n 0, 1) := by decide +kernel
theorem dX10_compare_1 : decode cX10_compare 1 = .ok (.iconst 1, 1) := by decide +kernel
theorem dX10_compare_2 : decode cX10_compare 2 = .ok (.iload_n 1, 1) := by decide +kernel
theorem dX10_compare_3 : decode cX10_compare 3 = .ok (.iload_n 2, 1) := by decide +kernel
theorem dX10_compare_4 : decode cX10_compare 4 = .ok (.if_icmp .lt 7, 3) := by decide +kernel
theorem dX10_compare_7 : decode cX10_compare 7 = .ok (.iconst 1, 1) := by decide +kernel
theorem dX10_compare_8 : decode cX10_compare 8 = .ok (.goto 4, 3) := by decide +kernel
theorem dX10_compare_11 : decode cX10_compare 11 = .ok (.iconst 0, 1) := by decide +kernel
theorem dX10_compare_12 : decode cX10_compare 12 = .ok (.invokevirtual 234, 3) := by decide +kernel
theorem dX10_compare_15 : decode cX10_compare 15 = .ok (.aload_n 0, 1) := by decide +kernel
theorem dX10_compare_16 : decode cX10_compare 16 = .ok (.iload_n 1, 1) := by decide +kernel
theorem dX10_compare_17 : decode cX10_compare 17 = .ok (.iload_n 2, 1) := by decide +kernel
theorem dX10_compare_18 : decode cX10_compare 18 = .ok (.isub, 1) := by decide +kernel
theorem dX10_compare_19 : decode cX10_compare 19 = .ok (.sipush 255, 3) := by decide +kernel
theorem dX10_compare_22 : decode cX10_compare 22 = .ok (.iand, 1) := by decide +kernel
theorem dX10_compare_23 : decode cX10_compare 23 = .ok (.invokevirtual 263, 3) := by decide +kernel
theorem dX10_compare_26 : decode cX10_compare 26 = .ok (.pop, 1) := by decide +kernel
theorem dX10_compare_27 : decode cX10_compare 27 = .ok (.return_, 1) := by decide +kernel
theorem dX10_add_0 : decode cX10_add 0 = .ok (.aload_n 0, 1) := by decide +kernel
theorem dX10_add_1 : decode cX10_add 1 = .ok (.getfield 266, 3) := by decide +kernel
theorem dX10_add_4 : decode cX10_add 4 = .ok (.iload_n 1, 1) := by decide +kernel
theorem dX10_add_5 : decode cX10_add 5 = .ok (.iadd, 1) := by decide +kernel
theorem dX10_add_6 : decode cX10_add 6 = .ok (.aload_n 0, 1) := by decide +kernel
theorem dX10_add_7 : decode cX10_add 7 = .ok (.getfield 22, 3) := by decide +kernel
theorem dX10_add_10 : decode cX10_add 10 = .ok (.iconst 1, 1) := by decide +kernel
theorem dX10_add_11 : decode cX10_add 11 = .ok (.iand, 1) := by decide +kernel
theorem dX10_add_12 : decode cX10_add 12 = .ok (.iadd, 1) := by decide +kernel
theorem dX10_add_13 : decode cX10_add 13 = .ok (.istore_n 2, 1) := by decide +kernel
theorem dX10_add_14 : decode cX10_add 14 = .ok (.aload_n 0, 1) := by decide +kernel
theorem dX10_add_15 : decode cX10_add 15 = .ok (.iconst 1, 1) := by decide +kernel
theorem dX10_add_16 : decode cX10_add 16 = .ok (.iload_n 2, 1) := by decide +kernel
theorem dX10_add_17 : decode cX10_add 17 = .ok (.sipush 255, 3) := by decide +kernel
theorem dX10_add_20 : decode cX10_add 20 = .ok (.if_icmp .le 7, 3) := by decide +kernel
theorem dX10_add_23 : decode cX10_add 23 = .ok (.iconst 1, 1) := by decide +kernel
theorem dX10_add_24 : decode cX10_add 24 = .ok (.goto 4, 3) := by decide +kernel
theorem dX10_add_27 : decode cX10_add 27 = .ok (.iconst 0, 1) := by decide +kernel
theorem dX10_add_28 : decode cX10_add 28 = .ok (.invokevirtual 234, 3) := by decide +kernel
theorem dX10_add_31 : decode cX10_add 31 = .ok (.aload_n 0, 1) := by decide +kernel
theorem dX10_add_32 : decode cX10_add 32 = .ok (.bipush 64, 2) := by decide +kernel
theorem dX10_add_34 : decode cX10_add 34 = .ok (.aload_n 0, 1) := by decide +kernel
theorem dX10_add_35 : decode cX10_add 35 = .ok (.getfield 266, 3) := by decide +kernel
theorem dX10_add_38 : decode cX10_add 38 = .ok (.iload_n 1, 1) := by decide +kernel
theorem dX10_add_39 : decode cX10_add 39 = .ok (.ixor, 1) := by decide +kernel
theorem dX10_add_40 : decode cX10_add 40 = .ok (.iconst (-1), 1) := by decide +kernel
theorem dX10_add_41 : decode cX10_add 41 = .ok (.ixor, 1) := by decide +kernel
theorem dX10_add_42 : decode cX10_add 42 = .ok (.aload_n 0, 1) := by decide +kernel
theorem dX10_add_43 : decode cX10_add 43 = .ok (.getfield 266, 3) := by decide +kernel
theorem dX10_add_46 : decode cX10_add 46 = .ok (.iload_n 2, 1) := by decide +kernel
theorem dX10_add_47 : decode cX10_add 47 = .ok (.ixor, 1) := by decide +kernel
theorem dX10_add_48 : decode cX10_add 48 = .ok (.iand, 1) := by decide +kernel
theorem dX10_add_49 : decode cX10_add 49 = .ok (.sipush 128, 3) := by decide +kernel
theorem dX10_add_52 : decode cX10_add 52 = .ok (.iand, 1) := by decide +kernel
theorem dX10_add_53 : decode cX10_add 53 = .ok (.ifCond .eq 7, 3) := by decide +kernel
theorem dX10_add_56 : decode cX10_add 56 = .ok (.iconst 1, 1) := by decide +kernel
theorem dX10_add_57 : decode cX10_add 57 = .ok (.goto 4, 3) := by decide +kernel
theorem dX10_add_60 : decode cX10_add 60 = .ok (.iconst 0, 1) := by decide +kernel
theorem dX10_add_61 : decode cX10_add 61 = .ok (.invokevirtual 234, 3) := by decide +kernel
theorem dX10_add_64 : decode cX10_add 64 = .ok (.aload_n 0, 1) := by decide +kernel
theorem dX10_add_65 : decode cX10_add 65 = .ok (.aload_n 0, 1) := by decide +kernel
theorem dX10_add_66 : decode cX10_add 66 = .ok (.iload_n 2, 1) := by decide +kernel
theorem dX10_add_67 : decode cX10_add 67 = .ok (.sipush 255, 3) := by decide +kernel
theorem dX10_add_70 : decode cX10_add 70 = .ok (.iand, 1) := by decide +kernel
theorem dX10_add_71 : decode cX10_add 71 = .ok (.invokevirtual 263, 3) := by decide +kernel
theorem dX10_add_74 : decode cX10_add 74 = .ok (.putfield 266, 3) := by decide +kernel
theorem dX10_add_77 : decode cX10_add 77 = .ok (.return_, 1) := by decide +kernel
theorem dX10_arithmetic_0 : decode cX10_arithmetic 0 = .ok (.aload_n 0, 1) := by decide +kernel
theorem dX10_arithmetic_1 : decode cX10_arithmetic 1 = .ok (.iload_n 2, 1) := by decide +kernel
theorem dX10_arithmetic_2 : decode cX10_arithmetic 2 = .ok (.invokevirtual 269, 3) := by decide +kernel
theorem dX10_arithmetic_5 : decode cX10_arithmetic 5 = .ok (.istore_n 3, 1) := by decide +kernel
theorem dX10_arithmetic_6 : decode cX10_arithmetic 6 = .ok (.iload_n 1, 1) := by decide +kernel
theorem dX10_arithmetic_7 : decode cX10_arithmetic 7 = .ok (.iconst 4, 1) := by decide +kernel
theorem dX10_arithmetic_8 : decode cX10_arithmetic 8 = .ok (.if_icmp .ne 53, 3) := by decide +kernel
theorem dX10_arithmetic_11 : decode cX10_arithmetic 11 = .ok (.aload_n 0, 1) := by decide +kernel
theorem dX10_arithmetic_12 : decode cX10_arithmetic 12 = .ok (.iload_n 3, 1) := by decide +kernel
theorem dX10_arithmetic_13 : decode cX10_arithmetic 13 = .ok (.aload_n 0, 1) := by decide +kernel
theorem dX10_arithmetic_14 : decode cX10_arithmetic 14 = .ok (.getfield 266, 3) := by decide +kernel
theorem dX10_arithmetic_17 : decode cX10_arithmetic 17 = .ok (.invokevirtual 272, 3) := by decide +kernel
theorem dX10_arithmetic_20 : decode cX10_arithmetic 20 = .ok (.iload_n 2, 1) := by decide +kernel
theorem dX10_arithmetic_21 : decode cX10_arithmetic 21 = .ok (.bipush 6, 2) := by decide +kernel
theorem dX10_arithmetic_23 : decode cX10_arithmetic 23 = .ok (.if_icmp .eq 15, 3) := by decide +kernel
theorem dX10_arithmetic_26 : decode cX10_arithmetic 26 = .ok (.iload_n 2, 1) := by decide +kernel
theorem dX10_arithmetic_27 : decode cX10_arithmetic 27 = .ok (.bipush 7, 2) := by decide +kernel
theorem dX10_arithmetic_29 : decode cX10_arithmetic 29 = .ok (.if_icmp .eq 9, 3) := by decide +kernel
theorem dX10_arithmetic_32 : decode cX10_arithmetic 32 = .ok (.iload_n 2, 1) := by decide +kernel
theorem dX10_arithmetic_33 : decode cX10_arithmetic 33 = .ok (.bipush 9, 2) := by decide +kernel
theorem dX10_arithmetic_35 : decode cX10_arithmetic 35 = .ok (.if_icmp .ne 7, 3) := by decide +kernel
theorem dX10_arithmetic_38 : decode cX10_arithmetic 38 = .ok (.iconst 1, 1) := by decide +kernel
theorem dX10_arithmetic_39 : decode cX10_arithmetic 39 = .ok (.goto 4, 3) := by decide +kernel
theorem dX10_arithmetic_42 : decode cX10_arithmetic 42 = .ok (.iconst 0, 1) := by decide +kernel
theorem dX10_arithmetic_43 : decode cX10_arithmetic 43 = .ok (.istore 4, 2) := by decide +kernel
theorem dX10_arithmetic_45 : decode cX10_arithmetic 45 = .ok (.iload_n 2, 1) := by decide +kernel
theorem dX10_arithmetic_46 : decode cX10_arithmetic 46 = .ok (.invokestatic 275, 3) := by decide +kernel
theorem dX10_arithmetic_49 : decode cX10_arithmetic 49 = .ok (.iload 4, 2) := by decide +kernel
theorem dX10_arithmetic_51 : decode cX10_arithmetic 51 = .ok (.ifCond .eq 7, 3) := by decide +kernel
theorem dX10_arithmetic_54 : decode cX10_arithmetic 54 = .ok (.iconst 1, 1) := by decide +kernel
theorem dX10_arithmetic_55 : decode cX10_arithmetic 55 = .ok (.goto 4, 3) := by decide +kernel
theorem dX10_arithmetic_58 : decode cX10_arithmetic 58 = .ok (.iconst 0, 1) := by decide +kernel
theorem dX10_arithmetic_59 : decode cX10_arithmetic 59 = .ok (.iadd, 1) := by decide +kernel
theorem dX10_arithmetic_60 : decode cX10_arithmetic 60 = .ok (.ireturn, 1) := by decide +kernel
theorem dX10_arithmetic_61 : decode cX10_arithmetic 61 = .ok (.aload_n 0, 1) := by decide +kernel
theorem dX10_arithmetic_62 : decode cX10_arithmetic 62 = .ok (.iload_n 3, 1) := by decide +kernel
theorem dX10_arithmetic_63 : decode cX10_arithmetic 63 = .ok (.invokevirtual 172, 3) := by decide +kernel
theorem dX10_arithmetic_66 : decode cX10_arithmetic 66 = .ok (.istore 4, 2) := by decide +kernel
theorem dX10_arithmetic_68 : decode cX10_arithmetic 68 = .ok (.iload_n 1, 1) := by decide +kernel
theorem dX10_arithmetic_69 : decode cX10_arithmetic 69 = .ok (.tableswitch 132 0 6 #[43, 61, 79, 97, 132, 106, 119], 43) := by decide +kernel
theorem dX10_arithmetic_112 : decode cX10_arithmetic 112 = .ok (.aload_n 0, 1) := by decide +kernel
theorem dX10_arithmetic_113 : decode cX10_arithmetic 113 = .ok (.aload_n 0, 1) := by decide +kernel
theorem dX10_arithmetic_114 : decode cX10_arithmetic 114 = .ok (.aload_n 0, 1) := by decide +kernel
theorem dX10_arithmetic_115 : decode cX10_arithmetic 115 = .ok (.getfield 266, 3) := by decide +kernel
theorem dX10_arithmetic_118 : decode cX10_arithmetic 118 = .ok (.iload 4, 2) := by decide +kernel
theorem dX10_arithmetic_120 : decode cX10_arithmetic 120 = .ok (.ior, 1) := by decide +kernel
theorem dX10_arithmetic_121 : decode cX10_arithmetic 121 = .ok (.invokevirtual 263, 3) := by decide +kernel
theorem dX10_arithmetic_124 : decode cX10_arithmetic 124 = .ok (.putfield 266, 3) := by decide +kernel
theorem dX10_arithmetic_127 : decode cX10_arithmetic 127 = .ok (.goto 84, 3) := by decide +kernel
theorem dX10_arithmetic_130 : decode cX10_arithmetic 130 = .ok (.aload_n 0, 1) := by decide +kernel
theorem dX10_arithmetic_131 : decode cX10_arithmetic 131 = .ok (.aload_n 0, 1) := by decide +kernel
theorem dX10_arithmetic_132 : decode cX10_arithmetic 132 = .ok (.aload_n 0, 1) := by decide +kernel
theorem dX10_arithmetic_133 : decode cX10_arithmetic 133 = .ok (.getfield 266, 3) := by decide +kernel
theorem dX10_arithmetic_136 : decode cX10_arithmetic 136 = .ok (.iload 4, 2) := by decide +kernel
theorem dX10_arithmetic_138 : decode cX10_arithmetic 138 = .ok (.iand, 1) := by decide +kernel
theorem dX10_arithmetic_139 : decode cX10_arithmetic 139 = .ok (.invokevirtual 263, 3) := by decide +kernel
theorem dX10_arithmetic_142 : decode cX10_arithmetic 142 = .ok (.putfield 266, 3) := by decide +kernel
theorem dX10_arithmetic_145 : decode cX10_arithmetic 145 = .ok (.goto 66, 3) := by decide +kernel
theorem dX10_arithmetic_148 : decode cX10_arithmetic 148 = .ok (.aload_n 0, 1) := by decide +kernel
theorem dX10_arithmetic_149 : decode cX10_arithmetic 149 = .ok (.aload_n 0, 1) := by decide +kernel
theorem dX10_arithmetic_150 : decode cX10_arithmetic 150 = .ok (.aload_n 0, 1) := by decide +kernel
theorem dX10_arithmetic_151 : decode cX10_arithmetic 151 = .ok (.getfield 266, 3) := by decide +kernel
theorem dX10_arithmetic_154 : decode cX10_arithmetic 154 = .ok (.iload 4, 2) := by decide +kernel
theorem dX10_arithmetic_156 : decode cX10_arithmetic 156 = .ok (.ixor, 1) := by decide +kernel
theorem dX10_arithmetic_157 : decode cX10_arithmetic 157 = .ok (.invokevirtual 263, 3) := by decide +kernel
theorem dX10_arithmetic_160 : decode cX10_arithmetic 160 = .ok (.putfield 266, 3) := by decide +kernel
theorem dX10_arithmetic_163 : decode cX10_arithmetic 163 = .ok (.goto 48, 3) := by decide +kernel
theorem dX10_arithmetic_166 : decode cX10_arithmetic 166 = .ok (.aload_n 0, 1) := by decide +kernel
theorem dX10_arithmetic_167 : decode cX10_arithmetic 167 = .ok (.iload 4, 2) := by decide +kernel
theorem dX10_arithmetic_169 : decode cX10_arithmetic 169 = .ok (.invokevirtual 278, 3) := by decide +kernel
theorem dX10_arithmetic_172 : decode cX10_arithmetic 172 = .ok (.goto 39, 3) := by decide +kernel
theorem dX10_arithmetic_175 : decode cX10_arithmetic 175 = .ok (.aload_n 0, 1) := by decide +kernel
theorem dX10_arithmetic_176 : decode cX10_arithmetic 176 = .ok (.aload_n 0, 1) := by decide +kernel
theorem dX10_arithmetic_177 : decode cX10_arithmetic 177 = .ok (.iload 4, 2) := by decide +kernel
theorem dX10_arithmetic_179 : decode cX10_arithmetic 179 = .ok (.invokevirtual 263, 3) := by decide +kernel
theorem dX10_arithmetic_182 : decode cX10_arithmetic 182 = .ok (.putfield 266, 3) := by decide +kernel
theorem dX10_arithmetic_185 : decode cX10_arithmetic 185 = .ok (.goto 26, 3) := by decide +kernel
theorem dX10_arithmetic_188 : decode cX10_arithmetic 188 = .ok (.aload_n 0, 1) := by decide +kernel
theorem dX10_arithmetic_189 : decode cX10_arithmetic 189 = .ok (.aload_n 0, 1) := by decide +kernel
theorem dX10_arithmetic_190 : decode cX10_arithmetic 190 = .ok (.getfield 266, 3) := by decide +kernel
theorem dX10_arithmetic_193 : decode cX10_arithmetic 193 = .ok (.iload 4, 2) := by decide +kernel
theorem dX10_arithmetic_195 : decode cX10_arithmetic 195 = .ok (.invokevirtual 281, 3) := by decide +kernel
theorem dX10_arithmetic_198 : decode cX10_arithmetic 198 = .ok (.goto 13, 3) := by decide +kernel
theorem dX10_arithmetic_201 : decode cX10_arithmetic 201 = .ok (.aload_n 0, 1) := by decide +kernel
theorem dX10_arithmetic_202 : decode cX10_arithmetic 202 = .ok (.iload 4, 2) := by decide +kernel
theorem dX10_arithmetic_204 : decode cX10_arithmetic 204 = .ok (.sipush 255, 3) := by decide +kernel
theorem dX10_arithmetic_207 : decode cX10_arithmetic 207 = .ok (.ixor, 1) := by decide +kernel
theorem dX10_arithmetic_208 : decode cX10_arithmetic 208 = .ok (.invokevirtual 278, 3) := by decide +kernel
theorem dX10_arithmetic_211 : decode cX10_arithmetic 211 = .ok (.iload_n 2, 1) := by decide +kernel
theorem dX10_arithmetic_212 : decode cX10_arithmetic 212 = .ok (.invokestatic 275, 3) := by decide +kernel
theorem dX10_arithmetic_215 : decode cX10_arithmetic 215 = .ok (.aload_n 0, 1) := by decide +kernel
theorem dX10_arithmetic_216 : decode cX10_arithmetic 216 = .ok (.getfield 260, 3) := by decide +kernel
theorem dX10_arithmetic_219 : decode cX10_arithmetic 219 = .ok (.ifCond .eq 7, 3) := by decide +kernel
theorem dX10_arithmetic_222 : decode cX10_arithmetic 222 = .ok (.iconst 1, 1) := by decide +kernel
theorem dX10_arithmetic_223 : decode cX10_arithmetic 223 = .ok (.goto 4, 3) := by decide +kernel
theorem dX10_arithmetic_226 : decode cX10_arithmetic 226 = .ok (.iconst 0, 1) := by decide +kernel
theorem dX10_arithmetic_227 : decode cX10_arithmetic 227 = .ok (.iadd, 1) := by decide +kernel
theorem dX10_arithmetic_228 : decode cX10_arithmetic 228 = .ok (.ireturn, 1) := by decide +kernel
theorem dX10_changed_0 : decode cX10_changed 0 = .ok (.aload_n 0, 1) := by decide +kernel
theorem dX10_changed_1 : decode cX10_changed 1 = .ok (.getfield 22, 3) := by decide +kernel
theorem dX10_changed_4 : decode cX10_changed 4 = .ok (.iconst 1, 1) := by decide +kernel
theorem dX10_changed_5 : decode cX10_changed 5 = .ok (.iand, 1) := by decide +kernel
theorem dX10_changed_6 : decode cX10_changed 6 = .ok (.istore_n 3, 1) := by decide +kernel
theorem dX10_changed_7 : decode cX10_changed 7 = .ok (.iload_n 1, 1) := by decide +kernel
theorem dX10_changed_8 : decode cX10_changed 8 = .ok (.iconst 5, 1) := by decide +kernel
theorem dX10_changed_9 : decode cX10_changed 9 = .ok (.if_icmp .le 27, 3) := by decide +kernel
theorem dX10_changed_12 : decode cX10_changed 12 = .ok (.aload_n 0, 1) := by decide +kernel
theorem dX10_changed_13 : decode cX10_changed 13 = .ok (.iload_n 2, 1) := by decide +kernel
theorem dX10_changed_14 : decode cX10_changed 14 = .ok (.iload_n 1, 1) := by decide +kernel
theorem dX10_changed_15 : decode cX10_changed 15 = .ok (.bipush 6, 2) := by decide +kernel
theorem dX10_changed_17 : decode cX10_changed 17 = .ok (.if_icmp .ne 9, 3) := by decide +kernel
theorem dX10_changed_20 : decode cX10_changed 20 = .ok (.sipush 255, 3) := by decide +kernel
theorem dX10_changed_23 : decode cX10_changed 23 = .ok (.goto 4, 3) := by decide +kernel
theorem dX10_changed_26 : decode cX10_changed 26 = .ok (.iconst 1, 1) := by decide +kernel
theorem dX10_changed_27 : decode cX10_changed 27 = .ok (.iadd, 1) := by decide +kernel
theorem dX10_changed_28 : decode cX10_changed 28 = .ok (.sipush 255, 3) := by decide +kernel
theorem dX10_changed_31 : decode cX10_changed 31 = .ok (.iand, 1) := by decide +kernel
theorem dX10_changed_32 : decode cX10_changed 32 = .ok (.invokevirtual 263, 3) := by decide +kernel
theorem dX10_changed_35 : decode cX10_changed 35 = .ok (.ireturn, 1) := by decide +kernel
theorem dX10_changed_36 : decode cX10_changed 36 = .ok (.aload_n 0, 1) := by decide +kernel
theorem dX10_changed_37 : decode cX10_changed 37 = .ok (.iconst 1, 1) := by decide +kernel
theorem dX10_changed_38 : decode cX10_changed 38 = .ok (.iload_n 2, 1) := by decide +kernel
theorem dX10_changed_39 : decode cX10_changed 39 = .ok (.iload_n 1, 1) := by decide +kernel
theorem dX10_changed_40 : decode cX10_changed 40 = .ok (.iconst 2, 1) := by decide +kernel
theorem dX10_changed_41 : decode cX10_changed 41 = .ok (.if_icmp .ge 9, 3) := by decide +kernel
theorem dX10_changed_44 : decode cX10_changed 44 = .ok (.sipush 128, 3) := by decide +kernel
theorem dX10_changed_47 : decode cX10_changed 47 = .ok (.goto 4, 3) := by decide +kernel
theorem dX10_changed_50 : decode cX10_changed 50 = .ok (.iconst 1, 1) := by decide +kernel
theorem dX10_changed_51 : decode cX10_changed 51 = .ok (.iand, 1) := by decide +kernel
theorem dX10_changed_52 : decode cX10_changed 52 = .ok (.ifCond .eq 7, 3) := by decide +kernel
theorem dX10_changed_55 : decode cX10_changed 55 = .ok (.iconst 1, 1) := by decide +kernel
theorem dX10_changed_56 : decode cX10_changed 56 = .ok (.goto 4, 3) := by decide +kernel
theorem dX10_changed_59 : decode cX10_changed 59 = .ok (.iconst 0, 1) := by decide +kernel
theorem dX10_changed_60 : decode cX10_changed 60 = .ok (.invokevirtual 234, 3) := by decide +kernel
theorem dX10_changed_63 : decode cX10_changed 63 = .ok (.iload_n 1, 1) := by decide +kernel
theorem dX10_changed_64 : decode cX10_changed 64 = .ok (.iconst 2, 1) := by decide +kernel
theorem dX10_changed_65 : decode cX10_changed 65 = .ok (.if_icmp .ge 26, 3) := by decide +kernel
theorem dX10_changed_68 : decode cX10_changed 68 = .ok (.aload_n 0, 1) := by decide +kernel
theorem dX10_changed_69 : decode cX10_changed 69 = .ok (.iload_n 2, 1) := by decide +kernel
theorem dX10_changed_70 : decode cX10_changed 70 = .ok (.iconst 1, 1) := by decide +kernel
theorem dX10_changed_71 : decode cX10_changed 71 = .ok (.ishl, 1) := by decide +kernel
theorem dX10_changed_72 : decode cX10_changed 72 = .ok (.sipush 255, 3) := by decide +kernel
theorem dX10_changed_75 : decode cX10_changed 75 = .ok (.iand, 1) := by decide +kernel
theorem dX10_changed_76 : decode cX10_changed 76 = .ok (.iload_n 1, 1) := by decide +kernel
theorem dX10_changed_77 : decode cX10_changed 77 = .ok (.iconst 1, 1) := by decide +kernel
theorem dX10_changed_78 : decode cX10_changed 78 = .ok (.if_icmp .ne 7, 3) := by decide +kernel
theorem dX10_changed_81 : decode cX10_changed 81 = .ok (.iload_n 3, 1) := by decide +kernel
theorem dX10_changed_82 : decode cX10_changed 82 = .ok (.goto 4, 3) := by decide +kernel
theorem dX10_changed_85 : decode cX10_changed 85 = .ok (.iconst 0, 1) := by decide +kernel
theorem dX10_changed_86 : decode cX10_changed 86 = .ok (.ior, 1) := by decide +kernel
theorem dX10_changed_87 : decode cX10_changed 87 = .ok (.invokevirtual 263, 3) := by decide +kernel
theorem dX10_changed_90 : decode cX10_changed 90 = .ok (.ireturn, 1) := by decide +kernel
theorem dX10_changed_91 : decode cX10_changed 91 = .ok (.aload_n 0, 1) := by decide +kernel
theorem dX10_changed_92 : decode cX10_changed 92 = .ok (.iload_n 2, 1) := by decide +kernel
theorem dX10_changed_93 : decode cX10_changed 93 = .ok (.iconst 1, 1) := by decide +kernel
theorem dX10_changed_94 : decode cX10_changed 94 = .ok (.ishr, 1) := by decide +kernel
theorem dX10_changed_95 : decode cX10_changed 95 = .ok (.iload_n 1, 1) := by decide +kernel
theorem dX10_changed_96 : decode cX10_changed 96 = .ok (.iconst 3, 1) := by decide +kernel
theorem dX10_changed_97 : decode cX10_changed 97 = .ok (.if_icmp .ne 10, 3) := by decide +kernel
theorem dX10_changed_100 : decode cX10_changed 100 = .ok (.iload_n 3, 1) := by decide +kernel
theorem dX10_changed_101 : decode cX10_changed 101 = .ok (.bipush 7, 2) := by decide +kernel
theorem dX10_changed_103 : decode cX10_changed 103 = .ok (.ishl, 1) := by decide +kernel
theorem dX10_changed_104 : decode cX10_changed 104 = .ok (.goto 4, 3) := by decide +kernel
theorem dX10_changed_107 : decode cX10_changed 107 = .ok (.iconst 0, 1) := by decide +kernel
theorem dX10_changed_108 : decode cX10_changed 108 = .ok (.ior, 1) := by decide +kernel
theorem dX10_changed_109 : decode cX10_changed 109 = .ok (.invokevirtual 263, 3) := by decide +kernel
theorem dX10_changed_112 : decode cX10_changed 112 = .ok (.ireturn, 1) := by decide +kernel
theorem dX10_change_0 : decode cX10_change 0 = .ok (.iload_n 2, 1) := by decide +kernel
theorem dX10_change_1 : decode cX10_change 1 = .ok (.ifCond .ne 18, 3) := by decide +kernel
theorem dX10_change_4 : decode cX10_change 4 = .ok (.aload_n 0, 1) := by decide +kernel
theorem dX10_change_5 : decode cX10_change 5 = .ok (.aload_n 0, 1) := by decide +kernel
theorem dX10_change_6 : decode cX10_change 6 = .ok (.iload_n 1, 1) := by decide +kernel
theorem dX10_change_7 : decode cX10_change 7 = .ok (.aload_n 0, 1) := by decide +kernel
theorem dX10_change_8 : decode cX10_change 8 = .ok (.getfield 266, 3) := by decide +kernel
theorem dX10_change_11 : decode cX10_change 11 = .ok (.invokevirtual 284, 3) := by decide +kernel
theorem dX10_change_14 : decode cX10_change 14 = .ok (.putfield 266, 3) := by decide +kernel
theorem dX10_change_17 : decode cX10_change 17 = .ok (.iconst 2, 1) := by decide +kernel
theorem dX10_change_18 : decode cX10_change 18 = .ok (.ireturn, 1) := by decide +kernel
theorem dX10_change_19 : decode cX10_change 19 = .ok (.aload_n 0, 1) := by decide +kernel
theorem dX10_change_20 : decode cX10_change 20 = .ok (.iload_n 2, 1) := by decide +kernel
theorem dX10_change_21 : decode cX10_change 21 = .ok (.invokevirtual 269, 3) := by decide +kernel
theorem dX10_change_24 : decode cX10_change 24 = .ok (.istore_n 3, 1) := by decide +kernel
theorem dX10_change_25 : decode cX10_change 25 = .ok (.aload_n 0, 1) := by decide +kernel
theorem dX10_change_26 : decode cX10_change 26 = .ok (.iload_n 3, 1) := by decide +kernel
theorem dX10_change_27 : decode cX10_change 27 = .ok (.invokevirtual 172, 3) := by decide +kernel
theorem dX10_change_30 : decode cX10_change 30 = .ok (.istore 4, 2) := by decide +kernel
theorem dX10_change_32 : decode cX10_change 32 = .ok (.aload_n 0, 1) := by decide +kernel
theorem dX10_change_33 : decode cX10_change 33 = .ok (.iload_n 3, 1) := by decide +kernel
theorem dX10_change_34 : decode cX10_change 34 = .ok (.aload_n 0, 1) := by decide +kernel
theorem dX10_change_35 : decode cX10_change 35 = .ok (.iload_n 1, 1) := by decide +kernel
theorem dX10_change_36 : decode cX10_change 36 = .ok (.iload 4, 2) := by decide +kernel
theorem dX10_change_38 : decode cX10_change 38 = .ok (.invokevirtual 284, 3) := by decide +kernel
theorem dX10_change_41 : decode cX10_change 41 = .ok (.invokevirtual 272, 3) := by decide +kernel
theorem dX10_change_44 : decode cX10_change 44 = .ok (.iload_n 2, 1) := by decide +kernel
theorem dX10_change_45 : decode cX10_change 45 = .ok (.iconst 2, 1) := by decide +kernel
theorem dX10_change_46 : decode cX10_change 46 = .ok (.if_icmp .ne 7, 3) := by decide +kernel
theorem dX10_change_49 : decode cX10_change 49 = .ok (.iconst 5, 1) := by decide +kernel
theorem dX10_change_50 : decode cX10_change 50 = .ok (.goto 16, 3) := by decide +kernel
theorem dX10_change_53 : decode cX10_change 53 = .ok (.iload_n 2, 1) := by decide +kernel
theorem dX10_change_54 : decode cX10_change 54 = .ok (.bipush 6, 2) := by decide +kernel
theorem dX10_change_56 : decode cX10_change 56 = .ok (.if_icmp .ne 8, 3) := by decide +kernel
theorem dX10_change_59 : decode cX10_change 59 = .ok (.bipush 7, 2) := by decide +kernel
theorem dX10_change_61 : decode cX10_change 61 = .ok (.goto 5, 3) := by decide +kernel
theorem dX10_change_64 : decode cX10_change 64 = .ok (.bipush 6, 2) := by decide +kernel
theorem dX10_change_66 : decode cX10_change 66 = .ok (.ireturn, 1) := by decide +kernel
theorem dX10_doTwo_0 : decode cX10_doTwo 0 = .ok (.iload_n 1, 1) := by decide +kernel
theorem dX10_doTwo_1 : decode cX10_doTwo 1 = .ok (.iconst 4, 1) := by decide +kernel
theorem dX10_doTwo_2 : decode cX10_doTwo 2 = .ok (.if_icmp .eq 8, 3) := by decide +kernel
theorem dX10_doTwo_5 : decode cX10_doTwo 5 = .ok (.iload_n 1, 1) := by decide +kernel
theorem dX10_doTwo_6 : decode cX10_doTwo 6 = .ok (.iconst 5, 1) := by decide +kernel
theorem dX10_doTwo_7 : decode cX10_doTwo 7 = .ok (.if_icmp .ne 7, 3) := by decide +kernel
theorem dX10_doTwo_10 : decode cX10_doTwo 10 = .ok (.iconst 1, 1) := by decide +kernel
theorem dX10_doTwo_11 : decode cX10_doTwo 11 = .ok (.goto 4, 3) := by decide +kernel
theorem dX10_doTwo_14 : decode cX10_doTwo 14 = .ok (.iconst 0, 1) := by decide +kernel
theorem dX10_doTwo_15 : decode cX10_doTwo 15 = .ok (.istore_n 3, 1) := by decide +kernel
theorem dX10_doTwo_16 : decode cX10_doTwo 16 = .ok (.iload_n 2, 1) := by decide +kernel
theorem dX10_doTwo_17 : decode cX10_doTwo 17 = .ok (.ifCond .ne 18, 3) := by decide +kernel
theorem dX10_doTwo_20 : decode cX10_doTwo 20 = .ok (.iload_n 1, 1) := by decide +kernel
theorem dX10_doTwo_21 : decode cX10_doTwo 21 = .ok (.iconst 5, 1) := by decide +kernel
theorem dX10_doTwo_22 : decode cX10_doTwo 22 = .ok (.if_icmp .ne 11, 3) := by decide +kernel
theorem dX10_doTwo_25 : decode cX10_doTwo 25 = .ok (.aload_n 0, 1) := by decide +kernel
theorem dX10_doTwo_26 : decode cX10_doTwo 26 = .ok (.iconst 1, 1) := by decide +kernel
theorem dX10_doTwo_27 : decode cX10_doTwo 27 = .ok (.invokevirtual 287, 3) := by decide +kernel
theorem dX10_doTwo_30 : decode cX10_doTwo 30 = .ok (.goto 4, 3) := by decide +kernel
theorem dX10_doTwo_33 : decode cX10_doTwo 33 = .ok (.iconst (-1), 1) := by decide +kernel
theorem dX10_doTwo_34 : decode cX10_doTwo 34 = .ok (.ireturn, 1) := by decide +kernel
theorem dX10_doTwo_35 : decode cX10_doTwo 35 = .ok (.iload_n 2, 1) := by decide +kernel
theorem dX10_doTwo_36 : decode cX10_doTwo 36 = .ok (.iconst 2, 1) := by decide +kernel
theorem dX10_doTwo_37 : decode cX10_doTwo 37 = .ok (.if_icmp .ne 14, 3) := by decide +kernel
theorem dX10_doTwo_40 : decode cX10_doTwo 40 = .ok (.iload_n 1, 1) := by decide +kernel
theorem dX10_doTwo_41 : decode cX10_doTwo 41 = .ok (.iconst 3, 1) := by decide +kernel
theorem dX10_doTwo_42 : decode cX10_doTwo 42 = .ok (.if_icmp .le 9, 3) := by decide +kernel
theorem dX10_doTwo_45 : decode cX10_doTwo 45 = .ok (.aload_n 0, 1) := by decide +kernel
theorem dX10_doTwo_46 : decode cX10_doTwo 46 = .ok (.iload_n 1, 1) := by decide +kernel
theorem dX10_doTwo_47 : decode cX10_doTwo 47 = .ok (.invokevirtual 290, 3) := by decide +kernel
theorem dX10_doTwo_50 : decode cX10_doTwo 50 = .ok (.ireturn, 1) := by decide +kernel
theorem dX10_doTwo_51 : decode cX10_doTwo 51 = .ok (.iload_n 2, 1) := by decide +kernel
theorem dX10_doTwo_52 : decode cX10_doTwo 52 = .ok (.iconst 4, 1) := by decide +kernel
theorem dX10_doTwo_53 : decode cX10_doTwo 53 = .ok (.if_icmp .eq 13, 3) := by decide +kernel
theorem dX10_doTwo_56 : decode cX10_doTwo 56 = .ok (.iload_n 2, 1) := by decide +kernel
theorem dX10_doTwo_57 : decode cX10_doTwo 57 = .ok (.bipush 6, 2) := by decide +kernel
theorem dX10_doTwo_59 : decode cX10_doTwo 59 = .ok (.if_icmp .ne 9, 3) := by decide +kernel
theorem dX10_doTwo_62 : decode cX10_doTwo 62 = .ok (.iload_n 3, 1) := by decide +kernel
theorem dX10_doTwo_63 : decode cX10_doTwo 63 = .ok (.ifCond .ne 5, 3) := by decide +kernel
theorem dX10_doTwo_66 : decode cX10_doTwo 66 = .ok (.iconst (-1), 1) := by decide +kernel
theorem dX10_doTwo_67 : decode cX10_doTwo 67 = .ok (.ireturn, 1) := by decide +kernel
theorem dX10_doTwo_68 : decode cX10_doTwo 68 = .ok (.iload_n 2, 1) := by decide +kernel
theorem dX10_doTwo_69 : decode cX10_doTwo 69 = .ok (.bipush 6, 2) := by decide +kernel
theorem dX10_doTwo_71 : decode cX10_doTwo 71 = .ok (.if_icmp .ne 9, 3) := by decide +kernel
theorem dX10_doTwo_74 : decode cX10_doTwo 74 = .ok (.aload_n 0, 1) := by decide +kernel
theorem dX10_doTwo_75 : decode cX10_doTwo 75 = .ok (.iload_n 1, 1) := by decide +kernel
theorem dX10_doTwo_76 : decode cX10_doTwo 76 = .ok (.invokevirtual 293, 3) := by decide +kernel
theorem dX10_doTwo_79 : decode cX10_doTwo 79 = .ok (.ireturn, 1) := by decide +kernel
theorem dX10_doTwo_80 : decode cX10_doTwo 80 = .ok (.iload_n 2, 1) := by decide +kernel
theorem dX10_doTwo_81 : decode cX10_doTwo 81 = .ok (.iconst 1, 1) := by decide +kernel
theorem dX10_doTwo_82 : decode cX10_doTwo 82 = .ok (.if_icmp .ne 7, 3) := by decide +kernel
theorem dX10_doTwo_85 : decode cX10_doTwo 85 = .ok (.iconst 2, 1) := by decide +kernel
theorem dX10_doTwo_86 : decode cX10_doTwo 86 = .ok (.goto 49, 3) := by decide +kernel
theorem dX10_doTwo_89 : decode cX10_doTwo 89 = .ok (.iload_n 2, 1) := by decide +kernel
theorem dX10_doTwo_90 : decode cX10_doTwo 90 = .ok (.iconst 2, 1) := by decide +kernel
theorem dX10_doTwo_91 : decode cX10_doTwo 91 = .ok (.if_icmp .ne 7, 3) := by decide +kernel
theorem dX10_doTwo_94 : decode cX10_doTwo 94 = .ok (.iconst 0, 1) := by decide +kernel
theorem dX10_doTwo_95 : decode cX10_doTwo 95 = .ok (.goto 40, 3) := by decide +kernel
theorem dX10_doTwo_98 : decode cX10_doTwo 98 = .ok (.iload_n 2, 1) := by decide +kernel
theorem dX10_doTwo_99 : decode cX10_doTwo 99 = .ok (.iconst 3, 1) := by decide +kernel
theorem dX10_doTwo_100 : decode cX10_doTwo 100 = .ok (.if_icmp .ne 7, 3) := by decide +kernel
theorem dX10_doTwo_103 : decode cX10_doTwo 103 = .ok (.iconst 5, 1) := by decide +kernel
theorem dX10_doTwo_104 : decode cX10_doTwo 104 = .ok (.goto 31, 3) := by decide +kernel
theorem dX10_doTwo_107 : decode cX10_doTwo 107 = .ok (.iload_n 2, 1) := by decide +kernel
theorem dX10_doTwo_108 : decode cX10_doTwo 108 = .ok (.iconst 5, 1) := by decide +kernel
theorem dX10_doTwo_109 : decode cX10_doTwo 109 = .ok (.if_icmp .ne 15, 3) := by decide +kernel
theorem dX10_doTwo_112 : decode cX10_doTwo 112 = .ok (.iload_n 3, 1) := by decide +kernel
theorem dX10_doTwo_113 : decode cX10_doTwo 113 = .ok (.ifCond .eq 7, 3) := by decide +kernel
theorem dX10_doTwo_116 : decode cX10_doTwo 116 = .ok (.iconst 4, 1) := by decide +kernel
theorem dX10_doTwo_117 : decode cX10_doTwo 117 = .ok (.goto 18, 3) := by decide +kernel
theorem dX10_doTwo_120 : decode cX10_doTwo 120 = .ok (.iconst 3, 1) := by decide +kernel
theorem dX10_doTwo_121 : decode cX10_doTwo 121 = .ok (.goto 14, 3) := by decide +kernel
theorem dX10_doTwo_124 : decode cX10_doTwo 124 = .ok (.iload_n 3, 1) := by decide +kernel
theorem dX10_doTwo_125 : decode cX10_doTwo 125 = .ok (.ifCond .eq 8, 3) := by decide +kernel
theorem dX10_doTwo_128 : decode cX10_doTwo 128 = .ok (.bipush 7, 2) := by decide +kernel
theorem dX10_doTwo_130 : decode cX10_doTwo 130 = .ok (.goto 5, 3) := by decide +kernel
theorem dX10_doTwo_133 : decode cX10_doTwo 133 = .ok (.bipush 6, 2) := by decide +kernel
theorem dX10_doTwo_135 : decode cX10_doTwo 135 = .ok (.istore 4, 2) := by decide +kernel
theorem dX10_doTwo_137 : decode cX10_doTwo 137 = .ok (.iload_n 1, 1) := by decide +kernel
theorem dX10_doTwo_138 : decode cX10_doTwo 138 = .ok (.iconst 5, 1) := by decide +kernel
theorem dX10_doTwo_139 : decode cX10_doTwo 139 = .ok (.if_icmp .ne 10, 3) := by decide +kernel
theorem dX10_doTwo_142 : decode cX10_doTwo 142 = .ok (.aload_n 0, 1) := by decide +kernel
theorem dX10_doTwo_143 : decode cX10_doTwo 143 = .ok (.iload 4, 2) := by decide +kernel
theorem dX10_doTwo_145 : decode cX10_doTwo 145 = .ok (.invokevirtual 287, 3) := by decide +kernel
theorem dX10_doTwo_148 : decode cX10_doTwo 148 = .ok (.ireturn, 1) := by decide +kernel
theorem dX10_doTwo_149 : decode cX10_doTwo 149 = .ok (.iload_n 1, 1) := by decide +kernel
theorem dX10_doTwo_150 : decode cX10_doTwo 150 = .ok (.iconst 4, 1) := by decide +kernel
theorem dX10_doTwo_151 : decode cX10_doTwo 151 = .ok (.if_icmp .ne 11, 3) := by decide +kernel
theorem dX10_doTwo_154 : decode cX10_doTwo 154 = .ok (.iload_n 2, 1) := by decide +kernel
theorem dX10_doTwo_155 : decode cX10_doTwo 155 = .ok (.bipush 7, 2) := by decide +kernel
theorem dX10_doTwo_157 : decode cX10_doTwo 157 = .ok (.if_icmp .ne 5, 3) := by decide +kernel
theorem dX10_doTwo_160 : decode cX10_doTwo 160 = .ok (.iconst (-1), 1) := by decide +kernel
theorem dX10_doTwo_161 : decode cX10_doTwo 161 = .ok (.ireturn, 1) := by decide +kernel
theorem dX10_doTwo_162 : decode cX10_doTwo 162 = .ok (.iload_n 1, 1) := by decide +kernel
theorem dX10_doTwo_163 : decode cX10_doTwo 163 = .ok (.iconst 4, 1) := by decide +kernel
theorem dX10_doTwo_164 : decode cX10_doTwo 164 = .ok (.if_icmp .eq 11, 3) := by decide +kernel
theorem dX10_doTwo_167 : decode cX10_doTwo 167 = .ok (.aload_n 0, 1) := by decide +kernel
theorem dX10_doTwo_168 : decode cX10_doTwo 168 = .ok (.iload_n 1, 1) := by decide +kernel
theorem dX10_doTwo_169 : decode cX10_doTwo 169 = .ok (.iload 4, 2) := by decide +kernel
theorem dX10_doTwo_171 : decode cX10_doTwo 171 = .ok (.invokevirtual 296, 3) := by decide +kernel
theorem dX10_doTwo_174 : decode cX10_doTwo 174 = .ok (.ireturn, 1) := by decide +kernel
theorem dX10_doTwo_175 : decode cX10_doTwo 175 = .ok (.aload_n 0, 1) := by decide +kernel
theorem dX10_doTwo_176 : decode cX10_doTwo 176 = .ok (.aload_n 0, 1) := by decide +kernel
theorem dX10_doTwo_177 : decode cX10_doTwo 177 = .ok (.iload 4, 2) := by decide +kernel
theorem dX10_doTwo_179 : decode cX10_doTwo 179 = .ok (.invokevirtual 269, 3) := by decide +kernel
theorem dX10_doTwo_182 : decode cX10_doTwo 182 = .ok (.aload_n 0, 1) := by decide +kernel
theorem dX10_doTwo_183 : decode cX10_doTwo 183 = .ok (.getfield 244, 3) := by decide +kernel
theorem dX10_doTwo_186 : decode cX10_doTwo 186 = .ok (.invokevirtual 272, 3) := by decide +kernel
theorem dX10_doTwo_189 : decode cX10_doTwo 189 = .ok (.iload 4, 2) := by decide +kernel
theorem dX10_doTwo_191 : decode cX10_doTwo 191 = .ok (.invokestatic 275, 3) := by decide +kernel
theorem dX10_doTwo_194 : decode cX10_doTwo 194 = .ok (.ireturn, 1) := by decide +kernel
theorem dX10_loadX_0 : decode cX10_loadX 0 = .ok (.aload_n 0, 1) := by decide +kernel
theorem dX10_loadX_1 : decode cX10_loadX 1 = .ok (.iload_n 1, 1) := by decide +kernel
theorem dX10_loadX_2 : decode cX10_loadX 2 = .ok (.invokevirtual 269, 3) := by decide +kernel
theorem dX10_loadX_5 : decode cX10_loadX 5 = .ok (.istore_n 2, 1) := by decide +kernel
theorem dX10_loadX_6 : decode cX10_loadX 6 = .ok (.aload_n 0, 1) := by decide +kernel
theorem dX10_loadX_7 : decode cX10_loadX 7 = .ok (.aload_n 0, 1) := by decide +kernel
theorem dX10_loadX_8 : decode cX10_loadX 8 = .ok (.aload_n 0, 1) := by decide +kernel
theorem dX10_loadX_9 : decode cX10_loadX 9 = .ok (.iload_n 2, 1) := by decide +kernel
theorem dX10_loadX_10 : decode cX10_loadX 10 = .ok (.invokevirtual 172, 3) := by decide +kernel
theorem dX10_loadX_13 : decode cX10_loadX 13 = .ok (.invokevirtual 263, 3) := by decide +kernel
theorem dX10_loadX_16 : decode cX10_loadX 16 = .ok (.putfield 244, 3) := by decide +kernel
theorem dX10_loadX_19 : decode cX10_loadX 19 = .ok (.iload_n 1, 1) := by decide +kernel
theorem dX10_loadX_20 : decode cX10_loadX 20 = .ok (.invokestatic 275, 3) := by decide +kernel
theorem dX10_loadX_23 : decode cX10_loadX 23 = .ok (.aload_n 0, 1) := by decide +kernel
theorem dX10_loadX_24 : decode cX10_loadX 24 = .ok (.getfield 260, 3) := by decide +kernel
theorem dX10_loadX_27 : decode cX10_loadX 27 = .ok (.ifCond .eq 7, 3) := by decide +kernel
theorem dX10_loadX_30 : decode cX10_loadX 30 = .ok (.iconst 1, 1) := by decide +kernel
theorem dX10_loadX_31 : decode cX10_loadX 31 = .ok (.goto 4, 3) := by decide +kernel
theorem dX10_loadX_34 : decode cX10_loadX 34 = .ok (.iconst 0, 1) := by decide +kernel
theorem dX10_loadX_35 : decode cX10_loadX 35 = .ok (.iadd, 1) := by decide +kernel
theorem dX10_loadX_36 : decode cX10_loadX 36 = .ok (.ireturn, 1) := by decide +kernel
theorem dX10_moved_0 : decode cX10_moved 0 = .ok (.iload_n 1, 1) := by decide +kernel
theorem dX10_moved_1 : decode cX10_moved 1 = .ok (.iconst 4, 1) := by decide +kernel
theorem dX10_moved_2 : decode cX10_moved 2 = .ok (.if_icmp .ne 15, 3) := by decide +kernel
theorem dX10_moved_5 : decode cX10_moved 5 = .ok (.aload_n 0, 1) := by decide +kernel
theorem dX10_moved_6 : decode cX10_moved 6 = .ok (.aload_n 0, 1) := by decide +kernel
theorem dX10_moved_7 : decode cX10_moved 7 = .ok (.aload_n 0, 1) := by decide +kernel
theorem dX10_moved_8 : decode cX10_moved 8 = .ok (.getfield 244, 3) := by decide +kernel
theorem dX10_moved_11 : decode cX10_moved 11 = .ok (.invokevirtual 263, 3) := by decide +kernel
theorem dX10_moved_14 : decode cX10_moved 14 = .ok (.putfield 266, 3) := by decide +kernel
theorem dX10_moved_17 : decode cX10_moved 17 = .ok (.iload_n 1, 1) := by decide +kernel
theorem dX10_moved_18 : decode cX10_moved 18 = .ok (.iconst 5, 1) := by decide +kernel
theorem dX10_moved_19 : decode cX10_moved 19 = .ok (.if_icmp .ne 15, 3) := by decide +kernel
theorem dX10_moved_22 : decode cX10_moved 22 = .ok (.aload_n 0, 1) := by decide +kernel
theorem dX10_moved_23 : decode cX10_moved 23 = .ok (.aload_n 0, 1) := by decide +kernel
theorem dX10_moved_24 : decode cX10_moved 24 = .ok (.aload_n 0, 1) := by decide +kernel
theorem dX10_moved_25 : decode cX10_moved 25 = .ok (.getfield 266, 3) := by decide +kernel
theorem dX10_moved_28 : decode cX10_moved 28 = .ok (.invokevirtual 263, 3) := by decide +kernel
theorem dX10_moved_31 : decode cX10_moved 31 = .ok (.putfield 244, 3) := by decide +kernel
theorem dX10_moved_34 : decode cX10_moved 34 = .ok (.iload_n 1, 1) := by decide +kernel
theorem dX10_moved_35 : decode cX10_moved 35 = .ok (.bipush 6, 2) := by decide +kernel
theorem dX10_moved_37 : decode cX10_moved 37 = .ok (.if_icmp .ne 21, 3) := by decide +kernel
theorem dX10_moved_40 : decode cX10_moved 40 = .ok (.aload_n 0, 1) := by decide +kernel
theorem dX10_moved_41 : decode cX10_moved 41 = .ok (.aload_n 0, 1) := by decide +kernel
theorem dX10_moved_42 : decode cX10_moved 42 = .ok (.aload_n 0, 1) := by decide +kernel
theorem dX10_moved_43 : decode cX10_moved 43 = .ok (.getfield 244, 3) := by decide +kernel
theorem dX10_moved_46 : decode cX10_moved 46 = .ok (.iconst 1, 1) := by decide +kernel
theorem dX10_moved_47 : decode cX10_moved 47 = .ok (.isub, 1) := by decide +kernel
theorem dX10_moved_48 : decode cX10_moved 48 = .ok (.sipush 255, 3) := by decide +kernel
theorem dX10_moved_51 : decode cX10_moved 51 = .ok (.iand, 1) := by decide +kernel
theorem dX10_moved_52 : decode cX10_moved 52 = .ok (.invokevirtual 263, 3) := by decide +kernel
theorem dX10_moved_55 : decode cX10_moved 55 = .ok (.putfield 244, 3) := by decide +kernel
theorem dX10_moved_58 : decode cX10_moved 58 = .ok (.iconst 2, 1) := by decide +kernel
theorem dX10_moved_59 : decode cX10_moved 59 = .ok (.ireturn, 1) := by decide +kernel
theorem dX10_stackPointer_0 : decode cX10_stackPointer 0 = .ok (.iload_n 1, 1) := by decide +kernel
theorem dX10_stackPointer_1 : decode cX10_stackPointer 1 = .ok (.iconst 4, 1) := by decide +kernel
theorem dX10_stackPointer_2 : decode cX10_stackPointer 2 = .ok (.if_icmp .ne 14, 3) := by decide +kernel
theorem dX10_stackPointer_5 : decode cX10_stackPointer 5 = .ok (.aload_n 0, 1) := by decide +kernel
theorem dX10_stackPointer_6 : decode cX10_stackPointer 6 = .ok (.aload_n 0, 1) := by decide +kernel
theorem dX10_stackPointer_7 : decode cX10_stackPointer 7 = .ok (.getfield 244, 3) := by decide +kernel
theorem dX10_stackPointer_10 : decode cX10_stackPointer 10 = .ok (.putfield 225, 3) := by decide +kernel
theorem dX10_stackPointer_13 : decode cX10_stackPointer 13 = .ok (.goto 15, 3) := by decide +kernel
theorem dX10_stackPointer_16 : decode cX10_stackPointer 16 = .ok (.aload_n 0, 1) := by decide +kernel
theorem dX10_stackPointer_17 : decode cX10_stackPointer 17 = .ok (.aload_n 0, 1) := by decide +kernel
theorem dX10_stackPointer_18 : decode cX10_stackPointer 18 = .ok (.aload_n 0, 1) := by decide +kernel
theorem dX10_stackPointer_19 : decode cX10_stackPointer 19 = .ok (.getfield 225, 3) := by decide +kernel
theorem dX10_stackPointer_22 : decode cX10_stackPointer 22 = .ok (.invokevirtual 263, 3) := by decide +kernel
theorem dX10_stackPointer_25 : decode cX10_stackPointer 25 = .ok (.putfield 244, 3) := by decide +kernel
theorem dX10_stackPointer_28 : decode cX10_stackPointer 28 = .ok (.iconst 2, 1) := by decide +kernel
theorem dX10_stackPointer_29 : decode cX10_stackPointer 29 = .ok (.ireturn, 1) := by decide +kernel
theorem dX10_branch_0 : decode cX10_branch 0 = .ok (.aload_n 0, 1) := by decide +kernel
theorem dX10_branch_1 : decode cX10_branch 1 = .ok (.invokevirtual 221, 3) := by decide +kernel
theorem dX10_branch_4 : decode cX10_branch 4 = .ok (.istore_n 2, 1) := by decide +kernel
theorem dX10_branch_5 : decode cX10_branch 5 = .ok (.iload_n 1, 1) := by decide +kernel
theorem dX10_branch_6 : decode cX10_branch 6 = .ok (.iconst 2, 1) := by decide +kernel
theorem dX10_branch_7 : decode cX10_branch 7 = .ok (.if_icmp .ge 9, 3) := by decide +kernel
theorem dX10_branch_10 : decode cX10_branch 10 = .ok (.sipush 128, 3) := by decide +kernel
theorem dX10_branch_13 : decode cX10_branch 13 = .ok (.goto 24, 3) := by decide +kernel
theorem dX10_branch_16 : decode cX10_branch 16 = .ok (.iload_n 1, 1) := by decide +kernel
theorem dX10_branch_17 : decode cX10_branch 17 = .ok (.iconst 4, 1) := by decide +kernel
theorem dX10_branch_18 : decode cX10_branch 18 = .ok (.if_icmp .ge 8, 3) := by decide +kernel
theorem dX10_branch_21 : decode cX10_branch 21 = .ok (.bipush 64, 2) := by decide +kernel
theorem dX10_branch_23 : decode cX10_branch 23 = .ok (.goto 14, 3) := by decide +kernel
theorem dX10_branch_26 : decode cX10_branch 26 = .ok (.iload_n 1, 1) := by decide +kernel
theorem dX10_branch_27 : decode cX10_branch 27 = .ok (.bipush 6, 2) := by decide +kernel
theorem dX10_branch_29 : decode cX10_branch 29 = .ok (.if_icmp .ge 7, 3) := by decide +kernel
theorem dX10_branch_32 : decode cX10_branch 32 = .ok (.iconst 1, 1) := by decide +kernel
theorem dX10_branch_33 : decode cX10_branch 33 = .ok (.goto 4, 3) := by decide +kernel
theorem dX10_branch_36 : decode cX10_branch 36 = .ok (.iconst 2, 1) := by decide +kernel
theorem dX10_branch_37 : decode cX10_branch 37 = .ok (.istore_n 3, 1) := by decide +kernel
theorem dX10_branch_38 : decode cX10_branch 38 = .ok (.aload_n 0, 1) := by decide +kernel
theorem dX10_branch_39 : decode cX10_branch 39 = .ok (.getfield 22, 3) := by decide +kernel
theorem dX10_branch_42 : decode cX10_branch 42 = .ok (.iload_n 3, 1) := by decide +kernel
theorem dX10_branch_43 : decode cX10_branch 43 = .ok (.iand, 1) := by decide +kernel
theorem dX10_branch_44 : decode cX10_branch 44 = .ok (.ifCond .eq 7, 3) := by decide +kernel
theorem dX10_branch_47 : decode cX10_branch 47 = .ok (.iconst 1, 1) := by decide +kernel
theorem dX10_branch_48 : decode cX10_branch 48 = .ok (.goto 4, 3) := by decide +kernel
theorem dX10_branch_51 : decode cX10_branch 51 = .ok (.iconst 0, 1) := by decide +kernel
theorem dX10_branch_52 : decode cX10_branch 52 = .ok (.iload_n 1, 1) := by decide +kernel
theorem dX10_branch_53 : decode cX10_branch 53 = .ok (.iconst 1, 1) := by decide +kernel
theorem dX10_branch_54 : decode cX10_branch 54 = .ok (.iand, 1) := by decide +kernel
theorem dX10_branch_55 : decode cX10_branch 55 = .ok (.iconst 1, 1) := by decide +kernel
theorem dX10_branch_56 : decode cX10_branch 56 = .ok (.if_icmp .ne 7, 3) := by decide +kernel
theorem dX10_branch_59 : decode cX10_branch 59 = .ok (.iconst 1, 1) := by decide +kernel
theorem dX10_branch_60 : decode cX10_branch 60 = .ok (.goto 4, 3) := by decide +kernel
theorem dX10_branch_63 : decode cX10_branch 63 = .ok (.iconst 0, 1) := by decide +kernel
theorem dX10_branch_64 : decode cX10_branch 64 = .ok (.if_icmp .eq 5, 3) := by decide +kernel
theorem dX10_branch_67 : decode cX10_branch 67 = .ok (.iconst 2, 1) := by decide +kernel
theorem dX10_branch_68 : decode cX10_branch 68 = .ok (.ireturn, 1) := by decide +kernel
theorem dX10_branch_69 : decode cX10_branch 69 = .ok (.aload_n 0, 1) := by decide +kernel
theorem dX10_branch_70 : decode cX10_branch 70 = .ok (.getfield 218, 3) := by decide +kernel
theorem dX10_branch_73 : decode cX10_branch 73 = .ok (.istore 4, 2) := by decide +kernel
theorem dX10_branch_75 : decode cX10_branch 75 = .ok (.aload_n 0, 1) := by decide +kernel
theorem dX10_branch_76 : decode cX10_branch 76 = .ok (.aload_n 0, 1) := by decide +kernel
theorem dX10_branch_77 : decode cX10_branch 77 = .ok (.getfield 218, 3) := by decide +kernel
theorem dX10_branch_80 : decode cX10_branch 80 = .ok (.iload_n 2, 1) := by decide +kernel
theorem dX10_branch_81 : decode cX10_branch 81 = .ok (.sipush 128, 3) := by decide +kernel
theorem dX10_branch_84 : decode cX10_branch 84 = .ok (.if_icmp .ge 7, 3) := by decide +kernel
theorem dX10_branch_87 : decode cX10_branch 87 = .ok (.iload_n 2, 1) := by decide +kernel
theorem dX10_branch_88 : decode cX10_branch 88 = .ok (.goto 8, 3) := by decide +kernel
theorem dX10_branch_91 : decode cX10_branch 91 = .ok (.iload_n 2, 1) := by decide +kernel
theorem dX10_branch_92 : decode cX10_branch 92 = .ok (.sipush 256, 3) := by decide +kernel
theorem dX10_branch_95 : decode cX10_branch 95 = .ok (.isub, 1) := by decide +kernel
theorem dX10_branch_96 : decode cX10_branch 96 = .ok (.iadd, 1) := by decide +kernel
theorem dX10_branch_97 : decode cX10_branch 97 = .ok (.ldc 204, 2) := by decide +kernel
theorem dX10_branch_99 : decode cX10_branch 99 = .ok (.iand, 1) := by decide +kernel
theorem dX10_branch_100 : decode cX10_branch 100 = .ok (.putfield 218, 3) := by decide +kernel
theorem dX10_branch_103 : decode cX10_branch 103 = .ok (.aload_n 0, 1) := by decide +kernel
theorem dX10_branch_104 : decode cX10_branch 104 = .ok (.getfield 218, 3) := by decide +kernel
theorem dX10_branch_107 : decode cX10_branch 107 = .ok (.iload 4, 2) := by decide +kernel
theorem dX10_branch_109 : decode cX10_branch 109 = .ok (.ixor, 1) := by decide +kernel
theorem dX10_branch_110 : decode cX10_branch 110 = .ok (.sipush 255, 3) := by decide +kernel
theorem dX10_branch_113 : decode cX10_branch 113 = .ok (.if_icmp .le 7, 3) := by decide +kernel
theorem dX10_branch_116 : decode cX10_branch 116 = .ok (.iconst 4, 1) := by decide +kernel
theorem dX10_branch_117 : decode cX10_branch 117 = .ok (.goto 4, 3) := by decide +kernel
theorem dX10_branch_120 : decode cX10_branch 120 = .ok (.iconst 3, 1) := by decide +kernel
theorem dX10_branch_121 : decode cX10_branch 121 = .ok (.ireturn, 1) := by decide +kernel
theorem dX10_stacked_0 : decode cX10_stacked 0 = .ok (.iload_n 1, 1) := by decide +kernel
theorem dX10_stacked_1 : decode cX10_stacked 1 = .ok (.tableswitch 150 0 6 #[43, 56, 72, 82, 96, 116, 130], 43) := by decide +kernel
theorem dX10_stacked_44 : decode cX10_stacked 44 = .ok (.aload_n 0, 1) := by decide +kernel
theorem dX10_stacked_45 : decode cX10_stacked 45 = .ok (.aload_n 0, 1) := by decide +kernel
theorem dX10_stacked_46 : decode cX10_stacked 46 = .ok (.getfield 22, 3) := by decide +kernel
theorem dX10_stacked_49 : decode cX10_stacked 49 = .ok (.bipush 16, 2) := by decide +kernel
theorem dX10_stacked_51 : decode cX10_stacked 51 = .ok (.ior, 1) := by decide +kernel
theorem dX10_stacked_52 : decode cX10_stacked 52 = .ok (.invokevirtual 228, 3) := by decide +kernel
theorem dX10_stacked_55 : decode cX10_stacked 55 = .ok (.iconst 3, 1) := by decide +kernel
theorem dX10_stacked_56 : decode cX10_stacked 56 = .ok (.ireturn, 1) := by decide +kernel
theorem dX10_stacked_57 : decode cX10_stacked 57 = .ok (.aload_n 0, 1) := by decide +kernel
theorem dX10_stacked_58 : decode cX10_stacked 58 = .ok (.aload_n 0, 1) := by decide +kernel
theorem dX10_stacked_59 : decode cX10_stacked 59 = .ok (.invokevirtual 231, 3) := by decide +kernel
theorem dX10_stacked_62 : decode cX10_stacked 62 = .ok (.bipush (-17), 2) := by decide +kernel
theorem dX10_stacked_64 : decode cX10_stacked 64 = .ok (.iand, 1) := by decide +kernel
theorem dX10_stacked_65 : decode cX10_stacked 65 = .ok (.bipush 32, 2) := by decide +kernel
theorem dX10_stacked_67 : decode cX10_stacked 67 = .ok (.ior, 1) := by decide +kernel
theorem dX10_stacked_68 : decode cX10_stacked 68 = .ok (.putfield 22, 3) := by decide +kernel
theorem dX10_stacked_71 : decode cX10_stacked 71 = .ok (.iconst 4, 1) := by decide +kernel
theorem dX10_stacked_72 : decode cX10_stacked 72 = .ok (.ireturn, 1) := by decide +kernel
theorem dX10_stacked_73 : decode cX10_stacked 73 = .ok (.aload_n 0, 1) := by decide +kernel
theorem dX10_stacked_74 : decode cX10_stacked 74 = .ok (.aload_n 0, 1) := by decide +kernel
theorem dX10_stacked_75 : decode cX10_stacked 75 = .ok (.getfield 266, 3) := by decide +kernel
theorem dX10_stacked_78 : decode cX10_stacked 78 = .ok (.invokevirtual 228, 3) := by decide +kernel
theorem dX10_stacked_81 : decode cX10_stacked 81 = .ok (.iconst 3, 1) := by decide +kernel
theorem dX10_stacked_82 : decode cX10_stacked 82 = .ok (.ireturn, 1) := by decide +kernel
theorem dX10_stacked_83 : decode cX10_stacked 83 = .ok (.aload_n 0, 1) := by decide +kernel
theorem dX10_stacked_84 : decode cX10_stacked 84 = .ok (.aload_n 0, 1) := by decide +kernel
theorem dX10_stacked_85 : decode cX10_stacked 85 = .ok (.aload_n 0, 1) := by decide +kernel
theorem dX10_stacked_86 : decode cX10_stacked 86 = .ok (.invokevirtual 231, 3) := by decide +kernel
theorem dX10_stacked_89 : decode cX10_stacked 89 = .ok (.invokevirtual 263, 3) := by decide +kernel
theorem dX10_stacked_92 : decode cX10_stacked 92 = .ok (.putfield 266, 3) := by decide +kernel
theorem dX10_stacked_95 : decode cX10_stacked 95 = .ok (.iconst 4, 1) := by decide +kernel
theorem dX10_stacked_96 : decode cX10_stacked 96 = .ok (.ireturn, 1) := by decide +kernel
theorem dX10_stacked_97 : decode cX10_stacked 97 = .ok (.aload_n 0, 1) := by decide +kernel
theorem dX10_stacked_98 : decode cX10_stacked 98 = .ok (.aload_n 0, 1) := by decide +kernel
theorem dX10_stacked_99 : decode cX10_stacked 99 = .ok (.aload_n 0, 1) := by decide +kernel
theorem dX10_stacked_100 : decode cX10_stacked 100 = .ok (.getfield 247, 3) := by decide +kernel
theorem dX10_stacked_103 : decode cX10_stacked 103 = .ok (.iconst 1, 1) := by decide +kernel
theorem dX10_stacked_104 : decode cX10_stacked 104 = .ok (.isub, 1) := by decide +kernel
theorem dX10_stacked_105 : decode cX10_stacked 105 = .ok (.sipush 255, 3) := by decide +kernel
theorem dX10_stacked_108 : decode cX10_stacked 108 = .ok (.iand, 1) := by decide +kernel
theorem dX10_stacked_109 : decode cX10_stacked 109 = .ok (.invokevirtual 263, 3) := by decide +kernel
theorem dX10_stacked_112 : decode cX10_stacked 112 = .ok (.putfield 247, 3) := by decide +kernel
theorem dX10_stacked_115 : decode cX10_stacked 115 = .ok (.iconst 2, 1) := by decide +kernel
theorem dX10_stacked_116 : decode cX10_stacked 116 = .ok (.ireturn, 1) := by decide +kernel
theorem dX10_stacked_117 : decode cX10_stacked 117 = .ok (.aload_n 0, 1) := by decide +kernel
theorem dX10_stacked_118 : decode cX10_stacked 118 = .ok (.aload_n 0, 1) := by decide +kernel
theorem dX10_stacked_119 : decode cX10_stacked 119 = .ok (.aload_n 0, 1) := by decide +kernel
theorem dX10_stacked_120 : decode cX10_stacked 120 = .ok (.getfield 266, 3) := by decide +kernel
theorem dX10_stacked_123 : decode cX10_stacked 123 = .ok (.invokevirtual 263, 3) := by decide +kernel
theorem dX10_stacked_126 : decode cX10_stacked 126 = .ok (.putfield 247, 3) := by decide +kernel
theorem dX10_stacked_129 : decode cX10_stacked 129 = .ok (.iconst 2, 1) := by decide +kernel
theorem dX10_stacked_130 : decode cX10_stacked 130 = .ok (.ireturn, 1) := by decide +kernel
theorem dX10_stacked_131 : decode cX10_stacked 131 = .ok (.aload_n 0, 1) := by decide +kernel
theorem dX10_stacked_132 : decode cX10_stacked 132 = .ok (.aload_n 0, 1) := by decide +kernel
theorem dX10_stacked_133 : decode cX10_stacked 133 = .ok (.aload_n 0, 1) := by decide +kernel
theorem dX10_stacked_134 : decode cX10_stacked 134 = .ok (.getfield 247, 3) := by decide +kernel
theorem dX10_stacked_137 : decode cX10_stacked 137 = .ok (.iconst 1, 1) := by decide +kernel
theorem dX10_stacked_138 : decode cX10_stacked 138 = .ok (.iadd, 1) := by decide +kernel
theorem dX10_stacked_139 : decode cX10_stacked 139 = .ok (.sipush 255, 3) := by decide +kernel
theorem dX10_stacked_142 : decode cX10_stacked 142 = .ok (.iand, 1) := by decide +kernel
theorem dX10_stacked_143 : decode cX10_stacked 143 = .ok (.invokevirtual 263, 3) := by decide +kernel
theorem dX10_stacked_146 : decode cX10_stacked 146 = .ok (.putfield 247, 3) := by decide +kernel
theorem dX10_stacked_149 : decode cX10_stacked 149 = .ok (.iconst 2, 1) := by decide +kernel
theorem dX10_stacked_150 : decode cX10_stacked 150 = .ok (.ireturn, 1) := by decide +kernel
theorem dX10_stacked_151 : decode cX10_stacked 151 = .ok (.aload_n 0, 1) := by decide +kernel
theorem dX10_stacked_152 : decode cX10_stacked 152 = .ok (.aload_n 0, 1) := by decide +kernel
theorem dX10_stacked_153 : decode cX10_stacked 153 = .ok (.aload_n 0, 1) := by decide +kernel
theorem dX10_stacked_154 : decode cX10_stacked 154 = .ok (.getfield 244, 3) := by decide +kernel
theorem dX10_stacked_157 : decode cX10_stacked 157 = .ok (.iconst 1, 1) := by decide +kernel
theorem dX10_stacked_158 : decode cX10_stacked 158 = .ok (.iadd, 1) := by decide +kernel
theorem dX10_stacked_159 : decode cX10_stacked 159 = .ok (.sipush 255, 3) := by decide +kernel
theorem dX10_stacked_162 : decode cX10_stacked 162 = .ok (.iand, 1) := by decide +kernel
theorem dX10_stacked_163 : decode cX10_stacked 163 = .ok (.invokevirtual 263, 3) := by decide +kernel
theorem dX10_stacked_166 : decode cX10_stacked 166 = .ok (.putfield 244, 3) := by decide +kernel
theorem dX10_stacked_169 : decode cX10_stacked 169 = .ok (.iconst 2, 1) := by decide +kernel
theorem dX10_stacked_170 : decode cX10_stacked 170 = .ok (.ireturn, 1) := by decide +kernel
theorem dX10_flagged_0 : decode cX10_flagged 0 = .ok (.iload_n 1, 1) := by decide +kernel
theorem dX10_flagged_1 : decode cX10_flagged 1 = .ok (.tableswitch 100 0 5 #[39, 39, 57, 57, 75, 90], 39) := by decide +kernel
theorem dX10_flagged_40 : decode cX10_flagged 40 = .ok (.aload_n 0, 1) := by decide +kernel
theorem dX10_flagged_41 : decode cX10_flagged 41 = .ok (.iconst 1, 1) := by decide +kernel
theorem dX10_flagged_42 : decode cX10_flagged 42 = .ok (.iload_n 1, 1) := by decide +kernel
theorem dX10_flagged_43 : decode cX10_flagged 43 = .ok (.iconst 1, 1) := by decide +kernel
theorem dX10_flagged_44 : decode cX10_flagged 44 = .ok (.if_icmp .ne 7, 3) := by decide +kernel
theorem dX10_flagged_47 : decode cX10_flagged 47 = .ok (.iconst 1, 1) := by decide +kernel
theorem dX10_flagged_48 : decode cX10_flagged 48 = .ok (.goto 4, 3) := by decide +kernel
theorem dX10_flagged_51 : decode cX10_flagged 51 = .ok (.iconst 0, 1) := by decide +kernel
theorem dX10_flagged_52 : decode cX10_flagged 52 = .ok (.invokevirtual 234, 3) := by decide +kernel
theorem dX10_flagged_55 : decode cX10_flagged 55 = .ok (.goto 63, 3) := by decide +kernel
theorem dX10_flagged_58 : decode cX10_flagged 58 = .ok (.aload_n 0, 1) := by decide +kernel
theorem dX10_flagged_59 : decode cX10_flagged 59 = .ok (.iconst 4, 1) := by decide +kernel
theorem dX10_flagged_60 : decode cX10_flagged 60 = .ok (.iload_n 1, 1) := by decide +kernel
theorem dX10_flagged_61 : decode cX10_flagged 61 = .ok (.iconst 3, 1) := by decide +kernel
theorem dX10_flagged_62 : decode cX10_flagged 62 = .ok (.if_icmp .ne 7, 3) := by decide +kernel
theorem dX10_flagged_65 : decode cX10_flagged 65 = .ok (.iconst 1, 1) := by decide +kernel
theorem dX10_flagged_66 : decode cX10_flagged 66 = .ok (.goto 4, 3) := by decide +kernel
theorem dX10_flagged_69 : decode cX10_flagged 69 = .ok (.iconst 0, 1) := by decide +kernel
theorem dX10_flagged_70 : decode cX10_flagged 70 = .ok (.invokevirtual 234, 3) := by decide +kernel
theorem dX10_flagged_73 : decode cX10_flagged 73 = .ok (.goto 45, 3) := by decide +kernel
theorem dX10_flagged_76 : decode cX10_flagged 76 = .ok (.aload_n 0, 1) := by decide +kernel
theorem dX10_flagged_77 : decode cX10_flagged 77 = .ok (.aload_n 0, 1) := by decide +kernel
theorem dX10_flagged_78 : decode cX10_flagged 78 = .ok (.aload_n 0, 1) := by decide +kernel
theorem dX10_flagged_79 : decode cX10_flagged 79 = .ok (.getfield 247, 3) := by decide +kernel
theorem dX10_flagged_82 : decode cX10_flagged 82 = .ok (.invokevirtual 263, 3) := by decide +kernel
theorem dX10_flagged_85 : decode cX10_flagged 85 = .ok (.putfield 266, 3) := by decide +kernel
theorem dX10_flagged_88 : decode cX10_flagged 88 = .ok (.goto 30, 3) := by decide +kernel
theorem dX10_flagged_91 : decode cX10_flagged 91 = .ok (.aload_n 0, 1) := by decide +kernel
theorem dX10_flagged_92 : decode cX10_flagged 92 = .ok (.bipush 64, 2) := by decide +kernel
theorem dX10_flagged_94 : decode cX10_flagged 94 = .ok (.iconst 0, 1) := by decide +kernel
theorem dX10_flagged_95 : decode cX10_flagged 95 = .ok (.invokevirtual 234, 3) := by decide +kernel
theorem dX10_flagged_98 : decode cX10_flagged 98 = .ok (.goto 20, 3) := by decide +kernel
theorem dX10_flagged_101 : decode cX10_flagged 101 = .ok (.aload_n 0, 1) := by decide +kernel
theorem dX10_flagged_102 : decode cX10_flagged 102 = .ok (.bipush 8, 2) := by decide +kernel
theorem dX10_flagged_104 : decode cX10_flagged 104 = .ok (.iload_n 1, 1) := by decide +kernel
theorem dX10_flagged_105 : decode cX10_flagged 105 = .ok (.bipush 7, 2) := by decide +kernel
theorem dX10_flagged_107 : decode cX10_flagged 107 = .ok (.if_icmp .ne 7, 3) := by decide +kernel
theorem dX10_flagged_110 : decode cX10_flagged 110 = .ok (.iconst 1, 1) := by decide +kernel
theorem dX10_flagged_111 : decode cX10_flagged 111 = .ok (.goto 4, 3) := by decide +kernel
theorem dX10_flagged_114 : decode cX10_flagged 114 = .ok (.iconst 0, 1) := by decide +kernel
theorem dX10_flagged_115 : decode cX10_flagged 115 = .ok (.invokevirtual 234, 3) := by decide +kernel
theorem dX10_flagged_118 : decode cX10_flagged 118 = .ok (.iconst 2, 1) := by decide +kernel
theorem dX10_flagged_119 : decode cX10_flagged 119 = .ok (.ireturn, 1) := by decide +kernel
theorem dX10_called_0 : decode cX10_called 0 = .ok (.iload_n 1, 1) := by decide +kernel
theorem dX10_called_1 : decode cX10_called 1 = .ok (.ifCond .ne 33, 3) := by decide +kernel
theorem dX10_called_4 : decode cX10_called 4 = .ok (.aload_n 0, 1) := by decide +kernel
theorem dX10_called_5 : decode cX10_called 5 = .ok (.aload_n 0, 1) := by decide +kernel
theorem dX10_called_6 : decode cX10_called 6 = .ok (.getfield 218, 3) := by decide +kernel
theorem dX10_called_9 : decode cX10_called 9 = .ok (.iconst 1, 1) := by decide +kernel
theorem dX10_called_10 : decode cX10_called 10 = .ok (.iadd, 1) := by decide +kernel
theorem dX10_called_11 : decode cX10_called 11 = .ok (.ldc 204, 2) := by decide +kernel
theorem dX10_called_13 : decode cX10_called 13 = .ok (.iand, 1) := by decide +kernel
theorem dX10_called_14 : decode cX10_called 14 = .ok (.putfield 218, 3) := by decide +kernel
theorem dX10_called_17 : decode cX10_called 17 = .ok (.aload_n 0, 1) := by decide +kernel
theorem dX10_called_18 : decode cX10_called 18 = .ok (.ldc_w 299, 3) := by decide +kernel
theorem dX10_called_21 : decode cX10_called 21 = .ok (.aload_n 0, 1) := by decide +kernel
theorem dX10_called_22 : decode cX10_called 22 = .ok (.getfield 22, 3) := by decide +kernel
theorem dX10_called_25 : decode cX10_called 25 = .ok (.bipush 16, 2) := by decide +kernel
theorem dX10_called_27 : decode cX10_called 27 = .ok (.ior, 1) := by decide +kernel
theorem dX10_called_28 : decode cX10_called 28 = .ok (.invokevirtual 300, 3) := by decide +kernel
theorem dX10_called_31 : decode cX10_called 31 = .ok (.bipush 7, 2) := by decide +kernel
theorem dX10_called_33 : decode cX10_called 33 = .ok (.ireturn, 1) := by decide +kernel
theorem dX10_called_34 : decode cX10_called 34 = .ok (.iload_n 1, 1) := by decide +kernel
theorem dX10_called_35 : decode cX10_called 35 = .ok (.iconst 1, 1) := by decide +kernel
theorem dX10_called_36 : decode cX10_called 36 = .ok (.if_icmp .ne 29, 3) := by decide +kernel
theorem dX10_called_39 : decode cX10_called 39 = .ok (.aload_n 0, 1) := by decide +kernel
theorem dX10_called_40 : decode cX10_called 40 = .ok (.invokevirtual 250, 3) := by decide +kernel
theorem dX10_called_43 : decode cX10_called 43 = .ok (.istore_n 2, 1) := by decide +kernel
theorem dX10_called_44 : decode cX10_called 44 = .ok (.aload_n 0, 1) := by decide +kernel
theorem dX10_called_45 : decode cX10_called 45 = .ok (.aload_n 0, 1) := by decide +kernel
theorem dX10_called_46 : decode cX10_called 46 = .ok (.getfield 218, 3) := by decide +kernel
theorem dX10_called_49 : decode cX10_called 49 = .ok (.iconst 1, 1) := by decide +kernel
theorem dX10_called_50 : decode cX10_called 50 = .ok (.isub, 1) := by decide +kernel
theorem dX10_called_51 : decode cX10_called 51 = .ok (.ldc 204, 2) := by decide +kernel
theorem dX10_called_53 : decode cX10_called 53 = .ok (.iand, 1) := by decide +kernel
theorem dX10_called_54 : decode cX10_called 54 = .ok (.invokevirtual 238, 3) := by decide +kernel
theorem dX10_called_57 : decode cX10_called 57 = .ok (.aload_n 0, 1) := by decide +kernel
theorem dX10_called_58 : decode cX10_called 58 = .ok (.iload_n 2, 1) := by decide +kernel
theorem dX10_called_59 : decode cX10_called 59 = .ok (.putfield 218, 3) := by decide +kernel
theorem dX10_called_62 : decode cX10_called 62 = .ok (.bipush 6, 2) := by decide +kernel
theorem dX10_called_64 : decode cX10_called 64 = .ok (.ireturn, 1) := by decide +kernel
theorem dX10_called_65 : decode cX10_called 65 = .ok (.iload_n 1, 1) := by decide +kernel
theorem dX10_called_66 : decode cX10_called 66 = .ok (.iconst 2, 1) := by decide +kernel
theorem dX10_called_67 : decode cX10_called 67 = .ok (.if_icmp .ne 17, 3) := by decide +kernel
theorem dX10_called_70 : decode cX10_called 70 = .ok (.aload_n 0, 1) := by decide +kernel
theorem dX10_called_71 : decode cX10_called 71 = .ok (.aload_n 0, 1) := by decide +kernel
theorem dX10_called_72 : decode cX10_called 72 = .ok (.invokevirtual 231, 3) := by decide +kernel
theorem dX10_called_75 : decode cX10_called 75 = .ok (.bipush (-17), 2) := by decide +kernel
theorem dX10_called_77 : decode cX10_called 77 = .ok (.iand, 1) := by decide +kernel
theorem dX10_called_78 : decode cX10_called 78 = .ok (.bipush 32, 2) := by decide +kernel
theorem dX10_called_80 : decode cX10_called 80 = .ok (.ior, 1) := by decide +kernel
theorem dX10_called_81 : decode cX10_called 81 = .ok (.putfield 22, 3) := by decide +kernel
theorem dX10_called_84 : decode cX10_called 84 = .ok (.aload_n 0, 1) := by decide +kernel
theorem dX10_called_85 : decode cX10_called 85 = .ok (.aload_n 0, 1) := by decide +kernel
theorem dX10_called_86 : decode cX10_called 86 = .ok (.invokevirtual 303, 3) := by decide +kernel
theorem dX10_called_89 : decode cX10_called 89 = .ok (.putfield 218, 3) := by decide +kernel
theorem dX10_called_92 : decode cX10_called 92 = .ok (.iload_n 1, 1) := by decide +kernel
theorem dX10_called_93 : decode cX10_called 93 = .ok (.iconst 3, 1) := by decide +kernel
theorem dX10_called_94 : decode cX10_called 94 = .ok (.if_icmp .ne 16, 3) := by decide +kernel
theorem dX10_called_97 : decode cX10_called 97 = .ok (.aload_n 0, 1) := by decide +kernel
theorem dX10_called_98 : decode cX10_called 98 = .ok (.aload_n 0, 1) := by decide +kernel
theorem dX10_called_99 : decode cX10_called 99 = .ok (.getfield 218, 3) := by decide +kernel
theorem dX10_called_102 : decode cX10_called 102 = .ok (.iconst 1, 1) := by decide +kernel
theorem dX10_called_103 : decode cX10_called 103 = .ok (.iadd, 1) := by decide +kernel
theorem dX10_called_104 : decode cX10_called 104 = .ok (.ldc 204, 2) := by decide +kernel
theorem dX10_called_106 : decode cX10_called 106 = .ok (.iand, 1) := by decide +kernel
theorem dX10_called_107 : decode cX10_called 107 = .ok (.putfield 218, 3) := by decide +kernel
theorem dX10_called_110 : decode cX10_called 110 = .ok (.bipush 6, 2) := by decide +kernel
theorem dX10_called_112 : decode cX10_called 112 = .ok (.ireturn, 1) := by decide +kernel
theorem dX10_jump_0 : decode cX10_jump 0 = .ok (.aload_n 0, 1) := by decide +kernel
theorem dX10_jump_1 : decode cX10_jump 1 = .ok (.invokevirtual 250, 3) := by decide +kernel
theorem dX10_jump_4 : decode cX10_jump 4 = .ok (.istore_n 2, 1) := by decide +kernel
theorem dX10_jump_5 : decode cX10_jump 5 = .ok (.iload_n 1, 1) := by decide +kernel
theorem dX10_jump_6 : decode cX10_jump 6 = .ok (.ifCond .ne 10, 3) := by decide +kernel
theorem dX10_jump_9 : decode cX10_jump 9 = .ok (.aload_n 0, 1) := by decide +kernel
theorem dX10_jump_10 : decode cX10_jump 10 = .ok (.iload_n 2, 1) := by decide +kernel
theorem dX10_jump_11 : decode cX10_jump 11 = .ok (.putfield 218, 3) := by decide +kernel
theorem dX10_jump_14 : decode cX10_jump 14 = .ok (.iconst 3, 1) := by decide +kernel
theorem dX10_jump_15 : decode cX10_jump 15 = .ok (.ireturn, 1) := by decide +kernel
theorem dX10_jump_16 : decode cX10_jump 16 = .ok (.aload_n 0, 1) := by decide +kernel
theorem dX10_jump_17 : decode cX10_jump 17 = .ok (.iload_n 2, 1) := by decide +kernel
theorem dX10_jump_18 : decode cX10_jump 18 = .ok (.invokevirtual 172, 3) := by decide +kernel
theorem dX10_jump_21 : decode cX10_jump 21 = .ok (.istore_n 3, 1) := by decide +kernel
theorem dX10_jump_22 : decode cX10_jump 22 = .ok (.aload_n 0, 1) := by decide +kernel
theorem dX10_jump_23 : decode cX10_jump 23 = .ok (.iload_n 3, 1) := by decide +kernel
theorem dX10_jump_24 : decode cX10_jump 24 = .ok (.aload_n 0, 1) := by decide +kernel
theorem dX10_jump_25 : decode cX10_jump 25 = .ok (.iload_n 2, 1) := by decide +kernel
theorem dX10_jump_26 : decode cX10_jump 26 = .ok (.ldc_w 306, 3) := by decide +kernel
theorem dX10_jump_29 : decode cX10_jump 29 = .ok (.iand, 1) := by decide +kernel
theorem dX10_jump_30 : decode cX10_jump 30 = .ok (.iload_n 2, 1) := by decide +kernel
theorem dX10_jump_31 : decode cX10_jump 31 = .ok (.iconst 1, 1) := by decide +kernel
theorem dX10_jump_32 : decode cX10_jump 32 = .ok (.iadd, 1) := by decide +kernel
theorem dX10_jump_33 : decode cX10_jump 33 = .ok (.sipush 255, 3) := by decide +kernel
theorem dX10_jump_36 : decode cX10_jump 36 = .ok (.iand, 1) := by decide +kernel
theorem dX10_jump_37 : decode cX10_jump 37 = .ok (.ior, 1) := by decide +kernel
theorem dX10_jump_38 : decode cX10_jump 38 = .ok (.invokevirtual 172, 3) := by decide +kernel
theorem dX10_jump_41 : decode cX10_jump 41 = .ok (.bipush 8, 2) := by decide +kernel
theorem dX10_jump_43 : decode cX10_jump 43 = .ok (.ishl, 1) := by decide +kernel
theorem dX10_jump_44 : decode cX10_jump 44 = .ok (.ior, 1) := by decide +kernel
theorem dX10_jump_45 : decode cX10_jump 45 = .ok (.putfield 218, 3) := by decide +kernel
theorem dX10_jump_48 : decode cX10_jump 48 = .ok (.iconst 5, 1) := by decide +kernel
theorem dX10_jump_49 : decode cX10_jump 49 = .ok (.ireturn, 1) := by decide +kernel
theorem dX10_listed_0 : decode cX10_listed 0 = .ok (.aload_n 0, 1) := by decide +kernel
theorem dX10_listed_1 : decode cX10_listed 1 = .ok (.iload_n 2, 1) := by decide +kernel
theorem dX10_listed_2 : decode cX10_listed 2 = .ok (.invokevirtual 269, 3) := by decide +kernel
theorem dX10_listed_5 : decode cX10_listed 5 = .ok (.istore_n 3, 1) := by decide +kernel
theorem dX10_listed_6 : decode cX10_listed 6 = .ok (.iload_n 1, 1) := by decide +kernel
theorem dX10_listed_7 : decode cX10_listed 7 = .ok (.iconst 4, 1) := by decide +kernel
theorem dX10_listed_8 : decode cX10_listed 8 = .ok (.if_icmp .ne 17, 3) := by decide +kernel
theorem dX10_listed_11 : decode cX10_listed 11 = .ok (.aload_n 0, 1) := by decide +kernel
theorem dX10_listed_12 : decode cX10_listed 12 = .ok (.iload_n 3, 1) := by decide +kernel
theorem dX10_listed_13 : decode cX10_listed 13 = .ok (.aload_n 0, 1) := by decide +kernel
theorem dX10_listed_14 : decode cX10_listed 14 = .ok (.getfield 247, 3) := by decide +kernel
theorem dX10_listed_17 : decode cX10_listed 17 = .ok (.invokevirtual 272, 3) := by decide +kernel
theorem dX10_listed_20 : decode cX10_listed 20 = .ok (.iload_n 2, 1) := by decide +kernel
theorem dX10_listed_21 : decode cX10_listed 21 = .ok (.invokestatic 275, 3) := by decide +kernel
theorem dX10_listed_24 : decode cX10_listed 24 = .ok (.ireturn, 1) := by decide +kernel
theorem dX10_listed_25 : decode cX10_listed 25 = .ok (.aload_n 0, 1) := by decide +kernel
theorem dX10_listed_26 : decode cX10_listed 26 = .ok (.iload_n 3, 1) := by decide +kernel
theorem dX10_listed_27 : decode cX10_listed 27 = .ok (.invokevirtual 172, 3) := by decide +kernel
theorem dX10_listed_30 : decode cX10_listed 30 = .ok (.istore 4, 2) := by decide +kernel
theorem dX10_listed_32 : decode cX10_listed 32 = .ok (.iload_n 1, 1) := by decide +kernel
theorem dX10_listed_33 : decode cX10_listed 33 = .ok (.iconst 1, 1) := by decide +kernel
theorem dX10_listed_34 : decode cX10_listed 34 = .ok (.if_icmp .ne 42, 3) := by decide +kernel
theorem dX10_listed_37 : decode cX10_listed 37 = .ok (.aload_n 0, 1) := by decide +kernel
theorem dX10_listed_38 : decode cX10_listed 38 = .ok (.iconst 2, 1) := by decide +kernel
theorem dX10_listed_39 : decode cX10_listed 39 = .ok (.aload_n 0, 1) := by decide +kernel
theorem dX10_listed_40 : decode cX10_listed 40 = .ok (.getfield 266, 3) := by decide +kernel
theorem dX10_listed_43 : decode cX10_listed 43 = .ok (.iload 4, 2) := by decide +kernel
theorem dX10_listed_45 : decode cX10_listed 45 = .ok (.iand, 1) := by decide +kernel
theorem dX10_listed_46 : decode cX10_listed 46 = .ok (.ifCond .ne 7, 3) := by decide +kernel
theorem dX10_listed_49 : decode cX10_listed 49 = .ok (.iconst 1, 1) := by decide +kernel
theorem dX10_listed_50 : decode cX10_listed 50 = .ok (.goto 4, 3) := by decide +kernel
theorem dX10_listed_53 : decode cX10_listed 53 = .ok (.iconst 0, 1) := by decide +kernel
theorem dX10_listed_54 : decode cX10_listed 54 = .ok (.invokevirtual 234, 3) := by decide +kernel
theorem dX10_listed_57 : decode cX10_listed 57 = .ok (.aload_n 0, 1) := by decide +kernel
theorem dX10_listed_58 : decode cX10_listed 58 = .ok (.aload_n 0, 1) := by decide +kernel
theorem dX10_listed_59 : decode cX10_listed 59 = .ok (.getfield 22, 3) := by decide +kernel
theorem dX10_listed_62 : decode cX10_listed 62 = .ok (.sipush (-193), 3) := by decide +kernel
theorem dX10_listed_65 : decode cX10_listed 65 = .ok (.iand, 1) := by decide +kernel
theorem dX10_listed_66 : decode cX10_listed 66 = .ok (.iload 4, 2) := by decide +kernel
theorem dX10_listed_68 : decode cX10_listed 68 = .ok (.sipush 192, 3) := by decide +kernel
theorem dX10_listed_71 : decode cX10_listed 71 = .ok (.iand, 1) := by decide +kernel
theorem dX10_listed_72 : decode cX10_listed 72 = .ok (.ior, 1) := by decide +kernel
theorem dX10_listed_73 : decode cX10_listed 73 = .ok (.putfield 22, 3) := by decide +kernel
theorem dX10_listed_76 : decode cX10_listed 76 = .ok (.iload_n 1, 1) := by decide +kernel
theorem dX10_listed_77 : decode cX10_listed 77 = .ok (.iconst 5, 1) := by decide +kernel
theorem dX10_listed_78 : decode cX10_listed 78 = .ok (.if_icmp .ne 13, 3) := by decide +kernel
theorem dX10_listed_81 : decode cX10_listed 81 = .ok (.aload_n 0, 1) := by decide +kernel
theorem dX10_listed_82 : decode cX10_listed 82 = .ok (.aload_n 0, 1) := by decide +kernel
theorem dX10_listed_83 : decode cX10_listed 83 = .ok (.iload 4, 2) := by decide +kernel
theorem dX10_listed_85 : decode cX10_listed 85 = .ok (.invokevirtual 263, 3) := by decide +kernel
theorem dX10_listed_88 : decode cX10_listed 88 = .ok (.putfield 247, 3) := by decide +kernel
theorem dX10_listed_91 : decode cX10_listed 91 = .ok (.iload_n 1, 1) := by decide +kernel
theorem dX10_listed_92 : decode cX10_listed 92 = .ok (.iconst 5, 1) := by decide +kernel
theorem dX10_listed_93 : decode cX10_listed 93 = .ok (.if_icmp .le 26, 3) := by decide +kernel
theorem dX10_listed_96 : decode cX10_listed 96 = .ok (.aload_n 0, 1) := by decide +kernel
theorem dX10_listed_97 : decode cX10_listed 97 = .ok (.iload_n 1, 1) := by decide +kernel
theorem dX10_listed_98 : decode cX10_listed 98 = .ok (.bipush 6, 2) := by decide +kernel
theorem dX10_listed_100 : decode cX10_listed 100 = .ok (.if_icmp .ne 10, 3) := by decide +kernel
theorem dX10_listed_103 : decode cX10_listed 103 = .ok (.aload_n 0, 1) := by decide +kernel
theorem dX10_listed_104 : decode cX10_listed 104 = .ok (.getfield 247, 3) := by decide +kernel
theorem dX10_listed_107 : decode cX10_listed 107 = .ok (.goto 7, 3) := by decide +kernel
theorem dX10_listed_110 : decode cX10_listed 110 = .ok (.aload_n 0, 1) := by decide +kernel
theorem dX10_listed_111 : decode cX10_listed 111 = .ok (.getfield 244, 3) := by decide +kernel
theorem dX10_listed_114 : decode cX10_listed 114 = .ok (.iload 4, 2) := by decide +kernel
theorem dX10_listed_116 : decode cX10_listed 116 = .ok (.invokevirtual 281, 3) := by decide +kernel
theorem dX10_listed_119 : decode cX10_listed 119 = .ok (.iload_n 2, 1) := by decide +kernel
theorem dX10_listed_120 : decode cX10_listed 120 = .ok (.invokestatic 275, 3) := by decide +kernel
theorem dX10_listed_123 : decode cX10_listed 123 = .ok (.aload_n 0, 1) := by decide +kernel
theorem dX10_listed_124 : decode cX10_listed 124 = .ok (.getfield 260, 3) := by decide +kernel
theorem dX10_listed_127 : decode cX10_listed 127 = .ok (.ifCond .eq 7, 3) := by decide +kernel
theorem dX10_listed_130 : decode cX10_listed 130 = .ok (.iconst 1, 1) := by decide +kernel
theorem dX10_listed_131 : decode cX10_listed 131 = .ok (.goto 4, 3) := by decide +kernel
theorem dX10_listed_134 : decode cX10_listed 134 = .ok (.iconst 0, 1) := by decide +kernel
theorem dX10_listed_135 : decode cX10_listed 135 = .ok (.iadd, 1) := by decide +kernel
theorem dX10_listed_136 : decode cX10_listed 136 = .ok (.ireturn, 1) := by decide +kernel
theorem dX10_doZero_0 : decode cX10_doZero 0 = .ok (.iload_n 2, 1) := by decide +kernel
theorem dX10_doZero_1 : decode cX10_doZero 1 = .ok (.iconst 4, 1) := by decide +kernel
theorem dX10_doZero_2 : decode cX10_doZero 2 = .ok (.if_icmp .ne 9, 3) := by decide +kernel
theorem dX10_doZero_5 : decode cX10_doZero 5 = .ok (.aload_n 0, 1) := by decide +kernel
theorem dX10_doZero_6 : decode cX10_doZero 6 = .ok (.iload_n 1, 1) := by decide +kernel
theorem dX10_doZero_7 : decode cX10_doZero 7 = .ok (.invokevirtual 307, 3) := by decide +kernel
theorem dX10_doZero_10 : decode cX10_doZero 10 = .ok (.ireturn, 1) := by decide +kernel
theorem dX10_doZero_11 : decode cX10_doZero 11 = .ok (.iload_n 2, 1) := by decide +kernel
theorem dX10_doZero_12 : decode cX10_doZero 12 = .ok (.iconst 2, 1) := by decide +kernel
theorem dX10_doZero_13 : decode cX10_doZero 13 = .ok (.if_icmp .ne 9, 3) := by decide +kernel
theorem dX10_doZero_16 : decode cX10_doZero 16 = .ok (.aload_n 0, 1) := by decide +kernel
theorem dX10_doZero_17 : decode cX10_doZero 17 = .ok (.iload_n 1, 1) := by decide +kernel
theorem dX10_doZero_18 : decode cX10_doZero 18 = .ok (.invokevirtual 310, 3) := by decide +kernel
theorem dX10_doZero_21 : decode cX10_doZero 21 = .ok (.ireturn, 1) := by decide +kernel
theorem dX10_doZero_22 : decode cX10_doZero 22 = .ok (.iload_n 2, 1) := by decide +kernel
theorem dX10_doZero_23 : decode cX10_doZero 23 = .ok (.bipush 6, 2) := by decide +kernel
theorem dX10_doZero_25 : decode cX10_doZero 25 = .ok (.if_icmp .ne 9, 3) := by decide +kernel
theorem dX10_doZero_28 : decode cX10_doZero 28 = .ok (.aload_n 0, 1) := by decide +kernel
theorem dX10_doZero_29 : decode cX10_doZero 29 = .ok (.iload_n 1, 1) := by decide +kernel
theorem dX10_doZero_30 : decode cX10_doZero 30 = .ok (.invokevirtual 313, 3) := by decide +kernel
theorem dX10_doZero_33 : decode cX10_doZero 33 = .ok (.ireturn, 1) := by decide +kernel
theorem dX10_doZero_34 : decode cX10_doZero 34 = .ok (.iload_n 2, 1) := by decide +kernel
theorem dX10_doZero_35 : decode cX10_doZero 35 = .ok (.ifCond .ne 14, 3) := by decide +kernel
theorem dX10_doZero_38 : decode cX10_doZero 38 = .ok (.iload_n 1, 1) := by decide +kernel
theorem dX10_doZero_39 : decode cX10_doZero 39 = .ok (.iconst 4, 1) := by decide +kernel
theorem dX10_doZero_40 : decode cX10_doZero 40 = .ok (.if_icmp .ge 9, 3) := by decide +kernel
theorem dX10_doZero_43 : decode cX10_doZero 43 = .ok (.aload_n 0, 1) := by decide +kernel
theorem dX10_doZero_44 : decode cX10_doZero 44 = .ok (.iload_n 1, 1) := by decide +kernel
theorem dX10_doZero_45 : decode cX10_doZero 45 = .ok (.invokevirtual 316, 3) := by decide +kernel
theorem dX10_doZero_48 : decode cX10_doZero 48 = .ok (.ireturn, 1) := by decide +kernel
theorem dX10_doZero_49 : decode cX10_doZero 49 = .ok (.iload_n 2, 1) := by decide +kernel
theorem dX10_doZero_50 : decode cX10_doZero 50 = .ok (.iconst 3, 1) := by decide +kernel
theorem dX10_doZero_51 : decode cX10_doZero 51 = .ok (.if_icmp .ne 28, 3) := by decide +kernel
theorem dX10_doZero_54 : decode cX10_doZero 54 = .ok (.iload_n 1, 1) := by decide +kernel
theorem dX10_doZero_55 : decode cX10_doZero 55 = .ok (.iconst 2, 1) := by decide +kernel
theorem dX10_doZero_56 : decode cX10_doZero 56 = .ok (.if_icmp .eq 8, 3) := by decide +kernel
theorem dX10_doZero_59 : decode cX10_doZero 59 = .ok (.iload_n 1, 1) := by decide +kernel
theorem dX10_doZero_60 : decode cX10_doZero 60 = .ok (.iconst 3, 1) := by decide +kernel
theorem dX10_doZero_61 : decode cX10_doZero 61 = .ok (.if_icmp .ne 18, 3) := by decide +kernel
theorem dX10_doZero_64 : decode cX10_doZero 64 = .ok (.aload_n 0, 1) := by decide +kernel
theorem dX10_doZero_65 : decode cX10_doZero 65 = .ok (.iload_n 1, 1) := by decide +kernel
theorem dX10_doZero_66 : decode cX10_doZero 66 = .ok (.iconst 3, 1) := by decide +kernel
theorem dX10_doZero_67 : decode cX10_doZero 67 = .ok (.if_icmp .ne 7, 3) := by decide +kernel
theorem dX10_doZero_70 : decode cX10_doZero 70 = .ok (.iconst 1, 1) := by decide +kernel
theorem dX10_doZero_71 : decode cX10_doZero 71 = .ok (.goto 4, 3) := by decide +kernel
theorem dX10_doZero_74 : decode cX10_doZero 74 = .ok (.iconst 0, 1) := by decide +kernel
theorem dX10_doZero_75 : decode cX10_doZero 75 = .ok (.invokevirtual 319, 3) := by decide +kernel
theorem dX10_doZero_78 : decode cX10_doZero 78 = .ok (.ireturn, 1) := by decide +kernel
theorem dX10_doZero_79 : decode cX10_doZero 79 = .ok (.iload_n 2, 1) := by decide +kernel
theorem dX10_doZero_80 : decode cX10_doZero 80 = .ok (.ifCond .ne 16, 3) := by decide +kernel
theorem dX10_doZero_83 : decode cX10_doZero 83 = .ok (.iload_n 1, 1) := by decide +kernel
theorem dX10_doZero_84 : decode cX10_doZero 84 = .ok (.iconst 4, 1) := by decide +kernel
theorem dX10_doZero_85 : decode cX10_doZero 85 = .ok (.if_icmp .le 7, 3) := by decide +kernel
theorem dX10_doZero_88 : decode cX10_doZero 88 = .ok (.iconst 1, 1) := by decide +kernel
theorem dX10_doZero_89 : decode cX10_doZero 89 = .ok (.goto 68, 3) := by decide +kernel
theorem dX10_doZero_92 : decode cX10_doZero 92 = .ok (.iconst 0, 1) := by decide +kernel
theorem dX10_doZero_93 : decode cX10_doZero 93 = .ok (.goto 64, 3) := by decide +kernel
theorem dX10_doZero_96 : decode cX10_doZero 96 = .ok (.iload_n 2, 1) := by decide +kernel
theorem dX10_doZero_97 : decode cX10_doZero 97 = .ok (.iconst 1, 1) := by decide +kernel
theorem dX10_doZero_98 : decode cX10_doZero 98 = .ok (.if_icmp .eq 8, 3) := by decide +kernel
theorem dX10_doZero_101 : decode cX10_doZero 101 = .ok (.iload_n 2, 1) := by decide +kernel
theorem dX10_doZero_102 : decode cX10_doZero 102 = .ok (.iconst 3, 1) := by decide +kernel
theorem dX10_doZero_103 : decode cX10_doZero 103 = .ok (.if_icmp .ne 21, 3) := by decide +kernel
theorem dX10_doZero_106 : decode cX10_doZero 106 = .ok (.iload_n 1, 1) := by decide +kernel
theorem dX10_doZero_107 : decode cX10_doZero 107 = .ok (.iconst 1, 1) := by decide +kernel
theorem dX10_doZero_108 : decode cX10_doZero 108 = .ok (.if_icmp .eq 8, 3) := by decide +kernel
theorem dX10_doZero_111 : decode cX10_doZero 111 = .ok (.iload_n 1, 1) := by decide +kernel
theorem dX10_doZero_112 : decode cX10_doZero 112 = .ok (.iconst 3, 1) := by decide +kernel
theorem dX10_doZero_113 : decode cX10_doZero 113 = .ok (.if_icmp .le 7, 3) := by decide +kernel
theorem dX10_doZero_116 : decode cX10_doZero 116 = .ok (.iconst 1, 1) := by decide +kernel
theorem dX10_doZero_117 : decode cX10_doZero 117 = .ok (.goto 40, 3) := by decide +kernel
theorem dX10_doZero_120 : decode cX10_doZero 120 = .ok (.iconst 0, 1) := by decide +kernel
theorem dX10_doZero_121 : decode cX10_doZero 121 = .ok (.goto 36, 3) := by decide +kernel
theorem dX10_doZero_124 : decode cX10_doZero 124 = .ok (.iload_n 2, 1) := by decide +kernel
theorem dX10_doZero_125 : decode cX10_doZero 125 = .ok (.iconst 5, 1) := by decide +kernel
theorem dX10_doZero_126 : decode cX10_doZero 126 = .ok (.if_icmp .ne 21, 3) := by decide +kernel
theorem dX10_doZero_129 : decode cX10_doZero 129 = .ok (.iload_n 1, 1) := by decide +kernel
theorem dX10_doZero_130 : decode cX10_doZero 130 = .ok (.iconst 4, 1) := by decide +kernel
theorem dX10_doZero_131 : decode cX10_doZero 131 = .ok (.if_icmp .eq 8, 3) := by decide +kernel
theorem dX10_doZero_134 : decode cX10_doZero 134 = .ok (.iload_n 1, 1) := by decide +kernel
theorem dX10_doZero_135 : decode cX10_doZero 135 = .ok (.iconst 5, 1) := by decide +kernel
theorem dX10_doZero_136 : decode cX10_doZero 136 = .ok (.if_icmp .ne 7, 3) := by decide +kernel
theorem dX10_doZero_139 : decode cX10_doZero 139 = .ok (.iconst 1, 1) := by decide +kernel
theorem dX10_doZero_140 : decode cX10_doZero 140 = .ok (.goto 17, 3) := by decide +kernel
theorem dX10_doZero_143 : decode cX10_doZero 143 = .ok (.iconst 0, 1) := by decide +kernel
theorem dX10_doZero_144 : decode cX10_doZero 144 = .ok (.goto 13, 3) := by decide +kernel
theorem dX10_doZero_147 : decode cX10_doZero 147 = .ok (.iload_n 1, 1) := by decide +kernel
theorem dX10_doZero_148 : decode cX10_doZero 148 = .ok (.iconst 5, 1) := by decide +kernel
theorem dX10_doZero_149 : decode cX10_doZero 149 = .ok (.if_icmp .ne 7, 3) := by decide +kernel
theorem dX10_doZero_152 : decode cX10_doZero 152 = .ok (.iconst 1, 1) := by decide +kernel
theorem dX10_doZero_153 : decode cX10_doZero 153 = .ok (.goto 4, 3) := by decide +kernel
theorem dX10_doZero_156 : decode cX10_doZero 156 = .ok (.iconst 0, 1) := by decide +kernel
theorem dX10_doZero_157 : decode cX10_doZero 157 = .ok (.istore_n 3, 1) := by decide +kernel
theorem dX10_doZero_158 : decode cX10_doZero 158 = .ok (.iload_n 3, 1) := by decide +kernel
theorem dX10_doZero_159 : decode cX10_doZero 159 = .ok (.ifCond .ne 5, 3) := by decide +kernel
theorem dX10_doZero_162 : decode cX10_doZero 162 = .ok (.iconst (-1), 1) := by decide +kernel
theorem dX10_doZero_163 : decode cX10_doZero 163 = .ok (.ireturn, 1) := by decide +kernel
theorem dX10_doZero_164 : decode cX10_doZero 164 = .ok (.aload_n 0, 1) := by decide +kernel
theorem dX10_doZero_165 : decode cX10_doZero 165 = .ok (.iload_n 1, 1) := by decide +kernel
theorem dX10_doZero_166 : decode cX10_doZero 166 = .ok (.iload_n 2, 1) := by decide +kernel
theorem dX10_doZero_167 : decode cX10_doZero 167 = .ok (.ifCond .ne 7, 3) := by decide +kernel
theorem dX10_doZero_170 : decode cX10_doZero 170 = .ok (.iconst 1, 1) := by decide +kernel
theorem dX10_doZero_171 : decode cX10_doZero 171 = .ok (.goto 32, 3) := by decide +kernel
theorem dX10_doZero_174 : decode cX10_doZero 174 = .ok (.iload_n 2, 1) := by decide +kernel
theorem dX10_doZero_175 : decode cX10_doZero 175 = .ok (.iconst 1, 1) := by decide +kernel
theorem dX10_doZero_176 : decode cX10_doZero 176 = .ok (.if_icmp .ne 7, 3) := by decide +kernel
theorem dX10_doZero_179 : decode cX10_doZero 179 = .ok (.iconst 2, 1) := by decide +kernel
theorem dX10_doZero_180 : decode cX10_doZero 180 = .ok (.goto 23, 3) := by decide +kernel
theorem dX10_doZero_183 : decode cX10_doZero 183 = .ok (.iload_n 2, 1) := by decide +kernel
theorem dX10_doZero_184 : decode cX10_doZero 184 = .ok (.iconst 3, 1) := by decide +kernel
theorem dX10_doZero_185 : decode cX10_doZero 185 = .ok (.if_icmp .ne 7, 3) := by decide +kernel
theorem dX10_doZero_188 : decode cX10_doZero 188 = .ok (.iconst 5, 1) := by decide +kernel
theorem dX10_doZero_189 : decode cX10_doZero 189 = .ok (.goto 14, 3) := by decide +kernel
theorem dX10_doZero_192 : decode cX10_doZero 192 = .ok (.iload_n 2, 1) := by decide +kernel
theorem dX10_doZero_193 : decode cX10_doZero 193 = .ok (.iconst 5, 1) := by decide +kernel
theorem dX10_doZero_194 : decode cX10_doZero 194 = .ok (.if_icmp .ne 7, 3) := by decide +kernel
theorem dX10_doZero_197 : decode cX10_doZero 197 = .ok (.iconst 3, 1) := by decide +kernel
theorem dX10_doZero_198 : decode cX10_doZero 198 = .ok (.goto 5, 3) := by decide +kernel
theorem dX10_doZero_201 : decode cX10_doZero 201 = .ok (.bipush 6, 2) := by decide +kernel
theorem dX10_doZero_203 : decode cX10_doZero 203 = .ok (.invokevirtual 323, 3) := by decide +kernel
theorem dX10_doZero_206 : decode cX10_doZero 206 = .ok (.ireturn, 1) := by decide +kernel
theorem dX10_perform_0 : decode cX10_perform 0 = .ok (.aload_n 0, 1) := by decide +kernel
theorem dX10_perform_1 : decode cX10_perform 1 = .ok (.iconst 0, 1) := by decide +kernel
theorem dX10_perform_2 : decode cX10_perform 2 = .ok (.putfield 260, 3) := by decide +kernel
theorem dX10_perform_5 : decode cX10_perform 5 = .ok (.aload_n 0, 1) := by decide +kernel
theorem dX10_perform_6 : decode cX10_perform 6 = .ok (.getfield 128, 3) := by decide +kernel
theorem dX10_perform_9 : decode cX10_perform 9 = .ok (.ifCond .eq 22, 3) := by decide +kernel
theorem dX10_perform_12 : decode cX10_perform 12 = .ok (.aload_n 0, 1) := by decide +kernel
theorem dX10_perform_13 : decode cX10_perform 13 = .ok (.iconst 0, 1) := by decide +kernel
theorem dX10_perform_14 : decode cX10_perform 14 = .ok (.putfield 128, 3) := by decide +kernel
theorem dX10_perform_17 : decode cX10_perform 17 = .ok (.aload_n 0, 1) := by decide +kernel
theorem dX10_perform_18 : decode cX10_perform 18 = .ok (.ldc_w 326, 3) := by decide +kernel
theorem dX10_perform_21 : decode cX10_perform 21 = .ok (.aload_n 0, 1) := by decide +kernel
theorem dX10_perform_22 : decode cX10_perform 22 = .ok (.getfield 22, 3) := by decide +kernel
theorem dX10_perform_25 : decode cX10_perform 25 = .ok (.invokevirtual 300, 3) := by decide +kernel
theorem dX10_perform_28 : decode cX10_perform 28 = .ok (.bipush 7, 2) := by decide +kernel
theorem dX10_perform_30 : decode cX10_perform 30 = .ok (.ireturn, 1) := by decide +kernel
theorem dX10_perform_31 : decode cX10_perform 31 = .ok (.aload_n 0, 1) := by decide +kernel
theorem dX10_perform_32 : decode cX10_perform 32 = .ok (.getfield 163, 3) := by decide +kernel
theorem dX10_perform_35 : decode cX10_perform 35 = .ok (.aload_n 0, 1) := by decide +kernel
theorem dX10_perform_36 : decode cX10_perform 36 = .ok (.getfield 91, 3) := by decide +kernel
theorem dX10_perform_39 : decode cX10_perform 39 = .ok (.ior, 1) := by decide +kernel
theorem dX10_perform_40 : decode cX10_perform 40 = .ok (.ifCond .eq 26, 3) := by decide +kernel
theorem dX10_perform_43 : decode cX10_perform 43 = .ok (.aload_n 0, 1) := by decide +kernel
theorem dX10_perform_44 : decode cX10_perform 44 = .ok (.getfield 22, 3) := by decide +kernel
theorem dX10_perform_47 : decode cX10_perform 47 = .ok (.iconst 4, 1) := by decide +kernel
theorem dX10_perform_48 : decode cX10_perform 48 = .ok (.iand, 1) := by decide +kernel
theorem dX10_perform_49 : decode cX10_perform 49 = .ok (.ifCond .ne 17, 3) := by decide +kernel
theorem dX10_perform_52 : decode cX10_perform 52 = .ok (.aload_n 0, 1) := by decide +kernel
theorem dX10_perform_53 : decode cX10_perform 53 = .ok (.ldc_w 299, 3) := by decide +kernel
theorem dX10_perform_56 : decode cX10_perform 56 = .ok (.aload_n 0, 1) := by decide +kernel
theorem dX10_perform_57 : decode cX10_perform 57 = .ok (.getfield 22, 3) := by decide +kernel
theorem dX10_perform_60 : decode cX10_perform 60 = .ok (.invokevirtual 300, 3) := by decide +kernel
theorem dX10_perform_63 : decode cX10_perform 63 = .ok (.bipush 7, 2) := by decide +kernel
theorem dX10_perform_65 : decode cX10_perform 65 = .ok (.ireturn, 1) := by decide +kernel
theorem dX10_perform_66 : decode cX10_perform 66 = .ok (.aload_n 0, 1) := by decide +kernel
theorem dX10_perform_67 : decode cX10_perform 67 = .ok (.getfield 218, 3) := by decide +kernel
theorem dX10_perform_70 : decode cX10_perform 70 = .ok (.istore_n 1, 1) := by decide +kernel
theorem dX10_perform_71 : decode cX10_perform 71 = .ok (.aload_n 0, 1) := by decide +kernel
theorem dX10_perform_72 : decode cX10_perform 72 = .ok (.invokevirtual 221, 3) := by decide +kernel
theorem dX10_perform_75 : decode cX10_perform 75 = .ok (.istore_n 2, 1) := by decide +kernel
theorem dX10_perform_76 : decode cX10_perform 76 = .ok (.iload_n 2, 1) := by decide +kernel
theorem dX10_perform_77 : decode cX10_perform 77 = .ok (.iconst 5, 1) := by decide +kernel
theorem dX10_perform_78 : decode cX10_perform 78 = .ok (.ishr, 1) := by decide +kernel
theorem dX10_perform_79 : decode cX10_perform 79 = .ok (.istore_n 3, 1) := by decide +kernel
theorem dX10_perform_80 : decode cX10_perform 80 = .ok (.iload_n 2, 1) := by decide +kernel
theorem dX10_perform_81 : decode cX10_perform 81 = .ok (.iconst 2, 1) := by decide +kernel
theorem dX10_perform_82 : decode cX10_perform 82 = .ok (.ishr, 1) := by decide +kernel
theorem dX10_perform_83 : decode cX10_perform 83 = .ok (.bipush 7, 2) := by decide +kernel
theorem dX10_perform_85 : decode cX10_perform 85 = .ok (.iand, 1) := by decide +kernel
theorem dX10_perform_86 : decode cX10_perform 86 = .ok (.istore 4, 2) := by decide +kernel
theorem dX10_perform_88 : decode cX10_perform 88 = .ok (.iconst (-1), 1) := by decide +kernel
theorem dX10_perform_89 : decode cX10_perform 89 = .ok (.istore 5, 2) := by decide +kernel
theorem dX10_perform_91 : decode cX10_perform 91 = .ok (.iload_n 2, 1) := by decide +kernel
theorem dX10_perform_92 : decode cX10_perform 92 = .ok (.iconst 3, 1) := by decide +kernel
theorem dX10_perform_93 : decode cX10_perform 93 = .ok (.iand, 1) := by decide +kernel
theorem dX10_perform_94 : decode cX10_perform 94 = .ok (.iconst 1, 1) := by decide +kernel
theorem dX10_perform_95 : decode cX10_perform 95 = .ok (.if_icmp .ne 23, 3) := by decide +kernel
theorem dX10_perform_98 : decode cX10_perform 98 = .ok (.iload_n 2, 1) := by decide +kernel
theorem dX10_perform_99 : decode cX10_perform 99 = .ok (.sipush 137, 3) := by decide +kernel
theorem dX10_perform_102 : decode cX10_perform 102 = .ok (.if_icmp .eq 16, 3) := by decide +kernel
theorem dX10_perform_105 : decode cX10_perform 105 = .ok (.aload_n 0, 1) := by decide +kernel
theorem dX10_perform_106 : decode cX10_perform 106 = .ok (.iload_n 3, 1) := by decide +kernel
theorem dX10_perform_107 : decode cX10_perform 107 = .ok (.aload_n 0, 1) := by decide +kernel
theorem dX10_perform_108 : decode cX10_perform 108 = .ok (.iload 4, 2) := by decide +kernel
theorem dX10_perform_110 : decode cX10_perform 110 = .ok (.invokevirtual 327, 3) := by decide +kernel
theorem dX10_perform_113 : decode cX10_perform 113 = .ok (.invokevirtual 330, 3) := by decide +kernel
theorem dX10_perform_116 : decode cX10_perform 116 = .ok (.istore 5, 2) := by decide +kernel
theorem dX10_perform_118 : decode cX10_perform 118 = .ok (.iload_n 2, 1) := by decide +kernel
theorem dX10_perform_119 : decode cX10_perform 119 = .ok (.iconst 3, 1) := by decide +kernel
theorem dX10_perform_120 : decode cX10_perform 120 = .ok (.iand, 1) := by decide +kernel
theorem dX10_perform_121 : decode cX10_perform 121 = .ok (.iconst 2, 1) := by decide +kernel
theorem dX10_perform_122 : decode cX10_perform 122 = .ok (.if_icmp .ne 12, 3) := by decide +kernel
theorem dX10_perform_125 : decode cX10_perform 125 = .ok (.aload_n 0, 1) := by decide +kernel
theorem dX10_perform_126 : decode cX10_perform 126 = .ok (.iload_n 3, 1) := by decide +kernel
theorem dX10_perform_127 : decode cX10_perform 127 = .ok (.iload 4, 2) := by decide +kernel
theorem dX10_perform_129 : decode cX10_perform 129 = .ok (.invokevirtual 333, 3) := by decide +kernel
theorem dX10_perform_132 : decode cX10_perform 132 = .ok (.istore 5, 2) := by decide +kernel
theorem dX10_perform_134 : decode cX10_perform 134 = .ok (.iload_n 2, 1) := by decide +kernel
theorem dX10_perform_135 : decode cX10_perform 135 = .ok (.iconst 3, 1) := by decide +kernel
theorem dX10_perform_136 : decode cX10_perform 136 = .ok (.iand, 1) := by decide +kernel
theorem dX10_perform_137 : decode cX10_perform 137 = .ok (.ifCond .ne 12, 3) := by decide +kernel
theorem dX10_perform_140 : decode cX10_perform 140 = .ok (.aload_n 0, 1) := by decide +kernel
theorem dX10_perform_141 : decode cX10_perform 141 = .ok (.iload_n 3, 1) := by decide +kernel
theorem dX10_perform_142 : decode cX10_perform 142 = .ok (.iload 4, 2) := by decide +kernel
theorem dX10_perform_144 : decode cX10_perform 144 = .ok (.invokevirtual 336, 3) := by decide +kernel
theorem dX10_perform_147 : decode cX10_perform 147 = .ok (.istore 5, 2) := by decide +kernel
theorem dX10_perform_149 : decode cX10_perform 149 = .ok (.iload 5, 2) := by decide +kernel
theorem dX10_perform_151 : decode cX10_perform 151 = .ok (.ifCond .le 6, 3) := by decide +kernel
theorem dX10_perform_154 : decode cX10_perform 154 = .ok (.iload 5, 2) := by decide +kernel
theorem dX10_perform_156 : decode cX10_perform 156 = .ok (.ireturn, 1) := by decide +kernel
theorem dX10_perform_157 : decode cX10_perform 157 = .ok (.aload_n 0, 1) := by decide +kernel
theorem dX10_perform_158 : decode cX10_perform 158 = .ok (.iload_n 1, 1) := by decide +kernel
theorem dX10_perform_159 : decode cX10_perform 159 = .ok (.putfield 218, 3) := by decide +kernel
theorem dX10_perform_162 : decode cX10_perform 162 = .ok (.iconst 2, 1) := by decide +kernel
theorem dX10_perform_163 : decode cX10_perform 163 = .ok (.ireturn, 1) := by decide +kernel
theorem dX10_oneStep_0 : decode cX10_oneStep 0 = .ok (.aload_n 0, 1) := by decide +kernel
theorem dX10_oneStep_1 : decode cX10_oneStep 1 = .ok (.iconst 0, 1) := by decide +kernel
theorem dX10_oneStep_2 : decode cX10_oneStep 2 = .ok (.putfield 178, 3) := by decide +kernel
theorem dX10_oneStep_5 : decode cX10_oneStep 5 = .ok (.aload_n 0, 1) := by decide +kernel
theorem dX10_oneStep_6 : decode cX10_oneStep 6 = .ok (.invokevirtual 339, 3) := by decide +kernel
theorem dX10_oneStep_9 : decode cX10_oneStep 9 = .ok (.istore_n 1, 1) := by decide +kernel
theorem dX10_oneStep_10 : decode cX10_oneStep 10 = .ok (.aload_n 0, 1) := by decide +kernel
theorem dX10_oneStep_11 : decode cX10_oneStep 11 = .ok (.dup, 1) := by decide +kernel
theorem dX10_oneStep_12 : decode cX10_oneStep 12 = .ok (.getfield 178, 3) := by decide +kernel
theorem dX10_oneStep_15 : decode cX10_oneStep 15 = .ok (.iload_n 1, 1) := by decide +kernel
theorem dX10_oneStep_16 : decode cX10_oneStep 16 = .ok (.iadd, 1) := by decide +kernel
theorem dX10_oneStep_17 : decode cX10_oneStep 17 = .ok (.putfield 178, 3) := by decide +kernel
theorem dX10_oneStep_20 : decode cX10_oneStep 20 = .ok (.aload_n 0, 1) := by decide +kernel
theorem dX10_oneStep_21 : decode cX10_oneStep 21 = .ok (.aload_n 0, 1) := by decide +kernel
theorem dX10_oneStep_22 : decode cX10_oneStep 22 = .ok (.getfield 178, 3) := by decide +kernel
theorem dX10_oneStep_25 : decode cX10_oneStep 25 = .ok (.invokevirtual 342, 3) := by decide +kernel
theorem dX10_oneStep_28 : decode cX10_oneStep 28 = .ok (.aload_n 0, 1) := by decide +kernel
theorem dX10_oneStep_29 : decode cX10_oneStep 29 = .ok (.getfield 178, 3) := by decide +kernel
theorem dX10_oneStep_32 : decode cX10_oneStep 32 = .ok (.ireturn, 1) := by decide +kernel
theorem dX10_step_0 : decode cX10_step 0 = .ok (.aload_n 0, 1) := by decide +kernel
theorem dX10_step_1 : decode cX10_step 1 = .ok (.iconst 0, 1) := by decide +kernel
theorem dX10_step_2 : decode cX10_step 2 = .ok (.putfield 61, 3) := by decide +kernel
theorem dX10_step_5 : decode cX10_step 5 = .ok (.aload_n 0, 1) := by decide +kernel
theorem dX10_step_6 : decode cX10_step 6 = .ok (.invokevirtual 345, 3) := by decide +kernel
theorem dX10_step_9 : decode cX10_step 9 = .ok (.ireturn, 1) := by decide +kernel
theorem dX10_run_0 : decode cX10_run 0 = .ok (.aload_n 0, 1) := by decide +kernel
theorem dX10_run_1 : decode cX10_run 1 = .ok (.iconst 0, 1) := by decide +kernel
theorem dX10_run_2 : decode cX10_run 2 = .ok (.putfield 61, 3) := by decide +kernel
theorem dX10_run_5 : decode cX10_run 5 = .ok (.iload_n 1, 1) := by decide +kernel
theorem dX10_run_6 : decode cX10_run 6 = .ok (.ifCond .lt 10, 3) := by decide +kernel
theorem dX10_run_9 : decode cX10_run 9 = .ok (.iload_n 1, 1) := by decide +kernel
theorem dX10_run_10 : decode cX10_run 10 = .ok (.sipush 200, 3) := by decide +kernel
theorem dX10_run_13 : decode cX10_run 13 = .ok (.if_icmp .le 5, 3) := by decide +kernel
theorem dX10_run_16 : decode cX10_run 16 = .ok (.iconst (-1), 1) := by decide +kernel
theorem dX10_run_17 : decode cX10_run 17 = .ok (.ireturn, 1) := by decide +kernel
theorem dX10_run_18 : decode cX10_run 18 = .ok (.iconst 0, 1) := by decide +kernel
theorem dX10_run_19 : decode cX10_run 19 = .ok (.istore_n 2, 1) := by decide +kernel
theorem dX10_run_20 : decode cX10_run 20 = .ok (.iconst 0, 1) := by decide +kernel
theorem dX10_run_21 : decode cX10_run 21 = .ok (.istore_n 3, 1) := by decide +kernel
theorem dX10_run_22 : decode cX10_run 22 = .ok (.iload_n 3, 1) := by decide +kernel
theorem dX10_run_23 : decode cX10_run 23 = .ok (.iload_n 1, 1) := by decide +kernel
theorem dX10_run_24 : decode cX10_run 24 = .ok (.if_icmp .ge 16, 3) := by decide +kernel
theorem dX10_run_27 : decode cX10_run 27 = .ok (.iload_n 2, 1) := by decide +kernel
theorem dX10_run_28 : decode cX10_run 28 = .ok (.aload_n 0, 1) := by decide +kernel
theorem dX10_run_29 : decode cX10_run 29 = .ok (.invokevirtual 345, 3) := by decide +kernel
theorem dX10_run_32 : decode cX10_run 32 = .ok (.iadd, 1) := by decide +kernel
theorem dX10_run_33 : decode cX10_run 33 = .ok (.istore_n 2, 1) := by decide +kernel
theorem dX10_run_34 : decode cX10_run 34 = .ok (.iinc 3 1, 3) := by decide +kernel
theorem dX10_run_37 : decode cX10_run 37 = .ok (.goto (-15), 3) := by decide +kernel
theorem dX10_run_40 : decode cX10_run 40 = .ok (.iload_n 2, 1) := by decide +kernel
theorem dX10_run_41 : decode cX10_run 41 = .ok (.ireturn, 1) := by decide +kernel
theorem dX10_reset_0 : decode cX10_reset 0 = .ok (.aload_n 0, 1) := by decide +kernel
theorem dX10_reset_1 : decode cX10_reset 1 = .ok (.iconst 0, 1) := by decide +kernel
theorem dX10_reset_2 : decode cX10_reset 2 = .ok (.putfield 61, 3) := by decide +kernel
theorem dX10_reset_5 : decode cX10_reset 5 = .ok (.aload_n 0, 1) := by decide +kernel
theorem dX10_reset_6 : decode cX10_reset 6 = .ok (.aload_n 0, 1) := by decide +kernel
theorem dX10_reset_7 : decode cX10_reset 7 = .ok (.getfield 225, 3) := by decide +kernel
theorem dX10_reset_10 : decode cX10_reset 10 = .ok (.iconst 3, 1) := by decide +kernel
theorem dX10_reset_11 : decode cX10_reset 11 = .ok (.isub, 1) := by decide +kernel
theorem dX10_reset_12 : decode cX10_reset 12 = .ok (.sipush 255, 3) := by decide +kernel
theorem dX10_reset_15 : decode cX10_reset 15 = .ok (.iand, 1) := by decide +kernel
theorem dX10_reset_16 : decode cX10_reset 16 = .ok (.putfield 225, 3) := by decide +kernel
theorem dX10_reset_19 : decode cX10_reset 19 = .ok (.aload_n 0, 1) := by decide +kernel
theorem dX10_reset_20 : decode cX10_reset 20 = .ok (.iconst 4, 1) := by decide +kernel
theorem dX10_reset_21 : decode cX10_reset 21 = .ok (.iconst 1, 1) := by decide +kernel
theorem dX10_reset_22 : decode cX10_reset 22 = .ok (.invokevirtual 234, 3) := by decide +kernel
theorem dX10_reset_25 : decode cX10_reset 25 = .ok (.aload_n 0, 1) := by decide +kernel
theorem dX10_reset_26 : decode cX10_reset 26 = .ok (.aload_n 0, 1) := by decide +kernel
theorem dX10_reset_27 : decode cX10_reset 27 = .ok (.ldc_w 348, 3) := by decide +kernel
theorem dX10_reset_30 : decode cX10_reset 30 = .ok (.invokevirtual 241, 3) := by decide +kernel
theorem dX10_reset_33 : decode cX10_reset 33 = .ok (.putfield 218, 3) := by decide +kernel
theorem dX10_reset_36 : decode cX10_reset 36 = .ok (.aload_n 0, 1) := by decide +kernel
theorem dX10_reset_37 : decode cX10_reset 37 = .ok (.iconst 0, 1) := by decide +kernel
theorem dX10_reset_38 : decode cX10_reset 38 = .ok (.putfield 107, 3) := by decide +kernel
theorem dX10_reset_41 : decode cX10_reset 41 = .ok (.aload_n 0, 1) := by decide +kernel
theorem dX10_reset_42 : decode cX10_reset 42 = .ok (.iconst 0, 1) := by decide +kernel
theorem dX10_reset_43 : decode cX10_reset 43 = .ok (.putfield 134, 3) := by decide +kernel
theorem dX10_reset_46 : decode cX10_reset 46 = .ok (.aload_n 0, 1) := by decide +kernel
theorem dX10_reset_47 : decode cX10_reset 47 = .ok (.iconst 0, 1) := by decide +kernel
theorem dX10_reset_48 : decode cX10_reset 48 = .ok (.putfield 113, 3) := by decide +kernel
theorem dX10_reset_51 : decode cX10_reset 51 = .ok (.aload_n 0, 1) := by decide +kernel
theorem dX10_reset_52 : decode cX10_reset 52 = .ok (.iconst 0, 1) := by decide +kernel
theorem dX10_reset_53 : decode cX10_reset 53 = .ok (.putfield 128, 3) := by decide +kernel
theorem dX10_reset_56 : decode cX10_reset 56 = .ok (.aload_n 0, 1) := by decide +kernel
theorem dX10_reset_57 : decode cX10_reset 57 = .ok (.iconst 0, 1) := by decide +kernel
theorem dX10_reset_58 : decode cX10_reset 58 = .ok (.putfield 144, 3) := by decide +kernel
theorem dX10_reset_61 : decode cX10_reset 61 = .ok (.iconst 0, 1) := by decide +kernel
theorem dX10_reset_62 : decode cX10_reset 62 = .ok (.istore_n 1, 1) := by decide +kernel
theorem dX10_reset_63 : decode cX10_reset 63 = .ok (.iload_n 1, 1) := by decide +kernel
theorem dX10_reset_64 : decode cX10_reset 64 = .ok (.iconst 4, 1) := by decide +kernel
theorem dX10_reset_65 : decode cX10_reset 65 = .ok (.if_icmp .ge 16, 3) := by decide +kernel
theorem dX10_reset_68 : decode cX10_reset 68 = .ok (.aload_n 0, 1) := by decide +kernel
theorem dX10_reset_69 : decode cX10_reset 69 = .ok (.getfield 38, 3) := by decide +kernel
theorem dX10_reset_72 : decode cX10_reset 72 = .ok (.iload_n 1, 1) := by decide +kernel
theorem dX10_reset_73 : decode cX10_reset 73 = .ok (.iconst 0, 1) := by decide +kernel
theorem dX10_reset_74 : decode cX10_reset 74 = .ok (.iastore, 1) := by decide +kernel
theorem dX10_reset_75 : decode cX10_reset 75 = .ok (.iinc 1 1, 3) := by decide +kernel
theorem dX10_reset_78 : decode cX10_reset 78 = .ok (.goto (-15), 3) := by decide +kernel
theorem dX10_reset_81 : decode cX10_reset 81 = .ok (.aload_n 0, 1) := by decide +kernel
theorem dX10_reset_82 : decode cX10_reset 82 = .ok (.iconst 0, 1) := by decide +kernel
theorem dX10_reset_83 : decode cX10_reset 83 = .ok (.putfield 163, 3) := by decide +kernel
theorem dX10_reset_86 : decode cX10_reset 86 = .ok (.aload_n 0, 1) := by decide +kernel
theorem dX10_reset_87 : decode cX10_reset 87 = .ok (.iconst 0, 1) := by decide +kernel
theorem dX10_reset_88 : decode cX10_reset 88 = .ok (.putfield 76, 3) := by decide +kernel
theorem dX10_reset_91 : decode cX10_reset 91 = .ok (.aload_n 0, 1) := by decide +kernel
theorem dX10_reset_92 : decode cX10_reset 92 = .ok (.iconst 0, 1) := by decide +kernel
theorem dX10_reset_93 : decode cX10_reset 93 = .ok (.putfield 79, 3) := by decide +kernel
theorem dX10_reset_96 : decode cX10_reset 96 = .ok (.return_, 1) := by decide +kernel
theorem dX10_pass_0 : decode cX10_pass 0 = .ok (.aload_n 0, 1) := by decide +kernel
theorem dX10_pass_1 : decode cX10_pass 1 = .ok (.iconst 0, 1) := by decide +kernel
theorem dX10_pass_2 : decode cX10_pass 2 = .ok (.putfield 61, 3) := by decide +kernel
theorem dX10_pass_5 : decode cX10_pass 5 = .ok (.iload_n 1, 1) := by decide +kernel
theorem dX10_pass_6 : decode cX10_pass 6 = .ok (.ifCond .lt 10, 3) := by decide +kernel
theorem dX10_pass_9 : decode cX10_pass 9 = .ok (.iload_n 1, 1) := by decide +kernel
theorem dX10_pass_10 : decode cX10_pass 10 = .ok (.sipush 30000, 3) := by decide +kernel
theorem dX10_pass_13 : decode cX10_pass 13 = .ok (.if_icmp .le 5, 3) := by decide +kernel
theorem dX10_pass_16 : decode cX10_pass 16 = .ok (.iconst 0, 1) := by decide +kernel
theorem dX10_pass_17 : decode cX10_pass 17 = .ok (.ireturn, 1) := by decide +kernel
theorem dX10_pass_18 : decode cX10_pass 18 = .ok (.aload_n 0, 1) := by decide +kernel
theorem dX10_pass_19 : decode cX10_pass 19 = .ok (.iload_n 1, 1) := by decide +kernel
theorem dX10_pass_20 : decode cX10_pass 20 = .ok (.invokevirtual 342, 3) := by decide +kernel
theorem dX10_pass_23 : decode cX10_pass 23 = .ok (.iconst 1, 1) := by decide +kernel
theorem dX10_pass_24 : decode cX10_pass 24 = .ok (.ireturn, 1) := by decide +kernel
theorem dX10_read_0 : decode cX10_read 0 = .ok (.aload_n 0, 1) := by decide +kernel
theorem dX10_read_1 : decode cX10_read 1 = .ok (.iconst 0, 1) := by decide +kernel
theorem dX10_read_2 : decode cX10_read 2 = .ok (.putfield 61, 3) := by decide +kernel
theorem dX10_read_5 : decode cX10_read 5 = .ok (.aload_n 0, 1) := by decide +kernel
theorem dX10_read_6 : decode cX10_read 6 = .ok (.iload_n 1, 1) := by decide +kernel
theorem dX10_read_7 : decode cX10_read 7 = .ok (.ldc 204, 2) := by decide +kernel
theorem dX10_read_9 : decode cX10_read 9 = .ok (.iand, 1) := by decide +kernel
theorem dX10_read_10 : decode cX10_read 10 = .ok (.invokevirtual 172, 3) := by decide +kernel
theorem dX10_read_13 : decode cX10_read 13 = .ok (.ireturn, 1) := by decide +kernel
theorem dX10_write_0 : decode cX10_write 0 = .ok (.aload_n 0, 1) := by decide +kernel
theorem dX10_write_1 : decode cX10_write 1 = .ok (.iconst 0, 1) := by decide +kernel
theorem dX10_write_2 : decode cX10_write 2 = .ok (.putfield 61, 3) := by decide +kernel
theorem dX10_write_5 : decode cX10_write 5 = .ok (.aload_n 0, 1) := by decide +kernel
theorem dX10_write_6 : decode cX10_write 6 = .ok (.iconst 0, 1) := by decide +kernel
theorem dX10_write_7 : decode cX10_write 7 = .ok (.putfield 178, 3) := by decide +kernel
theorem dX10_write_10 : decode cX10_write 10 = .ok (.aload_n 0, 1) := by decide +kernel
theorem dX10_write_11 : decode cX10_write 11 = .ok (.iload_n 1, 1) := by decide +kernel
theorem dX10_write_12 : decode cX10_write 12 = .ok (.ldc 204, 2) := by decide +kernel
theorem dX10_write_14 : decode cX10_write 14 = .ok (.iand, 1) := by decide +kernel
theorem dX10_write_15 : decode cX10_write 15 = .ok (.iload_n 2, 1) := by decide +kernel
theorem dX10_write_16 : decode cX10_write 16 = .ok (.sipush 255, 3) := by decide +kernel
theorem dX10_write_19 : decode cX10_write 19 = .ok (.iand, 1) := by decide +kernel
theorem dX10_write_20 : decode cX10_write 20 = .ok (.invokevirtual 272, 3) := by decide +kernel
theorem dX10_write_23 : decode cX10_write 23 = .ok (.aload_n 0, 1) := by decide +kernel
theorem dX10_write_24 : decode cX10_write 24 = .ok (.aload_n 0, 1) := by decide +kernel
theorem dX10_write_25 : decode cX10_write 25 = .ok (.getfield 178, 3) := by decide +kernel
theorem dX10_write_28 : decode cX10_write 28 = .ok (.invokevirtual 342, 3) := by decide +kernel
theorem dX10_write_31 : decode cX10_write 31 = .ok (.return_, 1) := by decide +kernel
theorem dX10_pad_0 : decode cX10_pad 0 = .ok (.aload_n 0, 1) := by decide +kernel
theorem dX10_pad_1 : decode cX10_pad 1 = .ok (.iload_n 1, 1) := by decide +kernel
theorem dX10_pad_2 : decode cX10_pad 2 = .ok (.ifCond .eq 8, 3) := by decide +kernel
theorem dX10_pad_5 : decode cX10_pad 5 = .ok (.iload_n 1, 1) := by decide +kernel
theorem dX10_pad_6 : decode cX10_pad 6 = .ok (.iconst 1, 1) := by decide +kernel
theorem dX10_pad_7 : decode cX10_pad 7 = .ok (.if_icmp .ne 7, 3) := by decide +kernel
theorem dX10_pad_10 : decode cX10_pad 10 = .ok (.iconst 0, 1) := by decide +kernel
theorem dX10_pad_11 : decode cX10_pad 11 = .ok (.goto 4, 3) := by decide +kernel
theorem dX10_pad_14 : decode cX10_pad 14 = .ok (.iconst 1, 1) := by decide +kernel
theorem dX10_pad_15 : decode cX10_pad 15 = .ok (.putfield 61, 3) := by decide +kernel
theorem dX10_pad_18 : decode cX10_pad 18 = .ok (.aload_n 0, 1) := by decide +kernel
theorem dX10_pad_19 : decode cX10_pad 19 = .ok (.getfield 61, 3) := by decide +kernel
theorem dX10_pad_22 : decode cX10_pad 22 = .ok (.ifCond .ne 14, 3) := by decide +kernel
theorem dX10_pad_25 : decode cX10_pad 25 = .ok (.aload_n 0, 1) := by decide +kernel
theorem dX10_pad_26 : decode cX10_pad 26 = .ok (.getfield 45, 3) := by decide +kernel
theorem dX10_pad_29 : decode cX10_pad 29 = .ok (.iload_n 1, 1) := by decide +kernel
theorem dX10_pad_30 : decode cX10_pad 30 = .ok (.iload_n 2, 1) := by decide +kernel
theorem dX10_pad_31 : decode cX10_pad 31 = .ok (.sipush 255, 3) := by decide +kernel
theorem dX10_pad_34 : decode cX10_pad 34 = .ok (.iand, 1) := by decide +kernel
theorem dX10_pad_35 : decode cX10_pad 35 = .ok (.iastore, 1) := by decide +kernel
theorem dX10_pad_36 : decode cX10_pad 36 = .ok (.return_, 1) := by decide +kernel
theorem dX10_core_0 : decode cX10_core 0 = .ok (.aload_n 0, 1) := by decide +kernel
theorem dX10_core_1 : decode cX10_core 1 = .ok (.iconst 0, 1) := by decide +kernel
theorem dX10_core_2 : decode cX10_core 2 = .ok (.putfield 61, 3) := by decide +kernel
theorem dX10_core_5 : decode cX10_core 5 = .ok (.iload_n 1, 1) := by decide +kernel
theorem dX10_core_6 : decode cX10_core 6 = .ok (.tableswitch 115 0 8 #[50, 55, 60, 65, 70, 75, 80, 90, 103], 50) := by decide +kernel
theorem dX10_core_56 : decode cX10_core 56 = .ok (.aload_n 0, 1) := by decide +kernel
theorem dX10_core_57 : decode cX10_core 57 = .ok (.getfield 266, 3) := by decide +kernel
theorem dX10_core_60 : decode cX10_core 60 = .ok (.ireturn, 1) := by decide +kernel
theorem dX10_core_61 : decode cX10_core 61 = .ok (.aload_n 0, 1) := by decide +kernel
theorem dX10_core_62 : decode cX10_core 62 = .ok (.getfield 244, 3) := by decide +kernel
theorem dX10_core_65 : decode cX10_core 65 = .ok (.ireturn, 1) := by decide +kernel
theorem dX10_core_66 : decode cX10_core 66 = .ok (.aload_n 0, 1) := by decide +kernel
theorem dX10_core_67 : decode cX10_core 67 = .ok (.getfield 247, 3) := by decide +kernel
theorem dX10_core_70 : decode cX10_core 70 = .ok (.ireturn, 1) := by decide +kernel
theorem dX10_core_71 : decode cX10_core 71 = .ok (.aload_n 0, 1) := by decide +kernel
theorem dX10_core_72 : decode cX10_core 72 = .ok (.getfield 225, 3) := by decide +kernel
theorem dX10_core_75 : decode cX10_core 75 = .ok (.ireturn, 1) := by decide +kernel
theorem dX10_core_76 : decode cX10_core 76 = .ok (.aload_n 0, 1) := by decide +kernel
theorem dX10_core_77 : decode cX10_core 77 = .ok (.getfield 22, 3) := by decide +kernel
theorem dX10_core_80 : decode cX10_core 80 = .ok (.ireturn, 1) := by decide +kernel
theorem dX10_core_81 : decode cX10_core 81 = .ok (.aload_n 0, 1) := by decide +kernel
theorem dX10_core_82 : decode cX10_core 82 = .ok (.getfield 218, 3) := by decide +kernel
theorem dX10_core_85 : decode cX10_core 85 = .ok (.ireturn, 1) := by decide +kernel
theorem dX10_core_86 : decode cX10_core 86 = .ok (.aload_n 0, 1) := by decide +kernel
theorem dX10_core_87 : decode cX10_core 87 = .ok (.getfield 181, 3) := by decide +kernel
theorem dX10_core_90 : decode cX10_core 90 = .ok (.ldc2_w 349, 3) := by decide +kernel
theorem dX10_core_93 : decode cX10_core 93 = .ok (.land, 1) := by decide +kernel
theorem dX10_core_94 : decode cX10_core 94 = .ok (.l2i, 1) := by decide +kernel
theorem dX10_core_95 : decode cX10_core 95 = .ok (.ireturn, 1) := by decide +kernel
theorem dX10_core_96 : decode cX10_core 96 = .ok (.aload_n 0, 1) := by decide +kernel
theorem dX10_core_97 : decode cX10_core 97 = .ok (.getfield 128, 3) := by decide +kernel
theorem dX10_core_100 : decode cX10_core 100 = .ok (.ifCond .eq 7, 3) := by decide +kernel
theorem dX10_core_103 : decode cX10_core 103 = .ok (.iconst 1, 1) := by decide +kernel
theorem dX10_core_104 : decode cX10_core 104 = .ok (.goto 4, 3) := by decide +kernel
theorem dX10_core_107 : decode cX10_core 107 = .ok (.iconst 0, 1) := by decide +kernel
theorem dX10_core_108 : decode cX10_core 108 = .ok (.ireturn, 1) := by decide +kernel
theorem dX10_core_109 : decode cX10_core 109 = .ok (.aload_n 0, 1) := by decide +kernel
theorem dX10_core_110 : decode cX10_core 110 = .ok (.getfield 163, 3) := by decide +kernel
theorem dX10_core_113 : decode cX10_core 113 = .ok (.iconst 2, 1) := by decide +kernel
theorem dX10_core_114 : decode cX10_core 114 = .ok (.aload_n 0, 1) := by decide +kernel
theorem dX10_core_115 : decode cX10_core 115 = .ok (.getfield 91, 3) := by decide +kernel
theorem dX10_core_118 : decode cX10_core 118 = .ok (.imul, 1) := by decide +kernel
theorem dX10_core_119 : decode cX10_core 119 = .ok (.iadd, 1) := by decide +kernel
theorem dX10_core_120 : decode cX10_core 120 = .ok (.ireturn, 1) := by decide +kernel
theorem dX10_core_121 : decode cX10_core 121 = .ok (.aload_n 0, 1) := by decide +kernel
theorem dX10_core_122 : decode cX10_core 122 = .ok (.invokevirtual 351, 3) := by decide +kernel
theorem dX10_core_125 : decode cX10_core 125 = .ok (.ireturn, 1) := by decide +kernel
theorem dX10_picture_0 : decode cX10_picture 0 = .ok (.aload_n 0, 1) := by decide +kernel
theorem dX10_picture_1 : decode cX10_picture 1 = .ok (.iconst 0, 1) := by decide +kernel
theorem dX10_picture_2 : decode cX10_picture 2 = .ok (.putfield 61, 3) := by decide +kernel
theorem dX10_picture_5 : decode cX10_picture 5 = .ok (.iload_n 1, 1) := by decide +kernel
theorem dX10_picture_6 : decode cX10_picture 6 = .ok (.tableswitch 113 0 10 #[58, 63, 68, 73, 78, 83, 88, 93, 98, 103, 108], 58) := by decide +kernel
theorem dX10_picture_64 : decode cX10_picture 64 = .ok (.aload_n 0, 1) := by decide +kernel
theorem dX10_picture_65 : decode cX10_picture 65 = .ok (.getfield 104, 3) := by decide +kernel
theorem dX10_picture_68 : decode cX10_picture 68 = .ok (.ireturn, 1) := by decide +kernel
theorem dX10_picture_69 : decode cX10_picture 69 = .ok (.aload_n 0, 1) := by decide +kernel
theorem dX10_picture_70 : decode cX10_picture 70 = .ok (.getfield 131, 3) := by decide +kernel
theorem dX10_picture_73 : decode cX10_picture 73 = .ok (.ireturn, 1) := by decide +kernel
theorem dX10_picture_74 : decode cX10_picture 74 = .ok (.aload_n 0, 1) := by decide +kernel
theorem dX10_picture_75 : decode cX10_picture 75 = .ok (.getfield 137, 3) := by decide +kernel
theorem dX10_picture_78 : decode cX10_picture 78 = .ok (.ireturn, 1) := by decide +kernel
theorem dX10_picture_79 : decode cX10_picture 79 = .ok (.aload_n 0, 1) := by decide +kernel
theorem dX10_picture_80 : decode cX10_picture 80 = .ok (.getfield 113, 3) := by decide +kernel
theorem dX10_picture_83 : decode cX10_picture 83 = .ok (.ireturn, 1) := by decide +kernel
theorem dX10_picture_84 : decode cX10_picture 84 = .ok (.aload_n 0, 1) := by decide +kernel
theorem dX10_picture_85 : decode cX10_picture 85 = .ok (.getfield 107, 3) := by decide +kernel
theorem dX10_picture_88 : decode cX10_picture 88 = .ok (.ireturn, 1) := by decide +kernel
theorem dX10_picture_89 : decode cX10_picture 89 = .ok (.aload_n 0, 1) := by decide +kernel
theorem dX10_picture_90 : decode cX10_picture 90 = .ok (.getfield 134, 3) := by decide +kernel
theorem dX10_picture_93 : decode cX10_picture 93 = .ok (.ireturn, 1) := by decide +kernel
theorem dX10_picture_94 : decode cX10_picture 94 = .ok (.aload_n 0, 1) := by decide +kernel
theorem dX10_picture_95 : decode cX10_picture 95 = .ok (.getfield 110, 3) := by decide +kernel
theorem dX10_picture_98 : decode cX10_picture 98 = .ok (.ireturn, 1) := by decide +kernel
theorem dX10_picture_99 : decode cX10_picture 99 = .ok (.aload_n 0, 1) := by decide +kernel
theorem dX10_picture_100 : decode cX10_picture 100 = .ok (.getfield 116, 3) := by decide +kernel
theorem dX10_picture_103 : decode cX10_picture 103 = .ok (.ireturn, 1) := by decide +kernel
theorem dX10_picture_104 : decode cX10_picture 104 = .ok (.aload_n 0, 1) := by decide +kernel
theorem dX10_picture_105 : decode cX10_picture 105 = .ok (.getfield 208, 3) := by decide +kernel
theorem dX10_picture_108 : decode cX10_picture 108 = .ok (.ireturn, 1) := by decide +kernel
theorem dX10_picture_109 : decode cX10_picture 109 = .ok (.aload_n 0, 1) := by decide +kernel
theorem dX10_picture_110 : decode cX10_picture 110 = .ok (.getfield 205, 3) := by decide +kernel
theorem dX10_picture_113 : decode cX10_picture 113 = .ok (.ireturn, 1) := by decide +kernel
theorem dX10_picture_114 : decode cX10_picture 114 = .ok (.aload_n 0, 1) := by decide +kernel
theorem dX10_picture_115 : decode cX10_picture 115 = .ok (.getfield 122, 3) := by decide +kernel
theorem dX10_picture_118 : decode cX10_picture 118 = .ok (.ireturn, 1) := by decide +kernel
theorem dX10_picture_119 : decode cX10_picture 119 = .ok (.aload_n 0, 1) := by decide +kernel
theorem dX10_picture_120 : decode cX10_picture 120 = .ok (.invokevirtual 351, 3) := by decide +kernel
theorem dX10_picture_123 : decode cX10_picture 123 = .ok (.ireturn, 1) := by decide +kernel
theorem dX10_memory_0 : decode cX10_memory 0 = .ok (.aload_n 0, 1) := by decide +kernel
theorem dX10_memory_1 : decode cX10_memory 1 = .ok (.iconst 0, 1) := by decide +kernel
theorem dX10_memory_2 : decode cX10_memory 2 = .ok (.putfield 61, 3) := by decide +kernel
theorem dX10_memory_5 : decode cX10_memory 5 = .ok (.aload_n 0, 1) := by decide +kernel
theorem dX10_memory_6 : decode cX10_memory 6 = .ok (.iload_n 1, 1) := by decide +kernel
theorem dX10_memory_7 : decode cX10_memory 7 = .ok (.invokevirtual 119, 3) := by decide +kernel
theorem dX10_memory_10 : decode cX10_memory 10 = .ok (.ireturn, 1) := by decide +kernel
theorem dX10_oam_0 : decode cX10_oam 0 = .ok (.aload_n 0, 1) := by decide +kernel
theorem dX10_oam_1 : decode cX10_oam 1 = .ok (.iconst 0, 1) := by decide +kernel
theorem dX10_oam_2 : decode cX10_oam 2 = .ok (.putfield 61, 3) := by decide +kernel
theorem dX10_oam_5 : decode cX10_oam 5 = .ok (.iload_n 1, 1) := by decide +kernel
theorem dX10_oam_6 : decode cX10_oam 6 = .ok (.ifCond .lt 19, 3) := by decide +kernel
theorem dX10_oam_9 : decode cX10_oam 9 = .ok (.iload_n 1, 1) := by decide +kernel
theorem dX10_oam_10 : decode cX10_oam 10 = .ok (.sipush 255, 3) := by decide +kernel
theorem dX10_oam_13 : decode cX10_oam 13 = .ok (.if_icmp .gt 12, 3) := by decide +kernel
theorem dX10_oam_16 : decode cX10_oam 16 = .ok (.aload_n 0, 1) := by decide +kernel
theorem dX10_oam_17 : decode cX10_oam 17 = .ok (.getfield 26, 3) := by decide +kernel
theorem dX10_oam_20 : decode cX10_oam 20 = .ok (.iload_n 1, 1) := by decide +kernel
theorem dX10_oam_21 : decode cX10_oam 21 = .ok (.iaload, 1) := by decide +kernel
theorem dX10_oam_22 : decode cX10_oam 22 = .ok (.goto 7, 3) := by decide +kernel
theorem dX10_oam_25 : decode cX10_oam 25 = .ok (.aload_n 0, 1) := by decide +kernel
theorem dX10_oam_26 : decode cX10_oam 26 = .ok (.invokevirtual 351, 3) := by decide +kernel
theorem dX10_oam_29 : decode cX10_oam 29 = .ok (.ireturn, 1) := by decide +kernel
theorem dX10_cartridge_0 : decode cX10_cartridge 0 = .ok (.aload_n 0, 1) := by decide +kernel
theorem dX10_cartridge_1 : decode cX10_cartridge 1 = .ok (.iconst 0, 1) := by decide +kernel
theorem dX10_cartridge_2 : decode cX10_cartridge 2 = .ok (.putfield 61, 3) := by decide +kernel
theorem dX10_cartridge_5 : decode cX10_cartridge 5 = .ok (.iload_n 1, 1) := by decide +kernel
theorem dX10_cartridge_6 : decode cX10_cartridge 6 = .ok (.ifCond .lt 9, 3) := by decide +kernel
theorem dX10_cartridge_9 : decode cX10_cartridge 9 = .ok (.iload_n 1, 1) := by decide +kernel
theorem dX10_cartridge_10 : decode cX10_cartridge 10 = .ok (.bipush 13, 2) := by decide +kernel
theorem dX10_cartridge_12 : decode cX10_cartridge 12 = .ok (.if_icmp .le 8, 3) := by decide +kernel
theorem dX10_cartridge_15 : decode cX10_cartridge 15 = .ok (.aload_n 0, 1) := by decide +kernel
theorem dX10_cartridge_16 : decode cX10_cartridge 16 = .ok (.invokevirtual 351, 3) := by decide +kernel
theorem dX10_cartridge_19 : decode cX10_cartridge 19 = .ok (.ireturn, 1) := by decide +kernel
theorem dX10_cartridge_20 : decode cX10_cartridge 20 = .ok (.iload_n 1, 1) := by decide +kernel
theorem dX10_cartridge_21 : decode cX10_cartridge 21 = .ok (.iconst 4, 1) := by decide +kernel
theorem dX10_cartridge_22 : decode cX10_cartridge 22 = .ok (.if_icmp .ge 9, 3) := by decide +kernel
theorem dX10_cartridge_25 : decode cX10_cartridge 25 = .ok (.aload_n 0, 1) := by decide +kernel
theorem dX10_cartridge_26 : decode cX10_cartridge 26 = .ok (.iload_n 1, 1) := by decide +kernel
theorem dX10_cartridge_27 : decode cX10_cartridge 27 = .ok (.invokevirtual 192, 3) := by decide +kernel
theorem dX10_cartridge_30 : decode cX10_cartridge 30 = .ok (.ireturn, 1) := by decide +kernel
theorem dX10_cartridge_31 : decode cX10_cartridge 31 = .ok (.iload_n 1, 1) := by decide +kernel
theorem dX10_cartridge_32 : decode cX10_cartridge 32 = .ok (.bipush 12, 2) := by decide +kernel
theorem dX10_cartridge_34 : decode cX10_cartridge 34 = .ok (.if_icmp .ge 13, 3) := by decide +kernel
theorem dX10_cartridge_37 : decode cX10_cartridge 37 = .ok (.aload_n 0, 1) := by decide +kernel
theorem dX10_cartridge_38 : decode cX10_cartridge 38 = .ok (.iload_n 1, 1) := by decide +kernel
theorem dX10_cartridge_39 : decode cX10_cartridge 39 = .ok (.iconst 4, 1) := by decide +kernel
theorem dX10_cartridge_40 : decode cX10_cartridge 40 = .ok (.isub, 1) := by decide +kernel
theorem dX10_cartridge_41 : decode cX10_cartridge 41 = .ok (.invokevirtual 94, 3) := by decide +kernel
theorem dX10_cartridge_44 : decode cX10_cartridge 44 = .ok (.goto 20, 3) := by decide +kernel
theorem dX10_cartridge_47 : decode cX10_cartridge 47 = .ok (.iload_n 1, 1) := by decide +kernel
theorem dX10_cartridge_48 : decode cX10_cartridge 48 = .ok (.bipush 12, 2) := by decide +kernel
theorem dX10_cartridge_50 : decode cX10_cartridge 50 = .ok (.if_icmp .ne 10, 3) := by decide +kernel
theorem dX10_cartridge_53 : decode cX10_cartridge 53 = .ok (.aload_n 0, 1) := by decide +kernel
theorem dX10_cartridge_54 : decode cX10_cartridge 54 = .ok (.getfield 55, 3) := by decide +kernel
theorem dX10_cartridge_57 : decode cX10_cartridge 57 = .ok (.goto 7, 3) := by decide +kernel
theorem dX10_cartridge_60 : decode cX10_cartridge 60 = .ok (.aload_n 0, 1) := by decide +kernel
theorem dX10_cartridge_61 : decode cX10_cartridge 61 = .ok (.getfield 82, 3) := by decide +kernel
theorem dX10_cartridge_64 : decode cX10_cartridge 64 = .ok (.ireturn, 1) := by decide +kernel
theorem dX10_sound_0 : decode cX10_sound 0 = .ok (.aload_n 0, 1) := by decide +kernel
theorem dX10_sound_1 : decode cX10_sound 1 = .ok (.iconst 0, 1) := by decide +kernel
theorem dX10_sound_2 : decode cX10_sound 2 = .ok (.putfield 61, 3) := by decide +kernel
theorem dX10_sound_5 : decode cX10_sound 5 = .ok (.iload_n 1, 1) := by decide +kernel
theorem dX10_sound_6 : decode cX10_sound 6 = .ok (.ifCond .lt 8, 3) := by decide +kernel
theorem dX10_sound_9 : decode cX10_sound 9 = .ok (.iload_n 1, 1) := by decide +kernel
theorem dX10_sound_10 : decode cX10_sound 10 = .ok (.iconst 4, 1) := by decide +kernel
theorem dX10_sound_11 : decode cX10_sound 11 = .ok (.if_icmp .le 8, 3) := by decide +kernel
theorem dX10_sound_14 : decode cX10_sound 14 = .ok (.aload_n 0, 1) := by decide +kernel
theorem dX10_sound_15 : decode cX10_sound 15 = .ok (.invokevirtual 351, 3) := by decide +kernel
theorem dX10_sound_18 : decode cX10_sound 18 = .ok (.ireturn, 1) := by decide +kernel
theorem dX10_sound_19 : decode cX10_sound 19 = .ok (.iload_n 1, 1) := by decide +kernel
theorem dX10_sound_20 : decode cX10_sound 20 = .ok (.iconst 4, 1) := by decide +kernel
theorem dX10_sound_21 : decode cX10_sound 21 = .ok (.if_icmp .ge 12, 3) := by decide +kernel
theorem dX10_sound_24 : decode cX10_sound 24 = .ok (.aload_n 0, 1) := by decide +kernel
theorem dX10_sound_25 : decode cX10_sound 25 = .ok (.getfield 38, 3) := by decide +kernel
theorem dX10_sound_28 : decode cX10_sound 28 = .ok (.iload_n 1, 1) := by decide +kernel
theorem dX10_sound_29 : decode cX10_sound 29 = .ok (.iaload, 1) := by decide +kernel
theorem dX10_sound_30 : decode cX10_sound 30 = .ok (.goto 7, 3) := by decide +kernel
theorem dX10_sound_33 : decode cX10_sound 33 = .ok (.aload_n 0, 1) := by decide +kernel
theorem dX10_sound_34 : decode cX10_sound 34 = .ok (.getfield 166, 3) := by decide +kernel
theorem dX10_sound_37 : decode cX10_sound 37 = .ok (.ireturn, 1) := by decide +kernel
