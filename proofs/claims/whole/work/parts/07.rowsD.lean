set_option maxRecDepth 20000 in
theorem ggX10_compare_X10_flag : GoodIn wsX10_compare wsX10_flag := goodIn_r _ [5, 6, 11, 12, 13, 14, 15, 16, 17, 18, 19, 20, 21, 22, 23, 24, 25, 26, 27, 28, 29, 30, 31, 32, 33, 34, 35, 36, 37, 38, 39, 40, 41, 42, 43, 44, 45, 46, 47, 48, 49, 50, 51, 52, 53, 54, 55, 56, 57, 58, 59, 60, 61, 62, 63] (by decide +kernel) (by decide +kernel)
set_option maxRecDepth 20000 in
theorem gX10_compare_X10_flag : GoodIn wsX10_compare (wsV RX10 234 RX10 yX10_flag wsX10_flag) := goodIn_app (goodIn_of _ (by decide +kernel)) ggX10_compare_X10_flag
set_option maxRecDepth 20000 in
theorem ggX10_compare_X10_shown : GoodIn wsX10_compare wsX10_shown := goodIn_r _ [10, 1, 2, 3, 4, 5, 6, 11, 12, 13, 14, 15, 16, 17, 18, 19, 20, 21, 22, 23, 24, 25, 26, 27, 28, 29, 30, 31, 32, 33, 34, 35, 36, 37, 38, 39, 40, 41, 42, 43, 44, 45, 46, 47, 48, 49, 50, 51, 52, 53, 54, 55, 56, 57, 58, 59, 60, 61, 62, 63] (by decide +kernel) (by decide +kernel)
set_option maxRecDepth 20000 in
theorem gX10_compare_X10_shown : GoodIn wsX10_compare (wsV RX10 263 RX10 yX10_shown wsX10_shown) := goodIn_app (goodIn_of _ (by decide +kernel)) ggX10_compare_X10_shown
theorem dX10_compare_0 : decode cX10_compare 0 = .ok (.aload_n 0, 1) := by decide +kernel
theorem dX10_compare_1 : decode cX10_compare 1 = .ok (.iconst 1, 1) := by decide +kernel
theorem dX10_compare_2 : decode cX10_compare 2 = .ok (.iload_n 1, 1) := by decide +kernel
theorem dX10_compare_3 : decode cX10_compare 3 = .ok (.iload_n 2, 1) := by decide +kernel
theorem dX10_compare_4 : decode cX10_compare 4 = .ok (.if_icmp .lt 7, 3) := by decide +kernel
theorem dX10_compare_7 : decode cX10_compare 7 = .ok (.iconst 1, 1) := by decide +kernel
theorem dX10_compare_8 : decode cX10_compare 8 = .ok (.goto 4, 3) := by decide +kernel
theorem dX10_compare_11 : decode cX10_compare 11 = .ok (.iconst 0, 1) := by decide +kernel
theorem dX10_compare_12 : decode cX10_compare 12 = .ok (.invokevirtual 234, 3) := by decide +kernel
theorem dX10_compare_15 : decode cX10_compare 15 = .ok (.aload_n 0, 1) := by decide +kernel
theorem dX10_compare_16 : decode cX10_compare 16 = .ok (.iload_n 1, 1) := by decide +kernel
theorem dX10_compare_17 : decode cX10_compare 17 = .ok (.iload_n 2, 1) := by decide +kernel
theorem dX10_compare_18 : decode cX10_compare 18 = .ok (.isub, 1) := by decide +kernel
theorem dX10_compare_19 : decode cX10_compare 19 = .ok (.sipush 255, 3) := by decide +kernel
theorem dX10_compare_22 : decode cX10_compare 22 = .ok (.iand, 1) := by decide +kernel
theorem dX10_compare_23 : decode cX10_compare 23 = .ok (.invokevirtual 263, 3) := by decide +kernel
theorem dX10_compare_26 : decode cX10_compare 26 = .ok (.pop, 1) := by decide +kernel
theorem dX10_compare_27 : decode cX10_compare 27 = .ok (.return_, 1) := by decide +kernel
set_option maxRecDepth 20000 in
theorem ggX10_add_X10_flag : GoodIn wsX10_add wsX10_flag := goodIn_r _ [7, 2, 12, 13, 14, 15, 16, 17, 18, 19, 20, 21, 22, 23, 24, 25, 26, 27, 28, 29, 30, 31, 32, 33, 34, 35, 36, 37, 38, 39, 40, 41, 42, 43, 44, 45, 46, 47, 48, 49, 50, 51, 52, 53, 54, 55, 56, 57, 58, 59, 60, 61, 62, 63, 64] (by decide +kernel) (by decide +kernel)
set_option maxRecDepth 20000 in
theorem gX10_add_X10_flag : GoodIn wsX10_add (wsV RX10 234 RX10 yX10_flag wsX10_flag) := goodIn_app (goodIn_of _ (by decide +kernel)) ggX10_add_X10_flag
set_option maxRecDepth 20000 in
theorem ggX10_add_X10_shown : GoodIn wsX10_add wsX10_shown := goodIn_r _ [11, 3, 4, 5, 6, 7, 2, 12, 13, 14, 15, 16, 17, 18, 19, 20, 21, 22, 23, 24, 25, 26, 27, 28, 29, 30, 31, 32, 33, 34, 35, 36, 37, 38, 39, 40, 41, 42, 43, 44, 45, 46, 47, 48, 49, 50, 51, 52, 53, 54, 55, 56, 57, 58, 59, 60, 61, 62, 63, 64] (by decide +kernel) (by decide +kernel)
set_option maxRecDepth 20000 in
theorem gX10_add_X10_shown : GoodIn wsX10_add (wsV RX10 263 RX10 yX10_shown wsX10_shown) := goodIn_app (goodIn_of _ (by decide +kernel)) ggX10_add_X10_shown
theorem dX10_add_0 : decode cX10_add 0 = .ok (.aload_n 0, 1) := by decide +kernel
theorem dX10_add_1 : decode cX10_add 1 = .ok (.getfield 266, 3) := by decide +kernel
theorem dX10_add_4 : decode cX10_add 4 = .ok (.iload_n 1, 1) := by decide +kernel
theorem dX10_add_5 : decode cX10_add 5 = .ok (.iadd, 1) := by decide +kernel
theorem dX10_add_6 : decode cX10_add 6 = .ok (.aload_n 0, 1) := by decide +kernel
theorem dX10_add_7 : decode cX10_add 7 = .ok (.getfield 22, 3) := by decide +kernel
theorem dX10_add_10 : decode cX10_add 10 = .ok (.iconst 1, 1) := by decide +kernel
theorem dX10_add_11 : decode cX10_add 11 = .ok (.iand, 1) := by decide +kernel
theorem dX10_add_12 : decode cX10_add 12 = .ok (.iadd, 1) := by decide +kernel
theorem dX10_add_13 : decode cX10_add 13 = .ok (.istore_n 2, 1) := by decide +kernel
theorem dX10_add_14 : decode cX10_add 14 = .ok (.aload_n 0, 1) := by decide +kernel
theorem dX10_add_15 : decode cX10_add 15 = .ok (.iconst 1, 1) := by decide +kernel
theorem dX10_add_16 : decode cX10_add 16 = .ok (.iload_n 2, 1) := by decide +kernel
theorem dX10_add_17 : decode cX10_add 17 = .ok (.sipush 255, 3) := by decide +kernel
theorem dX10_add_20 : decode cX10_add 20 = .ok (.if_icmp .le 7, 3) := by decide +kernel
theorem dX10_add_23 : decode cX10_add 23 = .ok (.iconst 1, 1) := by decide +kernel
theorem dX10_add_24 : decode cX10_add 24 = .ok (.goto 4, 3) := by decide +kernel
theorem dX10_add_27 : decode cX10_add 27 = .ok (.iconst 0, 1) := by decide +kernel
theorem dX10_add_28 : decode cX10_add 28 = .ok (.invokevirtual 234, 3) := by decide +kernel
theorem dX10_add_31 : decode cX10_add 31 = .ok (.aload_n 0, 1) := by decide +kernel
theorem dX10_add_32 : decode cX10_add 32 = .ok (.bipush 64, 2) := by decide +kernel
theorem dX10_add_34 : decode cX10_add 34 = .ok (.aload_n 0, 1) := by decide +kernel
theorem dX10_add_35 : decode cX10_add 35 = .ok (.getfield 266, 3) := by decide +kernel
theorem dX10_add_38 : decode cX10_add 38 = .ok (.iload_n 1, 1) := by decide +kernel
theorem dX10_add_39 : decode cX10_add 39 = .ok (.ixor, 1) := by decide +kernel
theorem dX10_add_40 : decode cX10_add 40 = .ok (.iconst (-1), 1) := by decide +kernel
theorem dX10_add_41 : decode cX10_add 41 = .ok (.ixor, 1) := by decide +kernel
theorem dX10_add_42 : decode cX10_add 42 = .ok (.aload_n 0, 1) := by decide +kernel
theorem dX10_add_43 : decode cX10_add 43 = .ok (.getfield 266, 3) := by decide +kernel
theorem dX10_add_46 : decode cX10_add 46 = .ok (.iload_n 2, 1) := by decide +kernel
theorem dX10_add_47 : decode cX10_add 47 = .ok (.ixor, 1) := by decide +kernel
theorem dX10_add_48 : decode cX10_add 48 = .ok (.iand, 1) := by decide +kernel
theorem dX10_add_49 : decode cX10_add 49 = .ok (.sipush 128, 3) := by decide +kernel
theorem dX10_add_52 : decode cX10_add 52 = .ok (.iand, 1) := by decide +kernel
theorem dX10_add_53 : decode cX10_add 53 = .ok (.ifCond .eq 7, 3) := by decide +kernel
theorem dX10_add_56 : decode cX10_add 56 = .ok (.iconst 1, 1) := by decide +kernel
theorem dX10_add_57 : decode cX10_add 57 = .ok (.goto 4, 3) := by decide +kernel
theorem dX10_add_60 : decode cX10_add 60 = .ok (.iconst 0, 1) := by decide +kernel
theorem dX10_add_61 : decode cX10_add 61 = .ok (.invokevirtual 234, 3) := by decide +kernel
theorem dX10_add_64 : decode cX10_add 64 = .ok (.aload_n 0, 1) := by decide +kernel
theorem dX10_add_65 : decode cX10_add 65 = .ok (.aload_n 0, 1) := by decide +kernel
theorem dX10_add_66 : decode cX10_add 66 = .ok (.iload_n 2, 1) := by decide +kernel
theorem dX10_add_67 : decode cX10_add 67 = .ok (.sipush 255, 3) := by decide +kernel
theorem dX10_add_70 : decode cX10_add 70 = .ok (.iand, 1) := by decide +kernel
theorem dX10_add_71 : decode cX10_add 71 = .ok (.invokevirtual 263, 3) := by decide +kernel
theorem dX10_add_74 : decode cX10_add 74 = .ok (.putfield 266, 3) := by decide +kernel
theorem dX10_add_77 : decode cX10_add 77 = .ok (.return_, 1) := by decide +kernel
set_option maxRecDepth 20000 in
theorem ggX10_arithmetic_X10_addressed : GoodIn wsX10_arithmetic wsX10_addressed := goodIn_r _ [7, 8, 9, 10, 11, 12, 13, 14, 6, 15, 16, 17, 18, 19, 20, 21, 22, 23, 24, 25, 26, 27, 28, 29, 30, 31, 32, 33, 34, 35, 36, 37, 38, 39, 40, 41, 42, 43, 44, 45, 46, 47, 48, 49, 50, 51, 52, 53, 54, 55, 56, 57, 58, 59, 60, 61, 62, 63, 64, 65, 66, 67, 68, 69, 70, 71, 72, 73, 74, 75, 76, 77, 78, 79, 80, 81, 82, 83, 84, 85, 2, 86, 87, 88, 89, 162, 163, 164, 165, 166, 167, 168, 169, 170, 171, 172, 173, 174, 175, 176, 177, 178, 179, 180, 181, 182, 183, 184, 185, 186, 187, 188, 189, 190, 191, 192, 193, 194, 195, 196, 197, 198, 199, 200, 201, 202, 203, 204, 205, 206, 207, 208, 209, 210, 211, 212, 213, 214] (by decide +kernel) (by decide +kernel)
set_option maxRecDepth 20000 in
theorem gX10_arithmetic_X10_addressed : GoodIn wsX10_arithmetic (wsV RX10 269 RX10 yX10_addressed wsX10_addressed) := goodIn_app (goodIn_of _ (by decide +kernel)) ggX10_arithmetic_X10_addressed
set_option maxRecDepth 20000 in
theorem ggX10_arithmetic_X10_put : GoodIn wsX10_arithmetic wsX10_put := goodIn_r _ [93, 20, 21, 45, 23, 94, 95, 96, 6, 97, 28, 63, 98, 99, 100, 31, 30, 29, 101, 32, 102, 103, 104, 105, 40, 34, 56, 57, 58, 51, 52, 53, 54, 55, 59, 60, 61, 62, 106, 107, 108, 109, 110, 111, 69, 72, 70, 71, 112, 113, 68, 114, 115, 116, 117, 118, 119, 120, 121, 122, 123, 16, 17, 18, 19, 22, 24, 25, 26, 27, 33, 35, 36, 37, 38, 39, 41, 42, 43, 44, 46, 47, 48, 49, 50, 64, 65, 66, 67, 73, 74, 75, 76, 77, 124, 125, 126, 127, 128, 129, 130, 131, 132, 133, 134, 135, 136, 137, 138, 139, 140, 141, 162, 163, 164, 165, 166, 167, 168, 169, 170, 171, 172, 173, 174, 175, 176, 177, 178, 179, 180, 181, 182, 183, 184, 185, 186, 187, 188, 189, 190, 191, 192, 193, 194, 195, 196, 197, 198, 199, 200, 201, 202, 203, 204, 205, 206, 207, 208, 209, 210, 211, 212, 213, 214] (by decide +kernel) (by decide +kernel)
set_option maxRecDepth 20000 in
theorem gX10_arithmetic_X10_put : GoodIn wsX10_arithmetic (wsV RX10 272 RX10 yX10_put wsX10_put) := goodIn_app (goodIn_of _ (by decide +kernel)) ggX10_arithmetic_X10_put
set_option maxRecDepth 20000 in
theorem ggX10_arithmetic_X10_cyclesOf : GoodIn wsX10_arithmetic wsX10_cyclesOf := goodIn_r _ [144] (by decide +kernel) (by decide +kernel)
set_option maxRecDepth 20000 in
theorem gX10_arithmetic_X10_cyclesOf : GoodIn wsX10_arithmetic (va_wsS RX10 275 yX10_cyclesOf wsX10_cyclesOf) := goodIn_app (goodIn_of _ (by decide +kernel)) ggX10_arithmetic_X10_cyclesOf
set_option maxRecDepth 20000 in
theorem ggX10_arithmetic_X10_get : GoodIn wsX10_arithmetic wsX10_get := goodIn_r _ [19, 20, 21, 22, 23, 24, 25, 26, 6, 27, 28, 29, 30, 31, 32, 33, 34, 35, 36, 37, 38, 39, 40, 41, 42, 43, 44, 45, 46, 47, 48, 49, 50, 51, 52, 53, 54, 55, 56, 57, 58, 59, 60, 61, 62, 63, 64, 65, 66, 67, 68, 69, 70, 71, 72, 73, 74, 75, 76, 77, 162, 163, 164, 165, 166, 167, 168, 169, 170, 171, 172, 173, 174, 175, 176, 177, 178, 179, 180, 181, 182, 183, 184, 185, 186, 187, 188, 189, 190, 191, 192, 193, 194, 195, 196, 197, 198, 199, 200, 201, 202, 203, 204, 205, 206, 207, 208, 209, 210, 211, 212, 213, 214] (by decide +kernel) (by decide +kernel)
set_option maxRecDepth 20000 in
theorem gX10_arithmetic_X10_get : GoodIn wsX10_arithmetic (wsV RX10 172 RX10 yX10_get wsX10_get) := goodIn_app (goodIn_of _ (by decide +kernel)) ggX10_arithmetic_X10_get
set_option maxRecDepth 20000 in
theorem ggX10_arithmetic_X10_shown : GoodIn wsX10_arithmetic wsX10_shown := goodIn_r _ [148, 149, 150, 151, 6, 152, 153, 162, 163, 164, 165, 166, 167, 168, 169, 170, 171, 172, 173, 174, 175, 176, 177, 178, 179, 180, 181, 182, 183, 184, 185, 186, 187, 188, 189, 190, 191, 192, 193, 194, 195, 196, 197, 198, 199, 200, 201, 202, 203, 204, 205, 206, 207, 208, 209, 210, 211, 212, 213, 214] (by decide +kernel) (by decide +kernel)
set_option maxRecDepth 20000 in
theorem gX10_arithmetic_X10_shown : GoodIn wsX10_arithmetic (wsV RX10 263 RX10 yX10_shown wsX10_shown) := goodIn_app (goodIn_of _ (by decide +kernel)) ggX10_arithmetic_X10_shown
set_option maxRecDepth 20000 in
theorem ggX10_arithmetic_X10_add : GoodIn wsX10_arithmetic wsX10_add := goodIn_r _ [157, 1, 153, 149, 150, 151, 6, 152, 145, 146, 147, 148, 162, 163, 164, 165, 166, 167, 168, 169, 170, 171, 172, 173, 174, 175, 176, 177, 178, 179, 180, 181, 182, 183, 184, 185, 186, 187, 188, 189, 190, 191, 192, 193, 194, 195, 196, 197, 198, 199, 200, 201, 202, 203, 204, 205, 206, 207, 208, 209, 210, 211, 212, 213, 214] (by decide +kernel) (by decide +kernel)
set_option maxRecDepth 20000 in
theorem gX10_arithmetic_X10_add : GoodIn wsX10_arithmetic (wsV RX10 278 RX10 yX10_add wsX10_add) := goodIn_app (goodIn_of _ (by decide +kernel)) ggX10_arithmetic_X10_add
set_option maxRecDepth 20000 in
theorem ggX10_arithmetic_X10_compare : GoodIn wsX10_arithmetic wsX10_compare := goodIn_r _ [161, 149, 150, 151, 6, 152, 153, 145, 146, 147, 148, 162, 163, 164, 165, 166, 167, 168, 169, 170, 171, 172, 173, 174, 175, 176, 177, 178, 179, 180, 181, 182, 183, 184, 185, 186, 187, 188, 189, 190, 191, 192, 193, 194, 195, 196, 197, 198, 199, 200, 201, 202, 203, 204, 205, 206, 207, 208, 209, 210, 211, 212, 213, 214] (by decide +kernel) (by decide +kernel)
set_option maxRecDepth 20000 in
theorem gX10_arithmetic_X10_compare : GoodIn wsX10_arithmetic (wsV RX10 281 RX10 yX10_compare wsX10_compare) := goodIn_app (goodIn_of _ (by decide +kernel)) ggX10_arithmetic_X10_compare
theorem dX10_arithmetic_0 : decode cX10_arithmetic 0 = .ok (.aload_n 0, 1) := by decide +kernel
theorem dX10_arithmetic_1 : decode cX10_arithmetic 1 = .ok (.iload_n 2, 1) := by decide +kernel
theorem dX10_arithmetic_2 : decode cX10_arithmetic 2 = .ok (.invokevirtual 269, 3) := by decide +kernel
theorem dX10_arithmetic_5 : decode cX10_arithmetic 5 = .ok (.istore_n 3, 1) := by decide +kernel
theorem dX10_arithmetic_6 : decode cX10_arithmetic 6 = .ok (.iload_n 1, 1) := by decide +kernel
theorem dX10_arithmetic_7 : decode cX10_arithmetic 7 = .ok (.iconst 4, 1) := by decide +kernel
theorem dX10_arithmetic_8 : decode cX10_arithmetic 8 = .ok (.if_icmp .ne 53, 3) := by decide +kernel
theorem dX10_arithmetic_11 : decode cX10_arithmetic 11 = .ok (.aload_n 0, 1) := by decide +kernel
theorem dX10_arithmetic_12 : decode cX10_arithmetic 12 = .ok (.iload_n 3, 1) := by decide +kernel
theorem dX10_arithmetic_13 : decode cX10_arithmetic 13 = .ok (.aload_n 0, 1) := by decide +kernel
theorem dX10_arithmetic_14 : decode cX10_arithmetic 14 = .ok (.getfield 266, 3) := by decide +kernel
theorem dX10_arithmetic_17 : decode cX10_arithmetic 17 = .ok (.invokevirtual 272, 3) := by decide +kernel
theorem dX10_arithmetic_20 : decode cX10_arithmetic 20 = .ok (.iload_n 2, 1) := by decide +kernel
theorem dX10_arithmetic_21 : decode cX10_arithmetic 21 = .ok (.bipush 6, 2) := by decide +kernel
theorem dX10_arithmetic_23 : decode cX10_arithmetic 23 = .ok (.if_icmp .eq 15, 3) := by decide +kernel
theorem dX10_arithmetic_26 : decode cX10_arithmetic 26 = .ok (.iload_n 2, 1) := by decide +kernel
theorem dX10_arithmetic_27 : decode cX10_arithmetic 27 = .ok (.bipush 7, 2) := by decide +kernel
theorem dX10_arithmetic_29 : decode cX10_arithmetic 29 = .ok (.if_icmp .eq 9, 3) := by decide +kernel
theorem dX10_arithmetic_32 : decode cX10_arithmetic 32 = .ok (.iload_n 2, 1) := by decide +kernel
theorem dX10_arithmetic_33 : decode cX10_arithmetic 33 = .ok (.bipush 9, 2) := by decide +kernel
theorem dX10_arithmetic_35 : decode cX10_arithmetic 35 = .ok (.if_icmp .ne 7, 3) := by decide +kernel
theorem dX10_arithmetic_38 : decode cX10_arithmetic 38 = .ok (.iconst 1, 1) := by decide +kernel
theorem dX10_arithmetic_39 : decode cX10_arithmetic 39 = .ok (.goto 4, 3) := by decide +kernel
theorem dX10_arithmetic_42 : decode cX10_arithmetic 42 = .ok (.iconst 0, 1) := by decide +kernel
theorem dX10_arithmetic_43 : decode cX10_arithmetic 43 = .ok (.istore 4, 2) := by decide +kernel
theorem dX10_arithmetic_45 : decode cX10_arithmetic 45 = .ok (.iload_n 2, 1) := by decide +kernel
theorem dX10_arithmetic_46 : decode cX10_arithmetic 46 = .ok (.invokestatic 275, 3) := by decide +kernel
theorem dX10_arithmetic_49 : decode cX10_arithmetic 49 = .ok (.iload 4, 2) := by decide +kernel
theorem dX10_arithmetic_51 : decode cX10_arithmetic 51 = .ok (.ifCond .eq 7, 3) := by decide +kernel
theorem dX10_arithmetic_54 : decode cX10_arithmetic 54 = .ok (.iconst 1, 1) := by decide +kernel
theorem dX10_arithmetic_55 : decode cX10_arithmetic 55 = .ok (.goto 4, 3) := by decide +kernel
theorem dX10_arithmetic_58 : decode cX10_arithmetic 58 = .ok (.iconst 0, 1) := by decide +kernel
theorem dX10_arithmetic_59 : decode cX10_arithmetic 59 = .ok (.iadd, 1) := by decide +kernel
theorem dX10_arithmetic_60 : decode cX10_arithmetic 60 = .ok (.ireturn, 1) := by decide +kernel
theorem dX10_arithmetic_61 : decode cX10_arithmetic 61 = .ok (.aload_n 0, 1) := by decide +kernel
theorem dX10_arithmetic_62 : decode cX10_arithmetic 62 = .ok (.iload_n 3, 1) := by decide +kernel
theorem dX10_arithmetic_63 : decode cX10_arithmetic 63 = .ok (.invokevirtual 172, 3) := by decide +kernel
theorem dX10_arithmetic_66 : decode cX10_arithmetic 66 = .ok (.istore 4, 2) := by decide +kernel
theorem dX10_arithmetic_68 : decode cX10_arithmetic 68 = .ok (.iload_n 1, 1) := by decide +kernel
theorem dX10_arithmetic_69 : decode cX10_arithmetic 69 = .ok (.tableswitch 132 0 6 #[43, 61, 79, 97, 132, 106, 119], 43) := by decide +kernel
theorem dX10_arithmetic_112 : decode cX10_arithmetic 112 = .ok (.aload_n 0, 1) := by decide +kernel
theorem dX10_arithmetic_113 : decode cX10_arithmetic 113 = .ok (.aload_n 0, 1) := by decide +kernel
theorem dX10_arithmetic_114 : decode cX10_arithmetic 114 = .ok (.aload_n 0, 1) := by decide +kernel
theorem dX10_arithmetic_115 : decode cX10_arithmetic 115 = .ok (.getfield 266, 3) := by decide +kernel
theorem dX10_arithmetic_118 : decode cX10_arithmetic 118 = .ok (.iload 4, 2) := by decide +kernel
theorem dX10_arithmetic_120 : decode cX10_arithmetic 120 = .ok (.ior, 1) := by decide +kernel
theorem dX10_arithmetic_121 : decode cX10_arithmetic 121 = .ok (.invokevirtual 263, 3) := by decide +kernel
theorem dX10_arithmetic_124 : decode cX10_arithmetic 124 = .ok (.putfield 266, 3) := by decide +kernel
theorem dX10_arithmetic_127 : decode cX10_arithmetic 127 = .ok (.goto 84, 3) := by decide +kernel
theorem dX10_arithmetic_130 : decode cX10_arithmetic 130 = .ok (.aload_n 0, 1) := by decide +kernel
theorem dX10_arithmetic_131 : decode cX10_arithmetic 131 = .ok (.aload_n 0, 1) := by decide +kernel
theorem dX10_arithmetic_132 : decode cX10_arithmetic 132 = .ok (.aload_n 0, 1) := by decide +kernel
theorem dX10_arithmetic_133 : decode cX10_arithmetic 133 = .ok (.getfield 266, 3) := by decide +kernel
theorem dX10_arithmetic_136 : decode cX10_arithmetic 136 = .ok (.iload 4, 2) := by decide +kernel
theorem dX10_arithmetic_138 : decode cX10_arithmetic 138 = .ok (.iand, 1) := by decide +kernel
theorem dX10_arithmetic_139 : decode cX10_arithmetic 139 = .ok (.invokevirtual 263, 3) := by decide +kernel
theorem dX10_arithmetic_142 : decode cX10_arithmetic 142 = .ok (.putfield 266, 3) := by decide +kernel
theorem dX10_arithmetic_145 : decode cX10_arithmetic 145 = .ok (.goto 66, 3) := by decide +kernel
theorem dX10_arithmetic_148 : decode cX10_arithmetic 148 = .ok (.aload_n 0, 1) := by decide +kernel
theorem dX10_arithmetic_149 : decode cX10_arithmetic 149 = .ok (.aload_n 0, 1) := by decide +kernel
theorem dX10_arithmetic_150 : decode cX10_arithmetic 150 = .ok (.aload_n 0, 1) := by decide +kernel
theorem dX10_arithmetic_151 : decode cX10_arithmetic 151 = .ok (.getfield 266, 3) := by decide +kernel
theorem dX10_arithmetic_154 : decode cX10_arithmetic 154 = .ok (.iload 4, 2) := by decide +kernel
theorem dX10_arithmetic_156 : decode cX10_arithmetic 156 = .ok (.ixor, 1) := by decide +kernel
theorem dX10_arithmetic_157 : decode cX10_arithmetic 157 = .ok (.invokevirtual 263, 3) := by decide +kernel
theorem dX10_arithmetic_160 : decode cX10_arithmetic 160 = .ok (.putfield 266, 3) := by decide +kernel
theorem dX10_arithmetic_163 : decode cX10_arithmetic 163 = .ok (.goto 48, 3) := by decide +kernel
theorem dX10_arithmetic_166 : decode cX10_arithmetic 166 = .ok (.aload_n 0, 1) := by decide +kernel
theorem dX10_arithmetic_167 : decode cX10_arithmetic 167 = .ok (.iload 4, 2) := by decide +kernel
theorem dX10_arithmetic_169 : decode cX10_arithmetic 169 = .ok (.invokevirtual 278, 3) := by decide +kernel
theorem dX10_arithmetic_172 : decode cX10_arithmetic 172 = .ok (.goto 39, 3) := by decide +kernel
theorem dX10_arithmetic_175 : decode cX10_arithmetic 175 = .ok (.aload_n 0, 1) := by decide +kernel
theorem dX10_arithmetic_176 : decode cX10_arithmetic 176 = .ok (.aload_n 0, 1) := by decide +kernel
theorem dX10_arithmetic_177 : decode cX10_arithmetic 177 = .ok (.iload 4, 2) := by decide +kernel
theorem dX10_arithmetic_179 : decode cX10_arithmetic 179 = .ok (.invokevirtual 263, 3) := by decide +kernel
theorem dX10_arithmetic_182 : decode cX10_arithmetic 182 = .ok (.putfield 266, 3) := by decide +kernel
theorem dX10_arithmetic_185 : decode cX10_arithmetic 185 = .ok (.goto 26, 3) := by decide +kernel
theorem dX10_arithmetic_188 : decode cX10_arithmetic 188 = .ok (.aload_n 0, 1) := by decide +kernel
theorem dX10_arithmetic_189 : decode cX10_arithmetic 189 = .ok (.aload_n 0, 1) := by decide +kernel
theorem dX10_arithmetic_190 : decode cX10_arithmetic 190 = .ok (.getfield 266, 3) := by decide +kernel
theorem dX10_arithmetic_193 : decode cX10_arithmetic 193 = .ok (.iload 4, 2) := by decide +kernel
theorem dX10_arithmetic_195 : decode cX10_arithmetic 195 = .ok (.invokevirtual 281, 3) := by decide +kernel
theorem dX10_arithmetic_198 : decode cX10_arithmetic 198 = .ok (.goto 13, 3) := by decide +kernel
theorem dX10_arithmetic_201 : decode cX10_arithmetic 201 = .ok (.aload_n 0, 1) := by decide +kernel
theorem dX10_arithmetic_202 : decode cX10_arithmetic 202 = .ok (.iload 4, 2) := by decide +kernel
theorem dX10_arithmetic_204 : decode cX10_arithmetic 204 = .ok (.sipush 255, 3) := by decide +kernel
theorem dX10_arithmetic_207 : decode cX10_arithmetic 207 = .ok (.ixor, 1) := by decide +kernel
theorem dX10_arithmetic_208 : decode cX10_arithmetic 208 = .ok (.invokevirtual 278, 3) := by decide +kernel
theorem dX10_arithmetic_211 : decode cX10_arithmetic 211 = .ok (.iload_n 2, 1) := by decide +kernel
theorem dX10_arithmetic_212 : decode cX10_arithmetic 212 = .ok (.invokestatic 275, 3) := by decide +kernel
theorem dX10_arithmetic_215 : decode cX10_arithmetic 215 = .ok (.aload_n 0, 1) := by decide +kernel
theorem dX10_arithmetic_216 : decode cX10_arithmetic 216 = .ok (.getfield 260, 3) := by decide +kernel
theorem dX10_arithmetic_219 : decode cX10_arithmetic 219 = .ok (.ifCond .eq 7, 3) := by decide +kernel
theorem dX10_arithmetic_222 : decode cX10_arithmetic 222 = .ok (.iconst 1, 1) := by decide +kernel
theorem dX10_arithmetic_223 : decode cX10_arithmetic 223 = .ok (.goto 4, 3) := by decide +kernel
theorem dX10_arithmetic_226 : decode cX10_arithmetic 226 = .ok (.iconst 0, 1) := by decide +kernel
theorem dX10_arithmetic_227 : decode cX10_arithmetic 227 = .ok (.iadd, 1) := by decide +kernel
theorem dX10_arithmetic_228 : decode cX10_arithmetic 228 = .ok (.ireturn, 1) := by decide +kernel
set_option maxRecDepth 20000 in
theorem ggX10_changed_X10_shown : GoodIn wsX10_changed wsX10_shown := goodIn_r _ [6, 7, 8, 9, 5, 10, 1, 11, 12, 13, 14, 15, 16, 17, 18, 19, 20, 21, 22, 23, 24, 25, 26, 27, 28, 29, 30, 31, 32, 33, 34, 35, 36, 37, 38, 39, 40, 41, 42, 43, 44, 45, 46, 47, 48, 49, 50, 51, 52, 53, 54, 55, 56, 57, 58, 59, 60, 61, 62, 63] (by decide +kernel) (by decide +kernel)
set_option maxRecDepth 20000 in
theorem gX10_changed_X10_shown : GoodIn wsX10_changed (wsV RX10 263 RX10 yX10_shown wsX10_shown) := goodIn_app (goodIn_of _ (by decide +kernel)) ggX10_changed_X10_shown
set_option maxRecDepth 20000 in
theorem ggX10_changed_X10_flag : GoodIn wsX10_changed wsX10_flag := goodIn_r _ [10, 1, 11, 12, 13, 14, 15, 16, 17, 18, 19, 20, 21, 22, 23, 24, 25, 26, 27, 28, 29, 30, 31, 32, 33, 34, 35, 36, 37, 38, 39, 40, 41, 42, 43, 44, 45, 46, 47, 48, 49, 50, 51, 52, 53, 54, 55, 56, 57, 58, 59, 60, 61, 62, 63] (by decide +kernel) (by decide +kernel)
set_option maxRecDepth 20000 in
theorem gX10_changed_X10_flag : GoodIn wsX10_changed (wsV RX10 234 RX10 yX10_flag wsX10_flag) := goodIn_app (goodIn_of _ (by decide +kernel)) ggX10_changed_X10_flag
theorem dX10_changed_0 : decode cX10_changed 0 = .ok (.aload_n 0, 1) := by decide +kernel
theorem dX10_changed_1 : decode cX10_changed 1 = .ok (.getfield 22, 3) := by decide +kernel
theorem dX10_changed_4 : decode cX10_changed 4 = .ok (.iconst 1, 1) := by decide +kernel
theorem dX10_changed_5 : decode cX10_changed 5 = .ok (.iand, 1) := by decide +kernel
theorem dX10_changed_6 : decode cX10_changed 6 = .ok (.istore_n 3, 1) := by decide +kernel
theorem dX10_changed_7 : decode cX10_changed 7 = .ok (.iload_n 1, 1) := by decide +kernel
theorem dX10_changed_8 : decode cX10_changed 8 = .ok (.iconst 5, 1) := by decide +kernel
theorem dX10_changed_9 : decode cX10_changed 9 = .ok (.if_icmp .le 27, 3) := by decide +kernel
theorem dX10_changed_12 : decode cX10_changed 12 = .ok (.aload_n 0, 1) := by decide +kernel
theorem dX10_changed_13 : decode cX10_changed 13 = .ok (.iload_n 2, 1) := by decide +kernel
theorem dX10_changed_14 : decode cX10_changed 14 = .ok (.iload_n 1, 1) := by decide +kernel
theorem dX10_changed_15 : decode cX10_changed 15 = .ok (.bipush 6, 2) := by decide +kernel
theorem dX10_changed_17 : decode cX10_changed 17 = .ok (.if_icmp .ne 9, 3) := by decide +kernel
theorem dX10_changed_20 : decode cX10_changed 20 = .ok (.sipush 255, 3) := by decide +kernel
theorem dX10_changed_23 : decode cX10_changed 23 = .ok (.goto 4, 3) := by decide +kernel
theorem dX10_changed_26 : decode cX10_changed 26 = .ok (.iconst 1, 1) := by decide +kernel
theorem dX10_changed_27 : decode cX10_changed 27 = .ok (.iadd, 1) := by decide +kernel
theorem dX10_changed_28 : decode cX10_changed 28 = .ok (.sipush 255, 3) := by decide +kernel
theorem dX10_changed_31 : decode cX10_changed 31 = .ok (.iand, 1) := by decide +kernel
theorem dX10_changed_32 : decode cX10_changed 32 = .ok (.invokevirtual 263, 3) := by decide +kernel
theorem dX10_changed_35 : decode cX10_changed 35 = .ok (.ireturn, 1) := by decide +kernel
theorem dX10_changed_36 : decode cX10_changed 36 = .ok (.aload_n 0, 1) := by decide +kernel
theorem dX10_changed_37 : decode cX10_changed 37 = .ok (.iconst 1, 1) := by decide +kernel
theorem dX10_changed_38 : decode cX10_changed 38 = .ok (.iload_n 2, 1) := by decide +kernel
theorem dX10_changed_39 : decode cX10_changed 39 = .ok (.iload_n 1, 1) := by decide +kernel
theorem dX10_changed_40 : decode cX10_changed 40 = .ok (.iconst 2, 1) := by decide +kernel
theorem dX10_changed_41 : decode cX10_changed 41 = .ok (.if_icmp .ge 9, 3) := by decide +kernel
theorem dX10_changed_44 : decode cX10_changed 44 = .ok (.sipush 128, 3) := by decide +kernel
theorem dX10_changed_47 : decode cX10_changed 47 = .ok (.goto 4, 3) := by decide +kernel
theorem dX10_changed_50 : decode cX10_changed 50 = .ok (.iconst 1, 1) := by decide +kernel
theorem dX10_changed_51 : decode cX10_changed 51 = .ok (.iand, 1) := by decide +kernel
theorem dX10_changed_52 : decode cX10_changed 52 = .ok (.ifCond .eq 7, 3) := by decide +kernel
theorem dX10_changed_55 : decode cX10_changed 55 = .ok (.iconst 1, 1) := by decide +kernel
theorem dX10_changed_56 : decode cX10_changed 56 = .ok (.goto 4, 3) := by decide +kernel
theorem dX10_changed_59 : decode cX10_changed 59 = .ok (.iconst 0, 1) := by decide +kernel
theorem dX10_changed_60 : decode cX10_changed 60 = .ok (.invokevirtual 234, 3) := by decide +kernel
theorem dX10_changed_63 : decode cX10_changed 63 = .ok (.iload_n 1, 1) := by decide +kernel
theorem dX10_changed_64 : decode cX10_changed 64 = .ok (.iconst 2, 1) := by decide +kernel
theorem dX10_changed_65 : decode cX10_changed 65 = .ok (.if_icmp .ge 26, 3) := by decide +kernel
theorem dX10_changed_68 : decode cX10_changed 68 = .ok (.aload_n 0, 1) := by decide +kernel
theorem dX10_changed_69 : decode cX10_changed 69 = .ok (.iload_n 2, 1) := by decide +kernel
theorem dX10_changed_70 : decode cX10_changed 70 = .ok (.iconst 1, 1) := by decide +kernel
theorem dX10_changed_71 : decode cX10_changed 71 = .ok (.ishl, 1) := by decide +kernel
theorem dX10_changed_72 : decode cX10_changed 72 = .ok (.sipush 255, 3) := by decide +kernel
theorem dX10_changed_75 : decode cX10_changed 75 = .ok (.iand, 1) := by decide +kernel
theorem dX10_changed_76 : decode cX10_changed 76 = .ok (.iload_n 1, 1) := by decide +kernel
theorem dX10_changed_77 : decode cX10_changed 77 = .ok (.iconst 1, 1) := by decide +kernel
theorem dX10_changed_78 : decode cX10_changed 78 = .ok (.if_icmp .ne 7, 3) := by decide +kernel
theorem dX10_changed_81 : decode cX10_changed 81 = .ok (.iload_n 3, 1) := by decide +kernel
theorem dX10_changed_82 : decode cX10_changed 82 = .ok (.goto 4, 3) := by decide +kernel
theorem dX10_changed_85 : decode cX10_changed 85 = .ok (.iconst 0, 1) := by decide +kernel
theorem dX10_changed_86 : decode cX10_changed 86 = .ok (.ior, 1) := by decide +kernel
theorem dX10_changed_87 : decode cX10_changed 87 = .ok (.invokevirtual 263, 3) := by decide +kernel
theorem dX10_changed_90 : decode cX10_changed 90 = .ok (.ireturn, 1) := by decide +kernel
theorem dX10_changed_91 : decode cX10_changed 91 = .ok (.aload_n 0, 1) := by decide +kernel
theorem dX10_changed_92 : decode cX10_changed 92 = .ok (.iload_n 2, 1) := by decide +kernel
theorem dX10_changed_93 : decode cX10_changed 93 = .ok (.iconst 1, 1) := by decide +kernel
theorem dX10_changed_94 : decode cX10_changed 94 = .ok (.ishr, 1) := by decide +kernel
theorem dX10_changed_95 : decode cX10_changed 95 = .ok (.iload_n 1, 1) := by decide +kernel
theorem dX10_changed_96 : decode cX10_changed 96 = .ok (.iconst 3, 1) := by decide +kernel
theorem dX10_changed_97 : decode cX10_changed 97 = .ok (.if_icmp .ne 10, 3) := by decide +kernel
theorem dX10_changed_100 : decode cX10_changed 100 = .ok (.iload_n 3, 1) := by decide +kernel
theorem dX10_changed_101 : decode cX10_changed 101 = .ok (.bipush 7, 2) := by decide +kernel
theorem dX10_changed_103 : decode cX10_changed 103 = .ok (.ishl, 1) := by decide +kernel
theorem dX10_changed_104 : decode cX10_changed 104 = .ok (.goto 4, 3) := by decide +kernel
theorem dX10_changed_107 : decode cX10_changed 107 = .ok (.iconst 0, 1) := by decide +kernel
theorem dX10_changed_108 : decode cX10_changed 108 = .ok (.ior, 1) := by decide +kernel
theorem dX10_changed_109 : decode cX10_changed 109 = .ok (.invokevirtual 263, 3) := by decide +kernel
theorem dX10_changed_112 : decode cX10_changed 112 = .ok (.ireturn, 1) := by decide +kernel
set_option maxRecDepth 20000 in
theorem ggX10_change_X10_changed : GoodIn wsX10_change wsX10_changed := goodIn_r _ [6, 7, 8, 9, 10, 5, 11, 12, 13, 14, 15, 155, 156, 157, 158, 159, 160, 161, 162, 163, 164, 165, 166, 167, 168, 169, 170, 171, 172, 173, 174, 175, 176, 177, 178, 179, 180, 181, 182, 183, 184, 185, 186, 187, 188, 189, 190, 191, 192, 193, 194, 195, 196, 197, 198, 199, 200, 201, 202, 203, 204, 205, 206, 207] (by decide +kernel) (by decide +kernel)
set_option maxRecDepth 20000 in
theorem gX10_change_X10_changed : GoodIn wsX10_change (wsV RX10 284 RX10 yX10_changed wsX10_changed) := goodIn_app (goodIn_of _ (by decide +kernel)) ggX10_change_X10_changed
set_option maxRecDepth 20000 in
theorem ggX10_change_X10_addressed : GoodIn wsX10_change wsX10_addressed := goodIn_r _ [19, 20, 21, 22, 23, 24, 25, 26, 5, 27, 28, 29, 30, 31, 32, 33, 34, 35, 36, 37, 38, 39, 40, 41, 42, 43, 44, 45, 46, 47, 48, 49, 50, 51, 52, 53, 54, 55, 56, 57, 58, 59, 60, 61, 62, 63, 64, 65, 66, 67, 68, 69, 70, 71, 72, 73, 74, 75, 76, 77, 78, 79, 80, 81, 82, 83, 84, 85, 86, 87, 88, 89, 90, 91, 92, 93, 94, 95, 96, 97, 98, 99, 100, 101, 102, 155, 156, 157, 158, 159, 160, 161, 162, 163, 164, 165, 166, 167, 168, 169, 170, 171, 172, 173, 174, 175, 176, 177, 178, 179, 180, 181, 182, 183, 184, 185, 186, 187, 188, 189, 190, 191, 192, 193, 194, 195, 196, 197, 198, 199, 200, 201, 202, 203, 204, 205, 206, 207] (by decide +kernel) (by decide +kernel)
set_option maxRecDepth 20000 in
theorem gX10_change_X10_addressed : GoodIn wsX10_change (wsV RX10 269 RX10 yX10_addressed wsX10_addressed) := goodIn_app (goodIn_of _ (by decide +kernel)) ggX10_change_X10_addressed
set_option maxRecDepth 20000 in
theorem ggX10_change_X10_get : GoodIn wsX10_change wsX10_get := goodIn_r _ [31, 32, 33, 34, 35, 36, 37, 38, 5, 39, 40, 41, 42, 43, 44, 45, 46, 47, 48, 49, 50, 51, 52, 53, 54, 55, 56, 57, 58, 59, 60, 61, 62, 63, 64, 65, 66, 67, 68, 69, 70, 71, 72, 73, 74, 75, 76, 77, 78, 79, 80, 81, 82, 83, 84, 85, 86, 87, 88, 89, 155, 156, 157, 158, 159, 160, 161, 162, 163, 164, 165, 166, 167, 168, 169, 170, 171, 172, 173, 174, 175, 176, 177, 178, 179, 180, 181, 182, 183, 184, 185, 186, 187, 188, 189, 190, 191, 192, 193, 194, 195, 196, 197, 198, 199, 200, 201, 202, 203, 204, 205, 206, 207] (by decide +kernel) (by decide +kernel)
set_option maxRecDepth 20000 in
theorem gX10_change_X10_get : GoodIn wsX10_change (wsV RX10 172 RX10 yX10_get wsX10_get) := goodIn_app (goodIn_of _ (by decide +kernel)) ggX10_change_X10_get
set_option maxRecDepth 20000 in
theorem ggX10_change_X10_put : GoodIn wsX10_change wsX10_put := goodIn_r _ [106, 32, 33, 57, 35, 107, 108, 109, 5, 110, 40, 75, 111, 112, 113, 43, 42, 41, 114, 44, 115, 116, 117, 118, 52, 46, 68, 69, 70, 63, 64, 65, 66, 67, 71, 72, 73, 74, 119, 120, 121, 122, 123, 124, 81, 84, 82, 83, 125, 126, 80, 127, 128, 129, 130, 131, 132, 133, 134, 135, 136, 28, 29, 30, 31, 34, 36, 37, 38, 39, 45, 47, 48, 49, 50, 51, 53, 54, 55, 56, 58, 59, 60, 61, 62, 76, 77, 78, 79, 85, 86, 87, 88, 89, 137, 138, 139, 140, 141, 142, 143, 144, 145, 146, 147, 148, 149, 150, 151, 152, 153, 154, 155, 156, 157, 158, 159, 160, 161, 162, 163, 164, 165, 166, 167, 168, 169, 170, 171, 172, 173, 174, 175, 176, 177, 178, 179, 180, 181, 182, 183, 184, 185, 186, 187, 188, 189, 190, 191, 192, 193, 194, 195, 196, 197, 198, 199, 200, 201, 202, 203, 204, 205, 206, 207] (by decide +kernel) (by decide +kernel)
set_option maxRecDepth 20000 in
theorem gX10_change_X10_put : GoodIn wsX10_change (wsV RX10 272 RX10 yX10_put wsX10_put) := goodIn_app (goodIn_of _ (by decide +kernel)) ggX10_change_X10_put
theorem dX10_change_0 : decode cX10_change 0 = .ok (.iload_n 2, 1) := by decide +kernel
theorem dX10_change_1 : decode cX10_change 1 = .ok (.ifCond .ne 18, 3) := by decide +kernel
theorem dX10_change_4 : decode cX10_change 4 = .ok (.aload_n 0, 1) := by decide +kernel
theorem dX10_change_5 : decode cX10_change 5 = .ok (.aload_n 0, 1) := by decide +kernel
theorem dX10_change_6 : decode cX10_change 6 = .ok (.iload_n 1, 1) := by decide +kernel
theorem dX10_change_7 : decode cX10_change 7 = .ok (.aload_n 0, 1) := by decide +kernel
theorem dX10_change_8 : decode cX10_change 8 = .ok (.getfield 266, 3) := by decide +kernel
theorem dX10_change_11 : decode cX10_change 11 = .ok (.invokevirtual 284, 3) := by decide +kernel
theorem dX10_change_14 : decode cX10_change 14 = .ok (.putfield 266, 3) := by decide +kernel
theorem dX10_change_17 : decode cX10_change 17 = .ok (.iconst 2, 1) := by decide +kernel
theorem dX10_change_18 : decode cX10_change 18 = .ok (.ireturn, 1) := by decide +kernel
theorem dX10_change_19 : decode cX10_change 19 = .ok (.aload_n 0, 1) := by decide +kernel
theorem dX10_change_20 : decode cX10_change 20 = .ok (.iload_n 2, 1) := by decide +kernel
theorem dX10_change_21 : decode cX10_change 21 = .ok (.invokevirtual 269, 3) := by decide +kernel
theorem dX10_change_24 : decode cX10_change 24 = .ok (.istore_n 3, 1) := by decide +kernel
theorem dX10_change_25 : decode cX10_change 25 = .ok (.aload_n 0, 1) := by decide +kernel
theorem dX10_change_26 : decode cX10_change 26 = .ok (.iload_n 3, 1) := by decide +kernel
theorem dX10_change_27 : decode cX10_change 27 = .ok (.invokevirtual 172, 3) := by decide +kernel
theorem dX10_change_30 : decode cX10_change 30 = .ok (.istore 4, 2) := by decide +kernel
theorem dX10_change_32 : decode cX10_change 32 = .ok (.aload_n 0, 1) := by decide +kernel
theorem dX10_change_33 : decode cX10_change 33 = .ok (.iload_n 3, 1) := by decide +kernel
theorem dX10_change_34 : decode cX10_change 34 = .ok (.aload_n 0, 1) := by decide +kernel
theorem dX10_change_35 : decode cX10_change 35 = .ok (.iload_n 1, 1) := by decide +kernel
theorem dX10_change_36 : decode cX10_change 36 = .ok (.iload 4, 2) := by decide +kernel
theorem dX10_change_38 : decode cX10_change 38 = .ok (.invokevirtual 284, 3) := by decide +kernel
theorem dX10_change_41 : decode cX10_change 41 = .ok (.invokevirtual 272, 3) := by decide +kernel
theorem dX10_change_44 : decode cX10_change 44 = .ok (.iload_n 2, 1) := by decide +kernel
theorem dX10_change_45 : decode cX10_change 45 = .ok (.iconst 2, 1) := by decide +kernel
theorem dX10_change_46 : decode cX10_change 46 = .ok (.if_icmp .ne 7, 3) := by decide +kernel
theorem dX10_change_49 : decode cX10_change 49 = .ok (.iconst 5, 1) := by decide +kernel
theorem dX10_change_50 : decode cX10_change 50 = .ok (.goto 16, 3) := by decide +kernel
theorem dX10_change_53 : decode cX10_change 53 = .ok (.iload_n 2, 1) := by decide +kernel
theorem dX10_change_54 : decode cX10_change 54 = .ok (.bipush 6, 2) := by decide +kernel
theorem dX10_change_56 : decode cX10_change 56 = .ok (.if_icmp .ne 8, 3) := by decide +kernel
theorem dX10_change_59 : decode cX10_change 59 = .ok (.bipush 7, 2) := by decide +kernel
theorem dX10_change_61 : decode cX10_change 61 = .ok (.goto 5, 3) := by decide +kernel
theorem dX10_change_64 : decode cX10_change 64 = .ok (.bipush 6, 2) := by decide +kernel
theorem dX10_change_66 : decode cX10_change 66 = .ok (.ireturn, 1) := by decide +kernel
set_option maxRecDepth 20000 in
theorem ggX10_doTwo_X10_loadX : GoodIn wsX10_doTwo wsX10_loadX := goodIn_r _ [6, 1, 7, 8, 9, 10, 5, 11, 12, 13, 14, 15, 16, 17, 18, 19, 20, 21, 22, 23, 24, 25, 26, 27, 28, 29, 30, 31, 32, 33, 34, 35, 36, 37, 38, 39, 40, 41, 42, 43, 44, 45, 46, 47, 48, 49, 50, 51, 52, 53, 54, 55, 56, 57, 58, 59, 60, 61, 62, 63, 64, 65, 66, 67, 68, 69, 70, 71, 72, 73, 74, 75, 76, 77, 78, 79, 80, 81, 82, 83, 84, 85, 86, 87, 88, 89, 90, 91, 92, 93, 94, 95, 96, 97, 98, 99, 100, 101, 102, 103, 104, 175, 176, 177, 178, 179, 180, 181, 182, 183, 184, 185, 186, 187, 188, 189, 190, 191, 192, 193, 194, 195, 196, 197, 198, 199, 200, 201, 202, 203, 204, 205, 206, 207, 208, 209, 210, 211, 212, 213, 214, 215, 216, 217, 218, 219, 220, 221, 222, 223, 224, 225, 226, 227] (by decide +kernel) (by decide +kernel)
set_option maxRecDepth 20000 in
theorem gX10_doTwo_X10_loadX : GoodIn wsX10_doTwo (wsV RX10 287 RX10 yX10_loadX wsX10_loadX) := goodIn_app (goodIn_of _ (by decide +kernel)) ggX10_doTwo_X10_loadX
set_option maxRecDepth 20000 in
theorem ggX10_doTwo_X10_moved : GoodIn wsX10_doTwo wsX10_moved := goodIn_r _ [108, 1, 109, 93, 94, 95, 5, 96, 97, 98, 99, 100, 101, 175, 176, 177, 178, 179, 180, 181, 182, 183, 184, 185, 186, 187, 188, 189, 190, 191, 192, 193, 194, 195, 196, 197, 198, 199, 200, 201, 202, 203, 204, 205, 206, 207, 208, 209, 210, 211, 212, 213, 214, 215, 216, 217, 218, 219, 220, 221, 222, 223, 224, 225, 226, 227] (by decide +kernel) (by decide +kernel)
set_option maxRecDepth 20000 in
theorem gX10_doTwo_X10_moved : GoodIn wsX10_doTwo (wsV RX10 290 RX10 yX10_moved wsX10_moved) := goodIn_app (goodIn_of _ (by decide +kernel)) ggX10_doTwo_X10_moved
set_option maxRecDepth 20000 in
theorem ggX10_doTwo_X10_stackPointer : GoodIn wsX10_doTwo wsX10_stackPointer := goodIn_r _ [113, 1, 114, 93, 94, 95, 5, 96, 97, 98, 99, 100, 101, 175, 176, 177, 178, 179, 180, 181, 182, 183, 184, 185, 186, 187, 188, 189, 190, 191, 192, 193, 194, 195, 196, 197, 198, 199, 200, 201, 202, 203, 204, 205, 206, 207, 208, 209, 210, 211, 212, 213, 214, 215, 216, 217, 218, 219, 220, 221, 222, 223, 224, 225, 226, 227] (by decide +kernel) (by decide +kernel)
set_option maxRecDepth 20000 in
theorem gX10_doTwo_X10_stackPointer : GoodIn wsX10_doTwo (wsV RX10 293 RX10 yX10_stackPointer wsX10_stackPointer) := goodIn_app (goodIn_of _ (by decide +kernel)) ggX10_doTwo_X10_stackPointer
set_option maxRecDepth 20000 in
theorem ggX10_doTwo_X10_change : GoodIn wsX10_doTwo wsX10_change := goodIn_r _ [118, 109, 119, 120, 121, 5, 122, 101, 93, 94, 95, 96, 97, 98, 99, 100, 8, 9, 10, 11, 12, 13, 1, 14, 15, 16, 17, 18, 19, 20, 21, 22, 23, 24, 25, 26, 27, 28, 29, 30, 31, 32, 33, 34, 35, 36, 37, 38, 39, 40, 41, 42, 43, 44, 45, 46, 47, 48, 49, 50, 51, 52, 53, 54, 55, 56, 57, 58, 59, 60, 61, 62, 63, 64, 65, 66, 67, 68, 69, 70, 71, 72, 73, 74, 75, 76, 77, 78, 79, 80, 81, 82, 83, 84, 85, 86, 87, 88, 7, 89, 90, 91, 92, 123, 124, 125, 126, 127, 128, 129, 130, 131, 132, 133, 134, 135, 136, 137, 138, 139, 140, 141, 142, 143, 144, 145, 146, 147, 148, 149, 150, 151, 152, 153, 154, 155, 156, 157, 158, 159, 160, 161, 162, 163, 164, 165, 166, 167, 168, 169, 170, 171, 172, 173, 174, 175, 176, 177, 178, 179, 180, 181, 182, 183, 184, 185, 186, 187, 188, 189, 190, 191, 192, 193, 194, 195, 196, 197, 198, 199, 200, 201, 202, 203, 204, 205, 206, 207, 208, 209, 210, 211, 212, 213, 214, 215, 216, 217, 218, 219, 220, 221, 222, 223, 224, 225, 226, 227] (by decide +kernel) (by decide +kernel)
set_option maxRecDepth 20000 in
theorem gX10_doTwo_X10_change : GoodIn wsX10_doTwo (wsV RX10 296 RX10 yX10_change wsX10_change) := goodIn_app (goodIn_of _ (by decide +kernel)) ggX10_doTwo_X10_change
set_option maxRecDepth 20000 in
theorem ggX10_doTwo_X10_addressed : GoodIn wsX10_doTwo wsX10_addressed := goodIn_r _ [11, 12, 13, 1, 14, 15, 16, 17, 5, 18, 19, 20, 21, 22, 23, 24, 25, 26, 27, 28, 29, 30, 31, 32, 33, 34, 35, 36, 37, 38, 39, 40, 41, 42, 43, 44, 45, 46, 47, 48, 49, 50, 51, 52, 53, 54, 55, 56, 57, 58, 59, 60, 61, 62, 63, 64, 65, 66, 67, 68, 69, 70, 71, 72, 73, 74, 75, 76, 77, 78, 79, 80, 81, 82, 83, 84, 85, 86, 87, 88, 7, 89, 90, 91, 92, 175, 176, 177, 178, 179, 180, 181, 182, 183, 184, 185, 186, 187, 188, 189, 190, 191, 192, 193, 194, 195, 196, 197, 198, 199, 200, 201, 202, 203, 204, 205, 206, 207, 208, 209, 210, 211, 212, 213, 214, 215, 216, 217, 218, 219, 220, 221, 222, 223, 224, 225, 226, 227] (by decide +kernel) (by decide +kernel)
set_option maxRecDepth 20000 in
theorem gX10_doTwo_X10_addressed : GoodIn wsX10_doTwo (wsV RX10 269 RX10 yX10_addressed wsX10_addressed) := goodIn_app (goodIn_of _ (by decide +kernel)) ggX10_doTwo_X10_addressed
set_option maxRecDepth 20000 in
theorem ggX10_doTwo_X10_put : GoodIn wsX10_doTwo wsX10_put := goodIn_r _ [126, 23, 24, 48, 26, 127, 128, 129, 5, 130, 31, 66, 131, 132, 133, 34, 33, 32, 134, 35, 135, 136, 137, 138, 43, 37, 59, 60, 61, 54, 55, 56, 57, 58, 62, 63, 64, 65, 139, 140, 141, 142, 143, 144, 72, 75, 73, 74, 145, 146, 71, 147, 148, 149, 150, 151, 152, 153, 154, 155, 156, 19, 20, 21, 22, 25, 27, 28, 29, 30, 36, 38, 39, 40, 41, 42, 44, 45, 46, 47, 49, 50, 51, 52, 53, 67, 68, 69, 70, 76, 77, 78, 79, 80, 157, 158, 159, 160, 161, 162, 163, 164, 165, 166, 167, 168, 169, 170, 171, 172, 173, 174, 175, 176, 177, 178, 179, 180, 181, 182, 183, 184, 185, 186, 187, 188, 189, 190, 191, 192, 193, 194, 195, 196, 197, 198, 199, 200, 201, 202, 203, 204, 205, 206, 207, 208, 209, 210, 211, 212, 213, 214, 215, 216, 217, 218, 219, 220, 221, 222, 223, 224, 225, 226, 227] (by decide +kernel) (by decide +kernel)
set_option maxRecDepth 20000 in
theorem gX10_doTwo_X10_put : GoodIn wsX10_doTwo (wsV RX10 272 RX10 yX10_put wsX10_put) := goodIn_app (goodIn_of _ (by decide +kernel)) ggX10_doTwo_X10_put
set_option maxRecDepth 20000 in
theorem ggX10_doTwo_X10_cyclesOf : GoodIn wsX10_doTwo wsX10_cyclesOf := goodIn_r _ [104] (by decide +kernel) (by decide +kernel)
set_option maxRecDepth 20000 in
theorem gX10_doTwo_X10_cyclesOf : GoodIn wsX10_doTwo (va_wsS RX10 275 yX10_cyclesOf wsX10_cyclesOf) := goodIn_app (goodIn_of _ (by decide +kernel)) ggX10_doTwo_X10_cyclesOf
theorem dX10_doTwo_0 : decode cX10_doTwo 0 = .ok (.iload_n 1, 1) := by decide +kernel
theorem dX10_doTwo_1 : decode cX10_doTwo 1 = .ok (.iconst 4, 1) := by decide +kernel
theorem dX10_doTwo_2 : decode cX10_doTwo 2 = .ok (.if_icmp .eq 8, 3) := by decide +kernel
theorem dX10_doTwo_5 : decode cX10_doTwo 5 = .ok (.iload_n 1, 1) := by decide +kernel
theorem dX10_doTwo_6 : decode cX10_doTwo 6 = .ok (.iconst 5, 1) := by decide +kernel
theorem dX10_doTwo_7 : decode cX10_doTwo 7 = .ok (.if_icmp .ne 7, 3) := by decide +kernel
theorem dX10_doTwo_10 : decode cX10_doTwo 10 = .ok (.iconst 1, 1) := by decide +kernel
theorem dX10_doTwo_11 : decode cX10_doTwo 11 = .ok (.goto 4, 3) := by decide +kernel
theorem dX10_doTwo_14 : decode cX10_doTwo 14 = .ok (.iconst 0, 1) := by decide +kernel
theorem dX10_doTwo_15 : decode cX10_doTwo 15 = .ok (.istore_n 3, 1) := by decide +kernel
theorem dX10_doTwo_16 : decode cX10_doTwo 16 = .ok (.iload_n 2, 1) := by decide +kernel
theorem dX10_doTwo_17 : decode cX10_doTwo 17 = .ok (.ifCond .ne 18, 3) := by decide +kernel
theorem dX10_doTwo_20 : decode cX10_doTwo 20 = .ok (.iload_n 1, 1) := by decide +kernel
theorem dX10_doTwo_21 : decode cX10_doTwo 21 = .ok (.iconst 5, 1) := by decide +kernel
theorem dX10_doTwo_22 : decode cX10_doTwo 22 = .ok (.if_icmp .ne 11, 3) := by decide +kernel
theorem dX10_doTwo_25 : decode cX10_doTwo 25 = .ok (.aload_n 0, 1) := by decide +kernel
theorem dX10_doTwo_26 : decode cX10_doTwo 26 = .ok (.iconst 1, 1) := by decide +kernel
theorem dX10_doTwo_27 : decode cX10_doTwo 27 = .ok (.invokevirtual 287, 3) := by decide +kernel
theorem dX10_doTwo_30 : decode cX10_doTwo 30 = .ok (.goto 4, 3) := by decide +kernel
theorem dX10_doTwo_33 : decode cX10_doTwo 33 = .ok (.iconst (-1), 1) := by decide +kernel
theorem dX10_doTwo_34 : decode cX10_doTwo 34 = .ok (.ireturn, 1) := by decide +kernel
theorem dX10_doTwo_35 : decode cX10_doTwo 35 = .ok (.iload_n 2, 1) := by decide +kernel
theorem dX10_doTwo_36 : decode cX10_doTwo 36 = .ok (.iconst 2, 1) := by decide +kernel
theorem dX10_doTwo_37 : decode cX10_doTwo 37 = .ok (.if_icmp .ne 14, 3) := by decide +kernel
theorem dX10_doTwo_40 : decode cX10_doTwo 40 = .ok (.iload_n 1, 1) := by decide +kernel
theorem dX10_doTwo_41 : decode cX10_doTwo 41 = .ok (.iconst 3, 1) := by decide +kernel
theorem dX10_doTwo_42 : decode cX10_doTwo 42 = .ok (.if_icmp .le 9, 3) := by decide +kernel
theorem dX10_doTwo_45 : decode cX10_doTwo 45 = .ok (.aload_n 0, 1) := by decide +kernel
theorem dX10_doTwo_46 : decode cX10_doTwo 46 = .ok (.iload_n 1, 1) := by decide +kernel
theorem dX10_doTwo_47 : decode cX10_doTwo 47 = .ok (.invokevirtual 290, 3) := by decide +kernel
theorem dX10_doTwo_50 : decode cX10_doTwo 50 = .ok (.ireturn, 1) := by decide +kernel
theorem dX10_doTwo_51 : decode cX10_doTwo 51 = .ok (.iload_n 2, 1) := by decide +kernel
theorem dX10_doTwo_52 : decode cX10_doTwo 52 = .ok (.iconst 4, 1) := by decide +kernel
theorem dX10_doTwo_53 : decode cX10_doTwo 53 = .ok (.if_icmp .eq 13, 3) := by decide +kernel
theorem dX10_doTwo_56 : decode cX10_doTwo 56 = .ok (.iload_n 2, 1) := by decide +kernel
theorem dX10_doTwo_57 : decode cX10_doTwo 57 = .ok (.bipush 6, 2) := by decide +kernel
theorem dX10_doTwo_59 : decode cX10_doTwo 59 = .ok (.if_icmp .ne 9, 3) := by decide +kernel
theorem dX10_doTwo_62 : decode cX10_doTwo 62 = .ok (.iload_n 3, 1) := by decide +kernel
theorem dX10_doTwo_63 : decode cX10_doTwo 63 = .ok (.ifCond .ne 5, 3) := by decide +kernel
theorem dX10_doTwo_66 : decode cX10_doTwo 66 = .ok (.iconst (-1), 1) := by decide +kernel
theorem dX10_doTwo_67 : decode cX10_doTwo 67 = .ok (.ireturn, 1) := by decide +kernel
theorem dX10_doTwo_68 : decode cX10_doTwo 68 = .ok (.iload_n 2, 1) := by decide +kernel
theorem dX10_doTwo_69 : decode cX10_doTwo 69 = .ok (.bipush 6, 2) := by decide +kernel
theorem dX10_doTwo_71 : decode cX10_doTwo 71 = .ok (.if_icmp .ne 9, 3) := by decide +kernel
theorem dX10_doTwo_74 : decode cX10_doTwo 74 = .ok (.aload_n 0, 1) := by decide +kernel
theorem dX10_doTwo_75 : decode cX10_doTwo 75 = .ok (.iload_n 1, 1) := by decide +kernel
theorem dX10_doTwo_76 : decode cX10_doTwo 76 = .ok (.invokevirtual 293, 3) := by decide +kernel
theorem dX10_doTwo_79 : decode cX10_doTwo 79 = .ok (.ireturn, 1) := by decide +kernel
theorem dX10_doTwo_80 : decode cX10_doTwo 80 = .ok (.iload_n 2, 1) := by decide +kernel
theorem dX10_doTwo_81 : decode cX10_doTwo 81 = .ok (.iconst 1, 1) := by decide +kernel
theorem dX10_doTwo_82 : decode cX10_doTwo 82 = .ok (.if_icmp .ne 7, 3) := by decide +kernel
theorem dX10_doTwo_85 : decode cX10_doTwo 85 = .ok (.iconst 2, 1) := by decide +kernel
theorem dX10_doTwo_86 : decode cX10_doTwo 86 = .ok (.goto 49, 3) := by decide +kernel
theorem dX10_doTwo_89 : decode cX10_doTwo 89 = .ok (.iload_n 2, 1) := by decide +kernel
theorem dX10_doTwo_90 : decode cX10_doTwo 90 = .ok (.iconst 2, 1) := by decide +kernel
theorem dX10_doTwo_91 : decode cX10_doTwo 91 = .ok (.if_icmp .ne 7, 3) := by decide +kernel
theorem dX10_doTwo_94 : decode cX10_doTwo 94 = .ok (.iconst 0, 1) := by decide +kernel
theorem dX10_doTwo_95 : decode cX10_doTwo 95 = .ok (.goto 40, 3) := by decide +kernel
theorem dX10_doTwo_98 : decode cX10_doTwo 98 = .ok (.iload_n 2, 1) := by decide +kernel
theorem dX10_doTwo_99 : decode cX10_doTwo 99 = .ok (.iconst 3, 1) := by decide +kernel
theorem dX10_doTwo_100 : decode cX10_doTwo 100 = .ok (.if_icmp .ne 7, 3) := by decide +kernel
theorem dX10_doTwo_103 : decode cX10_doTwo 103 = .ok (.iconst 5, 1) := by decide +kernel
theorem dX10_doTwo_104 : decode cX10_doTwo 104 = .ok (.goto 31, 3) := by decide +kernel
theorem dX10_doTwo_107 : decode cX10_doTwo 107 = .ok (.iload_n 2, 1) := by decide +kernel
theorem dX10_doTwo_108 : decode cX10_doTwo 108 = .ok (.iconst 5, 1) := by decide +kernel
theorem dX10_doTwo_109 : decode cX10_doTwo 109 = .ok (.if_icmp .ne 15, 3) := by decide +kernel
theorem dX10_doTwo_112 : decode cX10_doTwo 112 = .ok (.iload_n 3, 1) := by decide +kernel
theorem dX10_doTwo_113 : decode cX10_doTwo 113 = .ok (.ifCond .eq 7, 3) := by decide +kernel
theorem dX10_doTwo_116 : decode cX10_doTwo 116 = .ok (.iconst 4, 1) := by decide +kernel
theorem dX10_doTwo_117 : decode cX10_doTwo 117 = .ok (.goto 18, 3) := by decide +kernel
theorem dX10_doTwo_120 : decode cX10_doTwo 120 = .ok (.iconst 3, 1) := by decide +kernel
theorem dX10_doTwo_121 : decode cX10_doTwo 121 = .ok (.goto 14, 3) := by decide +kernel
theorem dX10_doTwo_124 : decode cX10_doTwo 124 = .ok (.iload_n 3, 1) := by decide +kernel
theorem dX10_doTwo_125 : decode cX10_doTwo 125 = .ok (.ifCond .eq 8, 3) := by decide +kernel
theorem dX10_doTwo_128 : decode cX10_doTwo 128 = .ok (.bipush 7, 2) := by decide +kernel
theorem dX10_doTwo_130 : decode cX10_doTwo 130 = .ok (.goto 5, 3) := by decide +kernel
theorem dX10_doTwo_133 : decode cX10_doTwo 133 = .ok (.bipush 6, 2) := by decide +kernel
theorem dX10_doTwo_135 : decode cX10_doTwo 135 = .ok (.istore 4, 2) := by decide +kernel
theorem dX10_doTwo_137 : decode cX10_doTwo 137 = .ok (.iload_n 1, 1) := by decide +kernel
theorem dX10_doTwo_138 : decode cX10_doTwo 138 = .ok (.iconst 5, 1) := by decide +kernel
theorem dX10_doTwo_139 : decode cX10_doTwo 139 = .ok (.if_icmp .ne 10, 3) := by decide +kernel
theorem dX10_doTwo_142 : decode cX10_doTwo 142 = .ok (.aload_n 0, 1) := by decide +kernel
theorem dX10_doTwo_143 : decode cX10_doTwo 143 = .ok (.iload 4, 2) := by decide +kernel
theorem dX10_doTwo_145 : decode cX10_doTwo 145 = .ok (.invokevirtual 287, 3) := by decide +kernel
theorem dX10_doTwo_148 : decode cX10_doTwo 148 = .ok (.ireturn, 1) := by decide +kernel
theorem dX10_doTwo_149 : decode cX10_doTwo 149 = .ok (.iload_n 1, 1) := by decide +kernel
theorem dX10_doTwo_150 : decode cX10_doTwo 150 = .ok (.iconst 4, 1) := by decide +kernel
theorem dX10_doTwo_151 : decode cX10_doTwo 151 = .ok (.if_icmp .ne 11, 3) := by decide +kernel
theorem dX10_doTwo_154 : decode cX10_doTwo 154 = .ok (.iload_n 2, 1) := by decide +kernel
theorem dX10_doTwo_155 : decode cX10_doTwo 155 = .ok (.bipush 7, 2) := by decide +kernel
theorem dX10_doTwo_157 : decode cX10_doTwo 157 = .ok (.if_icmp .ne 5, 3) := by decide +kernel
theorem dX10_doTwo_160 : decode cX10_doTwo 160 = .ok (.iconst (-1), 1) := by decide +kernel
theorem dX10_doTwo_161 : decode cX10_doTwo 161 = .ok (.ireturn, 1) := by decide +kernel
theorem dX10_doTwo_162 : decode cX10_doTwo 162 = .ok (.iload_n 1, 1) := by decide +kernel
theorem dX10_doTwo_163 : decode cX10_doTwo 163 = .ok (.iconst 4, 1) := by decide +kernel
theorem dX10_doTwo_164 : decode cX10_doTwo 164 = .ok (.if_icmp .eq 11, 3) := by decide +kernel
theorem dX10_doTwo_167 : decode cX10_doTwo 167 = .ok (.aload_n 0, 1) := by decide +kernel
theorem dX10_doTwo_168 : decode cX10_doTwo 168 = .ok (.iload_n 1, 1) := by decide +kernel
theorem dX10_doTwo_169 : decode cX10_doTwo 169 = .ok (.iload 4, 2) := by decide +kernel
theorem dX10_doTwo_171 : decode cX10_doTwo 171 = .ok (.invokevirtual 296, 3) := by decide +kernel
theorem dX10_doTwo_174 : decode cX10_doTwo 174 = .ok (.ireturn, 1) := by decide +kernel
theorem dX10_doTwo_175 : decode cX10_doTwo 175 = .ok (.aload_n 0, 1) := by decide +kernel
theorem dX10_doTwo_176 : decode cX10_doTwo 176 = .ok (.aload_n 0, 1) := by decide +kernel
theorem dX10_doTwo_177 : decode cX10_doTwo 177 = .ok (.iload 4, 2) := by decide +kernel
theorem dX10_doTwo_179 : decode cX10_doTwo 179 = .ok (.invokevirtual 269, 3) := by decide +kernel
theorem dX10_doTwo_182 : decode cX10_doTwo 182 = .ok (.aload_n 0, 1) := by decide +kernel
theorem dX10_doTwo_183 : decode cX10_doTwo 183 = .ok (.getfield 244, 3) := by decide +kernel
theorem dX10_doTwo_186 : decode cX10_doTwo 186 = .ok (.invokevirtual 272, 3) := by decide +kernel
theorem dX10_doTwo_189 : decode cX10_doTwo 189 = .ok (.iload 4, 2) := by decide +kernel
theorem dX10_doTwo_191 : decode cX10_doTwo 191 = .ok (.invokestatic 275, 3) := by decide +kernel
theorem dX10_doTwo_194 : decode cX10_doTwo 194 = .ok (.ireturn, 1) := by decide +kernel
set_option maxRecDepth 20000 in
theorem ggX10_loadX_X10_addressed : GoodIn wsX10_loadX wsX10_addressed := goodIn_r _ [7, 8, 9, 1, 10, 11, 12, 13, 6, 14, 15, 16, 17, 18, 19, 20, 21, 22, 23, 24, 25, 26, 27, 28, 29, 30, 31, 32, 33, 34, 35, 36, 37, 38, 39, 40, 41, 42, 43, 44, 45, 46, 47, 48, 49, 50, 51, 52, 53, 54, 55, 56, 57, 58, 59, 60, 61, 62, 63, 64, 65, 66, 67, 68, 69, 70, 71, 72, 73, 74, 75, 76, 77, 78, 79, 80, 81, 82, 83, 84, 2, 85, 86, 87, 88, 101, 102, 103, 104, 105, 106, 107, 108, 109, 110, 111, 112, 113, 114, 115, 116, 117, 118, 119, 120, 121, 122, 123, 124, 125, 126, 127, 128, 129, 130, 131, 132, 133, 134, 135, 136, 137, 138, 139, 140, 141, 142, 143, 144, 145, 146, 147, 148, 149, 150, 151, 152, 153] (by decide +kernel) (by decide +kernel)
set_option maxRecDepth 20000 in
theorem gX10_loadX_X10_addressed : GoodIn wsX10_loadX (wsV RX10 269 RX10 yX10_addressed wsX10_addressed) := goodIn_app (goodIn_of _ (by decide +kernel)) ggX10_loadX_X10_addressed
set_option maxRecDepth 20000 in
theorem ggX10_loadX_X10_get : GoodIn wsX10_loadX wsX10_get := goodIn_r _ [18, 19, 20, 21, 22, 23, 24, 25, 6, 26, 27, 28, 29, 30, 31, 32, 33, 34, 35, 36, 37, 38, 39, 40, 41, 42, 43, 44, 45, 46, 47, 48, 49, 50, 51, 52, 53, 54, 55, 56, 57, 58, 59, 60, 61, 62, 63, 64, 65, 66, 67, 68, 69, 70, 71, 72, 73, 74, 75, 76, 101, 102, 103, 104, 105, 106, 107, 108, 109, 110, 111, 112, 113, 114, 115, 116, 117, 118, 119, 120, 121, 122, 123, 124, 125, 126, 127, 128, 129, 130, 131, 132, 133, 134, 135, 136, 137, 138, 139, 140, 141, 142, 143, 144, 145, 146, 147, 148, 149, 150, 151, 152, 153] (by decide +kernel) (by decide +kernel)
set_option maxRecDepth 20000 in
theorem gX10_loadX_X10_get : GoodIn wsX10_loadX (wsV RX10 172 RX10 yX10_get wsX10_get) := goodIn_app (goodIn_of _ (by decide +kernel)) ggX10_loadX_X10_get
set_option maxRecDepth 20000 in
theorem ggX10_loadX_X10_shown : GoodIn wsX10_loadX wsX10_shown := goodIn_r _ [92, 93, 94, 95, 6, 96, 97, 101, 102, 103, 104, 105, 106, 107, 108, 109, 110, 111, 112, 113, 114, 115, 116, 117, 118, 119, 120, 121, 122, 123, 124, 125, 126, 127, 128, 129, 130, 131, 132, 133, 134, 135, 136, 137, 138, 139, 140, 141, 142, 143, 144, 145, 146, 147, 148, 149, 150, 151, 152, 153] (by decide +kernel) (by decide +kernel)
set_option maxRecDepth 20000 in
theorem gX10_loadX_X10_shown : GoodIn wsX10_loadX (wsV RX10 263 RX10 yX10_shown wsX10_shown) := goodIn_app (goodIn_of _ (by decide +kernel)) ggX10_loadX_X10_shown
set_option maxRecDepth 20000 in
theorem ggX10_loadX_X10_cyclesOf : GoodIn wsX10_loadX wsX10_cyclesOf := goodIn_r _ [100] (by decide +kernel) (by decide +kernel)
set_option maxRecDepth 20000 in
theorem gX10_loadX_X10_cyclesOf : GoodIn wsX10_loadX (va_wsS RX10 275 yX10_cyclesOf wsX10_cyclesOf) := goodIn_app (goodIn_of _ (by decide +kernel)) ggX10_loadX_X10_cyclesOf
theorem dX10_loadX_0 : decode cX10_loadX 0 = .ok (.aload_n 0, 1) := by decide +kernel
theorem dX10_loadX_1 : decode cX10_loadX 1 = .ok (.iload_n 1, 1) := by decide +kernel
theorem dX10_loadX_2 : decode cX10_loadX 2 = .ok (.invokevirtual 269, 3) := by decide +kernel
theorem dX10_loadX_5 : decode cX10_loadX 5 = .ok (.istore_n 2, 1) := by decide +kernel
theorem dX10_loadX_6 : decode cX10_loadX 6 = .ok (.aload_n 0, 1) := by decide +kernel
theorem dX10_loadX_7 : decode cX10_loadX 7 = .ok (.aload_n 0, 1) := by decide +kernel
theorem dX10_loadX_8 : decode cX10_loadX 8 = .ok (.aload_n 0, 1) := by decide +kernel
theorem dX10_loadX_9 : decode cX10_loadX 9 = .ok (.iload_n 2, 1) := by decide +kernel
theorem dX10_loadX_10 : decode cX10_loadX 10 = .ok (.invokevirtual 172, 3) := by decide +kernel
theorem dX10_loadX_13 : decode cX10_loadX 13 = .ok (.invokevirtual 263, 3) := by decide +kernel
theorem dX10_loadX_16 : decode cX10_loadX 16 = .ok (.putfield 244, 3) := by decide +kernel
theorem dX10_loadX_19 : decode cX10_loadX 19 = .ok (.iload_n 1, 1) := by decide +kernel
theorem dX10_loadX_20 : decode cX10_loadX 20 = .ok (.invokestatic 275, 3) := by decide +kernel
theorem dX10_loadX_23 : decode cX10_loadX 23 = .ok (.aload_n 0, 1) := by decide +kernel
theorem dX10_loadX_24 : decode cX10_loadX 24 = .ok (.getfield 260, 3) := by decide +kernel
theorem dX10_loadX_27 : decode cX10_loadX 27 = .ok (.ifCond .eq 7, 3) := by decide +kernel
theorem dX10_loadX_30 : decode cX10_loadX 30 = .ok (.iconst 1, 1) := by decide +kernel
theorem dX10_loadX_31 : decode cX10_loadX 31 = .ok (.goto 4, 3) := by decide +kernel
theorem dX10_loadX_34 : decode cX10_loadX 34 = .ok (.iconst 0, 1) := by decide +kernel
theorem dX10_loadX_35 : decode cX10_loadX 35 = .ok (.iadd, 1) := by decide +kernel
theorem dX10_loadX_36 : decode cX10_loadX 36 = .ok (.ireturn, 1) := by decide +kernel
set_option maxRecDepth 20000 in
theorem ggX10_moved_X10_shown : GoodIn wsX10_moved wsX10_shown := goodIn_r _ [7, 8, 9, 10, 6, 11, 12, 13, 14, 15, 16, 17, 18, 19, 20, 21, 22, 23, 24, 25, 26, 27, 28, 29, 30, 31, 32, 33, 34, 35, 36, 37, 38, 39, 40, 41, 42, 43, 44, 45, 46, 47, 48, 49, 50, 51, 52, 53, 54, 55, 56, 57, 58, 59, 60, 61, 62, 63, 64, 65] (by decide +kernel) (by decide +kernel)
set_option maxRecDepth 20000 in
theorem gX10_moved_X10_shown : GoodIn wsX10_moved (wsV RX10 263 RX10 yX10_shown wsX10_shown) := goodIn_app (goodIn_of _ (by decide +kernel)) ggX10_moved_X10_shown
theorem dX10_moved_0 : decode cX10_moved 0 = .ok (.iload_n 1, 1) := by decide +kernel
theorem dX10_moved_1 : decode cX10_moved 1 = .ok (.iconst 4, 1) := by decide +kernel
theorem dX10_moved_2 : decode cX10_moved 2 = .ok (.if_icmp .ne 15, 3) := by decide +kernel
theorem dX10_moved_5 : decode cX10_moved 5 = .ok (.aload_n 0, 1) := by decide +kernel
theorem dX10_moved_6 : decode cX10_moved 6 = .ok (.aload_n 0, 1) := by decide +kernel
theorem dX10_moved_7 : decode cX10_moved 7 = .ok (.aload_n 0, 1) := by decide +kernel
theorem dX10_moved_8 : decode cX10_moved 8 = .ok (.getfield 244, 3) := by decide +kernel
theorem dX10_moved_11 : decode cX10_moved 11 = .ok (.invokevirtual 263, 3) := by decide +kernel
theorem dX10_moved_14 : decode cX10_moved 14 = .ok (.putfield 266, 3) := by decide +kernel
theorem dX10_moved_17 : decode cX10_moved 17 = .ok (.iload_n 1, 1) := by decide +kernel
theorem dX10_moved_18 : decode cX10_moved 18 = .ok (.iconst 5, 1) := by decide +kernel
theorem dX10_moved_19 : decode cX10_moved 19 = .ok (.if_icmp .ne 15, 3) := by decide +kernel
theorem dX10_moved_22 : decode cX10_moved 22 = .ok (.aload_n 0, 1) := by decide +kernel
theorem dX10_moved_23 : decode cX10_moved 23 = .ok (.aload_n 0, 1) := by decide +kernel
theorem dX10_moved_24 : decode cX10_moved 24 = .ok (.aload_n 0, 1) := by decide +kernel
theorem dX10_moved_25 : decode cX10_moved 25 = .ok (.getfield 266, 3) := by decide +kernel
theorem dX10_moved_28 : decode cX10_moved 28 = .ok (.invokevirtual 263, 3) := by decide +kernel
theorem dX10_moved_31 : decode cX10_moved 31 = .ok (.putfield 244, 3) := by decide +kernel
theorem dX10_moved_34 : decode cX10_moved 34 = .ok (.iload_n 1, 1) := by decide +kernel
theorem dX10_moved_35 : decode cX10_moved 35 = .ok (.bipush 6, 2) := by decide +kernel
theorem dX10_moved_37 : decode cX10_moved 37 = .ok (.if_icmp .ne 21, 3) := by decide +kernel
theorem dX10_moved_40 : decode cX10_moved 40 = .ok (.aload_n 0, 1) := by decide +kernel
theorem dX10_moved_41 : decode cX10_moved 41 = .ok (.aload_n 0, 1) := by decide +kernel
theorem dX10_moved_42 : decode cX10_moved 42 = .ok (.aload_n 0, 1) := by decide +kernel
theorem dX10_moved_43 : decode cX10_moved 43 = .ok (.getfield 244, 3) := by decide +kernel
theorem dX10_moved_46 : decode cX10_moved 46 = .ok (.iconst 1, 1) := by decide +kernel
theorem dX10_moved_47 : decode cX10_moved 47 = .ok (.isub, 1) := by decide +kernel
theorem dX10_moved_48 : decode cX10_moved 48 = .ok (.sipush 255, 3) := by decide +kernel
theorem dX10_moved_51 : decode cX10_moved 51 = .ok (.iand, 1) := by decide +kernel
theorem dX10_moved_52 : decode cX10_moved 52 = .ok (.invokevirtual 263, 3) := by decide +kernel
theorem dX10_moved_55 : decode cX10_moved 55 = .ok (.putfield 244, 3) := by decide +kernel
theorem dX10_moved_58 : decode cX10_moved 58 = .ok (.iconst 2, 1) := by decide +kernel
theorem dX10_moved_59 : decode cX10_moved 59 = .ok (.ireturn, 1) := by decide +kernel
set_option maxRecDepth 20000 in
theorem ggX10_stackPointer_X10_shown : GoodIn wsX10_stackPointer wsX10_shown := goodIn_r _ [7, 8, 9, 10, 6, 11, 12, 13, 14, 15, 16, 17, 18, 19, 20, 21, 22, 23, 24, 25, 26, 27, 28, 29, 30, 31, 32, 33, 34, 35, 36, 37, 38, 39, 40, 41, 42, 43, 44, 45, 46, 47, 48, 49, 50, 51, 52, 53, 54, 55, 56, 57, 58, 59, 60, 61, 62, 63, 64, 65] (by decide +kernel) (by decide +kernel)
set_option maxRecDepth 20000 in
theorem gX10_stackPointer_X10_shown : GoodIn wsX10_stackPointer (wsV RX10 263 RX10 yX10_shown wsX10_shown) := goodIn_app (goodIn_of _ (by decide +kernel)) ggX10_stackPointer_X10_shown
theorem dX10_stackPointer_0 : decode cX10_stackPointer 0 = .ok (.iload_n 1, 1) := by decide +kernel
theorem dX10_stackPointer_1 : decode cX10_stackPointer 1 = .ok (.iconst 4, 1) := by decide +kernel
theorem dX10_stackPointer_2 : decode cX10_stackPointer 2 = .ok (.if_icmp .ne 14, 3) := by decide +kernel
theorem dX10_stackPointer_5 : decode cX10_stackPointer 5 = .ok (.aload_n 0, 1) := by decide +kernel
theorem dX10_stackPointer_6 : decode cX10_stackPointer 6 = .ok (.aload_n 0, 1) := by decide +kernel
theorem dX10_stackPointer_7 : decode cX10_stackPointer 7 = .ok (.getfield 244, 3) := by decide +kernel
theorem dX10_stackPointer_10 : decode cX10_stackPointer 10 = .ok (.putfield 225, 3) := by decide +kernel
theorem dX10_stackPointer_13 : decode cX10_stackPointer 13 = .ok (.goto 15, 3) := by decide +kernel
theorem dX10_stackPointer_16 : decode cX10_stackPointer 16 = .ok (.aload_n 0, 1) := by decide +kernel
theorem dX10_stackPointer_17 : decode cX10_stackPointer 17 = .ok (.aload_n 0, 1) := by decide +kernel
theorem dX10_stackPointer_18 : decode cX10_stackPointer 18 = .ok (.aload_n 0, 1) := by decide +kernel
theorem dX10_stackPointer_19 : decode cX10_stackPointer 19 = .ok (.getfield 225, 3) := by decide +kernel
theorem dX10_stackPointer_22 : decode cX10_stackPointer 22 = .ok (.invokevirtual 263, 3) := by decide +kernel
theorem dX10_stackPointer_25 : decode cX10_stackPointer 25 = .ok (.putfield 244, 3) := by decide +kernel
theorem dX10_stackPointer_28 : decode cX10_stackPointer 28 = .ok (.iconst 2, 1) := by decide +kernel
theorem dX10_stackPointer_29 : decode cX10_stackPointer 29 = .ok (.ireturn, 1) := by decide +kernel
set_option maxRecDepth 20000 in
theorem ggX10_branch_X10_fetch : GoodIn wsX10_branch wsX10_fetch := goodIn_r _ [8, 2, 3, 9, 10, 11, 7, 12, 13, 14, 15, 16, 17, 18, 19, 20, 21, 22, 23, 24, 25, 26, 27, 28, 29, 30, 31, 32, 33, 34, 35, 36, 37, 38, 39, 40, 41, 42, 43, 44, 45, 46, 47, 48, 49, 50, 51, 52, 53, 54, 55, 56, 57, 58, 59, 60, 61, 62, 63, 64, 65, 66, 67, 68, 69, 70, 71, 72, 73, 74, 75, 76, 77, 78, 79, 80, 81, 82, 83, 84, 85, 86, 87, 88, 89, 90, 91, 92, 93, 94, 95, 96, 97, 98, 99, 100, 101, 102, 103, 104, 105, 106, 107, 108, 109, 110, 111, 112, 113, 114, 115, 116, 117, 118, 119, 120, 121, 122, 123] (by decide +kernel) (by decide +kernel)
set_option maxRecDepth 20000 in
theorem gX10_branch_X10_fetch : GoodIn wsX10_branch (wsV RX10 221 RX10 yX10_fetch wsX10_fetch) := goodIn_app (goodIn_of _ (by decide +kernel)) ggX10_branch_X10_fetch
theorem dX10_branch_0 : decode cX10_branch 0 = .ok (.aload_n 0, 1) := by decide +kernel
theorem dX10_branch_1 : decode cX10_branch 1 = .ok (.invokevirtual 221, 3) := by decide +kernel
theorem dX10_branch_4 : decode cX10_branch 4 = .ok (.istore_n 2, 1) := by decide +kernel
theorem dX10_branch_5 : decode cX10_branch 5 = .ok (.iload_n 1, 1) := by decide +kernel
theorem dX10_branch_6 : decode cX10_branch 6 = .ok (.iconst 2, 1) := by decide +kernel
theorem dX10_branch_7 : decode cX10_branch 7 = .ok (.if_icmp .ge 9, 3) := by decide +kernel
theorem dX10_branch_10 : decode cX10_branch 10 = .ok (.sipush 128, 3) := by decide +kernel
theorem dX10_branch_13 : decode cX10_branch 13 = .ok (.goto 24, 3) := by decide +kernel
theorem dX10_branch_16 : decode cX10_branch 16 = .ok (.iload_n 1, 1) := by decide +kernel
theorem dX10_branch_17 : decode cX10_branch 17 = .ok (.iconst 4, 1) := by decide +kernel
theorem dX10_branch_18 : decode cX10_branch 18 = .ok (.if_icmp .ge 8, 3) := by decide +kernel
theorem dX10_branch_21 : decode cX10_branch 21 = .ok (.bipush 64, 2) := by decide +kernel
theorem dX10_branch_23 : decode cX10_branch 23 = .ok (.goto 14, 3) := by decide +kernel
theorem dX10_branch_26 : decode cX10_branch 26 = .ok (.iload_n 1, 1) := by decide +kernel
theorem dX10_branch_27 : decode cX10_branch 27 = .ok (.bipush 6, 2) := by decide +kernel
theorem dX10_branch_29 : decode cX10_branch 29 = .ok (.if_icmp .ge 7, 3) := by decide +kernel
theorem dX10_branch_32 : decode cX10_branch 32 = .ok (.iconst 1, 1) := by decide +kernel
theorem dX10_branch_33 : decode cX10_branch 33 = .ok (.goto 4, 3) := by decide +kernel
theorem dX10_branch_36 : decode cX10_branch 36 = .ok (.iconst 2, 1) := by decide +kernel
theorem dX10_branch_37 : decode cX10_branch 37 = .ok (.istore_n 3, 1) := by decide +kernel
theorem dX10_branch_38 : decode cX10_branch 38 = .ok (.aload_n 0, 1) := by decide +kernel
theorem dX10_branch_39 : decode cX10_branch 39 = .ok (.getfield 22, 3) := by decide +kernel
theorem dX10_branch_42 : decode cX10_branch 42 = .ok (.iload_n 3, 1) := by decide +kernel
theorem dX10_branch_43 : decode cX10_branch 43 = .ok (.iand, 1) := by decide +kernel
theorem dX10_branch_44 : decode cX10_branch 44 = .ok (.ifCond .eq 7, 3) := by decide +kernel
theorem dX10_branch_47 : decode cX10_branch 47 = .ok (.iconst 1, 1) := by decide +kernel
theorem dX10_branch_48 : decode cX10_branch 48 = .ok (.goto 4, 3) := by decide +kernel
theorem dX10_branch_51 : decode cX10_branch 51 = .ok (.iconst 0, 1) := by decide +kernel
theorem dX10_branch_52 : decode cX10_branch 52 = .ok (.iload_n 1, 1) := by decide +kernel
theorem dX10_branch_53 : decode cX10_branch 53 = .ok (.iconst 1, 1) := by decide +kernel
theorem dX10_branch_54 : decode cX10_branch 54 = .ok (.iand, 1) := by decide +kernel
theorem dX10_branch_55 : decode cX10_branch 55 = .ok (.iconst 1, 1) := by decide +kernel
theorem dX10_branch_56 : decode cX10_branch 56 = .ok (.if_icmp .ne 7, 3) := by decide +kernel
theorem dX10_branch_59 : decode cX10_branch 59 = .ok (.iconst 1, 1) := by decide +kernel
theorem dX10_branch_60 : decode cX10_branch 60 = .ok (.goto 4, 3) := by decide +kernel
theorem dX10_branch_63 : decode cX10_branch 63 = .ok (.iconst 0, 1) := by decide +kernel
theorem dX10_branch_64 : decode cX10_branch 64 = .ok (.if_icmp .eq 5, 3) := by decide +kernel
theorem dX10_branch_67 : decode cX10_branch 67 = .ok (.iconst 2, 1) := by decide +kernel
theorem dX10_branch_68 : decode cX10_branch 68 = .ok (.ireturn, 1) := by decide +kernel
theorem dX10_branch_69 : decode cX10_branch 69 = .ok (.aload_n 0, 1) := by decide +kernel
theorem dX10_branch_70 : decode cX10_branch 70 = .ok (.getfield 218, 3) := by decide +kernel
theorem dX10_branch_73 : decode cX10_branch 73 = .ok (.istore 4, 2) := by decide +kernel
theorem dX10_branch_75 : decode cX10_branch 75 = .ok (.aload_n 0, 1) := by decide +kernel
theorem dX10_branch_76 : decode cX10_branch 76 = .ok (.aload_n 0, 1) := by decide +kernel
theorem dX10_branch_77 : decode cX10_branch 77 = .ok (.getfield 218, 3) := by decide +kernel
theorem dX10_branch_80 : decode cX10_branch 80 = .ok (.iload_n 2, 1) := by decide +kernel
theorem dX10_branch_81 : decode cX10_branch 81 = .ok (.sipush 128, 3) := by decide +kernel
theorem dX10_branch_84 : decode cX10_branch 84 = .ok (.if_icmp .ge 7, 3) := by decide +kernel
theorem dX10_branch_87 : decode cX10_branch 87 = .ok (.iload_n 2, 1) := by decide +kernel
theorem dX10_branch_88 : decode cX10_branch 88 = .ok (.goto 8, 3) := by decide +kernel
theorem dX10_branch_91 : decode cX10_branch 91 = .ok (.iload_n 2, 1) := by decide +kernel
theorem dX10_branch_92 : decode cX10_branch 92 = .ok (.sipush 256, 3) := by decide +kernel
theorem dX10_branch_95 : decode cX10_branch 95 = .ok (.isub, 1) := by decide +kernel
theorem dX10_branch_96 : decode cX10_branch 96 = .ok (.iadd, 1) := by decide +kernel
theorem dX10_branch_97 : decode cX10_branch 97 = .ok (.ldc 204, 2) := by decide +kernel
theorem dX10_branch_99 : decode cX10_branch 99 = .ok (.iand, 1) := by decide +kernel
theorem dX10_branch_100 : decode cX10_branch 100 = .ok (.putfield 218, 3) := by decide +kernel
theorem dX10_branch_103 : decode cX10_branch 103 = .ok (.aload_n 0, 1) := by decide +kernel
theorem dX10_branch_104 : decode cX10_branch 104 = .ok (.getfield 218, 3) := by decide +kernel
theorem dX10_branch_107 : decode cX10_branch 107 = .ok (.iload 4, 2) := by decide +kernel
theorem dX10_branch_109 : decode cX10_branch 109 = .ok (.ixor, 1) := by decide +kernel
theorem dX10_branch_110 : decode cX10_branch 110 = .ok (.sipush 255, 3) := by decide +kernel
theorem dX10_branch_113 : decode cX10_branch 113 = .ok (.if_icmp .le 7, 3) := by decide +kernel
theorem dX10_branch_116 : decode cX10_branch 116 = .ok (.iconst 4, 1) := by decide +kernel
theorem dX10_branch_117 : decode cX10_branch 117 = .ok (.goto 4, 3) := by decide +kernel
theorem dX10_branch_120 : decode cX10_branch 120 = .ok (.iconst 3, 1) := by decide +kernel
theorem dX10_branch_121 : decode cX10_branch 121 = .ok (.ireturn, 1) := by decide +kernel
set_option maxRecDepth 20000 in
theorem ggX10_stacked_X10_push : GoodIn wsX10_stacked wsX10_push := goodIn_r _ [9, 10, 11, 24, 25, 26, 27, 28, 29, 30, 31, 32, 33, 34, 35, 36, 37, 38, 39, 40, 41, 42, 43, 44, 45, 46, 47, 48, 49, 50, 51, 52, 53, 54, 55, 56, 57, 58, 59, 60, 61, 62, 63, 64, 65, 66, 67, 68, 69, 70, 71, 72, 73, 74, 75, 76] (by decide +kernel) (by decide +kernel)
set_option maxRecDepth 20000 in
theorem gX10_stacked_X10_push : GoodIn wsX10_stacked (wsV RX10 228 RX10 yX10_push wsX10_push) := goodIn_app (goodIn_of _ (by decide +kernel)) ggX10_stacked_X10_push
set_option maxRecDepth 20000 in
theorem ggX10_stacked_X10_pull : GoodIn wsX10_stacked wsX10_pull := goodIn_r _ [15, 11, 10, 24, 25, 26, 27, 28, 29, 30, 31, 32, 33, 34, 35, 36, 37, 38, 39, 40, 41, 42, 43, 44, 45, 46, 47, 48, 49, 50, 51, 52, 53, 54, 55, 56, 57, 58, 59, 60, 61, 62, 63, 64, 65, 66, 67, 68, 69, 70, 71, 72, 73, 74, 75, 76] (by decide +kernel) (by decide +kernel)
set_option maxRecDepth 20000 in
theorem gX10_stacked_X10_pull : GoodIn wsX10_stacked (wsV RX10 231 RX10 yX10_pull wsX10_pull) := goodIn_app (goodIn_of _ (by decide +kernel)) ggX10_stacked_X10_pull
set_option maxRecDepth 20000 in
theorem ggX10_stacked_X10_shown : GoodIn wsX10_stacked wsX10_shown := goodIn_r _ [19, 20, 21, 22, 8, 23, 1, 24, 25, 26, 27, 28, 29, 30, 31, 32, 33, 34, 35, 36, 37, 38, 39, 40, 41, 42, 43, 44, 45, 46, 47, 48, 49, 50, 51, 52, 53, 54, 55, 56, 57, 58, 59, 60, 61, 62, 63, 64, 65, 66, 67, 68, 69, 70, 71, 72, 73, 74, 75, 76] (by decide +kernel) (by decide +kernel)
set_option maxRecDepth 20000 in
theorem gX10_stacked_X10_shown : GoodIn wsX10_stacked (wsV RX10 263 RX10 yX10_shown wsX10_shown) := goodIn_app (goodIn_of _ (by decide +kernel)) ggX10_stacked_X10_shown
theorem dX10_stacked_0 : decode cX10_stacked 0 = .ok (.iload_n 1, 1) := by decide +kernel
theorem dX10_stacked_1 : decode cX10_stacked 1 = .ok (.tableswitch 150 0 6 #[43, 56, 72, 82, 96, 116, 130], 43) := by decide +kernel
theorem dX10_stacked_44 : decode cX10_stacked 44 = .ok (.aload_n 0, 1) := by decide +kernel
theorem dX10_stacked_45 : decode cX10_stacked 45 = .ok (.aload_n 0, 1) := by decide +kernel
theorem dX10_stacked_46 : decode cX10_stacked 46 = .ok (.getfield 22, 3) := by decide +kernel
theorem dX10_stacked_49 : decode cX10_stacked 49 = .ok (.bipush 16, 2) := by decide +kernel
theorem dX10_stacked_51 : decode cX10_stacked 51 = .ok (.ior, 1) := by decide +kernel
theorem dX10_stacked_52 : decode cX10_stacked 52 = .ok (.invokevirtual 228, 3) := by decide +kernel
theorem dX10_stacked_55 : decode cX10_stacked 55 = .ok (.iconst 3, 1) := by decide +kernel
theorem dX10_stacked_56 : decode cX10_stacked 56 = .ok (.ireturn, 1) := by decide +kernel
theorem dX10_stacked_57 : decode cX10_stacked 57 = .ok (.aload_n 0, 1) := by decide +kernel
theorem dX10_stacked_58 : decode cX10_stacked 58 = .ok (.aload_n 0, 1) := by decide +kernel
theorem dX10_stacked_59 : decode cX10_stacked 59 = .ok (.invokevirtual 231, 3) := by decide +kernel
theorem dX10_stacked_62 : decode cX10_stacked 62 = .ok (.bipush (-17), 2) := by decide +kernel
theorem dX10_stacked_64 : decode cX10_stacked 64 = .ok (.iand, 1) := by decide +kernel
theorem dX10_stacked_65 : decode cX10_stacked 65 = .ok (.bipush 32, 2) := by decide +kernel
theorem dX10_stacked_67 : decode cX10_stacked 67 = .ok (.ior, 1) := by decide +kernel
theorem dX10_stacked_68 : decode cX10_stacked 68 = .ok (.putfield 22, 3) := by decide +kernel
theorem dX10_stacked_71 : decode cX10_stacked 71 = .ok (.iconst 4, 1) := by decide +kernel
theorem dX10_stacked_72 : decode cX10_stacked 72 = .ok (.ireturn, 1) := by decide +kernel
theorem dX10_stacked_73 : decode cX10_stacked 73 = .ok (.aload_n 0, 1) := by decide +kernel
theorem dX10_stacked_74 : decode cX10_stacked 74 = .ok (.aload_n 0, 1) := by decide +kernel
theorem dX10_stacked_75 : decode cX10_stacked 75 = .ok (.getfield 266, 3) := by decide +kernel
theorem dX10_stacked_78 : decode cX10_stacked 78 = .ok (.invokevirtual 228, 3) := by decide +kernel
theorem dX10_stacked_81 : decode cX10_stacked 81 = .ok (.iconst 3, 1) := by decide +kernel
theorem dX10_stacked_82 : decode cX10_stacked 82 = .ok (.ireturn, 1) := by decide +kernel
theorem dX10_stacked_83 : decode cX10_stacked 83 = .ok (.aload_n 0, 1) := by decide +kernel
theorem dX10_stacked_84 : decode cX10_stacked 84 = .ok (.aload_n 0, 1) := by decide +kernel
theorem dX10_stacked_85 : decode cX10_stacked 85 = .ok (.aload_n 0, 1) := by decide +kernel
theorem dX10_stacked_86 : decode cX10_stacked 86 = .ok (.invokevirtual 231, 3) := by decide +kernel
theorem dX10_stacked_89 : decode cX10_stacked 89 = .ok (.invokevirtual 263, 3) := by decide +kernel
theorem dX10_stacked_92 : decode cX10_stacked 92 = .ok (.putfield 266, 3) := by decide +kernel
theorem dX10_stacked_95 : decode cX10_stacked 95 = .ok (.iconst 4, 1) := by decide +kernel
theorem dX10_stacked_96 : decode cX10_stacked 96 = .ok (.ireturn, 1) := by decide +kernel
theorem dX10_stacked_97 : decode cX10_stacked 97 = .ok (.aload_n 0, 1) := by decide +kernel
theorem dX10_stacked_98 : decode cX10_stacked 98 = .ok (.aload_n 0, 1) := by decide +kernel
theorem dX10_stacked_99 : decode cX10_stacked 99 = .ok (.aload_n 0, 1) := by decide +kernel
theorem dX10_stacked_100 : decode cX10_stacked 100 = .ok (.getfield 247, 3) := by decide +kernel
theorem dX10_stacked_103 : decode cX10_stacked 103 = .ok (.iconst 1, 1) := by decide +kernel
theorem dX10_stacked_104 : decode cX10_stacked 104 = .ok (.isub, 1) := by decide +kernel
theorem dX10_stacked_105 : decode cX10_stacked 105 = .ok (.sipush 255, 3) := by decide +kernel
theorem dX10_stacked_108 : decode cX10_stacked 108 = .ok (.iand, 1) := by decide +kernel
theorem dX10_stacked_109 : decode cX10_stacked 109 = .ok (.invokevirtual 263, 3) := by decide +kernel
theorem dX10_stacked_112 : decode cX10_stacked 112 = .ok (.putfield 247, 3) := by decide +kernel
theorem dX10_stacked_115 : decode cX10_stacked 115 = .ok (.iconst 2, 1) := by decide +kernel
theorem dX10_stacked_116 : decode cX10_stacked 116 = .ok (.ireturn, 1) := by decide +kernel
theorem dX10_stacked_117 : decode cX10_stacked 117 = .ok (.aload_n 0, 1) := by decide +kernel
theorem dX10_stacked_118 : decode cX10_stacked 118 = .ok (.aload_n 0, 1) := by decide +kernel
theorem dX10_stacked_119 : decode cX10_stacked 119 = .ok (.aload_n 0, 1) := by decide +kernel
theorem dX10_stacked_120 : decode cX10_stacked 120 = .ok (.getfield 266, 3) := by decide +kernel
theorem dX10_stacked_123 : decode cX10_stacked 123 = .ok (.invokevirtual 263, 3) := by decide +kernel
theorem dX10_stacked_126 : decode cX10_stacked 126 = .ok (.putfield 247, 3) := by decide +kernel
theorem dX10_stacked_129 : decode cX10_stacked 129 = .ok (.iconst 2, 1) := by decide +kernel
theorem dX10_stacked_130 : decode cX10_stacked 130 = .ok (.ireturn, 1) := by decide +kernel
theorem dX10_stacked_131 : decode cX10_stacked 131 = .ok (.aload_n 0, 1) := by decide +kernel
theorem dX10_stacked_132 : decode cX10_stacked 132 = .ok (.aload_n 0, 1) := by decide +kernel
theorem dX10_stacked_133 : decode cX10_stacked 133 = .ok (.aload_n 0, 1) := by decide +kernel
theorem dX10_stacked_134 : decode cX10_stacked 134 = .ok (.getfield 247, 3) := by decide +kernel
theorem dX10_stacked_137 : decode cX10_stacked 137 = .ok (.iconst 1, 1) := by decide +kernel
theorem dX10_stacked_138 : decode cX10_stacked 138 = .ok (.iadd, 1) := by decide +kernel
theorem dX10_stacked_139 : decode cX10_stacked 139 = .ok (.sipush 255, 3) := by decide +kernel
theorem dX10_stacked_142 : decode cX10_stacked 142 = .ok (.iand, 1) := by decide +kernel
theorem dX10_stacked_143 : decode cX10_stacked 143 = .ok (.invokevirtual 263, 3) := by decide +kernel
theorem dX10_stacked_146 : decode cX10_stacked 146 = .ok (.putfield 247, 3) := by decide +kernel
theorem dX10_stacked_149 : decode cX10_stacked 149 = .ok (.iconst 2, 1) := by decide +kernel
theorem dX10_stacked_150 : decode cX10_stacked 150 = .ok (.ireturn, 1) := by decide +kernel
theorem dX10_stacked_151 : decode cX10_stacked 151 = .ok (.aload_n 0, 1) := by decide +kernel
theorem dX10_stacked_152 : decode cX10_stacked 152 = .ok (.aload_n 0, 1) := by decide +kernel
theorem dX10_stacked_153 : decode cX10_stacked 153 = .ok (.aload_n 0, 1) := by decide +kernel
theorem dX10_stacked_154 : decode cX10_stacked 154 = .ok (.getfield 244, 3) := by decide +kernel
theorem dX10_stacked_157 : decode cX10_stacked 157 = .ok (.iconst 1, 1) := by decide +kernel
theorem dX10_stacked_158 : decode cX10_stacked 158 = .ok (.iadd, 1) := by decide +kernel
theorem dX10_stacked_159 : decode cX10_stacked 159 = .ok (.sipush 255, 3) := by decide +kernel
theorem dX10_stacked_162 : decode cX10_stacked 162 = .ok (.iand, 1) := by decide +kernel
theorem dX10_stacked_163 : decode cX10_stacked 163 = .ok (.invokevirtual 263, 3) := by decide +kernel
theorem dX10_stacked_166 : decode cX10_stacked 166 = .ok (.putfield 244, 3) := by decide +kernel
theorem dX10_stacked_169 : decode cX10_stacked 169 = .ok (.iconst 2, 1) := by decide +kernel
theorem dX10_stacked_170 : decode cX10_stacked 170 = .ok (.ireturn, 1) := by decide +kernel
set_option maxRecDepth 20000 in
theorem ggX10_flagged_X10_flag : GoodIn wsX10_flagged wsX10_flag := goodIn_r _ [7, 8, 13, 14, 15, 16, 17, 18, 19, 20, 21, 22, 23, 24, 25, 26, 27, 28, 29, 30, 31, 32, 33, 34, 35, 36, 37, 38, 39, 40, 41, 42, 43, 44, 45, 46, 47, 48, 49, 50, 51, 52, 53, 54, 55, 56, 57, 58, 59, 60, 61, 62, 63, 64, 65] (by decide +kernel) (by decide +kernel)
set_option maxRecDepth 20000 in
theorem gX10_flagged_X10_flag : GoodIn wsX10_flagged (wsV RX10 234 RX10 yX10_flag wsX10_flag) := goodIn_app (goodIn_of _ (by decide +kernel)) ggX10_flagged_X10_flag
set_option maxRecDepth 20000 in
theorem ggX10_flagged_X10_shown : GoodIn wsX10_flagged wsX10_shown := goodIn_r _ [12, 3, 4, 5, 6, 7, 8, 13, 14, 15, 16, 17, 18, 19, 20, 21, 22, 23, 24, 25, 26, 27, 28, 29, 30, 31, 32, 33, 34, 35, 36, 37, 38, 39, 40, 41, 42, 43, 44, 45, 46, 47, 48, 49, 50, 51, 52, 53, 54, 55, 56, 57, 58, 59, 60, 61, 62, 63, 64, 65] (by decide +kernel) (by decide +kernel)
set_option maxRecDepth 20000 in
theorem gX10_flagged_X10_shown : GoodIn wsX10_flagged (wsV RX10 263 RX10 yX10_shown wsX10_shown) := goodIn_app (goodIn_of _ (by decide +kernel)) ggX10_flagged_X10_shown
theorem dX10_flagged_0 : decode cX10_flagged 0 = .ok (.iload_n 1, 1) := by decide +kernel
theorem dX10_flagged_1 : decode cX10_flagged 1 = .ok (.tableswitch 100 0 5 #[39, 39, 57, 57, 75, 90], 39) := by decide +kernel
theorem dX10_flagged_40 : decode cX10_flagged 40 = .ok (.aload_n 0, 1) := by decide +kernel
theorem dX10_flagged_41 : decode cX10_flagged 41 = .ok (.iconst 1, 1) := by decide +kernel
theorem dX10_flagged_42 : decode cX10_flagged 42 = .ok (.iload_n 1, 1) := by decide +kernel
theorem dX10_flagged_43 : decode cX10_flagged 43 = .ok (.iconst 1, 1) := by decide +kernel
theorem dX10_flagged_44 : decode cX10_flagged 44 = .ok (.if_icmp .ne 7, 3) := by decide +kernel
theorem dX10_flagged_47 : decode cX10_flagged 47 = .ok (.iconst 1, 1) := by decide +kernel
theorem dX10_flagged_48 : decode cX10_flagged 48 = .ok (.goto 4, 3) := by decide +kernel
theorem dX10_flagged_51 : decode cX10_flagged 51 = .ok (.iconst 0, 1) := by decide +kernel
theorem dX10_flagged_52 : decode cX10_flagged 52 = .ok (.invokevirtual 234, 3) := by decide +kernel
theorem dX10_flagged_55 : decode cX10_flagged 55 = .ok (.goto 63, 3) := by decide +kernel
theorem dX10_flagged_58 : decode cX10_flagged 58 = .ok (.aload_n 0, 1) := by decide +kernel
theorem dX10_flagged_59 : decode cX10_flagged 59 = .ok (.iconst 4, 1) := by decide +kernel
theorem dX10_flagged_60 : decode cX10_flagged 60 = .ok (.iload_n 1, 1) := by decide +kernel
theorem dX10_flagged_61 : decode cX10_flagged 61 = .ok (.iconst 3, 1) := by decide +kernel
theorem dX10_flagged_62 : decode cX10_flagged 62 = .ok (.if_icmp .ne 7, 3) := by decide +kernel
theorem dX10_flagged_65 : decode cX10_flagged 65 = .ok (.iconst 1, 1) := by decide +kernel
theorem dX10_flagged_66 : decode cX10_flagged 66 = .ok (.goto 4, 3) := by decide +kernel
theorem dX10_flagged_69 : decode cX10_flagged 69 = .ok (.iconst 0, 1) := by decide +kernel
theorem dX10_flagged_70 : decode cX10_flagged 70 = .ok (.invokevirtual 234, 3) := by decide +kernel
theorem dX10_flagged_73 : decode cX10_flagged 73 = .ok (.goto 45, 3) := by decide +kernel
theorem dX10_flagged_76 : decode cX10_flagged 76 = .ok (.aload_n 0, 1) := by decide +kernel
theorem dX10_flagged_77 : decode cX10_flagged 77 = .ok (.aload_n 0, 1) := by decide +kernel
theorem dX10_flagged_78 : decode cX10_flagged 78 = .ok (.aload_n 0, 1) := by decide +kernel
theorem dX10_flagged_79 : decode cX10_flagged 79 = .ok (.getfield 247, 3) := by decide +kernel
theorem dX10_flagged_82 : decode cX10_flagged 82 = .ok (.invokevirtual 263, 3) := by decide +kernel
theorem dX10_flagged_85 : decode cX10_flagged 85 = .ok (.putfield 266, 3) := by decide +kernel
theorem dX10_flagged_88 : decode cX10_flagged 88 = .ok (.goto 30, 3) := by decide +kernel
theorem dX10_flagged_91 : decode cX10_flagged 91 = .ok (.aload_n 0, 1) := by decide +kernel
theorem dX10_flagged_92 : decode cX10_flagged 92 = .ok (.bipush 64, 2) := by decide +kernel
theorem dX10_flagged_94 : decode cX10_flagged 94 = .ok (.iconst 0, 1) := by decide +kernel
theorem dX10_flagged_95 : decode cX10_flagged 95 = .ok (.invokevirtual 234, 3) := by decide +kernel
theorem dX10_flagged_98 : decode cX10_flagged 98 = .ok (.goto 20, 3) := by decide +kernel
theorem dX10_flagged_101 : decode cX10_flagged 101 = .ok (.aload_n 0, 1) := by decide +kernel
theorem dX10_flagged_102 : decode cX10_flagged 102 = .ok (.bipush 8, 2) := by decide +kernel
theorem dX10_flagged_104 : decode cX10_flagged 104 = .ok (.iload_n 1, 1) := by decide +kernel
theorem dX10_flagged_105 : decode cX10_flagged 105 = .ok (.bipush 7, 2) := by decide +kernel
theorem dX10_flagged_107 : decode cX10_flagged 107 = .ok (.if_icmp .ne 7, 3) := by decide +kernel
theorem dX10_flagged_110 : decode cX10_flagged 110 = .ok (.iconst 1, 1) := by decide +kernel
theorem dX10_flagged_111 : decode cX10_flagged 111 = .ok (.goto 4, 3) := by decide +kernel
theorem dX10_flagged_114 : decode cX10_flagged 114 = .ok (.iconst 0, 1) := by decide +kernel
theorem dX10_flagged_115 : decode cX10_flagged 115 = .ok (.invokevirtual 234, 3) := by decide +kernel
theorem dX10_flagged_118 : decode cX10_flagged 118 = .ok (.iconst 2, 1) := by decide +kernel
theorem dX10_flagged_119 : decode cX10_flagged 119 = .ok (.ireturn, 1) := by decide +kernel
set_option maxRecDepth 20000 in
theorem ggX10_called_X10_interrupt : GoodIn wsX10_called wsX10_interrupt := goodIn_r _ [9, 1, 10, 11, 12, 8, 13, 14, 15, 16, 17, 18, 19, 20, 21, 22, 23, 4, 24, 25, 26, 27, 2, 28, 29, 30, 31, 32, 33, 34, 35, 36, 37, 38, 39, 40, 41, 42, 43, 44, 45, 46, 47, 48, 49, 50, 51, 52, 53, 54, 55, 56, 57, 58, 59, 60, 61, 62, 63, 64, 65, 66, 67, 68, 69, 70, 71, 72, 73, 74, 75, 76, 77, 78, 79, 80, 81, 82, 83, 84, 85, 86, 87, 88, 105, 106, 107, 108, 109, 110, 111, 112, 113, 114, 115, 116, 117, 118, 119, 120, 121, 122, 123, 124, 125, 126, 127, 128, 129, 130, 131, 132, 133, 134, 135, 136, 137, 138, 139, 140, 141, 142, 143, 144, 145, 146, 147, 148, 149, 150, 151, 152, 153, 154, 155, 156, 157] (by decide +kernel) (by decide +kernel)
set_option maxRecDepth 20000 in
theorem gX10_called_X10_interrupt : GoodIn wsX10_called (wsV RX10 300 RX10 yX10_interrupt wsX10_interrupt) := goodIn_app (goodIn_of _ (by decide +kernel)) ggX10_called_X10_interrupt
set_option maxRecDepth 20000 in
theorem ggX10_called_X10_fetchWord : GoodIn wsX10_called wsX10_fetchWord := goodIn_r _ [92, 93, 94, 95, 8, 96, 1, 2, 28, 29, 30, 31, 18, 32, 33, 34, 35, 36, 37, 38, 39, 40, 41, 42, 43, 44, 45, 46, 47, 48, 49, 50, 51, 52, 53, 54, 55, 56, 57, 58, 59, 60, 61, 62, 63, 64, 65, 66, 67, 68, 69, 70, 71, 72, 73, 74, 75, 76, 77, 78, 79, 80, 81, 82, 83, 84, 85, 86, 87, 88, 105, 106, 107, 108, 109, 110, 111, 112, 113, 114, 115, 116, 117, 118, 119, 120, 121, 122, 123, 124, 125, 126, 127, 128, 129, 130, 131, 132, 133, 134, 135, 136, 137, 138, 139, 140, 141, 142, 143, 144, 145, 146, 147, 148, 149, 150, 151, 152, 153, 154, 155, 156, 157] (by decide +kernel) (by decide +kernel)
set_option maxRecDepth 20000 in
theorem gX10_called_X10_fetchWord : GoodIn wsX10_called (wsV RX10 250 RX10 yX10_fetchWord wsX10_fetchWord) := goodIn_app (goodIn_of _ (by decide +kernel)) ggX10_called_X10_fetchWord
set_option maxRecDepth 20000 in
theorem ggX10_called_X10_pushWord : GoodIn wsX10_called wsX10_pushWord := goodIn_r _ [13, 14, 15, 16, 8, 17, 18, 19, 105, 106, 107, 108, 109, 110, 111, 112, 113, 114, 115, 116, 117, 118, 119, 120, 121, 122, 123, 124, 125, 126, 127, 128, 129, 130, 131, 132, 133, 134, 135, 136, 137, 138, 139, 140, 141, 142, 143, 144, 145, 146, 147, 148, 149, 150, 151, 152, 153, 154, 155, 156, 157] (by decide +kernel) (by decide +kernel)
set_option maxRecDepth 20000 in
theorem gX10_called_X10_pushWord : GoodIn wsX10_called (wsV RX10 238 RX10 yX10_pushWord wsX10_pushWord) := goodIn_app (goodIn_of _ (by decide +kernel)) ggX10_called_X10_pushWord
set_option maxRecDepth 20000 in
theorem ggX10_called_X10_pull : GoodIn wsX10_called wsX10_pull := goodIn_r _ [100, 19, 18, 105, 106, 107, 108, 109, 110, 111, 112, 113, 114, 115, 116, 117, 118, 119, 120, 121, 122, 123, 124, 125, 126, 127, 128, 129, 130, 131, 132, 133, 134, 135, 136, 137, 138, 139, 140, 141, 142, 143, 144, 145, 146, 147, 148, 149, 150, 151, 152, 153, 154, 155, 156, 157] (by decide +kernel) (by decide +kernel)
set_option maxRecDepth 20000 in
theorem gX10_called_X10_pull : GoodIn wsX10_called (wsV RX10 231 RX10 yX10_pull wsX10_pull) := goodIn_app (goodIn_of _ (by decide +kernel)) ggX10_called_X10_pull
set_option maxRecDepth 20000 in
theorem ggX10_called_X10_pullWord : GoodIn wsX10_called wsX10_pullWord := goodIn_r _ [104, 97, 98, 99, 8, 100, 19, 18, 105, 106, 107, 108, 109, 110, 111, 112, 113, 114, 115, 116, 117, 118, 119, 120, 121, 122, 123, 124, 125, 126, 127, 128, 129, 130, 131, 132, 133, 134, 135, 136, 137, 138, 139, 140, 141, 142, 143, 144, 145, 146, 147, 148, 149, 150, 151, 152, 153, 154, 155, 156, 157] (by decide +kernel) (by decide +kernel)
set_option maxRecDepth 20000 in
theorem gX10_called_X10_pullWord : GoodIn wsX10_called (wsV RX10 303 RX10 yX10_pullWord wsX10_pullWord) := goodIn_app (goodIn_of _ (by decide +kernel)) ggX10_called_X10_pullWord
theorem dX10_called_0 : decode cX10_called 0 = .ok (.iload_n 1, 1) := by decide +kernel
theorem dX10_called_1 : decode cX10_called 1 = .ok (.ifCond .ne 33, 3) := by decide +kernel
theorem dX10_called_4 : decode cX10_called 4 = .ok (.aload_n 0, 1) := by decide +kernel
theorem dX10_called_5 : decode cX10_called 5 = .ok (.aload_n 0, 1) := by decide +kernel
theorem dX10_called_6 : decode cX10_called 6 = .ok (.getfield 218, 3) := by decide +kernel
theorem dX10_called_9 : decode cX10_called 9 = .ok (.iconst 1, 1) := by decide +kernel
theorem dX10_called_10 : decode cX10_called 10 = .ok (.iadd, 1) := by decide +kernel
theorem dX10_called_11 : decode cX10_called 11 = .ok (.ldc 204, 2) := by decide +kernel
theorem dX10_called_13 : decode cX10_called 13 = .ok (.iand, 1) := by decide +kernel
theorem dX10_called_14 : decode cX10_called 14 = .ok (.putfield 218, 3) := by decide +kernel
theorem dX10_called_17 : decode cX10_called 17 = .ok (.aload_n 0, 1) := by decide +kernel
theorem dX10_called_18 : decode cX10_called 18 = .ok (.ldc_w 299, 3) := by decide +kernel
theorem dX10_called_21 : decode cX10_called 21 = .ok (.aload_n 0, 1) := by decide +kernel
theorem dX10_called_22 : decode cX10_called 22 = .ok (.getfield 22, 3) := by decide +kernel
theorem dX10_called_25 : decode cX10_called 25 = .ok (.bipush 16, 2) := by decide +kernel
theorem dX10_called_27 : decode cX10_called 27 = .ok (.ior, 1) := by decide +kernel
theorem dX10_called_28 : decode cX10_called 28 = .ok (.invokevirtual 300, 3) := by decide +kernel
theorem dX10_called_31 : decode cX10_called 31 = .ok (.bipush 7, 2) := by decide +kernel
theorem dX10_called_33 : decode cX10_called 33 = .ok (.ireturn, 1) := by decide +kernel
theorem dX10_called_34 : decode cX10_called 34 = .ok (.iload_n 1, 1) := by decide +kernel
theorem dX10_called_35 : decode cX10_called 35 = .ok (.iconst 1, 1) := by decide +kernel
theorem dX10_called_36 : decode cX10_called 36 = .ok (.if_icmp .ne 29, 3) := by decide +kernel
theorem dX10_called_39 : decode cX10_called 39 = .ok (.aload_n 0, 1) := by decide +kernel
theorem dX10_called_40 : decode cX10_called 40 = .ok (.invokevirtual 250, 3) := by decide +kernel
theorem dX10_called_43 : decode cX10_called 43 = .ok (.istore_n 2, 1) := by decide +kernel
theorem dX10_called_44 : decode cX10_called 44 = .ok (.aload_n 0, 1) := by decide +kernel
theorem dX10_called_45 : decode cX10_called 45 = .ok (.aload_n 0, 1) := by decide +kernel
theorem dX10_called_46 : decode cX10_called 46 = .ok (.getfield 218, 3) := by decide +kernel
theorem dX10_called_49 : decode cX10_called 49 = .ok (.iconst 1, 1) := by decide +kernel
theorem dX10_called_50 : decode cX10_called 50 = .ok (.isub, 1) := by decide +kernel
theorem dX10_called_51 : decode cX10_called 51 = .ok (.ldc 204, 2) := by decide +kernel
theorem dX10_called_53 : decode cX10_called 53 = .ok (.iand, 1) := by decide +kernel
theorem dX10_called_54 : decode cX10_called 54 = .ok (.invokevirtual 238, 3) := by decide +kernel
theorem dX10_called_57 : decode cX10_called 57 = .ok (.aload_n 0, 1) := by decide +kernel
theorem dX10_called_58 : decode cX10_called 58 = .ok (.iload_n 2, 1) := by decide +kernel
theorem dX10_called_59 : decode cX10_called 59 = .ok (.putfield 218, 3) := by decide +kernel
theorem dX10_called_62 : decode cX10_called 62 = .ok (.bipush 6, 2) := by decide +kernel
theorem dX10_called_64 : decode cX10_called 64 = .ok (.ireturn, 1) := by decide +kernel
theorem dX10_called_65 : decode cX10_called 65 = .ok (.iload_n 1, 1) := by decide +kernel
theorem dX10_called_66 : decode cX10_called 66 = .ok (.iconst 2, 1) := by decide +kernel
theorem dX10_called_67 : decode cX10_called 67 = .ok (.if_icmp .ne 17, 3) := by decide +kernel
theorem dX10_called_70 : decode cX10_called 70 = .ok (.aload_n 0, 1) := by decide +kernel
theorem dX10_called_71 : decode cX10_called 71 = .ok (.aload_n 0, 1) := by decide +kernel
theorem dX10_called_72 : decode cX10_called 72 = .ok (.invokevirtual 231, 3) := by decide +kernel
theorem dX10_called_75 : decode cX10_called 75 = .ok (.bipush (-17), 2) := by decide +kernel
theorem dX10_called_77 : decode cX10_called 77 = .ok (.iand, 1) := by decide +kernel
theorem dX10_called_78 : decode cX10_called 78 = .ok (.bipush 32, 2) := by decide +kernel
theorem dX10_called_80 : decode cX10_called 80 = .ok (.ior, 1) := by decide +kernel
theorem dX10_called_81 : decode cX10_called 81 = .ok (.putfield 22, 3) := by decide +kernel
theorem dX10_called_84 : decode cX10_called 84 = .ok (.aload_n 0, 1) := by decide +kernel
theorem dX10_called_85 : decode cX10_called 85 = .ok (.aload_n 0, 1) := by decide +kernel
theorem dX10_called_86 : decode cX10_called 86 = .ok (.invokevirtual 303, 3) := by decide +kernel
theorem dX10_called_89 : decode cX10_called 89 = .ok (.putfield 218, 3) := by decide +kernel
theorem dX10_called_92 : decode cX10_called 92 = .ok (.iload_n 1, 1) := by decide +kernel
theorem dX10_called_93 : decode cX10_called 93 = .ok (.iconst 3, 1) := by decide +kernel
theorem dX10_called_94 : decode cX10_called 94 = .ok (.if_icmp .ne 16, 3) := by decide +kernel
theorem dX10_called_97 : decode cX10_called 97 = .ok (.aload_n 0, 1) := by decide +kernel
theorem dX10_called_98 : decode cX10_called 98 = .ok (.aload_n 0, 1) := by decide +kernel
theorem dX10_called_99 : decode cX10_called 99 = .ok (.getfield 218, 3) := by decide +kernel
theorem dX10_called_102 : decode cX10_called 102 = .ok (.iconst 1, 1) := by decide +kernel
theorem dX10_called_103 : decode cX10_called 103 = .ok (.iadd, 1) := by decide +kernel
theorem dX10_called_104 : decode cX10_called 104 = .ok (.ldc 204, 2) := by decide +kernel
theorem dX10_called_106 : decode cX10_called 106 = .ok (.iand, 1) := by decide +kernel
theorem dX10_called_107 : decode cX10_called 107 = .ok (.putfield 218, 3) := by decide +kernel
theorem dX10_called_110 : decode cX10_called 110 = .ok (.bipush 6, 2) := by decide +kernel
theorem dX10_called_112 : decode cX10_called 112 = .ok (.ireturn, 1) := by decide +kernel
set_option maxRecDepth 20000 in
theorem ggX10_jump_X10_fetchWord : GoodIn wsX10_jump wsX10_fetchWord := goodIn_r _ [7, 8, 9, 10, 6, 11, 1, 12, 13, 14, 15, 16, 17, 18, 19, 20, 21, 22, 23, 24, 25, 26, 27, 28, 29, 30, 31, 32, 33, 34, 35, 36, 37, 38, 39, 40, 41, 42, 43, 44, 45, 46, 47, 48, 49, 50, 51, 52, 53, 54, 55, 56, 57, 58, 59, 60, 61, 62, 63, 64, 65, 66, 67, 68, 69, 70, 71, 72, 73, 74, 75, 76, 77, 78, 79, 80, 81, 82, 83, 84, 85, 86, 87, 88, 89, 90, 91, 92, 93, 94, 95, 96, 97, 98, 99, 100, 101, 102, 103, 104, 105, 106, 107, 108, 109, 110, 111, 112, 113, 114, 115, 116, 117, 118, 119, 120, 121, 122, 123, 124, 125, 126, 127] (by decide +kernel) (by decide +kernel)
set_option maxRecDepth 20000 in
theorem gX10_jump_X10_fetchWord : GoodIn wsX10_jump (wsV RX10 250 RX10 yX10_fetchWord wsX10_fetchWord) := goodIn_app (goodIn_of _ (by decide +kernel)) ggX10_jump_X10_fetchWord
set_option maxRecDepth 20000 in
theorem ggX10_jump_X10_get : GoodIn wsX10_jump wsX10_get := goodIn_r _ [16, 17, 18, 19, 20, 21, 22, 23, 6, 24, 25, 26, 27, 28, 29, 30, 31, 32, 33, 34, 35, 36, 37, 38, 39, 40, 41, 42, 43, 44, 45, 46, 47, 48, 49, 50, 51, 52, 53, 54, 55, 56, 57, 58, 59, 60, 61, 62, 63, 64, 65, 66, 67, 68, 69, 70, 71, 72, 73, 74, 75, 76, 77, 78, 79, 80, 81, 82, 83, 84, 85, 86, 87, 88, 89, 90, 91, 92, 93, 94, 95, 96, 97, 98, 99, 100, 101, 102, 103, 104, 105, 106, 107, 108, 109, 110, 111, 112, 113, 114, 115, 116, 117, 118, 119, 120, 121, 122, 123, 124, 125, 126, 127] (by decide +kernel) (by decide +kernel)
set_option maxRecDepth 20000 in
theorem gX10_jump_X10_get : GoodIn wsX10_jump (wsV RX10 172 RX10 yX10_get wsX10_get) := goodIn_app (goodIn_of _ (by decide +kernel)) ggX10_jump_X10_get
theorem dX10_jump_0 : decode cX10_jump 0 = .ok (.aload_n 0, 1) := by decide +kernel
theorem dX10_jump_1 : decode cX10_jump 1 = .ok (.invokevirtual 250, 3) := by decide +kernel
theorem dX10_jump_4 : decode cX10_jump 4 = .ok (.istore_n 2, 1) := by decide +kernel
theorem dX10_jump_5 : decode cX10_jump 5 = .ok (.iload_n 1, 1) := by decide +kernel
theorem dX10_jump_6 : decode cX10_jump 6 = .ok (.ifCond .ne 10, 3) := by decide +kernel
theorem dX10_jump_9 : decode cX10_jump 9 = .ok (.aload_n 0, 1) := by decide +kernel
theorem dX10_jump_10 : decode cX10_jump 10 = .ok (.iload_n 2, 1) := by decide +kernel
theorem dX10_jump_11 : decode cX10_jump 11 = .ok (.putfield 218, 3) := by decide +kernel
theorem dX10_jump_14 : decode cX10_jump 14 = .ok (.iconst 3, 1) := by decide +kernel
theorem dX10_jump_15 : decode cX10_jump 15 = .ok (.ireturn, 1) := by decide +kernel
theorem dX10_jump_16 : decode cX10_jump 16 = .ok (.aload_n 0, 1) := by decide +kernel
theorem dX10_jump_17 : decode cX10_jump 17 = .ok (.iload_n 2, 1) := by decide +kernel
theorem dX10_jump_18 : decode cX10_jump 18 = .ok (.invokevirtual 172, 3) := by decide +kernel
theorem dX10_jump_21 : decode cX10_jump 21 = .ok (.istore_n 3, 1) := by decide +kernel
theorem dX10_jump_22 : decode cX10_jump 22 = .ok (.aload_n 0, 1) := by decide +kernel
theorem dX10_jump_23 : decode cX10_jump 23 = .ok (.iload_n 3, 1) := by decide +kernel
theorem dX10_jump_24 : decode cX10_jump 24 = .ok (.aload_n 0, 1) := by decide +kernel
theorem dX10_jump_25 : decode cX10_jump 25 = .ok (.iload_n 2, 1) := by decide +kernel
theorem dX10_jump_26 : decode cX10_jump 26 = .ok (.ldc_w 306, 3) := by decide +kernel
theorem dX10_jump_29 : decode cX10_jump 29 = .ok (.iand, 1) := by decide +kernel
theorem dX10_jump_30 : decode cX10_jump 30 = .ok (.iload_n 2, 1) := by decide +kernel
theorem dX10_jump_31 : decode cX10_jump 31 = .ok (.iconst 1, 1) := by decide +kernel
theorem dX10_jump_32 : decode cX10_jump 32 = .ok (.iadd, 1) := by decide +kernel
theorem dX10_jump_33 : decode cX10_jump 33 = .ok (.sipush 255, 3) := by decide +kernel
theorem dX10_jump_36 : decode cX10_jump 36 = .ok (.iand, 1) := by decide +kernel
theorem dX10_jump_37 : decode cX10_jump 37 = .ok (.ior, 1) := by decide +kernel
theorem dX10_jump_38 : decode cX10_jump 38 = .ok (.invokevirtual 172, 3) := by decide +kernel
theorem dX10_jump_41 : decode cX10_jump 41 = .ok (.bipush 8, 2) := by decide +kernel
theorem dX10_jump_43 : decode cX10_jump 43 = .ok (.ishl, 1) := by decide +kernel
theorem dX10_jump_44 : decode cX10_jump 44 = .ok (.ior, 1) := by decide +kernel
theorem dX10_jump_45 : decode cX10_jump 45 = .ok (.putfield 218, 3) := by decide +kernel
theorem dX10_jump_48 : decode cX10_jump 48 = .ok (.iconst 5, 1) := by decide +kernel
theorem dX10_jump_49 : decode cX10_jump 49 = .ok (.ireturn, 1) := by decide +kernel
set_option maxRecDepth 20000 in
theorem ggX10_listed_X10_addressed : GoodIn wsX10_listed wsX10_addressed := goodIn_r _ [10, 11, 12, 4, 1, 13, 14, 15, 9, 16, 17, 18, 19, 20, 21, 22, 23, 24, 25, 26, 27, 28, 29, 30, 31, 32, 33, 34, 35, 36, 37, 38, 39, 40, 41, 42, 43, 44, 45, 46, 47, 48, 49, 50, 51, 52, 53, 54, 55, 56, 57, 58, 59, 60, 61, 62, 63, 64, 65, 66, 67, 68, 69, 70, 71, 72, 73, 74, 75, 76, 77, 78, 79, 80, 81, 82, 83, 84, 85, 86, 5, 87, 88, 89, 90, 158, 159, 160, 161, 162, 163, 164, 165, 166, 167, 168, 169, 170, 171, 172, 173, 174, 175, 176, 177, 178, 179, 180, 181, 182, 183, 184, 185, 186, 187, 188, 189, 190, 191, 192, 193, 194, 195, 196, 197, 198, 199, 200, 201, 202, 203, 204, 205, 206, 207, 208, 209, 210] (by decide +kernel) (by decide +kernel)
set_option maxRecDepth 20000 in
theorem gX10_listed_X10_addressed : GoodIn wsX10_listed (wsV RX10 269 RX10 yX10_addressed wsX10_addressed) := goodIn_app (goodIn_of _ (by decide +kernel)) ggX10_listed_X10_addressed
set_option maxRecDepth 20000 in
theorem ggX10_listed_X10_put : GoodIn wsX10_listed wsX10_put := goodIn_r _ [94, 21, 22, 46, 24, 95, 96, 97, 9, 98, 29, 64, 99, 100, 101, 32, 31, 30, 102, 33, 103, 104, 105, 106, 41, 35, 57, 58, 59, 52, 53, 54, 55, 56, 60, 61, 62, 63, 107, 108, 109, 110, 111, 112, 70, 73, 71, 72, 113, 114, 69, 115, 116, 117, 118, 119, 120, 121, 122, 123, 124, 17, 18, 19, 20, 23, 25, 26, 27, 28, 34, 36, 37, 38, 39, 40, 42, 43, 44, 45, 47, 48, 49, 50, 51, 65, 66, 67, 68, 74, 75, 76, 77, 78, 125, 126, 127, 128, 129, 130, 131, 132, 133, 134, 135, 136, 137, 138, 139, 140, 141, 142, 158, 159, 160, 161, 162, 163, 164, 165, 166, 167, 168, 169, 170, 171, 172, 173, 174, 175, 176, 177, 178, 179, 180, 181, 182, 183, 184, 185, 186, 187, 188, 189, 190, 191, 192, 193, 194, 195, 196, 197, 198, 199, 200, 201, 202, 203, 204, 205, 206, 207, 208, 209, 210] (by decide +kernel) (by decide +kernel)
set_option maxRecDepth 20000 in
theorem gX10_listed_X10_put : GoodIn wsX10_listed (wsV RX10 272 RX10 yX10_put wsX10_put) := goodIn_app (goodIn_of _ (by decide +kernel)) ggX10_listed_X10_put
set_option maxRecDepth 20000 in
theorem ggX10_listed_X10_cyclesOf : GoodIn wsX10_listed wsX10_cyclesOf := goodIn_r _ [145] (by decide +kernel) (by decide +kernel)
set_option maxRecDepth 20000 in
theorem gX10_listed_X10_cyclesOf : GoodIn wsX10_listed (va_wsS RX10 275 yX10_cyclesOf wsX10_cyclesOf) := goodIn_app (goodIn_of _ (by decide +kernel)) ggX10_listed_X10_cyclesOf
set_option maxRecDepth 20000 in
theorem ggX10_listed_X10_get : GoodIn wsX10_listed wsX10_get := goodIn_r _ [20, 21, 22, 23, 24, 25, 26, 27, 9, 28, 29, 30, 31, 32, 33, 34, 35, 36, 37, 38, 39, 40, 41, 42, 43, 44, 45, 46, 47, 48, 49, 50, 51, 52, 53, 54, 55, 56, 57, 58, 59, 60, 61, 62, 63, 64, 65, 66, 67, 68, 69, 70, 71, 72, 73, 74, 75, 76, 77, 78, 158, 159, 160, 161, 162, 163, 164, 165, 166, 167, 168, 169, 170, 171, 172, 173, 174, 175, 176, 177, 178, 179, 180, 181, 182, 183, 184, 185, 186, 187, 188, 189, 190, 191, 192, 193, 194, 195, 196, 197, 198, 199, 200, 201, 202, 203, 204, 205, 206, 207, 208, 209, 210] (by decide +kernel) (by decide +kernel)
set_option maxRecDepth 20000 in
theorem gX10_listed_X10_get : GoodIn wsX10_listed (wsV RX10 172 RX10 yX10_get wsX10_get) := goodIn_app (goodIn_of _ (by decide +kernel)) ggX10_listed_X10_get
set_option maxRecDepth 20000 in
theorem ggX10_listed_X10_flag : GoodIn wsX10_listed wsX10_flag := goodIn_r _ [149, 3, 158, 159, 160, 161, 162, 163, 164, 165, 166, 167, 168, 169, 170, 171, 172, 173, 174, 175, 176, 177, 178, 179, 180, 181, 182, 183, 184, 185, 186, 187, 188, 189, 190, 191, 192, 193, 194, 195, 196, 197, 198, 199, 200, 201, 202, 203, 204, 205, 206, 207, 208, 209, 210] (by decide +kernel) (by decide +kernel)
set_option maxRecDepth 20000 in
theorem gX10_listed_X10_flag : GoodIn wsX10_listed (wsV RX10 234 RX10 yX10_flag wsX10_flag) := goodIn_app (goodIn_of _ (by decide +kernel)) ggX10_listed_X10_flag
set_option maxRecDepth 20000 in
theorem ggX10_listed_X10_shown : GoodIn wsX10_listed wsX10_shown := goodIn_r _ [153, 146, 147, 148, 9, 149, 3, 158, 159, 160, 161, 162, 163, 164, 165, 166, 167, 168, 169, 170, 171, 172, 173, 174, 175, 176, 177, 178, 179, 180, 181, 182, 183, 184, 185, 186, 187, 188, 189, 190, 191, 192, 193, 194, 195, 196, 197, 198, 199, 200, 201, 202, 203, 204, 205, 206, 207, 208, 209, 210] (by decide +kernel) (by decide +kernel)
set_option maxRecDepth 20000 in
theorem gX10_listed_X10_shown : GoodIn wsX10_listed (wsV RX10 263 RX10 yX10_shown wsX10_shown) := goodIn_app (goodIn_of _ (by decide +kernel)) ggX10_listed_X10_shown
set_option maxRecDepth 20000 in
theorem ggX10_listed_X10_compare : GoodIn wsX10_listed wsX10_compare := goodIn_r _ [157, 146, 147, 148, 9, 149, 3, 150, 151, 152, 153, 158, 159, 160, 161, 162, 163, 164, 165, 166, 167, 168, 169, 170, 171, 172, 173, 174, 175, 176, 177, 178, 179, 180, 181, 182, 183, 184, 185, 186, 187, 188, 189, 190, 191, 192, 193, 194, 195, 196, 197, 198, 199, 200, 201, 202, 203, 204, 205, 206, 207, 208, 209, 210] (by decide +kernel) (by decide +kernel)
set_option maxRecDepth 20000 in
theorem gX10_listed_X10_compare : GoodIn wsX10_listed (wsV RX10 281 RX10 yX10_compare wsX10_compare) := goodIn_app (goodIn_of _ (by decide +kernel)) ggX10_listed_X10_compare
theorem dX10_listed_0 : decode cX10_listed 0 = .ok (.aload_n 0, 1) := by decide +kernel
theorem dX10_listed_1 : decode cX10_listed 1 = .ok (.iload_n 2, 1) := by decide +kernel
theorem dX10_listed_2 : decode cX10_listed 2 = .ok (.invokevirtual 269, 3) := by decide +kernel
theorem dX10_listed_5 : decode cX10_listed 5 = .ok (.istore_n 3, 1) := by decide +kernel
theorem dX10_listed_6 : decode cX10_listed 6 = .ok (.iload_n 1, 1) := by decide +kernel
theorem dX10_listed_7 : decode cX10_listed 7 = .ok (.iconst 4, 1) := by decide +kernel
theorem dX10_listed_8 : decode cX10_listed 8 = .ok (.if_icmp .ne 17, 3) := by decide +kernel
theorem dX10_listed_11 : decode cX10_listed 11 = .ok (.aload_n 0, 1) := by decide +kernel
theorem dX10_listed_12 : decode cX10_listed 12 = .ok (.iload_n 3, 1) := by decide +kernel
theorem dX10_listed_13 : decode cX10_listed 13 = .ok (.aload_n 0, 1) := by decide +kernel
theorem dX10_listed_14 : decode cX10_listed 14 = .ok (.getfield 247, 3) := by decide +kernel
theorem dX10_listed_17 : decode cX10_listed 17 = .ok (.invokevirtual 272, 3) := by decide +kernel
theorem dX10_listed_20 : decode cX10_listed 20 = .ok (.iload_n 2, 1) := by decide +kernel
theorem dX10_listed_21 : decode cX10_listed 21 = .ok (.invokestatic 275, 3) := by decide +kernel
theorem dX10_listed_24 : decode cX10_listed 24 = .ok (.ireturn, 1) := by decide +kernel
theorem dX10_listed_25 : decode cX10_listed 25 = .ok (.aload_n 0, 1) := by decide +kernel
theorem dX10_listed_26 : decode cX10_listed 26 = .ok (.iload_n 3, 1) := by decide +kernel
theorem dX10_listed_27 : decode cX10_listed 27 = .ok (.invokevirtual 172, 3) := by decide +kernel
theorem dX10_listed_30 : decode cX10_listed 30 = .ok (.istore 4, 2) := by decide +kernel
theorem dX10_listed_32 : decode cX10_listed 32 = .ok (.iload_n 1, 1) := by decide +kernel
theorem dX10_listed_33 : decode cX10_listed 33 = .ok (.iconst 1, 1) := by decide +kernel
theorem dX10_listed_34 : decode cX10_listed 34 = .ok (.if_icmp .ne 42, 3) := by decide +kernel
theorem dX10_listed_37 : decode cX10_listed 37 = .ok (.aload_n 0, 1) := by decide +kernel
theorem dX10_listed_38 : decode cX10_listed 38 = .ok (.iconst 2, 1) := by decide +kernel
theorem dX10_listed_39 : decode cX10_listed 39 = .ok (.aload_n 0, 1) := by decide +kernel
theorem dX10_listed_40 : decode cX10_listed 40 = .ok (.getfield 266, 3) := by decide +kernel
theorem dX10_listed_43 : decode cX10_listed 43 = .ok (.iload 4, 2) := by decide +kernel
theorem dX10_listed_45 : decode cX10_listed 45 = .ok (.iand, 1) := by decide +kernel
theorem dX10_listed_46 : decode cX10_listed 46 = .ok (.ifCond .ne 7, 3) := by decide +kernel
theorem dX10_listed_49 : decode cX10_listed 49 = .ok (.iconst 1, 1) := by decide +kernel
theorem dX10_listed_50 : decode cX10_listed 50 = .ok (.goto 4, 3) := by decide +kernel
theorem dX10_listed_53 : decode cX10_listed 53 = .ok (.iconst 0, 1) := by decide +kernel
theorem dX10_listed_54 : decode cX10_listed 54 = .ok (.invokevirtual 234, 3) := by decide +kernel
theorem dX10_listed_57 : decode cX10_listed 57 = .ok (.aload_n 0, 1) := by decide +kernel
theorem dX10_listed_58 : decode cX10_listed 58 = .ok (.aload_n 0, 1) := by decide +kernel
theorem dX10_listed_59 : decode cX10_listed 59 = .ok (.getfield 22, 3) := by decide +kernel
theorem dX10_listed_62 : decode cX10_listed 62 = .ok (.sipush (-193), 3) := by decide +kernel
theorem dX10_listed_65 : decode cX10_listed 65 = .ok (.iand, 1) := by decide +kernel
theorem dX10_listed_66 : decode cX10_listed 66 = .ok (.iload 4, 2) := by decide +kernel
theorem dX10_listed_68 : decode cX10_listed 68 = .ok (.sipush 192, 3) := by decide +kernel
theorem dX10_listed_71 : decode cX10_listed 71 = .ok (.iand, 1) := by decide +kernel
theorem dX10_listed_72 : decode cX10_listed 72 = .ok (.ior, 1) := by decide +kernel
theorem dX10_listed_73 : decode cX10_listed 73 = .ok (.putfield 22, 3) := by decide +kernel
theorem dX10_listed_76 : decode cX10_listed 76 = .ok (.iload_n 1, 1) := by decide +kernel
theorem dX10_listed_77 : decode cX10_listed 77 = .ok (.iconst 5, 1) := by decide +kernel
theorem dX10_listed_78 : decode cX10_listed 78 = .ok (.if_icmp .ne 13, 3) := by decide +kernel
theorem dX10_listed_81 : decode cX10_listed 81 = .ok (.aload_n 0, 1) := by decide +kernel
theorem dX10_listed_82 : decode cX10_listed 82 = .ok (.aload_n 0, 1) := by decide +kernel
theorem dX10_listed_83 : decode cX10_listed 83 = .ok (.iload 4, 2) := by decide +kernel
theorem dX10_listed_85 : decode cX10_listed 85 = .ok (.invokevirtual 263, 3) := by decide +kernel
theorem dX10_listed_88 : decode cX10_listed 88 = .ok (.putfield 247, 3) := by decide +kernel
theorem dX10_listed_91 : decode cX10_listed 91 = .ok (.iload_n 1, 1) := by decide +kernel
theorem dX10_listed_92 : decode cX10_listed 92 = .ok (.iconst 5, 1) := by decide +kernel
theorem dX10_listed_93 : decode cX10_listed 93 = .ok (.if_icmp .le 26, 3) := by decide +kernel
theorem dX10_listed_96 : decode cX10_listed 96 = .ok (.aload_n 0, 1) := by decide +kernel
theorem dX10_listed_97 : decode cX10_listed 97 = .ok (.iload_n 1, 1) := by decide +kernel
theorem dX10_listed_98 : decode cX10_listed 98 = .ok (.bipush 6, 2) := by decide +kernel
theorem dX10_listed_100 : decode cX10_listed 100 = .ok (.if_icmp .ne 10, 3) := by decide +kernel
theorem dX10_listed_103 : decode cX10_listed 103 = .ok (.aload_n 0, 1) := by decide +kernel
theorem dX10_listed_104 : decode cX10_listed 104 = .ok (.getfield 247, 3) := by decide +kernel
theorem dX10_listed_107 : decode cX10_listed 107 = .ok (.goto 7, 3) := by decide +kernel
theorem dX10_listed_110 : decode cX10_listed 110 = .ok (.aload_n 0, 1) := by decide +kernel
theorem dX10_listed_111 : decode cX10_listed 111 = .ok (.getfield 244, 3) := by decide +kernel
theorem dX10_listed_114 : decode cX10_listed 114 = .ok (.iload 4, 2) := by decide +kernel
theorem dX10_listed_116 : decode cX10_listed 116 = .ok (.invokevirtual 281, 3) := by decide +kernel
theorem dX10_listed_119 : decode cX10_listed 119 = .ok (.iload_n 2, 1) := by decide +kernel
theorem dX10_listed_120 : decode cX10_listed 120 = .ok (.invokestatic 275, 3) := by decide +kernel
theorem dX10_listed_123 : decode cX10_listed 123 = .ok (.aload_n 0, 1) := by decide +kernel
theorem dX10_listed_124 : decode cX10_listed 124 = .ok (.getfield 260, 3) := by decide +kernel
theorem dX10_listed_127 : decode cX10_listed 127 = .ok (.ifCond .eq 7, 3) := by decide +kernel
theorem dX10_listed_130 : decode cX10_listed 130 = .ok (.iconst 1, 1) := by decide +kernel
theorem dX10_listed_131 : decode cX10_listed 131 = .ok (.goto 4, 3) := by decide +kernel
theorem dX10_listed_134 : decode cX10_listed 134 = .ok (.iconst 0, 1) := by decide +kernel
theorem dX10_listed_135 : decode cX10_listed 135 = .ok (.iadd, 1) := by decide +kernel
theorem dX10_listed_136 : decode cX10_listed 136 = .ok (.ireturn, 1) := by decide +kernel
set_option maxRecDepth 20000 in
theorem ggX10_doZero_X10_branch : GoodIn wsX10_doZero wsX10_branch := goodIn_r _ [5, 6, 7, 8, 9, 10, 11, 4, 12, 13, 14, 15, 16, 17, 18, 19, 20, 21, 22, 23, 24, 25, 26, 27, 28, 29, 30, 31, 32, 33, 34, 35, 36, 37, 38, 39, 40, 41, 42, 43, 44, 45, 46, 47, 48, 49, 50, 51, 52, 53, 54, 55, 56, 57, 58, 59, 60, 61, 62, 63, 64, 65, 66, 67, 68, 69, 70, 71, 72, 73, 74, 209, 210, 211, 212, 213, 214, 215, 216, 217, 218, 219, 220, 221, 222, 223, 224, 225, 226, 227, 228, 229, 230, 231, 232, 233, 234, 235, 236, 237, 238, 239, 240, 241, 242, 243, 244, 245, 246, 247, 248, 249, 250, 251, 252, 253, 254, 255, 256, 257, 258, 259, 260, 261] (by decide +kernel) (by decide +kernel)
set_option maxRecDepth 20000 in
theorem gX10_doZero_X10_branch : GoodIn wsX10_doZero (wsV RX10 307 RX10 yX10_branch wsX10_branch) := goodIn_app (goodIn_of _ (by decide +kernel)) ggX10_doZero_X10_branch
set_option maxRecDepth 20000 in
theorem ggX10_doZero_X10_stacked : GoodIn wsX10_doZero wsX10_stacked := goodIn_r _ [78, 6, 79, 80, 81, 82, 83, 84, 4, 85, 17, 86, 87, 88, 89, 90, 91, 92, 93, 94, 95, 96, 97, 98, 209, 210, 211, 212, 213, 214, 215, 216, 217, 218, 219, 220, 221, 222, 223, 224, 225, 226, 227, 228, 229, 230, 231, 232, 233, 234, 235, 236, 237, 238, 239, 240, 241, 242, 243, 244, 245, 246, 247, 248, 249, 250, 251, 252, 253, 254, 255, 256, 257, 258, 259, 260, 261] (by decide +kernel) (by decide +kernel)
set_option maxRecDepth 20000 in
theorem gX10_doZero_X10_stacked : GoodIn wsX10_doZero (wsV RX10 310 RX10 yX10_stacked wsX10_stacked) := goodIn_app (goodIn_of _ (by decide +kernel)) ggX10_doZero_X10_stacked
set_option maxRecDepth 20000 in
theorem ggX10_doZero_X10_flagged : GoodIn wsX10_doZero wsX10_flagged := goodIn_r _ [102, 80, 79, 95, 96, 97, 4, 98, 6, 91, 92, 93, 94, 209, 210, 211, 212, 213, 214, 215, 216, 217, 218, 219, 220, 221, 222, 223, 224, 225, 226, 227, 228, 229, 230, 231, 232, 233, 234, 235, 236, 237, 238, 239, 240, 241, 242, 243, 244, 245, 246, 247, 248, 249, 250, 251, 252, 253, 254, 255, 256, 257, 258, 259, 260, 261] (by decide +kernel) (by decide +kernel)
set_option maxRecDepth 20000 in
theorem gX10_doZero_X10_flagged : GoodIn wsX10_doZero (wsV RX10 313 RX10 yX10_flagged wsX10_flagged) := goodIn_app (goodIn_of _ (by decide +kernel)) ggX10_doZero_X10_flagged
set_option maxRecDepth 20000 in
theorem ggX10_doZero_X10_called : GoodIn wsX10_doZero wsX10_called := goodIn_r _ [106, 7, 8, 107, 6, 108, 109, 110, 4, 111, 112, 113, 114, 115, 82, 83, 84, 85, 17, 86, 95, 96, 97, 98, 116, 117, 118, 119, 13, 14, 15, 16, 18, 19, 20, 21, 22, 23, 24, 25, 26, 27, 28, 29, 30, 31, 32, 33, 34, 35, 36, 37, 38, 39, 40, 41, 42, 43, 44, 45, 46, 47, 48, 49, 50, 51, 52, 53, 54, 55, 56, 57, 58, 59, 60, 61, 62, 63, 64, 65, 66, 67, 68, 69, 70, 71, 72, 73, 74, 120, 121, 122, 123, 9, 10, 11, 12, 87, 88, 89, 90, 124, 125, 126, 127, 209, 210, 211, 212, 213, 214, 215, 216, 217, 218, 219, 220, 221, 222, 223, 224, 225, 226, 227, 228, 229, 230, 231, 232, 233, 234, 235, 236, 237, 238, 239, 240, 241, 242, 243, 244, 245, 246, 247, 248, 249, 250, 251, 252, 253, 254, 255, 256, 257, 258, 259, 260, 261] (by decide +kernel) (by decide +kernel)
set_option maxRecDepth 20000 in
theorem gX10_doZero_X10_called : GoodIn wsX10_doZero (wsV RX10 316 RX10 yX10_called wsX10_called) := goodIn_app (goodIn_of _ (by decide +kernel)) ggX10_doZero_X10_called
set_option maxRecDepth 20000 in
theorem ggX10_doZero_X10_jump : GoodIn wsX10_doZero wsX10_jump := goodIn_r _ [131, 7, 132, 120, 121, 122, 4, 123, 9, 10, 11, 12, 8, 13, 14, 15, 16, 17, 18, 19, 20, 21, 22, 23, 24, 25, 26, 27, 28, 29, 30, 31, 32, 33, 34, 35, 36, 37, 38, 39, 40, 41, 42, 43, 44, 45, 46, 47, 48, 49, 50, 51, 52, 53, 54, 55, 56, 57, 58, 59, 60, 61, 62, 63, 64, 65, 66, 67, 68, 69, 70, 71, 72, 73, 74, 209, 210, 211, 212, 213, 214, 215, 216, 217, 218, 219, 220, 221, 222, 223, 224, 225, 226, 227, 228, 229, 230, 231, 232, 233, 234, 235, 236, 237, 238, 239, 240, 241, 242, 243, 244, 245, 246, 247, 248, 249, 250, 251, 252, 253, 254, 255, 256, 257, 258, 259, 260, 261] (by decide +kernel) (by decide +kernel)
set_option maxRecDepth 20000 in
theorem gX10_doZero_X10_jump : GoodIn wsX10_doZero (wsV RX10 319 RX10 yX10_jump wsX10_jump) := goodIn_app (goodIn_of _ (by decide +kernel)) ggX10_doZero_X10_jump
set_option maxRecDepth 20000 in
theorem ggX10_doZero_X10_listed : GoodIn wsX10_doZero wsX10_listed := goodIn_r _ [136, 80, 79, 6, 81, 137, 138, 139, 140, 4, 141, 7, 8, 9, 10, 11, 12, 13, 14, 15, 16, 17, 18, 19, 20, 21, 22, 23, 24, 25, 26, 27, 28, 29, 30, 31, 32, 33, 34, 35, 36, 37, 38, 39, 40, 41, 42, 43, 44, 45, 46, 47, 48, 49, 50, 51, 52, 53, 54, 55, 56, 57, 58, 59, 60, 61, 62, 63, 64, 65, 66, 67, 68, 69, 70, 71, 72, 73, 74, 120, 121, 122, 123, 142, 143, 144, 145, 146, 147, 148, 149, 150, 151, 152, 153, 154, 155, 156, 157, 158, 159, 160, 161, 162, 163, 164, 165, 166, 167, 168, 169, 170, 171, 172, 173, 174, 175, 176, 177, 178, 179, 180, 181, 182, 183, 184, 185, 186, 187, 188, 189, 190, 191, 192, 193, 194, 195, 196, 197, 198, 199, 200, 201, 202, 203, 204, 95, 96, 97, 98, 91, 92, 93, 94, 205, 206, 207, 208, 209, 210, 211, 212, 213, 214, 215, 216, 217, 218, 219, 220, 221, 222, 223, 224, 225, 226, 227, 228, 229, 230, 231, 232, 233, 234, 235, 236, 237, 238, 239, 240, 241, 242, 243, 244, 245, 246, 247, 248, 249, 250, 251, 252, 253, 254, 255, 256, 257, 258, 259, 260, 261] (by decide +kernel) (by decide +kernel)
set_option maxRecDepth 20000 in
theorem gX10_doZero_X10_listed : GoodIn wsX10_doZero (wsV RX10 323 RX10 yX10_listed wsX10_listed) := goodIn_app (goodIn_of _ (by decide +kernel)) ggX10_doZero_X10_listed
theorem dX10_doZero_0 : decode cX10_doZero 0 = .ok (.iload_n 2, 1) := by decide +kernel
theorem dX10_doZero_1 : decode cX10_doZero 1 = .ok (.iconst 4, 1) := by decide +kernel
theorem dX10_doZero_2 : decode cX10_doZero 2 = .ok (.if_icmp .ne 9, 3) := by decide +kernel
theorem dX10_doZero_5 : decode cX10_doZero 5 = .ok (.aload_n 0, 1) := by decide +kernel
theorem dX10_doZero_6 : decode cX10_doZero 6 = .ok (.iload_n 1, 1) := by decide +kernel
theorem dX10_doZero_7 : decode cX10_doZero 7 = .ok (.invokevirtual 307, 3) := by decide +kernel
theorem dX10_doZero_10 : decode cX10_doZero 10 = .ok (.ireturn, 1) := by decide +kernel
theorem dX10_doZero_11 : decode cX10_doZero 11 = .ok (.iload_n 2, 1) := by decide +kernel
theorem dX10_doZero_12 : decode cX10_doZero 12 = .ok (.iconst 2, 1) := by decide +kernel
theorem dX10_doZero_13 : decode cX10_doZero 13 = .ok (.if_icmp .ne 9, 3) := by decide +kernel
theorem dX10_doZero_16 : decode cX10_doZero 16 = .ok (.aload_n 0, 1) := by decide +kernel
theorem dX10_doZero_17 : decode cX10_doZero 17 = .ok (.iload_n 1, 1) := by decide +kernel
theorem dX10_doZero_18 : decode cX10_doZero 18 = .ok (.invokevirtual 310, 3) := by decide +kernel
theorem dX10_doZero_21 : decode cX10_doZero 21 = .ok (.ireturn, 1) := by decide +kernel
theorem dX10_doZero_22 : decode cX10_doZero 22 = .ok (.iload_n 2, 1) := by decide +kernel
theorem dX10_doZero_23 : decode cX10_doZero 23 = .ok (.bipush 6, 2) := by decide +kernel
theorem dX10_doZero_25 : decode cX10_doZero 25 = .ok (.if_icmp .ne 9, 3) := by decide +kernel
theorem dX10_doZero_28 : decode cX10_doZero 28 = .ok (.aload_n 0, 1) := by decide +kernel
theorem dX10_doZero_29 : decode cX10_doZero 29 = .ok (.iload_n 1, 1) := by decide +kernel
theorem dX10_doZero_30 : decode cX10_doZero 30 = .ok (.invokevirtual 313, 3) := by decide +kernel
theorem dX10_doZero_33 : decode cX10_doZero 33 = .ok (.ireturn, 1) := by decide +kernel
theorem dX10_doZero_34 : decode cX10_doZero 34 = .ok (.iload_n 2, 1) := by decide +kernel
theorem dX10_doZero_35 : decode cX10_doZero 35 = .ok (.ifCond .ne 14, 3) := by decide +kernel
theorem dX10_doZero_38 : decode cX10_doZero 38 = .ok (.iload_n 1, 1) := by decide +kernel
theorem dX10_doZero_39 : decode cX10_doZero 39 = .ok (.iconst 4, 1) := by decide +kernel
theorem dX10_doZero_40 : decode cX10_doZero 40 = .ok (.if_icmp .ge 9, 3) := by decide +kernel
theorem dX10_doZero_43 : decode cX10_doZero 43 = .ok (.aload_n 0, 1) := by decide +kernel
theorem dX10_doZero_44 : decode cX10_doZero 44 = .ok (.iload_n 1, 1) := by decide +kernel
theorem dX10_doZero_45 : decode cX10_doZero 45 = .ok (.invokevirtual 316, 3) := by decide +kernel
theorem dX10_doZero_48 : decode cX10_doZero 48 = .ok (.ireturn, 1) := by decide +kernel
theorem dX10_doZero_49 : decode cX10_doZero 49 = .ok (.iload_n 2, 1) := by decide +kernel
theorem dX10_doZero_50 : decode cX10_doZero 50 = .ok (.iconst 3, 1) := by decide +kernel
theorem dX10_doZero_51 : decode cX10_doZero 51 = .ok (.if_icmp .ne 28, 3) := by decide +kernel
theorem dX10_doZero_54 : decode cX10_doZero 54 = .ok (.iload_n 1, 1) := by decide +kernel
theorem dX10_doZero_55 : decode cX10_doZero 55 = .ok (.iconst 2, 1) := by decide +kernel
theorem dX10_doZero_56 : decode cX10_doZero 56 = .ok (.if_icmp .eq 8, 3) := by decide +kernel
theorem dX10_doZero_59 : decode cX10_doZero 59 = .ok (.iload_n 1, 1) := by decide +kernel
theorem dX10_doZero_60 : decode cX10_doZero 60 = .ok (.iconst 3, 1) := by decide +kernel
theorem dX10_doZero_61 : decode cX10_doZero 61 = .ok (.if_icmp .ne 18, 3) := by decide +kernel
theorem dX10_doZero_64 : decode cX10_doZero 64 = .ok (.aload_n 0, 1) := by decide +kernel
theorem dX10_doZero_65 : decode cX10_doZero 65 = .ok (.iload_n 1, 1) := by decide +kernel
theorem dX10_doZero_66 : decode cX10_doZero 66 = .ok (.iconst 3, 1) := by decide +kernel
theorem dX10_doZero_67 : decode cX10_doZero 67 = .ok (.if_icmp .ne 7, 3) := by decide +kernel
theorem dX10_doZero_70 : decode cX10_doZero 70 = .ok (.iconst 1, 1) := by decide +kernel
theorem dX10_doZero_71 : decode cX10_doZero 71 = .ok (.goto 4, 3) := by decide +kernel
theorem dX10_doZero_74 : decode cX10_doZero 74 = .ok (.iconst 0, 1) := by decide +kernel
theorem dX10_doZero_75 : decode cX10_doZero 75 = .ok (.invokevirtual 319, 3) := by decide +kernel
theorem dX10_doZero_78 : decode cX10_doZero 78 = .ok (.ireturn, 1) := by decide +kernel
theorem dX10_doZero_79 : decode cX10_doZero 79 = .ok (.iload_n 2, 1) := by decide +kernel
theorem dX10_doZero_80 : decode cX10_doZero 80 = .ok (.ifCond .ne 16, 3) := by decide +kernel
theorem dX10_doZero_83 : decode cX10_doZero 83 = .ok (.iload_n 1, 1) := by decide +kernel
theorem dX10_doZero_84 : decode cX10_doZero 84 = .ok (.iconst 4, 1) := by decide +kernel
theorem dX10_doZero_85 : decode cX10_doZero 85 = .ok (.if_icmp .le 7, 3) := by decide +kernel
theorem dX10_doZero_88 : decode cX10_doZero 88 = .ok (.iconst 1, 1) := by decide +kernel
theorem dX10_doZero_89 : decode cX10_doZero 89 = .ok (.goto 68, 3) := by decide +kernel
theorem dX10_doZero_92 : decode cX10_doZero 92 = .ok (.iconst 0, 1) := by decide +kernel
theorem dX10_doZero_93 : decode cX10_doZero 93 = .ok (.goto 64, 3) := by decide +kernel
theorem dX10_doZero_96 : decode cX10_doZero 96 = .ok (.iload_n 2, 1) := by decide +kernel
theorem dX10_doZero_97 : decode cX10_doZero 97 = .ok (.iconst 1, 1) := by decide +kernel
theorem dX10_doZero_98 : decode cX10_doZero 98 = .ok (.if_icmp .eq 8, 3) := by decide +kernel
theorem dX10_doZero_101 : decode cX10_doZero 101 = .ok (.iload_n 2, 1) := by decide +kernel
theorem dX10_doZero_102 : decode cX10_doZero 102 = .ok (.iconst 3, 1) := by decide +kernel
theorem dX10_doZero_103 : decode cX10_doZero 103 = .ok (.if_icmp .ne 21, 3) := by decide +kernel
theorem dX10_doZero_106 : decode cX10_doZero 106 = .ok (.iload_n 1, 1) := by decide +kernel
theorem dX10_doZero_107 : decode cX10_doZero 107 = .ok (.iconst 1, 1) := by decide +kernel
theorem dX10_doZero_108 : decode cX10_doZero 108 = .ok (.if_icmp .eq 8, 3) := by decide +kernel
theorem dX10_doZero_111 : decode cX10_doZero 111 = .ok (.iload_n 1, 1) := by decide +kernel
theorem dX10_doZero_112 : decode cX10_doZero 112 = .ok (.iconst 3, 1) := by decide +kernel
theorem dX10_doZero_113 : decode cX10_doZero 113 = .ok (.if_icmp .le 7, 3) := by decide +kernel
theorem dX10_doZero_116 : decode cX10_doZero 116 = .ok (.iconst 1, 1) := by decide +kernel
theorem dX10_doZero_117 : decode cX10_doZero 117 = .ok (.goto 40, 3) := by decide +kernel
theorem dX10_doZero_120 : decode cX10_doZero 120 = .ok (.iconst 0, 1) := by decide +kernel
theorem dX10_doZero_121 : decode cX10_doZero 121 = .ok (.goto 36, 3) := by decide +kernel
theorem dX10_doZero_124 : decode cX10_doZero 124 = .ok (.iload_n 2, 1) := by decide +kernel
theorem dX10_doZero_125 : decode cX10_doZero 125 = .ok (.iconst 5, 1) := by decide +kernel
theorem dX10_doZero_126 : decode cX10_doZero 126 = .ok (.if_icmp .ne 21, 3) := by decide +kernel
theorem dX10_doZero_129 : decode cX10_doZero 129 = .ok (.iload_n 1, 1) := by decide +kernel
theorem dX10_doZero_130 : decode cX10_doZero 130 = .ok (.iconst 4, 1) := by decide +kernel
theorem dX10_doZero_131 : decode cX10_doZero 131 = .ok (.if_icmp .eq 8, 3) := by decide +kernel
theorem dX10_doZero_134 : decode cX10_doZero 134 = .ok (.iload_n 1, 1) := by decide +kernel
theorem dX10_doZero_135 : decode cX10_doZero 135 = .ok (.iconst 5, 1) := by decide +kernel
theorem dX10_doZero_136 : decode cX10_doZero 136 = .ok (.if_icmp .ne 7, 3) := by decide +kernel
theorem dX10_doZero_139 : decode cX10_doZero 139 = .ok (.iconst 1, 1) := by decide +kernel
theorem dX10_doZero_140 : decode cX10_doZero 140 = .ok (.goto 17, 3) := by decide +kernel
theorem dX10_doZero_143 : decode cX10_doZero 143 = .ok (.iconst 0, 1) := by decide +kernel
theorem dX10_doZero_144 : decode cX10_doZero 144 = .ok (.goto 13, 3) := by decide +kernel
theorem dX10_doZero_147 : decode cX10_doZero 147 = .ok (.iload_n 1, 1) := by decide +kernel
theorem dX10_doZero_148 : decode cX10_doZero 148 = .ok (.iconst 5, 1) := by decide +kernel
theorem dX10_doZero_149 : decode cX10_doZero 149 = .ok (.if_icmp .ne 7, 3) := by decide +kernel
theorem dX10_doZero_152 : decode cX10_doZero 152 = .ok (.iconst 1, 1) := by decide +kernel
theorem dX10_doZero_153 : decode cX10_doZero 153 = .ok (.goto 4, 3) := by decide +kernel
theorem dX10_doZero_156 : decode cX10_doZero 156 = .ok (.iconst 0, 1) := by decide +kernel
theorem dX10_doZero_157 : decode cX10_doZero 157 = .ok (.istore_n 3, 1) := by decide +kernel
theorem dX10_doZero_158 : decode cX10_doZero 158 = .ok (.iload_n 3, 1) := by decide +kernel
theorem dX10_doZero_159 : decode cX10_doZero 159 = .ok (.ifCond .ne 5, 3) := by decide +kernel
theorem dX10_doZero_162 : decode cX10_doZero 162 = .ok (.iconst (-1), 1) := by decide +kernel
theorem dX10_doZero_163 : decode cX10_doZero 163 = .ok (.ireturn, 1) := by decide +kernel
theorem dX10_doZero_164 : decode cX10_doZero 164 = .ok (.aload_n 0, 1) := by decide +kernel
theorem dX10_doZero_165 : decode cX10_doZero 165 = .ok (.iload_n 1, 1) := by decide +kernel
theorem dX10_doZero_166 : decode cX10_doZero 166 = .ok (.iload_n 2, 1) := by decide +kernel
theorem dX10_doZero_167 : decode cX10_doZero 167 = .ok (.ifCond .ne 7, 3) := by decide +kernel
theorem dX10_doZero_170 : decode cX10_doZero 170 = .ok (.iconst 1, 1) := by decide +kernel
theorem dX10_doZero_171 : decode cX10_doZero 171 = .ok (.goto 32, 3) := by decide +kernel
theorem dX10_doZero_174 : decode cX10_doZero 174 = .ok (.iload_n 2, 1) := by decide +kernel
theorem dX10_doZero_175 : decode cX10_doZero 175 = .ok (.iconst 1, 1) := by decide +kernel
theorem dX10_doZero_176 : decode cX10_doZero 176 = .ok (.if_icmp .ne 7, 3) := by decide +kernel
theorem dX10_doZero_179 : decode cX10_doZero 179 = .ok (.iconst 2, 1) := by decide +kernel
theorem dX10_doZero_180 : decode cX10_doZero 180 = .ok (.goto 23, 3) := by decide +kernel
theorem dX10_doZero_183 : decode cX10_doZero 183 = .ok (.iload_n 2, 1) := by decide +kernel
theorem dX10_doZero_184 : decode cX10_doZero 184 = .ok (.iconst 3, 1) := by decide +kernel
theorem dX10_doZero_185 : decode cX10_doZero 185 = .ok (.if_icmp .ne 7, 3) := by decide +kernel
theorem dX10_doZero_188 : decode cX10_doZero 188 = .ok (.iconst 5, 1) := by decide +kernel
theorem dX10_doZero_189 : decode cX10_doZero 189 = .ok (.goto 14, 3) := by decide +kernel
theorem dX10_doZero_192 : decode cX10_doZero 192 = .ok (.iload_n 2, 1) := by decide +kernel
theorem dX10_doZero_193 : decode cX10_doZero 193 = .ok (.iconst 5, 1) := by decide +kernel
theorem dX10_doZero_194 : decode cX10_doZero 194 = .ok (.if_icmp .ne 7, 3) := by decide +kernel
theorem dX10_doZero_197 : decode cX10_doZero 197 = .ok (.iconst 3, 1) := by decide +kernel
theorem dX10_doZero_198 : decode cX10_doZero 198 = .ok (.goto 5, 3) := by decide +kernel
theorem dX10_doZero_201 : decode cX10_doZero 201 = .ok (.bipush 6, 2) := by decide +kernel
theorem dX10_doZero_203 : decode cX10_doZero 203 = .ok (.invokevirtual 323, 3) := by decide +kernel
theorem dX10_doZero_206 : decode cX10_doZero 206 = .ok (.ireturn, 1) := by decide +kernel
set_option maxRecDepth 20000 in
theorem ggX10_perform_X10_interrupt : GoodIn wsX10_perform wsX10_interrupt := goodIn_r _ [13, 8, 14, 15, 16, 12, 17, 18, 19, 20, 21, 22, 23, 24, 25, 26, 27, 4, 28, 29, 30, 31, 32, 33, 34, 35, 36, 37, 38, 39, 40, 41, 42, 43, 44, 45, 46, 47, 48, 49, 50, 51, 52, 53, 54, 55, 56, 57, 58, 59, 60, 61, 62, 63, 64, 65, 66, 67, 68, 69, 70, 71, 72, 73, 74, 75, 76, 77, 78, 79, 80, 81, 82, 83, 5, 84, 85, 86, 87, 88, 89, 90, 91, 92, 250, 251, 252, 253, 254, 255, 256, 257, 258, 259, 260, 261, 262, 263, 264, 265, 266, 267, 268, 269, 270, 271, 272, 273, 274, 275, 276, 277, 278, 279, 280, 281, 282, 283, 284, 285, 286, 287, 288, 289, 290, 291, 292, 293, 294, 295, 296, 297, 298, 299, 300, 301, 302] (by decide +kernel) (by decide +kernel)
set_option maxRecDepth 20000 in
theorem gX10_perform_X10_interrupt : GoodIn wsX10_perform (wsV RX10 300 RX10 yX10_interrupt wsX10_interrupt) := goodIn_app (goodIn_of _ (by decide +kernel)) ggX10_perform_X10_interrupt
set_option maxRecDepth 20000 in
theorem ggX10_perform_X10_fetch : GoodIn wsX10_perform wsX10_fetch := goodIn_r _ [96, 8, 32, 33, 34, 35, 12, 36, 22, 37, 38, 39, 40, 41, 42, 43, 44, 45, 46, 47, 48, 49, 50, 51, 52, 53, 54, 55, 56, 57, 58, 59, 60, 61, 62, 63, 64, 65, 66, 67, 68, 69, 70, 71, 72, 73, 74, 75, 76, 77, 78, 79, 80, 81, 82, 83, 5, 84, 85, 86, 87, 88, 89, 90, 91, 92, 250, 251, 252, 253, 254, 255, 256, 257, 258, 259, 260, 261, 262, 263, 264, 265, 266, 267, 268, 269, 270, 271, 272, 273, 274, 275, 276, 277, 278, 279, 280, 281, 282, 283, 284, 285, 286, 287, 288, 289, 290, 291, 292, 293, 294, 295, 296, 297, 298, 299, 300, 301, 302] (by decide +kernel) (by decide +kernel)
set_option maxRecDepth 20000 in
theorem gX10_perform_X10_fetch : GoodIn wsX10_perform (wsV RX10 221 RX10 yX10_fetch wsX10_fetch) := goodIn_app (goodIn_of _ (by decide +kernel)) ggX10_perform_X10_fetch
set_option maxRecDepth 20000 in
theorem ggX10_perform_X10_modeOne : GoodIn wsX10_perform wsX10_modeOne := goodIn_r _ [100] (by decide +kernel) (by decide +kernel)
set_option maxRecDepth 20000 in
theorem gX10_perform_X10_modeOne : GoodIn wsX10_perform (wsV RX10 327 RX10 yX10_modeOne wsX10_modeOne) := goodIn_app (goodIn_of _ (by decide +kernel)) ggX10_perform_X10_modeOne
set_option maxRecDepth 20000 in
theorem ggX10_perform_X10_arithmetic : GoodIn wsX10_perform wsX10_arithmetic := goodIn_r _ [104, 105, 1, 106, 107, 108, 12, 109, 8, 32, 110, 111, 93, 94, 95, 96, 33, 34, 35, 36, 22, 37, 38, 39, 40, 41, 42, 43, 44, 45, 46, 47, 48, 49, 50, 51, 52, 53, 54, 55, 56, 57, 58, 59, 60, 61, 62, 63, 64, 65, 66, 67, 68, 69, 70, 71, 72, 73, 74, 75, 76, 77, 78, 79, 80, 81, 82, 83, 5, 84, 85, 86, 87, 88, 89, 90, 91, 92, 112, 113, 114, 115, 116, 117, 118, 119, 120, 121, 122, 123, 124, 125, 126, 127, 128, 129, 130, 131, 2, 132, 133, 134, 135, 136, 137, 138, 139, 140, 141, 142, 143, 144, 145, 146, 147, 148, 149, 150, 151, 152, 153, 154, 155, 156, 157, 158, 159, 160, 161, 162, 163, 164, 165, 166, 167, 6, 168, 169, 170, 171, 172, 173, 174, 175, 176, 177, 178, 179, 180, 24, 25, 26, 27, 4, 181, 182, 183, 184, 185, 186, 187, 188, 250, 251, 252, 253, 254, 255, 256, 257, 258, 259, 260, 261, 262, 263, 264, 265, 266, 267, 268, 269, 270, 271, 272, 273, 274, 275, 276, 277, 278, 279, 280, 281, 282, 283, 284, 285, 286, 287, 288, 289, 290, 291, 292, 293, 294, 295, 296, 297, 298, 299, 300, 301, 302] (by decide +kernel) (by decide +kernel)
set_option maxRecDepth 20000 in
theorem gX10_perform_X10_arithmetic : GoodIn wsX10_perform (wsV RX10 330 RX10 yX10_arithmetic wsX10_arithmetic) := goodIn_app (goodIn_of _ (by decide +kernel)) ggX10_perform_X10_arithmetic
set_option maxRecDepth 20000 in
theorem ggX10_perform_X10_doTwo : GoodIn wsX10_perform wsX10_doTwo := goodIn_r _ [192, 110, 193, 194, 195, 12, 196, 1, 106, 107, 108, 109, 8, 32, 111, 93, 94, 95, 96, 33, 34, 35, 36, 22, 37, 38, 39, 40, 41, 42, 43, 44, 45, 46, 47, 48, 49, 50, 51, 52, 53, 54, 55, 56, 57, 58, 59, 60, 61, 62, 63, 64, 65, 66, 67, 68, 69, 70, 71, 72, 73, 74, 75, 76, 77, 78, 79, 80, 81, 82, 83, 5, 84, 85, 86, 87, 88, 89, 90, 91, 92, 112, 113, 114, 115, 116, 117, 118, 119, 120, 121, 122, 123, 177, 178, 179, 180, 24, 25, 26, 27, 4, 174, 175, 176, 197, 198, 199, 200, 105, 201, 202, 203, 204, 23, 205, 206, 207, 208, 209, 210, 211, 212, 124, 125, 126, 127, 128, 129, 130, 131, 2, 132, 133, 134, 135, 136, 137, 138, 139, 140, 141, 142, 143, 144, 145, 146, 147, 148, 149, 150, 151, 152, 153, 154, 155, 156, 157, 158, 159, 160, 161, 162, 163, 164, 165, 166, 167, 6, 168, 169, 170, 171, 172, 173, 250, 251, 252, 253, 254, 255, 256, 257, 258, 259, 260, 261, 262, 263, 264, 265, 266, 267, 268, 269, 270, 271, 272, 273, 274, 275, 276, 277, 278, 279, 280, 281, 282, 283, 284, 285, 286, 287, 288, 289, 290, 291, 292, 293, 294, 295, 296, 297, 298, 299, 300, 301, 302] (by decide +kernel) (by decide +kernel)
set_option maxRecDepth 20000 in
theorem gX10_perform_X10_doTwo : GoodIn wsX10_perform (wsV RX10 333 RX10 yX10_doTwo wsX10_doTwo) := goodIn_app (goodIn_of _ (by decide +kernel)) ggX10_perform_X10_doTwo
set_option maxRecDepth 20000 in
theorem ggX10_perform_X10_doZero : GoodIn wsX10_perform wsX10_doZero := goodIn_r _ [216, 217, 218, 219, 12, 220, 4, 8, 32, 93, 94, 95, 96, 33, 34, 35, 36, 22, 37, 38, 39, 40, 41, 42, 43, 44, 45, 46, 47, 48, 49, 50, 51, 52, 53, 54, 55, 56, 57, 58, 59, 60, 61, 62, 63, 64, 65, 66, 67, 68, 69, 70, 71, 72, 73, 74, 75, 76, 77, 78, 79, 80, 81, 82, 83, 5, 84, 85, 86, 87, 88, 89, 90, 91, 92, 221, 222, 223, 224, 105, 111, 110, 18, 19, 20, 21, 23, 225, 226, 227, 228, 177, 178, 179, 180, 24, 25, 26, 27, 229, 230, 231, 232, 233, 234, 235, 236, 7, 9, 10, 11, 13, 14, 15, 16, 17, 28, 29, 30, 31, 112, 113, 114, 115, 237, 238, 239, 240, 241, 242, 243, 244, 245, 246, 247, 248, 249, 1, 106, 107, 108, 109, 116, 117, 118, 119, 120, 121, 122, 123, 124, 125, 126, 127, 128, 129, 130, 131, 2, 132, 133, 134, 135, 136, 137, 138, 139, 140, 141, 142, 143, 144, 145, 146, 147, 148, 149, 150, 151, 152, 153, 154, 155, 156, 157, 158, 159, 160, 161, 162, 163, 164, 165, 166, 167, 6, 168, 169, 170, 171, 172, 173, 174, 175, 176, 185, 186, 187, 188, 250, 251, 252, 253, 254, 255, 256, 257, 258, 259, 260, 261, 262, 263, 264, 265, 266, 267, 268, 269, 270, 271, 272, 273, 274, 275, 276, 277, 278, 279, 280, 281, 282, 283, 284, 285, 286, 287, 288, 289, 290, 291, 292, 293, 294, 295, 296, 297, 298, 299, 300, 301, 302] (by decide +kernel) (by decide +kernel)
set_option maxRecDepth 20000 in
theorem gX10_perform_X10_doZero : GoodIn wsX10_perform (wsV RX10 336 RX10 yX10_doZero wsX10_doZero) := goodIn_app (goodIn_of _ (by decide +kernel)) ggX10_perform_X10_doZero
theorem dX10_perform_0 : decode cX10_perform 0 = .ok (.aload_n 0, 1) := by decide +kernel
theorem dX10_perform_1 : decode cX10_perform 1 = .ok (.iconst 0, 1) := by decide +kernel
theorem dX10_perform_2 : decode cX10_perform 2 = .ok (.putfield 260, 3) := by decide +kernel
theorem dX10_perform_5 : decode cX10_perform 5 = .ok (.aload_n 0, 1) := by decide +kernel
theorem dX10_perform_6 : decode cX10_perform 6 = .ok (.getfield 128, 3) := by decide +kernel
theorem dX10_perform_9 : decode cX10_perform 9 = .ok (.ifCond .eq 22, 3) := by decide +kernel
theorem dX10_perform_12 : decode cX10_perform 12 = .ok (.aload_n 0, 1) := by decide +kernel
theorem dX10_perform_13 : decode cX10_perform 13 = .ok (.iconst 0, 1) := by decide +kernel
theorem dX10_perform_14 : decode cX10_perform 14 = .ok (.putfield 128, 3) := by decide +kernel
theorem dX10_perform_17 : decode cX10_perform 17 = .ok (.aload_n 0, 1) := by decide +kernel
theorem dX10_perform_18 : decode cX10_perform 18 = .ok (.ldc_w 326, 3) := by decide +kernel
theorem dX10_perform_21 : decode cX10_perform 21 = .ok (.aload_n 0, 1) := by decide +kernel
theorem dX10_perform_22 : decode cX10_perform 22 = .ok (.getfield 22, 3) := by decide +kernel
theorem dX10_perform_25 : decode cX10_perform 25 = .ok (.invokevirtual 300, 3) := by decide +kernel
theorem dX10_perform_28 : decode cX10_perform 28 = .ok (.bipush 7, 2) := by decide +kernel
theorem dX10_perform_30 : decode cX10_perform 30 = .ok (.ireturn, 1) := by decide +kernel
theorem dX10_perform_31 : decode cX10_perform 31 = .ok (.aload_n 0, 1) := by decide +kernel
theorem dX10_perform_32 : decode cX10_perform 32 = .ok (.getfield 163, 3) := by decide +kernel
theorem dX10_perform_35 : decode cX10_perform 35 = .ok (.aload_n 0, 1) := by decide +kernel
theorem dX10_perform_36 : decode cX10_perform 36 = .ok (.getfield 91, 3) := by decide +kernel
theorem dX10_perform_39 : decode cX10_perform 39 = .ok (.ior, 1) := by decide +kernel
theorem dX10_perform_40 : decode cX10_perform 40 = .ok (.ifCond .eq 26, 3) := by decide +kernel
theorem dX10_perform_43 : decode cX10_perform 43 = .ok (.aload_n 0, 1) := by decide +kernel
theorem dX10_perform_44 : decode cX10_perform 44 = .ok (.getfield 22, 3) := by decide +kernel
theorem dX10_perform_47 : decode cX10_perform 47 = .ok (.iconst 4, 1) := by decide +kernel
theorem dX10_perform_48 : decode cX10_perform 48 = .ok (.iand, 1) := by decide +kernel
theorem dX10_perform_49 : decode cX10_perform 49 = .ok (.ifCond .ne 17, 3) := by decide +kernel
theorem dX10_perform_52 : decode cX10_perform 52 = .ok (.aload_n 0, 1) := by decide +kernel
theorem dX10_perform_53 : decode cX10_perform 53 = .ok (.ldc_w 299, 3) := by decide +kernel
theorem dX10_perform_56 : decode cX10_perform 56 = .ok (.aload_n 0, 1) := by decide +kernel
theorem dX10_perform_57 : decode cX10_perform 57 = .ok (.getfield 22, 3) := by decide +kernel
theorem dX10_perform_60 : decode cX10_perform 60 = .ok (.invokevirtual 300, 3) := by decide +kernel
theorem dX10_perform_63 : decode cX10_perform 63 = .ok (.bipush 7, 2) := by decide +kernel
theorem dX10_perform_65 : decode cX10_perform 65 = .ok (.ireturn, 1) := by decide +kernel
theorem dX10_perform_66 : decode cX10_perform 66 = .ok (.aload_n 0, 1) := by decide +kernel
theorem dX10_perform_67 : decode cX10_perform 67 = .ok (.getfield 218, 3) := by decide +kernel
theorem dX10_perform_70 : decode cX10_perform 70 = .ok (.istore_n 1, 1) := by decide +kernel
theorem dX10_perform_71 : decode cX10_perform 71 = .ok (.aload_n 0, 1) := by decide +kernel
theorem dX10_perform_72 : decode cX10_perform 72 = .ok (.invokevirtual 221, 3) := by decide +kernel
theorem dX10_perform_75 : decode cX10_perform 75 = .ok (.istore_n 2, 1) := by decide +kernel
theorem dX10_perform_76 : decode cX10_perform 76 = .ok (.iload_n 2, 1) := by decide +kernel
theorem dX10_perform_77 : decode cX10_perform 77 = .ok (.iconst 5, 1) := by decide +kernel
theorem dX10_perform_78 : decode cX10_perform 78 = .ok (.ishr, 1) := by decide +kernel
theorem dX10_perform_79 : decode cX10_perform 79 = .ok (.istore_n 3, 1) := by decide +kernel
theorem dX10_perform_80 : decode cX10_perform 80 = .ok (.iload_n 2, 1) := by decide +kernel
theorem dX10_perform_81 : decode cX10_perform 81 = .ok (.iconst 2, 1) := by decide +kernel
theorem dX10_perform_82 : decode cX10_perform 82 = .ok (.ishr, 1) := by decide +kernel
theorem dX10_perform_83 : decode cX10_perform 83 = .ok (.bipush 7, 2) := by decide +kernel
theorem dX10_perform_85 : decode cX10_perform 85 = .ok (.iand, 1) := by decide +kernel
theorem dX10_perform_86 : decode cX10_perform 86 = .ok (.istore 4, 2) := by decide +kernel
theorem dX10_perform_88 : decode cX10_perform 88 = .ok (.iconst (-1), 1) := by decide +kernel
theorem dX10_perform_89 : decode cX10_perform 89 = .ok (.istore 5, 2) := by decide +kernel
theorem dX10_perform_91 : decode cX10_perform 91 = .ok (.iload_n 2, 1) := by decide +kernel
theorem dX10_perform_92 : decode cX10_perform 92 = .ok (.iconst 3, 1) := by decide +kernel
theorem dX10_perform_93 : decode cX10_perform 93 = .ok (.iand, 1) := by decide +kernel
theorem dX10_perform_94 : decode cX10_perform 94 = .ok (.iconst 1, 1) := by decide +kernel
theorem dX10_perform_95 : decode cX10_perform 95 = .ok (.if_icmp .ne 23, 3) := by decide +kernel
theorem dX10_perform_98 : decode cX10_perform 98 = .ok (.iload_n 2, 1) := by decide +kernel
theorem dX10_perform_99 : decode cX10_perform 99 = .ok (.sipush 137, 3) := by decide +kernel
theorem dX10_perform_102 : decode cX10_perform 102 = .ok (.if_icmp .eq 16, 3) := by decide +kernel
theorem dX10_perform_105 : decode cX10_perform 105 = .ok (.aload_n 0, 1) := by decide +kernel
theorem dX10_perform_106 : decode cX10_perform 106 = .ok (.iload_n 3, 1) := by decide +kernel
theorem dX10_perform_107 : decode cX10_perform 107 = .ok (.aload_n 0, 1) := by decide +kernel
theorem dX10_perform_108 : decode cX10_perform 108 = .ok (.iload 4, 2) := by decide +kernel
theorem dX10_perform_110 : decode cX10_perform 110 = .ok (.invokevirtual 327, 3) := by decide +kernel
theorem dX10_perform_113 : decode cX10_perform 113 = .ok (.invokevirtual 330, 3) := by decide +kernel
theorem dX10_perform_116 : decode cX10_perform 116 = .ok (.istore 5, 2) := by decide +kernel
theorem dX10_perform_118 : decode cX10_perform 118 = .ok (.iload_n 2, 1) := by decide +kernel
theorem dX10_perform_119 : decode cX10_perform 119 = .ok (.iconst 3, 1) := by decide +kernel
theorem dX10_perform_120 : decode cX10_perform 120 = .ok (.iand, 1) := by decide +kernel
theorem dX10_perform_121 : decode cX10_perform 121 = .ok (.iconst 2, 1) := by decide +kernel
theorem dX10_perform_122 : decode cX10_perform 122 = .ok (.if_icmp .ne 12, 3) := by decide +kernel
theorem dX10_perform_125 : decode cX10_perform 125 = .ok (.aload_n 0, 1) := by decide +kernel
theorem dX10_perform_126 : decode cX10_perform 126 = .ok (.iload_n 3, 1) := by decide +kernel
theorem dX10_perform_127 : decode cX10_perform 127 = .ok (.iload 4, 2) := by decide +kernel
theorem dX10_perform_129 : decode cX10_perform 129 = .ok (.invokevirtual 333, 3) := by decide +kernel
theorem dX10_perform_132 : decode cX10_perform 132 = .ok (.istore 5, 2) := by decide +kernel
theorem dX10_perform_134 : decode cX10_perform 134 = .ok (.iload_n 2, 1) := by decide +kernel
theorem dX10_perform_135 : decode cX10_perform 135 = .ok (.iconst 3, 1) := by decide +kernel
theorem dX10_perform_136 : decode cX10_perform 136 = .ok (.iand, 1) := by decide +kernel
theorem dX10_perform_137 : decode cX10_perform 137 = .ok (.ifCond .ne 12, 3) := by decide +kernel
theorem dX10_perform_140 : decode cX10_perform 140 = .ok (.aload_n 0, 1) := by decide +kernel
theorem dX10_perform_141 : decode cX10_perform 141 = .ok (.iload_n 3, 1) := by decide +kernel
theorem dX10_perform_142 : decode cX10_perform 142 = .ok (.iload 4, 2) := by decide +kernel
theorem dX10_perform_144 : decode cX10_perform 144 = .ok (.invokevirtual 336, 3) := by decide +kernel
theorem dX10_perform_147 : decode cX10_perform 147 = .ok (.istore 5, 2) := by decide +kernel
theorem dX10_perform_149 : decode cX10_perform 149 = .ok (.iload 5, 2) := by decide +kernel
theorem dX10_perform_151 : decode cX10_perform 151 = .ok (.ifCond .le 6, 3) := by decide +kernel
theorem dX10_perform_154 : decode cX10_perform 154 = .ok (.iload 5, 2) := by decide +kernel
theorem dX10_perform_156 : decode cX10_perform 156 = .ok (.ireturn, 1) := by decide +kernel
theorem dX10_perform_157 : decode cX10_perform 157 = .ok (.aload_n 0, 1) := by decide +kernel
theorem dX10_perform_158 : decode cX10_perform 158 = .ok (.iload_n 1, 1) := by decide +kernel
theorem dX10_perform_159 : decode cX10_perform 159 = .ok (.putfield 218, 3) := by decide +kernel
theorem dX10_perform_162 : decode cX10_perform 162 = .ok (.iconst 2, 1) := by decide +kernel
theorem dX10_perform_163 : decode cX10_perform 163 = .ok (.ireturn, 1) := by decide +kernel
set_option maxRecDepth 20000 in
theorem ggX10_oneStep_X10_perform : GoodIn wsX10_oneStep wsX10_perform := goodIn_r _ [6, 7, 8, 9, 10, 11, 12, 13, 14, 15, 16, 17, 5, 18, 19, 20, 21, 22, 23, 24, 25, 26, 27, 28, 29, 30, 31, 32, 33, 34, 35, 36, 37, 38, 39, 40, 41, 42, 43, 44, 45, 46, 47, 48, 49, 50, 51, 52, 53, 54, 55, 56, 57, 58, 59, 60, 61, 62, 63, 64, 65, 66, 67, 68, 69, 70, 71, 72, 73, 74, 75, 76, 77, 78, 79, 80, 81, 82, 83, 84, 85, 86, 87, 88, 89, 90, 91, 92, 93, 94, 95, 96, 97, 98, 99, 100, 101, 102, 103, 104, 105, 106, 107, 108, 109, 110, 111, 112, 113, 114, 115, 116, 117, 118, 119, 120, 121, 122, 123, 124, 125, 126, 127, 128, 129, 130, 131, 132, 133, 134, 135, 136, 137, 138, 139, 140, 141, 142, 143, 144, 145, 146, 147, 148, 149, 150, 151, 152, 153, 154, 155, 156, 157, 158, 159, 1, 160, 161, 162, 163, 164, 165, 166, 167, 168, 169, 170, 171, 172, 173, 174, 175, 176, 177, 178, 179, 180, 181, 182, 183, 184, 185, 186, 187, 188, 189, 190, 191, 192, 193, 194, 195, 196, 197, 198, 199, 200, 201, 202, 203, 204, 205, 206, 207, 208, 209, 210, 211, 212, 213, 214, 215, 216, 217, 218, 219, 220, 221, 222, 223, 224, 225, 226, 227, 228, 229, 230, 231, 232, 233, 234, 235, 236, 237, 238, 239, 240, 241, 242, 243, 244, 245, 246, 247, 248, 249, 250, 251, 252, 253, 269, 270, 271, 272, 273, 274, 275, 276, 277, 278, 279, 280, 281, 282, 283, 284, 285, 286, 287, 288, 289, 290, 291, 292, 293, 294, 295, 296, 297, 298, 299, 300, 301, 302, 303, 304, 305, 306, 307, 308, 309, 310, 311, 312, 313, 314, 315, 316, 317, 318, 319, 320, 321] (by decide +kernel) (by decide +kernel)
set_option maxRecDepth 20000 in
theorem gX10_oneStep_X10_perform : GoodIn wsX10_oneStep (wsV RX10 339 RX10 yX10_perform wsX10_perform) := goodIn_app (goodIn_of _ (by decide +kernel)) ggX10_oneStep_X10_perform
set_option maxRecDepth 20000 in
theorem ggX10_oneStep_X10_elapse : GoodIn wsX10_oneStep wsX10_elapse := goodIn_r _ [257, 258, 259, 260, 5, 261, 160, 262, 263, 49, 84, 8, 138, 152, 150, 264, 151, 11, 265, 266, 267, 268, 66, 169, 170, 171, 12, 161, 162, 163, 164, 89, 148, 269, 270, 271, 272, 273, 274, 275, 276, 277, 278, 279, 280, 281, 282, 283, 284, 285, 286, 287, 288, 289, 290, 291, 292, 293, 294, 295, 296, 297, 298, 299, 300, 301, 302, 303, 304, 305, 306, 307, 308, 309, 310, 311, 312, 313, 314, 315, 316, 317, 318, 319, 320, 321] (by decide +kernel) (by decide +kernel)
set_option maxRecDepth 20000 in
theorem gX10_oneStep_X10_elapse : GoodIn wsX10_oneStep (wsV RX10 342 RX10 yX10_elapse wsX10_elapse) := goodIn_app (goodIn_of _ (by decide +kernel)) ggX10_oneStep_X10_elapse
theorem dX10_oneStep_0 : decode cX10_oneStep 0 = .ok (.aload_n 0, 1) := by decide +kernel
theorem dX10_oneStep_1 : decode cX10_oneStep 1 = .ok (.iconst 0, 1) := by decide +kernel
theorem dX10_oneStep_2 : decode cX10_oneStep 2 = .ok (.putfield 178, 3) := by decide +kernel
theorem dX10_oneStep_5 : decode cX10_oneStep 5 = .ok (.aload_n 0, 1) := by decide +kernel
theorem dX10_oneStep_6 : decode cX10_oneStep 6 = .ok (.invokevirtual 339, 3) := by decide +kernel
theorem dX10_oneStep_9 : decode cX10_oneStep 9 = .ok (.istore_n 1, 1) := by decide +kernel
theorem dX10_oneStep_10 : decode cX10_oneStep 10 = .ok (.aload_n 0, 1) := by decide +kernel
theorem dX10_oneStep_11 : decode cX10_oneStep 11 = .ok (.dup, 1) := by decide +kernel
theorem dX10_oneStep_12 : decode cX10_oneStep 12 = .ok (.getfield 178, 3) := by decide +kernel
theorem dX10_oneStep_15 : decode cX10_oneStep 15 = .ok (.iload_n 1, 1) := by decide +kernel
theorem dX10_oneStep_16 : decode cX10_oneStep 16 = .ok (.iadd, 1) := by decide +kernel
theorem dX10_oneStep_17 : decode cX10_oneStep 17 = .ok (.putfield 178, 3) := by decide +kernel
theorem dX10_oneStep_20 : decode cX10_oneStep 20 = .ok (.aload_n 0, 1) := by decide +kernel
theorem dX10_oneStep_21 : decode cX10_oneStep 21 = .ok (.aload_n 0, 1) := by decide +kernel
theorem dX10_oneStep_22 : decode cX10_oneStep 22 = .ok (.getfield 178, 3) := by decide +kernel
theorem dX10_oneStep_25 : decode cX10_oneStep 25 = .ok (.invokevirtual 342, 3) := by decide +kernel
theorem dX10_oneStep_28 : decode cX10_oneStep 28 = .ok (.aload_n 0, 1) := by decide +kernel
theorem dX10_oneStep_29 : decode cX10_oneStep 29 = .ok (.getfield 178, 3) := by decide +kernel
theorem dX10_oneStep_32 : decode cX10_oneStep 32 = .ok (.ireturn, 1) := by decide +kernel
set_option maxRecDepth 20000 in
theorem ggX10_step_X10_oneStep : GoodIn wsX10_step wsX10_oneStep := goodIn_r _ [6, 7, 8, 9, 10, 5, 11, 12, 13, 14, 15, 16, 17, 18, 19, 20, 21, 22, 23, 24, 25, 26, 27, 28, 29, 30, 31, 32, 33, 34, 35, 36, 37, 38, 39, 40, 41, 42, 43, 44, 45, 46, 47, 48, 49, 50, 51, 52, 53, 54, 55, 56, 57, 58, 59, 60, 61, 62, 63, 64, 65, 66, 67, 68, 69, 70, 71, 72, 73, 74, 75, 76, 77, 78, 79, 80, 81, 82, 83, 84, 85, 86, 87, 88, 89, 90, 91, 92, 93, 94, 95, 96, 97, 98, 99, 100, 101, 102, 103, 104, 105, 106, 107, 108, 109, 110, 111, 112, 113, 114, 115, 116, 117, 118, 119, 120, 121, 122, 123, 124, 125, 126, 127, 128, 129, 130, 131, 132, 133, 134, 135, 136, 137, 138, 139, 140, 141, 142, 143, 144, 145, 146, 147, 148, 149, 150, 151, 152, 153, 154, 155, 156, 157, 158, 159, 160, 161, 162, 163, 164, 165, 166, 167, 168, 169, 170, 171, 172, 173, 174, 175, 176, 177, 178, 179, 180, 181, 182, 183, 184, 185, 186, 187, 188, 189, 190, 191, 192, 193, 194, 195, 196, 197, 198, 199, 200, 201, 202, 203, 204, 205, 206, 207, 208, 209, 210, 211, 212, 213, 214, 215, 216, 217, 218, 219, 220, 221, 222, 223, 224, 225, 226, 227, 228, 229, 230, 231, 232, 233, 234, 235, 236, 237, 238, 239, 240, 241, 242, 243, 244, 245, 246, 247, 248, 249, 250, 251, 252, 253, 254, 255, 256, 257, 258, 259, 260, 261, 262, 263, 264, 265, 266, 267, 268, 269, 270, 271, 272, 273, 274, 275, 276, 277, 278, 279, 280, 281, 282, 283, 284, 285, 286, 287, 288, 289, 290, 291, 292, 293, 294, 295, 296, 297, 298, 299, 300, 301, 302, 303, 304, 305, 306, 307, 308, 309, 310, 311, 312, 313, 314, 315, 316, 317, 318, 319, 320, 321, 322, 323, 324, 325, 326] (by decide +kernel) (by decide +kernel)
set_option maxRecDepth 20000 in
theorem gX10_step_X10_oneStep : GoodIn wsX10_step (wsV RX10 345 RX10 yX10_oneStep wsX10_oneStep) := goodIn_app (goodIn_of _ (by decide +kernel)) ggX10_step_X10_oneStep
theorem dX10_step_0 : decode cX10_step 0 = .ok (.aload_n 0, 1) := by decide +kernel
theorem dX10_step_1 : decode cX10_step 1 = .ok (.iconst 0, 1) := by decide +kernel
theorem dX10_step_2 : decode cX10_step 2 = .ok (.putfield 61, 3) := by decide +kernel
theorem dX10_step_5 : decode cX10_step 5 = .ok (.aload_n 0, 1) := by decide +kernel
theorem dX10_step_6 : decode cX10_step 6 = .ok (.invokevirtual 345, 3) := by decide +kernel
theorem dX10_step_9 : decode cX10_step 9 = .ok (.ireturn, 1) := by decide +kernel
set_option maxRecDepth 20000 in
theorem ggX10_run_X10_oneStep : GoodIn wsX10_run wsX10_oneStep := goodIn_r _ [6, 7, 8, 9, 10, 5, 11, 12, 13, 14, 15, 16, 17, 18, 19, 20, 21, 22, 23, 24, 25, 26, 27, 28, 29, 30, 31, 32, 33, 34, 35, 36, 37, 38, 39, 40, 41, 42, 43, 44, 45, 46, 47, 48, 49, 50, 51, 52, 53, 54, 55, 56, 57, 58, 59, 60, 61, 62, 63, 64, 65, 66, 67, 68, 69, 70, 71, 72, 73, 74, 75, 76, 77, 78, 79, 80, 81, 82, 83, 84, 85, 86, 87, 88, 89, 90, 91, 92, 93, 94, 95, 96, 97, 98, 99, 100, 101, 102, 103, 104, 105, 106, 107, 108, 109, 110, 111, 112, 113, 114, 115, 116, 117, 118, 119, 120, 121, 122, 123, 124, 125, 126, 127, 128, 129, 130, 131, 132, 133, 134, 135, 136, 137, 138, 139, 140, 141, 142, 143, 144, 145, 146, 147, 148, 149, 150, 151, 152, 153, 154, 155, 156, 157, 158, 159, 160, 161, 162, 163, 164, 165, 166, 167, 168, 169, 170, 171, 172, 173, 174, 175, 176, 177, 178, 179, 180, 181, 182, 183, 184, 185, 186, 187, 188, 189, 190, 191, 192, 193, 194, 195, 196, 197, 198, 199, 200, 201, 202, 203, 204, 205, 206, 207, 208, 209, 210, 211, 212, 213, 214, 215, 216, 217, 218, 219, 220, 221, 222, 223, 224, 225, 226, 227, 228, 229, 230, 231, 232, 233, 234, 235, 236, 237, 238, 239, 240, 241, 242, 243, 244, 245, 246, 247, 248, 249, 250, 251, 252, 253, 254, 255, 256, 257, 258, 259, 260, 261, 262, 263, 264, 265, 266, 267, 268, 269, 270, 271, 272, 273, 274, 275, 276, 277, 278, 279, 280, 281, 282, 283, 284, 285, 286, 287, 288, 289, 290, 291, 292, 293, 294, 295, 296, 297, 298, 299, 300, 301, 302, 303, 304, 305, 306, 307, 308, 309, 310, 311, 312, 313, 314, 315, 316, 317, 318, 319, 320, 321, 322, 323, 324, 325, 326] (by decide +kernel) (by decide +kernel)
set_option maxRecDepth 20000 in
theorem gX10_run_X10_oneStep : GoodIn wsX10_run (wsV RX10 345 RX10 yX10_oneStep wsX10_oneStep) := goodIn_app (goodIn_of _ (by decide +kernel)) ggX10_run_X10_oneStep
theorem dX10_run_0 : decode cX10_run 0 = .ok (.aload_n 0, 1) := by decide +kernel
theorem dX10_run_1 : decode cX10_run 1 = .ok (.iconst 0, 1) := by decide +kernel
theorem dX10_run_2 : decode cX10_run 2 = .ok (.putfield 61, 3) := by decide +kernel
theorem dX10_run_5 : decode cX10_run 5 = .ok (.iload_n 1, 1) := by decide +kernel
theorem dX10_run_6 : decode cX10_run 6 = .ok (.ifCond .lt 10, 3) := by decide +kernel
theorem dX10_run_9 : decode cX10_run 9 = .ok (.iload_n 1, 1) := by decide +kernel
theorem dX10_run_10 : decode cX10_run 10 = .ok (.sipush 200, 3) := by decide +kernel
theorem dX10_run_13 : decode cX10_run 13 = .ok (.if_icmp .le 5, 3) := by decide +kernel
theorem dX10_run_16 : decode cX10_run 16 = .ok (.iconst (-1), 1) := by decide +kernel
theorem dX10_run_17 : decode cX10_run 17 = .ok (.ireturn, 1) := by decide +kernel
theorem dX10_run_18 : decode cX10_run 18 = .ok (.iconst 0, 1) := by decide +kernel
theorem dX10_run_19 : decode cX10_run 19 = .ok (.istore_n 2, 1) := by decide +kernel
theorem dX10_run_20 : decode cX10_run 20 = .ok (.iconst 0, 1) := by decide +kernel
theorem dX10_run_21 : decode cX10_run 21 = .ok (.istore_n 3, 1) := by decide +kernel
theorem dX10_run_22 : decode cX10_run 22 = .ok (.iload_n 3, 1) := by decide +kernel
theorem dX10_run_23 : decode cX10_run 23 = .ok (.iload_n 1, 1) := by decide +kernel
theorem dX10_run_24 : decode cX10_run 24 = .ok (.if_icmp .ge 16, 3) := by decide +kernel
theorem dX10_run_27 : decode cX10_run 27 = .ok (.iload_n 2, 1) := by decide +kernel
theorem dX10_run_28 : decode cX10_run 28 = .ok (.aload_n 0, 1) := by decide +kernel
theorem dX10_run_29 : decode cX10_run 29 = .ok (.invokevirtual 345, 3) := by decide +kernel
theorem dX10_run_32 : decode cX10_run 32 = .ok (.iadd, 1) := by decide +kernel
theorem dX10_run_33 : decode cX10_run 33 = .ok (.istore_n 2, 1) := by decide +kernel
theorem dX10_run_34 : decode cX10_run 34 = .ok (.iinc 3 1, 3) := by decide +kernel
theorem dX10_run_37 : decode cX10_run 37 = .ok (.goto (-15), 3) := by decide +kernel
theorem dX10_run_40 : decode cX10_run 40 = .ok (.iload_n 2, 1) := by decide +kernel
theorem dX10_run_41 : decode cX10_run 41 = .ok (.ireturn, 1) := by decide +kernel
set_option maxRecDepth 20000 in
theorem ggX10_reset_X10_flag : GoodIn wsX10_reset wsX10_flag := goodIn_r _ [18, 19, 83, 84, 85, 86, 87, 88, 89, 90, 91, 92, 93, 94, 95, 96, 97, 98, 99, 100, 101, 102, 103, 104, 105, 106, 107, 108, 109, 110, 111, 112, 113, 114, 115, 116, 117, 118, 119, 120, 121, 122, 123, 124, 125, 126, 127, 128, 129, 130, 131, 132, 133, 134, 135] (by decide +kernel) (by decide +kernel)
set_option maxRecDepth 20000 in
theorem gX10_reset_X10_flag : GoodIn wsX10_reset (wsV RX10 234 RX10 yX10_flag wsX10_flag) := goodIn_app (goodIn_of _ (by decide +kernel)) ggX10_reset_X10_flag
set_option maxRecDepth 20000 in
theorem ggX10_reset_X10_word : GoodIn wsX10_reset wsX10_word := goodIn_r _ [23, 24, 25, 26, 27, 17, 28, 29, 30, 31, 32, 33, 34, 35, 36, 37, 7, 38, 39, 40, 41, 42, 43, 44, 45, 46, 47, 48, 49, 50, 51, 52, 53, 54, 55, 56, 57, 58, 59, 60, 61, 62, 63, 64, 65, 66, 67, 68, 69, 70, 5, 71, 72, 73, 74, 11, 10, 75, 76, 77, 78, 79, 80, 81, 82, 83, 84, 85, 86, 87, 88, 89, 90, 91, 92, 93, 94, 95, 96, 97, 98, 99, 100, 101, 102, 103, 104, 105, 106, 107, 108, 109, 110, 111, 112, 113, 114, 115, 116, 117, 118, 119, 120, 121, 122, 123, 124, 125, 126, 127, 128, 129, 130, 131, 132, 133, 134, 135] (by decide +kernel) (by decide +kernel)
set_option maxRecDepth 20000 in
theorem gX10_reset_X10_word : GoodIn wsX10_reset (wsV RX10 241 RX10 yX10_word wsX10_word) := goodIn_app (goodIn_of _ (by decide +kernel)) ggX10_reset_X10_word
theorem dX10_reset_0 : decode cX10_reset 0 = .ok (.aload_n 0, 1) := by decide +kernel
theorem dX10_reset_1 : decode cX10_reset 1 = .ok (.iconst 0, 1) := by decide +kernel
theorem dX10_reset_2 : decode cX10_reset 2 = .ok (.putfield 61, 3) := by decide +kernel
theorem dX10_reset_5 : decode cX10_reset 5 = .ok (.aload_n 0, 1) := by decide +kernel
theorem dX10_reset_6 : decode cX10_reset 6 = .ok (.aload_n 0, 1) := by decide +kernel
theorem dX10_reset_7 : decode cX10_reset 7 = .ok (.getfield 225, 3) := by decide +kernel
theorem dX10_reset_10 : decode cX10_reset 10 = .ok (.iconst 3, 1) := by decide +kernel
theorem dX10_reset_11 : decode cX10_reset 11 = .ok (.isub, 1) := by decide +kernel
theorem dX10_reset_12 : decode cX10_reset 12 = .ok (.sipush 255, 3) := by decide +kernel
theorem dX10_reset_15 : decode cX10_reset 15 = .ok (.iand, 1) := by decide +kernel
theorem dX10_reset_16 : decode cX10_reset 16 = .ok (.putfield 225, 3) := by decide +kernel
theorem dX10_reset_19 : decode cX10_reset 19 = .ok (.aload_n 0, 1) := by decide +kernel
theorem dX10_reset_20 : decode cX10_reset 20 = .ok (.iconst 4, 1) := by decide +kernel
theorem dX10_reset_21 : decode cX10_reset 21 = .ok (.iconst 1, 1) := by decide +kernel
theorem dX10_reset_22 : decode cX10_reset 22 = .ok (.invokevirtual 234, 3) := by decide +kernel
theorem dX10_reset_25 : decode cX10_reset 25 = .ok (.aload_n 0, 1) := by decide +kernel
theorem dX10_reset_26 : decode cX10_reset 26 = .ok (.aload_n 0, 1) := by decide +kernel
theorem dX10_reset_27 : decode cX10_reset 27 = .ok (.ldc_w 348, 3) := by decide +kernel
theorem dX10_reset_30 : decode cX10_reset 30 = .ok (.invokevirtual 241, 3) := by decide +kernel
theorem dX10_reset_33 : decode cX10_reset 33 = .ok (.putfield 218, 3) := by decide +kernel
theorem dX10_reset_36 : decode cX10_reset 36 = .ok (.aload_n 0, 1) := by decide +kernel
theorem dX10_reset_37 : decode cX10_reset 37 = .ok (.iconst 0, 1) := by decide +kernel
theorem dX10_reset_38 : decode cX10_reset 38 = .ok (.putfield 107, 3) := by decide +kernel
theorem dX10_reset_41 : decode cX10_reset 41 = .ok (.aload_n 0, 1) := by decide +kernel
theorem dX10_reset_42 : decode cX10_reset 42 = .ok (.iconst 0, 1) := by decide +kernel
theorem dX10_reset_43 : decode cX10_reset 43 = .ok (.putfield 134, 3) := by decide +kernel
theorem dX10_reset_46 : decode cX10_reset 46 = .ok (.aload_n 0, 1) := by decide +kernel
theorem dX10_reset_47 : decode cX10_reset 47 = .ok (.iconst 0, 1) := by decide +kernel
theorem dX10_reset_48 : decode cX10_reset 48 = .ok (.putfield 113, 3) := by decide +kernel
theorem dX10_reset_51 : decode cX10_reset 51 = .ok (.aload_n 0, 1) := by decide +kernel
theorem dX10_reset_52 : decode cX10_reset 52 = .ok (.iconst 0, 1) := by decide +kernel
theorem dX10_reset_53 : decode cX10_reset 53 = .ok (.putfield 128, 3) := by decide +kernel
theorem dX10_reset_56 : decode cX10_reset 56 = .ok (.aload_n 0, 1) := by decide +kernel
theorem dX10_reset_57 : decode cX10_reset 57 = .ok (.iconst 0, 1) := by decide +kernel
theorem dX10_reset_58 : decode cX10_reset 58 = .ok (.putfield 144, 3) := by decide +kernel
theorem dX10_reset_61 : decode cX10_reset 61 = .ok (.iconst 0, 1) := by decide +kernel
theorem dX10_reset_62 : decode cX10_reset 62 = .ok (.istore_n 1, 1) := by decide +kernel
theorem dX10_reset_63 : decode cX10_reset 63 = .ok (.iload_n 1, 1) := by decide +kernel
theorem dX10_reset_64 : decode cX10_reset 64 = .ok (.iconst 4, 1) := by decide +kernel
theorem dX10_reset_65 : decode cX10_reset 65 = .ok (.if_icmp .ge 16, 3) := by decide +kernel
theorem dX10_reset_68 : decode cX10_reset 68 = .ok (.aload_n 0, 1) := by decide +kernel
theorem dX10_reset_69 : decode cX10_reset 69 = .ok (.getfield 38, 3) := by decide +kernel
theorem dX10_reset_72 : decode cX10_reset 72 = .ok (.iload_n 1, 1) := by decide +kernel
theorem dX10_reset_73 : decode cX10_reset 73 = .ok (.iconst 0, 1) := by decide +kernel
theorem dX10_reset_74 : decode cX10_reset 74 = .ok (.iastore, 1) := by decide +kernel
theorem dX10_reset_75 : decode cX10_reset 75 = .ok (.iinc 1 1, 3) := by decide +kernel
theorem dX10_reset_78 : decode cX10_reset 78 = .ok (.goto (-15), 3) := by decide +kernel
theorem dX10_reset_81 : decode cX10_reset 81 = .ok (.aload_n 0, 1) := by decide +kernel
theorem dX10_reset_82 : decode cX10_reset 82 = .ok (.iconst 0, 1) := by decide +kernel
theorem dX10_reset_83 : decode cX10_reset 83 = .ok (.putfield 163, 3) := by decide +kernel
theorem dX10_reset_86 : decode cX10_reset 86 = .ok (.aload_n 0, 1) := by decide +kernel
theorem dX10_reset_87 : decode cX10_reset 87 = .ok (.iconst 0, 1) := by decide +kernel
theorem dX10_reset_88 : decode cX10_reset 88 = .ok (.putfield 76, 3) := by decide +kernel
theorem dX10_reset_91 : decode cX10_reset 91 = .ok (.aload_n 0, 1) := by decide +kernel
theorem dX10_reset_92 : decode cX10_reset 92 = .ok (.iconst 0, 1) := by decide +kernel
theorem dX10_reset_93 : decode cX10_reset 93 = .ok (.putfield 79, 3) := by decide +kernel
theorem dX10_reset_96 : decode cX10_reset 96 = .ok (.return_, 1) := by decide +kernel
set_option maxRecDepth 20000 in
theorem ggX10_pass_X10_elapse : GoodIn wsX10_pass wsX10_elapse := goodIn_r _ [6, 7, 8, 9, 5, 10, 11, 12, 13, 14, 15, 16, 17, 18, 19, 20, 21, 22, 23, 24, 25, 26, 27, 28, 29, 30, 31, 32, 33, 34, 35, 36, 37, 38, 39, 40, 41, 42, 43, 44, 45, 46, 47, 48, 49, 50, 51, 52, 53, 54, 55, 56, 57, 58, 59, 60, 61, 62, 63, 64, 65, 66, 67, 68, 69, 70, 71, 72, 73, 74, 75, 76, 77, 78, 79, 80, 81, 82, 83, 84, 85, 86, 87, 88, 89, 90] (by decide +kernel) (by decide +kernel)
set_option maxRecDepth 20000 in
theorem gX10_pass_X10_elapse : GoodIn wsX10_pass (wsV RX10 342 RX10 yX10_elapse wsX10_elapse) := goodIn_app (goodIn_of _ (by decide +kernel)) ggX10_pass_X10_elapse
theorem dX10_pass_0 : decode cX10_pass 0 = .ok (.aload_n 0, 1) := by decide +kernel
theorem dX10_pass_1 : decode cX10_pass 1 = .ok (.iconst 0, 1) := by decide +kernel
theorem dX10_pass_2 : decode cX10_pass 2 = .ok (.putfield 61, 3) := by decide +kernel
theorem dX10_pass_5 : decode cX10_pass 5 = .ok (.iload_n 1, 1) := by decide +kernel
theorem dX10_pass_6 : decode cX10_pass 6 = .ok (.ifCond .lt 10, 3) := by decide +kernel
theorem dX10_pass_9 : decode cX10_pass 9 = .ok (.iload_n 1, 1) := by decide +kernel
theorem dX10_pass_10 : decode cX10_pass 10 = .ok (.sipush 30000, 3) := by decide +kernel
theorem dX10_pass_13 : decode cX10_pass 13 = .ok (.if_icmp .le 5, 3) := by decide +kernel
theorem dX10_pass_16 : decode cX10_pass 16 = .ok (.iconst 0, 1) := by decide +kernel
theorem dX10_pass_17 : decode cX10_pass 17 = .ok (.ireturn, 1) := by decide +kernel
theorem dX10_pass_18 : decode cX10_pass 18 = .ok (.aload_n 0, 1) := by decide +kernel
theorem dX10_pass_19 : decode cX10_pass 19 = .ok (.iload_n 1, 1) := by decide +kernel
theorem dX10_pass_20 : decode cX10_pass 20 = .ok (.invokevirtual 342, 3) := by decide +kernel
theorem dX10_pass_23 : decode cX10_pass 23 = .ok (.iconst 1, 1) := by decide +kernel
theorem dX10_pass_24 : decode cX10_pass 24 = .ok (.ireturn, 1) := by decide +kernel
set_option maxRecDepth 20000 in
theorem ggX10_read_X10_get : GoodIn wsX10_read wsX10_get := goodIn_r _ [7, 8, 9, 10, 11, 12, 13, 14, 6, 15, 16, 17, 18, 19, 20, 21, 22, 23, 24, 25, 26, 27, 28, 29, 30, 31, 32, 33, 34, 35, 36, 37, 38, 39, 40, 41, 42, 43, 44, 45, 46, 47, 48, 49, 50, 51, 52, 53, 54, 55, 56, 57, 58, 59, 60, 61, 62, 63, 64, 65, 66, 67, 68, 69, 70, 71, 72, 73, 74, 75, 76, 77, 78, 79, 80, 81, 82, 83, 84, 85, 86, 87, 88, 89, 90, 91, 92, 93, 94, 95, 96, 97, 98, 99, 100, 101, 102, 103, 104, 105, 106, 107, 108, 109, 110, 111, 112, 113, 114, 115, 116, 117, 118] (by decide +kernel) (by decide +kernel)
set_option maxRecDepth 20000 in
theorem gX10_read_X10_get : GoodIn wsX10_read (wsV RX10 172 RX10 yX10_get wsX10_get) := goodIn_app (goodIn_of _ (by decide +kernel)) ggX10_read_X10_get
theorem dX10_read_0 : decode cX10_read 0 = .ok (.aload_n 0, 1) := by decide +kernel
theorem dX10_read_1 : decode cX10_read 1 = .ok (.iconst 0, 1) := by decide +kernel
theorem dX10_read_2 : decode cX10_read 2 = .ok (.putfield 61, 3) := by decide +kernel
theorem dX10_read_5 : decode cX10_read 5 = .ok (.aload_n 0, 1) := by decide +kernel
theorem dX10_read_6 : decode cX10_read 6 = .ok (.iload_n 1, 1) := by decide +kernel
theorem dX10_read_7 : decode cX10_read 7 = .ok (.ldc 204, 2) := by decide +kernel
theorem dX10_read_9 : decode cX10_read 9 = .ok (.iand, 1) := by decide +kernel
theorem dX10_read_10 : decode cX10_read 10 = .ok (.invokevirtual 172, 3) := by decide +kernel
theorem dX10_read_13 : decode cX10_read 13 = .ok (.ireturn, 1) := by decide +kernel
set_option maxRecDepth 20000 in
theorem ggX10_write_X10_put : GoodIn wsX10_write wsX10_put := goodIn_r _ [8, 9, 10, 11, 12, 13, 14, 15, 7, 16, 17, 18, 19, 20, 21, 22, 23, 24, 25, 26, 27, 28, 29, 30, 31, 32, 33, 34, 35, 36, 37, 38, 39, 40, 41, 42, 43, 44, 45, 46, 47, 48, 49, 50, 51, 52, 53, 54, 55, 56, 57, 58, 59, 60, 61, 62, 63, 64, 65, 2, 66, 67, 68, 69, 70, 71, 72, 73, 74, 75, 76, 77, 78, 79, 80, 81, 82, 83, 84, 85, 86, 87, 88, 89, 90, 91, 92, 93, 94, 95, 96, 97, 98, 99, 100, 101, 102, 103, 104, 105, 106, 107, 108, 109, 110, 111, 112, 113, 114, 115, 116, 117, 133, 134, 135, 136, 137, 138, 139, 140, 141, 142, 143, 144, 145, 146, 147, 148, 149, 150, 151, 152, 153, 154, 155, 156, 157, 158, 159, 160, 161, 162, 163, 164, 165, 166, 167, 168, 169, 170, 171, 172, 173, 174, 175, 176, 177, 178, 179, 180, 181, 182, 183, 184, 185] (by decide +kernel) (by decide +kernel)
set_option maxRecDepth 20000 in
theorem gX10_write_X10_put : GoodIn wsX10_write (wsV RX10 272 RX10 yX10_put wsX10_put) := goodIn_app (goodIn_of _ (by decide +kernel)) ggX10_write_X10_put
set_option maxRecDepth 20000 in
theorem ggX10_write_X10_elapse : GoodIn wsX10_write wsX10_elapse := goodIn_r _ [121, 122, 123, 124, 7, 125, 66, 126, 127, 17, 18, 19, 21, 58, 55, 128, 56, 57, 129, 130, 131, 132, 11, 108, 109, 110, 111, 100, 101, 102, 103, 51, 49, 133, 134, 135, 136, 137, 138, 139, 140, 141, 142, 143, 144, 145, 146, 147, 148, 149, 150, 151, 152, 153, 154, 155, 156, 157, 158, 159, 160, 161, 162, 163, 164, 165, 166, 167, 168, 169, 170, 171, 172, 173, 174, 175, 176, 177, 178, 179, 180, 181, 182, 183, 184, 185] (by decide +kernel) (by decide +kernel)
set_option maxRecDepth 20000 in
theorem gX10_write_X10_elapse : GoodIn wsX10_write (wsV RX10 342 RX10 yX10_elapse wsX10_elapse) := goodIn_app (goodIn_of _ (by decide +kernel)) ggX10_write_X10_elapse
theorem dX10_write_0 : decode cX10_write 0 = .ok (.aload_n 0, 1) := by decide +kernel
theorem dX10_write_1 : decode cX10_write 1 = .ok (.iconst 0, 1) := by decide +kernel
theorem dX10_write_2 : decode cX10_write 2 = .ok (.putfield 61, 3) := by decide +kernel
theorem dX10_write_5 : decode cX10_write 5 = .ok (.aload_n 0, 1) := by decide +kernel
theorem dX10_write_6 : decode cX10_write 6 = .ok (.iconst 0, 1) := by decide +kernel
theorem dX10_write_7 : decode cX10_write 7 = .ok (.putfield 178, 3) := by decide +kernel
theorem dX10_write_10 : decode cX10_write 10 = .ok (.aload_n 0, 1) := by decide +kernel
theorem dX10_write_11 : decode cX10_write 11 = .ok (.iload_n 1, 1) := by decide +kernel
theorem dX10_write_12 : decode cX10_write 12 = .ok (.ldc 204, 2) := by decide +kernel
theorem dX10_write_14 : decode cX10_write 14 = .ok (.iand, 1) := by decide +kernel
theorem dX10_write_15 : decode cX10_write 15 = .ok (.iload_n 2, 1) := by decide +kernel
theorem dX10_write_16 : decode cX10_write 16 = .ok (.sipush 255, 3) := by decide +kernel
theorem dX10_write_19 : decode cX10_write 19 = .ok (.iand, 1) := by decide +kernel
theorem dX10_write_20 : decode cX10_write 20 = .ok (.invokevirtual 272, 3) := by decide +kernel
theorem dX10_write_23 : decode cX10_write 23 = .ok (.aload_n 0, 1) := by decide +kernel
theorem dX10_write_24 : decode cX10_write 24 = .ok (.aload_n 0, 1) := by decide +kernel
theorem dX10_write_25 : decode cX10_write 25 = .ok (.getfield 178, 3) := by decide +kernel
theorem dX10_write_28 : decode cX10_write 28 = .ok (.invokevirtual 342, 3) := by decide +kernel
theorem dX10_write_31 : decode cX10_write 31 = .ok (.return_, 1) := by decide +kernel
theorem dX10_pad_0 : decode cX10_pad 0 = .ok (.aload_n 0, 1) := by decide +kernel
theorem dX10_pad_1 : decode cX10_pad 1 = .ok (.iload_n 1, 1) := by decide +kernel
theorem dX10_pad_2 : decode cX10_pad 2 = .ok (.ifCond .eq 8, 3) := by decide +kernel
theorem dX10_pad_5 : decode cX10_pad 5 = .ok (.iload_n 1, 1) := by decide +kernel
theorem dX10_pad_6 : decode cX10_pad 6 = .ok (.iconst 1, 1) := by decide +kernel
theorem dX10_pad_7 : decode cX10_pad 7 = .ok (.if_icmp .ne 7, 3) := by decide +kernel
theorem dX10_pad_10 : decode cX10_pad 10 = .ok (.iconst 0, 1) := by decide +kernel
theorem dX10_pad_11 : decode cX10_pad 11 = .ok (.goto 4, 3) := by decide +kernel
theorem dX10_pad_14 : decode cX10_pad 14 = .ok (.iconst 1, 1) := by decide +kernel
theorem dX10_pad_15 : decode cX10_pad 15 = .ok (.putfield 61, 3) := by decide +kernel
theorem dX10_pad_18 : decode cX10_pad 18 = .ok (.aload_n 0, 1) := by decide +kernel
theorem dX10_pad_19 : decode cX10_pad 19 = .ok (.getfield 61, 3) := by decide +kernel
theorem dX10_pad_22 : decode cX10_pad 22 = .ok (.ifCond .ne 14, 3) := by decide +kernel
theorem dX10_pad_25 : decode cX10_pad 25 = .ok (.aload_n 0, 1) := by decide +kernel
theorem dX10_pad_26 : decode cX10_pad 26 = .ok (.getfield 45, 3) := by decide +kernel
theorem dX10_pad_29 : decode cX10_pad 29 = .ok (.iload_n 1, 1) := by decide +kernel
theorem dX10_pad_30 : decode cX10_pad 30 = .ok (.iload_n 2, 1) := by decide +kernel
theorem dX10_pad_31 : decode cX10_pad 31 = .ok (.sipush 255, 3) := by decide +kernel
theorem dX10_pad_34 : decode cX10_pad 34 = .ok (.iand, 1) := by decide +kernel
theorem dX10_pad_35 : decode cX10_pad 35 = .ok (.iastore, 1) := by decide +kernel
theorem dX10_pad_36 : decode cX10_pad 36 = .ok (.return_, 1) := by decide +kernel
set_option maxRecDepth 20000 in
theorem ggX10_core_X10_fail : GoodIn wsX10_core wsX10_fail := goodIn_r _ [17, 1, 18, 19, 20, 21, 22, 23, 24, 25, 26, 27, 28, 29, 30, 31, 32, 33, 34, 35, 36, 37, 38, 39, 40, 41, 42, 43, 44, 45, 46, 47, 48, 49, 50, 51, 52, 53, 54, 55, 56, 57, 58, 59, 60, 61, 62, 63, 64, 65, 66, 67, 68, 69, 70] (by decide +kernel) (by decide +kernel)
set_option maxRecDepth 20000 in
theorem gX10_core_X10_fail : GoodIn wsX10_core (wsV RX10 351 RX10 yX10_fail wsX10_fail) := goodIn_app (goodIn_of _ (by decide +kernel)) ggX10_core_X10_fail
theorem dX10_core_0 : decode cX10_core 0 = .ok (.aload_n 0, 1) := by decide +kernel
theorem dX10_core_1 : decode cX10_core 1 = .ok (.iconst 0, 1) := by decide +kernel
theorem dX10_core_2 : decode cX10_core 2 = .ok (.putfield 61, 3) := by decide +kernel
theorem dX10_core_5 : decode cX10_core 5 = .ok (.iload_n 1, 1) := by decide +kernel
theorem dX10_core_6 : decode cX10_core 6 = .ok (.tableswitch 115 0 8 #[50, 55, 60, 65, 70, 75, 80, 90, 103], 50) := by decide +kernel
theorem dX10_core_56 : decode cX10_core 56 = .ok (.aload_n 0, 1) := by decide +kernel
theorem dX10_core_57 : decode cX10_core 57 = .ok (.getfield 266, 3) := by decide +kernel
theorem dX10_core_60 : decode cX10_core 60 = .ok (.ireturn, 1) := by decide +kernel
theorem dX10_core_61 : decode cX10_core 61 = .ok (.aload_n 0, 1) := by decide +kernel
theorem dX10_core_62 : decode cX10_core 62 = .ok (.getfield 244, 3) := by decide +kernel
theorem dX10_core_65 : decode cX10_core 65 = .ok (.ireturn, 1) := by decide +kernel
theorem dX10_core_66 : decode cX10_core 66 = .ok (.aload_n 0, 1) := by decide +kernel
theorem dX10_core_67 : decode cX10_core 67 = .ok (.getfield 247, 3) := by decide +kernel
theorem dX10_core_70 : decode cX10_core 70 = .ok (.ireturn, 1) := by decide +kernel
theorem dX10_core_71 : decode cX10_core 71 = .ok (.aload_n 0, 1) := by decide +kernel
theorem dX10_core_72 : decode cX10_core 72 = .ok (.getfield 225, 3) := by decide +kernel
theorem dX10_core_75 : decode cX10_core 75 = .ok (.ireturn, 1) := by decide +kernel
theorem dX10_core_76 : decode cX10_core 76 = .ok (.aload_n 0, 1) := by decide +kernel
theorem dX10_core_77 : decode cX10_core 77 = .ok (.getfield 22, 3) := by decide +kernel
theorem dX10_core_80 : decode cX10_core 80 = .ok (.ireturn, 1) := by decide +kernel
theorem dX10_core_81 : decode cX10_core 81 = .ok (.aload_n 0, 1) := by decide +kernel
theorem dX10_core_82 : decode cX10_core 82 = .ok (.getfield 218, 3) := by decide +kernel
theorem dX10_core_85 : decode cX10_core 85 = .ok (.ireturn, 1) := by decide +kernel
theorem dX10_core_86 : decode cX10_core 86 = .ok (.aload_n 0, 1) := by decide +kernel
theorem dX10_core_87 : decode cX10_core 87 = .ok (.getfield 181, 3) := by decide +kernel
theorem dX10_core_90 : decode cX10_core 90 = .ok (.ldc2_w 349, 3) := by decide +kernel
theorem dX10_core_93 : decode cX10_core 93 = .ok (.land, 1) := by decide +kernel
theorem dX10_core_94 : decode cX10_core 94 = .ok (.l2i, 1) := by decide +kernel
theorem dX10_core_95 : decode cX10_core 95 = .ok (.ireturn, 1) := by decide +kernel
theorem dX10_core_96 : decode cX10_core 96 = .ok (.aload_n 0, 1) := by decide +kernel
theorem dX10_core_97 : decode cX10_core 97 = .ok (.getfield 128, 3) := by decide +kernel
theorem dX10_core_100 : decode cX10_core 100 = .ok (.ifCond .eq 7, 3) := by decide +kernel
theorem dX10_core_103 : decode cX10_core 103 = .ok (.iconst 1, 1) := by decide +kernel
theorem dX10_core_104 : decode cX10_core 104 = .ok (.goto 4, 3) := by decide +kernel
theorem dX10_core_107 : decode cX10_core 107 = .ok (.iconst 0, 1) := by decide +kernel
theorem dX10_core_108 : decode cX10_core 108 = .ok (.ireturn, 1) := by decide +kernel
theorem dX10_core_109 : decode cX10_core 109 = .ok (.aload_n 0, 1) := by decide +kernel
theorem dX10_core_110 : decode cX10_core 110 = .ok (.getfield 163, 3) := by decide +kernel
theorem dX10_core_113 : decode cX10_core 113 = .ok (.iconst 2, 1) := by decide +kernel
theorem dX10_core_114 : decode cX10_core 114 = .ok (.aload_n 0, 1) := by decide +kernel
theorem dX10_core_115 : decode cX10_core 115 = .ok (.getfield 91, 3) := by decide +kernel
theorem dX10_core_118 : decode cX10_core 118 = .ok (.imul, 1) := by decide +kernel
theorem dX10_core_119 : decode cX10_core 119 = .ok (.iadd, 1) := by decide +kernel
theorem dX10_core_120 : decode cX10_core 120 = .ok (.ireturn, 1) := by decide +kernel
theorem dX10_core_121 : decode cX10_core 121 = .ok (.aload_n 0, 1) := by decide +kernel
theorem dX10_core_122 : decode cX10_core 122 = .ok (.invokevirtual 351, 3) := by decide +kernel
theorem dX10_core_125 : decode cX10_core 125 = .ok (.ireturn, 1) := by decide +kernel
set_option maxRecDepth 20000 in
theorem ggX10_picture_X10_fail : GoodIn wsX10_picture wsX10_fail := goodIn_r _ [17, 1, 18, 19, 20, 21, 22, 23, 24, 25, 26, 27, 28, 29, 30, 31, 32, 33, 34, 35, 36, 37, 38, 39, 40, 41, 42, 43, 44, 45, 46, 47, 48, 49, 50, 51, 52, 53, 54, 55, 56, 57, 58, 59, 60, 61, 62, 63, 64, 65, 66, 67, 68, 69, 70] (by decide +kernel) (by decide +kernel)
set_option maxRecDepth 20000 in
theorem gX10_picture_X10_fail : GoodIn wsX10_picture (wsV RX10 351 RX10 yX10_fail wsX10_fail) := goodIn_app (goodIn_of _ (by decide +kernel)) ggX10_picture_X10_fail
theorem dX10_picture_0 : decode cX10_picture 0 = .ok (.aload_n 0, 1) := by decide +kernel
theorem dX10_picture_1 : decode cX10_picture 1 = .ok (.iconst 0, 1) := by decide +kernel
theorem dX10_picture_2 : decode cX10_picture 2 = .ok (.putfield 61, 3) := by decide +kernel
theorem dX10_picture_5 : decode cX10_picture 5 = .ok (.iload_n 1, 1) := by decide +kernel
theorem dX10_picture_6 : decode cX10_picture 6 = .ok (.tableswitch 113 0 10 #[58, 63, 68, 73, 78, 83, 88, 93, 98, 103, 108], 58) := by decide +kernel
theorem dX10_picture_64 : decode cX10_picture 64 = .ok (.aload_n 0, 1) := by decide +kernel
theorem dX10_picture_65 : decode cX10_picture 65 = .ok (.getfield 104, 3) := by decide +kernel
theorem dX10_picture_68 : decode cX10_picture 68 = .ok (.ireturn, 1) := by decide +kernel
theorem dX10_picture_69 : decode cX10_picture 69 = .ok (.aload_n 0, 1) := by decide +kernel
theorem dX10_picture_70 : decode cX10_picture 70 = .ok (.getfield 131, 3) := by decide +kernel
theorem dX10_picture_73 : decode cX10_picture 73 = .ok (.ireturn, 1) := by decide +kernel
theorem dX10_picture_74 : decode cX10_picture 74 = .ok (.aload_n 0, 1) := by decide +kernel
theorem dX10_picture_75 : decode cX10_picture 75 = .ok (.getfield 137, 3) := by decide +kernel
theorem dX10_picture_78 : decode cX10_picture 78 = .ok (.ireturn, 1) := by decide +kernel
theorem dX10_picture_79 : decode cX10_picture 79 = .ok (.aload_n 0, 1) := by decide +kernel
theorem dX10_picture_80 : decode cX10_picture 80 = .ok (.getfield 113, 3) := by decide +kernel
theorem dX10_picture_83 : decode cX10_picture 83 = .ok (.ireturn, 1) := by decide +kernel
theorem dX10_picture_84 : decode cX10_picture 84 = .ok (.aload_n 0, 1) := by decide +kernel
theorem dX10_picture_85 : decode cX10_picture 85 = .ok (.getfield 107, 3) := by decide +kernel
theorem dX10_picture_88 : decode cX10_picture 88 = .ok (.ireturn, 1) := by decide +kernel
theorem dX10_picture_89 : decode cX10_picture 89 = .ok (.aload_n 0, 1) := by decide +kernel
theorem dX10_picture_90 : decode cX10_picture 90 = .ok (.getfield 134, 3) := by decide +kernel
theorem dX10_picture_93 : decode cX10_picture 93 = .ok (.ireturn, 1) := by decide +kernel
theorem dX10_picture_94 : decode cX10_picture 94 = .ok (.aload_n 0, 1) := by decide +kernel
theorem dX10_picture_95 : decode cX10_picture 95 = .ok (.getfield 110, 3) := by decide +kernel
theorem dX10_picture_98 : decode cX10_picture 98 = .ok (.ireturn, 1) := by decide +kernel
theorem dX10_picture_99 : decode cX10_picture 99 = .ok (.aload_n 0, 1) := by decide +kernel
theorem dX10_picture_100 : decode cX10_picture 100 = .ok (.getfield 116, 3) := by decide +kernel
theorem dX10_picture_103 : decode cX10_picture 103 = .ok (.ireturn, 1) := by decide +kernel
theorem dX10_picture_104 : decode cX10_picture 104 = .ok (.aload_n 0, 1) := by decide +kernel
theorem dX10_picture_105 : decode cX10_picture 105 = .ok (.getfield 208, 3) := by decide +kernel
theorem dX10_picture_108 : decode cX10_picture 108 = .ok (.ireturn, 1) := by decide +kernel
theorem dX10_picture_109 : decode cX10_picture 109 = .ok (.aload_n 0, 1) := by decide +kernel
theorem dX10_picture_110 : decode cX10_picture 110 = .ok (.getfield 205, 3) := by decide +kernel
theorem dX10_picture_113 : decode cX10_picture 113 = .ok (.ireturn, 1) := by decide +kernel
theorem dX10_picture_114 : decode cX10_picture 114 = .ok (.aload_n 0, 1) := by decide +kernel
theorem dX10_picture_115 : decode cX10_picture 115 = .ok (.getfield 122, 3) := by decide +kernel
theorem dX10_picture_118 : decode cX10_picture 118 = .ok (.ireturn, 1) := by decide +kernel
theorem dX10_picture_119 : decode cX10_picture 119 = .ok (.aload_n 0, 1) := by decide +kernel
theorem dX10_picture_120 : decode cX10_picture 120 = .ok (.invokevirtual 351, 3) := by decide +kernel
theorem dX10_picture_123 : decode cX10_picture 123 = .ok (.ireturn, 1) := by decide +kernel
set_option maxRecDepth 20000 in
theorem ggX10_memory_X10_seen : GoodIn wsX10_memory wsX10_seen := goodIn_r _ [6, 7, 8, 9, 10, 11, 12, 5, 13, 14, 15, 16, 17, 18, 19, 20, 21, 22, 23, 24, 25, 26, 27, 28, 29, 30, 31, 32, 33, 34, 35, 36, 37, 38, 39, 40, 41, 42, 43, 44, 45, 46, 47, 48, 49, 50, 51, 52, 53, 54, 55, 56, 57, 58, 59, 60, 61, 62, 63, 64, 65, 66, 67, 68, 69, 70, 71, 72, 73, 74, 75, 76, 77, 78, 79, 80] (by decide +kernel) (by decide +kernel)
set_option maxRecDepth 20000 in
theorem gX10_memory_X10_seen : GoodIn wsX10_memory (wsV RX10 119 RX10 yX10_seen wsX10_seen) := goodIn_app (goodIn_of _ (by decide +kernel)) ggX10_memory_X10_seen
theorem dX10_memory_0 : decode cX10_memory 0 = .ok (.aload_n 0, 1) := by decide +kernel
theorem dX10_memory_1 : decode cX10_memory 1 = .ok (.iconst 0, 1) := by decide +kernel
theorem dX10_memory_2 : decode cX10_memory 2 = .ok (.putfield 61, 3) := by decide +kernel
theorem dX10_memory_5 : decode cX10_memory 5 = .ok (.aload_n 0, 1) := by decide +kernel
theorem dX10_memory_6 : decode cX10_memory 6 = .ok (.iload_n 1, 1) := by decide +kernel
theorem dX10_memory_7 : decode cX10_memory 7 = .ok (.invokevirtual 119, 3) := by decide +kernel
theorem dX10_memory_10 : decode cX10_memory 10 = .ok (.ireturn, 1) := by decide +kernel
set_option maxRecDepth 20000 in
theorem ggX10_oam_X10_fail : GoodIn wsX10_oam wsX10_fail := goodIn_r _ [7, 1, 8, 9, 10, 11, 12, 13, 14, 15, 16, 17, 18, 19, 20, 21, 22, 23, 24, 25, 26, 27, 28, 29, 30, 31, 32, 33, 34, 35, 36, 37, 38, 39, 40, 41, 42, 43, 44, 45, 46, 47, 48, 49, 50, 51, 52, 53, 54, 55, 56, 57, 58, 59, 60] (by decide +kernel) (by decide +kernel)
set_option maxRecDepth 20000 in
theorem gX10_oam_X10_fail : GoodIn wsX10_oam (wsV RX10 351 RX10 yX10_fail wsX10_fail) := goodIn_app (goodIn_of _ (by decide +kernel)) ggX10_oam_X10_fail
theorem dX10_oam_0 : decode cX10_oam 0 = .ok (.aload_n 0, 1) := by decide +kernel
theorem dX10_oam_1 : decode cX10_oam 1 = .ok (.iconst 0, 1) := by decide +kernel
theorem dX10_oam_2 : decode cX10_oam 2 = .ok (.putfield 61, 3) := by decide +kernel
theorem dX10_oam_5 : decode cX10_oam 5 = .ok (.iload_n 1, 1) := by decide +kernel
theorem dX10_oam_6 : decode cX10_oam 6 = .ok (.ifCond .lt 19, 3) := by decide +kernel
theorem dX10_oam_9 : decode cX10_oam 9 = .ok (.iload_n 1, 1) := by decide +kernel
theorem dX10_oam_10 : decode cX10_oam 10 = .ok (.sipush 255, 3) := by decide +kernel
theorem dX10_oam_13 : decode cX10_oam 13 = .ok (.if_icmp .gt 12, 3) := by decide +kernel
theorem dX10_oam_16 : decode cX10_oam 16 = .ok (.aload_n 0, 1) := by decide +kernel
theorem dX10_oam_17 : decode cX10_oam 17 = .ok (.getfield 26, 3) := by decide +kernel
theorem dX10_oam_20 : decode cX10_oam 20 = .ok (.iload_n 1, 1) := by decide +kernel
theorem dX10_oam_21 : decode cX10_oam 21 = .ok (.iaload, 1) := by decide +kernel
theorem dX10_oam_22 : decode cX10_oam 22 = .ok (.goto 7, 3) := by decide +kernel
theorem dX10_oam_25 : decode cX10_oam 25 = .ok (.aload_n 0, 1) := by decide +kernel
theorem dX10_oam_26 : decode cX10_oam 26 = .ok (.invokevirtual 351, 3) := by decide +kernel
theorem dX10_oam_29 : decode cX10_oam 29 = .ok (.ireturn, 1) := by decide +kernel
set_option maxRecDepth 20000 in
theorem ggX10_cartridge_X10_fail : GoodIn wsX10_cartridge wsX10_fail := goodIn_r _ [8, 1, 24, 25, 26, 27, 28, 29, 30, 31, 32, 33, 34, 35, 36, 37, 38, 39, 40, 41, 42, 43, 44, 45, 46, 47, 48, 49, 50, 51, 52, 53, 54, 55, 56, 57, 58, 59, 60, 61, 62, 63, 64, 65, 66, 67, 68, 69, 70, 71, 72, 73, 74, 75, 76] (by decide +kernel) (by decide +kernel)
set_option maxRecDepth 20000 in
theorem gX10_cartridge_X10_fail : GoodIn wsX10_cartridge (wsV RX10 351 RX10 yX10_fail wsX10_fail) := goodIn_app (goodIn_of _ (by decide +kernel)) ggX10_cartridge_X10_fail
set_option maxRecDepth 20000 in
theorem ggX10_cartridge_X10_prgBank : GoodIn wsX10_cartridge wsX10_prgBank := goodIn_r _ [12, 13, 14, 15, 16, 17, 24, 25, 26, 27, 28, 29, 30, 31, 32, 33, 34, 35, 36, 37, 38, 39, 40, 41, 42, 43, 44, 45, 46, 47, 48, 49, 50, 51, 52, 53, 54, 55, 56, 57, 58, 59, 60, 61, 62, 63, 64, 65, 66, 67, 68, 69, 70, 71, 72, 73, 74, 75, 76] (by decide +kernel) (by decide +kernel)
set_option maxRecDepth 20000 in
theorem gX10_cartridge_X10_prgBank : GoodIn wsX10_cartridge (wsV RX10 192 RX10 yX10_prgBank wsX10_prgBank) := goodIn_app (goodIn_of _ (by decide +kernel)) ggX10_cartridge_X10_prgBank
set_option maxRecDepth 20000 in
theorem ggX10_cartridge_X10_chrBank : GoodIn wsX10_cartridge wsX10_chrBank := goodIn_r _ [21, 14, 17, 22, 23, 15, 16, 24, 25, 26, 27, 28, 29, 30, 31, 32, 33, 34, 35, 36, 37, 38, 39, 40, 41, 42, 43, 44, 45, 46, 47, 48, 49, 50, 51, 52, 53, 54, 55, 56, 57, 58, 59, 60, 61, 62, 63, 64, 65, 66, 67, 68, 69, 70, 71, 72, 73, 74, 75, 76] (by decide +kernel) (by decide +kernel)
set_option maxRecDepth 20000 in
theorem gX10_cartridge_X10_chrBank : GoodIn wsX10_cartridge (wsV RX10 94 RX10 yX10_chrBank wsX10_chrBank) := goodIn_app (goodIn_of _ (by decide +kernel)) ggX10_cartridge_X10_chrBank
theorem dX10_cartridge_0 : decode cX10_cartridge 0 = .ok (.aload_n 0, 1) := by decide +kernel
theorem dX10_cartridge_1 : decode cX10_cartridge 1 = .ok (.iconst 0, 1) := by decide +kernel
theorem dX10_cartridge_2 : decode cX10_cartridge 2 = .ok (.putfield 61, 3) := by decide +kernel
theorem dX10_cartridge_5 : decode cX10_cartridge 5 = .ok (.iload_n 1, 1) := by decide +kernel
theorem dX10_cartridge_6 : decode cX10_cartridge 6 = .ok (.ifCond .lt 9, 3) := by decide +kernel
theorem dX10_cartridge_9 : decode cX10_cartridge 9 = .ok (.iload_n 1, 1) := by decide +kernel
theorem dX10_cartridge_10 : decode cX10_cartridge 10 = .ok (.bipush 13, 2) := by decide +kernel
theorem dX10_cartridge_12 : decode cX10_cartridge 12 = .ok (.if_icmp .le 8, 3) := by decide +kernel
theorem dX10_cartridge_15 : decode cX10_cartridge 15 = .ok (.aload_n 0, 1) := by decide +kernel
theorem dX10_cartridge_16 : decode cX10_cartridge 16 = .ok (.invokevirtual 351, 3) := by decide +kernel
theorem dX10_cartridge_19 : decode cX10_cartridge 19 = .ok (.ireturn, 1) := by decide +kernel
theorem dX10_cartridge_20 : decode cX10_cartridge 20 = .ok (.iload_n 1, 1) := by decide +kernel
theorem dX10_cartridge_21 : decode cX10_cartridge 21 = .ok (.iconst 4, 1) := by decide +kernel
theorem dX10_cartridge_22 : decode cX10_cartridge 22 = .ok (.if_icmp .ge 9, 3) := by decide +kernel
theorem dX10_cartridge_25 : decode cX10_cartridge 25 = .ok (.aload_n 0, 1) := by decide +kernel
theorem dX10_cartridge_26 : decode cX10_cartridge 26 = .ok (.iload_n 1, 1) := by decide +kernel
theorem dX10_cartridge_27 : decode cX10_cartridge 27 = .ok (.invokevirtual 192, 3) := by decide +kernel
theorem dX10_cartridge_30 : decode cX10_cartridge 30 = .ok (.ireturn, 1) := by decide +kernel
theorem dX10_cartridge_31 : decode cX10_cartridge 31 = .ok (.iload_n 1, 1) := by decide +kernel
theorem dX10_cartridge_32 : decode cX10_cartridge 32 = .ok (.bipush 12, 2) := by decide +kernel
theorem dX10_cartridge_34 : decode cX10_cartridge 34 = .ok (.if_icmp .ge 13, 3) := by decide +kernel
theorem dX10_cartridge_37 : decode cX10_cartridge 37 = .ok (.aload_n 0, 1) := by decide +kernel
theorem dX10_cartridge_38 : decode cX10_cartridge 38 = .ok (.iload_n 1, 1) := by decide +kernel
theorem dX10_cartridge_39 : decode cX10_cartridge 39 = .ok (.iconst 4, 1) := by decide +kernel
theorem dX10_cartridge_40 : decode cX10_cartridge 40 = .ok (.isub, 1) := by decide +kernel
theorem dX10_cartridge_41 : decode cX10_cartridge 41 = .ok (.invokevirtual 94, 3) := by decide +kernel
theorem dX10_cartridge_44 : decode cX10_cartridge 44 = .ok (.goto 20, 3) := by decide +kernel
theorem dX10_cartridge_47 : decode cX10_cartridge 47 = .ok (.iload_n 1, 1) := by decide +kernel
theorem dX10_cartridge_48 : decode cX10_cartridge 48 = .ok (.bipush 12, 2) := by decide +kernel
theorem dX10_cartridge_50 : decode cX10_cartridge 50 = .ok (.if_icmp .ne 10, 3) := by decide +kernel
theorem dX10_cartridge_53 : decode cX10_cartridge 53 = .ok (.aload_n 0, 1) := by decide +kernel
theorem dX10_cartridge_54 : decode cX10_cartridge 54 = .ok (.getfield 55, 3) := by decide +kernel
theorem dX10_cartridge_57 : decode cX10_cartridge 57 = .ok (.goto 7, 3) := by decide +kernel
theorem dX10_cartridge_60 : decode cX10_cartridge 60 = .ok (.aload_n 0, 1) := by decide +kernel
theorem dX10_cartridge_61 : decode cX10_cartridge 61 = .ok (.getfield 82, 3) := by decide +kernel
theorem dX10_cartridge_64 : decode cX10_cartridge 64 = .ok (.ireturn, 1) := by decide +kernel
set_option maxRecDepth 20000 in
theorem ggX10_sound_X10_fail : GoodIn wsX10_sound wsX10_fail := goodIn_r _ [8, 1, 9, 10, 11, 12, 13, 14, 15, 16, 17, 18, 19, 20, 21, 22, 23, 24, 25, 26, 27, 28, 29, 30, 31, 32, 33, 34, 35, 36, 37, 38, 39, 40, 41, 42, 43, 44, 45, 46, 47, 48, 49, 50, 51, 52, 53, 54, 55, 56, 57, 58, 59, 60, 61] (by decide +kernel) (by decide +kernel)
set_option maxRecDepth 20000 in
theorem gX10_sound_X10_fail : GoodIn wsX10_sound (wsV RX10 351 RX10 yX10_fail wsX10_fail) := goodIn_app (goodIn_of _ (by decide +kernel)) ggX10_sound_X10_fail
theorem dX10_sound_0 : decode cX10_sound 0 = .ok (.aload_n 0, 1) := by decide +kernel
theorem dX10_sound_1 : decode cX10_sound 1 = .ok (.iconst 0, 1) := by decide +kernel
theorem dX10_sound_2 : decode cX10_sound 2 = .ok (.putfield 61, 3) := by decide +kernel
theorem dX10_sound_5 : decode cX10_sound 5 = .ok (.iload_n 1, 1) := by decide +kernel
theorem dX10_sound_6 : decode cX10_sound 6 = .ok (.ifCond .lt 8, 3) := by decide +kernel
theorem dX10_sound_9 : decode cX10_sound 9 = .ok (.iload_n 1, 1) := by decide +kernel
theorem dX10_sound_10 : decode cX10_sound 10 = .ok (.iconst 4, 1) := by decide +kernel
theorem dX10_sound_11 : decode cX10_sound 11 = .ok (.if_icmp .le 8, 3) := by decide +kernel
theorem dX10_sound_14 : decode cX10_sound 14 = .ok (.aload_n 0, 1) := by decide +kernel
theorem dX10_sound_15 : decode cX10_sound 15 = .ok (.invokevirtual 351, 3) := by decide +kernel
theorem dX10_sound_18 : decode cX10_sound 18 = .ok (.ireturn, 1) := by decide +kernel
theorem dX10_sound_19 : decode cX10_sound 19 = .ok (.iload_n 1, 1) := by decide +kernel
theorem dX10_sound_20 : decode cX10_sound 20 = .ok (.iconst 4, 1) := by decide +kernel
theorem dX10_sound_21 : decode cX10_sound 21 = .ok (.if_icmp .ge 12, 3) := by decide +kernel
theorem dX10_sound_24 : decode cX10_sound 24 = .ok (.aload_n 0, 1) := by decide +kernel
theorem dX10_sound_25 : decode cX10_sound 25 = .ok (.getfield 38, 3) := by decide +kernel
theorem dX10_sound_28 : decode cX10_sound 28 = .ok (.iload_n 1, 1) := by decide +kernel
theorem dX10_sound_29 : decode cX10_sound 29 = .ok (.iaload, 1) := by decide +kernel
theorem dX10_sound_30 : decode cX10_sound 30 = .ok (.goto 7, 3) := by decide +kernel
theorem dX10_sound_33 : decode cX10_sound 33 = .ok (.aload_n 0, 1) := by decide +kernel
theorem dX10_sound_34 : decode cX10_sound 34 = .ok (.getfield 166, 3) := by decide +kernel
theorem dX10_sound_37 : decode cX10_sound 37 = .ok (.ireturn, 1) := by decide +kernel
