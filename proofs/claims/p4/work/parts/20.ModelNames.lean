abbrev b_Model_init : ByteArray := prog_8_method_1_code
abbrev y_Model_init : MethodName := { cls := "HazardTablesModel", name := "<init>", desc := "()V" }
abbrev w_Model_init : List Cond := .code y_Model_init b_Model_init 2 none :: WA
theorem d_Model_init_0 : decode b_Model_init 0 = .ok (.aload_n 0, 1) := by decide +kernel
theorem d_Model_init_1 : decode b_Model_init 1 = .ok (.invokespecial 1, 3) := by decide +kernel
theorem d_Model_init_4 : decode b_Model_init 4 = .ok (.aload_n 0, 1) := by decide +kernel
theorem d_Model_init_5 : decode b_Model_init 5 = .ok (.sipush 400, 3) := by decide +kernel
theorem d_Model_init_8 : decode b_Model_init 8 = .ok (.newarray .int, 2) := by decide +kernel
theorem d_Model_init_10 : decode b_Model_init 10 = .ok (.putfield 7, 3) := by decide +kernel
theorem d_Model_init_13 : decode b_Model_init 13 = .ok (.aload_n 0, 1) := by decide +kernel
theorem d_Model_init_14 : decode b_Model_init 14 = .ok (.iconst (-1), 1) := by decide +kernel
theorem d_Model_init_15 : decode b_Model_init 15 = .ok (.putfield 13, 3) := by decide +kernel
theorem d_Model_init_18 : decode b_Model_init 18 = .ok (.aload_n 0, 1) := by decide +kernel
theorem d_Model_init_19 : decode b_Model_init 19 = .ok (.sipush 559, 3) := by decide +kernel
theorem d_Model_init_22 : decode b_Model_init 22 = .ok (.newarray .int, 2) := by decide +kernel
theorem d_Model_init_24 : decode b_Model_init 24 = .ok (.putfield 17, 3) := by decide +kernel
theorem d_Model_init_27 : decode b_Model_init 27 = .ok (.aload_n 0, 1) := by decide +kernel
theorem d_Model_init_28 : decode b_Model_init 28 = .ok (.sipush 559, 3) := by decide +kernel
theorem d_Model_init_31 : decode b_Model_init 31 = .ok (.newarray .int, 2) := by decide +kernel
theorem d_Model_init_33 : decode b_Model_init 33 = .ok (.putfield 20, 3) := by decide +kernel
theorem d_Model_init_36 : decode b_Model_init 36 = .ok (.aload_n 0, 1) := by decide +kernel
theorem d_Model_init_37 : decode b_Model_init 37 = .ok (.bipush 8, 2) := by decide +kernel
theorem d_Model_init_39 : decode b_Model_init 39 = .ok (.newarray .int, 2) := by decide +kernel
theorem d_Model_init_41 : decode b_Model_init 41 = .ok (.putfield 23, 3) := by decide +kernel
theorem d_Model_init_44 : decode b_Model_init 44 = .ok (.aload_n 0, 1) := by decide +kernel
theorem d_Model_init_45 : decode b_Model_init 45 = .ok (.bipush 8, 2) := by decide +kernel
theorem d_Model_init_47 : decode b_Model_init 47 = .ok (.newarray .int, 2) := by decide +kernel
theorem d_Model_init_49 : decode b_Model_init 49 = .ok (.putfield 26, 3) := by decide +kernel
theorem d_Model_init_52 : decode b_Model_init 52 = .ok (.aload_n 0, 1) := by decide +kernel
theorem d_Model_init_53 : decode b_Model_init 53 = .ok (.bipush 8, 2) := by decide +kernel
theorem d_Model_init_55 : decode b_Model_init 55 = .ok (.newarray .int, 2) := by decide +kernel
theorem d_Model_init_57 : decode b_Model_init 57 = .ok (.putfield 29, 3) := by decide +kernel
theorem d_Model_init_60 : decode b_Model_init 60 = .ok (.aload_n 0, 1) := by decide +kernel
theorem d_Model_init_61 : decode b_Model_init 61 = .ok (.iconst 1, 1) := by decide +kernel
theorem d_Model_init_62 : decode b_Model_init 62 = .ok (.putfield 32, 3) := by decide +kernel
theorem d_Model_init_65 : decode b_Model_init 65 = .ok (.aload_n 0, 1) := by decide +kernel
theorem d_Model_init_66 : decode b_Model_init 66 = .ok (.iconst 1, 1) := by decide +kernel
theorem d_Model_init_67 : decode b_Model_init 67 = .ok (.putfield 35, 3) := by decide +kernel
theorem d_Model_init_70 : decode b_Model_init 70 = .ok (.aload_n 0, 1) := by decide +kernel
theorem d_Model_init_71 : decode b_Model_init 71 = .ok (.bipush 40, 2) := by decide +kernel
theorem d_Model_init_73 : decode b_Model_init 73 = .ok (.newarray .int, 2) := by decide +kernel
theorem d_Model_init_75 : decode b_Model_init 75 = .ok (.putfield 39, 3) := by decide +kernel
theorem d_Model_init_78 : decode b_Model_init 78 = .ok (.aload_n 0, 1) := by decide +kernel
theorem d_Model_init_79 : decode b_Model_init 79 = .ok (.bipush 40, 2) := by decide +kernel
theorem d_Model_init_81 : decode b_Model_init 81 = .ok (.newarray .int, 2) := by decide +kernel
theorem d_Model_init_83 : decode b_Model_init 83 = .ok (.putfield 42, 3) := by decide +kernel
theorem d_Model_init_86 : decode b_Model_init 86 = .ok (.aload_n 0, 1) := by decide +kernel
theorem d_Model_init_87 : decode b_Model_init 87 = .ok (.bipush 40, 2) := by decide +kernel
theorem d_Model_init_89 : decode b_Model_init 89 = .ok (.newarray .boolean, 2) := by decide +kernel
theorem d_Model_init_91 : decode b_Model_init 91 = .ok (.putfield 45, 3) := by decide +kernel
theorem d_Model_init_94 : decode b_Model_init 94 = .ok (.aload_n 0, 1) := by decide +kernel
theorem d_Model_init_95 : decode b_Model_init 95 = .ok (.bipush 40, 2) := by decide +kernel
theorem d_Model_init_97 : decode b_Model_init 97 = .ok (.newarray .int, 2) := by decide +kernel
theorem d_Model_init_99 : decode b_Model_init 99 = .ok (.putfield 49, 3) := by decide +kernel
theorem d_Model_init_102 : decode b_Model_init 102 = .ok (.aload_n 0, 1) := by decide +kernel
theorem d_Model_init_103 : decode b_Model_init 103 = .ok (.iconst 1, 1) := by decide +kernel
theorem d_Model_init_104 : decode b_Model_init 104 = .ok (.putfield 52, 3) := by decide +kernel
theorem d_Model_init_107 : decode b_Model_init 107 = .ok (.aload_n 0, 1) := by decide +kernel
theorem d_Model_init_108 : decode b_Model_init 108 = .ok (.iconst 5, 1) := by decide +kernel
theorem d_Model_init_109 : decode b_Model_init 109 = .ok (.newarray .int, 2) := by decide +kernel
theorem d_Model_init_111 : decode b_Model_init 111 = .ok (.putfield 55, 3) := by decide +kernel
theorem d_Model_init_114 : decode b_Model_init 114 = .ok (.aload_n 0, 1) := by decide +kernel
theorem d_Model_init_115 : decode b_Model_init 115 = .ok (.bipush 8, 2) := by decide +kernel
theorem d_Model_init_117 : decode b_Model_init 117 = .ok (.newarray .int, 2) := by decide +kernel
theorem d_Model_init_119 : decode b_Model_init 119 = .ok (.putfield 58, 3) := by decide +kernel
theorem d_Model_init_122 : decode b_Model_init 122 = .ok (.aload_n 0, 1) := by decide +kernel
theorem d_Model_init_123 : decode b_Model_init 123 = .ok (.bipush 99, 2) := by decide +kernel
theorem d_Model_init_125 : decode b_Model_init 125 = .ok (.newarray .int, 2) := by decide +kernel
theorem d_Model_init_127 : decode b_Model_init 127 = .ok (.putfield 61, 3) := by decide +kernel
theorem d_Model_init_130 : decode b_Model_init 130 = .ok (.iconst 0, 1) := by decide +kernel
theorem d_Model_init_131 : decode b_Model_init 131 = .ok (.istore_n 1, 1) := by decide +kernel
theorem d_Model_init_132 : decode b_Model_init 132 = .ok (.iload_n 1, 1) := by decide +kernel
theorem d_Model_init_133 : decode b_Model_init 133 = .ok (.iconst 5, 1) := by decide +kernel
theorem d_Model_init_134 : decode b_Model_init 134 = .ok (.if_icmp .ge 18, 3) := by decide +kernel
theorem d_Model_init_137 : decode b_Model_init 137 = .ok (.aload_n 0, 1) := by decide +kernel
theorem d_Model_init_138 : decode b_Model_init 138 = .ok (.getfield 55, 3) := by decide +kernel
theorem d_Model_init_141 : decode b_Model_init 141 = .ok (.iload_n 1, 1) := by decide +kernel
theorem d_Model_init_142 : decode b_Model_init 142 = .ok (.sipush 1000, 3) := by decide +kernel
theorem d_Model_init_145 : decode b_Model_init 145 = .ok (.iastore, 1) := by decide +kernel
theorem d_Model_init_146 : decode b_Model_init 146 = .ok (.iinc 1 1, 3) := by decide +kernel
theorem d_Model_init_149 : decode b_Model_init 149 = .ok (.goto (-17), 3) := by decide +kernel
theorem d_Model_init_152 : decode b_Model_init 152 = .ok (.return_, 1) := by decide +kernel
abbrev b_Model_within : ByteArray := prog_8_method_3_code
abbrev y_Model_within : MethodName := { cls := "HazardTablesModel", name := "within", desc := "(III)Z" }
abbrev w_Model_within : List Cond := .code y_Model_within b_Model_within 3 (some .boolean) :: WA
theorem d_Model_within_0 : decode b_Model_within 0 = .ok (.iload_n 0, 1) := by decide +kernel
theorem d_Model_within_1 : decode b_Model_within 1 = .ok (.iload_n 1, 1) := by decide +kernel
theorem d_Model_within_2 : decode b_Model_within 2 = .ok (.if_icmp .lt 12, 3) := by decide +kernel
theorem d_Model_within_5 : decode b_Model_within 5 = .ok (.iload_n 0, 1) := by decide +kernel
theorem d_Model_within_6 : decode b_Model_within 6 = .ok (.iload_n 2, 1) := by decide +kernel
theorem d_Model_within_7 : decode b_Model_within 7 = .ok (.if_icmp .gt 7, 3) := by decide +kernel
theorem d_Model_within_10 : decode b_Model_within 10 = .ok (.iconst 1, 1) := by decide +kernel
theorem d_Model_within_11 : decode b_Model_within 11 = .ok (.goto 4, 3) := by decide +kernel
theorem d_Model_within_14 : decode b_Model_within 14 = .ok (.iconst 0, 1) := by decide +kernel
theorem d_Model_within_15 : decode b_Model_within 15 = .ok (.ireturn, 1) := by decide +kernel
abbrev b_Model_goes : ByteArray := prog_8_method_4_code
abbrev y_Model_goes : MethodName := { cls := "HazardTablesModel", name := "goes", desc := "(ZZZ)Z" }
abbrev w_Model_goes : List Cond := .code y_Model_goes b_Model_goes 4 (some .boolean) :: WA
theorem d_Model_goes_0 : decode b_Model_goes 0 = .ok (.aload_n 0, 1) := by decide +kernel
theorem d_Model_goes_1 : decode b_Model_goes 1 = .ok (.iload_n 1, 1) := by decide +kernel
theorem d_Model_goes_2 : decode b_Model_goes 2 = .ok (.ifCond .ne 7, 3) := by decide +kernel
theorem d_Model_goes_5 : decode b_Model_goes 5 = .ok (.iconst 1, 1) := by decide +kernel
theorem d_Model_goes_6 : decode b_Model_goes 6 = .ok (.goto 20, 3) := by decide +kernel
theorem d_Model_goes_9 : decode b_Model_goes 9 = .ok (.iload_n 2, 1) := by decide +kernel
theorem d_Model_goes_10 : decode b_Model_goes 10 = .ok (.ifCond .ne 7, 3) := by decide +kernel
theorem d_Model_goes_13 : decode b_Model_goes 13 = .ok (.iconst 2, 1) := by decide +kernel
theorem d_Model_goes_14 : decode b_Model_goes 14 = .ok (.goto 12, 3) := by decide +kernel
theorem d_Model_goes_17 : decode b_Model_goes 17 = .ok (.iload_n 3, 1) := by decide +kernel
theorem d_Model_goes_18 : decode b_Model_goes 18 = .ok (.ifCond .ne 7, 3) := by decide +kernel
theorem d_Model_goes_21 : decode b_Model_goes 21 = .ok (.iconst 3, 1) := by decide +kernel
theorem d_Model_goes_22 : decode b_Model_goes 22 = .ok (.goto 4, 3) := by decide +kernel
theorem d_Model_goes_25 : decode b_Model_goes 25 = .ok (.iconst 0, 1) := by decide +kernel
theorem d_Model_goes_26 : decode b_Model_goes 26 = .ok (.putfield 64, 3) := by decide +kernel
theorem d_Model_goes_29 : decode b_Model_goes 29 = .ok (.aload_n 0, 1) := by decide +kernel
theorem d_Model_goes_30 : decode b_Model_goes 30 = .ok (.getfield 64, 3) := by decide +kernel
theorem d_Model_goes_33 : decode b_Model_goes 33 = .ok (.ifCond .ne 7, 3) := by decide +kernel
theorem d_Model_goes_36 : decode b_Model_goes 36 = .ok (.iconst 1, 1) := by decide +kernel
theorem d_Model_goes_37 : decode b_Model_goes 37 = .ok (.goto 4, 3) := by decide +kernel
theorem d_Model_goes_40 : decode b_Model_goes 40 = .ok (.iconst 0, 1) := by decide +kernel
theorem d_Model_goes_41 : decode b_Model_goes 41 = .ok (.ireturn, 1) := by decide +kernel
abbrev b_Model_sign : ByteArray := prog_8_method_5_code
abbrev y_Model_sign : MethodName := { cls := "HazardTablesModel", name := "sign", desc := "(JI)I" }
abbrev w_Model_sign : List Cond := .code y_Model_sign b_Model_sign 5 (some .int) :: WA
theorem d_Model_sign_0 : decode b_Model_sign 0 = .ok (.aload_n 0, 1) := by decide +kernel
theorem d_Model_sign_1 : decode b_Model_sign 1 = .ok (.iload_n 3, 1) := by decide +kernel
theorem d_Model_sign_2 : decode b_Model_sign 2 = .ok (.iconst 1, 1) := by decide +kernel
theorem d_Model_sign_3 : decode b_Model_sign 3 = .ok (.bipush 8, 2) := by decide +kernel
theorem d_Model_sign_5 : decode b_Model_sign 5 = .ok (.invokestatic 67, 3) := by decide +kernel
theorem d_Model_sign_8 : decode b_Model_sign 8 = .ok (.aload_n 0, 1) := by decide +kernel
theorem d_Model_sign_9 : decode b_Model_sign 9 = .ok (.getfield 71, 3) := by decide +kernel
theorem d_Model_sign_12 : decode b_Model_sign 12 = .ok (.iload_n 3, 1) := by decide +kernel
theorem d_Model_sign_13 : decode b_Model_sign 13 = .ok (.iadd, 1) := by decide +kernel
theorem d_Model_sign_14 : decode b_Model_sign 14 = .ok (.sipush 400, 3) := by decide +kernel
theorem d_Model_sign_17 : decode b_Model_sign 17 = .ok (.if_icmp .gt 7, 3) := by decide +kernel
theorem d_Model_sign_20 : decode b_Model_sign 20 = .ok (.iconst 1, 1) := by decide +kernel
theorem d_Model_sign_21 : decode b_Model_sign 21 = .ok (.goto 4, 3) := by decide +kernel
theorem d_Model_sign_24 : decode b_Model_sign 24 = .ok (.iconst 0, 1) := by decide +kernel
theorem d_Model_sign_25 : decode b_Model_sign 25 = .ok (.iconst 1, 1) := by decide +kernel
theorem d_Model_sign_26 : decode b_Model_sign 26 = .ok (.invokevirtual 74, 3) := by decide +kernel
theorem d_Model_sign_29 : decode b_Model_sign 29 = .ok (.ifCond .ne 5, 3) := by decide +kernel
theorem d_Model_sign_32 : decode b_Model_sign 32 = .ok (.iconst 0, 1) := by decide +kernel
theorem d_Model_sign_33 : decode b_Model_sign 33 = .ok (.ireturn, 1) := by decide +kernel
theorem d_Model_sign_34 : decode b_Model_sign 34 = .ok (.iload_n 3, 1) := by decide +kernel
theorem d_Model_sign_35 : decode b_Model_sign 35 = .ok (.iconst 1, 1) := by decide +kernel
theorem d_Model_sign_36 : decode b_Model_sign 36 = .ok (.isub, 1) := by decide +kernel
theorem d_Model_sign_37 : decode b_Model_sign 37 = .ok (.istore 4, 2) := by decide +kernel
theorem d_Model_sign_39 : decode b_Model_sign 39 = .ok (.iload 4, 2) := by decide +kernel
theorem d_Model_sign_41 : decode b_Model_sign 41 = .ok (.ifCond .lt 40, 3) := by decide +kernel
theorem d_Model_sign_44 : decode b_Model_sign 44 = .ok (.aload_n 0, 1) := by decide +kernel
theorem d_Model_sign_45 : decode b_Model_sign 45 = .ok (.getfield 7, 3) := by decide +kernel
theorem d_Model_sign_48 : decode b_Model_sign 48 = .ok (.aload_n 0, 1) := by decide +kernel
theorem d_Model_sign_49 : decode b_Model_sign 49 = .ok (.getfield 71, 3) := by decide +kernel
theorem d_Model_sign_52 : decode b_Model_sign 52 = .ok (.lload_n 1, 1) := by decide +kernel
theorem d_Model_sign_53 : decode b_Model_sign 53 = .ok (.bipush 8, 2) := by decide +kernel
theorem d_Model_sign_55 : decode b_Model_sign 55 = .ok (.iload 4, 2) := by decide +kernel
theorem d_Model_sign_57 : decode b_Model_sign 57 = .ok (.imul, 1) := by decide +kernel
theorem d_Model_sign_58 : decode b_Model_sign 58 = .ok (.lshr, 1) := by decide +kernel
theorem d_Model_sign_59 : decode b_Model_sign 59 = .ok (.l2i, 1) := by decide +kernel
theorem d_Model_sign_60 : decode b_Model_sign 60 = .ok (.sipush 255, 3) := by decide +kernel
theorem d_Model_sign_63 : decode b_Model_sign 63 = .ok (.iand, 1) := by decide +kernel
theorem d_Model_sign_64 : decode b_Model_sign 64 = .ok (.iastore, 1) := by decide +kernel
theorem d_Model_sign_65 : decode b_Model_sign 65 = .ok (.aload_n 0, 1) := by decide +kernel
theorem d_Model_sign_66 : decode b_Model_sign 66 = .ok (.dup, 1) := by decide +kernel
theorem d_Model_sign_67 : decode b_Model_sign 67 = .ok (.getfield 71, 3) := by decide +kernel
theorem d_Model_sign_70 : decode b_Model_sign 70 = .ok (.iconst 1, 1) := by decide +kernel
theorem d_Model_sign_71 : decode b_Model_sign 71 = .ok (.iadd, 1) := by decide +kernel
theorem d_Model_sign_72 : decode b_Model_sign 72 = .ok (.putfield 71, 3) := by decide +kernel
theorem d_Model_sign_75 : decode b_Model_sign 75 = .ok (.iinc 4 (-1), 3) := by decide +kernel
theorem d_Model_sign_78 : decode b_Model_sign 78 = .ok (.goto (-39), 3) := by decide +kernel
theorem d_Model_sign_81 : decode b_Model_sign 81 = .ok (.aload_n 0, 1) := by decide +kernel
theorem d_Model_sign_82 : decode b_Model_sign 82 = .ok (.getfield 71, 3) := by decide +kernel
theorem d_Model_sign_85 : decode b_Model_sign 85 = .ok (.ireturn, 1) := by decide +kernel
abbrev b_Model_here : ByteArray := prog_8_method_6_code
abbrev y_Model_here : MethodName := { cls := "HazardTablesModel", name := "here", desc := "()I" }
abbrev w_Model_here : List Cond := .code y_Model_here b_Model_here 1 (some .int) :: WA
theorem d_Model_here_0 : decode b_Model_here 0 = .ok (.aload_n 0, 1) := by decide +kernel
theorem d_Model_here_1 : decode b_Model_here 1 = .ok (.getfield 78, 3) := by decide +kernel
theorem d_Model_here_4 : decode b_Model_here 4 = .ok (.aload_n 0, 1) := by decide +kernel
theorem d_Model_here_5 : decode b_Model_here 5 = .ok (.getfield 71, 3) := by decide +kernel
theorem d_Model_here_8 : decode b_Model_here 8 = .ok (.if_icmp .ge 15, 3) := by decide +kernel
theorem d_Model_here_11 : decode b_Model_here 11 = .ok (.aload_n 0, 1) := by decide +kernel
theorem d_Model_here_12 : decode b_Model_here 12 = .ok (.getfield 7, 3) := by decide +kernel
theorem d_Model_here_15 : decode b_Model_here 15 = .ok (.aload_n 0, 1) := by decide +kernel
theorem d_Model_here_16 : decode b_Model_here 16 = .ok (.getfield 78, 3) := by decide +kernel
theorem d_Model_here_19 : decode b_Model_here 19 = .ok (.iaload, 1) := by decide +kernel
theorem d_Model_here_20 : decode b_Model_here 20 = .ok (.goto 4, 3) := by decide +kernel
theorem d_Model_here_23 : decode b_Model_here 23 = .ok (.iconst (-1), 1) := by decide +kernel
theorem d_Model_here_24 : decode b_Model_here 24 = .ok (.ireturn, 1) := by decide +kernel
abbrev b_Model_see : ByteArray := prog_8_method_7_code
abbrev y_Model_see : MethodName := { cls := "HazardTablesModel", name := "see", desc := "()I" }
abbrev w_Model_see : List Cond := .code y_Model_see b_Model_see 1 (some .int) :: WA
theorem d_Model_see_0 : decode b_Model_see 0 = .ok (.aload_n 0, 1) := by decide +kernel
theorem d_Model_see_1 : decode b_Model_see 1 = .ok (.invokevirtual 81, 3) := by decide +kernel
theorem d_Model_see_4 : decode b_Model_see 4 = .ok (.bipush 32, 2) := by decide +kernel
theorem d_Model_see_6 : decode b_Model_see 6 = .ok (.if_icmp .ne 16, 3) := by decide +kernel
theorem d_Model_see_9 : decode b_Model_see 9 = .ok (.aload_n 0, 1) := by decide +kernel
theorem d_Model_see_10 : decode b_Model_see 10 = .ok (.dup, 1) := by decide +kernel
theorem d_Model_see_11 : decode b_Model_see 11 = .ok (.getfield 78, 3) := by decide +kernel
theorem d_Model_see_14 : decode b_Model_see 14 = .ok (.iconst 1, 1) := by decide +kernel
theorem d_Model_see_15 : decode b_Model_see 15 = .ok (.iadd, 1) := by decide +kernel
theorem d_Model_see_16 : decode b_Model_see 16 = .ok (.putfield 78, 3) := by decide +kernel
theorem d_Model_see_19 : decode b_Model_see 19 = .ok (.goto (-19), 3) := by decide +kernel
theorem d_Model_see_22 : decode b_Model_see 22 = .ok (.aload_n 0, 1) := by decide +kernel
theorem d_Model_see_23 : decode b_Model_see 23 = .ok (.invokevirtual 81, 3) := by decide +kernel
theorem d_Model_see_26 : decode b_Model_see 26 = .ok (.ireturn, 1) := by decide +kernel
abbrev b_Model_fail : ByteArray := prog_8_method_8_code
abbrev y_Model_fail : MethodName := { cls := "HazardTablesModel", name := "fail", desc := "(I)V" }
abbrev w_Model_fail : List Cond := .code y_Model_fail b_Model_fail 2 none :: WA
theorem d_Model_fail_0 : decode b_Model_fail 0 = .ok (.aload_n 0, 1) := by decide +kernel
theorem d_Model_fail_1 : decode b_Model_fail 1 = .ok (.getfield 85, 3) := by decide +kernel
theorem d_Model_fail_4 : decode b_Model_fail 4 = .ok (.ifCond .ge 8, 3) := by decide +kernel
theorem d_Model_fail_7 : decode b_Model_fail 7 = .ok (.aload_n 0, 1) := by decide +kernel
theorem d_Model_fail_8 : decode b_Model_fail 8 = .ok (.iload_n 1, 1) := by decide +kernel
theorem d_Model_fail_9 : decode b_Model_fail 9 = .ok (.putfield 85, 3) := by decide +kernel
theorem d_Model_fail_12 : decode b_Model_fail 12 = .ok (.return_, 1) := by decide +kernel
abbrev b_Model_take : ByteArray := prog_8_method_9_code
abbrev y_Model_take : MethodName := { cls := "HazardTablesModel", name := "take", desc := "(I)V" }
abbrev w_Model_take : List Cond := .code y_Model_take b_Model_take 2 none :: WA
theorem d_Model_take_0 : decode b_Model_take 0 = .ok (.aload_n 0, 1) := by decide +kernel
theorem d_Model_take_1 : decode b_Model_take 1 = .ok (.getfield 85, 3) := by decide +kernel
theorem d_Model_take_4 : decode b_Model_take 4 = .ok (.ifCond .lt 4, 3) := by decide +kernel
theorem d_Model_take_7 : decode b_Model_take 7 = .ok (.return_, 1) := by decide +kernel
theorem d_Model_take_8 : decode b_Model_take 8 = .ok (.aload_n 0, 1) := by decide +kernel
theorem d_Model_take_9 : decode b_Model_take 9 = .ok (.invokevirtual 88, 3) := by decide +kernel
theorem d_Model_take_12 : decode b_Model_take 12 = .ok (.iload_n 1, 1) := by decide +kernel
theorem d_Model_take_13 : decode b_Model_take 13 = .ok (.if_icmp .eq 14, 3) := by decide +kernel
theorem d_Model_take_16 : decode b_Model_take 16 = .ok (.aload_n 0, 1) := by decide +kernel
theorem d_Model_take_17 : decode b_Model_take 17 = .ok (.aload_n 0, 1) := by decide +kernel
theorem d_Model_take_18 : decode b_Model_take 18 = .ok (.getfield 78, 3) := by decide +kernel
theorem d_Model_take_21 : decode b_Model_take 21 = .ok (.invokevirtual 91, 3) := by decide +kernel
theorem d_Model_take_24 : decode b_Model_take 24 = .ok (.goto 13, 3) := by decide +kernel
theorem d_Model_take_27 : decode b_Model_take 27 = .ok (.aload_n 0, 1) := by decide +kernel
theorem d_Model_take_28 : decode b_Model_take 28 = .ok (.dup, 1) := by decide +kernel
theorem d_Model_take_29 : decode b_Model_take 29 = .ok (.getfield 78, 3) := by decide +kernel
theorem d_Model_take_32 : decode b_Model_take 32 = .ok (.iconst 1, 1) := by decide +kernel
theorem d_Model_take_33 : decode b_Model_take 33 = .ok (.iadd, 1) := by decide +kernel
theorem d_Model_take_34 : decode b_Model_take 34 = .ok (.putfield 78, 3) := by decide +kernel
theorem d_Model_take_37 : decode b_Model_take 37 = .ok (.return_, 1) := by decide +kernel
abbrev b_Model_isDigit : ByteArray := prog_8_method_10_code
abbrev y_Model_isDigit : MethodName := { cls := "HazardTablesModel", name := "isDigit", desc := "()Z" }
abbrev w_Model_isDigit : List Cond := .code y_Model_isDigit b_Model_isDigit 1 (some .boolean) :: WA
theorem d_Model_isDigit_0 : decode b_Model_isDigit 0 = .ok (.aload_n 0, 1) := by decide +kernel
theorem d_Model_isDigit_1 : decode b_Model_isDigit 1 = .ok (.invokevirtual 81, 3) := by decide +kernel
theorem d_Model_isDigit_4 : decode b_Model_isDigit 4 = .ok (.bipush 48, 2) := by decide +kernel
theorem d_Model_isDigit_6 : decode b_Model_isDigit 6 = .ok (.bipush 57, 2) := by decide +kernel
theorem d_Model_isDigit_8 : decode b_Model_isDigit 8 = .ok (.invokestatic 67, 3) := by decide +kernel
theorem d_Model_isDigit_11 : decode b_Model_isDigit 11 = .ok (.ireturn, 1) := by decide +kernel
abbrev b_Model_number : ByteArray := prog_8_method_11_code
abbrev y_Model_number : MethodName := { cls := "HazardTablesModel", name := "number", desc := "(II)I" }
abbrev w_Model_number : List Cond := .code y_Model_number b_Model_number 5 (some .int) :: WA
theorem d_Model_number_0 : decode b_Model_number 0 = .ok (.aload_n 0, 1) := by decide +kernel
theorem d_Model_number_1 : decode b_Model_number 1 = .ok (.getfield 85, 3) := by decide +kernel
theorem d_Model_number_4 : decode b_Model_number 4 = .ok (.ifCond .lt 5, 3) := by decide +kernel
theorem d_Model_number_7 : decode b_Model_number 7 = .ok (.iload_n 1, 1) := by decide +kernel
theorem d_Model_number_8 : decode b_Model_number 8 = .ok (.ireturn, 1) := by decide +kernel
theorem d_Model_number_9 : decode b_Model_number 9 = .ok (.aload_n 0, 1) := by decide +kernel
theorem d_Model_number_10 : decode b_Model_number 10 = .ok (.invokevirtual 88, 3) := by decide +kernel
theorem d_Model_number_13 : decode b_Model_number 13 = .ok (.pop, 1) := by decide +kernel
theorem d_Model_number_14 : decode b_Model_number 14 = .ok (.aload_n 0, 1) := by decide +kernel
theorem d_Model_number_15 : decode b_Model_number 15 = .ok (.invokevirtual 95, 3) := by decide +kernel
theorem d_Model_number_18 : decode b_Model_number 18 = .ok (.ifCond .ne 11, 3) := by decide +kernel
theorem d_Model_number_21 : decode b_Model_number 21 = .ok (.aload_n 0, 1) := by decide +kernel
theorem d_Model_number_22 : decode b_Model_number 22 = .ok (.aload_n 0, 1) := by decide +kernel
theorem d_Model_number_23 : decode b_Model_number 23 = .ok (.getfield 78, 3) := by decide +kernel
theorem d_Model_number_26 : decode b_Model_number 26 = .ok (.invokevirtual 91, 3) := by decide +kernel
theorem d_Model_number_29 : decode b_Model_number 29 = .ok (.iconst 0, 1) := by decide +kernel
theorem d_Model_number_30 : decode b_Model_number 30 = .ok (.istore_n 3, 1) := by decide +kernel
theorem d_Model_number_31 : decode b_Model_number 31 = .ok (.iconst 0, 1) := by decide +kernel
theorem d_Model_number_32 : decode b_Model_number 32 = .ok (.istore 4, 2) := by decide +kernel
theorem d_Model_number_34 : decode b_Model_number 34 = .ok (.aload_n 0, 1) := by decide +kernel
theorem d_Model_number_35 : decode b_Model_number 35 = .ok (.getfield 85, 3) := by decide +kernel
theorem d_Model_number_38 : decode b_Model_number 38 = .ok (.ifCond .ge 54, 3) := by decide +kernel
theorem d_Model_number_41 : decode b_Model_number 41 = .ok (.aload_n 0, 1) := by decide +kernel
theorem d_Model_number_42 : decode b_Model_number 42 = .ok (.invokevirtual 95, 3) := by decide +kernel
theorem d_Model_number_45 : decode b_Model_number 45 = .ok (.ifCond .eq 47, 3) := by decide +kernel
theorem d_Model_number_48 : decode b_Model_number 48 = .ok (.iload 4, 2) := by decide +kernel
theorem d_Model_number_50 : decode b_Model_number 50 = .ok (.iconst 4, 1) := by decide +kernel
theorem d_Model_number_51 : decode b_Model_number 51 = .ok (.if_icmp .ge 41, 3) := by decide +kernel
theorem d_Model_number_54 : decode b_Model_number 54 = .ok (.iload 4, 2) := by decide +kernel
theorem d_Model_number_56 : decode b_Model_number 56 = .ok (.ifCond .eq 7, 3) := by decide +kernel
theorem d_Model_number_59 : decode b_Model_number 59 = .ok (.iload_n 3, 1) := by decide +kernel
theorem d_Model_number_60 : decode b_Model_number 60 = .ok (.ifCond .le 32, 3) := by decide +kernel
theorem d_Model_number_63 : decode b_Model_number 63 = .ok (.bipush 10, 2) := by decide +kernel
theorem d_Model_number_65 : decode b_Model_number 65 = .ok (.iload_n 3, 1) := by decide +kernel
theorem d_Model_number_66 : decode b_Model_number 66 = .ok (.imul, 1) := by decide +kernel
theorem d_Model_number_67 : decode b_Model_number 67 = .ok (.aload_n 0, 1) := by decide +kernel
theorem d_Model_number_68 : decode b_Model_number 68 = .ok (.invokevirtual 81, 3) := by decide +kernel
theorem d_Model_number_71 : decode b_Model_number 71 = .ok (.iadd, 1) := by decide +kernel
theorem d_Model_number_72 : decode b_Model_number 72 = .ok (.bipush 48, 2) := by decide +kernel
theorem d_Model_number_74 : decode b_Model_number 74 = .ok (.isub, 1) := by decide +kernel
theorem d_Model_number_75 : decode b_Model_number 75 = .ok (.istore_n 3, 1) := by decide +kernel
theorem d_Model_number_76 : decode b_Model_number 76 = .ok (.iinc 4 1, 3) := by decide +kernel
theorem d_Model_number_79 : decode b_Model_number 79 = .ok (.aload_n 0, 1) := by decide +kernel
theorem d_Model_number_80 : decode b_Model_number 80 = .ok (.dup, 1) := by decide +kernel
theorem d_Model_number_81 : decode b_Model_number 81 = .ok (.getfield 78, 3) := by decide +kernel
theorem d_Model_number_84 : decode b_Model_number 84 = .ok (.iconst 1, 1) := by decide +kernel
theorem d_Model_number_85 : decode b_Model_number 85 = .ok (.iadd, 1) := by decide +kernel
theorem d_Model_number_86 : decode b_Model_number 86 = .ok (.putfield 78, 3) := by decide +kernel
theorem d_Model_number_89 : decode b_Model_number 89 = .ok (.goto (-55), 3) := by decide +kernel
theorem d_Model_number_92 : decode b_Model_number 92 = .ok (.iload_n 3, 1) := by decide +kernel
theorem d_Model_number_93 : decode b_Model_number 93 = .ok (.iload_n 1, 1) := by decide +kernel
theorem d_Model_number_94 : decode b_Model_number 94 = .ok (.iload_n 2, 1) := by decide +kernel
theorem d_Model_number_95 : decode b_Model_number 95 = .ok (.invokestatic 67, 3) := by decide +kernel
theorem d_Model_number_98 : decode b_Model_number 98 = .ok (.ifCond .ne 13, 3) := by decide +kernel
theorem d_Model_number_101 : decode b_Model_number 101 = .ok (.aload_n 0, 1) := by decide +kernel
theorem d_Model_number_102 : decode b_Model_number 102 = .ok (.aload_n 0, 1) := by decide +kernel
theorem d_Model_number_103 : decode b_Model_number 103 = .ok (.getfield 78, 3) := by decide +kernel
theorem d_Model_number_106 : decode b_Model_number 106 = .ok (.iconst 1, 1) := by decide +kernel
theorem d_Model_number_107 : decode b_Model_number 107 = .ok (.isub, 1) := by decide +kernel
theorem d_Model_number_108 : decode b_Model_number 108 = .ok (.invokevirtual 91, 3) := by decide +kernel
theorem d_Model_number_111 : decode b_Model_number 111 = .ok (.iload 4, 2) := by decide +kernel
theorem d_Model_number_113 : decode b_Model_number 113 = .ok (.iconst 4, 1) := by decide +kernel
theorem d_Model_number_114 : decode b_Model_number 114 = .ok (.if_icmp .ne 18, 3) := by decide +kernel
theorem d_Model_number_117 : decode b_Model_number 117 = .ok (.aload_n 0, 1) := by decide +kernel
theorem d_Model_number_118 : decode b_Model_number 118 = .ok (.invokevirtual 95, 3) := by decide +kernel
theorem d_Model_number_121 : decode b_Model_number 121 = .ok (.ifCond .eq 11, 3) := by decide +kernel
theorem d_Model_number_124 : decode b_Model_number 124 = .ok (.aload_n 0, 1) := by decide +kernel
theorem d_Model_number_125 : decode b_Model_number 125 = .ok (.aload_n 0, 1) := by decide +kernel
theorem d_Model_number_126 : decode b_Model_number 126 = .ok (.getfield 78, 3) := by decide +kernel
theorem d_Model_number_129 : decode b_Model_number 129 = .ok (.invokevirtual 91, 3) := by decide +kernel
theorem d_Model_number_132 : decode b_Model_number 132 = .ok (.aload_n 0, 1) := by decide +kernel
theorem d_Model_number_133 : decode b_Model_number 133 = .ok (.getfield 85, 3) := by decide +kernel
theorem d_Model_number_136 : decode b_Model_number 136 = .ok (.ifCond .ge 7, 3) := by decide +kernel
theorem d_Model_number_139 : decode b_Model_number 139 = .ok (.iload_n 3, 1) := by decide +kernel
theorem d_Model_number_140 : decode b_Model_number 140 = .ok (.goto 4, 3) := by decide +kernel
theorem d_Model_number_143 : decode b_Model_number 143 = .ok (.iload_n 1, 1) := by decide +kernel
theorem d_Model_number_144 : decode b_Model_number 144 = .ok (.ireturn, 1) := by decide +kernel
abbrev b_Model_name : ByteArray := prog_8_method_12_code
abbrev y_Model_name : MethodName := { cls := "HazardTablesModel", name := "name", desc := "(I)V" }
abbrev w_Model_name : List Cond := .code y_Model_name b_Model_name 4 none :: WA
theorem d_Model_name_0 : decode b_Model_name 0 = .ok (.aload_n 0, 1) := by decide +kernel
theorem d_Model_name_1 : decode b_Model_name 1 = .ok (.bipush 34, 2) := by decide +kernel
theorem d_Model_name_3 : decode b_Model_name 3 = .ok (.invokevirtual 99, 3) := by decide +kernel
theorem d_Model_name_6 : decode b_Model_name 6 = .ok (.iload_n 1, 1) := by decide +kernel
theorem d_Model_name_7 : decode b_Model_name 7 = .ok (.bipush 10, 2) := by decide +kernel
theorem d_Model_name_9 : decode b_Model_name 9 = .ok (.iadd, 1) := by decide +kernel
theorem d_Model_name_10 : decode b_Model_name 10 = .ok (.bipush 11, 2) := by decide +kernel
theorem d_Model_name_12 : decode b_Model_name 12 = .ok (.aload_n 0, 1) := by decide +kernel
theorem d_Model_name_13 : decode b_Model_name 13 = .ok (.getfield 20, 3) := by decide +kernel
theorem d_Model_name_16 : decode b_Model_name 16 = .ok (.iload_n 1, 1) := by decide +kernel
theorem d_Model_name_17 : decode b_Model_name 17 = .ok (.bipush 9, 2) := by decide +kernel
theorem d_Model_name_19 : decode b_Model_name 19 = .ok (.iadd, 1) := by decide +kernel
theorem d_Model_name_20 : decode b_Model_name 20 = .ok (.iaload, 1) := by decide +kernel
theorem d_Model_name_21 : decode b_Model_name 21 = .ok (.imul, 1) := by decide +kernel
theorem d_Model_name_22 : decode b_Model_name 22 = .ok (.iadd, 1) := by decide +kernel
theorem d_Model_name_23 : decode b_Model_name 23 = .ok (.istore_n 2, 1) := by decide +kernel
theorem d_Model_name_24 : decode b_Model_name 24 = .ok (.iconst 0, 1) := by decide +kernel
theorem d_Model_name_25 : decode b_Model_name 25 = .ok (.istore_n 3, 1) := by decide +kernel
theorem d_Model_name_26 : decode b_Model_name 26 = .ok (.aload_n 0, 1) := by decide +kernel
theorem d_Model_name_27 : decode b_Model_name 27 = .ok (.getfield 85, 3) := by decide +kernel
theorem d_Model_name_30 : decode b_Model_name 30 = .ok (.ifCond .ge 71, 3) := by decide +kernel
theorem d_Model_name_33 : decode b_Model_name 33 = .ok (.aload_n 0, 1) := by decide +kernel
theorem d_Model_name_34 : decode b_Model_name 34 = .ok (.invokevirtual 81, 3) := by decide +kernel
theorem d_Model_name_37 : decode b_Model_name 37 = .ok (.bipush 34, 2) := by decide +kernel
theorem d_Model_name_39 : decode b_Model_name 39 = .ok (.if_icmp .eq 62, 3) := by decide +kernel
theorem d_Model_name_42 : decode b_Model_name 42 = .ok (.aload_n 0, 1) := by decide +kernel
theorem d_Model_name_43 : decode b_Model_name 43 = .ok (.invokevirtual 81, 3) := by decide +kernel
theorem d_Model_name_46 : decode b_Model_name 46 = .ok (.bipush 97, 2) := by decide +kernel
theorem d_Model_name_48 : decode b_Model_name 48 = .ok (.bipush 122, 2) := by decide +kernel
theorem d_Model_name_50 : decode b_Model_name 50 = .ok (.invokestatic 67, 3) := by decide +kernel
theorem d_Model_name_53 : decode b_Model_name 53 = .ok (.ifCond .eq 9, 3) := by decide +kernel
theorem d_Model_name_56 : decode b_Model_name 56 = .ok (.iload_n 3, 1) := by decide +kernel
theorem d_Model_name_57 : decode b_Model_name 57 = .ok (.bipush 10, 2) := by decide +kernel
theorem d_Model_name_59 : decode b_Model_name 59 = .ok (.if_icmp .ne 12, 3) := by decide +kernel
theorem d_Model_name_62 : decode b_Model_name 62 = .ok (.aload_n 0, 1) := by decide +kernel
theorem d_Model_name_63 : decode b_Model_name 63 = .ok (.aload_n 0, 1) := by decide +kernel
theorem d_Model_name_64 : decode b_Model_name 64 = .ok (.getfield 78, 3) := by decide +kernel
theorem d_Model_name_67 : decode b_Model_name 67 = .ok (.invokevirtual 91, 3) := by decide +kernel
theorem d_Model_name_70 : decode b_Model_name 70 = .ok (.return_, 1) := by decide +kernel
theorem d_Model_name_71 : decode b_Model_name 71 = .ok (.aload_n 0, 1) := by decide +kernel
theorem d_Model_name_72 : decode b_Model_name 72 = .ok (.getfield 20, 3) := by decide +kernel
theorem d_Model_name_75 : decode b_Model_name 75 = .ok (.iload_n 2, 1) := by decide +kernel
theorem d_Model_name_76 : decode b_Model_name 76 = .ok (.iconst 1, 1) := by decide +kernel
theorem d_Model_name_77 : decode b_Model_name 77 = .ok (.iadd, 1) := by decide +kernel
theorem d_Model_name_78 : decode b_Model_name 78 = .ok (.iload_n 3, 1) := by decide +kernel
theorem d_Model_name_79 : decode b_Model_name 79 = .ok (.iadd, 1) := by decide +kernel
theorem d_Model_name_80 : decode b_Model_name 80 = .ok (.aload_n 0, 1) := by decide +kernel
theorem d_Model_name_81 : decode b_Model_name 81 = .ok (.invokevirtual 81, 3) := by decide +kernel
theorem d_Model_name_84 : decode b_Model_name 84 = .ok (.iastore, 1) := by decide +kernel
theorem d_Model_name_85 : decode b_Model_name 85 = .ok (.iinc 3 1, 3) := by decide +kernel
theorem d_Model_name_88 : decode b_Model_name 88 = .ok (.aload_n 0, 1) := by decide +kernel
theorem d_Model_name_89 : decode b_Model_name 89 = .ok (.dup, 1) := by decide +kernel
theorem d_Model_name_90 : decode b_Model_name 90 = .ok (.getfield 78, 3) := by decide +kernel
theorem d_Model_name_93 : decode b_Model_name 93 = .ok (.iconst 1, 1) := by decide +kernel
theorem d_Model_name_94 : decode b_Model_name 94 = .ok (.iadd, 1) := by decide +kernel
theorem d_Model_name_95 : decode b_Model_name 95 = .ok (.putfield 78, 3) := by decide +kernel
theorem d_Model_name_98 : decode b_Model_name 98 = .ok (.goto (-72), 3) := by decide +kernel
theorem d_Model_name_101 : decode b_Model_name 101 = .ok (.iload_n 3, 1) := by decide +kernel
theorem d_Model_name_102 : decode b_Model_name 102 = .ok (.ifCond .ne 11, 3) := by decide +kernel
theorem d_Model_name_105 : decode b_Model_name 105 = .ok (.aload_n 0, 1) := by decide +kernel
theorem d_Model_name_106 : decode b_Model_name 106 = .ok (.aload_n 0, 1) := by decide +kernel
theorem d_Model_name_107 : decode b_Model_name 107 = .ok (.getfield 78, 3) := by decide +kernel
theorem d_Model_name_110 : decode b_Model_name 110 = .ok (.invokevirtual 91, 3) := by decide +kernel
theorem d_Model_name_113 : decode b_Model_name 113 = .ok (.aload_n 0, 1) := by decide +kernel
theorem d_Model_name_114 : decode b_Model_name 114 = .ok (.getfield 85, 3) := by decide +kernel
theorem d_Model_name_117 : decode b_Model_name 117 = .ok (.ifCond .lt 4, 3) := by decide +kernel
theorem d_Model_name_120 : decode b_Model_name 120 = .ok (.return_, 1) := by decide +kernel
theorem d_Model_name_121 : decode b_Model_name 121 = .ok (.aload_n 0, 1) := by decide +kernel
theorem d_Model_name_122 : decode b_Model_name 122 = .ok (.dup, 1) := by decide +kernel
theorem d_Model_name_123 : decode b_Model_name 123 = .ok (.getfield 78, 3) := by decide +kernel
theorem d_Model_name_126 : decode b_Model_name 126 = .ok (.iconst 1, 1) := by decide +kernel
theorem d_Model_name_127 : decode b_Model_name 127 = .ok (.iadd, 1) := by decide +kernel
theorem d_Model_name_128 : decode b_Model_name 128 = .ok (.putfield 78, 3) := by decide +kernel
theorem d_Model_name_131 : decode b_Model_name 131 = .ok (.aload_n 0, 1) := by decide +kernel
theorem d_Model_name_132 : decode b_Model_name 132 = .ok (.getfield 20, 3) := by decide +kernel
theorem d_Model_name_135 : decode b_Model_name 135 = .ok (.iload_n 2, 1) := by decide +kernel
theorem d_Model_name_136 : decode b_Model_name 136 = .ok (.iload_n 3, 1) := by decide +kernel
theorem d_Model_name_137 : decode b_Model_name 137 = .ok (.iastore, 1) := by decide +kernel
theorem d_Model_name_138 : decode b_Model_name 138 = .ok (.aload_n 0, 1) := by decide +kernel
theorem d_Model_name_139 : decode b_Model_name 139 = .ok (.getfield 20, 3) := by decide +kernel
theorem d_Model_name_142 : decode b_Model_name 142 = .ok (.iload_n 1, 1) := by decide +kernel
theorem d_Model_name_143 : decode b_Model_name 143 = .ok (.bipush 9, 2) := by decide +kernel
theorem d_Model_name_145 : decode b_Model_name 145 = .ok (.iadd, 1) := by decide +kernel
theorem d_Model_name_146 : decode b_Model_name 146 = .ok (.dup2, 1) := by decide +kernel
theorem d_Model_name_147 : decode b_Model_name 147 = .ok (.iaload, 1) := by decide +kernel
theorem d_Model_name_148 : decode b_Model_name 148 = .ok (.iconst 1, 1) := by decide +kernel
theorem d_Model_name_149 : decode b_Model_name 149 = .ok (.iadd, 1) := by decide +kernel
theorem d_Model_name_150 : decode b_Model_name 150 = .ok (.iastore, 1) := by decide +kernel
theorem d_Model_name_151 : decode b_Model_name 151 = .ok (.return_, 1) := by decide +kernel
abbrev b_Model_rising : ByteArray := prog_8_method_13_code
abbrev y_Model_rising : MethodName := { cls := "HazardTablesModel", name := "rising", desc := "(III)I" }
abbrev w_Model_rising : List Cond := .code y_Model_rising b_Model_rising 8 (some .int) :: WA
theorem d_Model_rising_0 : decode b_Model_rising 0 = .ok (.iconst 0, 1) := by decide +kernel
theorem d_Model_rising_1 : decode b_Model_rising 1 = .ok (.istore 4, 2) := by decide +kernel
theorem d_Model_rising_3 : decode b_Model_rising 3 = .ok (.iload_n 1, 1) := by decide +kernel
theorem d_Model_rising_4 : decode b_Model_rising 4 = .ok (.iconst 1, 1) := by decide +kernel
theorem d_Model_rising_5 : decode b_Model_rising 5 = .ok (.isub, 1) := by decide +kernel
theorem d_Model_rising_6 : decode b_Model_rising 6 = .ok (.istore 5, 2) := by decide +kernel
theorem d_Model_rising_8 : decode b_Model_rising 8 = .ok (.iconst 0, 1) := by decide +kernel
theorem d_Model_rising_9 : decode b_Model_rising 9 = .ok (.istore 6, 2) := by decide +kernel
theorem d_Model_rising_11 : decode b_Model_rising 11 = .ok (.aload_n 0, 1) := by decide +kernel
theorem d_Model_rising_12 : decode b_Model_rising 12 = .ok (.getfield 85, 3) := by decide +kernel
theorem d_Model_rising_15 : decode b_Model_rising 15 = .ok (.ifCond .ge 98, 3) := by decide +kernel
theorem d_Model_rising_18 : decode b_Model_rising 18 = .ok (.iload 6, 2) := by decide +kernel
theorem d_Model_rising_20 : decode b_Model_rising 20 = .ok (.iload_n 3, 1) := by decide +kernel
theorem d_Model_rising_21 : decode b_Model_rising 21 = .ok (.if_icmp .ge 92, 3) := by decide +kernel
theorem d_Model_rising_24 : decode b_Model_rising 24 = .ok (.iload 6, 2) := by decide +kernel
theorem d_Model_rising_26 : decode b_Model_rising 26 = .ok (.ifCond .eq 15, 3) := by decide +kernel
theorem d_Model_rising_29 : decode b_Model_rising 29 = .ok (.aload_n 0, 1) := by decide +kernel
theorem d_Model_rising_30 : decode b_Model_rising 30 = .ok (.invokevirtual 88, 3) := by decide +kernel
theorem d_Model_rising_33 : decode b_Model_rising 33 = .ok (.iload_n 1, 1) := by decide +kernel
theorem d_Model_rising_34 : decode b_Model_rising 34 = .ok (.iload_n 2, 1) := by decide +kernel
theorem d_Model_rising_35 : decode b_Model_rising 35 = .ok (.invokestatic 67, 3) := by decide +kernel
theorem d_Model_rising_38 : decode b_Model_rising 38 = .ok (.ifCond .eq 75, 3) := by decide +kernel
theorem d_Model_rising_41 : decode b_Model_rising 41 = .ok (.aload_n 0, 1) := by decide +kernel
theorem d_Model_rising_42 : decode b_Model_rising 42 = .ok (.invokevirtual 88, 3) := by decide +kernel
theorem d_Model_rising_45 : decode b_Model_rising 45 = .ok (.istore 7, 2) := by decide +kernel
theorem d_Model_rising_47 : decode b_Model_rising 47 = .ok (.iload 7, 2) := by decide +kernel
theorem d_Model_rising_49 : decode b_Model_rising 49 = .ok (.iload_n 1, 1) := by decide +kernel
theorem d_Model_rising_50 : decode b_Model_rising 50 = .ok (.iload_n 2, 1) := by decide +kernel
theorem d_Model_rising_51 : decode b_Model_rising 51 = .ok (.invokestatic 67, 3) := by decide +kernel
theorem d_Model_rising_54 : decode b_Model_rising 54 = .ok (.ifCond .eq 10, 3) := by decide +kernel
theorem d_Model_rising_57 : decode b_Model_rising 57 = .ok (.iload 7, 2) := by decide +kernel
theorem d_Model_rising_59 : decode b_Model_rising 59 = .ok (.iload 5, 2) := by decide +kernel
theorem d_Model_rising_61 : decode b_Model_rising 61 = .ok (.if_icmp .gt 11, 3) := by decide +kernel
theorem d_Model_rising_64 : decode b_Model_rising 64 = .ok (.aload_n 0, 1) := by decide +kernel
theorem d_Model_rising_65 : decode b_Model_rising 65 = .ok (.aload_n 0, 1) := by decide +kernel
theorem d_Model_rising_66 : decode b_Model_rising 66 = .ok (.getfield 78, 3) := by decide +kernel
theorem d_Model_rising_69 : decode b_Model_rising 69 = .ok (.invokevirtual 91, 3) := by decide +kernel
theorem d_Model_rising_72 : decode b_Model_rising 72 = .ok (.aload_n 0, 1) := by decide +kernel
theorem d_Model_rising_73 : decode b_Model_rising 73 = .ok (.getfield 85, 3) := by decide +kernel
theorem d_Model_rising_76 : decode b_Model_rising 76 = .ok (.ifCond .lt 6, 3) := by decide +kernel
theorem d_Model_rising_79 : decode b_Model_rising 79 = .ok (.iload 4, 2) := by decide +kernel
theorem d_Model_rising_81 : decode b_Model_rising 81 = .ok (.ireturn, 1) := by decide +kernel
theorem d_Model_rising_82 : decode b_Model_rising 82 = .ok (.iload 4, 2) := by decide +kernel
theorem d_Model_rising_84 : decode b_Model_rising 84 = .ok (.iconst 1, 1) := by decide +kernel
theorem d_Model_rising_85 : decode b_Model_rising 85 = .ok (.iload 7, 2) := by decide +kernel
theorem d_Model_rising_87 : decode b_Model_rising 87 = .ok (.iload_n 1, 1) := by decide +kernel
theorem d_Model_rising_88 : decode b_Model_rising 88 = .ok (.isub, 1) := by decide +kernel
theorem d_Model_rising_89 : decode b_Model_rising 89 = .ok (.ishl, 1) := by decide +kernel
theorem d_Model_rising_90 : decode b_Model_rising 90 = .ok (.ior, 1) := by decide +kernel
theorem d_Model_rising_91 : decode b_Model_rising 91 = .ok (.istore 4, 2) := by decide +kernel
theorem d_Model_rising_93 : decode b_Model_rising 93 = .ok (.iload 7, 2) := by decide +kernel
theorem d_Model_rising_95 : decode b_Model_rising 95 = .ok (.istore 5, 2) := by decide +kernel
theorem d_Model_rising_97 : decode b_Model_rising 97 = .ok (.iinc 6 1, 3) := by decide +kernel
theorem d_Model_rising_100 : decode b_Model_rising 100 = .ok (.aload_n 0, 1) := by decide +kernel
theorem d_Model_rising_101 : decode b_Model_rising 101 = .ok (.dup, 1) := by decide +kernel
theorem d_Model_rising_102 : decode b_Model_rising 102 = .ok (.getfield 78, 3) := by decide +kernel
theorem d_Model_rising_105 : decode b_Model_rising 105 = .ok (.iconst 1, 1) := by decide +kernel
theorem d_Model_rising_106 : decode b_Model_rising 106 = .ok (.iadd, 1) := by decide +kernel
theorem d_Model_rising_107 : decode b_Model_rising 107 = .ok (.putfield 78, 3) := by decide +kernel
theorem d_Model_rising_110 : decode b_Model_rising 110 = .ok (.goto (-99), 3) := by decide +kernel
theorem d_Model_rising_113 : decode b_Model_rising 113 = .ok (.iload 4, 2) := by decide +kernel
theorem d_Model_rising_115 : decode b_Model_rising 115 = .ok (.ireturn, 1) := by decide +kernel
abbrev b_Model_due : ByteArray := prog_8_method_14_code
abbrev y_Model_due : MethodName := { cls := "HazardTablesModel", name := "due", desc := "(I)V" }
abbrev w_Model_due : List Cond := .code y_Model_due b_Model_due 3 none :: WA
theorem d_Model_due_0 : decode b_Model_due 0 = .ok (.aload_n 0, 1) := by decide +kernel
theorem d_Model_due_1 : decode b_Model_due 1 = .ok (.bipush 114, 2) := by decide +kernel
theorem d_Model_due_3 : decode b_Model_due 3 = .ok (.invokevirtual 99, 3) := by decide +kernel
theorem d_Model_due_6 : decode b_Model_due 6 = .ok (.aload_n 0, 1) := by decide +kernel
theorem d_Model_due_7 : decode b_Model_due 7 = .ok (.getfield 20, 3) := by decide +kernel
theorem d_Model_due_10 : decode b_Model_due 10 = .ok (.iload_n 1, 1) := by decide +kernel
theorem d_Model_due_11 : decode b_Model_due 11 = .ok (.iconst 2, 1) := by decide +kernel
theorem d_Model_due_12 : decode b_Model_due 12 = .ok (.iadd, 1) := by decide +kernel
theorem d_Model_due_13 : decode b_Model_due 13 = .ok (.aload_n 0, 1) := by decide +kernel
theorem d_Model_due_14 : decode b_Model_due 14 = .ok (.iconst 0, 1) := by decide +kernel
theorem d_Model_due_15 : decode b_Model_due 15 = .ok (.bipush 9, 2) := by decide +kernel
theorem d_Model_due_17 : decode b_Model_due 17 = .ok (.invokevirtual 102, 3) := by decide +kernel
theorem d_Model_due_20 : decode b_Model_due 20 = .ok (.iastore, 1) := by decide +kernel
theorem d_Model_due_21 : decode b_Model_due 21 = .ok (.aload_n 0, 1) := by decide +kernel
theorem d_Model_due_22 : decode b_Model_due 22 = .ok (.bipush 103, 2) := by decide +kernel
theorem d_Model_due_24 : decode b_Model_due 24 = .ok (.invokevirtual 99, 3) := by decide +kernel
theorem d_Model_due_27 : decode b_Model_due 27 = .ok (.aload_n 0, 1) := by decide +kernel
theorem d_Model_due_28 : decode b_Model_due 28 = .ok (.getfield 20, 3) := by decide +kernel
theorem d_Model_due_31 : decode b_Model_due 31 = .ok (.iload_n 1, 1) := by decide +kernel
theorem d_Model_due_32 : decode b_Model_due 32 = .ok (.iconst 3, 1) := by decide +kernel
theorem d_Model_due_33 : decode b_Model_due 33 = .ok (.iadd, 1) := by decide +kernel
theorem d_Model_due_34 : decode b_Model_due 34 = .ok (.aload_n 0, 1) := by decide +kernel
theorem d_Model_due_35 : decode b_Model_due 35 = .ok (.bipush 97, 2) := by decide +kernel
theorem d_Model_due_37 : decode b_Model_due 37 = .ok (.bipush 104, 2) := by decide +kernel
theorem d_Model_due_39 : decode b_Model_due 39 = .ok (.iconst 4, 1) := by decide +kernel
theorem d_Model_due_40 : decode b_Model_due 40 = .ok (.invokevirtual 106, 3) := by decide +kernel
theorem d_Model_due_43 : decode b_Model_due 43 = .ok (.iastore, 1) := by decide +kernel
theorem d_Model_due_44 : decode b_Model_due 44 = .ok (.aload_n 0, 1) := by decide +kernel
theorem d_Model_due_45 : decode b_Model_due 45 = .ok (.bipush 64, 2) := by decide +kernel
theorem d_Model_due_47 : decode b_Model_due 47 = .ok (.invokevirtual 99, 3) := by decide +kernel
theorem d_Model_due_50 : decode b_Model_due 50 = .ok (.iconst 0, 1) := by decide +kernel
theorem d_Model_due_51 : decode b_Model_due 51 = .ok (.istore_n 2, 1) := by decide +kernel
theorem d_Model_due_52 : decode b_Model_due 52 = .ok (.iload_n 2, 1) := by decide +kernel
theorem d_Model_due_53 : decode b_Model_due 53 = .ok (.iconst 4, 1) := by decide +kernel
theorem d_Model_due_54 : decode b_Model_due 54 = .ok (.if_icmp .ge 37, 3) := by decide +kernel
theorem d_Model_due_57 : decode b_Model_due 57 = .ok (.iload_n 2, 1) := by decide +kernel
theorem d_Model_due_58 : decode b_Model_due 58 = .ok (.ifCond .le 9, 3) := by decide +kernel
theorem d_Model_due_61 : decode b_Model_due 61 = .ok (.aload_n 0, 1) := by decide +kernel
theorem d_Model_due_62 : decode b_Model_due 62 = .ok (.bipush 44, 2) := by decide +kernel
theorem d_Model_due_64 : decode b_Model_due 64 = .ok (.invokevirtual 99, 3) := by decide +kernel
theorem d_Model_due_67 : decode b_Model_due 67 = .ok (.aload_n 0, 1) := by decide +kernel
theorem d_Model_due_68 : decode b_Model_due 68 = .ok (.getfield 20, 3) := by decide +kernel
theorem d_Model_due_71 : decode b_Model_due 71 = .ok (.iload_n 1, 1) := by decide +kernel
theorem d_Model_due_72 : decode b_Model_due 72 = .ok (.iconst 4, 1) := by decide +kernel
theorem d_Model_due_73 : decode b_Model_due 73 = .ok (.iadd, 1) := by decide +kernel
theorem d_Model_due_74 : decode b_Model_due 74 = .ok (.iload_n 2, 1) := by decide +kernel
theorem d_Model_due_75 : decode b_Model_due 75 = .ok (.iadd, 1) := by decide +kernel
theorem d_Model_due_76 : decode b_Model_due 76 = .ok (.aload_n 0, 1) := by decide +kernel
theorem d_Model_due_77 : decode b_Model_due 77 = .ok (.iconst 0, 1) := by decide +kernel
theorem d_Model_due_78 : decode b_Model_due 78 = .ok (.sipush 9999, 3) := by decide +kernel
theorem d_Model_due_81 : decode b_Model_due 81 = .ok (.invokevirtual 102, 3) := by decide +kernel
theorem d_Model_due_84 : decode b_Model_due 84 = .ok (.iastore, 1) := by decide +kernel
theorem d_Model_due_85 : decode b_Model_due 85 = .ok (.iinc 2 1, 3) := by decide +kernel
theorem d_Model_due_88 : decode b_Model_due 88 = .ok (.goto (-36), 3) := by decide +kernel
theorem d_Model_due_91 : decode b_Model_due 91 = .ok (.return_, 1) := by decide +kernel
abbrev b_Model_materialRow : ByteArray := prog_8_method_15_code
abbrev y_Model_materialRow : MethodName := { cls := "HazardTablesModel", name := "materialRow", desc := "()V" }
abbrev w_Model_materialRow : List Cond := .code y_Model_materialRow b_Model_materialRow 4 none :: WA
theorem d_Model_materialRow_0 : decode b_Model_materialRow 0 = .ok (.aload_n 0, 1) := by decide +kernel
theorem d_Model_materialRow_1 : decode b_Model_materialRow 1 = .ok (.getfield 110, 3) := by decide +kernel
theorem d_Model_materialRow_4 : decode b_Model_materialRow 4 = .ok (.bipush 12, 2) := by decide +kernel
theorem d_Model_materialRow_6 : decode b_Model_materialRow 6 = .ok (.if_icmp .ne 14, 3) := by decide +kernel
theorem d_Model_materialRow_9 : decode b_Model_materialRow 9 = .ok (.aload_n 0, 1) := by decide +kernel
theorem d_Model_materialRow_10 : decode b_Model_materialRow 10 = .ok (.aload_n 0, 1) := by decide +kernel
theorem d_Model_materialRow_11 : decode b_Model_materialRow 11 = .ok (.getfield 78, 3) := by decide +kernel
theorem d_Model_materialRow_14 : decode b_Model_materialRow 14 = .ok (.iconst 1, 1) := by decide +kernel
theorem d_Model_materialRow_15 : decode b_Model_materialRow 15 = .ok (.isub, 1) := by decide +kernel
theorem d_Model_materialRow_16 : decode b_Model_materialRow 16 = .ok (.invokevirtual 91, 3) := by decide +kernel
theorem d_Model_materialRow_19 : decode b_Model_materialRow 19 = .ok (.return_, 1) := by decide +kernel
theorem d_Model_materialRow_20 : decode b_Model_materialRow 20 = .ok (.aload_n 0, 1) := by decide +kernel
theorem d_Model_materialRow_21 : decode b_Model_materialRow 21 = .ok (.getfield 110, 3) := by decide +kernel
theorem d_Model_materialRow_24 : decode b_Model_materialRow 24 = .ok (.bipush 43, 2) := by decide +kernel
theorem d_Model_materialRow_26 : decode b_Model_materialRow 26 = .ok (.imul, 1) := by decide +kernel
theorem d_Model_materialRow_27 : decode b_Model_materialRow 27 = .ok (.istore_n 1, 1) := by decide +kernel
theorem d_Model_materialRow_28 : decode b_Model_materialRow 28 = .ok (.aload_n 0, 1) := by decide +kernel
theorem d_Model_materialRow_29 : decode b_Model_materialRow 29 = .ok (.iconst 1, 1) := by decide +kernel
theorem d_Model_materialRow_30 : decode b_Model_materialRow 30 = .ok (.sipush 9999, 3) := by decide +kernel
theorem d_Model_materialRow_33 : decode b_Model_materialRow 33 = .ok (.invokevirtual 102, 3) := by decide +kernel
theorem d_Model_materialRow_36 : decode b_Model_materialRow 36 = .ok (.istore_n 2, 1) := by decide +kernel
theorem d_Model_materialRow_37 : decode b_Model_materialRow 37 = .ok (.iconst 0, 1) := by decide +kernel
theorem d_Model_materialRow_38 : decode b_Model_materialRow 38 = .ok (.istore_n 3, 1) := by decide +kernel
theorem d_Model_materialRow_39 : decode b_Model_materialRow 39 = .ok (.iload_n 3, 1) := by decide +kernel
theorem d_Model_materialRow_40 : decode b_Model_materialRow 40 = .ok (.aload_n 0, 1) := by decide +kernel
theorem d_Model_materialRow_41 : decode b_Model_materialRow 41 = .ok (.getfield 110, 3) := by decide +kernel
theorem d_Model_materialRow_44 : decode b_Model_materialRow 44 = .ok (.if_icmp .ge 34, 3) := by decide +kernel
theorem d_Model_materialRow_47 : decode b_Model_materialRow 47 = .ok (.aload_n 0, 1) := by decide +kernel
theorem d_Model_materialRow_48 : decode b_Model_materialRow 48 = .ok (.getfield 20, 3) := by decide +kernel
theorem d_Model_materialRow_51 : decode b_Model_materialRow 51 = .ok (.iload_n 3, 1) := by decide +kernel
theorem d_Model_materialRow_52 : decode b_Model_materialRow 52 = .ok (.bipush 43, 2) := by decide +kernel
theorem d_Model_materialRow_54 : decode b_Model_materialRow 54 = .ok (.imul, 1) := by decide +kernel
theorem d_Model_materialRow_55 : decode b_Model_materialRow 55 = .ok (.iconst 0, 1) := by decide +kernel
theorem d_Model_materialRow_56 : decode b_Model_materialRow 56 = .ok (.iadd, 1) := by decide +kernel
theorem d_Model_materialRow_57 : decode b_Model_materialRow 57 = .ok (.iaload, 1) := by decide +kernel
theorem d_Model_materialRow_58 : decode b_Model_materialRow 58 = .ok (.iload_n 2, 1) := by decide +kernel
theorem d_Model_materialRow_59 : decode b_Model_materialRow 59 = .ok (.if_icmp .ne 13, 3) := by decide +kernel
theorem d_Model_materialRow_62 : decode b_Model_materialRow 62 = .ok (.aload_n 0, 1) := by decide +kernel
theorem d_Model_materialRow_63 : decode b_Model_materialRow 63 = .ok (.aload_n 0, 1) := by decide +kernel
theorem d_Model_materialRow_64 : decode b_Model_materialRow 64 = .ok (.getfield 78, 3) := by decide +kernel
theorem d_Model_materialRow_67 : decode b_Model_materialRow 67 = .ok (.iconst 1, 1) := by decide +kernel
theorem d_Model_materialRow_68 : decode b_Model_materialRow 68 = .ok (.isub, 1) := by decide +kernel
theorem d_Model_materialRow_69 : decode b_Model_materialRow 69 = .ok (.invokevirtual 91, 3) := by decide +kernel
theorem d_Model_materialRow_72 : decode b_Model_materialRow 72 = .ok (.iinc 3 1, 3) := by decide +kernel
theorem d_Model_materialRow_75 : decode b_Model_materialRow 75 = .ok (.goto (-36), 3) := by decide +kernel
theorem d_Model_materialRow_78 : decode b_Model_materialRow 78 = .ok (.aload_n 0, 1) := by decide +kernel
theorem d_Model_materialRow_79 : decode b_Model_materialRow 79 = .ok (.getfield 85, 3) := by decide +kernel
theorem d_Model_materialRow_82 : decode b_Model_materialRow 82 = .ok (.ifCond .lt 4, 3) := by decide +kernel
theorem d_Model_materialRow_85 : decode b_Model_materialRow 85 = .ok (.return_, 1) := by decide +kernel
theorem d_Model_materialRow_86 : decode b_Model_materialRow 86 = .ok (.aload_n 0, 1) := by decide +kernel
theorem d_Model_materialRow_87 : decode b_Model_materialRow 87 = .ok (.getfield 20, 3) := by decide +kernel
theorem d_Model_materialRow_90 : decode b_Model_materialRow 90 = .ok (.iload_n 1, 1) := by decide +kernel
theorem d_Model_materialRow_91 : decode b_Model_materialRow 91 = .ok (.iconst 0, 1) := by decide +kernel
theorem d_Model_materialRow_92 : decode b_Model_materialRow 92 = .ok (.iadd, 1) := by decide +kernel
theorem d_Model_materialRow_93 : decode b_Model_materialRow 93 = .ok (.iload_n 2, 1) := by decide +kernel
theorem d_Model_materialRow_94 : decode b_Model_materialRow 94 = .ok (.iastore, 1) := by decide +kernel
theorem d_Model_materialRow_95 : decode b_Model_materialRow 95 = .ok (.aload_n 0, 1) := by decide +kernel
theorem d_Model_materialRow_96 : decode b_Model_materialRow 96 = .ok (.getfield 20, 3) := by decide +kernel
theorem d_Model_materialRow_99 : decode b_Model_materialRow 99 = .ok (.iload_n 1, 1) := by decide +kernel
theorem d_Model_materialRow_100 : decode b_Model_materialRow 100 = .ok (.bipush 9, 2) := by decide +kernel
theorem d_Model_materialRow_102 : decode b_Model_materialRow 102 = .ok (.iadd, 1) := by decide +kernel
theorem d_Model_materialRow_103 : decode b_Model_materialRow 103 = .ok (.iconst 0, 1) := by decide +kernel
theorem d_Model_materialRow_104 : decode b_Model_materialRow 104 = .ok (.iastore, 1) := by decide +kernel
theorem d_Model_materialRow_105 : decode b_Model_materialRow 105 = .ok (.aload_n 0, 1) := by decide +kernel
theorem d_Model_materialRow_106 : decode b_Model_materialRow 106 = .ok (.iload_n 1, 1) := by decide +kernel
theorem d_Model_materialRow_107 : decode b_Model_materialRow 107 = .ok (.invokevirtual 113, 3) := by decide +kernel
theorem d_Model_materialRow_110 : decode b_Model_materialRow 110 = .ok (.aload_n 0, 1) := by decide +kernel
theorem d_Model_materialRow_111 : decode b_Model_materialRow 111 = .ok (.getfield 85, 3) := by decide +kernel
theorem d_Model_materialRow_114 : decode b_Model_materialRow 114 = .ok (.ifCond .ge 33, 3) := by decide +kernel
theorem d_Model_materialRow_117 : decode b_Model_materialRow 117 = .ok (.aload_n 0, 1) := by decide +kernel
theorem d_Model_materialRow_118 : decode b_Model_materialRow 118 = .ok (.getfield 20, 3) := by decide +kernel
theorem d_Model_materialRow_121 : decode b_Model_materialRow 121 = .ok (.iload_n 1, 1) := by decide +kernel
theorem d_Model_materialRow_122 : decode b_Model_materialRow 122 = .ok (.bipush 9, 2) := by decide +kernel
theorem d_Model_materialRow_124 : decode b_Model_materialRow 124 = .ok (.iadd, 1) := by decide +kernel
theorem d_Model_materialRow_125 : decode b_Model_materialRow 125 = .ok (.iaload, 1) := by decide +kernel
theorem d_Model_materialRow_126 : decode b_Model_materialRow 126 = .ok (.iconst 3, 1) := by decide +kernel
theorem d_Model_materialRow_127 : decode b_Model_materialRow 127 = .ok (.if_icmp .ge 20, 3) := by decide +kernel
theorem d_Model_materialRow_130 : decode b_Model_materialRow 130 = .ok (.aload_n 0, 1) := by decide +kernel
theorem d_Model_materialRow_131 : decode b_Model_materialRow 131 = .ok (.invokevirtual 88, 3) := by decide +kernel
theorem d_Model_materialRow_134 : decode b_Model_materialRow 134 = .ok (.bipush 34, 2) := by decide +kernel
theorem d_Model_materialRow_136 : decode b_Model_materialRow 136 = .ok (.if_icmp .ne 11, 3) := by decide +kernel
theorem d_Model_materialRow_139 : decode b_Model_materialRow 139 = .ok (.aload_n 0, 1) := by decide +kernel
theorem d_Model_materialRow_140 : decode b_Model_materialRow 140 = .ok (.iload_n 1, 1) := by decide +kernel
theorem d_Model_materialRow_141 : decode b_Model_materialRow 141 = .ok (.invokevirtual 113, 3) := by decide +kernel
theorem d_Model_materialRow_144 : decode b_Model_materialRow 144 = .ok (.goto (-34), 3) := by decide +kernel
theorem d_Model_materialRow_147 : decode b_Model_materialRow 147 = .ok (.aload_n 0, 1) := by decide +kernel
theorem d_Model_materialRow_148 : decode b_Model_materialRow 148 = .ok (.bipush 99, 2) := by decide +kernel
theorem d_Model_materialRow_150 : decode b_Model_materialRow 150 = .ok (.invokevirtual 99, 3) := by decide +kernel
theorem d_Model_materialRow_153 : decode b_Model_materialRow 153 = .ok (.aload_n 0, 1) := by decide +kernel
theorem d_Model_materialRow_154 : decode b_Model_materialRow 154 = .ok (.getfield 20, 3) := by decide +kernel
theorem d_Model_materialRow_157 : decode b_Model_materialRow 157 = .ok (.iload_n 1, 1) := by decide +kernel
theorem d_Model_materialRow_158 : decode b_Model_materialRow 158 = .ok (.iconst 1, 1) := by decide +kernel
theorem d_Model_materialRow_159 : decode b_Model_materialRow 159 = .ok (.iadd, 1) := by decide +kernel
theorem d_Model_materialRow_160 : decode b_Model_materialRow 160 = .ok (.aload_n 0, 1) := by decide +kernel
theorem d_Model_materialRow_161 : decode b_Model_materialRow 161 = .ok (.iconst 1, 1) := by decide +kernel
theorem d_Model_materialRow_162 : decode b_Model_materialRow 162 = .ok (.bipush 9, 2) := by decide +kernel
theorem d_Model_materialRow_164 : decode b_Model_materialRow 164 = .ok (.invokevirtual 102, 3) := by decide +kernel
theorem d_Model_materialRow_167 : decode b_Model_materialRow 167 = .ok (.iastore, 1) := by decide +kernel
theorem d_Model_materialRow_168 : decode b_Model_materialRow 168 = .ok (.aload_n 0, 1) := by decide +kernel
theorem d_Model_materialRow_169 : decode b_Model_materialRow 169 = .ok (.iload_n 1, 1) := by decide +kernel
theorem d_Model_materialRow_170 : decode b_Model_materialRow 170 = .ok (.invokevirtual 116, 3) := by decide +kernel
theorem d_Model_materialRow_173 : decode b_Model_materialRow 173 = .ok (.aload_n 0, 1) := by decide +kernel
theorem d_Model_materialRow_174 : decode b_Model_materialRow 174 = .ok (.getfield 20, 3) := by decide +kernel
theorem d_Model_materialRow_177 : decode b_Model_materialRow 177 = .ok (.iload_n 1, 1) := by decide +kernel
theorem d_Model_materialRow_178 : decode b_Model_materialRow 178 = .ok (.bipush 8, 2) := by decide +kernel
theorem d_Model_materialRow_180 : decode b_Model_materialRow 180 = .ok (.iadd, 1) := by decide +kernel
theorem d_Model_materialRow_181 : decode b_Model_materialRow 181 = .ok (.iconst 0, 1) := by decide +kernel
theorem d_Model_materialRow_182 : decode b_Model_materialRow 182 = .ok (.iastore, 1) := by decide +kernel
theorem d_Model_materialRow_183 : decode b_Model_materialRow 183 = .ok (.aload_n 0, 1) := by decide +kernel
theorem d_Model_materialRow_184 : decode b_Model_materialRow 184 = .ok (.getfield 85, 3) := by decide +kernel
theorem d_Model_materialRow_187 : decode b_Model_materialRow 187 = .ok (.ifCond .ge 42, 3) := by decide +kernel
theorem d_Model_materialRow_190 : decode b_Model_materialRow 190 = .ok (.aload_n 0, 1) := by decide +kernel
theorem d_Model_materialRow_191 : decode b_Model_materialRow 191 = .ok (.invokevirtual 88, 3) := by decide +kernel
theorem d_Model_materialRow_194 : decode b_Model_materialRow 194 = .ok (.bipush 120, 2) := by decide +kernel
theorem d_Model_materialRow_196 : decode b_Model_materialRow 196 = .ok (.if_icmp .ne 33, 3) := by decide +kernel
theorem d_Model_materialRow_199 : decode b_Model_materialRow 199 = .ok (.aload_n 0, 1) := by decide +kernel
theorem d_Model_materialRow_200 : decode b_Model_materialRow 200 = .ok (.dup, 1) := by decide +kernel
theorem d_Model_materialRow_201 : decode b_Model_materialRow 201 = .ok (.getfield 78, 3) := by decide +kernel
theorem d_Model_materialRow_204 : decode b_Model_materialRow 204 = .ok (.iconst 1, 1) := by decide +kernel
theorem d_Model_materialRow_205 : decode b_Model_materialRow 205 = .ok (.iadd, 1) := by decide +kernel
theorem d_Model_materialRow_206 : decode b_Model_materialRow 206 = .ok (.putfield 78, 3) := by decide +kernel
theorem d_Model_materialRow_209 : decode b_Model_materialRow 209 = .ok (.aload_n 0, 1) := by decide +kernel
theorem d_Model_materialRow_210 : decode b_Model_materialRow 210 = .ok (.getfield 20, 3) := by decide +kernel
theorem d_Model_materialRow_213 : decode b_Model_materialRow 213 = .ok (.iload_n 1, 1) := by decide +kernel
theorem d_Model_materialRow_214 : decode b_Model_materialRow 214 = .ok (.bipush 8, 2) := by decide +kernel
theorem d_Model_materialRow_216 : decode b_Model_materialRow 216 = .ok (.iadd, 1) := by decide +kernel
theorem d_Model_materialRow_217 : decode b_Model_materialRow 217 = .ok (.aload_n 0, 1) := by decide +kernel
theorem d_Model_materialRow_218 : decode b_Model_materialRow 218 = .ok (.bipush 49, 2) := by decide +kernel
theorem d_Model_materialRow_220 : decode b_Model_materialRow 220 = .ok (.bipush 57, 2) := by decide +kernel
theorem d_Model_materialRow_222 : decode b_Model_materialRow 222 = .ok (.iconst 3, 1) := by decide +kernel
theorem d_Model_materialRow_223 : decode b_Model_materialRow 223 = .ok (.invokevirtual 106, 3) := by decide +kernel
theorem d_Model_materialRow_226 : decode b_Model_materialRow 226 = .ok (.iconst 1, 1) := by decide +kernel
theorem d_Model_materialRow_227 : decode b_Model_materialRow 227 = .ok (.ishl, 1) := by decide +kernel
theorem d_Model_materialRow_228 : decode b_Model_materialRow 228 = .ok (.iastore, 1) := by decide +kernel
theorem d_Model_materialRow_229 : decode b_Model_materialRow 229 = .ok (.aload_n 0, 1) := by decide +kernel
theorem d_Model_materialRow_230 : decode b_Model_materialRow 230 = .ok (.bipush 59, 2) := by decide +kernel
theorem d_Model_materialRow_232 : decode b_Model_materialRow 232 = .ok (.invokevirtual 99, 3) := by decide +kernel
theorem d_Model_materialRow_235 : decode b_Model_materialRow 235 = .ok (.aload_n 0, 1) := by decide +kernel
theorem d_Model_materialRow_236 : decode b_Model_materialRow 236 = .ok (.dup, 1) := by decide +kernel
theorem d_Model_materialRow_237 : decode b_Model_materialRow 237 = .ok (.getfield 110, 3) := by decide +kernel
theorem d_Model_materialRow_240 : decode b_Model_materialRow 240 = .ok (.iconst 1, 1) := by decide +kernel
theorem d_Model_materialRow_241 : decode b_Model_materialRow 241 = .ok (.iadd, 1) := by decide +kernel
theorem d_Model_materialRow_242 : decode b_Model_materialRow 242 = .ok (.putfield 110, 3) := by decide +kernel
theorem d_Model_materialRow_245 : decode b_Model_materialRow 245 = .ok (.return_, 1) := by decide +kernel
abbrev b_Model_generalRow : ByteArray := prog_8_method_16_code
abbrev y_Model_generalRow : MethodName := { cls := "HazardTablesModel", name := "generalRow", desc := "()V" }
abbrev w_Model_generalRow : List Cond := .code y_Model_generalRow b_Model_generalRow 2 none :: WA
theorem d_Model_generalRow_0 : decode b_Model_generalRow 0 = .ok (.sipush 516, 3) := by decide +kernel
theorem d_Model_generalRow_3 : decode b_Model_generalRow 3 = .ok (.istore_n 1, 1) := by decide +kernel
theorem d_Model_generalRow_4 : decode b_Model_generalRow 4 = .ok (.aload_n 0, 1) := by decide +kernel
theorem d_Model_generalRow_5 : decode b_Model_generalRow 5 = .ok (.getfield 119, 3) := by decide +kernel
theorem d_Model_generalRow_8 : decode b_Model_generalRow 8 = .ok (.ifCond .eq 13, 3) := by decide +kernel
theorem d_Model_generalRow_11 : decode b_Model_generalRow 11 = .ok (.aload_n 0, 1) := by decide +kernel
theorem d_Model_generalRow_12 : decode b_Model_generalRow 12 = .ok (.aload_n 0, 1) := by decide +kernel
theorem d_Model_generalRow_13 : decode b_Model_generalRow 13 = .ok (.getfield 78, 3) := by decide +kernel
theorem d_Model_generalRow_16 : decode b_Model_generalRow 16 = .ok (.iconst 1, 1) := by decide +kernel
theorem d_Model_generalRow_17 : decode b_Model_generalRow 17 = .ok (.isub, 1) := by decide +kernel
theorem d_Model_generalRow_18 : decode b_Model_generalRow 18 = .ok (.invokevirtual 91, 3) := by decide +kernel
theorem d_Model_generalRow_21 : decode b_Model_generalRow 21 = .ok (.aload_n 0, 1) := by decide +kernel
theorem d_Model_generalRow_22 : decode b_Model_generalRow 22 = .ok (.iconst 1, 1) := by decide +kernel
theorem d_Model_generalRow_23 : decode b_Model_generalRow 23 = .ok (.putfield 119, 3) := by decide +kernel
theorem d_Model_generalRow_26 : decode b_Model_generalRow 26 = .ok (.aload_n 0, 1) := by decide +kernel
theorem d_Model_generalRow_27 : decode b_Model_generalRow 27 = .ok (.getfield 20, 3) := by decide +kernel
theorem d_Model_generalRow_30 : decode b_Model_generalRow 30 = .ok (.iload_n 1, 1) := by decide +kernel
theorem d_Model_generalRow_31 : decode b_Model_generalRow 31 = .ok (.iconst 0, 1) := by decide +kernel
theorem d_Model_generalRow_32 : decode b_Model_generalRow 32 = .ok (.iadd, 1) := by decide +kernel
theorem d_Model_generalRow_33 : decode b_Model_generalRow 33 = .ok (.iconst 0, 1) := by decide +kernel
theorem d_Model_generalRow_34 : decode b_Model_generalRow 34 = .ok (.iastore, 1) := by decide +kernel
theorem d_Model_generalRow_35 : decode b_Model_generalRow 35 = .ok (.aload_n 0, 1) := by decide +kernel
theorem d_Model_generalRow_36 : decode b_Model_generalRow 36 = .ok (.getfield 20, 3) := by decide +kernel
theorem d_Model_generalRow_39 : decode b_Model_generalRow 39 = .ok (.iload_n 1, 1) := by decide +kernel
theorem d_Model_generalRow_40 : decode b_Model_generalRow 40 = .ok (.iconst 1, 1) := by decide +kernel
theorem d_Model_generalRow_41 : decode b_Model_generalRow 41 = .ok (.iadd, 1) := by decide +kernel
theorem d_Model_generalRow_42 : decode b_Model_generalRow 42 = .ok (.iconst 0, 1) := by decide +kernel
theorem d_Model_generalRow_43 : decode b_Model_generalRow 43 = .ok (.iastore, 1) := by decide +kernel
theorem d_Model_generalRow_44 : decode b_Model_generalRow 44 = .ok (.aload_n 0, 1) := by decide +kernel
theorem d_Model_generalRow_45 : decode b_Model_generalRow 45 = .ok (.getfield 20, 3) := by decide +kernel
theorem d_Model_generalRow_48 : decode b_Model_generalRow 48 = .ok (.iload_n 1, 1) := by decide +kernel
theorem d_Model_generalRow_49 : decode b_Model_generalRow 49 = .ok (.bipush 8, 2) := by decide +kernel
theorem d_Model_generalRow_51 : decode b_Model_generalRow 51 = .ok (.iadd, 1) := by decide +kernel
theorem d_Model_generalRow_52 : decode b_Model_generalRow 52 = .ok (.iconst 0, 1) := by decide +kernel
theorem d_Model_generalRow_53 : decode b_Model_generalRow 53 = .ok (.iastore, 1) := by decide +kernel
theorem d_Model_generalRow_54 : decode b_Model_generalRow 54 = .ok (.aload_n 0, 1) := by decide +kernel
theorem d_Model_generalRow_55 : decode b_Model_generalRow 55 = .ok (.getfield 20, 3) := by decide +kernel
theorem d_Model_generalRow_58 : decode b_Model_generalRow 58 = .ok (.iload_n 1, 1) := by decide +kernel
theorem d_Model_generalRow_59 : decode b_Model_generalRow 59 = .ok (.bipush 9, 2) := by decide +kernel
theorem d_Model_generalRow_61 : decode b_Model_generalRow 61 = .ok (.iadd, 1) := by decide +kernel
theorem d_Model_generalRow_62 : decode b_Model_generalRow 62 = .ok (.iconst 0, 1) := by decide +kernel
theorem d_Model_generalRow_63 : decode b_Model_generalRow 63 = .ok (.iastore, 1) := by decide +kernel
theorem d_Model_generalRow_64 : decode b_Model_generalRow 64 = .ok (.aload_n 0, 1) := by decide +kernel
theorem d_Model_generalRow_65 : decode b_Model_generalRow 65 = .ok (.iload_n 1, 1) := by decide +kernel
theorem d_Model_generalRow_66 : decode b_Model_generalRow 66 = .ok (.invokevirtual 116, 3) := by decide +kernel
theorem d_Model_generalRow_69 : decode b_Model_generalRow 69 = .ok (.aload_n 0, 1) := by decide +kernel
theorem d_Model_generalRow_70 : decode b_Model_generalRow 70 = .ok (.bipush 59, 2) := by decide +kernel
theorem d_Model_generalRow_72 : decode b_Model_generalRow 72 = .ok (.invokevirtual 99, 3) := by decide +kernel
theorem d_Model_generalRow_75 : decode b_Model_generalRow 75 = .ok (.return_, 1) := by decide +kernel
abbrev b_Model_read : ByteArray := prog_8_method_17_code
abbrev y_Model_read : MethodName := { cls := "HazardTablesModel", name := "read", desc := "()I" }
abbrev w_Model_read : List Cond := .code y_Model_read b_Model_read 2 (some .int) :: WA
theorem d_Model_read_0 : decode b_Model_read 0 = .ok (.aload_n 0, 1) := by decide +kernel
theorem d_Model_read_1 : decode b_Model_read 1 = .ok (.iconst 0, 1) := by decide +kernel
theorem d_Model_read_2 : decode b_Model_read 2 = .ok (.putfield 110, 3) := by decide +kernel
theorem d_Model_read_5 : decode b_Model_read 5 = .ok (.aload_n 0, 1) := by decide +kernel
theorem d_Model_read_6 : decode b_Model_read 6 = .ok (.iconst 0, 1) := by decide +kernel
theorem d_Model_read_7 : decode b_Model_read 7 = .ok (.putfield 119, 3) := by decide +kernel
theorem d_Model_read_10 : decode b_Model_read 10 = .ok (.aload_n 0, 1) := by decide +kernel
theorem d_Model_read_11 : decode b_Model_read 11 = .ok (.iconst 0, 1) := by decide +kernel
theorem d_Model_read_12 : decode b_Model_read 12 = .ok (.putfield 78, 3) := by decide +kernel
theorem d_Model_read_15 : decode b_Model_read 15 = .ok (.aload_n 0, 1) := by decide +kernel
theorem d_Model_read_16 : decode b_Model_read 16 = .ok (.iconst (-1), 1) := by decide +kernel
theorem d_Model_read_17 : decode b_Model_read 17 = .ok (.putfield 85, 3) := by decide +kernel
theorem d_Model_read_20 : decode b_Model_read 20 = .ok (.aload_n 0, 1) := by decide +kernel
theorem d_Model_read_21 : decode b_Model_read 21 = .ok (.getfield 85, 3) := by decide +kernel
theorem d_Model_read_24 : decode b_Model_read 24 = .ok (.ifCond .ge 64, 3) := by decide +kernel
theorem d_Model_read_27 : decode b_Model_read 27 = .ok (.aload_n 0, 1) := by decide +kernel
theorem d_Model_read_28 : decode b_Model_read 28 = .ok (.invokevirtual 88, 3) := by decide +kernel
theorem d_Model_read_31 : decode b_Model_read 31 = .ok (.ifCond .lt 57, 3) := by decide +kernel
theorem d_Model_read_34 : decode b_Model_read 34 = .ok (.aload_n 0, 1) := by decide +kernel
theorem d_Model_read_35 : decode b_Model_read 35 = .ok (.invokevirtual 81, 3) := by decide +kernel
theorem d_Model_read_38 : decode b_Model_read 38 = .ok (.istore_n 1, 1) := by decide +kernel
theorem d_Model_read_39 : decode b_Model_read 39 = .ok (.aload_n 0, 1) := by decide +kernel
theorem d_Model_read_40 : decode b_Model_read 40 = .ok (.dup, 1) := by decide +kernel
theorem d_Model_read_41 : decode b_Model_read 41 = .ok (.getfield 78, 3) := by decide +kernel
theorem d_Model_read_44 : decode b_Model_read 44 = .ok (.iconst 1, 1) := by decide +kernel
theorem d_Model_read_45 : decode b_Model_read 45 = .ok (.iadd, 1) := by decide +kernel
theorem d_Model_read_46 : decode b_Model_read 46 = .ok (.putfield 78, 3) := by decide +kernel
theorem d_Model_read_49 : decode b_Model_read 49 = .ok (.iload_n 1, 1) := by decide +kernel
theorem d_Model_read_50 : decode b_Model_read 50 = .ok (.bipush 109, 2) := by decide +kernel
theorem d_Model_read_52 : decode b_Model_read 52 = .ok (.if_icmp .ne 10, 3) := by decide +kernel
theorem d_Model_read_55 : decode b_Model_read 55 = .ok (.aload_n 0, 1) := by decide +kernel
theorem d_Model_read_56 : decode b_Model_read 56 = .ok (.invokevirtual 122, 3) := by decide +kernel
theorem d_Model_read_59 : decode b_Model_read 59 = .ok (.goto 26, 3) := by decide +kernel
theorem d_Model_read_62 : decode b_Model_read 62 = .ok (.iload_n 1, 1) := by decide +kernel
theorem d_Model_read_63 : decode b_Model_read 63 = .ok (.bipush 122, 2) := by decide +kernel
theorem d_Model_read_65 : decode b_Model_read 65 = .ok (.if_icmp .ne 10, 3) := by decide +kernel
theorem d_Model_read_68 : decode b_Model_read 68 = .ok (.aload_n 0, 1) := by decide +kernel
theorem d_Model_read_69 : decode b_Model_read 69 = .ok (.invokevirtual 125, 3) := by decide +kernel
theorem d_Model_read_72 : decode b_Model_read 72 = .ok (.goto 13, 3) := by decide +kernel
theorem d_Model_read_75 : decode b_Model_read 75 = .ok (.aload_n 0, 1) := by decide +kernel
theorem d_Model_read_76 : decode b_Model_read 76 = .ok (.aload_n 0, 1) := by decide +kernel
theorem d_Model_read_77 : decode b_Model_read 77 = .ok (.getfield 78, 3) := by decide +kernel
theorem d_Model_read_80 : decode b_Model_read 80 = .ok (.iconst 1, 1) := by decide +kernel
theorem d_Model_read_81 : decode b_Model_read 81 = .ok (.isub, 1) := by decide +kernel
theorem d_Model_read_82 : decode b_Model_read 82 = .ok (.invokevirtual 91, 3) := by decide +kernel
theorem d_Model_read_85 : decode b_Model_read 85 = .ok (.goto (-65), 3) := by decide +kernel
theorem d_Model_read_88 : decode b_Model_read 88 = .ok (.aload_n 0, 1) := by decide +kernel
theorem d_Model_read_89 : decode b_Model_read 89 = .ok (.iconst 0, 1) := by decide +kernel
theorem d_Model_read_90 : decode b_Model_read 90 = .ok (.putfield 71, 3) := by decide +kernel
theorem d_Model_read_93 : decode b_Model_read 93 = .ok (.aload_n 0, 1) := by decide +kernel
theorem d_Model_read_94 : decode b_Model_read 94 = .ok (.aload_n 0, 1) := by decide +kernel
theorem d_Model_read_95 : decode b_Model_read 95 = .ok (.getfield 85, 3) := by decide +kernel
theorem d_Model_read_98 : decode b_Model_read 98 = .ok (.putfield 13, 3) := by decide +kernel
theorem d_Model_read_101 : decode b_Model_read 101 = .ok (.aload_n 0, 1) := by decide +kernel
theorem d_Model_read_102 : decode b_Model_read 102 = .ok (.aload_n 0, 1) := by decide +kernel
theorem d_Model_read_103 : decode b_Model_read 103 = .ok (.getfield 85, 3) := by decide +kernel
theorem d_Model_read_106 : decode b_Model_read 106 = .ok (.ifCond .ge 7, 3) := by decide +kernel
theorem d_Model_read_109 : decode b_Model_read 109 = .ok (.iconst 1, 1) := by decide +kernel
theorem d_Model_read_110 : decode b_Model_read 110 = .ok (.goto 4, 3) := by decide +kernel
theorem d_Model_read_113 : decode b_Model_read 113 = .ok (.iconst 0, 1) := by decide +kernel
theorem d_Model_read_114 : decode b_Model_read 114 = .ok (.iconst 1, 1) := by decide +kernel
theorem d_Model_read_115 : decode b_Model_read 115 = .ok (.iconst 1, 1) := by decide +kernel
theorem d_Model_read_116 : decode b_Model_read 116 = .ok (.invokevirtual 74, 3) := by decide +kernel
theorem d_Model_read_119 : decode b_Model_read 119 = .ok (.ifCond .ne 5, 3) := by decide +kernel
theorem d_Model_read_122 : decode b_Model_read 122 = .ok (.iconst 0, 1) := by decide +kernel
theorem d_Model_read_123 : decode b_Model_read 123 = .ok (.ireturn, 1) := by decide +kernel
theorem d_Model_read_124 : decode b_Model_read 124 = .ok (.iconst 0, 1) := by decide +kernel
theorem d_Model_read_125 : decode b_Model_read 125 = .ok (.istore_n 1, 1) := by decide +kernel
theorem d_Model_read_126 : decode b_Model_read 126 = .ok (.iload_n 1, 1) := by decide +kernel
theorem d_Model_read_127 : decode b_Model_read 127 = .ok (.sipush 559, 3) := by decide +kernel
theorem d_Model_read_130 : decode b_Model_read 130 = .ok (.if_icmp .ge 21, 3) := by decide +kernel
theorem d_Model_read_133 : decode b_Model_read 133 = .ok (.aload_n 0, 1) := by decide +kernel
theorem d_Model_read_134 : decode b_Model_read 134 = .ok (.getfield 17, 3) := by decide +kernel
theorem d_Model_read_137 : decode b_Model_read 137 = .ok (.iload_n 1, 1) := by decide +kernel
theorem d_Model_read_138 : decode b_Model_read 138 = .ok (.aload_n 0, 1) := by decide +kernel
theorem d_Model_read_139 : decode b_Model_read 139 = .ok (.getfield 20, 3) := by decide +kernel
theorem d_Model_read_142 : decode b_Model_read 142 = .ok (.iload_n 1, 1) := by decide +kernel
theorem d_Model_read_143 : decode b_Model_read 143 = .ok (.iaload, 1) := by decide +kernel
theorem d_Model_read_144 : decode b_Model_read 144 = .ok (.iastore, 1) := by decide +kernel
theorem d_Model_read_145 : decode b_Model_read 145 = .ok (.iinc 1 1, 3) := by decide +kernel
theorem d_Model_read_148 : decode b_Model_read 148 = .ok (.goto (-22), 3) := by decide +kernel
theorem d_Model_read_151 : decode b_Model_read 151 = .ok (.aload_n 0, 1) := by decide +kernel
theorem d_Model_read_152 : decode b_Model_read 152 = .ok (.aload_n 0, 1) := by decide +kernel
theorem d_Model_read_153 : decode b_Model_read 153 = .ok (.getfield 110, 3) := by decide +kernel
theorem d_Model_read_156 : decode b_Model_read 156 = .ok (.putfield 128, 3) := by decide +kernel
theorem d_Model_read_159 : decode b_Model_read 159 = .ok (.aload_n 0, 1) := by decide +kernel
theorem d_Model_read_160 : decode b_Model_read 160 = .ok (.aload_n 0, 1) := by decide +kernel
theorem d_Model_read_161 : decode b_Model_read 161 = .ok (.getfield 119, 3) := by decide +kernel
theorem d_Model_read_164 : decode b_Model_read 164 = .ok (.putfield 131, 3) := by decide +kernel
theorem d_Model_read_167 : decode b_Model_read 167 = .ok (.aload_n 0, 1) := by decide +kernel
theorem d_Model_read_168 : decode b_Model_read 168 = .ok (.iconst 0, 1) := by decide +kernel
theorem d_Model_read_169 : decode b_Model_read 169 = .ok (.putfield 134, 3) := by decide +kernel
theorem d_Model_read_172 : decode b_Model_read 172 = .ok (.aload_n 0, 1) := by decide +kernel
theorem d_Model_read_173 : decode b_Model_read 173 = .ok (.invokevirtual 137, 3) := by decide +kernel
theorem d_Model_read_176 : decode b_Model_read 176 = .ok (.aload_n 0, 1) := by decide +kernel
theorem d_Model_read_177 : decode b_Model_read 177 = .ok (.getfield 128, 3) := by decide +kernel
theorem d_Model_read_180 : decode b_Model_read 180 = .ok (.ireturn, 1) := by decide +kernel
abbrev b_Model_place : ByteArray := prog_8_method_18_code
abbrev y_Model_place : MethodName := { cls := "HazardTablesModel", name := "place", desc := "()I" }
abbrev w_Model_place : List Cond := .code y_Model_place b_Model_place 1 (some .int) :: WA
theorem d_Model_place_0 : decode b_Model_place 0 = .ok (.aload_n 0, 1) := by decide +kernel
theorem d_Model_place_1 : decode b_Model_place 1 = .ok (.iconst 0, 1) := by decide +kernel
theorem d_Model_place_2 : decode b_Model_place 2 = .ok (.putfield 64, 3) := by decide +kernel
theorem d_Model_place_5 : decode b_Model_place 5 = .ok (.aload_n 0, 1) := by decide +kernel
theorem d_Model_place_6 : decode b_Model_place 6 = .ok (.getfield 13, 3) := by decide +kernel
theorem d_Model_place_9 : decode b_Model_place 9 = .ok (.ireturn, 1) := by decide +kernel
abbrev b_Model_find : ByteArray := prog_8_method_19_code
abbrev y_Model_find : MethodName := { cls := "HazardTablesModel", name := "find", desc := "(I)I" }
abbrev w_Model_find : List Cond := .code y_Model_find b_Model_find 3 (some .int) :: WA
theorem d_Model_find_0 : decode b_Model_find 0 = .ok (.iconst 0, 1) := by decide +kernel
theorem d_Model_find_1 : decode b_Model_find 1 = .ok (.istore_n 2, 1) := by decide +kernel
theorem d_Model_find_2 : decode b_Model_find 2 = .ok (.iload_n 2, 1) := by decide +kernel
theorem d_Model_find_3 : decode b_Model_find 3 = .ok (.aload_n 0, 1) := by decide +kernel
theorem d_Model_find_4 : decode b_Model_find 4 = .ok (.getfield 128, 3) := by decide +kernel
theorem d_Model_find_7 : decode b_Model_find 7 = .ok (.if_icmp .ge 26, 3) := by decide +kernel
theorem d_Model_find_10 : decode b_Model_find 10 = .ok (.aload_n 0, 1) := by decide +kernel
theorem d_Model_find_11 : decode b_Model_find 11 = .ok (.getfield 17, 3) := by decide +kernel
theorem d_Model_find_14 : decode b_Model_find 14 = .ok (.iload_n 2, 1) := by decide +kernel
theorem d_Model_find_15 : decode b_Model_find 15 = .ok (.bipush 43, 2) := by decide +kernel
theorem d_Model_find_17 : decode b_Model_find 17 = .ok (.imul, 1) := by decide +kernel
theorem d_Model_find_18 : decode b_Model_find 18 = .ok (.iconst 0, 1) := by decide +kernel
theorem d_Model_find_19 : decode b_Model_find 19 = .ok (.iadd, 1) := by decide +kernel
theorem d_Model_find_20 : decode b_Model_find 20 = .ok (.iaload, 1) := by decide +kernel
theorem d_Model_find_21 : decode b_Model_find 21 = .ok (.iload_n 1, 1) := by decide +kernel
theorem d_Model_find_22 : decode b_Model_find 22 = .ok (.if_icmp .ne 5, 3) := by decide +kernel
theorem d_Model_find_25 : decode b_Model_find 25 = .ok (.iload_n 2, 1) := by decide +kernel
theorem d_Model_find_26 : decode b_Model_find 26 = .ok (.ireturn, 1) := by decide +kernel
theorem d_Model_find_27 : decode b_Model_find 27 = .ok (.iinc 2 1, 3) := by decide +kernel
theorem d_Model_find_30 : decode b_Model_find 30 = .ok (.goto (-28), 3) := by decide +kernel
theorem d_Model_find_33 : decode b_Model_find 33 = .ok (.iconst (-1), 1) := by decide +kernel
theorem d_Model_find_34 : decode b_Model_find 34 = .ok (.ireturn, 1) := by decide +kernel
abbrev b_Model_material : ByteArray := prog_8_method_20_code
abbrev y_Model_material : MethodName := { cls := "HazardTablesModel", name := "material", desc := "(II)I" }
abbrev w_Model_material : List Cond := .code y_Model_material b_Model_material 4 (some .int) :: WA
theorem d_Model_material_0 : decode b_Model_material 0 = .ok (.iload_n 1, 1) := by decide +kernel
theorem d_Model_material_1 : decode b_Model_material 1 = .ok (.ifCond .ne 19, 3) := by decide +kernel
theorem d_Model_material_4 : decode b_Model_material 4 = .ok (.aload_n 0, 1) := by decide +kernel
theorem d_Model_material_5 : decode b_Model_material 5 = .ok (.getfield 131, 3) := by decide +kernel
theorem d_Model_material_8 : decode b_Model_material 8 = .ok (.ifCond .eq 8, 3) := by decide +kernel
theorem d_Model_material_11 : decode b_Model_material 11 = .ok (.bipush 12, 2) := by decide +kernel
theorem d_Model_material_13 : decode b_Model_material 13 = .ok (.goto 12, 3) := by decide +kernel
theorem d_Model_material_16 : decode b_Model_material 16 = .ok (.iconst (-1), 1) := by decide +kernel
theorem d_Model_material_17 : decode b_Model_material 17 = .ok (.goto 8, 3) := by decide +kernel
theorem d_Model_material_20 : decode b_Model_material 20 = .ok (.aload_n 0, 1) := by decide +kernel
theorem d_Model_material_21 : decode b_Model_material 21 = .ok (.iload_n 1, 1) := by decide +kernel
theorem d_Model_material_22 : decode b_Model_material 22 = .ok (.invokevirtual 140, 3) := by decide +kernel
theorem d_Model_material_25 : decode b_Model_material 25 = .ok (.istore_n 3, 1) := by decide +kernel
theorem d_Model_material_26 : decode b_Model_material 26 = .ok (.aload_n 0, 1) := by decide +kernel
theorem d_Model_material_27 : decode b_Model_material 27 = .ok (.iload_n 3, 1) := by decide +kernel
theorem d_Model_material_28 : decode b_Model_material 28 = .ok (.ifCond .lt 17, 3) := by decide +kernel
theorem d_Model_material_31 : decode b_Model_material 31 = .ok (.iload_n 2, 1) := by decide +kernel
theorem d_Model_material_32 : decode b_Model_material 32 = .ok (.iconst 0, 1) := by decide +kernel
theorem d_Model_material_33 : decode b_Model_material 33 = .ok (.bipush 8, 2) := by decide +kernel
theorem d_Model_material_35 : decode b_Model_material 35 = .ok (.invokestatic 67, 3) := by decide +kernel
theorem d_Model_material_38 : decode b_Model_material 38 = .ok (.ifCond .eq 7, 3) := by decide +kernel
theorem d_Model_material_41 : decode b_Model_material 41 = .ok (.iconst 1, 1) := by decide +kernel
theorem d_Model_material_42 : decode b_Model_material 42 = .ok (.goto 4, 3) := by decide +kernel
theorem d_Model_material_45 : decode b_Model_material 45 = .ok (.iconst 0, 1) := by decide +kernel
theorem d_Model_material_46 : decode b_Model_material 46 = .ok (.iconst 1, 1) := by decide +kernel
theorem d_Model_material_47 : decode b_Model_material 47 = .ok (.iconst 1, 1) := by decide +kernel
theorem d_Model_material_48 : decode b_Model_material 48 = .ok (.invokevirtual 74, 3) := by decide +kernel
theorem d_Model_material_51 : decode b_Model_material 51 = .ok (.ifCond .ne 5, 3) := by decide +kernel
theorem d_Model_material_54 : decode b_Model_material 54 = .ok (.iconst 0, 1) := by decide +kernel
theorem d_Model_material_55 : decode b_Model_material 55 = .ok (.ireturn, 1) := by decide +kernel
theorem d_Model_material_56 : decode b_Model_material 56 = .ok (.aload_n 0, 1) := by decide +kernel
theorem d_Model_material_57 : decode b_Model_material 57 = .ok (.getfield 17, 3) := by decide +kernel
theorem d_Model_material_60 : decode b_Model_material 60 = .ok (.iload_n 3, 1) := by decide +kernel
theorem d_Model_material_61 : decode b_Model_material 61 = .ok (.bipush 43, 2) := by decide +kernel
theorem d_Model_material_63 : decode b_Model_material 63 = .ok (.imul, 1) := by decide +kernel
theorem d_Model_material_64 : decode b_Model_material 64 = .ok (.iload_n 2, 1) := by decide +kernel
theorem d_Model_material_65 : decode b_Model_material 65 = .ok (.iconst 3, 1) := by decide +kernel
theorem d_Model_material_66 : decode b_Model_material 66 = .ok (.if_icmp .ge 9, 3) := by decide +kernel
theorem d_Model_material_69 : decode b_Model_material 69 = .ok (.iconst 1, 1) := by decide +kernel
theorem d_Model_material_70 : decode b_Model_material 70 = .ok (.iload_n 2, 1) := by decide +kernel
theorem d_Model_material_71 : decode b_Model_material 71 = .ok (.iadd, 1) := by decide +kernel
theorem d_Model_material_72 : decode b_Model_material 72 = .ok (.goto 30, 3) := by decide +kernel
theorem d_Model_material_75 : decode b_Model_material 75 = .ok (.iload_n 2, 1) := by decide +kernel
theorem d_Model_material_76 : decode b_Model_material 76 = .ok (.bipush 7, 2) := by decide +kernel
theorem d_Model_material_78 : decode b_Model_material 78 = .ok (.if_icmp .ge 11, 3) := by decide +kernel
theorem d_Model_material_81 : decode b_Model_material 81 = .ok (.iconst 4, 1) := by decide +kernel
theorem d_Model_material_82 : decode b_Model_material 82 = .ok (.iload_n 2, 1) := by decide +kernel
theorem d_Model_material_83 : decode b_Model_material 83 = .ok (.iadd, 1) := by decide +kernel
theorem d_Model_material_84 : decode b_Model_material 84 = .ok (.iconst 3, 1) := by decide +kernel
theorem d_Model_material_85 : decode b_Model_material 85 = .ok (.isub, 1) := by decide +kernel
theorem d_Model_material_86 : decode b_Model_material 86 = .ok (.goto 16, 3) := by decide +kernel
theorem d_Model_material_89 : decode b_Model_material 89 = .ok (.iload_n 2, 1) := by decide +kernel
theorem d_Model_material_90 : decode b_Model_material 90 = .ok (.bipush 7, 2) := by decide +kernel
theorem d_Model_material_92 : decode b_Model_material 92 = .ok (.if_icmp .ne 8, 3) := by decide +kernel
theorem d_Model_material_95 : decode b_Model_material 95 = .ok (.bipush 8, 2) := by decide +kernel
theorem d_Model_material_97 : decode b_Model_material 97 = .ok (.goto 5, 3) := by decide +kernel
theorem d_Model_material_100 : decode b_Model_material 100 = .ok (.bipush 9, 2) := by decide +kernel
theorem d_Model_material_102 : decode b_Model_material 102 = .ok (.iadd, 1) := by decide +kernel
theorem d_Model_material_103 : decode b_Model_material 103 = .ok (.iaload, 1) := by decide +kernel
theorem d_Model_material_104 : decode b_Model_material 104 = .ok (.ireturn, 1) := by decide +kernel
abbrev b_Model_least : ByteArray := prog_8_method_21_code
abbrev y_Model_least : MethodName := { cls := "HazardTablesModel", name := "least", desc := "(II)I" }
abbrev w_Model_least : List Cond := .code y_Model_least b_Model_least 2 (some .int) :: WA
theorem d_Model_least_0 : decode b_Model_least 0 = .ok (.iload_n 0, 1) := by decide +kernel
theorem d_Model_least_1 : decode b_Model_least 1 = .ok (.iload_n 1, 1) := by decide +kernel
theorem d_Model_least_2 : decode b_Model_least 2 = .ok (.if_icmp .ge 7, 3) := by decide +kernel
theorem d_Model_least_5 : decode b_Model_least 5 = .ok (.iload_n 0, 1) := by decide +kernel
theorem d_Model_least_6 : decode b_Model_least 6 = .ok (.goto 4, 3) := by decide +kernel
theorem d_Model_least_9 : decode b_Model_least 9 = .ok (.iload_n 1, 1) := by decide +kernel
theorem d_Model_least_10 : decode b_Model_least 10 = .ok (.ireturn, 1) := by decide +kernel
abbrev b_Model_apart : ByteArray := prog_8_method_22_code
abbrev y_Model_apart : MethodName := { cls := "HazardTablesModel", name := "apart", desc := "(I)I" }
abbrev w_Model_apart : List Cond := .code y_Model_apart b_Model_apart 6 (some .int) :: WA
theorem d_Model_apart_0 : decode b_Model_apart 0 = .ok (.aload_n 0, 1) := by decide +kernel
theorem d_Model_apart_1 : decode b_Model_apart 1 = .ok (.getfield 17, 3) := by decide +kernel
theorem d_Model_apart_4 : decode b_Model_apart 4 = .ok (.iload_n 1, 1) := by decide +kernel
theorem d_Model_apart_5 : decode b_Model_apart 5 = .ok (.iaload, 1) := by decide +kernel
theorem d_Model_apart_6 : decode b_Model_apart 6 = .ok (.istore_n 2, 1) := by decide +kernel
theorem d_Model_apart_7 : decode b_Model_apart 7 = .ok (.iconst 0, 1) := by decide +kernel
theorem d_Model_apart_8 : decode b_Model_apart 8 = .ok (.istore_n 3, 1) := by decide +kernel
theorem d_Model_apart_9 : decode b_Model_apart 9 = .ok (.iload_n 3, 1) := by decide +kernel
theorem d_Model_apart_10 : decode b_Model_apart 10 = .ok (.aload_n 0, 1) := by decide +kernel
theorem d_Model_apart_11 : decode b_Model_apart 11 = .ok (.getfield 134, 3) := by decide +kernel
theorem d_Model_apart_14 : decode b_Model_apart 14 = .ok (.if_icmp .gt 137, 3) := by decide +kernel
theorem d_Model_apart_17 : decode b_Model_apart 17 = .ok (.iconst 0, 1) := by decide +kernel
theorem d_Model_apart_18 : decode b_Model_apart 18 = .ok (.istore 4, 2) := by decide +kernel
theorem d_Model_apart_20 : decode b_Model_apart 20 = .ok (.iload 4, 2) := by decide +kernel
theorem d_Model_apart_22 : decode b_Model_apart 22 = .ok (.iload_n 2, 1) := by decide +kernel
theorem d_Model_apart_23 : decode b_Model_apart 23 = .ok (.if_icmp .gt 122, 3) := by decide +kernel
theorem d_Model_apart_26 : decode b_Model_apart 26 = .ok (.iload_n 3, 1) := by decide +kernel
theorem d_Model_apart_27 : decode b_Model_apart 27 = .ok (.iload 4, 2) := by decide +kernel
theorem d_Model_apart_29 : decode b_Model_apart 29 = .ok (.iadd, 1) := by decide +kernel
theorem d_Model_apart_30 : decode b_Model_apart 30 = .ok (.istore 5, 2) := by decide +kernel
theorem d_Model_apart_32 : decode b_Model_apart 32 = .ok (.iload_n 3, 1) := by decide +kernel
theorem d_Model_apart_33 : decode b_Model_apart 33 = .ok (.ifCond .le 92, 3) := by decide +kernel
theorem d_Model_apart_36 : decode b_Model_apart 36 = .ok (.iload 4, 2) := by decide +kernel
theorem d_Model_apart_38 : decode b_Model_apart 38 = .ok (.ifCond .le 87, 3) := by decide +kernel
theorem d_Model_apart_41 : decode b_Model_apart 41 = .ok (.aload_n 0, 1) := by decide +kernel
theorem d_Model_apart_42 : decode b_Model_apart 42 = .ok (.getfield 61, 3) := by decide +kernel
theorem d_Model_apart_45 : decode b_Model_apart 45 = .ok (.iload_n 3, 1) := by decide +kernel
theorem d_Model_apart_46 : decode b_Model_apart 46 = .ok (.iconst 1, 1) := by decide +kernel
theorem d_Model_apart_47 : decode b_Model_apart 47 = .ok (.isub, 1) := by decide +kernel
theorem d_Model_apart_48 : decode b_Model_apart 48 = .ok (.bipush 11, 2) := by decide +kernel
theorem d_Model_apart_50 : decode b_Model_apart 50 = .ok (.imul, 1) := by decide +kernel
theorem d_Model_apart_51 : decode b_Model_apart 51 = .ok (.iload 4, 2) := by decide +kernel
theorem d_Model_apart_53 : decode b_Model_apart 53 = .ok (.iadd, 1) := by decide +kernel
theorem d_Model_apart_54 : decode b_Model_apart 54 = .ok (.iconst 1, 1) := by decide +kernel
theorem d_Model_apart_55 : decode b_Model_apart 55 = .ok (.isub, 1) := by decide +kernel
theorem d_Model_apart_56 : decode b_Model_apart 56 = .ok (.iaload, 1) := by decide +kernel
theorem d_Model_apart_57 : decode b_Model_apart 57 = .ok (.aload_n 0, 1) := by decide +kernel
theorem d_Model_apart_58 : decode b_Model_apart 58 = .ok (.getfield 58, 3) := by decide +kernel
theorem d_Model_apart_61 : decode b_Model_apart 61 = .ok (.iload_n 3, 1) := by decide +kernel
theorem d_Model_apart_62 : decode b_Model_apart 62 = .ok (.iconst 1, 1) := by decide +kernel
theorem d_Model_apart_63 : decode b_Model_apart 63 = .ok (.isub, 1) := by decide +kernel
theorem d_Model_apart_64 : decode b_Model_apart 64 = .ok (.iaload, 1) := by decide +kernel
theorem d_Model_apart_65 : decode b_Model_apart 65 = .ok (.aload_n 0, 1) := by decide +kernel
theorem d_Model_apart_66 : decode b_Model_apart 66 = .ok (.getfield 17, 3) := by decide +kernel
theorem d_Model_apart_69 : decode b_Model_apart 69 = .ok (.iload_n 1, 1) := by decide +kernel
theorem d_Model_apart_70 : decode b_Model_apart 70 = .ok (.iload 4, 2) := by decide +kernel
theorem d_Model_apart_72 : decode b_Model_apart 72 = .ok (.iadd, 1) := by decide +kernel
theorem d_Model_apart_73 : decode b_Model_apart 73 = .ok (.iaload, 1) := by decide +kernel
theorem d_Model_apart_74 : decode b_Model_apart 74 = .ok (.if_icmp .ne 7, 3) := by decide +kernel
theorem d_Model_apart_77 : decode b_Model_apart 77 = .ok (.iconst 0, 1) := by decide +kernel
theorem d_Model_apart_78 : decode b_Model_apart 78 = .ok (.goto 4, 3) := by decide +kernel
theorem d_Model_apart_81 : decode b_Model_apart 81 = .ok (.iconst 1, 1) := by decide +kernel
theorem d_Model_apart_82 : decode b_Model_apart 82 = .ok (.iadd, 1) := by decide +kernel
theorem d_Model_apart_83 : decode b_Model_apart 83 = .ok (.istore 5, 2) := by decide +kernel
theorem d_Model_apart_85 : decode b_Model_apart 85 = .ok (.iload 5, 2) := by decide +kernel
theorem d_Model_apart_87 : decode b_Model_apart 87 = .ok (.aload_n 0, 1) := by decide +kernel
theorem d_Model_apart_88 : decode b_Model_apart 88 = .ok (.getfield 61, 3) := by decide +kernel
theorem d_Model_apart_91 : decode b_Model_apart 91 = .ok (.iload_n 3, 1) := by decide +kernel
theorem d_Model_apart_92 : decode b_Model_apart 92 = .ok (.iconst 1, 1) := by decide +kernel
theorem d_Model_apart_93 : decode b_Model_apart 93 = .ok (.isub, 1) := by decide +kernel
theorem d_Model_apart_94 : decode b_Model_apart 94 = .ok (.bipush 11, 2) := by decide +kernel
theorem d_Model_apart_96 : decode b_Model_apart 96 = .ok (.imul, 1) := by decide +kernel
theorem d_Model_apart_97 : decode b_Model_apart 97 = .ok (.iload 4, 2) := by decide +kernel
theorem d_Model_apart_99 : decode b_Model_apart 99 = .ok (.iadd, 1) := by decide +kernel
theorem d_Model_apart_100 : decode b_Model_apart 100 = .ok (.iaload, 1) := by decide +kernel
theorem d_Model_apart_101 : decode b_Model_apart 101 = .ok (.aload_n 0, 1) := by decide +kernel
theorem d_Model_apart_102 : decode b_Model_apart 102 = .ok (.getfield 61, 3) := by decide +kernel
theorem d_Model_apart_105 : decode b_Model_apart 105 = .ok (.iload_n 3, 1) := by decide +kernel
theorem d_Model_apart_106 : decode b_Model_apart 106 = .ok (.bipush 11, 2) := by decide +kernel
theorem d_Model_apart_108 : decode b_Model_apart 108 = .ok (.imul, 1) := by decide +kernel
theorem d_Model_apart_109 : decode b_Model_apart 109 = .ok (.iload 4, 2) := by decide +kernel
theorem d_Model_apart_111 : decode b_Model_apart 111 = .ok (.iadd, 1) := by decide +kernel
theorem d_Model_apart_112 : decode b_Model_apart 112 = .ok (.iconst 1, 1) := by decide +kernel
theorem d_Model_apart_113 : decode b_Model_apart 113 = .ok (.isub, 1) := by decide +kernel
theorem d_Model_apart_114 : decode b_Model_apart 114 = .ok (.iaload, 1) := by decide +kernel
theorem d_Model_apart_115 : decode b_Model_apart 115 = .ok (.invokestatic 144, 3) := by decide +kernel
theorem d_Model_apart_118 : decode b_Model_apart 118 = .ok (.iconst 1, 1) := by decide +kernel
theorem d_Model_apart_119 : decode b_Model_apart 119 = .ok (.iadd, 1) := by decide +kernel
theorem d_Model_apart_120 : decode b_Model_apart 120 = .ok (.invokestatic 144, 3) := by decide +kernel
theorem d_Model_apart_123 : decode b_Model_apart 123 = .ok (.istore 5, 2) := by decide +kernel
theorem d_Model_apart_125 : decode b_Model_apart 125 = .ok (.aload_n 0, 1) := by decide +kernel
theorem d_Model_apart_126 : decode b_Model_apart 126 = .ok (.getfield 61, 3) := by decide +kernel
theorem d_Model_apart_129 : decode b_Model_apart 129 = .ok (.iload_n 3, 1) := by decide +kernel
theorem d_Model_apart_130 : decode b_Model_apart 130 = .ok (.bipush 11, 2) := by decide +kernel
theorem d_Model_apart_132 : decode b_Model_apart 132 = .ok (.imul, 1) := by decide +kernel
theorem d_Model_apart_133 : decode b_Model_apart 133 = .ok (.iload 4, 2) := by decide +kernel
theorem d_Model_apart_135 : decode b_Model_apart 135 = .ok (.iadd, 1) := by decide +kernel
theorem d_Model_apart_136 : decode b_Model_apart 136 = .ok (.iload 5, 2) := by decide +kernel
theorem d_Model_apart_138 : decode b_Model_apart 138 = .ok (.iastore, 1) := by decide +kernel
theorem d_Model_apart_139 : decode b_Model_apart 139 = .ok (.iinc 4 1, 3) := by decide +kernel
theorem d_Model_apart_142 : decode b_Model_apart 142 = .ok (.goto (-122), 3) := by decide +kernel
theorem d_Model_apart_145 : decode b_Model_apart 145 = .ok (.iinc 3 1, 3) := by decide +kernel
theorem d_Model_apart_148 : decode b_Model_apart 148 = .ok (.goto (-139), 3) := by decide +kernel
theorem d_Model_apart_151 : decode b_Model_apart 151 = .ok (.aload_n 0, 1) := by decide +kernel
theorem d_Model_apart_152 : decode b_Model_apart 152 = .ok (.getfield 61, 3) := by decide +kernel
theorem d_Model_apart_155 : decode b_Model_apart 155 = .ok (.aload_n 0, 1) := by decide +kernel
theorem d_Model_apart_156 : decode b_Model_apart 156 = .ok (.getfield 134, 3) := by decide +kernel
theorem d_Model_apart_159 : decode b_Model_apart 159 = .ok (.bipush 11, 2) := by decide +kernel
theorem d_Model_apart_161 : decode b_Model_apart 161 = .ok (.imul, 1) := by decide +kernel
theorem d_Model_apart_162 : decode b_Model_apart 162 = .ok (.iload_n 2, 1) := by decide +kernel
theorem d_Model_apart_163 : decode b_Model_apart 163 = .ok (.iadd, 1) := by decide +kernel
theorem d_Model_apart_164 : decode b_Model_apart 164 = .ok (.iaload, 1) := by decide +kernel
theorem d_Model_apart_165 : decode b_Model_apart 165 = .ok (.ireturn, 1) := by decide +kernel
abbrev b_Model_nearest : ByteArray := prog_8_method_23_code
abbrev y_Model_nearest : MethodName := { cls := "HazardTablesModel", name := "nearest", desc := "(I)I" }
abbrev w_Model_nearest : List Cond := .code y_Model_nearest b_Model_nearest 4 (some .int) :: WA
theorem d_Model_nearest_0 : decode b_Model_nearest 0 = .ok (.bipush 99, 2) := by decide +kernel
theorem d_Model_nearest_2 : decode b_Model_nearest 2 = .ok (.istore_n 2, 1) := by decide +kernel
theorem d_Model_nearest_3 : decode b_Model_nearest 3 = .ok (.iconst 0, 1) := by decide +kernel
theorem d_Model_nearest_4 : decode b_Model_nearest 4 = .ok (.istore_n 3, 1) := by decide +kernel
theorem d_Model_nearest_5 : decode b_Model_nearest 5 = .ok (.iload_n 3, 1) := by decide +kernel
theorem d_Model_nearest_6 : decode b_Model_nearest 6 = .ok (.aload_n 0, 1) := by decide +kernel
theorem d_Model_nearest_7 : decode b_Model_nearest 7 = .ok (.getfield 17, 3) := by decide +kernel
theorem d_Model_nearest_10 : decode b_Model_nearest 10 = .ok (.iload_n 1, 1) := by decide +kernel
theorem d_Model_nearest_11 : decode b_Model_nearest 11 = .ok (.bipush 43, 2) := by decide +kernel
theorem d_Model_nearest_13 : decode b_Model_nearest 13 = .ok (.imul, 1) := by decide +kernel
theorem d_Model_nearest_14 : decode b_Model_nearest 14 = .ok (.bipush 9, 2) := by decide +kernel
theorem d_Model_nearest_16 : decode b_Model_nearest 16 = .ok (.iadd, 1) := by decide +kernel
theorem d_Model_nearest_17 : decode b_Model_nearest 17 = .ok (.iaload, 1) := by decide +kernel
theorem d_Model_nearest_18 : decode b_Model_nearest 18 = .ok (.if_icmp .ge 30, 3) := by decide +kernel
theorem d_Model_nearest_21 : decode b_Model_nearest 21 = .ok (.iload_n 2, 1) := by decide +kernel
theorem d_Model_nearest_22 : decode b_Model_nearest 22 = .ok (.aload_n 0, 1) := by decide +kernel
theorem d_Model_nearest_23 : decode b_Model_nearest 23 = .ok (.iload_n 1, 1) := by decide +kernel
theorem d_Model_nearest_24 : decode b_Model_nearest 24 = .ok (.bipush 43, 2) := by decide +kernel
theorem d_Model_nearest_26 : decode b_Model_nearest 26 = .ok (.imul, 1) := by decide +kernel
theorem d_Model_nearest_27 : decode b_Model_nearest 27 = .ok (.bipush 10, 2) := by decide +kernel
theorem d_Model_nearest_29 : decode b_Model_nearest 29 = .ok (.iadd, 1) := by decide +kernel
theorem d_Model_nearest_30 : decode b_Model_nearest 30 = .ok (.bipush 11, 2) := by decide +kernel
theorem d_Model_nearest_32 : decode b_Model_nearest 32 = .ok (.iload_n 3, 1) := by decide +kernel
theorem d_Model_nearest_33 : decode b_Model_nearest 33 = .ok (.imul, 1) := by decide +kernel
theorem d_Model_nearest_34 : decode b_Model_nearest 34 = .ok (.iadd, 1) := by decide +kernel
theorem d_Model_nearest_35 : decode b_Model_nearest 35 = .ok (.invokevirtual 147, 3) := by decide +kernel
theorem d_Model_nearest_38 : decode b_Model_nearest 38 = .ok (.invokestatic 144, 3) := by decide +kernel
theorem d_Model_nearest_41 : decode b_Model_nearest 41 = .ok (.istore_n 2, 1) := by decide +kernel
theorem d_Model_nearest_42 : decode b_Model_nearest 42 = .ok (.iinc 3 1, 3) := by decide +kernel
theorem d_Model_nearest_45 : decode b_Model_nearest 45 = .ok (.goto (-40), 3) := by decide +kernel
theorem d_Model_nearest_48 : decode b_Model_nearest 48 = .ok (.iload_n 2, 1) := by decide +kernel
theorem d_Model_nearest_49 : decode b_Model_nearest 49 = .ok (.ireturn, 1) := by decide +kernel
abbrev b_Model_following : ByteArray := prog_8_method_24_code
abbrev y_Model_following : MethodName := { cls := "HazardTablesModel", name := "following", desc := "(I)I" }
abbrev w_Model_following : List Cond := .code y_Model_following b_Model_following 6 (some .int) :: WA
theorem d_Model_following_0 : decode b_Model_following 0 = .ok (.iconst (-1), 1) := by decide +kernel
theorem d_Model_following_1 : decode b_Model_following 1 = .ok (.istore_n 2, 1) := by decide +kernel
theorem d_Model_following_2 : decode b_Model_following 2 = .ok (.iconst 0, 1) := by decide +kernel
theorem d_Model_following_3 : decode b_Model_following 3 = .ok (.istore_n 3, 1) := by decide +kernel
theorem d_Model_following_4 : decode b_Model_following 4 = .ok (.iload_n 3, 1) := by decide +kernel
theorem d_Model_following_5 : decode b_Model_following 5 = .ok (.aload_n 0, 1) := by decide +kernel
theorem d_Model_following_6 : decode b_Model_following 6 = .ok (.getfield 128, 3) := by decide +kernel
theorem d_Model_following_9 : decode b_Model_following 9 = .ok (.if_icmp .ge 100, 3) := by decide +kernel
theorem d_Model_following_12 : decode b_Model_following 12 = .ok (.aload_n 0, 1) := by decide +kernel
theorem d_Model_following_13 : decode b_Model_following 13 = .ok (.iload_n 3, 1) := by decide +kernel
theorem d_Model_following_14 : decode b_Model_following 14 = .ok (.invokevirtual 150, 3) := by decide +kernel
theorem d_Model_following_17 : decode b_Model_following 17 = .ok (.sipush 10000, 3) := by decide +kernel
theorem d_Model_following_20 : decode b_Model_following 20 = .ok (.imul, 1) := by decide +kernel
theorem d_Model_following_21 : decode b_Model_following 21 = .ok (.aload_n 0, 1) := by decide +kernel
theorem d_Model_following_22 : decode b_Model_following 22 = .ok (.getfield 17, 3) := by decide +kernel
theorem d_Model_following_25 : decode b_Model_following 25 = .ok (.iload_n 3, 1) := by decide +kernel
theorem d_Model_following_26 : decode b_Model_following 26 = .ok (.bipush 43, 2) := by decide +kernel
theorem d_Model_following_28 : decode b_Model_following 28 = .ok (.imul, 1) := by decide +kernel
theorem d_Model_following_29 : decode b_Model_following 29 = .ok (.iaload, 1) := by decide +kernel
theorem d_Model_following_30 : decode b_Model_following 30 = .ok (.iadd, 1) := by decide +kernel
theorem d_Model_following_31 : decode b_Model_following 31 = .ok (.istore 4, 2) := by decide +kernel
theorem d_Model_following_33 : decode b_Model_following 33 = .ok (.iload_n 1, 1) := by decide +kernel
theorem d_Model_following_34 : decode b_Model_following 34 = .ok (.ifCond .lt 27, 3) := by decide +kernel
theorem d_Model_following_37 : decode b_Model_following 37 = .ok (.iload 4, 2) := by decide +kernel
theorem d_Model_following_39 : decode b_Model_following 39 = .ok (.aload_n 0, 1) := by decide +kernel
theorem d_Model_following_40 : decode b_Model_following 40 = .ok (.iload_n 1, 1) := by decide +kernel
theorem d_Model_following_41 : decode b_Model_following 41 = .ok (.invokevirtual 150, 3) := by decide +kernel
theorem d_Model_following_44 : decode b_Model_following 44 = .ok (.sipush 10000, 3) := by decide +kernel
theorem d_Model_following_47 : decode b_Model_following 47 = .ok (.imul, 1) := by decide +kernel
theorem d_Model_following_48 : decode b_Model_following 48 = .ok (.aload_n 0, 1) := by decide +kernel
theorem d_Model_following_49 : decode b_Model_following 49 = .ok (.getfield 17, 3) := by decide +kernel
theorem d_Model_following_52 : decode b_Model_following 52 = .ok (.iload_n 1, 1) := by decide +kernel
theorem d_Model_following_53 : decode b_Model_following 53 = .ok (.bipush 43, 2) := by decide +kernel
theorem d_Model_following_55 : decode b_Model_following 55 = .ok (.imul, 1) := by decide +kernel
theorem d_Model_following_56 : decode b_Model_following 56 = .ok (.iaload, 1) := by decide +kernel
theorem d_Model_following_57 : decode b_Model_following 57 = .ok (.iadd, 1) := by decide +kernel
theorem d_Model_following_58 : decode b_Model_following 58 = .ok (.if_icmp .le 7, 3) := by decide +kernel
theorem d_Model_following_61 : decode b_Model_following 61 = .ok (.iconst 1, 1) := by decide +kernel
theorem d_Model_following_62 : decode b_Model_following 62 = .ok (.goto 4, 3) := by decide +kernel
theorem d_Model_following_65 : decode b_Model_following 65 = .ok (.iconst 0, 1) := by decide +kernel
theorem d_Model_following_66 : decode b_Model_following 66 = .ok (.istore 5, 2) := by decide +kernel
theorem d_Model_following_68 : decode b_Model_following 68 = .ok (.iload 5, 2) := by decide +kernel
theorem d_Model_following_70 : decode b_Model_following 70 = .ok (.ifCond .eq 33, 3) := by decide +kernel
theorem d_Model_following_73 : decode b_Model_following 73 = .ok (.iload_n 2, 1) := by decide +kernel
theorem d_Model_following_74 : decode b_Model_following 74 = .ok (.ifCond .lt 27, 3) := by decide +kernel
theorem d_Model_following_77 : decode b_Model_following 77 = .ok (.iload 4, 2) := by decide +kernel
theorem d_Model_following_79 : decode b_Model_following 79 = .ok (.aload_n 0, 1) := by decide +kernel
theorem d_Model_following_80 : decode b_Model_following 80 = .ok (.iload_n 2, 1) := by decide +kernel
theorem d_Model_following_81 : decode b_Model_following 81 = .ok (.invokevirtual 150, 3) := by decide +kernel
theorem d_Model_following_84 : decode b_Model_following 84 = .ok (.sipush 10000, 3) := by decide +kernel
theorem d_Model_following_87 : decode b_Model_following 87 = .ok (.imul, 1) := by decide +kernel
theorem d_Model_following_88 : decode b_Model_following 88 = .ok (.aload_n 0, 1) := by decide +kernel
theorem d_Model_following_89 : decode b_Model_following 89 = .ok (.getfield 17, 3) := by decide +kernel
theorem d_Model_following_92 : decode b_Model_following 92 = .ok (.iload_n 2, 1) := by decide +kernel
theorem d_Model_following_93 : decode b_Model_following 93 = .ok (.bipush 43, 2) := by decide +kernel
theorem d_Model_following_95 : decode b_Model_following 95 = .ok (.imul, 1) := by decide +kernel
theorem d_Model_following_96 : decode b_Model_following 96 = .ok (.iaload, 1) := by decide +kernel
theorem d_Model_following_97 : decode b_Model_following 97 = .ok (.iadd, 1) := by decide +kernel
theorem d_Model_following_98 : decode b_Model_following 98 = .ok (.if_icmp .ge 5, 3) := by decide +kernel
theorem d_Model_following_101 : decode b_Model_following 101 = .ok (.iload_n 3, 1) := by decide +kernel
theorem d_Model_following_102 : decode b_Model_following 102 = .ok (.istore_n 2, 1) := by decide +kernel
theorem d_Model_following_103 : decode b_Model_following 103 = .ok (.iinc 3 1, 3) := by decide +kernel
theorem d_Model_following_106 : decode b_Model_following 106 = .ok (.goto (-102), 3) := by decide +kernel
theorem d_Model_following_109 : decode b_Model_following 109 = .ok (.iload_n 2, 1) := by decide +kernel
theorem d_Model_following_110 : decode b_Model_following 110 = .ok (.ireturn, 1) := by decide +kernel
abbrev b_Model_say : ByteArray := prog_8_method_25_code
abbrev y_Model_say : MethodName := { cls := "HazardTablesModel", name := "say", desc := "(JI)I" }
abbrev w_Model_say : List Cond := .code y_Model_say b_Model_say 6 (some .int) :: WA
theorem d_Model_say_0 : decode b_Model_say 0 = .ok (.iload_n 3, 1) := by decide +kernel
theorem d_Model_say_1 : decode b_Model_say 1 = .ok (.iconst 1, 1) := by decide +kernel
theorem d_Model_say_2 : decode b_Model_say 2 = .ok (.bipush 8, 2) := by decide +kernel
theorem d_Model_say_4 : decode b_Model_say 4 = .ok (.invokestatic 67, 3) := by decide +kernel
theorem d_Model_say_7 : decode b_Model_say 7 = .ok (.istore 4, 2) := by decide +kernel
theorem d_Model_say_9 : decode b_Model_say 9 = .ok (.iconst 0, 1) := by decide +kernel
theorem d_Model_say_10 : decode b_Model_say 10 = .ok (.istore 5, 2) := by decide +kernel
theorem d_Model_say_12 : decode b_Model_say 12 = .ok (.iload 5, 2) := by decide +kernel
theorem d_Model_say_14 : decode b_Model_say 14 = .ok (.iload_n 3, 1) := by decide +kernel
theorem d_Model_say_15 : decode b_Model_say 15 = .ok (.if_icmp .ge 35, 3) := by decide +kernel
theorem d_Model_say_18 : decode b_Model_say 18 = .ok (.iload 4, 2) := by decide +kernel
theorem d_Model_say_20 : decode b_Model_say 20 = .ok (.ifCond .eq 30, 3) := by decide +kernel
theorem d_Model_say_23 : decode b_Model_say 23 = .ok (.lload_n 1, 1) := by decide +kernel
theorem d_Model_say_24 : decode b_Model_say 24 = .ok (.bipush 8, 2) := by decide +kernel
theorem d_Model_say_26 : decode b_Model_say 26 = .ok (.iload 5, 2) := by decide +kernel
theorem d_Model_say_28 : decode b_Model_say 28 = .ok (.imul, 1) := by decide +kernel
theorem d_Model_say_29 : decode b_Model_say 29 = .ok (.lshr, 1) := by decide +kernel
theorem d_Model_say_30 : decode b_Model_say 30 = .ok (.l2i, 1) := by decide +kernel
theorem d_Model_say_31 : decode b_Model_say 31 = .ok (.sipush 255, 3) := by decide +kernel
theorem d_Model_say_34 : decode b_Model_say 34 = .ok (.iand, 1) := by decide +kernel
theorem d_Model_say_35 : decode b_Model_say 35 = .ok (.bipush 97, 2) := by decide +kernel
theorem d_Model_say_37 : decode b_Model_say 37 = .ok (.bipush 122, 2) := by decide +kernel
theorem d_Model_say_39 : decode b_Model_say 39 = .ok (.invokestatic 67, 3) := by decide +kernel
theorem d_Model_say_42 : decode b_Model_say 42 = .ok (.istore 4, 2) := by decide +kernel
theorem d_Model_say_44 : decode b_Model_say 44 = .ok (.iinc 5 1, 3) := by decide +kernel
theorem d_Model_say_47 : decode b_Model_say 47 = .ok (.goto (-35), 3) := by decide +kernel
theorem d_Model_say_50 : decode b_Model_say 50 = .ok (.aload_n 0, 1) := by decide +kernel
theorem d_Model_say_51 : decode b_Model_say 51 = .ok (.iload 4, 2) := by decide +kernel
theorem d_Model_say_53 : decode b_Model_say 53 = .ok (.aload_n 0, 1) := by decide +kernel
theorem d_Model_say_54 : decode b_Model_say 54 = .ok (.getfield 128, 3) := by decide +kernel
theorem d_Model_say_57 : decode b_Model_say 57 = .ok (.ifCond .le 7, 3) := by decide +kernel
theorem d_Model_say_60 : decode b_Model_say 60 = .ok (.iconst 1, 1) := by decide +kernel
theorem d_Model_say_61 : decode b_Model_say 61 = .ok (.goto 4, 3) := by decide +kernel
theorem d_Model_say_64 : decode b_Model_say 64 = .ok (.iconst 0, 1) := by decide +kernel
theorem d_Model_say_65 : decode b_Model_say 65 = .ok (.iconst 1, 1) := by decide +kernel
theorem d_Model_say_66 : decode b_Model_say 66 = .ok (.invokevirtual 74, 3) := by decide +kernel
theorem d_Model_say_69 : decode b_Model_say 69 = .ok (.ifCond .ne 5, 3) := by decide +kernel
theorem d_Model_say_72 : decode b_Model_say 72 = .ok (.iconst 0, 1) := by decide +kernel
theorem d_Model_say_73 : decode b_Model_say 73 = .ok (.ireturn, 1) := by decide +kernel
theorem d_Model_say_74 : decode b_Model_say 74 = .ok (.aload_n 0, 1) := by decide +kernel
theorem d_Model_say_75 : decode b_Model_say 75 = .ok (.iload_n 3, 1) := by decide +kernel
theorem d_Model_say_76 : decode b_Model_say 76 = .ok (.putfield 134, 3) := by decide +kernel
theorem d_Model_say_79 : decode b_Model_say 79 = .ok (.iconst 0, 1) := by decide +kernel
theorem d_Model_say_80 : decode b_Model_say 80 = .ok (.istore 5, 2) := by decide +kernel
theorem d_Model_say_82 : decode b_Model_say 82 = .ok (.iload 5, 2) := by decide +kernel
theorem d_Model_say_84 : decode b_Model_say 84 = .ok (.iload_n 3, 1) := by decide +kernel
theorem d_Model_say_85 : decode b_Model_say 85 = .ok (.if_icmp .ge 32, 3) := by decide +kernel
theorem d_Model_say_88 : decode b_Model_say 88 = .ok (.aload_n 0, 1) := by decide +kernel
theorem d_Model_say_89 : decode b_Model_say 89 = .ok (.getfield 58, 3) := by decide +kernel
theorem d_Model_say_92 : decode b_Model_say 92 = .ok (.iload 5, 2) := by decide +kernel
theorem d_Model_say_94 : decode b_Model_say 94 = .ok (.lload_n 1, 1) := by decide +kernel
theorem d_Model_say_95 : decode b_Model_say 95 = .ok (.bipush 8, 2) := by decide +kernel
theorem d_Model_say_97 : decode b_Model_say 97 = .ok (.iload_n 3, 1) := by decide +kernel
theorem d_Model_say_98 : decode b_Model_say 98 = .ok (.iconst 1, 1) := by decide +kernel
theorem d_Model_say_99 : decode b_Model_say 99 = .ok (.isub, 1) := by decide +kernel
theorem d_Model_say_100 : decode b_Model_say 100 = .ok (.iload 5, 2) := by decide +kernel
theorem d_Model_say_102 : decode b_Model_say 102 = .ok (.isub, 1) := by decide +kernel
theorem d_Model_say_103 : decode b_Model_say 103 = .ok (.imul, 1) := by decide +kernel
theorem d_Model_say_104 : decode b_Model_say 104 = .ok (.lshr, 1) := by decide +kernel
theorem d_Model_say_105 : decode b_Model_say 105 = .ok (.l2i, 1) := by decide +kernel
theorem d_Model_say_106 : decode b_Model_say 106 = .ok (.sipush 255, 3) := by decide +kernel
theorem d_Model_say_109 : decode b_Model_say 109 = .ok (.iand, 1) := by decide +kernel
theorem d_Model_say_110 : decode b_Model_say 110 = .ok (.iastore, 1) := by decide +kernel
theorem d_Model_say_111 : decode b_Model_say 111 = .ok (.iinc 5 1, 3) := by decide +kernel
theorem d_Model_say_114 : decode b_Model_say 114 = .ok (.goto (-32), 3) := by decide +kernel
theorem d_Model_say_117 : decode b_Model_say 117 = .ok (.aload_n 0, 1) := by decide +kernel
theorem d_Model_say_118 : decode b_Model_say 118 = .ok (.getfield 17, 3) := by decide +kernel
theorem d_Model_say_121 : decode b_Model_say 121 = .ok (.aload_n 0, 1) := by decide +kernel
theorem d_Model_say_122 : decode b_Model_say 122 = .ok (.iconst (-1), 1) := by decide +kernel
theorem d_Model_say_123 : decode b_Model_say 123 = .ok (.invokevirtual 153, 3) := by decide +kernel
theorem d_Model_say_126 : decode b_Model_say 126 = .ok (.bipush 43, 2) := by decide +kernel
theorem d_Model_say_128 : decode b_Model_say 128 = .ok (.imul, 1) := by decide +kernel
theorem d_Model_say_129 : decode b_Model_say 129 = .ok (.iaload, 1) := by decide +kernel
theorem d_Model_say_130 : decode b_Model_say 130 = .ok (.ireturn, 1) := by decide +kernel
abbrev b_Model_near : ByteArray := prog_8_method_26_code
abbrev y_Model_near : MethodName := { cls := "HazardTablesModel", name := "near", desc := "(I)I" }
abbrev w_Model_near : List Cond := .code y_Model_near b_Model_near 4 (some .int) :: WA
theorem d_Model_near_0 : decode b_Model_near 0 = .ok (.aload_n 0, 1) := by decide +kernel
theorem d_Model_near_1 : decode b_Model_near 1 = .ok (.iload_n 1, 1) := by decide +kernel
theorem d_Model_near_2 : decode b_Model_near 2 = .ok (.ifCond .lt 7, 3) := by decide +kernel
theorem d_Model_near_5 : decode b_Model_near 5 = .ok (.iconst 1, 1) := by decide +kernel
theorem d_Model_near_6 : decode b_Model_near 6 = .ok (.goto 4, 3) := by decide +kernel
theorem d_Model_near_9 : decode b_Model_near 9 = .ok (.iconst 0, 1) := by decide +kernel
theorem d_Model_near_10 : decode b_Model_near 10 = .ok (.iconst 1, 1) := by decide +kernel
theorem d_Model_near_11 : decode b_Model_near 11 = .ok (.iconst 1, 1) := by decide +kernel
theorem d_Model_near_12 : decode b_Model_near 12 = .ok (.invokevirtual 74, 3) := by decide +kernel
theorem d_Model_near_15 : decode b_Model_near 15 = .ok (.ifCond .eq 10, 3) := by decide +kernel
theorem d_Model_near_18 : decode b_Model_near 18 = .ok (.aload_n 0, 1) := by decide +kernel
theorem d_Model_near_19 : decode b_Model_near 19 = .ok (.getfield 134, 3) := by decide +kernel
theorem d_Model_near_22 : decode b_Model_near 22 = .ok (.ifCond .ne 16, 3) := by decide +kernel
theorem d_Model_near_25 : decode b_Model_near 25 = .ok (.aload_n 0, 1) := by decide +kernel
theorem d_Model_near_26 : decode b_Model_near 26 = .ok (.getfield 64, 3) := by decide +kernel
theorem d_Model_near_29 : decode b_Model_near 29 = .ok (.ifCond .le 7, 3) := by decide +kernel
theorem d_Model_near_32 : decode b_Model_near 32 = .ok (.iconst 0, 1) := by decide +kernel
theorem d_Model_near_33 : decode b_Model_near 33 = .ok (.goto 4, 3) := by decide +kernel
theorem d_Model_near_36 : decode b_Model_near 36 = .ok (.iconst (-1), 1) := by decide +kernel
theorem d_Model_near_37 : decode b_Model_near 37 = .ok (.ireturn, 1) := by decide +kernel
theorem d_Model_near_38 : decode b_Model_near 38 = .ok (.aload_n 0, 1) := by decide +kernel
theorem d_Model_near_39 : decode b_Model_near 39 = .ok (.iconst (-1), 1) := by decide +kernel
theorem d_Model_near_40 : decode b_Model_near 40 = .ok (.invokevirtual 153, 3) := by decide +kernel
theorem d_Model_near_43 : decode b_Model_near 43 = .ok (.istore_n 2, 1) := by decide +kernel
theorem d_Model_near_44 : decode b_Model_near 44 = .ok (.iconst 0, 1) := by decide +kernel
theorem d_Model_near_45 : decode b_Model_near 45 = .ok (.istore_n 3, 1) := by decide +kernel
theorem d_Model_near_46 : decode b_Model_near 46 = .ok (.iload_n 3, 1) := by decide +kernel
theorem d_Model_near_47 : decode b_Model_near 47 = .ok (.iload_n 1, 1) := by decide +kernel
theorem d_Model_near_48 : decode b_Model_near 48 = .ok (.if_icmp .ge 19, 3) := by decide +kernel
theorem d_Model_near_51 : decode b_Model_near 51 = .ok (.iload_n 2, 1) := by decide +kernel
theorem d_Model_near_52 : decode b_Model_near 52 = .ok (.ifCond .lt 15, 3) := by decide +kernel
theorem d_Model_near_55 : decode b_Model_near 55 = .ok (.aload_n 0, 1) := by decide +kernel
theorem d_Model_near_56 : decode b_Model_near 56 = .ok (.iload_n 2, 1) := by decide +kernel
theorem d_Model_near_57 : decode b_Model_near 57 = .ok (.invokevirtual 153, 3) := by decide +kernel
theorem d_Model_near_60 : decode b_Model_near 60 = .ok (.istore_n 2, 1) := by decide +kernel
theorem d_Model_near_61 : decode b_Model_near 61 = .ok (.iinc 3 1, 3) := by decide +kernel
theorem d_Model_near_64 : decode b_Model_near 64 = .ok (.goto (-18), 3) := by decide +kernel
theorem d_Model_near_67 : decode b_Model_near 67 = .ok (.iload_n 2, 1) := by decide +kernel
theorem d_Model_near_68 : decode b_Model_near 68 = .ok (.ifCond .ge 7, 3) := by decide +kernel
theorem d_Model_near_71 : decode b_Model_near 71 = .ok (.iconst (-1), 1) := by decide +kernel
theorem d_Model_near_72 : decode b_Model_near 72 = .ok (.goto 12, 3) := by decide +kernel
theorem d_Model_near_75 : decode b_Model_near 75 = .ok (.aload_n 0, 1) := by decide +kernel
theorem d_Model_near_76 : decode b_Model_near 76 = .ok (.getfield 17, 3) := by decide +kernel
theorem d_Model_near_79 : decode b_Model_near 79 = .ok (.iload_n 2, 1) := by decide +kernel
theorem d_Model_near_80 : decode b_Model_near 80 = .ok (.bipush 43, 2) := by decide +kernel
theorem d_Model_near_82 : decode b_Model_near 82 = .ok (.imul, 1) := by decide +kernel
theorem d_Model_near_83 : decode b_Model_near 83 = .ok (.iaload, 1) := by decide +kernel
theorem d_Model_near_84 : decode b_Model_near 84 = .ok (.ireturn, 1) := by decide +kernel
abbrev b_Model_contradict : ByteArray := prog_8_method_27_code
abbrev y_Model_contradict : MethodName := { cls := "HazardTablesModel", name := "contradict", desc := "(II)Z" }
abbrev w_Model_contradict : List Cond := .code y_Model_contradict b_Model_contradict 5 (some .boolean) :: WA
theorem d_Model_contradict_0 : decode b_Model_contradict 0 = .ok (.aload_n 0, 1) := by decide +kernel
theorem d_Model_contradict_1 : decode b_Model_contradict 1 = .ok (.getfield 29, 3) := by decide +kernel
theorem d_Model_contradict_4 : decode b_Model_contradict 4 = .ok (.iload_n 1, 1) := by decide +kernel
theorem d_Model_contradict_5 : decode b_Model_contradict 5 = .ok (.iaload, 1) := by decide +kernel
theorem d_Model_contradict_6 : decode b_Model_contradict 6 = .ok (.bipush 43, 2) := by decide +kernel
theorem d_Model_contradict_8 : decode b_Model_contradict 8 = .ok (.imul, 1) := by decide +kernel
theorem d_Model_contradict_9 : decode b_Model_contradict 9 = .ok (.istore_n 3, 1) := by decide +kernel
theorem d_Model_contradict_10 : decode b_Model_contradict 10 = .ok (.aload_n 0, 1) := by decide +kernel
theorem d_Model_contradict_11 : decode b_Model_contradict 11 = .ok (.getfield 29, 3) := by decide +kernel
theorem d_Model_contradict_14 : decode b_Model_contradict 14 = .ok (.iload_n 2, 1) := by decide +kernel
theorem d_Model_contradict_15 : decode b_Model_contradict 15 = .ok (.iaload, 1) := by decide +kernel
theorem d_Model_contradict_16 : decode b_Model_contradict 16 = .ok (.bipush 43, 2) := by decide +kernel
theorem d_Model_contradict_18 : decode b_Model_contradict 18 = .ok (.imul, 1) := by decide +kernel
theorem d_Model_contradict_19 : decode b_Model_contradict 19 = .ok (.istore 4, 2) := by decide +kernel
theorem d_Model_contradict_21 : decode b_Model_contradict 21 = .ok (.aload_n 0, 1) := by decide +kernel
theorem d_Model_contradict_22 : decode b_Model_contradict 22 = .ok (.getfield 17, 3) := by decide +kernel
theorem d_Model_contradict_25 : decode b_Model_contradict 25 = .ok (.iload_n 3, 1) := by decide +kernel
theorem d_Model_contradict_26 : decode b_Model_contradict 26 = .ok (.bipush 8, 2) := by decide +kernel
theorem d_Model_contradict_28 : decode b_Model_contradict 28 = .ok (.iadd, 1) := by decide +kernel
theorem d_Model_contradict_29 : decode b_Model_contradict 29 = .ok (.iaload, 1) := by decide +kernel
theorem d_Model_contradict_30 : decode b_Model_contradict 30 = .ok (.aload_n 0, 1) := by decide +kernel
theorem d_Model_contradict_31 : decode b_Model_contradict 31 = .ok (.getfield 17, 3) := by decide +kernel
theorem d_Model_contradict_34 : decode b_Model_contradict 34 = .ok (.iload 4, 2) := by decide +kernel
theorem d_Model_contradict_36 : decode b_Model_contradict 36 = .ok (.iconst 1, 1) := by decide +kernel
theorem d_Model_contradict_37 : decode b_Model_contradict 37 = .ok (.iadd, 1) := by decide +kernel
theorem d_Model_contradict_38 : decode b_Model_contradict 38 = .ok (.iaload, 1) := by decide +kernel
theorem d_Model_contradict_39 : decode b_Model_contradict 39 = .ok (.ishr, 1) := by decide +kernel
theorem d_Model_contradict_40 : decode b_Model_contradict 40 = .ok (.iconst 1, 1) := by decide +kernel
theorem d_Model_contradict_41 : decode b_Model_contradict 41 = .ok (.iand, 1) := by decide +kernel
theorem d_Model_contradict_42 : decode b_Model_contradict 42 = .ok (.iconst 1, 1) := by decide +kernel
theorem d_Model_contradict_43 : decode b_Model_contradict 43 = .ok (.if_icmp .eq 28, 3) := by decide +kernel
theorem d_Model_contradict_46 : decode b_Model_contradict 46 = .ok (.aload_n 0, 1) := by decide +kernel
theorem d_Model_contradict_47 : decode b_Model_contradict 47 = .ok (.getfield 17, 3) := by decide +kernel
theorem d_Model_contradict_50 : decode b_Model_contradict 50 = .ok (.iload 4, 2) := by decide +kernel
theorem d_Model_contradict_52 : decode b_Model_contradict 52 = .ok (.bipush 8, 2) := by decide +kernel
theorem d_Model_contradict_54 : decode b_Model_contradict 54 = .ok (.iadd, 1) := by decide +kernel
theorem d_Model_contradict_55 : decode b_Model_contradict 55 = .ok (.iaload, 1) := by decide +kernel
theorem d_Model_contradict_56 : decode b_Model_contradict 56 = .ok (.aload_n 0, 1) := by decide +kernel
theorem d_Model_contradict_57 : decode b_Model_contradict 57 = .ok (.getfield 17, 3) := by decide +kernel
theorem d_Model_contradict_60 : decode b_Model_contradict 60 = .ok (.iload_n 3, 1) := by decide +kernel
theorem d_Model_contradict_61 : decode b_Model_contradict 61 = .ok (.iconst 1, 1) := by decide +kernel
theorem d_Model_contradict_62 : decode b_Model_contradict 62 = .ok (.iadd, 1) := by decide +kernel
theorem d_Model_contradict_63 : decode b_Model_contradict 63 = .ok (.iaload, 1) := by decide +kernel
theorem d_Model_contradict_64 : decode b_Model_contradict 64 = .ok (.ishr, 1) := by decide +kernel
theorem d_Model_contradict_65 : decode b_Model_contradict 65 = .ok (.iconst 1, 1) := by decide +kernel
theorem d_Model_contradict_66 : decode b_Model_contradict 66 = .ok (.iand, 1) := by decide +kernel
theorem d_Model_contradict_67 : decode b_Model_contradict 67 = .ok (.iconst 1, 1) := by decide +kernel
theorem d_Model_contradict_68 : decode b_Model_contradict 68 = .ok (.if_icmp .ne 7, 3) := by decide +kernel
theorem d_Model_contradict_71 : decode b_Model_contradict 71 = .ok (.iconst 1, 1) := by decide +kernel
theorem d_Model_contradict_72 : decode b_Model_contradict 72 = .ok (.goto 4, 3) := by decide +kernel
theorem d_Model_contradict_75 : decode b_Model_contradict 75 = .ok (.iconst 0, 1) := by decide +kernel
theorem d_Model_contradict_76 : decode b_Model_contradict 76 = .ok (.ireturn, 1) := by decide +kernel
abbrev b_Model_add : ByteArray := prog_8_method_28_code
abbrev y_Model_add : MethodName := { cls := "HazardTablesModel", name := "add", desc := "(II)I" }
abbrev w_Model_add : List Cond := .code y_Model_add b_Model_add 6 (some .int) :: WA
theorem d_Model_add_0 : decode b_Model_add 0 = .ok (.aload_n 0, 1) := by decide +kernel
theorem d_Model_add_1 : decode b_Model_add 1 = .ok (.iload_n 1, 1) := by decide +kernel
theorem d_Model_add_2 : decode b_Model_add 2 = .ok (.invokevirtual 140, 3) := by decide +kernel
theorem d_Model_add_5 : decode b_Model_add 5 = .ok (.istore_n 3, 1) := by decide +kernel
theorem d_Model_add_6 : decode b_Model_add 6 = .ok (.iload_n 3, 1) := by decide +kernel
theorem d_Model_add_7 : decode b_Model_add 7 = .ok (.ifCond .ge 13, 3) := by decide +kernel
theorem d_Model_add_10 : decode b_Model_add 10 = .ok (.aload_n 0, 1) := by decide +kernel
theorem d_Model_add_11 : decode b_Model_add 11 = .ok (.getfield 131, 3) := by decide +kernel
theorem d_Model_add_14 : decode b_Model_add 14 = .ok (.ifCond .eq 6, 3) := by decide +kernel
theorem d_Model_add_17 : decode b_Model_add 17 = .ok (.bipush 12, 2) := by decide +kernel
theorem d_Model_add_19 : decode b_Model_add 19 = .ok (.istore_n 3, 1) := by decide +kernel
theorem d_Model_add_20 : decode b_Model_add 20 = .ok (.aload_n 0, 1) := by decide +kernel
theorem d_Model_add_21 : decode b_Model_add 21 = .ok (.iload_n 3, 1) := by decide +kernel
theorem d_Model_add_22 : decode b_Model_add 22 = .ok (.ifCond .lt 7, 3) := by decide +kernel
theorem d_Model_add_25 : decode b_Model_add 25 = .ok (.iconst 1, 1) := by decide +kernel
theorem d_Model_add_26 : decode b_Model_add 26 = .ok (.goto 4, 3) := by decide +kernel
theorem d_Model_add_29 : decode b_Model_add 29 = .ok (.iconst 0, 1) := by decide +kernel
theorem d_Model_add_30 : decode b_Model_add 30 = .ok (.iload_n 1, 1) := by decide +kernel
theorem d_Model_add_31 : decode b_Model_add 31 = .ok (.iconst 1, 1) := by decide +kernel
theorem d_Model_add_32 : decode b_Model_add 32 = .ok (.sipush 9999, 3) := by decide +kernel
theorem d_Model_add_35 : decode b_Model_add 35 = .ok (.invokestatic 67, 3) := by decide +kernel
theorem d_Model_add_38 : decode b_Model_add 38 = .ok (.ifCond .eq 17, 3) := by decide +kernel
theorem d_Model_add_41 : decode b_Model_add 41 = .ok (.iload_n 2, 1) := by decide +kernel
theorem d_Model_add_42 : decode b_Model_add 42 = .ok (.iconst 1, 1) := by decide +kernel
theorem d_Model_add_43 : decode b_Model_add 43 = .ok (.ldc 156, 2) := by decide +kernel
theorem d_Model_add_45 : decode b_Model_add 45 = .ok (.invokestatic 67, 3) := by decide +kernel
theorem d_Model_add_48 : decode b_Model_add 48 = .ok (.ifCond .eq 7, 3) := by decide +kernel
theorem d_Model_add_51 : decode b_Model_add 51 = .ok (.iconst 1, 1) := by decide +kernel
theorem d_Model_add_52 : decode b_Model_add 52 = .ok (.goto 4, 3) := by decide +kernel
theorem d_Model_add_55 : decode b_Model_add 55 = .ok (.iconst 0, 1) := by decide +kernel
theorem d_Model_add_56 : decode b_Model_add 56 = .ok (.aload_n 0, 1) := by decide +kernel
theorem d_Model_add_57 : decode b_Model_add 57 = .ok (.getfield 157, 3) := by decide +kernel
theorem d_Model_add_60 : decode b_Model_add 60 = .ok (.bipush 8, 2) := by decide +kernel
theorem d_Model_add_62 : decode b_Model_add 62 = .ok (.if_icmp .ge 7, 3) := by decide +kernel
theorem d_Model_add_65 : decode b_Model_add 65 = .ok (.iconst 1, 1) := by decide +kernel
theorem d_Model_add_66 : decode b_Model_add 66 = .ok (.goto 4, 3) := by decide +kernel
theorem d_Model_add_69 : decode b_Model_add 69 = .ok (.iconst 0, 1) := by decide +kernel
theorem d_Model_add_70 : decode b_Model_add 70 = .ok (.invokevirtual 74, 3) := by decide +kernel
theorem d_Model_add_73 : decode b_Model_add 73 = .ok (.ifCond .ne 5, 3) := by decide +kernel
theorem d_Model_add_76 : decode b_Model_add 76 = .ok (.iconst 0, 1) := by decide +kernel
theorem d_Model_add_77 : decode b_Model_add 77 = .ok (.ireturn, 1) := by decide +kernel
theorem d_Model_add_78 : decode b_Model_add 78 = .ok (.aload_n 0, 1) := by decide +kernel
theorem d_Model_add_79 : decode b_Model_add 79 = .ok (.getfield 23, 3) := by decide +kernel
theorem d_Model_add_82 : decode b_Model_add 82 = .ok (.aload_n 0, 1) := by decide +kernel
theorem d_Model_add_83 : decode b_Model_add 83 = .ok (.getfield 157, 3) := by decide +kernel
theorem d_Model_add_86 : decode b_Model_add 86 = .ok (.iload_n 1, 1) := by decide +kernel
theorem d_Model_add_87 : decode b_Model_add 87 = .ok (.iastore, 1) := by decide +kernel
theorem d_Model_add_88 : decode b_Model_add 88 = .ok (.aload_n 0, 1) := by decide +kernel
theorem d_Model_add_89 : decode b_Model_add 89 = .ok (.getfield 26, 3) := by decide +kernel
theorem d_Model_add_92 : decode b_Model_add 92 = .ok (.aload_n 0, 1) := by decide +kernel
theorem d_Model_add_93 : decode b_Model_add 93 = .ok (.getfield 157, 3) := by decide +kernel
theorem d_Model_add_96 : decode b_Model_add 96 = .ok (.iload_n 2, 1) := by decide +kernel
theorem d_Model_add_97 : decode b_Model_add 97 = .ok (.iastore, 1) := by decide +kernel
theorem d_Model_add_98 : decode b_Model_add 98 = .ok (.aload_n 0, 1) := by decide +kernel
theorem d_Model_add_99 : decode b_Model_add 99 = .ok (.getfield 29, 3) := by decide +kernel
theorem d_Model_add_102 : decode b_Model_add 102 = .ok (.aload_n 0, 1) := by decide +kernel
theorem d_Model_add_103 : decode b_Model_add 103 = .ok (.getfield 157, 3) := by decide +kernel
theorem d_Model_add_106 : decode b_Model_add 106 = .ok (.iload_n 3, 1) := by decide +kernel
theorem d_Model_add_107 : decode b_Model_add 107 = .ok (.iastore, 1) := by decide +kernel
theorem d_Model_add_108 : decode b_Model_add 108 = .ok (.aload_n 0, 1) := by decide +kernel
theorem d_Model_add_109 : decode b_Model_add 109 = .ok (.dup, 1) := by decide +kernel
theorem d_Model_add_110 : decode b_Model_add 110 = .ok (.getfield 157, 3) := by decide +kernel
theorem d_Model_add_113 : decode b_Model_add 113 = .ok (.iconst 1, 1) := by decide +kernel
theorem d_Model_add_114 : decode b_Model_add 114 = .ok (.iadd, 1) := by decide +kernel
theorem d_Model_add_115 : decode b_Model_add 115 = .ok (.putfield 157, 3) := by decide +kernel
theorem d_Model_add_118 : decode b_Model_add 118 = .ok (.iconst 0, 1) := by decide +kernel
theorem d_Model_add_119 : decode b_Model_add 119 = .ok (.istore 4, 2) := by decide +kernel
theorem d_Model_add_121 : decode b_Model_add 121 = .ok (.iconst 0, 1) := by decide +kernel
theorem d_Model_add_122 : decode b_Model_add 122 = .ok (.istore 5, 2) := by decide +kernel
theorem d_Model_add_124 : decode b_Model_add 124 = .ok (.iload 5, 2) := by decide +kernel
theorem d_Model_add_126 : decode b_Model_add 126 = .ok (.aload_n 0, 1) := by decide +kernel
theorem d_Model_add_127 : decode b_Model_add 127 = .ok (.getfield 157, 3) := by decide +kernel
theorem d_Model_add_130 : decode b_Model_add 130 = .ok (.iconst 1, 1) := by decide +kernel
theorem d_Model_add_131 : decode b_Model_add 131 = .ok (.isub, 1) := by decide +kernel
theorem d_Model_add_132 : decode b_Model_add 132 = .ok (.if_icmp .ge 27, 3) := by decide +kernel
theorem d_Model_add_135 : decode b_Model_add 135 = .ok (.aload_n 0, 1) := by decide +kernel
theorem d_Model_add_136 : decode b_Model_add 136 = .ok (.iload 5, 2) := by decide +kernel
theorem d_Model_add_138 : decode b_Model_add 138 = .ok (.aload_n 0, 1) := by decide +kernel
theorem d_Model_add_139 : decode b_Model_add 139 = .ok (.getfield 157, 3) := by decide +kernel
theorem d_Model_add_142 : decode b_Model_add 142 = .ok (.iconst 1, 1) := by decide +kernel
theorem d_Model_add_143 : decode b_Model_add 143 = .ok (.isub, 1) := by decide +kernel
theorem d_Model_add_144 : decode b_Model_add 144 = .ok (.invokevirtual 160, 3) := by decide +kernel
theorem d_Model_add_147 : decode b_Model_add 147 = .ok (.ifCond .eq 6, 3) := by decide +kernel
theorem d_Model_add_150 : decode b_Model_add 150 = .ok (.iinc 4 1, 3) := by decide +kernel
theorem d_Model_add_153 : decode b_Model_add 153 = .ok (.iinc 5 1, 3) := by decide +kernel
theorem d_Model_add_156 : decode b_Model_add 156 = .ok (.goto (-32), 3) := by decide +kernel
theorem d_Model_add_159 : decode b_Model_add 159 = .ok (.iload 4, 2) := by decide +kernel
theorem d_Model_add_161 : decode b_Model_add 161 = .ok (.ireturn, 1) := by decide +kernel
abbrev b_Model_clear : ByteArray := prog_8_method_29_code
abbrev y_Model_clear : MethodName := { cls := "HazardTablesModel", name := "clear", desc := "()V" }
abbrev w_Model_clear : List Cond := .code y_Model_clear b_Model_clear 1 none :: WA
theorem d_Model_clear_0 : decode b_Model_clear 0 = .ok (.aload_n 0, 1) := by decide +kernel
theorem d_Model_clear_1 : decode b_Model_clear 1 = .ok (.iconst 0, 1) := by decide +kernel
theorem d_Model_clear_2 : decode b_Model_clear 2 = .ok (.putfield 64, 3) := by decide +kernel
theorem d_Model_clear_5 : decode b_Model_clear 5 = .ok (.aload_n 0, 1) := by decide +kernel
theorem d_Model_clear_6 : decode b_Model_clear 6 = .ok (.iconst 0, 1) := by decide +kernel
theorem d_Model_clear_7 : decode b_Model_clear 7 = .ok (.putfield 157, 3) := by decide +kernel
theorem d_Model_clear_10 : decode b_Model_clear 10 = .ok (.aload_n 0, 1) := by decide +kernel
theorem d_Model_clear_11 : decode b_Model_clear 11 = .ok (.iconst 1, 1) := by decide +kernel
theorem d_Model_clear_12 : decode b_Model_clear 12 = .ok (.putfield 52, 3) := by decide +kernel
theorem d_Model_clear_15 : decode b_Model_clear 15 = .ok (.return_, 1) := by decide +kernel
abbrev b_Model_strictness : ByteArray := prog_8_method_30_code
abbrev y_Model_strictness : MethodName := { cls := "HazardTablesModel", name := "strictness", desc := "()I" }
abbrev w_Model_strictness : List Cond := .code y_Model_strictness b_Model_strictness 3 (some .int) :: WA
theorem d_Model_strictness_0 : decode b_Model_strictness 0 = .ok (.iconst 0, 1) := by decide +kernel
theorem d_Model_strictness_1 : decode b_Model_strictness 1 = .ok (.istore_n 1, 1) := by decide +kernel
theorem d_Model_strictness_2 : decode b_Model_strictness 2 = .ok (.iconst 0, 1) := by decide +kernel
theorem d_Model_strictness_3 : decode b_Model_strictness 3 = .ok (.istore_n 2, 1) := by decide +kernel
theorem d_Model_strictness_4 : decode b_Model_strictness 4 = .ok (.iload_n 2, 1) := by decide +kernel
theorem d_Model_strictness_5 : decode b_Model_strictness 5 = .ok (.aload_n 0, 1) := by decide +kernel
theorem d_Model_strictness_6 : decode b_Model_strictness 6 = .ok (.getfield 157, 3) := by decide +kernel
theorem d_Model_strictness_9 : decode b_Model_strictness 9 = .ok (.if_icmp .ge 46, 3) := by decide +kernel
theorem d_Model_strictness_12 : decode b_Model_strictness 12 = .ok (.aload_n 0, 1) := by decide +kernel
theorem d_Model_strictness_13 : decode b_Model_strictness 13 = .ok (.getfield 17, 3) := by decide +kernel
theorem d_Model_strictness_16 : decode b_Model_strictness 16 = .ok (.aload_n 0, 1) := by decide +kernel
theorem d_Model_strictness_17 : decode b_Model_strictness 17 = .ok (.getfield 29, 3) := by decide +kernel
theorem d_Model_strictness_20 : decode b_Model_strictness 20 = .ok (.iload_n 2, 1) := by decide +kernel
theorem d_Model_strictness_21 : decode b_Model_strictness 21 = .ok (.iaload, 1) := by decide +kernel
theorem d_Model_strictness_22 : decode b_Model_strictness 22 = .ok (.bipush 43, 2) := by decide +kernel
theorem d_Model_strictness_24 : decode b_Model_strictness 24 = .ok (.imul, 1) := by decide +kernel
theorem d_Model_strictness_25 : decode b_Model_strictness 25 = .ok (.iconst 2, 1) := by decide +kernel
theorem d_Model_strictness_26 : decode b_Model_strictness 26 = .ok (.iadd, 1) := by decide +kernel
theorem d_Model_strictness_27 : decode b_Model_strictness 27 = .ok (.iaload, 1) := by decide +kernel
theorem d_Model_strictness_28 : decode b_Model_strictness 28 = .ok (.iload_n 1, 1) := by decide +kernel
theorem d_Model_strictness_29 : decode b_Model_strictness 29 = .ok (.if_icmp .le 20, 3) := by decide +kernel
theorem d_Model_strictness_32 : decode b_Model_strictness 32 = .ok (.aload_n 0, 1) := by decide +kernel
theorem d_Model_strictness_33 : decode b_Model_strictness 33 = .ok (.getfield 17, 3) := by decide +kernel
theorem d_Model_strictness_36 : decode b_Model_strictness 36 = .ok (.aload_n 0, 1) := by decide +kernel
theorem d_Model_strictness_37 : decode b_Model_strictness 37 = .ok (.getfield 29, 3) := by decide +kernel
theorem d_Model_strictness_40 : decode b_Model_strictness 40 = .ok (.iload_n 2, 1) := by decide +kernel
theorem d_Model_strictness_41 : decode b_Model_strictness 41 = .ok (.iaload, 1) := by decide +kernel
theorem d_Model_strictness_42 : decode b_Model_strictness 42 = .ok (.bipush 43, 2) := by decide +kernel
theorem d_Model_strictness_44 : decode b_Model_strictness 44 = .ok (.imul, 1) := by decide +kernel
theorem d_Model_strictness_45 : decode b_Model_strictness 45 = .ok (.iconst 2, 1) := by decide +kernel
theorem d_Model_strictness_46 : decode b_Model_strictness 46 = .ok (.iadd, 1) := by decide +kernel
theorem d_Model_strictness_47 : decode b_Model_strictness 47 = .ok (.iaload, 1) := by decide +kernel
theorem d_Model_strictness_48 : decode b_Model_strictness 48 = .ok (.istore_n 1, 1) := by decide +kernel
theorem d_Model_strictness_49 : decode b_Model_strictness 49 = .ok (.iinc 2 1, 3) := by decide +kernel
theorem d_Model_strictness_52 : decode b_Model_strictness 52 = .ok (.goto (-48), 3) := by decide +kernel
theorem d_Model_strictness_55 : decode b_Model_strictness 55 = .ok (.iload_n 1, 1) := by decide +kernel
theorem d_Model_strictness_56 : decode b_Model_strictness 56 = .ok (.ireturn, 1) := by decide +kernel
abbrev b_Model_distance : ByteArray := prog_8_method_31_code
abbrev y_Model_distance : MethodName := { cls := "HazardTablesModel", name := "distance", desc := "(Z)I" }
abbrev w_Model_distance : List Cond := .code y_Model_distance b_Model_distance 5 (some .int) :: WA
theorem d_Model_distance_0 : decode b_Model_distance 0 = .ok (.iconst 0, 1) := by decide +kernel
theorem d_Model_distance_1 : decode b_Model_distance 1 = .ok (.istore_n 2, 1) := by decide +kernel
theorem d_Model_distance_2 : decode b_Model_distance 2 = .ok (.iconst 0, 1) := by decide +kernel
theorem d_Model_distance_3 : decode b_Model_distance 3 = .ok (.istore_n 3, 1) := by decide +kernel
theorem d_Model_distance_4 : decode b_Model_distance 4 = .ok (.iload_n 3, 1) := by decide +kernel
theorem d_Model_distance_5 : decode b_Model_distance 5 = .ok (.aload_n 0, 1) := by decide +kernel
theorem d_Model_distance_6 : decode b_Model_distance 6 = .ok (.getfield 157, 3) := by decide +kernel
theorem d_Model_distance_9 : decode b_Model_distance 9 = .ok (.if_icmp .ge 64, 3) := by decide +kernel
theorem d_Model_distance_12 : decode b_Model_distance 12 = .ok (.aload_n 0, 1) := by decide +kernel
theorem d_Model_distance_13 : decode b_Model_distance 13 = .ok (.getfield 17, 3) := by decide +kernel
theorem d_Model_distance_16 : decode b_Model_distance 16 = .ok (.aload_n 0, 1) := by decide +kernel
theorem d_Model_distance_17 : decode b_Model_distance 17 = .ok (.getfield 29, 3) := by decide +kernel
theorem d_Model_distance_20 : decode b_Model_distance 20 = .ok (.iload_n 3, 1) := by decide +kernel
theorem d_Model_distance_21 : decode b_Model_distance 21 = .ok (.iaload, 1) := by decide +kernel
theorem d_Model_distance_22 : decode b_Model_distance 22 = .ok (.bipush 43, 2) := by decide +kernel
theorem d_Model_distance_24 : decode b_Model_distance 24 = .ok (.imul, 1) := by decide +kernel
theorem d_Model_distance_25 : decode b_Model_distance 25 = .ok (.iconst 4, 1) := by decide +kernel
theorem d_Model_distance_26 : decode b_Model_distance 26 = .ok (.iadd, 1) := by decide +kernel
theorem d_Model_distance_27 : decode b_Model_distance 27 = .ok (.aload_n 0, 1) := by decide +kernel
theorem d_Model_distance_28 : decode b_Model_distance 28 = .ok (.getfield 26, 3) := by decide +kernel
theorem d_Model_distance_31 : decode b_Model_distance 31 = .ok (.iload_n 3, 1) := by decide +kernel
theorem d_Model_distance_32 : decode b_Model_distance 32 = .ok (.iaload, 1) := by decide +kernel
theorem d_Model_distance_33 : decode b_Model_distance 33 = .ok (.sipush 200, 3) := by decide +kernel
theorem d_Model_distance_36 : decode b_Model_distance 36 = .ok (.if_icmp .le 7, 3) := by decide +kernel
theorem d_Model_distance_39 : decode b_Model_distance 39 = .ok (.iconst 2, 1) := by decide +kernel
theorem d_Model_distance_40 : decode b_Model_distance 40 = .ok (.goto 4, 3) := by decide +kernel
theorem d_Model_distance_43 : decode b_Model_distance 43 = .ok (.iconst 0, 1) := by decide +kernel
theorem d_Model_distance_44 : decode b_Model_distance 44 = .ok (.iadd, 1) := by decide +kernel
theorem d_Model_distance_45 : decode b_Model_distance 45 = .ok (.iload_n 1, 1) := by decide +kernel
theorem d_Model_distance_46 : decode b_Model_distance 46 = .ok (.ifCond .eq 7, 3) := by decide +kernel
theorem d_Model_distance_49 : decode b_Model_distance 49 = .ok (.iconst 0, 1) := by decide +kernel
theorem d_Model_distance_50 : decode b_Model_distance 50 = .ok (.goto 4, 3) := by decide +kernel
theorem d_Model_distance_53 : decode b_Model_distance 53 = .ok (.iconst 1, 1) := by decide +kernel
theorem d_Model_distance_54 : decode b_Model_distance 54 = .ok (.iadd, 1) := by decide +kernel
theorem d_Model_distance_55 : decode b_Model_distance 55 = .ok (.iaload, 1) := by decide +kernel
theorem d_Model_distance_56 : decode b_Model_distance 56 = .ok (.istore 4, 2) := by decide +kernel
theorem d_Model_distance_58 : decode b_Model_distance 58 = .ok (.iload 4, 2) := by decide +kernel
theorem d_Model_distance_60 : decode b_Model_distance 60 = .ok (.iload_n 2, 1) := by decide +kernel
theorem d_Model_distance_61 : decode b_Model_distance 61 = .ok (.if_icmp .le 6, 3) := by decide +kernel
theorem d_Model_distance_64 : decode b_Model_distance 64 = .ok (.iload 4, 2) := by decide +kernel
theorem d_Model_distance_66 : decode b_Model_distance 66 = .ok (.istore_n 2, 1) := by decide +kernel
theorem d_Model_distance_67 : decode b_Model_distance 67 = .ok (.iinc 3 1, 3) := by decide +kernel
theorem d_Model_distance_70 : decode b_Model_distance 70 = .ok (.goto (-66), 3) := by decide +kernel
theorem d_Model_distance_73 : decode b_Model_distance 73 = .ok (.iload_n 2, 1) := by decide +kernel
theorem d_Model_distance_74 : decode b_Model_distance 74 = .ok (.ireturn, 1) := by decide +kernel
abbrev b_Model_mixture : ByteArray := prog_8_method_32_code
abbrev y_Model_mixture : MethodName := { cls := "HazardTablesModel", name := "mixture", desc := "(I)I" }
abbrev w_Model_mixture : List Cond := .code y_Model_mixture b_Model_mixture 6 (some .int) :: WA
theorem d_Model_mixture_0 : decode b_Model_mixture 0 = .ok (.aload_n 0, 1) := by decide +kernel
theorem d_Model_mixture_1 : decode b_Model_mixture 1 = .ok (.iload_n 1, 1) := by decide +kernel
theorem d_Model_mixture_2 : decode b_Model_mixture 2 = .ok (.iconst 0, 1) := by decide +kernel
theorem d_Model_mixture_3 : decode b_Model_mixture 3 = .ok (.iconst 5, 1) := by decide +kernel
theorem d_Model_mixture_4 : decode b_Model_mixture 4 = .ok (.invokestatic 67, 3) := by decide +kernel
theorem d_Model_mixture_7 : decode b_Model_mixture 7 = .ok (.aload_n 0, 1) := by decide +kernel
theorem d_Model_mixture_8 : decode b_Model_mixture 8 = .ok (.getfield 157, 3) := by decide +kernel
theorem d_Model_mixture_11 : decode b_Model_mixture 11 = .ok (.ifCond .le 7, 3) := by decide +kernel
theorem d_Model_mixture_14 : decode b_Model_mixture 14 = .ok (.iconst 1, 1) := by decide +kernel
theorem d_Model_mixture_15 : decode b_Model_mixture 15 = .ok (.goto 4, 3) := by decide +kernel
theorem d_Model_mixture_18 : decode b_Model_mixture 18 = .ok (.iconst 0, 1) := by decide +kernel
theorem d_Model_mixture_19 : decode b_Model_mixture 19 = .ok (.iconst 1, 1) := by decide +kernel
theorem d_Model_mixture_20 : decode b_Model_mixture 20 = .ok (.invokevirtual 74, 3) := by decide +kernel
theorem d_Model_mixture_23 : decode b_Model_mixture 23 = .ok (.ifCond .ne 5, 3) := by decide +kernel
theorem d_Model_mixture_26 : decode b_Model_mixture 26 = .ok (.iconst 0, 1) := by decide +kernel
theorem d_Model_mixture_27 : decode b_Model_mixture 27 = .ok (.ireturn, 1) := by decide +kernel
theorem d_Model_mixture_28 : decode b_Model_mixture 28 = .ok (.iconst 0, 1) := by decide +kernel
theorem d_Model_mixture_29 : decode b_Model_mixture 29 = .ok (.istore_n 2, 1) := by decide +kernel
theorem d_Model_mixture_30 : decode b_Model_mixture 30 = .ok (.iconst 0, 1) := by decide +kernel
theorem d_Model_mixture_31 : decode b_Model_mixture 31 = .ok (.istore_n 3, 1) := by decide +kernel
theorem d_Model_mixture_32 : decode b_Model_mixture 32 = .ok (.iconst 0, 1) := by decide +kernel
theorem d_Model_mixture_33 : decode b_Model_mixture 33 = .ok (.istore 4, 2) := by decide +kernel
theorem d_Model_mixture_35 : decode b_Model_mixture 35 = .ok (.iload 4, 2) := by decide +kernel
theorem d_Model_mixture_37 : decode b_Model_mixture 37 = .ok (.aload_n 0, 1) := by decide +kernel
theorem d_Model_mixture_38 : decode b_Model_mixture 38 = .ok (.getfield 157, 3) := by decide +kernel
theorem d_Model_mixture_41 : decode b_Model_mixture 41 = .ok (.if_icmp .ge 59, 3) := by decide +kernel
theorem d_Model_mixture_44 : decode b_Model_mixture 44 = .ok (.iload_n 2, 1) := by decide +kernel
theorem d_Model_mixture_45 : decode b_Model_mixture 45 = .ok (.aload_n 0, 1) := by decide +kernel
theorem d_Model_mixture_46 : decode b_Model_mixture 46 = .ok (.getfield 17, 3) := by decide +kernel
theorem d_Model_mixture_49 : decode b_Model_mixture 49 = .ok (.aload_n 0, 1) := by decide +kernel
theorem d_Model_mixture_50 : decode b_Model_mixture 50 = .ok (.getfield 29, 3) := by decide +kernel
theorem d_Model_mixture_53 : decode b_Model_mixture 53 = .ok (.iload 4, 2) := by decide +kernel
theorem d_Model_mixture_55 : decode b_Model_mixture 55 = .ok (.iaload, 1) := by decide +kernel
theorem d_Model_mixture_56 : decode b_Model_mixture 56 = .ok (.bipush 43, 2) := by decide +kernel
theorem d_Model_mixture_58 : decode b_Model_mixture 58 = .ok (.imul, 1) := by decide +kernel
theorem d_Model_mixture_59 : decode b_Model_mixture 59 = .ok (.iconst 3, 1) := by decide +kernel
theorem d_Model_mixture_60 : decode b_Model_mixture 60 = .ok (.iadd, 1) := by decide +kernel
theorem d_Model_mixture_61 : decode b_Model_mixture 61 = .ok (.iaload, 1) := by decide +kernel
theorem d_Model_mixture_62 : decode b_Model_mixture 62 = .ok (.ior, 1) := by decide +kernel
theorem d_Model_mixture_63 : decode b_Model_mixture 63 = .ok (.istore_n 2, 1) := by decide +kernel
theorem d_Model_mixture_64 : decode b_Model_mixture 64 = .ok (.iconst 0, 1) := by decide +kernel
theorem d_Model_mixture_65 : decode b_Model_mixture 65 = .ok (.istore 5, 2) := by decide +kernel
theorem d_Model_mixture_67 : decode b_Model_mixture 67 = .ok (.iload 5, 2) := by decide +kernel
theorem d_Model_mixture_69 : decode b_Model_mixture 69 = .ok (.iload 4, 2) := by decide +kernel
theorem d_Model_mixture_71 : decode b_Model_mixture 71 = .ok (.if_icmp .ge 23, 3) := by decide +kernel
theorem d_Model_mixture_74 : decode b_Model_mixture 74 = .ok (.aload_n 0, 1) := by decide +kernel
theorem d_Model_mixture_75 : decode b_Model_mixture 75 = .ok (.iload 4, 2) := by decide +kernel
theorem d_Model_mixture_77 : decode b_Model_mixture 77 = .ok (.iload 5, 2) := by decide +kernel
theorem d_Model_mixture_79 : decode b_Model_mixture 79 = .ok (.invokevirtual 160, 3) := by decide +kernel
theorem d_Model_mixture_82 : decode b_Model_mixture 82 = .ok (.ifCond .eq 6, 3) := by decide +kernel
theorem d_Model_mixture_85 : decode b_Model_mixture 85 = .ok (.iinc 3 1, 3) := by decide +kernel
theorem d_Model_mixture_88 : decode b_Model_mixture 88 = .ok (.iinc 5 1, 3) := by decide +kernel
theorem d_Model_mixture_91 : decode b_Model_mixture 91 = .ok (.goto (-24), 3) := by decide +kernel
theorem d_Model_mixture_94 : decode b_Model_mixture 94 = .ok (.iinc 4 1, 3) := by decide +kernel
theorem d_Model_mixture_97 : decode b_Model_mixture 97 = .ok (.goto (-62), 3) := by decide +kernel
theorem d_Model_mixture_100 : decode b_Model_mixture 100 = .ok (.iload_n 1, 1) := by decide +kernel
theorem d_Model_mixture_101 : decode b_Model_mixture 101 = .ok (.ifCond .ne 10, 3) := by decide +kernel
theorem d_Model_mixture_104 : decode b_Model_mixture 104 = .ok (.aload_n 0, 1) := by decide +kernel
theorem d_Model_mixture_105 : decode b_Model_mixture 105 = .ok (.invokevirtual 164, 3) := by decide +kernel
theorem d_Model_mixture_108 : decode b_Model_mixture 108 = .ok (.goto 47, 3) := by decide +kernel
theorem d_Model_mixture_111 : decode b_Model_mixture 111 = .ok (.iload_n 1, 1) := by decide +kernel
theorem d_Model_mixture_112 : decode b_Model_mixture 112 = .ok (.iconst 1, 1) := by decide +kernel
theorem d_Model_mixture_113 : decode b_Model_mixture 113 = .ok (.if_icmp .ne 7, 3) := by decide +kernel
theorem d_Model_mixture_116 : decode b_Model_mixture 116 = .ok (.iload_n 2, 1) := by decide +kernel
theorem d_Model_mixture_117 : decode b_Model_mixture 117 = .ok (.goto 38, 3) := by decide +kernel
theorem d_Model_mixture_120 : decode b_Model_mixture 120 = .ok (.iload_n 1, 1) := by decide +kernel
theorem d_Model_mixture_121 : decode b_Model_mixture 121 = .ok (.iconst 4, 1) := by decide +kernel
theorem d_Model_mixture_122 : decode b_Model_mixture 122 = .ok (.if_icmp .ge 20, 3) := by decide +kernel
theorem d_Model_mixture_125 : decode b_Model_mixture 125 = .ok (.aload_n 0, 1) := by decide +kernel
theorem d_Model_mixture_126 : decode b_Model_mixture 126 = .ok (.iload_n 1, 1) := by decide +kernel
theorem d_Model_mixture_127 : decode b_Model_mixture 127 = .ok (.iconst 2, 1) := by decide +kernel
theorem d_Model_mixture_128 : decode b_Model_mixture 128 = .ok (.if_icmp .ne 7, 3) := by decide +kernel
theorem d_Model_mixture_131 : decode b_Model_mixture 131 = .ok (.iconst 1, 1) := by decide +kernel
theorem d_Model_mixture_132 : decode b_Model_mixture 132 = .ok (.goto 4, 3) := by decide +kernel
theorem d_Model_mixture_135 : decode b_Model_mixture 135 = .ok (.iconst 0, 1) := by decide +kernel
theorem d_Model_mixture_136 : decode b_Model_mixture 136 = .ok (.invokevirtual 167, 3) := by decide +kernel
theorem d_Model_mixture_139 : decode b_Model_mixture 139 = .ok (.goto 16, 3) := by decide +kernel
theorem d_Model_mixture_142 : decode b_Model_mixture 142 = .ok (.iload_n 1, 1) := by decide +kernel
theorem d_Model_mixture_143 : decode b_Model_mixture 143 = .ok (.iconst 4, 1) := by decide +kernel
theorem d_Model_mixture_144 : decode b_Model_mixture 144 = .ok (.if_icmp .ne 10, 3) := by decide +kernel
theorem d_Model_mixture_147 : decode b_Model_mixture 147 = .ok (.aload_n 0, 1) := by decide +kernel
theorem d_Model_mixture_148 : decode b_Model_mixture 148 = .ok (.getfield 157, 3) := by decide +kernel
theorem d_Model_mixture_151 : decode b_Model_mixture 151 = .ok (.goto 4, 3) := by decide +kernel
theorem d_Model_mixture_154 : decode b_Model_mixture 154 = .ok (.iload_n 3, 1) := by decide +kernel
theorem d_Model_mixture_155 : decode b_Model_mixture 155 = .ok (.ireturn, 1) := by decide +kernel
abbrev b_Model_strict : ByteArray := prog_8_method_33_code
abbrev y_Model_strict : MethodName := { cls := "HazardTablesModel", name := "strict", desc := "(I)I" }
abbrev w_Model_strict : List Cond := .code y_Model_strict b_Model_strict 4 (some .int) :: WA
theorem d_Model_strict_0 : decode b_Model_strict 0 = .ok (.aload_n 0, 1) := by decide +kernel
theorem d_Model_strict_1 : decode b_Model_strict 1 = .ok (.iload_n 1, 1) := by decide +kernel
theorem d_Model_strict_2 : decode b_Model_strict 2 = .ok (.ifCond .lt 7, 3) := by decide +kernel
theorem d_Model_strict_5 : decode b_Model_strict 5 = .ok (.iconst 1, 1) := by decide +kernel
theorem d_Model_strict_6 : decode b_Model_strict 6 = .ok (.goto 4, 3) := by decide +kernel
theorem d_Model_strict_9 : decode b_Model_strict 9 = .ok (.iconst 0, 1) := by decide +kernel
theorem d_Model_strict_10 : decode b_Model_strict 10 = .ok (.iconst 1, 1) := by decide +kernel
theorem d_Model_strict_11 : decode b_Model_strict 11 = .ok (.iconst 1, 1) := by decide +kernel
theorem d_Model_strict_12 : decode b_Model_strict 12 = .ok (.invokevirtual 74, 3) := by decide +kernel
theorem d_Model_strict_15 : decode b_Model_strict 15 = .ok (.ifCond .ne 5, 3) := by decide +kernel
theorem d_Model_strict_18 : decode b_Model_strict 18 = .ok (.iconst 0, 1) := by decide +kernel
theorem d_Model_strict_19 : decode b_Model_strict 19 = .ok (.ireturn, 1) := by decide +kernel
theorem d_Model_strict_20 : decode b_Model_strict 20 = .ok (.iload_n 1, 1) := by decide +kernel
theorem d_Model_strict_21 : decode b_Model_strict 21 = .ok (.istore_n 2, 1) := by decide +kernel
theorem d_Model_strict_22 : decode b_Model_strict 22 = .ok (.iconst 0, 1) := by decide +kernel
theorem d_Model_strict_23 : decode b_Model_strict 23 = .ok (.istore_n 3, 1) := by decide +kernel
theorem d_Model_strict_24 : decode b_Model_strict 24 = .ok (.iload_n 3, 1) := by decide +kernel
theorem d_Model_strict_25 : decode b_Model_strict 25 = .ok (.aload_n 0, 1) := by decide +kernel
theorem d_Model_strict_26 : decode b_Model_strict 26 = .ok (.getfield 157, 3) := by decide +kernel
theorem d_Model_strict_29 : decode b_Model_strict 29 = .ok (.if_icmp .ge 49, 3) := by decide +kernel
theorem d_Model_strict_32 : decode b_Model_strict 32 = .ok (.aload_n 0, 1) := by decide +kernel
theorem d_Model_strict_33 : decode b_Model_strict 33 = .ok (.getfield 17, 3) := by decide +kernel
theorem d_Model_strict_36 : decode b_Model_strict 36 = .ok (.aload_n 0, 1) := by decide +kernel
theorem d_Model_strict_37 : decode b_Model_strict 37 = .ok (.getfield 29, 3) := by decide +kernel
theorem d_Model_strict_40 : decode b_Model_strict 40 = .ok (.iload_n 3, 1) := by decide +kernel
theorem d_Model_strict_41 : decode b_Model_strict 41 = .ok (.iaload, 1) := by decide +kernel
theorem d_Model_strict_42 : decode b_Model_strict 42 = .ok (.bipush 43, 2) := by decide +kernel
theorem d_Model_strict_44 : decode b_Model_strict 44 = .ok (.imul, 1) := by decide +kernel
theorem d_Model_strict_45 : decode b_Model_strict 45 = .ok (.iconst 2, 1) := by decide +kernel
theorem d_Model_strict_46 : decode b_Model_strict 46 = .ok (.iadd, 1) := by decide +kernel
theorem d_Model_strict_47 : decode b_Model_strict 47 = .ok (.iaload, 1) := by decide +kernel
theorem d_Model_strict_48 : decode b_Model_strict 48 = .ok (.aload_n 0, 1) := by decide +kernel
theorem d_Model_strict_49 : decode b_Model_strict 49 = .ok (.invokevirtual 164, 3) := by decide +kernel
theorem d_Model_strict_52 : decode b_Model_strict 52 = .ok (.if_icmp .eq 6, 3) := by decide +kernel
theorem d_Model_strict_55 : decode b_Model_strict 55 = .ok (.goto 17, 3) := by decide +kernel
theorem d_Model_strict_58 : decode b_Model_strict 58 = .ok (.iload_n 2, 1) := by decide +kernel
theorem d_Model_strict_59 : decode b_Model_strict 59 = .ok (.ifCond .ne 10, 3) := by decide +kernel
theorem d_Model_strict_62 : decode b_Model_strict 62 = .ok (.aload_n 0, 1) := by decide +kernel
theorem d_Model_strict_63 : decode b_Model_strict 63 = .ok (.getfield 23, 3) := by decide +kernel
theorem d_Model_strict_66 : decode b_Model_strict 66 = .ok (.iload_n 3, 1) := by decide +kernel
theorem d_Model_strict_67 : decode b_Model_strict 67 = .ok (.iaload, 1) := by decide +kernel
theorem d_Model_strict_68 : decode b_Model_strict 68 = .ok (.ireturn, 1) := by decide +kernel
theorem d_Model_strict_69 : decode b_Model_strict 69 = .ok (.iinc 2 (-1), 3) := by decide +kernel
theorem d_Model_strict_72 : decode b_Model_strict 72 = .ok (.iinc 3 1, 3) := by decide +kernel
theorem d_Model_strict_75 : decode b_Model_strict 75 = .ok (.goto (-51), 3) := by decide +kernel
theorem d_Model_strict_78 : decode b_Model_strict 78 = .ok (.iconst (-1), 1) := by decide +kernel
theorem d_Model_strict_79 : decode b_Model_strict 79 = .ok (.ireturn, 1) := by decide +kernel
abbrev b_Model_isPoint : ByteArray := prog_8_method_34_code
abbrev y_Model_isPoint : MethodName := { cls := "HazardTablesModel", name := "isPoint", desc := "(II)Z" }
abbrev w_Model_isPoint : List Cond := .code y_Model_isPoint b_Model_isPoint 2 (some .boolean) :: WA
theorem d_Model_isPoint_0 : decode b_Model_isPoint 0 = .ok (.iload_n 0, 1) := by decide +kernel
theorem d_Model_isPoint_1 : decode b_Model_isPoint 1 = .ok (.sipush (-10000), 3) := by decide +kernel
theorem d_Model_isPoint_4 : decode b_Model_isPoint 4 = .ok (.sipush 10000, 3) := by decide +kernel
theorem d_Model_isPoint_7 : decode b_Model_isPoint 7 = .ok (.invokestatic 67, 3) := by decide +kernel
theorem d_Model_isPoint_10 : decode b_Model_isPoint 10 = .ok (.ifCond .eq 20, 3) := by decide +kernel
theorem d_Model_isPoint_13 : decode b_Model_isPoint 13 = .ok (.iload_n 1, 1) := by decide +kernel
theorem d_Model_isPoint_14 : decode b_Model_isPoint 14 = .ok (.sipush (-10000), 3) := by decide +kernel
theorem d_Model_isPoint_17 : decode b_Model_isPoint 17 = .ok (.sipush 10000, 3) := by decide +kernel
theorem d_Model_isPoint_20 : decode b_Model_isPoint 20 = .ok (.invokestatic 67, 3) := by decide +kernel
theorem d_Model_isPoint_23 : decode b_Model_isPoint 23 = .ok (.ifCond .eq 7, 3) := by decide +kernel
theorem d_Model_isPoint_26 : decode b_Model_isPoint 26 = .ok (.iconst 1, 1) := by decide +kernel
theorem d_Model_isPoint_27 : decode b_Model_isPoint 27 = .ok (.goto 4, 3) := by decide +kernel
theorem d_Model_isPoint_30 : decode b_Model_isPoint 30 = .ok (.iconst 0, 1) := by decide +kernel
theorem d_Model_isPoint_31 : decode b_Model_isPoint 31 = .ok (.ireturn, 1) := by decide +kernel
abbrev b_Model_isIn : ByteArray := prog_8_method_35_code
abbrev y_Model_isIn : MethodName := { cls := "HazardTablesModel", name := "isIn", desc := "(II)Z" }
abbrev w_Model_isIn : List Cond := .code y_Model_isIn b_Model_isIn 9 (some .boolean) :: WA
theorem d_Model_isIn_0 : decode b_Model_isIn 0 = .ok (.aload_n 0, 1) := by decide +kernel
theorem d_Model_isIn_1 : decode b_Model_isIn 1 = .ok (.getfield 157, 3) := by decide +kernel
theorem d_Model_isIn_4 : decode b_Model_isIn 4 = .ok (.ifCond .ne 5, 3) := by decide +kernel
theorem d_Model_isIn_7 : decode b_Model_isIn 7 = .ok (.iconst 0, 1) := by decide +kernel
theorem d_Model_isIn_8 : decode b_Model_isIn 8 = .ok (.ireturn, 1) := by decide +kernel
theorem d_Model_isIn_9 : decode b_Model_isIn 9 = .ok (.iload_n 1, 1) := by decide +kernel
theorem d_Model_isIn_10 : decode b_Model_isIn 10 = .ok (.ifCond .ne 9, 3) := by decide +kernel
theorem d_Model_isIn_13 : decode b_Model_isIn 13 = .ok (.iload_n 2, 1) := by decide +kernel
theorem d_Model_isIn_14 : decode b_Model_isIn 14 = .ok (.ifCond .ne 5, 3) := by decide +kernel
theorem d_Model_isIn_17 : decode b_Model_isIn 17 = .ok (.iconst 1, 1) := by decide +kernel
theorem d_Model_isIn_18 : decode b_Model_isIn 18 = .ok (.ireturn, 1) := by decide +kernel
theorem d_Model_isIn_19 : decode b_Model_isIn 19 = .ok (.aload_n 0, 1) := by decide +kernel
theorem d_Model_isIn_20 : decode b_Model_isIn 20 = .ok (.aload_n 0, 1) := by decide +kernel
theorem d_Model_isIn_21 : decode b_Model_isIn 21 = .ok (.getfield 35, 3) := by decide +kernel
theorem d_Model_isIn_24 : decode b_Model_isIn 24 = .ok (.invokevirtual 167, 3) := by decide +kernel
theorem d_Model_isIn_27 : decode b_Model_isIn 27 = .ok (.i2l, 1) := by decide +kernel
theorem d_Model_isIn_28 : decode b_Model_isIn 28 = .ok (.lstore_n 3, 1) := by decide +kernel
theorem d_Model_isIn_29 : decode b_Model_isIn 29 = .ok (.iload_n 1, 1) := by decide +kernel
theorem d_Model_isIn_30 : decode b_Model_isIn 30 = .ok (.i2l, 1) := by decide +kernel
theorem d_Model_isIn_31 : decode b_Model_isIn 31 = .ok (.iload_n 1, 1) := by decide +kernel
theorem d_Model_isIn_32 : decode b_Model_isIn 32 = .ok (.i2l, 1) := by decide +kernel
theorem d_Model_isIn_33 : decode b_Model_isIn 33 = .ok (.lmul, 1) := by decide +kernel
theorem d_Model_isIn_34 : decode b_Model_isIn 34 = .ok (.iload_n 2, 1) := by decide +kernel
theorem d_Model_isIn_35 : decode b_Model_isIn 35 = .ok (.i2l, 1) := by decide +kernel
theorem d_Model_isIn_36 : decode b_Model_isIn 36 = .ok (.iload_n 2, 1) := by decide +kernel
theorem d_Model_isIn_37 : decode b_Model_isIn 37 = .ok (.i2l, 1) := by decide +kernel
theorem d_Model_isIn_38 : decode b_Model_isIn 38 = .ok (.lmul, 1) := by decide +kernel
theorem d_Model_isIn_39 : decode b_Model_isIn 39 = .ok (.ladd, 1) := by decide +kernel
theorem d_Model_isIn_40 : decode b_Model_isIn 40 = .ok (.lstore 5, 2) := by decide +kernel
theorem d_Model_isIn_42 : decode b_Model_isIn 42 = .ok (.iload_n 1, 1) := by decide +kernel
theorem d_Model_isIn_43 : decode b_Model_isIn 43 = .ok (.i2l, 1) := by decide +kernel
theorem d_Model_isIn_44 : decode b_Model_isIn 44 = .ok (.aload_n 0, 1) := by decide +kernel
theorem d_Model_isIn_45 : decode b_Model_isIn 45 = .ok (.getfield 32, 3) := by decide +kernel
theorem d_Model_isIn_48 : decode b_Model_isIn 48 = .ok (.i2l, 1) := by decide +kernel
theorem d_Model_isIn_49 : decode b_Model_isIn 49 = .ok (.lmul, 1) := by decide +kernel
theorem d_Model_isIn_50 : decode b_Model_isIn 50 = .ok (.iload_n 2, 1) := by decide +kernel
theorem d_Model_isIn_51 : decode b_Model_isIn 51 = .ok (.i2l, 1) := by decide +kernel
theorem d_Model_isIn_52 : decode b_Model_isIn 52 = .ok (.aload_n 0, 1) := by decide +kernel
theorem d_Model_isIn_53 : decode b_Model_isIn 53 = .ok (.getfield 171, 3) := by decide +kernel
theorem d_Model_isIn_56 : decode b_Model_isIn 56 = .ok (.i2l, 1) := by decide +kernel
theorem d_Model_isIn_57 : decode b_Model_isIn 57 = .ok (.lmul, 1) := by decide +kernel
theorem d_Model_isIn_58 : decode b_Model_isIn 58 = .ok (.ladd, 1) := by decide +kernel
theorem d_Model_isIn_59 : decode b_Model_isIn 59 = .ok (.lstore 7, 2) := by decide +kernel
theorem d_Model_isIn_61 : decode b_Model_isIn 61 = .ok (.lload 5, 2) := by decide +kernel
theorem d_Model_isIn_63 : decode b_Model_isIn 63 = .ok (.lload_n 3, 1) := by decide +kernel
theorem d_Model_isIn_64 : decode b_Model_isIn 64 = .ok (.lload_n 3, 1) := by decide +kernel
theorem d_Model_isIn_65 : decode b_Model_isIn 65 = .ok (.lmul, 1) := by decide +kernel
theorem d_Model_isIn_66 : decode b_Model_isIn 66 = .ok (.lcmp, 1) := by decide +kernel
theorem d_Model_isIn_67 : decode b_Model_isIn 67 = .ok (.ifCond .gt 53, 3) := by decide +kernel
theorem d_Model_isIn_70 : decode b_Model_isIn 70 = .ok (.lload 7, 2) := by decide +kernel
theorem d_Model_isIn_72 : decode b_Model_isIn 72 = .ok (.lconst 0, 1) := by decide +kernel
theorem d_Model_isIn_73 : decode b_Model_isIn 73 = .ok (.lcmp, 1) := by decide +kernel
theorem d_Model_isIn_74 : decode b_Model_isIn 74 = .ok (.ifCond .le 46, 3) := by decide +kernel
theorem d_Model_isIn_77 : decode b_Model_isIn 77 = .ok (.ldc2_w 174, 3) := by decide +kernel
theorem d_Model_isIn_80 : decode b_Model_isIn 80 = .ok (.lload 7, 2) := by decide +kernel
theorem d_Model_isIn_82 : decode b_Model_isIn 82 = .ok (.lmul, 1) := by decide +kernel
theorem d_Model_isIn_83 : decode b_Model_isIn 83 = .ok (.lload 7, 2) := by decide +kernel
theorem d_Model_isIn_85 : decode b_Model_isIn 85 = .ok (.lmul, 1) := by decide +kernel
theorem d_Model_isIn_86 : decode b_Model_isIn 86 = .ok (.lload 5, 2) := by decide +kernel
theorem d_Model_isIn_88 : decode b_Model_isIn 88 = .ok (.aload_n 0, 1) := by decide +kernel
theorem d_Model_isIn_89 : decode b_Model_isIn 89 = .ok (.getfield 32, 3) := by decide +kernel
theorem d_Model_isIn_92 : decode b_Model_isIn 92 = .ok (.i2l, 1) := by decide +kernel
theorem d_Model_isIn_93 : decode b_Model_isIn 93 = .ok (.aload_n 0, 1) := by decide +kernel
theorem d_Model_isIn_94 : decode b_Model_isIn 94 = .ok (.getfield 32, 3) := by decide +kernel
theorem d_Model_isIn_97 : decode b_Model_isIn 97 = .ok (.i2l, 1) := by decide +kernel
theorem d_Model_isIn_98 : decode b_Model_isIn 98 = .ok (.lmul, 1) := by decide +kernel
theorem d_Model_isIn_99 : decode b_Model_isIn 99 = .ok (.aload_n 0, 1) := by decide +kernel
theorem d_Model_isIn_100 : decode b_Model_isIn 100 = .ok (.getfield 171, 3) := by decide +kernel
theorem d_Model_isIn_103 : decode b_Model_isIn 103 = .ok (.i2l, 1) := by decide +kernel
theorem d_Model_isIn_104 : decode b_Model_isIn 104 = .ok (.aload_n 0, 1) := by decide +kernel
theorem d_Model_isIn_105 : decode b_Model_isIn 105 = .ok (.getfield 171, 3) := by decide +kernel
theorem d_Model_isIn_108 : decode b_Model_isIn 108 = .ok (.i2l, 1) := by decide +kernel
theorem d_Model_isIn_109 : decode b_Model_isIn 109 = .ok (.lmul, 1) := by decide +kernel
theorem d_Model_isIn_110 : decode b_Model_isIn 110 = .ok (.ladd, 1) := by decide +kernel
theorem d_Model_isIn_111 : decode b_Model_isIn 111 = .ok (.lmul, 1) := by decide +kernel
theorem d_Model_isIn_112 : decode b_Model_isIn 112 = .ok (.lcmp, 1) := by decide +kernel
theorem d_Model_isIn_113 : decode b_Model_isIn 113 = .ok (.ifCond .lt 7, 3) := by decide +kernel
theorem d_Model_isIn_116 : decode b_Model_isIn 116 = .ok (.iconst 1, 1) := by decide +kernel
theorem d_Model_isIn_117 : decode b_Model_isIn 117 = .ok (.goto 4, 3) := by decide +kernel
theorem d_Model_isIn_120 : decode b_Model_isIn 120 = .ok (.iconst 0, 1) := by decide +kernel
theorem d_Model_isIn_121 : decode b_Model_isIn 121 = .ok (.ireturn, 1) := by decide +kernel
abbrev b_Model_building : ByteArray := prog_8_method_36_code
abbrev y_Model_building : MethodName := { cls := "HazardTablesModel", name := "building", desc := "(II)I" }
abbrev w_Model_building : List Cond := .code y_Model_building b_Model_building 3 (some .int) :: WA
theorem d_Model_building_0 : decode b_Model_building 0 = .ok (.aload_n 0, 1) := by decide +kernel
theorem d_Model_building_1 : decode b_Model_building 1 = .ok (.iload_n 1, 1) := by decide +kernel
theorem d_Model_building_2 : decode b_Model_building 2 = .ok (.iload_n 2, 1) := by decide +kernel
theorem d_Model_building_3 : decode b_Model_building 3 = .ok (.invokestatic 176, 3) := by decide +kernel
theorem d_Model_building_6 : decode b_Model_building 6 = .ok (.aload_n 0, 1) := by decide +kernel
theorem d_Model_building_7 : decode b_Model_building 7 = .ok (.getfield 179, 3) := by decide +kernel
theorem d_Model_building_10 : decode b_Model_building 10 = .ok (.bipush 40, 2) := by decide +kernel
theorem d_Model_building_12 : decode b_Model_building 12 = .ok (.if_icmp .ge 7, 3) := by decide +kernel
theorem d_Model_building_15 : decode b_Model_building 15 = .ok (.iconst 1, 1) := by decide +kernel
theorem d_Model_building_16 : decode b_Model_building 16 = .ok (.goto 4, 3) := by decide +kernel
theorem d_Model_building_19 : decode b_Model_building 19 = .ok (.iconst 0, 1) := by decide +kernel
theorem d_Model_building_20 : decode b_Model_building 20 = .ok (.iconst 1, 1) := by decide +kernel
theorem d_Model_building_21 : decode b_Model_building 21 = .ok (.invokevirtual 74, 3) := by decide +kernel
theorem d_Model_building_24 : decode b_Model_building 24 = .ok (.ifCond .ne 5, 3) := by decide +kernel
theorem d_Model_building_27 : decode b_Model_building 27 = .ok (.iconst 0, 1) := by decide +kernel
theorem d_Model_building_28 : decode b_Model_building 28 = .ok (.ireturn, 1) := by decide +kernel
theorem d_Model_building_29 : decode b_Model_building 29 = .ok (.aload_n 0, 1) := by decide +kernel
theorem d_Model_building_30 : decode b_Model_building 30 = .ok (.getfield 39, 3) := by decide +kernel
theorem d_Model_building_33 : decode b_Model_building 33 = .ok (.aload_n 0, 1) := by decide +kernel
theorem d_Model_building_34 : decode b_Model_building 34 = .ok (.getfield 179, 3) := by decide +kernel
theorem d_Model_building_37 : decode b_Model_building 37 = .ok (.iload_n 1, 1) := by decide +kernel
theorem d_Model_building_38 : decode b_Model_building 38 = .ok (.iastore, 1) := by decide +kernel
theorem d_Model_building_39 : decode b_Model_building 39 = .ok (.aload_n 0, 1) := by decide +kernel
theorem d_Model_building_40 : decode b_Model_building 40 = .ok (.getfield 42, 3) := by decide +kernel
theorem d_Model_building_43 : decode b_Model_building 43 = .ok (.aload_n 0, 1) := by decide +kernel
theorem d_Model_building_44 : decode b_Model_building 44 = .ok (.getfield 179, 3) := by decide +kernel
theorem d_Model_building_47 : decode b_Model_building 47 = .ok (.iload_n 2, 1) := by decide +kernel
theorem d_Model_building_48 : decode b_Model_building 48 = .ok (.iastore, 1) := by decide +kernel
theorem d_Model_building_49 : decode b_Model_building 49 = .ok (.aload_n 0, 1) := by decide +kernel
theorem d_Model_building_50 : decode b_Model_building 50 = .ok (.dup, 1) := by decide +kernel
theorem d_Model_building_51 : decode b_Model_building 51 = .ok (.getfield 179, 3) := by decide +kernel
theorem d_Model_building_54 : decode b_Model_building 54 = .ok (.iconst 1, 1) := by decide +kernel
theorem d_Model_building_55 : decode b_Model_building 55 = .ok (.iadd, 1) := by decide +kernel
theorem d_Model_building_56 : decode b_Model_building 56 = .ok (.putfield 179, 3) := by decide +kernel
theorem d_Model_building_59 : decode b_Model_building 59 = .ok (.aload_n 0, 1) := by decide +kernel
theorem d_Model_building_60 : decode b_Model_building 60 = .ok (.getfield 179, 3) := by decide +kernel
theorem d_Model_building_63 : decode b_Model_building 63 = .ok (.iconst 1, 1) := by decide +kernel
theorem d_Model_building_64 : decode b_Model_building 64 = .ok (.isub, 1) := by decide +kernel
theorem d_Model_building_65 : decode b_Model_building 65 = .ok (.ireturn, 1) := by decide +kernel
abbrev b_Model_wind : ByteArray := prog_8_method_37_code
abbrev y_Model_wind : MethodName := { cls := "HazardTablesModel", name := "wind", desc := "(IIZ)I" }
abbrev w_Model_wind : List Cond := .code y_Model_wind b_Model_wind 5 (some .int) :: WA
theorem d_Model_wind_0 : decode b_Model_wind 0 = .ok (.aload_n 0, 1) := by decide +kernel
theorem d_Model_wind_1 : decode b_Model_wind 1 = .ok (.iload_n 1, 1) := by decide +kernel
theorem d_Model_wind_2 : decode b_Model_wind 2 = .ok (.bipush (-100), 2) := by decide +kernel
theorem d_Model_wind_4 : decode b_Model_wind 4 = .ok (.bipush 100, 2) := by decide +kernel
theorem d_Model_wind_6 : decode b_Model_wind 6 = .ok (.invokestatic 67, 3) := by decide +kernel
theorem d_Model_wind_9 : decode b_Model_wind 9 = .ok (.ifCond .eq 26, 3) := by decide +kernel
theorem d_Model_wind_12 : decode b_Model_wind 12 = .ok (.iload_n 2, 1) := by decide +kernel
theorem d_Model_wind_13 : decode b_Model_wind 13 = .ok (.bipush (-100), 2) := by decide +kernel
theorem d_Model_wind_15 : decode b_Model_wind 15 = .ok (.bipush 100, 2) := by decide +kernel
theorem d_Model_wind_17 : decode b_Model_wind 17 = .ok (.invokestatic 67, 3) := by decide +kernel
theorem d_Model_wind_20 : decode b_Model_wind 20 = .ok (.ifCond .eq 15, 3) := by decide +kernel
theorem d_Model_wind_23 : decode b_Model_wind 23 = .ok (.iload_n 1, 1) := by decide +kernel
theorem d_Model_wind_24 : decode b_Model_wind 24 = .ok (.ifCond .ne 7, 3) := by decide +kernel
theorem d_Model_wind_27 : decode b_Model_wind 27 = .ok (.iload_n 2, 1) := by decide +kernel
theorem d_Model_wind_28 : decode b_Model_wind 28 = .ok (.ifCond .eq 7, 3) := by decide +kernel
theorem d_Model_wind_31 : decode b_Model_wind 31 = .ok (.iconst 1, 1) := by decide +kernel
theorem d_Model_wind_32 : decode b_Model_wind 32 = .ok (.goto 4, 3) := by decide +kernel
theorem d_Model_wind_35 : decode b_Model_wind 35 = .ok (.iconst 0, 1) := by decide +kernel
theorem d_Model_wind_36 : decode b_Model_wind 36 = .ok (.iconst 1, 1) := by decide +kernel
theorem d_Model_wind_37 : decode b_Model_wind 37 = .ok (.iconst 1, 1) := by decide +kernel
theorem d_Model_wind_38 : decode b_Model_wind 38 = .ok (.invokevirtual 74, 3) := by decide +kernel
theorem d_Model_wind_41 : decode b_Model_wind 41 = .ok (.ifCond .ne 5, 3) := by decide +kernel
theorem d_Model_wind_44 : decode b_Model_wind 44 = .ok (.iconst 0, 1) := by decide +kernel
theorem d_Model_wind_45 : decode b_Model_wind 45 = .ok (.ireturn, 1) := by decide +kernel
theorem d_Model_wind_46 : decode b_Model_wind 46 = .ok (.iconst 0, 1) := by decide +kernel
theorem d_Model_wind_47 : decode b_Model_wind 47 = .ok (.istore 4, 2) := by decide +kernel
theorem d_Model_wind_49 : decode b_Model_wind 49 = .ok (.iload 4, 2) := by decide +kernel
theorem d_Model_wind_51 : decode b_Model_wind 51 = .ok (.aload_n 0, 1) := by decide +kernel
theorem d_Model_wind_52 : decode b_Model_wind 52 = .ok (.getfield 179, 3) := by decide +kernel
theorem d_Model_wind_55 : decode b_Model_wind 55 = .ok (.if_icmp .ge 34, 3) := by decide +kernel
theorem d_Model_wind_58 : decode b_Model_wind 58 = .ok (.aload_n 0, 1) := by decide +kernel
theorem d_Model_wind_59 : decode b_Model_wind 59 = .ok (.getfield 45, 3) := by decide +kernel
theorem d_Model_wind_62 : decode b_Model_wind 62 = .ok (.iload 4, 2) := by decide +kernel
theorem d_Model_wind_64 : decode b_Model_wind 64 = .ok (.aload_n 0, 1) := by decide +kernel
theorem d_Model_wind_65 : decode b_Model_wind 65 = .ok (.aload_n 0, 1) := by decide +kernel
theorem d_Model_wind_66 : decode b_Model_wind 66 = .ok (.getfield 39, 3) := by decide +kernel
theorem d_Model_wind_69 : decode b_Model_wind 69 = .ok (.iload 4, 2) := by decide +kernel
theorem d_Model_wind_71 : decode b_Model_wind 71 = .ok (.iaload, 1) := by decide +kernel
theorem d_Model_wind_72 : decode b_Model_wind 72 = .ok (.aload_n 0, 1) := by decide +kernel
theorem d_Model_wind_73 : decode b_Model_wind 73 = .ok (.getfield 42, 3) := by decide +kernel
theorem d_Model_wind_76 : decode b_Model_wind 76 = .ok (.iload 4, 2) := by decide +kernel
theorem d_Model_wind_78 : decode b_Model_wind 78 = .ok (.iaload, 1) := by decide +kernel
theorem d_Model_wind_79 : decode b_Model_wind 79 = .ok (.invokevirtual 182, 3) := by decide +kernel
theorem d_Model_wind_82 : decode b_Model_wind 82 = .ok (.bastore, 1) := by decide +kernel
theorem d_Model_wind_83 : decode b_Model_wind 83 = .ok (.iinc 4 1, 3) := by decide +kernel
theorem d_Model_wind_86 : decode b_Model_wind 86 = .ok (.goto (-37), 3) := by decide +kernel
theorem d_Model_wind_89 : decode b_Model_wind 89 = .ok (.aload_n 0, 1) := by decide +kernel
theorem d_Model_wind_90 : decode b_Model_wind 90 = .ok (.iload_n 1, 1) := by decide +kernel
theorem d_Model_wind_91 : decode b_Model_wind 91 = .ok (.putfield 32, 3) := by decide +kernel
theorem d_Model_wind_94 : decode b_Model_wind 94 = .ok (.aload_n 0, 1) := by decide +kernel
theorem d_Model_wind_95 : decode b_Model_wind 95 = .ok (.iload_n 2, 1) := by decide +kernel
theorem d_Model_wind_96 : decode b_Model_wind 96 = .ok (.putfield 171, 3) := by decide +kernel
theorem d_Model_wind_99 : decode b_Model_wind 99 = .ok (.aload_n 0, 1) := by decide +kernel
theorem d_Model_wind_100 : decode b_Model_wind 100 = .ok (.iload_n 3, 1) := by decide +kernel
theorem d_Model_wind_101 : decode b_Model_wind 101 = .ok (.putfield 35, 3) := by decide +kernel
theorem d_Model_wind_104 : decode b_Model_wind 104 = .ok (.aload_n 0, 1) := by decide +kernel
theorem d_Model_wind_105 : decode b_Model_wind 105 = .ok (.iconst 0, 1) := by decide +kernel
theorem d_Model_wind_106 : decode b_Model_wind 106 = .ok (.putfield 185, 3) := by decide +kernel
theorem d_Model_wind_109 : decode b_Model_wind 109 = .ok (.iconst 0, 1) := by decide +kernel
theorem d_Model_wind_110 : decode b_Model_wind 110 = .ok (.istore 4, 2) := by decide +kernel
theorem d_Model_wind_112 : decode b_Model_wind 112 = .ok (.iload 4, 2) := by decide +kernel
theorem d_Model_wind_114 : decode b_Model_wind 114 = .ok (.aload_n 0, 1) := by decide +kernel
theorem d_Model_wind_115 : decode b_Model_wind 115 = .ok (.getfield 179, 3) := by decide +kernel
theorem d_Model_wind_118 : decode b_Model_wind 118 = .ok (.if_icmp .ge 64, 3) := by decide +kernel
theorem d_Model_wind_121 : decode b_Model_wind 121 = .ok (.aload_n 0, 1) := by decide +kernel
theorem d_Model_wind_122 : decode b_Model_wind 122 = .ok (.getfield 45, 3) := by decide +kernel
theorem d_Model_wind_125 : decode b_Model_wind 125 = .ok (.iload 4, 2) := by decide +kernel
theorem d_Model_wind_127 : decode b_Model_wind 127 = .ok (.baload, 1) := by decide +kernel
theorem d_Model_wind_128 : decode b_Model_wind 128 = .ok (.ifCond .ne 48, 3) := by decide +kernel
theorem d_Model_wind_131 : decode b_Model_wind 131 = .ok (.aload_n 0, 1) := by decide +kernel
theorem d_Model_wind_132 : decode b_Model_wind 132 = .ok (.aload_n 0, 1) := by decide +kernel
theorem d_Model_wind_133 : decode b_Model_wind 133 = .ok (.getfield 39, 3) := by decide +kernel
theorem d_Model_wind_136 : decode b_Model_wind 136 = .ok (.iload 4, 2) := by decide +kernel
theorem d_Model_wind_138 : decode b_Model_wind 138 = .ok (.iaload, 1) := by decide +kernel
theorem d_Model_wind_139 : decode b_Model_wind 139 = .ok (.aload_n 0, 1) := by decide +kernel
theorem d_Model_wind_140 : decode b_Model_wind 140 = .ok (.getfield 42, 3) := by decide +kernel
theorem d_Model_wind_143 : decode b_Model_wind 143 = .ok (.iload 4, 2) := by decide +kernel
theorem d_Model_wind_145 : decode b_Model_wind 145 = .ok (.iaload, 1) := by decide +kernel
theorem d_Model_wind_146 : decode b_Model_wind 146 = .ok (.invokevirtual 182, 3) := by decide +kernel
theorem d_Model_wind_149 : decode b_Model_wind 149 = .ok (.ifCond .ne 6, 3) := by decide +kernel
theorem d_Model_wind_152 : decode b_Model_wind 152 = .ok (.goto 24, 3) := by decide +kernel
theorem d_Model_wind_155 : decode b_Model_wind 155 = .ok (.aload_n 0, 1) := by decide +kernel
theorem d_Model_wind_156 : decode b_Model_wind 156 = .ok (.getfield 49, 3) := by decide +kernel
theorem d_Model_wind_159 : decode b_Model_wind 159 = .ok (.aload_n 0, 1) := by decide +kernel
theorem d_Model_wind_160 : decode b_Model_wind 160 = .ok (.getfield 185, 3) := by decide +kernel
theorem d_Model_wind_163 : decode b_Model_wind 163 = .ok (.iload 4, 2) := by decide +kernel
theorem d_Model_wind_165 : decode b_Model_wind 165 = .ok (.iastore, 1) := by decide +kernel
theorem d_Model_wind_166 : decode b_Model_wind 166 = .ok (.aload_n 0, 1) := by decide +kernel
theorem d_Model_wind_167 : decode b_Model_wind 167 = .ok (.dup, 1) := by decide +kernel
theorem d_Model_wind_168 : decode b_Model_wind 168 = .ok (.getfield 185, 3) := by decide +kernel
theorem d_Model_wind_171 : decode b_Model_wind 171 = .ok (.iconst 1, 1) := by decide +kernel
theorem d_Model_wind_172 : decode b_Model_wind 172 = .ok (.iadd, 1) := by decide +kernel
theorem d_Model_wind_173 : decode b_Model_wind 173 = .ok (.putfield 185, 3) := by decide +kernel
theorem d_Model_wind_176 : decode b_Model_wind 176 = .ok (.iinc 4 1, 3) := by decide +kernel
theorem d_Model_wind_179 : decode b_Model_wind 179 = .ok (.goto (-67), 3) := by decide +kernel
theorem d_Model_wind_182 : decode b_Model_wind 182 = .ok (.aload_n 0, 1) := by decide +kernel
theorem d_Model_wind_183 : decode b_Model_wind 183 = .ok (.getfield 185, 3) := by decide +kernel
theorem d_Model_wind_186 : decode b_Model_wind 186 = .ok (.ireturn, 1) := by decide +kernel
abbrev b_Model_fresh : ByteArray := prog_8_method_38_code
abbrev y_Model_fresh : MethodName := { cls := "HazardTablesModel", name := "fresh", desc := "(I)I" }
abbrev w_Model_fresh : List Cond := .code y_Model_fresh b_Model_fresh 2 (some .int) :: WA
theorem d_Model_fresh_0 : decode b_Model_fresh 0 = .ok (.aload_n 0, 1) := by decide +kernel
theorem d_Model_fresh_1 : decode b_Model_fresh 1 = .ok (.iload_n 1, 1) := by decide +kernel
theorem d_Model_fresh_2 : decode b_Model_fresh 2 = .ok (.ifCond .lt 7, 3) := by decide +kernel
theorem d_Model_fresh_5 : decode b_Model_fresh 5 = .ok (.iconst 1, 1) := by decide +kernel
theorem d_Model_fresh_6 : decode b_Model_fresh 6 = .ok (.goto 4, 3) := by decide +kernel
theorem d_Model_fresh_9 : decode b_Model_fresh 9 = .ok (.iconst 0, 1) := by decide +kernel
theorem d_Model_fresh_10 : decode b_Model_fresh 10 = .ok (.iconst 1, 1) := by decide +kernel
theorem d_Model_fresh_11 : decode b_Model_fresh 11 = .ok (.iconst 1, 1) := by decide +kernel
theorem d_Model_fresh_12 : decode b_Model_fresh 12 = .ok (.invokevirtual 74, 3) := by decide +kernel
theorem d_Model_fresh_15 : decode b_Model_fresh 15 = .ok (.ifCond .ne 5, 3) := by decide +kernel
theorem d_Model_fresh_18 : decode b_Model_fresh 18 = .ok (.iconst 0, 1) := by decide +kernel
theorem d_Model_fresh_19 : decode b_Model_fresh 19 = .ok (.ireturn, 1) := by decide +kernel
theorem d_Model_fresh_20 : decode b_Model_fresh 20 = .ok (.iload_n 1, 1) := by decide +kernel
theorem d_Model_fresh_21 : decode b_Model_fresh 21 = .ok (.aload_n 0, 1) := by decide +kernel
theorem d_Model_fresh_22 : decode b_Model_fresh 22 = .ok (.getfield 185, 3) := by decide +kernel
theorem d_Model_fresh_25 : decode b_Model_fresh 25 = .ok (.if_icmp .ge 12, 3) := by decide +kernel
theorem d_Model_fresh_28 : decode b_Model_fresh 28 = .ok (.aload_n 0, 1) := by decide +kernel
theorem d_Model_fresh_29 : decode b_Model_fresh 29 = .ok (.getfield 49, 3) := by decide +kernel
theorem d_Model_fresh_32 : decode b_Model_fresh 32 = .ok (.iload_n 1, 1) := by decide +kernel
theorem d_Model_fresh_33 : decode b_Model_fresh 33 = .ok (.iaload, 1) := by decide +kernel
theorem d_Model_fresh_34 : decode b_Model_fresh 34 = .ok (.goto 4, 3) := by decide +kernel
theorem d_Model_fresh_37 : decode b_Model_fresh 37 = .ok (.iconst (-1), 1) := by decide +kernel
theorem d_Model_fresh_38 : decode b_Model_fresh 38 = .ok (.ireturn, 1) := by decide +kernel
abbrev b_Model_in : ByteArray := prog_8_method_39_code
abbrev y_Model_in : MethodName := { cls := "HazardTablesModel", name := "in", desc := "(II)Z" }
abbrev w_Model_in : List Cond := .code y_Model_in b_Model_in 3 (some .boolean) :: WA
theorem d_Model_in_0 : decode b_Model_in 0 = .ok (.aload_n 0, 1) := by decide +kernel
theorem d_Model_in_1 : decode b_Model_in 1 = .ok (.iload_n 1, 1) := by decide +kernel
theorem d_Model_in_2 : decode b_Model_in 2 = .ok (.iload_n 2, 1) := by decide +kernel
theorem d_Model_in_3 : decode b_Model_in 3 = .ok (.invokestatic 176, 3) := by decide +kernel
theorem d_Model_in_6 : decode b_Model_in 6 = .ok (.aload_n 0, 1) := by decide +kernel
theorem d_Model_in_7 : decode b_Model_in 7 = .ok (.getfield 157, 3) := by decide +kernel
theorem d_Model_in_10 : decode b_Model_in 10 = .ok (.ifCond .le 7, 3) := by decide +kernel
theorem d_Model_in_13 : decode b_Model_in 13 = .ok (.iconst 1, 1) := by decide +kernel
theorem d_Model_in_14 : decode b_Model_in 14 = .ok (.goto 4, 3) := by decide +kernel
theorem d_Model_in_17 : decode b_Model_in 17 = .ok (.iconst 0, 1) := by decide +kernel
theorem d_Model_in_18 : decode b_Model_in 18 = .ok (.iconst 1, 1) := by decide +kernel
theorem d_Model_in_19 : decode b_Model_in 19 = .ok (.invokevirtual 74, 3) := by decide +kernel
theorem d_Model_in_22 : decode b_Model_in 22 = .ok (.ifCond .eq 16, 3) := by decide +kernel
theorem d_Model_in_25 : decode b_Model_in 25 = .ok (.aload_n 0, 1) := by decide +kernel
theorem d_Model_in_26 : decode b_Model_in 26 = .ok (.iload_n 1, 1) := by decide +kernel
theorem d_Model_in_27 : decode b_Model_in 27 = .ok (.iload_n 2, 1) := by decide +kernel
theorem d_Model_in_28 : decode b_Model_in 28 = .ok (.invokevirtual 182, 3) := by decide +kernel
theorem d_Model_in_31 : decode b_Model_in 31 = .ok (.ifCond .eq 7, 3) := by decide +kernel
theorem d_Model_in_34 : decode b_Model_in 34 = .ok (.iconst 1, 1) := by decide +kernel
theorem d_Model_in_35 : decode b_Model_in 35 = .ok (.goto 4, 3) := by decide +kernel
theorem d_Model_in_38 : decode b_Model_in 38 = .ok (.iconst 0, 1) := by decide +kernel
theorem d_Model_in_39 : decode b_Model_in 39 = .ok (.ireturn, 1) := by decide +kernel
abbrev b_Model_step : ByteArray := prog_8_method_40_code
abbrev y_Model_step : MethodName := { cls := "HazardTablesModel", name := "step", desc := "(I)I" }
abbrev w_Model_step : List Cond := .code y_Model_step b_Model_step 2 (some .int) :: WA
theorem d_Model_step_0 : decode b_Model_step 0 = .ok (.aload_n 0, 1) := by decide +kernel
theorem d_Model_step_1 : decode b_Model_step 1 = .ok (.iload_n 1, 1) := by decide +kernel
theorem d_Model_step_2 : decode b_Model_step 2 = .ok (.iconst 1, 1) := by decide +kernel
theorem d_Model_step_3 : decode b_Model_step 3 = .ok (.bipush 6, 2) := by decide +kernel
theorem d_Model_step_5 : decode b_Model_step 5 = .ok (.invokestatic 67, 3) := by decide +kernel
theorem d_Model_step_8 : decode b_Model_step 8 = .ok (.aload_n 0, 1) := by decide +kernel
theorem d_Model_step_9 : decode b_Model_step 9 = .ok (.getfield 157, 3) := by decide +kernel
theorem d_Model_step_12 : decode b_Model_step 12 = .ok (.ifCond .le 15, 3) := by decide +kernel
theorem d_Model_step_15 : decode b_Model_step 15 = .ok (.iload_n 1, 1) := by decide +kernel
theorem d_Model_step_16 : decode b_Model_step 16 = .ok (.aload_n 0, 1) := by decide +kernel
theorem d_Model_step_17 : decode b_Model_step 17 = .ok (.getfield 52, 3) := by decide +kernel
theorem d_Model_step_20 : decode b_Model_step 20 = .ok (.if_icmp .ne 7, 3) := by decide +kernel
theorem d_Model_step_23 : decode b_Model_step 23 = .ok (.iconst 1, 1) := by decide +kernel
theorem d_Model_step_24 : decode b_Model_step 24 = .ok (.goto 4, 3) := by decide +kernel
theorem d_Model_step_27 : decode b_Model_step 27 = .ok (.iconst 0, 1) := by decide +kernel
theorem d_Model_step_28 : decode b_Model_step 28 = .ok (.iconst 1, 1) := by decide +kernel
theorem d_Model_step_29 : decode b_Model_step 29 = .ok (.invokevirtual 74, 3) := by decide +kernel
theorem d_Model_step_32 : decode b_Model_step 32 = .ok (.ifCond .ne 5, 3) := by decide +kernel
theorem d_Model_step_35 : decode b_Model_step 35 = .ok (.iconst 0, 1) := by decide +kernel
theorem d_Model_step_36 : decode b_Model_step 36 = .ok (.ireturn, 1) := by decide +kernel
theorem d_Model_step_37 : decode b_Model_step 37 = .ok (.aload_n 0, 1) := by decide +kernel
theorem d_Model_step_38 : decode b_Model_step 38 = .ok (.iload_n 1, 1) := by decide +kernel
theorem d_Model_step_39 : decode b_Model_step 39 = .ok (.aload_n 0, 1) := by decide +kernel
theorem d_Model_step_40 : decode b_Model_step 40 = .ok (.invokevirtual 164, 3) := by decide +kernel
theorem d_Model_step_43 : decode b_Model_step 43 = .ok (.iconst 5, 1) := by decide +kernel
theorem d_Model_step_44 : decode b_Model_step 44 = .ok (.if_icmp .ge 7, 3) := by decide +kernel
theorem d_Model_step_47 : decode b_Model_step 47 = .ok (.iconst 3, 1) := by decide +kernel
theorem d_Model_step_48 : decode b_Model_step 48 = .ok (.goto 5, 3) := by decide +kernel
theorem d_Model_step_51 : decode b_Model_step 51 = .ok (.bipush 6, 2) := by decide +kernel
theorem d_Model_step_53 : decode b_Model_step 53 = .ok (.if_icmp .ne 7, 3) := by decide +kernel
theorem d_Model_step_56 : decode b_Model_step 56 = .ok (.iconst 1, 1) := by decide +kernel
theorem d_Model_step_57 : decode b_Model_step 57 = .ok (.goto 6, 3) := by decide +kernel
theorem d_Model_step_60 : decode b_Model_step 60 = .ok (.iload_n 1, 1) := by decide +kernel
theorem d_Model_step_61 : decode b_Model_step 61 = .ok (.iconst 1, 1) := by decide +kernel
theorem d_Model_step_62 : decode b_Model_step 62 = .ok (.iadd, 1) := by decide +kernel
theorem d_Model_step_63 : decode b_Model_step 63 = .ok (.putfield 52, 3) := by decide +kernel
theorem d_Model_step_66 : decode b_Model_step 66 = .ok (.aload_n 0, 1) := by decide +kernel
theorem d_Model_step_67 : decode b_Model_step 67 = .ok (.getfield 52, 3) := by decide +kernel
theorem d_Model_step_70 : decode b_Model_step 70 = .ok (.ireturn, 1) := by decide +kernel
abbrev b_Model_mark : ByteArray := prog_8_method_41_code
abbrev y_Model_mark : MethodName := { cls := "HazardTablesModel", name := "mark", desc := "(II)V" }
abbrev w_Model_mark : List Cond := .code y_Model_mark b_Model_mark 3 none :: WA
theorem d_Model_mark_0 : decode b_Model_mark 0 = .ok (.aload_n 0, 1) := by decide +kernel
theorem d_Model_mark_1 : decode b_Model_mark 1 = .ok (.iload_n 1, 1) := by decide +kernel
theorem d_Model_mark_2 : decode b_Model_mark 2 = .ok (.iconst 0, 1) := by decide +kernel
theorem d_Model_mark_3 : decode b_Model_mark 3 = .ok (.iconst 4, 1) := by decide +kernel
theorem d_Model_mark_4 : decode b_Model_mark 4 = .ok (.invokestatic 67, 3) := by decide +kernel
theorem d_Model_mark_7 : decode b_Model_mark 7 = .ok (.iload_n 2, 1) := by decide +kernel
theorem d_Model_mark_8 : decode b_Model_mark 8 = .ok (.ifCond .lt 7, 3) := by decide +kernel
theorem d_Model_mark_11 : decode b_Model_mark 11 = .ok (.iconst 1, 1) := by decide +kernel
theorem d_Model_mark_12 : decode b_Model_mark 12 = .ok (.goto 4, 3) := by decide +kernel
theorem d_Model_mark_15 : decode b_Model_mark 15 = .ok (.iconst 0, 1) := by decide +kernel
theorem d_Model_mark_16 : decode b_Model_mark 16 = .ok (.iconst 1, 1) := by decide +kernel
theorem d_Model_mark_17 : decode b_Model_mark 17 = .ok (.invokevirtual 74, 3) := by decide +kernel
theorem d_Model_mark_20 : decode b_Model_mark 20 = .ok (.ifCond .eq 10, 3) := by decide +kernel
theorem d_Model_mark_23 : decode b_Model_mark 23 = .ok (.aload_n 0, 1) := by decide +kernel
theorem d_Model_mark_24 : decode b_Model_mark 24 = .ok (.getfield 55, 3) := by decide +kernel
theorem d_Model_mark_27 : decode b_Model_mark 27 = .ok (.iload_n 1, 1) := by decide +kernel
theorem d_Model_mark_28 : decode b_Model_mark 28 = .ok (.iload_n 2, 1) := by decide +kernel
theorem d_Model_mark_29 : decode b_Model_mark 29 = .ok (.iastore, 1) := by decide +kernel
theorem d_Model_mark_30 : decode b_Model_mark 30 = .ok (.return_, 1) := by decide +kernel
abbrev b_Model_over : ByteArray := prog_8_method_42_code
abbrev y_Model_over : MethodName := { cls := "HazardTablesModel", name := "over", desc := "(II)Z" }
abbrev w_Model_over : List Cond := .code y_Model_over b_Model_over 3 (some .boolean) :: WA
theorem d_Model_over_0 : decode b_Model_over 0 = .ok (.aload_n 0, 1) := by decide +kernel
theorem d_Model_over_1 : decode b_Model_over 1 = .ok (.iload_n 1, 1) := by decide +kernel
theorem d_Model_over_2 : decode b_Model_over 2 = .ok (.iconst 0, 1) := by decide +kernel
theorem d_Model_over_3 : decode b_Model_over 3 = .ok (.iconst 4, 1) := by decide +kernel
theorem d_Model_over_4 : decode b_Model_over 4 = .ok (.invokestatic 67, 3) := by decide +kernel
theorem d_Model_over_7 : decode b_Model_over 7 = .ok (.iconst 1, 1) := by decide +kernel
theorem d_Model_over_8 : decode b_Model_over 8 = .ok (.iconst 1, 1) := by decide +kernel
theorem d_Model_over_9 : decode b_Model_over 9 = .ok (.invokevirtual 74, 3) := by decide +kernel
theorem d_Model_over_12 : decode b_Model_over 12 = .ok (.ifCond .eq 17, 3) := by decide +kernel
theorem d_Model_over_15 : decode b_Model_over 15 = .ok (.iload_n 2, 1) := by decide +kernel
theorem d_Model_over_16 : decode b_Model_over 16 = .ok (.aload_n 0, 1) := by decide +kernel
theorem d_Model_over_17 : decode b_Model_over 17 = .ok (.getfield 55, 3) := by decide +kernel
theorem d_Model_over_20 : decode b_Model_over 20 = .ok (.iload_n 1, 1) := by decide +kernel
theorem d_Model_over_21 : decode b_Model_over 21 = .ok (.iaload, 1) := by decide +kernel
theorem d_Model_over_22 : decode b_Model_over 22 = .ok (.if_icmp .lt 7, 3) := by decide +kernel
theorem d_Model_over_25 : decode b_Model_over 25 = .ok (.iconst 1, 1) := by decide +kernel
theorem d_Model_over_26 : decode b_Model_over 26 = .ok (.goto 4, 3) := by decide +kernel
theorem d_Model_over_29 : decode b_Model_over 29 = .ok (.iconst 0, 1) := by decide +kernel
theorem d_Model_over_30 : decode b_Model_over 30 = .ok (.ireturn, 1) := by decide +kernel
