abbrev b_Surroundings_init : ByteArray := prog_5_method_1_code
abbrev y_Surroundings_init : MethodName := { cls := "HazardTables$Surroundings", name := "<init>", desc := "()V" }
abbrev w_Surroundings_init : List Cond := .code y_Surroundings_init b_Surroundings_init 1 none :: WA
theorem d_Surroundings_init_0 : decode b_Surroundings_init 0 = .ok (.aload_n 0, 1) := by decide +kernel
theorem d_Surroundings_init_1 : decode b_Surroundings_init 1 = .ok (.invokespecial 3, 3) := by decide +kernel
theorem d_Surroundings_init_4 : decode b_Surroundings_init 4 = .ok (.aload_n 0, 1) := by decide +kernel
theorem d_Surroundings_init_5 : decode b_Surroundings_init 5 = .ok (.bipush 40, 2) := by decide +kernel
theorem d_Surroundings_init_7 : decode b_Surroundings_init 7 = .ok (.newarray .int, 2) := by decide +kernel
theorem d_Surroundings_init_9 : decode b_Surroundings_init 9 = .ok (.putfield 11, 3) := by decide +kernel
theorem d_Surroundings_init_12 : decode b_Surroundings_init 12 = .ok (.aload_n 0, 1) := by decide +kernel
theorem d_Surroundings_init_13 : decode b_Surroundings_init 13 = .ok (.bipush 40, 2) := by decide +kernel
theorem d_Surroundings_init_15 : decode b_Surroundings_init 15 = .ok (.newarray .int, 2) := by decide +kernel
theorem d_Surroundings_init_17 : decode b_Surroundings_init 17 = .ok (.putfield 15, 3) := by decide +kernel
theorem d_Surroundings_init_20 : decode b_Surroundings_init 20 = .ok (.aload_n 0, 1) := by decide +kernel
theorem d_Surroundings_init_21 : decode b_Surroundings_init 21 = .ok (.bipush 40, 2) := by decide +kernel
theorem d_Surroundings_init_23 : decode b_Surroundings_init 23 = .ok (.newarray .int, 2) := by decide +kernel
theorem d_Surroundings_init_25 : decode b_Surroundings_init 25 = .ok (.putfield 18, 3) := by decide +kernel
theorem d_Surroundings_init_28 : decode b_Surroundings_init 28 = .ok (.aload_n 0, 1) := by decide +kernel
theorem d_Surroundings_init_29 : decode b_Surroundings_init 29 = .ok (.iconst 1, 1) := by decide +kernel
theorem d_Surroundings_init_30 : decode b_Surroundings_init 30 = .ok (.putfield 21, 3) := by decide +kernel
theorem d_Surroundings_init_33 : decode b_Surroundings_init 33 = .ok (.aload_n 0, 1) := by decide +kernel
theorem d_Surroundings_init_34 : decode b_Surroundings_init 34 = .ok (.iconst 0, 1) := by decide +kernel
theorem d_Surroundings_init_35 : decode b_Surroundings_init 35 = .ok (.putfield 25, 3) := by decide +kernel
theorem d_Surroundings_init_38 : decode b_Surroundings_init 38 = .ok (.aload_n 0, 1) := by decide +kernel
theorem d_Surroundings_init_39 : decode b_Surroundings_init 39 = .ok (.iconst 1, 1) := by decide +kernel
theorem d_Surroundings_init_40 : decode b_Surroundings_init 40 = .ok (.putfield 28, 3) := by decide +kernel
theorem d_Surroundings_init_43 : decode b_Surroundings_init 43 = .ok (.return_, 1) := by decide +kernel
abbrev b_Surroundings_isFull : ByteArray := prog_5_method_2_code
abbrev y_Surroundings_isFull : MethodName := { cls := "HazardTables$Surroundings", name := "isFull", desc := "()Z" }
abbrev w_Surroundings_isFull : List Cond := .code y_Surroundings_isFull b_Surroundings_isFull 1 (some .boolean) :: WA
theorem d_Surroundings_isFull_0 : decode b_Surroundings_isFull 0 = .ok (.aload_n 0, 1) := by decide +kernel
theorem d_Surroundings_isFull_1 : decode b_Surroundings_isFull 1 = .ok (.getfield 32, 3) := by decide +kernel
theorem d_Surroundings_isFull_4 : decode b_Surroundings_isFull 4 = .ok (.bipush 40, 2) := by decide +kernel
theorem d_Surroundings_isFull_6 : decode b_Surroundings_isFull 6 = .ok (.if_icmp .lt 7, 3) := by decide +kernel
theorem d_Surroundings_isFull_9 : decode b_Surroundings_isFull 9 = .ok (.iconst 1, 1) := by decide +kernel
theorem d_Surroundings_isFull_10 : decode b_Surroundings_isFull 10 = .ok (.goto 4, 3) := by decide +kernel
theorem d_Surroundings_isFull_13 : decode b_Surroundings_isFull 13 = .ok (.iconst 0, 1) := by decide +kernel
theorem d_Surroundings_isFull_14 : decode b_Surroundings_isFull 14 = .ok (.ireturn, 1) := by decide +kernel
abbrev b_Surroundings_append : ByteArray := prog_5_method_3_code
abbrev y_Surroundings_append : MethodName := { cls := "HazardTables$Surroundings", name := "append", desc := "(II)I" }
abbrev w_Surroundings_append : List Cond := .code y_Surroundings_append b_Surroundings_append 3 (some .int) :: WA
theorem d_Surroundings_append_0 : decode b_Surroundings_append 0 = .ok (.aload_n 0, 1) := by decide +kernel
theorem d_Surroundings_append_1 : decode b_Surroundings_append 1 = .ok (.invokevirtual 35, 3) := by decide +kernel
theorem d_Surroundings_append_4 : decode b_Surroundings_append 4 = .ok (.ifCond .eq 5, 3) := by decide +kernel
theorem d_Surroundings_append_7 : decode b_Surroundings_append 7 = .ok (.iconst (-1), 1) := by decide +kernel
theorem d_Surroundings_append_8 : decode b_Surroundings_append 8 = .ok (.ireturn, 1) := by decide +kernel
theorem d_Surroundings_append_9 : decode b_Surroundings_append 9 = .ok (.aload_n 0, 1) := by decide +kernel
theorem d_Surroundings_append_10 : decode b_Surroundings_append 10 = .ok (.getfield 11, 3) := by decide +kernel
theorem d_Surroundings_append_13 : decode b_Surroundings_append 13 = .ok (.aload_n 0, 1) := by decide +kernel
theorem d_Surroundings_append_14 : decode b_Surroundings_append 14 = .ok (.getfield 32, 3) := by decide +kernel
theorem d_Surroundings_append_17 : decode b_Surroundings_append 17 = .ok (.iload_n 1, 1) := by decide +kernel
theorem d_Surroundings_append_18 : decode b_Surroundings_append 18 = .ok (.iastore, 1) := by decide +kernel
theorem d_Surroundings_append_19 : decode b_Surroundings_append 19 = .ok (.aload_n 0, 1) := by decide +kernel
theorem d_Surroundings_append_20 : decode b_Surroundings_append 20 = .ok (.getfield 15, 3) := by decide +kernel
theorem d_Surroundings_append_23 : decode b_Surroundings_append 23 = .ok (.aload_n 0, 1) := by decide +kernel
theorem d_Surroundings_append_24 : decode b_Surroundings_append 24 = .ok (.getfield 32, 3) := by decide +kernel
theorem d_Surroundings_append_27 : decode b_Surroundings_append 27 = .ok (.iload_n 2, 1) := by decide +kernel
theorem d_Surroundings_append_28 : decode b_Surroundings_append 28 = .ok (.iastore, 1) := by decide +kernel
theorem d_Surroundings_append_29 : decode b_Surroundings_append 29 = .ok (.aload_n 0, 1) := by decide +kernel
theorem d_Surroundings_append_30 : decode b_Surroundings_append 30 = .ok (.dup, 1) := by decide +kernel
theorem d_Surroundings_append_31 : decode b_Surroundings_append 31 = .ok (.getfield 32, 3) := by decide +kernel
theorem d_Surroundings_append_34 : decode b_Surroundings_append 34 = .ok (.iconst 1, 1) := by decide +kernel
theorem d_Surroundings_append_35 : decode b_Surroundings_append 35 = .ok (.iadd, 1) := by decide +kernel
theorem d_Surroundings_append_36 : decode b_Surroundings_append 36 = .ok (.putfield 32, 3) := by decide +kernel
theorem d_Surroundings_append_39 : decode b_Surroundings_append 39 = .ok (.aload_n 0, 1) := by decide +kernel
theorem d_Surroundings_append_40 : decode b_Surroundings_append 40 = .ok (.getfield 32, 3) := by decide +kernel
theorem d_Surroundings_append_43 : decode b_Surroundings_append 43 = .ok (.iconst 1, 1) := by decide +kernel
theorem d_Surroundings_append_44 : decode b_Surroundings_append 44 = .ok (.isub, 1) := by decide +kernel
theorem d_Surroundings_append_45 : decode b_Surroundings_append 45 = .ok (.ireturn, 1) := by decide +kernel
abbrev b_Surroundings_turn : ByteArray := prog_5_method_4_code
abbrev y_Surroundings_turn : MethodName := { cls := "HazardTables$Surroundings", name := "turn", desc := "(IIZ)V" }
abbrev w_Surroundings_turn : List Cond := .code y_Surroundings_turn b_Surroundings_turn 4 none :: WA
theorem d_Surroundings_turn_0 : decode b_Surroundings_turn 0 = .ok (.aload_n 0, 1) := by decide +kernel
theorem d_Surroundings_turn_1 : decode b_Surroundings_turn 1 = .ok (.iload_n 1, 1) := by decide +kernel
theorem d_Surroundings_turn_2 : decode b_Surroundings_turn 2 = .ok (.putfield 21, 3) := by decide +kernel
theorem d_Surroundings_turn_5 : decode b_Surroundings_turn 5 = .ok (.aload_n 0, 1) := by decide +kernel
theorem d_Surroundings_turn_6 : decode b_Surroundings_turn 6 = .ok (.iload_n 2, 1) := by decide +kernel
theorem d_Surroundings_turn_7 : decode b_Surroundings_turn 7 = .ok (.putfield 25, 3) := by decide +kernel
theorem d_Surroundings_turn_10 : decode b_Surroundings_turn 10 = .ok (.aload_n 0, 1) := by decide +kernel
theorem d_Surroundings_turn_11 : decode b_Surroundings_turn 11 = .ok (.iload_n 3, 1) := by decide +kernel
theorem d_Surroundings_turn_12 : decode b_Surroundings_turn 12 = .ok (.putfield 28, 3) := by decide +kernel
theorem d_Surroundings_turn_15 : decode b_Surroundings_turn 15 = .ok (.return_, 1) := by decide +kernel
abbrev b_Surroundings_gather : ByteArray := prog_5_method_5_code
abbrev y_Surroundings_gather : MethodName := { cls := "HazardTables$Surroundings", name := "gather", desc := "(IIII)V" }
abbrev w_Surroundings_gather : List Cond := .code y_Surroundings_gather b_Surroundings_gather 7 none :: WA
theorem d_Surroundings_gather_0 : decode b_Surroundings_gather 0 = .ok (.aload_n 0, 1) := by decide +kernel
theorem d_Surroundings_gather_1 : decode b_Surroundings_gather 1 = .ok (.iconst 0, 1) := by decide +kernel
theorem d_Surroundings_gather_2 : decode b_Surroundings_gather 2 = .ok (.putfield 39, 3) := by decide +kernel
theorem d_Surroundings_gather_5 : decode b_Surroundings_gather 5 = .ok (.iconst 0, 1) := by decide +kernel
theorem d_Surroundings_gather_6 : decode b_Surroundings_gather 6 = .ok (.istore 5, 2) := by decide +kernel
theorem d_Surroundings_gather_8 : decode b_Surroundings_gather 8 = .ok (.iload 5, 2) := by decide +kernel
theorem d_Surroundings_gather_10 : decode b_Surroundings_gather 10 = .ok (.aload_n 0, 1) := by decide +kernel
theorem d_Surroundings_gather_11 : decode b_Surroundings_gather 11 = .ok (.getfield 32, 3) := by decide +kernel
theorem d_Surroundings_gather_14 : decode b_Surroundings_gather 14 = .ok (.if_icmp .ge 96, 3) := by decide +kernel
theorem d_Surroundings_gather_17 : decode b_Surroundings_gather 17 = .ok (.iload 5, 2) := by decide +kernel
theorem d_Surroundings_gather_19 : decode b_Surroundings_gather 19 = .ok (.bipush 40, 2) := by decide +kernel
theorem d_Surroundings_gather_21 : decode b_Surroundings_gather 21 = .ok (.if_icmp .ge 89, 3) := by decide +kernel
theorem d_Surroundings_gather_24 : decode b_Surroundings_gather 24 = .ok (.iload_n 1, 1) := by decide +kernel
theorem d_Surroundings_gather_25 : decode b_Surroundings_gather 25 = .ok (.iload_n 2, 1) := by decide +kernel
theorem d_Surroundings_gather_26 : decode b_Surroundings_gather 26 = .ok (.iload_n 3, 1) := by decide +kernel
theorem d_Surroundings_gather_27 : decode b_Surroundings_gather 27 = .ok (.aload_n 0, 1) := by decide +kernel
theorem d_Surroundings_gather_28 : decode b_Surroundings_gather 28 = .ok (.getfield 11, 3) := by decide +kernel
theorem d_Surroundings_gather_31 : decode b_Surroundings_gather 31 = .ok (.iload 5, 2) := by decide +kernel
theorem d_Surroundings_gather_33 : decode b_Surroundings_gather 33 = .ok (.iaload, 1) := by decide +kernel
theorem d_Surroundings_gather_34 : decode b_Surroundings_gather 34 = .ok (.aload_n 0, 1) := by decide +kernel
theorem d_Surroundings_gather_35 : decode b_Surroundings_gather 35 = .ok (.getfield 15, 3) := by decide +kernel
theorem d_Surroundings_gather_38 : decode b_Surroundings_gather 38 = .ok (.iload 5, 2) := by decide +kernel
theorem d_Surroundings_gather_40 : decode b_Surroundings_gather 40 = .ok (.iaload, 1) := by decide +kernel
theorem d_Surroundings_gather_41 : decode b_Surroundings_gather 41 = .ok (.invokestatic 42, 3) := by decide +kernel
theorem d_Surroundings_gather_44 : decode b_Surroundings_gather 44 = .ok (.istore 6, 2) := by decide +kernel
theorem d_Surroundings_gather_46 : decode b_Surroundings_gather 46 = .ok (.iload 6, 2) := by decide +kernel
theorem d_Surroundings_gather_48 : decode b_Surroundings_gather 48 = .ok (.ifCond .eq 56, 3) := by decide +kernel
theorem d_Surroundings_gather_51 : decode b_Surroundings_gather 51 = .ok (.aload_n 0, 1) := by decide +kernel
theorem d_Surroundings_gather_52 : decode b_Surroundings_gather 52 = .ok (.aload_n 0, 1) := by decide +kernel
theorem d_Surroundings_gather_53 : decode b_Surroundings_gather 53 = .ok (.getfield 11, 3) := by decide +kernel
theorem d_Surroundings_gather_56 : decode b_Surroundings_gather 56 = .ok (.iload 5, 2) := by decide +kernel
theorem d_Surroundings_gather_58 : decode b_Surroundings_gather 58 = .ok (.iaload, 1) := by decide +kernel
theorem d_Surroundings_gather_59 : decode b_Surroundings_gather 59 = .ok (.aload_n 0, 1) := by decide +kernel
theorem d_Surroundings_gather_60 : decode b_Surroundings_gather 60 = .ok (.getfield 15, 3) := by decide +kernel
theorem d_Surroundings_gather_63 : decode b_Surroundings_gather 63 = .ok (.iload 5, 2) := by decide +kernel
theorem d_Surroundings_gather_65 : decode b_Surroundings_gather 65 = .ok (.iaload, 1) := by decide +kernel
theorem d_Surroundings_gather_66 : decode b_Surroundings_gather 66 = .ok (.iload 4, 2) := by decide +kernel
theorem d_Surroundings_gather_68 : decode b_Surroundings_gather 68 = .ok (.invokevirtual 46, 3) := by decide +kernel
theorem d_Surroundings_gather_71 : decode b_Surroundings_gather 71 = .ok (.ifCond .ne 33, 3) := by decide +kernel
theorem d_Surroundings_gather_74 : decode b_Surroundings_gather 74 = .ok (.aload_n 0, 1) := by decide +kernel
theorem d_Surroundings_gather_75 : decode b_Surroundings_gather 75 = .ok (.getfield 39, 3) := by decide +kernel
theorem d_Surroundings_gather_78 : decode b_Surroundings_gather 78 = .ok (.bipush 40, 2) := by decide +kernel
theorem d_Surroundings_gather_80 : decode b_Surroundings_gather 80 = .ok (.if_icmp .ge 24, 3) := by decide +kernel
theorem d_Surroundings_gather_83 : decode b_Surroundings_gather 83 = .ok (.aload_n 0, 1) := by decide +kernel
theorem d_Surroundings_gather_84 : decode b_Surroundings_gather 84 = .ok (.getfield 18, 3) := by decide +kernel
theorem d_Surroundings_gather_87 : decode b_Surroundings_gather 87 = .ok (.aload_n 0, 1) := by decide +kernel
theorem d_Surroundings_gather_88 : decode b_Surroundings_gather 88 = .ok (.getfield 39, 3) := by decide +kernel
theorem d_Surroundings_gather_91 : decode b_Surroundings_gather 91 = .ok (.iload 5, 2) := by decide +kernel
theorem d_Surroundings_gather_93 : decode b_Surroundings_gather 93 = .ok (.iastore, 1) := by decide +kernel
theorem d_Surroundings_gather_94 : decode b_Surroundings_gather 94 = .ok (.aload_n 0, 1) := by decide +kernel
theorem d_Surroundings_gather_95 : decode b_Surroundings_gather 95 = .ok (.dup, 1) := by decide +kernel
theorem d_Surroundings_gather_96 : decode b_Surroundings_gather 96 = .ok (.getfield 39, 3) := by decide +kernel
theorem d_Surroundings_gather_99 : decode b_Surroundings_gather 99 = .ok (.iconst 1, 1) := by decide +kernel
theorem d_Surroundings_gather_100 : decode b_Surroundings_gather 100 = .ok (.iadd, 1) := by decide +kernel
theorem d_Surroundings_gather_101 : decode b_Surroundings_gather 101 = .ok (.putfield 39, 3) := by decide +kernel
theorem d_Surroundings_gather_104 : decode b_Surroundings_gather 104 = .ok (.iinc 5 1, 3) := by decide +kernel
theorem d_Surroundings_gather_107 : decode b_Surroundings_gather 107 = .ok (.goto (-99), 3) := by decide +kernel
theorem d_Surroundings_gather_110 : decode b_Surroundings_gather 110 = .ok (.return_, 1) := by decide +kernel
abbrev b_Surroundings_freshOne : ByteArray := prog_5_method_6_code
abbrev y_Surroundings_freshOne : MethodName := { cls := "HazardTables$Surroundings", name := "freshOne", desc := "(I)I" }
abbrev w_Surroundings_freshOne : List Cond := .code y_Surroundings_freshOne b_Surroundings_freshOne 2 (some .int) :: WA
theorem d_Surroundings_freshOne_0 : decode b_Surroundings_freshOne 0 = .ok (.iload_n 1, 1) := by decide +kernel
theorem d_Surroundings_freshOne_1 : decode b_Surroundings_freshOne 1 = .ok (.ifCond .lt 26, 3) := by decide +kernel
theorem d_Surroundings_freshOne_4 : decode b_Surroundings_freshOne 4 = .ok (.iload_n 1, 1) := by decide +kernel
theorem d_Surroundings_freshOne_5 : decode b_Surroundings_freshOne 5 = .ok (.aload_n 0, 1) := by decide +kernel
theorem d_Surroundings_freshOne_6 : decode b_Surroundings_freshOne 6 = .ok (.getfield 39, 3) := by decide +kernel
theorem d_Surroundings_freshOne_9 : decode b_Surroundings_freshOne 9 = .ok (.if_icmp .ge 18, 3) := by decide +kernel
theorem d_Surroundings_freshOne_12 : decode b_Surroundings_freshOne 12 = .ok (.iload_n 1, 1) := by decide +kernel
theorem d_Surroundings_freshOne_13 : decode b_Surroundings_freshOne 13 = .ok (.bipush 40, 2) := by decide +kernel
theorem d_Surroundings_freshOne_15 : decode b_Surroundings_freshOne 15 = .ok (.if_icmp .ge 12, 3) := by decide +kernel
theorem d_Surroundings_freshOne_18 : decode b_Surroundings_freshOne 18 = .ok (.aload_n 0, 1) := by decide +kernel
theorem d_Surroundings_freshOne_19 : decode b_Surroundings_freshOne 19 = .ok (.getfield 18, 3) := by decide +kernel
theorem d_Surroundings_freshOne_22 : decode b_Surroundings_freshOne 22 = .ok (.iload_n 1, 1) := by decide +kernel
theorem d_Surroundings_freshOne_23 : decode b_Surroundings_freshOne 23 = .ok (.iaload, 1) := by decide +kernel
theorem d_Surroundings_freshOne_24 : decode b_Surroundings_freshOne 24 = .ok (.goto 4, 3) := by decide +kernel
theorem d_Surroundings_freshOne_27 : decode b_Surroundings_freshOne 27 = .ok (.iconst (-1), 1) := by decide +kernel
theorem d_Surroundings_freshOne_28 : decode b_Surroundings_freshOne 28 = .ok (.ireturn, 1) := by decide +kernel
abbrev b_Surroundings_covers : ByteArray := prog_5_method_7_code
abbrev y_Surroundings_covers : MethodName := { cls := "HazardTables$Surroundings", name := "covers", desc := "(III)Z" }
abbrev w_Surroundings_covers : List Cond := .code y_Surroundings_covers b_Surroundings_covers 4 (some .boolean) :: WA
theorem d_Surroundings_covers_0 : decode b_Surroundings_covers 0 = .ok (.aload_n 0, 1) := by decide +kernel
theorem d_Surroundings_covers_1 : decode b_Surroundings_covers 1 = .ok (.getfield 21, 3) := by decide +kernel
theorem d_Surroundings_covers_4 : decode b_Surroundings_covers 4 = .ok (.aload_n 0, 1) := by decide +kernel
theorem d_Surroundings_covers_5 : decode b_Surroundings_covers 5 = .ok (.getfield 25, 3) := by decide +kernel
theorem d_Surroundings_covers_8 : decode b_Surroundings_covers 8 = .ok (.iload_n 3, 1) := by decide +kernel
theorem d_Surroundings_covers_9 : decode b_Surroundings_covers 9 = .ok (.iload_n 1, 1) := by decide +kernel
theorem d_Surroundings_covers_10 : decode b_Surroundings_covers 10 = .ok (.iload_n 2, 1) := by decide +kernel
theorem d_Surroundings_covers_11 : decode b_Surroundings_covers 11 = .ok (.invokestatic 42, 3) := by decide +kernel
theorem d_Surroundings_covers_14 : decode b_Surroundings_covers 14 = .ok (.ireturn, 1) := by decide +kernel
abbrev b_Surroundings_reaches : ByteArray := prog_5_method_8_code
abbrev y_Surroundings_reaches : MethodName := { cls := "HazardTables$Surroundings", name := "reaches", desc := "(IIIII)Z" }
abbrev w_Surroundings_reaches : List Cond := .code y_Surroundings_reaches b_Surroundings_reaches 7 (some .boolean) :: WA
theorem d_Surroundings_reaches_0 : decode b_Surroundings_reaches 0 = .ok (.iload_n 2, 1) := by decide +kernel
theorem d_Surroundings_reaches_1 : decode b_Surroundings_reaches 1 = .ok (.ifCond .lt 18, 3) := by decide +kernel
theorem d_Surroundings_reaches_4 : decode b_Surroundings_reaches 4 = .ok (.iload_n 3, 1) := by decide +kernel
theorem d_Surroundings_reaches_5 : decode b_Surroundings_reaches 5 = .ok (.iload_n 3, 1) := by decide +kernel
theorem d_Surroundings_reaches_6 : decode b_Surroundings_reaches 6 = .ok (.imul, 1) := by decide +kernel
theorem d_Surroundings_reaches_7 : decode b_Surroundings_reaches 7 = .ok (.iload 4, 2) := by decide +kernel
theorem d_Surroundings_reaches_9 : decode b_Surroundings_reaches 9 = .ok (.iload 4, 2) := by decide +kernel
theorem d_Surroundings_reaches_11 : decode b_Surroundings_reaches 11 = .ok (.imul, 1) := by decide +kernel
theorem d_Surroundings_reaches_12 : decode b_Surroundings_reaches 12 = .ok (.iadd, 1) := by decide +kernel
theorem d_Surroundings_reaches_13 : decode b_Surroundings_reaches 13 = .ok (.iload_n 2, 1) := by decide +kernel
theorem d_Surroundings_reaches_14 : decode b_Surroundings_reaches 14 = .ok (.iload_n 2, 1) := by decide +kernel
theorem d_Surroundings_reaches_15 : decode b_Surroundings_reaches 15 = .ok (.imul, 1) := by decide +kernel
theorem d_Surroundings_reaches_16 : decode b_Surroundings_reaches 16 = .ok (.if_icmp .le 5, 3) := by decide +kernel
theorem d_Surroundings_reaches_19 : decode b_Surroundings_reaches 19 = .ok (.iconst 0, 1) := by decide +kernel
theorem d_Surroundings_reaches_20 : decode b_Surroundings_reaches 20 = .ok (.ireturn, 1) := by decide +kernel
theorem d_Surroundings_reaches_21 : decode b_Surroundings_reaches 21 = .ok (.iload_n 0, 1) := by decide +kernel
theorem d_Surroundings_reaches_22 : decode b_Surroundings_reaches 22 = .ok (.iload_n 3, 1) := by decide +kernel
theorem d_Surroundings_reaches_23 : decode b_Surroundings_reaches 23 = .ok (.imul, 1) := by decide +kernel
theorem d_Surroundings_reaches_24 : decode b_Surroundings_reaches 24 = .ok (.iload_n 1, 1) := by decide +kernel
theorem d_Surroundings_reaches_25 : decode b_Surroundings_reaches 25 = .ok (.iload 4, 2) := by decide +kernel
theorem d_Surroundings_reaches_27 : decode b_Surroundings_reaches 27 = .ok (.imul, 1) := by decide +kernel
theorem d_Surroundings_reaches_28 : decode b_Surroundings_reaches 28 = .ok (.iadd, 1) := by decide +kernel
theorem d_Surroundings_reaches_29 : decode b_Surroundings_reaches 29 = .ok (.istore 5, 2) := by decide +kernel
theorem d_Surroundings_reaches_31 : decode b_Surroundings_reaches 31 = .ok (.iload_n 0, 1) := by decide +kernel
theorem d_Surroundings_reaches_32 : decode b_Surroundings_reaches 32 = .ok (.iload 4, 2) := by decide +kernel
theorem d_Surroundings_reaches_34 : decode b_Surroundings_reaches 34 = .ok (.imul, 1) := by decide +kernel
theorem d_Surroundings_reaches_35 : decode b_Surroundings_reaches 35 = .ok (.iload_n 1, 1) := by decide +kernel
theorem d_Surroundings_reaches_36 : decode b_Surroundings_reaches 36 = .ok (.iload_n 3, 1) := by decide +kernel
theorem d_Surroundings_reaches_37 : decode b_Surroundings_reaches 37 = .ok (.imul, 1) := by decide +kernel
theorem d_Surroundings_reaches_38 : decode b_Surroundings_reaches 38 = .ok (.isub, 1) := by decide +kernel
theorem d_Surroundings_reaches_39 : decode b_Surroundings_reaches 39 = .ok (.istore 6, 2) := by decide +kernel
theorem d_Surroundings_reaches_41 : decode b_Surroundings_reaches 41 = .ok (.iload 5, 2) := by decide +kernel
theorem d_Surroundings_reaches_43 : decode b_Surroundings_reaches 43 = .ok (.iload 6, 2) := by decide +kernel
theorem d_Surroundings_reaches_45 : decode b_Surroundings_reaches 45 = .ok (.invokestatic 50, 3) := by decide +kernel
theorem d_Surroundings_reaches_48 : decode b_Surroundings_reaches 48 = .ok (.if_icmp .lt 7, 3) := by decide +kernel
theorem d_Surroundings_reaches_51 : decode b_Surroundings_reaches 51 = .ok (.iconst 1, 1) := by decide +kernel
theorem d_Surroundings_reaches_52 : decode b_Surroundings_reaches 52 = .ok (.goto 4, 3) := by decide +kernel
theorem d_Surroundings_reaches_55 : decode b_Surroundings_reaches 55 = .ok (.iconst 0, 1) := by decide +kernel
theorem d_Surroundings_reaches_56 : decode b_Surroundings_reaches 56 = .ok (.ireturn, 1) := by decide +kernel
noncomputable def init_Surroundings : SSurroundings := ((fun _ => 0), (fun _ => 0), (fun _ => 0), 0, 0, (1), (0), true)
set_option maxHeartbeats 4000000 in
set_option maxRecDepth 100000 in
theorem k_Surroundings_init (l : Launch) (dC : Nat → ClassId) (dI : Nat → Nat → Nat) (h0 sz : Nat) : Met l y_Surroundings_init w_Surroundings_init ({ frames := 1, cells := 3, slots := 120, locals := 12 }) (cPc (dC, dI) [(h0, .inr (3, [.null, .null, .null, .int 0, .int 0, .int 0, .int 0, .int 0]))] [] sz [.ref h0]) (va_Qv (fun (u : SSurroundings) => u = init_Surroundings) (fun (u : SSurroundings) (t : State) => ∃ (ad : Nat → Nat) (cA : Nat → ClassId), ad 0 = h0 ∧ va_P (dC, dI) vwCl (uw_Surroundings ad cA u) t.heap ∧ va_K (dC, dI) vwCl [(cA 1, .int), (cA 2, .int), (cA 3, .int)] t ∧ va_D (va_A [(h0, .inr (3, [.null, .null, .null, .int 0, .int 0, .int 0, .int 0, .int 0]))] sz) (uw_Surroundings ad cA u)) (va_A [(h0, .inr (3, [.null, .null, .null, .int 0, .int 0, .int 0, .int 0, .int 0]))] sz)) 3 120 (va_A [(h0, .inr (3, [.null, .null, .null, .int 0, .int 0, .int 0, .int 0, .int 0]))] sz) := by
  refine Met.ofW (cc := b_Surroundings_init) (maxL := 1) (ret := none) (by decide) rfl ?_
  intro p e s m args below meth c s₁ B hml hv
  obtain ⟨rfl, hsz, hP, hK, hD0, hN⟩ := hv
  have hx := B.exec
  have hb := B.bytes
  have hr := B.returns
  have hts := atoms_spec (ws := w_Surroundings_init) B.pre
  have hown : s.vm.findClass "HazardTables$Surroundings" = some m.cls := findClass_of_methodNamed B.named
  have hlocks := B.notSynchronized
  have hin : meth.name = "<init>" := (name_of_methodNamed B.named B.method).1
  subst hsz
  have hD := hD0.self (sz := s.heap.size)
  generalize hAe : va_A [(h0, .inr (3, [.null, .null, .null, .int 0, .int 0, .int 0, .int 0, .int 0]))] s.heap.size = A at hD ⊢
  have hA : ∀ q : Nat, s.heap.size ≤ q → A q := fun q h => by rw [← hAe]; exact Or.inr h
  have hS : va_S A s.heap s.heap [] := va_S.rf
  have hP : va_P (dC, dI) vwCl [(h0, .inr (3, [.null, .null, .null, .int 0, .int 0, .int 0, .int 0, .int 0]))] s.heap := hP
  have hin_Surroundings : ∀ w ∈ u_ws "HazardTables$Surroundings" F_Surroundings 8, w ∈ w_Surroundings_init := fun w h => List.mem_cons_of_mem _ (hinA_Surroundings w h)
  have fl_11 := (hts _ (List.mem_cons_of_mem _ wd_146))
  have fl_15 := (hts _ (List.mem_cons_of_mem _ wd_147))
  have fl_18 := (hts _ (List.mem_cons_of_mem _ wd_148))
  have fl_21 := (hts _ (List.mem_cons_of_mem _ wd_152))
  have fl_25 := (hts _ (List.mem_cons_of_mem _ wd_153))
  have fl_28 := (hts _ (List.mem_cons_of_mem _ wd_154))
  have hl := lv_entry ([.ref h0]) (n := 1) (Nat.le_of_ble_eq_true rfl)
  rw [lg_entry_eq]
  generalize (lg_sl ([.ref h0]) ++ List.replicate (1 - (lg_sl ([.ref h0])).length) Slot.unset).toArray = ls at hl ⊢
  have hl : lv_has ls 1 [(0, .ref h0)] := hl
  refine lv_aload_n hx hb d_Surroundings_init_0 rfl (lv_at hl 0 rfl) ?_
  refine W.objInit hx hb hown (hts _ (List.mem_cons_of_mem _ wd_145)) (hts _ (List.mem_cons_of_mem _ wd_64)) (hts _ (List.mem_cons_of_mem _ wd_65)) rfl (by rw [hml]; exact hl.1) rfl d_Surroundings_init_1 (Nat.le_of_ble_eq_true rfl) (Nat.le_of_ble_eq_true rfl) ?_
  refine W.eq (g2 := F0 m 4 ls []) rfl ?_
  refine lv_aload_n hx hb d_Surroundings_init_4 rfl (lv_at hl 0 rfl) ?_
  refine lv_bipush (v := 40) hx hb d_Surroundings_init_5 (by decide) ?_
  refine va_newa (atype := .int) (ty := .int) (n := 40) (N' := 40) (a0 := (40, .inl (fun _ => 0))) hx hb (hts _ (List.mem_cons_of_mem _ wd_89)) rfl hK hP hD hS hA (fun _ => rfl) (by decide) (by decide) (by decide) (Nat.le_of_ble_eq_true rfl) (Nat.le_of_ble_eq_true rfl) d_Surroundings_init_7 (fun q1 c1 H hK hP hD hS => ?_)
  have hP : va_P (dC, dI) vwCl [(h0, .inr (3, [.null, .null, .null, .int 0, .int 0, .int 0, .int 0, .int 0])), (q1, .inl (c1, 40, .inl (fun _ => 0)))] H := hP
  have hD : va_D A [(h0, .inr (3, [.null, .null, .null, .int 0, .int 0, .int 0, .int 0, .int 0])), (q1, .inl (c1, 40, .inl (fun _ => 0)))] := hD
  have hK : va_K (dC, dI) vwCl [(c1, .int)] s := hK
  refine W.widen (k := 1) (n := 40) (Nat.le_refl _) (Nat.le_refl _) ?_
  refine va_putF (D := (dC, dI)) (ci := 3) (v := .ref q1) (ty := .array .int) (C := "HazardTables$Surroundings") (T := F_Surroundings) (N := 8) hx hb hts hin_Surroundings t_Surroundings t_Surroundings_ok n_Surroundings hown hK hP hD hS 0 rfl rfl 0 (by decide) fl_11 (fun _ h9 => h9) rfl hin rfl (by decide +kernel) rfl rfl (Nat.le_of_ble_eq_true rfl) d_Surroundings_init_9 (fun H locs hP hD hS => ?_)
  have hP : va_P (dC, dI) vwCl [(h0, .inr (3, [.ref q1, .null, .null, .int 0, .int 0, .int 0, .int 0, .int 0])), (q1, .inl (c1, 40, .inl (fun _ => 0)))] H := hP
  have hD : va_D A [(h0, .inr (3, [.ref q1, .null, .null, .int 0, .int 0, .int 0, .int 0, .int 0])), (q1, .inl (c1, 40, .inl (fun _ => 0)))] := hD
  refine lv_aload_n hx hb d_Surroundings_init_12 rfl (lv_at hl 0 rfl) ?_
  refine lv_bipush (v := 40) hx hb d_Surroundings_init_13 (by decide) ?_
  refine va_newa (atype := .int) (ty := .int) (n := 40) (N' := 40) (a0 := (40, .inl (fun _ => 0))) hx hb (hts _ (List.mem_cons_of_mem _ wd_89)) rfl hK hP hD hS hA (fun _ => rfl) (by decide) (by decide) (by decide) (Nat.le_of_ble_eq_true rfl) (Nat.le_of_ble_eq_true rfl) d_Surroundings_init_15 (fun q2 c2 H hK hP hD hS => ?_)
  have hP : va_P (dC, dI) vwCl [(h0, .inr (3, [.ref q1, .null, .null, .int 0, .int 0, .int 0, .int 0, .int 0])), (q1, .inl (c1, 40, .inl (fun _ => 0))), (q2, .inl (c2, 40, .inl (fun _ => 0)))] H := hP
  have hD : va_D A [(h0, .inr (3, [.ref q1, .null, .null, .int 0, .int 0, .int 0, .int 0, .int 0])), (q1, .inl (c1, 40, .inl (fun _ => 0))), (q2, .inl (c2, 40, .inl (fun _ => 0)))] := hD
  have hK : va_K (dC, dI) vwCl [(c1, .int), (c2, .int)] s := hK
  refine W.widen (k := 2) (n := 80) (Nat.le_refl _) (Nat.le_refl _) ?_
  refine va_putF (D := (dC, dI)) (ci := 3) (v := .ref q2) (ty := .array .int) (C := "HazardTables$Surroundings") (T := F_Surroundings) (N := 8) hx hb hts hin_Surroundings t_Surroundings t_Surroundings_ok n_Surroundings hown hK hP hD hS 0 rfl rfl 1 (by decide) fl_15 (fun _ h9 => h9) rfl hin rfl (by decide +kernel) rfl rfl (Nat.le_of_ble_eq_true rfl) d_Surroundings_init_17 (fun H locs hP hD hS => ?_)
  have hP : va_P (dC, dI) vwCl [(h0, .inr (3, [.ref q1, .ref q2, .null, .int 0, .int 0, .int 0, .int 0, .int 0])), (q1, .inl (c1, 40, .inl (fun _ => 0))), (q2, .inl (c2, 40, .inl (fun _ => 0)))] H := hP
  have hD : va_D A [(h0, .inr (3, [.ref q1, .ref q2, .null, .int 0, .int 0, .int 0, .int 0, .int 0])), (q1, .inl (c1, 40, .inl (fun _ => 0))), (q2, .inl (c2, 40, .inl (fun _ => 0)))] := hD
  refine lv_aload_n hx hb d_Surroundings_init_20 rfl (lv_at hl 0 rfl) ?_
  refine lv_bipush (v := 40) hx hb d_Surroundings_init_21 (by decide) ?_
  refine va_newa (atype := .int) (ty := .int) (n := 40) (N' := 40) (a0 := (40, .inl (fun _ => 0))) hx hb (hts _ (List.mem_cons_of_mem _ wd_89)) rfl hK hP hD hS hA (fun _ => rfl) (by decide) (by decide) (by decide) (Nat.le_of_ble_eq_true rfl) (Nat.le_of_ble_eq_true rfl) d_Surroundings_init_23 (fun q3 c3 H hK hP hD hS => ?_)
  have hP : va_P (dC, dI) vwCl [(h0, .inr (3, [.ref q1, .ref q2, .null, .int 0, .int 0, .int 0, .int 0, .int 0])), (q1, .inl (c1, 40, .inl (fun _ => 0))), (q2, .inl (c2, 40, .inl (fun _ => 0))), (q3, .inl (c3, 40, .inl (fun _ => 0)))] H := hP
  have hD : va_D A [(h0, .inr (3, [.ref q1, .ref q2, .null, .int 0, .int 0, .int 0, .int 0, .int 0])), (q1, .inl (c1, 40, .inl (fun _ => 0))), (q2, .inl (c2, 40, .inl (fun _ => 0))), (q3, .inl (c3, 40, .inl (fun _ => 0)))] := hD
  have hK : va_K (dC, dI) vwCl [(c1, .int), (c2, .int), (c3, .int)] s := hK
  refine W.widen (k := 3) (n := 120) (Nat.le_refl _) (Nat.le_refl _) ?_
  refine va_putF (D := (dC, dI)) (ci := 3) (v := .ref q3) (ty := .array .int) (C := "HazardTables$Surroundings") (T := F_Surroundings) (N := 8) hx hb hts hin_Surroundings t_Surroundings t_Surroundings_ok n_Surroundings hown hK hP hD hS 0 rfl rfl 2 (by decide) fl_18 (fun _ h9 => h9) rfl hin rfl (by decide +kernel) rfl rfl (Nat.le_of_ble_eq_true rfl) d_Surroundings_init_25 (fun H locs hP hD hS => ?_)
  have hP : va_P (dC, dI) vwCl [(h0, .inr (3, [.ref q1, .ref q2, .ref q3, .int 0, .int 0, .int 0, .int 0, .int 0])), (q1, .inl (c1, 40, .inl (fun _ => 0))), (q2, .inl (c2, 40, .inl (fun _ => 0))), (q3, .inl (c3, 40, .inl (fun _ => 0)))] H := hP
  have hD : va_D A [(h0, .inr (3, [.ref q1, .ref q2, .ref q3, .int 0, .int 0, .int 0, .int 0, .int 0])), (q1, .inl (c1, 40, .inl (fun _ => 0))), (q2, .inl (c2, 40, .inl (fun _ => 0))), (q3, .inl (c3, 40, .inl (fun _ => 0)))] := hD
  refine lv_aload_n hx hb d_Surroundings_init_28 rfl (lv_at hl 0 rfl) ?_
  refine lv_iconst (v := 1) hx hb d_Surroundings_init_29 (by decide) ?_
  refine va_put (D := (dC, dI)) (ci := 3) (v := .int (1)) (ty := .int) (C := "HazardTables$Surroundings") (T := F_Surroundings) (N := 8) hx hb hts hin_Surroundings t_Surroundings t_Surroundings_ok n_Surroundings hown hK hP hD hS 0 rfl rfl 5 (by decide) fl_21 (fun _ h9 => h9) rfl (by decide +kernel) rfl rfl (Nat.le_of_ble_eq_true rfl) d_Surroundings_init_30 (fun H locs hP hD hS => ?_)
  have hP : va_P (dC, dI) vwCl [(h0, .inr (3, [.ref q1, .ref q2, .ref q3, .int 0, .int 0, .int (1), .int 0, .int 0])), (q1, .inl (c1, 40, .inl (fun _ => 0))), (q2, .inl (c2, 40, .inl (fun _ => 0))), (q3, .inl (c3, 40, .inl (fun _ => 0)))] H := hP
  have hD : va_D A [(h0, .inr (3, [.ref q1, .ref q2, .ref q3, .int 0, .int 0, .int (1), .int 0, .int 0])), (q1, .inl (c1, 40, .inl (fun _ => 0))), (q2, .inl (c2, 40, .inl (fun _ => 0))), (q3, .inl (c3, 40, .inl (fun _ => 0)))] := hD
  refine lv_aload_n hx hb d_Surroundings_init_33 rfl (lv_at hl 0 rfl) ?_
  refine lv_iconst (v := 0) hx hb d_Surroundings_init_34 (by decide) ?_
  refine va_put (D := (dC, dI)) (ci := 3) (v := .int (0)) (ty := .int) (C := "HazardTables$Surroundings") (T := F_Surroundings) (N := 8) hx hb hts hin_Surroundings t_Surroundings t_Surroundings_ok n_Surroundings hown hK hP hD hS 0 rfl rfl 6 (by decide) fl_25 (fun _ h9 => h9) rfl (by decide +kernel) rfl rfl (Nat.le_of_ble_eq_true rfl) d_Surroundings_init_35 (fun H locs hP hD hS => ?_)
  have hP : va_P (dC, dI) vwCl [(h0, .inr (3, [.ref q1, .ref q2, .ref q3, .int 0, .int 0, .int (1), .int (0), .int 0])), (q1, .inl (c1, 40, .inl (fun _ => 0))), (q2, .inl (c2, 40, .inl (fun _ => 0))), (q3, .inl (c3, 40, .inl (fun _ => 0)))] H := hP
  have hD : va_D A [(h0, .inr (3, [.ref q1, .ref q2, .ref q3, .int 0, .int 0, .int (1), .int (0), .int 0])), (q1, .inl (c1, 40, .inl (fun _ => 0))), (q2, .inl (c2, 40, .inl (fun _ => 0))), (q3, .inl (c3, 40, .inl (fun _ => 0)))] := hD
  refine lv_aload_n hx hb d_Surroundings_init_38 rfl (lv_at hl 0 rfl) ?_
  refine lv_iconst (v := 1) hx hb d_Surroundings_init_39 (by decide) ?_
  refine va_put (D := (dC, dI)) (ci := 3) (v := .int 1) (ty := .boolean) (C := "HazardTables$Surroundings") (T := F_Surroundings) (N := 8) hx hb hts hin_Surroundings t_Surroundings t_Surroundings_ok n_Surroundings hown hK hP hD hS 0 rfl rfl 7 (by decide) fl_28 (fun _ h9 => h9) rfl (by decide +kernel) rfl rfl (Nat.le_of_ble_eq_true rfl) d_Surroundings_init_40 (fun H locs hP hD hS => ?_)
  have hP : va_P (dC, dI) vwCl [(h0, .inr (3, [.ref q1, .ref q2, .ref q3, .int 0, .int 0, .int (1), .int (0), .int 1])), (q1, .inl (c1, 40, .inl (fun _ => 0))), (q2, .inl (c2, 40, .inl (fun _ => 0))), (q3, .inl (c3, 40, .inl (fun _ => 0)))] H := hP
  have hD : va_D A [(h0, .inr (3, [.ref q1, .ref q2, .ref q3, .int 0, .int 0, .int (1), .int (0), .int 1])), (q1, .inl (c1, 40, .inl (fun _ => 0))), (q2, .inl (c2, 40, .inl (fun _ => 0))), (q3, .inl (c3, 40, .inl (fun _ => 0)))] := hD
  exact W.vret hx hb hr (fun t ht hW => ⟨⟨init_Surroundings, rfl, rfl, (fun k => match k with | 0 => h0 | 1 => q1 | 2 => q2 | _ => q3), (fun k => match k with | 1 => c1 | 2 => c2 | _ => c3), rfl, by rw [ht]; exact hP, va_K.moved hW.alike hK, hD⟩, hS.F ht⟩) hS.2.2 d_Surroundings_init_43
noncomputable def f_Surroundings_isFull (ar : SSurroundings) : Option (Bool) :=
  (if ar.2.2.2.1 < (40 : Int32) then
    (some (false))
   else
    (some (true))
   )
set_option maxHeartbeats 4000000 in
set_option maxRecDepth 100000 in
theorem k_Surroundings_isFull (l : Launch) (dC : Nat → ClassId) (dI : Nat → Nat → Nat) (ad_ar : Nat → Nat) (cA_ar : Nat → ClassId) (sz : Nat) (ar : SSurroundings) (res : Bool) (hf : f_Surroundings_isFull ar = some res) : Met l y_Surroundings_isFull w_Surroundings_isFull ({ frames := 0, cells := 0, slots := 0, locals := 0 }) (cPc (dC, dI) (uw_Surroundings ad_ar cA_ar ar) [(cA_ar 1, .int), (cA_ar 2, .int), (cA_ar 3, .int)] sz [.ref (ad_ar 0)]) (va_Qi (fun (r : Int32) (u : Unit) => r = bI res) (fun (u : Unit) (t : State) => va_P (dC, dI) vwCl (uw_Surroundings ad_ar cA_ar ar) t.heap ∧ va_K (dC, dI) vwCl [(cA_ar 1, .int), (cA_ar 2, .int), (cA_ar 3, .int)] t ∧ va_D (va_A (uw_Surroundings ad_ar cA_ar ar) sz) (uw_Surroundings ad_ar cA_ar ar)) (va_A (uw_Surroundings ad_ar cA_ar ar) sz)) 0 0 (va_A (uw_Surroundings ad_ar cA_ar ar) sz) := by
  refine Met.ofW (cc := b_Surroundings_isFull) (maxL := 1) (ret := (some .boolean)) (by decide) rfl ?_
  intro p e s m args below meth c s₁ B hml hv
  obtain ⟨rfl, hsz, hP, hK, hD0, hN⟩ := hv
  have hx := B.exec
  have hb := B.bytes
  have hr := B.returns
  have hts := atoms_spec (ws := w_Surroundings_isFull) B.pre
  have hown : s.vm.findClass "HazardTables$Surroundings" = some m.cls := findClass_of_methodNamed B.named
  have hlocks := B.notSynchronized
  subst hsz
  have hD := hD0.self (sz := s.heap.size)
  generalize hAe : va_A (uw_Surroundings ad_ar cA_ar ar) s.heap.size = A at hD ⊢
  have hA : ∀ q : Nat, s.heap.size ≤ q → A q := fun q h => by rw [← hAe]; exact Or.inr h
  have hS : va_S A s.heap s.heap [] := va_S.rf
  have hP : va_P (dC, dI) vwCl (uw_Surroundings ad_ar cA_ar ar) s.heap := hP
  have fl_32 := (hts _ (List.mem_cons_of_mem _ wd_149))
  have hin_Surroundings : ∀ w ∈ u_ws "HazardTables$Surroundings" F_Surroundings 8, w ∈ w_Surroundings_isFull := fun w h => List.mem_cons_of_mem _ (hinA_Surroundings w h)
  have ret : ∀ (v : Bool) (u : Unit) (H : Heap) (locs : List Loc) (ls : Array Slot) (pc : Nat), decode b_Surroundings_isFull pc = .ok (.ireturn, 1) → (v = res) → va_P (dC, dI) vwCl (uw_Surroundings ad_ar cA_ar ar) H → va_D A (uw_Surroundings ad_ar cA_ar ar) → va_S A s.heap H locs → W p l e (headSpec w_Surroundings_isFull ({ frames := 0, cells := 0, slots := 0, locals := 0 })).room s m ([.ref (ad_ar 0)] : List Value).toArray below meth c H locs 0 0 (MQ below (va_Qi (fun (r : Int32) (u : Unit) => r = bI res) (fun (u : Unit) (t : State) => va_P (dC, dI) vwCl (uw_Surroundings ad_ar cA_ar ar) t.heap ∧ va_K (dC, dI) vwCl [(cA_ar 1, .int), (cA_ar 2, .int), (cA_ar 3, .int)] t ∧ va_D A (uw_Surroundings ad_ar cA_ar ar)) A) ([.ref (ad_ar 0)] : List Value).toArray s 0 0 A) (F0 m pc ls [.int (bI v)]) := fun v u H locs ls pc hd hp hP hD hS => W.zret (v := bI v) (ty := .boolean) hx hb hr (nar_bI v) (fun t ht hW => ⟨⟨bI v, u, rfl, (by rw [hp]), by rw [ht]; exact hP, va_K.moved hW.alike hK, hD⟩, hS.F ht⟩) hS.2.2 hd
  generalize (MQ below (va_Qi (fun (r : Int32) (u : Unit) => r = bI res) (fun (u : Unit) (t : State) => va_P (dC, dI) vwCl (uw_Surroundings ad_ar cA_ar ar) t.heap ∧ va_K (dC, dI) vwCl [(cA_ar 1, .int), (cA_ar 2, .int), (cA_ar 3, .int)] t ∧ va_D A (uw_Surroundings ad_ar cA_ar ar)) A) ([.ref (ad_ar 0)] : List Value).toArray s 0 0 A) = Q at ret ⊢
  have hl := lv_entry ([.ref (ad_ar 0)]) (n := 1) (Nat.le_of_ble_eq_true rfl)
  rw [lg_entry_eq]
  generalize (lg_sl ([.ref (ad_ar 0)]) ++ List.replicate (1 - (lg_sl ([.ref (ad_ar 0)])).length) Slot.unset).toArray = ls at hl ⊢
  have hl : lv_has ls 1 [(0, .ref (ad_ar 0))] := hl
  have hf := hf
  rw [f_Surroundings_isFull] at hf
  obtain ⟨H, hH⟩ : ∃ H : Heap, H = s.heap := ⟨_, rfl⟩
  obtain ⟨locs, hlocs⟩ : ∃ L : List Loc, L = [] := ⟨_, rfl⟩
  have hP : va_P (dC, dI) vwCl (uw_Surroundings ad_ar cA_ar ar) H := by rw [hH]; exact hP
  have hS : va_S A s.heap H locs := by rw [hH, hlocs]; exact hS
  show W p l e (headSpec w_Surroundings_isFull ({ frames := 0, cells := 0, slots := 0, locals := 0 })).room s m ([.ref (ad_ar 0)] : List Value).toArray below meth c s.heap [] 0 0 Q (F0 m 0 ls [])
  suffices hgo : W p l e (headSpec w_Surroundings_isFull ({ frames := 0, cells := 0, slots := 0, locals := 0 })).room s m ([.ref (ad_ar 0)] : List Value).toArray below meth c H locs 0 0 Q (F0 m 0 ls []) by rw [hH, hlocs] at hgo; exact hgo
  clear hH hlocs
  refine lv_aload_n hx hb d_Surroundings_isFull_0 rfl (lv_at hl 0 rfl) ?_
  refine va_get (D := (dC, dI)) (ci := 3) (v := .int ar.2.2.2.1) (C := "HazardTables$Surroundings") (T := F_Surroundings) (N := 8) hx hb hts hin_Surroundings hown hK hP 0 rfl rfl 3 (by decide) fl_32 (fun _ h9 => h9) rfl d_Surroundings_isFull_1 ?_
  refine lv_bipush (v := (40 : Int32)) hx hb d_Surroundings_isFull_4 (by decide) ?_
  refine lv_icmp_lt (tgt := 13) hx hb d_Surroundings_isFull_6 (by decide) (fun hc1 => ?_) (fun hc1 => ?_)
  · have hf := hf_t hf hc1
    refine lv_iconst (v := (0 : Int32)) hx hb d_Surroundings_isFull_13 (by decide) ?_
    exact ret false () H locs ls 14 d_Surroundings_isFull_14 (Option.some.inj hf) hP hD hS
  · have hf := hf_f hf hc1
    refine lv_iconst (v := (1 : Int32)) hx hb d_Surroundings_isFull_9 (by decide) ?_
    refine lv_goto (tgt := 14) hx hb d_Surroundings_isFull_10 (by decide) ?_
    exact ret true () H locs ls 14 d_Surroundings_isFull_14 (Option.some.inj hf) hP hD hS
noncomputable def f_Surroundings_append (ar : SSurroundings) (x1 : Int32) (x2 : Int32) : Option (Int32 × SSurroundings) :=
  (Option.bind (f_Surroundings_isFull ar) fun u1 =>
    (if (bI u1) = 0 then
      (if inb ar.2.2.2.1 40 then
        (if inb ar.2.2.2.1 40 then
          (some ((ar.2.2.2.1 + (1 : Int32)) - (1 : Int32), (upd ar.1 ar.2.2.2.1.toNatClampNeg x1, upd ar.2.1 ar.2.2.2.1.toNatClampNeg x2, ar.2.2.1, ar.2.2.2.1 + (1 : Int32), ar.2.2.2.2.1, ar.2.2.2.2.2.1, ar.2.2.2.2.2.2.1, ar.2.2.2.2.2.2.2)))
         else none)
       else none)
     else
      (some ((-1 : Int32), ar))
     )
   )
set_option maxHeartbeats 4000000 in
set_option maxRecDepth 100000 in
theorem k_Surroundings_append (l : Launch) (dC : Nat → ClassId) (dI : Nat → Nat → Nat) (ad_ar : Nat → Nat) (cA_ar : Nat → ClassId) (sz : Nat) (ar : SSurroundings) (x1 : Int32) (x2 : Int32) (res : Int32 × SSurroundings) (hf : f_Surroundings_append ar x1 x2 = some res) : Met l y_Surroundings_append w_Surroundings_append ({ frames := 1, cells := 0, slots := 0, locals := 20 }) (cPc (dC, dI) (uw_Surroundings ad_ar cA_ar ar) [(cA_ar 1, .int), (cA_ar 2, .int), (cA_ar 3, .int)] sz [.ref (ad_ar 0), .int x1, .int x2]) (va_Qi (fun (r : Int32) (u : SSurroundings) => r = res.1 ∧ u = res.2) (fun (u : SSurroundings) (t : State) => va_P (dC, dI) vwCl (uw_Surroundings ad_ar cA_ar u) t.heap ∧ va_K (dC, dI) vwCl [(cA_ar 1, .int), (cA_ar 2, .int), (cA_ar 3, .int)] t ∧ va_D (va_A (uw_Surroundings ad_ar cA_ar ar) sz) (uw_Surroundings ad_ar cA_ar u)) (va_A (uw_Surroundings ad_ar cA_ar ar) sz)) 0 0 (va_A (uw_Surroundings ad_ar cA_ar ar) sz) := by
  refine Met.ofW (cc := b_Surroundings_append) (maxL := 3) (ret := (some .int)) (by decide) rfl ?_
  intro p e s m args below meth c s₁ B hml hv
  obtain ⟨rfl, hsz, hP, hK, hD0, hN⟩ := hv
  have hx := B.exec
  have hb := B.bytes
  have hr := B.returns
  have hts := atoms_spec (ws := w_Surroundings_append) B.pre
  have hown : s.vm.findClass "HazardTables$Surroundings" = some m.cls := findClass_of_methodNamed B.named
  have hlocks := B.notSynchronized
  subst hsz
  have hD := hD0.self (sz := s.heap.size)
  generalize hAe : va_A (uw_Surroundings ad_ar cA_ar ar) s.heap.size = A at hD ⊢
  have hA : ∀ q : Nat, s.heap.size ≤ q → A q := fun q h => by rw [← hAe]; exact Or.inr h
  have hS : va_S A s.heap s.heap [] := va_S.rf
  have hP : va_P (dC, dI) vwCl (uw_Surroundings ad_ar cA_ar ar) s.heap := hP
  have fl_11 := (hts _ (List.mem_cons_of_mem _ wd_146))
  have fl_15 := (hts _ (List.mem_cons_of_mem _ wd_147))
  have fl_32 := (hts _ (List.mem_cons_of_mem _ wd_149))
  have hin_Surroundings : ∀ w ∈ u_ws "HazardTables$Surroundings" F_Surroundings 8, w ∈ w_Surroundings_append := fun w h => List.mem_cons_of_mem _ (hinA_Surroundings w h)
  have ret : ∀ (v : Int32) (u : SSurroundings) (H : Heap) (locs : List Loc) (ls : Array Slot) (pc : Nat), decode b_Surroundings_append pc = .ok (.ireturn, 1) → (v = res.1 ∧ u = res.2) → va_P (dC, dI) vwCl (uw_Surroundings ad_ar cA_ar u) H → va_D A (uw_Surroundings ad_ar cA_ar u) → va_S A s.heap H locs → W p l e (headSpec w_Surroundings_append ({ frames := 1, cells := 0, slots := 0, locals := 20 })).room s m ([.ref (ad_ar 0), .int x1, .int x2] : List Value).toArray below meth c H locs 0 0 (MQ below (va_Qi (fun (r : Int32) (u : SSurroundings) => r = res.1 ∧ u = res.2) (fun (u : SSurroundings) (t : State) => va_P (dC, dI) vwCl (uw_Surroundings ad_ar cA_ar u) t.heap ∧ va_K (dC, dI) vwCl [(cA_ar 1, .int), (cA_ar 2, .int), (cA_ar 3, .int)] t ∧ va_D A (uw_Surroundings ad_ar cA_ar u)) A) ([.ref (ad_ar 0), .int x1, .int x2] : List Value).toArray s 0 0 A) (F0 m pc ls [.int v]) := fun v u H locs ls pc hd hp hP hD hS => W.iret (v := v) hx hb hr (fun t ht hW => ⟨⟨v, u, rfl, hp, by rw [ht]; exact hP, va_K.moved hW.alike hK, hD⟩, hS.F ht⟩) hS.2.2 hd
  generalize (MQ below (va_Qi (fun (r : Int32) (u : SSurroundings) => r = res.1 ∧ u = res.2) (fun (u : SSurroundings) (t : State) => va_P (dC, dI) vwCl (uw_Surroundings ad_ar cA_ar u) t.heap ∧ va_K (dC, dI) vwCl [(cA_ar 1, .int), (cA_ar 2, .int), (cA_ar 3, .int)] t ∧ va_D A (uw_Surroundings ad_ar cA_ar u)) A) ([.ref (ad_ar 0), .int x1, .int x2] : List Value).toArray s 0 0 A) = Q at ret ⊢
  have hl := lv_entry ([.ref (ad_ar 0), .int x1, .int x2]) (n := 3) (Nat.le_of_ble_eq_true rfl)
  rw [lg_entry_eq]
  generalize (lg_sl ([.ref (ad_ar 0), .int x1, .int x2]) ++ List.replicate (3 - (lg_sl ([.ref (ad_ar 0), .int x1, .int x2])).length) Slot.unset).toArray = ls at hl ⊢
  have hl : lv_has ls 3 [(0, .ref (ad_ar 0)), (1, .int x1), (2, .int x2)] := hl
  have hf := hf
  rw [f_Surroundings_append] at hf
  obtain ⟨H, hH⟩ : ∃ H : Heap, H = s.heap := ⟨_, rfl⟩
  obtain ⟨locs, hlocs⟩ : ∃ L : List Loc, L = [] := ⟨_, rfl⟩
  have hP : va_P (dC, dI) vwCl (uw_Surroundings ad_ar cA_ar ar) H := by rw [hH]; exact hP
  have hS : va_S A s.heap H locs := by rw [hH, hlocs]; exact hS
  show W p l e (headSpec w_Surroundings_append ({ frames := 1, cells := 0, slots := 0, locals := 20 })).room s m ([.ref (ad_ar 0), .int x1, .int x2] : List Value).toArray below meth c s.heap [] 0 0 Q (F0 m 0 ls [])
  suffices hgo : W p l e (headSpec w_Surroundings_append ({ frames := 1, cells := 0, slots := 0, locals := 20 })).room s m ([.ref (ad_ar 0), .int x1, .int x2] : List Value).toArray below meth c H locs 0 0 Q (F0 m 0 ls []) by rw [hH, hlocs] at hgo; exact hgo
  clear hH hlocs
  refine lv_aload_n hx hb d_Surroundings_append_0 rfl (lv_at hl 0 rfl) ?_
  obtain ⟨u1, hu1, hf⟩ := Option.bind_eq_some_iff.mp hf
  refine cl_i (wc := (uw_Surroundings ad_ar cA_ar ar)) (wr := []) (tysC := [(cA_ar 1, .int), (cA_ar 2, .int), (cA_ar 3, .int)]) (wu := fun (u : Unit) => (uw_Surroundings ad_ar cA_ar ar)) (wn := fun (u : Unit) => (uw_Surroundings ad_ar cA_ar ar)) [0, 1, 2, 3] [] [0, 1, 2, 3] [0, 1, 2] hP hD hS hA hK rfl rfl (by decide +kernel) (by decide +kernel) (by decide +kernel) rfl (fun _ => rfl) (by decide +kernel) (fun hPc hKc hDc => (va_runV (As := []) (rest := []) ⟨hx, hb, hml, hown, hts⟩ (k_Surroundings_isFull l dC dI ad_ar cA_ar H.size ar u1 hu1) (cwV 0 hts (gV wd_666 wd_658 wd_659 wd_47 wd_660) rfl rfl rfl (by decide +kernel) ⟨Nat.le_of_ble_eq_true rfl, Nat.le_of_ble_eq_true rfl⟩) (cl_preV hPc hKc hDc hN (ci := 3) 0 rfl rfl) rfl rfl hl.1 rfl (lv_room (Nat.le_of_ble_eq_true rfl)) d_Surroundings_append_1 ⟨Nat.le_of_ble_eq_true rfl, Nat.le_of_ble_eq_true rfl⟩)) (fun r u H locs hw hP hD hS => ?_)
  have hw := hw.symm
  subst hw
  have hP : va_P (dC, dI) vwCl (uw_Surroundings ad_ar cA_ar ar) H := hP
  have hD : va_D A (uw_Surroundings ad_ar cA_ar ar) := hD
  refine lv_if_eq (tgt := 9) hx hb d_Surroundings_append_4 (by decide) (fun hc2 => ?_) (fun hc2 => ?_)
  · have hf := hf_t hf hc2
    refine lv_aload_n hx hb d_Surroundings_append_9 rfl (lv_at hl 0 rfl) ?_
    refine va_get (D := (dC, dI)) (ci := 3) (v := .ref (ad_ar 1)) (C := "HazardTables$Surroundings") (T := F_Surroundings) (N := 8) hx hb hts hin_Surroundings hown hK hP 0 rfl rfl 0 (by decide) fl_11 (fun _ h9 => h9) rfl d_Surroundings_append_10 ?_
    refine lv_aload_n hx hb d_Surroundings_append_13 rfl (lv_at hl 0 rfl) ?_
    refine va_get (D := (dC, dI)) (ci := 3) (v := .int ar.2.2.2.1) (C := "HazardTables$Surroundings") (T := F_Surroundings) (N := 8) hx hb hts hin_Surroundings hown hK hP 0 rfl rfl 3 (by decide) fl_32 (fun _ h9 => h9) rfl d_Surroundings_append_14 ?_
    refine lv_iload_n hx hb d_Surroundings_append_17 rfl (lv_at hl 1 rfl) ?_
    obtain ⟨hi3, hf⟩ := hf_g hf
    refine va_iast hx hb hK hP hD hS 1 0 rfl rfl hi3 d_Surroundings_append_18 (fun H locs hP hD hS => ?_)
    have hP : va_P (dC, dI) vwCl (uw_Surroundings ad_ar cA_ar (upd ar.1 ar.2.2.2.1.toNatClampNeg x1, ar.2.1, ar.2.2.1, ar.2.2.2.1, ar.2.2.2.2.1, ar.2.2.2.2.2.1, ar.2.2.2.2.2.2.1, ar.2.2.2.2.2.2.2)) H := hP
    have hD : va_D A (uw_Surroundings ad_ar cA_ar (upd ar.1 ar.2.2.2.1.toNatClampNeg x1, ar.2.1, ar.2.2.1, ar.2.2.2.1, ar.2.2.2.2.1, ar.2.2.2.2.2.1, ar.2.2.2.2.2.2.1, ar.2.2.2.2.2.2.2)) := hD
    refine lv_aload_n hx hb d_Surroundings_append_19 rfl (lv_at hl 0 rfl) ?_
    refine va_get (D := (dC, dI)) (ci := 3) (v := .ref (ad_ar 2)) (C := "HazardTables$Surroundings") (T := F_Surroundings) (N := 8) hx hb hts hin_Surroundings hown hK hP 0 rfl rfl 1 (by decide) fl_15 (fun _ h9 => h9) rfl d_Surroundings_append_20 ?_
    refine lv_aload_n hx hb d_Surroundings_append_23 rfl (lv_at hl 0 rfl) ?_
    refine va_get (D := (dC, dI)) (ci := 3) (v := .int ar.2.2.2.1) (C := "HazardTables$Surroundings") (T := F_Surroundings) (N := 8) hx hb hts hin_Surroundings hown hK hP 0 rfl rfl 3 (by decide) fl_32 (fun _ h9 => h9) rfl d_Surroundings_append_24 ?_
    refine lv_iload_n hx hb d_Surroundings_append_27 rfl (lv_at hl 2 rfl) ?_
    obtain ⟨hi4, hf⟩ := hf_g hf
    refine va_iast hx hb hK hP hD hS 2 1 rfl rfl hi4 d_Surroundings_append_28 (fun H locs hP hD hS => ?_)
    have hP : va_P (dC, dI) vwCl (uw_Surroundings ad_ar cA_ar (upd ar.1 ar.2.2.2.1.toNatClampNeg x1, upd ar.2.1 ar.2.2.2.1.toNatClampNeg x2, ar.2.2.1, ar.2.2.2.1, ar.2.2.2.2.1, ar.2.2.2.2.2.1, ar.2.2.2.2.2.2.1, ar.2.2.2.2.2.2.2)) H := hP
    have hD : va_D A (uw_Surroundings ad_ar cA_ar (upd ar.1 ar.2.2.2.1.toNatClampNeg x1, upd ar.2.1 ar.2.2.2.1.toNatClampNeg x2, ar.2.2.1, ar.2.2.2.1, ar.2.2.2.2.1, ar.2.2.2.2.2.1, ar.2.2.2.2.2.2.1, ar.2.2.2.2.2.2.2)) := hD
    refine lv_aload_n hx hb d_Surroundings_append_29 rfl (lv_at hl 0 rfl) ?_
    refine lv_dup hx hb d_Surroundings_append_30 rfl ?_
    refine va_get (D := (dC, dI)) (ci := 3) (v := .int ar.2.2.2.1) (C := "HazardTables$Surroundings") (T := F_Surroundings) (N := 8) hx hb hts hin_Surroundings hown hK hP 0 rfl rfl 3 (by decide) fl_32 (fun _ h9 => h9) rfl d_Surroundings_append_31 ?_
    refine lv_iconst (v := (1 : Int32)) hx hb d_Surroundings_append_34 (by decide) ?_
    refine lv_iadd hx hb d_Surroundings_append_35 ?_
    refine va_put (D := (dC, dI)) (ci := 3) (v := .int (ar.2.2.2.1 + (1 : Int32))) (ty := .int) (C := "HazardTables$Surroundings") (T := F_Surroundings) (N := 8) hx hb hts hin_Surroundings t_Surroundings t_Surroundings_ok n_Surroundings hown hK hP hD hS 0 rfl rfl 3 (by decide) fl_32 (fun _ h9 => h9) rfl (by decide +kernel) rfl rfl (Nat.le_of_ble_eq_true rfl) d_Surroundings_append_36 (fun H locs hP hD hS => ?_)
    have hP : va_P (dC, dI) vwCl (uw_Surroundings ad_ar cA_ar (upd ar.1 ar.2.2.2.1.toNatClampNeg x1, upd ar.2.1 ar.2.2.2.1.toNatClampNeg x2, ar.2.2.1, ar.2.2.2.1 + (1 : Int32), ar.2.2.2.2.1, ar.2.2.2.2.2.1, ar.2.2.2.2.2.2.1, ar.2.2.2.2.2.2.2)) H := hP
    have hD : va_D A (uw_Surroundings ad_ar cA_ar (upd ar.1 ar.2.2.2.1.toNatClampNeg x1, upd ar.2.1 ar.2.2.2.1.toNatClampNeg x2, ar.2.2.1, ar.2.2.2.1 + (1 : Int32), ar.2.2.2.2.1, ar.2.2.2.2.2.1, ar.2.2.2.2.2.2.1, ar.2.2.2.2.2.2.2)) := hD
    refine lv_aload_n hx hb d_Surroundings_append_39 rfl (lv_at hl 0 rfl) ?_
    refine va_get (D := (dC, dI)) (ci := 3) (v := .int (ar.2.2.2.1 + (1 : Int32))) (C := "HazardTables$Surroundings") (T := F_Surroundings) (N := 8) hx hb hts hin_Surroundings hown hK hP 0 rfl rfl 3 (by decide) fl_32 (fun _ h9 => h9) rfl d_Surroundings_append_40 ?_
    refine lv_iconst (v := (1 : Int32)) hx hb d_Surroundings_append_43 (by decide) ?_
    refine lv_isub hx hb d_Surroundings_append_44 ?_
    exact ret ((ar.2.2.2.1 + (1 : Int32)) - (1 : Int32)) (upd ar.1 ar.2.2.2.1.toNatClampNeg x1, upd ar.2.1 ar.2.2.2.1.toNatClampNeg x2, ar.2.2.1, ar.2.2.2.1 + (1 : Int32), ar.2.2.2.2.1, ar.2.2.2.2.2.1, ar.2.2.2.2.2.2.1, ar.2.2.2.2.2.2.2) H locs ls 45 d_Surroundings_append_45 (hf_e hf) hP hD hS
  · have hf := hf_f hf hc2
    refine lv_iconst (v := (-1 : Int32)) hx hb d_Surroundings_append_7 (by decide) ?_
    exact ret (-1 : Int32) ar H locs ls 8 d_Surroundings_append_8 (hf_e hf) hP hD hS
noncomputable def f_Surroundings_turn (ar : SSurroundings) (x1 : Int32) (x2 : Int32) (x3 : Bool) : Option (SSurroundings) :=
  (some (ar.1, ar.2.1, ar.2.2.1, ar.2.2.2.1, ar.2.2.2.2.1, x1, x2, x3))
set_option maxHeartbeats 4000000 in
set_option maxRecDepth 100000 in
theorem k_Surroundings_turn (l : Launch) (dC : Nat → ClassId) (dI : Nat → Nat → Nat) (ad_ar : Nat → Nat) (cA_ar : Nat → ClassId) (sz : Nat) (ar : SSurroundings) (x1 : Int32) (x2 : Int32) (x3 : Bool) (res : SSurroundings) (hf : f_Surroundings_turn ar x1 x2 x3 = some res) : Met l y_Surroundings_turn w_Surroundings_turn ({ frames := 0, cells := 0, slots := 0, locals := 0 }) (cPc (dC, dI) (uw_Surroundings ad_ar cA_ar ar) [(cA_ar 1, .int), (cA_ar 2, .int), (cA_ar 3, .int)] sz [.ref (ad_ar 0), .int x1, .int x2, .int (bI x3)]) (va_Qv (fun (u : SSurroundings) => u = res) (fun (u : SSurroundings) (t : State) => va_P (dC, dI) vwCl (uw_Surroundings ad_ar cA_ar u) t.heap ∧ va_K (dC, dI) vwCl [(cA_ar 1, .int), (cA_ar 2, .int), (cA_ar 3, .int)] t ∧ va_D (va_A (uw_Surroundings ad_ar cA_ar ar) sz) (uw_Surroundings ad_ar cA_ar u)) (va_A (uw_Surroundings ad_ar cA_ar ar) sz)) 0 0 (va_A (uw_Surroundings ad_ar cA_ar ar) sz) := by
  refine Met.ofW (cc := b_Surroundings_turn) (maxL := 4) (ret := none) (by decide) rfl ?_
  intro p e s m args below meth c s₁ B hml hv
  obtain ⟨rfl, hsz, hP, hK, hD0, hN⟩ := hv
  have hx := B.exec
  have hb := B.bytes
  have hr := B.returns
  have hts := atoms_spec (ws := w_Surroundings_turn) B.pre
  have hown : s.vm.findClass "HazardTables$Surroundings" = some m.cls := findClass_of_methodNamed B.named
  have hlocks := B.notSynchronized
  subst hsz
  have hD := hD0.self (sz := s.heap.size)
  generalize hAe : va_A (uw_Surroundings ad_ar cA_ar ar) s.heap.size = A at hD ⊢
  have hA : ∀ q : Nat, s.heap.size ≤ q → A q := fun q h => by rw [← hAe]; exact Or.inr h
  have hS : va_S A s.heap s.heap [] := va_S.rf
  have hP : va_P (dC, dI) vwCl (uw_Surroundings ad_ar cA_ar ar) s.heap := hP
  have fl_21 := (hts _ (List.mem_cons_of_mem _ wd_152))
  have fl_25 := (hts _ (List.mem_cons_of_mem _ wd_153))
  have fl_28 := (hts _ (List.mem_cons_of_mem _ wd_154))
  have hin_Surroundings : ∀ w ∈ u_ws "HazardTables$Surroundings" F_Surroundings 8, w ∈ w_Surroundings_turn := fun w h => List.mem_cons_of_mem _ (hinA_Surroundings w h)
  have ret : ∀ (u : SSurroundings) (H : Heap) (locs : List Loc) (ls : Array Slot) (pc : Nat), decode b_Surroundings_turn pc = .ok (.return_, 1) → u = res → va_P (dC, dI) vwCl (uw_Surroundings ad_ar cA_ar u) H → va_D A (uw_Surroundings ad_ar cA_ar u) → va_S A s.heap H locs → W p l e (headSpec w_Surroundings_turn ({ frames := 0, cells := 0, slots := 0, locals := 0 })).room s m ([.ref (ad_ar 0), .int x1, .int x2, .int (bI x3)] : List Value).toArray below meth c H locs 0 0 (MQ below (va_Qv (fun (u : SSurroundings) => u = res) (fun (u : SSurroundings) (t : State) => va_P (dC, dI) vwCl (uw_Surroundings ad_ar cA_ar u) t.heap ∧ va_K (dC, dI) vwCl [(cA_ar 1, .int), (cA_ar 2, .int), (cA_ar 3, .int)] t ∧ va_D A (uw_Surroundings ad_ar cA_ar u)) A) ([.ref (ad_ar 0), .int x1, .int x2, .int (bI x3)] : List Value).toArray s 0 0 A) (F0 m pc ls []) := fun u H locs ls pc hd hp hP hD hS => W.vret hx hb hr (fun t ht hW => ⟨⟨u, rfl, hp, by rw [ht]; exact hP, va_K.moved hW.alike hK, hD⟩, hS.F ht⟩) hS.2.2 hd
  generalize (MQ below (va_Qv (fun (u : SSurroundings) => u = res) (fun (u : SSurroundings) (t : State) => va_P (dC, dI) vwCl (uw_Surroundings ad_ar cA_ar u) t.heap ∧ va_K (dC, dI) vwCl [(cA_ar 1, .int), (cA_ar 2, .int), (cA_ar 3, .int)] t ∧ va_D A (uw_Surroundings ad_ar cA_ar u)) A) ([.ref (ad_ar 0), .int x1, .int x2, .int (bI x3)] : List Value).toArray s 0 0 A) = Q at ret ⊢
  have hl := lv_entry ([.ref (ad_ar 0), .int x1, .int x2, .int (bI x3)]) (n := 4) (Nat.le_of_ble_eq_true rfl)
  rw [lg_entry_eq]
  generalize (lg_sl ([.ref (ad_ar 0), .int x1, .int x2, .int (bI x3)]) ++ List.replicate (4 - (lg_sl ([.ref (ad_ar 0), .int x1, .int x2, .int (bI x3)])).length) Slot.unset).toArray = ls at hl ⊢
  have hl : lv_has ls 4 [(0, .ref (ad_ar 0)), (1, .int x1), (2, .int x2), (3, .int (bI x3))] := hl
  have hf := hf
  rw [f_Surroundings_turn] at hf
  obtain ⟨H, hH⟩ : ∃ H : Heap, H = s.heap := ⟨_, rfl⟩
  obtain ⟨locs, hlocs⟩ : ∃ L : List Loc, L = [] := ⟨_, rfl⟩
  have hP : va_P (dC, dI) vwCl (uw_Surroundings ad_ar cA_ar ar) H := by rw [hH]; exact hP
  have hS : va_S A s.heap H locs := by rw [hH, hlocs]; exact hS
  show W p l e (headSpec w_Surroundings_turn ({ frames := 0, cells := 0, slots := 0, locals := 0 })).room s m ([.ref (ad_ar 0), .int x1, .int x2, .int (bI x3)] : List Value).toArray below meth c s.heap [] 0 0 Q (F0 m 0 ls [])
  suffices hgo : W p l e (headSpec w_Surroundings_turn ({ frames := 0, cells := 0, slots := 0, locals := 0 })).room s m ([.ref (ad_ar 0), .int x1, .int x2, .int (bI x3)] : List Value).toArray below meth c H locs 0 0 Q (F0 m 0 ls []) by rw [hH, hlocs] at hgo; exact hgo
  clear hH hlocs
  refine lv_aload_n hx hb d_Surroundings_turn_0 rfl (lv_at hl 0 rfl) ?_
  refine lv_iload_n hx hb d_Surroundings_turn_1 rfl (lv_at hl 1 rfl) ?_
  refine va_put (D := (dC, dI)) (ci := 3) (v := .int x1) (ty := .int) (C := "HazardTables$Surroundings") (T := F_Surroundings) (N := 8) hx hb hts hin_Surroundings t_Surroundings t_Surroundings_ok n_Surroundings hown hK hP hD hS 0 rfl rfl 5 (by decide) fl_21 (fun _ h9 => h9) rfl (by decide +kernel) rfl rfl (Nat.le_of_ble_eq_true rfl) d_Surroundings_turn_2 (fun H locs hP hD hS => ?_)
  have hP : va_P (dC, dI) vwCl (uw_Surroundings ad_ar cA_ar (ar.1, ar.2.1, ar.2.2.1, ar.2.2.2.1, ar.2.2.2.2.1, x1, ar.2.2.2.2.2.2.1, ar.2.2.2.2.2.2.2)) H := hP
  have hD : va_D A (uw_Surroundings ad_ar cA_ar (ar.1, ar.2.1, ar.2.2.1, ar.2.2.2.1, ar.2.2.2.2.1, x1, ar.2.2.2.2.2.2.1, ar.2.2.2.2.2.2.2)) := hD
  refine lv_aload_n hx hb d_Surroundings_turn_5 rfl (lv_at hl 0 rfl) ?_
  refine lv_iload_n hx hb d_Surroundings_turn_6 rfl (lv_at hl 2 rfl) ?_
  refine va_put (D := (dC, dI)) (ci := 3) (v := .int x2) (ty := .int) (C := "HazardTables$Surroundings") (T := F_Surroundings) (N := 8) hx hb hts hin_Surroundings t_Surroundings t_Surroundings_ok n_Surroundings hown hK hP hD hS 0 rfl rfl 6 (by decide) fl_25 (fun _ h9 => h9) rfl (by decide +kernel) rfl rfl (Nat.le_of_ble_eq_true rfl) d_Surroundings_turn_7 (fun H locs hP hD hS => ?_)
  have hP : va_P (dC, dI) vwCl (uw_Surroundings ad_ar cA_ar (ar.1, ar.2.1, ar.2.2.1, ar.2.2.2.1, ar.2.2.2.2.1, x1, x2, ar.2.2.2.2.2.2.2)) H := hP
  have hD : va_D A (uw_Surroundings ad_ar cA_ar (ar.1, ar.2.1, ar.2.2.1, ar.2.2.2.1, ar.2.2.2.2.1, x1, x2, ar.2.2.2.2.2.2.2)) := hD
  refine lv_aload_n hx hb d_Surroundings_turn_10 rfl (lv_at hl 0 rfl) ?_
  refine lv_iload_n hx hb d_Surroundings_turn_11 rfl (lv_at hl 3 rfl) ?_
  refine va_put (D := (dC, dI)) (ci := 3) (v := .int (bI x3)) (ty := .boolean) (C := "HazardTables$Surroundings") (T := F_Surroundings) (N := 8) hx hb hts hin_Surroundings t_Surroundings t_Surroundings_ok n_Surroundings hown hK hP hD hS 0 rfl rfl 7 (by decide) fl_28 (fun _ h9 => h9) rfl (by decide +kernel) (nar_bI x3) (fit_bI x3) (Nat.le_of_ble_eq_true rfl) d_Surroundings_turn_12 (fun H locs hP hD hS => ?_)
  have hP : va_P (dC, dI) vwCl (uw_Surroundings ad_ar cA_ar (ar.1, ar.2.1, ar.2.2.1, ar.2.2.2.1, ar.2.2.2.2.1, x1, x2, x3)) H := hP
  have hD : va_D A (uw_Surroundings ad_ar cA_ar (ar.1, ar.2.1, ar.2.2.1, ar.2.2.2.1, ar.2.2.2.2.1, x1, x2, x3)) := hD
  exact ret  (ar.1, ar.2.1, ar.2.2.1, ar.2.2.2.1, ar.2.2.2.2.1, x1, x2, x3) H locs ls 15 d_Surroundings_turn_15 (Option.some.inj hf) hP hD hS
noncomputable def f_Surroundings_reaches (x0 : Int32) (x1 : Int32) (x2 : Int32) (x3 : Int32) (x4 : Int32) : Option (Bool) :=
  (if x2 < 0 then
    (some (false))
   else
    (if ((x3 * x3) + (x4 * x4)) ≤ (x2 * x2) then
      (if ((x0 * x3) + (x1 * x4)) < (if 0 ≤ ((x0 * x4) - (x1 * x3)) then ((x0 * x4) - (x1 * x3)) else 0 - ((x0 * x4) - (x1 * x3))) then
        (some (false))
       else
        (some (true))
       )
     else
      (some (false))
     )
   )
set_option maxHeartbeats 4000000 in
set_option maxRecDepth 100000 in
theorem k_Surroundings_reaches (l : Launch) (dC : Nat → ClassId) (dI : Nat → Nat → Nat)  (sz : Nat) (x0 : Int32) (x1 : Int32) (x2 : Int32) (x3 : Int32) (x4 : Int32) (res : Bool) (hf : f_Surroundings_reaches x0 x1 x2 x3 x4 = some res) : Met l y_Surroundings_reaches w_Surroundings_reaches ({ frames := 1, cells := 0, slots := 0, locals := 21 }) (cPc (dC, dI) [] [] sz [.int x0, .int x1, .int x2, .int x3, .int x4]) (va_Qi (fun (r : Int32) (u : Unit) => r = bI res) (fun (u : Unit) (t : State) => va_P (dC, dI) vwCl [] t.heap ∧ va_K (dC, dI) vwCl [] t ∧ va_D (va_A [] sz) []) (va_A [] sz)) 0 0 (va_A [] sz) := by
  refine Met.ofW (cc := b_Surroundings_reaches) (maxL := 7) (ret := (some .boolean)) (by decide) rfl ?_
  intro p e s m args below meth c s₁ B hml hv
  obtain ⟨rfl, hsz, hP, hK, hD0, hN⟩ := hv
  have hx := B.exec
  have hb := B.bytes
  have hr := B.returns
  have hts := atoms_spec (ws := w_Surroundings_reaches) B.pre
  have hown : s.vm.findClass "HazardTables$Surroundings" = some m.cls := findClass_of_methodNamed B.named
  have hlocks := B.notSynchronized
  subst hsz
  have hD := hD0.self (sz := s.heap.size)
  generalize hAe : va_A [] s.heap.size = A at hD ⊢
  have hA : ∀ q : Nat, s.heap.size ≤ q → A q := fun q h => by rw [← hAe]; exact Or.inr h
  have hS : va_S A s.heap s.heap [] := va_S.rf
  have hP : va_P (dC, dI) vwCl [] s.heap := hP
  have ret : ∀ (v : Bool) (u : Unit) (H : Heap) (locs : List Loc) (ls : Array Slot) (pc : Nat), decode b_Surroundings_reaches pc = .ok (.ireturn, 1) → (v = res) → va_P (dC, dI) vwCl [] H → va_D A [] → va_S A s.heap H locs → W p l e (headSpec w_Surroundings_reaches ({ frames := 1, cells := 0, slots := 0, locals := 21 })).room s m ([.int x0, .int x1, .int x2, .int x3, .int x4] : List Value).toArray below meth c H locs 0 0 (MQ below (va_Qi (fun (r : Int32) (u : Unit) => r = bI res) (fun (u : Unit) (t : State) => va_P (dC, dI) vwCl [] t.heap ∧ va_K (dC, dI) vwCl [] t ∧ va_D A []) A) ([.int x0, .int x1, .int x2, .int x3, .int x4] : List Value).toArray s 0 0 A) (F0 m pc ls [.int (bI v)]) := fun v u H locs ls pc hd hp hP hD hS => W.zret (v := bI v) (ty := .boolean) hx hb hr (nar_bI v) (fun t ht hW => ⟨⟨bI v, u, rfl, (by rw [hp]), by rw [ht]; exact hP, va_K.moved hW.alike hK, hD⟩, hS.F ht⟩) hS.2.2 hd
  generalize (MQ below (va_Qi (fun (r : Int32) (u : Unit) => r = bI res) (fun (u : Unit) (t : State) => va_P (dC, dI) vwCl [] t.heap ∧ va_K (dC, dI) vwCl [] t ∧ va_D A []) A) ([.int x0, .int x1, .int x2, .int x3, .int x4] : List Value).toArray s 0 0 A) = Q at ret ⊢
  have hl := lv_entry ([.int x0, .int x1, .int x2, .int x3, .int x4]) (n := 7) (Nat.le_of_ble_eq_true rfl)
  rw [lg_entry_eq]
  generalize (lg_sl ([.int x0, .int x1, .int x2, .int x3, .int x4]) ++ List.replicate (7 - (lg_sl ([.int x0, .int x1, .int x2, .int x3, .int x4])).length) Slot.unset).toArray = ls at hl ⊢
  have hl : lv_has ls 7 [(0, .int x0), (1, .int x1), (2, .int x2), (3, .int x3), (4, .int x4)] := hl
  have hf := hf
  rw [f_Surroundings_reaches] at hf
  obtain ⟨H, hH⟩ : ∃ H : Heap, H = s.heap := ⟨_, rfl⟩
  obtain ⟨locs, hlocs⟩ : ∃ L : List Loc, L = [] := ⟨_, rfl⟩
  have hP : va_P (dC, dI) vwCl [] H := by rw [hH]; exact hP
  have hS : va_S A s.heap H locs := by rw [hH, hlocs]; exact hS
  show W p l e (headSpec w_Surroundings_reaches ({ frames := 1, cells := 0, slots := 0, locals := 21 })).room s m ([.int x0, .int x1, .int x2, .int x3, .int x4] : List Value).toArray below meth c s.heap [] 0 0 Q (F0 m 0 ls [])
  suffices hgo : W p l e (headSpec w_Surroundings_reaches ({ frames := 1, cells := 0, slots := 0, locals := 21 })).room s m ([.int x0, .int x1, .int x2, .int x3, .int x4] : List Value).toArray below meth c H locs 0 0 Q (F0 m 0 ls []) by rw [hH, hlocs] at hgo; exact hgo
  clear hH hlocs
  refine lv_iload_n hx hb d_Surroundings_reaches_0 rfl (lv_at hl 2 rfl) ?_
  refine lv_if_lt (tgt := 19) hx hb d_Surroundings_reaches_1 (by decide) (fun hc1 => ?_) (fun hc1 => ?_)
  · have hf := hf_t hf hc1
    refine lv_iconst (v := (0 : Int32)) hx hb d_Surroundings_reaches_19 (by decide) ?_
    exact ret false () H locs ls 20 d_Surroundings_reaches_20 (Option.some.inj hf) hP hD hS
  · have hf := hf_f hf hc1
    refine lv_iload_n hx hb d_Surroundings_reaches_4 rfl (lv_at hl 3 rfl) ?_
    refine lv_iload_n hx hb d_Surroundings_reaches_5 rfl (lv_at hl 3 rfl) ?_
    refine lv_imul hx hb d_Surroundings_reaches_6 ?_
    refine lv_iload hx hb d_Surroundings_reaches_7 (lv_at hl 4 rfl) ?_
    refine lv_iload hx hb d_Surroundings_reaches_9 (lv_at hl 4 rfl) ?_
    refine lv_imul hx hb d_Surroundings_reaches_11 ?_
    refine lv_iadd hx hb d_Surroundings_reaches_12 ?_
    refine lv_iload_n hx hb d_Surroundings_reaches_13 rfl (lv_at hl 2 rfl) ?_
    refine lv_iload_n hx hb d_Surroundings_reaches_14 rfl (lv_at hl 2 rfl) ?_
    refine lv_imul hx hb d_Surroundings_reaches_15 ?_
    refine lv_icmp_le (tgt := 21) hx hb d_Surroundings_reaches_16 (by decide) (fun hc2 => ?_) (fun hc2 => ?_)
    · have hf := hf_t hf hc2
      refine lv_iload_n hx hb d_Surroundings_reaches_21 rfl (lv_at hl 0 rfl) ?_
      refine lv_iload_n hx hb d_Surroundings_reaches_22 rfl (lv_at hl 3 rfl) ?_
      refine lv_imul hx hb d_Surroundings_reaches_23 ?_
      refine lv_iload_n hx hb d_Surroundings_reaches_24 rfl (lv_at hl 1 rfl) ?_
      refine lv_iload hx hb d_Surroundings_reaches_25 (lv_at hl 4 rfl) ?_
      refine lv_imul hx hb d_Surroundings_reaches_27 ?_
      refine lv_iadd hx hb d_Surroundings_reaches_28 ?_
      refine lv_istore (lv' := [(5, .int ((x0 * x3) + (x1 * x4))), (0, .int x0), (1, .int x1), (2, .int x2), (3, .int x3), (4, .int x4)]) hx hb d_Surroundings_reaches_29 hl (by decide) rfl (fun ls hl => ?_)
      refine lv_iload_n hx hb d_Surroundings_reaches_31 rfl (lv_at hl 1 rfl) ?_
      refine lv_iload hx hb d_Surroundings_reaches_32 (lv_at hl 5 rfl) ?_
      refine lv_imul hx hb d_Surroundings_reaches_34 ?_
      refine lv_iload_n hx hb d_Surroundings_reaches_35 rfl (lv_at hl 2 rfl) ?_
      refine lv_iload_n hx hb d_Surroundings_reaches_36 rfl (lv_at hl 4 rfl) ?_
      refine lv_imul hx hb d_Surroundings_reaches_37 ?_
      refine lv_isub hx hb d_Surroundings_reaches_38 ?_
      refine lv_istore (lv' := [(6, .int ((x0 * x4) - (x1 * x3))), (5, .int ((x0 * x3) + (x1 * x4))), (0, .int x0), (1, .int x1), (2, .int x2), (3, .int x3), (4, .int x4)]) hx hb d_Surroundings_reaches_39 hl (by decide) rfl (fun ls hl => ?_)
      refine lv_iload hx hb d_Surroundings_reaches_41 (lv_at hl 1 rfl) ?_
      refine lv_iload hx hb d_Surroundings_reaches_43 (lv_at hl 0 rfl) ?_
      refine va_mabs hx hb (hml.trans hl.1.symm) hown (hts _ (List.mem_cons_of_mem _ wd_683)) (hts _ (List.mem_cons_of_mem _ wd_684)) (hts _ (List.mem_cons_of_mem _ wd_57)) (hts _ (List.mem_cons_of_mem _ wd_685)) (Nat.le_of_ble_eq_true rfl) (Nat.le_of_ble_eq_true rfl) (Nat.le_of_ble_eq_true rfl) (Nat.le_of_ble_eq_true rfl) d_Surroundings_reaches_45 ?_
      refine lv_icmp_lt (tgt := 55) hx hb d_Surroundings_reaches_48 (by decide) (fun hc3 => ?_) (fun hc3 => ?_)
      · have hf := hf_t hf hc3
        refine lv_iconst (v := (0 : Int32)) hx hb d_Surroundings_reaches_55 (by decide) ?_
        exact ret false () H locs ls 56 d_Surroundings_reaches_56 (Option.some.inj hf) hP hD hS
      · have hf := hf_f hf hc3
        refine lv_iconst (v := (1 : Int32)) hx hb d_Surroundings_reaches_51 (by decide) ?_
        refine lv_goto (tgt := 56) hx hb d_Surroundings_reaches_52 (by decide) ?_
        exact ret true () H locs ls 56 d_Surroundings_reaches_56 (Option.some.inj hf) hP hD hS
    · have hf := hf_f hf hc2
      refine lv_iconst (v := (0 : Int32)) hx hb d_Surroundings_reaches_19 (by decide) ?_
      exact ret false () H locs ls 20 d_Surroundings_reaches_20 (Option.some.inj hf) hP hD hS
noncomputable def f_Surroundings_covers (ar : SSurroundings) (x1 : Int32) (x2 : Int32) (x3 : Int32) : Option (Bool) :=
  (Option.bind (f_Surroundings_reaches ar.2.2.2.2.2.1 ar.2.2.2.2.2.2.1 x3 x1 x2) fun u1 =>
    (some (u1))
   )
set_option maxHeartbeats 4000000 in
set_option maxRecDepth 100000 in
theorem k_Surroundings_covers (l : Launch) (dC : Nat → ClassId) (dI : Nat → Nat → Nat) (ad_ar : Nat → Nat) (cA_ar : Nat → ClassId) (sz : Nat) (ar : SSurroundings) (x1 : Int32) (x2 : Int32) (x3 : Int32) (res : Bool) (hf : f_Surroundings_covers ar x1 x2 x3 = some res) : Met l y_Surroundings_covers w_Surroundings_covers ({ frames := 2, cells := 0, slots := 0, locals := 47 }) (cPc (dC, dI) (uw_Surroundings ad_ar cA_ar ar) [(cA_ar 1, .int), (cA_ar 2, .int), (cA_ar 3, .int)] sz [.ref (ad_ar 0), .int x1, .int x2, .int x3]) (va_Qi (fun (r : Int32) (u : Unit) => r = bI res) (fun (u : Unit) (t : State) => va_P (dC, dI) vwCl (uw_Surroundings ad_ar cA_ar ar) t.heap ∧ va_K (dC, dI) vwCl [(cA_ar 1, .int), (cA_ar 2, .int), (cA_ar 3, .int)] t ∧ va_D (va_A (uw_Surroundings ad_ar cA_ar ar) sz) (uw_Surroundings ad_ar cA_ar ar)) (va_A (uw_Surroundings ad_ar cA_ar ar) sz)) 0 0 (va_A (uw_Surroundings ad_ar cA_ar ar) sz) := by
  refine Met.ofW (cc := b_Surroundings_covers) (maxL := 4) (ret := (some .boolean)) (by decide) rfl ?_
  intro p e s m args below meth c s₁ B hml hv
  obtain ⟨rfl, hsz, hP, hK, hD0, hN⟩ := hv
  have hx := B.exec
  have hb := B.bytes
  have hr := B.returns
  have hts := atoms_spec (ws := w_Surroundings_covers) B.pre
  have hown : s.vm.findClass "HazardTables$Surroundings" = some m.cls := findClass_of_methodNamed B.named
  have hlocks := B.notSynchronized
  subst hsz
  have hD := hD0.self (sz := s.heap.size)
  generalize hAe : va_A (uw_Surroundings ad_ar cA_ar ar) s.heap.size = A at hD ⊢
  have hA : ∀ q : Nat, s.heap.size ≤ q → A q := fun q h => by rw [← hAe]; exact Or.inr h
  have hS : va_S A s.heap s.heap [] := va_S.rf
  have hP : va_P (dC, dI) vwCl (uw_Surroundings ad_ar cA_ar ar) s.heap := hP
  have fl_21 := (hts _ (List.mem_cons_of_mem _ wd_152))
  have fl_25 := (hts _ (List.mem_cons_of_mem _ wd_153))
  have hin_Surroundings : ∀ w ∈ u_ws "HazardTables$Surroundings" F_Surroundings 8, w ∈ w_Surroundings_covers := fun w h => List.mem_cons_of_mem _ (hinA_Surroundings w h)
  have ret : ∀ (v : Bool) (u : Unit) (H : Heap) (locs : List Loc) (ls : Array Slot) (pc : Nat), decode b_Surroundings_covers pc = .ok (.ireturn, 1) → (v = res) → va_P (dC, dI) vwCl (uw_Surroundings ad_ar cA_ar ar) H → va_D A (uw_Surroundings ad_ar cA_ar ar) → va_S A s.heap H locs → W p l e (headSpec w_Surroundings_covers ({ frames := 2, cells := 0, slots := 0, locals := 47 })).room s m ([.ref (ad_ar 0), .int x1, .int x2, .int x3] : List Value).toArray below meth c H locs 0 0 (MQ below (va_Qi (fun (r : Int32) (u : Unit) => r = bI res) (fun (u : Unit) (t : State) => va_P (dC, dI) vwCl (uw_Surroundings ad_ar cA_ar ar) t.heap ∧ va_K (dC, dI) vwCl [(cA_ar 1, .int), (cA_ar 2, .int), (cA_ar 3, .int)] t ∧ va_D A (uw_Surroundings ad_ar cA_ar ar)) A) ([.ref (ad_ar 0), .int x1, .int x2, .int x3] : List Value).toArray s 0 0 A) (F0 m pc ls [.int (bI v)]) := fun v u H locs ls pc hd hp hP hD hS => W.zret (v := bI v) (ty := .boolean) hx hb hr (nar_bI v) (fun t ht hW => ⟨⟨bI v, u, rfl, (by rw [hp]), by rw [ht]; exact hP, va_K.moved hW.alike hK, hD⟩, hS.F ht⟩) hS.2.2 hd
  generalize (MQ below (va_Qi (fun (r : Int32) (u : Unit) => r = bI res) (fun (u : Unit) (t : State) => va_P (dC, dI) vwCl (uw_Surroundings ad_ar cA_ar ar) t.heap ∧ va_K (dC, dI) vwCl [(cA_ar 1, .int), (cA_ar 2, .int), (cA_ar 3, .int)] t ∧ va_D A (uw_Surroundings ad_ar cA_ar ar)) A) ([.ref (ad_ar 0), .int x1, .int x2, .int x3] : List Value).toArray s 0 0 A) = Q at ret ⊢
  have hl := lv_entry ([.ref (ad_ar 0), .int x1, .int x2, .int x3]) (n := 4) (Nat.le_of_ble_eq_true rfl)
  rw [lg_entry_eq]
  generalize (lg_sl ([.ref (ad_ar 0), .int x1, .int x2, .int x3]) ++ List.replicate (4 - (lg_sl ([.ref (ad_ar 0), .int x1, .int x2, .int x3])).length) Slot.unset).toArray = ls at hl ⊢
  have hl : lv_has ls 4 [(0, .ref (ad_ar 0)), (1, .int x1), (2, .int x2), (3, .int x3)] := hl
  have hf := hf
  rw [f_Surroundings_covers] at hf
  obtain ⟨H, hH⟩ : ∃ H : Heap, H = s.heap := ⟨_, rfl⟩
  obtain ⟨locs, hlocs⟩ : ∃ L : List Loc, L = [] := ⟨_, rfl⟩
  have hP : va_P (dC, dI) vwCl (uw_Surroundings ad_ar cA_ar ar) H := by rw [hH]; exact hP
  have hS : va_S A s.heap H locs := by rw [hH, hlocs]; exact hS
  show W p l e (headSpec w_Surroundings_covers ({ frames := 2, cells := 0, slots := 0, locals := 47 })).room s m ([.ref (ad_ar 0), .int x1, .int x2, .int x3] : List Value).toArray below meth c s.heap [] 0 0 Q (F0 m 0 ls [])
  suffices hgo : W p l e (headSpec w_Surroundings_covers ({ frames := 2, cells := 0, slots := 0, locals := 47 })).room s m ([.ref (ad_ar 0), .int x1, .int x2, .int x3] : List Value).toArray below meth c H locs 0 0 Q (F0 m 0 ls []) by rw [hH, hlocs] at hgo; exact hgo
  clear hH hlocs
  refine lv_aload_n hx hb d_Surroundings_covers_0 rfl (lv_at hl 0 rfl) ?_
  refine va_get (D := (dC, dI)) (ci := 3) (v := .int ar.2.2.2.2.2.1) (C := "HazardTables$Surroundings") (T := F_Surroundings) (N := 8) hx hb hts hin_Surroundings hown hK hP 0 rfl rfl 5 (by decide) fl_21 (fun _ h9 => h9) rfl d_Surroundings_covers_1 ?_
  refine lv_aload_n hx hb d_Surroundings_covers_4 rfl (lv_at hl 0 rfl) ?_
  refine va_get (D := (dC, dI)) (ci := 3) (v := .int ar.2.2.2.2.2.2.1) (C := "HazardTables$Surroundings") (T := F_Surroundings) (N := 8) hx hb hts hin_Surroundings hown hK hP 0 rfl rfl 6 (by decide) fl_25 (fun _ h9 => h9) rfl d_Surroundings_covers_5 ?_
  refine lv_iload_n hx hb d_Surroundings_covers_8 rfl (lv_at hl 3 rfl) ?_
  refine lv_iload_n hx hb d_Surroundings_covers_9 rfl (lv_at hl 1 rfl) ?_
  refine lv_iload_n hx hb d_Surroundings_covers_10 rfl (lv_at hl 2 rfl) ?_
  obtain ⟨u1, hu1, hf⟩ := Option.bind_eq_some_iff.mp hf
  refine cl_i (wc := []) (wr := (uw_Surroundings ad_ar cA_ar ar)) (tysC := []) (wu := fun (u : Unit) => []) (wn := fun (u : Unit) => (uw_Surroundings ad_ar cA_ar ar)) [] [0, 1, 2, 3] [0, 1, 2, 3] [] hP hD hS hA hK rfl rfl (by decide +kernel) (by decide +kernel) (by decide +kernel) rfl (fun _ => rfl) (by decide +kernel) (fun hPc hKc hDc => (va_runS (As := [.int ar.2.2.2.2.2.1, .int ar.2.2.2.2.2.2.1, .int x3, .int x1, .int x2]) (rest := []) ⟨hx, hb, hml, hown, hts⟩ (k_Surroundings_reaches l dC dI  H.size ar.2.2.2.2.2.1 ar.2.2.2.2.2.2.1 x3 x1 x2 u1 hu1) (cwS 5 hts (gS wd_680 wd_681 wd_47 wd_682) rfl rfl rfl (by decide +kernel) ⟨Nat.le_of_ble_eq_true rfl, Nat.le_of_ble_eq_true rfl⟩) (cl_preS hPc hKc hDc hN) rfl rfl hl.1 rfl (lv_room (Nat.le_of_ble_eq_true rfl)) d_Surroundings_covers_11 ⟨Nat.le_of_ble_eq_true rfl, Nat.le_of_ble_eq_true rfl⟩)) (fun r u H locs hw hP hD hS => ?_)
  have hw := hw.symm
  subst hw
  have hP : va_P (dC, dI) vwCl (uw_Surroundings ad_ar cA_ar ar) H := hP
  have hD : va_D A (uw_Surroundings ad_ar cA_ar ar) := hD
  exact ret u1 () H locs ls 14 d_Surroundings_covers_14 (Option.some.inj hf) hP hD hS
noncomputable def f_Surroundings_gather_8  : Nat → SSurroundings → Int32 → Int32 → Int32 → Int32 → Int32 → Option (SSurroundings)
  | 0, _, _, _, _, _, _ => none
  | n + 1, ar, y1, y2, y3, y4, y5 =>
    (if ar.2.2.2.1 ≤ y5 then
      (some ar)
     else
      (if (40 : Int32) ≤ y5 then
        (some ar)
       else
        (if inb y5 40 then
          (if inb y5 40 then
            (Option.bind (f_Surroundings_reaches y1 y2 y3 (ar.1 y5.toNatClampNeg) (ar.2.1 y5.toNatClampNeg)) fun u5 =>
              (if (bI u5) = 0 then
                (f_Surroundings_gather_8 n ar y1 y2 y3 y4 (y5 + (1 : Int32)))
               else
                (if inb y5 40 then
                  (if inb y5 40 then
                    (Option.bind (f_Surroundings_covers ar (ar.1 y5.toNatClampNeg) (ar.2.1 y5.toNatClampNeg) y4) fun u9 =>
                      (if (bI u9) = 0 then
                        (if (40 : Int32) ≤ ar.2.2.2.2.1 then
                          (f_Surroundings_gather_8 n ar y1 y2 y3 y4 (y5 + (1 : Int32)))
                         else
                          (if inb ar.2.2.2.2.1 40 then
                            (f_Surroundings_gather_8 n (ar.1, ar.2.1, upd ar.2.2.1 ar.2.2.2.2.1.toNatClampNeg y5, ar.2.2.2.1, ar.2.2.2.2.1 + (1 : Int32), ar.2.2.2.2.2.1, ar.2.2.2.2.2.2.1, ar.2.2.2.2.2.2.2) y1 y2 y3 y4 (y5 + (1 : Int32)))
                           else none)
                         )
                       else
                        (f_Surroundings_gather_8 n ar y1 y2 y3 y4 (y5 + (1 : Int32)))
                       )
                     )
                   else none)
                 else none)
               )
             )
           else none)
         else none)
       )
     )
noncomputable def f_Surroundings_gather (ar : SSurroundings) (x1 : Int32) (x2 : Int32) (x3 : Int32) (x4 : Int32) : Option (SSurroundings) :=
  (f_Surroundings_gather_8 4096 (ar.1, ar.2.1, ar.2.2.1, ar.2.2.2.1, (0 : Int32), ar.2.2.2.2.2.1, ar.2.2.2.2.2.2.1, ar.2.2.2.2.2.2.2) x1 x2 x3 x4 (0 : Int32))
set_option maxHeartbeats 4000000 in
set_option maxRecDepth 100000 in
theorem k_Surroundings_gather (l : Launch) (dC : Nat → ClassId) (dI : Nat → Nat → Nat) (ad_ar : Nat → Nat) (cA_ar : Nat → ClassId) (sz : Nat) (ar : SSurroundings) (x1 : Int32) (x2 : Int32) (x3 : Int32) (x4 : Int32) (res : SSurroundings) (hf : f_Surroundings_gather ar x1 x2 x3 x4 = some res) : Met l y_Surroundings_gather w_Surroundings_gather ({ frames := 3, cells := 0, slots := 0, locals := 70 }) (cPc (dC, dI) (uw_Surroundings ad_ar cA_ar ar) [(cA_ar 1, .int), (cA_ar 2, .int), (cA_ar 3, .int)] sz [.ref (ad_ar 0), .int x1, .int x2, .int x3, .int x4]) (va_Qv (fun (u : SSurroundings) => u = res) (fun (u : SSurroundings) (t : State) => va_P (dC, dI) vwCl (uw_Surroundings ad_ar cA_ar u) t.heap ∧ va_K (dC, dI) vwCl [(cA_ar 1, .int), (cA_ar 2, .int), (cA_ar 3, .int)] t ∧ va_D (va_A (uw_Surroundings ad_ar cA_ar ar) sz) (uw_Surroundings ad_ar cA_ar u)) (va_A (uw_Surroundings ad_ar cA_ar ar) sz)) 0 0 (va_A (uw_Surroundings ad_ar cA_ar ar) sz) := by
  refine Met.ofW (cc := b_Surroundings_gather) (maxL := 7) (ret := none) (by decide) rfl ?_
  intro p e s m args below meth c s₁ B hml hv
  obtain ⟨rfl, hsz, hP, hK, hD0, hN⟩ := hv
  have hx := B.exec
  have hb := B.bytes
  have hr := B.returns
  have hts := atoms_spec (ws := w_Surroundings_gather) B.pre
  have hown : s.vm.findClass "HazardTables$Surroundings" = some m.cls := findClass_of_methodNamed B.named
  have hlocks := B.notSynchronized
  subst hsz
  have hD := hD0.self (sz := s.heap.size)
  generalize hAe : va_A (uw_Surroundings ad_ar cA_ar ar) s.heap.size = A at hD ⊢
  have hA : ∀ q : Nat, s.heap.size ≤ q → A q := fun q h => by rw [← hAe]; exact Or.inr h
  have hS : va_S A s.heap s.heap [] := va_S.rf
  have hP : va_P (dC, dI) vwCl (uw_Surroundings ad_ar cA_ar ar) s.heap := hP
  have fl_11 := (hts _ (List.mem_cons_of_mem _ wd_146))
  have fl_15 := (hts _ (List.mem_cons_of_mem _ wd_147))
  have fl_18 := (hts _ (List.mem_cons_of_mem _ wd_148))
  have fl_32 := (hts _ (List.mem_cons_of_mem _ wd_149))
  have fl_39 := (hts _ (List.mem_cons_of_mem _ wd_150))
  have hin_Surroundings : ∀ w ∈ u_ws "HazardTables$Surroundings" F_Surroundings 8, w ∈ w_Surroundings_gather := fun w h => List.mem_cons_of_mem _ (hinA_Surroundings w h)
  have ret : ∀ (u : SSurroundings) (H : Heap) (locs : List Loc) (ls : Array Slot) (pc : Nat), decode b_Surroundings_gather pc = .ok (.return_, 1) → u = res → va_P (dC, dI) vwCl (uw_Surroundings ad_ar cA_ar u) H → va_D A (uw_Surroundings ad_ar cA_ar u) → va_S A s.heap H locs → W p l e (headSpec w_Surroundings_gather ({ frames := 3, cells := 0, slots := 0, locals := 70 })).room s m ([.ref (ad_ar 0), .int x1, .int x2, .int x3, .int x4] : List Value).toArray below meth c H locs 0 0 (MQ below (va_Qv (fun (u : SSurroundings) => u = res) (fun (u : SSurroundings) (t : State) => va_P (dC, dI) vwCl (uw_Surroundings ad_ar cA_ar u) t.heap ∧ va_K (dC, dI) vwCl [(cA_ar 1, .int), (cA_ar 2, .int), (cA_ar 3, .int)] t ∧ va_D A (uw_Surroundings ad_ar cA_ar u)) A) ([.ref (ad_ar 0), .int x1, .int x2, .int x3, .int x4] : List Value).toArray s 0 0 A) (F0 m pc ls []) := fun u H locs ls pc hd hp hP hD hS => W.vret hx hb hr (fun t ht hW => ⟨⟨u, rfl, hp, by rw [ht]; exact hP, va_K.moved hW.alike hK, hD⟩, hS.F ht⟩) hS.2.2 hd
  generalize (MQ below (va_Qv (fun (u : SSurroundings) => u = res) (fun (u : SSurroundings) (t : State) => va_P (dC, dI) vwCl (uw_Surroundings ad_ar cA_ar u) t.heap ∧ va_K (dC, dI) vwCl [(cA_ar 1, .int), (cA_ar 2, .int), (cA_ar 3, .int)] t ∧ va_D A (uw_Surroundings ad_ar cA_ar u)) A) ([.ref (ad_ar 0), .int x1, .int x2, .int x3, .int x4] : List Value).toArray s 0 0 A) = Q at ret ⊢
  have w_8 : ∀ (n : Nat) (ar : SSurroundings) (y1 : Int32) (y2 : Int32) (y3 : Int32) (y4 : Int32) (y5 : Int32) (H : Heap) (locs : List Loc) (ls : Array Slot), f_Surroundings_gather_8 n ar y1 y2 y3 y4 y5 = some res → va_P (dC, dI) vwCl (uw_Surroundings ad_ar cA_ar ar) H → va_D A (uw_Surroundings ad_ar cA_ar ar) → va_S A s.heap H locs → lv_has ls 7 [(0, .ref (ad_ar 0)), (1, .int y1), (2, .int y2), (3, .int y3), (4, .int y4), (5, .int y5)] → W p l e (headSpec w_Surroundings_gather ({ frames := 3, cells := 0, slots := 0, locals := 70 })).room s m ([.ref (ad_ar 0), .int x1, .int x2, .int x3, .int x4] : List Value).toArray below meth c H locs 0 0 Q (F0 m 8 ls []) := by
    intro n
    induction n with
    | zero =>
      intro ar y1 y2 y3 y4 y5 H locs ls hf hP hD hS hl
      rw [f_Surroundings_gather_8] at hf; cases hf
    | succ n ih =>
      intro ar y1 y2 y3 y4 y5 H locs ls hf hP hD hS hl
      rw [f_Surroundings_gather_8] at hf
      refine lv_iload hx hb d_Surroundings_gather_8 (lv_at hl 5 rfl) ?_
      refine lv_aload_n hx hb d_Surroundings_gather_10 rfl (lv_at hl 0 rfl) ?_
      refine va_get (D := (dC, dI)) (ci := 3) (v := .int ar.2.2.2.1) (C := "HazardTables$Surroundings") (T := F_Surroundings) (N := 8) hx hb hts hin_Surroundings hown hK hP 0 rfl rfl 3 (by decide) fl_32 (fun _ h9 => h9) rfl d_Surroundings_gather_11 ?_
      refine lv_icmp_ge (tgt := 110) hx hb d_Surroundings_gather_14 (by decide) (fun hc1 => ?_) (fun hc1 => ?_)
      · have hf := hf_t hf hc1
        exact ret  ar H locs ls 110 d_Surroundings_gather_110 (Option.some.inj hf) hP hD hS
      · have hf := hf_f hf hc1
        refine lv_iload hx hb d_Surroundings_gather_17 (lv_at hl 5 rfl) ?_
        refine lv_bipush (v := (40 : Int32)) hx hb d_Surroundings_gather_19 (by decide) ?_
        refine lv_icmp_ge (tgt := 110) hx hb d_Surroundings_gather_21 (by decide) (fun hc2 => ?_) (fun hc2 => ?_)
        · have hf := hf_t hf hc2
          exact ret  ar H locs ls 110 d_Surroundings_gather_110 (Option.some.inj hf) hP hD hS
        · have hf := hf_f hf hc2
          refine lv_iload_n hx hb d_Surroundings_gather_24 rfl (lv_at hl 1 rfl) ?_
          refine lv_iload_n hx hb d_Surroundings_gather_25 rfl (lv_at hl 2 rfl) ?_
          refine lv_iload_n hx hb d_Surroundings_gather_26 rfl (lv_at hl 3 rfl) ?_
          refine lv_aload_n hx hb d_Surroundings_gather_27 rfl (lv_at hl 0 rfl) ?_
          refine va_get (D := (dC, dI)) (ci := 3) (v := .ref (ad_ar 1)) (C := "HazardTables$Surroundings") (T := F_Surroundings) (N := 8) hx hb hts hin_Surroundings hown hK hP 0 rfl rfl 0 (by decide) fl_11 (fun _ h9 => h9) rfl d_Surroundings_gather_28 ?_
          refine lv_iload hx hb d_Surroundings_gather_31 (lv_at hl 5 rfl) ?_
          obtain ⟨hi3, hf⟩ := hf_g hf
          refine va_iald hx hb hK hP 1 0 rfl rfl hi3 d_Surroundings_gather_33 ?_
          refine lv_aload_n hx hb d_Surroundings_gather_34 rfl (lv_at hl 0 rfl) ?_
          refine va_get (D := (dC, dI)) (ci := 3) (v := .ref (ad_ar 2)) (C := "HazardTables$Surroundings") (T := F_Surroundings) (N := 8) hx hb hts hin_Surroundings hown hK hP 0 rfl rfl 1 (by decide) fl_15 (fun _ h9 => h9) rfl d_Surroundings_gather_35 ?_
          refine lv_iload hx hb d_Surroundings_gather_38 (lv_at hl 5 rfl) ?_
          obtain ⟨hi4, hf⟩ := hf_g hf
          refine va_iald hx hb hK hP 2 1 rfl rfl hi4 d_Surroundings_gather_40 ?_
          obtain ⟨u5, hu5, hf⟩ := Option.bind_eq_some_iff.mp hf
          refine cl_i (wc := []) (wr := (uw_Surroundings ad_ar cA_ar ar)) (tysC := []) (wu := fun (u : Unit) => []) (wn := fun (u : Unit) => (uw_Surroundings ad_ar cA_ar ar)) [] [0, 1, 2, 3] [0, 1, 2, 3] [] hP hD hS hA hK rfl rfl (by decide +kernel) (by decide +kernel) (by decide +kernel) rfl (fun _ => rfl) (by decide +kernel) (fun hPc hKc hDc => (va_runS (As := [.int y1, .int y2, .int y3, .int (ar.1 y5.toNatClampNeg), .int (ar.2.1 y5.toNatClampNeg)]) (rest := []) ⟨hx, hb, hml, hown, hts⟩ (k_Surroundings_reaches l dC dI  H.size y1 y2 y3 (ar.1 y5.toNatClampNeg) (ar.2.1 y5.toNatClampNeg) u5 hu5) (cwS 5 hts (gS wd_680 wd_681 wd_47 wd_682) rfl rfl rfl (by decide +kernel) ⟨Nat.le_of_ble_eq_true rfl, Nat.le_of_ble_eq_true rfl⟩) (cl_preS hPc hKc hDc hN) rfl rfl hl.1 rfl (lv_room (Nat.le_of_ble_eq_true rfl)) d_Surroundings_gather_41 ⟨Nat.le_of_ble_eq_true rfl, Nat.le_of_ble_eq_true rfl⟩)) (fun r u H locs hw hP hD hS => ?_)
          have hw := hw.symm
          subst hw
          have hP : va_P (dC, dI) vwCl (uw_Surroundings ad_ar cA_ar ar) H := hP
          have hD : va_D A (uw_Surroundings ad_ar cA_ar ar) := hD
          refine lv_istore (lv' := [(6, .int (bI u5)), (0, .ref (ad_ar 0)), (1, .int y1), (2, .int y2), (3, .int y3), (4, .int y4), (5, .int y5)]) hx hb d_Surroundings_gather_44 hl (by decide) rfl (fun ls hl => ?_)
          refine lv_iload hx hb d_Surroundings_gather_46 (lv_at hl 0 rfl) ?_
          refine lv_if_eq (tgt := 104) hx hb d_Surroundings_gather_48 (by decide) (fun hc6 => ?_) (fun hc6 => ?_)
          · have hf := hf_t hf hc6
            refine lv_iinc (v := y5 + (1 : Int32)) (lv' := [(5, .int (y5 + (1 : Int32))), (6, .int (bI u5)), (0, .ref (ad_ar 0)), (1, .int y1), (2, .int y2), (3, .int y3), (4, .int y4)]) hx hb d_Surroundings_gather_104 hl (k := 6) rfl rfl (by decide) rfl (fun ls hl => ?_)
            refine lv_goto (tgt := 8) hx hb d_Surroundings_gather_107 (by decide) ?_
            exact ih ar y1 y2 y3 y4 (y5 + (1 : Int32)) H locs ls hf hP hD hS (lv_sub hl [2, 3, 4, 5, 6, 0] rfl)
          · have hf := hf_f hf hc6
            refine lv_aload_n hx hb d_Surroundings_gather_51 rfl (lv_at hl 1 rfl) ?_
            refine lv_aload_n hx hb d_Surroundings_gather_52 rfl (lv_at hl 1 rfl) ?_
            refine va_get (D := (dC, dI)) (ci := 3) (v := .ref (ad_ar 1)) (C := "HazardTables$Surroundings") (T := F_Surroundings) (N := 8) hx hb hts hin_Surroundings hown hK hP 0 rfl rfl 0 (by decide) fl_11 (fun _ h9 => h9) rfl d_Surroundings_gather_53 ?_
            refine lv_iload hx hb d_Surroundings_gather_56 (lv_at hl 6 rfl) ?_
            obtain ⟨hi7, hf⟩ := hf_g hf
            refine va_iald hx hb hK hP 1 0 rfl rfl hi7 d_Surroundings_gather_58 ?_
            refine lv_aload_n hx hb d_Surroundings_gather_59 rfl (lv_at hl 1 rfl) ?_
            refine va_get (D := (dC, dI)) (ci := 3) (v := .ref (ad_ar 2)) (C := "HazardTables$Surroundings") (T := F_Surroundings) (N := 8) hx hb hts hin_Surroundings hown hK hP 0 rfl rfl 1 (by decide) fl_15 (fun _ h9 => h9) rfl d_Surroundings_gather_60 ?_
            refine lv_iload hx hb d_Surroundings_gather_63 (lv_at hl 6 rfl) ?_
            obtain ⟨hi8, hf⟩ := hf_g hf
            refine va_iald hx hb hK hP 2 1 rfl rfl hi8 d_Surroundings_gather_65 ?_
            refine lv_iload hx hb d_Surroundings_gather_66 (lv_at hl 5 rfl) ?_
            obtain ⟨u9, hu9, hf⟩ := Option.bind_eq_some_iff.mp hf
            refine cl_i (wc := (uw_Surroundings ad_ar cA_ar ar)) (wr := []) (tysC := [(cA_ar 1, .int), (cA_ar 2, .int), (cA_ar 3, .int)]) (wu := fun (u : Unit) => (uw_Surroundings ad_ar cA_ar ar)) (wn := fun (u : Unit) => (uw_Surroundings ad_ar cA_ar ar)) [0, 1, 2, 3] [] [0, 1, 2, 3] [0, 1, 2] hP hD hS hA hK rfl rfl (by decide +kernel) (by decide +kernel) (by decide +kernel) rfl (fun _ => rfl) (by decide +kernel) (fun hPc hKc hDc => (va_runV (As := [.int (ar.1 y5.toNatClampNeg), .int (ar.2.1 y5.toNatClampNeg), .int y4]) (rest := []) ⟨hx, hb, hml, hown, hts⟩ (k_Surroundings_covers l dC dI ad_ar cA_ar H.size ar (ar.1 y5.toNatClampNeg) (ar.2.1 y5.toNatClampNeg) y4 u9 hu9) (cwV 3 hts (gV wd_686 wd_687 wd_688 wd_47 wd_689) rfl rfl rfl (by decide +kernel) ⟨Nat.le_of_ble_eq_true rfl, Nat.le_of_ble_eq_true rfl⟩) (cl_preV hPc hKc hDc hN (ci := 3) 0 rfl rfl) rfl rfl hl.1 rfl (lv_room (Nat.le_of_ble_eq_true rfl)) d_Surroundings_gather_68 ⟨Nat.le_of_ble_eq_true rfl, Nat.le_of_ble_eq_true rfl⟩)) (fun r u H locs hw hP hD hS => ?_)
            have hw := hw.symm
            subst hw
            have hP : va_P (dC, dI) vwCl (uw_Surroundings ad_ar cA_ar ar) H := hP
            have hD : va_D A (uw_Surroundings ad_ar cA_ar ar) := hD
            refine lv_if_ne (tgt := 104) hx hb d_Surroundings_gather_71 (by decide) (fun hc10 => ?_) (fun hc10 => ?_)
            · have hf := hf_f hf hc10
              refine lv_iinc (v := y5 + (1 : Int32)) (lv' := [(5, .int (y5 + (1 : Int32))), (6, .int (bI u5)), (0, .ref (ad_ar 0)), (1, .int y1), (2, .int y2), (3, .int y3), (4, .int y4)]) hx hb d_Surroundings_gather_104 hl (k := 6) rfl rfl (by decide) rfl (fun ls hl => ?_)
              refine lv_goto (tgt := 8) hx hb d_Surroundings_gather_107 (by decide) ?_
              exact ih ar y1 y2 y3 y4 (y5 + (1 : Int32)) H locs ls hf hP hD hS (lv_sub hl [2, 3, 4, 5, 6, 0] rfl)
            · have hf := hf_t hf hc10
              refine lv_aload_n hx hb d_Surroundings_gather_74 rfl (lv_at hl 1 rfl) ?_
              refine va_get (D := (dC, dI)) (ci := 3) (v := .int ar.2.2.2.2.1) (C := "HazardTables$Surroundings") (T := F_Surroundings) (N := 8) hx hb hts hin_Surroundings hown hK hP 0 rfl rfl 4 (by decide) fl_39 (fun _ h9 => h9) rfl d_Surroundings_gather_75 ?_
              refine lv_bipush (v := (40 : Int32)) hx hb d_Surroundings_gather_78 (by decide) ?_
              refine lv_icmp_ge (tgt := 104) hx hb d_Surroundings_gather_80 (by decide) (fun hc11 => ?_) (fun hc11 => ?_)
              · have hf := hf_t hf hc11
                refine lv_iinc (v := y5 + (1 : Int32)) (lv' := [(5, .int (y5 + (1 : Int32))), (6, .int (bI u5)), (0, .ref (ad_ar 0)), (1, .int y1), (2, .int y2), (3, .int y3), (4, .int y4)]) hx hb d_Surroundings_gather_104 hl (k := 6) rfl rfl (by decide) rfl (fun ls hl => ?_)
                refine lv_goto (tgt := 8) hx hb d_Surroundings_gather_107 (by decide) ?_
                exact ih ar y1 y2 y3 y4 (y5 + (1 : Int32)) H locs ls hf hP hD hS (lv_sub hl [2, 3, 4, 5, 6, 0] rfl)
              · have hf := hf_f hf hc11
                refine lv_aload_n hx hb d_Surroundings_gather_83 rfl (lv_at hl 1 rfl) ?_
                refine va_get (D := (dC, dI)) (ci := 3) (v := .ref (ad_ar 3)) (C := "HazardTables$Surroundings") (T := F_Surroundings) (N := 8) hx hb hts hin_Surroundings hown hK hP 0 rfl rfl 2 (by decide) fl_18 (fun _ h9 => h9) rfl d_Surroundings_gather_84 ?_
                refine lv_aload_n hx hb d_Surroundings_gather_87 rfl (lv_at hl 1 rfl) ?_
                refine va_get (D := (dC, dI)) (ci := 3) (v := .int ar.2.2.2.2.1) (C := "HazardTables$Surroundings") (T := F_Surroundings) (N := 8) hx hb hts hin_Surroundings hown hK hP 0 rfl rfl 4 (by decide) fl_39 (fun _ h9 => h9) rfl d_Surroundings_gather_88 ?_
                refine lv_iload hx hb d_Surroundings_gather_91 (lv_at hl 6 rfl) ?_
                obtain ⟨hi12, hf⟩ := hf_g hf
                refine va_iast hx hb hK hP hD hS 3 2 rfl rfl hi12 d_Surroundings_gather_93 (fun H locs hP hD hS => ?_)
                have hP : va_P (dC, dI) vwCl (uw_Surroundings ad_ar cA_ar (ar.1, ar.2.1, upd ar.2.2.1 ar.2.2.2.2.1.toNatClampNeg y5, ar.2.2.2.1, ar.2.2.2.2.1, ar.2.2.2.2.2.1, ar.2.2.2.2.2.2.1, ar.2.2.2.2.2.2.2)) H := hP
                have hD : va_D A (uw_Surroundings ad_ar cA_ar (ar.1, ar.2.1, upd ar.2.2.1 ar.2.2.2.2.1.toNatClampNeg y5, ar.2.2.2.1, ar.2.2.2.2.1, ar.2.2.2.2.2.1, ar.2.2.2.2.2.2.1, ar.2.2.2.2.2.2.2)) := hD
                refine lv_aload_n hx hb d_Surroundings_gather_94 rfl (lv_at hl 1 rfl) ?_
                refine lv_dup hx hb d_Surroundings_gather_95 rfl ?_
                refine va_get (D := (dC, dI)) (ci := 3) (v := .int ar.2.2.2.2.1) (C := "HazardTables$Surroundings") (T := F_Surroundings) (N := 8) hx hb hts hin_Surroundings hown hK hP 0 rfl rfl 4 (by decide) fl_39 (fun _ h9 => h9) rfl d_Surroundings_gather_96 ?_
                refine lv_iconst (v := (1 : Int32)) hx hb d_Surroundings_gather_99 (by decide) ?_
                refine lv_iadd hx hb d_Surroundings_gather_100 ?_
                refine va_put (D := (dC, dI)) (ci := 3) (v := .int (ar.2.2.2.2.1 + (1 : Int32))) (ty := .int) (C := "HazardTables$Surroundings") (T := F_Surroundings) (N := 8) hx hb hts hin_Surroundings t_Surroundings t_Surroundings_ok n_Surroundings hown hK hP hD hS 0 rfl rfl 4 (by decide) fl_39 (fun _ h9 => h9) rfl (by decide +kernel) rfl rfl (Nat.le_of_ble_eq_true rfl) d_Surroundings_gather_101 (fun H locs hP hD hS => ?_)
                have hP : va_P (dC, dI) vwCl (uw_Surroundings ad_ar cA_ar (ar.1, ar.2.1, upd ar.2.2.1 ar.2.2.2.2.1.toNatClampNeg y5, ar.2.2.2.1, ar.2.2.2.2.1 + (1 : Int32), ar.2.2.2.2.2.1, ar.2.2.2.2.2.2.1, ar.2.2.2.2.2.2.2)) H := hP
                have hD : va_D A (uw_Surroundings ad_ar cA_ar (ar.1, ar.2.1, upd ar.2.2.1 ar.2.2.2.2.1.toNatClampNeg y5, ar.2.2.2.1, ar.2.2.2.2.1 + (1 : Int32), ar.2.2.2.2.2.1, ar.2.2.2.2.2.2.1, ar.2.2.2.2.2.2.2)) := hD
                refine lv_iinc (v := y5 + (1 : Int32)) (lv' := [(5, .int (y5 + (1 : Int32))), (6, .int (bI u5)), (0, .ref (ad_ar 0)), (1, .int y1), (2, .int y2), (3, .int y3), (4, .int y4)]) hx hb d_Surroundings_gather_104 hl (k := 6) rfl rfl (by decide) rfl (fun ls hl => ?_)
                refine lv_goto (tgt := 8) hx hb d_Surroundings_gather_107 (by decide) ?_
                exact ih (ar.1, ar.2.1, upd ar.2.2.1 ar.2.2.2.2.1.toNatClampNeg y5, ar.2.2.2.1, ar.2.2.2.2.1 + (1 : Int32), ar.2.2.2.2.2.1, ar.2.2.2.2.2.2.1, ar.2.2.2.2.2.2.2) y1 y2 y3 y4 (y5 + (1 : Int32)) H locs ls hf hP hD hS (lv_sub hl [2, 3, 4, 5, 6, 0] rfl)
  have hl := lv_entry ([.ref (ad_ar 0), .int x1, .int x2, .int x3, .int x4]) (n := 7) (Nat.le_of_ble_eq_true rfl)
  rw [lg_entry_eq]
  generalize (lg_sl ([.ref (ad_ar 0), .int x1, .int x2, .int x3, .int x4]) ++ List.replicate (7 - (lg_sl ([.ref (ad_ar 0), .int x1, .int x2, .int x3, .int x4])).length) Slot.unset).toArray = ls at hl ⊢
  have hl : lv_has ls 7 [(0, .ref (ad_ar 0)), (1, .int x1), (2, .int x2), (3, .int x3), (4, .int x4)] := hl
  have hf := hf
  rw [f_Surroundings_gather] at hf
  obtain ⟨H, hH⟩ : ∃ H : Heap, H = s.heap := ⟨_, rfl⟩
  obtain ⟨locs, hlocs⟩ : ∃ L : List Loc, L = [] := ⟨_, rfl⟩
  have hP : va_P (dC, dI) vwCl (uw_Surroundings ad_ar cA_ar ar) H := by rw [hH]; exact hP
  have hS : va_S A s.heap H locs := by rw [hH, hlocs]; exact hS
  show W p l e (headSpec w_Surroundings_gather ({ frames := 3, cells := 0, slots := 0, locals := 70 })).room s m ([.ref (ad_ar 0), .int x1, .int x2, .int x3, .int x4] : List Value).toArray below meth c s.heap [] 0 0 Q (F0 m 0 ls [])
  suffices hgo : W p l e (headSpec w_Surroundings_gather ({ frames := 3, cells := 0, slots := 0, locals := 70 })).room s m ([.ref (ad_ar 0), .int x1, .int x2, .int x3, .int x4] : List Value).toArray below meth c H locs 0 0 Q (F0 m 0 ls []) by rw [hH, hlocs] at hgo; exact hgo
  clear hH hlocs
  refine lv_aload_n hx hb d_Surroundings_gather_0 rfl (lv_at hl 0 rfl) ?_
  refine lv_iconst (v := (0 : Int32)) hx hb d_Surroundings_gather_1 (by decide) ?_
  refine va_put (D := (dC, dI)) (ci := 3) (v := .int (0 : Int32)) (ty := .int) (C := "HazardTables$Surroundings") (T := F_Surroundings) (N := 8) hx hb hts hin_Surroundings t_Surroundings t_Surroundings_ok n_Surroundings hown hK hP hD hS 0 rfl rfl 4 (by decide) fl_39 (fun _ h9 => h9) rfl (by decide +kernel) rfl rfl (Nat.le_of_ble_eq_true rfl) d_Surroundings_gather_2 (fun H locs hP hD hS => ?_)
  have hP : va_P (dC, dI) vwCl (uw_Surroundings ad_ar cA_ar (ar.1, ar.2.1, ar.2.2.1, ar.2.2.2.1, (0 : Int32), ar.2.2.2.2.2.1, ar.2.2.2.2.2.2.1, ar.2.2.2.2.2.2.2)) H := hP
  have hD : va_D A (uw_Surroundings ad_ar cA_ar (ar.1, ar.2.1, ar.2.2.1, ar.2.2.2.1, (0 : Int32), ar.2.2.2.2.2.1, ar.2.2.2.2.2.2.1, ar.2.2.2.2.2.2.2)) := hD
  refine lv_iconst (v := (0 : Int32)) hx hb d_Surroundings_gather_5 (by decide) ?_
  refine lv_istore (lv' := [(5, .int (0 : Int32)), (0, .ref (ad_ar 0)), (1, .int x1), (2, .int x2), (3, .int x3), (4, .int x4)]) hx hb d_Surroundings_gather_6 hl (by decide) rfl (fun ls hl => ?_)
  exact w_8 4096 (ar.1, ar.2.1, ar.2.2.1, ar.2.2.2.1, (0 : Int32), ar.2.2.2.2.2.1, ar.2.2.2.2.2.2.1, ar.2.2.2.2.2.2.2) x1 x2 x3 x4 (0 : Int32) H locs ls hf hP hD hS (lv_sub hl [1, 2, 3, 4, 5, 0] rfl)
noncomputable def f_Surroundings_freshOne (ar : SSurroundings) (x1 : Int32) : Option (Int32) :=
  (if x1 < 0 then
    (some ((-1 : Int32)))
   else
    (if ar.2.2.2.2.1 ≤ x1 then
      (some ((-1 : Int32)))
     else
      (if (40 : Int32) ≤ x1 then
        (some ((-1 : Int32)))
       else
        (if inb x1 40 then
          (some (ar.2.2.1 x1.toNatClampNeg))
         else none)
       )
     )
   )
set_option maxHeartbeats 4000000 in
set_option maxRecDepth 100000 in
theorem k_Surroundings_freshOne (l : Launch) (dC : Nat → ClassId) (dI : Nat → Nat → Nat) (ad_ar : Nat → Nat) (cA_ar : Nat → ClassId) (sz : Nat) (ar : SSurroundings) (x1 : Int32) (res : Int32) (hf : f_Surroundings_freshOne ar x1 = some res) : Met l y_Surroundings_freshOne w_Surroundings_freshOne ({ frames := 0, cells := 0, slots := 0, locals := 0 }) (cPc (dC, dI) (uw_Surroundings ad_ar cA_ar ar) [(cA_ar 1, .int), (cA_ar 2, .int), (cA_ar 3, .int)] sz [.ref (ad_ar 0), .int x1]) (va_Qi (fun (r : Int32) (u : Unit) => r = res) (fun (u : Unit) (t : State) => va_P (dC, dI) vwCl (uw_Surroundings ad_ar cA_ar ar) t.heap ∧ va_K (dC, dI) vwCl [(cA_ar 1, .int), (cA_ar 2, .int), (cA_ar 3, .int)] t ∧ va_D (va_A (uw_Surroundings ad_ar cA_ar ar) sz) (uw_Surroundings ad_ar cA_ar ar)) (va_A (uw_Surroundings ad_ar cA_ar ar) sz)) 0 0 (va_A (uw_Surroundings ad_ar cA_ar ar) sz) := by
  refine Met.ofW (cc := b_Surroundings_freshOne) (maxL := 2) (ret := (some .int)) (by decide) rfl ?_
  intro p e s m args below meth c s₁ B hml hv
  obtain ⟨rfl, hsz, hP, hK, hD0, hN⟩ := hv
  have hx := B.exec
  have hb := B.bytes
  have hr := B.returns
  have hts := atoms_spec (ws := w_Surroundings_freshOne) B.pre
  have hown : s.vm.findClass "HazardTables$Surroundings" = some m.cls := findClass_of_methodNamed B.named
  have hlocks := B.notSynchronized
  subst hsz
  have hD := hD0.self (sz := s.heap.size)
  generalize hAe : va_A (uw_Surroundings ad_ar cA_ar ar) s.heap.size = A at hD ⊢
  have hA : ∀ q : Nat, s.heap.size ≤ q → A q := fun q h => by rw [← hAe]; exact Or.inr h
  have hS : va_S A s.heap s.heap [] := va_S.rf
  have hP : va_P (dC, dI) vwCl (uw_Surroundings ad_ar cA_ar ar) s.heap := hP
  have fl_18 := (hts _ (List.mem_cons_of_mem _ wd_148))
  have fl_39 := (hts _ (List.mem_cons_of_mem _ wd_150))
  have hin_Surroundings : ∀ w ∈ u_ws "HazardTables$Surroundings" F_Surroundings 8, w ∈ w_Surroundings_freshOne := fun w h => List.mem_cons_of_mem _ (hinA_Surroundings w h)
  have ret : ∀ (v : Int32) (u : Unit) (H : Heap) (locs : List Loc) (ls : Array Slot) (pc : Nat), decode b_Surroundings_freshOne pc = .ok (.ireturn, 1) → (v = res) → va_P (dC, dI) vwCl (uw_Surroundings ad_ar cA_ar ar) H → va_D A (uw_Surroundings ad_ar cA_ar ar) → va_S A s.heap H locs → W p l e (headSpec w_Surroundings_freshOne ({ frames := 0, cells := 0, slots := 0, locals := 0 })).room s m ([.ref (ad_ar 0), .int x1] : List Value).toArray below meth c H locs 0 0 (MQ below (va_Qi (fun (r : Int32) (u : Unit) => r = res) (fun (u : Unit) (t : State) => va_P (dC, dI) vwCl (uw_Surroundings ad_ar cA_ar ar) t.heap ∧ va_K (dC, dI) vwCl [(cA_ar 1, .int), (cA_ar 2, .int), (cA_ar 3, .int)] t ∧ va_D A (uw_Surroundings ad_ar cA_ar ar)) A) ([.ref (ad_ar 0), .int x1] : List Value).toArray s 0 0 A) (F0 m pc ls [.int v]) := fun v u H locs ls pc hd hp hP hD hS => W.iret (v := v) hx hb hr (fun t ht hW => ⟨⟨v, u, rfl, hp, by rw [ht]; exact hP, va_K.moved hW.alike hK, hD⟩, hS.F ht⟩) hS.2.2 hd
  generalize (MQ below (va_Qi (fun (r : Int32) (u : Unit) => r = res) (fun (u : Unit) (t : State) => va_P (dC, dI) vwCl (uw_Surroundings ad_ar cA_ar ar) t.heap ∧ va_K (dC, dI) vwCl [(cA_ar 1, .int), (cA_ar 2, .int), (cA_ar 3, .int)] t ∧ va_D A (uw_Surroundings ad_ar cA_ar ar)) A) ([.ref (ad_ar 0), .int x1] : List Value).toArray s 0 0 A) = Q at ret ⊢
  have hl := lv_entry ([.ref (ad_ar 0), .int x1]) (n := 2) (Nat.le_of_ble_eq_true rfl)
  rw [lg_entry_eq]
  generalize (lg_sl ([.ref (ad_ar 0), .int x1]) ++ List.replicate (2 - (lg_sl ([.ref (ad_ar 0), .int x1])).length) Slot.unset).toArray = ls at hl ⊢
  have hl : lv_has ls 2 [(0, .ref (ad_ar 0)), (1, .int x1)] := hl
  have hf := hf
  rw [f_Surroundings_freshOne] at hf
  obtain ⟨H, hH⟩ : ∃ H : Heap, H = s.heap := ⟨_, rfl⟩
  obtain ⟨locs, hlocs⟩ : ∃ L : List Loc, L = [] := ⟨_, rfl⟩
  have hP : va_P (dC, dI) vwCl (uw_Surroundings ad_ar cA_ar ar) H := by rw [hH]; exact hP
  have hS : va_S A s.heap H locs := by rw [hH, hlocs]; exact hS
  show W p l e (headSpec w_Surroundings_freshOne ({ frames := 0, cells := 0, slots := 0, locals := 0 })).room s m ([.ref (ad_ar 0), .int x1] : List Value).toArray below meth c s.heap [] 0 0 Q (F0 m 0 ls [])
  suffices hgo : W p l e (headSpec w_Surroundings_freshOne ({ frames := 0, cells := 0, slots := 0, locals := 0 })).room s m ([.ref (ad_ar 0), .int x1] : List Value).toArray below meth c H locs 0 0 Q (F0 m 0 ls []) by rw [hH, hlocs] at hgo; exact hgo
  clear hH hlocs
  refine lv_iload_n hx hb d_Surroundings_freshOne_0 rfl (lv_at hl 1 rfl) ?_
  refine lv_if_lt (tgt := 27) hx hb d_Surroundings_freshOne_1 (by decide) (fun hc1 => ?_) (fun hc1 => ?_)
  · have hf := hf_t hf hc1
    refine lv_iconst (v := (-1 : Int32)) hx hb d_Surroundings_freshOne_27 (by decide) ?_
    exact ret (-1 : Int32) () H locs ls 28 d_Surroundings_freshOne_28 (Option.some.inj hf) hP hD hS
  · have hf := hf_f hf hc1
    refine lv_iload_n hx hb d_Surroundings_freshOne_4 rfl (lv_at hl 1 rfl) ?_
    refine lv_aload_n hx hb d_Surroundings_freshOne_5 rfl (lv_at hl 0 rfl) ?_
    refine va_get (D := (dC, dI)) (ci := 3) (v := .int ar.2.2.2.2.1) (C := "HazardTables$Surroundings") (T := F_Surroundings) (N := 8) hx hb hts hin_Surroundings hown hK hP 0 rfl rfl 4 (by decide) fl_39 (fun _ h9 => h9) rfl d_Surroundings_freshOne_6 ?_
    refine lv_icmp_ge (tgt := 27) hx hb d_Surroundings_freshOne_9 (by decide) (fun hc2 => ?_) (fun hc2 => ?_)
    · have hf := hf_t hf hc2
      refine lv_iconst (v := (-1 : Int32)) hx hb d_Surroundings_freshOne_27 (by decide) ?_
      exact ret (-1 : Int32) () H locs ls 28 d_Surroundings_freshOne_28 (Option.some.inj hf) hP hD hS
    · have hf := hf_f hf hc2
      refine lv_iload_n hx hb d_Surroundings_freshOne_12 rfl (lv_at hl 1 rfl) ?_
      refine lv_bipush (v := (40 : Int32)) hx hb d_Surroundings_freshOne_13 (by decide) ?_
      refine lv_icmp_ge (tgt := 27) hx hb d_Surroundings_freshOne_15 (by decide) (fun hc3 => ?_) (fun hc3 => ?_)
      · have hf := hf_t hf hc3
        refine lv_iconst (v := (-1 : Int32)) hx hb d_Surroundings_freshOne_27 (by decide) ?_
        exact ret (-1 : Int32) () H locs ls 28 d_Surroundings_freshOne_28 (Option.some.inj hf) hP hD hS
      · have hf := hf_f hf hc3
        refine lv_aload_n hx hb d_Surroundings_freshOne_18 rfl (lv_at hl 0 rfl) ?_
        refine va_get (D := (dC, dI)) (ci := 3) (v := .ref (ad_ar 3)) (C := "HazardTables$Surroundings") (T := F_Surroundings) (N := 8) hx hb hts hin_Surroundings hown hK hP 0 rfl rfl 2 (by decide) fl_18 (fun _ h9 => h9) rfl d_Surroundings_freshOne_19 ?_
        refine lv_iload_n hx hb d_Surroundings_freshOne_22 rfl (lv_at hl 1 rfl) ?_
        obtain ⟨hi4, hf⟩ := hf_g hf
        refine va_iald hx hb hK hP 3 2 rfl rfl hi4 d_Surroundings_freshOne_23 ?_
        refine lv_goto (tgt := 28) hx hb d_Surroundings_freshOne_24 (by decide) ?_
        exact ret (ar.2.2.1 x1.toNatClampNeg) () H locs ls 28 d_Surroundings_freshOne_28 (Option.some.inj hf) hP hD hS
