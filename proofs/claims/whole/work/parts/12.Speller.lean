abbrev b_Speller_init : ByteArray := prog_4_method_1_code
abbrev y_Speller_init : MethodName := { cls := "HazardTables$Speller", name := "<init>", desc := "()V" }
abbrev w_Speller_init : List Cond := .code y_Speller_init b_Speller_init 1 none :: WA
theorem d_Speller_init_0 : decode b_Speller_init 0 = .ok (.aload_n 0, 1) := by decide +kernel
theorem d_Speller_init_1 : decode b_Speller_init 1 = .ok (.invokespecial 3, 3) := by decide +kernel
theorem d_Speller_init_4 : decode b_Speller_init 4 = .ok (.aload_n 0, 1) := by decide +kernel
theorem d_Speller_init_5 : decode b_Speller_init 5 = .ok (.bipush 8, 2) := by decide +kernel
theorem d_Speller_init_7 : decode b_Speller_init 7 = .ok (.newarray .int, 2) := by decide +kernel
theorem d_Speller_init_9 : decode b_Speller_init 9 = .ok (.putfield 9, 3) := by decide +kernel
theorem d_Speller_init_12 : decode b_Speller_init 12 = .ok (.aload_n 0, 1) := by decide +kernel
theorem d_Speller_init_13 : decode b_Speller_init 13 = .ok (.bipush 9, 2) := by decide +kernel
theorem d_Speller_init_15 : decode b_Speller_init 15 = .ok (.newarray .int, 2) := by decide +kernel
theorem d_Speller_init_17 : decode b_Speller_init 17 = .ok (.putfield 15, 3) := by decide +kernel
theorem d_Speller_init_20 : decode b_Speller_init 20 = .ok (.aload_n 0, 1) := by decide +kernel
theorem d_Speller_init_21 : decode b_Speller_init 21 = .ok (.bipush 12, 2) := by decide +kernel
theorem d_Speller_init_23 : decode b_Speller_init 23 = .ok (.newarray .int, 2) := by decide +kernel
theorem d_Speller_init_25 : decode b_Speller_init 25 = .ok (.putfield 20, 3) := by decide +kernel
theorem d_Speller_init_28 : decode b_Speller_init 28 = .ok (.aload_n 0, 1) := by decide +kernel
theorem d_Speller_init_29 : decode b_Speller_init 29 = .ok (.bipush 12, 2) := by decide +kernel
theorem d_Speller_init_31 : decode b_Speller_init 31 = .ok (.newarray .int, 2) := by decide +kernel
theorem d_Speller_init_33 : decode b_Speller_init 33 = .ok (.putfield 23, 3) := by decide +kernel
theorem d_Speller_init_36 : decode b_Speller_init 36 = .ok (.return_, 1) := by decide +kernel
abbrev b_Speller_forget : ByteArray := prog_4_method_2_code
abbrev y_Speller_forget : MethodName := { cls := "HazardTables$Speller", name := "forget", desc := "()V" }
abbrev w_Speller_forget : List Cond := .code y_Speller_forget b_Speller_forget 1 none :: WA
theorem d_Speller_forget_0 : decode b_Speller_forget 0 = .ok (.aload_n 0, 1) := by decide +kernel
theorem d_Speller_forget_1 : decode b_Speller_forget 1 = .ok (.iconst 0, 1) := by decide +kernel
theorem d_Speller_forget_2 : decode b_Speller_forget 2 = .ok (.putfield 26, 3) := by decide +kernel
theorem d_Speller_forget_5 : decode b_Speller_forget 5 = .ok (.return_, 1) := by decide +kernel
abbrev b_Speller_hear : ByteArray := prog_4_method_3_code
abbrev y_Speller_hear : MethodName := { cls := "HazardTables$Speller", name := "hear", desc := "(JI)V" }
abbrev w_Speller_hear : List Cond := .code y_Speller_hear b_Speller_hear 5 none :: WA
theorem d_Speller_hear_0 : decode b_Speller_hear 0 = .ok (.aload_n 0, 1) := by decide +kernel
theorem d_Speller_hear_1 : decode b_Speller_hear 1 = .ok (.iconst 0, 1) := by decide +kernel
theorem d_Speller_hear_2 : decode b_Speller_hear 2 = .ok (.putfield 30, 3) := by decide +kernel
theorem d_Speller_hear_5 : decode b_Speller_hear 5 = .ok (.iload_n 3, 1) := by decide +kernel
theorem d_Speller_hear_6 : decode b_Speller_hear 6 = .ok (.iconst 1, 1) := by decide +kernel
theorem d_Speller_hear_7 : decode b_Speller_hear 7 = .ok (.isub, 1) := by decide +kernel
theorem d_Speller_hear_8 : decode b_Speller_hear 8 = .ok (.istore 4, 2) := by decide +kernel
theorem d_Speller_hear_10 : decode b_Speller_hear 10 = .ok (.iload 4, 2) := by decide +kernel
theorem d_Speller_hear_12 : decode b_Speller_hear 12 = .ok (.ifCond .lt 43, 3) := by decide +kernel
theorem d_Speller_hear_15 : decode b_Speller_hear 15 = .ok (.aload_n 0, 1) := by decide +kernel
theorem d_Speller_hear_16 : decode b_Speller_hear 16 = .ok (.getfield 30, 3) := by decide +kernel
theorem d_Speller_hear_19 : decode b_Speller_hear 19 = .ok (.bipush 8, 2) := by decide +kernel
theorem d_Speller_hear_21 : decode b_Speller_hear 21 = .ok (.if_icmp .ge 34, 3) := by decide +kernel
theorem d_Speller_hear_24 : decode b_Speller_hear 24 = .ok (.aload_n 0, 1) := by decide +kernel
theorem d_Speller_hear_25 : decode b_Speller_hear 25 = .ok (.getfield 9, 3) := by decide +kernel
theorem d_Speller_hear_28 : decode b_Speller_hear 28 = .ok (.aload_n 0, 1) := by decide +kernel
theorem d_Speller_hear_29 : decode b_Speller_hear 29 = .ok (.getfield 30, 3) := by decide +kernel
theorem d_Speller_hear_32 : decode b_Speller_hear 32 = .ok (.lload_n 1, 1) := by decide +kernel
theorem d_Speller_hear_33 : decode b_Speller_hear 33 = .ok (.iload 4, 2) := by decide +kernel
theorem d_Speller_hear_35 : decode b_Speller_hear 35 = .ok (.invokestatic 33, 3) := by decide +kernel
theorem d_Speller_hear_38 : decode b_Speller_hear 38 = .ok (.iastore, 1) := by decide +kernel
theorem d_Speller_hear_39 : decode b_Speller_hear 39 = .ok (.aload_n 0, 1) := by decide +kernel
theorem d_Speller_hear_40 : decode b_Speller_hear 40 = .ok (.dup, 1) := by decide +kernel
theorem d_Speller_hear_41 : decode b_Speller_hear 41 = .ok (.getfield 30, 3) := by decide +kernel
theorem d_Speller_hear_44 : decode b_Speller_hear 44 = .ok (.iconst 1, 1) := by decide +kernel
theorem d_Speller_hear_45 : decode b_Speller_hear 45 = .ok (.iadd, 1) := by decide +kernel
theorem d_Speller_hear_46 : decode b_Speller_hear 46 = .ok (.putfield 30, 3) := by decide +kernel
theorem d_Speller_hear_49 : decode b_Speller_hear 49 = .ok (.iinc 4 (-1), 3) := by decide +kernel
theorem d_Speller_hear_52 : decode b_Speller_hear 52 = .ok (.goto (-42), 3) := by decide +kernel
theorem d_Speller_hear_55 : decode b_Speller_hear 55 = .ok (.return_, 1) := by decide +kernel
abbrev b_Speller_rank : ByteArray := prog_4_method_4_code
abbrev y_Speller_rank : MethodName := { cls := "HazardTables$Speller", name := "rank", desc := "(LHazardTables$Table;)V" }
abbrev w_Speller_rank : List Cond := .code y_Speller_rank b_Speller_rank 3 none :: WA
theorem d_Speller_rank_0 : decode b_Speller_rank 0 = .ok (.aload_n 0, 1) := by decide +kernel
theorem d_Speller_rank_1 : decode b_Speller_rank 1 = .ok (.iconst 0, 1) := by decide +kernel
theorem d_Speller_rank_2 : decode b_Speller_rank 2 = .ok (.putfield 26, 3) := by decide +kernel
theorem d_Speller_rank_5 : decode b_Speller_rank 5 = .ok (.iconst 1, 1) := by decide +kernel
theorem d_Speller_rank_6 : decode b_Speller_rank 6 = .ok (.istore_n 2, 1) := by decide +kernel
theorem d_Speller_rank_7 : decode b_Speller_rank 7 = .ok (.iload_n 2, 1) := by decide +kernel
theorem d_Speller_rank_8 : decode b_Speller_rank 8 = .ok (.aload_n 1, 1) := by decide +kernel
theorem d_Speller_rank_9 : decode b_Speller_rank 9 = .ok (.getfield 37, 3) := by decide +kernel
theorem d_Speller_rank_12 : decode b_Speller_rank 12 = .ok (.if_icmp .gt 31, 3) := by decide +kernel
theorem d_Speller_rank_15 : decode b_Speller_rank 15 = .ok (.iload_n 2, 1) := by decide +kernel
theorem d_Speller_rank_16 : decode b_Speller_rank 16 = .ok (.bipush 13, 2) := by decide +kernel
theorem d_Speller_rank_18 : decode b_Speller_rank 18 = .ok (.if_icmp .ge 25, 3) := by decide +kernel
theorem d_Speller_rank_21 : decode b_Speller_rank 21 = .ok (.aload_n 0, 1) := by decide +kernel
theorem d_Speller_rank_22 : decode b_Speller_rank 22 = .ok (.aload_n 1, 1) := by decide +kernel
theorem d_Speller_rank_23 : decode b_Speller_rank 23 = .ok (.getfield 40, 3) := by decide +kernel
theorem d_Speller_rank_26 : decode b_Speller_rank 26 = .ok (.iload_n 2, 1) := by decide +kernel
theorem d_Speller_rank_27 : decode b_Speller_rank 27 = .ok (.iaload, 1) := by decide +kernel
theorem d_Speller_rank_28 : decode b_Speller_rank 28 = .ok (.aload_n 0, 1) := by decide +kernel
theorem d_Speller_rank_29 : decode b_Speller_rank 29 = .ok (.aload_n 1, 1) := by decide +kernel
theorem d_Speller_rank_30 : decode b_Speller_rank 30 = .ok (.iload_n 2, 1) := by decide +kernel
theorem d_Speller_rank_31 : decode b_Speller_rank 31 = .ok (.invokevirtual 41, 3) := by decide +kernel
theorem d_Speller_rank_34 : decode b_Speller_rank 34 = .ok (.invokevirtual 45, 3) := by decide +kernel
theorem d_Speller_rank_37 : decode b_Speller_rank 37 = .ok (.iinc 2 1, 3) := by decide +kernel
theorem d_Speller_rank_40 : decode b_Speller_rank 40 = .ok (.goto (-33), 3) := by decide +kernel
theorem d_Speller_rank_43 : decode b_Speller_rank 43 = .ok (.return_, 1) := by decide +kernel
abbrev b_Speller_ranked : ByteArray := prog_4_method_5_code
abbrev y_Speller_ranked : MethodName := { cls := "HazardTables$Speller", name := "ranked", desc := "(I)I" }
abbrev w_Speller_ranked : List Cond := .code y_Speller_ranked b_Speller_ranked 2 (some .int) :: WA
theorem d_Speller_ranked_0 : decode b_Speller_ranked 0 = .ok (.iload_n 1, 1) := by decide +kernel
theorem d_Speller_ranked_1 : decode b_Speller_ranked 1 = .ok (.ifCond .lt 29, 3) := by decide +kernel
theorem d_Speller_ranked_4 : decode b_Speller_ranked 4 = .ok (.iload_n 1, 1) := by decide +kernel
theorem d_Speller_ranked_5 : decode b_Speller_ranked 5 = .ok (.aload_n 0, 1) := by decide +kernel
theorem d_Speller_ranked_6 : decode b_Speller_ranked 6 = .ok (.getfield 26, 3) := by decide +kernel
theorem d_Speller_ranked_9 : decode b_Speller_ranked 9 = .ok (.if_icmp .ge 21, 3) := by decide +kernel
theorem d_Speller_ranked_12 : decode b_Speller_ranked 12 = .ok (.iload_n 1, 1) := by decide +kernel
theorem d_Speller_ranked_13 : decode b_Speller_ranked 13 = .ok (.aload_n 0, 1) := by decide +kernel
theorem d_Speller_ranked_14 : decode b_Speller_ranked 14 = .ok (.getfield 20, 3) := by decide +kernel
theorem d_Speller_ranked_17 : decode b_Speller_ranked 17 = .ok (.arraylength, 1) := by decide +kernel
theorem d_Speller_ranked_18 : decode b_Speller_ranked 18 = .ok (.if_icmp .ge 12, 3) := by decide +kernel
theorem d_Speller_ranked_21 : decode b_Speller_ranked 21 = .ok (.aload_n 0, 1) := by decide +kernel
theorem d_Speller_ranked_22 : decode b_Speller_ranked 22 = .ok (.getfield 20, 3) := by decide +kernel
theorem d_Speller_ranked_25 : decode b_Speller_ranked 25 = .ok (.iload_n 1, 1) := by decide +kernel
theorem d_Speller_ranked_26 : decode b_Speller_ranked 26 = .ok (.iaload, 1) := by decide +kernel
theorem d_Speller_ranked_27 : decode b_Speller_ranked 27 = .ok (.goto 4, 3) := by decide +kernel
theorem d_Speller_ranked_30 : decode b_Speller_ranked 30 = .ok (.iconst (-1), 1) := by decide +kernel
theorem d_Speller_ranked_31 : decode b_Speller_ranked 31 = .ok (.ireturn, 1) := by decide +kernel
abbrev b_Speller_insert : ByteArray := prog_4_method_6_code
abbrev y_Speller_insert : MethodName := { cls := "HazardTables$Speller", name := "insert", desc := "(II)V" }
abbrev w_Speller_insert : List Cond := .code y_Speller_insert b_Speller_insert 4 none :: WA
theorem d_Speller_insert_0 : decode b_Speller_insert 0 = .ok (.aload_n 0, 1) := by decide +kernel
theorem d_Speller_insert_1 : decode b_Speller_insert 1 = .ok (.getfield 26, 3) := by decide +kernel
theorem d_Speller_insert_4 : decode b_Speller_insert 4 = .ok (.aload_n 0, 1) := by decide +kernel
theorem d_Speller_insert_5 : decode b_Speller_insert 5 = .ok (.getfield 20, 3) := by decide +kernel
theorem d_Speller_insert_8 : decode b_Speller_insert 8 = .ok (.arraylength, 1) := by decide +kernel
theorem d_Speller_insert_9 : decode b_Speller_insert 9 = .ok (.if_icmp .lt 4, 3) := by decide +kernel
theorem d_Speller_insert_12 : decode b_Speller_insert 12 = .ok (.return_, 1) := by decide +kernel
theorem d_Speller_insert_13 : decode b_Speller_insert 13 = .ok (.aload_n 0, 1) := by decide +kernel
theorem d_Speller_insert_14 : decode b_Speller_insert 14 = .ok (.getfield 26, 3) := by decide +kernel
theorem d_Speller_insert_17 : decode b_Speller_insert 17 = .ok (.istore_n 3, 1) := by decide +kernel
theorem d_Speller_insert_18 : decode b_Speller_insert 18 = .ok (.iload_n 3, 1) := by decide +kernel
theorem d_Speller_insert_19 : decode b_Speller_insert 19 = .ok (.ifCond .le 49, 3) := by decide +kernel
theorem d_Speller_insert_22 : decode b_Speller_insert 22 = .ok (.aload_n 0, 1) := by decide +kernel
theorem d_Speller_insert_23 : decode b_Speller_insert 23 = .ok (.iload_n 3, 1) := by decide +kernel
theorem d_Speller_insert_24 : decode b_Speller_insert 24 = .ok (.iconst 1, 1) := by decide +kernel
theorem d_Speller_insert_25 : decode b_Speller_insert 25 = .ok (.isub, 1) := by decide +kernel
theorem d_Speller_insert_26 : decode b_Speller_insert 26 = .ok (.iload_n 1, 1) := by decide +kernel
theorem d_Speller_insert_27 : decode b_Speller_insert 27 = .ok (.iload_n 2, 1) := by decide +kernel
theorem d_Speller_insert_28 : decode b_Speller_insert 28 = .ok (.invokevirtual 49, 3) := by decide +kernel
theorem d_Speller_insert_31 : decode b_Speller_insert 31 = .ok (.ifCond .eq 37, 3) := by decide +kernel
theorem d_Speller_insert_34 : decode b_Speller_insert 34 = .ok (.aload_n 0, 1) := by decide +kernel
theorem d_Speller_insert_35 : decode b_Speller_insert 35 = .ok (.getfield 20, 3) := by decide +kernel
theorem d_Speller_insert_38 : decode b_Speller_insert 38 = .ok (.iload_n 3, 1) := by decide +kernel
theorem d_Speller_insert_39 : decode b_Speller_insert 39 = .ok (.aload_n 0, 1) := by decide +kernel
theorem d_Speller_insert_40 : decode b_Speller_insert 40 = .ok (.getfield 20, 3) := by decide +kernel
theorem d_Speller_insert_43 : decode b_Speller_insert 43 = .ok (.iload_n 3, 1) := by decide +kernel
theorem d_Speller_insert_44 : decode b_Speller_insert 44 = .ok (.iconst 1, 1) := by decide +kernel
theorem d_Speller_insert_45 : decode b_Speller_insert 45 = .ok (.isub, 1) := by decide +kernel
theorem d_Speller_insert_46 : decode b_Speller_insert 46 = .ok (.iaload, 1) := by decide +kernel
theorem d_Speller_insert_47 : decode b_Speller_insert 47 = .ok (.iastore, 1) := by decide +kernel
theorem d_Speller_insert_48 : decode b_Speller_insert 48 = .ok (.aload_n 0, 1) := by decide +kernel
theorem d_Speller_insert_49 : decode b_Speller_insert 49 = .ok (.getfield 23, 3) := by decide +kernel
theorem d_Speller_insert_52 : decode b_Speller_insert 52 = .ok (.iload_n 3, 1) := by decide +kernel
theorem d_Speller_insert_53 : decode b_Speller_insert 53 = .ok (.aload_n 0, 1) := by decide +kernel
theorem d_Speller_insert_54 : decode b_Speller_insert 54 = .ok (.getfield 23, 3) := by decide +kernel
theorem d_Speller_insert_57 : decode b_Speller_insert 57 = .ok (.iload_n 3, 1) := by decide +kernel
theorem d_Speller_insert_58 : decode b_Speller_insert 58 = .ok (.iconst 1, 1) := by decide +kernel
theorem d_Speller_insert_59 : decode b_Speller_insert 59 = .ok (.isub, 1) := by decide +kernel
theorem d_Speller_insert_60 : decode b_Speller_insert 60 = .ok (.iaload, 1) := by decide +kernel
theorem d_Speller_insert_61 : decode b_Speller_insert 61 = .ok (.iastore, 1) := by decide +kernel
theorem d_Speller_insert_62 : decode b_Speller_insert 62 = .ok (.iinc 3 (-1), 3) := by decide +kernel
theorem d_Speller_insert_65 : decode b_Speller_insert 65 = .ok (.goto (-47), 3) := by decide +kernel
theorem d_Speller_insert_68 : decode b_Speller_insert 68 = .ok (.aload_n 0, 1) := by decide +kernel
theorem d_Speller_insert_69 : decode b_Speller_insert 69 = .ok (.getfield 20, 3) := by decide +kernel
theorem d_Speller_insert_72 : decode b_Speller_insert 72 = .ok (.iload_n 3, 1) := by decide +kernel
theorem d_Speller_insert_73 : decode b_Speller_insert 73 = .ok (.iload_n 1, 1) := by decide +kernel
theorem d_Speller_insert_74 : decode b_Speller_insert 74 = .ok (.iastore, 1) := by decide +kernel
theorem d_Speller_insert_75 : decode b_Speller_insert 75 = .ok (.aload_n 0, 1) := by decide +kernel
theorem d_Speller_insert_76 : decode b_Speller_insert 76 = .ok (.getfield 23, 3) := by decide +kernel
theorem d_Speller_insert_79 : decode b_Speller_insert 79 = .ok (.iload_n 3, 1) := by decide +kernel
theorem d_Speller_insert_80 : decode b_Speller_insert 80 = .ok (.iload_n 2, 1) := by decide +kernel
theorem d_Speller_insert_81 : decode b_Speller_insert 81 = .ok (.iastore, 1) := by decide +kernel
theorem d_Speller_insert_82 : decode b_Speller_insert 82 = .ok (.aload_n 0, 1) := by decide +kernel
theorem d_Speller_insert_83 : decode b_Speller_insert 83 = .ok (.dup, 1) := by decide +kernel
theorem d_Speller_insert_84 : decode b_Speller_insert 84 = .ok (.getfield 26, 3) := by decide +kernel
theorem d_Speller_insert_87 : decode b_Speller_insert 87 = .ok (.iconst 1, 1) := by decide +kernel
theorem d_Speller_insert_88 : decode b_Speller_insert 88 = .ok (.iadd, 1) := by decide +kernel
theorem d_Speller_insert_89 : decode b_Speller_insert 89 = .ok (.putfield 26, 3) := by decide +kernel
theorem d_Speller_insert_92 : decode b_Speller_insert 92 = .ok (.return_, 1) := by decide +kernel
abbrev b_Speller_isBehind : ByteArray := prog_4_method_7_code
abbrev y_Speller_isBehind : MethodName := { cls := "HazardTables$Speller", name := "isBehind", desc := "(III)Z" }
abbrev w_Speller_isBehind : List Cond := .code y_Speller_isBehind b_Speller_isBehind 4 (some .boolean) :: WA
theorem d_Speller_isBehind_0 : decode b_Speller_isBehind 0 = .ok (.aload_n 0, 1) := by decide +kernel
theorem d_Speller_isBehind_1 : decode b_Speller_isBehind 1 = .ok (.getfield 23, 3) := by decide +kernel
theorem d_Speller_isBehind_4 : decode b_Speller_isBehind 4 = .ok (.iload_n 1, 1) := by decide +kernel
theorem d_Speller_isBehind_5 : decode b_Speller_isBehind 5 = .ok (.iaload, 1) := by decide +kernel
theorem d_Speller_isBehind_6 : decode b_Speller_isBehind 6 = .ok (.iload_n 3, 1) := by decide +kernel
theorem d_Speller_isBehind_7 : decode b_Speller_isBehind 7 = .ok (.if_icmp .gt 23, 3) := by decide +kernel
theorem d_Speller_isBehind_10 : decode b_Speller_isBehind 10 = .ok (.aload_n 0, 1) := by decide +kernel
theorem d_Speller_isBehind_11 : decode b_Speller_isBehind 11 = .ok (.getfield 23, 3) := by decide +kernel
theorem d_Speller_isBehind_14 : decode b_Speller_isBehind 14 = .ok (.iload_n 1, 1) := by decide +kernel
theorem d_Speller_isBehind_15 : decode b_Speller_isBehind 15 = .ok (.iaload, 1) := by decide +kernel
theorem d_Speller_isBehind_16 : decode b_Speller_isBehind 16 = .ok (.iload_n 3, 1) := by decide +kernel
theorem d_Speller_isBehind_17 : decode b_Speller_isBehind 17 = .ok (.if_icmp .ne 17, 3) := by decide +kernel
theorem d_Speller_isBehind_20 : decode b_Speller_isBehind 20 = .ok (.aload_n 0, 1) := by decide +kernel
theorem d_Speller_isBehind_21 : decode b_Speller_isBehind 21 = .ok (.getfield 20, 3) := by decide +kernel
theorem d_Speller_isBehind_24 : decode b_Speller_isBehind 24 = .ok (.iload_n 1, 1) := by decide +kernel
theorem d_Speller_isBehind_25 : decode b_Speller_isBehind 25 = .ok (.iaload, 1) := by decide +kernel
theorem d_Speller_isBehind_26 : decode b_Speller_isBehind 26 = .ok (.iload_n 2, 1) := by decide +kernel
theorem d_Speller_isBehind_27 : decode b_Speller_isBehind 27 = .ok (.if_icmp .le 7, 3) := by decide +kernel
theorem d_Speller_isBehind_30 : decode b_Speller_isBehind 30 = .ok (.iconst 1, 1) := by decide +kernel
theorem d_Speller_isBehind_31 : decode b_Speller_isBehind 31 = .ok (.goto 4, 3) := by decide +kernel
theorem d_Speller_isBehind_34 : decode b_Speller_isBehind 34 = .ok (.iconst 0, 1) := by decide +kernel
theorem d_Speller_isBehind_35 : decode b_Speller_isBehind 35 = .ok (.ireturn, 1) := by decide +kernel
abbrev b_Speller_distanceTo : ByteArray := prog_4_method_8_code
abbrev y_Speller_distanceTo : MethodName := { cls := "HazardTables$Speller", name := "distanceTo", desc := "(LHazardTables$Table;I)I" }
abbrev w_Speller_distanceTo : List Cond := .code y_Speller_distanceTo b_Speller_distanceTo 5 (some .int) :: WA
theorem d_Speller_distanceTo_0 : decode b_Speller_distanceTo 0 = .ok (.aload_n 0, 1) := by decide +kernel
theorem d_Speller_distanceTo_1 : decode b_Speller_distanceTo 1 = .ok (.aload_n 1, 1) := by decide +kernel
theorem d_Speller_distanceTo_2 : decode b_Speller_distanceTo 2 = .ok (.iload_n 2, 1) := by decide +kernel
theorem d_Speller_distanceTo_3 : decode b_Speller_distanceTo 3 = .ok (.iconst 0, 1) := by decide +kernel
theorem d_Speller_distanceTo_4 : decode b_Speller_distanceTo 4 = .ok (.invokevirtual 53, 3) := by decide +kernel
theorem d_Speller_distanceTo_7 : decode b_Speller_distanceTo 7 = .ok (.istore_n 3, 1) := by decide +kernel
theorem d_Speller_distanceTo_8 : decode b_Speller_distanceTo 8 = .ok (.iconst 1, 1) := by decide +kernel
theorem d_Speller_distanceTo_9 : decode b_Speller_distanceTo 9 = .ok (.istore 4, 2) := by decide +kernel
theorem d_Speller_distanceTo_11 : decode b_Speller_distanceTo 11 = .ok (.iload 4, 2) := by decide +kernel
theorem d_Speller_distanceTo_13 : decode b_Speller_distanceTo 13 = .ok (.aload_n 1, 1) := by decide +kernel
theorem d_Speller_distanceTo_14 : decode b_Speller_distanceTo 14 = .ok (.iload_n 2, 1) := by decide +kernel
theorem d_Speller_distanceTo_15 : decode b_Speller_distanceTo 15 = .ok (.bipush 8, 2) := by decide +kernel
theorem d_Speller_distanceTo_17 : decode b_Speller_distanceTo 17 = .ok (.invokevirtual 57, 3) := by decide +kernel
theorem d_Speller_distanceTo_20 : decode b_Speller_distanceTo 20 = .ok (.if_icmp .ge 22, 3) := by decide +kernel
theorem d_Speller_distanceTo_23 : decode b_Speller_distanceTo 23 = .ok (.iload_n 3, 1) := by decide +kernel
theorem d_Speller_distanceTo_24 : decode b_Speller_distanceTo 24 = .ok (.aload_n 0, 1) := by decide +kernel
theorem d_Speller_distanceTo_25 : decode b_Speller_distanceTo 25 = .ok (.aload_n 1, 1) := by decide +kernel
theorem d_Speller_distanceTo_26 : decode b_Speller_distanceTo 26 = .ok (.iload_n 2, 1) := by decide +kernel
theorem d_Speller_distanceTo_27 : decode b_Speller_distanceTo 27 = .ok (.iload 4, 2) := by decide +kernel
theorem d_Speller_distanceTo_29 : decode b_Speller_distanceTo 29 = .ok (.invokevirtual 53, 3) := by decide +kernel
theorem d_Speller_distanceTo_32 : decode b_Speller_distanceTo 32 = .ok (.invokestatic 61, 3) := by decide +kernel
theorem d_Speller_distanceTo_35 : decode b_Speller_distanceTo 35 = .ok (.istore_n 3, 1) := by decide +kernel
theorem d_Speller_distanceTo_36 : decode b_Speller_distanceTo 36 = .ok (.iinc 4 1, 3) := by decide +kernel
theorem d_Speller_distanceTo_39 : decode b_Speller_distanceTo 39 = .ok (.goto (-28), 3) := by decide +kernel
theorem d_Speller_distanceTo_42 : decode b_Speller_distanceTo 42 = .ok (.iload_n 3, 1) := by decide +kernel
theorem d_Speller_distanceTo_43 : decode b_Speller_distanceTo 43 = .ok (.ireturn, 1) := by decide +kernel
abbrev b_Speller_editsTo : ByteArray := prog_4_method_9_code
abbrev y_Speller_editsTo : MethodName := { cls := "HazardTables$Speller", name := "editsTo", desc := "(LHazardTables$Table;II)I" }
abbrev w_Speller_editsTo : List Cond := .code y_Speller_editsTo b_Speller_editsTo 6 (some .int) :: WA
theorem d_Speller_editsTo_0 : decode b_Speller_editsTo 0 = .ok (.iconst 0, 1) := by decide +kernel
theorem d_Speller_editsTo_1 : decode b_Speller_editsTo 1 = .ok (.istore 4, 2) := by decide +kernel
theorem d_Speller_editsTo_3 : decode b_Speller_editsTo 3 = .ok (.iload 4, 2) := by decide +kernel
theorem d_Speller_editsTo_5 : decode b_Speller_editsTo 5 = .ok (.aload_n 0, 1) := by decide +kernel
theorem d_Speller_editsTo_6 : decode b_Speller_editsTo 6 = .ok (.getfield 30, 3) := by decide +kernel
theorem d_Speller_editsTo_9 : decode b_Speller_editsTo 9 = .ok (.if_icmp .gt 28, 3) := by decide +kernel
theorem d_Speller_editsTo_12 : decode b_Speller_editsTo 12 = .ok (.iload 4, 2) := by decide +kernel
theorem d_Speller_editsTo_14 : decode b_Speller_editsTo 14 = .ok (.aload_n 0, 1) := by decide +kernel
theorem d_Speller_editsTo_15 : decode b_Speller_editsTo 15 = .ok (.getfield 15, 3) := by decide +kernel
theorem d_Speller_editsTo_18 : decode b_Speller_editsTo 18 = .ok (.arraylength, 1) := by decide +kernel
theorem d_Speller_editsTo_19 : decode b_Speller_editsTo 19 = .ok (.if_icmp .ge 18, 3) := by decide +kernel
theorem d_Speller_editsTo_22 : decode b_Speller_editsTo 22 = .ok (.aload_n 0, 1) := by decide +kernel
theorem d_Speller_editsTo_23 : decode b_Speller_editsTo 23 = .ok (.getfield 15, 3) := by decide +kernel
theorem d_Speller_editsTo_26 : decode b_Speller_editsTo 26 = .ok (.iload 4, 2) := by decide +kernel
theorem d_Speller_editsTo_28 : decode b_Speller_editsTo 28 = .ok (.iload 4, 2) := by decide +kernel
theorem d_Speller_editsTo_30 : decode b_Speller_editsTo 30 = .ok (.iastore, 1) := by decide +kernel
theorem d_Speller_editsTo_31 : decode b_Speller_editsTo 31 = .ok (.iinc 4 1, 3) := by decide +kernel
theorem d_Speller_editsTo_34 : decode b_Speller_editsTo 34 = .ok (.goto (-31), 3) := by decide +kernel
theorem d_Speller_editsTo_37 : decode b_Speller_editsTo 37 = .ok (.aload_n 1, 1) := by decide +kernel
theorem d_Speller_editsTo_38 : decode b_Speller_editsTo 38 = .ok (.iload_n 2, 1) := by decide +kernel
theorem d_Speller_editsTo_39 : decode b_Speller_editsTo 39 = .ok (.iload_n 3, 1) := by decide +kernel
theorem d_Speller_editsTo_40 : decode b_Speller_editsTo 40 = .ok (.invokevirtual 66, 3) := by decide +kernel
theorem d_Speller_editsTo_43 : decode b_Speller_editsTo 43 = .ok (.istore 4, 2) := by decide +kernel
theorem d_Speller_editsTo_45 : decode b_Speller_editsTo 45 = .ok (.iconst 1, 1) := by decide +kernel
theorem d_Speller_editsTo_46 : decode b_Speller_editsTo 46 = .ok (.istore 5, 2) := by decide +kernel
theorem d_Speller_editsTo_48 : decode b_Speller_editsTo 48 = .ok (.iload 5, 2) := by decide +kernel
theorem d_Speller_editsTo_50 : decode b_Speller_editsTo 50 = .ok (.iload 4, 2) := by decide +kernel
theorem d_Speller_editsTo_52 : decode b_Speller_editsTo 52 = .ok (.if_icmp .gt 25, 3) := by decide +kernel
theorem d_Speller_editsTo_55 : decode b_Speller_editsTo 55 = .ok (.aload_n 0, 1) := by decide +kernel
theorem d_Speller_editsTo_56 : decode b_Speller_editsTo 56 = .ok (.aload_n 1, 1) := by decide +kernel
theorem d_Speller_editsTo_57 : decode b_Speller_editsTo 57 = .ok (.iload_n 2, 1) := by decide +kernel
theorem d_Speller_editsTo_58 : decode b_Speller_editsTo 58 = .ok (.iload_n 3, 1) := by decide +kernel
theorem d_Speller_editsTo_59 : decode b_Speller_editsTo 59 = .ok (.iload 5, 2) := by decide +kernel
theorem d_Speller_editsTo_61 : decode b_Speller_editsTo 61 = .ok (.iconst 1, 1) := by decide +kernel
theorem d_Speller_editsTo_62 : decode b_Speller_editsTo 62 = .ok (.isub, 1) := by decide +kernel
theorem d_Speller_editsTo_63 : decode b_Speller_editsTo 63 = .ok (.invokevirtual 69, 3) := by decide +kernel
theorem d_Speller_editsTo_66 : decode b_Speller_editsTo 66 = .ok (.iload 5, 2) := by decide +kernel
theorem d_Speller_editsTo_68 : decode b_Speller_editsTo 68 = .ok (.invokevirtual 73, 3) := by decide +kernel
theorem d_Speller_editsTo_71 : decode b_Speller_editsTo 71 = .ok (.iinc 5 1, 3) := by decide +kernel
theorem d_Speller_editsTo_74 : decode b_Speller_editsTo 74 = .ok (.goto (-26), 3) := by decide +kernel
theorem d_Speller_editsTo_77 : decode b_Speller_editsTo 77 = .ok (.aload_n 0, 1) := by decide +kernel
theorem d_Speller_editsTo_78 : decode b_Speller_editsTo 78 = .ok (.getfield 30, 3) := by decide +kernel
theorem d_Speller_editsTo_81 : decode b_Speller_editsTo 81 = .ok (.ifCond .lt 27, 3) := by decide +kernel
theorem d_Speller_editsTo_84 : decode b_Speller_editsTo 84 = .ok (.aload_n 0, 1) := by decide +kernel
theorem d_Speller_editsTo_85 : decode b_Speller_editsTo 85 = .ok (.getfield 30, 3) := by decide +kernel
theorem d_Speller_editsTo_88 : decode b_Speller_editsTo 88 = .ok (.aload_n 0, 1) := by decide +kernel
theorem d_Speller_editsTo_89 : decode b_Speller_editsTo 89 = .ok (.getfield 15, 3) := by decide +kernel
theorem d_Speller_editsTo_92 : decode b_Speller_editsTo 92 = .ok (.arraylength, 1) := by decide +kernel
theorem d_Speller_editsTo_93 : decode b_Speller_editsTo 93 = .ok (.if_icmp .ge 15, 3) := by decide +kernel
theorem d_Speller_editsTo_96 : decode b_Speller_editsTo 96 = .ok (.aload_n 0, 1) := by decide +kernel
theorem d_Speller_editsTo_97 : decode b_Speller_editsTo 97 = .ok (.getfield 15, 3) := by decide +kernel
theorem d_Speller_editsTo_100 : decode b_Speller_editsTo 100 = .ok (.aload_n 0, 1) := by decide +kernel
theorem d_Speller_editsTo_101 : decode b_Speller_editsTo 101 = .ok (.getfield 30, 3) := by decide +kernel
theorem d_Speller_editsTo_104 : decode b_Speller_editsTo 104 = .ok (.iaload, 1) := by decide +kernel
theorem d_Speller_editsTo_105 : decode b_Speller_editsTo 105 = .ok (.goto 4, 3) := by decide +kernel
theorem d_Speller_editsTo_108 : decode b_Speller_editsTo 108 = .ok (.iconst 0, 1) := by decide +kernel
theorem d_Speller_editsTo_109 : decode b_Speller_editsTo 109 = .ok (.ireturn, 1) := by decide +kernel
abbrev b_Speller_addLetter : ByteArray := prog_4_method_10_code
abbrev y_Speller_addLetter : MethodName := { cls := "HazardTables$Speller", name := "addLetter", desc := "(II)V" }
abbrev w_Speller_addLetter : List Cond := .code y_Speller_addLetter b_Speller_addLetter 6 none :: WA
theorem d_Speller_addLetter_0 : decode b_Speller_addLetter 0 = .ok (.aload_n 0, 1) := by decide +kernel
theorem d_Speller_addLetter_1 : decode b_Speller_addLetter 1 = .ok (.getfield 15, 3) := by decide +kernel
theorem d_Speller_addLetter_4 : decode b_Speller_addLetter 4 = .ok (.iconst 0, 1) := by decide +kernel
theorem d_Speller_addLetter_5 : decode b_Speller_addLetter 5 = .ok (.iaload, 1) := by decide +kernel
theorem d_Speller_addLetter_6 : decode b_Speller_addLetter 6 = .ok (.istore_n 3, 1) := by decide +kernel
theorem d_Speller_addLetter_7 : decode b_Speller_addLetter 7 = .ok (.aload_n 0, 1) := by decide +kernel
theorem d_Speller_addLetter_8 : decode b_Speller_addLetter 8 = .ok (.getfield 15, 3) := by decide +kernel
theorem d_Speller_addLetter_11 : decode b_Speller_addLetter 11 = .ok (.iconst 0, 1) := by decide +kernel
theorem d_Speller_addLetter_12 : decode b_Speller_addLetter 12 = .ok (.iload_n 2, 1) := by decide +kernel
theorem d_Speller_addLetter_13 : decode b_Speller_addLetter 13 = .ok (.iastore, 1) := by decide +kernel
theorem d_Speller_addLetter_14 : decode b_Speller_addLetter 14 = .ok (.iconst 1, 1) := by decide +kernel
theorem d_Speller_addLetter_15 : decode b_Speller_addLetter 15 = .ok (.istore 4, 2) := by decide +kernel
theorem d_Speller_addLetter_17 : decode b_Speller_addLetter 17 = .ok (.iload 4, 2) := by decide +kernel
theorem d_Speller_addLetter_19 : decode b_Speller_addLetter 19 = .ok (.aload_n 0, 1) := by decide +kernel
theorem d_Speller_addLetter_20 : decode b_Speller_addLetter 20 = .ok (.getfield 30, 3) := by decide +kernel
theorem d_Speller_addLetter_23 : decode b_Speller_addLetter 23 = .ok (.if_icmp .gt 82, 3) := by decide +kernel
theorem d_Speller_addLetter_26 : decode b_Speller_addLetter 26 = .ok (.iload 4, 2) := by decide +kernel
theorem d_Speller_addLetter_28 : decode b_Speller_addLetter 28 = .ok (.aload_n 0, 1) := by decide +kernel
theorem d_Speller_addLetter_29 : decode b_Speller_addLetter 29 = .ok (.getfield 15, 3) := by decide +kernel
theorem d_Speller_addLetter_32 : decode b_Speller_addLetter 32 = .ok (.arraylength, 1) := by decide +kernel
theorem d_Speller_addLetter_33 : decode b_Speller_addLetter 33 = .ok (.if_icmp .ge 72, 3) := by decide +kernel
theorem d_Speller_addLetter_36 : decode b_Speller_addLetter 36 = .ok (.iload_n 3, 1) := by decide +kernel
theorem d_Speller_addLetter_37 : decode b_Speller_addLetter 37 = .ok (.aload_n 0, 1) := by decide +kernel
theorem d_Speller_addLetter_38 : decode b_Speller_addLetter 38 = .ok (.getfield 9, 3) := by decide +kernel
theorem d_Speller_addLetter_41 : decode b_Speller_addLetter 41 = .ok (.iload 4, 2) := by decide +kernel
theorem d_Speller_addLetter_43 : decode b_Speller_addLetter 43 = .ok (.iconst 1, 1) := by decide +kernel
theorem d_Speller_addLetter_44 : decode b_Speller_addLetter 44 = .ok (.isub, 1) := by decide +kernel
theorem d_Speller_addLetter_45 : decode b_Speller_addLetter 45 = .ok (.iaload, 1) := by decide +kernel
theorem d_Speller_addLetter_46 : decode b_Speller_addLetter 46 = .ok (.iload_n 1, 1) := by decide +kernel
theorem d_Speller_addLetter_47 : decode b_Speller_addLetter 47 = .ok (.if_icmp .ne 7, 3) := by decide +kernel
theorem d_Speller_addLetter_50 : decode b_Speller_addLetter 50 = .ok (.iconst 0, 1) := by decide +kernel
theorem d_Speller_addLetter_51 : decode b_Speller_addLetter 51 = .ok (.goto 4, 3) := by decide +kernel
theorem d_Speller_addLetter_54 : decode b_Speller_addLetter 54 = .ok (.iconst 1, 1) := by decide +kernel
theorem d_Speller_addLetter_55 : decode b_Speller_addLetter 55 = .ok (.iadd, 1) := by decide +kernel
theorem d_Speller_addLetter_56 : decode b_Speller_addLetter 56 = .ok (.istore 5, 2) := by decide +kernel
theorem d_Speller_addLetter_58 : decode b_Speller_addLetter 58 = .ok (.aload_n 0, 1) := by decide +kernel
theorem d_Speller_addLetter_59 : decode b_Speller_addLetter 59 = .ok (.getfield 15, 3) := by decide +kernel
theorem d_Speller_addLetter_62 : decode b_Speller_addLetter 62 = .ok (.iload 4, 2) := by decide +kernel
theorem d_Speller_addLetter_64 : decode b_Speller_addLetter 64 = .ok (.iaload, 1) := by decide +kernel
theorem d_Speller_addLetter_65 : decode b_Speller_addLetter 65 = .ok (.istore_n 3, 1) := by decide +kernel
theorem d_Speller_addLetter_66 : decode b_Speller_addLetter 66 = .ok (.aload_n 0, 1) := by decide +kernel
theorem d_Speller_addLetter_67 : decode b_Speller_addLetter 67 = .ok (.getfield 15, 3) := by decide +kernel
theorem d_Speller_addLetter_70 : decode b_Speller_addLetter 70 = .ok (.iload 4, 2) := by decide +kernel
theorem d_Speller_addLetter_72 : decode b_Speller_addLetter 72 = .ok (.iload 5, 2) := by decide +kernel
theorem d_Speller_addLetter_74 : decode b_Speller_addLetter 74 = .ok (.iconst 1, 1) := by decide +kernel
theorem d_Speller_addLetter_75 : decode b_Speller_addLetter 75 = .ok (.aload_n 0, 1) := by decide +kernel
theorem d_Speller_addLetter_76 : decode b_Speller_addLetter 76 = .ok (.getfield 15, 3) := by decide +kernel
theorem d_Speller_addLetter_79 : decode b_Speller_addLetter 79 = .ok (.iload 4, 2) := by decide +kernel
theorem d_Speller_addLetter_81 : decode b_Speller_addLetter 81 = .ok (.iconst 1, 1) := by decide +kernel
theorem d_Speller_addLetter_82 : decode b_Speller_addLetter 82 = .ok (.isub, 1) := by decide +kernel
theorem d_Speller_addLetter_83 : decode b_Speller_addLetter 83 = .ok (.iaload, 1) := by decide +kernel
theorem d_Speller_addLetter_84 : decode b_Speller_addLetter 84 = .ok (.aload_n 0, 1) := by decide +kernel
theorem d_Speller_addLetter_85 : decode b_Speller_addLetter 85 = .ok (.getfield 15, 3) := by decide +kernel
theorem d_Speller_addLetter_88 : decode b_Speller_addLetter 88 = .ok (.iload 4, 2) := by decide +kernel
theorem d_Speller_addLetter_90 : decode b_Speller_addLetter 90 = .ok (.iaload, 1) := by decide +kernel
theorem d_Speller_addLetter_91 : decode b_Speller_addLetter 91 = .ok (.invokestatic 61, 3) := by decide +kernel
theorem d_Speller_addLetter_94 : decode b_Speller_addLetter 94 = .ok (.iadd, 1) := by decide +kernel
theorem d_Speller_addLetter_95 : decode b_Speller_addLetter 95 = .ok (.invokestatic 61, 3) := by decide +kernel
theorem d_Speller_addLetter_98 : decode b_Speller_addLetter 98 = .ok (.iastore, 1) := by decide +kernel
theorem d_Speller_addLetter_99 : decode b_Speller_addLetter 99 = .ok (.iinc 4 1, 3) := by decide +kernel
theorem d_Speller_addLetter_102 : decode b_Speller_addLetter 102 = .ok (.goto (-85), 3) := by decide +kernel
theorem d_Speller_addLetter_105 : decode b_Speller_addLetter 105 = .ok (.return_, 1) := by decide +kernel
noncomputable def init_Speller : SSpeller := ((fun _ => 0), (fun _ => 0), (fun _ => 0), (fun _ => 0), 0, 0)
set_option maxHeartbeats 4000000 in
set_option maxRecDepth 100000 in
theorem k_Speller_init (l : Launch) (dC : Nat → ClassId) (dI : Nat → Nat → Nat) (h0 sz : Nat) : Met l y_Speller_init w_Speller_init ({ frames := 1, cells := 4, slots := 41, locals := 12 }) (cPc (dC, dI) [(h0, .inr (2, [.null, .null, .null, .null, .int 0, .int 0]))] [] sz [.ref h0]) (va_Qv (fun (u : SSpeller) => u = init_Speller) (fun (u : SSpeller) (t : State) => ∃ (ad : Nat → Nat) (cA : Nat → ClassId), ad 0 = h0 ∧ va_P (dC, dI) vwCl (uw_Speller ad cA u) t.heap ∧ va_K (dC, dI) vwCl [(cA 1, .int), (cA 2, .int), (cA 3, .int), (cA 4, .int)] t ∧ va_D (va_A [(h0, .inr (2, [.null, .null, .null, .null, .int 0, .int 0]))] sz) (uw_Speller ad cA u)) (va_A [(h0, .inr (2, [.null, .null, .null, .null, .int 0, .int 0]))] sz)) 4 41 (va_A [(h0, .inr (2, [.null, .null, .null, .null, .int 0, .int 0]))] sz) := by
  refine Met.ofW (cc := b_Speller_init) (maxL := 1) (ret := none) (by decide) rfl ?_
  intro p e s m args below meth c s₁ B hml hv
  obtain ⟨rfl, hsz, hP, hK, hD0, hN⟩ := hv
  have hx := B.exec
  have hb := B.bytes
  have hr := B.returns
  have hts := atoms_spec (ws := w_Speller_init) B.pre
  have hown : s.vm.findClass "HazardTables$Speller" = some m.cls := findClass_of_methodNamed B.named
  have hlocks := B.notSynchronized
  have hin : meth.name = "<init>" := (name_of_methodNamed B.named B.method).1
  subst hsz
  have hD := hD0.self (sz := s.heap.size)
  generalize hAe : va_A [(h0, .inr (2, [.null, .null, .null, .null, .int 0, .int 0]))] s.heap.size = A at hD ⊢
  have hA : ∀ q : Nat, s.heap.size ≤ q → A q := fun q h => by rw [← hAe]; exact Or.inr h
  have hS : va_S A s.heap s.heap [] := va_S.rf
  have hP : va_P (dC, dI) vwCl [(h0, .inr (2, [.null, .null, .null, .null, .int 0, .int 0]))] s.heap := hP
  have hin_Speller : ∀ w ∈ u_ws "HazardTables$Speller" F_Speller 6, w ∈ w_Speller_init := fun w h => List.mem_cons_of_mem _ (hinA_Speller w h)
  have fl_15 := (hts _ (List.mem_cons_of_mem _ wd_97))
  have fl_20 := (hts _ (List.mem_cons_of_mem _ wd_98))
  have fl_23 := (hts _ (List.mem_cons_of_mem _ wd_99))
  have fl_9 := (hts _ (List.mem_cons_of_mem _ wd_96))
  have hl := lv_entry ([.ref h0]) (n := 1) (Nat.le_of_ble_eq_true rfl)
  rw [lg_entry_eq]
  generalize (lg_sl ([.ref h0]) ++ List.replicate (1 - (lg_sl ([.ref h0])).length) Slot.unset).toArray = ls at hl ⊢
  have hl : lv_has ls 1 [(0, .ref h0)] := hl
  refine lv_aload_n hx hb d_Speller_init_0 rfl (lv_at hl 0 rfl) ?_
  refine W.objInit hx hb hown (hts _ (List.mem_cons_of_mem _ wd_95)) (hts _ (List.mem_cons_of_mem _ wd_64)) (hts _ (List.mem_cons_of_mem _ wd_65)) rfl (by rw [hml]; exact hl.1) rfl d_Speller_init_1 (Nat.le_of_ble_eq_true rfl) (Nat.le_of_ble_eq_true rfl) ?_
  refine W.eq (g2 := F0 m 4 ls []) rfl ?_
  refine lv_aload_n hx hb d_Speller_init_4 rfl (lv_at hl 0 rfl) ?_
  refine lv_bipush (v := 8) hx hb d_Speller_init_5 (by decide) ?_
  refine va_newa (atype := .int) (ty := .int) (n := 8) (N' := 8) (a0 := (8, .inl (fun _ => 0))) hx hb (hts _ (List.mem_cons_of_mem _ wd_89)) rfl hK hP hD hS hA (fun _ => rfl) (by decide) (by decide) (by decide) (Nat.le_of_ble_eq_true rfl) (Nat.le_of_ble_eq_true rfl) d_Speller_init_7 (fun q1 c1 H hK hP hD hS => ?_)
  have hP : va_P (dC, dI) vwCl [(h0, .inr (2, [.null, .null, .null, .null, .int 0, .int 0])), (q1, .inl (c1, 8, .inl (fun _ => 0)))] H := hP
  have hD : va_D A [(h0, .inr (2, [.null, .null, .null, .null, .int 0, .int 0])), (q1, .inl (c1, 8, .inl (fun _ => 0)))] := hD
  have hK : va_K (dC, dI) vwCl [(c1, .int)] s := hK
  refine W.widen (k := 1) (n := 8) (Nat.le_refl _) (Nat.le_refl _) ?_
  refine va_putF (D := (dC, dI)) (ci := 2) (v := .ref q1) (ty := .array .int) (C := "HazardTables$Speller") (T := F_Speller) (N := 6) hx hb hts hin_Speller t_Speller t_Speller_ok n_Speller hown hK hP hD hS 0 rfl rfl 0 (by decide) fl_9 (fun _ h9 => h9) rfl hin rfl (by decide +kernel) rfl rfl (Nat.le_of_ble_eq_true rfl) d_Speller_init_9 (fun H locs hP hD hS => ?_)
  have hP : va_P (dC, dI) vwCl [(h0, .inr (2, [.ref q1, .null, .null, .null, .int 0, .int 0])), (q1, .inl (c1, 8, .inl (fun _ => 0)))] H := hP
  have hD : va_D A [(h0, .inr (2, [.ref q1, .null, .null, .null, .int 0, .int 0])), (q1, .inl (c1, 8, .inl (fun _ => 0)))] := hD
  refine lv_aload_n hx hb d_Speller_init_12 rfl (lv_at hl 0 rfl) ?_
  refine lv_bipush (v := 9) hx hb d_Speller_init_13 (by decide) ?_
  refine va_newa (atype := .int) (ty := .int) (n := 9) (N' := 9) (a0 := (9, .inl (fun _ => 0))) hx hb (hts _ (List.mem_cons_of_mem _ wd_89)) rfl hK hP hD hS hA (fun _ => rfl) (by decide) (by decide) (by decide) (Nat.le_of_ble_eq_true rfl) (Nat.le_of_ble_eq_true rfl) d_Speller_init_15 (fun q2 c2 H hK hP hD hS => ?_)
  have hP : va_P (dC, dI) vwCl [(h0, .inr (2, [.ref q1, .null, .null, .null, .int 0, .int 0])), (q1, .inl (c1, 8, .inl (fun _ => 0))), (q2, .inl (c2, 9, .inl (fun _ => 0)))] H := hP
  have hD : va_D A [(h0, .inr (2, [.ref q1, .null, .null, .null, .int 0, .int 0])), (q1, .inl (c1, 8, .inl (fun _ => 0))), (q2, .inl (c2, 9, .inl (fun _ => 0)))] := hD
  have hK : va_K (dC, dI) vwCl [(c1, .int), (c2, .int)] s := hK
  refine W.widen (k := 2) (n := 17) (Nat.le_refl _) (Nat.le_refl _) ?_
  refine va_putF (D := (dC, dI)) (ci := 2) (v := .ref q2) (ty := .array .int) (C := "HazardTables$Speller") (T := F_Speller) (N := 6) hx hb hts hin_Speller t_Speller t_Speller_ok n_Speller hown hK hP hD hS 0 rfl rfl 1 (by decide) fl_15 (fun _ h9 => h9) rfl hin rfl (by decide +kernel) rfl rfl (Nat.le_of_ble_eq_true rfl) d_Speller_init_17 (fun H locs hP hD hS => ?_)
  have hP : va_P (dC, dI) vwCl [(h0, .inr (2, [.ref q1, .ref q2, .null, .null, .int 0, .int 0])), (q1, .inl (c1, 8, .inl (fun _ => 0))), (q2, .inl (c2, 9, .inl (fun _ => 0)))] H := hP
  have hD : va_D A [(h0, .inr (2, [.ref q1, .ref q2, .null, .null, .int 0, .int 0])), (q1, .inl (c1, 8, .inl (fun _ => 0))), (q2, .inl (c2, 9, .inl (fun _ => 0)))] := hD
  refine lv_aload_n hx hb d_Speller_init_20 rfl (lv_at hl 0 rfl) ?_
  refine lv_bipush (v := 12) hx hb d_Speller_init_21 (by decide) ?_
  refine va_newa (atype := .int) (ty := .int) (n := 12) (N' := 12) (a0 := (12, .inl (fun _ => 0))) hx hb (hts _ (List.mem_cons_of_mem _ wd_89)) rfl hK hP hD hS hA (fun _ => rfl) (by decide) (by decide) (by decide) (Nat.le_of_ble_eq_true rfl) (Nat.le_of_ble_eq_true rfl) d_Speller_init_23 (fun q3 c3 H hK hP hD hS => ?_)
  have hP : va_P (dC, dI) vwCl [(h0, .inr (2, [.ref q1, .ref q2, .null, .null, .int 0, .int 0])), (q1, .inl (c1, 8, .inl (fun _ => 0))), (q2, .inl (c2, 9, .inl (fun _ => 0))), (q3, .inl (c3, 12, .inl (fun _ => 0)))] H := hP
  have hD : va_D A [(h0, .inr (2, [.ref q1, .ref q2, .null, .null, .int 0, .int 0])), (q1, .inl (c1, 8, .inl (fun _ => 0))), (q2, .inl (c2, 9, .inl (fun _ => 0))), (q3, .inl (c3, 12, .inl (fun _ => 0)))] := hD
  have hK : va_K (dC, dI) vwCl [(c1, .int), (c2, .int), (c3, .int)] s := hK
  refine W.widen (k := 3) (n := 29) (Nat.le_refl _) (Nat.le_refl _) ?_
  refine va_putF (D := (dC, dI)) (ci := 2) (v := .ref q3) (ty := .array .int) (C := "HazardTables$Speller") (T := F_Speller) (N := 6) hx hb hts hin_Speller t_Speller t_Speller_ok n_Speller hown hK hP hD hS 0 rfl rfl 2 (by decide) fl_20 (fun _ h9 => h9) rfl hin rfl (by decide +kernel) rfl rfl (Nat.le_of_ble_eq_true rfl) d_Speller_init_25 (fun H locs hP hD hS => ?_)
  have hP : va_P (dC, dI) vwCl [(h0, .inr (2, [.ref q1, .ref q2, .ref q3, .null, .int 0, .int 0])), (q1, .inl (c1, 8, .inl (fun _ => 0))), (q2, .inl (c2, 9, .inl (fun _ => 0))), (q3, .inl (c3, 12, .inl (fun _ => 0)))] H := hP
  have hD : va_D A [(h0, .inr (2, [.ref q1, .ref q2, .ref q3, .null, .int 0, .int 0])), (q1, .inl (c1, 8, .inl (fun _ => 0))), (q2, .inl (c2, 9, .inl (fun _ => 0))), (q3, .inl (c3, 12, .inl (fun _ => 0)))] := hD
  refine lv_aload_n hx hb d_Speller_init_28 rfl (lv_at hl 0 rfl) ?_
  refine lv_bipush (v := 12) hx hb d_Speller_init_29 (by decide) ?_
  refine va_newa (atype := .int) (ty := .int) (n := 12) (N' := 12) (a0 := (12, .inl (fun _ => 0))) hx hb (hts _ (List.mem_cons_of_mem _ wd_89)) rfl hK hP hD hS hA (fun _ => rfl) (by decide) (by decide) (by decide) (Nat.le_of_ble_eq_true rfl) (Nat.le_of_ble_eq_true rfl) d_Speller_init_31 (fun q4 c4 H hK hP hD hS => ?_)
  have hP : va_P (dC, dI) vwCl [(h0, .inr (2, [.ref q1, .ref q2, .ref q3, .null, .int 0, .int 0])), (q1, .inl (c1, 8, .inl (fun _ => 0))), (q2, .inl (c2, 9, .inl (fun _ => 0))), (q3, .inl (c3, 12, .inl (fun _ => 0))), (q4, .inl (c4, 12, .inl (fun _ => 0)))] H := hP
  have hD : va_D A [(h0, .inr (2, [.ref q1, .ref q2, .ref q3, .null, .int 0, .int 0])), (q1, .inl (c1, 8, .inl (fun _ => 0))), (q2, .inl (c2, 9, .inl (fun _ => 0))), (q3, .inl (c3, 12, .inl (fun _ => 0))), (q4, .inl (c4, 12, .inl (fun _ => 0)))] := hD
  have hK : va_K (dC, dI) vwCl [(c1, .int), (c2, .int), (c3, .int), (c4, .int)] s := hK
  refine W.widen (k := 4) (n := 41) (Nat.le_refl _) (Nat.le_refl _) ?_
  refine va_putF (D := (dC, dI)) (ci := 2) (v := .ref q4) (ty := .array .int) (C := "HazardTables$Speller") (T := F_Speller) (N := 6) hx hb hts hin_Speller t_Speller t_Speller_ok n_Speller hown hK hP hD hS 0 rfl rfl 3 (by decide) fl_23 (fun _ h9 => h9) rfl hin rfl (by decide +kernel) rfl rfl (Nat.le_of_ble_eq_true rfl) d_Speller_init_33 (fun H locs hP hD hS => ?_)
  have hP : va_P (dC, dI) vwCl [(h0, .inr (2, [.ref q1, .ref q2, .ref q3, .ref q4, .int 0, .int 0])), (q1, .inl (c1, 8, .inl (fun _ => 0))), (q2, .inl (c2, 9, .inl (fun _ => 0))), (q3, .inl (c3, 12, .inl (fun _ => 0))), (q4, .inl (c4, 12, .inl (fun _ => 0)))] H := hP
  have hD : va_D A [(h0, .inr (2, [.ref q1, .ref q2, .ref q3, .ref q4, .int 0, .int 0])), (q1, .inl (c1, 8, .inl (fun _ => 0))), (q2, .inl (c2, 9, .inl (fun _ => 0))), (q3, .inl (c3, 12, .inl (fun _ => 0))), (q4, .inl (c4, 12, .inl (fun _ => 0)))] := hD
  exact W.vret hx hb hr (fun t ht hW => ⟨⟨init_Speller, rfl, rfl, (fun k => match k with | 0 => h0 | 1 => q1 | 2 => q2 | 3 => q3 | _ => q4), (fun k => match k with | 1 => c1 | 2 => c2 | 3 => c3 | _ => c4), rfl, by rw [ht]; exact hP, va_K.moved hW.alike hK, hD⟩, hS.F ht⟩) hS.2.2 d_Speller_init_36
noncomputable def f_Speller_forget (sp : SSpeller) : Option (SSpeller) :=
  (some (sp.1, sp.2.1, sp.2.2.1, sp.2.2.2.1, sp.2.2.2.2.1, (0 : Int32)))
set_option maxHeartbeats 4000000 in
set_option maxRecDepth 100000 in
theorem k_Speller_forget (l : Launch) (dC : Nat → ClassId) (dI : Nat → Nat → Nat) (ad_sp : Nat → Nat) (cA_sp : Nat → ClassId) (sz : Nat) (sp : SSpeller) (res : SSpeller) (hf : f_Speller_forget sp = some res) : Met l y_Speller_forget w_Speller_forget ({ frames := 0, cells := 0, slots := 0, locals := 0 }) (cPc (dC, dI) (uw_Speller ad_sp cA_sp sp) [(cA_sp 1, .int), (cA_sp 2, .int), (cA_sp 3, .int), (cA_sp 4, .int)] sz [.ref (ad_sp 0)]) (va_Qv (fun (u : SSpeller) => u = res) (fun (u : SSpeller) (t : State) => va_P (dC, dI) vwCl (uw_Speller ad_sp cA_sp u) t.heap ∧ va_K (dC, dI) vwCl [(cA_sp 1, .int), (cA_sp 2, .int), (cA_sp 3, .int), (cA_sp 4, .int)] t ∧ va_D (va_A (uw_Speller ad_sp cA_sp sp) sz) (uw_Speller ad_sp cA_sp u)) (va_A (uw_Speller ad_sp cA_sp sp) sz)) 0 0 (va_A (uw_Speller ad_sp cA_sp sp) sz) := by
  refine Met.ofW (cc := b_Speller_forget) (maxL := 1) (ret := none) (by decide) rfl ?_
  intro p e s m args below meth c s₁ B hml hv
  obtain ⟨rfl, hsz, hP, hK, hD0, hN⟩ := hv
  have hx := B.exec
  have hb := B.bytes
  have hr := B.returns
  have hts := atoms_spec (ws := w_Speller_forget) B.pre
  have hown : s.vm.findClass "HazardTables$Speller" = some m.cls := findClass_of_methodNamed B.named
  have hlocks := B.notSynchronized
  subst hsz
  have hD := hD0.self (sz := s.heap.size)
  generalize hAe : va_A (uw_Speller ad_sp cA_sp sp) s.heap.size = A at hD ⊢
  have hA : ∀ q : Nat, s.heap.size ≤ q → A q := fun q h => by rw [← hAe]; exact Or.inr h
  have hS : va_S A s.heap s.heap [] := va_S.rf
  have hP : va_P (dC, dI) vwCl (uw_Speller ad_sp cA_sp sp) s.heap := hP
  have fl_26 := (hts _ (List.mem_cons_of_mem _ wd_101))
  have hin_Speller : ∀ w ∈ u_ws "HazardTables$Speller" F_Speller 6, w ∈ w_Speller_forget := fun w h => List.mem_cons_of_mem _ (hinA_Speller w h)
  have ret : ∀ (u : SSpeller) (H : Heap) (locs : List Loc) (ls : Array Slot) (pc : Nat), decode b_Speller_forget pc = .ok (.return_, 1) → u = res → va_P (dC, dI) vwCl (uw_Speller ad_sp cA_sp u) H → va_D A (uw_Speller ad_sp cA_sp u) → va_S A s.heap H locs → W p l e (headSpec w_Speller_forget ({ frames := 0, cells := 0, slots := 0, locals := 0 })).room s m ([.ref (ad_sp 0)] : List Value).toArray below meth c H locs 0 0 (MQ below (va_Qv (fun (u : SSpeller) => u = res) (fun (u : SSpeller) (t : State) => va_P (dC, dI) vwCl (uw_Speller ad_sp cA_sp u) t.heap ∧ va_K (dC, dI) vwCl [(cA_sp 1, .int), (cA_sp 2, .int), (cA_sp 3, .int), (cA_sp 4, .int)] t ∧ va_D A (uw_Speller ad_sp cA_sp u)) A) ([.ref (ad_sp 0)] : List Value).toArray s 0 0 A) (F0 m pc ls []) := fun u H locs ls pc hd hp hP hD hS => W.vret hx hb hr (fun t ht hW => ⟨⟨u, rfl, hp, by rw [ht]; exact hP, va_K.moved hW.alike hK, hD⟩, hS.F ht⟩) hS.2.2 hd
  generalize (MQ below (va_Qv (fun (u : SSpeller) => u = res) (fun (u : SSpeller) (t : State) => va_P (dC, dI) vwCl (uw_Speller ad_sp cA_sp u) t.heap ∧ va_K (dC, dI) vwCl [(cA_sp 1, .int), (cA_sp 2, .int), (cA_sp 3, .int), (cA_sp 4, .int)] t ∧ va_D A (uw_Speller ad_sp cA_sp u)) A) ([.ref (ad_sp 0)] : List Value).toArray s 0 0 A) = Q at ret ⊢
  have hl := lv_entry ([.ref (ad_sp 0)]) (n := 1) (Nat.le_of_ble_eq_true rfl)
  rw [lg_entry_eq]
  generalize (lg_sl ([.ref (ad_sp 0)]) ++ List.replicate (1 - (lg_sl ([.ref (ad_sp 0)])).length) Slot.unset).toArray = ls at hl ⊢
  have hl : lv_has ls 1 [(0, .ref (ad_sp 0))] := hl
  have hf := hf
  rw [f_Speller_forget] at hf
  obtain ⟨H, hH⟩ : ∃ H : Heap, H = s.heap := ⟨_, rfl⟩
  obtain ⟨locs, hlocs⟩ : ∃ L : List Loc, L = [] := ⟨_, rfl⟩
  have hP : va_P (dC, dI) vwCl (uw_Speller ad_sp cA_sp sp) H := by rw [hH]; exact hP
  have hS : va_S A s.heap H locs := by rw [hH, hlocs]; exact hS
  show W p l e (headSpec w_Speller_forget ({ frames := 0, cells := 0, slots := 0, locals := 0 })).room s m ([.ref (ad_sp 0)] : List Value).toArray below meth c s.heap [] 0 0 Q (F0 m 0 ls [])
  suffices hgo : W p l e (headSpec w_Speller_forget ({ frames := 0, cells := 0, slots := 0, locals := 0 })).room s m ([.ref (ad_sp 0)] : List Value).toArray below meth c H locs 0 0 Q (F0 m 0 ls []) by rw [hH, hlocs] at hgo; exact hgo
  clear hH hlocs
  refine lv_aload_n hx hb d_Speller_forget_0 rfl (lv_at hl 0 rfl) ?_
  refine lv_iconst (v := (0 : Int32)) hx hb d_Speller_forget_1 (by decide) ?_
  refine va_put (D := (dC, dI)) (ci := 2) (v := .int (0 : Int32)) (ty := .int) (C := "HazardTables$Speller") (T := F_Speller) (N := 6) hx hb hts hin_Speller t_Speller t_Speller_ok n_Speller hown hK hP hD hS 0 rfl rfl 5 (by decide) fl_26 (fun _ h9 => h9) rfl (by decide +kernel) rfl rfl (Nat.le_of_ble_eq_true rfl) d_Speller_forget_2 (fun H locs hP hD hS => ?_)
  have hP : va_P (dC, dI) vwCl (uw_Speller ad_sp cA_sp (sp.1, sp.2.1, sp.2.2.1, sp.2.2.2.1, sp.2.2.2.2.1, (0 : Int32))) H := hP
  have hD : va_D A (uw_Speller ad_sp cA_sp (sp.1, sp.2.1, sp.2.2.1, sp.2.2.2.1, sp.2.2.2.2.1, (0 : Int32))) := hD
  exact ret  (sp.1, sp.2.1, sp.2.2.1, sp.2.2.2.1, sp.2.2.2.2.1, (0 : Int32)) H locs ls 5 d_Speller_forget_5 (Option.some.inj hf) hP hD hS
noncomputable def f_Speller_hear_10  : Nat → SSpeller → Int64 → Int32 → Option (SSpeller)
  | 0, _, _, _ => none
  | n + 1, sp, y1, y4 =>
    (if y4 < 0 then
      (some sp)
     else
      (if (8 : Int32) ≤ sp.2.2.2.2.1 then
        (some sp)
       else
        (Option.bind (f_HT_byteOf y1 y4) fun u3 =>
          (if inb sp.2.2.2.2.1 8 then
            (f_Speller_hear_10 n (upd sp.1 sp.2.2.2.2.1.toNatClampNeg u3, sp.2.1, sp.2.2.1, sp.2.2.2.1, sp.2.2.2.2.1 + (1 : Int32), sp.2.2.2.2.2) y1 (y4 + (-1 : Int32)))
           else none)
         )
       )
     )
noncomputable def f_Speller_hear (sp : SSpeller) (x1 : Int64) (x3 : Int32) : Option (SSpeller) :=
  (f_Speller_hear_10 4096 (sp.1, sp.2.1, sp.2.2.1, sp.2.2.2.1, (0 : Int32), sp.2.2.2.2.2) x1 (x3 - (1 : Int32)))
set_option maxHeartbeats 4000000 in
set_option maxRecDepth 100000 in
theorem k_Speller_hear (l : Launch) (dC : Nat → ClassId) (dI : Nat → Nat → Nat) (ad_sp : Nat → Nat) (cA_sp : Nat → ClassId) (sz : Nat) (sp : SSpeller) (x1 : Int64) (x3 : Int32) (res : SSpeller) (hf : f_Speller_hear sp x1 x3 = some res) : Met l y_Speller_hear w_Speller_hear ({ frames := 1, cells := 0, slots := 0, locals := 22 }) (cPc (dC, dI) (uw_Speller ad_sp cA_sp sp) [(cA_sp 1, .int), (cA_sp 2, .int), (cA_sp 3, .int), (cA_sp 4, .int)] sz [.ref (ad_sp 0), .long x1, .int x3]) (va_Qv (fun (u : SSpeller) => u = res) (fun (u : SSpeller) (t : State) => va_P (dC, dI) vwCl (uw_Speller ad_sp cA_sp u) t.heap ∧ va_K (dC, dI) vwCl [(cA_sp 1, .int), (cA_sp 2, .int), (cA_sp 3, .int), (cA_sp 4, .int)] t ∧ va_D (va_A (uw_Speller ad_sp cA_sp sp) sz) (uw_Speller ad_sp cA_sp u)) (va_A (uw_Speller ad_sp cA_sp sp) sz)) 0 0 (va_A (uw_Speller ad_sp cA_sp sp) sz) := by
  refine Met.ofW (cc := b_Speller_hear) (maxL := 5) (ret := none) (by decide) rfl ?_
  intro p e s m args below meth c s₁ B hml hv
  obtain ⟨rfl, hsz, hP, hK, hD0, hN⟩ := hv
  have hx := B.exec
  have hb := B.bytes
  have hr := B.returns
  have hts := atoms_spec (ws := w_Speller_hear) B.pre
  have hown : s.vm.findClass "HazardTables$Speller" = some m.cls := findClass_of_methodNamed B.named
  have hlocks := B.notSynchronized
  subst hsz
  have hD := hD0.self (sz := s.heap.size)
  generalize hAe : va_A (uw_Speller ad_sp cA_sp sp) s.heap.size = A at hD ⊢
  have hA : ∀ q : Nat, s.heap.size ≤ q → A q := fun q h => by rw [← hAe]; exact Or.inr h
  have hS : va_S A s.heap s.heap [] := va_S.rf
  have hP : va_P (dC, dI) vwCl (uw_Speller ad_sp cA_sp sp) s.heap := hP
  have fl_30 := (hts _ (List.mem_cons_of_mem _ wd_100))
  have fl_9 := (hts _ (List.mem_cons_of_mem _ wd_96))
  have hin_Speller : ∀ w ∈ u_ws "HazardTables$Speller" F_Speller 6, w ∈ w_Speller_hear := fun w h => List.mem_cons_of_mem _ (hinA_Speller w h)
  have ret : ∀ (u : SSpeller) (H : Heap) (locs : List Loc) (ls : Array Slot) (pc : Nat), decode b_Speller_hear pc = .ok (.return_, 1) → u = res → va_P (dC, dI) vwCl (uw_Speller ad_sp cA_sp u) H → va_D A (uw_Speller ad_sp cA_sp u) → va_S A s.heap H locs → W p l e (headSpec w_Speller_hear ({ frames := 1, cells := 0, slots := 0, locals := 22 })).room s m ([.ref (ad_sp 0), .long x1, .int x3] : List Value).toArray below meth c H locs 0 0 (MQ below (va_Qv (fun (u : SSpeller) => u = res) (fun (u : SSpeller) (t : State) => va_P (dC, dI) vwCl (uw_Speller ad_sp cA_sp u) t.heap ∧ va_K (dC, dI) vwCl [(cA_sp 1, .int), (cA_sp 2, .int), (cA_sp 3, .int), (cA_sp 4, .int)] t ∧ va_D A (uw_Speller ad_sp cA_sp u)) A) ([.ref (ad_sp 0), .long x1, .int x3] : List Value).toArray s 0 0 A) (F0 m pc ls []) := fun u H locs ls pc hd hp hP hD hS => W.vret hx hb hr (fun t ht hW => ⟨⟨u, rfl, hp, by rw [ht]; exact hP, va_K.moved hW.alike hK, hD⟩, hS.F ht⟩) hS.2.2 hd
  generalize (MQ below (va_Qv (fun (u : SSpeller) => u = res) (fun (u : SSpeller) (t : State) => va_P (dC, dI) vwCl (uw_Speller ad_sp cA_sp u) t.heap ∧ va_K (dC, dI) vwCl [(cA_sp 1, .int), (cA_sp 2, .int), (cA_sp 3, .int), (cA_sp 4, .int)] t ∧ va_D A (uw_Speller ad_sp cA_sp u)) A) ([.ref (ad_sp 0), .long x1, .int x3] : List Value).toArray s 0 0 A) = Q at ret ⊢
  have w_10 : ∀ (n : Nat) (sp : SSpeller) (y1 : Int64) (y4 : Int32) (H : Heap) (locs : List Loc) (ls : Array Slot), f_Speller_hear_10 n sp y1 y4 = some res → va_P (dC, dI) vwCl (uw_Speller ad_sp cA_sp sp) H → va_D A (uw_Speller ad_sp cA_sp sp) → va_S A s.heap H locs → lv_has ls 5 [(0, .ref (ad_sp 0)), (1, .long y1), (4, .int y4)] → W p l e (headSpec w_Speller_hear ({ frames := 1, cells := 0, slots := 0, locals := 22 })).room s m ([.ref (ad_sp 0), .long x1, .int x3] : List Value).toArray below meth c H locs 0 0 Q (F0 m 10 ls []) := by
    intro n
    induction n with
    | zero =>
      intro sp y1 y4 H locs ls hf hP hD hS hl
      rw [f_Speller_hear_10] at hf; cases hf
    | succ n ih =>
      intro sp y1 y4 H locs ls hf hP hD hS hl
      rw [f_Speller_hear_10] at hf
      refine lv_iload hx hb d_Speller_hear_10 (lv_at hl 2 rfl) ?_
      refine lv_if_lt (tgt := 55) hx hb d_Speller_hear_12 (by decide) (fun hc1 => ?_) (fun hc1 => ?_)
      · have hf := hf_t hf hc1
        exact ret  sp H locs ls 55 d_Speller_hear_55 (Option.some.inj hf) hP hD hS
      · have hf := hf_f hf hc1
        refine lv_aload_n hx hb d_Speller_hear_15 rfl (lv_at hl 0 rfl) ?_
        refine va_get (D := (dC, dI)) (ci := 2) (v := .int sp.2.2.2.2.1) (C := "HazardTables$Speller") (T := F_Speller) (N := 6) hx hb hts hin_Speller hown hK hP 0 rfl rfl 4 (by decide) fl_30 (fun _ h9 => h9) rfl d_Speller_hear_16 ?_
        refine lv_bipush (v := (8 : Int32)) hx hb d_Speller_hear_19 (by decide) ?_
        refine lv_icmp_ge (tgt := 55) hx hb d_Speller_hear_21 (by decide) (fun hc2 => ?_) (fun hc2 => ?_)
        · have hf := hf_t hf hc2
          exact ret  sp H locs ls 55 d_Speller_hear_55 (Option.some.inj hf) hP hD hS
        · have hf := hf_f hf hc2
          refine lv_aload_n hx hb d_Speller_hear_24 rfl (lv_at hl 0 rfl) ?_
          refine va_get (D := (dC, dI)) (ci := 2) (v := .ref (ad_sp 1)) (C := "HazardTables$Speller") (T := F_Speller) (N := 6) hx hb hts hin_Speller hown hK hP 0 rfl rfl 0 (by decide) fl_9 (fun _ h9 => h9) rfl d_Speller_hear_25 ?_
          refine lv_aload_n hx hb d_Speller_hear_28 rfl (lv_at hl 0 rfl) ?_
          refine va_get (D := (dC, dI)) (ci := 2) (v := .int sp.2.2.2.2.1) (C := "HazardTables$Speller") (T := F_Speller) (N := 6) hx hb hts hin_Speller hown hK hP 0 rfl rfl 4 (by decide) fl_30 (fun _ h9 => h9) rfl d_Speller_hear_29 ?_
          refine lv_lload_n hx hb d_Speller_hear_32 rfl (lv_at hl 1 rfl) ?_
          refine lv_iload hx hb d_Speller_hear_33 (lv_at hl 2 rfl) ?_
          obtain ⟨u3, hu3, hf⟩ := Option.bind_eq_some_iff.mp hf
          refine cl_i (wc := []) (wr := (uw_Speller ad_sp cA_sp sp)) (tysC := []) (wu := fun (u : Unit) => []) (wn := fun (u : Unit) => (uw_Speller ad_sp cA_sp sp)) [] [0, 1, 2, 3, 4] [0, 1, 2, 3, 4] [] hP hD hS hA hK rfl rfl (by decide +kernel) (by decide +kernel) (by decide +kernel) rfl (fun _ => rfl) (by decide +kernel) (fun hPc hKc hDc => (va_runSN (As := [.long y1, .int y4]) (rest := [.int sp.2.2.2.2.1, .ref (ad_sp 1)]) ⟨hx, hb, hml, hown, hts⟩ (k_HT_byteOf l dC dI  H.size y1 y4 u3 hu3) ⟨va_cnB 2 hts (gC wd_341) rfl rfl rfl hN.2.2.2 (hts _ (List.mem_cons_of_mem _ wd_43)) (by decide +kernel) ⟨Nat.le_of_ble_eq_true rfl, Nat.le_of_ble_eq_true rfl⟩, (hts _ (List.mem_cons_of_mem _ wd_340)), trivial⟩ (cl_preS hPc hKc hDc hN) rfl rfl hl.1 rfl (lv_room (Nat.le_of_ble_eq_true rfl)) d_Speller_hear_35 ⟨Nat.le_of_ble_eq_true rfl, Nat.le_of_ble_eq_true rfl⟩)) (fun r u H locs hw hP hD hS => ?_)
          have hw := hw.symm
          subst hw
          have hP : va_P (dC, dI) vwCl (uw_Speller ad_sp cA_sp sp) H := hP
          have hD : va_D A (uw_Speller ad_sp cA_sp sp) := hD
          obtain ⟨hi4, hf⟩ := hf_g hf
          refine va_iast hx hb hK hP hD hS 1 0 rfl rfl hi4 d_Speller_hear_38 (fun H locs hP hD hS => ?_)
          have hP : va_P (dC, dI) vwCl (uw_Speller ad_sp cA_sp (upd sp.1 sp.2.2.2.2.1.toNatClampNeg u3, sp.2.1, sp.2.2.1, sp.2.2.2.1, sp.2.2.2.2.1, sp.2.2.2.2.2)) H := hP
          have hD : va_D A (uw_Speller ad_sp cA_sp (upd sp.1 sp.2.2.2.2.1.toNatClampNeg u3, sp.2.1, sp.2.2.1, sp.2.2.2.1, sp.2.2.2.2.1, sp.2.2.2.2.2)) := hD
          refine lv_aload_n hx hb d_Speller_hear_39 rfl (lv_at hl 0 rfl) ?_
          refine lv_dup hx hb d_Speller_hear_40 rfl ?_
          refine va_get (D := (dC, dI)) (ci := 2) (v := .int sp.2.2.2.2.1) (C := "HazardTables$Speller") (T := F_Speller) (N := 6) hx hb hts hin_Speller hown hK hP 0 rfl rfl 4 (by decide) fl_30 (fun _ h9 => h9) rfl d_Speller_hear_41 ?_
          refine lv_iconst (v := (1 : Int32)) hx hb d_Speller_hear_44 (by decide) ?_
          refine lv_iadd hx hb d_Speller_hear_45 ?_
          refine va_put (D := (dC, dI)) (ci := 2) (v := .int (sp.2.2.2.2.1 + (1 : Int32))) (ty := .int) (C := "HazardTables$Speller") (T := F_Speller) (N := 6) hx hb hts hin_Speller t_Speller t_Speller_ok n_Speller hown hK hP hD hS 0 rfl rfl 4 (by decide) fl_30 (fun _ h9 => h9) rfl (by decide +kernel) rfl rfl (Nat.le_of_ble_eq_true rfl) d_Speller_hear_46 (fun H locs hP hD hS => ?_)
          have hP : va_P (dC, dI) vwCl (uw_Speller ad_sp cA_sp (upd sp.1 sp.2.2.2.2.1.toNatClampNeg u3, sp.2.1, sp.2.2.1, sp.2.2.2.1, sp.2.2.2.2.1 + (1 : Int32), sp.2.2.2.2.2)) H := hP
          have hD : va_D A (uw_Speller ad_sp cA_sp (upd sp.1 sp.2.2.2.2.1.toNatClampNeg u3, sp.2.1, sp.2.2.1, sp.2.2.2.1, sp.2.2.2.2.1 + (1 : Int32), sp.2.2.2.2.2)) := hD
          refine lv_iinc (v := y4 + (-1 : Int32)) (lv' := [(4, .int (y4 + (-1 : Int32))), (0, .ref (ad_sp 0)), (1, .long y1)]) hx hb d_Speller_hear_49 hl (k := 2) rfl rfl (by decide) rfl (fun ls hl => ?_)
          refine lv_goto (tgt := 10) hx hb d_Speller_hear_52 (by decide) ?_
          exact ih (upd sp.1 sp.2.2.2.2.1.toNatClampNeg u3, sp.2.1, sp.2.2.1, sp.2.2.2.1, sp.2.2.2.2.1 + (1 : Int32), sp.2.2.2.2.2) y1 (y4 + (-1 : Int32)) H locs ls hf hP hD hS (lv_sub hl [1, 2, 0] rfl)
  have hl := lv_entry ([.ref (ad_sp 0), .long x1, .int x3]) (n := 5) (Nat.le_of_ble_eq_true rfl)
  rw [lg_entry_eq]
  generalize (lg_sl ([.ref (ad_sp 0), .long x1, .int x3]) ++ List.replicate (5 - (lg_sl ([.ref (ad_sp 0), .long x1, .int x3])).length) Slot.unset).toArray = ls at hl ⊢
  have hl : lv_has ls 5 [(0, .ref (ad_sp 0)), (1, .long x1), (3, .int x3)] := hl
  have hf := hf
  rw [f_Speller_hear] at hf
  obtain ⟨H, hH⟩ : ∃ H : Heap, H = s.heap := ⟨_, rfl⟩
  obtain ⟨locs, hlocs⟩ : ∃ L : List Loc, L = [] := ⟨_, rfl⟩
  have hP : va_P (dC, dI) vwCl (uw_Speller ad_sp cA_sp sp) H := by rw [hH]; exact hP
  have hS : va_S A s.heap H locs := by rw [hH, hlocs]; exact hS
  show W p l e (headSpec w_Speller_hear ({ frames := 1, cells := 0, slots := 0, locals := 22 })).room s m ([.ref (ad_sp 0), .long x1, .int x3] : List Value).toArray below meth c s.heap [] 0 0 Q (F0 m 0 ls [])
  suffices hgo : W p l e (headSpec w_Speller_hear ({ frames := 1, cells := 0, slots := 0, locals := 22 })).room s m ([.ref (ad_sp 0), .long x1, .int x3] : List Value).toArray below meth c H locs 0 0 Q (F0 m 0 ls []) by rw [hH, hlocs] at hgo; exact hgo
  clear hH hlocs
  refine lv_aload_n hx hb d_Speller_hear_0 rfl (lv_at hl 0 rfl) ?_
  refine lv_iconst (v := (0 : Int32)) hx hb d_Speller_hear_1 (by decide) ?_
  refine va_put (D := (dC, dI)) (ci := 2) (v := .int (0 : Int32)) (ty := .int) (C := "HazardTables$Speller") (T := F_Speller) (N := 6) hx hb hts hin_Speller t_Speller t_Speller_ok n_Speller hown hK hP hD hS 0 rfl rfl 4 (by decide) fl_30 (fun _ h9 => h9) rfl (by decide +kernel) rfl rfl (Nat.le_of_ble_eq_true rfl) d_Speller_hear_2 (fun H locs hP hD hS => ?_)
  have hP : va_P (dC, dI) vwCl (uw_Speller ad_sp cA_sp (sp.1, sp.2.1, sp.2.2.1, sp.2.2.2.1, (0 : Int32), sp.2.2.2.2.2)) H := hP
  have hD : va_D A (uw_Speller ad_sp cA_sp (sp.1, sp.2.1, sp.2.2.1, sp.2.2.2.1, (0 : Int32), sp.2.2.2.2.2)) := hD
  refine lv_iload_n hx hb d_Speller_hear_5 rfl (lv_at hl 2 rfl) ?_
  refine lv_iconst (v := (1 : Int32)) hx hb d_Speller_hear_6 (by decide) ?_
  refine lv_isub hx hb d_Speller_hear_7 ?_
  refine lv_istore (lv' := [(4, .int (x3 - (1 : Int32))), (0, .ref (ad_sp 0)), (1, .long x1), (3, .int x3)]) hx hb d_Speller_hear_8 hl (by decide) rfl (fun ls hl => ?_)
  exact w_10 4096 (sp.1, sp.2.1, sp.2.2.1, sp.2.2.2.1, (0 : Int32), sp.2.2.2.2.2) x1 (x3 - (1 : Int32)) H locs ls hf hP hD hS (lv_sub hl [1, 2, 0] rfl)
noncomputable def f_Speller_addLetter_55 (k_17 : SSpeller → Int32 → Int32 → Int32 → Option (SSpeller)) (sp : SSpeller) (y1 : Int32) (y4 : Int32) (z0 : Int32) (z1 : Bool) : Option (SSpeller) :=
  (if inb y4 9 then
    (if inb (y4 - (1 : Int32)) 9 then
      (if inb y4 9 then
        (if inb y4 9 then
          (k_17 (sp.1, upd sp.2.1 y4.toNatClampNeg (if ((1 : Int32) + (if (sp.2.1 y4.toNatClampNeg) < (sp.2.1 (y4 - (1 : Int32)).toNatClampNeg) then (sp.2.1 y4.toNatClampNeg) else (sp.2.1 (y4 - (1 : Int32)).toNatClampNeg))) < (z0 + (bI z1)) then ((1 : Int32) + (if (sp.2.1 y4.toNatClampNeg) < (sp.2.1 (y4 - (1 : Int32)).toNatClampNeg) then (sp.2.1 y4.toNatClampNeg) else (sp.2.1 (y4 - (1 : Int32)).toNatClampNeg))) else (z0 + (bI z1))), sp.2.2.1, sp.2.2.2.1, sp.2.2.2.2.1, sp.2.2.2.2.2) y1 (sp.2.1 y4.toNatClampNeg) (y4 + (1 : Int32)))
         else none)
       else none)
     else none)
   else none)
noncomputable def f_Speller_addLetter_17  : Nat → SSpeller → Int32 → Int32 → Int32 → Option (SSpeller)
  | 0, _, _, _, _ => none
  | n + 1, sp, y1, y3, y4 =>
    (if sp.2.2.2.2.1 < y4 then
      (some sp)
     else
      (if (9 : Int32) ≤ y4 then
        (some sp)
       else
        (if inb (y4 - (1 : Int32)) 8 then
          (if (sp.1 (y4 - (1 : Int32)).toNatClampNeg) = y1 then
            (f_Speller_addLetter_55 (f_Speller_addLetter_17 n) sp y1 y4 y3 false)
           else
            (f_Speller_addLetter_55 (f_Speller_addLetter_17 n) sp y1 y4 y3 true)
           )
         else none)
       )
     )
noncomputable def f_Speller_addLetter (sp : SSpeller) (x1 : Int32) (x2 : Int32) : Option (SSpeller) :=
  (if inb (0 : Int32) 9 then
    (if inb (0 : Int32) 9 then
      (f_Speller_addLetter_17 4096 (sp.1, upd sp.2.1 (0 : Int32).toNatClampNeg x2, sp.2.2.1, sp.2.2.2.1, sp.2.2.2.2.1, sp.2.2.2.2.2) x1 (sp.2.1 (0 : Int32).toNatClampNeg) (1 : Int32))
     else none)
   else none)
set_option maxHeartbeats 4000000 in
set_option maxRecDepth 100000 in
theorem k_Speller_addLetter (l : Launch) (dC : Nat → ClassId) (dI : Nat → Nat → Nat) (ad_sp : Nat → Nat) (cA_sp : Nat → ClassId) (sz : Nat) (sp : SSpeller) (x1 : Int32) (x2 : Int32) (res : SSpeller) (hf : f_Speller_addLetter sp x1 x2 = some res) : Met l y_Speller_addLetter w_Speller_addLetter ({ frames := 1, cells := 0, slots := 0, locals := 21 }) (cPc (dC, dI) (uw_Speller ad_sp cA_sp sp) [(cA_sp 1, .int), (cA_sp 2, .int), (cA_sp 3, .int), (cA_sp 4, .int)] sz [.ref (ad_sp 0), .int x1, .int x2]) (va_Qv (fun (u : SSpeller) => u = res) (fun (u : SSpeller) (t : State) => va_P (dC, dI) vwCl (uw_Speller ad_sp cA_sp u) t.heap ∧ va_K (dC, dI) vwCl [(cA_sp 1, .int), (cA_sp 2, .int), (cA_sp 3, .int), (cA_sp 4, .int)] t ∧ va_D (va_A (uw_Speller ad_sp cA_sp sp) sz) (uw_Speller ad_sp cA_sp u)) (va_A (uw_Speller ad_sp cA_sp sp) sz)) 0 0 (va_A (uw_Speller ad_sp cA_sp sp) sz) := by
  refine Met.ofW (cc := b_Speller_addLetter) (maxL := 6) (ret := none) (by decide) rfl ?_
  intro p e s m args below meth c s₁ B hml hv
  obtain ⟨rfl, hsz, hP, hK, hD0, hN⟩ := hv
  have hx := B.exec
  have hb := B.bytes
  have hr := B.returns
  have hts := atoms_spec (ws := w_Speller_addLetter) B.pre
  have hown : s.vm.findClass "HazardTables$Speller" = some m.cls := findClass_of_methodNamed B.named
  have hlocks := B.notSynchronized
  subst hsz
  have hD := hD0.self (sz := s.heap.size)
  generalize hAe : va_A (uw_Speller ad_sp cA_sp sp) s.heap.size = A at hD ⊢
  have hA : ∀ q : Nat, s.heap.size ≤ q → A q := fun q h => by rw [← hAe]; exact Or.inr h
  have hS : va_S A s.heap s.heap [] := va_S.rf
  have hP : va_P (dC, dI) vwCl (uw_Speller ad_sp cA_sp sp) s.heap := hP
  have fl_15 := (hts _ (List.mem_cons_of_mem _ wd_97))
  have fl_30 := (hts _ (List.mem_cons_of_mem _ wd_100))
  have fl_9 := (hts _ (List.mem_cons_of_mem _ wd_96))
  have hin_Speller : ∀ w ∈ u_ws "HazardTables$Speller" F_Speller 6, w ∈ w_Speller_addLetter := fun w h => List.mem_cons_of_mem _ (hinA_Speller w h)
  have ret : ∀ (u : SSpeller) (H : Heap) (locs : List Loc) (ls : Array Slot) (pc : Nat), decode b_Speller_addLetter pc = .ok (.return_, 1) → u = res → va_P (dC, dI) vwCl (uw_Speller ad_sp cA_sp u) H → va_D A (uw_Speller ad_sp cA_sp u) → va_S A s.heap H locs → W p l e (headSpec w_Speller_addLetter ({ frames := 1, cells := 0, slots := 0, locals := 21 })).room s m ([.ref (ad_sp 0), .int x1, .int x2] : List Value).toArray below meth c H locs 0 0 (MQ below (va_Qv (fun (u : SSpeller) => u = res) (fun (u : SSpeller) (t : State) => va_P (dC, dI) vwCl (uw_Speller ad_sp cA_sp u) t.heap ∧ va_K (dC, dI) vwCl [(cA_sp 1, .int), (cA_sp 2, .int), (cA_sp 3, .int), (cA_sp 4, .int)] t ∧ va_D A (uw_Speller ad_sp cA_sp u)) A) ([.ref (ad_sp 0), .int x1, .int x2] : List Value).toArray s 0 0 A) (F0 m pc ls []) := fun u H locs ls pc hd hp hP hD hS => W.vret hx hb hr (fun t ht hW => ⟨⟨u, rfl, hp, by rw [ht]; exact hP, va_K.moved hW.alike hK, hD⟩, hS.F ht⟩) hS.2.2 hd
  generalize (MQ below (va_Qv (fun (u : SSpeller) => u = res) (fun (u : SSpeller) (t : State) => va_P (dC, dI) vwCl (uw_Speller ad_sp cA_sp u) t.heap ∧ va_K (dC, dI) vwCl [(cA_sp 1, .int), (cA_sp 2, .int), (cA_sp 3, .int), (cA_sp 4, .int)] t ∧ va_D A (uw_Speller ad_sp cA_sp u)) A) ([.ref (ad_sp 0), .int x1, .int x2] : List Value).toArray s 0 0 A) = Q at ret ⊢
  have w_55 : ∀ (k_17 : SSpeller → Int32 → Int32 → Int32 → Option (SSpeller)), (∀ (sp : SSpeller) (y1 : Int32) (y3 : Int32) (y4 : Int32) (H : Heap) (locs : List Loc) (ls : Array Slot), k_17 sp y1 y3 y4 = some res → va_P (dC, dI) vwCl (uw_Speller ad_sp cA_sp sp) H → va_D A (uw_Speller ad_sp cA_sp sp) → va_S A s.heap H locs → lv_has ls 6 [(0, .ref (ad_sp 0)), (1, .int y1), (3, .int y3), (4, .int y4)] → W p l e (headSpec w_Speller_addLetter ({ frames := 1, cells := 0, slots := 0, locals := 21 })).room s m ([.ref (ad_sp 0), .int x1, .int x2] : List Value).toArray below meth c H locs 0 0 Q (F0 m 17 ls [])) → ∀ (sp : SSpeller) (y1 : Int32) (y4 : Int32) (z0 : Int32) (z1 : Bool) (H : Heap) (locs : List Loc) (ls : Array Slot), f_Speller_addLetter_55 k_17 sp y1 y4 z0 z1 = some res → va_P (dC, dI) vwCl (uw_Speller ad_sp cA_sp sp) H → va_D A (uw_Speller ad_sp cA_sp sp) → va_S A s.heap H locs → lv_has ls 6 [(0, .ref (ad_sp 0)), (1, .int y1), (4, .int y4)] → W p l e (headSpec w_Speller_addLetter ({ frames := 1, cells := 0, slots := 0, locals := 21 })).room s m ([.ref (ad_sp 0), .int x1, .int x2] : List Value).toArray below meth c H locs 0 0 Q (F0 m 55 ls [.int (bI z1), .int z0]) := by
    intro k_17 hk_17
    intro sp y1 y4 z0 z1 H locs ls hf hP hD hS hl
    rw [f_Speller_addLetter_55] at hf
    refine lv_iadd hx hb d_Speller_addLetter_55 ?_
    refine lv_istore (lv' := [(5, .int (z0 + (bI z1))), (0, .ref (ad_sp 0)), (1, .int y1), (4, .int y4)]) hx hb d_Speller_addLetter_56 hl (by decide) rfl (fun ls hl => ?_)
    refine lv_aload_n hx hb d_Speller_addLetter_58 rfl (lv_at hl 1 rfl) ?_
    refine va_get (D := (dC, dI)) (ci := 2) (v := .ref (ad_sp 2)) (C := "HazardTables$Speller") (T := F_Speller) (N := 6) hx hb hts hin_Speller hown hK hP 0 rfl rfl 1 (by decide) fl_15 (fun _ h9 => h9) rfl d_Speller_addLetter_59 ?_
    refine lv_iload hx hb d_Speller_addLetter_62 (lv_at hl 3 rfl) ?_
    obtain ⟨hi7, hf⟩ := hf_g hf
    refine va_iald hx hb hK hP 2 1 rfl rfl hi7 d_Speller_addLetter_64 ?_
    refine lv_istore_n (lv' := [(3, .int (sp.2.1 y4.toNatClampNeg)), (5, .int (z0 + (bI z1))), (0, .ref (ad_sp 0)), (1, .int y1), (4, .int y4)]) hx hb d_Speller_addLetter_65 rfl hl (by decide) rfl (fun ls hl => ?_)
    refine lv_aload_n hx hb d_Speller_addLetter_66 rfl (lv_at hl 2 rfl) ?_
    refine va_get (D := (dC, dI)) (ci := 2) (v := .ref (ad_sp 2)) (C := "HazardTables$Speller") (T := F_Speller) (N := 6) hx hb hts hin_Speller hown hK hP 0 rfl rfl 1 (by decide) fl_15 (fun _ h9 => h9) rfl d_Speller_addLetter_67 ?_
    refine lv_iload hx hb d_Speller_addLetter_70 (lv_at hl 4 rfl) ?_
    refine lv_iload hx hb d_Speller_addLetter_72 (lv_at hl 1 rfl) ?_
    refine lv_iconst (v := (1 : Int32)) hx hb d_Speller_addLetter_74 (by decide) ?_
    refine lv_aload_n hx hb d_Speller_addLetter_75 rfl (lv_at hl 2 rfl) ?_
    refine va_get (D := (dC, dI)) (ci := 2) (v := .ref (ad_sp 2)) (C := "HazardTables$Speller") (T := F_Speller) (N := 6) hx hb hts hin_Speller hown hK hP 0 rfl rfl 1 (by decide) fl_15 (fun _ h9 => h9) rfl d_Speller_addLetter_76 ?_
    refine lv_iload hx hb d_Speller_addLetter_79 (lv_at hl 4 rfl) ?_
    refine lv_iconst (v := (1 : Int32)) hx hb d_Speller_addLetter_81 (by decide) ?_
    refine lv_isub hx hb d_Speller_addLetter_82 ?_
    obtain ⟨hi8, hf⟩ := hf_g hf
    refine va_iald hx hb hK hP 2 1 rfl rfl hi8 d_Speller_addLetter_83 ?_
    refine lv_aload_n hx hb d_Speller_addLetter_84 rfl (lv_at hl 2 rfl) ?_
    refine va_get (D := (dC, dI)) (ci := 2) (v := .ref (ad_sp 2)) (C := "HazardTables$Speller") (T := F_Speller) (N := 6) hx hb hts hin_Speller hown hK hP 0 rfl rfl 1 (by decide) fl_15 (fun _ h9 => h9) rfl d_Speller_addLetter_85 ?_
    refine lv_iload hx hb d_Speller_addLetter_88 (lv_at hl 4 rfl) ?_
    obtain ⟨hi9, hf⟩ := hf_g hf
    refine va_iald hx hb hK hP 2 1 rfl rfl hi9 d_Speller_addLetter_90 ?_
    refine va_mmin hx hb (hml.trans hl.1.symm) hown (hts _ (List.mem_cons_of_mem _ wd_543)) (hts _ (List.mem_cons_of_mem _ wd_544)) (hts _ (List.mem_cons_of_mem _ wd_57)) (hts _ (List.mem_cons_of_mem _ wd_545)) (Nat.le_of_ble_eq_true rfl) (Nat.le_of_ble_eq_true rfl) (Nat.le_of_ble_eq_true rfl) (Nat.le_of_ble_eq_true rfl) d_Speller_addLetter_91 ?_
    refine lv_iadd hx hb d_Speller_addLetter_94 ?_
    refine va_mmin hx hb (hml.trans hl.1.symm) hown (hts _ (List.mem_cons_of_mem _ wd_543)) (hts _ (List.mem_cons_of_mem _ wd_544)) (hts _ (List.mem_cons_of_mem _ wd_57)) (hts _ (List.mem_cons_of_mem _ wd_545)) (Nat.le_of_ble_eq_true rfl) (Nat.le_of_ble_eq_true rfl) (Nat.le_of_ble_eq_true rfl) (Nat.le_of_ble_eq_true rfl) d_Speller_addLetter_95 ?_
    obtain ⟨hi10, hf⟩ := hf_g hf
    refine va_iast hx hb hK hP hD hS 2 1 rfl rfl hi10 d_Speller_addLetter_98 (fun H locs hP hD hS => ?_)
    have hP : va_P (dC, dI) vwCl (uw_Speller ad_sp cA_sp (sp.1, upd sp.2.1 y4.toNatClampNeg (if ((1 : Int32) + (if (sp.2.1 y4.toNatClampNeg) < (sp.2.1 (y4 - (1 : Int32)).toNatClampNeg) then (sp.2.1 y4.toNatClampNeg) else (sp.2.1 (y4 - (1 : Int32)).toNatClampNeg))) < (z0 + (bI z1)) then ((1 : Int32) + (if (sp.2.1 y4.toNatClampNeg) < (sp.2.1 (y4 - (1 : Int32)).toNatClampNeg) then (sp.2.1 y4.toNatClampNeg) else (sp.2.1 (y4 - (1 : Int32)).toNatClampNeg))) else (z0 + (bI z1))), sp.2.2.1, sp.2.2.2.1, sp.2.2.2.2.1, sp.2.2.2.2.2)) H := hP
    have hD : va_D A (uw_Speller ad_sp cA_sp (sp.1, upd sp.2.1 y4.toNatClampNeg (if ((1 : Int32) + (if (sp.2.1 y4.toNatClampNeg) < (sp.2.1 (y4 - (1 : Int32)).toNatClampNeg) then (sp.2.1 y4.toNatClampNeg) else (sp.2.1 (y4 - (1 : Int32)).toNatClampNeg))) < (z0 + (bI z1)) then ((1 : Int32) + (if (sp.2.1 y4.toNatClampNeg) < (sp.2.1 (y4 - (1 : Int32)).toNatClampNeg) then (sp.2.1 y4.toNatClampNeg) else (sp.2.1 (y4 - (1 : Int32)).toNatClampNeg))) else (z0 + (bI z1))), sp.2.2.1, sp.2.2.2.1, sp.2.2.2.2.1, sp.2.2.2.2.2)) := hD
    refine lv_iinc (v := y4 + (1 : Int32)) (lv' := [(4, .int (y4 + (1 : Int32))), (3, .int (sp.2.1 y4.toNatClampNeg)), (5, .int (z0 + (bI z1))), (0, .ref (ad_sp 0)), (1, .int y1)]) hx hb d_Speller_addLetter_99 hl (k := 4) rfl rfl (by decide) rfl (fun ls hl => ?_)
    refine lv_goto (tgt := 17) hx hb d_Speller_addLetter_102 (by decide) ?_
    exact hk_17 (sp.1, upd sp.2.1 y4.toNatClampNeg (if ((1 : Int32) + (if (sp.2.1 y4.toNatClampNeg) < (sp.2.1 (y4 - (1 : Int32)).toNatClampNeg) then (sp.2.1 y4.toNatClampNeg) else (sp.2.1 (y4 - (1 : Int32)).toNatClampNeg))) < (z0 + (bI z1)) then ((1 : Int32) + (if (sp.2.1 y4.toNatClampNeg) < (sp.2.1 (y4 - (1 : Int32)).toNatClampNeg) then (sp.2.1 y4.toNatClampNeg) else (sp.2.1 (y4 - (1 : Int32)).toNatClampNeg))) else (z0 + (bI z1))), sp.2.2.1, sp.2.2.2.1, sp.2.2.2.2.1, sp.2.2.2.2.2) y1 (sp.2.1 y4.toNatClampNeg) (y4 + (1 : Int32)) H locs ls hf hP hD hS (lv_sub hl [3, 4, 1, 0] rfl)
  have w_17 : ∀ (n : Nat) (sp : SSpeller) (y1 : Int32) (y3 : Int32) (y4 : Int32) (H : Heap) (locs : List Loc) (ls : Array Slot), f_Speller_addLetter_17 n sp y1 y3 y4 = some res → va_P (dC, dI) vwCl (uw_Speller ad_sp cA_sp sp) H → va_D A (uw_Speller ad_sp cA_sp sp) → va_S A s.heap H locs → lv_has ls 6 [(0, .ref (ad_sp 0)), (1, .int y1), (3, .int y3), (4, .int y4)] → W p l e (headSpec w_Speller_addLetter ({ frames := 1, cells := 0, slots := 0, locals := 21 })).room s m ([.ref (ad_sp 0), .int x1, .int x2] : List Value).toArray below meth c H locs 0 0 Q (F0 m 17 ls []) := by
    intro n
    induction n with
    | zero =>
      intro sp y1 y3 y4 H locs ls hf hP hD hS hl
      rw [f_Speller_addLetter_17] at hf; cases hf
    | succ n ih =>
      intro sp y1 y3 y4 H locs ls hf hP hD hS hl
      rw [f_Speller_addLetter_17] at hf
      refine lv_iload hx hb d_Speller_addLetter_17 (lv_at hl 3 rfl) ?_
      refine lv_aload_n hx hb d_Speller_addLetter_19 rfl (lv_at hl 0 rfl) ?_
      refine va_get (D := (dC, dI)) (ci := 2) (v := .int sp.2.2.2.2.1) (C := "HazardTables$Speller") (T := F_Speller) (N := 6) hx hb hts hin_Speller hown hK hP 0 rfl rfl 4 (by decide) fl_30 (fun _ h9 => h9) rfl d_Speller_addLetter_20 ?_
      refine lv_icmp_gt (tgt := 105) hx hb d_Speller_addLetter_23 (by decide) (fun hc3 => ?_) (fun hc3 => ?_)
      · have hf := hf_t hf hc3
        exact ret  sp H locs ls 105 d_Speller_addLetter_105 (Option.some.inj hf) hP hD hS
      · have hf := hf_f hf hc3
        refine lv_iload hx hb d_Speller_addLetter_26 (lv_at hl 3 rfl) ?_
        refine lv_aload_n hx hb d_Speller_addLetter_28 rfl (lv_at hl 0 rfl) ?_
        refine va_get (D := (dC, dI)) (ci := 2) (v := .ref (ad_sp 2)) (C := "HazardTables$Speller") (T := F_Speller) (N := 6) hx hb hts hin_Speller hown hK hP 0 rfl rfl 1 (by decide) fl_15 (fun _ h9 => h9) rfl d_Speller_addLetter_29 ?_
        refine va_alen (v := 9) hx hb hK hP 2 1 rfl (ty := .int) rfl rfl d_Speller_addLetter_32 ?_
        refine lv_icmp_ge (tgt := 105) hx hb d_Speller_addLetter_33 (by decide) (fun hc4 => ?_) (fun hc4 => ?_)
        · have hf := hf_t hf hc4
          exact ret  sp H locs ls 105 d_Speller_addLetter_105 (Option.some.inj hf) hP hD hS
        · have hf := hf_f hf hc4
          refine lv_iload_n hx hb d_Speller_addLetter_36 rfl (lv_at hl 2 rfl) ?_
          refine lv_aload_n hx hb d_Speller_addLetter_37 rfl (lv_at hl 0 rfl) ?_
          refine va_get (D := (dC, dI)) (ci := 2) (v := .ref (ad_sp 1)) (C := "HazardTables$Speller") (T := F_Speller) (N := 6) hx hb hts hin_Speller hown hK hP 0 rfl rfl 0 (by decide) fl_9 (fun _ h9 => h9) rfl d_Speller_addLetter_38 ?_
          refine lv_iload hx hb d_Speller_addLetter_41 (lv_at hl 3 rfl) ?_
          refine lv_iconst (v := (1 : Int32)) hx hb d_Speller_addLetter_43 (by decide) ?_
          refine lv_isub hx hb d_Speller_addLetter_44 ?_
          obtain ⟨hi5, hf⟩ := hf_g hf
          refine va_iald hx hb hK hP 1 0 rfl rfl hi5 d_Speller_addLetter_45 ?_
          refine lv_iload_n hx hb d_Speller_addLetter_46 rfl (lv_at hl 1 rfl) ?_
          refine lv_icmp_ne (tgt := 54) hx hb d_Speller_addLetter_47 (by decide) (fun hc6 => ?_) (fun hc6 => ?_)
          · have hf := hf_f hf hc6
            refine lv_iconst (v := (1 : Int32)) hx hb d_Speller_addLetter_54 (by decide) ?_
            exact w_55 (f_Speller_addLetter_17 n) ih sp y1 y4 y3 true H locs ls hf hP hD hS (lv_sub hl [0, 1, 3] rfl)
          · have hf := hf_t hf hc6
            refine lv_iconst (v := (0 : Int32)) hx hb d_Speller_addLetter_50 (by decide) ?_
            refine lv_goto (tgt := 55) hx hb d_Speller_addLetter_51 (by decide) ?_
            exact w_55 (f_Speller_addLetter_17 n) ih sp y1 y4 y3 false H locs ls hf hP hD hS (lv_sub hl [0, 1, 3] rfl)
  have hl := lv_entry ([.ref (ad_sp 0), .int x1, .int x2]) (n := 6) (Nat.le_of_ble_eq_true rfl)
  rw [lg_entry_eq]
  generalize (lg_sl ([.ref (ad_sp 0), .int x1, .int x2]) ++ List.replicate (6 - (lg_sl ([.ref (ad_sp 0), .int x1, .int x2])).length) Slot.unset).toArray = ls at hl ⊢
  have hl : lv_has ls 6 [(0, .ref (ad_sp 0)), (1, .int x1), (2, .int x2)] := hl
  have hf := hf
  rw [f_Speller_addLetter] at hf
  obtain ⟨H, hH⟩ : ∃ H : Heap, H = s.heap := ⟨_, rfl⟩
  obtain ⟨locs, hlocs⟩ : ∃ L : List Loc, L = [] := ⟨_, rfl⟩
  have hP : va_P (dC, dI) vwCl (uw_Speller ad_sp cA_sp sp) H := by rw [hH]; exact hP
  have hS : va_S A s.heap H locs := by rw [hH, hlocs]; exact hS
  show W p l e (headSpec w_Speller_addLetter ({ frames := 1, cells := 0, slots := 0, locals := 21 })).room s m ([.ref (ad_sp 0), .int x1, .int x2] : List Value).toArray below meth c s.heap [] 0 0 Q (F0 m 0 ls [])
  suffices hgo : W p l e (headSpec w_Speller_addLetter ({ frames := 1, cells := 0, slots := 0, locals := 21 })).room s m ([.ref (ad_sp 0), .int x1, .int x2] : List Value).toArray below meth c H locs 0 0 Q (F0 m 0 ls []) by rw [hH, hlocs] at hgo; exact hgo
  clear hH hlocs
  refine lv_aload_n hx hb d_Speller_addLetter_0 rfl (lv_at hl 0 rfl) ?_
  refine va_get (D := (dC, dI)) (ci := 2) (v := .ref (ad_sp 2)) (C := "HazardTables$Speller") (T := F_Speller) (N := 6) hx hb hts hin_Speller hown hK hP 0 rfl rfl 1 (by decide) fl_15 (fun _ h9 => h9) rfl d_Speller_addLetter_1 ?_
  refine lv_iconst (v := (0 : Int32)) hx hb d_Speller_addLetter_4 (by decide) ?_
  obtain ⟨hi1, hf⟩ := hf_g hf
  refine va_iald hx hb hK hP 2 1 rfl rfl hi1 d_Speller_addLetter_5 ?_
  refine lv_istore_n (lv' := [(3, .int (sp.2.1 (0 : Int32).toNatClampNeg)), (0, .ref (ad_sp 0)), (1, .int x1), (2, .int x2)]) hx hb d_Speller_addLetter_6 rfl hl (by decide) rfl (fun ls hl => ?_)
  refine lv_aload_n hx hb d_Speller_addLetter_7 rfl (lv_at hl 1 rfl) ?_
  refine va_get (D := (dC, dI)) (ci := 2) (v := .ref (ad_sp 2)) (C := "HazardTables$Speller") (T := F_Speller) (N := 6) hx hb hts hin_Speller hown hK hP 0 rfl rfl 1 (by decide) fl_15 (fun _ h9 => h9) rfl d_Speller_addLetter_8 ?_
  refine lv_iconst (v := (0 : Int32)) hx hb d_Speller_addLetter_11 (by decide) ?_
  refine lv_iload_n hx hb d_Speller_addLetter_12 rfl (lv_at hl 3 rfl) ?_
  obtain ⟨hi2, hf⟩ := hf_g hf
  refine va_iast hx hb hK hP hD hS 2 1 rfl rfl hi2 d_Speller_addLetter_13 (fun H locs hP hD hS => ?_)
  have hP : va_P (dC, dI) vwCl (uw_Speller ad_sp cA_sp (sp.1, upd sp.2.1 (0 : Int32).toNatClampNeg x2, sp.2.2.1, sp.2.2.2.1, sp.2.2.2.2.1, sp.2.2.2.2.2)) H := hP
  have hD : va_D A (uw_Speller ad_sp cA_sp (sp.1, upd sp.2.1 (0 : Int32).toNatClampNeg x2, sp.2.2.1, sp.2.2.2.1, sp.2.2.2.2.1, sp.2.2.2.2.2)) := hD
  refine lv_iconst (v := (1 : Int32)) hx hb d_Speller_addLetter_14 (by decide) ?_
  refine lv_istore (lv' := [(4, .int (1 : Int32)), (3, .int (sp.2.1 (0 : Int32).toNatClampNeg)), (0, .ref (ad_sp 0)), (1, .int x1), (2, .int x2)]) hx hb d_Speller_addLetter_15 hl (by decide) rfl (fun ls hl => ?_)
  exact w_17 4096 (sp.1, upd sp.2.1 (0 : Int32).toNatClampNeg x2, sp.2.2.1, sp.2.2.2.1, sp.2.2.2.2.1, sp.2.2.2.2.2) x1 (sp.2.1 (0 : Int32).toNatClampNeg) (1 : Int32) H locs ls hf hP hD hS (lv_sub hl [2, 3, 1, 0] rfl)
noncomputable def f_Speller_editsTo_48  : Nat → SSpeller → STable → Int32 → Int32 → Int32 → Int32 → Option (Int32 × SSpeller)
  | 0, _, _, _, _, _, _ => none
  | n + 1, sp, tb, y2, y3, y4, y5 =>
    (if y4 < y5 then
      (if sp.2.2.2.2.1 < 0 then
        (some ((0 : Int32), sp))
       else
        (if (9 : Int32) ≤ sp.2.2.2.2.1 then
          (some ((0 : Int32), sp))
         else
          (if inb sp.2.2.2.2.1 9 then
            (some (sp.2.1 sp.2.2.2.2.1.toNatClampNeg, sp))
           else none)
         )
       )
     else
      (Option.bind (f_Table_nameLetter tb y2 y3 (y5 - (1 : Int32))) fun u10 =>
        (Option.bind (f_Speller_addLetter sp u10 y5) fun u11 =>
          (f_Speller_editsTo_48 n u11 tb y2 y3 y4 (y5 + (1 : Int32)))
         )
       )
     )
noncomputable def f_Speller_editsTo_3  : Nat → SSpeller → STable → Int32 → Int32 → Int32 → Option (Int32 × SSpeller)
  | 0, _, _, _, _, _ => none
  | n + 1, sp, tb, y2, y3, y4 =>
    (if sp.2.2.2.2.1 < y4 then
      (Option.bind (f_Table_nameLength tb y2 y3) fun u2 =>
        (f_Speller_editsTo_48 4096 sp tb y2 y3 u2 (1 : Int32))
       )
     else
      (if (9 : Int32) ≤ y4 then
        (Option.bind (f_Table_nameLength tb y2 y3) fun u4 =>
          (f_Speller_editsTo_48 4096 sp tb y2 y3 u4 (1 : Int32))
         )
       else
        (if inb y4 9 then
          (f_Speller_editsTo_3 n (sp.1, upd sp.2.1 y4.toNatClampNeg y4, sp.2.2.1, sp.2.2.2.1, sp.2.2.2.2.1, sp.2.2.2.2.2) tb y2 y3 (y4 + (1 : Int32)))
         else none)
       )
     )
noncomputable def f_Speller_editsTo (sp : SSpeller) (tb : STable) (x2 : Int32) (x3 : Int32) : Option (Int32 × SSpeller) :=
  (f_Speller_editsTo_3 4096 sp tb x2 x3 (0 : Int32))
set_option maxHeartbeats 4000000 in
set_option maxRecDepth 100000 in
theorem k_Speller_editsTo (l : Launch) (dC : Nat → ClassId) (dI : Nat → Nat → Nat) (ad_sp : Nat → Nat) (cA_sp : Nat → ClassId) (ad_tb : Nat → Nat) (cA_tb : Nat → ClassId) (sz : Nat) (sp : SSpeller) (tb : STable) (x2 : Int32) (x3 : Int32) (res : Int32 × SSpeller) (hf : f_Speller_editsTo sp tb x2 x3 = some res) : Met l y_Speller_editsTo w_Speller_editsTo ({ frames := 2, cells := 0, slots := 0, locals := 46 }) (cPc (dC, dI) (uw_Speller ad_sp cA_sp sp ++ (uw_Table ad_tb cA_tb tb)) [(cA_sp 1, .int), (cA_sp 2, .int), (cA_sp 3, .int), (cA_sp 4, .int), (cA_tb 1, .int), (cA_tb 2, .int), (cA_tb 3, .int), (cA_tb 4, .byte)] sz [.ref (ad_sp 0), .ref (ad_tb 0), .int x2, .int x3]) (va_Qi (fun (r : Int32) (u : SSpeller) => r = res.1 ∧ u = res.2) (fun (u : SSpeller) (t : State) => va_P (dC, dI) vwCl (uw_Speller ad_sp cA_sp u ++ (uw_Table ad_tb cA_tb tb)) t.heap ∧ va_K (dC, dI) vwCl [(cA_sp 1, .int), (cA_sp 2, .int), (cA_sp 3, .int), (cA_sp 4, .int), (cA_tb 1, .int), (cA_tb 2, .int), (cA_tb 3, .int), (cA_tb 4, .byte)] t ∧ va_D (va_A (uw_Speller ad_sp cA_sp sp ++ (uw_Table ad_tb cA_tb tb)) sz) (uw_Speller ad_sp cA_sp u ++ (uw_Table ad_tb cA_tb tb))) (va_A (uw_Speller ad_sp cA_sp sp ++ (uw_Table ad_tb cA_tb tb)) sz)) 0 0 (va_A (uw_Speller ad_sp cA_sp sp ++ (uw_Table ad_tb cA_tb tb)) sz) := by
  refine Met.ofW (cc := b_Speller_editsTo) (maxL := 6) (ret := (some .int)) (by decide) rfl ?_
  intro p e s m args below meth c s₁ B hml hv
  obtain ⟨rfl, hsz, hP, hK, hD0, hN⟩ := hv
  have hx := B.exec
  have hb := B.bytes
  have hr := B.returns
  have hts := atoms_spec (ws := w_Speller_editsTo) B.pre
  have hown : s.vm.findClass "HazardTables$Speller" = some m.cls := findClass_of_methodNamed B.named
  have hlocks := B.notSynchronized
  subst hsz
  have hD := hD0.self (sz := s.heap.size)
  generalize hAe : va_A (uw_Speller ad_sp cA_sp sp ++ (uw_Table ad_tb cA_tb tb)) s.heap.size = A at hD ⊢
  have hA : ∀ q : Nat, s.heap.size ≤ q → A q := fun q h => by rw [← hAe]; exact Or.inr h
  have hS : va_S A s.heap s.heap [] := va_S.rf
  have hP : va_P (dC, dI) vwCl (uw_Speller ad_sp cA_sp sp ++ (uw_Table ad_tb cA_tb tb)) s.heap := hP
  have fl_15 := (hts _ (List.mem_cons_of_mem _ wd_97))
  have fl_30 := (hts _ (List.mem_cons_of_mem _ wd_100))
  have hin_Speller : ∀ w ∈ u_ws "HazardTables$Speller" F_Speller 6, w ∈ w_Speller_editsTo := fun w h => List.mem_cons_of_mem _ (hinA_Speller w h)
  have ret : ∀ (v : Int32) (u : SSpeller) (H : Heap) (locs : List Loc) (ls : Array Slot) (pc : Nat), decode b_Speller_editsTo pc = .ok (.ireturn, 1) → (v = res.1 ∧ u = res.2) → va_P (dC, dI) vwCl (uw_Speller ad_sp cA_sp u ++ (uw_Table ad_tb cA_tb tb)) H → va_D A (uw_Speller ad_sp cA_sp u ++ (uw_Table ad_tb cA_tb tb)) → va_S A s.heap H locs → W p l e (headSpec w_Speller_editsTo ({ frames := 2, cells := 0, slots := 0, locals := 46 })).room s m ([.ref (ad_sp 0), .ref (ad_tb 0), .int x2, .int x3] : List Value).toArray below meth c H locs 0 0 (MQ below (va_Qi (fun (r : Int32) (u : SSpeller) => r = res.1 ∧ u = res.2) (fun (u : SSpeller) (t : State) => va_P (dC, dI) vwCl (uw_Speller ad_sp cA_sp u ++ (uw_Table ad_tb cA_tb tb)) t.heap ∧ va_K (dC, dI) vwCl [(cA_sp 1, .int), (cA_sp 2, .int), (cA_sp 3, .int), (cA_sp 4, .int), (cA_tb 1, .int), (cA_tb 2, .int), (cA_tb 3, .int), (cA_tb 4, .byte)] t ∧ va_D A (uw_Speller ad_sp cA_sp u ++ (uw_Table ad_tb cA_tb tb))) A) ([.ref (ad_sp 0), .ref (ad_tb 0), .int x2, .int x3] : List Value).toArray s 0 0 A) (F0 m pc ls [.int v]) := fun v u H locs ls pc hd hp hP hD hS => W.iret (v := v) hx hb hr (fun t ht hW => ⟨⟨v, u, rfl, hp, by rw [ht]; exact hP, va_K.moved hW.alike hK, hD⟩, hS.F ht⟩) hS.2.2 hd
  generalize (MQ below (va_Qi (fun (r : Int32) (u : SSpeller) => r = res.1 ∧ u = res.2) (fun (u : SSpeller) (t : State) => va_P (dC, dI) vwCl (uw_Speller ad_sp cA_sp u ++ (uw_Table ad_tb cA_tb tb)) t.heap ∧ va_K (dC, dI) vwCl [(cA_sp 1, .int), (cA_sp 2, .int), (cA_sp 3, .int), (cA_sp 4, .int), (cA_tb 1, .int), (cA_tb 2, .int), (cA_tb 3, .int), (cA_tb 4, .byte)] t ∧ va_D A (uw_Speller ad_sp cA_sp u ++ (uw_Table ad_tb cA_tb tb))) A) ([.ref (ad_sp 0), .ref (ad_tb 0), .int x2, .int x3] : List Value).toArray s 0 0 A) = Q at ret ⊢
  have w_48 : ∀ (n : Nat) (sp : SSpeller) (y2 : Int32) (y3 : Int32) (y4 : Int32) (y5 : Int32) (H : Heap) (locs : List Loc) (ls : Array Slot), f_Speller_editsTo_48 n sp tb y2 y3 y4 y5 = some res → va_P (dC, dI) vwCl (uw_Speller ad_sp cA_sp sp ++ (uw_Table ad_tb cA_tb tb)) H → va_D A (uw_Speller ad_sp cA_sp sp ++ (uw_Table ad_tb cA_tb tb)) → va_S A s.heap H locs → lv_has ls 6 [(0, .ref (ad_sp 0)), (1, .ref (ad_tb 0)), (2, .int y2), (3, .int y3), (4, .int y4), (5, .int y5)] → W p l e (headSpec w_Speller_editsTo ({ frames := 2, cells := 0, slots := 0, locals := 46 })).room s m ([.ref (ad_sp 0), .ref (ad_tb 0), .int x2, .int x3] : List Value).toArray below meth c H locs 0 0 Q (F0 m 48 ls []) := by
    intro n
    induction n with
    | zero =>
      intro sp y2 y3 y4 y5 H locs ls hf hP hD hS hl
      rw [f_Speller_editsTo_48] at hf; cases hf
    | succ n ih =>
      intro sp y2 y3 y4 y5 H locs ls hf hP hD hS hl
      rw [f_Speller_editsTo_48] at hf
      refine lv_iload hx hb d_Speller_editsTo_48 (lv_at hl 5 rfl) ?_
      refine lv_iload hx hb d_Speller_editsTo_50 (lv_at hl 4 rfl) ?_
      refine lv_icmp_gt (tgt := 77) hx hb d_Speller_editsTo_52 (by decide) (fun hc6 => ?_) (fun hc6 => ?_)
      · have hf := hf_t hf hc6
        refine lv_aload_n hx hb d_Speller_editsTo_77 rfl (lv_at hl 0 rfl) ?_
        refine va_get (D := (dC, dI)) (ci := 2) (v := .int sp.2.2.2.2.1) (C := "HazardTables$Speller") (T := F_Speller) (N := 6) hx hb hts hin_Speller hown hK hP 0 rfl rfl 4 (by decide) fl_30 (fun _ h9 => h9) rfl d_Speller_editsTo_78 ?_
        refine lv_if_lt (tgt := 108) hx hb d_Speller_editsTo_81 (by decide) (fun hc7 => ?_) (fun hc7 => ?_)
        · have hf := hf_t hf hc7
          refine lv_iconst (v := (0 : Int32)) hx hb d_Speller_editsTo_108 (by decide) ?_
          exact ret (0 : Int32) sp H locs ls 109 d_Speller_editsTo_109 (hf_e hf) hP hD hS
        · have hf := hf_f hf hc7
          refine lv_aload_n hx hb d_Speller_editsTo_84 rfl (lv_at hl 0 rfl) ?_
          refine va_get (D := (dC, dI)) (ci := 2) (v := .int sp.2.2.2.2.1) (C := "HazardTables$Speller") (T := F_Speller) (N := 6) hx hb hts hin_Speller hown hK hP 0 rfl rfl 4 (by decide) fl_30 (fun _ h9 => h9) rfl d_Speller_editsTo_85 ?_
          refine lv_aload_n hx hb d_Speller_editsTo_88 rfl (lv_at hl 0 rfl) ?_
          refine va_get (D := (dC, dI)) (ci := 2) (v := .ref (ad_sp 2)) (C := "HazardTables$Speller") (T := F_Speller) (N := 6) hx hb hts hin_Speller hown hK hP 0 rfl rfl 1 (by decide) fl_15 (fun _ h9 => h9) rfl d_Speller_editsTo_89 ?_
          refine va_alen (v := 9) hx hb hK hP 2 1 rfl (ty := .int) rfl rfl d_Speller_editsTo_92 ?_
          refine lv_icmp_ge (tgt := 108) hx hb d_Speller_editsTo_93 (by decide) (fun hc8 => ?_) (fun hc8 => ?_)
          · have hf := hf_t hf hc8
            refine lv_iconst (v := (0 : Int32)) hx hb d_Speller_editsTo_108 (by decide) ?_
            exact ret (0 : Int32) sp H locs ls 109 d_Speller_editsTo_109 (hf_e hf) hP hD hS
          · have hf := hf_f hf hc8
            refine lv_aload_n hx hb d_Speller_editsTo_96 rfl (lv_at hl 0 rfl) ?_
            refine va_get (D := (dC, dI)) (ci := 2) (v := .ref (ad_sp 2)) (C := "HazardTables$Speller") (T := F_Speller) (N := 6) hx hb hts hin_Speller hown hK hP 0 rfl rfl 1 (by decide) fl_15 (fun _ h9 => h9) rfl d_Speller_editsTo_97 ?_
            refine lv_aload_n hx hb d_Speller_editsTo_100 rfl (lv_at hl 0 rfl) ?_
            refine va_get (D := (dC, dI)) (ci := 2) (v := .int sp.2.2.2.2.1) (C := "HazardTables$Speller") (T := F_Speller) (N := 6) hx hb hts hin_Speller hown hK hP 0 rfl rfl 4 (by decide) fl_30 (fun _ h9 => h9) rfl d_Speller_editsTo_101 ?_
            obtain ⟨hi9, hf⟩ := hf_g hf
            refine va_iald hx hb hK hP 2 1 rfl rfl hi9 d_Speller_editsTo_104 ?_
            refine lv_goto (tgt := 109) hx hb d_Speller_editsTo_105 (by decide) ?_
            exact ret (sp.2.1 sp.2.2.2.2.1.toNatClampNeg) sp H locs ls 109 d_Speller_editsTo_109 (hf_e hf) hP hD hS
      · have hf := hf_f hf hc6
        refine lv_aload_n hx hb d_Speller_editsTo_55 rfl (lv_at hl 0 rfl) ?_
        refine lv_aload_n hx hb d_Speller_editsTo_56 rfl (lv_at hl 1 rfl) ?_
        refine lv_iload_n hx hb d_Speller_editsTo_57 rfl (lv_at hl 2 rfl) ?_
        refine lv_iload_n hx hb d_Speller_editsTo_58 rfl (lv_at hl 3 rfl) ?_
        refine lv_iload hx hb d_Speller_editsTo_59 (lv_at hl 5 rfl) ?_
        refine lv_iconst (v := (1 : Int32)) hx hb d_Speller_editsTo_61 (by decide) ?_
        refine lv_isub hx hb d_Speller_editsTo_62 ?_
        obtain ⟨u10, hu10, hf⟩ := Option.bind_eq_some_iff.mp hf
        refine cl_i (wc := (uw_Table ad_tb cA_tb tb)) (wr := (uw_Speller ad_sp cA_sp sp)) (tysC := [(cA_tb 1, .int), (cA_tb 2, .int), (cA_tb 3, .int), (cA_tb 4, .byte)]) (wu := fun (u : Unit) => (uw_Table ad_tb cA_tb tb)) (wn := fun (u : Unit) => (uw_Speller ad_sp cA_sp sp ++ (uw_Table ad_tb cA_tb tb))) [5, 6, 7, 8, 9] [0, 1, 2, 3, 4] [0, 1, 2, 3, 4, 5, 6, 7, 8, 9] [4, 5, 6, 7] hP hD hS hA hK rfl rfl (by decide +kernel) (by decide +kernel) (by decide +kernel) rfl (fun _ => rfl) (by decide +kernel) (fun hPc hKc hDc => (va_runV (As := [.int y2, .int y3, .int (y5 - (1 : Int32))]) (rest := [.ref (ad_sp 0)]) ⟨hx, hb, hml, hown, hts⟩ (k_Table_nameLetter l dC dI ad_tb cA_tb H.size tb y2 y3 (y5 - (1 : Int32)) u10 hu10) (cwV 3 hts (gV wd_535 wd_536 wd_537 wd_48 wd_538) rfl rfl rfl (by decide +kernel) ⟨Nat.le_of_ble_eq_true rfl, Nat.le_of_ble_eq_true rfl⟩) (cl_preV hPc hKc hDc hN (ci := 4) 0 rfl rfl) rfl rfl hl.1 rfl (lv_room (Nat.le_of_ble_eq_true rfl)) d_Speller_editsTo_63 ⟨Nat.le_of_ble_eq_true rfl, Nat.le_of_ble_eq_true rfl⟩)) (fun r u H locs hw hP hD hS => ?_)
        have hw := hw.symm
        subst hw
        have hP : va_P (dC, dI) vwCl (uw_Speller ad_sp cA_sp sp ++ (uw_Table ad_tb cA_tb tb)) H := hP
        have hD : va_D A (uw_Speller ad_sp cA_sp sp ++ (uw_Table ad_tb cA_tb tb)) := hD
        refine lv_iload hx hb d_Speller_editsTo_66 (lv_at hl 5 rfl) ?_
        obtain ⟨u11, hu11, hf⟩ := Option.bind_eq_some_iff.mp hf
        refine cl_v (wc := (uw_Speller ad_sp cA_sp sp)) (wr := (uw_Table ad_tb cA_tb tb)) (tysC := [(cA_sp 1, .int), (cA_sp 2, .int), (cA_sp 3, .int), (cA_sp 4, .int)]) (wu := fun (u : SSpeller) => (uw_Speller ad_sp cA_sp u)) (wn := fun (u : SSpeller) => (uw_Speller ad_sp cA_sp u ++ (uw_Table ad_tb cA_tb tb))) [0, 1, 2, 3, 4] [5, 6, 7, 8, 9] [5, 6, 7, 8, 9, 0, 1, 2, 3, 4] [0, 1, 2, 3] hP hD hS hA hK rfl rfl (by decide +kernel) (by decide +kernel) (by decide +kernel) rfl (fun _ => rfl) (by decide +kernel) (fun hPc hKc hDc => (va_runV (As := [.int u10, .int y5]) (rest := []) ⟨hx, hb, hml, hown, hts⟩ (k_Speller_addLetter l dC dI ad_sp cA_sp H.size sp u10 y5 u11 hu11) (cwV 2 hts (gV wd_539 wd_541 wd_17 wd_45 wd_542) rfl rfl rfl (by decide +kernel) ⟨Nat.le_of_ble_eq_true rfl, Nat.le_of_ble_eq_true rfl⟩) (cl_preV hPc hKc hDc hN (ci := 2) 0 rfl rfl) rfl rfl hl.1 rfl (lv_room (Nat.le_of_ble_eq_true rfl)) d_Speller_editsTo_68 ⟨Nat.le_of_ble_eq_true rfl, Nat.le_of_ble_eq_true rfl⟩)) (fun u H locs hw hP hD hS => ?_)
        have hw := hw.symm
        subst hw
        have hP : va_P (dC, dI) vwCl (uw_Speller ad_sp cA_sp u11 ++ (uw_Table ad_tb cA_tb tb)) H := hP
        have hD : va_D A (uw_Speller ad_sp cA_sp u11 ++ (uw_Table ad_tb cA_tb tb)) := hD
        refine lv_iinc (v := y5 + (1 : Int32)) (lv' := [(5, .int (y5 + (1 : Int32))), (0, .ref (ad_sp 0)), (1, .ref (ad_tb 0)), (2, .int y2), (3, .int y3), (4, .int y4)]) hx hb d_Speller_editsTo_71 hl (k := 5) rfl rfl (by decide) rfl (fun ls hl => ?_)
        refine lv_goto (tgt := 48) hx hb d_Speller_editsTo_74 (by decide) ?_
        exact ih u11 y2 y3 y4 (y5 + (1 : Int32)) H locs ls hf hP hD hS (lv_sub hl [1, 2, 3, 4, 5, 0] rfl)
  have w_3 : ∀ (n : Nat) (sp : SSpeller) (y2 : Int32) (y3 : Int32) (y4 : Int32) (H : Heap) (locs : List Loc) (ls : Array Slot), f_Speller_editsTo_3 n sp tb y2 y3 y4 = some res → va_P (dC, dI) vwCl (uw_Speller ad_sp cA_sp sp ++ (uw_Table ad_tb cA_tb tb)) H → va_D A (uw_Speller ad_sp cA_sp sp ++ (uw_Table ad_tb cA_tb tb)) → va_S A s.heap H locs → lv_has ls 6 [(0, .ref (ad_sp 0)), (1, .ref (ad_tb 0)), (2, .int y2), (3, .int y3), (4, .int y4)] → W p l e (headSpec w_Speller_editsTo ({ frames := 2, cells := 0, slots := 0, locals := 46 })).room s m ([.ref (ad_sp 0), .ref (ad_tb 0), .int x2, .int x3] : List Value).toArray below meth c H locs 0 0 Q (F0 m 3 ls []) := by
    intro n
    induction n with
    | zero =>
      intro sp y2 y3 y4 H locs ls hf hP hD hS hl
      rw [f_Speller_editsTo_3] at hf; cases hf
    | succ n ih =>
      intro sp y2 y3 y4 H locs ls hf hP hD hS hl
      rw [f_Speller_editsTo_3] at hf
      refine lv_iload hx hb d_Speller_editsTo_3 (lv_at hl 4 rfl) ?_
      refine lv_aload_n hx hb d_Speller_editsTo_5 rfl (lv_at hl 0 rfl) ?_
      refine va_get (D := (dC, dI)) (ci := 2) (v := .int sp.2.2.2.2.1) (C := "HazardTables$Speller") (T := F_Speller) (N := 6) hx hb hts hin_Speller hown hK hP 0 rfl rfl 4 (by decide) fl_30 (fun _ h9 => h9) rfl d_Speller_editsTo_6 ?_
      refine lv_icmp_gt (tgt := 37) hx hb d_Speller_editsTo_9 (by decide) (fun hc1 => ?_) (fun hc1 => ?_)
      · have hf := hf_t hf hc1
        refine lv_aload_n hx hb d_Speller_editsTo_37 rfl (lv_at hl 1 rfl) ?_
        refine lv_iload_n hx hb d_Speller_editsTo_38 rfl (lv_at hl 2 rfl) ?_
        refine lv_iload_n hx hb d_Speller_editsTo_39 rfl (lv_at hl 3 rfl) ?_
        obtain ⟨u2, hu2, hf⟩ := Option.bind_eq_some_iff.mp hf
        refine cl_i (wc := (uw_Table ad_tb cA_tb tb)) (wr := (uw_Speller ad_sp cA_sp sp)) (tysC := [(cA_tb 1, .int), (cA_tb 2, .int), (cA_tb 3, .int), (cA_tb 4, .byte)]) (wu := fun (u : Unit) => (uw_Table ad_tb cA_tb tb)) (wn := fun (u : Unit) => (uw_Speller ad_sp cA_sp sp ++ (uw_Table ad_tb cA_tb tb))) [5, 6, 7, 8, 9] [0, 1, 2, 3, 4] [0, 1, 2, 3, 4, 5, 6, 7, 8, 9] [4, 5, 6, 7] hP hD hS hA hK rfl rfl (by decide +kernel) (by decide +kernel) (by decide +kernel) rfl (fun _ => rfl) (by decide +kernel) (fun hPc hKc hDc => (va_runV (As := [.int y2, .int y3]) (rest := []) ⟨hx, hb, hml, hown, hts⟩ (k_Table_nameLength l dC dI ad_tb cA_tb H.size tb y2 y3 u2 hu2) (cwV 2 hts (gV wd_531 wd_532 wd_533 wd_48 wd_534) rfl rfl rfl (by decide +kernel) ⟨Nat.le_of_ble_eq_true rfl, Nat.le_of_ble_eq_true rfl⟩) (cl_preV hPc hKc hDc hN (ci := 4) 0 rfl rfl) rfl rfl hl.1 rfl (lv_room (Nat.le_of_ble_eq_true rfl)) d_Speller_editsTo_40 ⟨Nat.le_of_ble_eq_true rfl, Nat.le_of_ble_eq_true rfl⟩)) (fun r u H locs hw hP hD hS => ?_)
        have hw := hw.symm
        subst hw
        have hP : va_P (dC, dI) vwCl (uw_Speller ad_sp cA_sp sp ++ (uw_Table ad_tb cA_tb tb)) H := hP
        have hD : va_D A (uw_Speller ad_sp cA_sp sp ++ (uw_Table ad_tb cA_tb tb)) := hD
        refine lv_istore (lv' := [(4, .int u2), (0, .ref (ad_sp 0)), (1, .ref (ad_tb 0)), (2, .int y2), (3, .int y3)]) hx hb d_Speller_editsTo_43 hl (by decide) rfl (fun ls hl => ?_)
        refine lv_iconst (v := (1 : Int32)) hx hb d_Speller_editsTo_45 (by decide) ?_
        refine lv_istore (lv' := [(5, .int (1 : Int32)), (4, .int u2), (0, .ref (ad_sp 0)), (1, .ref (ad_tb 0)), (2, .int y2), (3, .int y3)]) hx hb d_Speller_editsTo_46 hl (by decide) rfl (fun ls hl => ?_)
        exact w_48 4096 sp y2 y3 u2 (1 : Int32) H locs ls hf hP hD hS (lv_sub hl [2, 3, 4, 5, 1, 0] rfl)
      · have hf := hf_f hf hc1
        refine lv_iload hx hb d_Speller_editsTo_12 (lv_at hl 4 rfl) ?_
        refine lv_aload_n hx hb d_Speller_editsTo_14 rfl (lv_at hl 0 rfl) ?_
        refine va_get (D := (dC, dI)) (ci := 2) (v := .ref (ad_sp 2)) (C := "HazardTables$Speller") (T := F_Speller) (N := 6) hx hb hts hin_Speller hown hK hP 0 rfl rfl 1 (by decide) fl_15 (fun _ h9 => h9) rfl d_Speller_editsTo_15 ?_
        refine va_alen (v := 9) hx hb hK hP 2 1 rfl (ty := .int) rfl rfl d_Speller_editsTo_18 ?_
        refine lv_icmp_ge (tgt := 37) hx hb d_Speller_editsTo_19 (by decide) (fun hc3 => ?_) (fun hc3 => ?_)
        · have hf := hf_t hf hc3
          refine lv_aload_n hx hb d_Speller_editsTo_37 rfl (lv_at hl 1 rfl) ?_
          refine lv_iload_n hx hb d_Speller_editsTo_38 rfl (lv_at hl 2 rfl) ?_
          refine lv_iload_n hx hb d_Speller_editsTo_39 rfl (lv_at hl 3 rfl) ?_
          obtain ⟨u4, hu4, hf⟩ := Option.bind_eq_some_iff.mp hf
          refine cl_i (wc := (uw_Table ad_tb cA_tb tb)) (wr := (uw_Speller ad_sp cA_sp sp)) (tysC := [(cA_tb 1, .int), (cA_tb 2, .int), (cA_tb 3, .int), (cA_tb 4, .byte)]) (wu := fun (u : Unit) => (uw_Table ad_tb cA_tb tb)) (wn := fun (u : Unit) => (uw_Speller ad_sp cA_sp sp ++ (uw_Table ad_tb cA_tb tb))) [5, 6, 7, 8, 9] [0, 1, 2, 3, 4] [0, 1, 2, 3, 4, 5, 6, 7, 8, 9] [4, 5, 6, 7] hP hD hS hA hK rfl rfl (by decide +kernel) (by decide +kernel) (by decide +kernel) rfl (fun _ => rfl) (by decide +kernel) (fun hPc hKc hDc => (va_runV (As := [.int y2, .int y3]) (rest := []) ⟨hx, hb, hml, hown, hts⟩ (k_Table_nameLength l dC dI ad_tb cA_tb H.size tb y2 y3 u4 hu4) (cwV 2 hts (gV wd_531 wd_532 wd_533 wd_48 wd_534) rfl rfl rfl (by decide +kernel) ⟨Nat.le_of_ble_eq_true rfl, Nat.le_of_ble_eq_true rfl⟩) (cl_preV hPc hKc hDc hN (ci := 4) 0 rfl rfl) rfl rfl hl.1 rfl (lv_room (Nat.le_of_ble_eq_true rfl)) d_Speller_editsTo_40 ⟨Nat.le_of_ble_eq_true rfl, Nat.le_of_ble_eq_true rfl⟩)) (fun r u H locs hw hP hD hS => ?_)
          have hw := hw.symm
          subst hw
          have hP : va_P (dC, dI) vwCl (uw_Speller ad_sp cA_sp sp ++ (uw_Table ad_tb cA_tb tb)) H := hP
          have hD : va_D A (uw_Speller ad_sp cA_sp sp ++ (uw_Table ad_tb cA_tb tb)) := hD
          refine lv_istore (lv' := [(4, .int u4), (0, .ref (ad_sp 0)), (1, .ref (ad_tb 0)), (2, .int y2), (3, .int y3)]) hx hb d_Speller_editsTo_43 hl (by decide) rfl (fun ls hl => ?_)
          refine lv_iconst (v := (1 : Int32)) hx hb d_Speller_editsTo_45 (by decide) ?_
          refine lv_istore (lv' := [(5, .int (1 : Int32)), (4, .int u4), (0, .ref (ad_sp 0)), (1, .ref (ad_tb 0)), (2, .int y2), (3, .int y3)]) hx hb d_Speller_editsTo_46 hl (by decide) rfl (fun ls hl => ?_)
          exact w_48 4096 sp y2 y3 u4 (1 : Int32) H locs ls hf hP hD hS (lv_sub hl [2, 3, 4, 5, 1, 0] rfl)
        · have hf := hf_f hf hc3
          refine lv_aload_n hx hb d_Speller_editsTo_22 rfl (lv_at hl 0 rfl) ?_
          refine va_get (D := (dC, dI)) (ci := 2) (v := .ref (ad_sp 2)) (C := "HazardTables$Speller") (T := F_Speller) (N := 6) hx hb hts hin_Speller hown hK hP 0 rfl rfl 1 (by decide) fl_15 (fun _ h9 => h9) rfl d_Speller_editsTo_23 ?_
          refine lv_iload hx hb d_Speller_editsTo_26 (lv_at hl 4 rfl) ?_
          refine lv_iload hx hb d_Speller_editsTo_28 (lv_at hl 4 rfl) ?_
          obtain ⟨hi5, hf⟩ := hf_g hf
          refine va_iast hx hb hK hP hD hS 2 1 rfl rfl hi5 d_Speller_editsTo_30 (fun H locs hP hD hS => ?_)
          have hP : va_P (dC, dI) vwCl (uw_Speller ad_sp cA_sp (sp.1, upd sp.2.1 y4.toNatClampNeg y4, sp.2.2.1, sp.2.2.2.1, sp.2.2.2.2.1, sp.2.2.2.2.2) ++ (uw_Table ad_tb cA_tb tb)) H := hP
          have hD : va_D A (uw_Speller ad_sp cA_sp (sp.1, upd sp.2.1 y4.toNatClampNeg y4, sp.2.2.1, sp.2.2.2.1, sp.2.2.2.2.1, sp.2.2.2.2.2) ++ (uw_Table ad_tb cA_tb tb)) := hD
          refine lv_iinc (v := y4 + (1 : Int32)) (lv' := [(4, .int (y4 + (1 : Int32))), (0, .ref (ad_sp 0)), (1, .ref (ad_tb 0)), (2, .int y2), (3, .int y3)]) hx hb d_Speller_editsTo_31 hl (k := 4) rfl rfl (by decide) rfl (fun ls hl => ?_)
          refine lv_goto (tgt := 3) hx hb d_Speller_editsTo_34 (by decide) ?_
          exact ih (sp.1, upd sp.2.1 y4.toNatClampNeg y4, sp.2.2.1, sp.2.2.2.1, sp.2.2.2.2.1, sp.2.2.2.2.2) y2 y3 (y4 + (1 : Int32)) H locs ls hf hP hD hS (lv_sub hl [1, 2, 3, 4, 0] rfl)
  have hl := lv_entry ([.ref (ad_sp 0), .ref (ad_tb 0), .int x2, .int x3]) (n := 6) (Nat.le_of_ble_eq_true rfl)
  rw [lg_entry_eq]
  generalize (lg_sl ([.ref (ad_sp 0), .ref (ad_tb 0), .int x2, .int x3]) ++ List.replicate (6 - (lg_sl ([.ref (ad_sp 0), .ref (ad_tb 0), .int x2, .int x3])).length) Slot.unset).toArray = ls at hl ⊢
  have hl : lv_has ls 6 [(0, .ref (ad_sp 0)), (1, .ref (ad_tb 0)), (2, .int x2), (3, .int x3)] := hl
  have hf := hf
  rw [f_Speller_editsTo] at hf
  obtain ⟨H, hH⟩ : ∃ H : Heap, H = s.heap := ⟨_, rfl⟩
  obtain ⟨locs, hlocs⟩ : ∃ L : List Loc, L = [] := ⟨_, rfl⟩
  have hP : va_P (dC, dI) vwCl (uw_Speller ad_sp cA_sp sp ++ (uw_Table ad_tb cA_tb tb)) H := by rw [hH]; exact hP
  have hS : va_S A s.heap H locs := by rw [hH, hlocs]; exact hS
  show W p l e (headSpec w_Speller_editsTo ({ frames := 2, cells := 0, slots := 0, locals := 46 })).room s m ([.ref (ad_sp 0), .ref (ad_tb 0), .int x2, .int x3] : List Value).toArray below meth c s.heap [] 0 0 Q (F0 m 0 ls [])
  suffices hgo : W p l e (headSpec w_Speller_editsTo ({ frames := 2, cells := 0, slots := 0, locals := 46 })).room s m ([.ref (ad_sp 0), .ref (ad_tb 0), .int x2, .int x3] : List Value).toArray below meth c H locs 0 0 Q (F0 m 0 ls []) by rw [hH, hlocs] at hgo; exact hgo
  clear hH hlocs
  refine lv_iconst (v := (0 : Int32)) hx hb d_Speller_editsTo_0 (by decide) ?_
  refine lv_istore (lv' := [(4, .int (0 : Int32)), (0, .ref (ad_sp 0)), (1, .ref (ad_tb 0)), (2, .int x2), (3, .int x3)]) hx hb d_Speller_editsTo_1 hl (by decide) rfl (fun ls hl => ?_)
  exact w_3 4096 sp x2 x3 (0 : Int32) H locs ls hf hP hD hS (lv_sub hl [1, 2, 3, 4, 0] rfl)
noncomputable def f_Speller_distanceTo_11  : Nat → SSpeller → STable → Int32 → Int32 → Int32 → Option (Int32 × SSpeller)
  | 0, _, _, _, _, _ => none
  | n + 1, sp, tb, y2, y3, y4 =>
    (Option.bind (f_Table_cell tb y2 (8 : Int32)) fun u2 =>
      (if u2 ≤ y4 then
        (some (y3, sp))
       else
        (Option.bind (f_Speller_editsTo sp tb y2 y4) fun u4 =>
          (f_Speller_distanceTo_11 n u4.2 tb y2 (if u4.1 < y3 then u4.1 else y3) (y4 + (1 : Int32)))
         )
       )
     )
noncomputable def f_Speller_distanceTo (sp : SSpeller) (tb : STable) (x2 : Int32) : Option (Int32 × SSpeller) :=
  (Option.bind (f_Speller_editsTo sp tb x2 (0 : Int32)) fun u1 =>
    (f_Speller_distanceTo_11 4096 u1.2 tb x2 u1.1 (1 : Int32))
   )
set_option maxHeartbeats 4000000 in
set_option maxRecDepth 100000 in
theorem k_Speller_distanceTo (l : Launch) (dC : Nat → ClassId) (dI : Nat → Nat → Nat) (ad_sp : Nat → Nat) (cA_sp : Nat → ClassId) (ad_tb : Nat → Nat) (cA_tb : Nat → ClassId) (sz : Nat) (sp : SSpeller) (tb : STable) (x2 : Int32) (res : Int32 × SSpeller) (hf : f_Speller_distanceTo sp tb x2 = some res) : Met l y_Speller_distanceTo w_Speller_distanceTo ({ frames := 3, cells := 0, slots := 0, locals := 71 }) (cPc (dC, dI) (uw_Speller ad_sp cA_sp sp ++ (uw_Table ad_tb cA_tb tb)) [(cA_sp 1, .int), (cA_sp 2, .int), (cA_sp 3, .int), (cA_sp 4, .int), (cA_tb 1, .int), (cA_tb 2, .int), (cA_tb 3, .int), (cA_tb 4, .byte)] sz [.ref (ad_sp 0), .ref (ad_tb 0), .int x2]) (va_Qi (fun (r : Int32) (u : SSpeller) => r = res.1 ∧ u = res.2) (fun (u : SSpeller) (t : State) => va_P (dC, dI) vwCl (uw_Speller ad_sp cA_sp u ++ (uw_Table ad_tb cA_tb tb)) t.heap ∧ va_K (dC, dI) vwCl [(cA_sp 1, .int), (cA_sp 2, .int), (cA_sp 3, .int), (cA_sp 4, .int), (cA_tb 1, .int), (cA_tb 2, .int), (cA_tb 3, .int), (cA_tb 4, .byte)] t ∧ va_D (va_A (uw_Speller ad_sp cA_sp sp ++ (uw_Table ad_tb cA_tb tb)) sz) (uw_Speller ad_sp cA_sp u ++ (uw_Table ad_tb cA_tb tb))) (va_A (uw_Speller ad_sp cA_sp sp ++ (uw_Table ad_tb cA_tb tb)) sz)) 0 0 (va_A (uw_Speller ad_sp cA_sp sp ++ (uw_Table ad_tb cA_tb tb)) sz) := by
  refine Met.ofW (cc := b_Speller_distanceTo) (maxL := 5) (ret := (some .int)) (by decide) rfl ?_
  intro p e s m args below meth c s₁ B hml hv
  obtain ⟨rfl, hsz, hP, hK, hD0, hN⟩ := hv
  have hx := B.exec
  have hb := B.bytes
  have hr := B.returns
  have hts := atoms_spec (ws := w_Speller_distanceTo) B.pre
  have hown : s.vm.findClass "HazardTables$Speller" = some m.cls := findClass_of_methodNamed B.named
  have hlocks := B.notSynchronized
  subst hsz
  have hD := hD0.self (sz := s.heap.size)
  generalize hAe : va_A (uw_Speller ad_sp cA_sp sp ++ (uw_Table ad_tb cA_tb tb)) s.heap.size = A at hD ⊢
  have hA : ∀ q : Nat, s.heap.size ≤ q → A q := fun q h => by rw [← hAe]; exact Or.inr h
  have hS : va_S A s.heap s.heap [] := va_S.rf
  have hP : va_P (dC, dI) vwCl (uw_Speller ad_sp cA_sp sp ++ (uw_Table ad_tb cA_tb tb)) s.heap := hP
  have ret : ∀ (v : Int32) (u : SSpeller) (H : Heap) (locs : List Loc) (ls : Array Slot) (pc : Nat), decode b_Speller_distanceTo pc = .ok (.ireturn, 1) → (v = res.1 ∧ u = res.2) → va_P (dC, dI) vwCl (uw_Speller ad_sp cA_sp u ++ (uw_Table ad_tb cA_tb tb)) H → va_D A (uw_Speller ad_sp cA_sp u ++ (uw_Table ad_tb cA_tb tb)) → va_S A s.heap H locs → W p l e (headSpec w_Speller_distanceTo ({ frames := 3, cells := 0, slots := 0, locals := 71 })).room s m ([.ref (ad_sp 0), .ref (ad_tb 0), .int x2] : List Value).toArray below meth c H locs 0 0 (MQ below (va_Qi (fun (r : Int32) (u : SSpeller) => r = res.1 ∧ u = res.2) (fun (u : SSpeller) (t : State) => va_P (dC, dI) vwCl (uw_Speller ad_sp cA_sp u ++ (uw_Table ad_tb cA_tb tb)) t.heap ∧ va_K (dC, dI) vwCl [(cA_sp 1, .int), (cA_sp 2, .int), (cA_sp 3, .int), (cA_sp 4, .int), (cA_tb 1, .int), (cA_tb 2, .int), (cA_tb 3, .int), (cA_tb 4, .byte)] t ∧ va_D A (uw_Speller ad_sp cA_sp u ++ (uw_Table ad_tb cA_tb tb))) A) ([.ref (ad_sp 0), .ref (ad_tb 0), .int x2] : List Value).toArray s 0 0 A) (F0 m pc ls [.int v]) := fun v u H locs ls pc hd hp hP hD hS => W.iret (v := v) hx hb hr (fun t ht hW => ⟨⟨v, u, rfl, hp, by rw [ht]; exact hP, va_K.moved hW.alike hK, hD⟩, hS.F ht⟩) hS.2.2 hd
  generalize (MQ below (va_Qi (fun (r : Int32) (u : SSpeller) => r = res.1 ∧ u = res.2) (fun (u : SSpeller) (t : State) => va_P (dC, dI) vwCl (uw_Speller ad_sp cA_sp u ++ (uw_Table ad_tb cA_tb tb)) t.heap ∧ va_K (dC, dI) vwCl [(cA_sp 1, .int), (cA_sp 2, .int), (cA_sp 3, .int), (cA_sp 4, .int), (cA_tb 1, .int), (cA_tb 2, .int), (cA_tb 3, .int), (cA_tb 4, .byte)] t ∧ va_D A (uw_Speller ad_sp cA_sp u ++ (uw_Table ad_tb cA_tb tb))) A) ([.ref (ad_sp 0), .ref (ad_tb 0), .int x2] : List Value).toArray s 0 0 A) = Q at ret ⊢
  have w_11 : ∀ (n : Nat) (sp : SSpeller) (y2 : Int32) (y3 : Int32) (y4 : Int32) (H : Heap) (locs : List Loc) (ls : Array Slot), f_Speller_distanceTo_11 n sp tb y2 y3 y4 = some res → va_P (dC, dI) vwCl (uw_Speller ad_sp cA_sp sp ++ (uw_Table ad_tb cA_tb tb)) H → va_D A (uw_Speller ad_sp cA_sp sp ++ (uw_Table ad_tb cA_tb tb)) → va_S A s.heap H locs → lv_has ls 5 [(0, .ref (ad_sp 0)), (1, .ref (ad_tb 0)), (2, .int y2), (3, .int y3), (4, .int y4)] → W p l e (headSpec w_Speller_distanceTo ({ frames := 3, cells := 0, slots := 0, locals := 71 })).room s m ([.ref (ad_sp 0), .ref (ad_tb 0), .int x2] : List Value).toArray below meth c H locs 0 0 Q (F0 m 11 ls []) := by
    intro n
    induction n with
    | zero =>
      intro sp y2 y3 y4 H locs ls hf hP hD hS hl
      rw [f_Speller_distanceTo_11] at hf; cases hf
    | succ n ih =>
      intro sp y2 y3 y4 H locs ls hf hP hD hS hl
      rw [f_Speller_distanceTo_11] at hf
      refine lv_iload hx hb d_Speller_distanceTo_11 (lv_at hl 4 rfl) ?_
      refine lv_aload_n hx hb d_Speller_distanceTo_13 rfl (lv_at hl 1 rfl) ?_
      refine lv_iload_n hx hb d_Speller_distanceTo_14 rfl (lv_at hl 2 rfl) ?_
      refine lv_bipush (v := (8 : Int32)) hx hb d_Speller_distanceTo_15 (by decide) ?_
      obtain ⟨u2, hu2, hf⟩ := Option.bind_eq_some_iff.mp hf
      refine cl_i (wc := (uw_Table ad_tb cA_tb tb)) (wr := (uw_Speller ad_sp cA_sp sp)) (tysC := [(cA_tb 1, .int), (cA_tb 2, .int), (cA_tb 3, .int), (cA_tb 4, .byte)]) (wu := fun (u : Unit) => (uw_Table ad_tb cA_tb tb)) (wn := fun (u : Unit) => (uw_Speller ad_sp cA_sp sp ++ (uw_Table ad_tb cA_tb tb))) [5, 6, 7, 8, 9] [0, 1, 2, 3, 4] [0, 1, 2, 3, 4, 5, 6, 7, 8, 9] [4, 5, 6, 7] hP hD hS hA hK rfl rfl (by decide +kernel) (by decide +kernel) (by decide +kernel) rfl (fun _ => rfl) (by decide +kernel) (fun hPc hKc hDc => (va_runV (As := [.int y2, .int (8 : Int32)]) (rest := [.int y4]) ⟨hx, hb, hml, hown, hts⟩ (k_Table_cell l dC dI ad_tb cA_tb H.size tb y2 (8 : Int32) u2 hu2) (cwV 2 hts (gV wd_546 wd_497 wd_498 wd_48 wd_499) rfl rfl rfl (by decide +kernel) ⟨Nat.le_of_ble_eq_true rfl, Nat.le_of_ble_eq_true rfl⟩) (cl_preV hPc hKc hDc hN (ci := 4) 0 rfl rfl) rfl rfl hl.1 rfl (lv_room (Nat.le_of_ble_eq_true rfl)) d_Speller_distanceTo_17 ⟨Nat.le_of_ble_eq_true rfl, Nat.le_of_ble_eq_true rfl⟩)) (fun r u H locs hw hP hD hS => ?_)
      have hw := hw.symm
      subst hw
      have hP : va_P (dC, dI) vwCl (uw_Speller ad_sp cA_sp sp ++ (uw_Table ad_tb cA_tb tb)) H := hP
      have hD : va_D A (uw_Speller ad_sp cA_sp sp ++ (uw_Table ad_tb cA_tb tb)) := hD
      refine lv_icmp_ge (tgt := 42) hx hb d_Speller_distanceTo_20 (by decide) (fun hc3 => ?_) (fun hc3 => ?_)
      · have hf := hf_t hf hc3
        refine lv_iload_n hx hb d_Speller_distanceTo_42 rfl (lv_at hl 3 rfl) ?_
        exact ret y3 sp H locs ls 43 d_Speller_distanceTo_43 (hf_e hf) hP hD hS
      · have hf := hf_f hf hc3
        refine lv_iload_n hx hb d_Speller_distanceTo_23 rfl (lv_at hl 3 rfl) ?_
        refine lv_aload_n hx hb d_Speller_distanceTo_24 rfl (lv_at hl 0 rfl) ?_
        refine lv_aload_n hx hb d_Speller_distanceTo_25 rfl (lv_at hl 1 rfl) ?_
        refine lv_iload_n hx hb d_Speller_distanceTo_26 rfl (lv_at hl 2 rfl) ?_
        refine lv_iload hx hb d_Speller_distanceTo_27 (lv_at hl 4 rfl) ?_
        obtain ⟨u4, hu4, hf⟩ := Option.bind_eq_some_iff.mp hf
        refine cl_i (wc := (uw_Speller ad_sp cA_sp sp ++ (uw_Table ad_tb cA_tb tb))) (wr := []) (tysC := [(cA_sp 1, .int), (cA_sp 2, .int), (cA_sp 3, .int), (cA_sp 4, .int), (cA_tb 1, .int), (cA_tb 2, .int), (cA_tb 3, .int), (cA_tb 4, .byte)]) (wu := fun (u : SSpeller) => (uw_Speller ad_sp cA_sp u ++ (uw_Table ad_tb cA_tb tb))) (wn := fun (u : SSpeller) => (uw_Speller ad_sp cA_sp u ++ (uw_Table ad_tb cA_tb tb))) [0, 1, 2, 3, 4, 5, 6, 7, 8, 9] [] [0, 1, 2, 3, 4, 5, 6, 7, 8, 9] [0, 1, 2, 3, 4, 5, 6, 7] hP hD hS hA hK rfl rfl (by decide +kernel) (by decide +kernel) (by decide +kernel) rfl (fun _ => rfl) (by decide +kernel) (fun hPc hKc hDc => (va_runV (As := [.ref (ad_tb 0), .int y2, .int y4]) (rest := [.int y3]) ⟨hx, hb, hml, hown, hts⟩ (k_Speller_editsTo l dC dI ad_sp cA_sp ad_tb cA_tb H.size sp tb y2 y4 u4 hu4) (cwV 3 hts (gV wd_527 wd_529 wd_16 wd_45 wd_530) rfl rfl rfl (by decide +kernel) ⟨Nat.le_of_ble_eq_true rfl, Nat.le_of_ble_eq_true rfl⟩) (cl_preV hPc hKc hDc hN (ci := 2) 0 rfl rfl) rfl rfl hl.1 rfl (lv_room (Nat.le_of_ble_eq_true rfl)) d_Speller_distanceTo_29 ⟨Nat.le_of_ble_eq_true rfl, Nat.le_of_ble_eq_true rfl⟩)) (fun r u H locs hw hP hD hS => ?_)
        obtain ⟨hw1, hw2⟩ := hw
        have hw1 := hw1.symm
        have hw2 := hw2.symm
        subst hw1
        subst hw2
        have hP : va_P (dC, dI) vwCl (uw_Speller ad_sp cA_sp u4.2 ++ (uw_Table ad_tb cA_tb tb)) H := hP
        have hD : va_D A (uw_Speller ad_sp cA_sp u4.2 ++ (uw_Table ad_tb cA_tb tb)) := hD
        refine va_mmin hx hb (hml.trans hl.1.symm) hown (hts _ (List.mem_cons_of_mem _ wd_543)) (hts _ (List.mem_cons_of_mem _ wd_544)) (hts _ (List.mem_cons_of_mem _ wd_57)) (hts _ (List.mem_cons_of_mem _ wd_545)) (Nat.le_of_ble_eq_true rfl) (Nat.le_of_ble_eq_true rfl) (Nat.le_of_ble_eq_true rfl) (Nat.le_of_ble_eq_true rfl) d_Speller_distanceTo_32 ?_
        refine lv_istore_n (lv' := [(3, .int (if u4.1 < y3 then u4.1 else y3)), (0, .ref (ad_sp 0)), (1, .ref (ad_tb 0)), (2, .int y2), (4, .int y4)]) hx hb d_Speller_distanceTo_35 rfl hl (by decide) rfl (fun ls hl => ?_)
        refine lv_iinc (v := y4 + (1 : Int32)) (lv' := [(4, .int (y4 + (1 : Int32))), (3, .int (if u4.1 < y3 then u4.1 else y3)), (0, .ref (ad_sp 0)), (1, .ref (ad_tb 0)), (2, .int y2)]) hx hb d_Speller_distanceTo_36 hl (k := 4) rfl rfl (by decide) rfl (fun ls hl => ?_)
        refine lv_goto (tgt := 11) hx hb d_Speller_distanceTo_39 (by decide) ?_
        exact ih u4.2 y2 (if u4.1 < y3 then u4.1 else y3) (y4 + (1 : Int32)) H locs ls hf hP hD hS (lv_sub hl [2, 3, 4, 1, 0] rfl)
  have hl := lv_entry ([.ref (ad_sp 0), .ref (ad_tb 0), .int x2]) (n := 5) (Nat.le_of_ble_eq_true rfl)
  rw [lg_entry_eq]
  generalize (lg_sl ([.ref (ad_sp 0), .ref (ad_tb 0), .int x2]) ++ List.replicate (5 - (lg_sl ([.ref (ad_sp 0), .ref (ad_tb 0), .int x2])).length) Slot.unset).toArray = ls at hl ⊢
  have hl : lv_has ls 5 [(0, .ref (ad_sp 0)), (1, .ref (ad_tb 0)), (2, .int x2)] := hl
  have hf := hf
  rw [f_Speller_distanceTo] at hf
  obtain ⟨H, hH⟩ : ∃ H : Heap, H = s.heap := ⟨_, rfl⟩
  obtain ⟨locs, hlocs⟩ : ∃ L : List Loc, L = [] := ⟨_, rfl⟩
  have hP : va_P (dC, dI) vwCl (uw_Speller ad_sp cA_sp sp ++ (uw_Table ad_tb cA_tb tb)) H := by rw [hH]; exact hP
  have hS : va_S A s.heap H locs := by rw [hH, hlocs]; exact hS
  show W p l e (headSpec w_Speller_distanceTo ({ frames := 3, cells := 0, slots := 0, locals := 71 })).room s m ([.ref (ad_sp 0), .ref (ad_tb 0), .int x2] : List Value).toArray below meth c s.heap [] 0 0 Q (F0 m 0 ls [])
  suffices hgo : W p l e (headSpec w_Speller_distanceTo ({ frames := 3, cells := 0, slots := 0, locals := 71 })).room s m ([.ref (ad_sp 0), .ref (ad_tb 0), .int x2] : List Value).toArray below meth c H locs 0 0 Q (F0 m 0 ls []) by rw [hH, hlocs] at hgo; exact hgo
  clear hH hlocs
  refine lv_aload_n hx hb d_Speller_distanceTo_0 rfl (lv_at hl 0 rfl) ?_
  refine lv_aload_n hx hb d_Speller_distanceTo_1 rfl (lv_at hl 1 rfl) ?_
  refine lv_iload_n hx hb d_Speller_distanceTo_2 rfl (lv_at hl 2 rfl) ?_
  refine lv_iconst (v := (0 : Int32)) hx hb d_Speller_distanceTo_3 (by decide) ?_
  obtain ⟨u1, hu1, hf⟩ := Option.bind_eq_some_iff.mp hf
  refine cl_i (wc := (uw_Speller ad_sp cA_sp sp ++ (uw_Table ad_tb cA_tb tb))) (wr := []) (tysC := [(cA_sp 1, .int), (cA_sp 2, .int), (cA_sp 3, .int), (cA_sp 4, .int), (cA_tb 1, .int), (cA_tb 2, .int), (cA_tb 3, .int), (cA_tb 4, .byte)]) (wu := fun (u : SSpeller) => (uw_Speller ad_sp cA_sp u ++ (uw_Table ad_tb cA_tb tb))) (wn := fun (u : SSpeller) => (uw_Speller ad_sp cA_sp u ++ (uw_Table ad_tb cA_tb tb))) [0, 1, 2, 3, 4, 5, 6, 7, 8, 9] [] [0, 1, 2, 3, 4, 5, 6, 7, 8, 9] [0, 1, 2, 3, 4, 5, 6, 7] hP hD hS hA hK rfl rfl (by decide +kernel) (by decide +kernel) (by decide +kernel) rfl (fun _ => rfl) (by decide +kernel) (fun hPc hKc hDc => (va_runV (As := [.ref (ad_tb 0), .int x2, .int (0 : Int32)]) (rest := []) ⟨hx, hb, hml, hown, hts⟩ (k_Speller_editsTo l dC dI ad_sp cA_sp ad_tb cA_tb H.size sp tb x2 (0 : Int32) u1 hu1) (cwV 3 hts (gV wd_527 wd_529 wd_16 wd_45 wd_530) rfl rfl rfl (by decide +kernel) ⟨Nat.le_of_ble_eq_true rfl, Nat.le_of_ble_eq_true rfl⟩) (cl_preV hPc hKc hDc hN (ci := 2) 0 rfl rfl) rfl rfl hl.1 rfl (lv_room (Nat.le_of_ble_eq_true rfl)) d_Speller_distanceTo_4 ⟨Nat.le_of_ble_eq_true rfl, Nat.le_of_ble_eq_true rfl⟩)) (fun r u H locs hw hP hD hS => ?_)
  obtain ⟨hw1, hw2⟩ := hw
  have hw1 := hw1.symm
  have hw2 := hw2.symm
  subst hw1
  subst hw2
  have hP : va_P (dC, dI) vwCl (uw_Speller ad_sp cA_sp u1.2 ++ (uw_Table ad_tb cA_tb tb)) H := hP
  have hD : va_D A (uw_Speller ad_sp cA_sp u1.2 ++ (uw_Table ad_tb cA_tb tb)) := hD
  refine lv_istore_n (lv' := [(3, .int u1.1), (0, .ref (ad_sp 0)), (1, .ref (ad_tb 0)), (2, .int x2)]) hx hb d_Speller_distanceTo_7 rfl hl (by decide) rfl (fun ls hl => ?_)
  refine lv_iconst (v := (1 : Int32)) hx hb d_Speller_distanceTo_8 (by decide) ?_
  refine lv_istore (lv' := [(4, .int (1 : Int32)), (3, .int u1.1), (0, .ref (ad_sp 0)), (1, .ref (ad_tb 0)), (2, .int x2)]) hx hb d_Speller_distanceTo_9 hl (by decide) rfl (fun ls hl => ?_)
  exact w_11 4096 u1.2 x2 u1.1 (1 : Int32) H locs ls hf hP hD hS (lv_sub hl [2, 3, 4, 1, 0] rfl)
noncomputable def f_Speller_isBehind (sp : SSpeller) (x1 : Int32) (x2 : Int32) (x3 : Int32) : Option (Bool) :=
  (if inb x1 12 then
    (if x3 < (sp.2.2.2.1 x1.toNatClampNeg) then
      (some (true))
     else
      (if inb x1 12 then
        (if (sp.2.2.2.1 x1.toNatClampNeg) = x3 then
          (if inb x1 12 then
            (if (sp.2.2.1 x1.toNatClampNeg) ≤ x2 then
              (some (false))
             else
              (some (true))
             )
           else none)
         else
          (some (false))
         )
       else none)
     )
   else none)
set_option maxHeartbeats 4000000 in
set_option maxRecDepth 100000 in
theorem k_Speller_isBehind (l : Launch) (dC : Nat → ClassId) (dI : Nat → Nat → Nat) (ad_sp : Nat → Nat) (cA_sp : Nat → ClassId) (sz : Nat) (sp : SSpeller) (x1 : Int32) (x2 : Int32) (x3 : Int32) (res : Bool) (hf : f_Speller_isBehind sp x1 x2 x3 = some res) : Met l y_Speller_isBehind w_Speller_isBehind ({ frames := 0, cells := 0, slots := 0, locals := 0 }) (cPc (dC, dI) (uw_Speller ad_sp cA_sp sp) [(cA_sp 1, .int), (cA_sp 2, .int), (cA_sp 3, .int), (cA_sp 4, .int)] sz [.ref (ad_sp 0), .int x1, .int x2, .int x3]) (va_Qi (fun (r : Int32) (u : Unit) => r = bI res) (fun (u : Unit) (t : State) => va_P (dC, dI) vwCl (uw_Speller ad_sp cA_sp sp) t.heap ∧ va_K (dC, dI) vwCl [(cA_sp 1, .int), (cA_sp 2, .int), (cA_sp 3, .int), (cA_sp 4, .int)] t ∧ va_D (va_A (uw_Speller ad_sp cA_sp sp) sz) (uw_Speller ad_sp cA_sp sp)) (va_A (uw_Speller ad_sp cA_sp sp) sz)) 0 0 (va_A (uw_Speller ad_sp cA_sp sp) sz) := by
  refine Met.ofW (cc := b_Speller_isBehind) (maxL := 4) (ret := (some .boolean)) (by decide) rfl ?_
  intro p e s m args below meth c s₁ B hml hv
  obtain ⟨rfl, hsz, hP, hK, hD0, hN⟩ := hv
  have hx := B.exec
  have hb := B.bytes
  have hr := B.returns
  have hts := atoms_spec (ws := w_Speller_isBehind) B.pre
  have hown : s.vm.findClass "HazardTables$Speller" = some m.cls := findClass_of_methodNamed B.named
  have hlocks := B.notSynchronized
  subst hsz
  have hD := hD0.self (sz := s.heap.size)
  generalize hAe : va_A (uw_Speller ad_sp cA_sp sp) s.heap.size = A at hD ⊢
  have hA : ∀ q : Nat, s.heap.size ≤ q → A q := fun q h => by rw [← hAe]; exact Or.inr h
  have hS : va_S A s.heap s.heap [] := va_S.rf
  have hP : va_P (dC, dI) vwCl (uw_Speller ad_sp cA_sp sp) s.heap := hP
  have fl_20 := (hts _ (List.mem_cons_of_mem _ wd_98))
  have fl_23 := (hts _ (List.mem_cons_of_mem _ wd_99))
  have hin_Speller : ∀ w ∈ u_ws "HazardTables$Speller" F_Speller 6, w ∈ w_Speller_isBehind := fun w h => List.mem_cons_of_mem _ (hinA_Speller w h)
  have ret : ∀ (v : Bool) (u : Unit) (H : Heap) (locs : List Loc) (ls : Array Slot) (pc : Nat), decode b_Speller_isBehind pc = .ok (.ireturn, 1) → (v = res) → va_P (dC, dI) vwCl (uw_Speller ad_sp cA_sp sp) H → va_D A (uw_Speller ad_sp cA_sp sp) → va_S A s.heap H locs → W p l e (headSpec w_Speller_isBehind ({ frames := 0, cells := 0, slots := 0, locals := 0 })).room s m ([.ref (ad_sp 0), .int x1, .int x2, .int x3] : List Value).toArray below meth c H locs 0 0 (MQ below (va_Qi (fun (r : Int32) (u : Unit) => r = bI res) (fun (u : Unit) (t : State) => va_P (dC, dI) vwCl (uw_Speller ad_sp cA_sp sp) t.heap ∧ va_K (dC, dI) vwCl [(cA_sp 1, .int), (cA_sp 2, .int), (cA_sp 3, .int), (cA_sp 4, .int)] t ∧ va_D A (uw_Speller ad_sp cA_sp sp)) A) ([.ref (ad_sp 0), .int x1, .int x2, .int x3] : List Value).toArray s 0 0 A) (F0 m pc ls [.int (bI v)]) := fun v u H locs ls pc hd hp hP hD hS => W.zret (v := bI v) (ty := .boolean) hx hb hr (nar_bI v) (fun t ht hW => ⟨⟨bI v, u, rfl, (by rw [hp]), by rw [ht]; exact hP, va_K.moved hW.alike hK, hD⟩, hS.F ht⟩) hS.2.2 hd
  generalize (MQ below (va_Qi (fun (r : Int32) (u : Unit) => r = bI res) (fun (u : Unit) (t : State) => va_P (dC, dI) vwCl (uw_Speller ad_sp cA_sp sp) t.heap ∧ va_K (dC, dI) vwCl [(cA_sp 1, .int), (cA_sp 2, .int), (cA_sp 3, .int), (cA_sp 4, .int)] t ∧ va_D A (uw_Speller ad_sp cA_sp sp)) A) ([.ref (ad_sp 0), .int x1, .int x2, .int x3] : List Value).toArray s 0 0 A) = Q at ret ⊢
  have hl := lv_entry ([.ref (ad_sp 0), .int x1, .int x2, .int x3]) (n := 4) (Nat.le_of_ble_eq_true rfl)
  rw [lg_entry_eq]
  generalize (lg_sl ([.ref (ad_sp 0), .int x1, .int x2, .int x3]) ++ List.replicate (4 - (lg_sl ([.ref (ad_sp 0), .int x1, .int x2, .int x3])).length) Slot.unset).toArray = ls at hl ⊢
  have hl : lv_has ls 4 [(0, .ref (ad_sp 0)), (1, .int x1), (2, .int x2), (3, .int x3)] := hl
  have hf := hf
  rw [f_Speller_isBehind] at hf
  obtain ⟨H, hH⟩ : ∃ H : Heap, H = s.heap := ⟨_, rfl⟩
  obtain ⟨locs, hlocs⟩ : ∃ L : List Loc, L = [] := ⟨_, rfl⟩
  have hP : va_P (dC, dI) vwCl (uw_Speller ad_sp cA_sp sp) H := by rw [hH]; exact hP
  have hS : va_S A s.heap H locs := by rw [hH, hlocs]; exact hS
  show W p l e (headSpec w_Speller_isBehind ({ frames := 0, cells := 0, slots := 0, locals := 0 })).room s m ([.ref (ad_sp 0), .int x1, .int x2, .int x3] : List Value).toArray below meth c s.heap [] 0 0 Q (F0 m 0 ls [])
  suffices hgo : W p l e (headSpec w_Speller_isBehind ({ frames := 0, cells := 0, slots := 0, locals := 0 })).room s m ([.ref (ad_sp 0), .int x1, .int x2, .int x3] : List Value).toArray below meth c H locs 0 0 Q (F0 m 0 ls []) by rw [hH, hlocs] at hgo; exact hgo
  clear hH hlocs
  refine lv_aload_n hx hb d_Speller_isBehind_0 rfl (lv_at hl 0 rfl) ?_
  refine va_get (D := (dC, dI)) (ci := 2) (v := .ref (ad_sp 4)) (C := "HazardTables$Speller") (T := F_Speller) (N := 6) hx hb hts hin_Speller hown hK hP 0 rfl rfl 3 (by decide) fl_23 (fun _ h9 => h9) rfl d_Speller_isBehind_1 ?_
  refine lv_iload_n hx hb d_Speller_isBehind_4 rfl (lv_at hl 1 rfl) ?_
  obtain ⟨hi1, hf⟩ := hf_g hf
  refine va_iald hx hb hK hP 4 3 rfl rfl hi1 d_Speller_isBehind_5 ?_
  refine lv_iload_n hx hb d_Speller_isBehind_6 rfl (lv_at hl 3 rfl) ?_
  refine lv_icmp_gt (tgt := 30) hx hb d_Speller_isBehind_7 (by decide) (fun hc2 => ?_) (fun hc2 => ?_)
  · have hf := hf_t hf hc2
    refine lv_iconst (v := (1 : Int32)) hx hb d_Speller_isBehind_30 (by decide) ?_
    refine lv_goto (tgt := 35) hx hb d_Speller_isBehind_31 (by decide) ?_
    exact ret true () H locs ls 35 d_Speller_isBehind_35 (Option.some.inj hf) hP hD hS
  · have hf := hf_f hf hc2
    refine lv_aload_n hx hb d_Speller_isBehind_10 rfl (lv_at hl 0 rfl) ?_
    refine va_get (D := (dC, dI)) (ci := 2) (v := .ref (ad_sp 4)) (C := "HazardTables$Speller") (T := F_Speller) (N := 6) hx hb hts hin_Speller hown hK hP 0 rfl rfl 3 (by decide) fl_23 (fun _ h9 => h9) rfl d_Speller_isBehind_11 ?_
    refine lv_iload_n hx hb d_Speller_isBehind_14 rfl (lv_at hl 1 rfl) ?_
    obtain ⟨hi3, hf⟩ := hf_g hf
    refine va_iald hx hb hK hP 4 3 rfl rfl hi3 d_Speller_isBehind_15 ?_
    refine lv_iload_n hx hb d_Speller_isBehind_16 rfl (lv_at hl 3 rfl) ?_
    refine lv_icmp_ne (tgt := 34) hx hb d_Speller_isBehind_17 (by decide) (fun hc4 => ?_) (fun hc4 => ?_)
    · have hf := hf_f hf hc4
      refine lv_iconst (v := (0 : Int32)) hx hb d_Speller_isBehind_34 (by decide) ?_
      exact ret false () H locs ls 35 d_Speller_isBehind_35 (Option.some.inj hf) hP hD hS
    · have hf := hf_t hf hc4
      refine lv_aload_n hx hb d_Speller_isBehind_20 rfl (lv_at hl 0 rfl) ?_
      refine va_get (D := (dC, dI)) (ci := 2) (v := .ref (ad_sp 3)) (C := "HazardTables$Speller") (T := F_Speller) (N := 6) hx hb hts hin_Speller hown hK hP 0 rfl rfl 2 (by decide) fl_20 (fun _ h9 => h9) rfl d_Speller_isBehind_21 ?_
      refine lv_iload_n hx hb d_Speller_isBehind_24 rfl (lv_at hl 1 rfl) ?_
      obtain ⟨hi5, hf⟩ := hf_g hf
      refine va_iald hx hb hK hP 3 2 rfl rfl hi5 d_Speller_isBehind_25 ?_
      refine lv_iload_n hx hb d_Speller_isBehind_26 rfl (lv_at hl 2 rfl) ?_
      refine lv_icmp_le (tgt := 34) hx hb d_Speller_isBehind_27 (by decide) (fun hc6 => ?_) (fun hc6 => ?_)
      · have hf := hf_t hf hc6
        refine lv_iconst (v := (0 : Int32)) hx hb d_Speller_isBehind_34 (by decide) ?_
        exact ret false () H locs ls 35 d_Speller_isBehind_35 (Option.some.inj hf) hP hD hS
      · have hf := hf_f hf hc6
        refine lv_iconst (v := (1 : Int32)) hx hb d_Speller_isBehind_30 (by decide) ?_
        refine lv_goto (tgt := 35) hx hb d_Speller_isBehind_31 (by decide) ?_
        exact ret true () H locs ls 35 d_Speller_isBehind_35 (Option.some.inj hf) hP hD hS
noncomputable def f_Speller_insert_68  (sp : SSpeller) (y1 : Int32) (y2 : Int32) (y3 : Int32) : Option (SSpeller) :=
  (if inb y3 12 then
    (if inb y3 12 then
      (some (sp.1, sp.2.1, upd sp.2.2.1 y3.toNatClampNeg y1, upd sp.2.2.2.1 y3.toNatClampNeg y2, sp.2.2.2.2.1, sp.2.2.2.2.2 + (1 : Int32)))
     else none)
   else none)
noncomputable def f_Speller_insert_18  : Nat → SSpeller → Int32 → Int32 → Int32 → Option (SSpeller)
  | 0, _, _, _, _ => none
  | n + 1, sp, y1, y2, y3 =>
    (if y3 ≤ 0 then
      (f_Speller_insert_68 sp y1 y2 y3)
     else
      (Option.bind (f_Speller_isBehind sp (y3 - (1 : Int32)) y1 y2) fun u3 =>
        (if (bI u3) = 0 then
          (f_Speller_insert_68 sp y1 y2 y3)
         else
          (if inb (y3 - (1 : Int32)) 12 then
            (if inb y3 12 then
              (if inb (y3 - (1 : Int32)) 12 then
                (if inb y3 12 then
                  (f_Speller_insert_18 n (sp.1, sp.2.1, upd sp.2.2.1 y3.toNatClampNeg (sp.2.2.1 (y3 - (1 : Int32)).toNatClampNeg), upd sp.2.2.2.1 y3.toNatClampNeg (sp.2.2.2.1 (y3 - (1 : Int32)).toNatClampNeg), sp.2.2.2.2.1, sp.2.2.2.2.2) y1 y2 (y3 + (-1 : Int32)))
                 else none)
               else none)
             else none)
           else none)
         )
       )
     )
noncomputable def f_Speller_insert (sp : SSpeller) (x1 : Int32) (x2 : Int32) : Option (SSpeller) :=
  (if sp.2.2.2.2.2 < (12 : Int32) then
    (f_Speller_insert_18 4096 sp x1 x2 sp.2.2.2.2.2)
   else
    (some sp)
   )
set_option maxHeartbeats 4000000 in
set_option maxRecDepth 100000 in
theorem k_Speller_insert (l : Launch) (dC : Nat → ClassId) (dI : Nat → Nat → Nat) (ad_sp : Nat → Nat) (cA_sp : Nat → ClassId) (sz : Nat) (sp : SSpeller) (x1 : Int32) (x2 : Int32) (res : SSpeller) (hf : f_Speller_insert sp x1 x2 = some res) : Met l y_Speller_insert w_Speller_insert ({ frames := 1, cells := 0, slots := 0, locals := 23 }) (cPc (dC, dI) (uw_Speller ad_sp cA_sp sp) [(cA_sp 1, .int), (cA_sp 2, .int), (cA_sp 3, .int), (cA_sp 4, .int)] sz [.ref (ad_sp 0), .int x1, .int x2]) (va_Qv (fun (u : SSpeller) => u = res) (fun (u : SSpeller) (t : State) => va_P (dC, dI) vwCl (uw_Speller ad_sp cA_sp u) t.heap ∧ va_K (dC, dI) vwCl [(cA_sp 1, .int), (cA_sp 2, .int), (cA_sp 3, .int), (cA_sp 4, .int)] t ∧ va_D (va_A (uw_Speller ad_sp cA_sp sp) sz) (uw_Speller ad_sp cA_sp u)) (va_A (uw_Speller ad_sp cA_sp sp) sz)) 0 0 (va_A (uw_Speller ad_sp cA_sp sp) sz) := by
  refine Met.ofW (cc := b_Speller_insert) (maxL := 4) (ret := none) (by decide) rfl ?_
  intro p e s m args below meth c s₁ B hml hv
  obtain ⟨rfl, hsz, hP, hK, hD0, hN⟩ := hv
  have hx := B.exec
  have hb := B.bytes
  have hr := B.returns
  have hts := atoms_spec (ws := w_Speller_insert) B.pre
  have hown : s.vm.findClass "HazardTables$Speller" = some m.cls := findClass_of_methodNamed B.named
  have hlocks := B.notSynchronized
  subst hsz
  have hD := hD0.self (sz := s.heap.size)
  generalize hAe : va_A (uw_Speller ad_sp cA_sp sp) s.heap.size = A at hD ⊢
  have hA : ∀ q : Nat, s.heap.size ≤ q → A q := fun q h => by rw [← hAe]; exact Or.inr h
  have hS : va_S A s.heap s.heap [] := va_S.rf
  have hP : va_P (dC, dI) vwCl (uw_Speller ad_sp cA_sp sp) s.heap := hP
  have fl_20 := (hts _ (List.mem_cons_of_mem _ wd_98))
  have fl_23 := (hts _ (List.mem_cons_of_mem _ wd_99))
  have fl_26 := (hts _ (List.mem_cons_of_mem _ wd_101))
  have hin_Speller : ∀ w ∈ u_ws "HazardTables$Speller" F_Speller 6, w ∈ w_Speller_insert := fun w h => List.mem_cons_of_mem _ (hinA_Speller w h)
  have ret : ∀ (u : SSpeller) (H : Heap) (locs : List Loc) (ls : Array Slot) (pc : Nat), decode b_Speller_insert pc = .ok (.return_, 1) → u = res → va_P (dC, dI) vwCl (uw_Speller ad_sp cA_sp u) H → va_D A (uw_Speller ad_sp cA_sp u) → va_S A s.heap H locs → W p l e (headSpec w_Speller_insert ({ frames := 1, cells := 0, slots := 0, locals := 23 })).room s m ([.ref (ad_sp 0), .int x1, .int x2] : List Value).toArray below meth c H locs 0 0 (MQ below (va_Qv (fun (u : SSpeller) => u = res) (fun (u : SSpeller) (t : State) => va_P (dC, dI) vwCl (uw_Speller ad_sp cA_sp u) t.heap ∧ va_K (dC, dI) vwCl [(cA_sp 1, .int), (cA_sp 2, .int), (cA_sp 3, .int), (cA_sp 4, .int)] t ∧ va_D A (uw_Speller ad_sp cA_sp u)) A) ([.ref (ad_sp 0), .int x1, .int x2] : List Value).toArray s 0 0 A) (F0 m pc ls []) := fun u H locs ls pc hd hp hP hD hS => W.vret hx hb hr (fun t ht hW => ⟨⟨u, rfl, hp, by rw [ht]; exact hP, va_K.moved hW.alike hK, hD⟩, hS.F ht⟩) hS.2.2 hd
  generalize (MQ below (va_Qv (fun (u : SSpeller) => u = res) (fun (u : SSpeller) (t : State) => va_P (dC, dI) vwCl (uw_Speller ad_sp cA_sp u) t.heap ∧ va_K (dC, dI) vwCl [(cA_sp 1, .int), (cA_sp 2, .int), (cA_sp 3, .int), (cA_sp 4, .int)] t ∧ va_D A (uw_Speller ad_sp cA_sp u)) A) ([.ref (ad_sp 0), .int x1, .int x2] : List Value).toArray s 0 0 A) = Q at ret ⊢
  have w_68 : ∀ (sp : SSpeller) (y1 : Int32) (y2 : Int32) (y3 : Int32) (H : Heap) (locs : List Loc) (ls : Array Slot), f_Speller_insert_68 sp y1 y2 y3 = some res → va_P (dC, dI) vwCl (uw_Speller ad_sp cA_sp sp) H → va_D A (uw_Speller ad_sp cA_sp sp) → va_S A s.heap H locs → lv_has ls 4 [(0, .ref (ad_sp 0)), (1, .int y1), (2, .int y2), (3, .int y3)] → W p l e (headSpec w_Speller_insert ({ frames := 1, cells := 0, slots := 0, locals := 23 })).room s m ([.ref (ad_sp 0), .int x1, .int x2] : List Value).toArray below meth c H locs 0 0 Q (F0 m 68 ls []) := by
    intro sp y1 y2 y3 H locs ls hf hP hD hS hl
    rw [f_Speller_insert_68] at hf
    refine lv_aload_n hx hb d_Speller_insert_68 rfl (lv_at hl 0 rfl) ?_
    refine va_get (D := (dC, dI)) (ci := 2) (v := .ref (ad_sp 3)) (C := "HazardTables$Speller") (T := F_Speller) (N := 6) hx hb hts hin_Speller hown hK hP 0 rfl rfl 2 (by decide) fl_20 (fun _ h9 => h9) rfl d_Speller_insert_69 ?_
    refine lv_iload_n hx hb d_Speller_insert_72 rfl (lv_at hl 3 rfl) ?_
    refine lv_iload_n hx hb d_Speller_insert_73 rfl (lv_at hl 1 rfl) ?_
    obtain ⟨hi9, hf⟩ := hf_g hf
    refine va_iast hx hb hK hP hD hS 3 2 rfl rfl hi9 d_Speller_insert_74 (fun H locs hP hD hS => ?_)
    have hP : va_P (dC, dI) vwCl (uw_Speller ad_sp cA_sp (sp.1, sp.2.1, upd sp.2.2.1 y3.toNatClampNeg y1, sp.2.2.2.1, sp.2.2.2.2.1, sp.2.2.2.2.2)) H := hP
    have hD : va_D A (uw_Speller ad_sp cA_sp (sp.1, sp.2.1, upd sp.2.2.1 y3.toNatClampNeg y1, sp.2.2.2.1, sp.2.2.2.2.1, sp.2.2.2.2.2)) := hD
    refine lv_aload_n hx hb d_Speller_insert_75 rfl (lv_at hl 0 rfl) ?_
    refine va_get (D := (dC, dI)) (ci := 2) (v := .ref (ad_sp 4)) (C := "HazardTables$Speller") (T := F_Speller) (N := 6) hx hb hts hin_Speller hown hK hP 0 rfl rfl 3 (by decide) fl_23 (fun _ h9 => h9) rfl d_Speller_insert_76 ?_
    refine lv_iload_n hx hb d_Speller_insert_79 rfl (lv_at hl 3 rfl) ?_
    refine lv_iload_n hx hb d_Speller_insert_80 rfl (lv_at hl 2 rfl) ?_
    obtain ⟨hi10, hf⟩ := hf_g hf
    refine va_iast hx hb hK hP hD hS 4 3 rfl rfl hi10 d_Speller_insert_81 (fun H locs hP hD hS => ?_)
    have hP : va_P (dC, dI) vwCl (uw_Speller ad_sp cA_sp (sp.1, sp.2.1, upd sp.2.2.1 y3.toNatClampNeg y1, upd sp.2.2.2.1 y3.toNatClampNeg y2, sp.2.2.2.2.1, sp.2.2.2.2.2)) H := hP
    have hD : va_D A (uw_Speller ad_sp cA_sp (sp.1, sp.2.1, upd sp.2.2.1 y3.toNatClampNeg y1, upd sp.2.2.2.1 y3.toNatClampNeg y2, sp.2.2.2.2.1, sp.2.2.2.2.2)) := hD
    refine lv_aload_n hx hb d_Speller_insert_82 rfl (lv_at hl 0 rfl) ?_
    refine lv_dup hx hb d_Speller_insert_83 rfl ?_
    refine va_get (D := (dC, dI)) (ci := 2) (v := .int sp.2.2.2.2.2) (C := "HazardTables$Speller") (T := F_Speller) (N := 6) hx hb hts hin_Speller hown hK hP 0 rfl rfl 5 (by decide) fl_26 (fun _ h9 => h9) rfl d_Speller_insert_84 ?_
    refine lv_iconst (v := (1 : Int32)) hx hb d_Speller_insert_87 (by decide) ?_
    refine lv_iadd hx hb d_Speller_insert_88 ?_
    refine va_put (D := (dC, dI)) (ci := 2) (v := .int (sp.2.2.2.2.2 + (1 : Int32))) (ty := .int) (C := "HazardTables$Speller") (T := F_Speller) (N := 6) hx hb hts hin_Speller t_Speller t_Speller_ok n_Speller hown hK hP hD hS 0 rfl rfl 5 (by decide) fl_26 (fun _ h9 => h9) rfl (by decide +kernel) rfl rfl (Nat.le_of_ble_eq_true rfl) d_Speller_insert_89 (fun H locs hP hD hS => ?_)
    have hP : va_P (dC, dI) vwCl (uw_Speller ad_sp cA_sp (sp.1, sp.2.1, upd sp.2.2.1 y3.toNatClampNeg y1, upd sp.2.2.2.1 y3.toNatClampNeg y2, sp.2.2.2.2.1, sp.2.2.2.2.2 + (1 : Int32))) H := hP
    have hD : va_D A (uw_Speller ad_sp cA_sp (sp.1, sp.2.1, upd sp.2.2.1 y3.toNatClampNeg y1, upd sp.2.2.2.1 y3.toNatClampNeg y2, sp.2.2.2.2.1, sp.2.2.2.2.2 + (1 : Int32))) := hD
    exact ret  (sp.1, sp.2.1, upd sp.2.2.1 y3.toNatClampNeg y1, upd sp.2.2.2.1 y3.toNatClampNeg y2, sp.2.2.2.2.1, sp.2.2.2.2.2 + (1 : Int32)) H locs ls 92 d_Speller_insert_92 (Option.some.inj hf) hP hD hS
  have w_18 : ∀ (n : Nat) (sp : SSpeller) (y1 : Int32) (y2 : Int32) (y3 : Int32) (H : Heap) (locs : List Loc) (ls : Array Slot), f_Speller_insert_18 n sp y1 y2 y3 = some res → va_P (dC, dI) vwCl (uw_Speller ad_sp cA_sp sp) H → va_D A (uw_Speller ad_sp cA_sp sp) → va_S A s.heap H locs → lv_has ls 4 [(0, .ref (ad_sp 0)), (1, .int y1), (2, .int y2), (3, .int y3)] → W p l e (headSpec w_Speller_insert ({ frames := 1, cells := 0, slots := 0, locals := 23 })).room s m ([.ref (ad_sp 0), .int x1, .int x2] : List Value).toArray below meth c H locs 0 0 Q (F0 m 18 ls []) := by
    intro n
    induction n with
    | zero =>
      intro sp y1 y2 y3 H locs ls hf hP hD hS hl
      rw [f_Speller_insert_18] at hf; cases hf
    | succ n ih =>
      intro sp y1 y2 y3 H locs ls hf hP hD hS hl
      rw [f_Speller_insert_18] at hf
      refine lv_iload_n hx hb d_Speller_insert_18 rfl (lv_at hl 3 rfl) ?_
      refine lv_if_le (tgt := 68) hx hb d_Speller_insert_19 (by decide) (fun hc2 => ?_) (fun hc2 => ?_)
      · have hf := hf_t hf hc2
        exact w_68 sp y1 y2 y3 H locs ls hf hP hD hS (lv_sub hl [0, 1, 2, 3] rfl)
      · have hf := hf_f hf hc2
        refine lv_aload_n hx hb d_Speller_insert_22 rfl (lv_at hl 0 rfl) ?_
        refine lv_iload_n hx hb d_Speller_insert_23 rfl (lv_at hl 3 rfl) ?_
        refine lv_iconst (v := (1 : Int32)) hx hb d_Speller_insert_24 (by decide) ?_
        refine lv_isub hx hb d_Speller_insert_25 ?_
        refine lv_iload_n hx hb d_Speller_insert_26 rfl (lv_at hl 1 rfl) ?_
        refine lv_iload_n hx hb d_Speller_insert_27 rfl (lv_at hl 2 rfl) ?_
        obtain ⟨u3, hu3, hf⟩ := Option.bind_eq_some_iff.mp hf
        refine cl_i (wc := (uw_Speller ad_sp cA_sp sp)) (wr := []) (tysC := [(cA_sp 1, .int), (cA_sp 2, .int), (cA_sp 3, .int), (cA_sp 4, .int)]) (wu := fun (u : Unit) => (uw_Speller ad_sp cA_sp sp)) (wn := fun (u : Unit) => (uw_Speller ad_sp cA_sp sp)) [0, 1, 2, 3, 4] [] [0, 1, 2, 3, 4] [0, 1, 2, 3] hP hD hS hA hK rfl rfl (by decide +kernel) (by decide +kernel) (by decide +kernel) rfl (fun _ => rfl) (by decide +kernel) (fun hPc hKc hDc => (va_runV (As := [.int (y3 - (1 : Int32)), .int y1, .int y2]) (rest := []) ⟨hx, hb, hml, hown, hts⟩ (k_Speller_isBehind l dC dI ad_sp cA_sp H.size sp (y3 - (1 : Int32)) y1 y2 u3 hu3) (cwV 3 hts (gV wd_551 wd_553 wd_19 wd_45 wd_554) rfl rfl rfl (by decide +kernel) ⟨Nat.le_of_ble_eq_true rfl, Nat.le_of_ble_eq_true rfl⟩) (cl_preV hPc hKc hDc hN (ci := 2) 0 rfl rfl) rfl rfl hl.1 rfl (lv_room (Nat.le_of_ble_eq_true rfl)) d_Speller_insert_28 ⟨Nat.le_of_ble_eq_true rfl, Nat.le_of_ble_eq_true rfl⟩)) (fun r u H locs hw hP hD hS => ?_)
        have hw := hw.symm
        subst hw
        have hP : va_P (dC, dI) vwCl (uw_Speller ad_sp cA_sp sp) H := hP
        have hD : va_D A (uw_Speller ad_sp cA_sp sp) := hD
        refine lv_if_eq (tgt := 68) hx hb d_Speller_insert_31 (by decide) (fun hc4 => ?_) (fun hc4 => ?_)
        · have hf := hf_t hf hc4
          exact w_68 sp y1 y2 y3 H locs ls hf hP hD hS (lv_sub hl [0, 1, 2, 3] rfl)
        · have hf := hf_f hf hc4
          refine lv_aload_n hx hb d_Speller_insert_34 rfl (lv_at hl 0 rfl) ?_
          refine va_get (D := (dC, dI)) (ci := 2) (v := .ref (ad_sp 3)) (C := "HazardTables$Speller") (T := F_Speller) (N := 6) hx hb hts hin_Speller hown hK hP 0 rfl rfl 2 (by decide) fl_20 (fun _ h9 => h9) rfl d_Speller_insert_35 ?_
          refine lv_iload_n hx hb d_Speller_insert_38 rfl (lv_at hl 3 rfl) ?_
          refine lv_aload_n hx hb d_Speller_insert_39 rfl (lv_at hl 0 rfl) ?_
          refine va_get (D := (dC, dI)) (ci := 2) (v := .ref (ad_sp 3)) (C := "HazardTables$Speller") (T := F_Speller) (N := 6) hx hb hts hin_Speller hown hK hP 0 rfl rfl 2 (by decide) fl_20 (fun _ h9 => h9) rfl d_Speller_insert_40 ?_
          refine lv_iload_n hx hb d_Speller_insert_43 rfl (lv_at hl 3 rfl) ?_
          refine lv_iconst (v := (1 : Int32)) hx hb d_Speller_insert_44 (by decide) ?_
          refine lv_isub hx hb d_Speller_insert_45 ?_
          obtain ⟨hi5, hf⟩ := hf_g hf
          refine va_iald hx hb hK hP 3 2 rfl rfl hi5 d_Speller_insert_46 ?_
          obtain ⟨hi6, hf⟩ := hf_g hf
          refine va_iast hx hb hK hP hD hS 3 2 rfl rfl hi6 d_Speller_insert_47 (fun H locs hP hD hS => ?_)
          have hP : va_P (dC, dI) vwCl (uw_Speller ad_sp cA_sp (sp.1, sp.2.1, upd sp.2.2.1 y3.toNatClampNeg (sp.2.2.1 (y3 - (1 : Int32)).toNatClampNeg), sp.2.2.2.1, sp.2.2.2.2.1, sp.2.2.2.2.2)) H := hP
          have hD : va_D A (uw_Speller ad_sp cA_sp (sp.1, sp.2.1, upd sp.2.2.1 y3.toNatClampNeg (sp.2.2.1 (y3 - (1 : Int32)).toNatClampNeg), sp.2.2.2.1, sp.2.2.2.2.1, sp.2.2.2.2.2)) := hD
          refine lv_aload_n hx hb d_Speller_insert_48 rfl (lv_at hl 0 rfl) ?_
          refine va_get (D := (dC, dI)) (ci := 2) (v := .ref (ad_sp 4)) (C := "HazardTables$Speller") (T := F_Speller) (N := 6) hx hb hts hin_Speller hown hK hP 0 rfl rfl 3 (by decide) fl_23 (fun _ h9 => h9) rfl d_Speller_insert_49 ?_
          refine lv_iload_n hx hb d_Speller_insert_52 rfl (lv_at hl 3 rfl) ?_
          refine lv_aload_n hx hb d_Speller_insert_53 rfl (lv_at hl 0 rfl) ?_
          refine va_get (D := (dC, dI)) (ci := 2) (v := .ref (ad_sp 4)) (C := "HazardTables$Speller") (T := F_Speller) (N := 6) hx hb hts hin_Speller hown hK hP 0 rfl rfl 3 (by decide) fl_23 (fun _ h9 => h9) rfl d_Speller_insert_54 ?_
          refine lv_iload_n hx hb d_Speller_insert_57 rfl (lv_at hl 3 rfl) ?_
          refine lv_iconst (v := (1 : Int32)) hx hb d_Speller_insert_58 (by decide) ?_
          refine lv_isub hx hb d_Speller_insert_59 ?_
          obtain ⟨hi7, hf⟩ := hf_g hf
          refine va_iald hx hb hK hP 4 3 rfl rfl hi7 d_Speller_insert_60 ?_
          obtain ⟨hi8, hf⟩ := hf_g hf
          refine va_iast hx hb hK hP hD hS 4 3 rfl rfl hi8 d_Speller_insert_61 (fun H locs hP hD hS => ?_)
          have hP : va_P (dC, dI) vwCl (uw_Speller ad_sp cA_sp (sp.1, sp.2.1, upd sp.2.2.1 y3.toNatClampNeg (sp.2.2.1 (y3 - (1 : Int32)).toNatClampNeg), upd sp.2.2.2.1 y3.toNatClampNeg (sp.2.2.2.1 (y3 - (1 : Int32)).toNatClampNeg), sp.2.2.2.2.1, sp.2.2.2.2.2)) H := hP
          have hD : va_D A (uw_Speller ad_sp cA_sp (sp.1, sp.2.1, upd sp.2.2.1 y3.toNatClampNeg (sp.2.2.1 (y3 - (1 : Int32)).toNatClampNeg), upd sp.2.2.2.1 y3.toNatClampNeg (sp.2.2.2.1 (y3 - (1 : Int32)).toNatClampNeg), sp.2.2.2.2.1, sp.2.2.2.2.2)) := hD
          refine lv_iinc (v := y3 + (-1 : Int32)) (lv' := [(3, .int (y3 + (-1 : Int32))), (0, .ref (ad_sp 0)), (1, .int y1), (2, .int y2)]) hx hb d_Speller_insert_62 hl (k := 3) rfl rfl (by decide) rfl (fun ls hl => ?_)
          refine lv_goto (tgt := 18) hx hb d_Speller_insert_65 (by decide) ?_
          exact ih (sp.1, sp.2.1, upd sp.2.2.1 y3.toNatClampNeg (sp.2.2.1 (y3 - (1 : Int32)).toNatClampNeg), upd sp.2.2.2.1 y3.toNatClampNeg (sp.2.2.2.1 (y3 - (1 : Int32)).toNatClampNeg), sp.2.2.2.2.1, sp.2.2.2.2.2) y1 y2 (y3 + (-1 : Int32)) H locs ls hf hP hD hS (lv_sub hl [1, 2, 3, 0] rfl)
  have hl := lv_entry ([.ref (ad_sp 0), .int x1, .int x2]) (n := 4) (Nat.le_of_ble_eq_true rfl)
  rw [lg_entry_eq]
  generalize (lg_sl ([.ref (ad_sp 0), .int x1, .int x2]) ++ List.replicate (4 - (lg_sl ([.ref (ad_sp 0), .int x1, .int x2])).length) Slot.unset).toArray = ls at hl ⊢
  have hl : lv_has ls 4 [(0, .ref (ad_sp 0)), (1, .int x1), (2, .int x2)] := hl
  have hf := hf
  rw [f_Speller_insert] at hf
  obtain ⟨H, hH⟩ : ∃ H : Heap, H = s.heap := ⟨_, rfl⟩
  obtain ⟨locs, hlocs⟩ : ∃ L : List Loc, L = [] := ⟨_, rfl⟩
  have hP : va_P (dC, dI) vwCl (uw_Speller ad_sp cA_sp sp) H := by rw [hH]; exact hP
  have hS : va_S A s.heap H locs := by rw [hH, hlocs]; exact hS
  show W p l e (headSpec w_Speller_insert ({ frames := 1, cells := 0, slots := 0, locals := 23 })).room s m ([.ref (ad_sp 0), .int x1, .int x2] : List Value).toArray below meth c s.heap [] 0 0 Q (F0 m 0 ls [])
  suffices hgo : W p l e (headSpec w_Speller_insert ({ frames := 1, cells := 0, slots := 0, locals := 23 })).room s m ([.ref (ad_sp 0), .int x1, .int x2] : List Value).toArray below meth c H locs 0 0 Q (F0 m 0 ls []) by rw [hH, hlocs] at hgo; exact hgo
  clear hH hlocs
  refine lv_aload_n hx hb d_Speller_insert_0 rfl (lv_at hl 0 rfl) ?_
  refine va_get (D := (dC, dI)) (ci := 2) (v := .int sp.2.2.2.2.2) (C := "HazardTables$Speller") (T := F_Speller) (N := 6) hx hb hts hin_Speller hown hK hP 0 rfl rfl 5 (by decide) fl_26 (fun _ h9 => h9) rfl d_Speller_insert_1 ?_
  refine lv_aload_n hx hb d_Speller_insert_4 rfl (lv_at hl 0 rfl) ?_
  refine va_get (D := (dC, dI)) (ci := 2) (v := .ref (ad_sp 3)) (C := "HazardTables$Speller") (T := F_Speller) (N := 6) hx hb hts hin_Speller hown hK hP 0 rfl rfl 2 (by decide) fl_20 (fun _ h9 => h9) rfl d_Speller_insert_5 ?_
  refine va_alen (v := 12) hx hb hK hP 3 2 rfl (ty := .int) rfl rfl d_Speller_insert_8 ?_
  refine lv_icmp_lt (tgt := 13) hx hb d_Speller_insert_9 (by decide) (fun hc1 => ?_) (fun hc1 => ?_)
  · have hf := hf_t hf hc1
    refine lv_aload_n hx hb d_Speller_insert_13 rfl (lv_at hl 0 rfl) ?_
    refine va_get (D := (dC, dI)) (ci := 2) (v := .int sp.2.2.2.2.2) (C := "HazardTables$Speller") (T := F_Speller) (N := 6) hx hb hts hin_Speller hown hK hP 0 rfl rfl 5 (by decide) fl_26 (fun _ h9 => h9) rfl d_Speller_insert_14 ?_
    refine lv_istore_n (lv' := [(3, .int sp.2.2.2.2.2), (0, .ref (ad_sp 0)), (1, .int x1), (2, .int x2)]) hx hb d_Speller_insert_17 rfl hl (by decide) rfl (fun ls hl => ?_)
    exact w_18 4096 sp x1 x2 sp.2.2.2.2.2 H locs ls hf hP hD hS (lv_sub hl [1, 2, 3, 0] rfl)
  · have hf := hf_f hf hc1
    exact ret  sp H locs ls 12 d_Speller_insert_12 (Option.some.inj hf) hP hD hS
noncomputable def f_Speller_rank_7  : Nat → SSpeller → STable → Int32 → Option (SSpeller)
  | 0, _, _, _ => none
  | n + 1, sp, tb, y2 =>
    (if tb.2.2.2.2.1 < y2 then
      (some sp)
     else
      (if (13 : Int32) ≤ y2 then
        (some sp)
       else
        (if inb y2 13 then
          (Option.bind (f_Speller_distanceTo sp tb y2) fun u4 =>
            (Option.bind (f_Speller_insert u4.2 (tb.1 y2.toNatClampNeg) u4.1) fun u5 =>
              (f_Speller_rank_7 n u5 tb (y2 + (1 : Int32)))
             )
           )
         else none)
       )
     )
noncomputable def f_Speller_rank (sp : SSpeller) (tb : STable) : Option (SSpeller) :=
  (f_Speller_rank_7 4096 (sp.1, sp.2.1, sp.2.2.1, sp.2.2.2.1, sp.2.2.2.2.1, (0 : Int32)) tb (1 : Int32))
set_option maxHeartbeats 4000000 in
set_option maxRecDepth 100000 in
theorem k_Speller_rank (l : Launch) (dC : Nat → ClassId) (dI : Nat → Nat → Nat) (ad_sp : Nat → Nat) (cA_sp : Nat → ClassId) (ad_tb : Nat → Nat) (cA_tb : Nat → ClassId) (sz : Nat) (sp : SSpeller) (tb : STable) (res : SSpeller) (hf : f_Speller_rank sp tb = some res) : Met l y_Speller_rank w_Speller_rank ({ frames := 4, cells := 0, slots := 0, locals := 95 }) (cPc (dC, dI) (uw_Speller ad_sp cA_sp sp ++ (uw_Table ad_tb cA_tb tb)) [(cA_sp 1, .int), (cA_sp 2, .int), (cA_sp 3, .int), (cA_sp 4, .int), (cA_tb 1, .int), (cA_tb 2, .int), (cA_tb 3, .int), (cA_tb 4, .byte)] sz [.ref (ad_sp 0), .ref (ad_tb 0)]) (va_Qv (fun (u : SSpeller) => u = res) (fun (u : SSpeller) (t : State) => va_P (dC, dI) vwCl (uw_Speller ad_sp cA_sp u ++ (uw_Table ad_tb cA_tb tb)) t.heap ∧ va_K (dC, dI) vwCl [(cA_sp 1, .int), (cA_sp 2, .int), (cA_sp 3, .int), (cA_sp 4, .int), (cA_tb 1, .int), (cA_tb 2, .int), (cA_tb 3, .int), (cA_tb 4, .byte)] t ∧ va_D (va_A (uw_Speller ad_sp cA_sp sp ++ (uw_Table ad_tb cA_tb tb)) sz) (uw_Speller ad_sp cA_sp u ++ (uw_Table ad_tb cA_tb tb))) (va_A (uw_Speller ad_sp cA_sp sp ++ (uw_Table ad_tb cA_tb tb)) sz)) 0 0 (va_A (uw_Speller ad_sp cA_sp sp ++ (uw_Table ad_tb cA_tb tb)) sz) := by
  refine Met.ofW (cc := b_Speller_rank) (maxL := 3) (ret := none) (by decide) rfl ?_
  intro p e s m args below meth c s₁ B hml hv
  obtain ⟨rfl, hsz, hP, hK, hD0, hN⟩ := hv
  have hx := B.exec
  have hb := B.bytes
  have hr := B.returns
  have hts := atoms_spec (ws := w_Speller_rank) B.pre
  have hown : s.vm.findClass "HazardTables$Speller" = some m.cls := findClass_of_methodNamed B.named
  have hlocks := B.notSynchronized
  subst hsz
  have hD := hD0.self (sz := s.heap.size)
  generalize hAe : va_A (uw_Speller ad_sp cA_sp sp ++ (uw_Table ad_tb cA_tb tb)) s.heap.size = A at hD ⊢
  have hA : ∀ q : Nat, s.heap.size ≤ q → A q := fun q h => by rw [← hAe]; exact Or.inr h
  have hS : va_S A s.heap s.heap [] := va_S.rf
  have hP : va_P (dC, dI) vwCl (uw_Speller ad_sp cA_sp sp ++ (uw_Table ad_tb cA_tb tb)) s.heap := hP
  have fl_26 := (hts _ (List.mem_cons_of_mem _ wd_101))
  have fl_37 := (hts _ (List.mem_cons_of_mem _ wd_186))
  have fl_40 := (hts _ (List.mem_cons_of_mem _ wd_180))
  have hin_Speller : ∀ w ∈ u_ws "HazardTables$Speller" F_Speller 6, w ∈ w_Speller_rank := fun w h => List.mem_cons_of_mem _ (hinA_Speller w h)
  have hin_Table : ∀ w ∈ u_ws "HazardTables$Table" F_Table 6, w ∈ w_Speller_rank := fun w h => List.mem_cons_of_mem _ (hinA_Table w h)
  have ret : ∀ (u : SSpeller) (H : Heap) (locs : List Loc) (ls : Array Slot) (pc : Nat), decode b_Speller_rank pc = .ok (.return_, 1) → u = res → va_P (dC, dI) vwCl (uw_Speller ad_sp cA_sp u ++ (uw_Table ad_tb cA_tb tb)) H → va_D A (uw_Speller ad_sp cA_sp u ++ (uw_Table ad_tb cA_tb tb)) → va_S A s.heap H locs → W p l e (headSpec w_Speller_rank ({ frames := 4, cells := 0, slots := 0, locals := 95 })).room s m ([.ref (ad_sp 0), .ref (ad_tb 0)] : List Value).toArray below meth c H locs 0 0 (MQ below (va_Qv (fun (u : SSpeller) => u = res) (fun (u : SSpeller) (t : State) => va_P (dC, dI) vwCl (uw_Speller ad_sp cA_sp u ++ (uw_Table ad_tb cA_tb tb)) t.heap ∧ va_K (dC, dI) vwCl [(cA_sp 1, .int), (cA_sp 2, .int), (cA_sp 3, .int), (cA_sp 4, .int), (cA_tb 1, .int), (cA_tb 2, .int), (cA_tb 3, .int), (cA_tb 4, .byte)] t ∧ va_D A (uw_Speller ad_sp cA_sp u ++ (uw_Table ad_tb cA_tb tb))) A) ([.ref (ad_sp 0), .ref (ad_tb 0)] : List Value).toArray s 0 0 A) (F0 m pc ls []) := fun u H locs ls pc hd hp hP hD hS => W.vret hx hb hr (fun t ht hW => ⟨⟨u, rfl, hp, by rw [ht]; exact hP, va_K.moved hW.alike hK, hD⟩, hS.F ht⟩) hS.2.2 hd
  generalize (MQ below (va_Qv (fun (u : SSpeller) => u = res) (fun (u : SSpeller) (t : State) => va_P (dC, dI) vwCl (uw_Speller ad_sp cA_sp u ++ (uw_Table ad_tb cA_tb tb)) t.heap ∧ va_K (dC, dI) vwCl [(cA_sp 1, .int), (cA_sp 2, .int), (cA_sp 3, .int), (cA_sp 4, .int), (cA_tb 1, .int), (cA_tb 2, .int), (cA_tb 3, .int), (cA_tb 4, .byte)] t ∧ va_D A (uw_Speller ad_sp cA_sp u ++ (uw_Table ad_tb cA_tb tb))) A) ([.ref (ad_sp 0), .ref (ad_tb 0)] : List Value).toArray s 0 0 A) = Q at ret ⊢
  have w_7 : ∀ (n : Nat) (sp : SSpeller) (y2 : Int32) (H : Heap) (locs : List Loc) (ls : Array Slot), f_Speller_rank_7 n sp tb y2 = some res → va_P (dC, dI) vwCl (uw_Speller ad_sp cA_sp sp ++ (uw_Table ad_tb cA_tb tb)) H → va_D A (uw_Speller ad_sp cA_sp sp ++ (uw_Table ad_tb cA_tb tb)) → va_S A s.heap H locs → lv_has ls 3 [(0, .ref (ad_sp 0)), (1, .ref (ad_tb 0)), (2, .int y2)] → W p l e (headSpec w_Speller_rank ({ frames := 4, cells := 0, slots := 0, locals := 95 })).room s m ([.ref (ad_sp 0), .ref (ad_tb 0)] : List Value).toArray below meth c H locs 0 0 Q (F0 m 7 ls []) := by
    intro n
    induction n with
    | zero =>
      intro sp y2 H locs ls hf hP hD hS hl
      rw [f_Speller_rank_7] at hf; cases hf
    | succ n ih =>
      intro sp y2 H locs ls hf hP hD hS hl
      rw [f_Speller_rank_7] at hf
      refine lv_iload_n hx hb d_Speller_rank_7 rfl (lv_at hl 2 rfl) ?_
      refine lv_aload_n hx hb d_Speller_rank_8 rfl (lv_at hl 1 rfl) ?_
      refine va_get (D := (dC, dI)) (ci := 4) (v := .int tb.2.2.2.2.1) (C := "HazardTables$Table") (T := F_Table) (N := 6) hx hb hts hin_Table hown hK hP 5 rfl rfl 4 (by decide) fl_37 (fun _ h9 => h9) rfl d_Speller_rank_9 ?_
      refine lv_icmp_gt (tgt := 43) hx hb d_Speller_rank_12 (by decide) (fun hc1 => ?_) (fun hc1 => ?_)
      · have hf := hf_t hf hc1
        exact ret  sp H locs ls 43 d_Speller_rank_43 (Option.some.inj hf) hP hD hS
      · have hf := hf_f hf hc1
        refine lv_iload_n hx hb d_Speller_rank_15 rfl (lv_at hl 2 rfl) ?_
        refine lv_bipush (v := (13 : Int32)) hx hb d_Speller_rank_16 (by decide) ?_
        refine lv_icmp_ge (tgt := 43) hx hb d_Speller_rank_18 (by decide) (fun hc2 => ?_) (fun hc2 => ?_)
        · have hf := hf_t hf hc2
          exact ret  sp H locs ls 43 d_Speller_rank_43 (Option.some.inj hf) hP hD hS
        · have hf := hf_f hf hc2
          refine lv_aload_n hx hb d_Speller_rank_21 rfl (lv_at hl 0 rfl) ?_
          refine lv_aload_n hx hb d_Speller_rank_22 rfl (lv_at hl 1 rfl) ?_
          refine va_get (D := (dC, dI)) (ci := 4) (v := .ref (ad_tb 1)) (C := "HazardTables$Table") (T := F_Table) (N := 6) hx hb hts hin_Table hown hK hP 5 rfl rfl 0 (by decide) fl_40 (fun _ h9 => h9) rfl d_Speller_rank_23 ?_
          refine lv_iload_n hx hb d_Speller_rank_26 rfl (lv_at hl 2 rfl) ?_
          obtain ⟨hi3, hf⟩ := hf_g hf
          refine va_iald hx hb hK hP 6 4 rfl rfl hi3 d_Speller_rank_27 ?_
          refine lv_aload_n hx hb d_Speller_rank_28 rfl (lv_at hl 0 rfl) ?_
          refine lv_aload_n hx hb d_Speller_rank_29 rfl (lv_at hl 1 rfl) ?_
          refine lv_iload_n hx hb d_Speller_rank_30 rfl (lv_at hl 2 rfl) ?_
          obtain ⟨u4, hu4, hf⟩ := Option.bind_eq_some_iff.mp hf
          refine cl_i (wc := (uw_Speller ad_sp cA_sp sp ++ (uw_Table ad_tb cA_tb tb))) (wr := []) (tysC := [(cA_sp 1, .int), (cA_sp 2, .int), (cA_sp 3, .int), (cA_sp 4, .int), (cA_tb 1, .int), (cA_tb 2, .int), (cA_tb 3, .int), (cA_tb 4, .byte)]) (wu := fun (u : SSpeller) => (uw_Speller ad_sp cA_sp u ++ (uw_Table ad_tb cA_tb tb))) (wn := fun (u : SSpeller) => (uw_Speller ad_sp cA_sp u ++ (uw_Table ad_tb cA_tb tb))) [0, 1, 2, 3, 4, 5, 6, 7, 8, 9] [] [0, 1, 2, 3, 4, 5, 6, 7, 8, 9] [0, 1, 2, 3, 4, 5, 6, 7] hP hD hS hA hK rfl rfl (by decide +kernel) (by decide +kernel) (by decide +kernel) rfl (fun _ => rfl) (by decide +kernel) (fun hPc hKc hDc => (va_runV (As := [.ref (ad_tb 0), .int y2]) (rest := [.int (tb.1 y2.toNatClampNeg), .ref (ad_sp 0)]) ⟨hx, hb, hml, hown, hts⟩ (k_Speller_distanceTo l dC dI ad_sp cA_sp ad_tb cA_tb H.size sp tb y2 u4 hu4) (cwV 2 hts (gV wd_523 wd_525 wd_15 wd_45 wd_526) rfl rfl rfl (by decide +kernel) ⟨Nat.le_of_ble_eq_true rfl, Nat.le_of_ble_eq_true rfl⟩) (cl_preV hPc hKc hDc hN (ci := 2) 0 rfl rfl) rfl rfl hl.1 rfl (lv_room (Nat.le_of_ble_eq_true rfl)) d_Speller_rank_31 ⟨Nat.le_of_ble_eq_true rfl, Nat.le_of_ble_eq_true rfl⟩)) (fun r u H locs hw hP hD hS => ?_)
          obtain ⟨hw1, hw2⟩ := hw
          have hw1 := hw1.symm
          have hw2 := hw2.symm
          subst hw1
          subst hw2
          have hP : va_P (dC, dI) vwCl (uw_Speller ad_sp cA_sp u4.2 ++ (uw_Table ad_tb cA_tb tb)) H := hP
          have hD : va_D A (uw_Speller ad_sp cA_sp u4.2 ++ (uw_Table ad_tb cA_tb tb)) := hD
          obtain ⟨u5, hu5, hf⟩ := Option.bind_eq_some_iff.mp hf
          refine cl_v (wc := (uw_Speller ad_sp cA_sp u4.2)) (wr := (uw_Table ad_tb cA_tb tb)) (tysC := [(cA_sp 1, .int), (cA_sp 2, .int), (cA_sp 3, .int), (cA_sp 4, .int)]) (wu := fun (u : SSpeller) => (uw_Speller ad_sp cA_sp u)) (wn := fun (u : SSpeller) => (uw_Speller ad_sp cA_sp u ++ (uw_Table ad_tb cA_tb tb))) [0, 1, 2, 3, 4] [5, 6, 7, 8, 9] [5, 6, 7, 8, 9, 0, 1, 2, 3, 4] [0, 1, 2, 3] hP hD hS hA hK rfl rfl (by decide +kernel) (by decide +kernel) (by decide +kernel) rfl (fun _ => rfl) (by decide +kernel) (fun hPc hKc hDc => (va_runV (As := [.int (tb.1 y2.toNatClampNeg), .int u4.1]) (rest := []) ⟨hx, hb, hml, hown, hts⟩ (k_Speller_insert l dC dI ad_sp cA_sp H.size u4.2 (tb.1 y2.toNatClampNeg) u4.1 u5 hu5) (cwV 2 hts (gV wd_547 wd_549 wd_18 wd_45 wd_550) rfl rfl rfl (by decide +kernel) ⟨Nat.le_of_ble_eq_true rfl, Nat.le_of_ble_eq_true rfl⟩) (cl_preV hPc hKc hDc hN (ci := 2) 0 rfl rfl) rfl rfl hl.1 rfl (lv_room (Nat.le_of_ble_eq_true rfl)) d_Speller_rank_34 ⟨Nat.le_of_ble_eq_true rfl, Nat.le_of_ble_eq_true rfl⟩)) (fun u H locs hw hP hD hS => ?_)
          have hw := hw.symm
          subst hw
          have hP : va_P (dC, dI) vwCl (uw_Speller ad_sp cA_sp u5 ++ (uw_Table ad_tb cA_tb tb)) H := hP
          have hD : va_D A (uw_Speller ad_sp cA_sp u5 ++ (uw_Table ad_tb cA_tb tb)) := hD
          refine lv_iinc (v := y2 + (1 : Int32)) (lv' := [(2, .int (y2 + (1 : Int32))), (0, .ref (ad_sp 0)), (1, .ref (ad_tb 0))]) hx hb d_Speller_rank_37 hl (k := 2) rfl rfl (by decide) rfl (fun ls hl => ?_)
          refine lv_goto (tgt := 7) hx hb d_Speller_rank_40 (by decide) ?_
          exact ih u5 (y2 + (1 : Int32)) H locs ls hf hP hD hS (lv_sub hl [1, 2, 0] rfl)
  have hl := lv_entry ([.ref (ad_sp 0), .ref (ad_tb 0)]) (n := 3) (Nat.le_of_ble_eq_true rfl)
  rw [lg_entry_eq]
  generalize (lg_sl ([.ref (ad_sp 0), .ref (ad_tb 0)]) ++ List.replicate (3 - (lg_sl ([.ref (ad_sp 0), .ref (ad_tb 0)])).length) Slot.unset).toArray = ls at hl ⊢
  have hl : lv_has ls 3 [(0, .ref (ad_sp 0)), (1, .ref (ad_tb 0))] := hl
  have hf := hf
  rw [f_Speller_rank] at hf
  obtain ⟨H, hH⟩ : ∃ H : Heap, H = s.heap := ⟨_, rfl⟩
  obtain ⟨locs, hlocs⟩ : ∃ L : List Loc, L = [] := ⟨_, rfl⟩
  have hP : va_P (dC, dI) vwCl (uw_Speller ad_sp cA_sp sp ++ (uw_Table ad_tb cA_tb tb)) H := by rw [hH]; exact hP
  have hS : va_S A s.heap H locs := by rw [hH, hlocs]; exact hS
  show W p l e (headSpec w_Speller_rank ({ frames := 4, cells := 0, slots := 0, locals := 95 })).room s m ([.ref (ad_sp 0), .ref (ad_tb 0)] : List Value).toArray below meth c s.heap [] 0 0 Q (F0 m 0 ls [])
  suffices hgo : W p l e (headSpec w_Speller_rank ({ frames := 4, cells := 0, slots := 0, locals := 95 })).room s m ([.ref (ad_sp 0), .ref (ad_tb 0)] : List Value).toArray below meth c H locs 0 0 Q (F0 m 0 ls []) by rw [hH, hlocs] at hgo; exact hgo
  clear hH hlocs
  refine lv_aload_n hx hb d_Speller_rank_0 rfl (lv_at hl 0 rfl) ?_
  refine lv_iconst (v := (0 : Int32)) hx hb d_Speller_rank_1 (by decide) ?_
  refine va_put (D := (dC, dI)) (ci := 2) (v := .int (0 : Int32)) (ty := .int) (C := "HazardTables$Speller") (T := F_Speller) (N := 6) hx hb hts hin_Speller t_Speller t_Speller_ok n_Speller hown hK hP hD hS 0 rfl rfl 5 (by decide) fl_26 (fun _ h9 => h9) rfl (by decide +kernel) rfl rfl (Nat.le_of_ble_eq_true rfl) d_Speller_rank_2 (fun H locs hP hD hS => ?_)
  have hP : va_P (dC, dI) vwCl (uw_Speller ad_sp cA_sp (sp.1, sp.2.1, sp.2.2.1, sp.2.2.2.1, sp.2.2.2.2.1, (0 : Int32)) ++ (uw_Table ad_tb cA_tb tb)) H := hP
  have hD : va_D A (uw_Speller ad_sp cA_sp (sp.1, sp.2.1, sp.2.2.1, sp.2.2.2.1, sp.2.2.2.2.1, (0 : Int32)) ++ (uw_Table ad_tb cA_tb tb)) := hD
  refine lv_iconst (v := (1 : Int32)) hx hb d_Speller_rank_5 (by decide) ?_
  refine lv_istore_n (lv' := [(2, .int (1 : Int32)), (0, .ref (ad_sp 0)), (1, .ref (ad_tb 0))]) hx hb d_Speller_rank_6 rfl hl (by decide) rfl (fun ls hl => ?_)
  exact w_7 4096 (sp.1, sp.2.1, sp.2.2.1, sp.2.2.2.1, sp.2.2.2.2.1, (0 : Int32)) (1 : Int32) H locs ls hf hP hD hS (lv_sub hl [1, 2, 0] rfl)
noncomputable def f_Speller_ranked (sp : SSpeller) (x1 : Int32) : Option (Int32) :=
  (if x1 < 0 then
    (some ((-1 : Int32)))
   else
    (if sp.2.2.2.2.2 ≤ x1 then
      (some ((-1 : Int32)))
     else
      (if (12 : Int32) ≤ x1 then
        (some ((-1 : Int32)))
       else
        (if inb x1 12 then
          (some (sp.2.2.1 x1.toNatClampNeg))
         else none)
       )
     )
   )
set_option maxHeartbeats 4000000 in
set_option maxRecDepth 100000 in
theorem k_Speller_ranked (l : Launch) (dC : Nat → ClassId) (dI : Nat → Nat → Nat) (ad_sp : Nat → Nat) (cA_sp : Nat → ClassId) (sz : Nat) (sp : SSpeller) (x1 : Int32) (res : Int32) (hf : f_Speller_ranked sp x1 = some res) : Met l y_Speller_ranked w_Speller_ranked ({ frames := 0, cells := 0, slots := 0, locals := 0 }) (cPc (dC, dI) (uw_Speller ad_sp cA_sp sp) [(cA_sp 1, .int), (cA_sp 2, .int), (cA_sp 3, .int), (cA_sp 4, .int)] sz [.ref (ad_sp 0), .int x1]) (va_Qi (fun (r : Int32) (u : Unit) => r = res) (fun (u : Unit) (t : State) => va_P (dC, dI) vwCl (uw_Speller ad_sp cA_sp sp) t.heap ∧ va_K (dC, dI) vwCl [(cA_sp 1, .int), (cA_sp 2, .int), (cA_sp 3, .int), (cA_sp 4, .int)] t ∧ va_D (va_A (uw_Speller ad_sp cA_sp sp) sz) (uw_Speller ad_sp cA_sp sp)) (va_A (uw_Speller ad_sp cA_sp sp) sz)) 0 0 (va_A (uw_Speller ad_sp cA_sp sp) sz) := by
  refine Met.ofW (cc := b_Speller_ranked) (maxL := 2) (ret := (some .int)) (by decide) rfl ?_
  intro p e s m args below meth c s₁ B hml hv
  obtain ⟨rfl, hsz, hP, hK, hD0, hN⟩ := hv
  have hx := B.exec
  have hb := B.bytes
  have hr := B.returns
  have hts := atoms_spec (ws := w_Speller_ranked) B.pre
  have hown : s.vm.findClass "HazardTables$Speller" = some m.cls := findClass_of_methodNamed B.named
  have hlocks := B.notSynchronized
  subst hsz
  have hD := hD0.self (sz := s.heap.size)
  generalize hAe : va_A (uw_Speller ad_sp cA_sp sp) s.heap.size = A at hD ⊢
  have hA : ∀ q : Nat, s.heap.size ≤ q → A q := fun q h => by rw [← hAe]; exact Or.inr h
  have hS : va_S A s.heap s.heap [] := va_S.rf
  have hP : va_P (dC, dI) vwCl (uw_Speller ad_sp cA_sp sp) s.heap := hP
  have fl_20 := (hts _ (List.mem_cons_of_mem _ wd_98))
  have fl_26 := (hts _ (List.mem_cons_of_mem _ wd_101))
  have hin_Speller : ∀ w ∈ u_ws "HazardTables$Speller" F_Speller 6, w ∈ w_Speller_ranked := fun w h => List.mem_cons_of_mem _ (hinA_Speller w h)
  have ret : ∀ (v : Int32) (u : Unit) (H : Heap) (locs : List Loc) (ls : Array Slot) (pc : Nat), decode b_Speller_ranked pc = .ok (.ireturn, 1) → (v = res) → va_P (dC, dI) vwCl (uw_Speller ad_sp cA_sp sp) H → va_D A (uw_Speller ad_sp cA_sp sp) → va_S A s.heap H locs → W p l e (headSpec w_Speller_ranked ({ frames := 0, cells := 0, slots := 0, locals := 0 })).room s m ([.ref (ad_sp 0), .int x1] : List Value).toArray below meth c H locs 0 0 (MQ below (va_Qi (fun (r : Int32) (u : Unit) => r = res) (fun (u : Unit) (t : State) => va_P (dC, dI) vwCl (uw_Speller ad_sp cA_sp sp) t.heap ∧ va_K (dC, dI) vwCl [(cA_sp 1, .int), (cA_sp 2, .int), (cA_sp 3, .int), (cA_sp 4, .int)] t ∧ va_D A (uw_Speller ad_sp cA_sp sp)) A) ([.ref (ad_sp 0), .int x1] : List Value).toArray s 0 0 A) (F0 m pc ls [.int v]) := fun v u H locs ls pc hd hp hP hD hS => W.iret (v := v) hx hb hr (fun t ht hW => ⟨⟨v, u, rfl, hp, by rw [ht]; exact hP, va_K.moved hW.alike hK, hD⟩, hS.F ht⟩) hS.2.2 hd
  generalize (MQ below (va_Qi (fun (r : Int32) (u : Unit) => r = res) (fun (u : Unit) (t : State) => va_P (dC, dI) vwCl (uw_Speller ad_sp cA_sp sp) t.heap ∧ va_K (dC, dI) vwCl [(cA_sp 1, .int), (cA_sp 2, .int), (cA_sp 3, .int), (cA_sp 4, .int)] t ∧ va_D A (uw_Speller ad_sp cA_sp sp)) A) ([.ref (ad_sp 0), .int x1] : List Value).toArray s 0 0 A) = Q at ret ⊢
  have hl := lv_entry ([.ref (ad_sp 0), .int x1]) (n := 2) (Nat.le_of_ble_eq_true rfl)
  rw [lg_entry_eq]
  generalize (lg_sl ([.ref (ad_sp 0), .int x1]) ++ List.replicate (2 - (lg_sl ([.ref (ad_sp 0), .int x1])).length) Slot.unset).toArray = ls at hl ⊢
  have hl : lv_has ls 2 [(0, .ref (ad_sp 0)), (1, .int x1)] := hl
  have hf := hf
  rw [f_Speller_ranked] at hf
  obtain ⟨H, hH⟩ : ∃ H : Heap, H = s.heap := ⟨_, rfl⟩
  obtain ⟨locs, hlocs⟩ : ∃ L : List Loc, L = [] := ⟨_, rfl⟩
  have hP : va_P (dC, dI) vwCl (uw_Speller ad_sp cA_sp sp) H := by rw [hH]; exact hP
  have hS : va_S A s.heap H locs := by rw [hH, hlocs]; exact hS
  show W p l e (headSpec w_Speller_ranked ({ frames := 0, cells := 0, slots := 0, locals := 0 })).room s m ([.ref (ad_sp 0), .int x1] : List Value).toArray below meth c s.heap [] 0 0 Q (F0 m 0 ls [])
  suffices hgo : W p l e (headSpec w_Speller_ranked ({ frames := 0, cells := 0, slots := 0, locals := 0 })).room s m ([.ref (ad_sp 0), .int x1] : List Value).toArray below meth c H locs 0 0 Q (F0 m 0 ls []) by rw [hH, hlocs] at hgo; exact hgo
  clear hH hlocs
  refine lv_iload_n hx hb d_Speller_ranked_0 rfl (lv_at hl 1 rfl) ?_
  refine lv_if_lt (tgt := 30) hx hb d_Speller_ranked_1 (by decide) (fun hc1 => ?_) (fun hc1 => ?_)
  · have hf := hf_t hf hc1
    refine lv_iconst (v := (-1 : Int32)) hx hb d_Speller_ranked_30 (by decide) ?_
    exact ret (-1 : Int32) () H locs ls 31 d_Speller_ranked_31 (Option.some.inj hf) hP hD hS
  · have hf := hf_f hf hc1
    refine lv_iload_n hx hb d_Speller_ranked_4 rfl (lv_at hl 1 rfl) ?_
    refine lv_aload_n hx hb d_Speller_ranked_5 rfl (lv_at hl 0 rfl) ?_
    refine va_get (D := (dC, dI)) (ci := 2) (v := .int sp.2.2.2.2.2) (C := "HazardTables$Speller") (T := F_Speller) (N := 6) hx hb hts hin_Speller hown hK hP 0 rfl rfl 5 (by decide) fl_26 (fun _ h9 => h9) rfl d_Speller_ranked_6 ?_
    refine lv_icmp_ge (tgt := 30) hx hb d_Speller_ranked_9 (by decide) (fun hc2 => ?_) (fun hc2 => ?_)
    · have hf := hf_t hf hc2
      refine lv_iconst (v := (-1 : Int32)) hx hb d_Speller_ranked_30 (by decide) ?_
      exact ret (-1 : Int32) () H locs ls 31 d_Speller_ranked_31 (Option.some.inj hf) hP hD hS
    · have hf := hf_f hf hc2
      refine lv_iload_n hx hb d_Speller_ranked_12 rfl (lv_at hl 1 rfl) ?_
      refine lv_aload_n hx hb d_Speller_ranked_13 rfl (lv_at hl 0 rfl) ?_
      refine va_get (D := (dC, dI)) (ci := 2) (v := .ref (ad_sp 3)) (C := "HazardTables$Speller") (T := F_Speller) (N := 6) hx hb hts hin_Speller hown hK hP 0 rfl rfl 2 (by decide) fl_20 (fun _ h9 => h9) rfl d_Speller_ranked_14 ?_
      refine va_alen (v := 12) hx hb hK hP 3 2 rfl (ty := .int) rfl rfl d_Speller_ranked_17 ?_
      refine lv_icmp_ge (tgt := 30) hx hb d_Speller_ranked_18 (by decide) (fun hc3 => ?_) (fun hc3 => ?_)
      · have hf := hf_t hf hc3
        refine lv_iconst (v := (-1 : Int32)) hx hb d_Speller_ranked_30 (by decide) ?_
        exact ret (-1 : Int32) () H locs ls 31 d_Speller_ranked_31 (Option.some.inj hf) hP hD hS
      · have hf := hf_f hf hc3
        refine lv_aload_n hx hb d_Speller_ranked_21 rfl (lv_at hl 0 rfl) ?_
        refine va_get (D := (dC, dI)) (ci := 2) (v := .ref (ad_sp 3)) (C := "HazardTables$Speller") (T := F_Speller) (N := 6) hx hb hts hin_Speller hown hK hP 0 rfl rfl 2 (by decide) fl_20 (fun _ h9 => h9) rfl d_Speller_ranked_22 ?_
        refine lv_iload_n hx hb d_Speller_ranked_25 rfl (lv_at hl 1 rfl) ?_
        obtain ⟨hi4, hf⟩ := hf_g hf
        refine va_iald hx hb hK hP 3 2 rfl rfl hi4 d_Speller_ranked_26 ?_
        refine lv_goto (tgt := 31) hx hb d_Speller_ranked_27 (by decide) ?_
        exact ret (sp.2.2.1 x1.toNatClampNeg) () H locs ls 31 d_Speller_ranked_31 (Option.some.inj hf) hP hD hS
