abbrev b_Mixture_init : ByteArray := prog_2_method_1_code
abbrev y_Mixture_init : MethodName := { cls := "HazardTables$Mixture", name := "<init>", desc := "()V" }
abbrev w_Mixture_init : List Cond := .code y_Mixture_init b_Mixture_init 1 none :: WA
theorem d_Mixture_init_0 : decode b_Mixture_init 0 = .ok (.aload_n 0, 1) := by decide +kernel
theorem d_Mixture_init_1 : decode b_Mixture_init 1 = .ok (.invokespecial 3, 3) := by decide +kernel
theorem d_Mixture_init_4 : decode b_Mixture_init 4 = .ok (.aload_n 0, 1) := by decide +kernel
theorem d_Mixture_init_5 : decode b_Mixture_init 5 = .ok (.bipush 8, 2) := by decide +kernel
theorem d_Mixture_init_7 : decode b_Mixture_init 7 = .ok (.newarray .int, 2) := by decide +kernel
theorem d_Mixture_init_9 : decode b_Mixture_init 9 = .ok (.putfield 11, 3) := by decide +kernel
theorem d_Mixture_init_12 : decode b_Mixture_init 12 = .ok (.aload_n 0, 1) := by decide +kernel
theorem d_Mixture_init_13 : decode b_Mixture_init 13 = .ok (.bipush 8, 2) := by decide +kernel
theorem d_Mixture_init_15 : decode b_Mixture_init 15 = .ok (.newarray .int, 2) := by decide +kernel
theorem d_Mixture_init_17 : decode b_Mixture_init 17 = .ok (.putfield 15, 3) := by decide +kernel
theorem d_Mixture_init_20 : decode b_Mixture_init 20 = .ok (.aload_n 0, 1) := by decide +kernel
theorem d_Mixture_init_21 : decode b_Mixture_init 21 = .ok (.bipush 8, 2) := by decide +kernel
theorem d_Mixture_init_23 : decode b_Mixture_init 23 = .ok (.newarray .boolean, 2) := by decide +kernel
theorem d_Mixture_init_25 : decode b_Mixture_init 25 = .ok (.putfield 18, 3) := by decide +kernel
theorem d_Mixture_init_28 : decode b_Mixture_init 28 = .ok (.aload_n 0, 1) := by decide +kernel
theorem d_Mixture_init_29 : decode b_Mixture_init 29 = .ok (.iconst 1, 1) := by decide +kernel
theorem d_Mixture_init_30 : decode b_Mixture_init 30 = .ok (.putfield 22, 3) := by decide +kernel
theorem d_Mixture_init_33 : decode b_Mixture_init 33 = .ok (.return_, 1) := by decide +kernel
abbrev b_Mixture_removeAll : ByteArray := prog_2_method_2_code
abbrev y_Mixture_removeAll : MethodName := { cls := "HazardTables$Mixture", name := "removeAll", desc := "()V" }
abbrev w_Mixture_removeAll : List Cond := .code y_Mixture_removeAll b_Mixture_removeAll 1 none :: WA
theorem d_Mixture_removeAll_0 : decode b_Mixture_removeAll 0 = .ok (.aload_n 0, 1) := by decide +kernel
theorem d_Mixture_removeAll_1 : decode b_Mixture_removeAll 1 = .ok (.iconst 0, 1) := by decide +kernel
theorem d_Mixture_removeAll_2 : decode b_Mixture_removeAll 2 = .ok (.putfield 26, 3) := by decide +kernel
theorem d_Mixture_removeAll_5 : decode b_Mixture_removeAll 5 = .ok (.aload_n 0, 1) := by decide +kernel
theorem d_Mixture_removeAll_6 : decode b_Mixture_removeAll 6 = .ok (.iconst 1, 1) := by decide +kernel
theorem d_Mixture_removeAll_7 : decode b_Mixture_removeAll 7 = .ok (.putfield 22, 3) := by decide +kernel
theorem d_Mixture_removeAll_10 : decode b_Mixture_removeAll 10 = .ok (.return_, 1) := by decide +kernel
abbrev b_Mixture_isFull : ByteArray := prog_2_method_3_code
abbrev y_Mixture_isFull : MethodName := { cls := "HazardTables$Mixture", name := "isFull", desc := "()Z" }
abbrev w_Mixture_isFull : List Cond := .code y_Mixture_isFull b_Mixture_isFull 1 (some .boolean) :: WA
theorem d_Mixture_isFull_0 : decode b_Mixture_isFull 0 = .ok (.aload_n 0, 1) := by decide +kernel
theorem d_Mixture_isFull_1 : decode b_Mixture_isFull 1 = .ok (.getfield 26, 3) := by decide +kernel
theorem d_Mixture_isFull_4 : decode b_Mixture_isFull 4 = .ok (.bipush 8, 2) := by decide +kernel
theorem d_Mixture_isFull_6 : decode b_Mixture_isFull 6 = .ok (.if_icmp .lt 7, 3) := by decide +kernel
theorem d_Mixture_isFull_9 : decode b_Mixture_isFull 9 = .ok (.iconst 1, 1) := by decide +kernel
theorem d_Mixture_isFull_10 : decode b_Mixture_isFull 10 = .ok (.goto 4, 3) := by decide +kernel
theorem d_Mixture_isFull_13 : decode b_Mixture_isFull 13 = .ok (.iconst 0, 1) := by decide +kernel
theorem d_Mixture_isFull_14 : decode b_Mixture_isFull 14 = .ok (.ireturn, 1) := by decide +kernel
abbrev b_Mixture_row : ByteArray := prog_2_method_4_code
abbrev y_Mixture_row : MethodName := { cls := "HazardTables$Mixture", name := "row", desc := "(I)I" }
abbrev w_Mixture_row : List Cond := .code y_Mixture_row b_Mixture_row 2 (some .int) :: WA
theorem d_Mixture_row_0 : decode b_Mixture_row 0 = .ok (.iload_n 1, 1) := by decide +kernel
theorem d_Mixture_row_1 : decode b_Mixture_row 1 = .ok (.ifCond .lt 18, 3) := by decide +kernel
theorem d_Mixture_row_4 : decode b_Mixture_row 4 = .ok (.iload_n 1, 1) := by decide +kernel
theorem d_Mixture_row_5 : decode b_Mixture_row 5 = .ok (.bipush 8, 2) := by decide +kernel
theorem d_Mixture_row_7 : decode b_Mixture_row 7 = .ok (.if_icmp .ge 12, 3) := by decide +kernel
theorem d_Mixture_row_10 : decode b_Mixture_row 10 = .ok (.aload_n 0, 1) := by decide +kernel
theorem d_Mixture_row_11 : decode b_Mixture_row 11 = .ok (.getfield 15, 3) := by decide +kernel
theorem d_Mixture_row_14 : decode b_Mixture_row 14 = .ok (.iload_n 1, 1) := by decide +kernel
theorem d_Mixture_row_15 : decode b_Mixture_row 15 = .ok (.iaload, 1) := by decide +kernel
theorem d_Mixture_row_16 : decode b_Mixture_row 16 = .ok (.goto 4, 3) := by decide +kernel
theorem d_Mixture_row_19 : decode b_Mixture_row 19 = .ok (.iconst (-1), 1) := by decide +kernel
theorem d_Mixture_row_20 : decode b_Mixture_row 20 = .ok (.ireturn, 1) := by decide +kernel
abbrev b_Mixture_append : ByteArray := prog_2_method_5_code
abbrev y_Mixture_append : MethodName := { cls := "HazardTables$Mixture", name := "append", desc := "(IIILHazardTables$Table;)I" }
abbrev w_Mixture_append : List Cond := .code y_Mixture_append b_Mixture_append 5 (some .int) :: WA
theorem d_Mixture_append_0 : decode b_Mixture_append 0 = .ok (.aload_n 0, 1) := by decide +kernel
theorem d_Mixture_append_1 : decode b_Mixture_append 1 = .ok (.invokevirtual 29, 3) := by decide +kernel
theorem d_Mixture_append_4 : decode b_Mixture_append 4 = .ok (.ifCond .eq 5, 3) := by decide +kernel
theorem d_Mixture_append_7 : decode b_Mixture_append 7 = .ok (.iconst 0, 1) := by decide +kernel
theorem d_Mixture_append_8 : decode b_Mixture_append 8 = .ok (.ireturn, 1) := by decide +kernel
theorem d_Mixture_append_9 : decode b_Mixture_append 9 = .ok (.aload_n 0, 1) := by decide +kernel
theorem d_Mixture_append_10 : decode b_Mixture_append 10 = .ok (.getfield 11, 3) := by decide +kernel
theorem d_Mixture_append_13 : decode b_Mixture_append 13 = .ok (.aload_n 0, 1) := by decide +kernel
theorem d_Mixture_append_14 : decode b_Mixture_append 14 = .ok (.getfield 26, 3) := by decide +kernel
theorem d_Mixture_append_17 : decode b_Mixture_append 17 = .ok (.iload_n 1, 1) := by decide +kernel
theorem d_Mixture_append_18 : decode b_Mixture_append 18 = .ok (.iastore, 1) := by decide +kernel
theorem d_Mixture_append_19 : decode b_Mixture_append 19 = .ok (.aload_n 0, 1) := by decide +kernel
theorem d_Mixture_append_20 : decode b_Mixture_append 20 = .ok (.getfield 15, 3) := by decide +kernel
theorem d_Mixture_append_23 : decode b_Mixture_append 23 = .ok (.aload_n 0, 1) := by decide +kernel
theorem d_Mixture_append_24 : decode b_Mixture_append 24 = .ok (.getfield 26, 3) := by decide +kernel
theorem d_Mixture_append_27 : decode b_Mixture_append 27 = .ok (.iload_n 2, 1) := by decide +kernel
theorem d_Mixture_append_28 : decode b_Mixture_append 28 = .ok (.iastore, 1) := by decide +kernel
theorem d_Mixture_append_29 : decode b_Mixture_append 29 = .ok (.aload_n 0, 1) := by decide +kernel
theorem d_Mixture_append_30 : decode b_Mixture_append 30 = .ok (.getfield 18, 3) := by decide +kernel
theorem d_Mixture_append_33 : decode b_Mixture_append 33 = .ok (.aload_n 0, 1) := by decide +kernel
theorem d_Mixture_append_34 : decode b_Mixture_append 34 = .ok (.getfield 26, 3) := by decide +kernel
theorem d_Mixture_append_37 : decode b_Mixture_append 37 = .ok (.iload_n 3, 1) := by decide +kernel
theorem d_Mixture_append_38 : decode b_Mixture_append 38 = .ok (.sipush 200, 3) := by decide +kernel
theorem d_Mixture_append_41 : decode b_Mixture_append 41 = .ok (.if_icmp .le 7, 3) := by decide +kernel
theorem d_Mixture_append_44 : decode b_Mixture_append 44 = .ok (.iconst 1, 1) := by decide +kernel
theorem d_Mixture_append_45 : decode b_Mixture_append 45 = .ok (.goto 4, 3) := by decide +kernel
theorem d_Mixture_append_48 : decode b_Mixture_append 48 = .ok (.iconst 0, 1) := by decide +kernel
theorem d_Mixture_append_49 : decode b_Mixture_append 49 = .ok (.bastore, 1) := by decide +kernel
theorem d_Mixture_append_50 : decode b_Mixture_append 50 = .ok (.aload_n 0, 1) := by decide +kernel
theorem d_Mixture_append_51 : decode b_Mixture_append 51 = .ok (.dup, 1) := by decide +kernel
theorem d_Mixture_append_52 : decode b_Mixture_append 52 = .ok (.getfield 26, 3) := by decide +kernel
theorem d_Mixture_append_55 : decode b_Mixture_append 55 = .ok (.iconst 1, 1) := by decide +kernel
theorem d_Mixture_append_56 : decode b_Mixture_append 56 = .ok (.iadd, 1) := by decide +kernel
theorem d_Mixture_append_57 : decode b_Mixture_append 57 = .ok (.putfield 26, 3) := by decide +kernel
theorem d_Mixture_append_60 : decode b_Mixture_append 60 = .ok (.aload_n 0, 1) := by decide +kernel
theorem d_Mixture_append_61 : decode b_Mixture_append 61 = .ok (.aload_n 0, 1) := by decide +kernel
theorem d_Mixture_append_62 : decode b_Mixture_append 62 = .ok (.getfield 26, 3) := by decide +kernel
theorem d_Mixture_append_65 : decode b_Mixture_append 65 = .ok (.iconst 1, 1) := by decide +kernel
theorem d_Mixture_append_66 : decode b_Mixture_append 66 = .ok (.isub, 1) := by decide +kernel
theorem d_Mixture_append_67 : decode b_Mixture_append 67 = .ok (.aload 4, 2) := by decide +kernel
theorem d_Mixture_append_69 : decode b_Mixture_append 69 = .ok (.invokevirtual 33, 3) := by decide +kernel
theorem d_Mixture_append_72 : decode b_Mixture_append 72 = .ok (.ireturn, 1) := by decide +kernel
abbrev b_Mixture_strictness : ByteArray := prog_2_method_6_code
abbrev y_Mixture_strictness : MethodName := { cls := "HazardTables$Mixture", name := "strictness", desc := "(LHazardTables$Table;)I" }
abbrev w_Mixture_strictness : List Cond := .code y_Mixture_strictness b_Mixture_strictness 4 (some .int) :: WA
theorem d_Mixture_strictness_0 : decode b_Mixture_strictness 0 = .ok (.iconst 0, 1) := by decide +kernel
theorem d_Mixture_strictness_1 : decode b_Mixture_strictness 1 = .ok (.istore_n 2, 1) := by decide +kernel
theorem d_Mixture_strictness_2 : decode b_Mixture_strictness 2 = .ok (.iconst 0, 1) := by decide +kernel
theorem d_Mixture_strictness_3 : decode b_Mixture_strictness 3 = .ok (.istore_n 3, 1) := by decide +kernel
theorem d_Mixture_strictness_4 : decode b_Mixture_strictness 4 = .ok (.iload_n 3, 1) := by decide +kernel
theorem d_Mixture_strictness_5 : decode b_Mixture_strictness 5 = .ok (.aload_n 0, 1) := by decide +kernel
theorem d_Mixture_strictness_6 : decode b_Mixture_strictness 6 = .ok (.getfield 26, 3) := by decide +kernel
theorem d_Mixture_strictness_9 : decode b_Mixture_strictness 9 = .ok (.if_icmp .ge 24, 3) := by decide +kernel
theorem d_Mixture_strictness_12 : decode b_Mixture_strictness 12 = .ok (.iload_n 2, 1) := by decide +kernel
theorem d_Mixture_strictness_13 : decode b_Mixture_strictness 13 = .ok (.aload_n 1, 1) := by decide +kernel
theorem d_Mixture_strictness_14 : decode b_Mixture_strictness 14 = .ok (.aload_n 0, 1) := by decide +kernel
theorem d_Mixture_strictness_15 : decode b_Mixture_strictness 15 = .ok (.iload_n 3, 1) := by decide +kernel
theorem d_Mixture_strictness_16 : decode b_Mixture_strictness 16 = .ok (.invokevirtual 37, 3) := by decide +kernel
theorem d_Mixture_strictness_19 : decode b_Mixture_strictness 19 = .ok (.iconst 1, 1) := by decide +kernel
theorem d_Mixture_strictness_20 : decode b_Mixture_strictness 20 = .ok (.invokevirtual 43, 3) := by decide +kernel
theorem d_Mixture_strictness_23 : decode b_Mixture_strictness 23 = .ok (.invokestatic 47, 3) := by decide +kernel
theorem d_Mixture_strictness_26 : decode b_Mixture_strictness 26 = .ok (.istore_n 2, 1) := by decide +kernel
theorem d_Mixture_strictness_27 : decode b_Mixture_strictness 27 = .ok (.iinc 3 1, 3) := by decide +kernel
theorem d_Mixture_strictness_30 : decode b_Mixture_strictness 30 = .ok (.goto (-26), 3) := by decide +kernel
theorem d_Mixture_strictness_33 : decode b_Mixture_strictness 33 = .ok (.iload_n 2, 1) := by decide +kernel
theorem d_Mixture_strictness_34 : decode b_Mixture_strictness 34 = .ok (.ireturn, 1) := by decide +kernel
abbrev b_Mixture_gear : ByteArray := prog_2_method_7_code
abbrev y_Mixture_gear : MethodName := { cls := "HazardTables$Mixture", name := "gear", desc := "(LHazardTables$Table;)I" }
abbrev w_Mixture_gear : List Cond := .code y_Mixture_gear b_Mixture_gear 4 (some .int) :: WA
theorem d_Mixture_gear_0 : decode b_Mixture_gear 0 = .ok (.iconst 0, 1) := by decide +kernel
theorem d_Mixture_gear_1 : decode b_Mixture_gear 1 = .ok (.istore_n 2, 1) := by decide +kernel
theorem d_Mixture_gear_2 : decode b_Mixture_gear 2 = .ok (.iconst 0, 1) := by decide +kernel
theorem d_Mixture_gear_3 : decode b_Mixture_gear 3 = .ok (.istore_n 3, 1) := by decide +kernel
theorem d_Mixture_gear_4 : decode b_Mixture_gear 4 = .ok (.iload_n 3, 1) := by decide +kernel
theorem d_Mixture_gear_5 : decode b_Mixture_gear 5 = .ok (.aload_n 0, 1) := by decide +kernel
theorem d_Mixture_gear_6 : decode b_Mixture_gear 6 = .ok (.getfield 26, 3) := by decide +kernel
theorem d_Mixture_gear_9 : decode b_Mixture_gear 9 = .ok (.if_icmp .ge 22, 3) := by decide +kernel
theorem d_Mixture_gear_12 : decode b_Mixture_gear 12 = .ok (.iload_n 2, 1) := by decide +kernel
theorem d_Mixture_gear_13 : decode b_Mixture_gear 13 = .ok (.aload_n 1, 1) := by decide +kernel
theorem d_Mixture_gear_14 : decode b_Mixture_gear 14 = .ok (.aload_n 0, 1) := by decide +kernel
theorem d_Mixture_gear_15 : decode b_Mixture_gear 15 = .ok (.iload_n 3, 1) := by decide +kernel
theorem d_Mixture_gear_16 : decode b_Mixture_gear 16 = .ok (.invokevirtual 37, 3) := by decide +kernel
theorem d_Mixture_gear_19 : decode b_Mixture_gear 19 = .ok (.iconst 2, 1) := by decide +kernel
theorem d_Mixture_gear_20 : decode b_Mixture_gear 20 = .ok (.invokevirtual 43, 3) := by decide +kernel
theorem d_Mixture_gear_23 : decode b_Mixture_gear 23 = .ok (.ior, 1) := by decide +kernel
theorem d_Mixture_gear_24 : decode b_Mixture_gear 24 = .ok (.istore_n 2, 1) := by decide +kernel
theorem d_Mixture_gear_25 : decode b_Mixture_gear 25 = .ok (.iinc 3 1, 3) := by decide +kernel
theorem d_Mixture_gear_28 : decode b_Mixture_gear 28 = .ok (.goto (-24), 3) := by decide +kernel
theorem d_Mixture_gear_31 : decode b_Mixture_gear 31 = .ok (.iload_n 2, 1) := by decide +kernel
theorem d_Mixture_gear_32 : decode b_Mixture_gear 32 = .ok (.ireturn, 1) := by decide +kernel
abbrev b_Mixture_distance : ByteArray := prog_2_method_8_code
abbrev y_Mixture_distance : MethodName := { cls := "HazardTables$Mixture", name := "distance", desc := "(LHazardTables$Table;Z)I" }
abbrev w_Mixture_distance : List Cond := .code y_Mixture_distance b_Mixture_distance 6 (some .int) :: WA
theorem d_Mixture_distance_0 : decode b_Mixture_distance 0 = .ok (.iconst (-1), 1) := by decide +kernel
theorem d_Mixture_distance_1 : decode b_Mixture_distance 1 = .ok (.istore_n 3, 1) := by decide +kernel
theorem d_Mixture_distance_2 : decode b_Mixture_distance 2 = .ok (.iconst 0, 1) := by decide +kernel
theorem d_Mixture_distance_3 : decode b_Mixture_distance 3 = .ok (.istore 4, 2) := by decide +kernel
theorem d_Mixture_distance_5 : decode b_Mixture_distance 5 = .ok (.iload 4, 2) := by decide +kernel
theorem d_Mixture_distance_7 : decode b_Mixture_distance 7 = .ok (.aload_n 0, 1) := by decide +kernel
theorem d_Mixture_distance_8 : decode b_Mixture_distance 8 = .ok (.getfield 26, 3) := by decide +kernel
theorem d_Mixture_distance_11 : decode b_Mixture_distance 11 = .ok (.if_icmp .ge 62, 3) := by decide +kernel
theorem d_Mixture_distance_14 : decode b_Mixture_distance 14 = .ok (.iload 4, 2) := by decide +kernel
theorem d_Mixture_distance_16 : decode b_Mixture_distance 16 = .ok (.bipush 8, 2) := by decide +kernel
theorem d_Mixture_distance_18 : decode b_Mixture_distance 18 = .ok (.if_icmp .ge 55, 3) := by decide +kernel
theorem d_Mixture_distance_21 : decode b_Mixture_distance 21 = .ok (.iconst 3, 1) := by decide +kernel
theorem d_Mixture_distance_22 : decode b_Mixture_distance 22 = .ok (.aload_n 0, 1) := by decide +kernel
theorem d_Mixture_distance_23 : decode b_Mixture_distance 23 = .ok (.getfield 18, 3) := by decide +kernel
theorem d_Mixture_distance_26 : decode b_Mixture_distance 26 = .ok (.iload 4, 2) := by decide +kernel
theorem d_Mixture_distance_28 : decode b_Mixture_distance 28 = .ok (.baload, 1) := by decide +kernel
theorem d_Mixture_distance_29 : decode b_Mixture_distance 29 = .ok (.ifCond .eq 7, 3) := by decide +kernel
theorem d_Mixture_distance_32 : decode b_Mixture_distance 32 = .ok (.iconst 2, 1) := by decide +kernel
theorem d_Mixture_distance_33 : decode b_Mixture_distance 33 = .ok (.goto 4, 3) := by decide +kernel
theorem d_Mixture_distance_36 : decode b_Mixture_distance 36 = .ok (.iconst 0, 1) := by decide +kernel
theorem d_Mixture_distance_37 : decode b_Mixture_distance 37 = .ok (.iadd, 1) := by decide +kernel
theorem d_Mixture_distance_38 : decode b_Mixture_distance 38 = .ok (.iload_n 2, 1) := by decide +kernel
theorem d_Mixture_distance_39 : decode b_Mixture_distance 39 = .ok (.ifCond .eq 7, 3) := by decide +kernel
theorem d_Mixture_distance_42 : decode b_Mixture_distance 42 = .ok (.iconst 0, 1) := by decide +kernel
theorem d_Mixture_distance_43 : decode b_Mixture_distance 43 = .ok (.goto 4, 3) := by decide +kernel
theorem d_Mixture_distance_46 : decode b_Mixture_distance 46 = .ok (.iconst 1, 1) := by decide +kernel
theorem d_Mixture_distance_47 : decode b_Mixture_distance 47 = .ok (.iadd, 1) := by decide +kernel
theorem d_Mixture_distance_48 : decode b_Mixture_distance 48 = .ok (.istore 5, 2) := by decide +kernel
theorem d_Mixture_distance_50 : decode b_Mixture_distance 50 = .ok (.iload_n 3, 1) := by decide +kernel
theorem d_Mixture_distance_51 : decode b_Mixture_distance 51 = .ok (.aload_n 1, 1) := by decide +kernel
theorem d_Mixture_distance_52 : decode b_Mixture_distance 52 = .ok (.aload_n 0, 1) := by decide +kernel
theorem d_Mixture_distance_53 : decode b_Mixture_distance 53 = .ok (.iload 4, 2) := by decide +kernel
theorem d_Mixture_distance_55 : decode b_Mixture_distance 55 = .ok (.invokevirtual 37, 3) := by decide +kernel
theorem d_Mixture_distance_58 : decode b_Mixture_distance 58 = .ok (.iload 5, 2) := by decide +kernel
theorem d_Mixture_distance_60 : decode b_Mixture_distance 60 = .ok (.invokevirtual 43, 3) := by decide +kernel
theorem d_Mixture_distance_63 : decode b_Mixture_distance 63 = .ok (.invokestatic 47, 3) := by decide +kernel
theorem d_Mixture_distance_66 : decode b_Mixture_distance 66 = .ok (.istore_n 3, 1) := by decide +kernel
theorem d_Mixture_distance_67 : decode b_Mixture_distance 67 = .ok (.iinc 4 1, 3) := by decide +kernel
theorem d_Mixture_distance_70 : decode b_Mixture_distance 70 = .ok (.goto (-65), 3) := by decide +kernel
theorem d_Mixture_distance_73 : decode b_Mixture_distance 73 = .ok (.iload_n 3, 1) := by decide +kernel
theorem d_Mixture_distance_74 : decode b_Mixture_distance 74 = .ok (.ireturn, 1) := by decide +kernel
abbrev b_Mixture_contradictingPairs : ByteArray := prog_2_method_9_code
abbrev y_Mixture_contradictingPairs : MethodName := { cls := "HazardTables$Mixture", name := "contradictingPairs", desc := "(LHazardTables$Table;)I" }
abbrev w_Mixture_contradictingPairs : List Cond := .code y_Mixture_contradictingPairs b_Mixture_contradictingPairs 4 (some .int) :: WA
theorem d_Mixture_contradictingPairs_0 : decode b_Mixture_contradictingPairs 0 = .ok (.iconst 0, 1) := by decide +kernel
theorem d_Mixture_contradictingPairs_1 : decode b_Mixture_contradictingPairs 1 = .ok (.istore_n 2, 1) := by decide +kernel
theorem d_Mixture_contradictingPairs_2 : decode b_Mixture_contradictingPairs 2 = .ok (.iconst 0, 1) := by decide +kernel
theorem d_Mixture_contradictingPairs_3 : decode b_Mixture_contradictingPairs 3 = .ok (.istore_n 3, 1) := by decide +kernel
theorem d_Mixture_contradictingPairs_4 : decode b_Mixture_contradictingPairs 4 = .ok (.iload_n 3, 1) := by decide +kernel
theorem d_Mixture_contradictingPairs_5 : decode b_Mixture_contradictingPairs 5 = .ok (.aload_n 0, 1) := by decide +kernel
theorem d_Mixture_contradictingPairs_6 : decode b_Mixture_contradictingPairs 6 = .ok (.getfield 26, 3) := by decide +kernel
theorem d_Mixture_contradictingPairs_9 : decode b_Mixture_contradictingPairs 9 = .ok (.if_icmp .ge 18, 3) := by decide +kernel
theorem d_Mixture_contradictingPairs_12 : decode b_Mixture_contradictingPairs 12 = .ok (.iload_n 2, 1) := by decide +kernel
theorem d_Mixture_contradictingPairs_13 : decode b_Mixture_contradictingPairs 13 = .ok (.aload_n 0, 1) := by decide +kernel
theorem d_Mixture_contradictingPairs_14 : decode b_Mixture_contradictingPairs 14 = .ok (.iload_n 3, 1) := by decide +kernel
theorem d_Mixture_contradictingPairs_15 : decode b_Mixture_contradictingPairs 15 = .ok (.aload_n 1, 1) := by decide +kernel
theorem d_Mixture_contradictingPairs_16 : decode b_Mixture_contradictingPairs 16 = .ok (.invokevirtual 33, 3) := by decide +kernel
theorem d_Mixture_contradictingPairs_19 : decode b_Mixture_contradictingPairs 19 = .ok (.iadd, 1) := by decide +kernel
theorem d_Mixture_contradictingPairs_20 : decode b_Mixture_contradictingPairs 20 = .ok (.istore_n 2, 1) := by decide +kernel
theorem d_Mixture_contradictingPairs_21 : decode b_Mixture_contradictingPairs 21 = .ok (.iinc 3 1, 3) := by decide +kernel
theorem d_Mixture_contradictingPairs_24 : decode b_Mixture_contradictingPairs 24 = .ok (.goto (-20), 3) := by decide +kernel
theorem d_Mixture_contradictingPairs_27 : decode b_Mixture_contradictingPairs 27 = .ok (.iload_n 2, 1) := by decide +kernel
theorem d_Mixture_contradictingPairs_28 : decode b_Mixture_contradictingPairs 28 = .ok (.ireturn, 1) := by decide +kernel
abbrev b_Mixture_contradictedBefore : ByteArray := prog_2_method_10_code
abbrev y_Mixture_contradictedBefore : MethodName := { cls := "HazardTables$Mixture", name := "contradictedBefore", desc := "(ILHazardTables$Table;)I" }
abbrev w_Mixture_contradictedBefore : List Cond := .code y_Mixture_contradictedBefore b_Mixture_contradictedBefore 5 (some .int) :: WA
theorem d_Mixture_contradictedBefore_0 : decode b_Mixture_contradictedBefore 0 = .ok (.iconst 0, 1) := by decide +kernel
theorem d_Mixture_contradictedBefore_1 : decode b_Mixture_contradictedBefore 1 = .ok (.istore_n 3, 1) := by decide +kernel
theorem d_Mixture_contradictedBefore_2 : decode b_Mixture_contradictedBefore 2 = .ok (.iconst 0, 1) := by decide +kernel
theorem d_Mixture_contradictedBefore_3 : decode b_Mixture_contradictedBefore 3 = .ok (.istore 4, 2) := by decide +kernel
theorem d_Mixture_contradictedBefore_5 : decode b_Mixture_contradictedBefore 5 = .ok (.iload 4, 2) := by decide +kernel
theorem d_Mixture_contradictedBefore_7 : decode b_Mixture_contradictedBefore 7 = .ok (.iload_n 1, 1) := by decide +kernel
theorem d_Mixture_contradictedBefore_8 : decode b_Mixture_contradictedBefore 8 = .ok (.if_icmp .ge 30, 3) := by decide +kernel
theorem d_Mixture_contradictedBefore_11 : decode b_Mixture_contradictedBefore 11 = .ok (.aload_n 2, 1) := by decide +kernel
theorem d_Mixture_contradictedBefore_12 : decode b_Mixture_contradictedBefore 12 = .ok (.aload_n 0, 1) := by decide +kernel
theorem d_Mixture_contradictedBefore_13 : decode b_Mixture_contradictedBefore 13 = .ok (.iload 4, 2) := by decide +kernel
theorem d_Mixture_contradictedBefore_15 : decode b_Mixture_contradictedBefore 15 = .ok (.invokevirtual 37, 3) := by decide +kernel
theorem d_Mixture_contradictedBefore_18 : decode b_Mixture_contradictedBefore 18 = .ok (.aload_n 0, 1) := by decide +kernel
theorem d_Mixture_contradictedBefore_19 : decode b_Mixture_contradictedBefore 19 = .ok (.iload_n 1, 1) := by decide +kernel
theorem d_Mixture_contradictedBefore_20 : decode b_Mixture_contradictedBefore 20 = .ok (.invokevirtual 37, 3) := by decide +kernel
theorem d_Mixture_contradictedBefore_23 : decode b_Mixture_contradictedBefore 23 = .ok (.invokevirtual 52, 3) := by decide +kernel
theorem d_Mixture_contradictedBefore_26 : decode b_Mixture_contradictedBefore 26 = .ok (.ifCond .eq 6, 3) := by decide +kernel
theorem d_Mixture_contradictedBefore_29 : decode b_Mixture_contradictedBefore 29 = .ok (.iinc 3 1, 3) := by decide +kernel
theorem d_Mixture_contradictedBefore_32 : decode b_Mixture_contradictedBefore 32 = .ok (.iinc 4 1, 3) := by decide +kernel
theorem d_Mixture_contradictedBefore_35 : decode b_Mixture_contradictedBefore 35 = .ok (.goto (-30), 3) := by decide +kernel
theorem d_Mixture_contradictedBefore_38 : decode b_Mixture_contradictedBefore 38 = .ok (.iload_n 3, 1) := by decide +kernel
theorem d_Mixture_contradictedBefore_39 : decode b_Mixture_contradictedBefore 39 = .ok (.ireturn, 1) := by decide +kernel
abbrev b_Mixture_strictest : ByteArray := prog_2_method_11_code
abbrev y_Mixture_strictest : MethodName := { cls := "HazardTables$Mixture", name := "strictest", desc := "(ILHazardTables$Table;)I" }
abbrev w_Mixture_strictest : List Cond := .code y_Mixture_strictest b_Mixture_strictest 6 (some .int) :: WA
theorem d_Mixture_strictest_0 : decode b_Mixture_strictest 0 = .ok (.aload_n 0, 1) := by decide +kernel
theorem d_Mixture_strictest_1 : decode b_Mixture_strictest 1 = .ok (.aload_n 2, 1) := by decide +kernel
theorem d_Mixture_strictest_2 : decode b_Mixture_strictest 2 = .ok (.invokevirtual 56, 3) := by decide +kernel
theorem d_Mixture_strictest_5 : decode b_Mixture_strictest 5 = .ok (.istore_n 3, 1) := by decide +kernel
theorem d_Mixture_strictest_6 : decode b_Mixture_strictest 6 = .ok (.iconst 0, 1) := by decide +kernel
theorem d_Mixture_strictest_7 : decode b_Mixture_strictest 7 = .ok (.istore 4, 2) := by decide +kernel
theorem d_Mixture_strictest_9 : decode b_Mixture_strictest 9 = .ok (.iconst 0, 1) := by decide +kernel
theorem d_Mixture_strictest_10 : decode b_Mixture_strictest 10 = .ok (.istore 5, 2) := by decide +kernel
theorem d_Mixture_strictest_12 : decode b_Mixture_strictest 12 = .ok (.iload 5, 2) := by decide +kernel
theorem d_Mixture_strictest_14 : decode b_Mixture_strictest 14 = .ok (.aload_n 0, 1) := by decide +kernel
theorem d_Mixture_strictest_15 : decode b_Mixture_strictest 15 = .ok (.getfield 26, 3) := by decide +kernel
theorem d_Mixture_strictest_18 : decode b_Mixture_strictest 18 = .ok (.if_icmp .ge 48, 3) := by decide +kernel
theorem d_Mixture_strictest_21 : decode b_Mixture_strictest 21 = .ok (.iload 5, 2) := by decide +kernel
theorem d_Mixture_strictest_23 : decode b_Mixture_strictest 23 = .ok (.bipush 8, 2) := by decide +kernel
theorem d_Mixture_strictest_25 : decode b_Mixture_strictest 25 = .ok (.if_icmp .ge 41, 3) := by decide +kernel
theorem d_Mixture_strictest_28 : decode b_Mixture_strictest 28 = .ok (.aload_n 2, 1) := by decide +kernel
theorem d_Mixture_strictest_29 : decode b_Mixture_strictest 29 = .ok (.aload_n 0, 1) := by decide +kernel
theorem d_Mixture_strictest_30 : decode b_Mixture_strictest 30 = .ok (.iload 5, 2) := by decide +kernel
theorem d_Mixture_strictest_32 : decode b_Mixture_strictest 32 = .ok (.invokevirtual 37, 3) := by decide +kernel
theorem d_Mixture_strictest_35 : decode b_Mixture_strictest 35 = .ok (.iconst 1, 1) := by decide +kernel
theorem d_Mixture_strictest_36 : decode b_Mixture_strictest 36 = .ok (.invokevirtual 43, 3) := by decide +kernel
theorem d_Mixture_strictest_39 : decode b_Mixture_strictest 39 = .ok (.iload_n 3, 1) := by decide +kernel
theorem d_Mixture_strictest_40 : decode b_Mixture_strictest 40 = .ok (.if_icmp .ne 20, 3) := by decide +kernel
theorem d_Mixture_strictest_43 : decode b_Mixture_strictest 43 = .ok (.iload 4, 2) := by decide +kernel
theorem d_Mixture_strictest_45 : decode b_Mixture_strictest 45 = .ok (.iload_n 1, 1) := by decide +kernel
theorem d_Mixture_strictest_46 : decode b_Mixture_strictest 46 = .ok (.if_icmp .ne 11, 3) := by decide +kernel
theorem d_Mixture_strictest_49 : decode b_Mixture_strictest 49 = .ok (.aload_n 0, 1) := by decide +kernel
theorem d_Mixture_strictest_50 : decode b_Mixture_strictest 50 = .ok (.getfield 11, 3) := by decide +kernel
theorem d_Mixture_strictest_53 : decode b_Mixture_strictest 53 = .ok (.iload 5, 2) := by decide +kernel
theorem d_Mixture_strictest_55 : decode b_Mixture_strictest 55 = .ok (.iaload, 1) := by decide +kernel
theorem d_Mixture_strictest_56 : decode b_Mixture_strictest 56 = .ok (.ireturn, 1) := by decide +kernel
theorem d_Mixture_strictest_57 : decode b_Mixture_strictest 57 = .ok (.iinc 4 1, 3) := by decide +kernel
theorem d_Mixture_strictest_60 : decode b_Mixture_strictest 60 = .ok (.iinc 5 1, 3) := by decide +kernel
theorem d_Mixture_strictest_63 : decode b_Mixture_strictest 63 = .ok (.goto (-51), 3) := by decide +kernel
theorem d_Mixture_strictest_66 : decode b_Mixture_strictest 66 = .ok (.iconst (-1), 1) := by decide +kernel
theorem d_Mixture_strictest_67 : decode b_Mixture_strictest 67 = .ok (.ireturn, 1) := by decide +kernel
abbrev b_Mixture_goOn : ByteArray := prog_2_method_12_code
abbrev y_Mixture_goOn : MethodName := { cls := "HazardTables$Mixture", name := "goOn", desc := "(LHazardTables$Table;)I" }
abbrev w_Mixture_goOn : List Cond := .code y_Mixture_goOn b_Mixture_goOn 3 (some .int) :: WA
theorem d_Mixture_goOn_0 : decode b_Mixture_goOn 0 = .ok (.aload_n 0, 1) := by decide +kernel
theorem d_Mixture_goOn_1 : decode b_Mixture_goOn 1 = .ok (.aload_n 1, 1) := by decide +kernel
theorem d_Mixture_goOn_2 : decode b_Mixture_goOn 2 = .ok (.invokevirtual 56, 3) := by decide +kernel
theorem d_Mixture_goOn_5 : decode b_Mixture_goOn 5 = .ok (.iconst 5, 1) := by decide +kernel
theorem d_Mixture_goOn_6 : decode b_Mixture_goOn 6 = .ok (.if_icmp .ge 7, 3) := by decide +kernel
theorem d_Mixture_goOn_9 : decode b_Mixture_goOn 9 = .ok (.iconst 3, 1) := by decide +kernel
theorem d_Mixture_goOn_10 : decode b_Mixture_goOn 10 = .ok (.goto 5, 3) := by decide +kernel
theorem d_Mixture_goOn_13 : decode b_Mixture_goOn 13 = .ok (.bipush 6, 2) := by decide +kernel
theorem d_Mixture_goOn_15 : decode b_Mixture_goOn 15 = .ok (.istore_n 2, 1) := by decide +kernel
theorem d_Mixture_goOn_16 : decode b_Mixture_goOn 16 = .ok (.aload_n 0, 1) := by decide +kernel
theorem d_Mixture_goOn_17 : decode b_Mixture_goOn 17 = .ok (.aload_n 0, 1) := by decide +kernel
theorem d_Mixture_goOn_18 : decode b_Mixture_goOn 18 = .ok (.getfield 22, 3) := by decide +kernel
theorem d_Mixture_goOn_21 : decode b_Mixture_goOn 21 = .ok (.iload_n 2, 1) := by decide +kernel
theorem d_Mixture_goOn_22 : decode b_Mixture_goOn 22 = .ok (.if_icmp .ge 12, 3) := by decide +kernel
theorem d_Mixture_goOn_25 : decode b_Mixture_goOn 25 = .ok (.aload_n 0, 1) := by decide +kernel
theorem d_Mixture_goOn_26 : decode b_Mixture_goOn 26 = .ok (.getfield 22, 3) := by decide +kernel
theorem d_Mixture_goOn_29 : decode b_Mixture_goOn 29 = .ok (.iconst 1, 1) := by decide +kernel
theorem d_Mixture_goOn_30 : decode b_Mixture_goOn 30 = .ok (.iadd, 1) := by decide +kernel
theorem d_Mixture_goOn_31 : decode b_Mixture_goOn 31 = .ok (.goto 4, 3) := by decide +kernel
theorem d_Mixture_goOn_34 : decode b_Mixture_goOn 34 = .ok (.iconst 1, 1) := by decide +kernel
theorem d_Mixture_goOn_35 : decode b_Mixture_goOn 35 = .ok (.putfield 22, 3) := by decide +kernel
theorem d_Mixture_goOn_38 : decode b_Mixture_goOn 38 = .ok (.aload_n 0, 1) := by decide +kernel
theorem d_Mixture_goOn_39 : decode b_Mixture_goOn 39 = .ok (.getfield 22, 3) := by decide +kernel
theorem d_Mixture_goOn_42 : decode b_Mixture_goOn 42 = .ok (.ireturn, 1) := by decide +kernel
noncomputable def init_Mixture : SMixture := ((fun _ => 0), (fun _ => 0), (fun _ => 0), 0, (1))
set_option maxHeartbeats 4000000 in
set_option maxRecDepth 100000 in
theorem k_Mixture_init (l : Launch) (dC : Nat → ClassId) (dI : Nat → Nat → Nat) (h0 sz : Nat) : Met l y_Mixture_init w_Mixture_init ({ frames := 1, cells := 3, slots := 24, locals := 12 }) (cPc (dC, dI) [(h0, .inr (0, [.null, .null, .null, .int 0, .int 0]))] [] sz [.ref h0]) (va_Qv (fun (u : SMixture) => u = init_Mixture) (fun (u : SMixture) (t : State) => ∃ (ad : Nat → Nat) (cA : Nat → ClassId), ad 0 = h0 ∧ va_P (dC, dI) vwCl (uw_Mixture ad cA u) t.heap ∧ va_K (dC, dI) vwCl [(cA 1, .int), (cA 2, .int), (cA 3, .boolean)] t ∧ va_D (va_A [(h0, .inr (0, [.null, .null, .null, .int 0, .int 0]))] sz) (uw_Mixture ad cA u)) (va_A [(h0, .inr (0, [.null, .null, .null, .int 0, .int 0]))] sz)) 3 24 (va_A [(h0, .inr (0, [.null, .null, .null, .int 0, .int 0]))] sz) := by
  refine Met.ofW (cc := b_Mixture_init) (maxL := 1) (ret := none) (by decide) rfl ?_
  intro p e s m args below meth c s₁ B hml hv
  obtain ⟨rfl, hsz, hP, hK, hD0, hN⟩ := hv
  have hx := B.exec
  have hb := B.bytes
  have hr := B.returns
  have hts := atoms_spec (ws := w_Mixture_init) B.pre
  have hown : s.vm.findClass "HazardTables$Mixture" = some m.cls := findClass_of_methodNamed B.named
  have hlocks := B.notSynchronized
  have hin : meth.name = "<init>" := (name_of_methodNamed B.named B.method).1
  subst hsz
  have hD := hD0.self (sz := s.heap.size)
  generalize hAe : va_A [(h0, .inr (0, [.null, .null, .null, .int 0, .int 0]))] s.heap.size = A at hD ⊢
  have hA : ∀ q : Nat, s.heap.size ≤ q → A q := fun q h => by rw [← hAe]; exact Or.inr h
  have hS : va_S A s.heap s.heap [] := va_S.rf
  have hP : va_P (dC, dI) vwCl [(h0, .inr (0, [.null, .null, .null, .int 0, .int 0]))] s.heap := hP
  have hin_Mixture : ∀ w ∈ u_ws "HazardTables$Mixture" F_Mixture 5, w ∈ w_Mixture_init := fun w h => List.mem_cons_of_mem _ (hinA_Mixture w h)
  have fl_11 := (hts _ (List.mem_cons_of_mem _ wd_121))
  have fl_15 := (hts _ (List.mem_cons_of_mem _ wd_122))
  have fl_18 := (hts _ (List.mem_cons_of_mem _ wd_123))
  have fl_22 := (hts _ (List.mem_cons_of_mem _ wd_126))
  have hl := lv_entry ([.ref h0]) (n := 1) (Nat.le_of_ble_eq_true rfl)
  rw [lg_entry_eq]
  generalize (lg_sl ([.ref h0]) ++ List.replicate (1 - (lg_sl ([.ref h0])).length) Slot.unset).toArray = ls at hl ⊢
  have hl : lv_has ls 1 [(0, .ref h0)] := hl
  refine lv_aload_n hx hb d_Mixture_init_0 rfl (lv_at hl 0 rfl) ?_
  refine W.objInit hx hb hown (hts _ (List.mem_cons_of_mem _ wd_120)) (hts _ (List.mem_cons_of_mem _ wd_64)) (hts _ (List.mem_cons_of_mem _ wd_65)) rfl (by rw [hml]; exact hl.1) rfl d_Mixture_init_1 (Nat.le_of_ble_eq_true rfl) (Nat.le_of_ble_eq_true rfl) ?_
  refine W.eq (g2 := F0 m 4 ls []) rfl ?_
  refine lv_aload_n hx hb d_Mixture_init_4 rfl (lv_at hl 0 rfl) ?_
  refine lv_bipush (v := 8) hx hb d_Mixture_init_5 (by decide) ?_
  refine va_newa (atype := .int) (ty := .int) (n := 8) (N' := 8) (a0 := (8, .inl (fun _ => 0))) hx hb (hts _ (List.mem_cons_of_mem _ wd_89)) rfl hK hP hD hS hA (fun _ => rfl) (by decide) (by decide) (by decide) (Nat.le_of_ble_eq_true rfl) (Nat.le_of_ble_eq_true rfl) d_Mixture_init_7 (fun q1 c1 H hK hP hD hS => ?_)
  have hP : va_P (dC, dI) vwCl [(h0, .inr (0, [.null, .null, .null, .int 0, .int 0])), (q1, .inl (c1, 8, .inl (fun _ => 0)))] H := hP
  have hD : va_D A [(h0, .inr (0, [.null, .null, .null, .int 0, .int 0])), (q1, .inl (c1, 8, .inl (fun _ => 0)))] := hD
  have hK : va_K (dC, dI) vwCl [(c1, .int)] s := hK
  refine W.widen (k := 1) (n := 8) (Nat.le_refl _) (Nat.le_refl _) ?_
  refine va_putF (D := (dC, dI)) (ci := 0) (v := .ref q1) (ty := .array .int) (C := "HazardTables$Mixture") (T := F_Mixture) (N := 5) hx hb hts hin_Mixture t_Mixture t_Mixture_ok n_Mixture hown hK hP hD hS 0 rfl rfl 0 (by decide) fl_11 (fun _ h9 => h9) rfl hin rfl (by decide +kernel) rfl rfl (Nat.le_of_ble_eq_true rfl) d_Mixture_init_9 (fun H locs hP hD hS => ?_)
  have hP : va_P (dC, dI) vwCl [(h0, .inr (0, [.ref q1, .null, .null, .int 0, .int 0])), (q1, .inl (c1, 8, .inl (fun _ => 0)))] H := hP
  have hD : va_D A [(h0, .inr (0, [.ref q1, .null, .null, .int 0, .int 0])), (q1, .inl (c1, 8, .inl (fun _ => 0)))] := hD
  refine lv_aload_n hx hb d_Mixture_init_12 rfl (lv_at hl 0 rfl) ?_
  refine lv_bipush (v := 8) hx hb d_Mixture_init_13 (by decide) ?_
  refine va_newa (atype := .int) (ty := .int) (n := 8) (N' := 8) (a0 := (8, .inl (fun _ => 0))) hx hb (hts _ (List.mem_cons_of_mem _ wd_89)) rfl hK hP hD hS hA (fun _ => rfl) (by decide) (by decide) (by decide) (Nat.le_of_ble_eq_true rfl) (Nat.le_of_ble_eq_true rfl) d_Mixture_init_15 (fun q2 c2 H hK hP hD hS => ?_)
  have hP : va_P (dC, dI) vwCl [(h0, .inr (0, [.ref q1, .null, .null, .int 0, .int 0])), (q1, .inl (c1, 8, .inl (fun _ => 0))), (q2, .inl (c2, 8, .inl (fun _ => 0)))] H := hP
  have hD : va_D A [(h0, .inr (0, [.ref q1, .null, .null, .int 0, .int 0])), (q1, .inl (c1, 8, .inl (fun _ => 0))), (q2, .inl (c2, 8, .inl (fun _ => 0)))] := hD
  have hK : va_K (dC, dI) vwCl [(c1, .int), (c2, .int)] s := hK
  refine W.widen (k := 2) (n := 16) (Nat.le_refl _) (Nat.le_refl _) ?_
  refine va_putF (D := (dC, dI)) (ci := 0) (v := .ref q2) (ty := .array .int) (C := "HazardTables$Mixture") (T := F_Mixture) (N := 5) hx hb hts hin_Mixture t_Mixture t_Mixture_ok n_Mixture hown hK hP hD hS 0 rfl rfl 1 (by decide) fl_15 (fun _ h9 => h9) rfl hin rfl (by decide +kernel) rfl rfl (Nat.le_of_ble_eq_true rfl) d_Mixture_init_17 (fun H locs hP hD hS => ?_)
  have hP : va_P (dC, dI) vwCl [(h0, .inr (0, [.ref q1, .ref q2, .null, .int 0, .int 0])), (q1, .inl (c1, 8, .inl (fun _ => 0))), (q2, .inl (c2, 8, .inl (fun _ => 0)))] H := hP
  have hD : va_D A [(h0, .inr (0, [.ref q1, .ref q2, .null, .int 0, .int 0])), (q1, .inl (c1, 8, .inl (fun _ => 0))), (q2, .inl (c2, 8, .inl (fun _ => 0)))] := hD
  refine lv_aload_n hx hb d_Mixture_init_20 rfl (lv_at hl 0 rfl) ?_
  refine lv_bipush (v := 8) hx hb d_Mixture_init_21 (by decide) ?_
  refine va_newa (atype := .boolean) (ty := .boolean) (n := 8) (N' := 8) (a0 := (8, .inl (fun _ => 0))) hx hb (hts _ (List.mem_cons_of_mem _ wd_139)) rfl hK hP hD hS hA (fun _ => rfl) (by decide) (by decide) (by decide) (Nat.le_of_ble_eq_true rfl) (Nat.le_of_ble_eq_true rfl) d_Mixture_init_23 (fun q3 c3 H hK hP hD hS => ?_)
  have hP : va_P (dC, dI) vwCl [(h0, .inr (0, [.ref q1, .ref q2, .null, .int 0, .int 0])), (q1, .inl (c1, 8, .inl (fun _ => 0))), (q2, .inl (c2, 8, .inl (fun _ => 0))), (q3, .inl (c3, 8, .inl (fun _ => 0)))] H := hP
  have hD : va_D A [(h0, .inr (0, [.ref q1, .ref q2, .null, .int 0, .int 0])), (q1, .inl (c1, 8, .inl (fun _ => 0))), (q2, .inl (c2, 8, .inl (fun _ => 0))), (q3, .inl (c3, 8, .inl (fun _ => 0)))] := hD
  have hK : va_K (dC, dI) vwCl [(c1, .int), (c2, .int), (c3, .boolean)] s := hK
  refine W.widen (k := 3) (n := 24) (Nat.le_refl _) (Nat.le_refl _) ?_
  refine va_putF (D := (dC, dI)) (ci := 0) (v := .ref q3) (ty := .array .boolean) (C := "HazardTables$Mixture") (T := F_Mixture) (N := 5) hx hb hts hin_Mixture t_Mixture t_Mixture_ok n_Mixture hown hK hP hD hS 0 rfl rfl 2 (by decide) fl_18 (fun _ h9 => h9) rfl hin rfl (by decide +kernel) rfl rfl (Nat.le_of_ble_eq_true rfl) d_Mixture_init_25 (fun H locs hP hD hS => ?_)
  have hP : va_P (dC, dI) vwCl [(h0, .inr (0, [.ref q1, .ref q2, .ref q3, .int 0, .int 0])), (q1, .inl (c1, 8, .inl (fun _ => 0))), (q2, .inl (c2, 8, .inl (fun _ => 0))), (q3, .inl (c3, 8, .inl (fun _ => 0)))] H := hP
  have hD : va_D A [(h0, .inr (0, [.ref q1, .ref q2, .ref q3, .int 0, .int 0])), (q1, .inl (c1, 8, .inl (fun _ => 0))), (q2, .inl (c2, 8, .inl (fun _ => 0))), (q3, .inl (c3, 8, .inl (fun _ => 0)))] := hD
  refine lv_aload_n hx hb d_Mixture_init_28 rfl (lv_at hl 0 rfl) ?_
  refine lv_iconst (v := 1) hx hb d_Mixture_init_29 (by decide) ?_
  refine va_put (D := (dC, dI)) (ci := 0) (v := .int (1)) (ty := .int) (C := "HazardTables$Mixture") (T := F_Mixture) (N := 5) hx hb hts hin_Mixture t_Mixture t_Mixture_ok n_Mixture hown hK hP hD hS 0 rfl rfl 4 (by decide) fl_22 (fun _ h9 => h9) rfl (by decide +kernel) rfl rfl (Nat.le_of_ble_eq_true rfl) d_Mixture_init_30 (fun H locs hP hD hS => ?_)
  have hP : va_P (dC, dI) vwCl [(h0, .inr (0, [.ref q1, .ref q2, .ref q3, .int 0, .int (1)])), (q1, .inl (c1, 8, .inl (fun _ => 0))), (q2, .inl (c2, 8, .inl (fun _ => 0))), (q3, .inl (c3, 8, .inl (fun _ => 0)))] H := hP
  have hD : va_D A [(h0, .inr (0, [.ref q1, .ref q2, .ref q3, .int 0, .int (1)])), (q1, .inl (c1, 8, .inl (fun _ => 0))), (q2, .inl (c2, 8, .inl (fun _ => 0))), (q3, .inl (c3, 8, .inl (fun _ => 0)))] := hD
  exact W.vret hx hb hr (fun t ht hW => ⟨⟨init_Mixture, rfl, rfl, (fun k => match k with | 0 => h0 | 1 => q1 | 2 => q2 | _ => q3), (fun k => match k with | 1 => c1 | 2 => c2 | _ => c3), rfl, by rw [ht]; exact hP, va_K.moved hW.alike hK, hD⟩, hS.F ht⟩) hS.2.2 d_Mixture_init_33
noncomputable def f_Mixture_removeAll (mx : SMixture) : Option (SMixture) :=
  (some (mx.1, mx.2.1, mx.2.2.1, (0 : Int32), (1 : Int32)))
set_option maxHeartbeats 4000000 in
set_option maxRecDepth 100000 in
theorem k_Mixture_removeAll (l : Launch) (dC : Nat → ClassId) (dI : Nat → Nat → Nat) (ad_mx : Nat → Nat) (cA_mx : Nat → ClassId) (sz : Nat) (mx : SMixture) (res : SMixture) (hf : f_Mixture_removeAll mx = some res) : Met l y_Mixture_removeAll w_Mixture_removeAll ({ frames := 0, cells := 0, slots := 0, locals := 0 }) (cPc (dC, dI) (uw_Mixture ad_mx cA_mx mx) [(cA_mx 1, .int), (cA_mx 2, .int), (cA_mx 3, .boolean)] sz [.ref (ad_mx 0)]) (va_Qv (fun (u : SMixture) => u = res) (fun (u : SMixture) (t : State) => va_P (dC, dI) vwCl (uw_Mixture ad_mx cA_mx u) t.heap ∧ va_K (dC, dI) vwCl [(cA_mx 1, .int), (cA_mx 2, .int), (cA_mx 3, .boolean)] t ∧ va_D (va_A (uw_Mixture ad_mx cA_mx mx) sz) (uw_Mixture ad_mx cA_mx u)) (va_A (uw_Mixture ad_mx cA_mx mx) sz)) 0 0 (va_A (uw_Mixture ad_mx cA_mx mx) sz) := by
  refine Met.ofW (cc := b_Mixture_removeAll) (maxL := 1) (ret := none) (by decide) rfl ?_
  intro p e s m args below meth c s₁ B hml hv
  obtain ⟨rfl, hsz, hP, hK, hD0, hN⟩ := hv
  have hx := B.exec
  have hb := B.bytes
  have hr := B.returns
  have hts := atoms_spec (ws := w_Mixture_removeAll) B.pre
  have hown : s.vm.findClass "HazardTables$Mixture" = some m.cls := findClass_of_methodNamed B.named
  have hlocks := B.notSynchronized
  subst hsz
  have hD := hD0.self (sz := s.heap.size)
  generalize hAe : va_A (uw_Mixture ad_mx cA_mx mx) s.heap.size = A at hD ⊢
  have hA : ∀ q : Nat, s.heap.size ≤ q → A q := fun q h => by rw [← hAe]; exact Or.inr h
  have hS : va_S A s.heap s.heap [] := va_S.rf
  have hP : va_P (dC, dI) vwCl (uw_Mixture ad_mx cA_mx mx) s.heap := hP
  have fl_22 := (hts _ (List.mem_cons_of_mem _ wd_126))
  have fl_26 := (hts _ (List.mem_cons_of_mem _ wd_124))
  have hin_Mixture : ∀ w ∈ u_ws "HazardTables$Mixture" F_Mixture 5, w ∈ w_Mixture_removeAll := fun w h => List.mem_cons_of_mem _ (hinA_Mixture w h)
  have ret : ∀ (u : SMixture) (H : Heap) (locs : List Loc) (ls : Array Slot) (pc : Nat), decode b_Mixture_removeAll pc = .ok (.return_, 1) → u = res → va_P (dC, dI) vwCl (uw_Mixture ad_mx cA_mx u) H → va_D A (uw_Mixture ad_mx cA_mx u) → va_S A s.heap H locs → W p l e (headSpec w_Mixture_removeAll ({ frames := 0, cells := 0, slots := 0, locals := 0 })).room s m ([.ref (ad_mx 0)] : List Value).toArray below meth c H locs 0 0 (MQ below (va_Qv (fun (u : SMixture) => u = res) (fun (u : SMixture) (t : State) => va_P (dC, dI) vwCl (uw_Mixture ad_mx cA_mx u) t.heap ∧ va_K (dC, dI) vwCl [(cA_mx 1, .int), (cA_mx 2, .int), (cA_mx 3, .boolean)] t ∧ va_D A (uw_Mixture ad_mx cA_mx u)) A) ([.ref (ad_mx 0)] : List Value).toArray s 0 0 A) (F0 m pc ls []) := fun u H locs ls pc hd hp hP hD hS => W.vret hx hb hr (fun t ht hW => ⟨⟨u, rfl, hp, by rw [ht]; exact hP, va_K.moved hW.alike hK, hD⟩, hS.F ht⟩) hS.2.2 hd
  generalize (MQ below (va_Qv (fun (u : SMixture) => u = res) (fun (u : SMixture) (t : State) => va_P (dC, dI) vwCl (uw_Mixture ad_mx cA_mx u) t.heap ∧ va_K (dC, dI) vwCl [(cA_mx 1, .int), (cA_mx 2, .int), (cA_mx 3, .boolean)] t ∧ va_D A (uw_Mixture ad_mx cA_mx u)) A) ([.ref (ad_mx 0)] : List Value).toArray s 0 0 A) = Q at ret ⊢
  have hl := lv_entry ([.ref (ad_mx 0)]) (n := 1) (Nat.le_of_ble_eq_true rfl)
  rw [lg_entry_eq]
  generalize (lg_sl ([.ref (ad_mx 0)]) ++ List.replicate (1 - (lg_sl ([.ref (ad_mx 0)])).length) Slot.unset).toArray = ls at hl ⊢
  have hl : lv_has ls 1 [(0, .ref (ad_mx 0))] := hl
  have hf := hf
  rw [f_Mixture_removeAll] at hf
  obtain ⟨H, hH⟩ : ∃ H : Heap, H = s.heap := ⟨_, rfl⟩
  obtain ⟨locs, hlocs⟩ : ∃ L : List Loc, L = [] := ⟨_, rfl⟩
  have hP : va_P (dC, dI) vwCl (uw_Mixture ad_mx cA_mx mx) H := by rw [hH]; exact hP
  have hS : va_S A s.heap H locs := by rw [hH, hlocs]; exact hS
  show W p l e (headSpec w_Mixture_removeAll ({ frames := 0, cells := 0, slots := 0, locals := 0 })).room s m ([.ref (ad_mx 0)] : List Value).toArray below meth c s.heap [] 0 0 Q (F0 m 0 ls [])
  suffices hgo : W p l e (headSpec w_Mixture_removeAll ({ frames := 0, cells := 0, slots := 0, locals := 0 })).room s m ([.ref (ad_mx 0)] : List Value).toArray below meth c H locs 0 0 Q (F0 m 0 ls []) by rw [hH, hlocs] at hgo; exact hgo
  clear hH hlocs
  refine lv_aload_n hx hb d_Mixture_removeAll_0 rfl (lv_at hl 0 rfl) ?_
  refine lv_iconst (v := (0 : Int32)) hx hb d_Mixture_removeAll_1 (by decide) ?_
  refine va_put (D := (dC, dI)) (ci := 0) (v := .int (0 : Int32)) (ty := .int) (C := "HazardTables$Mixture") (T := F_Mixture) (N := 5) hx hb hts hin_Mixture t_Mixture t_Mixture_ok n_Mixture hown hK hP hD hS 0 rfl rfl 3 (by decide) fl_26 (fun _ h9 => h9) rfl (by decide +kernel) rfl rfl (Nat.le_of_ble_eq_true rfl) d_Mixture_removeAll_2 (fun H locs hP hD hS => ?_)
  have hP : va_P (dC, dI) vwCl (uw_Mixture ad_mx cA_mx (mx.1, mx.2.1, mx.2.2.1, (0 : Int32), mx.2.2.2.2)) H := hP
  have hD : va_D A (uw_Mixture ad_mx cA_mx (mx.1, mx.2.1, mx.2.2.1, (0 : Int32), mx.2.2.2.2)) := hD
  refine lv_aload_n hx hb d_Mixture_removeAll_5 rfl (lv_at hl 0 rfl) ?_
  refine lv_iconst (v := (1 : Int32)) hx hb d_Mixture_removeAll_6 (by decide) ?_
  refine va_put (D := (dC, dI)) (ci := 0) (v := .int (1 : Int32)) (ty := .int) (C := "HazardTables$Mixture") (T := F_Mixture) (N := 5) hx hb hts hin_Mixture t_Mixture t_Mixture_ok n_Mixture hown hK hP hD hS 0 rfl rfl 4 (by decide) fl_22 (fun _ h9 => h9) rfl (by decide +kernel) rfl rfl (Nat.le_of_ble_eq_true rfl) d_Mixture_removeAll_7 (fun H locs hP hD hS => ?_)
  have hP : va_P (dC, dI) vwCl (uw_Mixture ad_mx cA_mx (mx.1, mx.2.1, mx.2.2.1, (0 : Int32), (1 : Int32))) H := hP
  have hD : va_D A (uw_Mixture ad_mx cA_mx (mx.1, mx.2.1, mx.2.2.1, (0 : Int32), (1 : Int32))) := hD
  exact ret  (mx.1, mx.2.1, mx.2.2.1, (0 : Int32), (1 : Int32)) H locs ls 10 d_Mixture_removeAll_10 (Option.some.inj hf) hP hD hS
noncomputable def f_Mixture_isFull (mx : SMixture) : Option (Bool) :=
  (if mx.2.2.2.1 < (8 : Int32) then
    (some (false))
   else
    (some (true))
   )
set_option maxHeartbeats 4000000 in
set_option maxRecDepth 100000 in
theorem k_Mixture_isFull (l : Launch) (dC : Nat → ClassId) (dI : Nat → Nat → Nat) (ad_mx : Nat → Nat) (cA_mx : Nat → ClassId) (sz : Nat) (mx : SMixture) (res : Bool) (hf : f_Mixture_isFull mx = some res) : Met l y_Mixture_isFull w_Mixture_isFull ({ frames := 0, cells := 0, slots := 0, locals := 0 }) (cPc (dC, dI) (uw_Mixture ad_mx cA_mx mx) [(cA_mx 1, .int), (cA_mx 2, .int), (cA_mx 3, .boolean)] sz [.ref (ad_mx 0)]) (va_Qi (fun (r : Int32) (u : Unit) => r = bI res) (fun (u : Unit) (t : State) => va_P (dC, dI) vwCl (uw_Mixture ad_mx cA_mx mx) t.heap ∧ va_K (dC, dI) vwCl [(cA_mx 1, .int), (cA_mx 2, .int), (cA_mx 3, .boolean)] t ∧ va_D (va_A (uw_Mixture ad_mx cA_mx mx) sz) (uw_Mixture ad_mx cA_mx mx)) (va_A (uw_Mixture ad_mx cA_mx mx) sz)) 0 0 (va_A (uw_Mixture ad_mx cA_mx mx) sz) := by
  refine Met.ofW (cc := b_Mixture_isFull) (maxL := 1) (ret := (some .boolean)) (by decide) rfl ?_
  intro p e s m args below meth c s₁ B hml hv
  obtain ⟨rfl, hsz, hP, hK, hD0, hN⟩ := hv
  have hx := B.exec
  have hb := B.bytes
  have hr := B.returns
  have hts := atoms_spec (ws := w_Mixture_isFull) B.pre
  have hown : s.vm.findClass "HazardTables$Mixture" = some m.cls := findClass_of_methodNamed B.named
  have hlocks := B.notSynchronized
  subst hsz
  have hD := hD0.self (sz := s.heap.size)
  generalize hAe : va_A (uw_Mixture ad_mx cA_mx mx) s.heap.size = A at hD ⊢
  have hA : ∀ q : Nat, s.heap.size ≤ q → A q := fun q h => by rw [← hAe]; exact Or.inr h
  have hS : va_S A s.heap s.heap [] := va_S.rf
  have hP : va_P (dC, dI) vwCl (uw_Mixture ad_mx cA_mx mx) s.heap := hP
  have fl_26 := (hts _ (List.mem_cons_of_mem _ wd_124))
  have hin_Mixture : ∀ w ∈ u_ws "HazardTables$Mixture" F_Mixture 5, w ∈ w_Mixture_isFull := fun w h => List.mem_cons_of_mem _ (hinA_Mixture w h)
  have ret : ∀ (v : Bool) (u : Unit) (H : Heap) (locs : List Loc) (ls : Array Slot) (pc : Nat), decode b_Mixture_isFull pc = .ok (.ireturn, 1) → (v = res) → va_P (dC, dI) vwCl (uw_Mixture ad_mx cA_mx mx) H → va_D A (uw_Mixture ad_mx cA_mx mx) → va_S A s.heap H locs → W p l e (headSpec w_Mixture_isFull ({ frames := 0, cells := 0, slots := 0, locals := 0 })).room s m ([.ref (ad_mx 0)] : List Value).toArray below meth c H locs 0 0 (MQ below (va_Qi (fun (r : Int32) (u : Unit) => r = bI res) (fun (u : Unit) (t : State) => va_P (dC, dI) vwCl (uw_Mixture ad_mx cA_mx mx) t.heap ∧ va_K (dC, dI) vwCl [(cA_mx 1, .int), (cA_mx 2, .int), (cA_mx 3, .boolean)] t ∧ va_D A (uw_Mixture ad_mx cA_mx mx)) A) ([.ref (ad_mx 0)] : List Value).toArray s 0 0 A) (F0 m pc ls [.int (bI v)]) := fun v u H locs ls pc hd hp hP hD hS => W.zret (v := bI v) (ty := .boolean) hx hb hr (nar_bI v) (fun t ht hW => ⟨⟨bI v, u, rfl, (by rw [hp]), by rw [ht]; exact hP, va_K.moved hW.alike hK, hD⟩, hS.F ht⟩) hS.2.2 hd
  generalize (MQ below (va_Qi (fun (r : Int32) (u : Unit) => r = bI res) (fun (u : Unit) (t : State) => va_P (dC, dI) vwCl (uw_Mixture ad_mx cA_mx mx) t.heap ∧ va_K (dC, dI) vwCl [(cA_mx 1, .int), (cA_mx 2, .int), (cA_mx 3, .boolean)] t ∧ va_D A (uw_Mixture ad_mx cA_mx mx)) A) ([.ref (ad_mx 0)] : List Value).toArray s 0 0 A) = Q at ret ⊢
  have hl := lv_entry ([.ref (ad_mx 0)]) (n := 1) (Nat.le_of_ble_eq_true rfl)
  rw [lg_entry_eq]
  generalize (lg_sl ([.ref (ad_mx 0)]) ++ List.replicate (1 - (lg_sl ([.ref (ad_mx 0)])).length) Slot.unset).toArray = ls at hl ⊢
  have hl : lv_has ls 1 [(0, .ref (ad_mx 0))] := hl
  have hf := hf
  rw [f_Mixture_isFull] at hf
  obtain ⟨H, hH⟩ : ∃ H : Heap, H = s.heap := ⟨_, rfl⟩
  obtain ⟨locs, hlocs⟩ : ∃ L : List Loc, L = [] := ⟨_, rfl⟩
  have hP : va_P (dC, dI) vwCl (uw_Mixture ad_mx cA_mx mx) H := by rw [hH]; exact hP
  have hS : va_S A s.heap H locs := by rw [hH, hlocs]; exact hS
  show W p l e (headSpec w_Mixture_isFull ({ frames := 0, cells := 0, slots := 0, locals := 0 })).room s m ([.ref (ad_mx 0)] : List Value).toArray below meth c s.heap [] 0 0 Q (F0 m 0 ls [])
  suffices hgo : W p l e (headSpec w_Mixture_isFull ({ frames := 0, cells := 0, slots := 0, locals := 0 })).room s m ([.ref (ad_mx 0)] : List Value).toArray below meth c H locs 0 0 Q (F0 m 0 ls []) by rw [hH, hlocs] at hgo; exact hgo
  clear hH hlocs
  refine lv_aload_n hx hb d_Mixture_isFull_0 rfl (lv_at hl 0 rfl) ?_
  refine va_get (D := (dC, dI)) (ci := 0) (v := .int mx.2.2.2.1) (C := "HazardTables$Mixture") (T := F_Mixture) (N := 5) hx hb hts hin_Mixture hown hK hP 0 rfl rfl 3 (by decide) fl_26 (fun _ h9 => h9) rfl d_Mixture_isFull_1 ?_
  refine lv_bipush (v := (8 : Int32)) hx hb d_Mixture_isFull_4 (by decide) ?_
  refine lv_icmp_lt (tgt := 13) hx hb d_Mixture_isFull_6 (by decide) (fun hc1 => ?_) (fun hc1 => ?_)
  · have hf := hf_t hf hc1
    refine lv_iconst (v := (0 : Int32)) hx hb d_Mixture_isFull_13 (by decide) ?_
    exact ret false () H locs ls 14 d_Mixture_isFull_14 (Option.some.inj hf) hP hD hS
  · have hf := hf_f hf hc1
    refine lv_iconst (v := (1 : Int32)) hx hb d_Mixture_isFull_9 (by decide) ?_
    refine lv_goto (tgt := 14) hx hb d_Mixture_isFull_10 (by decide) ?_
    exact ret true () H locs ls 14 d_Mixture_isFull_14 (Option.some.inj hf) hP hD hS
noncomputable def f_Mixture_row (mx : SMixture) (x1 : Int32) : Option (Int32) :=
  (if x1 < 0 then
    (some ((-1 : Int32)))
   else
    (if (8 : Int32) ≤ x1 then
      (some ((-1 : Int32)))
     else
      (if inb x1 8 then
        (some (mx.2.1 x1.toNatClampNeg))
       else none)
     )
   )
set_option maxHeartbeats 4000000 in
set_option maxRecDepth 100000 in
theorem k_Mixture_row (l : Launch) (dC : Nat → ClassId) (dI : Nat → Nat → Nat) (ad_mx : Nat → Nat) (cA_mx : Nat → ClassId) (sz : Nat) (mx : SMixture) (x1 : Int32) (res : Int32) (hf : f_Mixture_row mx x1 = some res) : Met l y_Mixture_row w_Mixture_row ({ frames := 0, cells := 0, slots := 0, locals := 0 }) (cPc (dC, dI) (uw_Mixture ad_mx cA_mx mx) [(cA_mx 1, .int), (cA_mx 2, .int), (cA_mx 3, .boolean)] sz [.ref (ad_mx 0), .int x1]) (va_Qi (fun (r : Int32) (u : Unit) => r = res) (fun (u : Unit) (t : State) => va_P (dC, dI) vwCl (uw_Mixture ad_mx cA_mx mx) t.heap ∧ va_K (dC, dI) vwCl [(cA_mx 1, .int), (cA_mx 2, .int), (cA_mx 3, .boolean)] t ∧ va_D (va_A (uw_Mixture ad_mx cA_mx mx) sz) (uw_Mixture ad_mx cA_mx mx)) (va_A (uw_Mixture ad_mx cA_mx mx) sz)) 0 0 (va_A (uw_Mixture ad_mx cA_mx mx) sz) := by
  refine Met.ofW (cc := b_Mixture_row) (maxL := 2) (ret := (some .int)) (by decide) rfl ?_
  intro p e s m args below meth c s₁ B hml hv
  obtain ⟨rfl, hsz, hP, hK, hD0, hN⟩ := hv
  have hx := B.exec
  have hb := B.bytes
  have hr := B.returns
  have hts := atoms_spec (ws := w_Mixture_row) B.pre
  have hown : s.vm.findClass "HazardTables$Mixture" = some m.cls := findClass_of_methodNamed B.named
  have hlocks := B.notSynchronized
  subst hsz
  have hD := hD0.self (sz := s.heap.size)
  generalize hAe : va_A (uw_Mixture ad_mx cA_mx mx) s.heap.size = A at hD ⊢
  have hA : ∀ q : Nat, s.heap.size ≤ q → A q := fun q h => by rw [← hAe]; exact Or.inr h
  have hS : va_S A s.heap s.heap [] := va_S.rf
  have hP : va_P (dC, dI) vwCl (uw_Mixture ad_mx cA_mx mx) s.heap := hP
  have fl_15 := (hts _ (List.mem_cons_of_mem _ wd_122))
  have hin_Mixture : ∀ w ∈ u_ws "HazardTables$Mixture" F_Mixture 5, w ∈ w_Mixture_row := fun w h => List.mem_cons_of_mem _ (hinA_Mixture w h)
  have ret : ∀ (v : Int32) (u : Unit) (H : Heap) (locs : List Loc) (ls : Array Slot) (pc : Nat), decode b_Mixture_row pc = .ok (.ireturn, 1) → (v = res) → va_P (dC, dI) vwCl (uw_Mixture ad_mx cA_mx mx) H → va_D A (uw_Mixture ad_mx cA_mx mx) → va_S A s.heap H locs → W p l e (headSpec w_Mixture_row ({ frames := 0, cells := 0, slots := 0, locals := 0 })).room s m ([.ref (ad_mx 0), .int x1] : List Value).toArray below meth c H locs 0 0 (MQ below (va_Qi (fun (r : Int32) (u : Unit) => r = res) (fun (u : Unit) (t : State) => va_P (dC, dI) vwCl (uw_Mixture ad_mx cA_mx mx) t.heap ∧ va_K (dC, dI) vwCl [(cA_mx 1, .int), (cA_mx 2, .int), (cA_mx 3, .boolean)] t ∧ va_D A (uw_Mixture ad_mx cA_mx mx)) A) ([.ref (ad_mx 0), .int x1] : List Value).toArray s 0 0 A) (F0 m pc ls [.int v]) := fun v u H locs ls pc hd hp hP hD hS => W.iret (v := v) hx hb hr (fun t ht hW => ⟨⟨v, u, rfl, hp, by rw [ht]; exact hP, va_K.moved hW.alike hK, hD⟩, hS.F ht⟩) hS.2.2 hd
  generalize (MQ below (va_Qi (fun (r : Int32) (u : Unit) => r = res) (fun (u : Unit) (t : State) => va_P (dC, dI) vwCl (uw_Mixture ad_mx cA_mx mx) t.heap ∧ va_K (dC, dI) vwCl [(cA_mx 1, .int), (cA_mx 2, .int), (cA_mx 3, .boolean)] t ∧ va_D A (uw_Mixture ad_mx cA_mx mx)) A) ([.ref (ad_mx 0), .int x1] : List Value).toArray s 0 0 A) = Q at ret ⊢
  have hl := lv_entry ([.ref (ad_mx 0), .int x1]) (n := 2) (Nat.le_of_ble_eq_true rfl)
  rw [lg_entry_eq]
  generalize (lg_sl ([.ref (ad_mx 0), .int x1]) ++ List.replicate (2 - (lg_sl ([.ref (ad_mx 0), .int x1])).length) Slot.unset).toArray = ls at hl ⊢
  have hl : lv_has ls 2 [(0, .ref (ad_mx 0)), (1, .int x1)] := hl
  have hf := hf
  rw [f_Mixture_row] at hf
  obtain ⟨H, hH⟩ : ∃ H : Heap, H = s.heap := ⟨_, rfl⟩
  obtain ⟨locs, hlocs⟩ : ∃ L : List Loc, L = [] := ⟨_, rfl⟩
  have hP : va_P (dC, dI) vwCl (uw_Mixture ad_mx cA_mx mx) H := by rw [hH]; exact hP
  have hS : va_S A s.heap H locs := by rw [hH, hlocs]; exact hS
  show W p l e (headSpec w_Mixture_row ({ frames := 0, cells := 0, slots := 0, locals := 0 })).room s m ([.ref (ad_mx 0), .int x1] : List Value).toArray below meth c s.heap [] 0 0 Q (F0 m 0 ls [])
  suffices hgo : W p l e (headSpec w_Mixture_row ({ frames := 0, cells := 0, slots := 0, locals := 0 })).room s m ([.ref (ad_mx 0), .int x1] : List Value).toArray below meth c H locs 0 0 Q (F0 m 0 ls []) by rw [hH, hlocs] at hgo; exact hgo
  clear hH hlocs
  refine lv_iload_n hx hb d_Mixture_row_0 rfl (lv_at hl 1 rfl) ?_
  refine lv_if_lt (tgt := 19) hx hb d_Mixture_row_1 (by decide) (fun hc1 => ?_) (fun hc1 => ?_)
  · have hf := hf_t hf hc1
    refine lv_iconst (v := (-1 : Int32)) hx hb d_Mixture_row_19 (by decide) ?_
    exact ret (-1 : Int32) () H locs ls 20 d_Mixture_row_20 (Option.some.inj hf) hP hD hS
  · have hf := hf_f hf hc1
    refine lv_iload_n hx hb d_Mixture_row_4 rfl (lv_at hl 1 rfl) ?_
    refine lv_bipush (v := (8 : Int32)) hx hb d_Mixture_row_5 (by decide) ?_
    refine lv_icmp_ge (tgt := 19) hx hb d_Mixture_row_7 (by decide) (fun hc2 => ?_) (fun hc2 => ?_)
    · have hf := hf_t hf hc2
      refine lv_iconst (v := (-1 : Int32)) hx hb d_Mixture_row_19 (by decide) ?_
      exact ret (-1 : Int32) () H locs ls 20 d_Mixture_row_20 (Option.some.inj hf) hP hD hS
    · have hf := hf_f hf hc2
      refine lv_aload_n hx hb d_Mixture_row_10 rfl (lv_at hl 0 rfl) ?_
      refine va_get (D := (dC, dI)) (ci := 0) (v := .ref (ad_mx 2)) (C := "HazardTables$Mixture") (T := F_Mixture) (N := 5) hx hb hts hin_Mixture hown hK hP 0 rfl rfl 1 (by decide) fl_15 (fun _ h9 => h9) rfl d_Mixture_row_11 ?_
      refine lv_iload_n hx hb d_Mixture_row_14 rfl (lv_at hl 1 rfl) ?_
      obtain ⟨hi3, hf⟩ := hf_g hf
      refine va_iald hx hb hK hP 2 1 rfl rfl hi3 d_Mixture_row_15 ?_
      refine lv_goto (tgt := 20) hx hb d_Mixture_row_16 (by decide) ?_
      exact ret (mx.2.1 x1.toNatClampNeg) () H locs ls 20 d_Mixture_row_20 (Option.some.inj hf) hP hD hS
noncomputable def f_Mixture_contradictedBefore_5  : Nat → SMixture → STable → Int32 → Int32 → Int32 → Option (Int32)
  | 0, _, _, _, _, _ => none
  | n + 1, mx, tb, y1, y3, y4 =>
    (if y1 ≤ y4 then
      (some (y3))
     else
      (Option.bind (f_Mixture_row mx y4) fun u2 =>
        (Option.bind (f_Mixture_row mx y1) fun u3 =>
          (Option.bind (f_Table_contradict tb u2 u3) fun u4 =>
            (if (bI u4) = 0 then
              (f_Mixture_contradictedBefore_5 n mx tb y1 y3 (y4 + (1 : Int32)))
             else
              (f_Mixture_contradictedBefore_5 n mx tb y1 (y3 + (1 : Int32)) (y4 + (1 : Int32)))
             )
           )
         )
       )
     )
noncomputable def f_Mixture_contradictedBefore (mx : SMixture) (tb : STable) (x1 : Int32) : Option (Int32) :=
  (f_Mixture_contradictedBefore_5 4096 mx tb x1 (0 : Int32) (0 : Int32))
set_option maxHeartbeats 4000000 in
set_option maxRecDepth 100000 in
theorem k_Mixture_contradictedBefore (l : Launch) (dC : Nat → ClassId) (dI : Nat → Nat → Nat) (ad_mx : Nat → Nat) (cA_mx : Nat → ClassId) (ad_tb : Nat → Nat) (cA_tb : Nat → ClassId) (sz : Nat) (mx : SMixture) (tb : STable) (x1 : Int32) (res : Int32) (hf : f_Mixture_contradictedBefore mx tb x1 = some res) : Met l y_Mixture_contradictedBefore w_Mixture_contradictedBefore ({ frames := 2, cells := 0, slots := 0, locals := 45 }) (cPc (dC, dI) (uw_Mixture ad_mx cA_mx mx ++ (uw_Table ad_tb cA_tb tb)) [(cA_mx 1, .int), (cA_mx 2, .int), (cA_mx 3, .boolean), (cA_tb 1, .int), (cA_tb 2, .int), (cA_tb 3, .int), (cA_tb 4, .byte)] sz [.ref (ad_mx 0), .int x1, .ref (ad_tb 0)]) (va_Qi (fun (r : Int32) (u : Unit) => r = res) (fun (u : Unit) (t : State) => va_P (dC, dI) vwCl (uw_Mixture ad_mx cA_mx mx ++ (uw_Table ad_tb cA_tb tb)) t.heap ∧ va_K (dC, dI) vwCl [(cA_mx 1, .int), (cA_mx 2, .int), (cA_mx 3, .boolean), (cA_tb 1, .int), (cA_tb 2, .int), (cA_tb 3, .int), (cA_tb 4, .byte)] t ∧ va_D (va_A (uw_Mixture ad_mx cA_mx mx ++ (uw_Table ad_tb cA_tb tb)) sz) (uw_Mixture ad_mx cA_mx mx ++ (uw_Table ad_tb cA_tb tb))) (va_A (uw_Mixture ad_mx cA_mx mx ++ (uw_Table ad_tb cA_tb tb)) sz)) 0 0 (va_A (uw_Mixture ad_mx cA_mx mx ++ (uw_Table ad_tb cA_tb tb)) sz) := by
  refine Met.ofW (cc := b_Mixture_contradictedBefore) (maxL := 5) (ret := (some .int)) (by decide) rfl ?_
  intro p e s m args below meth c s₁ B hml hv
  obtain ⟨rfl, hsz, hP, hK, hD0, hN⟩ := hv
  have hx := B.exec
  have hb := B.bytes
  have hr := B.returns
  have hts := atoms_spec (ws := w_Mixture_contradictedBefore) B.pre
  have hown : s.vm.findClass "HazardTables$Mixture" = some m.cls := findClass_of_methodNamed B.named
  have hlocks := B.notSynchronized
  subst hsz
  have hD := hD0.self (sz := s.heap.size)
  generalize hAe : va_A (uw_Mixture ad_mx cA_mx mx ++ (uw_Table ad_tb cA_tb tb)) s.heap.size = A at hD ⊢
  have hA : ∀ q : Nat, s.heap.size ≤ q → A q := fun q h => by rw [← hAe]; exact Or.inr h
  have hS : va_S A s.heap s.heap [] := va_S.rf
  have hP : va_P (dC, dI) vwCl (uw_Mixture ad_mx cA_mx mx ++ (uw_Table ad_tb cA_tb tb)) s.heap := hP
  have ret : ∀ (v : Int32) (u : Unit) (H : Heap) (locs : List Loc) (ls : Array Slot) (pc : Nat), decode b_Mixture_contradictedBefore pc = .ok (.ireturn, 1) → (v = res) → va_P (dC, dI) vwCl (uw_Mixture ad_mx cA_mx mx ++ (uw_Table ad_tb cA_tb tb)) H → va_D A (uw_Mixture ad_mx cA_mx mx ++ (uw_Table ad_tb cA_tb tb)) → va_S A s.heap H locs → W p l e (headSpec w_Mixture_contradictedBefore ({ frames := 2, cells := 0, slots := 0, locals := 45 })).room s m ([.ref (ad_mx 0), .int x1, .ref (ad_tb 0)] : List Value).toArray below meth c H locs 0 0 (MQ below (va_Qi (fun (r : Int32) (u : Unit) => r = res) (fun (u : Unit) (t : State) => va_P (dC, dI) vwCl (uw_Mixture ad_mx cA_mx mx ++ (uw_Table ad_tb cA_tb tb)) t.heap ∧ va_K (dC, dI) vwCl [(cA_mx 1, .int), (cA_mx 2, .int), (cA_mx 3, .boolean), (cA_tb 1, .int), (cA_tb 2, .int), (cA_tb 3, .int), (cA_tb 4, .byte)] t ∧ va_D A (uw_Mixture ad_mx cA_mx mx ++ (uw_Table ad_tb cA_tb tb))) A) ([.ref (ad_mx 0), .int x1, .ref (ad_tb 0)] : List Value).toArray s 0 0 A) (F0 m pc ls [.int v]) := fun v u H locs ls pc hd hp hP hD hS => W.iret (v := v) hx hb hr (fun t ht hW => ⟨⟨v, u, rfl, hp, by rw [ht]; exact hP, va_K.moved hW.alike hK, hD⟩, hS.F ht⟩) hS.2.2 hd
  generalize (MQ below (va_Qi (fun (r : Int32) (u : Unit) => r = res) (fun (u : Unit) (t : State) => va_P (dC, dI) vwCl (uw_Mixture ad_mx cA_mx mx ++ (uw_Table ad_tb cA_tb tb)) t.heap ∧ va_K (dC, dI) vwCl [(cA_mx 1, .int), (cA_mx 2, .int), (cA_mx 3, .boolean), (cA_tb 1, .int), (cA_tb 2, .int), (cA_tb 3, .int), (cA_tb 4, .byte)] t ∧ va_D A (uw_Mixture ad_mx cA_mx mx ++ (uw_Table ad_tb cA_tb tb))) A) ([.ref (ad_mx 0), .int x1, .ref (ad_tb 0)] : List Value).toArray s 0 0 A) = Q at ret ⊢
  have w_5 : ∀ (n : Nat)  (y1 : Int32) (y3 : Int32) (y4 : Int32) (H : Heap) (locs : List Loc) (ls : Array Slot), f_Mixture_contradictedBefore_5 n mx tb y1 y3 y4 = some res → va_P (dC, dI) vwCl (uw_Mixture ad_mx cA_mx mx ++ (uw_Table ad_tb cA_tb tb)) H → va_D A (uw_Mixture ad_mx cA_mx mx ++ (uw_Table ad_tb cA_tb tb)) → va_S A s.heap H locs → lv_has ls 5 [(0, .ref (ad_mx 0)), (1, .int y1), (2, .ref (ad_tb 0)), (3, .int y3), (4, .int y4)] → W p l e (headSpec w_Mixture_contradictedBefore ({ frames := 2, cells := 0, slots := 0, locals := 45 })).room s m ([.ref (ad_mx 0), .int x1, .ref (ad_tb 0)] : List Value).toArray below meth c H locs 0 0 Q (F0 m 5 ls []) := by
    intro n
    induction n with
    | zero =>
      intro y1 y3 y4 H locs ls hf hP hD hS hl
      rw [f_Mixture_contradictedBefore_5] at hf; cases hf
    | succ n ih =>
      intro y1 y3 y4 H locs ls hf hP hD hS hl
      rw [f_Mixture_contradictedBefore_5] at hf
      refine lv_iload hx hb d_Mixture_contradictedBefore_5 (lv_at hl 4 rfl) ?_
      refine lv_iload_n hx hb d_Mixture_contradictedBefore_7 rfl (lv_at hl 1 rfl) ?_
      refine lv_icmp_ge (tgt := 38) hx hb d_Mixture_contradictedBefore_8 (by decide) (fun hc1 => ?_) (fun hc1 => ?_)
      · have hf := hf_t hf hc1
        refine lv_iload_n hx hb d_Mixture_contradictedBefore_38 rfl (lv_at hl 3 rfl) ?_
        exact ret y3 () H locs ls 39 d_Mixture_contradictedBefore_39 (Option.some.inj hf) hP hD hS
      · have hf := hf_f hf hc1
        refine lv_aload_n hx hb d_Mixture_contradictedBefore_11 rfl (lv_at hl 2 rfl) ?_
        refine lv_aload_n hx hb d_Mixture_contradictedBefore_12 rfl (lv_at hl 0 rfl) ?_
        refine lv_iload hx hb d_Mixture_contradictedBefore_13 (lv_at hl 4 rfl) ?_
        obtain ⟨u2, hu2, hf⟩ := Option.bind_eq_some_iff.mp hf
        refine cl_i (wc := (uw_Mixture ad_mx cA_mx mx)) (wr := (uw_Table ad_tb cA_tb tb)) (tysC := [(cA_mx 1, .int), (cA_mx 2, .int), (cA_mx 3, .boolean)]) (wu := fun (u : Unit) => (uw_Mixture ad_mx cA_mx mx)) (wn := fun (u : Unit) => (uw_Mixture ad_mx cA_mx mx ++ (uw_Table ad_tb cA_tb tb))) [0, 1, 2, 3] [4, 5, 6, 7, 8] [5, 6, 7, 8, 0, 1, 2, 3, 4] [0, 1, 2] hP hD hS hA hK rfl rfl (by decide +kernel) (by decide +kernel) (by decide +kernel) rfl (fun _ => rfl) (by decide +kernel) (fun hPc hKc hDc => (va_runV (As := [.int y4]) (rest := [.ref (ad_tb 0)]) ⟨hx, hb, hml, hown, hts⟩ (k_Mixture_row l dC dI ad_mx cA_mx H.size mx y4 u2 hu2) (cwV 1 hts (gV wd_594 wd_596 wd_21 wd_46 wd_597) rfl rfl rfl (by decide +kernel) ⟨Nat.le_of_ble_eq_true rfl, Nat.le_of_ble_eq_true rfl⟩) (cl_preV hPc hKc hDc hN (ci := 0) 0 rfl rfl) rfl rfl hl.1 rfl (lv_room (Nat.le_of_ble_eq_true rfl)) d_Mixture_contradictedBefore_15 ⟨Nat.le_of_ble_eq_true rfl, Nat.le_of_ble_eq_true rfl⟩)) (fun r u H locs hw hP hD hS => ?_)
        have hw := hw.symm
        subst hw
        have hP : va_P (dC, dI) vwCl (uw_Mixture ad_mx cA_mx mx ++ (uw_Table ad_tb cA_tb tb)) H := hP
        have hD : va_D A (uw_Mixture ad_mx cA_mx mx ++ (uw_Table ad_tb cA_tb tb)) := hD
        refine lv_aload_n hx hb d_Mixture_contradictedBefore_18 rfl (lv_at hl 0 rfl) ?_
        refine lv_iload_n hx hb d_Mixture_contradictedBefore_19 rfl (lv_at hl 1 rfl) ?_
        obtain ⟨u3, hu3, hf⟩ := Option.bind_eq_some_iff.mp hf
        refine cl_i (wc := (uw_Mixture ad_mx cA_mx mx)) (wr := (uw_Table ad_tb cA_tb tb)) (tysC := [(cA_mx 1, .int), (cA_mx 2, .int), (cA_mx 3, .boolean)]) (wu := fun (u : Unit) => (uw_Mixture ad_mx cA_mx mx)) (wn := fun (u : Unit) => (uw_Mixture ad_mx cA_mx mx ++ (uw_Table ad_tb cA_tb tb))) [0, 1, 2, 3] [4, 5, 6, 7, 8] [5, 6, 7, 8, 0, 1, 2, 3, 4] [0, 1, 2] hP hD hS hA hK rfl rfl (by decide +kernel) (by decide +kernel) (by decide +kernel) rfl (fun _ => rfl) (by decide +kernel) (fun hPc hKc hDc => (va_runV (As := [.int y1]) (rest := [.int u2, .ref (ad_tb 0)]) ⟨hx, hb, hml, hown, hts⟩ (k_Mixture_row l dC dI ad_mx cA_mx H.size mx y1 u3 hu3) (cwV 1 hts (gV wd_594 wd_596 wd_21 wd_46 wd_597) rfl rfl rfl (by decide +kernel) ⟨Nat.le_of_ble_eq_true rfl, Nat.le_of_ble_eq_true rfl⟩) (cl_preV hPc hKc hDc hN (ci := 0) 0 rfl rfl) rfl rfl hl.1 rfl (lv_room (Nat.le_of_ble_eq_true rfl)) d_Mixture_contradictedBefore_20 ⟨Nat.le_of_ble_eq_true rfl, Nat.le_of_ble_eq_true rfl⟩)) (fun r u H locs hw hP hD hS => ?_)
        have hw := hw.symm
        subst hw
        have hP : va_P (dC, dI) vwCl (uw_Mixture ad_mx cA_mx mx ++ (uw_Table ad_tb cA_tb tb)) H := hP
        have hD : va_D A (uw_Mixture ad_mx cA_mx mx ++ (uw_Table ad_tb cA_tb tb)) := hD
        obtain ⟨u4, hu4, hf⟩ := Option.bind_eq_some_iff.mp hf
        refine cl_i (wc := (uw_Table ad_tb cA_tb tb)) (wr := (uw_Mixture ad_mx cA_mx mx)) (tysC := [(cA_tb 1, .int), (cA_tb 2, .int), (cA_tb 3, .int), (cA_tb 4, .byte)]) (wu := fun (u : Unit) => (uw_Table ad_tb cA_tb tb)) (wn := fun (u : Unit) => (uw_Mixture ad_mx cA_mx mx ++ (uw_Table ad_tb cA_tb tb))) [4, 5, 6, 7, 8] [0, 1, 2, 3] [0, 1, 2, 3, 4, 5, 6, 7, 8] [3, 4, 5, 6] hP hD hS hA hK rfl rfl (by decide +kernel) (by decide +kernel) (by decide +kernel) rfl (fun _ => rfl) (by decide +kernel) (fun hPc hKc hDc => (va_runV (As := [.int u2, .int u3]) (rest := []) ⟨hx, hb, hml, hown, hts⟩ (k_Table_contradict l dC dI ad_tb cA_tb H.size tb u2 u3 u4 hu4) (cwV 2 hts (gV wd_598 wd_599 wd_600 wd_48 wd_601) rfl rfl rfl (by decide +kernel) ⟨Nat.le_of_ble_eq_true rfl, Nat.le_of_ble_eq_true rfl⟩) (cl_preV hPc hKc hDc hN (ci := 4) 0 rfl rfl) rfl rfl hl.1 rfl (lv_room (Nat.le_of_ble_eq_true rfl)) d_Mixture_contradictedBefore_23 ⟨Nat.le_of_ble_eq_true rfl, Nat.le_of_ble_eq_true rfl⟩)) (fun r u H locs hw hP hD hS => ?_)
        have hw := hw.symm
        subst hw
        have hP : va_P (dC, dI) vwCl (uw_Mixture ad_mx cA_mx mx ++ (uw_Table ad_tb cA_tb tb)) H := hP
        have hD : va_D A (uw_Mixture ad_mx cA_mx mx ++ (uw_Table ad_tb cA_tb tb)) := hD
        refine lv_if_eq (tgt := 32) hx hb d_Mixture_contradictedBefore_26 (by decide) (fun hc5 => ?_) (fun hc5 => ?_)
        · have hf := hf_t hf hc5
          refine lv_iinc (v := y4 + (1 : Int32)) (lv' := [(4, .int (y4 + (1 : Int32))), (0, .ref (ad_mx 0)), (1, .int y1), (2, .ref (ad_tb 0)), (3, .int y3)]) hx hb d_Mixture_contradictedBefore_32 hl (k := 4) rfl rfl (by decide) rfl (fun ls hl => ?_)
          refine lv_goto (tgt := 5) hx hb d_Mixture_contradictedBefore_35 (by decide) ?_
          exact ih y1 y3 (y4 + (1 : Int32)) H locs ls hf hP hD hS (lv_sub hl [1, 2, 3, 4, 0] rfl)
        · have hf := hf_f hf hc5
          refine lv_iinc (v := y3 + (1 : Int32)) (lv' := [(3, .int (y3 + (1 : Int32))), (0, .ref (ad_mx 0)), (1, .int y1), (2, .ref (ad_tb 0)), (4, .int y4)]) hx hb d_Mixture_contradictedBefore_29 hl (k := 3) rfl rfl (by decide) rfl (fun ls hl => ?_)
          refine lv_iinc (v := y4 + (1 : Int32)) (lv' := [(4, .int (y4 + (1 : Int32))), (3, .int (y3 + (1 : Int32))), (0, .ref (ad_mx 0)), (1, .int y1), (2, .ref (ad_tb 0))]) hx hb d_Mixture_contradictedBefore_32 hl (k := 4) rfl rfl (by decide) rfl (fun ls hl => ?_)
          refine lv_goto (tgt := 5) hx hb d_Mixture_contradictedBefore_35 (by decide) ?_
          exact ih y1 (y3 + (1 : Int32)) (y4 + (1 : Int32)) H locs ls hf hP hD hS (lv_sub hl [2, 3, 4, 1, 0] rfl)
  have hl := lv_entry ([.ref (ad_mx 0), .int x1, .ref (ad_tb 0)]) (n := 5) (Nat.le_of_ble_eq_true rfl)
  rw [lg_entry_eq]
  generalize (lg_sl ([.ref (ad_mx 0), .int x1, .ref (ad_tb 0)]) ++ List.replicate (5 - (lg_sl ([.ref (ad_mx 0), .int x1, .ref (ad_tb 0)])).length) Slot.unset).toArray = ls at hl ⊢
  have hl : lv_has ls 5 [(0, .ref (ad_mx 0)), (1, .int x1), (2, .ref (ad_tb 0))] := hl
  have hf := hf
  rw [f_Mixture_contradictedBefore] at hf
  obtain ⟨H, hH⟩ : ∃ H : Heap, H = s.heap := ⟨_, rfl⟩
  obtain ⟨locs, hlocs⟩ : ∃ L : List Loc, L = [] := ⟨_, rfl⟩
  have hP : va_P (dC, dI) vwCl (uw_Mixture ad_mx cA_mx mx ++ (uw_Table ad_tb cA_tb tb)) H := by rw [hH]; exact hP
  have hS : va_S A s.heap H locs := by rw [hH, hlocs]; exact hS
  show W p l e (headSpec w_Mixture_contradictedBefore ({ frames := 2, cells := 0, slots := 0, locals := 45 })).room s m ([.ref (ad_mx 0), .int x1, .ref (ad_tb 0)] : List Value).toArray below meth c s.heap [] 0 0 Q (F0 m 0 ls [])
  suffices hgo : W p l e (headSpec w_Mixture_contradictedBefore ({ frames := 2, cells := 0, slots := 0, locals := 45 })).room s m ([.ref (ad_mx 0), .int x1, .ref (ad_tb 0)] : List Value).toArray below meth c H locs 0 0 Q (F0 m 0 ls []) by rw [hH, hlocs] at hgo; exact hgo
  clear hH hlocs
  refine lv_iconst (v := (0 : Int32)) hx hb d_Mixture_contradictedBefore_0 (by decide) ?_
  refine lv_istore_n (lv' := [(3, .int (0 : Int32)), (0, .ref (ad_mx 0)), (1, .int x1), (2, .ref (ad_tb 0))]) hx hb d_Mixture_contradictedBefore_1 rfl hl (by decide) rfl (fun ls hl => ?_)
  refine lv_iconst (v := (0 : Int32)) hx hb d_Mixture_contradictedBefore_2 (by decide) ?_
  refine lv_istore (lv' := [(4, .int (0 : Int32)), (3, .int (0 : Int32)), (0, .ref (ad_mx 0)), (1, .int x1), (2, .ref (ad_tb 0))]) hx hb d_Mixture_contradictedBefore_3 hl (by decide) rfl (fun ls hl => ?_)
  exact w_5 4096 x1 (0 : Int32) (0 : Int32) H locs ls hf hP hD hS (lv_sub hl [2, 3, 4, 1, 0] rfl)
noncomputable def f_Mixture_append_49  (mx : SMixture) (tb : STable) (z1 : Int32) (z2 : Bool) : Option (Int32 × SMixture) :=
  (if inb z1 8 then
    (Option.bind (f_Mixture_contradictedBefore (mx.1, mx.2.1, upd mx.2.2.1 z1.toNatClampNeg (vp_nar .boolean (bI z2)), mx.2.2.2.1 + (1 : Int32), mx.2.2.2.2) tb ((mx.2.2.2.1 + (1 : Int32)) - (1 : Int32))) fun u7 =>
      (some (u7, (mx.1, mx.2.1, upd mx.2.2.1 z1.toNatClampNeg (vp_nar .boolean (bI z2)), mx.2.2.2.1 + (1 : Int32), mx.2.2.2.2)))
     )
   else none)
noncomputable def f_Mixture_append (mx : SMixture) (tb : STable) (x1 : Int32) (x2 : Int32) (x3 : Int32) : Option (Int32 × SMixture) :=
  (Option.bind (f_Mixture_isFull mx) fun u1 =>
    (if (bI u1) = 0 then
      (if inb mx.2.2.2.1 8 then
        (if inb mx.2.2.2.1 8 then
          (if x3 ≤ (200 : Int32) then
            (f_Mixture_append_49 (upd mx.1 mx.2.2.2.1.toNatClampNeg x1, upd mx.2.1 mx.2.2.2.1.toNatClampNeg x2, mx.2.2.1, mx.2.2.2.1, mx.2.2.2.2) tb mx.2.2.2.1 false)
           else
            (f_Mixture_append_49 (upd mx.1 mx.2.2.2.1.toNatClampNeg x1, upd mx.2.1 mx.2.2.2.1.toNatClampNeg x2, mx.2.2.1, mx.2.2.2.1, mx.2.2.2.2) tb mx.2.2.2.1 true)
           )
         else none)
       else none)
     else
      (some ((0 : Int32), mx))
     )
   )
set_option maxHeartbeats 4000000 in
set_option maxRecDepth 100000 in
theorem k_Mixture_append (l : Launch) (dC : Nat → ClassId) (dI : Nat → Nat → Nat) (ad_mx : Nat → Nat) (cA_mx : Nat → ClassId) (ad_tb : Nat → Nat) (cA_tb : Nat → ClassId) (sz : Nat) (mx : SMixture) (tb : STable) (x1 : Int32) (x2 : Int32) (x3 : Int32) (res : Int32 × SMixture) (hf : f_Mixture_append mx tb x1 x2 x3 = some res) : Met l y_Mixture_append w_Mixture_append ({ frames := 3, cells := 0, slots := 0, locals := 69 }) (cPc (dC, dI) (uw_Mixture ad_mx cA_mx mx ++ (uw_Table ad_tb cA_tb tb)) [(cA_mx 1, .int), (cA_mx 2, .int), (cA_mx 3, .boolean), (cA_tb 1, .int), (cA_tb 2, .int), (cA_tb 3, .int), (cA_tb 4, .byte)] sz [.ref (ad_mx 0), .int x1, .int x2, .int x3, .ref (ad_tb 0)]) (va_Qi (fun (r : Int32) (u : SMixture) => r = res.1 ∧ u = res.2) (fun (u : SMixture) (t : State) => va_P (dC, dI) vwCl (uw_Mixture ad_mx cA_mx u ++ (uw_Table ad_tb cA_tb tb)) t.heap ∧ va_K (dC, dI) vwCl [(cA_mx 1, .int), (cA_mx 2, .int), (cA_mx 3, .boolean), (cA_tb 1, .int), (cA_tb 2, .int), (cA_tb 3, .int), (cA_tb 4, .byte)] t ∧ va_D (va_A (uw_Mixture ad_mx cA_mx mx ++ (uw_Table ad_tb cA_tb tb)) sz) (uw_Mixture ad_mx cA_mx u ++ (uw_Table ad_tb cA_tb tb))) (va_A (uw_Mixture ad_mx cA_mx mx ++ (uw_Table ad_tb cA_tb tb)) sz)) 0 0 (va_A (uw_Mixture ad_mx cA_mx mx ++ (uw_Table ad_tb cA_tb tb)) sz) := by
  refine Met.ofW (cc := b_Mixture_append) (maxL := 5) (ret := (some .int)) (by decide) rfl ?_
  intro p e s m args below meth c s₁ B hml hv
  obtain ⟨rfl, hsz, hP, hK, hD0, hN⟩ := hv
  have hx := B.exec
  have hb := B.bytes
  have hr := B.returns
  have hts := atoms_spec (ws := w_Mixture_append) B.pre
  have hown : s.vm.findClass "HazardTables$Mixture" = some m.cls := findClass_of_methodNamed B.named
  have hlocks := B.notSynchronized
  subst hsz
  have hD := hD0.self (sz := s.heap.size)
  generalize hAe : va_A (uw_Mixture ad_mx cA_mx mx ++ (uw_Table ad_tb cA_tb tb)) s.heap.size = A at hD ⊢
  have hA : ∀ q : Nat, s.heap.size ≤ q → A q := fun q h => by rw [← hAe]; exact Or.inr h
  have hS : va_S A s.heap s.heap [] := va_S.rf
  have hP : va_P (dC, dI) vwCl (uw_Mixture ad_mx cA_mx mx ++ (uw_Table ad_tb cA_tb tb)) s.heap := hP
  have fl_11 := (hts _ (List.mem_cons_of_mem _ wd_121))
  have fl_15 := (hts _ (List.mem_cons_of_mem _ wd_122))
  have fl_18 := (hts _ (List.mem_cons_of_mem _ wd_123))
  have fl_26 := (hts _ (List.mem_cons_of_mem _ wd_124))
  have hin_Mixture : ∀ w ∈ u_ws "HazardTables$Mixture" F_Mixture 5, w ∈ w_Mixture_append := fun w h => List.mem_cons_of_mem _ (hinA_Mixture w h)
  have ret : ∀ (v : Int32) (u : SMixture) (H : Heap) (locs : List Loc) (ls : Array Slot) (pc : Nat), decode b_Mixture_append pc = .ok (.ireturn, 1) → (v = res.1 ∧ u = res.2) → va_P (dC, dI) vwCl (uw_Mixture ad_mx cA_mx u ++ (uw_Table ad_tb cA_tb tb)) H → va_D A (uw_Mixture ad_mx cA_mx u ++ (uw_Table ad_tb cA_tb tb)) → va_S A s.heap H locs → W p l e (headSpec w_Mixture_append ({ frames := 3, cells := 0, slots := 0, locals := 69 })).room s m ([.ref (ad_mx 0), .int x1, .int x2, .int x3, .ref (ad_tb 0)] : List Value).toArray below meth c H locs 0 0 (MQ below (va_Qi (fun (r : Int32) (u : SMixture) => r = res.1 ∧ u = res.2) (fun (u : SMixture) (t : State) => va_P (dC, dI) vwCl (uw_Mixture ad_mx cA_mx u ++ (uw_Table ad_tb cA_tb tb)) t.heap ∧ va_K (dC, dI) vwCl [(cA_mx 1, .int), (cA_mx 2, .int), (cA_mx 3, .boolean), (cA_tb 1, .int), (cA_tb 2, .int), (cA_tb 3, .int), (cA_tb 4, .byte)] t ∧ va_D A (uw_Mixture ad_mx cA_mx u ++ (uw_Table ad_tb cA_tb tb))) A) ([.ref (ad_mx 0), .int x1, .int x2, .int x3, .ref (ad_tb 0)] : List Value).toArray s 0 0 A) (F0 m pc ls [.int v]) := fun v u H locs ls pc hd hp hP hD hS => W.iret (v := v) hx hb hr (fun t ht hW => ⟨⟨v, u, rfl, hp, by rw [ht]; exact hP, va_K.moved hW.alike hK, hD⟩, hS.F ht⟩) hS.2.2 hd
  generalize (MQ below (va_Qi (fun (r : Int32) (u : SMixture) => r = res.1 ∧ u = res.2) (fun (u : SMixture) (t : State) => va_P (dC, dI) vwCl (uw_Mixture ad_mx cA_mx u ++ (uw_Table ad_tb cA_tb tb)) t.heap ∧ va_K (dC, dI) vwCl [(cA_mx 1, .int), (cA_mx 2, .int), (cA_mx 3, .boolean), (cA_tb 1, .int), (cA_tb 2, .int), (cA_tb 3, .int), (cA_tb 4, .byte)] t ∧ va_D A (uw_Mixture ad_mx cA_mx u ++ (uw_Table ad_tb cA_tb tb))) A) ([.ref (ad_mx 0), .int x1, .int x2, .int x3, .ref (ad_tb 0)] : List Value).toArray s 0 0 A) = Q at ret ⊢
  have w_49 : ∀ (mx : SMixture) (z1 : Int32) (z2 : Bool) (H : Heap) (locs : List Loc) (ls : Array Slot), f_Mixture_append_49 mx tb z1 z2 = some res → va_P (dC, dI) vwCl (uw_Mixture ad_mx cA_mx mx ++ (uw_Table ad_tb cA_tb tb)) H → va_D A (uw_Mixture ad_mx cA_mx mx ++ (uw_Table ad_tb cA_tb tb)) → va_S A s.heap H locs → lv_has ls 5 [(0, .ref (ad_mx 0)), (4, .ref (ad_tb 0))] → W p l e (headSpec w_Mixture_append ({ frames := 3, cells := 0, slots := 0, locals := 69 })).room s m ([.ref (ad_mx 0), .int x1, .int x2, .int x3, .ref (ad_tb 0)] : List Value).toArray below meth c H locs 0 0 Q (F0 m 49 ls [.int (bI z2), .int z1, .ref (ad_mx 3)]) := by
    intro mx z1 z2 H locs ls hf hP hD hS hl
    rw [f_Mixture_append_49] at hf
    obtain ⟨hi6, hf⟩ := hf_g hf
    refine va_zast hx hb hK hP hD hS 3 2 rfl rfl hi6 d_Mixture_append_49 (fun H locs hP hD hS => ?_)
    have hP : va_P (dC, dI) vwCl (uw_Mixture ad_mx cA_mx (mx.1, mx.2.1, upd mx.2.2.1 z1.toNatClampNeg (vp_nar .boolean (bI z2)), mx.2.2.2.1, mx.2.2.2.2) ++ (uw_Table ad_tb cA_tb tb)) H := hP
    have hD : va_D A (uw_Mixture ad_mx cA_mx (mx.1, mx.2.1, upd mx.2.2.1 z1.toNatClampNeg (vp_nar .boolean (bI z2)), mx.2.2.2.1, mx.2.2.2.2) ++ (uw_Table ad_tb cA_tb tb)) := hD
    refine lv_aload_n hx hb d_Mixture_append_50 rfl (lv_at hl 0 rfl) ?_
    refine lv_dup hx hb d_Mixture_append_51 rfl ?_
    refine va_get (D := (dC, dI)) (ci := 0) (v := .int mx.2.2.2.1) (C := "HazardTables$Mixture") (T := F_Mixture) (N := 5) hx hb hts hin_Mixture hown hK hP 0 rfl rfl 3 (by decide) fl_26 (fun _ h9 => h9) rfl d_Mixture_append_52 ?_
    refine lv_iconst (v := (1 : Int32)) hx hb d_Mixture_append_55 (by decide) ?_
    refine lv_iadd hx hb d_Mixture_append_56 ?_
    refine va_put (D := (dC, dI)) (ci := 0) (v := .int (mx.2.2.2.1 + (1 : Int32))) (ty := .int) (C := "HazardTables$Mixture") (T := F_Mixture) (N := 5) hx hb hts hin_Mixture t_Mixture t_Mixture_ok n_Mixture hown hK hP hD hS 0 rfl rfl 3 (by decide) fl_26 (fun _ h9 => h9) rfl (by decide +kernel) rfl rfl (Nat.le_of_ble_eq_true rfl) d_Mixture_append_57 (fun H locs hP hD hS => ?_)
    have hP : va_P (dC, dI) vwCl (uw_Mixture ad_mx cA_mx (mx.1, mx.2.1, upd mx.2.2.1 z1.toNatClampNeg (vp_nar .boolean (bI z2)), mx.2.2.2.1 + (1 : Int32), mx.2.2.2.2) ++ (uw_Table ad_tb cA_tb tb)) H := hP
    have hD : va_D A (uw_Mixture ad_mx cA_mx (mx.1, mx.2.1, upd mx.2.2.1 z1.toNatClampNeg (vp_nar .boolean (bI z2)), mx.2.2.2.1 + (1 : Int32), mx.2.2.2.2) ++ (uw_Table ad_tb cA_tb tb)) := hD
    refine lv_aload_n hx hb d_Mixture_append_60 rfl (lv_at hl 0 rfl) ?_
    refine lv_aload_n hx hb d_Mixture_append_61 rfl (lv_at hl 0 rfl) ?_
    refine va_get (D := (dC, dI)) (ci := 0) (v := .int (mx.2.2.2.1 + (1 : Int32))) (C := "HazardTables$Mixture") (T := F_Mixture) (N := 5) hx hb hts hin_Mixture hown hK hP 0 rfl rfl 3 (by decide) fl_26 (fun _ h9 => h9) rfl d_Mixture_append_62 ?_
    refine lv_iconst (v := (1 : Int32)) hx hb d_Mixture_append_65 (by decide) ?_
    refine lv_isub hx hb d_Mixture_append_66 ?_
    refine lv_aload hx hb d_Mixture_append_67 (lv_at hl 1 rfl) ?_
    obtain ⟨u7, hu7, hf⟩ := Option.bind_eq_some_iff.mp hf
    refine cl_i (wc := (uw_Mixture ad_mx cA_mx (mx.1, mx.2.1, upd mx.2.2.1 z1.toNatClampNeg (vp_nar .boolean (bI z2)), mx.2.2.2.1 + (1 : Int32), mx.2.2.2.2) ++ (uw_Table ad_tb cA_tb tb))) (wr := []) (tysC := [(cA_mx 1, .int), (cA_mx 2, .int), (cA_mx 3, .boolean), (cA_tb 1, .int), (cA_tb 2, .int), (cA_tb 3, .int), (cA_tb 4, .byte)]) (wu := fun (u : Unit) => (uw_Mixture ad_mx cA_mx (mx.1, mx.2.1, upd mx.2.2.1 z1.toNatClampNeg (vp_nar .boolean (bI z2)), mx.2.2.2.1 + (1 : Int32), mx.2.2.2.2) ++ (uw_Table ad_tb cA_tb tb))) (wn := fun (u : Unit) => (uw_Mixture ad_mx cA_mx (mx.1, mx.2.1, upd mx.2.2.1 z1.toNatClampNeg (vp_nar .boolean (bI z2)), mx.2.2.2.1 + (1 : Int32), mx.2.2.2.2) ++ (uw_Table ad_tb cA_tb tb))) [0, 1, 2, 3, 4, 5, 6, 7, 8] [] [0, 1, 2, 3, 4, 5, 6, 7, 8] [0, 1, 2, 3, 4, 5, 6] hP hD hS hA hK rfl rfl (by decide +kernel) (by decide +kernel) (by decide +kernel) rfl (fun _ => rfl) (by decide +kernel) (fun hPc hKc hDc => (va_runV (As := [.int ((mx.2.2.2.1 + (1 : Int32)) - (1 : Int32)), .ref (ad_tb 0)]) (rest := []) ⟨hx, hb, hml, hown, hts⟩ (k_Mixture_contradictedBefore l dC dI ad_mx cA_mx ad_tb cA_tb H.size (mx.1, mx.2.1, upd mx.2.2.1 z1.toNatClampNeg (vp_nar .boolean (bI z2)), mx.2.2.2.1 + (1 : Int32), mx.2.2.2.2) tb ((mx.2.2.2.1 + (1 : Int32)) - (1 : Int32)) u7 hu7) (cwV 2 hts (gV wd_590 wd_592 wd_20 wd_46 wd_593) rfl rfl rfl (by decide +kernel) ⟨Nat.le_of_ble_eq_true rfl, Nat.le_of_ble_eq_true rfl⟩) (cl_preV hPc hKc hDc hN (ci := 0) 0 rfl rfl) rfl rfl hl.1 rfl (lv_room (Nat.le_of_ble_eq_true rfl)) d_Mixture_append_69 ⟨Nat.le_of_ble_eq_true rfl, Nat.le_of_ble_eq_true rfl⟩)) (fun r u H locs hw hP hD hS => ?_)
    have hw := hw.symm
    subst hw
    have hP : va_P (dC, dI) vwCl (uw_Mixture ad_mx cA_mx (mx.1, mx.2.1, upd mx.2.2.1 z1.toNatClampNeg (vp_nar .boolean (bI z2)), mx.2.2.2.1 + (1 : Int32), mx.2.2.2.2) ++ (uw_Table ad_tb cA_tb tb)) H := hP
    have hD : va_D A (uw_Mixture ad_mx cA_mx (mx.1, mx.2.1, upd mx.2.2.1 z1.toNatClampNeg (vp_nar .boolean (bI z2)), mx.2.2.2.1 + (1 : Int32), mx.2.2.2.2) ++ (uw_Table ad_tb cA_tb tb)) := hD
    exact ret u7 (mx.1, mx.2.1, upd mx.2.2.1 z1.toNatClampNeg (vp_nar .boolean (bI z2)), mx.2.2.2.1 + (1 : Int32), mx.2.2.2.2) H locs ls 72 d_Mixture_append_72 (hf_e hf) hP hD hS
  have hl := lv_entry ([.ref (ad_mx 0), .int x1, .int x2, .int x3, .ref (ad_tb 0)]) (n := 5) (Nat.le_of_ble_eq_true rfl)
  rw [lg_entry_eq]
  generalize (lg_sl ([.ref (ad_mx 0), .int x1, .int x2, .int x3, .ref (ad_tb 0)]) ++ List.replicate (5 - (lg_sl ([.ref (ad_mx 0), .int x1, .int x2, .int x3, .ref (ad_tb 0)])).length) Slot.unset).toArray = ls at hl ⊢
  have hl : lv_has ls 5 [(0, .ref (ad_mx 0)), (1, .int x1), (2, .int x2), (3, .int x3), (4, .ref (ad_tb 0))] := hl
  have hf := hf
  rw [f_Mixture_append] at hf
  obtain ⟨H, hH⟩ : ∃ H : Heap, H = s.heap := ⟨_, rfl⟩
  obtain ⟨locs, hlocs⟩ : ∃ L : List Loc, L = [] := ⟨_, rfl⟩
  have hP : va_P (dC, dI) vwCl (uw_Mixture ad_mx cA_mx mx ++ (uw_Table ad_tb cA_tb tb)) H := by rw [hH]; exact hP
  have hS : va_S A s.heap H locs := by rw [hH, hlocs]; exact hS
  show W p l e (headSpec w_Mixture_append ({ frames := 3, cells := 0, slots := 0, locals := 69 })).room s m ([.ref (ad_mx 0), .int x1, .int x2, .int x3, .ref (ad_tb 0)] : List Value).toArray below meth c s.heap [] 0 0 Q (F0 m 0 ls [])
  suffices hgo : W p l e (headSpec w_Mixture_append ({ frames := 3, cells := 0, slots := 0, locals := 69 })).room s m ([.ref (ad_mx 0), .int x1, .int x2, .int x3, .ref (ad_tb 0)] : List Value).toArray below meth c H locs 0 0 Q (F0 m 0 ls []) by rw [hH, hlocs] at hgo; exact hgo
  clear hH hlocs
  refine lv_aload_n hx hb d_Mixture_append_0 rfl (lv_at hl 0 rfl) ?_
  obtain ⟨u1, hu1, hf⟩ := Option.bind_eq_some_iff.mp hf
  refine cl_i (wc := (uw_Mixture ad_mx cA_mx mx)) (wr := (uw_Table ad_tb cA_tb tb)) (tysC := [(cA_mx 1, .int), (cA_mx 2, .int), (cA_mx 3, .boolean)]) (wu := fun (u : Unit) => (uw_Mixture ad_mx cA_mx mx)) (wn := fun (u : Unit) => (uw_Mixture ad_mx cA_mx mx ++ (uw_Table ad_tb cA_tb tb))) [0, 1, 2, 3] [4, 5, 6, 7, 8] [5, 6, 7, 8, 0, 1, 2, 3, 4] [0, 1, 2] hP hD hS hA hK rfl rfl (by decide +kernel) (by decide +kernel) (by decide +kernel) rfl (fun _ => rfl) (by decide +kernel) (fun hPc hKc hDc => (va_runV (As := []) (rest := []) ⟨hx, hb, hml, hown, hts⟩ (k_Mixture_isFull l dC dI ad_mx cA_mx H.size mx u1 hu1) (cwV 0 hts (gV wd_589 wd_581 wd_582 wd_46 wd_583) rfl rfl rfl (by decide +kernel) ⟨Nat.le_of_ble_eq_true rfl, Nat.le_of_ble_eq_true rfl⟩) (cl_preV hPc hKc hDc hN (ci := 0) 0 rfl rfl) rfl rfl hl.1 rfl (lv_room (Nat.le_of_ble_eq_true rfl)) d_Mixture_append_1 ⟨Nat.le_of_ble_eq_true rfl, Nat.le_of_ble_eq_true rfl⟩)) (fun r u H locs hw hP hD hS => ?_)
  have hw := hw.symm
  subst hw
  have hP : va_P (dC, dI) vwCl (uw_Mixture ad_mx cA_mx mx ++ (uw_Table ad_tb cA_tb tb)) H := hP
  have hD : va_D A (uw_Mixture ad_mx cA_mx mx ++ (uw_Table ad_tb cA_tb tb)) := hD
  refine lv_if_eq (tgt := 9) hx hb d_Mixture_append_4 (by decide) (fun hc2 => ?_) (fun hc2 => ?_)
  · have hf := hf_t hf hc2
    refine lv_aload_n hx hb d_Mixture_append_9 rfl (lv_at hl 0 rfl) ?_
    refine va_get (D := (dC, dI)) (ci := 0) (v := .ref (ad_mx 1)) (C := "HazardTables$Mixture") (T := F_Mixture) (N := 5) hx hb hts hin_Mixture hown hK hP 0 rfl rfl 0 (by decide) fl_11 (fun _ h9 => h9) rfl d_Mixture_append_10 ?_
    refine lv_aload_n hx hb d_Mixture_append_13 rfl (lv_at hl 0 rfl) ?_
    refine va_get (D := (dC, dI)) (ci := 0) (v := .int mx.2.2.2.1) (C := "HazardTables$Mixture") (T := F_Mixture) (N := 5) hx hb hts hin_Mixture hown hK hP 0 rfl rfl 3 (by decide) fl_26 (fun _ h9 => h9) rfl d_Mixture_append_14 ?_
    refine lv_iload_n hx hb d_Mixture_append_17 rfl (lv_at hl 1 rfl) ?_
    obtain ⟨hi3, hf⟩ := hf_g hf
    refine va_iast hx hb hK hP hD hS 1 0 rfl rfl hi3 d_Mixture_append_18 (fun H locs hP hD hS => ?_)
    have hP : va_P (dC, dI) vwCl (uw_Mixture ad_mx cA_mx (upd mx.1 mx.2.2.2.1.toNatClampNeg x1, mx.2.1, mx.2.2.1, mx.2.2.2.1, mx.2.2.2.2) ++ (uw_Table ad_tb cA_tb tb)) H := hP
    have hD : va_D A (uw_Mixture ad_mx cA_mx (upd mx.1 mx.2.2.2.1.toNatClampNeg x1, mx.2.1, mx.2.2.1, mx.2.2.2.1, mx.2.2.2.2) ++ (uw_Table ad_tb cA_tb tb)) := hD
    refine lv_aload_n hx hb d_Mixture_append_19 rfl (lv_at hl 0 rfl) ?_
    refine va_get (D := (dC, dI)) (ci := 0) (v := .ref (ad_mx 2)) (C := "HazardTables$Mixture") (T := F_Mixture) (N := 5) hx hb hts hin_Mixture hown hK hP 0 rfl rfl 1 (by decide) fl_15 (fun _ h9 => h9) rfl d_Mixture_append_20 ?_
    refine lv_aload_n hx hb d_Mixture_append_23 rfl (lv_at hl 0 rfl) ?_
    refine va_get (D := (dC, dI)) (ci := 0) (v := .int mx.2.2.2.1) (C := "HazardTables$Mixture") (T := F_Mixture) (N := 5) hx hb hts hin_Mixture hown hK hP 0 rfl rfl 3 (by decide) fl_26 (fun _ h9 => h9) rfl d_Mixture_append_24 ?_
    refine lv_iload_n hx hb d_Mixture_append_27 rfl (lv_at hl 2 rfl) ?_
    obtain ⟨hi4, hf⟩ := hf_g hf
    refine va_iast hx hb hK hP hD hS 2 1 rfl rfl hi4 d_Mixture_append_28 (fun H locs hP hD hS => ?_)
    have hP : va_P (dC, dI) vwCl (uw_Mixture ad_mx cA_mx (upd mx.1 mx.2.2.2.1.toNatClampNeg x1, upd mx.2.1 mx.2.2.2.1.toNatClampNeg x2, mx.2.2.1, mx.2.2.2.1, mx.2.2.2.2) ++ (uw_Table ad_tb cA_tb tb)) H := hP
    have hD : va_D A (uw_Mixture ad_mx cA_mx (upd mx.1 mx.2.2.2.1.toNatClampNeg x1, upd mx.2.1 mx.2.2.2.1.toNatClampNeg x2, mx.2.2.1, mx.2.2.2.1, mx.2.2.2.2) ++ (uw_Table ad_tb cA_tb tb)) := hD
    refine lv_aload_n hx hb d_Mixture_append_29 rfl (lv_at hl 0 rfl) ?_
    refine va_get (D := (dC, dI)) (ci := 0) (v := .ref (ad_mx 3)) (C := "HazardTables$Mixture") (T := F_Mixture) (N := 5) hx hb hts hin_Mixture hown hK hP 0 rfl rfl 2 (by decide) fl_18 (fun _ h9 => h9) rfl d_Mixture_append_30 ?_
    refine lv_aload_n hx hb d_Mixture_append_33 rfl (lv_at hl 0 rfl) ?_
    refine va_get (D := (dC, dI)) (ci := 0) (v := .int mx.2.2.2.1) (C := "HazardTables$Mixture") (T := F_Mixture) (N := 5) hx hb hts hin_Mixture hown hK hP 0 rfl rfl 3 (by decide) fl_26 (fun _ h9 => h9) rfl d_Mixture_append_34 ?_
    refine lv_iload_n hx hb d_Mixture_append_37 rfl (lv_at hl 3 rfl) ?_
    refine lv_sipush (v := (200 : Int32)) hx hb d_Mixture_append_38 (by decide) ?_
    refine lv_icmp_le (tgt := 48) hx hb d_Mixture_append_41 (by decide) (fun hc5 => ?_) (fun hc5 => ?_)
    · have hf := hf_t hf hc5
      refine lv_iconst (v := (0 : Int32)) hx hb d_Mixture_append_48 (by decide) ?_
      exact w_49 (upd mx.1 mx.2.2.2.1.toNatClampNeg x1, upd mx.2.1 mx.2.2.2.1.toNatClampNeg x2, mx.2.2.1, mx.2.2.2.1, mx.2.2.2.2) mx.2.2.2.1 false H locs ls hf hP hD hS (lv_sub hl [0, 4] rfl)
    · have hf := hf_f hf hc5
      refine lv_iconst (v := (1 : Int32)) hx hb d_Mixture_append_44 (by decide) ?_
      refine lv_goto (tgt := 49) hx hb d_Mixture_append_45 (by decide) ?_
      exact w_49 (upd mx.1 mx.2.2.2.1.toNatClampNeg x1, upd mx.2.1 mx.2.2.2.1.toNatClampNeg x2, mx.2.2.1, mx.2.2.2.1, mx.2.2.2.2) mx.2.2.2.1 true H locs ls hf hP hD hS (lv_sub hl [0, 4] rfl)
  · have hf := hf_f hf hc2
    refine lv_iconst (v := (0 : Int32)) hx hb d_Mixture_append_7 (by decide) ?_
    exact ret (0 : Int32) mx H locs ls 8 d_Mixture_append_8 (hf_e hf) hP hD hS
noncomputable def f_Mixture_strictness_4  : Nat → SMixture → STable → Int32 → Int32 → Option (Int32)
  | 0, _, _, _, _ => none
  | n + 1, mx, tb, y2, y3 =>
    (if mx.2.2.2.1 ≤ y3 then
      (some (y2))
     else
      (Option.bind (f_Mixture_row mx y3) fun u2 =>
        (Option.bind (f_Table_cell tb u2 (1 : Int32)) fun u3 =>
          (f_Mixture_strictness_4 n mx tb (if y2 < u3 then u3 else y2) (y3 + (1 : Int32)))
         )
       )
     )
noncomputable def f_Mixture_strictness (mx : SMixture) (tb : STable) : Option (Int32) :=
  (f_Mixture_strictness_4 4096 mx tb (0 : Int32) (0 : Int32))
set_option maxHeartbeats 4000000 in
set_option maxRecDepth 100000 in
theorem k_Mixture_strictness (l : Launch) (dC : Nat → ClassId) (dI : Nat → Nat → Nat) (ad_mx : Nat → Nat) (cA_mx : Nat → ClassId) (ad_tb : Nat → Nat) (cA_tb : Nat → ClassId) (sz : Nat) (mx : SMixture) (tb : STable) (res : Int32) (hf : f_Mixture_strictness mx tb = some res) : Met l y_Mixture_strictness w_Mixture_strictness ({ frames := 1, cells := 0, slots := 0, locals := 23 }) (cPc (dC, dI) (uw_Mixture ad_mx cA_mx mx ++ (uw_Table ad_tb cA_tb tb)) [(cA_mx 1, .int), (cA_mx 2, .int), (cA_mx 3, .boolean), (cA_tb 1, .int), (cA_tb 2, .int), (cA_tb 3, .int), (cA_tb 4, .byte)] sz [.ref (ad_mx 0), .ref (ad_tb 0)]) (va_Qi (fun (r : Int32) (u : Unit) => r = res) (fun (u : Unit) (t : State) => va_P (dC, dI) vwCl (uw_Mixture ad_mx cA_mx mx ++ (uw_Table ad_tb cA_tb tb)) t.heap ∧ va_K (dC, dI) vwCl [(cA_mx 1, .int), (cA_mx 2, .int), (cA_mx 3, .boolean), (cA_tb 1, .int), (cA_tb 2, .int), (cA_tb 3, .int), (cA_tb 4, .byte)] t ∧ va_D (va_A (uw_Mixture ad_mx cA_mx mx ++ (uw_Table ad_tb cA_tb tb)) sz) (uw_Mixture ad_mx cA_mx mx ++ (uw_Table ad_tb cA_tb tb))) (va_A (uw_Mixture ad_mx cA_mx mx ++ (uw_Table ad_tb cA_tb tb)) sz)) 0 0 (va_A (uw_Mixture ad_mx cA_mx mx ++ (uw_Table ad_tb cA_tb tb)) sz) := by
  refine Met.ofW (cc := b_Mixture_strictness) (maxL := 4) (ret := (some .int)) (by decide) rfl ?_
  intro p e s m args below meth c s₁ B hml hv
  obtain ⟨rfl, hsz, hP, hK, hD0, hN⟩ := hv
  have hx := B.exec
  have hb := B.bytes
  have hr := B.returns
  have hts := atoms_spec (ws := w_Mixture_strictness) B.pre
  have hown : s.vm.findClass "HazardTables$Mixture" = some m.cls := findClass_of_methodNamed B.named
  have hlocks := B.notSynchronized
  subst hsz
  have hD := hD0.self (sz := s.heap.size)
  generalize hAe : va_A (uw_Mixture ad_mx cA_mx mx ++ (uw_Table ad_tb cA_tb tb)) s.heap.size = A at hD ⊢
  have hA : ∀ q : Nat, s.heap.size ≤ q → A q := fun q h => by rw [← hAe]; exact Or.inr h
  have hS : va_S A s.heap s.heap [] := va_S.rf
  have hP : va_P (dC, dI) vwCl (uw_Mixture ad_mx cA_mx mx ++ (uw_Table ad_tb cA_tb tb)) s.heap := hP
  have fl_26 := (hts _ (List.mem_cons_of_mem _ wd_124))
  have hin_Mixture : ∀ w ∈ u_ws "HazardTables$Mixture" F_Mixture 5, w ∈ w_Mixture_strictness := fun w h => List.mem_cons_of_mem _ (hinA_Mixture w h)
  have ret : ∀ (v : Int32) (u : Unit) (H : Heap) (locs : List Loc) (ls : Array Slot) (pc : Nat), decode b_Mixture_strictness pc = .ok (.ireturn, 1) → (v = res) → va_P (dC, dI) vwCl (uw_Mixture ad_mx cA_mx mx ++ (uw_Table ad_tb cA_tb tb)) H → va_D A (uw_Mixture ad_mx cA_mx mx ++ (uw_Table ad_tb cA_tb tb)) → va_S A s.heap H locs → W p l e (headSpec w_Mixture_strictness ({ frames := 1, cells := 0, slots := 0, locals := 23 })).room s m ([.ref (ad_mx 0), .ref (ad_tb 0)] : List Value).toArray below meth c H locs 0 0 (MQ below (va_Qi (fun (r : Int32) (u : Unit) => r = res) (fun (u : Unit) (t : State) => va_P (dC, dI) vwCl (uw_Mixture ad_mx cA_mx mx ++ (uw_Table ad_tb cA_tb tb)) t.heap ∧ va_K (dC, dI) vwCl [(cA_mx 1, .int), (cA_mx 2, .int), (cA_mx 3, .boolean), (cA_tb 1, .int), (cA_tb 2, .int), (cA_tb 3, .int), (cA_tb 4, .byte)] t ∧ va_D A (uw_Mixture ad_mx cA_mx mx ++ (uw_Table ad_tb cA_tb tb))) A) ([.ref (ad_mx 0), .ref (ad_tb 0)] : List Value).toArray s 0 0 A) (F0 m pc ls [.int v]) := fun v u H locs ls pc hd hp hP hD hS => W.iret (v := v) hx hb hr (fun t ht hW => ⟨⟨v, u, rfl, hp, by rw [ht]; exact hP, va_K.moved hW.alike hK, hD⟩, hS.F ht⟩) hS.2.2 hd
  generalize (MQ below (va_Qi (fun (r : Int32) (u : Unit) => r = res) (fun (u : Unit) (t : State) => va_P (dC, dI) vwCl (uw_Mixture ad_mx cA_mx mx ++ (uw_Table ad_tb cA_tb tb)) t.heap ∧ va_K (dC, dI) vwCl [(cA_mx 1, .int), (cA_mx 2, .int), (cA_mx 3, .boolean), (cA_tb 1, .int), (cA_tb 2, .int), (cA_tb 3, .int), (cA_tb 4, .byte)] t ∧ va_D A (uw_Mixture ad_mx cA_mx mx ++ (uw_Table ad_tb cA_tb tb))) A) ([.ref (ad_mx 0), .ref (ad_tb 0)] : List Value).toArray s 0 0 A) = Q at ret ⊢
  have w_4 : ∀ (n : Nat)  (y2 : Int32) (y3 : Int32) (H : Heap) (locs : List Loc) (ls : Array Slot), f_Mixture_strictness_4 n mx tb y2 y3 = some res → va_P (dC, dI) vwCl (uw_Mixture ad_mx cA_mx mx ++ (uw_Table ad_tb cA_tb tb)) H → va_D A (uw_Mixture ad_mx cA_mx mx ++ (uw_Table ad_tb cA_tb tb)) → va_S A s.heap H locs → lv_has ls 4 [(0, .ref (ad_mx 0)), (1, .ref (ad_tb 0)), (2, .int y2), (3, .int y3)] → W p l e (headSpec w_Mixture_strictness ({ frames := 1, cells := 0, slots := 0, locals := 23 })).room s m ([.ref (ad_mx 0), .ref (ad_tb 0)] : List Value).toArray below meth c H locs 0 0 Q (F0 m 4 ls []) := by
    intro n
    induction n with
    | zero =>
      intro y2 y3 H locs ls hf hP hD hS hl
      rw [f_Mixture_strictness_4] at hf; cases hf
    | succ n ih =>
      intro y2 y3 H locs ls hf hP hD hS hl
      rw [f_Mixture_strictness_4] at hf
      refine lv_iload_n hx hb d_Mixture_strictness_4 rfl (lv_at hl 3 rfl) ?_
      refine lv_aload_n hx hb d_Mixture_strictness_5 rfl (lv_at hl 0 rfl) ?_
      refine va_get (D := (dC, dI)) (ci := 0) (v := .int mx.2.2.2.1) (C := "HazardTables$Mixture") (T := F_Mixture) (N := 5) hx hb hts hin_Mixture hown hK hP 0 rfl rfl 3 (by decide) fl_26 (fun _ h9 => h9) rfl d_Mixture_strictness_6 ?_
      refine lv_icmp_ge (tgt := 33) hx hb d_Mixture_strictness_9 (by decide) (fun hc1 => ?_) (fun hc1 => ?_)
      · have hf := hf_t hf hc1
        refine lv_iload_n hx hb d_Mixture_strictness_33 rfl (lv_at hl 2 rfl) ?_
        exact ret y2 () H locs ls 34 d_Mixture_strictness_34 (Option.some.inj hf) hP hD hS
      · have hf := hf_f hf hc1
        refine lv_iload_n hx hb d_Mixture_strictness_12 rfl (lv_at hl 2 rfl) ?_
        refine lv_aload_n hx hb d_Mixture_strictness_13 rfl (lv_at hl 1 rfl) ?_
        refine lv_aload_n hx hb d_Mixture_strictness_14 rfl (lv_at hl 0 rfl) ?_
        refine lv_iload_n hx hb d_Mixture_strictness_15 rfl (lv_at hl 3 rfl) ?_
        obtain ⟨u2, hu2, hf⟩ := Option.bind_eq_some_iff.mp hf
        refine cl_i (wc := (uw_Mixture ad_mx cA_mx mx)) (wr := (uw_Table ad_tb cA_tb tb)) (tysC := [(cA_mx 1, .int), (cA_mx 2, .int), (cA_mx 3, .boolean)]) (wu := fun (u : Unit) => (uw_Mixture ad_mx cA_mx mx)) (wn := fun (u : Unit) => (uw_Mixture ad_mx cA_mx mx ++ (uw_Table ad_tb cA_tb tb))) [0, 1, 2, 3] [4, 5, 6, 7, 8] [5, 6, 7, 8, 0, 1, 2, 3, 4] [0, 1, 2] hP hD hS hA hK rfl rfl (by decide +kernel) (by decide +kernel) (by decide +kernel) rfl (fun _ => rfl) (by decide +kernel) (fun hPc hKc hDc => (va_runV (As := [.int y3]) (rest := [.ref (ad_tb 0), .int y2]) ⟨hx, hb, hml, hown, hts⟩ (k_Mixture_row l dC dI ad_mx cA_mx H.size mx y3 u2 hu2) (cwV 1 hts (gV wd_594 wd_596 wd_21 wd_46 wd_597) rfl rfl rfl (by decide +kernel) ⟨Nat.le_of_ble_eq_true rfl, Nat.le_of_ble_eq_true rfl⟩) (cl_preV hPc hKc hDc hN (ci := 0) 0 rfl rfl) rfl rfl hl.1 rfl (lv_room (Nat.le_of_ble_eq_true rfl)) d_Mixture_strictness_16 ⟨Nat.le_of_ble_eq_true rfl, Nat.le_of_ble_eq_true rfl⟩)) (fun r u H locs hw hP hD hS => ?_)
        have hw := hw.symm
        subst hw
        have hP : va_P (dC, dI) vwCl (uw_Mixture ad_mx cA_mx mx ++ (uw_Table ad_tb cA_tb tb)) H := hP
        have hD : va_D A (uw_Mixture ad_mx cA_mx mx ++ (uw_Table ad_tb cA_tb tb)) := hD
        refine lv_iconst (v := (1 : Int32)) hx hb d_Mixture_strictness_19 (by decide) ?_
        obtain ⟨u3, hu3, hf⟩ := Option.bind_eq_some_iff.mp hf
        refine cl_i (wc := (uw_Table ad_tb cA_tb tb)) (wr := (uw_Mixture ad_mx cA_mx mx)) (tysC := [(cA_tb 1, .int), (cA_tb 2, .int), (cA_tb 3, .int), (cA_tb 4, .byte)]) (wu := fun (u : Unit) => (uw_Table ad_tb cA_tb tb)) (wn := fun (u : Unit) => (uw_Mixture ad_mx cA_mx mx ++ (uw_Table ad_tb cA_tb tb))) [4, 5, 6, 7, 8] [0, 1, 2, 3] [0, 1, 2, 3, 4, 5, 6, 7, 8] [3, 4, 5, 6] hP hD hS hA hK rfl rfl (by decide +kernel) (by decide +kernel) (by decide +kernel) rfl (fun _ => rfl) (by decide +kernel) (fun hPc hKc hDc => (va_runV (As := [.int u2, .int (1 : Int32)]) (rest := [.int y2]) ⟨hx, hb, hml, hown, hts⟩ (k_Table_cell l dC dI ad_tb cA_tb H.size tb u2 (1 : Int32) u3 hu3) (cwV 2 hts (gV wd_618 wd_497 wd_498 wd_48 wd_499) rfl rfl rfl (by decide +kernel) ⟨Nat.le_of_ble_eq_true rfl, Nat.le_of_ble_eq_true rfl⟩) (cl_preV hPc hKc hDc hN (ci := 4) 0 rfl rfl) rfl rfl hl.1 rfl (lv_room (Nat.le_of_ble_eq_true rfl)) d_Mixture_strictness_20 ⟨Nat.le_of_ble_eq_true rfl, Nat.le_of_ble_eq_true rfl⟩)) (fun r u H locs hw hP hD hS => ?_)
        have hw := hw.symm
        subst hw
        have hP : va_P (dC, dI) vwCl (uw_Mixture ad_mx cA_mx mx ++ (uw_Table ad_tb cA_tb tb)) H := hP
        have hD : va_D A (uw_Mixture ad_mx cA_mx mx ++ (uw_Table ad_tb cA_tb tb)) := hD
        refine va_mmax hx hb (hml.trans hl.1.symm) hown (hts _ (List.mem_cons_of_mem _ wd_619)) (hts _ (List.mem_cons_of_mem _ wd_620)) (hts _ (List.mem_cons_of_mem _ wd_57)) (hts _ (List.mem_cons_of_mem _ wd_621)) (Nat.le_of_ble_eq_true rfl) (Nat.le_of_ble_eq_true rfl) (Nat.le_of_ble_eq_true rfl) (Nat.le_of_ble_eq_true rfl) d_Mixture_strictness_23 ?_
        refine lv_istore_n (lv' := [(2, .int (if y2 < u3 then u3 else y2)), (0, .ref (ad_mx 0)), (1, .ref (ad_tb 0)), (3, .int y3)]) hx hb d_Mixture_strictness_26 rfl hl (by decide) rfl (fun ls hl => ?_)
        refine lv_iinc (v := y3 + (1 : Int32)) (lv' := [(3, .int (y3 + (1 : Int32))), (2, .int (if y2 < u3 then u3 else y2)), (0, .ref (ad_mx 0)), (1, .ref (ad_tb 0))]) hx hb d_Mixture_strictness_27 hl (k := 3) rfl rfl (by decide) rfl (fun ls hl => ?_)
        refine lv_goto (tgt := 4) hx hb d_Mixture_strictness_30 (by decide) ?_
        exact ih (if y2 < u3 then u3 else y2) (y3 + (1 : Int32)) H locs ls hf hP hD hS (lv_sub hl [2, 3, 1, 0] rfl)
  have hl := lv_entry ([.ref (ad_mx 0), .ref (ad_tb 0)]) (n := 4) (Nat.le_of_ble_eq_true rfl)
  rw [lg_entry_eq]
  generalize (lg_sl ([.ref (ad_mx 0), .ref (ad_tb 0)]) ++ List.replicate (4 - (lg_sl ([.ref (ad_mx 0), .ref (ad_tb 0)])).length) Slot.unset).toArray = ls at hl ⊢
  have hl : lv_has ls 4 [(0, .ref (ad_mx 0)), (1, .ref (ad_tb 0))] := hl
  have hf := hf
  rw [f_Mixture_strictness] at hf
  obtain ⟨H, hH⟩ : ∃ H : Heap, H = s.heap := ⟨_, rfl⟩
  obtain ⟨locs, hlocs⟩ : ∃ L : List Loc, L = [] := ⟨_, rfl⟩
  have hP : va_P (dC, dI) vwCl (uw_Mixture ad_mx cA_mx mx ++ (uw_Table ad_tb cA_tb tb)) H := by rw [hH]; exact hP
  have hS : va_S A s.heap H locs := by rw [hH, hlocs]; exact hS
  show W p l e (headSpec w_Mixture_strictness ({ frames := 1, cells := 0, slots := 0, locals := 23 })).room s m ([.ref (ad_mx 0), .ref (ad_tb 0)] : List Value).toArray below meth c s.heap [] 0 0 Q (F0 m 0 ls [])
  suffices hgo : W p l e (headSpec w_Mixture_strictness ({ frames := 1, cells := 0, slots := 0, locals := 23 })).room s m ([.ref (ad_mx 0), .ref (ad_tb 0)] : List Value).toArray below meth c H locs 0 0 Q (F0 m 0 ls []) by rw [hH, hlocs] at hgo; exact hgo
  clear hH hlocs
  refine lv_iconst (v := (0 : Int32)) hx hb d_Mixture_strictness_0 (by decide) ?_
  refine lv_istore_n (lv' := [(2, .int (0 : Int32)), (0, .ref (ad_mx 0)), (1, .ref (ad_tb 0))]) hx hb d_Mixture_strictness_1 rfl hl (by decide) rfl (fun ls hl => ?_)
  refine lv_iconst (v := (0 : Int32)) hx hb d_Mixture_strictness_2 (by decide) ?_
  refine lv_istore_n (lv' := [(3, .int (0 : Int32)), (2, .int (0 : Int32)), (0, .ref (ad_mx 0)), (1, .ref (ad_tb 0))]) hx hb d_Mixture_strictness_3 rfl hl (by decide) rfl (fun ls hl => ?_)
  exact w_4 4096 (0 : Int32) (0 : Int32) H locs ls hf hP hD hS (lv_sub hl [2, 3, 1, 0] rfl)
noncomputable def f_Mixture_gear_4  : Nat → SMixture → STable → Int32 → Int32 → Option (Int32)
  | 0, _, _, _, _ => none
  | n + 1, mx, tb, y2, y3 =>
    (if mx.2.2.2.1 ≤ y3 then
      (some (y2))
     else
      (Option.bind (f_Mixture_row mx y3) fun u2 =>
        (Option.bind (f_Table_cell tb u2 (2 : Int32)) fun u3 =>
          (f_Mixture_gear_4 n mx tb (y2 ||| u3) (y3 + (1 : Int32)))
         )
       )
     )
noncomputable def f_Mixture_gear (mx : SMixture) (tb : STable) : Option (Int32) :=
  (f_Mixture_gear_4 4096 mx tb (0 : Int32) (0 : Int32))
set_option maxHeartbeats 4000000 in
set_option maxRecDepth 100000 in
theorem k_Mixture_gear (l : Launch) (dC : Nat → ClassId) (dI : Nat → Nat → Nat) (ad_mx : Nat → Nat) (cA_mx : Nat → ClassId) (ad_tb : Nat → Nat) (cA_tb : Nat → ClassId) (sz : Nat) (mx : SMixture) (tb : STable) (res : Int32) (hf : f_Mixture_gear mx tb = some res) : Met l y_Mixture_gear w_Mixture_gear ({ frames := 1, cells := 0, slots := 0, locals := 23 }) (cPc (dC, dI) (uw_Mixture ad_mx cA_mx mx ++ (uw_Table ad_tb cA_tb tb)) [(cA_mx 1, .int), (cA_mx 2, .int), (cA_mx 3, .boolean), (cA_tb 1, .int), (cA_tb 2, .int), (cA_tb 3, .int), (cA_tb 4, .byte)] sz [.ref (ad_mx 0), .ref (ad_tb 0)]) (va_Qi (fun (r : Int32) (u : Unit) => r = res) (fun (u : Unit) (t : State) => va_P (dC, dI) vwCl (uw_Mixture ad_mx cA_mx mx ++ (uw_Table ad_tb cA_tb tb)) t.heap ∧ va_K (dC, dI) vwCl [(cA_mx 1, .int), (cA_mx 2, .int), (cA_mx 3, .boolean), (cA_tb 1, .int), (cA_tb 2, .int), (cA_tb 3, .int), (cA_tb 4, .byte)] t ∧ va_D (va_A (uw_Mixture ad_mx cA_mx mx ++ (uw_Table ad_tb cA_tb tb)) sz) (uw_Mixture ad_mx cA_mx mx ++ (uw_Table ad_tb cA_tb tb))) (va_A (uw_Mixture ad_mx cA_mx mx ++ (uw_Table ad_tb cA_tb tb)) sz)) 0 0 (va_A (uw_Mixture ad_mx cA_mx mx ++ (uw_Table ad_tb cA_tb tb)) sz) := by
  refine Met.ofW (cc := b_Mixture_gear) (maxL := 4) (ret := (some .int)) (by decide) rfl ?_
  intro p e s m args below meth c s₁ B hml hv
  obtain ⟨rfl, hsz, hP, hK, hD0, hN⟩ := hv
  have hx := B.exec
  have hb := B.bytes
  have hr := B.returns
  have hts := atoms_spec (ws := w_Mixture_gear) B.pre
  have hown : s.vm.findClass "HazardTables$Mixture" = some m.cls := findClass_of_methodNamed B.named
  have hlocks := B.notSynchronized
  subst hsz
  have hD := hD0.self (sz := s.heap.size)
  generalize hAe : va_A (uw_Mixture ad_mx cA_mx mx ++ (uw_Table ad_tb cA_tb tb)) s.heap.size = A at hD ⊢
  have hA : ∀ q : Nat, s.heap.size ≤ q → A q := fun q h => by rw [← hAe]; exact Or.inr h
  have hS : va_S A s.heap s.heap [] := va_S.rf
  have hP : va_P (dC, dI) vwCl (uw_Mixture ad_mx cA_mx mx ++ (uw_Table ad_tb cA_tb tb)) s.heap := hP
  have fl_26 := (hts _ (List.mem_cons_of_mem _ wd_124))
  have hin_Mixture : ∀ w ∈ u_ws "HazardTables$Mixture" F_Mixture 5, w ∈ w_Mixture_gear := fun w h => List.mem_cons_of_mem _ (hinA_Mixture w h)
  have ret : ∀ (v : Int32) (u : Unit) (H : Heap) (locs : List Loc) (ls : Array Slot) (pc : Nat), decode b_Mixture_gear pc = .ok (.ireturn, 1) → (v = res) → va_P (dC, dI) vwCl (uw_Mixture ad_mx cA_mx mx ++ (uw_Table ad_tb cA_tb tb)) H → va_D A (uw_Mixture ad_mx cA_mx mx ++ (uw_Table ad_tb cA_tb tb)) → va_S A s.heap H locs → W p l e (headSpec w_Mixture_gear ({ frames := 1, cells := 0, slots := 0, locals := 23 })).room s m ([.ref (ad_mx 0), .ref (ad_tb 0)] : List Value).toArray below meth c H locs 0 0 (MQ below (va_Qi (fun (r : Int32) (u : Unit) => r = res) (fun (u : Unit) (t : State) => va_P (dC, dI) vwCl (uw_Mixture ad_mx cA_mx mx ++ (uw_Table ad_tb cA_tb tb)) t.heap ∧ va_K (dC, dI) vwCl [(cA_mx 1, .int), (cA_mx 2, .int), (cA_mx 3, .boolean), (cA_tb 1, .int), (cA_tb 2, .int), (cA_tb 3, .int), (cA_tb 4, .byte)] t ∧ va_D A (uw_Mixture ad_mx cA_mx mx ++ (uw_Table ad_tb cA_tb tb))) A) ([.ref (ad_mx 0), .ref (ad_tb 0)] : List Value).toArray s 0 0 A) (F0 m pc ls [.int v]) := fun v u H locs ls pc hd hp hP hD hS => W.iret (v := v) hx hb hr (fun t ht hW => ⟨⟨v, u, rfl, hp, by rw [ht]; exact hP, va_K.moved hW.alike hK, hD⟩, hS.F ht⟩) hS.2.2 hd
  generalize (MQ below (va_Qi (fun (r : Int32) (u : Unit) => r = res) (fun (u : Unit) (t : State) => va_P (dC, dI) vwCl (uw_Mixture ad_mx cA_mx mx ++ (uw_Table ad_tb cA_tb tb)) t.heap ∧ va_K (dC, dI) vwCl [(cA_mx 1, .int), (cA_mx 2, .int), (cA_mx 3, .boolean), (cA_tb 1, .int), (cA_tb 2, .int), (cA_tb 3, .int), (cA_tb 4, .byte)] t ∧ va_D A (uw_Mixture ad_mx cA_mx mx ++ (uw_Table ad_tb cA_tb tb))) A) ([.ref (ad_mx 0), .ref (ad_tb 0)] : List Value).toArray s 0 0 A) = Q at ret ⊢
  have w_4 : ∀ (n : Nat)  (y2 : Int32) (y3 : Int32) (H : Heap) (locs : List Loc) (ls : Array Slot), f_Mixture_gear_4 n mx tb y2 y3 = some res → va_P (dC, dI) vwCl (uw_Mixture ad_mx cA_mx mx ++ (uw_Table ad_tb cA_tb tb)) H → va_D A (uw_Mixture ad_mx cA_mx mx ++ (uw_Table ad_tb cA_tb tb)) → va_S A s.heap H locs → lv_has ls 4 [(0, .ref (ad_mx 0)), (1, .ref (ad_tb 0)), (2, .int y2), (3, .int y3)] → W p l e (headSpec w_Mixture_gear ({ frames := 1, cells := 0, slots := 0, locals := 23 })).room s m ([.ref (ad_mx 0), .ref (ad_tb 0)] : List Value).toArray below meth c H locs 0 0 Q (F0 m 4 ls []) := by
    intro n
    induction n with
    | zero =>
      intro y2 y3 H locs ls hf hP hD hS hl
      rw [f_Mixture_gear_4] at hf; cases hf
    | succ n ih =>
      intro y2 y3 H locs ls hf hP hD hS hl
      rw [f_Mixture_gear_4] at hf
      refine lv_iload_n hx hb d_Mixture_gear_4 rfl (lv_at hl 3 rfl) ?_
      refine lv_aload_n hx hb d_Mixture_gear_5 rfl (lv_at hl 0 rfl) ?_
      refine va_get (D := (dC, dI)) (ci := 0) (v := .int mx.2.2.2.1) (C := "HazardTables$Mixture") (T := F_Mixture) (N := 5) hx hb hts hin_Mixture hown hK hP 0 rfl rfl 3 (by decide) fl_26 (fun _ h9 => h9) rfl d_Mixture_gear_6 ?_
      refine lv_icmp_ge (tgt := 31) hx hb d_Mixture_gear_9 (by decide) (fun hc1 => ?_) (fun hc1 => ?_)
      · have hf := hf_t hf hc1
        refine lv_iload_n hx hb d_Mixture_gear_31 rfl (lv_at hl 2 rfl) ?_
        exact ret y2 () H locs ls 32 d_Mixture_gear_32 (Option.some.inj hf) hP hD hS
      · have hf := hf_f hf hc1
        refine lv_iload_n hx hb d_Mixture_gear_12 rfl (lv_at hl 2 rfl) ?_
        refine lv_aload_n hx hb d_Mixture_gear_13 rfl (lv_at hl 1 rfl) ?_
        refine lv_aload_n hx hb d_Mixture_gear_14 rfl (lv_at hl 0 rfl) ?_
        refine lv_iload_n hx hb d_Mixture_gear_15 rfl (lv_at hl 3 rfl) ?_
        obtain ⟨u2, hu2, hf⟩ := Option.bind_eq_some_iff.mp hf
        refine cl_i (wc := (uw_Mixture ad_mx cA_mx mx)) (wr := (uw_Table ad_tb cA_tb tb)) (tysC := [(cA_mx 1, .int), (cA_mx 2, .int), (cA_mx 3, .boolean)]) (wu := fun (u : Unit) => (uw_Mixture ad_mx cA_mx mx)) (wn := fun (u : Unit) => (uw_Mixture ad_mx cA_mx mx ++ (uw_Table ad_tb cA_tb tb))) [0, 1, 2, 3] [4, 5, 6, 7, 8] [5, 6, 7, 8, 0, 1, 2, 3, 4] [0, 1, 2] hP hD hS hA hK rfl rfl (by decide +kernel) (by decide +kernel) (by decide +kernel) rfl (fun _ => rfl) (by decide +kernel) (fun hPc hKc hDc => (va_runV (As := [.int y3]) (rest := [.ref (ad_tb 0), .int y2]) ⟨hx, hb, hml, hown, hts⟩ (k_Mixture_row l dC dI ad_mx cA_mx H.size mx y3 u2 hu2) (cwV 1 hts (gV wd_594 wd_596 wd_21 wd_46 wd_597) rfl rfl rfl (by decide +kernel) ⟨Nat.le_of_ble_eq_true rfl, Nat.le_of_ble_eq_true rfl⟩) (cl_preV hPc hKc hDc hN (ci := 0) 0 rfl rfl) rfl rfl hl.1 rfl (lv_room (Nat.le_of_ble_eq_true rfl)) d_Mixture_gear_16 ⟨Nat.le_of_ble_eq_true rfl, Nat.le_of_ble_eq_true rfl⟩)) (fun r u H locs hw hP hD hS => ?_)
        have hw := hw.symm
        subst hw
        have hP : va_P (dC, dI) vwCl (uw_Mixture ad_mx cA_mx mx ++ (uw_Table ad_tb cA_tb tb)) H := hP
        have hD : va_D A (uw_Mixture ad_mx cA_mx mx ++ (uw_Table ad_tb cA_tb tb)) := hD
        refine lv_iconst (v := (2 : Int32)) hx hb d_Mixture_gear_19 (by decide) ?_
        obtain ⟨u3, hu3, hf⟩ := Option.bind_eq_some_iff.mp hf
        refine cl_i (wc := (uw_Table ad_tb cA_tb tb)) (wr := (uw_Mixture ad_mx cA_mx mx)) (tysC := [(cA_tb 1, .int), (cA_tb 2, .int), (cA_tb 3, .int), (cA_tb 4, .byte)]) (wu := fun (u : Unit) => (uw_Table ad_tb cA_tb tb)) (wn := fun (u : Unit) => (uw_Mixture ad_mx cA_mx mx ++ (uw_Table ad_tb cA_tb tb))) [4, 5, 6, 7, 8] [0, 1, 2, 3] [0, 1, 2, 3, 4, 5, 6, 7, 8] [3, 4, 5, 6] hP hD hS hA hK rfl rfl (by decide +kernel) (by decide +kernel) (by decide +kernel) rfl (fun _ => rfl) (by decide +kernel) (fun hPc hKc hDc => (va_runV (As := [.int u2, .int (2 : Int32)]) (rest := [.int y2]) ⟨hx, hb, hml, hown, hts⟩ (k_Table_cell l dC dI ad_tb cA_tb H.size tb u2 (2 : Int32) u3 hu3) (cwV 2 hts (gV wd_618 wd_497 wd_498 wd_48 wd_499) rfl rfl rfl (by decide +kernel) ⟨Nat.le_of_ble_eq_true rfl, Nat.le_of_ble_eq_true rfl⟩) (cl_preV hPc hKc hDc hN (ci := 4) 0 rfl rfl) rfl rfl hl.1 rfl (lv_room (Nat.le_of_ble_eq_true rfl)) d_Mixture_gear_20 ⟨Nat.le_of_ble_eq_true rfl, Nat.le_of_ble_eq_true rfl⟩)) (fun r u H locs hw hP hD hS => ?_)
        have hw := hw.symm
        subst hw
        have hP : va_P (dC, dI) vwCl (uw_Mixture ad_mx cA_mx mx ++ (uw_Table ad_tb cA_tb tb)) H := hP
        have hD : va_D A (uw_Mixture ad_mx cA_mx mx ++ (uw_Table ad_tb cA_tb tb)) := hD
        refine lv_ior hx hb d_Mixture_gear_23 ?_
        refine lv_istore_n (lv' := [(2, .int (y2 ||| u3)), (0, .ref (ad_mx 0)), (1, .ref (ad_tb 0)), (3, .int y3)]) hx hb d_Mixture_gear_24 rfl hl (by decide) rfl (fun ls hl => ?_)
        refine lv_iinc (v := y3 + (1 : Int32)) (lv' := [(3, .int (y3 + (1 : Int32))), (2, .int (y2 ||| u3)), (0, .ref (ad_mx 0)), (1, .ref (ad_tb 0))]) hx hb d_Mixture_gear_25 hl (k := 3) rfl rfl (by decide) rfl (fun ls hl => ?_)
        refine lv_goto (tgt := 4) hx hb d_Mixture_gear_28 (by decide) ?_
        exact ih (y2 ||| u3) (y3 + (1 : Int32)) H locs ls hf hP hD hS (lv_sub hl [2, 3, 1, 0] rfl)
  have hl := lv_entry ([.ref (ad_mx 0), .ref (ad_tb 0)]) (n := 4) (Nat.le_of_ble_eq_true rfl)
  rw [lg_entry_eq]
  generalize (lg_sl ([.ref (ad_mx 0), .ref (ad_tb 0)]) ++ List.replicate (4 - (lg_sl ([.ref (ad_mx 0), .ref (ad_tb 0)])).length) Slot.unset).toArray = ls at hl ⊢
  have hl : lv_has ls 4 [(0, .ref (ad_mx 0)), (1, .ref (ad_tb 0))] := hl
  have hf := hf
  rw [f_Mixture_gear] at hf
  obtain ⟨H, hH⟩ : ∃ H : Heap, H = s.heap := ⟨_, rfl⟩
  obtain ⟨locs, hlocs⟩ : ∃ L : List Loc, L = [] := ⟨_, rfl⟩
  have hP : va_P (dC, dI) vwCl (uw_Mixture ad_mx cA_mx mx ++ (uw_Table ad_tb cA_tb tb)) H := by rw [hH]; exact hP
  have hS : va_S A s.heap H locs := by rw [hH, hlocs]; exact hS
  show W p l e (headSpec w_Mixture_gear ({ frames := 1, cells := 0, slots := 0, locals := 23 })).room s m ([.ref (ad_mx 0), .ref (ad_tb 0)] : List Value).toArray below meth c s.heap [] 0 0 Q (F0 m 0 ls [])
  suffices hgo : W p l e (headSpec w_Mixture_gear ({ frames := 1, cells := 0, slots := 0, locals := 23 })).room s m ([.ref (ad_mx 0), .ref (ad_tb 0)] : List Value).toArray below meth c H locs 0 0 Q (F0 m 0 ls []) by rw [hH, hlocs] at hgo; exact hgo
  clear hH hlocs
  refine lv_iconst (v := (0 : Int32)) hx hb d_Mixture_gear_0 (by decide) ?_
  refine lv_istore_n (lv' := [(2, .int (0 : Int32)), (0, .ref (ad_mx 0)), (1, .ref (ad_tb 0))]) hx hb d_Mixture_gear_1 rfl hl (by decide) rfl (fun ls hl => ?_)
  refine lv_iconst (v := (0 : Int32)) hx hb d_Mixture_gear_2 (by decide) ?_
  refine lv_istore_n (lv' := [(3, .int (0 : Int32)), (2, .int (0 : Int32)), (0, .ref (ad_mx 0)), (1, .ref (ad_tb 0))]) hx hb d_Mixture_gear_3 rfl hl (by decide) rfl (fun ls hl => ?_)
  exact w_4 4096 (0 : Int32) (0 : Int32) H locs ls hf hP hD hS (lv_sub hl [2, 3, 1, 0] rfl)
noncomputable def f_Mixture_distance_47 (k_5 : SMixture → STable → Bool → Int32 → Int32 → Option (Int32)) (mx : SMixture) (tb : STable) (y2 : Bool) (y3 : Int32) (y4 : Int32) (z0 : Int32) (z1 : Bool) : Option (Int32) :=
  (Option.bind (f_Mixture_row mx y4) fun u6 =>
    (Option.bind (f_Table_cell tb u6 (z0 + (bI z1))) fun u7 =>
      (k_5 mx tb y2 (if y3 < u7 then u7 else y3) (y4 + (1 : Int32)))
     )
   )
noncomputable def f_Mixture_distance_37 (k_5 : SMixture → STable → Bool → Int32 → Int32 → Option (Int32)) (mx : SMixture) (tb : STable) (y2 : Bool) (y3 : Int32) (y4 : Int32) (z0 : Int32) (z1 : Int32) : Option (Int32) :=
  (if (bI y2) = 0 then
    (f_Mixture_distance_47 k_5 mx tb y2 y3 y4 (z0 + z1) true)
   else
    (f_Mixture_distance_47 k_5 mx tb y2 y3 y4 (z0 + z1) false)
   )
noncomputable def f_Mixture_distance_5  : Nat → SMixture → STable → Bool → Int32 → Int32 → Option (Int32)
  | 0, _, _, _, _, _ => none
  | n + 1, mx, tb, y2, y3, y4 =>
    (if mx.2.2.2.1 ≤ y4 then
      (some (y3))
     else
      (if (8 : Int32) ≤ y4 then
        (some (y3))
       else
        (if inb y4 8 then
          (if (mx.2.2.1 y4.toNatClampNeg) = 0 then
            (f_Mixture_distance_37 (f_Mixture_distance_5 n) mx tb y2 y3 y4 (3 : Int32) (0 : Int32))
           else
            (f_Mixture_distance_37 (f_Mixture_distance_5 n) mx tb y2 y3 y4 (3 : Int32) (2 : Int32))
           )
         else none)
       )
     )
noncomputable def f_Mixture_distance (mx : SMixture) (tb : STable) (x2 : Bool) : Option (Int32) :=
  (f_Mixture_distance_5 4096 mx tb x2 (-1 : Int32) (0 : Int32))
set_option maxHeartbeats 4000000 in
set_option maxRecDepth 100000 in
theorem k_Mixture_distance (l : Launch) (dC : Nat → ClassId) (dI : Nat → Nat → Nat) (ad_mx : Nat → Nat) (cA_mx : Nat → ClassId) (ad_tb : Nat → Nat) (cA_tb : Nat → ClassId) (sz : Nat) (mx : SMixture) (tb : STable) (x2 : Bool) (res : Int32) (hf : f_Mixture_distance mx tb x2 = some res) : Met l y_Mixture_distance w_Mixture_distance ({ frames := 1, cells := 0, slots := 0, locals := 23 }) (cPc (dC, dI) (uw_Mixture ad_mx cA_mx mx ++ (uw_Table ad_tb cA_tb tb)) [(cA_mx 1, .int), (cA_mx 2, .int), (cA_mx 3, .boolean), (cA_tb 1, .int), (cA_tb 2, .int), (cA_tb 3, .int), (cA_tb 4, .byte)] sz [.ref (ad_mx 0), .ref (ad_tb 0), .int (bI x2)]) (va_Qi (fun (r : Int32) (u : Unit) => r = res) (fun (u : Unit) (t : State) => va_P (dC, dI) vwCl (uw_Mixture ad_mx cA_mx mx ++ (uw_Table ad_tb cA_tb tb)) t.heap ∧ va_K (dC, dI) vwCl [(cA_mx 1, .int), (cA_mx 2, .int), (cA_mx 3, .boolean), (cA_tb 1, .int), (cA_tb 2, .int), (cA_tb 3, .int), (cA_tb 4, .byte)] t ∧ va_D (va_A (uw_Mixture ad_mx cA_mx mx ++ (uw_Table ad_tb cA_tb tb)) sz) (uw_Mixture ad_mx cA_mx mx ++ (uw_Table ad_tb cA_tb tb))) (va_A (uw_Mixture ad_mx cA_mx mx ++ (uw_Table ad_tb cA_tb tb)) sz)) 0 0 (va_A (uw_Mixture ad_mx cA_mx mx ++ (uw_Table ad_tb cA_tb tb)) sz) := by
  refine Met.ofW (cc := b_Mixture_distance) (maxL := 6) (ret := (some .int)) (by decide) rfl ?_
  intro p e s m args below meth c s₁ B hml hv
  obtain ⟨rfl, hsz, hP, hK, hD0, hN⟩ := hv
  have hx := B.exec
  have hb := B.bytes
  have hr := B.returns
  have hts := atoms_spec (ws := w_Mixture_distance) B.pre
  have hown : s.vm.findClass "HazardTables$Mixture" = some m.cls := findClass_of_methodNamed B.named
  have hlocks := B.notSynchronized
  subst hsz
  have hD := hD0.self (sz := s.heap.size)
  generalize hAe : va_A (uw_Mixture ad_mx cA_mx mx ++ (uw_Table ad_tb cA_tb tb)) s.heap.size = A at hD ⊢
  have hA : ∀ q : Nat, s.heap.size ≤ q → A q := fun q h => by rw [← hAe]; exact Or.inr h
  have hS : va_S A s.heap s.heap [] := va_S.rf
  have hP : va_P (dC, dI) vwCl (uw_Mixture ad_mx cA_mx mx ++ (uw_Table ad_tb cA_tb tb)) s.heap := hP
  have fl_18 := (hts _ (List.mem_cons_of_mem _ wd_123))
  have fl_26 := (hts _ (List.mem_cons_of_mem _ wd_124))
  have hin_Mixture : ∀ w ∈ u_ws "HazardTables$Mixture" F_Mixture 5, w ∈ w_Mixture_distance := fun w h => List.mem_cons_of_mem _ (hinA_Mixture w h)
  have ret : ∀ (v : Int32) (u : Unit) (H : Heap) (locs : List Loc) (ls : Array Slot) (pc : Nat), decode b_Mixture_distance pc = .ok (.ireturn, 1) → (v = res) → va_P (dC, dI) vwCl (uw_Mixture ad_mx cA_mx mx ++ (uw_Table ad_tb cA_tb tb)) H → va_D A (uw_Mixture ad_mx cA_mx mx ++ (uw_Table ad_tb cA_tb tb)) → va_S A s.heap H locs → W p l e (headSpec w_Mixture_distance ({ frames := 1, cells := 0, slots := 0, locals := 23 })).room s m ([.ref (ad_mx 0), .ref (ad_tb 0), .int (bI x2)] : List Value).toArray below meth c H locs 0 0 (MQ below (va_Qi (fun (r : Int32) (u : Unit) => r = res) (fun (u : Unit) (t : State) => va_P (dC, dI) vwCl (uw_Mixture ad_mx cA_mx mx ++ (uw_Table ad_tb cA_tb tb)) t.heap ∧ va_K (dC, dI) vwCl [(cA_mx 1, .int), (cA_mx 2, .int), (cA_mx 3, .boolean), (cA_tb 1, .int), (cA_tb 2, .int), (cA_tb 3, .int), (cA_tb 4, .byte)] t ∧ va_D A (uw_Mixture ad_mx cA_mx mx ++ (uw_Table ad_tb cA_tb tb))) A) ([.ref (ad_mx 0), .ref (ad_tb 0), .int (bI x2)] : List Value).toArray s 0 0 A) (F0 m pc ls [.int v]) := fun v u H locs ls pc hd hp hP hD hS => W.iret (v := v) hx hb hr (fun t ht hW => ⟨⟨v, u, rfl, hp, by rw [ht]; exact hP, va_K.moved hW.alike hK, hD⟩, hS.F ht⟩) hS.2.2 hd
  generalize (MQ below (va_Qi (fun (r : Int32) (u : Unit) => r = res) (fun (u : Unit) (t : State) => va_P (dC, dI) vwCl (uw_Mixture ad_mx cA_mx mx ++ (uw_Table ad_tb cA_tb tb)) t.heap ∧ va_K (dC, dI) vwCl [(cA_mx 1, .int), (cA_mx 2, .int), (cA_mx 3, .boolean), (cA_tb 1, .int), (cA_tb 2, .int), (cA_tb 3, .int), (cA_tb 4, .byte)] t ∧ va_D A (uw_Mixture ad_mx cA_mx mx ++ (uw_Table ad_tb cA_tb tb))) A) ([.ref (ad_mx 0), .ref (ad_tb 0), .int (bI x2)] : List Value).toArray s 0 0 A) = Q at ret ⊢
  have w_47 : ∀ (k_5 : SMixture → STable → Bool → Int32 → Int32 → Option (Int32)), (∀  (y2 : Bool) (y3 : Int32) (y4 : Int32) (H : Heap) (locs : List Loc) (ls : Array Slot), k_5 mx tb y2 y3 y4 = some res → va_P (dC, dI) vwCl (uw_Mixture ad_mx cA_mx mx ++ (uw_Table ad_tb cA_tb tb)) H → va_D A (uw_Mixture ad_mx cA_mx mx ++ (uw_Table ad_tb cA_tb tb)) → va_S A s.heap H locs → lv_has ls 6 [(0, .ref (ad_mx 0)), (1, .ref (ad_tb 0)), (2, .int (bI y2)), (3, .int y3), (4, .int y4)] → W p l e (headSpec w_Mixture_distance ({ frames := 1, cells := 0, slots := 0, locals := 23 })).room s m ([.ref (ad_mx 0), .ref (ad_tb 0), .int (bI x2)] : List Value).toArray below meth c H locs 0 0 Q (F0 m 5 ls [])) → ∀  (y2 : Bool) (y3 : Int32) (y4 : Int32) (z0 : Int32) (z1 : Bool) (H : Heap) (locs : List Loc) (ls : Array Slot), f_Mixture_distance_47 k_5 mx tb y2 y3 y4 z0 z1 = some res → va_P (dC, dI) vwCl (uw_Mixture ad_mx cA_mx mx ++ (uw_Table ad_tb cA_tb tb)) H → va_D A (uw_Mixture ad_mx cA_mx mx ++ (uw_Table ad_tb cA_tb tb)) → va_S A s.heap H locs → lv_has ls 6 [(0, .ref (ad_mx 0)), (1, .ref (ad_tb 0)), (2, .int (bI y2)), (3, .int y3), (4, .int y4)] → W p l e (headSpec w_Mixture_distance ({ frames := 1, cells := 0, slots := 0, locals := 23 })).room s m ([.ref (ad_mx 0), .ref (ad_tb 0), .int (bI x2)] : List Value).toArray below meth c H locs 0 0 Q (F0 m 47 ls [.int (bI z1), .int z0]) := by
    intro k_5 hk_5
    intro y2 y3 y4 z0 z1 H locs ls hf hP hD hS hl
    rw [f_Mixture_distance_47] at hf
    refine lv_iadd hx hb d_Mixture_distance_47 ?_
    refine lv_istore (lv' := [(5, .int (z0 + (bI z1))), (0, .ref (ad_mx 0)), (1, .ref (ad_tb 0)), (2, .int (bI y2)), (3, .int y3), (4, .int y4)]) hx hb d_Mixture_distance_48 hl (by decide) rfl (fun ls hl => ?_)
    refine lv_iload_n hx hb d_Mixture_distance_50 rfl (lv_at hl 4 rfl) ?_
    refine lv_aload_n hx hb d_Mixture_distance_51 rfl (lv_at hl 2 rfl) ?_
    refine lv_aload_n hx hb d_Mixture_distance_52 rfl (lv_at hl 1 rfl) ?_
    refine lv_iload hx hb d_Mixture_distance_53 (lv_at hl 5 rfl) ?_
    obtain ⟨u6, hu6, hf⟩ := Option.bind_eq_some_iff.mp hf
    refine cl_i (wc := (uw_Mixture ad_mx cA_mx mx)) (wr := (uw_Table ad_tb cA_tb tb)) (tysC := [(cA_mx 1, .int), (cA_mx 2, .int), (cA_mx 3, .boolean)]) (wu := fun (u : Unit) => (uw_Mixture ad_mx cA_mx mx)) (wn := fun (u : Unit) => (uw_Mixture ad_mx cA_mx mx ++ (uw_Table ad_tb cA_tb tb))) [0, 1, 2, 3] [4, 5, 6, 7, 8] [5, 6, 7, 8, 0, 1, 2, 3, 4] [0, 1, 2] hP hD hS hA hK rfl rfl (by decide +kernel) (by decide +kernel) (by decide +kernel) rfl (fun _ => rfl) (by decide +kernel) (fun hPc hKc hDc => (va_runV (As := [.int y4]) (rest := [.ref (ad_tb 0), .int y3]) ⟨hx, hb, hml, hown, hts⟩ (k_Mixture_row l dC dI ad_mx cA_mx H.size mx y4 u6 hu6) (cwV 1 hts (gV wd_594 wd_596 wd_21 wd_46 wd_597) rfl rfl rfl (by decide +kernel) ⟨Nat.le_of_ble_eq_true rfl, Nat.le_of_ble_eq_true rfl⟩) (cl_preV hPc hKc hDc hN (ci := 0) 0 rfl rfl) rfl rfl hl.1 rfl (lv_room (Nat.le_of_ble_eq_true rfl)) d_Mixture_distance_55 ⟨Nat.le_of_ble_eq_true rfl, Nat.le_of_ble_eq_true rfl⟩)) (fun r u H locs hw hP hD hS => ?_)
    have hw := hw.symm
    subst hw
    have hP : va_P (dC, dI) vwCl (uw_Mixture ad_mx cA_mx mx ++ (uw_Table ad_tb cA_tb tb)) H := hP
    have hD : va_D A (uw_Mixture ad_mx cA_mx mx ++ (uw_Table ad_tb cA_tb tb)) := hD
    refine lv_iload hx hb d_Mixture_distance_58 (lv_at hl 0 rfl) ?_
    obtain ⟨u7, hu7, hf⟩ := Option.bind_eq_some_iff.mp hf
    refine cl_i (wc := (uw_Table ad_tb cA_tb tb)) (wr := (uw_Mixture ad_mx cA_mx mx)) (tysC := [(cA_tb 1, .int), (cA_tb 2, .int), (cA_tb 3, .int), (cA_tb 4, .byte)]) (wu := fun (u : Unit) => (uw_Table ad_tb cA_tb tb)) (wn := fun (u : Unit) => (uw_Mixture ad_mx cA_mx mx ++ (uw_Table ad_tb cA_tb tb))) [4, 5, 6, 7, 8] [0, 1, 2, 3] [0, 1, 2, 3, 4, 5, 6, 7, 8] [3, 4, 5, 6] hP hD hS hA hK rfl rfl (by decide +kernel) (by decide +kernel) (by decide +kernel) rfl (fun _ => rfl) (by decide +kernel) (fun hPc hKc hDc => (va_runV (As := [.int u6, .int (z0 + (bI z1))]) (rest := [.int y3]) ⟨hx, hb, hml, hown, hts⟩ (k_Table_cell l dC dI ad_tb cA_tb H.size tb u6 (z0 + (bI z1)) u7 hu7) (cwV 2 hts (gV wd_618 wd_497 wd_498 wd_48 wd_499) rfl rfl rfl (by decide +kernel) ⟨Nat.le_of_ble_eq_true rfl, Nat.le_of_ble_eq_true rfl⟩) (cl_preV hPc hKc hDc hN (ci := 4) 0 rfl rfl) rfl rfl hl.1 rfl (lv_room (Nat.le_of_ble_eq_true rfl)) d_Mixture_distance_60 ⟨Nat.le_of_ble_eq_true rfl, Nat.le_of_ble_eq_true rfl⟩)) (fun r u H locs hw hP hD hS => ?_)
    have hw := hw.symm
    subst hw
    have hP : va_P (dC, dI) vwCl (uw_Mixture ad_mx cA_mx mx ++ (uw_Table ad_tb cA_tb tb)) H := hP
    have hD : va_D A (uw_Mixture ad_mx cA_mx mx ++ (uw_Table ad_tb cA_tb tb)) := hD
    refine va_mmax hx hb (hml.trans hl.1.symm) hown (hts _ (List.mem_cons_of_mem _ wd_619)) (hts _ (List.mem_cons_of_mem _ wd_620)) (hts _ (List.mem_cons_of_mem _ wd_57)) (hts _ (List.mem_cons_of_mem _ wd_621)) (Nat.le_of_ble_eq_true rfl) (Nat.le_of_ble_eq_true rfl) (Nat.le_of_ble_eq_true rfl) (Nat.le_of_ble_eq_true rfl) d_Mixture_distance_63 ?_
    refine lv_istore_n (lv' := [(3, .int (if y3 < u7 then u7 else y3)), (5, .int (z0 + (bI z1))), (0, .ref (ad_mx 0)), (1, .ref (ad_tb 0)), (2, .int (bI y2)), (4, .int y4)]) hx hb d_Mixture_distance_66 rfl hl (by decide) rfl (fun ls hl => ?_)
    refine lv_iinc (v := y4 + (1 : Int32)) (lv' := [(4, .int (y4 + (1 : Int32))), (3, .int (if y3 < u7 then u7 else y3)), (5, .int (z0 + (bI z1))), (0, .ref (ad_mx 0)), (1, .ref (ad_tb 0)), (2, .int (bI y2))]) hx hb d_Mixture_distance_67 hl (k := 5) rfl rfl (by decide) rfl (fun ls hl => ?_)
    refine lv_goto (tgt := 5) hx hb d_Mixture_distance_70 (by decide) ?_
    exact hk_5 y2 (if y3 < u7 then u7 else y3) (y4 + (1 : Int32)) H locs ls hf hP hD hS (lv_sub hl [3, 4, 5, 1, 0] rfl)
  have w_37 : ∀ (k_5 : SMixture → STable → Bool → Int32 → Int32 → Option (Int32)), (∀  (y2 : Bool) (y3 : Int32) (y4 : Int32) (H : Heap) (locs : List Loc) (ls : Array Slot), k_5 mx tb y2 y3 y4 = some res → va_P (dC, dI) vwCl (uw_Mixture ad_mx cA_mx mx ++ (uw_Table ad_tb cA_tb tb)) H → va_D A (uw_Mixture ad_mx cA_mx mx ++ (uw_Table ad_tb cA_tb tb)) → va_S A s.heap H locs → lv_has ls 6 [(0, .ref (ad_mx 0)), (1, .ref (ad_tb 0)), (2, .int (bI y2)), (3, .int y3), (4, .int y4)] → W p l e (headSpec w_Mixture_distance ({ frames := 1, cells := 0, slots := 0, locals := 23 })).room s m ([.ref (ad_mx 0), .ref (ad_tb 0), .int (bI x2)] : List Value).toArray below meth c H locs 0 0 Q (F0 m 5 ls [])) → ∀  (y2 : Bool) (y3 : Int32) (y4 : Int32) (z0 : Int32) (z1 : Int32) (H : Heap) (locs : List Loc) (ls : Array Slot), f_Mixture_distance_37 k_5 mx tb y2 y3 y4 z0 z1 = some res → va_P (dC, dI) vwCl (uw_Mixture ad_mx cA_mx mx ++ (uw_Table ad_tb cA_tb tb)) H → va_D A (uw_Mixture ad_mx cA_mx mx ++ (uw_Table ad_tb cA_tb tb)) → va_S A s.heap H locs → lv_has ls 6 [(0, .ref (ad_mx 0)), (1, .ref (ad_tb 0)), (2, .int (bI y2)), (3, .int y3), (4, .int y4)] → W p l e (headSpec w_Mixture_distance ({ frames := 1, cells := 0, slots := 0, locals := 23 })).room s m ([.ref (ad_mx 0), .ref (ad_tb 0), .int (bI x2)] : List Value).toArray below meth c H locs 0 0 Q (F0 m 37 ls [.int z1, .int z0]) := by
    intro k_5 hk_5
    intro y2 y3 y4 z0 z1 H locs ls hf hP hD hS hl
    rw [f_Mixture_distance_37] at hf
    refine lv_iadd hx hb d_Mixture_distance_37 ?_
    refine lv_iload_n hx hb d_Mixture_distance_38 rfl (lv_at hl 2 rfl) ?_
    refine lv_if_eq (tgt := 46) hx hb d_Mixture_distance_39 (by decide) (fun hc5 => ?_) (fun hc5 => ?_)
    · have hf := hf_t hf hc5
      refine lv_iconst (v := (1 : Int32)) hx hb d_Mixture_distance_46 (by decide) ?_
      exact w_47 k_5 hk_5 y2 y3 y4 (z0 + z1) true H locs ls hf hP hD hS (lv_sub hl [0, 1, 2, 3, 4] rfl)
    · have hf := hf_f hf hc5
      refine lv_iconst (v := (0 : Int32)) hx hb d_Mixture_distance_42 (by decide) ?_
      refine lv_goto (tgt := 47) hx hb d_Mixture_distance_43 (by decide) ?_
      exact w_47 k_5 hk_5 y2 y3 y4 (z0 + z1) false H locs ls hf hP hD hS (lv_sub hl [0, 1, 2, 3, 4] rfl)
  have w_5 : ∀ (n : Nat)  (y2 : Bool) (y3 : Int32) (y4 : Int32) (H : Heap) (locs : List Loc) (ls : Array Slot), f_Mixture_distance_5 n mx tb y2 y3 y4 = some res → va_P (dC, dI) vwCl (uw_Mixture ad_mx cA_mx mx ++ (uw_Table ad_tb cA_tb tb)) H → va_D A (uw_Mixture ad_mx cA_mx mx ++ (uw_Table ad_tb cA_tb tb)) → va_S A s.heap H locs → lv_has ls 6 [(0, .ref (ad_mx 0)), (1, .ref (ad_tb 0)), (2, .int (bI y2)), (3, .int y3), (4, .int y4)] → W p l e (headSpec w_Mixture_distance ({ frames := 1, cells := 0, slots := 0, locals := 23 })).room s m ([.ref (ad_mx 0), .ref (ad_tb 0), .int (bI x2)] : List Value).toArray below meth c H locs 0 0 Q (F0 m 5 ls []) := by
    intro n
    induction n with
    | zero =>
      intro y2 y3 y4 H locs ls hf hP hD hS hl
      rw [f_Mixture_distance_5] at hf; cases hf
    | succ n ih =>
      intro y2 y3 y4 H locs ls hf hP hD hS hl
      rw [f_Mixture_distance_5] at hf
      refine lv_iload hx hb d_Mixture_distance_5 (lv_at hl 4 rfl) ?_
      refine lv_aload_n hx hb d_Mixture_distance_7 rfl (lv_at hl 0 rfl) ?_
      refine va_get (D := (dC, dI)) (ci := 0) (v := .int mx.2.2.2.1) (C := "HazardTables$Mixture") (T := F_Mixture) (N := 5) hx hb hts hin_Mixture hown hK hP 0 rfl rfl 3 (by decide) fl_26 (fun _ h9 => h9) rfl d_Mixture_distance_8 ?_
      refine lv_icmp_ge (tgt := 73) hx hb d_Mixture_distance_11 (by decide) (fun hc1 => ?_) (fun hc1 => ?_)
      · have hf := hf_t hf hc1
        refine lv_iload_n hx hb d_Mixture_distance_73 rfl (lv_at hl 3 rfl) ?_
        exact ret y3 () H locs ls 74 d_Mixture_distance_74 (Option.some.inj hf) hP hD hS
      · have hf := hf_f hf hc1
        refine lv_iload hx hb d_Mixture_distance_14 (lv_at hl 4 rfl) ?_
        refine lv_bipush (v := (8 : Int32)) hx hb d_Mixture_distance_16 (by decide) ?_
        refine lv_icmp_ge (tgt := 73) hx hb d_Mixture_distance_18 (by decide) (fun hc2 => ?_) (fun hc2 => ?_)
        · have hf := hf_t hf hc2
          refine lv_iload_n hx hb d_Mixture_distance_73 rfl (lv_at hl 3 rfl) ?_
          exact ret y3 () H locs ls 74 d_Mixture_distance_74 (Option.some.inj hf) hP hD hS
        · have hf := hf_f hf hc2
          refine lv_iconst (v := (3 : Int32)) hx hb d_Mixture_distance_21 (by decide) ?_
          refine lv_aload_n hx hb d_Mixture_distance_22 rfl (lv_at hl 0 rfl) ?_
          refine va_get (D := (dC, dI)) (ci := 0) (v := .ref (ad_mx 3)) (C := "HazardTables$Mixture") (T := F_Mixture) (N := 5) hx hb hts hin_Mixture hown hK hP 0 rfl rfl 2 (by decide) fl_18 (fun _ h9 => h9) rfl d_Mixture_distance_23 ?_
          refine lv_iload hx hb d_Mixture_distance_26 (lv_at hl 4 rfl) ?_
          obtain ⟨hi3, hf⟩ := hf_g hf
          refine va_zald hx hb hK hP 3 2 rfl rfl hi3 d_Mixture_distance_28 ?_
          refine lv_if_eq (tgt := 36) hx hb d_Mixture_distance_29 (by decide) (fun hc4 => ?_) (fun hc4 => ?_)
          · have hf := hf_t hf hc4
            refine lv_iconst (v := (0 : Int32)) hx hb d_Mixture_distance_36 (by decide) ?_
            exact w_37 (f_Mixture_distance_5 n) ih y2 y3 y4 (3 : Int32) (0 : Int32) H locs ls hf hP hD hS (lv_sub hl [0, 1, 2, 3, 4] rfl)
          · have hf := hf_f hf hc4
            refine lv_iconst (v := (2 : Int32)) hx hb d_Mixture_distance_32 (by decide) ?_
            refine lv_goto (tgt := 37) hx hb d_Mixture_distance_33 (by decide) ?_
            exact w_37 (f_Mixture_distance_5 n) ih y2 y3 y4 (3 : Int32) (2 : Int32) H locs ls hf hP hD hS (lv_sub hl [0, 1, 2, 3, 4] rfl)
  have hl := lv_entry ([.ref (ad_mx 0), .ref (ad_tb 0), .int (bI x2)]) (n := 6) (Nat.le_of_ble_eq_true rfl)
  rw [lg_entry_eq]
  generalize (lg_sl ([.ref (ad_mx 0), .ref (ad_tb 0), .int (bI x2)]) ++ List.replicate (6 - (lg_sl ([.ref (ad_mx 0), .ref (ad_tb 0), .int (bI x2)])).length) Slot.unset).toArray = ls at hl ⊢
  have hl : lv_has ls 6 [(0, .ref (ad_mx 0)), (1, .ref (ad_tb 0)), (2, .int (bI x2))] := hl
  have hf := hf
  rw [f_Mixture_distance] at hf
  obtain ⟨H, hH⟩ : ∃ H : Heap, H = s.heap := ⟨_, rfl⟩
  obtain ⟨locs, hlocs⟩ : ∃ L : List Loc, L = [] := ⟨_, rfl⟩
  have hP : va_P (dC, dI) vwCl (uw_Mixture ad_mx cA_mx mx ++ (uw_Table ad_tb cA_tb tb)) H := by rw [hH]; exact hP
  have hS : va_S A s.heap H locs := by rw [hH, hlocs]; exact hS
  show W p l e (headSpec w_Mixture_distance ({ frames := 1, cells := 0, slots := 0, locals := 23 })).room s m ([.ref (ad_mx 0), .ref (ad_tb 0), .int (bI x2)] : List Value).toArray below meth c s.heap [] 0 0 Q (F0 m 0 ls [])
  suffices hgo : W p l e (headSpec w_Mixture_distance ({ frames := 1, cells := 0, slots := 0, locals := 23 })).room s m ([.ref (ad_mx 0), .ref (ad_tb 0), .int (bI x2)] : List Value).toArray below meth c H locs 0 0 Q (F0 m 0 ls []) by rw [hH, hlocs] at hgo; exact hgo
  clear hH hlocs
  refine lv_iconst (v := (-1 : Int32)) hx hb d_Mixture_distance_0 (by decide) ?_
  refine lv_istore_n (lv' := [(3, .int (-1 : Int32)), (0, .ref (ad_mx 0)), (1, .ref (ad_tb 0)), (2, .int (bI x2))]) hx hb d_Mixture_distance_1 rfl hl (by decide) rfl (fun ls hl => ?_)
  refine lv_iconst (v := (0 : Int32)) hx hb d_Mixture_distance_2 (by decide) ?_
  refine lv_istore (lv' := [(4, .int (0 : Int32)), (3, .int (-1 : Int32)), (0, .ref (ad_mx 0)), (1, .ref (ad_tb 0)), (2, .int (bI x2))]) hx hb d_Mixture_distance_3 hl (by decide) rfl (fun ls hl => ?_)
  exact w_5 4096 x2 (-1 : Int32) (0 : Int32) H locs ls hf hP hD hS (lv_sub hl [2, 3, 4, 1, 0] rfl)
noncomputable def f_Mixture_contradictingPairs_4  : Nat → SMixture → STable → Int32 → Int32 → Option (Int32)
  | 0, _, _, _, _ => none
  | n + 1, mx, tb, y2, y3 =>
    (if mx.2.2.2.1 ≤ y3 then
      (some (y2))
     else
      (Option.bind (f_Mixture_contradictedBefore mx tb y3) fun u2 =>
        (f_Mixture_contradictingPairs_4 n mx tb (y2 + u2) (y3 + (1 : Int32)))
       )
     )
noncomputable def f_Mixture_contradictingPairs (mx : SMixture) (tb : STable) : Option (Int32) :=
  (f_Mixture_contradictingPairs_4 4096 mx tb (0 : Int32) (0 : Int32))
set_option maxHeartbeats 4000000 in
set_option maxRecDepth 100000 in
theorem k_Mixture_contradictingPairs (l : Launch) (dC : Nat → ClassId) (dI : Nat → Nat → Nat) (ad_mx : Nat → Nat) (cA_mx : Nat → ClassId) (ad_tb : Nat → Nat) (cA_tb : Nat → ClassId) (sz : Nat) (mx : SMixture) (tb : STable) (res : Int32) (hf : f_Mixture_contradictingPairs mx tb = some res) : Met l y_Mixture_contradictingPairs w_Mixture_contradictingPairs ({ frames := 3, cells := 0, slots := 0, locals := 69 }) (cPc (dC, dI) (uw_Mixture ad_mx cA_mx mx ++ (uw_Table ad_tb cA_tb tb)) [(cA_mx 1, .int), (cA_mx 2, .int), (cA_mx 3, .boolean), (cA_tb 1, .int), (cA_tb 2, .int), (cA_tb 3, .int), (cA_tb 4, .byte)] sz [.ref (ad_mx 0), .ref (ad_tb 0)]) (va_Qi (fun (r : Int32) (u : Unit) => r = res) (fun (u : Unit) (t : State) => va_P (dC, dI) vwCl (uw_Mixture ad_mx cA_mx mx ++ (uw_Table ad_tb cA_tb tb)) t.heap ∧ va_K (dC, dI) vwCl [(cA_mx 1, .int), (cA_mx 2, .int), (cA_mx 3, .boolean), (cA_tb 1, .int), (cA_tb 2, .int), (cA_tb 3, .int), (cA_tb 4, .byte)] t ∧ va_D (va_A (uw_Mixture ad_mx cA_mx mx ++ (uw_Table ad_tb cA_tb tb)) sz) (uw_Mixture ad_mx cA_mx mx ++ (uw_Table ad_tb cA_tb tb))) (va_A (uw_Mixture ad_mx cA_mx mx ++ (uw_Table ad_tb cA_tb tb)) sz)) 0 0 (va_A (uw_Mixture ad_mx cA_mx mx ++ (uw_Table ad_tb cA_tb tb)) sz) := by
  refine Met.ofW (cc := b_Mixture_contradictingPairs) (maxL := 4) (ret := (some .int)) (by decide) rfl ?_
  intro p e s m args below meth c s₁ B hml hv
  obtain ⟨rfl, hsz, hP, hK, hD0, hN⟩ := hv
  have hx := B.exec
  have hb := B.bytes
  have hr := B.returns
  have hts := atoms_spec (ws := w_Mixture_contradictingPairs) B.pre
  have hown : s.vm.findClass "HazardTables$Mixture" = some m.cls := findClass_of_methodNamed B.named
  have hlocks := B.notSynchronized
  subst hsz
  have hD := hD0.self (sz := s.heap.size)
  generalize hAe : va_A (uw_Mixture ad_mx cA_mx mx ++ (uw_Table ad_tb cA_tb tb)) s.heap.size = A at hD ⊢
  have hA : ∀ q : Nat, s.heap.size ≤ q → A q := fun q h => by rw [← hAe]; exact Or.inr h
  have hS : va_S A s.heap s.heap [] := va_S.rf
  have hP : va_P (dC, dI) vwCl (uw_Mixture ad_mx cA_mx mx ++ (uw_Table ad_tb cA_tb tb)) s.heap := hP
  have fl_26 := (hts _ (List.mem_cons_of_mem _ wd_124))
  have hin_Mixture : ∀ w ∈ u_ws "HazardTables$Mixture" F_Mixture 5, w ∈ w_Mixture_contradictingPairs := fun w h => List.mem_cons_of_mem _ (hinA_Mixture w h)
  have ret : ∀ (v : Int32) (u : Unit) (H : Heap) (locs : List Loc) (ls : Array Slot) (pc : Nat), decode b_Mixture_contradictingPairs pc = .ok (.ireturn, 1) → (v = res) → va_P (dC, dI) vwCl (uw_Mixture ad_mx cA_mx mx ++ (uw_Table ad_tb cA_tb tb)) H → va_D A (uw_Mixture ad_mx cA_mx mx ++ (uw_Table ad_tb cA_tb tb)) → va_S A s.heap H locs → W p l e (headSpec w_Mixture_contradictingPairs ({ frames := 3, cells := 0, slots := 0, locals := 69 })).room s m ([.ref (ad_mx 0), .ref (ad_tb 0)] : List Value).toArray below meth c H locs 0 0 (MQ below (va_Qi (fun (r : Int32) (u : Unit) => r = res) (fun (u : Unit) (t : State) => va_P (dC, dI) vwCl (uw_Mixture ad_mx cA_mx mx ++ (uw_Table ad_tb cA_tb tb)) t.heap ∧ va_K (dC, dI) vwCl [(cA_mx 1, .int), (cA_mx 2, .int), (cA_mx 3, .boolean), (cA_tb 1, .int), (cA_tb 2, .int), (cA_tb 3, .int), (cA_tb 4, .byte)] t ∧ va_D A (uw_Mixture ad_mx cA_mx mx ++ (uw_Table ad_tb cA_tb tb))) A) ([.ref (ad_mx 0), .ref (ad_tb 0)] : List Value).toArray s 0 0 A) (F0 m pc ls [.int v]) := fun v u H locs ls pc hd hp hP hD hS => W.iret (v := v) hx hb hr (fun t ht hW => ⟨⟨v, u, rfl, hp, by rw [ht]; exact hP, va_K.moved hW.alike hK, hD⟩, hS.F ht⟩) hS.2.2 hd
  generalize (MQ below (va_Qi (fun (r : Int32) (u : Unit) => r = res) (fun (u : Unit) (t : State) => va_P (dC, dI) vwCl (uw_Mixture ad_mx cA_mx mx ++ (uw_Table ad_tb cA_tb tb)) t.heap ∧ va_K (dC, dI) vwCl [(cA_mx 1, .int), (cA_mx 2, .int), (cA_mx 3, .boolean), (cA_tb 1, .int), (cA_tb 2, .int), (cA_tb 3, .int), (cA_tb 4, .byte)] t ∧ va_D A (uw_Mixture ad_mx cA_mx mx ++ (uw_Table ad_tb cA_tb tb))) A) ([.ref (ad_mx 0), .ref (ad_tb 0)] : List Value).toArray s 0 0 A) = Q at ret ⊢
  have w_4 : ∀ (n : Nat)  (y2 : Int32) (y3 : Int32) (H : Heap) (locs : List Loc) (ls : Array Slot), f_Mixture_contradictingPairs_4 n mx tb y2 y3 = some res → va_P (dC, dI) vwCl (uw_Mixture ad_mx cA_mx mx ++ (uw_Table ad_tb cA_tb tb)) H → va_D A (uw_Mixture ad_mx cA_mx mx ++ (uw_Table ad_tb cA_tb tb)) → va_S A s.heap H locs → lv_has ls 4 [(0, .ref (ad_mx 0)), (1, .ref (ad_tb 0)), (2, .int y2), (3, .int y3)] → W p l e (headSpec w_Mixture_contradictingPairs ({ frames := 3, cells := 0, slots := 0, locals := 69 })).room s m ([.ref (ad_mx 0), .ref (ad_tb 0)] : List Value).toArray below meth c H locs 0 0 Q (F0 m 4 ls []) := by
    intro n
    induction n with
    | zero =>
      intro y2 y3 H locs ls hf hP hD hS hl
      rw [f_Mixture_contradictingPairs_4] at hf; cases hf
    | succ n ih =>
      intro y2 y3 H locs ls hf hP hD hS hl
      rw [f_Mixture_contradictingPairs_4] at hf
      refine lv_iload_n hx hb d_Mixture_contradictingPairs_4 rfl (lv_at hl 3 rfl) ?_
      refine lv_aload_n hx hb d_Mixture_contradictingPairs_5 rfl (lv_at hl 0 rfl) ?_
      refine va_get (D := (dC, dI)) (ci := 0) (v := .int mx.2.2.2.1) (C := "HazardTables$Mixture") (T := F_Mixture) (N := 5) hx hb hts hin_Mixture hown hK hP 0 rfl rfl 3 (by decide) fl_26 (fun _ h9 => h9) rfl d_Mixture_contradictingPairs_6 ?_
      refine lv_icmp_ge (tgt := 27) hx hb d_Mixture_contradictingPairs_9 (by decide) (fun hc1 => ?_) (fun hc1 => ?_)
      · have hf := hf_t hf hc1
        refine lv_iload_n hx hb d_Mixture_contradictingPairs_27 rfl (lv_at hl 2 rfl) ?_
        exact ret y2 () H locs ls 28 d_Mixture_contradictingPairs_28 (Option.some.inj hf) hP hD hS
      · have hf := hf_f hf hc1
        refine lv_iload_n hx hb d_Mixture_contradictingPairs_12 rfl (lv_at hl 2 rfl) ?_
        refine lv_aload_n hx hb d_Mixture_contradictingPairs_13 rfl (lv_at hl 0 rfl) ?_
        refine lv_iload_n hx hb d_Mixture_contradictingPairs_14 rfl (lv_at hl 3 rfl) ?_
        refine lv_aload_n hx hb d_Mixture_contradictingPairs_15 rfl (lv_at hl 1 rfl) ?_
        obtain ⟨u2, hu2, hf⟩ := Option.bind_eq_some_iff.mp hf
        refine cl_i (wc := (uw_Mixture ad_mx cA_mx mx ++ (uw_Table ad_tb cA_tb tb))) (wr := []) (tysC := [(cA_mx 1, .int), (cA_mx 2, .int), (cA_mx 3, .boolean), (cA_tb 1, .int), (cA_tb 2, .int), (cA_tb 3, .int), (cA_tb 4, .byte)]) (wu := fun (u : Unit) => (uw_Mixture ad_mx cA_mx mx ++ (uw_Table ad_tb cA_tb tb))) (wn := fun (u : Unit) => (uw_Mixture ad_mx cA_mx mx ++ (uw_Table ad_tb cA_tb tb))) [0, 1, 2, 3, 4, 5, 6, 7, 8] [] [0, 1, 2, 3, 4, 5, 6, 7, 8] [0, 1, 2, 3, 4, 5, 6] hP hD hS hA hK rfl rfl (by decide +kernel) (by decide +kernel) (by decide +kernel) rfl (fun _ => rfl) (by decide +kernel) (fun hPc hKc hDc => (va_runV (As := [.int y3, .ref (ad_tb 0)]) (rest := [.int y2]) ⟨hx, hb, hml, hown, hts⟩ (k_Mixture_contradictedBefore l dC dI ad_mx cA_mx ad_tb cA_tb H.size mx tb y3 u2 hu2) (cwV 2 hts (gV wd_590 wd_592 wd_20 wd_46 wd_593) rfl rfl rfl (by decide +kernel) ⟨Nat.le_of_ble_eq_true rfl, Nat.le_of_ble_eq_true rfl⟩) (cl_preV hPc hKc hDc hN (ci := 0) 0 rfl rfl) rfl rfl hl.1 rfl (lv_room (Nat.le_of_ble_eq_true rfl)) d_Mixture_contradictingPairs_16 ⟨Nat.le_of_ble_eq_true rfl, Nat.le_of_ble_eq_true rfl⟩)) (fun r u H locs hw hP hD hS => ?_)
        have hw := hw.symm
        subst hw
        have hP : va_P (dC, dI) vwCl (uw_Mixture ad_mx cA_mx mx ++ (uw_Table ad_tb cA_tb tb)) H := hP
        have hD : va_D A (uw_Mixture ad_mx cA_mx mx ++ (uw_Table ad_tb cA_tb tb)) := hD
        refine lv_iadd hx hb d_Mixture_contradictingPairs_19 ?_
        refine lv_istore_n (lv' := [(2, .int (y2 + u2)), (0, .ref (ad_mx 0)), (1, .ref (ad_tb 0)), (3, .int y3)]) hx hb d_Mixture_contradictingPairs_20 rfl hl (by decide) rfl (fun ls hl => ?_)
        refine lv_iinc (v := y3 + (1 : Int32)) (lv' := [(3, .int (y3 + (1 : Int32))), (2, .int (y2 + u2)), (0, .ref (ad_mx 0)), (1, .ref (ad_tb 0))]) hx hb d_Mixture_contradictingPairs_21 hl (k := 3) rfl rfl (by decide) rfl (fun ls hl => ?_)
        refine lv_goto (tgt := 4) hx hb d_Mixture_contradictingPairs_24 (by decide) ?_
        exact ih (y2 + u2) (y3 + (1 : Int32)) H locs ls hf hP hD hS (lv_sub hl [2, 3, 1, 0] rfl)
  have hl := lv_entry ([.ref (ad_mx 0), .ref (ad_tb 0)]) (n := 4) (Nat.le_of_ble_eq_true rfl)
  rw [lg_entry_eq]
  generalize (lg_sl ([.ref (ad_mx 0), .ref (ad_tb 0)]) ++ List.replicate (4 - (lg_sl ([.ref (ad_mx 0), .ref (ad_tb 0)])).length) Slot.unset).toArray = ls at hl ⊢
  have hl : lv_has ls 4 [(0, .ref (ad_mx 0)), (1, .ref (ad_tb 0))] := hl
  have hf := hf
  rw [f_Mixture_contradictingPairs] at hf
  obtain ⟨H, hH⟩ : ∃ H : Heap, H = s.heap := ⟨_, rfl⟩
  obtain ⟨locs, hlocs⟩ : ∃ L : List Loc, L = [] := ⟨_, rfl⟩
  have hP : va_P (dC, dI) vwCl (uw_Mixture ad_mx cA_mx mx ++ (uw_Table ad_tb cA_tb tb)) H := by rw [hH]; exact hP
  have hS : va_S A s.heap H locs := by rw [hH, hlocs]; exact hS
  show W p l e (headSpec w_Mixture_contradictingPairs ({ frames := 3, cells := 0, slots := 0, locals := 69 })).room s m ([.ref (ad_mx 0), .ref (ad_tb 0)] : List Value).toArray below meth c s.heap [] 0 0 Q (F0 m 0 ls [])
  suffices hgo : W p l e (headSpec w_Mixture_contradictingPairs ({ frames := 3, cells := 0, slots := 0, locals := 69 })).room s m ([.ref (ad_mx 0), .ref (ad_tb 0)] : List Value).toArray below meth c H locs 0 0 Q (F0 m 0 ls []) by rw [hH, hlocs] at hgo; exact hgo
  clear hH hlocs
  refine lv_iconst (v := (0 : Int32)) hx hb d_Mixture_contradictingPairs_0 (by decide) ?_
  refine lv_istore_n (lv' := [(2, .int (0 : Int32)), (0, .ref (ad_mx 0)), (1, .ref (ad_tb 0))]) hx hb d_Mixture_contradictingPairs_1 rfl hl (by decide) rfl (fun ls hl => ?_)
  refine lv_iconst (v := (0 : Int32)) hx hb d_Mixture_contradictingPairs_2 (by decide) ?_
  refine lv_istore_n (lv' := [(3, .int (0 : Int32)), (2, .int (0 : Int32)), (0, .ref (ad_mx 0)), (1, .ref (ad_tb 0))]) hx hb d_Mixture_contradictingPairs_3 rfl hl (by decide) rfl (fun ls hl => ?_)
  exact w_4 4096 (0 : Int32) (0 : Int32) H locs ls hf hP hD hS (lv_sub hl [2, 3, 1, 0] rfl)
noncomputable def f_Mixture_strictest_12  : Nat → SMixture → STable → Int32 → Int32 → Int32 → Int32 → Option (Int32)
  | 0, _, _, _, _, _, _ => none
  | n + 1, mx, tb, y1, y3, y4, y5 =>
    (if mx.2.2.2.1 ≤ y5 then
      (some ((-1 : Int32)))
     else
      (if (8 : Int32) ≤ y5 then
        (some ((-1 : Int32)))
       else
        (Option.bind (f_Mixture_row mx y5) fun u4 =>
          (Option.bind (f_Table_cell tb u4 (1 : Int32)) fun u5 =>
            (if u5 = y3 then
              (if y4 = y1 then
                (if inb y5 8 then
                  (some (mx.1 y5.toNatClampNeg))
                 else none)
               else
                (f_Mixture_strictest_12 n mx tb y1 y3 (y4 + (1 : Int32)) (y5 + (1 : Int32)))
               )
             else
              (f_Mixture_strictest_12 n mx tb y1 y3 y4 (y5 + (1 : Int32)))
             )
           )
         )
       )
     )
noncomputable def f_Mixture_strictest (mx : SMixture) (tb : STable) (x1 : Int32) : Option (Int32) :=
  (Option.bind (f_Mixture_strictness mx tb) fun u1 =>
    (f_Mixture_strictest_12 4096 mx tb x1 u1 (0 : Int32) (0 : Int32))
   )
set_option maxHeartbeats 4000000 in
set_option maxRecDepth 100000 in
theorem k_Mixture_strictest (l : Launch) (dC : Nat → ClassId) (dI : Nat → Nat → Nat) (ad_mx : Nat → Nat) (cA_mx : Nat → ClassId) (ad_tb : Nat → Nat) (cA_tb : Nat → ClassId) (sz : Nat) (mx : SMixture) (tb : STable) (x1 : Int32) (res : Int32) (hf : f_Mixture_strictest mx tb x1 = some res) : Met l y_Mixture_strictest w_Mixture_strictest ({ frames := 2, cells := 0, slots := 0, locals := 46 }) (cPc (dC, dI) (uw_Mixture ad_mx cA_mx mx ++ (uw_Table ad_tb cA_tb tb)) [(cA_mx 1, .int), (cA_mx 2, .int), (cA_mx 3, .boolean), (cA_tb 1, .int), (cA_tb 2, .int), (cA_tb 3, .int), (cA_tb 4, .byte)] sz [.ref (ad_mx 0), .int x1, .ref (ad_tb 0)]) (va_Qi (fun (r : Int32) (u : Unit) => r = res) (fun (u : Unit) (t : State) => va_P (dC, dI) vwCl (uw_Mixture ad_mx cA_mx mx ++ (uw_Table ad_tb cA_tb tb)) t.heap ∧ va_K (dC, dI) vwCl [(cA_mx 1, .int), (cA_mx 2, .int), (cA_mx 3, .boolean), (cA_tb 1, .int), (cA_tb 2, .int), (cA_tb 3, .int), (cA_tb 4, .byte)] t ∧ va_D (va_A (uw_Mixture ad_mx cA_mx mx ++ (uw_Table ad_tb cA_tb tb)) sz) (uw_Mixture ad_mx cA_mx mx ++ (uw_Table ad_tb cA_tb tb))) (va_A (uw_Mixture ad_mx cA_mx mx ++ (uw_Table ad_tb cA_tb tb)) sz)) 0 0 (va_A (uw_Mixture ad_mx cA_mx mx ++ (uw_Table ad_tb cA_tb tb)) sz) := by
  refine Met.ofW (cc := b_Mixture_strictest) (maxL := 6) (ret := (some .int)) (by decide) rfl ?_
  intro p e s m args below meth c s₁ B hml hv
  obtain ⟨rfl, hsz, hP, hK, hD0, hN⟩ := hv
  have hx := B.exec
  have hb := B.bytes
  have hr := B.returns
  have hts := atoms_spec (ws := w_Mixture_strictest) B.pre
  have hown : s.vm.findClass "HazardTables$Mixture" = some m.cls := findClass_of_methodNamed B.named
  have hlocks := B.notSynchronized
  subst hsz
  have hD := hD0.self (sz := s.heap.size)
  generalize hAe : va_A (uw_Mixture ad_mx cA_mx mx ++ (uw_Table ad_tb cA_tb tb)) s.heap.size = A at hD ⊢
  have hA : ∀ q : Nat, s.heap.size ≤ q → A q := fun q h => by rw [← hAe]; exact Or.inr h
  have hS : va_S A s.heap s.heap [] := va_S.rf
  have hP : va_P (dC, dI) vwCl (uw_Mixture ad_mx cA_mx mx ++ (uw_Table ad_tb cA_tb tb)) s.heap := hP
  have fl_11 := (hts _ (List.mem_cons_of_mem _ wd_121))
  have fl_26 := (hts _ (List.mem_cons_of_mem _ wd_124))
  have hin_Mixture : ∀ w ∈ u_ws "HazardTables$Mixture" F_Mixture 5, w ∈ w_Mixture_strictest := fun w h => List.mem_cons_of_mem _ (hinA_Mixture w h)
  have ret : ∀ (v : Int32) (u : Unit) (H : Heap) (locs : List Loc) (ls : Array Slot) (pc : Nat), decode b_Mixture_strictest pc = .ok (.ireturn, 1) → (v = res) → va_P (dC, dI) vwCl (uw_Mixture ad_mx cA_mx mx ++ (uw_Table ad_tb cA_tb tb)) H → va_D A (uw_Mixture ad_mx cA_mx mx ++ (uw_Table ad_tb cA_tb tb)) → va_S A s.heap H locs → W p l e (headSpec w_Mixture_strictest ({ frames := 2, cells := 0, slots := 0, locals := 46 })).room s m ([.ref (ad_mx 0), .int x1, .ref (ad_tb 0)] : List Value).toArray below meth c H locs 0 0 (MQ below (va_Qi (fun (r : Int32) (u : Unit) => r = res) (fun (u : Unit) (t : State) => va_P (dC, dI) vwCl (uw_Mixture ad_mx cA_mx mx ++ (uw_Table ad_tb cA_tb tb)) t.heap ∧ va_K (dC, dI) vwCl [(cA_mx 1, .int), (cA_mx 2, .int), (cA_mx 3, .boolean), (cA_tb 1, .int), (cA_tb 2, .int), (cA_tb 3, .int), (cA_tb 4, .byte)] t ∧ va_D A (uw_Mixture ad_mx cA_mx mx ++ (uw_Table ad_tb cA_tb tb))) A) ([.ref (ad_mx 0), .int x1, .ref (ad_tb 0)] : List Value).toArray s 0 0 A) (F0 m pc ls [.int v]) := fun v u H locs ls pc hd hp hP hD hS => W.iret (v := v) hx hb hr (fun t ht hW => ⟨⟨v, u, rfl, hp, by rw [ht]; exact hP, va_K.moved hW.alike hK, hD⟩, hS.F ht⟩) hS.2.2 hd
  generalize (MQ below (va_Qi (fun (r : Int32) (u : Unit) => r = res) (fun (u : Unit) (t : State) => va_P (dC, dI) vwCl (uw_Mixture ad_mx cA_mx mx ++ (uw_Table ad_tb cA_tb tb)) t.heap ∧ va_K (dC, dI) vwCl [(cA_mx 1, .int), (cA_mx 2, .int), (cA_mx 3, .boolean), (cA_tb 1, .int), (cA_tb 2, .int), (cA_tb 3, .int), (cA_tb 4, .byte)] t ∧ va_D A (uw_Mixture ad_mx cA_mx mx ++ (uw_Table ad_tb cA_tb tb))) A) ([.ref (ad_mx 0), .int x1, .ref (ad_tb 0)] : List Value).toArray s 0 0 A) = Q at ret ⊢
  have w_12 : ∀ (n : Nat)  (y1 : Int32) (y3 : Int32) (y4 : Int32) (y5 : Int32) (H : Heap) (locs : List Loc) (ls : Array Slot), f_Mixture_strictest_12 n mx tb y1 y3 y4 y5 = some res → va_P (dC, dI) vwCl (uw_Mixture ad_mx cA_mx mx ++ (uw_Table ad_tb cA_tb tb)) H → va_D A (uw_Mixture ad_mx cA_mx mx ++ (uw_Table ad_tb cA_tb tb)) → va_S A s.heap H locs → lv_has ls 6 [(0, .ref (ad_mx 0)), (1, .int y1), (2, .ref (ad_tb 0)), (3, .int y3), (4, .int y4), (5, .int y5)] → W p l e (headSpec w_Mixture_strictest ({ frames := 2, cells := 0, slots := 0, locals := 46 })).room s m ([.ref (ad_mx 0), .int x1, .ref (ad_tb 0)] : List Value).toArray below meth c H locs 0 0 Q (F0 m 12 ls []) := by
    intro n
    induction n with
    | zero =>
      intro y1 y3 y4 y5 H locs ls hf hP hD hS hl
      rw [f_Mixture_strictest_12] at hf; cases hf
    | succ n ih =>
      intro y1 y3 y4 y5 H locs ls hf hP hD hS hl
      rw [f_Mixture_strictest_12] at hf
      refine lv_iload hx hb d_Mixture_strictest_12 (lv_at hl 5 rfl) ?_
      refine lv_aload_n hx hb d_Mixture_strictest_14 rfl (lv_at hl 0 rfl) ?_
      refine va_get (D := (dC, dI)) (ci := 0) (v := .int mx.2.2.2.1) (C := "HazardTables$Mixture") (T := F_Mixture) (N := 5) hx hb hts hin_Mixture hown hK hP 0 rfl rfl 3 (by decide) fl_26 (fun _ h9 => h9) rfl d_Mixture_strictest_15 ?_
      refine lv_icmp_ge (tgt := 66) hx hb d_Mixture_strictest_18 (by decide) (fun hc2 => ?_) (fun hc2 => ?_)
      · have hf := hf_t hf hc2
        refine lv_iconst (v := (-1 : Int32)) hx hb d_Mixture_strictest_66 (by decide) ?_
        exact ret (-1 : Int32) () H locs ls 67 d_Mixture_strictest_67 (Option.some.inj hf) hP hD hS
      · have hf := hf_f hf hc2
        refine lv_iload hx hb d_Mixture_strictest_21 (lv_at hl 5 rfl) ?_
        refine lv_bipush (v := (8 : Int32)) hx hb d_Mixture_strictest_23 (by decide) ?_
        refine lv_icmp_ge (tgt := 66) hx hb d_Mixture_strictest_25 (by decide) (fun hc3 => ?_) (fun hc3 => ?_)
        · have hf := hf_t hf hc3
          refine lv_iconst (v := (-1 : Int32)) hx hb d_Mixture_strictest_66 (by decide) ?_
          exact ret (-1 : Int32) () H locs ls 67 d_Mixture_strictest_67 (Option.some.inj hf) hP hD hS
        · have hf := hf_f hf hc3
          refine lv_aload_n hx hb d_Mixture_strictest_28 rfl (lv_at hl 2 rfl) ?_
          refine lv_aload_n hx hb d_Mixture_strictest_29 rfl (lv_at hl 0 rfl) ?_
          refine lv_iload hx hb d_Mixture_strictest_30 (lv_at hl 5 rfl) ?_
          obtain ⟨u4, hu4, hf⟩ := Option.bind_eq_some_iff.mp hf
          refine cl_i (wc := (uw_Mixture ad_mx cA_mx mx)) (wr := (uw_Table ad_tb cA_tb tb)) (tysC := [(cA_mx 1, .int), (cA_mx 2, .int), (cA_mx 3, .boolean)]) (wu := fun (u : Unit) => (uw_Mixture ad_mx cA_mx mx)) (wn := fun (u : Unit) => (uw_Mixture ad_mx cA_mx mx ++ (uw_Table ad_tb cA_tb tb))) [0, 1, 2, 3] [4, 5, 6, 7, 8] [5, 6, 7, 8, 0, 1, 2, 3, 4] [0, 1, 2] hP hD hS hA hK rfl rfl (by decide +kernel) (by decide +kernel) (by decide +kernel) rfl (fun _ => rfl) (by decide +kernel) (fun hPc hKc hDc => (va_runV (As := [.int y5]) (rest := [.ref (ad_tb 0)]) ⟨hx, hb, hml, hown, hts⟩ (k_Mixture_row l dC dI ad_mx cA_mx H.size mx y5 u4 hu4) (cwV 1 hts (gV wd_594 wd_596 wd_21 wd_46 wd_597) rfl rfl rfl (by decide +kernel) ⟨Nat.le_of_ble_eq_true rfl, Nat.le_of_ble_eq_true rfl⟩) (cl_preV hPc hKc hDc hN (ci := 0) 0 rfl rfl) rfl rfl hl.1 rfl (lv_room (Nat.le_of_ble_eq_true rfl)) d_Mixture_strictest_32 ⟨Nat.le_of_ble_eq_true rfl, Nat.le_of_ble_eq_true rfl⟩)) (fun r u H locs hw hP hD hS => ?_)
          have hw := hw.symm
          subst hw
          have hP : va_P (dC, dI) vwCl (uw_Mixture ad_mx cA_mx mx ++ (uw_Table ad_tb cA_tb tb)) H := hP
          have hD : va_D A (uw_Mixture ad_mx cA_mx mx ++ (uw_Table ad_tb cA_tb tb)) := hD
          refine lv_iconst (v := (1 : Int32)) hx hb d_Mixture_strictest_35 (by decide) ?_
          obtain ⟨u5, hu5, hf⟩ := Option.bind_eq_some_iff.mp hf
          refine cl_i (wc := (uw_Table ad_tb cA_tb tb)) (wr := (uw_Mixture ad_mx cA_mx mx)) (tysC := [(cA_tb 1, .int), (cA_tb 2, .int), (cA_tb 3, .int), (cA_tb 4, .byte)]) (wu := fun (u : Unit) => (uw_Table ad_tb cA_tb tb)) (wn := fun (u : Unit) => (uw_Mixture ad_mx cA_mx mx ++ (uw_Table ad_tb cA_tb tb))) [4, 5, 6, 7, 8] [0, 1, 2, 3] [0, 1, 2, 3, 4, 5, 6, 7, 8] [3, 4, 5, 6] hP hD hS hA hK rfl rfl (by decide +kernel) (by decide +kernel) (by decide +kernel) rfl (fun _ => rfl) (by decide +kernel) (fun hPc hKc hDc => (va_runV (As := [.int u4, .int (1 : Int32)]) (rest := []) ⟨hx, hb, hml, hown, hts⟩ (k_Table_cell l dC dI ad_tb cA_tb H.size tb u4 (1 : Int32) u5 hu5) (cwV 2 hts (gV wd_618 wd_497 wd_498 wd_48 wd_499) rfl rfl rfl (by decide +kernel) ⟨Nat.le_of_ble_eq_true rfl, Nat.le_of_ble_eq_true rfl⟩) (cl_preV hPc hKc hDc hN (ci := 4) 0 rfl rfl) rfl rfl hl.1 rfl (lv_room (Nat.le_of_ble_eq_true rfl)) d_Mixture_strictest_36 ⟨Nat.le_of_ble_eq_true rfl, Nat.le_of_ble_eq_true rfl⟩)) (fun r u H locs hw hP hD hS => ?_)
          have hw := hw.symm
          subst hw
          have hP : va_P (dC, dI) vwCl (uw_Mixture ad_mx cA_mx mx ++ (uw_Table ad_tb cA_tb tb)) H := hP
          have hD : va_D A (uw_Mixture ad_mx cA_mx mx ++ (uw_Table ad_tb cA_tb tb)) := hD
          refine lv_iload_n hx hb d_Mixture_strictest_39 rfl (lv_at hl 3 rfl) ?_
          refine lv_icmp_ne (tgt := 60) hx hb d_Mixture_strictest_40 (by decide) (fun hc6 => ?_) (fun hc6 => ?_)
          · have hf := hf_f hf hc6
            refine lv_iinc (v := y5 + (1 : Int32)) (lv' := [(5, .int (y5 + (1 : Int32))), (0, .ref (ad_mx 0)), (1, .int y1), (2, .ref (ad_tb 0)), (3, .int y3), (4, .int y4)]) hx hb d_Mixture_strictest_60 hl (k := 5) rfl rfl (by decide) rfl (fun ls hl => ?_)
            refine lv_goto (tgt := 12) hx hb d_Mixture_strictest_63 (by decide) ?_
            exact ih y1 y3 y4 (y5 + (1 : Int32)) H locs ls hf hP hD hS (lv_sub hl [1, 2, 3, 4, 5, 0] rfl)
          · have hf := hf_t hf hc6
            refine lv_iload hx hb d_Mixture_strictest_43 (lv_at hl 4 rfl) ?_
            refine lv_iload_n hx hb d_Mixture_strictest_45 rfl (lv_at hl 1 rfl) ?_
            refine lv_icmp_ne (tgt := 57) hx hb d_Mixture_strictest_46 (by decide) (fun hc7 => ?_) (fun hc7 => ?_)
            · have hf := hf_f hf hc7
              refine lv_iinc (v := y4 + (1 : Int32)) (lv' := [(4, .int (y4 + (1 : Int32))), (0, .ref (ad_mx 0)), (1, .int y1), (2, .ref (ad_tb 0)), (3, .int y3), (5, .int y5)]) hx hb d_Mixture_strictest_57 hl (k := 4) rfl rfl (by decide) rfl (fun ls hl => ?_)
              refine lv_iinc (v := y5 + (1 : Int32)) (lv' := [(5, .int (y5 + (1 : Int32))), (4, .int (y4 + (1 : Int32))), (0, .ref (ad_mx 0)), (1, .int y1), (2, .ref (ad_tb 0)), (3, .int y3)]) hx hb d_Mixture_strictest_60 hl (k := 5) rfl rfl (by decide) rfl (fun ls hl => ?_)
              refine lv_goto (tgt := 12) hx hb d_Mixture_strictest_63 (by decide) ?_
              exact ih y1 y3 (y4 + (1 : Int32)) (y5 + (1 : Int32)) H locs ls hf hP hD hS (lv_sub hl [2, 3, 4, 5, 1, 0] rfl)
            · have hf := hf_t hf hc7
              refine lv_aload_n hx hb d_Mixture_strictest_49 rfl (lv_at hl 0 rfl) ?_
              refine va_get (D := (dC, dI)) (ci := 0) (v := .ref (ad_mx 1)) (C := "HazardTables$Mixture") (T := F_Mixture) (N := 5) hx hb hts hin_Mixture hown hK hP 0 rfl rfl 0 (by decide) fl_11 (fun _ h9 => h9) rfl d_Mixture_strictest_50 ?_
              refine lv_iload hx hb d_Mixture_strictest_53 (lv_at hl 5 rfl) ?_
              obtain ⟨hi8, hf⟩ := hf_g hf
              refine va_iald hx hb hK hP 1 0 rfl rfl hi8 d_Mixture_strictest_55 ?_
              exact ret (mx.1 y5.toNatClampNeg) () H locs ls 56 d_Mixture_strictest_56 (Option.some.inj hf) hP hD hS
  have hl := lv_entry ([.ref (ad_mx 0), .int x1, .ref (ad_tb 0)]) (n := 6) (Nat.le_of_ble_eq_true rfl)
  rw [lg_entry_eq]
  generalize (lg_sl ([.ref (ad_mx 0), .int x1, .ref (ad_tb 0)]) ++ List.replicate (6 - (lg_sl ([.ref (ad_mx 0), .int x1, .ref (ad_tb 0)])).length) Slot.unset).toArray = ls at hl ⊢
  have hl : lv_has ls 6 [(0, .ref (ad_mx 0)), (1, .int x1), (2, .ref (ad_tb 0))] := hl
  have hf := hf
  rw [f_Mixture_strictest] at hf
  obtain ⟨H, hH⟩ : ∃ H : Heap, H = s.heap := ⟨_, rfl⟩
  obtain ⟨locs, hlocs⟩ : ∃ L : List Loc, L = [] := ⟨_, rfl⟩
  have hP : va_P (dC, dI) vwCl (uw_Mixture ad_mx cA_mx mx ++ (uw_Table ad_tb cA_tb tb)) H := by rw [hH]; exact hP
  have hS : va_S A s.heap H locs := by rw [hH, hlocs]; exact hS
  show W p l e (headSpec w_Mixture_strictest ({ frames := 2, cells := 0, slots := 0, locals := 46 })).room s m ([.ref (ad_mx 0), .int x1, .ref (ad_tb 0)] : List Value).toArray below meth c s.heap [] 0 0 Q (F0 m 0 ls [])
  suffices hgo : W p l e (headSpec w_Mixture_strictest ({ frames := 2, cells := 0, slots := 0, locals := 46 })).room s m ([.ref (ad_mx 0), .int x1, .ref (ad_tb 0)] : List Value).toArray below meth c H locs 0 0 Q (F0 m 0 ls []) by rw [hH, hlocs] at hgo; exact hgo
  clear hH hlocs
  refine lv_aload_n hx hb d_Mixture_strictest_0 rfl (lv_at hl 0 rfl) ?_
  refine lv_aload_n hx hb d_Mixture_strictest_1 rfl (lv_at hl 2 rfl) ?_
  obtain ⟨u1, hu1, hf⟩ := Option.bind_eq_some_iff.mp hf
  refine cl_i (wc := (uw_Mixture ad_mx cA_mx mx ++ (uw_Table ad_tb cA_tb tb))) (wr := []) (tysC := [(cA_mx 1, .int), (cA_mx 2, .int), (cA_mx 3, .boolean), (cA_tb 1, .int), (cA_tb 2, .int), (cA_tb 3, .int), (cA_tb 4, .byte)]) (wu := fun (u : Unit) => (uw_Mixture ad_mx cA_mx mx ++ (uw_Table ad_tb cA_tb tb))) (wn := fun (u : Unit) => (uw_Mixture ad_mx cA_mx mx ++ (uw_Table ad_tb cA_tb tb))) [0, 1, 2, 3, 4, 5, 6, 7, 8] [] [0, 1, 2, 3, 4, 5, 6, 7, 8] [0, 1, 2, 3, 4, 5, 6] hP hD hS hA hK rfl rfl (by decide +kernel) (by decide +kernel) (by decide +kernel) rfl (fun _ => rfl) (by decide +kernel) (fun hPc hKc hDc => (va_runV (As := [.ref (ad_tb 0)]) (rest := []) ⟨hx, hb, hml, hown, hts⟩ (k_Mixture_strictness l dC dI ad_mx cA_mx ad_tb cA_tb H.size mx tb u1 hu1) (cwV 1 hts (gV wd_645 wd_615 wd_616 wd_46 wd_617) rfl rfl rfl (by decide +kernel) ⟨Nat.le_of_ble_eq_true rfl, Nat.le_of_ble_eq_true rfl⟩) (cl_preV hPc hKc hDc hN (ci := 0) 0 rfl rfl) rfl rfl hl.1 rfl (lv_room (Nat.le_of_ble_eq_true rfl)) d_Mixture_strictest_2 ⟨Nat.le_of_ble_eq_true rfl, Nat.le_of_ble_eq_true rfl⟩)) (fun r u H locs hw hP hD hS => ?_)
  have hw := hw.symm
  subst hw
  have hP : va_P (dC, dI) vwCl (uw_Mixture ad_mx cA_mx mx ++ (uw_Table ad_tb cA_tb tb)) H := hP
  have hD : va_D A (uw_Mixture ad_mx cA_mx mx ++ (uw_Table ad_tb cA_tb tb)) := hD
  refine lv_istore_n (lv' := [(3, .int u1), (0, .ref (ad_mx 0)), (1, .int x1), (2, .ref (ad_tb 0))]) hx hb d_Mixture_strictest_5 rfl hl (by decide) rfl (fun ls hl => ?_)
  refine lv_iconst (v := (0 : Int32)) hx hb d_Mixture_strictest_6 (by decide) ?_
  refine lv_istore (lv' := [(4, .int (0 : Int32)), (3, .int u1), (0, .ref (ad_mx 0)), (1, .int x1), (2, .ref (ad_tb 0))]) hx hb d_Mixture_strictest_7 hl (by decide) rfl (fun ls hl => ?_)
  refine lv_iconst (v := (0 : Int32)) hx hb d_Mixture_strictest_9 (by decide) ?_
  refine lv_istore (lv' := [(5, .int (0 : Int32)), (4, .int (0 : Int32)), (3, .int u1), (0, .ref (ad_mx 0)), (1, .int x1), (2, .ref (ad_tb 0))]) hx hb d_Mixture_strictest_10 hl (by decide) rfl (fun ls hl => ?_)
  exact w_12 4096 x1 u1 (0 : Int32) (0 : Int32) H locs ls hf hP hD hS (lv_sub hl [3, 4, 5, 2, 1, 0] rfl)
noncomputable def f_Mixture_goOn_15  (mx : SMixture) (tb : STable) (z0 : Int32) : Option (Int32 × SMixture) :=
  (if z0 ≤ mx.2.2.2.2 then
    (some ((1 : Int32), (mx.1, mx.2.1, mx.2.2.1, mx.2.2.2.1, (1 : Int32))))
   else
    (some (mx.2.2.2.2 + (1 : Int32), (mx.1, mx.2.1, mx.2.2.1, mx.2.2.2.1, mx.2.2.2.2 + (1 : Int32))))
   )
noncomputable def f_Mixture_goOn (mx : SMixture) (tb : STable) : Option (Int32 × SMixture) :=
  (Option.bind (f_Mixture_strictness mx tb) fun u1 =>
    (if (5 : Int32) ≤ u1 then
      (f_Mixture_goOn_15 mx tb (6 : Int32))
     else
      (f_Mixture_goOn_15 mx tb (3 : Int32))
     )
   )
set_option maxHeartbeats 4000000 in
set_option maxRecDepth 100000 in
theorem k_Mixture_goOn (l : Launch) (dC : Nat → ClassId) (dI : Nat → Nat → Nat) (ad_mx : Nat → Nat) (cA_mx : Nat → ClassId) (ad_tb : Nat → Nat) (cA_tb : Nat → ClassId) (sz : Nat) (mx : SMixture) (tb : STable) (res : Int32 × SMixture) (hf : f_Mixture_goOn mx tb = some res) : Met l y_Mixture_goOn w_Mixture_goOn ({ frames := 2, cells := 0, slots := 0, locals := 46 }) (cPc (dC, dI) (uw_Mixture ad_mx cA_mx mx ++ (uw_Table ad_tb cA_tb tb)) [(cA_mx 1, .int), (cA_mx 2, .int), (cA_mx 3, .boolean), (cA_tb 1, .int), (cA_tb 2, .int), (cA_tb 3, .int), (cA_tb 4, .byte)] sz [.ref (ad_mx 0), .ref (ad_tb 0)]) (va_Qi (fun (r : Int32) (u : SMixture) => r = res.1 ∧ u = res.2) (fun (u : SMixture) (t : State) => va_P (dC, dI) vwCl (uw_Mixture ad_mx cA_mx u ++ (uw_Table ad_tb cA_tb tb)) t.heap ∧ va_K (dC, dI) vwCl [(cA_mx 1, .int), (cA_mx 2, .int), (cA_mx 3, .boolean), (cA_tb 1, .int), (cA_tb 2, .int), (cA_tb 3, .int), (cA_tb 4, .byte)] t ∧ va_D (va_A (uw_Mixture ad_mx cA_mx mx ++ (uw_Table ad_tb cA_tb tb)) sz) (uw_Mixture ad_mx cA_mx u ++ (uw_Table ad_tb cA_tb tb))) (va_A (uw_Mixture ad_mx cA_mx mx ++ (uw_Table ad_tb cA_tb tb)) sz)) 0 0 (va_A (uw_Mixture ad_mx cA_mx mx ++ (uw_Table ad_tb cA_tb tb)) sz) := by
  refine Met.ofW (cc := b_Mixture_goOn) (maxL := 3) (ret := (some .int)) (by decide) rfl ?_
  intro p e s m args below meth c s₁ B hml hv
  obtain ⟨rfl, hsz, hP, hK, hD0, hN⟩ := hv
  have hx := B.exec
  have hb := B.bytes
  have hr := B.returns
  have hts := atoms_spec (ws := w_Mixture_goOn) B.pre
  have hown : s.vm.findClass "HazardTables$Mixture" = some m.cls := findClass_of_methodNamed B.named
  have hlocks := B.notSynchronized
  subst hsz
  have hD := hD0.self (sz := s.heap.size)
  generalize hAe : va_A (uw_Mixture ad_mx cA_mx mx ++ (uw_Table ad_tb cA_tb tb)) s.heap.size = A at hD ⊢
  have hA : ∀ q : Nat, s.heap.size ≤ q → A q := fun q h => by rw [← hAe]; exact Or.inr h
  have hS : va_S A s.heap s.heap [] := va_S.rf
  have hP : va_P (dC, dI) vwCl (uw_Mixture ad_mx cA_mx mx ++ (uw_Table ad_tb cA_tb tb)) s.heap := hP
  have fl_22 := (hts _ (List.mem_cons_of_mem _ wd_126))
  have hin_Mixture : ∀ w ∈ u_ws "HazardTables$Mixture" F_Mixture 5, w ∈ w_Mixture_goOn := fun w h => List.mem_cons_of_mem _ (hinA_Mixture w h)
  have ret : ∀ (v : Int32) (u : SMixture) (H : Heap) (locs : List Loc) (ls : Array Slot) (pc : Nat), decode b_Mixture_goOn pc = .ok (.ireturn, 1) → (v = res.1 ∧ u = res.2) → va_P (dC, dI) vwCl (uw_Mixture ad_mx cA_mx u ++ (uw_Table ad_tb cA_tb tb)) H → va_D A (uw_Mixture ad_mx cA_mx u ++ (uw_Table ad_tb cA_tb tb)) → va_S A s.heap H locs → W p l e (headSpec w_Mixture_goOn ({ frames := 2, cells := 0, slots := 0, locals := 46 })).room s m ([.ref (ad_mx 0), .ref (ad_tb 0)] : List Value).toArray below meth c H locs 0 0 (MQ below (va_Qi (fun (r : Int32) (u : SMixture) => r = res.1 ∧ u = res.2) (fun (u : SMixture) (t : State) => va_P (dC, dI) vwCl (uw_Mixture ad_mx cA_mx u ++ (uw_Table ad_tb cA_tb tb)) t.heap ∧ va_K (dC, dI) vwCl [(cA_mx 1, .int), (cA_mx 2, .int), (cA_mx 3, .boolean), (cA_tb 1, .int), (cA_tb 2, .int), (cA_tb 3, .int), (cA_tb 4, .byte)] t ∧ va_D A (uw_Mixture ad_mx cA_mx u ++ (uw_Table ad_tb cA_tb tb))) A) ([.ref (ad_mx 0), .ref (ad_tb 0)] : List Value).toArray s 0 0 A) (F0 m pc ls [.int v]) := fun v u H locs ls pc hd hp hP hD hS => W.iret (v := v) hx hb hr (fun t ht hW => ⟨⟨v, u, rfl, hp, by rw [ht]; exact hP, va_K.moved hW.alike hK, hD⟩, hS.F ht⟩) hS.2.2 hd
  generalize (MQ below (va_Qi (fun (r : Int32) (u : SMixture) => r = res.1 ∧ u = res.2) (fun (u : SMixture) (t : State) => va_P (dC, dI) vwCl (uw_Mixture ad_mx cA_mx u ++ (uw_Table ad_tb cA_tb tb)) t.heap ∧ va_K (dC, dI) vwCl [(cA_mx 1, .int), (cA_mx 2, .int), (cA_mx 3, .boolean), (cA_tb 1, .int), (cA_tb 2, .int), (cA_tb 3, .int), (cA_tb 4, .byte)] t ∧ va_D A (uw_Mixture ad_mx cA_mx u ++ (uw_Table ad_tb cA_tb tb))) A) ([.ref (ad_mx 0), .ref (ad_tb 0)] : List Value).toArray s 0 0 A) = Q at ret ⊢
  have w_15 : ∀ (mx : SMixture) (z0 : Int32) (H : Heap) (locs : List Loc) (ls : Array Slot), f_Mixture_goOn_15 mx tb z0 = some res → va_P (dC, dI) vwCl (uw_Mixture ad_mx cA_mx mx ++ (uw_Table ad_tb cA_tb tb)) H → va_D A (uw_Mixture ad_mx cA_mx mx ++ (uw_Table ad_tb cA_tb tb)) → va_S A s.heap H locs → lv_has ls 3 [(0, .ref (ad_mx 0))] → W p l e (headSpec w_Mixture_goOn ({ frames := 2, cells := 0, slots := 0, locals := 46 })).room s m ([.ref (ad_mx 0), .ref (ad_tb 0)] : List Value).toArray below meth c H locs 0 0 Q (F0 m 15 ls [.int z0]) := by
    intro mx z0 H locs ls hf hP hD hS hl
    rw [f_Mixture_goOn_15] at hf
    refine lv_istore_n (lv' := [(2, .int z0), (0, .ref (ad_mx 0))]) hx hb d_Mixture_goOn_15 rfl hl (by decide) rfl (fun ls hl => ?_)
    refine lv_aload_n hx hb d_Mixture_goOn_16 rfl (lv_at hl 1 rfl) ?_
    refine lv_aload_n hx hb d_Mixture_goOn_17 rfl (lv_at hl 1 rfl) ?_
    refine va_get (D := (dC, dI)) (ci := 0) (v := .int mx.2.2.2.2) (C := "HazardTables$Mixture") (T := F_Mixture) (N := 5) hx hb hts hin_Mixture hown hK hP 0 rfl rfl 4 (by decide) fl_22 (fun _ h9 => h9) rfl d_Mixture_goOn_18 ?_
    refine lv_iload_n hx hb d_Mixture_goOn_21 rfl (lv_at hl 0 rfl) ?_
    refine lv_icmp_ge (tgt := 34) hx hb d_Mixture_goOn_22 (by decide) (fun hc3 => ?_) (fun hc3 => ?_)
    · have hf := hf_t hf hc3
      refine lv_iconst (v := (1 : Int32)) hx hb d_Mixture_goOn_34 (by decide) ?_
      refine va_put (D := (dC, dI)) (ci := 0) (v := .int (1 : Int32)) (ty := .int) (C := "HazardTables$Mixture") (T := F_Mixture) (N := 5) hx hb hts hin_Mixture t_Mixture t_Mixture_ok n_Mixture hown hK hP hD hS 0 rfl rfl 4 (by decide) fl_22 (fun _ h9 => h9) rfl (by decide +kernel) rfl rfl (Nat.le_of_ble_eq_true rfl) d_Mixture_goOn_35 (fun H locs hP hD hS => ?_)
      have hP : va_P (dC, dI) vwCl (uw_Mixture ad_mx cA_mx (mx.1, mx.2.1, mx.2.2.1, mx.2.2.2.1, (1 : Int32)) ++ (uw_Table ad_tb cA_tb tb)) H := hP
      have hD : va_D A (uw_Mixture ad_mx cA_mx (mx.1, mx.2.1, mx.2.2.1, mx.2.2.2.1, (1 : Int32)) ++ (uw_Table ad_tb cA_tb tb)) := hD
      refine lv_aload_n hx hb d_Mixture_goOn_38 rfl (lv_at hl 1 rfl) ?_
      refine va_get (D := (dC, dI)) (ci := 0) (v := .int (1 : Int32)) (C := "HazardTables$Mixture") (T := F_Mixture) (N := 5) hx hb hts hin_Mixture hown hK hP 0 rfl rfl 4 (by decide) fl_22 (fun _ h9 => h9) rfl d_Mixture_goOn_39 ?_
      exact ret (1 : Int32) (mx.1, mx.2.1, mx.2.2.1, mx.2.2.2.1, (1 : Int32)) H locs ls 42 d_Mixture_goOn_42 (hf_e hf) hP hD hS
    · have hf := hf_f hf hc3
      refine lv_aload_n hx hb d_Mixture_goOn_25 rfl (lv_at hl 1 rfl) ?_
      refine va_get (D := (dC, dI)) (ci := 0) (v := .int mx.2.2.2.2) (C := "HazardTables$Mixture") (T := F_Mixture) (N := 5) hx hb hts hin_Mixture hown hK hP 0 rfl rfl 4 (by decide) fl_22 (fun _ h9 => h9) rfl d_Mixture_goOn_26 ?_
      refine lv_iconst (v := (1 : Int32)) hx hb d_Mixture_goOn_29 (by decide) ?_
      refine lv_iadd hx hb d_Mixture_goOn_30 ?_
      refine lv_goto (tgt := 35) hx hb d_Mixture_goOn_31 (by decide) ?_
      refine va_put (D := (dC, dI)) (ci := 0) (v := .int (mx.2.2.2.2 + (1 : Int32))) (ty := .int) (C := "HazardTables$Mixture") (T := F_Mixture) (N := 5) hx hb hts hin_Mixture t_Mixture t_Mixture_ok n_Mixture hown hK hP hD hS 0 rfl rfl 4 (by decide) fl_22 (fun _ h9 => h9) rfl (by decide +kernel) rfl rfl (Nat.le_of_ble_eq_true rfl) d_Mixture_goOn_35 (fun H locs hP hD hS => ?_)
      have hP : va_P (dC, dI) vwCl (uw_Mixture ad_mx cA_mx (mx.1, mx.2.1, mx.2.2.1, mx.2.2.2.1, mx.2.2.2.2 + (1 : Int32)) ++ (uw_Table ad_tb cA_tb tb)) H := hP
      have hD : va_D A (uw_Mixture ad_mx cA_mx (mx.1, mx.2.1, mx.2.2.1, mx.2.2.2.1, mx.2.2.2.2 + (1 : Int32)) ++ (uw_Table ad_tb cA_tb tb)) := hD
      refine lv_aload_n hx hb d_Mixture_goOn_38 rfl (lv_at hl 1 rfl) ?_
      refine va_get (D := (dC, dI)) (ci := 0) (v := .int (mx.2.2.2.2 + (1 : Int32))) (C := "HazardTables$Mixture") (T := F_Mixture) (N := 5) hx hb hts hin_Mixture hown hK hP 0 rfl rfl 4 (by decide) fl_22 (fun _ h9 => h9) rfl d_Mixture_goOn_39 ?_
      exact ret (mx.2.2.2.2 + (1 : Int32)) (mx.1, mx.2.1, mx.2.2.1, mx.2.2.2.1, mx.2.2.2.2 + (1 : Int32)) H locs ls 42 d_Mixture_goOn_42 (hf_e hf) hP hD hS
  have hl := lv_entry ([.ref (ad_mx 0), .ref (ad_tb 0)]) (n := 3) (Nat.le_of_ble_eq_true rfl)
  rw [lg_entry_eq]
  generalize (lg_sl ([.ref (ad_mx 0), .ref (ad_tb 0)]) ++ List.replicate (3 - (lg_sl ([.ref (ad_mx 0), .ref (ad_tb 0)])).length) Slot.unset).toArray = ls at hl ⊢
  have hl : lv_has ls 3 [(0, .ref (ad_mx 0)), (1, .ref (ad_tb 0))] := hl
  have hf := hf
  rw [f_Mixture_goOn] at hf
  obtain ⟨H, hH⟩ : ∃ H : Heap, H = s.heap := ⟨_, rfl⟩
  obtain ⟨locs, hlocs⟩ : ∃ L : List Loc, L = [] := ⟨_, rfl⟩
  have hP : va_P (dC, dI) vwCl (uw_Mixture ad_mx cA_mx mx ++ (uw_Table ad_tb cA_tb tb)) H := by rw [hH]; exact hP
  have hS : va_S A s.heap H locs := by rw [hH, hlocs]; exact hS
  show W p l e (headSpec w_Mixture_goOn ({ frames := 2, cells := 0, slots := 0, locals := 46 })).room s m ([.ref (ad_mx 0), .ref (ad_tb 0)] : List Value).toArray below meth c s.heap [] 0 0 Q (F0 m 0 ls [])
  suffices hgo : W p l e (headSpec w_Mixture_goOn ({ frames := 2, cells := 0, slots := 0, locals := 46 })).room s m ([.ref (ad_mx 0), .ref (ad_tb 0)] : List Value).toArray below meth c H locs 0 0 Q (F0 m 0 ls []) by rw [hH, hlocs] at hgo; exact hgo
  clear hH hlocs
  refine lv_aload_n hx hb d_Mixture_goOn_0 rfl (lv_at hl 0 rfl) ?_
  refine lv_aload_n hx hb d_Mixture_goOn_1 rfl (lv_at hl 1 rfl) ?_
  obtain ⟨u1, hu1, hf⟩ := Option.bind_eq_some_iff.mp hf
  refine cl_i (wc := (uw_Mixture ad_mx cA_mx mx ++ (uw_Table ad_tb cA_tb tb))) (wr := []) (tysC := [(cA_mx 1, .int), (cA_mx 2, .int), (cA_mx 3, .boolean), (cA_tb 1, .int), (cA_tb 2, .int), (cA_tb 3, .int), (cA_tb 4, .byte)]) (wu := fun (u : Unit) => (uw_Mixture ad_mx cA_mx mx ++ (uw_Table ad_tb cA_tb tb))) (wn := fun (u : Unit) => (uw_Mixture ad_mx cA_mx mx ++ (uw_Table ad_tb cA_tb tb))) [0, 1, 2, 3, 4, 5, 6, 7, 8] [] [0, 1, 2, 3, 4, 5, 6, 7, 8] [0, 1, 2, 3, 4, 5, 6] hP hD hS hA hK rfl rfl (by decide +kernel) (by decide +kernel) (by decide +kernel) rfl (fun _ => rfl) (by decide +kernel) (fun hPc hKc hDc => (va_runV (As := [.ref (ad_tb 0)]) (rest := []) ⟨hx, hb, hml, hown, hts⟩ (k_Mixture_strictness l dC dI ad_mx cA_mx ad_tb cA_tb H.size mx tb u1 hu1) (cwV 1 hts (gV wd_645 wd_615 wd_616 wd_46 wd_617) rfl rfl rfl (by decide +kernel) ⟨Nat.le_of_ble_eq_true rfl, Nat.le_of_ble_eq_true rfl⟩) (cl_preV hPc hKc hDc hN (ci := 0) 0 rfl rfl) rfl rfl hl.1 rfl (lv_room (Nat.le_of_ble_eq_true rfl)) d_Mixture_goOn_2 ⟨Nat.le_of_ble_eq_true rfl, Nat.le_of_ble_eq_true rfl⟩)) (fun r u H locs hw hP hD hS => ?_)
  have hw := hw.symm
  subst hw
  have hP : va_P (dC, dI) vwCl (uw_Mixture ad_mx cA_mx mx ++ (uw_Table ad_tb cA_tb tb)) H := hP
  have hD : va_D A (uw_Mixture ad_mx cA_mx mx ++ (uw_Table ad_tb cA_tb tb)) := hD
  refine lv_iconst (v := (5 : Int32)) hx hb d_Mixture_goOn_5 (by decide) ?_
  refine lv_icmp_ge (tgt := 13) hx hb d_Mixture_goOn_6 (by decide) (fun hc2 => ?_) (fun hc2 => ?_)
  · have hf := hf_t hf hc2
    refine lv_bipush (v := (6 : Int32)) hx hb d_Mixture_goOn_13 (by decide) ?_
    exact w_15 mx (6 : Int32) H locs ls hf hP hD hS (lv_sub hl [0] rfl)
  · have hf := hf_f hf hc2
    refine lv_iconst (v := (3 : Int32)) hx hb d_Mixture_goOn_9 (by decide) ?_
    refine lv_goto (tgt := 15) hx hb d_Mixture_goOn_10 (by decide) ?_
    exact w_15 mx (3 : Int32) H locs ls hf hP hD hS (lv_sub hl [0] rfl)
