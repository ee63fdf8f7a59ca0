abbrev b_Reader_init : ByteArray := prog_3_method_1_code
abbrev y_Reader_init : MethodName := { cls := "HazardTables$Reader", name := "<init>", desc := "()V" }
abbrev w_Reader_init : List Cond := .code y_Reader_init b_Reader_init 1 none :: WA
theorem d_Reader_init_0 : decode b_Reader_init 0 = .ok (.aload_n 0, 1) := by decide +kernel
theorem d_Reader_init_1 : decode b_Reader_init 1 = .ok (.invokespecial 3, 3) := by decide +kernel
theorem d_Reader_init_4 : decode b_Reader_init 4 = .ok (.aload_n 0, 1) := by decide +kernel
theorem d_Reader_init_5 : decode b_Reader_init 5 = .ok (.sipush 400, 3) := by decide +kernel
theorem d_Reader_init_8 : decode b_Reader_init 8 = .ok (.newarray .int, 2) := by decide +kernel
theorem d_Reader_init_10 : decode b_Reader_init 10 = .ok (.putfield 11, 3) := by decide +kernel
theorem d_Reader_init_13 : decode b_Reader_init 13 = .ok (.aload_n 0, 1) := by decide +kernel
theorem d_Reader_init_14 : decode b_Reader_init 14 = .ok (.iconst (-1), 1) := by decide +kernel
theorem d_Reader_init_15 : decode b_Reader_init 15 = .ok (.putfield 15, 3) := by decide +kernel
theorem d_Reader_init_18 : decode b_Reader_init 18 = .ok (.return_, 1) := by decide +kernel
abbrev b_Reader_hasRoomFor : ByteArray := prog_3_method_2_code
abbrev y_Reader_hasRoomFor : MethodName := { cls := "HazardTables$Reader", name := "hasRoomFor", desc := "(I)Z" }
abbrev w_Reader_hasRoomFor : List Cond := .code y_Reader_hasRoomFor b_Reader_hasRoomFor 2 (some .boolean) :: WA
theorem d_Reader_hasRoomFor_0 : decode b_Reader_hasRoomFor 0 = .ok (.iload_n 1, 1) := by decide +kernel
theorem d_Reader_hasRoomFor_1 : decode b_Reader_hasRoomFor 1 = .ok (.sipush 400, 3) := by decide +kernel
theorem d_Reader_hasRoomFor_4 : decode b_Reader_hasRoomFor 4 = .ok (.aload_n 0, 1) := by decide +kernel
theorem d_Reader_hasRoomFor_5 : decode b_Reader_hasRoomFor 5 = .ok (.getfield 19, 3) := by decide +kernel
theorem d_Reader_hasRoomFor_8 : decode b_Reader_hasRoomFor 8 = .ok (.isub, 1) := by decide +kernel
theorem d_Reader_hasRoomFor_9 : decode b_Reader_hasRoomFor 9 = .ok (.if_icmp .gt 7, 3) := by decide +kernel
theorem d_Reader_hasRoomFor_12 : decode b_Reader_hasRoomFor 12 = .ok (.iconst 1, 1) := by decide +kernel
theorem d_Reader_hasRoomFor_13 : decode b_Reader_hasRoomFor 13 = .ok (.goto 4, 3) := by decide +kernel
theorem d_Reader_hasRoomFor_16 : decode b_Reader_hasRoomFor 16 = .ok (.iconst 0, 1) := by decide +kernel
theorem d_Reader_hasRoomFor_17 : decode b_Reader_hasRoomFor 17 = .ok (.ireturn, 1) := by decide +kernel
abbrev b_Reader_append : ByteArray := prog_3_method_3_code
abbrev y_Reader_append : MethodName := { cls := "HazardTables$Reader", name := "append", desc := "(JI)I" }
abbrev w_Reader_append : List Cond := .code y_Reader_append b_Reader_append 5 (some .int) :: WA
theorem d_Reader_append_0 : decode b_Reader_append 0 = .ok (.iload_n 3, 1) := by decide +kernel
theorem d_Reader_append_1 : decode b_Reader_append 1 = .ok (.iconst 1, 1) := by decide +kernel
theorem d_Reader_append_2 : decode b_Reader_append 2 = .ok (.isub, 1) := by decide +kernel
theorem d_Reader_append_3 : decode b_Reader_append 3 = .ok (.istore 4, 2) := by decide +kernel
theorem d_Reader_append_5 : decode b_Reader_append 5 = .ok (.iload 4, 2) := by decide +kernel
theorem d_Reader_append_7 : decode b_Reader_append 7 = .ok (.ifCond .lt 44, 3) := by decide +kernel
theorem d_Reader_append_10 : decode b_Reader_append 10 = .ok (.aload_n 0, 1) := by decide +kernel
theorem d_Reader_append_11 : decode b_Reader_append 11 = .ok (.getfield 19, 3) := by decide +kernel
theorem d_Reader_append_14 : decode b_Reader_append 14 = .ok (.sipush 400, 3) := by decide +kernel
theorem d_Reader_append_17 : decode b_Reader_append 17 = .ok (.if_icmp .ge 34, 3) := by decide +kernel
theorem d_Reader_append_20 : decode b_Reader_append 20 = .ok (.aload_n 0, 1) := by decide +kernel
theorem d_Reader_append_21 : decode b_Reader_append 21 = .ok (.getfield 11, 3) := by decide +kernel
theorem d_Reader_append_24 : decode b_Reader_append 24 = .ok (.aload_n 0, 1) := by decide +kernel
theorem d_Reader_append_25 : decode b_Reader_append 25 = .ok (.getfield 19, 3) := by decide +kernel
theorem d_Reader_append_28 : decode b_Reader_append 28 = .ok (.lload_n 1, 1) := by decide +kernel
theorem d_Reader_append_29 : decode b_Reader_append 29 = .ok (.iload 4, 2) := by decide +kernel
theorem d_Reader_append_31 : decode b_Reader_append 31 = .ok (.invokestatic 22, 3) := by decide +kernel
theorem d_Reader_append_34 : decode b_Reader_append 34 = .ok (.iastore, 1) := by decide +kernel
theorem d_Reader_append_35 : decode b_Reader_append 35 = .ok (.aload_n 0, 1) := by decide +kernel
theorem d_Reader_append_36 : decode b_Reader_append 36 = .ok (.dup, 1) := by decide +kernel
theorem d_Reader_append_37 : decode b_Reader_append 37 = .ok (.getfield 19, 3) := by decide +kernel
theorem d_Reader_append_40 : decode b_Reader_append 40 = .ok (.iconst 1, 1) := by decide +kernel
theorem d_Reader_append_41 : decode b_Reader_append 41 = .ok (.iadd, 1) := by decide +kernel
theorem d_Reader_append_42 : decode b_Reader_append 42 = .ok (.putfield 19, 3) := by decide +kernel
theorem d_Reader_append_45 : decode b_Reader_append 45 = .ok (.iinc 4 (-1), 3) := by decide +kernel
theorem d_Reader_append_48 : decode b_Reader_append 48 = .ok (.goto (-43), 3) := by decide +kernel
theorem d_Reader_append_51 : decode b_Reader_append 51 = .ok (.aload_n 0, 1) := by decide +kernel
theorem d_Reader_append_52 : decode b_Reader_append 52 = .ok (.getfield 19, 3) := by decide +kernel
theorem d_Reader_append_55 : decode b_Reader_append 55 = .ok (.ireturn, 1) := by decide +kernel
abbrev b_Reader_fill : ByteArray := prog_3_method_4_code
abbrev y_Reader_fill : MethodName := { cls := "HazardTables$Reader", name := "fill", desc := "(LHazardTables$Table;)Z" }
abbrev w_Reader_fill : List Cond := .code y_Reader_fill b_Reader_fill 4 (some .boolean) :: WA
theorem d_Reader_fill_0 : decode b_Reader_fill 0 = .ok (.aload_n 1, 1) := by decide +kernel
theorem d_Reader_fill_1 : decode b_Reader_fill 1 = .ok (.invokevirtual 26, 3) := by decide +kernel
theorem d_Reader_fill_4 : decode b_Reader_fill 4 = .ok (.aload_n 0, 1) := by decide +kernel
theorem d_Reader_fill_5 : decode b_Reader_fill 5 = .ok (.iconst 0, 1) := by decide +kernel
theorem d_Reader_fill_6 : decode b_Reader_fill 6 = .ok (.putfield 31, 3) := by decide +kernel
theorem d_Reader_fill_9 : decode b_Reader_fill 9 = .ok (.aload_n 0, 1) := by decide +kernel
theorem d_Reader_fill_10 : decode b_Reader_fill 10 = .ok (.iconst (-1), 1) := by decide +kernel
theorem d_Reader_fill_11 : decode b_Reader_fill 11 = .ok (.putfield 15, 3) := by decide +kernel
theorem d_Reader_fill_14 : decode b_Reader_fill 14 = .ok (.iconst 1, 1) := by decide +kernel
theorem d_Reader_fill_15 : decode b_Reader_fill 15 = .ok (.istore_n 2, 1) := by decide +kernel
theorem d_Reader_fill_16 : decode b_Reader_fill 16 = .ok (.iconst 0, 1) := by decide +kernel
theorem d_Reader_fill_17 : decode b_Reader_fill 17 = .ok (.istore_n 3, 1) := by decide +kernel
theorem d_Reader_fill_18 : decode b_Reader_fill 18 = .ok (.iload_n 3, 1) := by decide +kernel
theorem d_Reader_fill_19 : decode b_Reader_fill 19 = .ok (.sipush 400, 3) := by decide +kernel
theorem d_Reader_fill_22 : decode b_Reader_fill 22 = .ok (.if_icmp .ge 27, 3) := by decide +kernel
theorem d_Reader_fill_25 : decode b_Reader_fill 25 = .ok (.iload_n 2, 1) := by decide +kernel
theorem d_Reader_fill_26 : decode b_Reader_fill 26 = .ok (.ifCond .eq 23, 3) := by decide +kernel
theorem d_Reader_fill_29 : decode b_Reader_fill 29 = .ok (.aload_n 0, 1) := by decide +kernel
theorem d_Reader_fill_30 : decode b_Reader_fill 30 = .ok (.invokevirtual 34, 3) := by decide +kernel
theorem d_Reader_fill_33 : decode b_Reader_fill 33 = .ok (.iconst (-1), 1) := by decide +kernel
theorem d_Reader_fill_34 : decode b_Reader_fill 34 = .ok (.if_icmp .eq 15, 3) := by decide +kernel
theorem d_Reader_fill_37 : decode b_Reader_fill 37 = .ok (.aload_n 0, 1) := by decide +kernel
theorem d_Reader_fill_38 : decode b_Reader_fill 38 = .ok (.aload_n 1, 1) := by decide +kernel
theorem d_Reader_fill_39 : decode b_Reader_fill 39 = .ok (.invokevirtual 38, 3) := by decide +kernel
theorem d_Reader_fill_42 : decode b_Reader_fill 42 = .ok (.istore_n 2, 1) := by decide +kernel
theorem d_Reader_fill_43 : decode b_Reader_fill 43 = .ok (.iinc 3 1, 3) := by decide +kernel
theorem d_Reader_fill_46 : decode b_Reader_fill 46 = .ok (.goto (-28), 3) := by decide +kernel
theorem d_Reader_fill_49 : decode b_Reader_fill 49 = .ok (.aload_n 0, 1) := by decide +kernel
theorem d_Reader_fill_50 : decode b_Reader_fill 50 = .ok (.iconst 0, 1) := by decide +kernel
theorem d_Reader_fill_51 : decode b_Reader_fill 51 = .ok (.putfield 19, 3) := by decide +kernel
theorem d_Reader_fill_54 : decode b_Reader_fill 54 = .ok (.iload_n 2, 1) := by decide +kernel
theorem d_Reader_fill_55 : decode b_Reader_fill 55 = .ok (.ireturn, 1) := by decide +kernel
abbrev b_Reader_readRow : ByteArray := prog_3_method_5_code
abbrev y_Reader_readRow : MethodName := { cls := "HazardTables$Reader", name := "readRow", desc := "(LHazardTables$Table;)Z" }
abbrev w_Reader_readRow : List Cond := .code y_Reader_readRow b_Reader_readRow 2 (some .boolean) :: WA
theorem d_Reader_readRow_0 : decode b_Reader_readRow 0 = .ok (.aload_n 0, 1) := by decide +kernel
theorem d_Reader_readRow_1 : decode b_Reader_readRow 1 = .ok (.invokevirtual 34, 3) := by decide +kernel
theorem d_Reader_readRow_4 : decode b_Reader_readRow 4 = .ok (.lookupswitch 131 #[(109, 28), (122, 99)], 28) := by decide +kernel
theorem d_Reader_readRow_32 : decode b_Reader_readRow 32 = .ok (.aload_n 0, 1) := by decide +kernel
theorem d_Reader_readRow_33 : decode b_Reader_readRow 33 = .ok (.aload_n 1, 1) := by decide +kernel
theorem d_Reader_readRow_34 : decode b_Reader_readRow 34 = .ok (.invokevirtual 42, 3) := by decide +kernel
theorem d_Reader_readRow_37 : decode b_Reader_readRow 37 = .ok (.ifCond .eq 64, 3) := by decide +kernel
theorem d_Reader_readRow_40 : decode b_Reader_readRow 40 = .ok (.aload_n 0, 1) := by decide +kernel
theorem d_Reader_readRow_41 : decode b_Reader_readRow 41 = .ok (.aload_n 1, 1) := by decide +kernel
theorem d_Reader_readRow_42 : decode b_Reader_readRow 42 = .ok (.aload_n 1, 1) := by decide +kernel
theorem d_Reader_readRow_43 : decode b_Reader_readRow 43 = .ok (.getfield 45, 3) := by decide +kernel
theorem d_Reader_readRow_46 : decode b_Reader_readRow 46 = .ok (.invokevirtual 48, 3) := by decide +kernel
theorem d_Reader_readRow_49 : decode b_Reader_readRow 49 = .ok (.ifCond .eq 52, 3) := by decide +kernel
theorem d_Reader_readRow_52 : decode b_Reader_readRow 52 = .ok (.aload_n 0, 1) := by decide +kernel
theorem d_Reader_readRow_53 : decode b_Reader_readRow 53 = .ok (.aload_n 1, 1) := by decide +kernel
theorem d_Reader_readRow_54 : decode b_Reader_readRow 54 = .ok (.aload_n 1, 1) := by decide +kernel
theorem d_Reader_readRow_55 : decode b_Reader_readRow 55 = .ok (.getfield 45, 3) := by decide +kernel
theorem d_Reader_readRow_58 : decode b_Reader_readRow 58 = .ok (.invokevirtual 52, 3) := by decide +kernel
theorem d_Reader_readRow_61 : decode b_Reader_readRow 61 = .ok (.ifCond .eq 40, 3) := by decide +kernel
theorem d_Reader_readRow_64 : decode b_Reader_readRow 64 = .ok (.aload_n 0, 1) := by decide +kernel
theorem d_Reader_readRow_65 : decode b_Reader_readRow 65 = .ok (.aload_n 1, 1) := by decide +kernel
theorem d_Reader_readRow_66 : decode b_Reader_readRow 66 = .ok (.aload_n 1, 1) := by decide +kernel
theorem d_Reader_readRow_67 : decode b_Reader_readRow 67 = .ok (.getfield 45, 3) := by decide +kernel
theorem d_Reader_readRow_70 : decode b_Reader_readRow 70 = .ok (.invokevirtual 55, 3) := by decide +kernel
theorem d_Reader_readRow_73 : decode b_Reader_readRow 73 = .ok (.ifCond .eq 28, 3) := by decide +kernel
theorem d_Reader_readRow_76 : decode b_Reader_readRow 76 = .ok (.aload_n 0, 1) := by decide +kernel
theorem d_Reader_readRow_77 : decode b_Reader_readRow 77 = .ok (.aload_n 1, 1) := by decide +kernel
theorem d_Reader_readRow_78 : decode b_Reader_readRow 78 = .ok (.aload_n 1, 1) := by decide +kernel
theorem d_Reader_readRow_79 : decode b_Reader_readRow 79 = .ok (.getfield 45, 3) := by decide +kernel
theorem d_Reader_readRow_82 : decode b_Reader_readRow 82 = .ok (.invokevirtual 58, 3) := by decide +kernel
theorem d_Reader_readRow_85 : decode b_Reader_readRow 85 = .ok (.ifCond .eq 16, 3) := by decide +kernel
theorem d_Reader_readRow_88 : decode b_Reader_readRow 88 = .ok (.aload_n 0, 1) := by decide +kernel
theorem d_Reader_readRow_89 : decode b_Reader_readRow 89 = .ok (.bipush 59, 2) := by decide +kernel
theorem d_Reader_readRow_91 : decode b_Reader_readRow 91 = .ok (.invokevirtual 61, 3) := by decide +kernel
theorem d_Reader_readRow_94 : decode b_Reader_readRow 94 = .ok (.ifCond .eq 7, 3) := by decide +kernel
theorem d_Reader_readRow_97 : decode b_Reader_readRow 97 = .ok (.iconst 1, 1) := by decide +kernel
theorem d_Reader_readRow_98 : decode b_Reader_readRow 98 = .ok (.goto 4, 3) := by decide +kernel
theorem d_Reader_readRow_101 : decode b_Reader_readRow 101 = .ok (.iconst 0, 1) := by decide +kernel
theorem d_Reader_readRow_102 : decode b_Reader_readRow 102 = .ok (.ireturn, 1) := by decide +kernel
theorem d_Reader_readRow_103 : decode b_Reader_readRow 103 = .ok (.aload_n 0, 1) := by decide +kernel
theorem d_Reader_readRow_104 : decode b_Reader_readRow 104 = .ok (.aload_n 1, 1) := by decide +kernel
theorem d_Reader_readRow_105 : decode b_Reader_readRow 105 = .ok (.invokevirtual 65, 3) := by decide +kernel
theorem d_Reader_readRow_108 : decode b_Reader_readRow 108 = .ok (.ifCond .eq 25, 3) := by decide +kernel
theorem d_Reader_readRow_111 : decode b_Reader_readRow 111 = .ok (.aload_n 0, 1) := by decide +kernel
theorem d_Reader_readRow_112 : decode b_Reader_readRow 112 = .ok (.aload_n 1, 1) := by decide +kernel
theorem d_Reader_readRow_113 : decode b_Reader_readRow 113 = .ok (.iconst 0, 1) := by decide +kernel
theorem d_Reader_readRow_114 : decode b_Reader_readRow 114 = .ok (.invokevirtual 55, 3) := by decide +kernel
theorem d_Reader_readRow_117 : decode b_Reader_readRow 117 = .ok (.ifCond .eq 16, 3) := by decide +kernel
theorem d_Reader_readRow_120 : decode b_Reader_readRow 120 = .ok (.aload_n 0, 1) := by decide +kernel
theorem d_Reader_readRow_121 : decode b_Reader_readRow 121 = .ok (.bipush 59, 2) := by decide +kernel
theorem d_Reader_readRow_123 : decode b_Reader_readRow 123 = .ok (.invokevirtual 61, 3) := by decide +kernel
theorem d_Reader_readRow_126 : decode b_Reader_readRow 126 = .ok (.ifCond .eq 7, 3) := by decide +kernel
theorem d_Reader_readRow_129 : decode b_Reader_readRow 129 = .ok (.iconst 1, 1) := by decide +kernel
theorem d_Reader_readRow_130 : decode b_Reader_readRow 130 = .ok (.goto 4, 3) := by decide +kernel
theorem d_Reader_readRow_133 : decode b_Reader_readRow 133 = .ok (.iconst 0, 1) := by decide +kernel
theorem d_Reader_readRow_134 : decode b_Reader_readRow 134 = .ok (.ireturn, 1) := by decide +kernel
theorem d_Reader_readRow_135 : decode b_Reader_readRow 135 = .ok (.aload_n 0, 1) := by decide +kernel
theorem d_Reader_readRow_136 : decode b_Reader_readRow 136 = .ok (.aload_n 0, 1) := by decide +kernel
theorem d_Reader_readRow_137 : decode b_Reader_readRow 137 = .ok (.getfield 31, 3) := by decide +kernel
theorem d_Reader_readRow_140 : decode b_Reader_readRow 140 = .ok (.invokevirtual 68, 3) := by decide +kernel
theorem d_Reader_readRow_143 : decode b_Reader_readRow 143 = .ok (.ireturn, 1) := by decide +kernel
abbrev b_Reader_startGeneralRow : ByteArray := prog_3_method_6_code
abbrev y_Reader_startGeneralRow : MethodName := { cls := "HazardTables$Reader", name := "startGeneralRow", desc := "(LHazardTables$Table;)Z" }
abbrev w_Reader_startGeneralRow : List Cond := .code y_Reader_startGeneralRow b_Reader_startGeneralRow 2 (some .boolean) :: WA
theorem d_Reader_startGeneralRow_0 : decode b_Reader_startGeneralRow 0 = .ok (.aload_n 1, 1) := by decide +kernel
theorem d_Reader_startGeneralRow_1 : decode b_Reader_startGeneralRow 1 = .ok (.getfield 71, 3) := by decide +kernel
theorem d_Reader_startGeneralRow_4 : decode b_Reader_startGeneralRow 4 = .ok (.ifCond .eq 12, 3) := by decide +kernel
theorem d_Reader_startGeneralRow_7 : decode b_Reader_startGeneralRow 7 = .ok (.aload_n 0, 1) := by decide +kernel
theorem d_Reader_startGeneralRow_8 : decode b_Reader_startGeneralRow 8 = .ok (.aload_n 0, 1) := by decide +kernel
theorem d_Reader_startGeneralRow_9 : decode b_Reader_startGeneralRow 9 = .ok (.getfield 31, 3) := by decide +kernel
theorem d_Reader_startGeneralRow_12 : decode b_Reader_startGeneralRow 12 = .ok (.invokevirtual 68, 3) := by decide +kernel
theorem d_Reader_startGeneralRow_15 : decode b_Reader_startGeneralRow 15 = .ok (.ireturn, 1) := by decide +kernel
theorem d_Reader_startGeneralRow_16 : decode b_Reader_startGeneralRow 16 = .ok (.aload_n 0, 1) := by decide +kernel
theorem d_Reader_startGeneralRow_17 : decode b_Reader_startGeneralRow 17 = .ok (.dup, 1) := by decide +kernel
theorem d_Reader_startGeneralRow_18 : decode b_Reader_startGeneralRow 18 = .ok (.getfield 31, 3) := by decide +kernel
theorem d_Reader_startGeneralRow_21 : decode b_Reader_startGeneralRow 21 = .ok (.iconst 1, 1) := by decide +kernel
theorem d_Reader_startGeneralRow_22 : decode b_Reader_startGeneralRow 22 = .ok (.iadd, 1) := by decide +kernel
theorem d_Reader_startGeneralRow_23 : decode b_Reader_startGeneralRow 23 = .ok (.putfield 31, 3) := by decide +kernel
theorem d_Reader_startGeneralRow_26 : decode b_Reader_startGeneralRow 26 = .ok (.aload_n 1, 1) := by decide +kernel
theorem d_Reader_startGeneralRow_27 : decode b_Reader_startGeneralRow 27 = .ok (.iconst 1, 1) := by decide +kernel
theorem d_Reader_startGeneralRow_28 : decode b_Reader_startGeneralRow 28 = .ok (.putfield 71, 3) := by decide +kernel
theorem d_Reader_startGeneralRow_31 : decode b_Reader_startGeneralRow 31 = .ok (.iconst 1, 1) := by decide +kernel
theorem d_Reader_startGeneralRow_32 : decode b_Reader_startGeneralRow 32 = .ok (.ireturn, 1) := by decide +kernel
abbrev b_Reader_startMaterial : ByteArray := prog_3_method_7_code
abbrev y_Reader_startMaterial : MethodName := { cls := "HazardTables$Reader", name := "startMaterial", desc := "(LHazardTables$Table;)Z" }
abbrev w_Reader_startMaterial : List Cond := .code y_Reader_startMaterial b_Reader_startMaterial 2 (some .boolean) :: WA
theorem d_Reader_startMaterial_0 : decode b_Reader_startMaterial 0 = .ok (.aload_n 1, 1) := by decide +kernel
theorem d_Reader_startMaterial_1 : decode b_Reader_startMaterial 1 = .ok (.invokevirtual 75, 3) := by decide +kernel
theorem d_Reader_startMaterial_4 : decode b_Reader_startMaterial 4 = .ok (.ifCond .eq 12, 3) := by decide +kernel
theorem d_Reader_startMaterial_7 : decode b_Reader_startMaterial 7 = .ok (.aload_n 0, 1) := by decide +kernel
theorem d_Reader_startMaterial_8 : decode b_Reader_startMaterial 8 = .ok (.aload_n 0, 1) := by decide +kernel
theorem d_Reader_startMaterial_9 : decode b_Reader_startMaterial 9 = .ok (.getfield 31, 3) := by decide +kernel
theorem d_Reader_startMaterial_12 : decode b_Reader_startMaterial 12 = .ok (.invokevirtual 68, 3) := by decide +kernel
theorem d_Reader_startMaterial_15 : decode b_Reader_startMaterial 15 = .ok (.ireturn, 1) := by decide +kernel
theorem d_Reader_startMaterial_16 : decode b_Reader_startMaterial 16 = .ok (.aload_n 0, 1) := by decide +kernel
theorem d_Reader_startMaterial_17 : decode b_Reader_startMaterial 17 = .ok (.dup, 1) := by decide +kernel
theorem d_Reader_startMaterial_18 : decode b_Reader_startMaterial 18 = .ok (.getfield 31, 3) := by decide +kernel
theorem d_Reader_startMaterial_21 : decode b_Reader_startMaterial 21 = .ok (.iconst 1, 1) := by decide +kernel
theorem d_Reader_startMaterial_22 : decode b_Reader_startMaterial 22 = .ok (.iadd, 1) := by decide +kernel
theorem d_Reader_startMaterial_23 : decode b_Reader_startMaterial 23 = .ok (.putfield 31, 3) := by decide +kernel
theorem d_Reader_startMaterial_26 : decode b_Reader_startMaterial 26 = .ok (.aload_n 0, 1) := by decide +kernel
theorem d_Reader_startMaterial_27 : decode b_Reader_startMaterial 27 = .ok (.iconst 1, 1) := by decide +kernel
theorem d_Reader_startMaterial_28 : decode b_Reader_startMaterial 28 = .ok (.sipush 9999, 3) := by decide +kernel
theorem d_Reader_startMaterial_31 : decode b_Reader_startMaterial 31 = .ok (.invokevirtual 79, 3) := by decide +kernel
theorem d_Reader_startMaterial_34 : decode b_Reader_startMaterial 34 = .ok (.ifCond .ne 5, 3) := by decide +kernel
theorem d_Reader_startMaterial_37 : decode b_Reader_startMaterial 37 = .ok (.iconst 0, 1) := by decide +kernel
theorem d_Reader_startMaterial_38 : decode b_Reader_startMaterial 38 = .ok (.ireturn, 1) := by decide +kernel
theorem d_Reader_startMaterial_39 : decode b_Reader_startMaterial 39 = .ok (.aload_n 1, 1) := by decide +kernel
theorem d_Reader_startMaterial_40 : decode b_Reader_startMaterial 40 = .ok (.aload_n 0, 1) := by decide +kernel
theorem d_Reader_startMaterial_41 : decode b_Reader_startMaterial 41 = .ok (.getfield 83, 3) := by decide +kernel
theorem d_Reader_startMaterial_44 : decode b_Reader_startMaterial 44 = .ok (.invokevirtual 86, 3) := by decide +kernel
theorem d_Reader_startMaterial_47 : decode b_Reader_startMaterial 47 = .ok (.iconst (-1), 1) := by decide +kernel
theorem d_Reader_startMaterial_48 : decode b_Reader_startMaterial 48 = .ok (.if_icmp .eq 14, 3) := by decide +kernel
theorem d_Reader_startMaterial_51 : decode b_Reader_startMaterial 51 = .ok (.aload_n 0, 1) := by decide +kernel
theorem d_Reader_startMaterial_52 : decode b_Reader_startMaterial 52 = .ok (.aload_n 0, 1) := by decide +kernel
theorem d_Reader_startMaterial_53 : decode b_Reader_startMaterial 53 = .ok (.getfield 31, 3) := by decide +kernel
theorem d_Reader_startMaterial_56 : decode b_Reader_startMaterial 56 = .ok (.iconst 1, 1) := by decide +kernel
theorem d_Reader_startMaterial_57 : decode b_Reader_startMaterial 57 = .ok (.isub, 1) := by decide +kernel
theorem d_Reader_startMaterial_58 : decode b_Reader_startMaterial 58 = .ok (.invokevirtual 68, 3) := by decide +kernel
theorem d_Reader_startMaterial_61 : decode b_Reader_startMaterial 61 = .ok (.ireturn, 1) := by decide +kernel
theorem d_Reader_startMaterial_62 : decode b_Reader_startMaterial 62 = .ok (.aload_n 1, 1) := by decide +kernel
theorem d_Reader_startMaterial_63 : decode b_Reader_startMaterial 63 = .ok (.aload_n 0, 1) := by decide +kernel
theorem d_Reader_startMaterial_64 : decode b_Reader_startMaterial 64 = .ok (.getfield 83, 3) := by decide +kernel
theorem d_Reader_startMaterial_67 : decode b_Reader_startMaterial 67 = .ok (.invokevirtual 90, 3) := by decide +kernel
theorem d_Reader_startMaterial_70 : decode b_Reader_startMaterial 70 = .ok (.iconst 1, 1) := by decide +kernel
theorem d_Reader_startMaterial_71 : decode b_Reader_startMaterial 71 = .ok (.ireturn, 1) := by decide +kernel
abbrev b_Reader_readNames : ByteArray := prog_3_method_8_code
abbrev y_Reader_readNames : MethodName := { cls := "HazardTables$Reader", name := "readNames", desc := "(LHazardTables$Table;I)Z" }
abbrev w_Reader_readNames : List Cond := .code y_Reader_readNames b_Reader_readNames 4 (some .boolean) :: WA
theorem d_Reader_readNames_0 : decode b_Reader_readNames 0 = .ok (.iconst 0, 1) := by decide +kernel
theorem d_Reader_readNames_1 : decode b_Reader_readNames 1 = .ok (.istore_n 3, 1) := by decide +kernel
theorem d_Reader_readNames_2 : decode b_Reader_readNames 2 = .ok (.aload_n 0, 1) := by decide +kernel
theorem d_Reader_readNames_3 : decode b_Reader_readNames 3 = .ok (.aload_n 1, 1) := by decide +kernel
theorem d_Reader_readNames_4 : decode b_Reader_readNames 4 = .ok (.iload_n 2, 1) := by decide +kernel
theorem d_Reader_readNames_5 : decode b_Reader_readNames 5 = .ok (.iload_n 3, 1) := by decide +kernel
theorem d_Reader_readNames_6 : decode b_Reader_readNames 6 = .ok (.invokevirtual 94, 3) := by decide +kernel
theorem d_Reader_readNames_9 : decode b_Reader_readNames 9 = .ok (.ifCond .ne 5, 3) := by decide +kernel
theorem d_Reader_readNames_12 : decode b_Reader_readNames 12 = .ok (.iconst 0, 1) := by decide +kernel
theorem d_Reader_readNames_13 : decode b_Reader_readNames 13 = .ok (.ireturn, 1) := by decide +kernel
theorem d_Reader_readNames_14 : decode b_Reader_readNames 14 = .ok (.iinc 3 1, 3) := by decide +kernel
theorem d_Reader_readNames_17 : decode b_Reader_readNames 17 = .ok (.iload_n 3, 1) := by decide +kernel
theorem d_Reader_readNames_18 : decode b_Reader_readNames 18 = .ok (.iconst 3, 1) := by decide +kernel
theorem d_Reader_readNames_19 : decode b_Reader_readNames 19 = .ok (.if_icmp .ge 12, 3) := by decide +kernel
theorem d_Reader_readNames_22 : decode b_Reader_readNames 22 = .ok (.aload_n 0, 1) := by decide +kernel
theorem d_Reader_readNames_23 : decode b_Reader_readNames 23 = .ok (.invokevirtual 34, 3) := by decide +kernel
theorem d_Reader_readNames_26 : decode b_Reader_readNames 26 = .ok (.bipush 34, 2) := by decide +kernel
theorem d_Reader_readNames_28 : decode b_Reader_readNames 28 = .ok (.if_icmp .eq (-26), 3) := by decide +kernel
theorem d_Reader_readNames_31 : decode b_Reader_readNames 31 = .ok (.iconst 1, 1) := by decide +kernel
theorem d_Reader_readNames_32 : decode b_Reader_readNames 32 = .ok (.ireturn, 1) := by decide +kernel
abbrev b_Reader_readName : ByteArray := prog_3_method_9_code
abbrev y_Reader_readName : MethodName := { cls := "HazardTables$Reader", name := "readName", desc := "(LHazardTables$Table;II)Z" }
abbrev w_Reader_readName : List Cond := .code y_Reader_readName b_Reader_readName 5 (some .boolean) :: WA
theorem d_Reader_readName_0 : decode b_Reader_readName 0 = .ok (.aload_n 0, 1) := by decide +kernel
theorem d_Reader_readName_1 : decode b_Reader_readName 1 = .ok (.bipush 34, 2) := by decide +kernel
theorem d_Reader_readName_3 : decode b_Reader_readName 3 = .ok (.invokevirtual 61, 3) := by decide +kernel
theorem d_Reader_readName_6 : decode b_Reader_readName 6 = .ok (.ifCond .ne 5, 3) := by decide +kernel
theorem d_Reader_readName_9 : decode b_Reader_readName 9 = .ok (.iconst 0, 1) := by decide +kernel
theorem d_Reader_readName_10 : decode b_Reader_readName 10 = .ok (.ireturn, 1) := by decide +kernel
theorem d_Reader_readName_11 : decode b_Reader_readName 11 = .ok (.iconst 0, 1) := by decide +kernel
theorem d_Reader_readName_12 : decode b_Reader_readName 12 = .ok (.istore 4, 2) := by decide +kernel
theorem d_Reader_readName_14 : decode b_Reader_readName 14 = .ok (.iload 4, 2) := by decide +kernel
theorem d_Reader_readName_16 : decode b_Reader_readName 16 = .ok (.bipush 10, 2) := by decide +kernel
theorem d_Reader_readName_18 : decode b_Reader_readName 18 = .ok (.if_icmp .ge 41, 3) := by decide +kernel
theorem d_Reader_readName_21 : decode b_Reader_readName 21 = .ok (.aload_n 0, 1) := by decide +kernel
theorem d_Reader_readName_22 : decode b_Reader_readName 22 = .ok (.invokevirtual 98, 3) := by decide +kernel
theorem d_Reader_readName_25 : decode b_Reader_readName 25 = .ok (.invokestatic 101, 3) := by decide +kernel
theorem d_Reader_readName_28 : decode b_Reader_readName 28 = .ok (.ifCond .eq 31, 3) := by decide +kernel
theorem d_Reader_readName_31 : decode b_Reader_readName 31 = .ok (.aload_n 1, 1) := by decide +kernel
theorem d_Reader_readName_32 : decode b_Reader_readName 32 = .ok (.iload_n 2, 1) := by decide +kernel
theorem d_Reader_readName_33 : decode b_Reader_readName 33 = .ok (.iload_n 3, 1) := by decide +kernel
theorem d_Reader_readName_34 : decode b_Reader_readName 34 = .ok (.iload 4, 2) := by decide +kernel
theorem d_Reader_readName_36 : decode b_Reader_readName 36 = .ok (.aload_n 0, 1) := by decide +kernel
theorem d_Reader_readName_37 : decode b_Reader_readName 37 = .ok (.invokevirtual 98, 3) := by decide +kernel
theorem d_Reader_readName_40 : decode b_Reader_readName 40 = .ok (.invokevirtual 104, 3) := by decide +kernel
theorem d_Reader_readName_43 : decode b_Reader_readName 43 = .ok (.iinc 4 1, 3) := by decide +kernel
theorem d_Reader_readName_46 : decode b_Reader_readName 46 = .ok (.aload_n 0, 1) := by decide +kernel
theorem d_Reader_readName_47 : decode b_Reader_readName 47 = .ok (.dup, 1) := by decide +kernel
theorem d_Reader_readName_48 : decode b_Reader_readName 48 = .ok (.getfield 31, 3) := by decide +kernel
theorem d_Reader_readName_51 : decode b_Reader_readName 51 = .ok (.iconst 1, 1) := by decide +kernel
theorem d_Reader_readName_52 : decode b_Reader_readName 52 = .ok (.iadd, 1) := by decide +kernel
theorem d_Reader_readName_53 : decode b_Reader_readName 53 = .ok (.putfield 31, 3) := by decide +kernel
theorem d_Reader_readName_56 : decode b_Reader_readName 56 = .ok (.goto (-42), 3) := by decide +kernel
theorem d_Reader_readName_59 : decode b_Reader_readName 59 = .ok (.iload 4, 2) := by decide +kernel
theorem d_Reader_readName_61 : decode b_Reader_readName 61 = .ok (.ifCond .eq 12, 3) := by decide +kernel
theorem d_Reader_readName_64 : decode b_Reader_readName 64 = .ok (.aload_n 0, 1) := by decide +kernel
theorem d_Reader_readName_65 : decode b_Reader_readName 65 = .ok (.invokevirtual 98, 3) := by decide +kernel
theorem d_Reader_readName_68 : decode b_Reader_readName 68 = .ok (.bipush 34, 2) := by decide +kernel
theorem d_Reader_readName_70 : decode b_Reader_readName 70 = .ok (.if_icmp .eq 12, 3) := by decide +kernel
theorem d_Reader_readName_73 : decode b_Reader_readName 73 = .ok (.aload_n 0, 1) := by decide +kernel
theorem d_Reader_readName_74 : decode b_Reader_readName 74 = .ok (.aload_n 0, 1) := by decide +kernel
theorem d_Reader_readName_75 : decode b_Reader_readName 75 = .ok (.getfield 31, 3) := by decide +kernel
theorem d_Reader_readName_78 : decode b_Reader_readName 78 = .ok (.invokevirtual 68, 3) := by decide +kernel
theorem d_Reader_readName_81 : decode b_Reader_readName 81 = .ok (.ireturn, 1) := by decide +kernel
theorem d_Reader_readName_82 : decode b_Reader_readName 82 = .ok (.aload_n 0, 1) := by decide +kernel
theorem d_Reader_readName_83 : decode b_Reader_readName 83 = .ok (.dup, 1) := by decide +kernel
theorem d_Reader_readName_84 : decode b_Reader_readName 84 = .ok (.getfield 31, 3) := by decide +kernel
theorem d_Reader_readName_87 : decode b_Reader_readName 87 = .ok (.iconst 1, 1) := by decide +kernel
theorem d_Reader_readName_88 : decode b_Reader_readName 88 = .ok (.iadd, 1) := by decide +kernel
theorem d_Reader_readName_89 : decode b_Reader_readName 89 = .ok (.putfield 31, 3) := by decide +kernel
theorem d_Reader_readName_92 : decode b_Reader_readName 92 = .ok (.aload_n 1, 1) := by decide +kernel
theorem d_Reader_readName_93 : decode b_Reader_readName 93 = .ok (.iload_n 2, 1) := by decide +kernel
theorem d_Reader_readName_94 : decode b_Reader_readName 94 = .ok (.iload_n 3, 1) := by decide +kernel
theorem d_Reader_readName_95 : decode b_Reader_readName 95 = .ok (.iload 4, 2) := by decide +kernel
theorem d_Reader_readName_97 : decode b_Reader_readName 97 = .ok (.invokevirtual 108, 3) := by decide +kernel
theorem d_Reader_readName_100 : decode b_Reader_readName 100 = .ok (.iconst 1, 1) := by decide +kernel
theorem d_Reader_readName_101 : decode b_Reader_readName 101 = .ok (.ireturn, 1) := by decide +kernel
abbrev b_Reader_readClass : ByteArray := prog_3_method_10_code
abbrev y_Reader_readClass : MethodName := { cls := "HazardTables$Reader", name := "readClass", desc := "(LHazardTables$Table;I)Z" }
abbrev w_Reader_readClass : List Cond := .code y_Reader_readClass b_Reader_readClass 3 (some .boolean) :: WA
theorem d_Reader_readClass_0 : decode b_Reader_readClass 0 = .ok (.aload_n 0, 1) := by decide +kernel
theorem d_Reader_readClass_1 : decode b_Reader_readClass 1 = .ok (.bipush 99, 2) := by decide +kernel
theorem d_Reader_readClass_3 : decode b_Reader_readClass 3 = .ok (.invokevirtual 61, 3) := by decide +kernel
theorem d_Reader_readClass_6 : decode b_Reader_readClass 6 = .ok (.ifCond .eq 13, 3) := by decide +kernel
theorem d_Reader_readClass_9 : decode b_Reader_readClass 9 = .ok (.aload_n 0, 1) := by decide +kernel
theorem d_Reader_readClass_10 : decode b_Reader_readClass 10 = .ok (.iconst 1, 1) := by decide +kernel
theorem d_Reader_readClass_11 : decode b_Reader_readClass 11 = .ok (.bipush 9, 2) := by decide +kernel
theorem d_Reader_readClass_13 : decode b_Reader_readClass 13 = .ok (.invokevirtual 79, 3) := by decide +kernel
theorem d_Reader_readClass_16 : decode b_Reader_readClass 16 = .ok (.ifCond .ne 5, 3) := by decide +kernel
theorem d_Reader_readClass_19 : decode b_Reader_readClass 19 = .ok (.iconst 0, 1) := by decide +kernel
theorem d_Reader_readClass_20 : decode b_Reader_readClass 20 = .ok (.ireturn, 1) := by decide +kernel
theorem d_Reader_readClass_21 : decode b_Reader_readClass 21 = .ok (.aload_n 1, 1) := by decide +kernel
theorem d_Reader_readClass_22 : decode b_Reader_readClass 22 = .ok (.iload_n 2, 1) := by decide +kernel
theorem d_Reader_readClass_23 : decode b_Reader_readClass 23 = .ok (.iconst 0, 1) := by decide +kernel
theorem d_Reader_readClass_24 : decode b_Reader_readClass 24 = .ok (.aload_n 0, 1) := by decide +kernel
theorem d_Reader_readClass_25 : decode b_Reader_readClass 25 = .ok (.getfield 83, 3) := by decide +kernel
theorem d_Reader_readClass_28 : decode b_Reader_readClass 28 = .ok (.invokevirtual 112, 3) := by decide +kernel
theorem d_Reader_readClass_31 : decode b_Reader_readClass 31 = .ok (.iconst 1, 1) := by decide +kernel
theorem d_Reader_readClass_32 : decode b_Reader_readClass 32 = .ok (.ireturn, 1) := by decide +kernel
abbrev b_Reader_readDue : ByteArray := prog_3_method_11_code
abbrev y_Reader_readDue : MethodName := { cls := "HazardTables$Reader", name := "readDue", desc := "(LHazardTables$Table;I)Z" }
abbrev w_Reader_readDue : List Cond := .code y_Reader_readDue b_Reader_readDue 4 (some .boolean) :: WA
theorem d_Reader_readDue_0 : decode b_Reader_readDue 0 = .ok (.aload_n 0, 1) := by decide +kernel
theorem d_Reader_readDue_1 : decode b_Reader_readDue 1 = .ok (.bipush 114, 2) := by decide +kernel
theorem d_Reader_readDue_3 : decode b_Reader_readDue 3 = .ok (.invokevirtual 61, 3) := by decide +kernel
theorem d_Reader_readDue_6 : decode b_Reader_readDue 6 = .ok (.ifCond .eq 13, 3) := by decide +kernel
theorem d_Reader_readDue_9 : decode b_Reader_readDue 9 = .ok (.aload_n 0, 1) := by decide +kernel
theorem d_Reader_readDue_10 : decode b_Reader_readDue 10 = .ok (.iconst 0, 1) := by decide +kernel
theorem d_Reader_readDue_11 : decode b_Reader_readDue 11 = .ok (.bipush 9, 2) := by decide +kernel
theorem d_Reader_readDue_13 : decode b_Reader_readDue 13 = .ok (.invokevirtual 79, 3) := by decide +kernel
theorem d_Reader_readDue_16 : decode b_Reader_readDue 16 = .ok (.ifCond .ne 5, 3) := by decide +kernel
theorem d_Reader_readDue_19 : decode b_Reader_readDue 19 = .ok (.iconst 0, 1) := by decide +kernel
theorem d_Reader_readDue_20 : decode b_Reader_readDue 20 = .ok (.ireturn, 1) := by decide +kernel
theorem d_Reader_readDue_21 : decode b_Reader_readDue 21 = .ok (.aload_n 1, 1) := by decide +kernel
theorem d_Reader_readDue_22 : decode b_Reader_readDue 22 = .ok (.iload_n 2, 1) := by decide +kernel
theorem d_Reader_readDue_23 : decode b_Reader_readDue 23 = .ok (.iconst 1, 1) := by decide +kernel
theorem d_Reader_readDue_24 : decode b_Reader_readDue 24 = .ok (.aload_n 0, 1) := by decide +kernel
theorem d_Reader_readDue_25 : decode b_Reader_readDue 25 = .ok (.getfield 83, 3) := by decide +kernel
theorem d_Reader_readDue_28 : decode b_Reader_readDue 28 = .ok (.invokevirtual 112, 3) := by decide +kernel
theorem d_Reader_readDue_31 : decode b_Reader_readDue 31 = .ok (.aload_n 0, 1) := by decide +kernel
theorem d_Reader_readDue_32 : decode b_Reader_readDue 32 = .ok (.bipush 103, 2) := by decide +kernel
theorem d_Reader_readDue_34 : decode b_Reader_readDue 34 = .ok (.invokevirtual 61, 3) := by decide +kernel
theorem d_Reader_readDue_37 : decode b_Reader_readDue 37 = .ok (.ifCond .eq 17, 3) := by decide +kernel
theorem d_Reader_readDue_40 : decode b_Reader_readDue 40 = .ok (.aload_n 0, 1) := by decide +kernel
theorem d_Reader_readDue_41 : decode b_Reader_readDue 41 = .ok (.bipush 97, 2) := by decide +kernel
theorem d_Reader_readDue_43 : decode b_Reader_readDue 43 = .ok (.bipush 104, 2) := by decide +kernel
theorem d_Reader_readDue_45 : decode b_Reader_readDue 45 = .ok (.iconst 4, 1) := by decide +kernel
theorem d_Reader_readDue_46 : decode b_Reader_readDue 46 = .ok (.bipush 97, 2) := by decide +kernel
theorem d_Reader_readDue_48 : decode b_Reader_readDue 48 = .ok (.invokevirtual 115, 3) := by decide +kernel
theorem d_Reader_readDue_51 : decode b_Reader_readDue 51 = .ok (.ifCond .ne 5, 3) := by decide +kernel
theorem d_Reader_readDue_54 : decode b_Reader_readDue 54 = .ok (.iconst 0, 1) := by decide +kernel
theorem d_Reader_readDue_55 : decode b_Reader_readDue 55 = .ok (.ireturn, 1) := by decide +kernel
theorem d_Reader_readDue_56 : decode b_Reader_readDue 56 = .ok (.aload_n 1, 1) := by decide +kernel
theorem d_Reader_readDue_57 : decode b_Reader_readDue 57 = .ok (.iload_n 2, 1) := by decide +kernel
theorem d_Reader_readDue_58 : decode b_Reader_readDue 58 = .ok (.iconst 2, 1) := by decide +kernel
theorem d_Reader_readDue_59 : decode b_Reader_readDue 59 = .ok (.aload_n 0, 1) := by decide +kernel
theorem d_Reader_readDue_60 : decode b_Reader_readDue 60 = .ok (.getfield 83, 3) := by decide +kernel
theorem d_Reader_readDue_63 : decode b_Reader_readDue 63 = .ok (.invokevirtual 112, 3) := by decide +kernel
theorem d_Reader_readDue_66 : decode b_Reader_readDue 66 = .ok (.iconst 0, 1) := by decide +kernel
theorem d_Reader_readDue_67 : decode b_Reader_readDue 67 = .ok (.istore_n 3, 1) := by decide +kernel
theorem d_Reader_readDue_68 : decode b_Reader_readDue 68 = .ok (.iload_n 3, 1) := by decide +kernel
theorem d_Reader_readDue_69 : decode b_Reader_readDue 69 = .ok (.iconst 4, 1) := by decide +kernel
theorem d_Reader_readDue_70 : decode b_Reader_readDue 70 = .ok (.if_icmp .ge 52, 3) := by decide +kernel
theorem d_Reader_readDue_73 : decode b_Reader_readDue 73 = .ok (.aload_n 0, 1) := by decide +kernel
theorem d_Reader_readDue_74 : decode b_Reader_readDue 74 = .ok (.iload_n 3, 1) := by decide +kernel
theorem d_Reader_readDue_75 : decode b_Reader_readDue 75 = .ok (.ifCond .ne 8, 3) := by decide +kernel
theorem d_Reader_readDue_78 : decode b_Reader_readDue 78 = .ok (.bipush 64, 2) := by decide +kernel
theorem d_Reader_readDue_80 : decode b_Reader_readDue 80 = .ok (.goto 5, 3) := by decide +kernel
theorem d_Reader_readDue_83 : decode b_Reader_readDue 83 = .ok (.bipush 44, 2) := by decide +kernel
theorem d_Reader_readDue_85 : decode b_Reader_readDue 85 = .ok (.invokevirtual 61, 3) := by decide +kernel
theorem d_Reader_readDue_88 : decode b_Reader_readDue 88 = .ok (.ifCond .eq 14, 3) := by decide +kernel
theorem d_Reader_readDue_91 : decode b_Reader_readDue 91 = .ok (.aload_n 0, 1) := by decide +kernel
theorem d_Reader_readDue_92 : decode b_Reader_readDue 92 = .ok (.iconst 0, 1) := by decide +kernel
theorem d_Reader_readDue_93 : decode b_Reader_readDue 93 = .ok (.sipush 9999, 3) := by decide +kernel
theorem d_Reader_readDue_96 : decode b_Reader_readDue 96 = .ok (.invokevirtual 79, 3) := by decide +kernel
theorem d_Reader_readDue_99 : decode b_Reader_readDue 99 = .ok (.ifCond .ne 5, 3) := by decide +kernel
theorem d_Reader_readDue_102 : decode b_Reader_readDue 102 = .ok (.iconst 0, 1) := by decide +kernel
theorem d_Reader_readDue_103 : decode b_Reader_readDue 103 = .ok (.ireturn, 1) := by decide +kernel
theorem d_Reader_readDue_104 : decode b_Reader_readDue 104 = .ok (.aload_n 1, 1) := by decide +kernel
theorem d_Reader_readDue_105 : decode b_Reader_readDue 105 = .ok (.iload_n 2, 1) := by decide +kernel
theorem d_Reader_readDue_106 : decode b_Reader_readDue 106 = .ok (.iconst 3, 1) := by decide +kernel
theorem d_Reader_readDue_107 : decode b_Reader_readDue 107 = .ok (.iload_n 3, 1) := by decide +kernel
theorem d_Reader_readDue_108 : decode b_Reader_readDue 108 = .ok (.iadd, 1) := by decide +kernel
theorem d_Reader_readDue_109 : decode b_Reader_readDue 109 = .ok (.aload_n 0, 1) := by decide +kernel
theorem d_Reader_readDue_110 : decode b_Reader_readDue 110 = .ok (.getfield 83, 3) := by decide +kernel
theorem d_Reader_readDue_113 : decode b_Reader_readDue 113 = .ok (.invokevirtual 112, 3) := by decide +kernel
theorem d_Reader_readDue_116 : decode b_Reader_readDue 116 = .ok (.iinc 3 1, 3) := by decide +kernel
theorem d_Reader_readDue_119 : decode b_Reader_readDue 119 = .ok (.goto (-51), 3) := by decide +kernel
theorem d_Reader_readDue_122 : decode b_Reader_readDue 122 = .ok (.iconst 1, 1) := by decide +kernel
theorem d_Reader_readDue_123 : decode b_Reader_readDue 123 = .ok (.ireturn, 1) := by decide +kernel
abbrev b_Reader_readOtherClasses : ByteArray := prog_3_method_12_code
abbrev y_Reader_readOtherClasses : MethodName := { cls := "HazardTables$Reader", name := "readOtherClasses", desc := "(LHazardTables$Table;I)Z" }
abbrev w_Reader_readOtherClasses : List Cond := .code y_Reader_readOtherClasses b_Reader_readOtherClasses 3 (some .boolean) :: WA
theorem d_Reader_readOtherClasses_0 : decode b_Reader_readOtherClasses 0 = .ok (.aload_n 0, 1) := by decide +kernel
theorem d_Reader_readOtherClasses_1 : decode b_Reader_readOtherClasses 1 = .ok (.invokevirtual 34, 3) := by decide +kernel
theorem d_Reader_readOtherClasses_4 : decode b_Reader_readOtherClasses 4 = .ok (.bipush 120, 2) := by decide +kernel
theorem d_Reader_readOtherClasses_6 : decode b_Reader_readOtherClasses 6 = .ok (.if_icmp .eq 5, 3) := by decide +kernel
theorem d_Reader_readOtherClasses_9 : decode b_Reader_readOtherClasses 9 = .ok (.iconst 1, 1) := by decide +kernel
theorem d_Reader_readOtherClasses_10 : decode b_Reader_readOtherClasses 10 = .ok (.ireturn, 1) := by decide +kernel
theorem d_Reader_readOtherClasses_11 : decode b_Reader_readOtherClasses 11 = .ok (.aload_n 0, 1) := by decide +kernel
theorem d_Reader_readOtherClasses_12 : decode b_Reader_readOtherClasses 12 = .ok (.dup, 1) := by decide +kernel
theorem d_Reader_readOtherClasses_13 : decode b_Reader_readOtherClasses 13 = .ok (.getfield 31, 3) := by decide +kernel
theorem d_Reader_readOtherClasses_16 : decode b_Reader_readOtherClasses 16 = .ok (.iconst 1, 1) := by decide +kernel
theorem d_Reader_readOtherClasses_17 : decode b_Reader_readOtherClasses 17 = .ok (.iadd, 1) := by decide +kernel
theorem d_Reader_readOtherClasses_18 : decode b_Reader_readOtherClasses 18 = .ok (.putfield 31, 3) := by decide +kernel
theorem d_Reader_readOtherClasses_21 : decode b_Reader_readOtherClasses 21 = .ok (.aload_n 0, 1) := by decide +kernel
theorem d_Reader_readOtherClasses_22 : decode b_Reader_readOtherClasses 22 = .ok (.bipush 49, 2) := by decide +kernel
theorem d_Reader_readOtherClasses_24 : decode b_Reader_readOtherClasses 24 = .ok (.bipush 57, 2) := by decide +kernel
theorem d_Reader_readOtherClasses_26 : decode b_Reader_readOtherClasses 26 = .ok (.iconst 3, 1) := by decide +kernel
theorem d_Reader_readOtherClasses_27 : decode b_Reader_readOtherClasses 27 = .ok (.bipush 48, 2) := by decide +kernel
theorem d_Reader_readOtherClasses_29 : decode b_Reader_readOtherClasses 29 = .ok (.invokevirtual 115, 3) := by decide +kernel
theorem d_Reader_readOtherClasses_32 : decode b_Reader_readOtherClasses 32 = .ok (.ifCond .ne 5, 3) := by decide +kernel
theorem d_Reader_readOtherClasses_35 : decode b_Reader_readOtherClasses 35 = .ok (.iconst 0, 1) := by decide +kernel
theorem d_Reader_readOtherClasses_36 : decode b_Reader_readOtherClasses 36 = .ok (.ireturn, 1) := by decide +kernel
theorem d_Reader_readOtherClasses_37 : decode b_Reader_readOtherClasses 37 = .ok (.aload_n 1, 1) := by decide +kernel
theorem d_Reader_readOtherClasses_38 : decode b_Reader_readOtherClasses 38 = .ok (.iload_n 2, 1) := by decide +kernel
theorem d_Reader_readOtherClasses_39 : decode b_Reader_readOtherClasses 39 = .ok (.bipush 7, 2) := by decide +kernel
theorem d_Reader_readOtherClasses_41 : decode b_Reader_readOtherClasses 41 = .ok (.aload_n 0, 1) := by decide +kernel
theorem d_Reader_readOtherClasses_42 : decode b_Reader_readOtherClasses 42 = .ok (.getfield 83, 3) := by decide +kernel
theorem d_Reader_readOtherClasses_45 : decode b_Reader_readOtherClasses 45 = .ok (.invokevirtual 112, 3) := by decide +kernel
theorem d_Reader_readOtherClasses_48 : decode b_Reader_readOtherClasses 48 = .ok (.iconst 1, 1) := by decide +kernel
theorem d_Reader_readOtherClasses_49 : decode b_Reader_readOtherClasses 49 = .ok (.ireturn, 1) := by decide +kernel
abbrev b_Reader_readRising : ByteArray := prog_3_method_13_code
abbrev y_Reader_readRising : MethodName := { cls := "HazardTables$Reader", name := "readRising", desc := "(IIII)Z" }
abbrev w_Reader_readRising : List Cond := .code y_Reader_readRising b_Reader_readRising 8 (some .boolean) :: WA
theorem d_Reader_readRising_0 : decode b_Reader_readRising 0 = .ok (.aload_n 0, 1) := by decide +kernel
theorem d_Reader_readRising_1 : decode b_Reader_readRising 1 = .ok (.iconst 0, 1) := by decide +kernel
theorem d_Reader_readRising_2 : decode b_Reader_readRising 2 = .ok (.putfield 83, 3) := by decide +kernel
theorem d_Reader_readRising_5 : decode b_Reader_readRising 5 = .ok (.iload_n 1, 1) := by decide +kernel
theorem d_Reader_readRising_6 : decode b_Reader_readRising 6 = .ok (.istore 5, 2) := by decide +kernel
theorem d_Reader_readRising_8 : decode b_Reader_readRising 8 = .ok (.iconst 0, 1) := by decide +kernel
theorem d_Reader_readRising_9 : decode b_Reader_readRising 9 = .ok (.istore 6, 2) := by decide +kernel
theorem d_Reader_readRising_11 : decode b_Reader_readRising 11 = .ok (.aload_n 0, 1) := by decide +kernel
theorem d_Reader_readRising_12 : decode b_Reader_readRising 12 = .ok (.invokevirtual 34, 3) := by decide +kernel
theorem d_Reader_readRising_15 : decode b_Reader_readRising 15 = .ok (.istore 7, 2) := by decide +kernel
theorem d_Reader_readRising_17 : decode b_Reader_readRising 17 = .ok (.iload 6, 2) := by decide +kernel
theorem d_Reader_readRising_19 : decode b_Reader_readRising 19 = .ok (.iload_n 3, 1) := by decide +kernel
theorem d_Reader_readRising_20 : decode b_Reader_readRising 20 = .ok (.if_icmp .ge 60, 3) := by decide +kernel
theorem d_Reader_readRising_23 : decode b_Reader_readRising 23 = .ok (.iload 7, 2) := by decide +kernel
theorem d_Reader_readRising_25 : decode b_Reader_readRising 25 = .ok (.iload 5, 2) := by decide +kernel
theorem d_Reader_readRising_27 : decode b_Reader_readRising 27 = .ok (.if_icmp .lt 53, 3) := by decide +kernel
theorem d_Reader_readRising_30 : decode b_Reader_readRising 30 = .ok (.iload 7, 2) := by decide +kernel
theorem d_Reader_readRising_32 : decode b_Reader_readRising 32 = .ok (.iload_n 2, 1) := by decide +kernel
theorem d_Reader_readRising_33 : decode b_Reader_readRising 33 = .ok (.if_icmp .gt 47, 3) := by decide +kernel
theorem d_Reader_readRising_36 : decode b_Reader_readRising 36 = .ok (.aload_n 0, 1) := by decide +kernel
theorem d_Reader_readRising_37 : decode b_Reader_readRising 37 = .ok (.dup, 1) := by decide +kernel
theorem d_Reader_readRising_38 : decode b_Reader_readRising 38 = .ok (.getfield 83, 3) := by decide +kernel
theorem d_Reader_readRising_41 : decode b_Reader_readRising 41 = .ok (.iconst 1, 1) := by decide +kernel
theorem d_Reader_readRising_42 : decode b_Reader_readRising 42 = .ok (.iload 7, 2) := by decide +kernel
theorem d_Reader_readRising_44 : decode b_Reader_readRising 44 = .ok (.iload 4, 2) := by decide +kernel
theorem d_Reader_readRising_46 : decode b_Reader_readRising 46 = .ok (.isub, 1) := by decide +kernel
theorem d_Reader_readRising_47 : decode b_Reader_readRising 47 = .ok (.ishl, 1) := by decide +kernel
theorem d_Reader_readRising_48 : decode b_Reader_readRising 48 = .ok (.ior, 1) := by decide +kernel
theorem d_Reader_readRising_49 : decode b_Reader_readRising 49 = .ok (.putfield 83, 3) := by decide +kernel
theorem d_Reader_readRising_52 : decode b_Reader_readRising 52 = .ok (.iload 7, 2) := by decide +kernel
theorem d_Reader_readRising_54 : decode b_Reader_readRising 54 = .ok (.iconst 1, 1) := by decide +kernel
theorem d_Reader_readRising_55 : decode b_Reader_readRising 55 = .ok (.iadd, 1) := by decide +kernel
theorem d_Reader_readRising_56 : decode b_Reader_readRising 56 = .ok (.istore 5, 2) := by decide +kernel
theorem d_Reader_readRising_58 : decode b_Reader_readRising 58 = .ok (.iinc 6 1, 3) := by decide +kernel
theorem d_Reader_readRising_61 : decode b_Reader_readRising 61 = .ok (.aload_n 0, 1) := by decide +kernel
theorem d_Reader_readRising_62 : decode b_Reader_readRising 62 = .ok (.dup, 1) := by decide +kernel
theorem d_Reader_readRising_63 : decode b_Reader_readRising 63 = .ok (.getfield 31, 3) := by decide +kernel
theorem d_Reader_readRising_66 : decode b_Reader_readRising 66 = .ok (.iconst 1, 1) := by decide +kernel
theorem d_Reader_readRising_67 : decode b_Reader_readRising 67 = .ok (.iadd, 1) := by decide +kernel
theorem d_Reader_readRising_68 : decode b_Reader_readRising 68 = .ok (.putfield 31, 3) := by decide +kernel
theorem d_Reader_readRising_71 : decode b_Reader_readRising 71 = .ok (.aload_n 0, 1) := by decide +kernel
theorem d_Reader_readRising_72 : decode b_Reader_readRising 72 = .ok (.invokevirtual 34, 3) := by decide +kernel
theorem d_Reader_readRising_75 : decode b_Reader_readRising 75 = .ok (.istore 7, 2) := by decide +kernel
theorem d_Reader_readRising_77 : decode b_Reader_readRising 77 = .ok (.goto (-60), 3) := by decide +kernel
theorem d_Reader_readRising_80 : decode b_Reader_readRising 80 = .ok (.iload 6, 2) := by decide +kernel
theorem d_Reader_readRising_82 : decode b_Reader_readRising 82 = .ok (.ifCond .gt 14, 3) := by decide +kernel
theorem d_Reader_readRising_85 : decode b_Reader_readRising 85 = .ok (.aload_n 0, 1) := by decide +kernel
theorem d_Reader_readRising_86 : decode b_Reader_readRising 86 = .ok (.aload_n 0, 1) := by decide +kernel
theorem d_Reader_readRising_87 : decode b_Reader_readRising 87 = .ok (.getfield 31, 3) := by decide +kernel
theorem d_Reader_readRising_90 : decode b_Reader_readRising 90 = .ok (.invokevirtual 68, 3) := by decide +kernel
theorem d_Reader_readRising_93 : decode b_Reader_readRising 93 = .ok (.ifCond .eq 7, 3) := by decide +kernel
theorem d_Reader_readRising_96 : decode b_Reader_readRising 96 = .ok (.iconst 1, 1) := by decide +kernel
theorem d_Reader_readRising_97 : decode b_Reader_readRising 97 = .ok (.goto 4, 3) := by decide +kernel
theorem d_Reader_readRising_100 : decode b_Reader_readRising 100 = .ok (.iconst 0, 1) := by decide +kernel
theorem d_Reader_readRising_101 : decode b_Reader_readRising 101 = .ok (.ireturn, 1) := by decide +kernel
abbrev b_Reader_readNumber : ByteArray := prog_3_method_14_code
abbrev y_Reader_readNumber : MethodName := { cls := "HazardTables$Reader", name := "readNumber", desc := "(II)Z" }
abbrev w_Reader_readNumber : List Cond := .code y_Reader_readNumber b_Reader_readNumber 6 (some .boolean) :: WA
theorem d_Reader_readNumber_0 : decode b_Reader_readNumber 0 = .ok (.aload_n 0, 1) := by decide +kernel
theorem d_Reader_readNumber_1 : decode b_Reader_readNumber 1 = .ok (.invokevirtual 34, 3) := by decide +kernel
theorem d_Reader_readNumber_4 : decode b_Reader_readNumber 4 = .ok (.istore_n 3, 1) := by decide +kernel
theorem d_Reader_readNumber_5 : decode b_Reader_readNumber 5 = .ok (.iload_n 3, 1) := by decide +kernel
theorem d_Reader_readNumber_6 : decode b_Reader_readNumber 6 = .ok (.invokestatic 119, 3) := by decide +kernel
theorem d_Reader_readNumber_9 : decode b_Reader_readNumber 9 = .ok (.ifCond .eq 13, 3) := by decide +kernel
theorem d_Reader_readNumber_12 : decode b_Reader_readNumber 12 = .ok (.iload_n 3, 1) := by decide +kernel
theorem d_Reader_readNumber_13 : decode b_Reader_readNumber 13 = .ok (.bipush 48, 2) := by decide +kernel
theorem d_Reader_readNumber_15 : decode b_Reader_readNumber 15 = .ok (.if_icmp .ne 16, 3) := by decide +kernel
theorem d_Reader_readNumber_18 : decode b_Reader_readNumber 18 = .ok (.iload_n 1, 1) := by decide +kernel
theorem d_Reader_readNumber_19 : decode b_Reader_readNumber 19 = .ok (.ifCond .le 12, 3) := by decide +kernel
theorem d_Reader_readNumber_22 : decode b_Reader_readNumber 22 = .ok (.aload_n 0, 1) := by decide +kernel
theorem d_Reader_readNumber_23 : decode b_Reader_readNumber 23 = .ok (.aload_n 0, 1) := by decide +kernel
theorem d_Reader_readNumber_24 : decode b_Reader_readNumber 24 = .ok (.getfield 31, 3) := by decide +kernel
theorem d_Reader_readNumber_27 : decode b_Reader_readNumber 27 = .ok (.invokevirtual 68, 3) := by decide +kernel
theorem d_Reader_readNumber_30 : decode b_Reader_readNumber 30 = .ok (.ireturn, 1) := by decide +kernel
theorem d_Reader_readNumber_31 : decode b_Reader_readNumber 31 = .ok (.iload_n 3, 1) := by decide +kernel
theorem d_Reader_readNumber_32 : decode b_Reader_readNumber 32 = .ok (.bipush 48, 2) := by decide +kernel
theorem d_Reader_readNumber_34 : decode b_Reader_readNumber 34 = .ok (.if_icmp .ne 7, 3) := by decide +kernel
theorem d_Reader_readNumber_37 : decode b_Reader_readNumber 37 = .ok (.iconst 1, 1) := by decide +kernel
theorem d_Reader_readNumber_38 : decode b_Reader_readNumber 38 = .ok (.goto 4, 3) := by decide +kernel
theorem d_Reader_readNumber_41 : decode b_Reader_readNumber 41 = .ok (.iconst 4, 1) := by decide +kernel
theorem d_Reader_readNumber_42 : decode b_Reader_readNumber 42 = .ok (.istore 4, 2) := by decide +kernel
theorem d_Reader_readNumber_44 : decode b_Reader_readNumber 44 = .ok (.aload_n 0, 1) := by decide +kernel
theorem d_Reader_readNumber_45 : decode b_Reader_readNumber 45 = .ok (.iconst 0, 1) := by decide +kernel
theorem d_Reader_readNumber_46 : decode b_Reader_readNumber 46 = .ok (.putfield 83, 3) := by decide +kernel
theorem d_Reader_readNumber_49 : decode b_Reader_readNumber 49 = .ok (.iconst 0, 1) := by decide +kernel
theorem d_Reader_readNumber_50 : decode b_Reader_readNumber 50 = .ok (.istore 5, 2) := by decide +kernel
theorem d_Reader_readNumber_52 : decode b_Reader_readNumber 52 = .ok (.iload 5, 2) := by decide +kernel
theorem d_Reader_readNumber_54 : decode b_Reader_readNumber 54 = .ok (.iload 4, 2) := by decide +kernel
theorem d_Reader_readNumber_56 : decode b_Reader_readNumber 56 = .ok (.if_icmp .ge 48, 3) := by decide +kernel
theorem d_Reader_readNumber_59 : decode b_Reader_readNumber 59 = .ok (.aload_n 0, 1) := by decide +kernel
theorem d_Reader_readNumber_60 : decode b_Reader_readNumber 60 = .ok (.invokevirtual 98, 3) := by decide +kernel
theorem d_Reader_readNumber_63 : decode b_Reader_readNumber 63 = .ok (.invokestatic 119, 3) := by decide +kernel
theorem d_Reader_readNumber_66 : decode b_Reader_readNumber 66 = .ok (.ifCond .eq 38, 3) := by decide +kernel
theorem d_Reader_readNumber_69 : decode b_Reader_readNumber 69 = .ok (.aload_n 0, 1) := by decide +kernel
theorem d_Reader_readNumber_70 : decode b_Reader_readNumber 70 = .ok (.aload_n 0, 1) := by decide +kernel
theorem d_Reader_readNumber_71 : decode b_Reader_readNumber 71 = .ok (.getfield 83, 3) := by decide +kernel
theorem d_Reader_readNumber_74 : decode b_Reader_readNumber 74 = .ok (.bipush 10, 2) := by decide +kernel
theorem d_Reader_readNumber_76 : decode b_Reader_readNumber 76 = .ok (.imul, 1) := by decide +kernel
theorem d_Reader_readNumber_77 : decode b_Reader_readNumber 77 = .ok (.aload_n 0, 1) := by decide +kernel
theorem d_Reader_readNumber_78 : decode b_Reader_readNumber 78 = .ok (.invokevirtual 98, 3) := by decide +kernel
theorem d_Reader_readNumber_81 : decode b_Reader_readNumber 81 = .ok (.iadd, 1) := by decide +kernel
theorem d_Reader_readNumber_82 : decode b_Reader_readNumber 82 = .ok (.bipush 48, 2) := by decide +kernel
theorem d_Reader_readNumber_84 : decode b_Reader_readNumber 84 = .ok (.isub, 1) := by decide +kernel
theorem d_Reader_readNumber_85 : decode b_Reader_readNumber 85 = .ok (.putfield 83, 3) := by decide +kernel
theorem d_Reader_readNumber_88 : decode b_Reader_readNumber 88 = .ok (.aload_n 0, 1) := by decide +kernel
theorem d_Reader_readNumber_89 : decode b_Reader_readNumber 89 = .ok (.dup, 1) := by decide +kernel
theorem d_Reader_readNumber_90 : decode b_Reader_readNumber 90 = .ok (.getfield 31, 3) := by decide +kernel
theorem d_Reader_readNumber_93 : decode b_Reader_readNumber 93 = .ok (.iconst 1, 1) := by decide +kernel
theorem d_Reader_readNumber_94 : decode b_Reader_readNumber 94 = .ok (.iadd, 1) := by decide +kernel
theorem d_Reader_readNumber_95 : decode b_Reader_readNumber 95 = .ok (.putfield 31, 3) := by decide +kernel
theorem d_Reader_readNumber_98 : decode b_Reader_readNumber 98 = .ok (.iinc 5 1, 3) := by decide +kernel
theorem d_Reader_readNumber_101 : decode b_Reader_readNumber 101 = .ok (.goto (-49), 3) := by decide +kernel
theorem d_Reader_readNumber_104 : decode b_Reader_readNumber 104 = .ok (.aload_n 0, 1) := by decide +kernel
theorem d_Reader_readNumber_105 : decode b_Reader_readNumber 105 = .ok (.getfield 83, 3) := by decide +kernel
theorem d_Reader_readNumber_108 : decode b_Reader_readNumber 108 = .ok (.iload_n 2, 1) := by decide +kernel
theorem d_Reader_readNumber_109 : decode b_Reader_readNumber 109 = .ok (.if_icmp .le 16, 3) := by decide +kernel
theorem d_Reader_readNumber_112 : decode b_Reader_readNumber 112 = .ok (.aload_n 0, 1) := by decide +kernel
theorem d_Reader_readNumber_113 : decode b_Reader_readNumber 113 = .ok (.aload_n 0, 1) := by decide +kernel
theorem d_Reader_readNumber_114 : decode b_Reader_readNumber 114 = .ok (.getfield 31, 3) := by decide +kernel
theorem d_Reader_readNumber_117 : decode b_Reader_readNumber 117 = .ok (.iconst 1, 1) := by decide +kernel
theorem d_Reader_readNumber_118 : decode b_Reader_readNumber 118 = .ok (.isub, 1) := by decide +kernel
theorem d_Reader_readNumber_119 : decode b_Reader_readNumber 119 = .ok (.invokevirtual 68, 3) := by decide +kernel
theorem d_Reader_readNumber_122 : decode b_Reader_readNumber 122 = .ok (.ifCond .eq 7, 3) := by decide +kernel
theorem d_Reader_readNumber_125 : decode b_Reader_readNumber 125 = .ok (.iconst 1, 1) := by decide +kernel
theorem d_Reader_readNumber_126 : decode b_Reader_readNumber 126 = .ok (.goto 4, 3) := by decide +kernel
theorem d_Reader_readNumber_129 : decode b_Reader_readNumber 129 = .ok (.iconst 0, 1) := by decide +kernel
theorem d_Reader_readNumber_130 : decode b_Reader_readNumber 130 = .ok (.ireturn, 1) := by decide +kernel
abbrev b_Reader_take : ByteArray := prog_3_method_15_code
abbrev y_Reader_take : MethodName := { cls := "HazardTables$Reader", name := "take", desc := "(I)Z" }
abbrev w_Reader_take : List Cond := .code y_Reader_take b_Reader_take 2 (some .boolean) :: WA
theorem d_Reader_take_0 : decode b_Reader_take 0 = .ok (.aload_n 0, 1) := by decide +kernel
theorem d_Reader_take_1 : decode b_Reader_take 1 = .ok (.invokevirtual 34, 3) := by decide +kernel
theorem d_Reader_take_4 : decode b_Reader_take 4 = .ok (.iload_n 1, 1) := by decide +kernel
theorem d_Reader_take_5 : decode b_Reader_take 5 = .ok (.if_icmp .eq 12, 3) := by decide +kernel
theorem d_Reader_take_8 : decode b_Reader_take 8 = .ok (.aload_n 0, 1) := by decide +kernel
theorem d_Reader_take_9 : decode b_Reader_take 9 = .ok (.aload_n 0, 1) := by decide +kernel
theorem d_Reader_take_10 : decode b_Reader_take 10 = .ok (.getfield 31, 3) := by decide +kernel
theorem d_Reader_take_13 : decode b_Reader_take 13 = .ok (.invokevirtual 68, 3) := by decide +kernel
theorem d_Reader_take_16 : decode b_Reader_take 16 = .ok (.ireturn, 1) := by decide +kernel
theorem d_Reader_take_17 : decode b_Reader_take 17 = .ok (.aload_n 0, 1) := by decide +kernel
theorem d_Reader_take_18 : decode b_Reader_take 18 = .ok (.dup, 1) := by decide +kernel
theorem d_Reader_take_19 : decode b_Reader_take 19 = .ok (.getfield 31, 3) := by decide +kernel
theorem d_Reader_take_22 : decode b_Reader_take 22 = .ok (.iconst 1, 1) := by decide +kernel
theorem d_Reader_take_23 : decode b_Reader_take 23 = .ok (.iadd, 1) := by decide +kernel
theorem d_Reader_take_24 : decode b_Reader_take 24 = .ok (.putfield 31, 3) := by decide +kernel
theorem d_Reader_take_27 : decode b_Reader_take 27 = .ok (.iconst 1, 1) := by decide +kernel
theorem d_Reader_take_28 : decode b_Reader_take 28 = .ok (.ireturn, 1) := by decide +kernel
abbrev b_Reader_peek : ByteArray := prog_3_method_16_code
abbrev y_Reader_peek : MethodName := { cls := "HazardTables$Reader", name := "peek", desc := "()I" }
abbrev w_Reader_peek : List Cond := .code y_Reader_peek b_Reader_peek 1 (some .int) :: WA
theorem d_Reader_peek_0 : decode b_Reader_peek 0 = .ok (.aload_n 0, 1) := by decide +kernel
theorem d_Reader_peek_1 : decode b_Reader_peek 1 = .ok (.getfield 31, 3) := by decide +kernel
theorem d_Reader_peek_4 : decode b_Reader_peek 4 = .ok (.aload_n 0, 1) := by decide +kernel
theorem d_Reader_peek_5 : decode b_Reader_peek 5 = .ok (.getfield 19, 3) := by decide +kernel
theorem d_Reader_peek_8 : decode b_Reader_peek 8 = .ok (.if_icmp .ge 40, 3) := by decide +kernel
theorem d_Reader_peek_11 : decode b_Reader_peek 11 = .ok (.aload_n 0, 1) := by decide +kernel
theorem d_Reader_peek_12 : decode b_Reader_peek 12 = .ok (.getfield 31, 3) := by decide +kernel
theorem d_Reader_peek_15 : decode b_Reader_peek 15 = .ok (.sipush 400, 3) := by decide +kernel
theorem d_Reader_peek_18 : decode b_Reader_peek 18 = .ok (.if_icmp .ge 30, 3) := by decide +kernel
theorem d_Reader_peek_21 : decode b_Reader_peek 21 = .ok (.aload_n 0, 1) := by decide +kernel
theorem d_Reader_peek_22 : decode b_Reader_peek 22 = .ok (.getfield 11, 3) := by decide +kernel
theorem d_Reader_peek_25 : decode b_Reader_peek 25 = .ok (.aload_n 0, 1) := by decide +kernel
theorem d_Reader_peek_26 : decode b_Reader_peek 26 = .ok (.getfield 31, 3) := by decide +kernel
theorem d_Reader_peek_29 : decode b_Reader_peek 29 = .ok (.iaload, 1) := by decide +kernel
theorem d_Reader_peek_30 : decode b_Reader_peek 30 = .ok (.bipush 32, 2) := by decide +kernel
theorem d_Reader_peek_32 : decode b_Reader_peek 32 = .ok (.if_icmp .ne 16, 3) := by decide +kernel
theorem d_Reader_peek_35 : decode b_Reader_peek 35 = .ok (.aload_n 0, 1) := by decide +kernel
theorem d_Reader_peek_36 : decode b_Reader_peek 36 = .ok (.dup, 1) := by decide +kernel
theorem d_Reader_peek_37 : decode b_Reader_peek 37 = .ok (.getfield 31, 3) := by decide +kernel
theorem d_Reader_peek_40 : decode b_Reader_peek 40 = .ok (.iconst 1, 1) := by decide +kernel
theorem d_Reader_peek_41 : decode b_Reader_peek 41 = .ok (.iadd, 1) := by decide +kernel
theorem d_Reader_peek_42 : decode b_Reader_peek 42 = .ok (.putfield 31, 3) := by decide +kernel
theorem d_Reader_peek_45 : decode b_Reader_peek 45 = .ok (.goto (-45), 3) := by decide +kernel
theorem d_Reader_peek_48 : decode b_Reader_peek 48 = .ok (.aload_n 0, 1) := by decide +kernel
theorem d_Reader_peek_49 : decode b_Reader_peek 49 = .ok (.getfield 31, 3) := by decide +kernel
theorem d_Reader_peek_52 : decode b_Reader_peek 52 = .ok (.aload_n 0, 1) := by decide +kernel
theorem d_Reader_peek_53 : decode b_Reader_peek 53 = .ok (.getfield 19, 3) := by decide +kernel
theorem d_Reader_peek_56 : decode b_Reader_peek 56 = .ok (.if_icmp .ge 25, 3) := by decide +kernel
theorem d_Reader_peek_59 : decode b_Reader_peek 59 = .ok (.aload_n 0, 1) := by decide +kernel
theorem d_Reader_peek_60 : decode b_Reader_peek 60 = .ok (.getfield 31, 3) := by decide +kernel
theorem d_Reader_peek_63 : decode b_Reader_peek 63 = .ok (.sipush 400, 3) := by decide +kernel
theorem d_Reader_peek_66 : decode b_Reader_peek 66 = .ok (.if_icmp .ge 15, 3) := by decide +kernel
theorem d_Reader_peek_69 : decode b_Reader_peek 69 = .ok (.aload_n 0, 1) := by decide +kernel
theorem d_Reader_peek_70 : decode b_Reader_peek 70 = .ok (.getfield 11, 3) := by decide +kernel
theorem d_Reader_peek_73 : decode b_Reader_peek 73 = .ok (.aload_n 0, 1) := by decide +kernel
theorem d_Reader_peek_74 : decode b_Reader_peek 74 = .ok (.getfield 31, 3) := by decide +kernel
theorem d_Reader_peek_77 : decode b_Reader_peek 77 = .ok (.iaload, 1) := by decide +kernel
theorem d_Reader_peek_78 : decode b_Reader_peek 78 = .ok (.goto 4, 3) := by decide +kernel
theorem d_Reader_peek_81 : decode b_Reader_peek 81 = .ok (.iconst (-1), 1) := by decide +kernel
theorem d_Reader_peek_82 : decode b_Reader_peek 82 = .ok (.ireturn, 1) := by decide +kernel
abbrev b_Reader_byteHere : ByteArray := prog_3_method_17_code
abbrev y_Reader_byteHere : MethodName := { cls := "HazardTables$Reader", name := "byteHere", desc := "()I" }
abbrev w_Reader_byteHere : List Cond := .code y_Reader_byteHere b_Reader_byteHere 1 (some .int) :: WA
theorem d_Reader_byteHere_0 : decode b_Reader_byteHere 0 = .ok (.aload_n 0, 1) := by decide +kernel
theorem d_Reader_byteHere_1 : decode b_Reader_byteHere 1 = .ok (.getfield 31, 3) := by decide +kernel
theorem d_Reader_byteHere_4 : decode b_Reader_byteHere 4 = .ok (.aload_n 0, 1) := by decide +kernel
theorem d_Reader_byteHere_5 : decode b_Reader_byteHere 5 = .ok (.getfield 19, 3) := by decide +kernel
theorem d_Reader_byteHere_8 : decode b_Reader_byteHere 8 = .ok (.if_icmp .ge 25, 3) := by decide +kernel
theorem d_Reader_byteHere_11 : decode b_Reader_byteHere 11 = .ok (.aload_n 0, 1) := by decide +kernel
theorem d_Reader_byteHere_12 : decode b_Reader_byteHere 12 = .ok (.getfield 31, 3) := by decide +kernel
theorem d_Reader_byteHere_15 : decode b_Reader_byteHere 15 = .ok (.sipush 400, 3) := by decide +kernel
theorem d_Reader_byteHere_18 : decode b_Reader_byteHere 18 = .ok (.if_icmp .ge 15, 3) := by decide +kernel
theorem d_Reader_byteHere_21 : decode b_Reader_byteHere 21 = .ok (.aload_n 0, 1) := by decide +kernel
theorem d_Reader_byteHere_22 : decode b_Reader_byteHere 22 = .ok (.getfield 11, 3) := by decide +kernel
theorem d_Reader_byteHere_25 : decode b_Reader_byteHere 25 = .ok (.aload_n 0, 1) := by decide +kernel
theorem d_Reader_byteHere_26 : decode b_Reader_byteHere 26 = .ok (.getfield 31, 3) := by decide +kernel
theorem d_Reader_byteHere_29 : decode b_Reader_byteHere 29 = .ok (.iaload, 1) := by decide +kernel
theorem d_Reader_byteHere_30 : decode b_Reader_byteHere 30 = .ok (.goto 4, 3) := by decide +kernel
theorem d_Reader_byteHere_33 : decode b_Reader_byteHere 33 = .ok (.iconst (-1), 1) := by decide +kernel
theorem d_Reader_byteHere_34 : decode b_Reader_byteHere 34 = .ok (.ireturn, 1) := by decide +kernel
abbrev b_Reader_wrong : ByteArray := prog_3_method_18_code
abbrev y_Reader_wrong : MethodName := { cls := "HazardTables$Reader", name := "wrong", desc := "(I)Z" }
abbrev w_Reader_wrong : List Cond := .code y_Reader_wrong b_Reader_wrong 2 (some .boolean) :: WA
theorem d_Reader_wrong_0 : decode b_Reader_wrong 0 = .ok (.aload_n 0, 1) := by decide +kernel
theorem d_Reader_wrong_1 : decode b_Reader_wrong 1 = .ok (.iload_n 1, 1) := by decide +kernel
theorem d_Reader_wrong_2 : decode b_Reader_wrong 2 = .ok (.putfield 15, 3) := by decide +kernel
theorem d_Reader_wrong_5 : decode b_Reader_wrong 5 = .ok (.iconst 0, 1) := by decide +kernel
theorem d_Reader_wrong_6 : decode b_Reader_wrong 6 = .ok (.ireturn, 1) := by decide +kernel
noncomputable def init_Reader : SReader := ((fun _ => 0), 0, 0, 0, (-1))
set_option maxHeartbeats 4000000 in
set_option maxRecDepth 100000 in
theorem k_Reader_init (l : Launch) (dC : Nat → ClassId) (dI : Nat → Nat → Nat) (h0 sz : Nat) : Met l y_Reader_init w_Reader_init ({ frames := 1, cells := 1, slots := 400, locals := 12 }) (cPc (dC, dI) [(h0, .inr (1, [.null, .int 0, .int 0, .int 0, .int 0]))] [] sz [.ref h0]) (va_Qv (fun (u : SReader) => u = init_Reader) (fun (u : SReader) (t : State) => ∃ (ad : Nat → Nat) (cA : Nat → ClassId), ad 0 = h0 ∧ va_P (dC, dI) vwCl (uw_Reader ad cA u) t.heap ∧ va_K (dC, dI) vwCl [(cA 1, .int)] t ∧ va_D (va_A [(h0, .inr (1, [.null, .int 0, .int 0, .int 0, .int 0]))] sz) (uw_Reader ad cA u)) (va_A [(h0, .inr (1, [.null, .int 0, .int 0, .int 0, .int 0]))] sz)) 1 400 (va_A [(h0, .inr (1, [.null, .int 0, .int 0, .int 0, .int 0]))] sz) := by
  refine Met.ofW (cc := b_Reader_init) (maxL := 1) (ret := none) (by decide) rfl ?_
  intro p e s m args below meth c s₁ B hml hv
  obtain ⟨rfl, hsz, hP, hK, hD0, hN⟩ := hv
  have hx := B.exec
  have hb := B.bytes
  have hr := B.returns
  have hts := atoms_spec (ws := w_Reader_init) B.pre
  have hown : s.vm.findClass "HazardTables$Reader" = some m.cls := findClass_of_methodNamed B.named
  have hlocks := B.notSynchronized
  have hin : meth.name = "<init>" := (name_of_methodNamed B.named B.method).1
  subst hsz
  have hD := hD0.self (sz := s.heap.size)
  generalize hAe : va_A [(h0, .inr (1, [.null, .int 0, .int 0, .int 0, .int 0]))] s.heap.size = A at hD ⊢
  have hA : ∀ q : Nat, s.heap.size ≤ q → A q := fun q h => by rw [← hAe]; exact Or.inr h
  have hS : va_S A s.heap s.heap [] := va_S.rf
  have hP : va_P (dC, dI) vwCl [(h0, .inr (1, [.null, .int 0, .int 0, .int 0, .int 0]))] s.heap := hP
  have hin_Reader : ∀ w ∈ u_ws "HazardTables$Reader" F_Reader 5, w ∈ w_Reader_init := fun w h => List.mem_cons_of_mem _ (hinA_Reader w h)
  have fl_11 := (hts _ (List.mem_cons_of_mem _ wd_72))
  have fl_15 := (hts _ (List.mem_cons_of_mem _ wd_76))
  have hl := lv_entry ([.ref h0]) (n := 1) (Nat.le_of_ble_eq_true rfl)
  rw [lg_entry_eq]
  generalize (lg_sl ([.ref h0]) ++ List.replicate (1 - (lg_sl ([.ref h0])).length) Slot.unset).toArray = ls at hl ⊢
  have hl : lv_has ls 1 [(0, .ref h0)] := hl
  refine lv_aload_n hx hb d_Reader_init_0 rfl (lv_at hl 0 rfl) ?_
  refine W.objInit hx hb hown (hts _ (List.mem_cons_of_mem _ wd_71)) (hts _ (List.mem_cons_of_mem _ wd_64)) (hts _ (List.mem_cons_of_mem _ wd_65)) rfl (by rw [hml]; exact hl.1) rfl d_Reader_init_1 (Nat.le_of_ble_eq_true rfl) (Nat.le_of_ble_eq_true rfl) ?_
  refine W.eq (g2 := F0 m 4 ls []) rfl ?_
  refine lv_aload_n hx hb d_Reader_init_4 rfl (lv_at hl 0 rfl) ?_
  refine lv_sipush (v := 400) hx hb d_Reader_init_5 (by decide) ?_
  refine va_newa (atype := .int) (ty := .int) (n := 400) (N' := 400) (a0 := (400, .inl (fun _ => 0))) hx hb (hts _ (List.mem_cons_of_mem _ wd_89)) rfl hK hP hD hS hA (fun _ => rfl) (by decide) (by decide) (by decide) (Nat.le_of_ble_eq_true rfl) (Nat.le_of_ble_eq_true rfl) d_Reader_init_8 (fun q1 c1 H hK hP hD hS => ?_)
  have hP : va_P (dC, dI) vwCl [(h0, .inr (1, [.null, .int 0, .int 0, .int 0, .int 0])), (q1, .inl (c1, 400, .inl (fun _ => 0)))] H := hP
  have hD : va_D A [(h0, .inr (1, [.null, .int 0, .int 0, .int 0, .int 0])), (q1, .inl (c1, 400, .inl (fun _ => 0)))] := hD
  have hK : va_K (dC, dI) vwCl [(c1, .int)] s := hK
  refine W.widen (k := 1) (n := 400) (Nat.le_refl _) (Nat.le_refl _) ?_
  refine va_putF (D := (dC, dI)) (ci := 1) (v := .ref q1) (ty := .array .int) (C := "HazardTables$Reader") (T := F_Reader) (N := 5) hx hb hts hin_Reader t_Reader t_Reader_ok n_Reader hown hK hP hD hS 0 rfl rfl 0 (by decide) fl_11 (fun _ h9 => h9) rfl hin rfl (by decide +kernel) rfl rfl (Nat.le_of_ble_eq_true rfl) d_Reader_init_10 (fun H locs hP hD hS => ?_)
  have hP : va_P (dC, dI) vwCl [(h0, .inr (1, [.ref q1, .int 0, .int 0, .int 0, .int 0])), (q1, .inl (c1, 400, .inl (fun _ => 0)))] H := hP
  have hD : va_D A [(h0, .inr (1, [.ref q1, .int 0, .int 0, .int 0, .int 0])), (q1, .inl (c1, 400, .inl (fun _ => 0)))] := hD
  refine lv_aload_n hx hb d_Reader_init_13 rfl (lv_at hl 0 rfl) ?_
  refine lv_iconst (v := -1) hx hb d_Reader_init_14 (by decide) ?_
  refine va_put (D := (dC, dI)) (ci := 1) (v := .int (-1)) (ty := .int) (C := "HazardTables$Reader") (T := F_Reader) (N := 5) hx hb hts hin_Reader t_Reader t_Reader_ok n_Reader hown hK hP hD hS 0 rfl rfl 4 (by decide) fl_15 (fun _ h9 => h9) rfl (by decide +kernel) rfl rfl (Nat.le_of_ble_eq_true rfl) d_Reader_init_15 (fun H locs hP hD hS => ?_)
  have hP : va_P (dC, dI) vwCl [(h0, .inr (1, [.ref q1, .int 0, .int 0, .int 0, .int (-1)])), (q1, .inl (c1, 400, .inl (fun _ => 0)))] H := hP
  have hD : va_D A [(h0, .inr (1, [.ref q1, .int 0, .int 0, .int 0, .int (-1)])), (q1, .inl (c1, 400, .inl (fun _ => 0)))] := hD
  exact W.vret hx hb hr (fun t ht hW => ⟨⟨init_Reader, rfl, rfl, (fun k => match k with | 0 => h0 | _ => q1), (fun k => match k with | _ => c1), rfl, by rw [ht]; exact hP, va_K.moved hW.alike hK, hD⟩, hS.F ht⟩) hS.2.2 d_Reader_init_18
noncomputable def f_Reader_hasRoomFor (rd : SReader) (x1 : Int32) : Option (Bool) :=
  (if ((400 : Int32) - rd.2.1) < x1 then
    (some (false))
   else
    (some (true))
   )
set_option maxHeartbeats 4000000 in
set_option maxRecDepth 100000 in
theorem k_Reader_hasRoomFor (l : Launch) (dC : Nat → ClassId) (dI : Nat → Nat → Nat) (ad_rd : Nat → Nat) (cA_rd : Nat → ClassId) (sz : Nat) (rd : SReader) (x1 : Int32) (res : Bool) (hf : f_Reader_hasRoomFor rd x1 = some res) : Met l y_Reader_hasRoomFor w_Reader_hasRoomFor ({ frames := 0, cells := 0, slots := 0, locals := 0 }) (cPc (dC, dI) (uw_Reader ad_rd cA_rd rd) [(cA_rd 1, .int)] sz [.ref (ad_rd 0), .int x1]) (va_Qi (fun (r : Int32) (u : Unit) => r = bI res) (fun (u : Unit) (t : State) => va_P (dC, dI) vwCl (uw_Reader ad_rd cA_rd rd) t.heap ∧ va_K (dC, dI) vwCl [(cA_rd 1, .int)] t ∧ va_D (va_A (uw_Reader ad_rd cA_rd rd) sz) (uw_Reader ad_rd cA_rd rd)) (va_A (uw_Reader ad_rd cA_rd rd) sz)) 0 0 (va_A (uw_Reader ad_rd cA_rd rd) sz) := by
  refine Met.ofW (cc := b_Reader_hasRoomFor) (maxL := 2) (ret := (some .boolean)) (by decide) rfl ?_
  intro p e s m args below meth c s₁ B hml hv
  obtain ⟨rfl, hsz, hP, hK, hD0, hN⟩ := hv
  have hx := B.exec
  have hb := B.bytes
  have hr := B.returns
  have hts := atoms_spec (ws := w_Reader_hasRoomFor) B.pre
  have hown : s.vm.findClass "HazardTables$Reader" = some m.cls := findClass_of_methodNamed B.named
  have hlocks := B.notSynchronized
  subst hsz
  have hD := hD0.self (sz := s.heap.size)
  generalize hAe : va_A (uw_Reader ad_rd cA_rd rd) s.heap.size = A at hD ⊢
  have hA : ∀ q : Nat, s.heap.size ≤ q → A q := fun q h => by rw [← hAe]; exact Or.inr h
  have hS : va_S A s.heap s.heap [] := va_S.rf
  have hP : va_P (dC, dI) vwCl (uw_Reader ad_rd cA_rd rd) s.heap := hP
  have fl_19 := (hts _ (List.mem_cons_of_mem _ wd_73))
  have hin_Reader : ∀ w ∈ u_ws "HazardTables$Reader" F_Reader 5, w ∈ w_Reader_hasRoomFor := fun w h => List.mem_cons_of_mem _ (hinA_Reader w h)
  have ret : ∀ (v : Bool) (u : Unit) (H : Heap) (locs : List Loc) (ls : Array Slot) (pc : Nat), decode b_Reader_hasRoomFor pc = .ok (.ireturn, 1) → (v = res) → va_P (dC, dI) vwCl (uw_Reader ad_rd cA_rd rd) H → va_D A (uw_Reader ad_rd cA_rd rd) → va_S A s.heap H locs → W p l e (headSpec w_Reader_hasRoomFor ({ frames := 0, cells := 0, slots := 0, locals := 0 })).room s m ([.ref (ad_rd 0), .int x1] : List Value).toArray below meth c H locs 0 0 (MQ below (va_Qi (fun (r : Int32) (u : Unit) => r = bI res) (fun (u : Unit) (t : State) => va_P (dC, dI) vwCl (uw_Reader ad_rd cA_rd rd) t.heap ∧ va_K (dC, dI) vwCl [(cA_rd 1, .int)] t ∧ va_D A (uw_Reader ad_rd cA_rd rd)) A) ([.ref (ad_rd 0), .int x1] : List Value).toArray s 0 0 A) (F0 m pc ls [.int (bI v)]) := fun v u H locs ls pc hd hp hP hD hS => W.zret (v := bI v) (ty := .boolean) hx hb hr (nar_bI v) (fun t ht hW => ⟨⟨bI v, u, rfl, (by rw [hp]), by rw [ht]; exact hP, va_K.moved hW.alike hK, hD⟩, hS.F ht⟩) hS.2.2 hd
  generalize (MQ below (va_Qi (fun (r : Int32) (u : Unit) => r = bI res) (fun (u : Unit) (t : State) => va_P (dC, dI) vwCl (uw_Reader ad_rd cA_rd rd) t.heap ∧ va_K (dC, dI) vwCl [(cA_rd 1, .int)] t ∧ va_D A (uw_Reader ad_rd cA_rd rd)) A) ([.ref (ad_rd 0), .int x1] : List Value).toArray s 0 0 A) = Q at ret ⊢
  have hl := lv_entry ([.ref (ad_rd 0), .int x1]) (n := 2) (Nat.le_of_ble_eq_true rfl)
  rw [lg_entry_eq]
  generalize (lg_sl ([.ref (ad_rd 0), .int x1]) ++ List.replicate (2 - (lg_sl ([.ref (ad_rd 0), .int x1])).length) Slot.unset).toArray = ls at hl ⊢
  have hl : lv_has ls 2 [(0, .ref (ad_rd 0)), (1, .int x1)] := hl
  have hf := hf
  rw [f_Reader_hasRoomFor] at hf
  obtain ⟨H, hH⟩ : ∃ H : Heap, H = s.heap := ⟨_, rfl⟩
  obtain ⟨locs, hlocs⟩ : ∃ L : List Loc, L = [] := ⟨_, rfl⟩
  have hP : va_P (dC, dI) vwCl (uw_Reader ad_rd cA_rd rd) H := by rw [hH]; exact hP
  have hS : va_S A s.heap H locs := by rw [hH, hlocs]; exact hS
  show W p l e (headSpec w_Reader_hasRoomFor ({ frames := 0, cells := 0, slots := 0, locals := 0 })).room s m ([.ref (ad_rd 0), .int x1] : List Value).toArray below meth c s.heap [] 0 0 Q (F0 m 0 ls [])
  suffices hgo : W p l e (headSpec w_Reader_hasRoomFor ({ frames := 0, cells := 0, slots := 0, locals := 0 })).room s m ([.ref (ad_rd 0), .int x1] : List Value).toArray below meth c H locs 0 0 Q (F0 m 0 ls []) by rw [hH, hlocs] at hgo; exact hgo
  clear hH hlocs
  refine lv_iload_n hx hb d_Reader_hasRoomFor_0 rfl (lv_at hl 1 rfl) ?_
  refine lv_sipush (v := (400 : Int32)) hx hb d_Reader_hasRoomFor_1 (by decide) ?_
  refine lv_aload_n hx hb d_Reader_hasRoomFor_4 rfl (lv_at hl 0 rfl) ?_
  refine va_get (D := (dC, dI)) (ci := 1) (v := .int rd.2.1) (C := "HazardTables$Reader") (T := F_Reader) (N := 5) hx hb hts hin_Reader hown hK hP 0 rfl rfl 1 (by decide) fl_19 (fun _ h9 => h9) rfl d_Reader_hasRoomFor_5 ?_
  refine lv_isub hx hb d_Reader_hasRoomFor_8 ?_
  refine lv_icmp_gt (tgt := 16) hx hb d_Reader_hasRoomFor_9 (by decide) (fun hc1 => ?_) (fun hc1 => ?_)
  · have hf := hf_t hf hc1
    refine lv_iconst (v := (0 : Int32)) hx hb d_Reader_hasRoomFor_16 (by decide) ?_
    exact ret false () H locs ls 17 d_Reader_hasRoomFor_17 (Option.some.inj hf) hP hD hS
  · have hf := hf_f hf hc1
    refine lv_iconst (v := (1 : Int32)) hx hb d_Reader_hasRoomFor_12 (by decide) ?_
    refine lv_goto (tgt := 17) hx hb d_Reader_hasRoomFor_13 (by decide) ?_
    exact ret true () H locs ls 17 d_Reader_hasRoomFor_17 (Option.some.inj hf) hP hD hS
noncomputable def f_Reader_append_5  : Nat → SReader → Int64 → Int32 → Option (Int32 × SReader)
  | 0, _, _, _ => none
  | n + 1, rd, y1, y4 =>
    (if y4 < 0 then
      (some (rd.2.1, rd))
     else
      (if (400 : Int32) ≤ rd.2.1 then
        (some (rd.2.1, rd))
       else
        (Option.bind (f_HT_byteOf y1 y4) fun u3 =>
          (if inb rd.2.1 400 then
            (f_Reader_append_5 n (upd rd.1 rd.2.1.toNatClampNeg u3, rd.2.1 + (1 : Int32), rd.2.2.1, rd.2.2.2.1, rd.2.2.2.2) y1 (y4 + (-1 : Int32)))
           else none)
         )
       )
     )
noncomputable def f_Reader_append (rd : SReader) (x1 : Int64) (x3 : Int32) : Option (Int32 × SReader) :=
  (f_Reader_append_5 4096 rd x1 (x3 - (1 : Int32)))
set_option maxHeartbeats 4000000 in
set_option maxRecDepth 100000 in
theorem k_Reader_append (l : Launch) (dC : Nat → ClassId) (dI : Nat → Nat → Nat) (ad_rd : Nat → Nat) (cA_rd : Nat → ClassId) (sz : Nat) (rd : SReader) (x1 : Int64) (x3 : Int32) (res : Int32 × SReader) (hf : f_Reader_append rd x1 x3 = some res) : Met l y_Reader_append w_Reader_append ({ frames := 1, cells := 0, slots := 0, locals := 22 }) (cPc (dC, dI) (uw_Reader ad_rd cA_rd rd) [(cA_rd 1, .int)] sz [.ref (ad_rd 0), .long x1, .int x3]) (va_Qi (fun (r : Int32) (u : SReader) => r = res.1 ∧ u = res.2) (fun (u : SReader) (t : State) => va_P (dC, dI) vwCl (uw_Reader ad_rd cA_rd u) t.heap ∧ va_K (dC, dI) vwCl [(cA_rd 1, .int)] t ∧ va_D (va_A (uw_Reader ad_rd cA_rd rd) sz) (uw_Reader ad_rd cA_rd u)) (va_A (uw_Reader ad_rd cA_rd rd) sz)) 0 0 (va_A (uw_Reader ad_rd cA_rd rd) sz) := by
  refine Met.ofW (cc := b_Reader_append) (maxL := 5) (ret := (some .int)) (by decide) rfl ?_
  intro p e s m args below meth c s₁ B hml hv
  obtain ⟨rfl, hsz, hP, hK, hD0, hN⟩ := hv
  have hx := B.exec
  have hb := B.bytes
  have hr := B.returns
  have hts := atoms_spec (ws := w_Reader_append) B.pre
  have hown : s.vm.findClass "HazardTables$Reader" = some m.cls := findClass_of_methodNamed B.named
  have hlocks := B.notSynchronized
  subst hsz
  have hD := hD0.self (sz := s.heap.size)
  generalize hAe : va_A (uw_Reader ad_rd cA_rd rd) s.heap.size = A at hD ⊢
  have hA : ∀ q : Nat, s.heap.size ≤ q → A q := fun q h => by rw [← hAe]; exact Or.inr h
  have hS : va_S A s.heap s.heap [] := va_S.rf
  have hP : va_P (dC, dI) vwCl (uw_Reader ad_rd cA_rd rd) s.heap := hP
  have fl_11 := (hts _ (List.mem_cons_of_mem _ wd_72))
  have fl_19 := (hts _ (List.mem_cons_of_mem _ wd_73))
  have hin_Reader : ∀ w ∈ u_ws "HazardTables$Reader" F_Reader 5, w ∈ w_Reader_append := fun w h => List.mem_cons_of_mem _ (hinA_Reader w h)
  have ret : ∀ (v : Int32) (u : SReader) (H : Heap) (locs : List Loc) (ls : Array Slot) (pc : Nat), decode b_Reader_append pc = .ok (.ireturn, 1) → (v = res.1 ∧ u = res.2) → va_P (dC, dI) vwCl (uw_Reader ad_rd cA_rd u) H → va_D A (uw_Reader ad_rd cA_rd u) → va_S A s.heap H locs → W p l e (headSpec w_Reader_append ({ frames := 1, cells := 0, slots := 0, locals := 22 })).room s m ([.ref (ad_rd 0), .long x1, .int x3] : List Value).toArray below meth c H locs 0 0 (MQ below (va_Qi (fun (r : Int32) (u : SReader) => r = res.1 ∧ u = res.2) (fun (u : SReader) (t : State) => va_P (dC, dI) vwCl (uw_Reader ad_rd cA_rd u) t.heap ∧ va_K (dC, dI) vwCl [(cA_rd 1, .int)] t ∧ va_D A (uw_Reader ad_rd cA_rd u)) A) ([.ref (ad_rd 0), .long x1, .int x3] : List Value).toArray s 0 0 A) (F0 m pc ls [.int v]) := fun v u H locs ls pc hd hp hP hD hS => W.iret (v := v) hx hb hr (fun t ht hW => ⟨⟨v, u, rfl, hp, by rw [ht]; exact hP, va_K.moved hW.alike hK, hD⟩, hS.F ht⟩) hS.2.2 hd
  generalize (MQ below (va_Qi (fun (r : Int32) (u : SReader) => r = res.1 ∧ u = res.2) (fun (u : SReader) (t : State) => va_P (dC, dI) vwCl (uw_Reader ad_rd cA_rd u) t.heap ∧ va_K (dC, dI) vwCl [(cA_rd 1, .int)] t ∧ va_D A (uw_Reader ad_rd cA_rd u)) A) ([.ref (ad_rd 0), .long x1, .int x3] : List Value).toArray s 0 0 A) = Q at ret ⊢
  have w_5 : ∀ (n : Nat) (rd : SReader) (y1 : Int64) (y4 : Int32) (H : Heap) (locs : List Loc) (ls : Array Slot), f_Reader_append_5 n rd y1 y4 = some res → va_P (dC, dI) vwCl (uw_Reader ad_rd cA_rd rd) H → va_D A (uw_Reader ad_rd cA_rd rd) → va_S A s.heap H locs → lv_has ls 5 [(0, .ref (ad_rd 0)), (1, .long y1), (4, .int y4)] → W p l e (headSpec w_Reader_append ({ frames := 1, cells := 0, slots := 0, locals := 22 })).room s m ([.ref (ad_rd 0), .long x1, .int x3] : List Value).toArray below meth c H locs 0 0 Q (F0 m 5 ls []) := by
    intro n
    induction n with
    | zero =>
      intro rd y1 y4 H locs ls hf hP hD hS hl
      rw [f_Reader_append_5] at hf; cases hf
    | succ n ih =>
      intro rd y1 y4 H locs ls hf hP hD hS hl
      rw [f_Reader_append_5] at hf
      refine lv_iload hx hb d_Reader_append_5 (lv_at hl 2 rfl) ?_
      refine lv_if_lt (tgt := 51) hx hb d_Reader_append_7 (by decide) (fun hc1 => ?_) (fun hc1 => ?_)
      · have hf := hf_t hf hc1
        refine lv_aload_n hx hb d_Reader_append_51 rfl (lv_at hl 0 rfl) ?_
        refine va_get (D := (dC, dI)) (ci := 1) (v := .int rd.2.1) (C := "HazardTables$Reader") (T := F_Reader) (N := 5) hx hb hts hin_Reader hown hK hP 0 rfl rfl 1 (by decide) fl_19 (fun _ h9 => h9) rfl d_Reader_append_52 ?_
        exact ret rd.2.1 rd H locs ls 55 d_Reader_append_55 (hf_e hf) hP hD hS
      · have hf := hf_f hf hc1
        refine lv_aload_n hx hb d_Reader_append_10 rfl (lv_at hl 0 rfl) ?_
        refine va_get (D := (dC, dI)) (ci := 1) (v := .int rd.2.1) (C := "HazardTables$Reader") (T := F_Reader) (N := 5) hx hb hts hin_Reader hown hK hP 0 rfl rfl 1 (by decide) fl_19 (fun _ h9 => h9) rfl d_Reader_append_11 ?_
        refine lv_sipush (v := (400 : Int32)) hx hb d_Reader_append_14 (by decide) ?_
        refine lv_icmp_ge (tgt := 51) hx hb d_Reader_append_17 (by decide) (fun hc2 => ?_) (fun hc2 => ?_)
        · have hf := hf_t hf hc2
          refine lv_aload_n hx hb d_Reader_append_51 rfl (lv_at hl 0 rfl) ?_
          refine va_get (D := (dC, dI)) (ci := 1) (v := .int rd.2.1) (C := "HazardTables$Reader") (T := F_Reader) (N := 5) hx hb hts hin_Reader hown hK hP 0 rfl rfl 1 (by decide) fl_19 (fun _ h9 => h9) rfl d_Reader_append_52 ?_
          exact ret rd.2.1 rd H locs ls 55 d_Reader_append_55 (hf_e hf) hP hD hS
        · have hf := hf_f hf hc2
          refine lv_aload_n hx hb d_Reader_append_20 rfl (lv_at hl 0 rfl) ?_
          refine va_get (D := (dC, dI)) (ci := 1) (v := .ref (ad_rd 1)) (C := "HazardTables$Reader") (T := F_Reader) (N := 5) hx hb hts hin_Reader hown hK hP 0 rfl rfl 0 (by decide) fl_11 (fun _ h9 => h9) rfl d_Reader_append_21 ?_
          refine lv_aload_n hx hb d_Reader_append_24 rfl (lv_at hl 0 rfl) ?_
          refine va_get (D := (dC, dI)) (ci := 1) (v := .int rd.2.1) (C := "HazardTables$Reader") (T := F_Reader) (N := 5) hx hb hts hin_Reader hown hK hP 0 rfl rfl 1 (by decide) fl_19 (fun _ h9 => h9) rfl d_Reader_append_25 ?_
          refine lv_lload_n hx hb d_Reader_append_28 rfl (lv_at hl 1 rfl) ?_
          refine lv_iload hx hb d_Reader_append_29 (lv_at hl 2 rfl) ?_
          obtain ⟨u3, hu3, hf⟩ := Option.bind_eq_some_iff.mp hf
          refine cl_i (wc := []) (wr := (uw_Reader ad_rd cA_rd rd)) (tysC := []) (wu := fun (u : Unit) => []) (wn := fun (u : Unit) => (uw_Reader ad_rd cA_rd rd)) [] [0, 1] [0, 1] [] hP hD hS hA hK rfl rfl (by decide +kernel) (by decide +kernel) (by decide +kernel) rfl (fun _ => rfl) (by decide +kernel) (fun hPc hKc hDc => (va_runSN (As := [.long y1, .int y4]) (rest := [.int rd.2.1, .ref (ad_rd 1)]) ⟨hx, hb, hml, hown, hts⟩ (k_HT_byteOf l dC dI  H.size y1 y4 u3 hu3) ⟨va_cnB 2 hts (gC wd_341) rfl rfl rfl hN.1 (hts _ (List.mem_cons_of_mem _ wd_43)) (by decide +kernel) ⟨Nat.le_of_ble_eq_true rfl, Nat.le_of_ble_eq_true rfl⟩, (hts _ (List.mem_cons_of_mem _ wd_340)), trivial⟩ (cl_preS hPc hKc hDc hN) rfl rfl hl.1 rfl (lv_room (Nat.le_of_ble_eq_true rfl)) d_Reader_append_31 ⟨Nat.le_of_ble_eq_true rfl, Nat.le_of_ble_eq_true rfl⟩)) (fun r u H locs hw hP hD hS => ?_)
          have hw := hw.symm
          subst hw
          have hP : va_P (dC, dI) vwCl (uw_Reader ad_rd cA_rd rd) H := hP
          have hD : va_D A (uw_Reader ad_rd cA_rd rd) := hD
          obtain ⟨hi4, hf⟩ := hf_g hf
          refine va_iast hx hb hK hP hD hS 1 0 rfl rfl hi4 d_Reader_append_34 (fun H locs hP hD hS => ?_)
          have hP : va_P (dC, dI) vwCl (uw_Reader ad_rd cA_rd (upd rd.1 rd.2.1.toNatClampNeg u3, rd.2.1, rd.2.2.1, rd.2.2.2.1, rd.2.2.2.2)) H := hP
          have hD : va_D A (uw_Reader ad_rd cA_rd (upd rd.1 rd.2.1.toNatClampNeg u3, rd.2.1, rd.2.2.1, rd.2.2.2.1, rd.2.2.2.2)) := hD
          refine lv_aload_n hx hb d_Reader_append_35 rfl (lv_at hl 0 rfl) ?_
          refine lv_dup hx hb d_Reader_append_36 rfl ?_
          refine va_get (D := (dC, dI)) (ci := 1) (v := .int rd.2.1) (C := "HazardTables$Reader") (T := F_Reader) (N := 5) hx hb hts hin_Reader hown hK hP 0 rfl rfl 1 (by decide) fl_19 (fun _ h9 => h9) rfl d_Reader_append_37 ?_
          refine lv_iconst (v := (1 : Int32)) hx hb d_Reader_append_40 (by decide) ?_
          refine lv_iadd hx hb d_Reader_append_41 ?_
          refine va_put (D := (dC, dI)) (ci := 1) (v := .int (rd.2.1 + (1 : Int32))) (ty := .int) (C := "HazardTables$Reader") (T := F_Reader) (N := 5) hx hb hts hin_Reader t_Reader t_Reader_ok n_Reader hown hK hP hD hS 0 rfl rfl 1 (by decide) fl_19 (fun _ h9 => h9) rfl (by decide +kernel) rfl rfl (Nat.le_of_ble_eq_true rfl) d_Reader_append_42 (fun H locs hP hD hS => ?_)
          have hP : va_P (dC, dI) vwCl (uw_Reader ad_rd cA_rd (upd rd.1 rd.2.1.toNatClampNeg u3, rd.2.1 + (1 : Int32), rd.2.2.1, rd.2.2.2.1, rd.2.2.2.2)) H := hP
          have hD : va_D A (uw_Reader ad_rd cA_rd (upd rd.1 rd.2.1.toNatClampNeg u3, rd.2.1 + (1 : Int32), rd.2.2.1, rd.2.2.2.1, rd.2.2.2.2)) := hD
          refine lv_iinc (v := y4 + (-1 : Int32)) (lv' := [(4, .int (y4 + (-1 : Int32))), (0, .ref (ad_rd 0)), (1, .long y1)]) hx hb d_Reader_append_45 hl (k := 2) rfl rfl (by decide) rfl (fun ls hl => ?_)
          refine lv_goto (tgt := 5) hx hb d_Reader_append_48 (by decide) ?_
          exact ih (upd rd.1 rd.2.1.toNatClampNeg u3, rd.2.1 + (1 : Int32), rd.2.2.1, rd.2.2.2.1, rd.2.2.2.2) y1 (y4 + (-1 : Int32)) H locs ls hf hP hD hS (lv_sub hl [1, 2, 0] rfl)
  have hl := lv_entry ([.ref (ad_rd 0), .long x1, .int x3]) (n := 5) (Nat.le_of_ble_eq_true rfl)
  rw [lg_entry_eq]
  generalize (lg_sl ([.ref (ad_rd 0), .long x1, .int x3]) ++ List.replicate (5 - (lg_sl ([.ref (ad_rd 0), .long x1, .int x3])).length) Slot.unset).toArray = ls at hl ⊢
  have hl : lv_has ls 5 [(0, .ref (ad_rd 0)), (1, .long x1), (3, .int x3)] := hl
  have hf := hf
  rw [f_Reader_append] at hf
  obtain ⟨H, hH⟩ : ∃ H : Heap, H = s.heap := ⟨_, rfl⟩
  obtain ⟨locs, hlocs⟩ : ∃ L : List Loc, L = [] := ⟨_, rfl⟩
  have hP : va_P (dC, dI) vwCl (uw_Reader ad_rd cA_rd rd) H := by rw [hH]; exact hP
  have hS : va_S A s.heap H locs := by rw [hH, hlocs]; exact hS
  show W p l e (headSpec w_Reader_append ({ frames := 1, cells := 0, slots := 0, locals := 22 })).room s m ([.ref (ad_rd 0), .long x1, .int x3] : List Value).toArray below meth c s.heap [] 0 0 Q (F0 m 0 ls [])
  suffices hgo : W p l e (headSpec w_Reader_append ({ frames := 1, cells := 0, slots := 0, locals := 22 })).room s m ([.ref (ad_rd 0), .long x1, .int x3] : List Value).toArray below meth c H locs 0 0 Q (F0 m 0 ls []) by rw [hH, hlocs] at hgo; exact hgo
  clear hH hlocs
  refine lv_iload_n hx hb d_Reader_append_0 rfl (lv_at hl 2 rfl) ?_
  refine lv_iconst (v := (1 : Int32)) hx hb d_Reader_append_1 (by decide) ?_
  refine lv_isub hx hb d_Reader_append_2 ?_
  refine lv_istore (lv' := [(4, .int (x3 - (1 : Int32))), (0, .ref (ad_rd 0)), (1, .long x1), (3, .int x3)]) hx hb d_Reader_append_3 hl (by decide) rfl (fun ls hl => ?_)
  exact w_5 4096 rd x1 (x3 - (1 : Int32)) H locs ls hf hP hD hS (lv_sub hl [1, 2, 0] rfl)
noncomputable def f_Reader_peek_48  (rd : SReader) : Option (Int32 × SReader) :=
  (if rd.2.1 ≤ rd.2.2.1 then
    (some ((-1 : Int32), rd))
   else
    (if (400 : Int32) ≤ rd.2.2.1 then
      (some ((-1 : Int32), rd))
     else
      (if inb rd.2.2.1 400 then
        (some (rd.1 rd.2.2.1.toNatClampNeg, rd))
       else none)
     )
   )
noncomputable def f_Reader_peek_0  : Nat → SReader → Option (Int32 × SReader)
  | 0, _ => none
  | n + 1, rd =>
    (if rd.2.1 ≤ rd.2.2.1 then
      (f_Reader_peek_48 rd)
     else
      (if (400 : Int32) ≤ rd.2.2.1 then
        (f_Reader_peek_48 rd)
       else
        (if inb rd.2.2.1 400 then
          (if (rd.1 rd.2.2.1.toNatClampNeg) = (32 : Int32) then
            (f_Reader_peek_0 n (rd.1, rd.2.1, rd.2.2.1 + (1 : Int32), rd.2.2.2.1, rd.2.2.2.2))
           else
            (f_Reader_peek_48 rd)
           )
         else none)
       )
     )
noncomputable def f_Reader_peek (rd : SReader) : Option (Int32 × SReader) :=
  (f_Reader_peek_0 4096 rd)
set_option maxHeartbeats 4000000 in
set_option maxRecDepth 100000 in
theorem k_Reader_peek (l : Launch) (dC : Nat → ClassId) (dI : Nat → Nat → Nat) (ad_rd : Nat → Nat) (cA_rd : Nat → ClassId) (sz : Nat) (rd : SReader) (res : Int32 × SReader) (hf : f_Reader_peek rd = some res) : Met l y_Reader_peek w_Reader_peek ({ frames := 0, cells := 0, slots := 0, locals := 0 }) (cPc (dC, dI) (uw_Reader ad_rd cA_rd rd) [(cA_rd 1, .int)] sz [.ref (ad_rd 0)]) (va_Qi (fun (r : Int32) (u : SReader) => r = res.1 ∧ u = res.2) (fun (u : SReader) (t : State) => va_P (dC, dI) vwCl (uw_Reader ad_rd cA_rd u) t.heap ∧ va_K (dC, dI) vwCl [(cA_rd 1, .int)] t ∧ va_D (va_A (uw_Reader ad_rd cA_rd rd) sz) (uw_Reader ad_rd cA_rd u)) (va_A (uw_Reader ad_rd cA_rd rd) sz)) 0 0 (va_A (uw_Reader ad_rd cA_rd rd) sz) := by
  refine Met.ofW (cc := b_Reader_peek) (maxL := 1) (ret := (some .int)) (by decide) rfl ?_
  intro p e s m args below meth c s₁ B hml hv
  obtain ⟨rfl, hsz, hP, hK, hD0, hN⟩ := hv
  have hx := B.exec
  have hb := B.bytes
  have hr := B.returns
  have hts := atoms_spec (ws := w_Reader_peek) B.pre
  have hown : s.vm.findClass "HazardTables$Reader" = some m.cls := findClass_of_methodNamed B.named
  have hlocks := B.notSynchronized
  subst hsz
  have hD := hD0.self (sz := s.heap.size)
  generalize hAe : va_A (uw_Reader ad_rd cA_rd rd) s.heap.size = A at hD ⊢
  have hA : ∀ q : Nat, s.heap.size ≤ q → A q := fun q h => by rw [← hAe]; exact Or.inr h
  have hS : va_S A s.heap s.heap [] := va_S.rf
  have hP : va_P (dC, dI) vwCl (uw_Reader ad_rd cA_rd rd) s.heap := hP
  have fl_11 := (hts _ (List.mem_cons_of_mem _ wd_72))
  have fl_19 := (hts _ (List.mem_cons_of_mem _ wd_73))
  have fl_31 := (hts _ (List.mem_cons_of_mem _ wd_74))
  have hin_Reader : ∀ w ∈ u_ws "HazardTables$Reader" F_Reader 5, w ∈ w_Reader_peek := fun w h => List.mem_cons_of_mem _ (hinA_Reader w h)
  have ret : ∀ (v : Int32) (u : SReader) (H : Heap) (locs : List Loc) (ls : Array Slot) (pc : Nat), decode b_Reader_peek pc = .ok (.ireturn, 1) → (v = res.1 ∧ u = res.2) → va_P (dC, dI) vwCl (uw_Reader ad_rd cA_rd u) H → va_D A (uw_Reader ad_rd cA_rd u) → va_S A s.heap H locs → W p l e (headSpec w_Reader_peek ({ frames := 0, cells := 0, slots := 0, locals := 0 })).room s m ([.ref (ad_rd 0)] : List Value).toArray below meth c H locs 0 0 (MQ below (va_Qi (fun (r : Int32) (u : SReader) => r = res.1 ∧ u = res.2) (fun (u : SReader) (t : State) => va_P (dC, dI) vwCl (uw_Reader ad_rd cA_rd u) t.heap ∧ va_K (dC, dI) vwCl [(cA_rd 1, .int)] t ∧ va_D A (uw_Reader ad_rd cA_rd u)) A) ([.ref (ad_rd 0)] : List Value).toArray s 0 0 A) (F0 m pc ls [.int v]) := fun v u H locs ls pc hd hp hP hD hS => W.iret (v := v) hx hb hr (fun t ht hW => ⟨⟨v, u, rfl, hp, by rw [ht]; exact hP, va_K.moved hW.alike hK, hD⟩, hS.F ht⟩) hS.2.2 hd
  generalize (MQ below (va_Qi (fun (r : Int32) (u : SReader) => r = res.1 ∧ u = res.2) (fun (u : SReader) (t : State) => va_P (dC, dI) vwCl (uw_Reader ad_rd cA_rd u) t.heap ∧ va_K (dC, dI) vwCl [(cA_rd 1, .int)] t ∧ va_D A (uw_Reader ad_rd cA_rd u)) A) ([.ref (ad_rd 0)] : List Value).toArray s 0 0 A) = Q at ret ⊢
  have w_48 : ∀ (rd : SReader)  (H : Heap) (locs : List Loc) (ls : Array Slot), f_Reader_peek_48 rd = some res → va_P (dC, dI) vwCl (uw_Reader ad_rd cA_rd rd) H → va_D A (uw_Reader ad_rd cA_rd rd) → va_S A s.heap H locs → lv_has ls 1 [(0, .ref (ad_rd 0))] → W p l e (headSpec w_Reader_peek ({ frames := 0, cells := 0, slots := 0, locals := 0 })).room s m ([.ref (ad_rd 0)] : List Value).toArray below meth c H locs 0 0 Q (F0 m 48 ls []) := by
    intro rd H locs ls hf hP hD hS hl
    rw [f_Reader_peek_48] at hf
    refine lv_aload_n hx hb d_Reader_peek_48 rfl (lv_at hl 0 rfl) ?_
    refine va_get (D := (dC, dI)) (ci := 1) (v := .int rd.2.2.1) (C := "HazardTables$Reader") (T := F_Reader) (N := 5) hx hb hts hin_Reader hown hK hP 0 rfl rfl 2 (by decide) fl_31 (fun _ h9 => h9) rfl d_Reader_peek_49 ?_
    refine lv_aload_n hx hb d_Reader_peek_52 rfl (lv_at hl 0 rfl) ?_
    refine va_get (D := (dC, dI)) (ci := 1) (v := .int rd.2.1) (C := "HazardTables$Reader") (T := F_Reader) (N := 5) hx hb hts hin_Reader hown hK hP 0 rfl rfl 1 (by decide) fl_19 (fun _ h9 => h9) rfl d_Reader_peek_53 ?_
    refine lv_icmp_ge (tgt := 81) hx hb d_Reader_peek_56 (by decide) (fun hc5 => ?_) (fun hc5 => ?_)
    · have hf := hf_t hf hc5
      refine lv_iconst (v := (-1 : Int32)) hx hb d_Reader_peek_81 (by decide) ?_
      exact ret (-1 : Int32) rd H locs ls 82 d_Reader_peek_82 (hf_e hf) hP hD hS
    · have hf := hf_f hf hc5
      refine lv_aload_n hx hb d_Reader_peek_59 rfl (lv_at hl 0 rfl) ?_
      refine va_get (D := (dC, dI)) (ci := 1) (v := .int rd.2.2.1) (C := "HazardTables$Reader") (T := F_Reader) (N := 5) hx hb hts hin_Reader hown hK hP 0 rfl rfl 2 (by decide) fl_31 (fun _ h9 => h9) rfl d_Reader_peek_60 ?_
      refine lv_sipush (v := (400 : Int32)) hx hb d_Reader_peek_63 (by decide) ?_
      refine lv_icmp_ge (tgt := 81) hx hb d_Reader_peek_66 (by decide) (fun hc6 => ?_) (fun hc6 => ?_)
      · have hf := hf_t hf hc6
        refine lv_iconst (v := (-1 : Int32)) hx hb d_Reader_peek_81 (by decide) ?_
        exact ret (-1 : Int32) rd H locs ls 82 d_Reader_peek_82 (hf_e hf) hP hD hS
      · have hf := hf_f hf hc6
        refine lv_aload_n hx hb d_Reader_peek_69 rfl (lv_at hl 0 rfl) ?_
        refine va_get (D := (dC, dI)) (ci := 1) (v := .ref (ad_rd 1)) (C := "HazardTables$Reader") (T := F_Reader) (N := 5) hx hb hts hin_Reader hown hK hP 0 rfl rfl 0 (by decide) fl_11 (fun _ h9 => h9) rfl d_Reader_peek_70 ?_
        refine lv_aload_n hx hb d_Reader_peek_73 rfl (lv_at hl 0 rfl) ?_
        refine va_get (D := (dC, dI)) (ci := 1) (v := .int rd.2.2.1) (C := "HazardTables$Reader") (T := F_Reader) (N := 5) hx hb hts hin_Reader hown hK hP 0 rfl rfl 2 (by decide) fl_31 (fun _ h9 => h9) rfl d_Reader_peek_74 ?_
        obtain ⟨hi7, hf⟩ := hf_g hf
        refine va_iald hx hb hK hP 1 0 rfl rfl hi7 d_Reader_peek_77 ?_
        refine lv_goto (tgt := 82) hx hb d_Reader_peek_78 (by decide) ?_
        exact ret (rd.1 rd.2.2.1.toNatClampNeg) rd H locs ls 82 d_Reader_peek_82 (hf_e hf) hP hD hS
  have w_0 : ∀ (n : Nat) (rd : SReader)  (H : Heap) (locs : List Loc) (ls : Array Slot), f_Reader_peek_0 n rd = some res → va_P (dC, dI) vwCl (uw_Reader ad_rd cA_rd rd) H → va_D A (uw_Reader ad_rd cA_rd rd) → va_S A s.heap H locs → lv_has ls 1 [(0, .ref (ad_rd 0))] → W p l e (headSpec w_Reader_peek ({ frames := 0, cells := 0, slots := 0, locals := 0 })).room s m ([.ref (ad_rd 0)] : List Value).toArray below meth c H locs 0 0 Q (F0 m 0 ls []) := by
    intro n
    induction n with
    | zero =>
      intro rd H locs ls hf hP hD hS hl
      rw [f_Reader_peek_0] at hf; cases hf
    | succ n ih =>
      intro rd H locs ls hf hP hD hS hl
      rw [f_Reader_peek_0] at hf
      refine lv_aload_n hx hb d_Reader_peek_0 rfl (lv_at hl 0 rfl) ?_
      refine va_get (D := (dC, dI)) (ci := 1) (v := .int rd.2.2.1) (C := "HazardTables$Reader") (T := F_Reader) (N := 5) hx hb hts hin_Reader hown hK hP 0 rfl rfl 2 (by decide) fl_31 (fun _ h9 => h9) rfl d_Reader_peek_1 ?_
      refine lv_aload_n hx hb d_Reader_peek_4 rfl (lv_at hl 0 rfl) ?_
      refine va_get (D := (dC, dI)) (ci := 1) (v := .int rd.2.1) (C := "HazardTables$Reader") (T := F_Reader) (N := 5) hx hb hts hin_Reader hown hK hP 0 rfl rfl 1 (by decide) fl_19 (fun _ h9 => h9) rfl d_Reader_peek_5 ?_
      refine lv_icmp_ge (tgt := 48) hx hb d_Reader_peek_8 (by decide) (fun hc1 => ?_) (fun hc1 => ?_)
      · have hf := hf_t hf hc1
        exact w_48 rd H locs ls hf hP hD hS (lv_sub hl [0] rfl)
      · have hf := hf_f hf hc1
        refine lv_aload_n hx hb d_Reader_peek_11 rfl (lv_at hl 0 rfl) ?_
        refine va_get (D := (dC, dI)) (ci := 1) (v := .int rd.2.2.1) (C := "HazardTables$Reader") (T := F_Reader) (N := 5) hx hb hts hin_Reader hown hK hP 0 rfl rfl 2 (by decide) fl_31 (fun _ h9 => h9) rfl d_Reader_peek_12 ?_
        refine lv_sipush (v := (400 : Int32)) hx hb d_Reader_peek_15 (by decide) ?_
        refine lv_icmp_ge (tgt := 48) hx hb d_Reader_peek_18 (by decide) (fun hc2 => ?_) (fun hc2 => ?_)
        · have hf := hf_t hf hc2
          exact w_48 rd H locs ls hf hP hD hS (lv_sub hl [0] rfl)
        · have hf := hf_f hf hc2
          refine lv_aload_n hx hb d_Reader_peek_21 rfl (lv_at hl 0 rfl) ?_
          refine va_get (D := (dC, dI)) (ci := 1) (v := .ref (ad_rd 1)) (C := "HazardTables$Reader") (T := F_Reader) (N := 5) hx hb hts hin_Reader hown hK hP 0 rfl rfl 0 (by decide) fl_11 (fun _ h9 => h9) rfl d_Reader_peek_22 ?_
          refine lv_aload_n hx hb d_Reader_peek_25 rfl (lv_at hl 0 rfl) ?_
          refine va_get (D := (dC, dI)) (ci := 1) (v := .int rd.2.2.1) (C := "HazardTables$Reader") (T := F_Reader) (N := 5) hx hb hts hin_Reader hown hK hP 0 rfl rfl 2 (by decide) fl_31 (fun _ h9 => h9) rfl d_Reader_peek_26 ?_
          obtain ⟨hi3, hf⟩ := hf_g hf
          refine va_iald hx hb hK hP 1 0 rfl rfl hi3 d_Reader_peek_29 ?_
          refine lv_bipush (v := (32 : Int32)) hx hb d_Reader_peek_30 (by decide) ?_
          refine lv_icmp_ne (tgt := 48) hx hb d_Reader_peek_32 (by decide) (fun hc4 => ?_) (fun hc4 => ?_)
          · have hf := hf_f hf hc4
            exact w_48 rd H locs ls hf hP hD hS (lv_sub hl [0] rfl)
          · have hf := hf_t hf hc4
            refine lv_aload_n hx hb d_Reader_peek_35 rfl (lv_at hl 0 rfl) ?_
            refine lv_dup hx hb d_Reader_peek_36 rfl ?_
            refine va_get (D := (dC, dI)) (ci := 1) (v := .int rd.2.2.1) (C := "HazardTables$Reader") (T := F_Reader) (N := 5) hx hb hts hin_Reader hown hK hP 0 rfl rfl 2 (by decide) fl_31 (fun _ h9 => h9) rfl d_Reader_peek_37 ?_
            refine lv_iconst (v := (1 : Int32)) hx hb d_Reader_peek_40 (by decide) ?_
            refine lv_iadd hx hb d_Reader_peek_41 ?_
            refine va_put (D := (dC, dI)) (ci := 1) (v := .int (rd.2.2.1 + (1 : Int32))) (ty := .int) (C := "HazardTables$Reader") (T := F_Reader) (N := 5) hx hb hts hin_Reader t_Reader t_Reader_ok n_Reader hown hK hP hD hS 0 rfl rfl 2 (by decide) fl_31 (fun _ h9 => h9) rfl (by decide +kernel) rfl rfl (Nat.le_of_ble_eq_true rfl) d_Reader_peek_42 (fun H locs hP hD hS => ?_)
            have hP : va_P (dC, dI) vwCl (uw_Reader ad_rd cA_rd (rd.1, rd.2.1, rd.2.2.1 + (1 : Int32), rd.2.2.2.1, rd.2.2.2.2)) H := hP
            have hD : va_D A (uw_Reader ad_rd cA_rd (rd.1, rd.2.1, rd.2.2.1 + (1 : Int32), rd.2.2.2.1, rd.2.2.2.2)) := hD
            refine lv_goto (tgt := 0) hx hb d_Reader_peek_45 (by decide) ?_
            exact ih (rd.1, rd.2.1, rd.2.2.1 + (1 : Int32), rd.2.2.2.1, rd.2.2.2.2) H locs ls hf hP hD hS (lv_sub hl [0] rfl)
  have hl := lv_entry ([.ref (ad_rd 0)]) (n := 1) (Nat.le_of_ble_eq_true rfl)
  rw [lg_entry_eq]
  generalize (lg_sl ([.ref (ad_rd 0)]) ++ List.replicate (1 - (lg_sl ([.ref (ad_rd 0)])).length) Slot.unset).toArray = ls at hl ⊢
  have hl : lv_has ls 1 [(0, .ref (ad_rd 0))] := hl
  have hf := hf
  rw [f_Reader_peek] at hf
  obtain ⟨H, hH⟩ : ∃ H : Heap, H = s.heap := ⟨_, rfl⟩
  obtain ⟨locs, hlocs⟩ : ∃ L : List Loc, L = [] := ⟨_, rfl⟩
  have hP : va_P (dC, dI) vwCl (uw_Reader ad_rd cA_rd rd) H := by rw [hH]; exact hP
  have hS : va_S A s.heap H locs := by rw [hH, hlocs]; exact hS
  show W p l e (headSpec w_Reader_peek ({ frames := 0, cells := 0, slots := 0, locals := 0 })).room s m ([.ref (ad_rd 0)] : List Value).toArray below meth c s.heap [] 0 0 Q (F0 m 0 ls [])
  suffices hgo : W p l e (headSpec w_Reader_peek ({ frames := 0, cells := 0, slots := 0, locals := 0 })).room s m ([.ref (ad_rd 0)] : List Value).toArray below meth c H locs 0 0 Q (F0 m 0 ls []) by rw [hH, hlocs] at hgo; exact hgo
  clear hH hlocs
  exact w_0 4096 rd H locs ls hf hP hD hS (lv_sub hl [0] rfl)
noncomputable def f_Reader_wrong (rd : SReader) (x1 : Int32) : Option (Bool × SReader) :=
  (some (false, (rd.1, rd.2.1, rd.2.2.1, rd.2.2.2.1, x1)))
set_option maxHeartbeats 4000000 in
set_option maxRecDepth 100000 in
theorem k_Reader_wrong (l : Launch) (dC : Nat → ClassId) (dI : Nat → Nat → Nat) (ad_rd : Nat → Nat) (cA_rd : Nat → ClassId) (sz : Nat) (rd : SReader) (x1 : Int32) (res : Bool × SReader) (hf : f_Reader_wrong rd x1 = some res) : Met l y_Reader_wrong w_Reader_wrong ({ frames := 0, cells := 0, slots := 0, locals := 0 }) (cPc (dC, dI) (uw_Reader ad_rd cA_rd rd) [(cA_rd 1, .int)] sz [.ref (ad_rd 0), .int x1]) (va_Qi (fun (r : Int32) (u : SReader) => r = bI res.1 ∧ u = res.2) (fun (u : SReader) (t : State) => va_P (dC, dI) vwCl (uw_Reader ad_rd cA_rd u) t.heap ∧ va_K (dC, dI) vwCl [(cA_rd 1, .int)] t ∧ va_D (va_A (uw_Reader ad_rd cA_rd rd) sz) (uw_Reader ad_rd cA_rd u)) (va_A (uw_Reader ad_rd cA_rd rd) sz)) 0 0 (va_A (uw_Reader ad_rd cA_rd rd) sz) := by
  refine Met.ofW (cc := b_Reader_wrong) (maxL := 2) (ret := (some .boolean)) (by decide) rfl ?_
  intro p e s m args below meth c s₁ B hml hv
  obtain ⟨rfl, hsz, hP, hK, hD0, hN⟩ := hv
  have hx := B.exec
  have hb := B.bytes
  have hr := B.returns
  have hts := atoms_spec (ws := w_Reader_wrong) B.pre
  have hown : s.vm.findClass "HazardTables$Reader" = some m.cls := findClass_of_methodNamed B.named
  have hlocks := B.notSynchronized
  subst hsz
  have hD := hD0.self (sz := s.heap.size)
  generalize hAe : va_A (uw_Reader ad_rd cA_rd rd) s.heap.size = A at hD ⊢
  have hA : ∀ q : Nat, s.heap.size ≤ q → A q := fun q h => by rw [← hAe]; exact Or.inr h
  have hS : va_S A s.heap s.heap [] := va_S.rf
  have hP : va_P (dC, dI) vwCl (uw_Reader ad_rd cA_rd rd) s.heap := hP
  have fl_15 := (hts _ (List.mem_cons_of_mem _ wd_76))
  have hin_Reader : ∀ w ∈ u_ws "HazardTables$Reader" F_Reader 5, w ∈ w_Reader_wrong := fun w h => List.mem_cons_of_mem _ (hinA_Reader w h)
  have ret : ∀ (v : Bool) (u : SReader) (H : Heap) (locs : List Loc) (ls : Array Slot) (pc : Nat), decode b_Reader_wrong pc = .ok (.ireturn, 1) → (v = res.1 ∧ u = res.2) → va_P (dC, dI) vwCl (uw_Reader ad_rd cA_rd u) H → va_D A (uw_Reader ad_rd cA_rd u) → va_S A s.heap H locs → W p l e (headSpec w_Reader_wrong ({ frames := 0, cells := 0, slots := 0, locals := 0 })).room s m ([.ref (ad_rd 0), .int x1] : List Value).toArray below meth c H locs 0 0 (MQ below (va_Qi (fun (r : Int32) (u : SReader) => r = bI res.1 ∧ u = res.2) (fun (u : SReader) (t : State) => va_P (dC, dI) vwCl (uw_Reader ad_rd cA_rd u) t.heap ∧ va_K (dC, dI) vwCl [(cA_rd 1, .int)] t ∧ va_D A (uw_Reader ad_rd cA_rd u)) A) ([.ref (ad_rd 0), .int x1] : List Value).toArray s 0 0 A) (F0 m pc ls [.int (bI v)]) := fun v u H locs ls pc hd hp hP hD hS => W.zret (v := bI v) (ty := .boolean) hx hb hr (nar_bI v) (fun t ht hW => ⟨⟨bI v, u, rfl, ⟨by rw [hp.1], hp.2⟩, by rw [ht]; exact hP, va_K.moved hW.alike hK, hD⟩, hS.F ht⟩) hS.2.2 hd
  generalize (MQ below (va_Qi (fun (r : Int32) (u : SReader) => r = bI res.1 ∧ u = res.2) (fun (u : SReader) (t : State) => va_P (dC, dI) vwCl (uw_Reader ad_rd cA_rd u) t.heap ∧ va_K (dC, dI) vwCl [(cA_rd 1, .int)] t ∧ va_D A (uw_Reader ad_rd cA_rd u)) A) ([.ref (ad_rd 0), .int x1] : List Value).toArray s 0 0 A) = Q at ret ⊢
  have hl := lv_entry ([.ref (ad_rd 0), .int x1]) (n := 2) (Nat.le_of_ble_eq_true rfl)
  rw [lg_entry_eq]
  generalize (lg_sl ([.ref (ad_rd 0), .int x1]) ++ List.replicate (2 - (lg_sl ([.ref (ad_rd 0), .int x1])).length) Slot.unset).toArray = ls at hl ⊢
  have hl : lv_has ls 2 [(0, .ref (ad_rd 0)), (1, .int x1)] := hl
  have hf := hf
  rw [f_Reader_wrong] at hf
  obtain ⟨H, hH⟩ : ∃ H : Heap, H = s.heap := ⟨_, rfl⟩
  obtain ⟨locs, hlocs⟩ : ∃ L : List Loc, L = [] := ⟨_, rfl⟩
  have hP : va_P (dC, dI) vwCl (uw_Reader ad_rd cA_rd rd) H := by rw [hH]; exact hP
  have hS : va_S A s.heap H locs := by rw [hH, hlocs]; exact hS
  show W p l e (headSpec w_Reader_wrong ({ frames := 0, cells := 0, slots := 0, locals := 0 })).room s m ([.ref (ad_rd 0), .int x1] : List Value).toArray below meth c s.heap [] 0 0 Q (F0 m 0 ls [])
  suffices hgo : W p l e (headSpec w_Reader_wrong ({ frames := 0, cells := 0, slots := 0, locals := 0 })).room s m ([.ref (ad_rd 0), .int x1] : List Value).toArray below meth c H locs 0 0 Q (F0 m 0 ls []) by rw [hH, hlocs] at hgo; exact hgo
  clear hH hlocs
  refine lv_aload_n hx hb d_Reader_wrong_0 rfl (lv_at hl 0 rfl) ?_
  refine lv_iload_n hx hb d_Reader_wrong_1 rfl (lv_at hl 1 rfl) ?_
  refine va_put (D := (dC, dI)) (ci := 1) (v := .int x1) (ty := .int) (C := "HazardTables$Reader") (T := F_Reader) (N := 5) hx hb hts hin_Reader t_Reader t_Reader_ok n_Reader hown hK hP hD hS 0 rfl rfl 4 (by decide) fl_15 (fun _ h9 => h9) rfl (by decide +kernel) rfl rfl (Nat.le_of_ble_eq_true rfl) d_Reader_wrong_2 (fun H locs hP hD hS => ?_)
  have hP : va_P (dC, dI) vwCl (uw_Reader ad_rd cA_rd (rd.1, rd.2.1, rd.2.2.1, rd.2.2.2.1, x1)) H := hP
  have hD : va_D A (uw_Reader ad_rd cA_rd (rd.1, rd.2.1, rd.2.2.1, rd.2.2.2.1, x1)) := hD
  refine lv_iconst (v := (0 : Int32)) hx hb d_Reader_wrong_5 (by decide) ?_
  exact ret false (rd.1, rd.2.1, rd.2.2.1, rd.2.2.2.1, x1) H locs ls 6 d_Reader_wrong_6 (hf_e hf) hP hD hS
noncomputable def f_Reader_byteHere (rd : SReader) : Option (Int32) :=
  (if rd.2.1 ≤ rd.2.2.1 then
    (some ((-1 : Int32)))
   else
    (if (400 : Int32) ≤ rd.2.2.1 then
      (some ((-1 : Int32)))
     else
      (if inb rd.2.2.1 400 then
        (some (rd.1 rd.2.2.1.toNatClampNeg))
       else none)
     )
   )
set_option maxHeartbeats 4000000 in
set_option maxRecDepth 100000 in
theorem k_Reader_byteHere (l : Launch) (dC : Nat → ClassId) (dI : Nat → Nat → Nat) (ad_rd : Nat → Nat) (cA_rd : Nat → ClassId) (sz : Nat) (rd : SReader) (res : Int32) (hf : f_Reader_byteHere rd = some res) : Met l y_Reader_byteHere w_Reader_byteHere ({ frames := 0, cells := 0, slots := 0, locals := 0 }) (cPc (dC, dI) (uw_Reader ad_rd cA_rd rd) [(cA_rd 1, .int)] sz [.ref (ad_rd 0)]) (va_Qi (fun (r : Int32) (u : Unit) => r = res) (fun (u : Unit) (t : State) => va_P (dC, dI) vwCl (uw_Reader ad_rd cA_rd rd) t.heap ∧ va_K (dC, dI) vwCl [(cA_rd 1, .int)] t ∧ va_D (va_A (uw_Reader ad_rd cA_rd rd) sz) (uw_Reader ad_rd cA_rd rd)) (va_A (uw_Reader ad_rd cA_rd rd) sz)) 0 0 (va_A (uw_Reader ad_rd cA_rd rd) sz) := by
  refine Met.ofW (cc := b_Reader_byteHere) (maxL := 1) (ret := (some .int)) (by decide) rfl ?_
  intro p e s m args below meth c s₁ B hml hv
  obtain ⟨rfl, hsz, hP, hK, hD0, hN⟩ := hv
  have hx := B.exec
  have hb := B.bytes
  have hr := B.returns
  have hts := atoms_spec (ws := w_Reader_byteHere) B.pre
  have hown : s.vm.findClass "HazardTables$Reader" = some m.cls := findClass_of_methodNamed B.named
  have hlocks := B.notSynchronized
  subst hsz
  have hD := hD0.self (sz := s.heap.size)
  generalize hAe : va_A (uw_Reader ad_rd cA_rd rd) s.heap.size = A at hD ⊢
  have hA : ∀ q : Nat, s.heap.size ≤ q → A q := fun q h => by rw [← hAe]; exact Or.inr h
  have hS : va_S A s.heap s.heap [] := va_S.rf
  have hP : va_P (dC, dI) vwCl (uw_Reader ad_rd cA_rd rd) s.heap := hP
  have fl_11 := (hts _ (List.mem_cons_of_mem _ wd_72))
  have fl_19 := (hts _ (List.mem_cons_of_mem _ wd_73))
  have fl_31 := (hts _ (List.mem_cons_of_mem _ wd_74))
  have hin_Reader : ∀ w ∈ u_ws "HazardTables$Reader" F_Reader 5, w ∈ w_Reader_byteHere := fun w h => List.mem_cons_of_mem _ (hinA_Reader w h)
  have ret : ∀ (v : Int32) (u : Unit) (H : Heap) (locs : List Loc) (ls : Array Slot) (pc : Nat), decode b_Reader_byteHere pc = .ok (.ireturn, 1) → (v = res) → va_P (dC, dI) vwCl (uw_Reader ad_rd cA_rd rd) H → va_D A (uw_Reader ad_rd cA_rd rd) → va_S A s.heap H locs → W p l e (headSpec w_Reader_byteHere ({ frames := 0, cells := 0, slots := 0, locals := 0 })).room s m ([.ref (ad_rd 0)] : List Value).toArray below meth c H locs 0 0 (MQ below (va_Qi (fun (r : Int32) (u : Unit) => r = res) (fun (u : Unit) (t : State) => va_P (dC, dI) vwCl (uw_Reader ad_rd cA_rd rd) t.heap ∧ va_K (dC, dI) vwCl [(cA_rd 1, .int)] t ∧ va_D A (uw_Reader ad_rd cA_rd rd)) A) ([.ref (ad_rd 0)] : List Value).toArray s 0 0 A) (F0 m pc ls [.int v]) := fun v u H locs ls pc hd hp hP hD hS => W.iret (v := v) hx hb hr (fun t ht hW => ⟨⟨v, u, rfl, hp, by rw [ht]; exact hP, va_K.moved hW.alike hK, hD⟩, hS.F ht⟩) hS.2.2 hd
  generalize (MQ below (va_Qi (fun (r : Int32) (u : Unit) => r = res) (fun (u : Unit) (t : State) => va_P (dC, dI) vwCl (uw_Reader ad_rd cA_rd rd) t.heap ∧ va_K (dC, dI) vwCl [(cA_rd 1, .int)] t ∧ va_D A (uw_Reader ad_rd cA_rd rd)) A) ([.ref (ad_rd 0)] : List Value).toArray s 0 0 A) = Q at ret ⊢
  have hl := lv_entry ([.ref (ad_rd 0)]) (n := 1) (Nat.le_of_ble_eq_true rfl)
  rw [lg_entry_eq]
  generalize (lg_sl ([.ref (ad_rd 0)]) ++ List.replicate (1 - (lg_sl ([.ref (ad_rd 0)])).length) Slot.unset).toArray = ls at hl ⊢
  have hl : lv_has ls 1 [(0, .ref (ad_rd 0))] := hl
  have hf := hf
  rw [f_Reader_byteHere] at hf
  obtain ⟨H, hH⟩ : ∃ H : Heap, H = s.heap := ⟨_, rfl⟩
  obtain ⟨locs, hlocs⟩ : ∃ L : List Loc, L = [] := ⟨_, rfl⟩
  have hP : va_P (dC, dI) vwCl (uw_Reader ad_rd cA_rd rd) H := by rw [hH]; exact hP
  have hS : va_S A s.heap H locs := by rw [hH, hlocs]; exact hS
  show W p l e (headSpec w_Reader_byteHere ({ frames := 0, cells := 0, slots := 0, locals := 0 })).room s m ([.ref (ad_rd 0)] : List Value).toArray below meth c s.heap [] 0 0 Q (F0 m 0 ls [])
  suffices hgo : W p l e (headSpec w_Reader_byteHere ({ frames := 0, cells := 0, slots := 0, locals := 0 })).room s m ([.ref (ad_rd 0)] : List Value).toArray below meth c H locs 0 0 Q (F0 m 0 ls []) by rw [hH, hlocs] at hgo; exact hgo
  clear hH hlocs
  refine lv_aload_n hx hb d_Reader_byteHere_0 rfl (lv_at hl 0 rfl) ?_
  refine va_get (D := (dC, dI)) (ci := 1) (v := .int rd.2.2.1) (C := "HazardTables$Reader") (T := F_Reader) (N := 5) hx hb hts hin_Reader hown hK hP 0 rfl rfl 2 (by decide) fl_31 (fun _ h9 => h9) rfl d_Reader_byteHere_1 ?_
  refine lv_aload_n hx hb d_Reader_byteHere_4 rfl (lv_at hl 0 rfl) ?_
  refine va_get (D := (dC, dI)) (ci := 1) (v := .int rd.2.1) (C := "HazardTables$Reader") (T := F_Reader) (N := 5) hx hb hts hin_Reader hown hK hP 0 rfl rfl 1 (by decide) fl_19 (fun _ h9 => h9) rfl d_Reader_byteHere_5 ?_
  refine lv_icmp_ge (tgt := 33) hx hb d_Reader_byteHere_8 (by decide) (fun hc1 => ?_) (fun hc1 => ?_)
  · have hf := hf_t hf hc1
    refine lv_iconst (v := (-1 : Int32)) hx hb d_Reader_byteHere_33 (by decide) ?_
    exact ret (-1 : Int32) () H locs ls 34 d_Reader_byteHere_34 (Option.some.inj hf) hP hD hS
  · have hf := hf_f hf hc1
    refine lv_aload_n hx hb d_Reader_byteHere_11 rfl (lv_at hl 0 rfl) ?_
    refine va_get (D := (dC, dI)) (ci := 1) (v := .int rd.2.2.1) (C := "HazardTables$Reader") (T := F_Reader) (N := 5) hx hb hts hin_Reader hown hK hP 0 rfl rfl 2 (by decide) fl_31 (fun _ h9 => h9) rfl d_Reader_byteHere_12 ?_
    refine lv_sipush (v := (400 : Int32)) hx hb d_Reader_byteHere_15 (by decide) ?_
    refine lv_icmp_ge (tgt := 33) hx hb d_Reader_byteHere_18 (by decide) (fun hc2 => ?_) (fun hc2 => ?_)
    · have hf := hf_t hf hc2
      refine lv_iconst (v := (-1 : Int32)) hx hb d_Reader_byteHere_33 (by decide) ?_
      exact ret (-1 : Int32) () H locs ls 34 d_Reader_byteHere_34 (Option.some.inj hf) hP hD hS
    · have hf := hf_f hf hc2
      refine lv_aload_n hx hb d_Reader_byteHere_21 rfl (lv_at hl 0 rfl) ?_
      refine va_get (D := (dC, dI)) (ci := 1) (v := .ref (ad_rd 1)) (C := "HazardTables$Reader") (T := F_Reader) (N := 5) hx hb hts hin_Reader hown hK hP 0 rfl rfl 0 (by decide) fl_11 (fun _ h9 => h9) rfl d_Reader_byteHere_22 ?_
      refine lv_aload_n hx hb d_Reader_byteHere_25 rfl (lv_at hl 0 rfl) ?_
      refine va_get (D := (dC, dI)) (ci := 1) (v := .int rd.2.2.1) (C := "HazardTables$Reader") (T := F_Reader) (N := 5) hx hb hts hin_Reader hown hK hP 0 rfl rfl 2 (by decide) fl_31 (fun _ h9 => h9) rfl d_Reader_byteHere_26 ?_
      obtain ⟨hi3, hf⟩ := hf_g hf
      refine va_iald hx hb hK hP 1 0 rfl rfl hi3 d_Reader_byteHere_29 ?_
      refine lv_goto (tgt := 34) hx hb d_Reader_byteHere_30 (by decide) ?_
      exact ret (rd.1 rd.2.2.1.toNatClampNeg) () H locs ls 34 d_Reader_byteHere_34 (Option.some.inj hf) hP hD hS
noncomputable def f_Reader_readNumber_104  (rd : SReader) (y2 : Int32) : Option (Bool × SReader) :=
  (if rd.2.2.2.1 ≤ y2 then
    (some (true, rd))
   else
    (Option.bind (f_Reader_wrong rd (rd.2.2.1 - (1 : Int32))) fun u15 =>
      (if (bI u15.1) = 0 then
        (some (false, u15.2))
       else
        (some (true, u15.2))
       )
     )
   )
noncomputable def f_Reader_readNumber_52  : Nat → SReader → Int32 → Int32 → Int32 → Option (Bool × SReader)
  | 0, _, _, _, _ => none
  | n + 1, rd, y2, y4, y5 =>
    (if y4 ≤ y5 then
      (f_Reader_readNumber_104 rd y2)
     else
      (Option.bind (f_Reader_byteHere rd) fun u10 =>
        (Option.bind (f_HT_isDigit u10) fun u11 =>
          (if (bI u11) = 0 then
            (f_Reader_readNumber_104 rd y2)
           else
            (Option.bind (f_Reader_byteHere rd) fun u13 =>
              (f_Reader_readNumber_52 n (rd.1, rd.2.1, rd.2.2.1 + (1 : Int32), ((rd.2.2.2.1 * (10 : Int32)) + u13) - (48 : Int32), rd.2.2.2.2) y2 y4 (y5 + (1 : Int32)))
             )
           )
         )
       )
     )
noncomputable def f_Reader_readNumber_31  (rd : SReader) (y2 : Int32) (y3 : Int32) : Option (Bool × SReader) :=
  (if y3 = (48 : Int32) then
    (f_Reader_readNumber_52 4096 (rd.1, rd.2.1, rd.2.2.1, (0 : Int32), rd.2.2.2.2) y2 (1 : Int32) (0 : Int32))
   else
    (f_Reader_readNumber_52 4096 (rd.1, rd.2.1, rd.2.2.1, (0 : Int32), rd.2.2.2.2) y2 (4 : Int32) (0 : Int32))
   )
noncomputable def f_Reader_readNumber (rd : SReader) (x1 : Int32) (x2 : Int32) : Option (Bool × SReader) :=
  (Option.bind (f_Reader_peek rd) fun u1 =>
    (Option.bind (f_HT_isDigit u1.1) fun u2 =>
      (if (bI u2) = 0 then
        (Option.bind (f_Reader_wrong u1.2 u1.2.2.2.1) fun u4 =>
          (some (u4.1, u4.2))
         )
       else
        (if u1.1 = (48 : Int32) then
          (if x1 ≤ 0 then
            (f_Reader_readNumber_31 u1.2 x2 u1.1)
           else
            (Option.bind (f_Reader_wrong u1.2 u1.2.2.2.1) fun u7 =>
              (some (u7.1, u7.2))
             )
           )
         else
          (f_Reader_readNumber_31 u1.2 x2 u1.1)
         )
       )
     )
   )
set_option maxHeartbeats 4000000 in
set_option maxRecDepth 100000 in
theorem k_Reader_readNumber (l : Launch) (dC : Nat → ClassId) (dI : Nat → Nat → Nat) (ad_rd : Nat → Nat) (cA_rd : Nat → ClassId) (sz : Nat) (rd : SReader) (x1 : Int32) (x2 : Int32) (res : Bool × SReader) (hf : f_Reader_readNumber rd x1 x2 = some res) : Met l y_Reader_readNumber w_Reader_readNumber ({ frames := 1, cells := 0, slots := 0, locals := 21 }) (cPc (dC, dI) (uw_Reader ad_rd cA_rd rd) [(cA_rd 1, .int)] sz [.ref (ad_rd 0), .int x1, .int x2]) (va_Qi (fun (r : Int32) (u : SReader) => r = bI res.1 ∧ u = res.2) (fun (u : SReader) (t : State) => va_P (dC, dI) vwCl (uw_Reader ad_rd cA_rd u) t.heap ∧ va_K (dC, dI) vwCl [(cA_rd 1, .int)] t ∧ va_D (va_A (uw_Reader ad_rd cA_rd rd) sz) (uw_Reader ad_rd cA_rd u)) (va_A (uw_Reader ad_rd cA_rd rd) sz)) 0 0 (va_A (uw_Reader ad_rd cA_rd rd) sz) := by
  refine Met.ofW (cc := b_Reader_readNumber) (maxL := 6) (ret := (some .boolean)) (by decide) rfl ?_
  intro p e s m args below meth c s₁ B hml hv
  obtain ⟨rfl, hsz, hP, hK, hD0, hN⟩ := hv
  have hx := B.exec
  have hb := B.bytes
  have hr := B.returns
  have hts := atoms_spec (ws := w_Reader_readNumber) B.pre
  have hown : s.vm.findClass "HazardTables$Reader" = some m.cls := findClass_of_methodNamed B.named
  have hlocks := B.notSynchronized
  subst hsz
  have hD := hD0.self (sz := s.heap.size)
  generalize hAe : va_A (uw_Reader ad_rd cA_rd rd) s.heap.size = A at hD ⊢
  have hA : ∀ q : Nat, s.heap.size ≤ q → A q := fun q h => by rw [← hAe]; exact Or.inr h
  have hS : va_S A s.heap s.heap [] := va_S.rf
  have hP : va_P (dC, dI) vwCl (uw_Reader ad_rd cA_rd rd) s.heap := hP
  have fl_31 := (hts _ (List.mem_cons_of_mem _ wd_74))
  have fl_83 := (hts _ (List.mem_cons_of_mem _ wd_75))
  have hin_Reader : ∀ w ∈ u_ws "HazardTables$Reader" F_Reader 5, w ∈ w_Reader_readNumber := fun w h => List.mem_cons_of_mem _ (hinA_Reader w h)
  have ret : ∀ (v : Bool) (u : SReader) (H : Heap) (locs : List Loc) (ls : Array Slot) (pc : Nat), decode b_Reader_readNumber pc = .ok (.ireturn, 1) → (v = res.1 ∧ u = res.2) → va_P (dC, dI) vwCl (uw_Reader ad_rd cA_rd u) H → va_D A (uw_Reader ad_rd cA_rd u) → va_S A s.heap H locs → W p l e (headSpec w_Reader_readNumber ({ frames := 1, cells := 0, slots := 0, locals := 21 })).room s m ([.ref (ad_rd 0), .int x1, .int x2] : List Value).toArray below meth c H locs 0 0 (MQ below (va_Qi (fun (r : Int32) (u : SReader) => r = bI res.1 ∧ u = res.2) (fun (u : SReader) (t : State) => va_P (dC, dI) vwCl (uw_Reader ad_rd cA_rd u) t.heap ∧ va_K (dC, dI) vwCl [(cA_rd 1, .int)] t ∧ va_D A (uw_Reader ad_rd cA_rd u)) A) ([.ref (ad_rd 0), .int x1, .int x2] : List Value).toArray s 0 0 A) (F0 m pc ls [.int (bI v)]) := fun v u H locs ls pc hd hp hP hD hS => W.zret (v := bI v) (ty := .boolean) hx hb hr (nar_bI v) (fun t ht hW => ⟨⟨bI v, u, rfl, ⟨by rw [hp.1], hp.2⟩, by rw [ht]; exact hP, va_K.moved hW.alike hK, hD⟩, hS.F ht⟩) hS.2.2 hd
  generalize (MQ below (va_Qi (fun (r : Int32) (u : SReader) => r = bI res.1 ∧ u = res.2) (fun (u : SReader) (t : State) => va_P (dC, dI) vwCl (uw_Reader ad_rd cA_rd u) t.heap ∧ va_K (dC, dI) vwCl [(cA_rd 1, .int)] t ∧ va_D A (uw_Reader ad_rd cA_rd u)) A) ([.ref (ad_rd 0), .int x1, .int x2] : List Value).toArray s 0 0 A) = Q at ret ⊢
  have w_104 : ∀ (rd : SReader) (y2 : Int32) (H : Heap) (locs : List Loc) (ls : Array Slot), f_Reader_readNumber_104 rd y2 = some res → va_P (dC, dI) vwCl (uw_Reader ad_rd cA_rd rd) H → va_D A (uw_Reader ad_rd cA_rd rd) → va_S A s.heap H locs → lv_has ls 6 [(0, .ref (ad_rd 0)), (2, .int y2)] → W p l e (headSpec w_Reader_readNumber ({ frames := 1, cells := 0, slots := 0, locals := 21 })).room s m ([.ref (ad_rd 0), .int x1, .int x2] : List Value).toArray below meth c H locs 0 0 Q (F0 m 104 ls []) := by
    intro rd y2 H locs ls hf hP hD hS hl
    rw [f_Reader_readNumber_104] at hf
    refine lv_aload_n hx hb d_Reader_readNumber_104 rfl (lv_at hl 0 rfl) ?_
    refine va_get (D := (dC, dI)) (ci := 1) (v := .int rd.2.2.2.1) (C := "HazardTables$Reader") (T := F_Reader) (N := 5) hx hb hts hin_Reader hown hK hP 0 rfl rfl 3 (by decide) fl_83 (fun _ h9 => h9) rfl d_Reader_readNumber_105 ?_
    refine lv_iload_n hx hb d_Reader_readNumber_108 rfl (lv_at hl 1 rfl) ?_
    refine lv_icmp_le (tgt := 125) hx hb d_Reader_readNumber_109 (by decide) (fun hc14 => ?_) (fun hc14 => ?_)
    · have hf := hf_t hf hc14
      refine lv_iconst (v := (1 : Int32)) hx hb d_Reader_readNumber_125 (by decide) ?_
      refine lv_goto (tgt := 130) hx hb d_Reader_readNumber_126 (by decide) ?_
      exact ret true rd H locs ls 130 d_Reader_readNumber_130 (hf_e hf) hP hD hS
    · have hf := hf_f hf hc14
      refine lv_aload_n hx hb d_Reader_readNumber_112 rfl (lv_at hl 0 rfl) ?_
      refine lv_aload_n hx hb d_Reader_readNumber_113 rfl (lv_at hl 0 rfl) ?_
      refine va_get (D := (dC, dI)) (ci := 1) (v := .int rd.2.2.1) (C := "HazardTables$Reader") (T := F_Reader) (N := 5) hx hb hts hin_Reader hown hK hP 0 rfl rfl 2 (by decide) fl_31 (fun _ h9 => h9) rfl d_Reader_readNumber_114 ?_
      refine lv_iconst (v := (1 : Int32)) hx hb d_Reader_readNumber_117 (by decide) ?_
      refine lv_isub hx hb d_Reader_readNumber_118 ?_
      obtain ⟨u15, hu15, hf⟩ := Option.bind_eq_some_iff.mp hf
      refine cl_i (wc := (uw_Reader ad_rd cA_rd rd)) (wr := []) (tysC := [(cA_rd 1, .int)]) (wu := fun (u : SReader) => (uw_Reader ad_rd cA_rd u)) (wn := fun (u : SReader) => (uw_Reader ad_rd cA_rd u)) [0, 1] [] [0, 1] [0] hP hD hS hA hK rfl rfl (by decide +kernel) (by decide +kernel) (by decide +kernel) rfl (fun _ => rfl) (by decide +kernel) (fun hPc hKc hDc => (va_runV (As := [.int (rd.2.2.1 - (1 : Int32))]) (rest := []) ⟨hx, hb, hml, hown, hts⟩ (k_Reader_wrong l dC dI ad_rd cA_rd H.size rd (rd.2.2.1 - (1 : Int32)) u15 hu15) (cwV 1 hts (gV wd_374 wd_376 wd_4 wd_44 wd_377) rfl rfl rfl (by decide +kernel) ⟨Nat.le_of_ble_eq_true rfl, Nat.le_of_ble_eq_true rfl⟩) (cl_preV hPc hKc hDc hN (ci := 1) 0 rfl rfl) rfl rfl hl.1 rfl (lv_room (Nat.le_of_ble_eq_true rfl)) d_Reader_readNumber_119 ⟨Nat.le_of_ble_eq_true rfl, Nat.le_of_ble_eq_true rfl⟩)) (fun r u H locs hw hP hD hS => ?_)
      obtain ⟨hw1, hw2⟩ := hw
      have hw1 := hw1.symm
      have hw2 := hw2.symm
      subst hw1
      subst hw2
      have hP : va_P (dC, dI) vwCl (uw_Reader ad_rd cA_rd u15.2) H := hP
      have hD : va_D A (uw_Reader ad_rd cA_rd u15.2) := hD
      refine lv_if_eq (tgt := 129) hx hb d_Reader_readNumber_122 (by decide) (fun hc16 => ?_) (fun hc16 => ?_)
      · have hf := hf_t hf hc16
        refine lv_iconst (v := (0 : Int32)) hx hb d_Reader_readNumber_129 (by decide) ?_
        exact ret false u15.2 H locs ls 130 d_Reader_readNumber_130 (hf_e hf) hP hD hS
      · have hf := hf_f hf hc16
        refine lv_iconst (v := (1 : Int32)) hx hb d_Reader_readNumber_125 (by decide) ?_
        refine lv_goto (tgt := 130) hx hb d_Reader_readNumber_126 (by decide) ?_
        exact ret true u15.2 H locs ls 130 d_Reader_readNumber_130 (hf_e hf) hP hD hS
  have w_52 : ∀ (n : Nat) (rd : SReader) (y2 : Int32) (y4 : Int32) (y5 : Int32) (H : Heap) (locs : List Loc) (ls : Array Slot), f_Reader_readNumber_52 n rd y2 y4 y5 = some res → va_P (dC, dI) vwCl (uw_Reader ad_rd cA_rd rd) H → va_D A (uw_Reader ad_rd cA_rd rd) → va_S A s.heap H locs → lv_has ls 6 [(0, .ref (ad_rd 0)), (2, .int y2), (4, .int y4), (5, .int y5)] → W p l e (headSpec w_Reader_readNumber ({ frames := 1, cells := 0, slots := 0, locals := 21 })).room s m ([.ref (ad_rd 0), .int x1, .int x2] : List Value).toArray below meth c H locs 0 0 Q (F0 m 52 ls []) := by
    intro n
    induction n with
    | zero =>
      intro rd y2 y4 y5 H locs ls hf hP hD hS hl
      rw [f_Reader_readNumber_52] at hf; cases hf
    | succ n ih =>
      intro rd y2 y4 y5 H locs ls hf hP hD hS hl
      rw [f_Reader_readNumber_52] at hf
      refine lv_iload hx hb d_Reader_readNumber_52 (lv_at hl 3 rfl) ?_
      refine lv_iload hx hb d_Reader_readNumber_54 (lv_at hl 2 rfl) ?_
      refine lv_icmp_ge (tgt := 104) hx hb d_Reader_readNumber_56 (by decide) (fun hc9 => ?_) (fun hc9 => ?_)
      · have hf := hf_t hf hc9
        exact w_104 rd y2 H locs ls hf hP hD hS (lv_sub hl [0, 1] rfl)
      · have hf := hf_f hf hc9
        refine lv_aload_n hx hb d_Reader_readNumber_59 rfl (lv_at hl 0 rfl) ?_
        obtain ⟨u10, hu10, hf⟩ := Option.bind_eq_some_iff.mp hf
        refine cl_i (wc := (uw_Reader ad_rd cA_rd rd)) (wr := []) (tysC := [(cA_rd 1, .int)]) (wu := fun (u : Unit) => (uw_Reader ad_rd cA_rd rd)) (wn := fun (u : Unit) => (uw_Reader ad_rd cA_rd rd)) [0, 1] [] [0, 1] [0] hP hD hS hA hK rfl rfl (by decide +kernel) (by decide +kernel) (by decide +kernel) rfl (fun _ => rfl) (by decide +kernel) (fun hPc hKc hDc => (va_runV (As := []) (rest := []) ⟨hx, hb, hml, hown, hts⟩ (k_Reader_byteHere l dC dI ad_rd cA_rd H.size rd u10 hu10) (cwV 0 hts (gV wd_385 wd_387 wd_6 wd_44 wd_388) rfl rfl rfl (by decide +kernel) ⟨Nat.le_of_ble_eq_true rfl, Nat.le_of_ble_eq_true rfl⟩) (cl_preV hPc hKc hDc hN (ci := 1) 0 rfl rfl) rfl rfl hl.1 rfl (lv_room (Nat.le_of_ble_eq_true rfl)) d_Reader_readNumber_60 ⟨Nat.le_of_ble_eq_true rfl, Nat.le_of_ble_eq_true rfl⟩)) (fun r u H locs hw hP hD hS => ?_)
        have hw := hw.symm
        subst hw
        have hP : va_P (dC, dI) vwCl (uw_Reader ad_rd cA_rd rd) H := hP
        have hD : va_D A (uw_Reader ad_rd cA_rd rd) := hD
        obtain ⟨u11, hu11, hf⟩ := Option.bind_eq_some_iff.mp hf
        refine cl_i (wc := []) (wr := (uw_Reader ad_rd cA_rd rd)) (tysC := []) (wu := fun (u : Unit) => []) (wn := fun (u : Unit) => (uw_Reader ad_rd cA_rd rd)) [] [0, 1] [0, 1] [] hP hD hS hA hK rfl rfl (by decide +kernel) (by decide +kernel) (by decide +kernel) rfl (fun _ => rfl) (by decide +kernel) (fun hPc hKc hDc => (va_runSN (As := [.int u10]) (rest := []) ⟨hx, hb, hml, hown, hts⟩ (k_HT_isDigit l dC dI  H.size u10 u11 hu11) ⟨va_cnB 1 hts (gC wd_384) rfl rfl rfl hN.2.1 (hts _ (List.mem_cons_of_mem _ wd_43)) (by decide +kernel) ⟨Nat.le_of_ble_eq_true rfl, Nat.le_of_ble_eq_true rfl⟩, (hts _ (List.mem_cons_of_mem _ wd_383)), trivial⟩ (cl_preS hPc hKc hDc hN) rfl rfl hl.1 rfl (lv_room (Nat.le_of_ble_eq_true rfl)) d_Reader_readNumber_63 ⟨Nat.le_of_ble_eq_true rfl, Nat.le_of_ble_eq_true rfl⟩)) (fun r u H locs hw hP hD hS => ?_)
        have hw := hw.symm
        subst hw
        have hP : va_P (dC, dI) vwCl (uw_Reader ad_rd cA_rd rd) H := hP
        have hD : va_D A (uw_Reader ad_rd cA_rd rd) := hD
        refine lv_if_eq (tgt := 104) hx hb d_Reader_readNumber_66 (by decide) (fun hc12 => ?_) (fun hc12 => ?_)
        · have hf := hf_t hf hc12
          exact w_104 rd y2 H locs ls hf hP hD hS (lv_sub hl [0, 1] rfl)
        · have hf := hf_f hf hc12
          refine lv_aload_n hx hb d_Reader_readNumber_69 rfl (lv_at hl 0 rfl) ?_
          refine lv_aload_n hx hb d_Reader_readNumber_70 rfl (lv_at hl 0 rfl) ?_
          refine va_get (D := (dC, dI)) (ci := 1) (v := .int rd.2.2.2.1) (C := "HazardTables$Reader") (T := F_Reader) (N := 5) hx hb hts hin_Reader hown hK hP 0 rfl rfl 3 (by decide) fl_83 (fun _ h9 => h9) rfl d_Reader_readNumber_71 ?_
          refine lv_bipush (v := (10 : Int32)) hx hb d_Reader_readNumber_74 (by decide) ?_
          refine lv_imul hx hb d_Reader_readNumber_76 ?_
          refine lv_aload_n hx hb d_Reader_readNumber_77 rfl (lv_at hl 0 rfl) ?_
          obtain ⟨u13, hu13, hf⟩ := Option.bind_eq_some_iff.mp hf
          refine cl_i (wc := (uw_Reader ad_rd cA_rd rd)) (wr := []) (tysC := [(cA_rd 1, .int)]) (wu := fun (u : Unit) => (uw_Reader ad_rd cA_rd rd)) (wn := fun (u : Unit) => (uw_Reader ad_rd cA_rd rd)) [0, 1] [] [0, 1] [0] hP hD hS hA hK rfl rfl (by decide +kernel) (by decide +kernel) (by decide +kernel) rfl (fun _ => rfl) (by decide +kernel) (fun hPc hKc hDc => (va_runV (As := []) (rest := [.int (rd.2.2.2.1 * (10 : Int32)), .ref (ad_rd 0)]) ⟨hx, hb, hml, hown, hts⟩ (k_Reader_byteHere l dC dI ad_rd cA_rd H.size rd u13 hu13) (cwV 0 hts (gV wd_385 wd_387 wd_6 wd_44 wd_388) rfl rfl rfl (by decide +kernel) ⟨Nat.le_of_ble_eq_true rfl, Nat.le_of_ble_eq_true rfl⟩) (cl_preV hPc hKc hDc hN (ci := 1) 0 rfl rfl) rfl rfl hl.1 rfl (lv_room (Nat.le_of_ble_eq_true rfl)) d_Reader_readNumber_78 ⟨Nat.le_of_ble_eq_true rfl, Nat.le_of_ble_eq_true rfl⟩)) (fun r u H locs hw hP hD hS => ?_)
          have hw := hw.symm
          subst hw
          have hP : va_P (dC, dI) vwCl (uw_Reader ad_rd cA_rd rd) H := hP
          have hD : va_D A (uw_Reader ad_rd cA_rd rd) := hD
          refine lv_iadd hx hb d_Reader_readNumber_81 ?_
          refine lv_bipush (v := (48 : Int32)) hx hb d_Reader_readNumber_82 (by decide) ?_
          refine lv_isub hx hb d_Reader_readNumber_84 ?_
          refine va_put (D := (dC, dI)) (ci := 1) (v := .int (((rd.2.2.2.1 * (10 : Int32)) + u13) - (48 : Int32))) (ty := .int) (C := "HazardTables$Reader") (T := F_Reader) (N := 5) hx hb hts hin_Reader t_Reader t_Reader_ok n_Reader hown hK hP hD hS 0 rfl rfl 3 (by decide) fl_83 (fun _ h9 => h9) rfl (by decide +kernel) rfl rfl (Nat.le_of_ble_eq_true rfl) d_Reader_readNumber_85 (fun H locs hP hD hS => ?_)
          have hP : va_P (dC, dI) vwCl (uw_Reader ad_rd cA_rd (rd.1, rd.2.1, rd.2.2.1, ((rd.2.2.2.1 * (10 : Int32)) + u13) - (48 : Int32), rd.2.2.2.2)) H := hP
          have hD : va_D A (uw_Reader ad_rd cA_rd (rd.1, rd.2.1, rd.2.2.1, ((rd.2.2.2.1 * (10 : Int32)) + u13) - (48 : Int32), rd.2.2.2.2)) := hD
          refine lv_aload_n hx hb d_Reader_readNumber_88 rfl (lv_at hl 0 rfl) ?_
          refine lv_dup hx hb d_Reader_readNumber_89 rfl ?_
          refine va_get (D := (dC, dI)) (ci := 1) (v := .int rd.2.2.1) (C := "HazardTables$Reader") (T := F_Reader) (N := 5) hx hb hts hin_Reader hown hK hP 0 rfl rfl 2 (by decide) fl_31 (fun _ h9 => h9) rfl d_Reader_readNumber_90 ?_
          refine lv_iconst (v := (1 : Int32)) hx hb d_Reader_readNumber_93 (by decide) ?_
          refine lv_iadd hx hb d_Reader_readNumber_94 ?_
          refine va_put (D := (dC, dI)) (ci := 1) (v := .int (rd.2.2.1 + (1 : Int32))) (ty := .int) (C := "HazardTables$Reader") (T := F_Reader) (N := 5) hx hb hts hin_Reader t_Reader t_Reader_ok n_Reader hown hK hP hD hS 0 rfl rfl 2 (by decide) fl_31 (fun _ h9 => h9) rfl (by decide +kernel) rfl rfl (Nat.le_of_ble_eq_true rfl) d_Reader_readNumber_95 (fun H locs hP hD hS => ?_)
          have hP : va_P (dC, dI) vwCl (uw_Reader ad_rd cA_rd (rd.1, rd.2.1, rd.2.2.1 + (1 : Int32), ((rd.2.2.2.1 * (10 : Int32)) + u13) - (48 : Int32), rd.2.2.2.2)) H := hP
          have hD : va_D A (uw_Reader ad_rd cA_rd (rd.1, rd.2.1, rd.2.2.1 + (1 : Int32), ((rd.2.2.2.1 * (10 : Int32)) + u13) - (48 : Int32), rd.2.2.2.2)) := hD
          refine lv_iinc (v := y5 + (1 : Int32)) (lv' := [(5, .int (y5 + (1 : Int32))), (0, .ref (ad_rd 0)), (2, .int y2), (4, .int y4)]) hx hb d_Reader_readNumber_98 hl (k := 3) rfl rfl (by decide) rfl (fun ls hl => ?_)
          refine lv_goto (tgt := 52) hx hb d_Reader_readNumber_101 (by decide) ?_
          exact ih (rd.1, rd.2.1, rd.2.2.1 + (1 : Int32), ((rd.2.2.2.1 * (10 : Int32)) + u13) - (48 : Int32), rd.2.2.2.2) y2 y4 (y5 + (1 : Int32)) H locs ls hf hP hD hS (lv_sub hl [1, 2, 3, 0] rfl)
  have w_31 : ∀ (rd : SReader) (y2 : Int32) (y3 : Int32) (H : Heap) (locs : List Loc) (ls : Array Slot), f_Reader_readNumber_31 rd y2 y3 = some res → va_P (dC, dI) vwCl (uw_Reader ad_rd cA_rd rd) H → va_D A (uw_Reader ad_rd cA_rd rd) → va_S A s.heap H locs → lv_has ls 6 [(0, .ref (ad_rd 0)), (2, .int y2), (3, .int y3)] → W p l e (headSpec w_Reader_readNumber ({ frames := 1, cells := 0, slots := 0, locals := 21 })).room s m ([.ref (ad_rd 0), .int x1, .int x2] : List Value).toArray below meth c H locs 0 0 Q (F0 m 31 ls []) := by
    intro rd y2 y3 H locs ls hf hP hD hS hl
    rw [f_Reader_readNumber_31] at hf
    refine lv_iload_n hx hb d_Reader_readNumber_31 rfl (lv_at hl 2 rfl) ?_
    refine lv_bipush (v := (48 : Int32)) hx hb d_Reader_readNumber_32 (by decide) ?_
    refine lv_icmp_ne (tgt := 41) hx hb d_Reader_readNumber_34 (by decide) (fun hc8 => ?_) (fun hc8 => ?_)
    · have hf := hf_f hf hc8
      refine lv_iconst (v := (4 : Int32)) hx hb d_Reader_readNumber_41 (by decide) ?_
      refine lv_istore (lv' := [(4, .int (4 : Int32)), (0, .ref (ad_rd 0)), (2, .int y2), (3, .int y3)]) hx hb d_Reader_readNumber_42 hl (by decide) rfl (fun ls hl => ?_)
      refine lv_aload_n hx hb d_Reader_readNumber_44 rfl (lv_at hl 1 rfl) ?_
      refine lv_iconst (v := (0 : Int32)) hx hb d_Reader_readNumber_45 (by decide) ?_
      refine va_put (D := (dC, dI)) (ci := 1) (v := .int (0 : Int32)) (ty := .int) (C := "HazardTables$Reader") (T := F_Reader) (N := 5) hx hb hts hin_Reader t_Reader t_Reader_ok n_Reader hown hK hP hD hS 0 rfl rfl 3 (by decide) fl_83 (fun _ h9 => h9) rfl (by decide +kernel) rfl rfl (Nat.le_of_ble_eq_true rfl) d_Reader_readNumber_46 (fun H locs hP hD hS => ?_)
      have hP : va_P (dC, dI) vwCl (uw_Reader ad_rd cA_rd (rd.1, rd.2.1, rd.2.2.1, (0 : Int32), rd.2.2.2.2)) H := hP
      have hD : va_D A (uw_Reader ad_rd cA_rd (rd.1, rd.2.1, rd.2.2.1, (0 : Int32), rd.2.2.2.2)) := hD
      refine lv_iconst (v := (0 : Int32)) hx hb d_Reader_readNumber_49 (by decide) ?_
      refine lv_istore (lv' := [(5, .int (0 : Int32)), (4, .int (4 : Int32)), (0, .ref (ad_rd 0)), (2, .int y2), (3, .int y3)]) hx hb d_Reader_readNumber_50 hl (by decide) rfl (fun ls hl => ?_)
      exact w_52 4096 (rd.1, rd.2.1, rd.2.2.1, (0 : Int32), rd.2.2.2.2) y2 (4 : Int32) (0 : Int32) H locs ls hf hP hD hS (lv_sub hl [2, 3, 1, 0] rfl)
    · have hf := hf_t hf hc8
      refine lv_iconst (v := (1 : Int32)) hx hb d_Reader_readNumber_37 (by decide) ?_
      refine lv_goto (tgt := 42) hx hb d_Reader_readNumber_38 (by decide) ?_
      refine lv_istore (lv' := [(4, .int (1 : Int32)), (0, .ref (ad_rd 0)), (2, .int y2), (3, .int y3)]) hx hb d_Reader_readNumber_42 hl (by decide) rfl (fun ls hl => ?_)
      refine lv_aload_n hx hb d_Reader_readNumber_44 rfl (lv_at hl 1 rfl) ?_
      refine lv_iconst (v := (0 : Int32)) hx hb d_Reader_readNumber_45 (by decide) ?_
      refine va_put (D := (dC, dI)) (ci := 1) (v := .int (0 : Int32)) (ty := .int) (C := "HazardTables$Reader") (T := F_Reader) (N := 5) hx hb hts hin_Reader t_Reader t_Reader_ok n_Reader hown hK hP hD hS 0 rfl rfl 3 (by decide) fl_83 (fun _ h9 => h9) rfl (by decide +kernel) rfl rfl (Nat.le_of_ble_eq_true rfl) d_Reader_readNumber_46 (fun H locs hP hD hS => ?_)
      have hP : va_P (dC, dI) vwCl (uw_Reader ad_rd cA_rd (rd.1, rd.2.1, rd.2.2.1, (0 : Int32), rd.2.2.2.2)) H := hP
      have hD : va_D A (uw_Reader ad_rd cA_rd (rd.1, rd.2.1, rd.2.2.1, (0 : Int32), rd.2.2.2.2)) := hD
      refine lv_iconst (v := (0 : Int32)) hx hb d_Reader_readNumber_49 (by decide) ?_
      refine lv_istore (lv' := [(5, .int (0 : Int32)), (4, .int (1 : Int32)), (0, .ref (ad_rd 0)), (2, .int y2), (3, .int y3)]) hx hb d_Reader_readNumber_50 hl (by decide) rfl (fun ls hl => ?_)
      exact w_52 4096 (rd.1, rd.2.1, rd.2.2.1, (0 : Int32), rd.2.2.2.2) y2 (1 : Int32) (0 : Int32) H locs ls hf hP hD hS (lv_sub hl [2, 3, 1, 0] rfl)
  have hl := lv_entry ([.ref (ad_rd 0), .int x1, .int x2]) (n := 6) (Nat.le_of_ble_eq_true rfl)
  rw [lg_entry_eq]
  generalize (lg_sl ([.ref (ad_rd 0), .int x1, .int x2]) ++ List.replicate (6 - (lg_sl ([.ref (ad_rd 0), .int x1, .int x2])).length) Slot.unset).toArray = ls at hl ⊢
  have hl : lv_has ls 6 [(0, .ref (ad_rd 0)), (1, .int x1), (2, .int x2)] := hl
  have hf := hf
  rw [f_Reader_readNumber] at hf
  obtain ⟨H, hH⟩ : ∃ H : Heap, H = s.heap := ⟨_, rfl⟩
  obtain ⟨locs, hlocs⟩ : ∃ L : List Loc, L = [] := ⟨_, rfl⟩
  have hP : va_P (dC, dI) vwCl (uw_Reader ad_rd cA_rd rd) H := by rw [hH]; exact hP
  have hS : va_S A s.heap H locs := by rw [hH, hlocs]; exact hS
  show W p l e (headSpec w_Reader_readNumber ({ frames := 1, cells := 0, slots := 0, locals := 21 })).room s m ([.ref (ad_rd 0), .int x1, .int x2] : List Value).toArray below meth c s.heap [] 0 0 Q (F0 m 0 ls [])
  suffices hgo : W p l e (headSpec w_Reader_readNumber ({ frames := 1, cells := 0, slots := 0, locals := 21 })).room s m ([.ref (ad_rd 0), .int x1, .int x2] : List Value).toArray below meth c H locs 0 0 Q (F0 m 0 ls []) by rw [hH, hlocs] at hgo; exact hgo
  clear hH hlocs
  refine lv_aload_n hx hb d_Reader_readNumber_0 rfl (lv_at hl 0 rfl) ?_
  obtain ⟨u1, hu1, hf⟩ := Option.bind_eq_some_iff.mp hf
  refine cl_i (wc := (uw_Reader ad_rd cA_rd rd)) (wr := []) (tysC := [(cA_rd 1, .int)]) (wu := fun (u : SReader) => (uw_Reader ad_rd cA_rd u)) (wn := fun (u : SReader) => (uw_Reader ad_rd cA_rd u)) [0, 1] [] [0, 1] [0] hP hD hS hA hK rfl rfl (by decide +kernel) (by decide +kernel) (by decide +kernel) rfl (fun _ => rfl) (by decide +kernel) (fun hPc hKc hDc => (va_runV (As := []) (rest := []) ⟨hx, hb, hml, hown, hts⟩ (k_Reader_peek l dC dI ad_rd cA_rd H.size rd u1 hu1) (cwV 0 hts (gV wd_358 wd_360 wd_1 wd_44 wd_361) rfl rfl rfl (by decide +kernel) ⟨Nat.le_of_ble_eq_true rfl, Nat.le_of_ble_eq_true rfl⟩) (cl_preV hPc hKc hDc hN (ci := 1) 0 rfl rfl) rfl rfl hl.1 rfl (lv_room (Nat.le_of_ble_eq_true rfl)) d_Reader_readNumber_1 ⟨Nat.le_of_ble_eq_true rfl, Nat.le_of_ble_eq_true rfl⟩)) (fun r u H locs hw hP hD hS => ?_)
  obtain ⟨hw1, hw2⟩ := hw
  have hw1 := hw1.symm
  have hw2 := hw2.symm
  subst hw1
  subst hw2
  have hP : va_P (dC, dI) vwCl (uw_Reader ad_rd cA_rd u1.2) H := hP
  have hD : va_D A (uw_Reader ad_rd cA_rd u1.2) := hD
  refine lv_istore_n (lv' := [(3, .int u1.1), (0, .ref (ad_rd 0)), (1, .int x1), (2, .int x2)]) hx hb d_Reader_readNumber_4 rfl hl (by decide) rfl (fun ls hl => ?_)
  refine lv_iload_n hx hb d_Reader_readNumber_5 rfl (lv_at hl 0 rfl) ?_
  obtain ⟨u2, hu2, hf⟩ := Option.bind_eq_some_iff.mp hf
  refine cl_i (wc := []) (wr := (uw_Reader ad_rd cA_rd u1.2)) (tysC := []) (wu := fun (u : Unit) => []) (wn := fun (u : Unit) => (uw_Reader ad_rd cA_rd u1.2)) [] [0, 1] [0, 1] [] hP hD hS hA hK rfl rfl (by decide +kernel) (by decide +kernel) (by decide +kernel) rfl (fun _ => rfl) (by decide +kernel) (fun hPc hKc hDc => (va_runSN (As := [.int u1.1]) (rest := []) ⟨hx, hb, hml, hown, hts⟩ (k_HT_isDigit l dC dI  H.size u1.1 u2 hu2) ⟨va_cnB 1 hts (gC wd_384) rfl rfl rfl hN.2.1 (hts _ (List.mem_cons_of_mem _ wd_43)) (by decide +kernel) ⟨Nat.le_of_ble_eq_true rfl, Nat.le_of_ble_eq_true rfl⟩, (hts _ (List.mem_cons_of_mem _ wd_383)), trivial⟩ (cl_preS hPc hKc hDc hN) rfl rfl hl.1 rfl (lv_room (Nat.le_of_ble_eq_true rfl)) d_Reader_readNumber_6 ⟨Nat.le_of_ble_eq_true rfl, Nat.le_of_ble_eq_true rfl⟩)) (fun r u H locs hw hP hD hS => ?_)
  have hw := hw.symm
  subst hw
  have hP : va_P (dC, dI) vwCl (uw_Reader ad_rd cA_rd u1.2) H := hP
  have hD : va_D A (uw_Reader ad_rd cA_rd u1.2) := hD
  refine lv_if_eq (tgt := 22) hx hb d_Reader_readNumber_9 (by decide) (fun hc3 => ?_) (fun hc3 => ?_)
  · have hf := hf_t hf hc3
    refine lv_aload_n hx hb d_Reader_readNumber_22 rfl (lv_at hl 1 rfl) ?_
    refine lv_aload_n hx hb d_Reader_readNumber_23 rfl (lv_at hl 1 rfl) ?_
    refine va_get (D := (dC, dI)) (ci := 1) (v := .int u1.2.2.2.1) (C := "HazardTables$Reader") (T := F_Reader) (N := 5) hx hb hts hin_Reader hown hK hP 0 rfl rfl 2 (by decide) fl_31 (fun _ h9 => h9) rfl d_Reader_readNumber_24 ?_
    obtain ⟨u4, hu4, hf⟩ := Option.bind_eq_some_iff.mp hf
    refine cl_i (wc := (uw_Reader ad_rd cA_rd u1.2)) (wr := []) (tysC := [(cA_rd 1, .int)]) (wu := fun (u : SReader) => (uw_Reader ad_rd cA_rd u)) (wn := fun (u : SReader) => (uw_Reader ad_rd cA_rd u)) [0, 1] [] [0, 1] [0] hP hD hS hA hK rfl rfl (by decide +kernel) (by decide +kernel) (by decide +kernel) rfl (fun _ => rfl) (by decide +kernel) (fun hPc hKc hDc => (va_runV (As := [.int u1.2.2.2.1]) (rest := []) ⟨hx, hb, hml, hown, hts⟩ (k_Reader_wrong l dC dI ad_rd cA_rd H.size u1.2 u1.2.2.2.1 u4 hu4) (cwV 1 hts (gV wd_374 wd_376 wd_4 wd_44 wd_377) rfl rfl rfl (by decide +kernel) ⟨Nat.le_of_ble_eq_true rfl, Nat.le_of_ble_eq_true rfl⟩) (cl_preV hPc hKc hDc hN (ci := 1) 0 rfl rfl) rfl rfl hl.1 rfl (lv_room (Nat.le_of_ble_eq_true rfl)) d_Reader_readNumber_27 ⟨Nat.le_of_ble_eq_true rfl, Nat.le_of_ble_eq_true rfl⟩)) (fun r u H locs hw hP hD hS => ?_)
    obtain ⟨hw1, hw2⟩ := hw
    have hw1 := hw1.symm
    have hw2 := hw2.symm
    subst hw1
    subst hw2
    have hP : va_P (dC, dI) vwCl (uw_Reader ad_rd cA_rd u4.2) H := hP
    have hD : va_D A (uw_Reader ad_rd cA_rd u4.2) := hD
    exact ret u4.1 u4.2 H locs ls 30 d_Reader_readNumber_30 (hf_e hf) hP hD hS
  · have hf := hf_f hf hc3
    refine lv_iload_n hx hb d_Reader_readNumber_12 rfl (lv_at hl 0 rfl) ?_
    refine lv_bipush (v := (48 : Int32)) hx hb d_Reader_readNumber_13 (by decide) ?_
    refine lv_icmp_ne (tgt := 31) hx hb d_Reader_readNumber_15 (by decide) (fun hc5 => ?_) (fun hc5 => ?_)
    · have hf := hf_f hf hc5
      exact w_31 u1.2 x2 u1.1 H locs ls hf hP hD hS (lv_sub hl [1, 3, 0] rfl)
    · have hf := hf_t hf hc5
      refine lv_iload_n hx hb d_Reader_readNumber_18 rfl (lv_at hl 2 rfl) ?_
      refine lv_if_le (tgt := 31) hx hb d_Reader_readNumber_19 (by decide) (fun hc6 => ?_) (fun hc6 => ?_)
      · have hf := hf_t hf hc6
        exact w_31 u1.2 x2 u1.1 H locs ls hf hP hD hS (lv_sub hl [1, 3, 0] rfl)
      · have hf := hf_f hf hc6
        refine lv_aload_n hx hb d_Reader_readNumber_22 rfl (lv_at hl 1 rfl) ?_
        refine lv_aload_n hx hb d_Reader_readNumber_23 rfl (lv_at hl 1 rfl) ?_
        refine va_get (D := (dC, dI)) (ci := 1) (v := .int u1.2.2.2.1) (C := "HazardTables$Reader") (T := F_Reader) (N := 5) hx hb hts hin_Reader hown hK hP 0 rfl rfl 2 (by decide) fl_31 (fun _ h9 => h9) rfl d_Reader_readNumber_24 ?_
        obtain ⟨u7, hu7, hf⟩ := Option.bind_eq_some_iff.mp hf
        refine cl_i (wc := (uw_Reader ad_rd cA_rd u1.2)) (wr := []) (tysC := [(cA_rd 1, .int)]) (wu := fun (u : SReader) => (uw_Reader ad_rd cA_rd u)) (wn := fun (u : SReader) => (uw_Reader ad_rd cA_rd u)) [0, 1] [] [0, 1] [0] hP hD hS hA hK rfl rfl (by decide +kernel) (by decide +kernel) (by decide +kernel) rfl (fun _ => rfl) (by decide +kernel) (fun hPc hKc hDc => (va_runV (As := [.int u1.2.2.2.1]) (rest := []) ⟨hx, hb, hml, hown, hts⟩ (k_Reader_wrong l dC dI ad_rd cA_rd H.size u1.2 u1.2.2.2.1 u7 hu7) (cwV 1 hts (gV wd_374 wd_376 wd_4 wd_44 wd_377) rfl rfl rfl (by decide +kernel) ⟨Nat.le_of_ble_eq_true rfl, Nat.le_of_ble_eq_true rfl⟩) (cl_preV hPc hKc hDc hN (ci := 1) 0 rfl rfl) rfl rfl hl.1 rfl (lv_room (Nat.le_of_ble_eq_true rfl)) d_Reader_readNumber_27 ⟨Nat.le_of_ble_eq_true rfl, Nat.le_of_ble_eq_true rfl⟩)) (fun r u H locs hw hP hD hS => ?_)
        obtain ⟨hw1, hw2⟩ := hw
        have hw1 := hw1.symm
        have hw2 := hw2.symm
        subst hw1
        subst hw2
        have hP : va_P (dC, dI) vwCl (uw_Reader ad_rd cA_rd u7.2) H := hP
        have hD : va_D A (uw_Reader ad_rd cA_rd u7.2) := hD
        exact ret u7.1 u7.2 H locs ls 30 d_Reader_readNumber_30 (hf_e hf) hP hD hS
noncomputable def f_Reader_startMaterial (rd : SReader) (tb : STable) : Option (Bool × SReader × STable) :=
  (Option.bind (f_Table_isFull tb) fun u1 =>
    (if (bI u1) = 0 then
      (Option.bind (f_Reader_readNumber (rd.1, rd.2.1, rd.2.2.1 + (1 : Int32), rd.2.2.2.1, rd.2.2.2.2) (1 : Int32) (9999 : Int32)) fun u3 =>
        (if (bI u3.1) = 0 then
          (some (false, u3.2, tb))
         else
          (Option.bind (f_Table_rowOf tb u3.2.2.2.2.1) fun u5 =>
            (if u5 = (-1 : Int32) then
              (Option.bind (f_Table_append tb u3.2.2.2.2.1) fun u7 =>
                (some (true, u3.2, u7))
               )
             else
              (Option.bind (f_Reader_wrong u3.2 (u3.2.2.2.1 - (1 : Int32))) fun u8 =>
                (some (u8.1, u8.2, tb))
               )
             )
           )
         )
       )
     else
      (Option.bind (f_Reader_wrong rd rd.2.2.1) fun u9 =>
        (some (u9.1, u9.2, tb))
       )
     )
   )
set_option maxHeartbeats 4000000 in
set_option maxRecDepth 100000 in
theorem k_Reader_startMaterial (l : Launch) (dC : Nat → ClassId) (dI : Nat → Nat → Nat) (ad_rd : Nat → Nat) (cA_rd : Nat → ClassId) (ad_tb : Nat → Nat) (cA_tb : Nat → ClassId) (sz : Nat) (rd : SReader) (tb : STable) (res : Bool × SReader × STable) (hf : f_Reader_startMaterial rd tb = some res) : Met l y_Reader_startMaterial w_Reader_startMaterial ({ frames := 2, cells := 0, slots := 0, locals := 46 }) (cPc (dC, dI) (uw_Reader ad_rd cA_rd rd ++ (uw_Table ad_tb cA_tb tb)) [(cA_rd 1, .int), (cA_tb 1, .int), (cA_tb 2, .int), (cA_tb 3, .int), (cA_tb 4, .byte)] sz [.ref (ad_rd 0), .ref (ad_tb 0)]) (va_Qi (fun (r : Int32) (u : SReader × STable) => r = bI res.1 ∧ u = res.2) (fun (u : SReader × STable) (t : State) => va_P (dC, dI) vwCl (uw_Reader ad_rd cA_rd u.1 ++ (uw_Table ad_tb cA_tb u.2)) t.heap ∧ va_K (dC, dI) vwCl [(cA_rd 1, .int), (cA_tb 1, .int), (cA_tb 2, .int), (cA_tb 3, .int), (cA_tb 4, .byte)] t ∧ va_D (va_A (uw_Reader ad_rd cA_rd rd ++ (uw_Table ad_tb cA_tb tb)) sz) (uw_Reader ad_rd cA_rd u.1 ++ (uw_Table ad_tb cA_tb u.2))) (va_A (uw_Reader ad_rd cA_rd rd ++ (uw_Table ad_tb cA_tb tb)) sz)) 0 0 (va_A (uw_Reader ad_rd cA_rd rd ++ (uw_Table ad_tb cA_tb tb)) sz) := by
  refine Met.ofW (cc := b_Reader_startMaterial) (maxL := 2) (ret := (some .boolean)) (by decide) rfl ?_
  intro p e s m args below meth c s₁ B hml hv
  obtain ⟨rfl, hsz, hP, hK, hD0, hN⟩ := hv
  have hx := B.exec
  have hb := B.bytes
  have hr := B.returns
  have hts := atoms_spec (ws := w_Reader_startMaterial) B.pre
  have hown : s.vm.findClass "HazardTables$Reader" = some m.cls := findClass_of_methodNamed B.named
  have hlocks := B.notSynchronized
  subst hsz
  have hD := hD0.self (sz := s.heap.size)
  generalize hAe : va_A (uw_Reader ad_rd cA_rd rd ++ (uw_Table ad_tb cA_tb tb)) s.heap.size = A at hD ⊢
  have hA : ∀ q : Nat, s.heap.size ≤ q → A q := fun q h => by rw [← hAe]; exact Or.inr h
  have hS : va_S A s.heap s.heap [] := va_S.rf
  have hP : va_P (dC, dI) vwCl (uw_Reader ad_rd cA_rd rd ++ (uw_Table ad_tb cA_tb tb)) s.heap := hP
  have fl_31 := (hts _ (List.mem_cons_of_mem _ wd_74))
  have fl_83 := (hts _ (List.mem_cons_of_mem _ wd_75))
  have hin_Reader : ∀ w ∈ u_ws "HazardTables$Reader" F_Reader 5, w ∈ w_Reader_startMaterial := fun w h => List.mem_cons_of_mem _ (hinA_Reader w h)
  have ret : ∀ (v : Bool) (u : SReader × STable) (H : Heap) (locs : List Loc) (ls : Array Slot) (pc : Nat), decode b_Reader_startMaterial pc = .ok (.ireturn, 1) → (v = res.1 ∧ u = res.2) → va_P (dC, dI) vwCl (uw_Reader ad_rd cA_rd u.1 ++ (uw_Table ad_tb cA_tb u.2)) H → va_D A (uw_Reader ad_rd cA_rd u.1 ++ (uw_Table ad_tb cA_tb u.2)) → va_S A s.heap H locs → W p l e (headSpec w_Reader_startMaterial ({ frames := 2, cells := 0, slots := 0, locals := 46 })).room s m ([.ref (ad_rd 0), .ref (ad_tb 0)] : List Value).toArray below meth c H locs 0 0 (MQ below (va_Qi (fun (r : Int32) (u : SReader × STable) => r = bI res.1 ∧ u = res.2) (fun (u : SReader × STable) (t : State) => va_P (dC, dI) vwCl (uw_Reader ad_rd cA_rd u.1 ++ (uw_Table ad_tb cA_tb u.2)) t.heap ∧ va_K (dC, dI) vwCl [(cA_rd 1, .int), (cA_tb 1, .int), (cA_tb 2, .int), (cA_tb 3, .int), (cA_tb 4, .byte)] t ∧ va_D A (uw_Reader ad_rd cA_rd u.1 ++ (uw_Table ad_tb cA_tb u.2))) A) ([.ref (ad_rd 0), .ref (ad_tb 0)] : List Value).toArray s 0 0 A) (F0 m pc ls [.int (bI v)]) := fun v u H locs ls pc hd hp hP hD hS => W.zret (v := bI v) (ty := .boolean) hx hb hr (nar_bI v) (fun t ht hW => ⟨⟨bI v, u, rfl, ⟨by rw [hp.1], hp.2⟩, by rw [ht]; exact hP, va_K.moved hW.alike hK, hD⟩, hS.F ht⟩) hS.2.2 hd
  generalize (MQ below (va_Qi (fun (r : Int32) (u : SReader × STable) => r = bI res.1 ∧ u = res.2) (fun (u : SReader × STable) (t : State) => va_P (dC, dI) vwCl (uw_Reader ad_rd cA_rd u.1 ++ (uw_Table ad_tb cA_tb u.2)) t.heap ∧ va_K (dC, dI) vwCl [(cA_rd 1, .int), (cA_tb 1, .int), (cA_tb 2, .int), (cA_tb 3, .int), (cA_tb 4, .byte)] t ∧ va_D A (uw_Reader ad_rd cA_rd u.1 ++ (uw_Table ad_tb cA_tb u.2))) A) ([.ref (ad_rd 0), .ref (ad_tb 0)] : List Value).toArray s 0 0 A) = Q at ret ⊢
  have hl := lv_entry ([.ref (ad_rd 0), .ref (ad_tb 0)]) (n := 2) (Nat.le_of_ble_eq_true rfl)
  rw [lg_entry_eq]
  generalize (lg_sl ([.ref (ad_rd 0), .ref (ad_tb 0)]) ++ List.replicate (2 - (lg_sl ([.ref (ad_rd 0), .ref (ad_tb 0)])).length) Slot.unset).toArray = ls at hl ⊢
  have hl : lv_has ls 2 [(0, .ref (ad_rd 0)), (1, .ref (ad_tb 0))] := hl
  have hf := hf
  rw [f_Reader_startMaterial] at hf
  obtain ⟨H, hH⟩ : ∃ H : Heap, H = s.heap := ⟨_, rfl⟩
  obtain ⟨locs, hlocs⟩ : ∃ L : List Loc, L = [] := ⟨_, rfl⟩
  have hP : va_P (dC, dI) vwCl (uw_Reader ad_rd cA_rd rd ++ (uw_Table ad_tb cA_tb tb)) H := by rw [hH]; exact hP
  have hS : va_S A s.heap H locs := by rw [hH, hlocs]; exact hS
  show W p l e (headSpec w_Reader_startMaterial ({ frames := 2, cells := 0, slots := 0, locals := 46 })).room s m ([.ref (ad_rd 0), .ref (ad_tb 0)] : List Value).toArray below meth c s.heap [] 0 0 Q (F0 m 0 ls [])
  suffices hgo : W p l e (headSpec w_Reader_startMaterial ({ frames := 2, cells := 0, slots := 0, locals := 46 })).room s m ([.ref (ad_rd 0), .ref (ad_tb 0)] : List Value).toArray below meth c H locs 0 0 Q (F0 m 0 ls []) by rw [hH, hlocs] at hgo; exact hgo
  clear hH hlocs
  refine lv_aload_n hx hb d_Reader_startMaterial_0 rfl (lv_at hl 1 rfl) ?_
  obtain ⟨u1, hu1, hf⟩ := Option.bind_eq_some_iff.mp hf
  refine cl_i (wc := (uw_Table ad_tb cA_tb tb)) (wr := (uw_Reader ad_rd cA_rd rd)) (tysC := [(cA_tb 1, .int), (cA_tb 2, .int), (cA_tb 3, .int), (cA_tb 4, .byte)]) (wu := fun (u : Unit) => (uw_Table ad_tb cA_tb tb)) (wn := fun (u : Unit) => (uw_Reader ad_rd cA_rd rd ++ (uw_Table ad_tb cA_tb tb))) [2, 3, 4, 5, 6] [0, 1] [0, 1, 2, 3, 4, 5, 6] [1, 2, 3, 4] hP hD hS hA hK rfl rfl (by decide +kernel) (by decide +kernel) (by decide +kernel) rfl (fun _ => rfl) (by decide +kernel) (fun hPc hKc hDc => (va_runV (As := []) (rest := []) ⟨hx, hb, hml, hown, hts⟩ (k_Table_isFull l dC dI ad_tb cA_tb H.size tb u1 hu1) (cwV 0 hts (gV wd_370 wd_371 wd_372 wd_48 wd_373) rfl rfl rfl (by decide +kernel) ⟨Nat.le_of_ble_eq_true rfl, Nat.le_of_ble_eq_true rfl⟩) (cl_preV hPc hKc hDc hN (ci := 4) 0 rfl rfl) rfl rfl hl.1 rfl (lv_room (Nat.le_of_ble_eq_true rfl)) d_Reader_startMaterial_1 ⟨Nat.le_of_ble_eq_true rfl, Nat.le_of_ble_eq_true rfl⟩)) (fun r u H locs hw hP hD hS => ?_)
  have hw := hw.symm
  subst hw
  have hP : va_P (dC, dI) vwCl (uw_Reader ad_rd cA_rd rd ++ (uw_Table ad_tb cA_tb tb)) H := hP
  have hD : va_D A (uw_Reader ad_rd cA_rd rd ++ (uw_Table ad_tb cA_tb tb)) := hD
  refine lv_if_eq (tgt := 16) hx hb d_Reader_startMaterial_4 (by decide) (fun hc2 => ?_) (fun hc2 => ?_)
  · have hf := hf_t hf hc2
    refine lv_aload_n hx hb d_Reader_startMaterial_16 rfl (lv_at hl 0 rfl) ?_
    refine lv_dup hx hb d_Reader_startMaterial_17 rfl ?_
    refine va_get (D := (dC, dI)) (ci := 1) (v := .int rd.2.2.1) (C := "HazardTables$Reader") (T := F_Reader) (N := 5) hx hb hts hin_Reader hown hK hP 0 rfl rfl 2 (by decide) fl_31 (fun _ h9 => h9) rfl d_Reader_startMaterial_18 ?_
    refine lv_iconst (v := (1 : Int32)) hx hb d_Reader_startMaterial_21 (by decide) ?_
    refine lv_iadd hx hb d_Reader_startMaterial_22 ?_
    refine va_put (D := (dC, dI)) (ci := 1) (v := .int (rd.2.2.1 + (1 : Int32))) (ty := .int) (C := "HazardTables$Reader") (T := F_Reader) (N := 5) hx hb hts hin_Reader t_Reader t_Reader_ok n_Reader hown hK hP hD hS 0 rfl rfl 2 (by decide) fl_31 (fun _ h9 => h9) rfl (by decide +kernel) rfl rfl (Nat.le_of_ble_eq_true rfl) d_Reader_startMaterial_23 (fun H locs hP hD hS => ?_)
    have hP : va_P (dC, dI) vwCl (uw_Reader ad_rd cA_rd (rd.1, rd.2.1, rd.2.2.1 + (1 : Int32), rd.2.2.2.1, rd.2.2.2.2) ++ (uw_Table ad_tb cA_tb tb)) H := hP
    have hD : va_D A (uw_Reader ad_rd cA_rd (rd.1, rd.2.1, rd.2.2.1 + (1 : Int32), rd.2.2.2.1, rd.2.2.2.2) ++ (uw_Table ad_tb cA_tb tb)) := hD
    refine lv_aload_n hx hb d_Reader_startMaterial_26 rfl (lv_at hl 0 rfl) ?_
    refine lv_iconst (v := (1 : Int32)) hx hb d_Reader_startMaterial_27 (by decide) ?_
    refine lv_sipush (v := (9999 : Int32)) hx hb d_Reader_startMaterial_28 (by decide) ?_
    obtain ⟨u3, hu3, hf⟩ := Option.bind_eq_some_iff.mp hf
    refine cl_i (wc := (uw_Reader ad_rd cA_rd (rd.1, rd.2.1, rd.2.2.1 + (1 : Int32), rd.2.2.2.1, rd.2.2.2.2))) (wr := (uw_Table ad_tb cA_tb tb)) (tysC := [(cA_rd 1, .int)]) (wu := fun (u : SReader) => (uw_Reader ad_rd cA_rd u)) (wn := fun (u : SReader) => (uw_Reader ad_rd cA_rd u ++ (uw_Table ad_tb cA_tb tb))) [0, 1] [2, 3, 4, 5, 6] [5, 6, 0, 1, 2, 3, 4] [0] hP hD hS hA hK rfl rfl (by decide +kernel) (by decide +kernel) (by decide +kernel) rfl (fun _ => rfl) (by decide +kernel) (fun hPc hKc hDc => (va_runV (As := [.int (1 : Int32), .int (9999 : Int32)]) (rest := []) ⟨hx, hb, hml, hown, hts⟩ (k_Reader_readNumber l dC dI ad_rd cA_rd H.size (rd.1, rd.2.1, rd.2.2.1 + (1 : Int32), rd.2.2.2.1, rd.2.2.2.2) (1 : Int32) (9999 : Int32) u3 hu3) (cwV 2 hts (gV wd_378 wd_380 wd_5 wd_44 wd_381) rfl rfl rfl (by decide +kernel) ⟨Nat.le_of_ble_eq_true rfl, Nat.le_of_ble_eq_true rfl⟩) (cl_preV hPc hKc hDc hN (ci := 1) 0 rfl rfl) rfl rfl hl.1 rfl (lv_room (Nat.le_of_ble_eq_true rfl)) d_Reader_startMaterial_31 ⟨Nat.le_of_ble_eq_true rfl, Nat.le_of_ble_eq_true rfl⟩)) (fun r u H locs hw hP hD hS => ?_)
    obtain ⟨hw1, hw2⟩ := hw
    have hw1 := hw1.symm
    have hw2 := hw2.symm
    subst hw1
    subst hw2
    have hP : va_P (dC, dI) vwCl (uw_Reader ad_rd cA_rd u3.2 ++ (uw_Table ad_tb cA_tb tb)) H := hP
    have hD : va_D A (uw_Reader ad_rd cA_rd u3.2 ++ (uw_Table ad_tb cA_tb tb)) := hD
    refine lv_if_ne (tgt := 39) hx hb d_Reader_startMaterial_34 (by decide) (fun hc4 => ?_) (fun hc4 => ?_)
    · have hf := hf_f hf hc4
      refine lv_aload_n hx hb d_Reader_startMaterial_39 rfl (lv_at hl 1 rfl) ?_
      refine lv_aload_n hx hb d_Reader_startMaterial_40 rfl (lv_at hl 0 rfl) ?_
      refine va_get (D := (dC, dI)) (ci := 1) (v := .int u3.2.2.2.2.1) (C := "HazardTables$Reader") (T := F_Reader) (N := 5) hx hb hts hin_Reader hown hK hP 0 rfl rfl 3 (by decide) fl_83 (fun _ h9 => h9) rfl d_Reader_startMaterial_41 ?_
      obtain ⟨u5, hu5, hf⟩ := Option.bind_eq_some_iff.mp hf
      refine cl_i (wc := (uw_Table ad_tb cA_tb tb)) (wr := (uw_Reader ad_rd cA_rd u3.2)) (tysC := [(cA_tb 1, .int), (cA_tb 2, .int), (cA_tb 3, .int), (cA_tb 4, .byte)]) (wu := fun (u : Unit) => (uw_Table ad_tb cA_tb tb)) (wn := fun (u : Unit) => (uw_Reader ad_rd cA_rd u3.2 ++ (uw_Table ad_tb cA_tb tb))) [2, 3, 4, 5, 6] [0, 1] [0, 1, 2, 3, 4, 5, 6] [1, 2, 3, 4] hP hD hS hA hK rfl rfl (by decide +kernel) (by decide +kernel) (by decide +kernel) rfl (fun _ => rfl) (by decide +kernel) (fun hPc hKc hDc => (va_runV (As := [.int u3.2.2.2.2.1]) (rest := []) ⟨hx, hb, hml, hown, hts⟩ (k_Table_rowOf l dC dI ad_tb cA_tb H.size tb u3.2.2.2.2.1 u5 hu5) (cwV 1 hts (gV wd_389 wd_390 wd_391 wd_48 wd_392) rfl rfl rfl (by decide +kernel) ⟨Nat.le_of_ble_eq_true rfl, Nat.le_of_ble_eq_true rfl⟩) (cl_preV hPc hKc hDc hN (ci := 4) 0 rfl rfl) rfl rfl hl.1 rfl (lv_room (Nat.le_of_ble_eq_true rfl)) d_Reader_startMaterial_44 ⟨Nat.le_of_ble_eq_true rfl, Nat.le_of_ble_eq_true rfl⟩)) (fun r u H locs hw hP hD hS => ?_)
      have hw := hw.symm
      subst hw
      have hP : va_P (dC, dI) vwCl (uw_Reader ad_rd cA_rd u3.2 ++ (uw_Table ad_tb cA_tb tb)) H := hP
      have hD : va_D A (uw_Reader ad_rd cA_rd u3.2 ++ (uw_Table ad_tb cA_tb tb)) := hD
      refine lv_iconst (v := (-1 : Int32)) hx hb d_Reader_startMaterial_47 (by decide) ?_
      refine lv_icmp_eq (tgt := 62) hx hb d_Reader_startMaterial_48 (by decide) (fun hc6 => ?_) (fun hc6 => ?_)
      · have hf := hf_t hf hc6
        refine lv_aload_n hx hb d_Reader_startMaterial_62 rfl (lv_at hl 1 rfl) ?_
        refine lv_aload_n hx hb d_Reader_startMaterial_63 rfl (lv_at hl 0 rfl) ?_
        refine va_get (D := (dC, dI)) (ci := 1) (v := .int u3.2.2.2.2.1) (C := "HazardTables$Reader") (T := F_Reader) (N := 5) hx hb hts hin_Reader hown hK hP 0 rfl rfl 3 (by decide) fl_83 (fun _ h9 => h9) rfl d_Reader_startMaterial_64 ?_
        obtain ⟨u7, hu7, hf⟩ := Option.bind_eq_some_iff.mp hf
        refine cl_v (wc := (uw_Table ad_tb cA_tb tb)) (wr := (uw_Reader ad_rd cA_rd u3.2)) (tysC := [(cA_tb 1, .int), (cA_tb 2, .int), (cA_tb 3, .int), (cA_tb 4, .byte)]) (wu := fun (u : STable) => (uw_Table ad_tb cA_tb u)) (wn := fun (u : STable) => (uw_Reader ad_rd cA_rd u3.2 ++ (uw_Table ad_tb cA_tb u))) [2, 3, 4, 5, 6] [0, 1] [0, 1, 2, 3, 4, 5, 6] [1, 2, 3, 4] hP hD hS hA hK rfl rfl (by decide +kernel) (by decide +kernel) (by decide +kernel) rfl (fun _ => rfl) (by decide +kernel) (fun hPc hKc hDc => (va_runV (As := [.int u3.2.2.2.2.1]) (rest := []) ⟨hx, hb, hml, hown, hts⟩ (k_Table_append l dC dI ad_tb cA_tb H.size tb u3.2.2.2.2.1 u7 hu7) (cwV 1 hts (gV wd_393 wd_394 wd_395 wd_48 wd_396) rfl rfl rfl (by decide +kernel) ⟨Nat.le_of_ble_eq_true rfl, Nat.le_of_ble_eq_true rfl⟩) (cl_preV hPc hKc hDc hN (ci := 4) 0 rfl rfl) rfl rfl hl.1 rfl (lv_room (Nat.le_of_ble_eq_true rfl)) d_Reader_startMaterial_67 ⟨Nat.le_of_ble_eq_true rfl, Nat.le_of_ble_eq_true rfl⟩)) (fun u H locs hw hP hD hS => ?_)
        have hw := hw.symm
        subst hw
        have hP : va_P (dC, dI) vwCl (uw_Reader ad_rd cA_rd u3.2 ++ (uw_Table ad_tb cA_tb u7)) H := hP
        have hD : va_D A (uw_Reader ad_rd cA_rd u3.2 ++ (uw_Table ad_tb cA_tb u7)) := hD
        refine lv_iconst (v := (1 : Int32)) hx hb d_Reader_startMaterial_70 (by decide) ?_
        exact ret true (u3.2, u7) H locs ls 71 d_Reader_startMaterial_71 (hf_e hf) hP hD hS
      · have hf := hf_f hf hc6
        refine lv_aload_n hx hb d_Reader_startMaterial_51 rfl (lv_at hl 0 rfl) ?_
        refine lv_aload_n hx hb d_Reader_startMaterial_52 rfl (lv_at hl 0 rfl) ?_
        refine va_get (D := (dC, dI)) (ci := 1) (v := .int u3.2.2.2.1) (C := "HazardTables$Reader") (T := F_Reader) (N := 5) hx hb hts hin_Reader hown hK hP 0 rfl rfl 2 (by decide) fl_31 (fun _ h9 => h9) rfl d_Reader_startMaterial_53 ?_
        refine lv_iconst (v := (1 : Int32)) hx hb d_Reader_startMaterial_56 (by decide) ?_
        refine lv_isub hx hb d_Reader_startMaterial_57 ?_
        obtain ⟨u8, hu8, hf⟩ := Option.bind_eq_some_iff.mp hf
        refine cl_i (wc := (uw_Reader ad_rd cA_rd u3.2)) (wr := (uw_Table ad_tb cA_tb tb)) (tysC := [(cA_rd 1, .int)]) (wu := fun (u : SReader) => (uw_Reader ad_rd cA_rd u)) (wn := fun (u : SReader) => (uw_Reader ad_rd cA_rd u ++ (uw_Table ad_tb cA_tb tb))) [0, 1] [2, 3, 4, 5, 6] [5, 6, 0, 1, 2, 3, 4] [0] hP hD hS hA hK rfl rfl (by decide +kernel) (by decide +kernel) (by decide +kernel) rfl (fun _ => rfl) (by decide +kernel) (fun hPc hKc hDc => (va_runV (As := [.int (u3.2.2.2.1 - (1 : Int32))]) (rest := []) ⟨hx, hb, hml, hown, hts⟩ (k_Reader_wrong l dC dI ad_rd cA_rd H.size u3.2 (u3.2.2.2.1 - (1 : Int32)) u8 hu8) (cwV 1 hts (gV wd_374 wd_376 wd_4 wd_44 wd_377) rfl rfl rfl (by decide +kernel) ⟨Nat.le_of_ble_eq_true rfl, Nat.le_of_ble_eq_true rfl⟩) (cl_preV hPc hKc hDc hN (ci := 1) 0 rfl rfl) rfl rfl hl.1 rfl (lv_room (Nat.le_of_ble_eq_true rfl)) d_Reader_startMaterial_58 ⟨Nat.le_of_ble_eq_true rfl, Nat.le_of_ble_eq_true rfl⟩)) (fun r u H locs hw hP hD hS => ?_)
        obtain ⟨hw1, hw2⟩ := hw
        have hw1 := hw1.symm
        have hw2 := hw2.symm
        subst hw1
        subst hw2
        have hP : va_P (dC, dI) vwCl (uw_Reader ad_rd cA_rd u8.2 ++ (uw_Table ad_tb cA_tb tb)) H := hP
        have hD : va_D A (uw_Reader ad_rd cA_rd u8.2 ++ (uw_Table ad_tb cA_tb tb)) := hD
        exact ret u8.1 (u8.2, tb) H locs ls 61 d_Reader_startMaterial_61 (hf_e hf) hP hD hS
    · have hf := hf_t hf hc4
      refine lv_iconst (v := (0 : Int32)) hx hb d_Reader_startMaterial_37 (by decide) ?_
      exact ret false (u3.2, tb) H locs ls 38 d_Reader_startMaterial_38 (hf_e hf) hP hD hS
  · have hf := hf_f hf hc2
    refine lv_aload_n hx hb d_Reader_startMaterial_7 rfl (lv_at hl 0 rfl) ?_
    refine lv_aload_n hx hb d_Reader_startMaterial_8 rfl (lv_at hl 0 rfl) ?_
    refine va_get (D := (dC, dI)) (ci := 1) (v := .int rd.2.2.1) (C := "HazardTables$Reader") (T := F_Reader) (N := 5) hx hb hts hin_Reader hown hK hP 0 rfl rfl 2 (by decide) fl_31 (fun _ h9 => h9) rfl d_Reader_startMaterial_9 ?_
    obtain ⟨u9, hu9, hf⟩ := Option.bind_eq_some_iff.mp hf
    refine cl_i (wc := (uw_Reader ad_rd cA_rd rd)) (wr := (uw_Table ad_tb cA_tb tb)) (tysC := [(cA_rd 1, .int)]) (wu := fun (u : SReader) => (uw_Reader ad_rd cA_rd u)) (wn := fun (u : SReader) => (uw_Reader ad_rd cA_rd u ++ (uw_Table ad_tb cA_tb tb))) [0, 1] [2, 3, 4, 5, 6] [5, 6, 0, 1, 2, 3, 4] [0] hP hD hS hA hK rfl rfl (by decide +kernel) (by decide +kernel) (by decide +kernel) rfl (fun _ => rfl) (by decide +kernel) (fun hPc hKc hDc => (va_runV (As := [.int rd.2.2.1]) (rest := []) ⟨hx, hb, hml, hown, hts⟩ (k_Reader_wrong l dC dI ad_rd cA_rd H.size rd rd.2.2.1 u9 hu9) (cwV 1 hts (gV wd_374 wd_376 wd_4 wd_44 wd_377) rfl rfl rfl (by decide +kernel) ⟨Nat.le_of_ble_eq_true rfl, Nat.le_of_ble_eq_true rfl⟩) (cl_preV hPc hKc hDc hN (ci := 1) 0 rfl rfl) rfl rfl hl.1 rfl (lv_room (Nat.le_of_ble_eq_true rfl)) d_Reader_startMaterial_12 ⟨Nat.le_of_ble_eq_true rfl, Nat.le_of_ble_eq_true rfl⟩)) (fun r u H locs hw hP hD hS => ?_)
    obtain ⟨hw1, hw2⟩ := hw
    have hw1 := hw1.symm
    have hw2 := hw2.symm
    subst hw1
    subst hw2
    have hP : va_P (dC, dI) vwCl (uw_Reader ad_rd cA_rd u9.2 ++ (uw_Table ad_tb cA_tb tb)) H := hP
    have hD : va_D A (uw_Reader ad_rd cA_rd u9.2 ++ (uw_Table ad_tb cA_tb tb)) := hD
    exact ret u9.1 (u9.2, tb) H locs ls 15 d_Reader_startMaterial_15 (hf_e hf) hP hD hS
noncomputable def f_Reader_take (rd : SReader) (x1 : Int32) : Option (Bool × SReader) :=
  (Option.bind (f_Reader_peek rd) fun u1 =>
    (if u1.1 = x1 then
      (some (true, (u1.2.1, u1.2.2.1, u1.2.2.2.1 + (1 : Int32), u1.2.2.2.2.1, u1.2.2.2.2.2)))
     else
      (Option.bind (f_Reader_wrong u1.2 u1.2.2.2.1) fun u3 =>
        (some (u3.1, u3.2))
       )
     )
   )
set_option maxHeartbeats 4000000 in
set_option maxRecDepth 100000 in
theorem k_Reader_take (l : Launch) (dC : Nat → ClassId) (dI : Nat → Nat → Nat) (ad_rd : Nat → Nat) (cA_rd : Nat → ClassId) (sz : Nat) (rd : SReader) (x1 : Int32) (res : Bool × SReader) (hf : f_Reader_take rd x1 = some res) : Met l y_Reader_take w_Reader_take ({ frames := 1, cells := 0, slots := 0, locals := 21 }) (cPc (dC, dI) (uw_Reader ad_rd cA_rd rd) [(cA_rd 1, .int)] sz [.ref (ad_rd 0), .int x1]) (va_Qi (fun (r : Int32) (u : SReader) => r = bI res.1 ∧ u = res.2) (fun (u : SReader) (t : State) => va_P (dC, dI) vwCl (uw_Reader ad_rd cA_rd u) t.heap ∧ va_K (dC, dI) vwCl [(cA_rd 1, .int)] t ∧ va_D (va_A (uw_Reader ad_rd cA_rd rd) sz) (uw_Reader ad_rd cA_rd u)) (va_A (uw_Reader ad_rd cA_rd rd) sz)) 0 0 (va_A (uw_Reader ad_rd cA_rd rd) sz) := by
  refine Met.ofW (cc := b_Reader_take) (maxL := 2) (ret := (some .boolean)) (by decide) rfl ?_
  intro p e s m args below meth c s₁ B hml hv
  obtain ⟨rfl, hsz, hP, hK, hD0, hN⟩ := hv
  have hx := B.exec
  have hb := B.bytes
  have hr := B.returns
  have hts := atoms_spec (ws := w_Reader_take) B.pre
  have hown : s.vm.findClass "HazardTables$Reader" = some m.cls := findClass_of_methodNamed B.named
  have hlocks := B.notSynchronized
  subst hsz
  have hD := hD0.self (sz := s.heap.size)
  generalize hAe : va_A (uw_Reader ad_rd cA_rd rd) s.heap.size = A at hD ⊢
  have hA : ∀ q : Nat, s.heap.size ≤ q → A q := fun q h => by rw [← hAe]; exact Or.inr h
  have hS : va_S A s.heap s.heap [] := va_S.rf
  have hP : va_P (dC, dI) vwCl (uw_Reader ad_rd cA_rd rd) s.heap := hP
  have fl_31 := (hts _ (List.mem_cons_of_mem _ wd_74))
  have hin_Reader : ∀ w ∈ u_ws "HazardTables$Reader" F_Reader 5, w ∈ w_Reader_take := fun w h => List.mem_cons_of_mem _ (hinA_Reader w h)
  have ret : ∀ (v : Bool) (u : SReader) (H : Heap) (locs : List Loc) (ls : Array Slot) (pc : Nat), decode b_Reader_take pc = .ok (.ireturn, 1) → (v = res.1 ∧ u = res.2) → va_P (dC, dI) vwCl (uw_Reader ad_rd cA_rd u) H → va_D A (uw_Reader ad_rd cA_rd u) → va_S A s.heap H locs → W p l e (headSpec w_Reader_take ({ frames := 1, cells := 0, slots := 0, locals := 21 })).room s m ([.ref (ad_rd 0), .int x1] : List Value).toArray below meth c H locs 0 0 (MQ below (va_Qi (fun (r : Int32) (u : SReader) => r = bI res.1 ∧ u = res.2) (fun (u : SReader) (t : State) => va_P (dC, dI) vwCl (uw_Reader ad_rd cA_rd u) t.heap ∧ va_K (dC, dI) vwCl [(cA_rd 1, .int)] t ∧ va_D A (uw_Reader ad_rd cA_rd u)) A) ([.ref (ad_rd 0), .int x1] : List Value).toArray s 0 0 A) (F0 m pc ls [.int (bI v)]) := fun v u H locs ls pc hd hp hP hD hS => W.zret (v := bI v) (ty := .boolean) hx hb hr (nar_bI v) (fun t ht hW => ⟨⟨bI v, u, rfl, ⟨by rw [hp.1], hp.2⟩, by rw [ht]; exact hP, va_K.moved hW.alike hK, hD⟩, hS.F ht⟩) hS.2.2 hd
  generalize (MQ below (va_Qi (fun (r : Int32) (u : SReader) => r = bI res.1 ∧ u = res.2) (fun (u : SReader) (t : State) => va_P (dC, dI) vwCl (uw_Reader ad_rd cA_rd u) t.heap ∧ va_K (dC, dI) vwCl [(cA_rd 1, .int)] t ∧ va_D A (uw_Reader ad_rd cA_rd u)) A) ([.ref (ad_rd 0), .int x1] : List Value).toArray s 0 0 A) = Q at ret ⊢
  have hl := lv_entry ([.ref (ad_rd 0), .int x1]) (n := 2) (Nat.le_of_ble_eq_true rfl)
  rw [lg_entry_eq]
  generalize (lg_sl ([.ref (ad_rd 0), .int x1]) ++ List.replicate (2 - (lg_sl ([.ref (ad_rd 0), .int x1])).length) Slot.unset).toArray = ls at hl ⊢
  have hl : lv_has ls 2 [(0, .ref (ad_rd 0)), (1, .int x1)] := hl
  have hf := hf
  rw [f_Reader_take] at hf
  obtain ⟨H, hH⟩ : ∃ H : Heap, H = s.heap := ⟨_, rfl⟩
  obtain ⟨locs, hlocs⟩ : ∃ L : List Loc, L = [] := ⟨_, rfl⟩
  have hP : va_P (dC, dI) vwCl (uw_Reader ad_rd cA_rd rd) H := by rw [hH]; exact hP
  have hS : va_S A s.heap H locs := by rw [hH, hlocs]; exact hS
  show W p l e (headSpec w_Reader_take ({ frames := 1, cells := 0, slots := 0, locals := 21 })).room s m ([.ref (ad_rd 0), .int x1] : List Value).toArray below meth c s.heap [] 0 0 Q (F0 m 0 ls [])
  suffices hgo : W p l e (headSpec w_Reader_take ({ frames := 1, cells := 0, slots := 0, locals := 21 })).room s m ([.ref (ad_rd 0), .int x1] : List Value).toArray below meth c H locs 0 0 Q (F0 m 0 ls []) by rw [hH, hlocs] at hgo; exact hgo
  clear hH hlocs
  refine lv_aload_n hx hb d_Reader_take_0 rfl (lv_at hl 0 rfl) ?_
  obtain ⟨u1, hu1, hf⟩ := Option.bind_eq_some_iff.mp hf
  refine cl_i (wc := (uw_Reader ad_rd cA_rd rd)) (wr := []) (tysC := [(cA_rd 1, .int)]) (wu := fun (u : SReader) => (uw_Reader ad_rd cA_rd u)) (wn := fun (u : SReader) => (uw_Reader ad_rd cA_rd u)) [0, 1] [] [0, 1] [0] hP hD hS hA hK rfl rfl (by decide +kernel) (by decide +kernel) (by decide +kernel) rfl (fun _ => rfl) (by decide +kernel) (fun hPc hKc hDc => (va_runV (As := []) (rest := []) ⟨hx, hb, hml, hown, hts⟩ (k_Reader_peek l dC dI ad_rd cA_rd H.size rd u1 hu1) (cwV 0 hts (gV wd_358 wd_360 wd_1 wd_44 wd_361) rfl rfl rfl (by decide +kernel) ⟨Nat.le_of_ble_eq_true rfl, Nat.le_of_ble_eq_true rfl⟩) (cl_preV hPc hKc hDc hN (ci := 1) 0 rfl rfl) rfl rfl hl.1 rfl (lv_room (Nat.le_of_ble_eq_true rfl)) d_Reader_take_1 ⟨Nat.le_of_ble_eq_true rfl, Nat.le_of_ble_eq_true rfl⟩)) (fun r u H locs hw hP hD hS => ?_)
  obtain ⟨hw1, hw2⟩ := hw
  have hw1 := hw1.symm
  have hw2 := hw2.symm
  subst hw1
  subst hw2
  have hP : va_P (dC, dI) vwCl (uw_Reader ad_rd cA_rd u1.2) H := hP
  have hD : va_D A (uw_Reader ad_rd cA_rd u1.2) := hD
  refine lv_iload_n hx hb d_Reader_take_4 rfl (lv_at hl 1 rfl) ?_
  refine lv_icmp_eq (tgt := 17) hx hb d_Reader_take_5 (by decide) (fun hc2 => ?_) (fun hc2 => ?_)
  · have hf := hf_t hf hc2
    refine lv_aload_n hx hb d_Reader_take_17 rfl (lv_at hl 0 rfl) ?_
    refine lv_dup hx hb d_Reader_take_18 rfl ?_
    refine va_get (D := (dC, dI)) (ci := 1) (v := .int u1.2.2.2.1) (C := "HazardTables$Reader") (T := F_Reader) (N := 5) hx hb hts hin_Reader hown hK hP 0 rfl rfl 2 (by decide) fl_31 (fun _ h9 => h9) rfl d_Reader_take_19 ?_
    refine lv_iconst (v := (1 : Int32)) hx hb d_Reader_take_22 (by decide) ?_
    refine lv_iadd hx hb d_Reader_take_23 ?_
    refine va_put (D := (dC, dI)) (ci := 1) (v := .int (u1.2.2.2.1 + (1 : Int32))) (ty := .int) (C := "HazardTables$Reader") (T := F_Reader) (N := 5) hx hb hts hin_Reader t_Reader t_Reader_ok n_Reader hown hK hP hD hS 0 rfl rfl 2 (by decide) fl_31 (fun _ h9 => h9) rfl (by decide +kernel) rfl rfl (Nat.le_of_ble_eq_true rfl) d_Reader_take_24 (fun H locs hP hD hS => ?_)
    have hP : va_P (dC, dI) vwCl (uw_Reader ad_rd cA_rd (u1.2.1, u1.2.2.1, u1.2.2.2.1 + (1 : Int32), u1.2.2.2.2.1, u1.2.2.2.2.2)) H := hP
    have hD : va_D A (uw_Reader ad_rd cA_rd (u1.2.1, u1.2.2.1, u1.2.2.2.1 + (1 : Int32), u1.2.2.2.2.1, u1.2.2.2.2.2)) := hD
    refine lv_iconst (v := (1 : Int32)) hx hb d_Reader_take_27 (by decide) ?_
    exact ret true (u1.2.1, u1.2.2.1, u1.2.2.2.1 + (1 : Int32), u1.2.2.2.2.1, u1.2.2.2.2.2) H locs ls 28 d_Reader_take_28 (hf_e hf) hP hD hS
  · have hf := hf_f hf hc2
    refine lv_aload_n hx hb d_Reader_take_8 rfl (lv_at hl 0 rfl) ?_
    refine lv_aload_n hx hb d_Reader_take_9 rfl (lv_at hl 0 rfl) ?_
    refine va_get (D := (dC, dI)) (ci := 1) (v := .int u1.2.2.2.1) (C := "HazardTables$Reader") (T := F_Reader) (N := 5) hx hb hts hin_Reader hown hK hP 0 rfl rfl 2 (by decide) fl_31 (fun _ h9 => h9) rfl d_Reader_take_10 ?_
    obtain ⟨u3, hu3, hf⟩ := Option.bind_eq_some_iff.mp hf
    refine cl_i (wc := (uw_Reader ad_rd cA_rd u1.2)) (wr := []) (tysC := [(cA_rd 1, .int)]) (wu := fun (u : SReader) => (uw_Reader ad_rd cA_rd u)) (wn := fun (u : SReader) => (uw_Reader ad_rd cA_rd u)) [0, 1] [] [0, 1] [0] hP hD hS hA hK rfl rfl (by decide +kernel) (by decide +kernel) (by decide +kernel) rfl (fun _ => rfl) (by decide +kernel) (fun hPc hKc hDc => (va_runV (As := [.int u1.2.2.2.1]) (rest := []) ⟨hx, hb, hml, hown, hts⟩ (k_Reader_wrong l dC dI ad_rd cA_rd H.size u1.2 u1.2.2.2.1 u3 hu3) (cwV 1 hts (gV wd_374 wd_376 wd_4 wd_44 wd_377) rfl rfl rfl (by decide +kernel) ⟨Nat.le_of_ble_eq_true rfl, Nat.le_of_ble_eq_true rfl⟩) (cl_preV hPc hKc hDc hN (ci := 1) 0 rfl rfl) rfl rfl hl.1 rfl (lv_room (Nat.le_of_ble_eq_true rfl)) d_Reader_take_13 ⟨Nat.le_of_ble_eq_true rfl, Nat.le_of_ble_eq_true rfl⟩)) (fun r u H locs hw hP hD hS => ?_)
    obtain ⟨hw1, hw2⟩ := hw
    have hw1 := hw1.symm
    have hw2 := hw2.symm
    subst hw1
    subst hw2
    have hP : va_P (dC, dI) vwCl (uw_Reader ad_rd cA_rd u3.2) H := hP
    have hD : va_D A (uw_Reader ad_rd cA_rd u3.2) := hD
    exact ret u3.1 u3.2 H locs ls 16 d_Reader_take_16 (hf_e hf) hP hD hS
noncomputable def f_Reader_readName_59  (rd : SReader) (tb : STable) (y2 : Int32) (y3 : Int32) (y4 : Int32) : Option (Bool × SReader × STable) :=
  (if y4 = 0 then
    (Option.bind (f_Reader_wrong rd rd.2.2.1) fun u10 =>
      (some (u10.1, u10.2, tb))
     )
   else
    (Option.bind (f_Reader_byteHere rd) fun u11 =>
      (if u11 = (34 : Int32) then
        (Option.bind (f_Table_endName tb y2 y3 y4) fun u13 =>
          (some (true, (rd.1, rd.2.1, rd.2.2.1 + (1 : Int32), rd.2.2.2.1, rd.2.2.2.2), u13))
         )
       else
        (Option.bind (f_Reader_wrong rd rd.2.2.1) fun u14 =>
          (some (u14.1, u14.2, tb))
         )
       )
     )
   )
noncomputable def f_Reader_readName_14  : Nat → SReader → STable → Int32 → Int32 → Int32 → Option (Bool × SReader × STable)
  | 0, _, _, _, _, _ => none
  | n + 1, rd, tb, y2, y3, y4 =>
    (if (10 : Int32) ≤ y4 then
      (f_Reader_readName_59 rd tb y2 y3 y4)
     else
      (Option.bind (f_Reader_byteHere rd) fun u4 =>
        (Option.bind (f_HT_isLetter u4) fun u5 =>
          (if (bI u5) = 0 then
            (f_Reader_readName_59 rd tb y2 y3 y4)
           else
            (Option.bind (f_Reader_byteHere rd) fun u7 =>
              (Option.bind (f_Table_setNameLetter tb y2 y3 y4 u7) fun u8 =>
                (f_Reader_readName_14 n (rd.1, rd.2.1, rd.2.2.1 + (1 : Int32), rd.2.2.2.1, rd.2.2.2.2) u8 y2 y3 (y4 + (1 : Int32)))
               )
             )
           )
         )
       )
     )
noncomputable def f_Reader_readName (rd : SReader) (tb : STable) (x2 : Int32) (x3 : Int32) : Option (Bool × SReader × STable) :=
  (Option.bind (f_Reader_take rd (34 : Int32)) fun u1 =>
    (if (bI u1.1) = 0 then
      (some (false, u1.2, tb))
     else
      (f_Reader_readName_14 4096 u1.2 tb x2 x3 (0 : Int32))
     )
   )
set_option maxHeartbeats 4000000 in
set_option maxRecDepth 100000 in
theorem k_Reader_readName (l : Launch) (dC : Nat → ClassId) (dI : Nat → Nat → Nat) (ad_rd : Nat → Nat) (cA_rd : Nat → ClassId) (ad_tb : Nat → Nat) (cA_tb : Nat → ClassId) (sz : Nat) (rd : SReader) (tb : STable) (x2 : Int32) (x3 : Int32) (res : Bool × SReader × STable) (hf : f_Reader_readName rd tb x2 x3 = some res) : Met l y_Reader_readName w_Reader_readName ({ frames := 2, cells := 0, slots := 0, locals := 48 }) (cPc (dC, dI) (uw_Reader ad_rd cA_rd rd ++ (uw_Table ad_tb cA_tb tb)) [(cA_rd 1, .int), (cA_tb 1, .int), (cA_tb 2, .int), (cA_tb 3, .int), (cA_tb 4, .byte)] sz [.ref (ad_rd 0), .ref (ad_tb 0), .int x2, .int x3]) (va_Qi (fun (r : Int32) (u : SReader × STable) => r = bI res.1 ∧ u = res.2) (fun (u : SReader × STable) (t : State) => va_P (dC, dI) vwCl (uw_Reader ad_rd cA_rd u.1 ++ (uw_Table ad_tb cA_tb u.2)) t.heap ∧ va_K (dC, dI) vwCl [(cA_rd 1, .int), (cA_tb 1, .int), (cA_tb 2, .int), (cA_tb 3, .int), (cA_tb 4, .byte)] t ∧ va_D (va_A (uw_Reader ad_rd cA_rd rd ++ (uw_Table ad_tb cA_tb tb)) sz) (uw_Reader ad_rd cA_rd u.1 ++ (uw_Table ad_tb cA_tb u.2))) (va_A (uw_Reader ad_rd cA_rd rd ++ (uw_Table ad_tb cA_tb tb)) sz)) 0 0 (va_A (uw_Reader ad_rd cA_rd rd ++ (uw_Table ad_tb cA_tb tb)) sz) := by
  refine Met.ofW (cc := b_Reader_readName) (maxL := 5) (ret := (some .boolean)) (by decide) rfl ?_
  intro p e s m args below meth c s₁ B hml hv
  obtain ⟨rfl, hsz, hP, hK, hD0, hN⟩ := hv
  have hx := B.exec
  have hb := B.bytes
  have hr := B.returns
  have hts := atoms_spec (ws := w_Reader_readName) B.pre
  have hown : s.vm.findClass "HazardTables$Reader" = some m.cls := findClass_of_methodNamed B.named
  have hlocks := B.notSynchronized
  subst hsz
  have hD := hD0.self (sz := s.heap.size)
  generalize hAe : va_A (uw_Reader ad_rd cA_rd rd ++ (uw_Table ad_tb cA_tb tb)) s.heap.size = A at hD ⊢
  have hA : ∀ q : Nat, s.heap.size ≤ q → A q := fun q h => by rw [← hAe]; exact Or.inr h
  have hS : va_S A s.heap s.heap [] := va_S.rf
  have hP : va_P (dC, dI) vwCl (uw_Reader ad_rd cA_rd rd ++ (uw_Table ad_tb cA_tb tb)) s.heap := hP
  have fl_31 := (hts _ (List.mem_cons_of_mem _ wd_74))
  have hin_Reader : ∀ w ∈ u_ws "HazardTables$Reader" F_Reader 5, w ∈ w_Reader_readName := fun w h => List.mem_cons_of_mem _ (hinA_Reader w h)
  have ret : ∀ (v : Bool) (u : SReader × STable) (H : Heap) (locs : List Loc) (ls : Array Slot) (pc : Nat), decode b_Reader_readName pc = .ok (.ireturn, 1) → (v = res.1 ∧ u = res.2) → va_P (dC, dI) vwCl (uw_Reader ad_rd cA_rd u.1 ++ (uw_Table ad_tb cA_tb u.2)) H → va_D A (uw_Reader ad_rd cA_rd u.1 ++ (uw_Table ad_tb cA_tb u.2)) → va_S A s.heap H locs → W p l e (headSpec w_Reader_readName ({ frames := 2, cells := 0, slots := 0, locals := 48 })).room s m ([.ref (ad_rd 0), .ref (ad_tb 0), .int x2, .int x3] : List Value).toArray below meth c H locs 0 0 (MQ below (va_Qi (fun (r : Int32) (u : SReader × STable) => r = bI res.1 ∧ u = res.2) (fun (u : SReader × STable) (t : State) => va_P (dC, dI) vwCl (uw_Reader ad_rd cA_rd u.1 ++ (uw_Table ad_tb cA_tb u.2)) t.heap ∧ va_K (dC, dI) vwCl [(cA_rd 1, .int), (cA_tb 1, .int), (cA_tb 2, .int), (cA_tb 3, .int), (cA_tb 4, .byte)] t ∧ va_D A (uw_Reader ad_rd cA_rd u.1 ++ (uw_Table ad_tb cA_tb u.2))) A) ([.ref (ad_rd 0), .ref (ad_tb 0), .int x2, .int x3] : List Value).toArray s 0 0 A) (F0 m pc ls [.int (bI v)]) := fun v u H locs ls pc hd hp hP hD hS => W.zret (v := bI v) (ty := .boolean) hx hb hr (nar_bI v) (fun t ht hW => ⟨⟨bI v, u, rfl, ⟨by rw [hp.1], hp.2⟩, by rw [ht]; exact hP, va_K.moved hW.alike hK, hD⟩, hS.F ht⟩) hS.2.2 hd
  generalize (MQ below (va_Qi (fun (r : Int32) (u : SReader × STable) => r = bI res.1 ∧ u = res.2) (fun (u : SReader × STable) (t : State) => va_P (dC, dI) vwCl (uw_Reader ad_rd cA_rd u.1 ++ (uw_Table ad_tb cA_tb u.2)) t.heap ∧ va_K (dC, dI) vwCl [(cA_rd 1, .int), (cA_tb 1, .int), (cA_tb 2, .int), (cA_tb 3, .int), (cA_tb 4, .byte)] t ∧ va_D A (uw_Reader ad_rd cA_rd u.1 ++ (uw_Table ad_tb cA_tb u.2))) A) ([.ref (ad_rd 0), .ref (ad_tb 0), .int x2, .int x3] : List Value).toArray s 0 0 A) = Q at ret ⊢
  have w_59 : ∀ (rd : SReader) (tb : STable) (y2 : Int32) (y3 : Int32) (y4 : Int32) (H : Heap) (locs : List Loc) (ls : Array Slot), f_Reader_readName_59 rd tb y2 y3 y4 = some res → va_P (dC, dI) vwCl (uw_Reader ad_rd cA_rd rd ++ (uw_Table ad_tb cA_tb tb)) H → va_D A (uw_Reader ad_rd cA_rd rd ++ (uw_Table ad_tb cA_tb tb)) → va_S A s.heap H locs → lv_has ls 5 [(0, .ref (ad_rd 0)), (1, .ref (ad_tb 0)), (2, .int y2), (3, .int y3), (4, .int y4)] → W p l e (headSpec w_Reader_readName ({ frames := 2, cells := 0, slots := 0, locals := 48 })).room s m ([.ref (ad_rd 0), .ref (ad_tb 0), .int x2, .int x3] : List Value).toArray below meth c H locs 0 0 Q (F0 m 59 ls []) := by
    intro rd tb y2 y3 y4 H locs ls hf hP hD hS hl
    rw [f_Reader_readName_59] at hf
    refine lv_iload hx hb d_Reader_readName_59 (lv_at hl 4 rfl) ?_
    refine lv_if_eq (tgt := 73) hx hb d_Reader_readName_61 (by decide) (fun hc9 => ?_) (fun hc9 => ?_)
    · have hf := hf_t hf hc9
      refine lv_aload_n hx hb d_Reader_readName_73 rfl (lv_at hl 0 rfl) ?_
      refine lv_aload_n hx hb d_Reader_readName_74 rfl (lv_at hl 0 rfl) ?_
      refine va_get (D := (dC, dI)) (ci := 1) (v := .int rd.2.2.1) (C := "HazardTables$Reader") (T := F_Reader) (N := 5) hx hb hts hin_Reader hown hK hP 0 rfl rfl 2 (by decide) fl_31 (fun _ h9 => h9) rfl d_Reader_readName_75 ?_
      obtain ⟨u10, hu10, hf⟩ := Option.bind_eq_some_iff.mp hf
      refine cl_i (wc := (uw_Reader ad_rd cA_rd rd)) (wr := (uw_Table ad_tb cA_tb tb)) (tysC := [(cA_rd 1, .int)]) (wu := fun (u : SReader) => (uw_Reader ad_rd cA_rd u)) (wn := fun (u : SReader) => (uw_Reader ad_rd cA_rd u ++ (uw_Table ad_tb cA_tb tb))) [0, 1] [2, 3, 4, 5, 6] [5, 6, 0, 1, 2, 3, 4] [0] hP hD hS hA hK rfl rfl (by decide +kernel) (by decide +kernel) (by decide +kernel) rfl (fun _ => rfl) (by decide +kernel) (fun hPc hKc hDc => (va_runV (As := [.int rd.2.2.1]) (rest := []) ⟨hx, hb, hml, hown, hts⟩ (k_Reader_wrong l dC dI ad_rd cA_rd H.size rd rd.2.2.1 u10 hu10) (cwV 1 hts (gV wd_374 wd_376 wd_4 wd_44 wd_377) rfl rfl rfl (by decide +kernel) ⟨Nat.le_of_ble_eq_true rfl, Nat.le_of_ble_eq_true rfl⟩) (cl_preV hPc hKc hDc hN (ci := 1) 0 rfl rfl) rfl rfl hl.1 rfl (lv_room (Nat.le_of_ble_eq_true rfl)) d_Reader_readName_78 ⟨Nat.le_of_ble_eq_true rfl, Nat.le_of_ble_eq_true rfl⟩)) (fun r u H locs hw hP hD hS => ?_)
      obtain ⟨hw1, hw2⟩ := hw
      have hw1 := hw1.symm
      have hw2 := hw2.symm
      subst hw1
      subst hw2
      have hP : va_P (dC, dI) vwCl (uw_Reader ad_rd cA_rd u10.2 ++ (uw_Table ad_tb cA_tb tb)) H := hP
      have hD : va_D A (uw_Reader ad_rd cA_rd u10.2 ++ (uw_Table ad_tb cA_tb tb)) := hD
      exact ret u10.1 (u10.2, tb) H locs ls 81 d_Reader_readName_81 (hf_e hf) hP hD hS
    · have hf := hf_f hf hc9
      refine lv_aload_n hx hb d_Reader_readName_64 rfl (lv_at hl 0 rfl) ?_
      obtain ⟨u11, hu11, hf⟩ := Option.bind_eq_some_iff.mp hf
      refine cl_i (wc := (uw_Reader ad_rd cA_rd rd)) (wr := (uw_Table ad_tb cA_tb tb)) (tysC := [(cA_rd 1, .int)]) (wu := fun (u : Unit) => (uw_Reader ad_rd cA_rd rd)) (wn := fun (u : Unit) => (uw_Reader ad_rd cA_rd rd ++ (uw_Table ad_tb cA_tb tb))) [0, 1] [2, 3, 4, 5, 6] [5, 6, 0, 1, 2, 3, 4] [0] hP hD hS hA hK rfl rfl (by decide +kernel) (by decide +kernel) (by decide +kernel) rfl (fun _ => rfl) (by decide +kernel) (fun hPc hKc hDc => (va_runV (As := []) (rest := []) ⟨hx, hb, hml, hown, hts⟩ (k_Reader_byteHere l dC dI ad_rd cA_rd H.size rd u11 hu11) (cwV 0 hts (gV wd_385 wd_387 wd_6 wd_44 wd_388) rfl rfl rfl (by decide +kernel) ⟨Nat.le_of_ble_eq_true rfl, Nat.le_of_ble_eq_true rfl⟩) (cl_preV hPc hKc hDc hN (ci := 1) 0 rfl rfl) rfl rfl hl.1 rfl (lv_room (Nat.le_of_ble_eq_true rfl)) d_Reader_readName_65 ⟨Nat.le_of_ble_eq_true rfl, Nat.le_of_ble_eq_true rfl⟩)) (fun r u H locs hw hP hD hS => ?_)
      have hw := hw.symm
      subst hw
      have hP : va_P (dC, dI) vwCl (uw_Reader ad_rd cA_rd rd ++ (uw_Table ad_tb cA_tb tb)) H := hP
      have hD : va_D A (uw_Reader ad_rd cA_rd rd ++ (uw_Table ad_tb cA_tb tb)) := hD
      refine lv_bipush (v := (34 : Int32)) hx hb d_Reader_readName_68 (by decide) ?_
      refine lv_icmp_eq (tgt := 82) hx hb d_Reader_readName_70 (by decide) (fun hc12 => ?_) (fun hc12 => ?_)
      · have hf := hf_t hf hc12
        refine lv_aload_n hx hb d_Reader_readName_82 rfl (lv_at hl 0 rfl) ?_
        refine lv_dup hx hb d_Reader_readName_83 rfl ?_
        refine va_get (D := (dC, dI)) (ci := 1) (v := .int rd.2.2.1) (C := "HazardTables$Reader") (T := F_Reader) (N := 5) hx hb hts hin_Reader hown hK hP 0 rfl rfl 2 (by decide) fl_31 (fun _ h9 => h9) rfl d_Reader_readName_84 ?_
        refine lv_iconst (v := (1 : Int32)) hx hb d_Reader_readName_87 (by decide) ?_
        refine lv_iadd hx hb d_Reader_readName_88 ?_
        refine va_put (D := (dC, dI)) (ci := 1) (v := .int (rd.2.2.1 + (1 : Int32))) (ty := .int) (C := "HazardTables$Reader") (T := F_Reader) (N := 5) hx hb hts hin_Reader t_Reader t_Reader_ok n_Reader hown hK hP hD hS 0 rfl rfl 2 (by decide) fl_31 (fun _ h9 => h9) rfl (by decide +kernel) rfl rfl (Nat.le_of_ble_eq_true rfl) d_Reader_readName_89 (fun H locs hP hD hS => ?_)
        have hP : va_P (dC, dI) vwCl (uw_Reader ad_rd cA_rd (rd.1, rd.2.1, rd.2.2.1 + (1 : Int32), rd.2.2.2.1, rd.2.2.2.2) ++ (uw_Table ad_tb cA_tb tb)) H := hP
        have hD : va_D A (uw_Reader ad_rd cA_rd (rd.1, rd.2.1, rd.2.2.1 + (1 : Int32), rd.2.2.2.1, rd.2.2.2.2) ++ (uw_Table ad_tb cA_tb tb)) := hD
        refine lv_aload_n hx hb d_Reader_readName_92 rfl (lv_at hl 1 rfl) ?_
        refine lv_iload_n hx hb d_Reader_readName_93 rfl (lv_at hl 2 rfl) ?_
        refine lv_iload_n hx hb d_Reader_readName_94 rfl (lv_at hl 3 rfl) ?_
        refine lv_iload hx hb d_Reader_readName_95 (lv_at hl 4 rfl) ?_
        obtain ⟨u13, hu13, hf⟩ := Option.bind_eq_some_iff.mp hf
        refine cl_v (wc := (uw_Table ad_tb cA_tb tb)) (wr := (uw_Reader ad_rd cA_rd (rd.1, rd.2.1, rd.2.2.1 + (1 : Int32), rd.2.2.2.1, rd.2.2.2.2))) (tysC := [(cA_tb 1, .int), (cA_tb 2, .int), (cA_tb 3, .int), (cA_tb 4, .byte)]) (wu := fun (u : STable) => (uw_Table ad_tb cA_tb u)) (wn := fun (u : STable) => (uw_Reader ad_rd cA_rd (rd.1, rd.2.1, rd.2.2.1 + (1 : Int32), rd.2.2.2.1, rd.2.2.2.2) ++ (uw_Table ad_tb cA_tb u))) [2, 3, 4, 5, 6] [0, 1] [0, 1, 2, 3, 4, 5, 6] [1, 2, 3, 4] hP hD hS hA hK rfl rfl (by decide +kernel) (by decide +kernel) (by decide +kernel) rfl (fun _ => rfl) (by decide +kernel) (fun hPc hKc hDc => (va_runV (As := [.int y2, .int y3, .int y4]) (rest := []) ⟨hx, hb, hml, hown, hts⟩ (k_Table_endName l dC dI ad_tb cA_tb H.size tb y2 y3 y4 u13 hu13) (cwV 3 hts (gV wd_417 wd_418 wd_419 wd_48 wd_420) rfl rfl rfl (by decide +kernel) ⟨Nat.le_of_ble_eq_true rfl, Nat.le_of_ble_eq_true rfl⟩) (cl_preV hPc hKc hDc hN (ci := 4) 0 rfl rfl) rfl rfl hl.1 rfl (lv_room (Nat.le_of_ble_eq_true rfl)) d_Reader_readName_97 ⟨Nat.le_of_ble_eq_true rfl, Nat.le_of_ble_eq_true rfl⟩)) (fun u H locs hw hP hD hS => ?_)
        have hw := hw.symm
        subst hw
        have hP : va_P (dC, dI) vwCl (uw_Reader ad_rd cA_rd (rd.1, rd.2.1, rd.2.2.1 + (1 : Int32), rd.2.2.2.1, rd.2.2.2.2) ++ (uw_Table ad_tb cA_tb u13)) H := hP
        have hD : va_D A (uw_Reader ad_rd cA_rd (rd.1, rd.2.1, rd.2.2.1 + (1 : Int32), rd.2.2.2.1, rd.2.2.2.2) ++ (uw_Table ad_tb cA_tb u13)) := hD
        refine lv_iconst (v := (1 : Int32)) hx hb d_Reader_readName_100 (by decide) ?_
        exact ret true ((rd.1, rd.2.1, rd.2.2.1 + (1 : Int32), rd.2.2.2.1, rd.2.2.2.2), u13) H locs ls 101 d_Reader_readName_101 (hf_e hf) hP hD hS
      · have hf := hf_f hf hc12
        refine lv_aload_n hx hb d_Reader_readName_73 rfl (lv_at hl 0 rfl) ?_
        refine lv_aload_n hx hb d_Reader_readName_74 rfl (lv_at hl 0 rfl) ?_
        refine va_get (D := (dC, dI)) (ci := 1) (v := .int rd.2.2.1) (C := "HazardTables$Reader") (T := F_Reader) (N := 5) hx hb hts hin_Reader hown hK hP 0 rfl rfl 2 (by decide) fl_31 (fun _ h9 => h9) rfl d_Reader_readName_75 ?_
        obtain ⟨u14, hu14, hf⟩ := Option.bind_eq_some_iff.mp hf
        refine cl_i (wc := (uw_Reader ad_rd cA_rd rd)) (wr := (uw_Table ad_tb cA_tb tb)) (tysC := [(cA_rd 1, .int)]) (wu := fun (u : SReader) => (uw_Reader ad_rd cA_rd u)) (wn := fun (u : SReader) => (uw_Reader ad_rd cA_rd u ++ (uw_Table ad_tb cA_tb tb))) [0, 1] [2, 3, 4, 5, 6] [5, 6, 0, 1, 2, 3, 4] [0] hP hD hS hA hK rfl rfl (by decide +kernel) (by decide +kernel) (by decide +kernel) rfl (fun _ => rfl) (by decide +kernel) (fun hPc hKc hDc => (va_runV (As := [.int rd.2.2.1]) (rest := []) ⟨hx, hb, hml, hown, hts⟩ (k_Reader_wrong l dC dI ad_rd cA_rd H.size rd rd.2.2.1 u14 hu14) (cwV 1 hts (gV wd_374 wd_376 wd_4 wd_44 wd_377) rfl rfl rfl (by decide +kernel) ⟨Nat.le_of_ble_eq_true rfl, Nat.le_of_ble_eq_true rfl⟩) (cl_preV hPc hKc hDc hN (ci := 1) 0 rfl rfl) rfl rfl hl.1 rfl (lv_room (Nat.le_of_ble_eq_true rfl)) d_Reader_readName_78 ⟨Nat.le_of_ble_eq_true rfl, Nat.le_of_ble_eq_true rfl⟩)) (fun r u H locs hw hP hD hS => ?_)
        obtain ⟨hw1, hw2⟩ := hw
        have hw1 := hw1.symm
        have hw2 := hw2.symm
        subst hw1
        subst hw2
        have hP : va_P (dC, dI) vwCl (uw_Reader ad_rd cA_rd u14.2 ++ (uw_Table ad_tb cA_tb tb)) H := hP
        have hD : va_D A (uw_Reader ad_rd cA_rd u14.2 ++ (uw_Table ad_tb cA_tb tb)) := hD
        exact ret u14.1 (u14.2, tb) H locs ls 81 d_Reader_readName_81 (hf_e hf) hP hD hS
  have w_14 : ∀ (n : Nat) (rd : SReader) (tb : STable) (y2 : Int32) (y3 : Int32) (y4 : Int32) (H : Heap) (locs : List Loc) (ls : Array Slot), f_Reader_readName_14 n rd tb y2 y3 y4 = some res → va_P (dC, dI) vwCl (uw_Reader ad_rd cA_rd rd ++ (uw_Table ad_tb cA_tb tb)) H → va_D A (uw_Reader ad_rd cA_rd rd ++ (uw_Table ad_tb cA_tb tb)) → va_S A s.heap H locs → lv_has ls 5 [(0, .ref (ad_rd 0)), (1, .ref (ad_tb 0)), (2, .int y2), (3, .int y3), (4, .int y4)] → W p l e (headSpec w_Reader_readName ({ frames := 2, cells := 0, slots := 0, locals := 48 })).room s m ([.ref (ad_rd 0), .ref (ad_tb 0), .int x2, .int x3] : List Value).toArray below meth c H locs 0 0 Q (F0 m 14 ls []) := by
    intro n
    induction n with
    | zero =>
      intro rd tb y2 y3 y4 H locs ls hf hP hD hS hl
      rw [f_Reader_readName_14] at hf; cases hf
    | succ n ih =>
      intro rd tb y2 y3 y4 H locs ls hf hP hD hS hl
      rw [f_Reader_readName_14] at hf
      refine lv_iload hx hb d_Reader_readName_14 (lv_at hl 4 rfl) ?_
      refine lv_bipush (v := (10 : Int32)) hx hb d_Reader_readName_16 (by decide) ?_
      refine lv_icmp_ge (tgt := 59) hx hb d_Reader_readName_18 (by decide) (fun hc3 => ?_) (fun hc3 => ?_)
      · have hf := hf_t hf hc3
        exact w_59 rd tb y2 y3 y4 H locs ls hf hP hD hS (lv_sub hl [0, 1, 2, 3, 4] rfl)
      · have hf := hf_f hf hc3
        refine lv_aload_n hx hb d_Reader_readName_21 rfl (lv_at hl 0 rfl) ?_
        obtain ⟨u4, hu4, hf⟩ := Option.bind_eq_some_iff.mp hf
        refine cl_i (wc := (uw_Reader ad_rd cA_rd rd)) (wr := (uw_Table ad_tb cA_tb tb)) (tysC := [(cA_rd 1, .int)]) (wu := fun (u : Unit) => (uw_Reader ad_rd cA_rd rd)) (wn := fun (u : Unit) => (uw_Reader ad_rd cA_rd rd ++ (uw_Table ad_tb cA_tb tb))) [0, 1] [2, 3, 4, 5, 6] [5, 6, 0, 1, 2, 3, 4] [0] hP hD hS hA hK rfl rfl (by decide +kernel) (by decide +kernel) (by decide +kernel) rfl (fun _ => rfl) (by decide +kernel) (fun hPc hKc hDc => (va_runV (As := []) (rest := []) ⟨hx, hb, hml, hown, hts⟩ (k_Reader_byteHere l dC dI ad_rd cA_rd H.size rd u4 hu4) (cwV 0 hts (gV wd_385 wd_387 wd_6 wd_44 wd_388) rfl rfl rfl (by decide +kernel) ⟨Nat.le_of_ble_eq_true rfl, Nat.le_of_ble_eq_true rfl⟩) (cl_preV hPc hKc hDc hN (ci := 1) 0 rfl rfl) rfl rfl hl.1 rfl (lv_room (Nat.le_of_ble_eq_true rfl)) d_Reader_readName_22 ⟨Nat.le_of_ble_eq_true rfl, Nat.le_of_ble_eq_true rfl⟩)) (fun r u H locs hw hP hD hS => ?_)
        have hw := hw.symm
        subst hw
        have hP : va_P (dC, dI) vwCl (uw_Reader ad_rd cA_rd rd ++ (uw_Table ad_tb cA_tb tb)) H := hP
        have hD : va_D A (uw_Reader ad_rd cA_rd rd ++ (uw_Table ad_tb cA_tb tb)) := hD
        obtain ⟨u5, hu5, hf⟩ := Option.bind_eq_some_iff.mp hf
        refine cl_i (wc := []) (wr := (uw_Reader ad_rd cA_rd rd ++ (uw_Table ad_tb cA_tb tb))) (tysC := []) (wu := fun (u : Unit) => []) (wn := fun (u : Unit) => (uw_Reader ad_rd cA_rd rd ++ (uw_Table ad_tb cA_tb tb))) [] [0, 1, 2, 3, 4, 5, 6] [0, 1, 2, 3, 4, 5, 6] [] hP hD hS hA hK rfl rfl (by decide +kernel) (by decide +kernel) (by decide +kernel) rfl (fun _ => rfl) (by decide +kernel) (fun hPc hKc hDc => (va_runSN (As := [.int u4]) (rest := []) ⟨hx, hb, hml, hown, hts⟩ (k_HT_isLetter l dC dI  H.size u4 u5 hu5) ⟨va_cnB 1 hts (gC wd_412) rfl rfl rfl hN.2.2.1 (hts _ (List.mem_cons_of_mem _ wd_43)) (by decide +kernel) ⟨Nat.le_of_ble_eq_true rfl, Nat.le_of_ble_eq_true rfl⟩, (hts _ (List.mem_cons_of_mem _ wd_411)), trivial⟩ (cl_preS hPc hKc hDc hN) rfl rfl hl.1 rfl (lv_room (Nat.le_of_ble_eq_true rfl)) d_Reader_readName_25 ⟨Nat.le_of_ble_eq_true rfl, Nat.le_of_ble_eq_true rfl⟩)) (fun r u H locs hw hP hD hS => ?_)
        have hw := hw.symm
        subst hw
        have hP : va_P (dC, dI) vwCl (uw_Reader ad_rd cA_rd rd ++ (uw_Table ad_tb cA_tb tb)) H := hP
        have hD : va_D A (uw_Reader ad_rd cA_rd rd ++ (uw_Table ad_tb cA_tb tb)) := hD
        refine lv_if_eq (tgt := 59) hx hb d_Reader_readName_28 (by decide) (fun hc6 => ?_) (fun hc6 => ?_)
        · have hf := hf_t hf hc6
          exact w_59 rd tb y2 y3 y4 H locs ls hf hP hD hS (lv_sub hl [0, 1, 2, 3, 4] rfl)
        · have hf := hf_f hf hc6
          refine lv_aload_n hx hb d_Reader_readName_31 rfl (lv_at hl 1 rfl) ?_
          refine lv_iload_n hx hb d_Reader_readName_32 rfl (lv_at hl 2 rfl) ?_
          refine lv_iload_n hx hb d_Reader_readName_33 rfl (lv_at hl 3 rfl) ?_
          refine lv_iload hx hb d_Reader_readName_34 (lv_at hl 4 rfl) ?_
          refine lv_aload_n hx hb d_Reader_readName_36 rfl (lv_at hl 0 rfl) ?_
          obtain ⟨u7, hu7, hf⟩ := Option.bind_eq_some_iff.mp hf
          refine cl_i (wc := (uw_Reader ad_rd cA_rd rd)) (wr := (uw_Table ad_tb cA_tb tb)) (tysC := [(cA_rd 1, .int)]) (wu := fun (u : Unit) => (uw_Reader ad_rd cA_rd rd)) (wn := fun (u : Unit) => (uw_Reader ad_rd cA_rd rd ++ (uw_Table ad_tb cA_tb tb))) [0, 1] [2, 3, 4, 5, 6] [5, 6, 0, 1, 2, 3, 4] [0] hP hD hS hA hK rfl rfl (by decide +kernel) (by decide +kernel) (by decide +kernel) rfl (fun _ => rfl) (by decide +kernel) (fun hPc hKc hDc => (va_runV (As := []) (rest := [.int y4, .int y3, .int y2, .ref (ad_tb 0)]) ⟨hx, hb, hml, hown, hts⟩ (k_Reader_byteHere l dC dI ad_rd cA_rd H.size rd u7 hu7) (cwV 0 hts (gV wd_385 wd_387 wd_6 wd_44 wd_388) rfl rfl rfl (by decide +kernel) ⟨Nat.le_of_ble_eq_true rfl, Nat.le_of_ble_eq_true rfl⟩) (cl_preV hPc hKc hDc hN (ci := 1) 0 rfl rfl) rfl rfl hl.1 rfl (lv_room (Nat.le_of_ble_eq_true rfl)) d_Reader_readName_37 ⟨Nat.le_of_ble_eq_true rfl, Nat.le_of_ble_eq_true rfl⟩)) (fun r u H locs hw hP hD hS => ?_)
          have hw := hw.symm
          subst hw
          have hP : va_P (dC, dI) vwCl (uw_Reader ad_rd cA_rd rd ++ (uw_Table ad_tb cA_tb tb)) H := hP
          have hD : va_D A (uw_Reader ad_rd cA_rd rd ++ (uw_Table ad_tb cA_tb tb)) := hD
          obtain ⟨u8, hu8, hf⟩ := Option.bind_eq_some_iff.mp hf
          refine cl_v (wc := (uw_Table ad_tb cA_tb tb)) (wr := (uw_Reader ad_rd cA_rd rd)) (tysC := [(cA_tb 1, .int), (cA_tb 2, .int), (cA_tb 3, .int), (cA_tb 4, .byte)]) (wu := fun (u : STable) => (uw_Table ad_tb cA_tb u)) (wn := fun (u : STable) => (uw_Reader ad_rd cA_rd rd ++ (uw_Table ad_tb cA_tb u))) [2, 3, 4, 5, 6] [0, 1] [0, 1, 2, 3, 4, 5, 6] [1, 2, 3, 4] hP hD hS hA hK rfl rfl (by decide +kernel) (by decide +kernel) (by decide +kernel) rfl (fun _ => rfl) (by decide +kernel) (fun hPc hKc hDc => (va_runV (As := [.int y2, .int y3, .int y4, .int u7]) (rest := []) ⟨hx, hb, hml, hown, hts⟩ (k_Table_setNameLetter l dC dI ad_tb cA_tb H.size tb y2 y3 y4 u7 u8 hu8) (cwV 4 hts (gV wd_413 wd_414 wd_415 wd_48 wd_416) rfl rfl rfl (by decide +kernel) ⟨Nat.le_of_ble_eq_true rfl, Nat.le_of_ble_eq_true rfl⟩) (cl_preV hPc hKc hDc hN (ci := 4) 0 rfl rfl) rfl rfl hl.1 rfl (lv_room (Nat.le_of_ble_eq_true rfl)) d_Reader_readName_40 ⟨Nat.le_of_ble_eq_true rfl, Nat.le_of_ble_eq_true rfl⟩)) (fun u H locs hw hP hD hS => ?_)
          have hw := hw.symm
          subst hw
          have hP : va_P (dC, dI) vwCl (uw_Reader ad_rd cA_rd rd ++ (uw_Table ad_tb cA_tb u8)) H := hP
          have hD : va_D A (uw_Reader ad_rd cA_rd rd ++ (uw_Table ad_tb cA_tb u8)) := hD
          refine lv_iinc (v := y4 + (1 : Int32)) (lv' := [(4, .int (y4 + (1 : Int32))), (0, .ref (ad_rd 0)), (1, .ref (ad_tb 0)), (2, .int y2), (3, .int y3)]) hx hb d_Reader_readName_43 hl (k := 4) rfl rfl (by decide) rfl (fun ls hl => ?_)
          refine lv_aload_n hx hb d_Reader_readName_46 rfl (lv_at hl 1 rfl) ?_
          refine lv_dup hx hb d_Reader_readName_47 rfl ?_
          refine va_get (D := (dC, dI)) (ci := 1) (v := .int rd.2.2.1) (C := "HazardTables$Reader") (T := F_Reader) (N := 5) hx hb hts hin_Reader hown hK hP 0 rfl rfl 2 (by decide) fl_31 (fun _ h9 => h9) rfl d_Reader_readName_48 ?_
          refine lv_iconst (v := (1 : Int32)) hx hb d_Reader_readName_51 (by decide) ?_
          refine lv_iadd hx hb d_Reader_readName_52 ?_
          refine va_put (D := (dC, dI)) (ci := 1) (v := .int (rd.2.2.1 + (1 : Int32))) (ty := .int) (C := "HazardTables$Reader") (T := F_Reader) (N := 5) hx hb hts hin_Reader t_Reader t_Reader_ok n_Reader hown hK hP hD hS 0 rfl rfl 2 (by decide) fl_31 (fun _ h9 => h9) rfl (by decide +kernel) rfl rfl (Nat.le_of_ble_eq_true rfl) d_Reader_readName_53 (fun H locs hP hD hS => ?_)
          have hP : va_P (dC, dI) vwCl (uw_Reader ad_rd cA_rd (rd.1, rd.2.1, rd.2.2.1 + (1 : Int32), rd.2.2.2.1, rd.2.2.2.2) ++ (uw_Table ad_tb cA_tb u8)) H := hP
          have hD : va_D A (uw_Reader ad_rd cA_rd (rd.1, rd.2.1, rd.2.2.1 + (1 : Int32), rd.2.2.2.1, rd.2.2.2.2) ++ (uw_Table ad_tb cA_tb u8)) := hD
          refine lv_goto (tgt := 14) hx hb d_Reader_readName_56 (by decide) ?_
          exact ih (rd.1, rd.2.1, rd.2.2.1 + (1 : Int32), rd.2.2.2.1, rd.2.2.2.2) u8 y2 y3 (y4 + (1 : Int32)) H locs ls hf hP hD hS (lv_sub hl [1, 2, 3, 4, 0] rfl)
  have hl := lv_entry ([.ref (ad_rd 0), .ref (ad_tb 0), .int x2, .int x3]) (n := 5) (Nat.le_of_ble_eq_true rfl)
  rw [lg_entry_eq]
  generalize (lg_sl ([.ref (ad_rd 0), .ref (ad_tb 0), .int x2, .int x3]) ++ List.replicate (5 - (lg_sl ([.ref (ad_rd 0), .ref (ad_tb 0), .int x2, .int x3])).length) Slot.unset).toArray = ls at hl ⊢
  have hl : lv_has ls 5 [(0, .ref (ad_rd 0)), (1, .ref (ad_tb 0)), (2, .int x2), (3, .int x3)] := hl
  have hf := hf
  rw [f_Reader_readName] at hf
  obtain ⟨H, hH⟩ : ∃ H : Heap, H = s.heap := ⟨_, rfl⟩
  obtain ⟨locs, hlocs⟩ : ∃ L : List Loc, L = [] := ⟨_, rfl⟩
  have hP : va_P (dC, dI) vwCl (uw_Reader ad_rd cA_rd rd ++ (uw_Table ad_tb cA_tb tb)) H := by rw [hH]; exact hP
  have hS : va_S A s.heap H locs := by rw [hH, hlocs]; exact hS
  show W p l e (headSpec w_Reader_readName ({ frames := 2, cells := 0, slots := 0, locals := 48 })).room s m ([.ref (ad_rd 0), .ref (ad_tb 0), .int x2, .int x3] : List Value).toArray below meth c s.heap [] 0 0 Q (F0 m 0 ls [])
  suffices hgo : W p l e (headSpec w_Reader_readName ({ frames := 2, cells := 0, slots := 0, locals := 48 })).room s m ([.ref (ad_rd 0), .ref (ad_tb 0), .int x2, .int x3] : List Value).toArray below meth c H locs 0 0 Q (F0 m 0 ls []) by rw [hH, hlocs] at hgo; exact hgo
  clear hH hlocs
  refine lv_aload_n hx hb d_Reader_readName_0 rfl (lv_at hl 0 rfl) ?_
  refine lv_bipush (v := (34 : Int32)) hx hb d_Reader_readName_1 (by decide) ?_
  obtain ⟨u1, hu1, hf⟩ := Option.bind_eq_some_iff.mp hf
  refine cl_i (wc := (uw_Reader ad_rd cA_rd rd)) (wr := (uw_Table ad_tb cA_tb tb)) (tysC := [(cA_rd 1, .int)]) (wu := fun (u : SReader) => (uw_Reader ad_rd cA_rd u)) (wn := fun (u : SReader) => (uw_Reader ad_rd cA_rd u ++ (uw_Table ad_tb cA_tb tb))) [0, 1] [2, 3, 4, 5, 6] [5, 6, 0, 1, 2, 3, 4] [0] hP hD hS hA hK rfl rfl (by decide +kernel) (by decide +kernel) (by decide +kernel) rfl (fun _ => rfl) (by decide +kernel) (fun hPc hKc hDc => (va_runV (As := [.int (34 : Int32)]) (rest := []) ⟨hx, hb, hml, hown, hts⟩ (k_Reader_take l dC dI ad_rd cA_rd H.size rd (34 : Int32) u1 hu1) (cwV 1 hts (gV wd_406 wd_408 wd_9 wd_44 wd_409) rfl rfl rfl (by decide +kernel) ⟨Nat.le_of_ble_eq_true rfl, Nat.le_of_ble_eq_true rfl⟩) (cl_preV hPc hKc hDc hN (ci := 1) 0 rfl rfl) rfl rfl hl.1 rfl (lv_room (Nat.le_of_ble_eq_true rfl)) d_Reader_readName_3 ⟨Nat.le_of_ble_eq_true rfl, Nat.le_of_ble_eq_true rfl⟩)) (fun r u H locs hw hP hD hS => ?_)
  obtain ⟨hw1, hw2⟩ := hw
  have hw1 := hw1.symm
  have hw2 := hw2.symm
  subst hw1
  subst hw2
  have hP : va_P (dC, dI) vwCl (uw_Reader ad_rd cA_rd u1.2 ++ (uw_Table ad_tb cA_tb tb)) H := hP
  have hD : va_D A (uw_Reader ad_rd cA_rd u1.2 ++ (uw_Table ad_tb cA_tb tb)) := hD
  refine lv_if_ne (tgt := 11) hx hb d_Reader_readName_6 (by decide) (fun hc2 => ?_) (fun hc2 => ?_)
  · have hf := hf_f hf hc2
    refine lv_iconst (v := (0 : Int32)) hx hb d_Reader_readName_11 (by decide) ?_
    refine lv_istore (lv' := [(4, .int (0 : Int32)), (0, .ref (ad_rd 0)), (1, .ref (ad_tb 0)), (2, .int x2), (3, .int x3)]) hx hb d_Reader_readName_12 hl (by decide) rfl (fun ls hl => ?_)
    exact w_14 4096 u1.2 tb x2 x3 (0 : Int32) H locs ls hf hP hD hS (lv_sub hl [1, 2, 3, 4, 0] rfl)
  · have hf := hf_t hf hc2
    refine lv_iconst (v := (0 : Int32)) hx hb d_Reader_readName_9 (by decide) ?_
    exact ret false (u1.2, tb) H locs ls 10 d_Reader_readName_10 (hf_e hf) hP hD hS
noncomputable def f_Reader_readNames_2  : Nat → SReader → STable → Int32 → Int32 → Option (Bool × SReader × STable)
  | 0, _, _, _, _ => none
  | n + 1, rd, tb, y2, y3 =>
    (Option.bind (f_Reader_readName rd tb y2 y3) fun u1 =>
      (if (bI u1.1) = 0 then
        (some (false, u1.2.1, u1.2.2))
       else
        (if (3 : Int32) ≤ (y3 + (1 : Int32)) then
          (some (true, u1.2.1, u1.2.2))
         else
          (Option.bind (f_Reader_peek u1.2.1) fun u4 =>
            (if u4.1 = (34 : Int32) then
              (f_Reader_readNames_2 n u4.2 u1.2.2 y2 (y3 + (1 : Int32)))
             else
              (some (true, u4.2, u1.2.2))
             )
           )
         )
       )
     )
noncomputable def f_Reader_readNames (rd : SReader) (tb : STable) (x2 : Int32) : Option (Bool × SReader × STable) :=
  (f_Reader_readNames_2 4096 rd tb x2 (0 : Int32))
set_option maxHeartbeats 4000000 in
set_option maxRecDepth 100000 in
theorem k_Reader_readNames (l : Launch) (dC : Nat → ClassId) (dI : Nat → Nat → Nat) (ad_rd : Nat → Nat) (cA_rd : Nat → ClassId) (ad_tb : Nat → Nat) (cA_tb : Nat → ClassId) (sz : Nat) (rd : SReader) (tb : STable) (x2 : Int32) (res : Bool × SReader × STable) (hf : f_Reader_readNames rd tb x2 = some res) : Met l y_Reader_readNames w_Reader_readNames ({ frames := 3, cells := 0, slots := 0, locals := 72 }) (cPc (dC, dI) (uw_Reader ad_rd cA_rd rd ++ (uw_Table ad_tb cA_tb tb)) [(cA_rd 1, .int), (cA_tb 1, .int), (cA_tb 2, .int), (cA_tb 3, .int), (cA_tb 4, .byte)] sz [.ref (ad_rd 0), .ref (ad_tb 0), .int x2]) (va_Qi (fun (r : Int32) (u : SReader × STable) => r = bI res.1 ∧ u = res.2) (fun (u : SReader × STable) (t : State) => va_P (dC, dI) vwCl (uw_Reader ad_rd cA_rd u.1 ++ (uw_Table ad_tb cA_tb u.2)) t.heap ∧ va_K (dC, dI) vwCl [(cA_rd 1, .int), (cA_tb 1, .int), (cA_tb 2, .int), (cA_tb 3, .int), (cA_tb 4, .byte)] t ∧ va_D (va_A (uw_Reader ad_rd cA_rd rd ++ (uw_Table ad_tb cA_tb tb)) sz) (uw_Reader ad_rd cA_rd u.1 ++ (uw_Table ad_tb cA_tb u.2))) (va_A (uw_Reader ad_rd cA_rd rd ++ (uw_Table ad_tb cA_tb tb)) sz)) 0 0 (va_A (uw_Reader ad_rd cA_rd rd ++ (uw_Table ad_tb cA_tb tb)) sz) := by
  refine Met.ofW (cc := b_Reader_readNames) (maxL := 4) (ret := (some .boolean)) (by decide) rfl ?_
  intro p e s m args below meth c s₁ B hml hv
  obtain ⟨rfl, hsz, hP, hK, hD0, hN⟩ := hv
  have hx := B.exec
  have hb := B.bytes
  have hr := B.returns
  have hts := atoms_spec (ws := w_Reader_readNames) B.pre
  have hown : s.vm.findClass "HazardTables$Reader" = some m.cls := findClass_of_methodNamed B.named
  have hlocks := B.notSynchronized
  subst hsz
  have hD := hD0.self (sz := s.heap.size)
  generalize hAe : va_A (uw_Reader ad_rd cA_rd rd ++ (uw_Table ad_tb cA_tb tb)) s.heap.size = A at hD ⊢
  have hA : ∀ q : Nat, s.heap.size ≤ q → A q := fun q h => by rw [← hAe]; exact Or.inr h
  have hS : va_S A s.heap s.heap [] := va_S.rf
  have hP : va_P (dC, dI) vwCl (uw_Reader ad_rd cA_rd rd ++ (uw_Table ad_tb cA_tb tb)) s.heap := hP
  have ret : ∀ (v : Bool) (u : SReader × STable) (H : Heap) (locs : List Loc) (ls : Array Slot) (pc : Nat), decode b_Reader_readNames pc = .ok (.ireturn, 1) → (v = res.1 ∧ u = res.2) → va_P (dC, dI) vwCl (uw_Reader ad_rd cA_rd u.1 ++ (uw_Table ad_tb cA_tb u.2)) H → va_D A (uw_Reader ad_rd cA_rd u.1 ++ (uw_Table ad_tb cA_tb u.2)) → va_S A s.heap H locs → W p l e (headSpec w_Reader_readNames ({ frames := 3, cells := 0, slots := 0, locals := 72 })).room s m ([.ref (ad_rd 0), .ref (ad_tb 0), .int x2] : List Value).toArray below meth c H locs 0 0 (MQ below (va_Qi (fun (r : Int32) (u : SReader × STable) => r = bI res.1 ∧ u = res.2) (fun (u : SReader × STable) (t : State) => va_P (dC, dI) vwCl (uw_Reader ad_rd cA_rd u.1 ++ (uw_Table ad_tb cA_tb u.2)) t.heap ∧ va_K (dC, dI) vwCl [(cA_rd 1, .int), (cA_tb 1, .int), (cA_tb 2, .int), (cA_tb 3, .int), (cA_tb 4, .byte)] t ∧ va_D A (uw_Reader ad_rd cA_rd u.1 ++ (uw_Table ad_tb cA_tb u.2))) A) ([.ref (ad_rd 0), .ref (ad_tb 0), .int x2] : List Value).toArray s 0 0 A) (F0 m pc ls [.int (bI v)]) := fun v u H locs ls pc hd hp hP hD hS => W.zret (v := bI v) (ty := .boolean) hx hb hr (nar_bI v) (fun t ht hW => ⟨⟨bI v, u, rfl, ⟨by rw [hp.1], hp.2⟩, by rw [ht]; exact hP, va_K.moved hW.alike hK, hD⟩, hS.F ht⟩) hS.2.2 hd
  generalize (MQ below (va_Qi (fun (r : Int32) (u : SReader × STable) => r = bI res.1 ∧ u = res.2) (fun (u : SReader × STable) (t : State) => va_P (dC, dI) vwCl (uw_Reader ad_rd cA_rd u.1 ++ (uw_Table ad_tb cA_tb u.2)) t.heap ∧ va_K (dC, dI) vwCl [(cA_rd 1, .int), (cA_tb 1, .int), (cA_tb 2, .int), (cA_tb 3, .int), (cA_tb 4, .byte)] t ∧ va_D A (uw_Reader ad_rd cA_rd u.1 ++ (uw_Table ad_tb cA_tb u.2))) A) ([.ref (ad_rd 0), .ref (ad_tb 0), .int x2] : List Value).toArray s 0 0 A) = Q at ret ⊢
  have w_2 : ∀ (n : Nat) (rd : SReader) (tb : STable) (y2 : Int32) (y3 : Int32) (H : Heap) (locs : List Loc) (ls : Array Slot), f_Reader_readNames_2 n rd tb y2 y3 = some res → va_P (dC, dI) vwCl (uw_Reader ad_rd cA_rd rd ++ (uw_Table ad_tb cA_tb tb)) H → va_D A (uw_Reader ad_rd cA_rd rd ++ (uw_Table ad_tb cA_tb tb)) → va_S A s.heap H locs → lv_has ls 4 [(0, .ref (ad_rd 0)), (1, .ref (ad_tb 0)), (2, .int y2), (3, .int y3)] → W p l e (headSpec w_Reader_readNames ({ frames := 3, cells := 0, slots := 0, locals := 72 })).room s m ([.ref (ad_rd 0), .ref (ad_tb 0), .int x2] : List Value).toArray below meth c H locs 0 0 Q (F0 m 2 ls []) := by
    intro n
    induction n with
    | zero =>
      intro rd tb y2 y3 H locs ls hf hP hD hS hl
      rw [f_Reader_readNames_2] at hf; cases hf
    | succ n ih =>
      intro rd tb y2 y3 H locs ls hf hP hD hS hl
      rw [f_Reader_readNames_2] at hf
      refine lv_aload_n hx hb d_Reader_readNames_2 rfl (lv_at hl 0 rfl) ?_
      refine lv_aload_n hx hb d_Reader_readNames_3 rfl (lv_at hl 1 rfl) ?_
      refine lv_iload_n hx hb d_Reader_readNames_4 rfl (lv_at hl 2 rfl) ?_
      refine lv_iload_n hx hb d_Reader_readNames_5 rfl (lv_at hl 3 rfl) ?_
      obtain ⟨u1, hu1, hf⟩ := Option.bind_eq_some_iff.mp hf
      refine cl_i (wc := (uw_Reader ad_rd cA_rd rd ++ (uw_Table ad_tb cA_tb tb))) (wr := []) (tysC := [(cA_rd 1, .int), (cA_tb 1, .int), (cA_tb 2, .int), (cA_tb 3, .int), (cA_tb 4, .byte)]) (wu := fun (u : SReader × STable) => (uw_Reader ad_rd cA_rd u.1 ++ (uw_Table ad_tb cA_tb u.2))) (wn := fun (u : SReader × STable) => (uw_Reader ad_rd cA_rd u.1 ++ (uw_Table ad_tb cA_tb u.2))) [0, 1, 2, 3, 4, 5, 6] [] [0, 1, 2, 3, 4, 5, 6] [0, 1, 2, 3, 4] hP hD hS hA hK rfl rfl (by decide +kernel) (by decide +kernel) (by decide +kernel) rfl (fun _ => rfl) (by decide +kernel) (fun hPc hKc hDc => (va_runV (As := [.ref (ad_tb 0), .int y2, .int y3]) (rest := []) ⟨hx, hb, hml, hown, hts⟩ (k_Reader_readName l dC dI ad_rd cA_rd ad_tb cA_tb H.size rd tb y2 y3 u1 hu1) (cwV 3 hts (gV wd_402 wd_404 wd_8 wd_44 wd_405) rfl rfl rfl (by decide +kernel) ⟨Nat.le_of_ble_eq_true rfl, Nat.le_of_ble_eq_true rfl⟩) (cl_preV hPc hKc hDc hN (ci := 1) 0 rfl rfl) rfl rfl hl.1 rfl (lv_room (Nat.le_of_ble_eq_true rfl)) d_Reader_readNames_6 ⟨Nat.le_of_ble_eq_true rfl, Nat.le_of_ble_eq_true rfl⟩)) (fun r u H locs hw hP hD hS => ?_)
      obtain ⟨hw1, hw2⟩ := hw
      have hw1 := hw1.symm
      have hw2 := hw2.symm
      subst hw1
      subst hw2
      have hP : va_P (dC, dI) vwCl (uw_Reader ad_rd cA_rd u1.2.1 ++ (uw_Table ad_tb cA_tb u1.2.2)) H := hP
      have hD : va_D A (uw_Reader ad_rd cA_rd u1.2.1 ++ (uw_Table ad_tb cA_tb u1.2.2)) := hD
      refine lv_if_ne (tgt := 14) hx hb d_Reader_readNames_9 (by decide) (fun hc2 => ?_) (fun hc2 => ?_)
      · have hf := hf_f hf hc2
        refine lv_iinc (v := y3 + (1 : Int32)) (lv' := [(3, .int (y3 + (1 : Int32))), (0, .ref (ad_rd 0)), (1, .ref (ad_tb 0)), (2, .int y2)]) hx hb d_Reader_readNames_14 hl (k := 3) rfl rfl (by decide) rfl (fun ls hl => ?_)
        refine lv_iload_n hx hb d_Reader_readNames_17 rfl (lv_at hl 0 rfl) ?_
        refine lv_iconst (v := (3 : Int32)) hx hb d_Reader_readNames_18 (by decide) ?_
        refine lv_icmp_ge (tgt := 31) hx hb d_Reader_readNames_19 (by decide) (fun hc3 => ?_) (fun hc3 => ?_)
        · have hf := hf_t hf hc3
          refine lv_iconst (v := (1 : Int32)) hx hb d_Reader_readNames_31 (by decide) ?_
          exact ret true (u1.2.1, u1.2.2) H locs ls 32 d_Reader_readNames_32 (hf_e hf) hP hD hS
        · have hf := hf_f hf hc3
          refine lv_aload_n hx hb d_Reader_readNames_22 rfl (lv_at hl 1 rfl) ?_
          obtain ⟨u4, hu4, hf⟩ := Option.bind_eq_some_iff.mp hf
          refine cl_i (wc := (uw_Reader ad_rd cA_rd u1.2.1)) (wr := (uw_Table ad_tb cA_tb u1.2.2)) (tysC := [(cA_rd 1, .int)]) (wu := fun (u : SReader) => (uw_Reader ad_rd cA_rd u)) (wn := fun (u : SReader) => (uw_Reader ad_rd cA_rd u ++ (uw_Table ad_tb cA_tb u1.2.2))) [0, 1] [2, 3, 4, 5, 6] [5, 6, 0, 1, 2, 3, 4] [0] hP hD hS hA hK rfl rfl (by decide +kernel) (by decide +kernel) (by decide +kernel) rfl (fun _ => rfl) (by decide +kernel) (fun hPc hKc hDc => (va_runV (As := []) (rest := []) ⟨hx, hb, hml, hown, hts⟩ (k_Reader_peek l dC dI ad_rd cA_rd H.size u1.2.1 u4 hu4) (cwV 0 hts (gV wd_358 wd_360 wd_1 wd_44 wd_361) rfl rfl rfl (by decide +kernel) ⟨Nat.le_of_ble_eq_true rfl, Nat.le_of_ble_eq_true rfl⟩) (cl_preV hPc hKc hDc hN (ci := 1) 0 rfl rfl) rfl rfl hl.1 rfl (lv_room (Nat.le_of_ble_eq_true rfl)) d_Reader_readNames_23 ⟨Nat.le_of_ble_eq_true rfl, Nat.le_of_ble_eq_true rfl⟩)) (fun r u H locs hw hP hD hS => ?_)
          obtain ⟨hw1, hw2⟩ := hw
          have hw1 := hw1.symm
          have hw2 := hw2.symm
          subst hw1
          subst hw2
          have hP : va_P (dC, dI) vwCl (uw_Reader ad_rd cA_rd u4.2 ++ (uw_Table ad_tb cA_tb u1.2.2)) H := hP
          have hD : va_D A (uw_Reader ad_rd cA_rd u4.2 ++ (uw_Table ad_tb cA_tb u1.2.2)) := hD
          refine lv_bipush (v := (34 : Int32)) hx hb d_Reader_readNames_26 (by decide) ?_
          refine lv_icmp_eq (tgt := 2) hx hb d_Reader_readNames_28 (by decide) (fun hc5 => ?_) (fun hc5 => ?_)
          · have hf := hf_t hf hc5
            exact ih u4.2 u1.2.2 y2 (y3 + (1 : Int32)) H locs ls hf hP hD hS (lv_sub hl [1, 2, 3, 0] rfl)
          · have hf := hf_f hf hc5
            refine lv_iconst (v := (1 : Int32)) hx hb d_Reader_readNames_31 (by decide) ?_
            exact ret true (u4.2, u1.2.2) H locs ls 32 d_Reader_readNames_32 (hf_e hf) hP hD hS
      · have hf := hf_t hf hc2
        refine lv_iconst (v := (0 : Int32)) hx hb d_Reader_readNames_12 (by decide) ?_
        exact ret false (u1.2.1, u1.2.2) H locs ls 13 d_Reader_readNames_13 (hf_e hf) hP hD hS
  have hl := lv_entry ([.ref (ad_rd 0), .ref (ad_tb 0), .int x2]) (n := 4) (Nat.le_of_ble_eq_true rfl)
  rw [lg_entry_eq]
  generalize (lg_sl ([.ref (ad_rd 0), .ref (ad_tb 0), .int x2]) ++ List.replicate (4 - (lg_sl ([.ref (ad_rd 0), .ref (ad_tb 0), .int x2])).length) Slot.unset).toArray = ls at hl ⊢
  have hl : lv_has ls 4 [(0, .ref (ad_rd 0)), (1, .ref (ad_tb 0)), (2, .int x2)] := hl
  have hf := hf
  rw [f_Reader_readNames] at hf
  obtain ⟨H, hH⟩ : ∃ H : Heap, H = s.heap := ⟨_, rfl⟩
  obtain ⟨locs, hlocs⟩ : ∃ L : List Loc, L = [] := ⟨_, rfl⟩
  have hP : va_P (dC, dI) vwCl (uw_Reader ad_rd cA_rd rd ++ (uw_Table ad_tb cA_tb tb)) H := by rw [hH]; exact hP
  have hS : va_S A s.heap H locs := by rw [hH, hlocs]; exact hS
  show W p l e (headSpec w_Reader_readNames ({ frames := 3, cells := 0, slots := 0, locals := 72 })).room s m ([.ref (ad_rd 0), .ref (ad_tb 0), .int x2] : List Value).toArray below meth c s.heap [] 0 0 Q (F0 m 0 ls [])
  suffices hgo : W p l e (headSpec w_Reader_readNames ({ frames := 3, cells := 0, slots := 0, locals := 72 })).room s m ([.ref (ad_rd 0), .ref (ad_tb 0), .int x2] : List Value).toArray below meth c H locs 0 0 Q (F0 m 0 ls []) by rw [hH, hlocs] at hgo; exact hgo
  clear hH hlocs
  refine lv_iconst (v := (0 : Int32)) hx hb d_Reader_readNames_0 (by decide) ?_
  refine lv_istore_n (lv' := [(3, .int (0 : Int32)), (0, .ref (ad_rd 0)), (1, .ref (ad_tb 0)), (2, .int x2)]) hx hb d_Reader_readNames_1 rfl hl (by decide) rfl (fun ls hl => ?_)
  exact w_2 4096 rd tb x2 (0 : Int32) H locs ls hf hP hD hS (lv_sub hl [1, 2, 3, 0] rfl)
noncomputable def f_Reader_readClass (rd : SReader) (tb : STable) (x2 : Int32) : Option (Bool × SReader × STable) :=
  (Option.bind (f_Reader_take rd (99 : Int32)) fun u1 =>
    (if (bI u1.1) = 0 then
      (some (false, u1.2, tb))
     else
      (Option.bind (f_Reader_readNumber u1.2 (1 : Int32) (9 : Int32)) fun u3 =>
        (if (bI u3.1) = 0 then
          (some (false, u3.2, tb))
         else
          (Option.bind (f_Table_setCell tb x2 (0 : Int32) u3.2.2.2.2.1) fun u5 =>
            (some (true, u3.2, u5))
           )
         )
       )
     )
   )
set_option maxHeartbeats 4000000 in
set_option maxRecDepth 100000 in
theorem k_Reader_readClass (l : Launch) (dC : Nat → ClassId) (dI : Nat → Nat → Nat) (ad_rd : Nat → Nat) (cA_rd : Nat → ClassId) (ad_tb : Nat → Nat) (cA_tb : Nat → ClassId) (sz : Nat) (rd : SReader) (tb : STable) (x2 : Int32) (res : Bool × SReader × STable) (hf : f_Reader_readClass rd tb x2 = some res) : Met l y_Reader_readClass w_Reader_readClass ({ frames := 2, cells := 0, slots := 0, locals := 46 }) (cPc (dC, dI) (uw_Reader ad_rd cA_rd rd ++ (uw_Table ad_tb cA_tb tb)) [(cA_rd 1, .int), (cA_tb 1, .int), (cA_tb 2, .int), (cA_tb 3, .int), (cA_tb 4, .byte)] sz [.ref (ad_rd 0), .ref (ad_tb 0), .int x2]) (va_Qi (fun (r : Int32) (u : SReader × STable) => r = bI res.1 ∧ u = res.2) (fun (u : SReader × STable) (t : State) => va_P (dC, dI) vwCl (uw_Reader ad_rd cA_rd u.1 ++ (uw_Table ad_tb cA_tb u.2)) t.heap ∧ va_K (dC, dI) vwCl [(cA_rd 1, .int), (cA_tb 1, .int), (cA_tb 2, .int), (cA_tb 3, .int), (cA_tb 4, .byte)] t ∧ va_D (va_A (uw_Reader ad_rd cA_rd rd ++ (uw_Table ad_tb cA_tb tb)) sz) (uw_Reader ad_rd cA_rd u.1 ++ (uw_Table ad_tb cA_tb u.2))) (va_A (uw_Reader ad_rd cA_rd rd ++ (uw_Table ad_tb cA_tb tb)) sz)) 0 0 (va_A (uw_Reader ad_rd cA_rd rd ++ (uw_Table ad_tb cA_tb tb)) sz) := by
  refine Met.ofW (cc := b_Reader_readClass) (maxL := 3) (ret := (some .boolean)) (by decide) rfl ?_
  intro p e s m args below meth c s₁ B hml hv
  obtain ⟨rfl, hsz, hP, hK, hD0, hN⟩ := hv
  have hx := B.exec
  have hb := B.bytes
  have hr := B.returns
  have hts := atoms_spec (ws := w_Reader_readClass) B.pre
  have hown : s.vm.findClass "HazardTables$Reader" = some m.cls := findClass_of_methodNamed B.named
  have hlocks := B.notSynchronized
  subst hsz
  have hD := hD0.self (sz := s.heap.size)
  generalize hAe : va_A (uw_Reader ad_rd cA_rd rd ++ (uw_Table ad_tb cA_tb tb)) s.heap.size = A at hD ⊢
  have hA : ∀ q : Nat, s.heap.size ≤ q → A q := fun q h => by rw [← hAe]; exact Or.inr h
  have hS : va_S A s.heap s.heap [] := va_S.rf
  have hP : va_P (dC, dI) vwCl (uw_Reader ad_rd cA_rd rd ++ (uw_Table ad_tb cA_tb tb)) s.heap := hP
  have fl_83 := (hts _ (List.mem_cons_of_mem _ wd_75))
  have hin_Reader : ∀ w ∈ u_ws "HazardTables$Reader" F_Reader 5, w ∈ w_Reader_readClass := fun w h => List.mem_cons_of_mem _ (hinA_Reader w h)
  have ret : ∀ (v : Bool) (u : SReader × STable) (H : Heap) (locs : List Loc) (ls : Array Slot) (pc : Nat), decode b_Reader_readClass pc = .ok (.ireturn, 1) → (v = res.1 ∧ u = res.2) → va_P (dC, dI) vwCl (uw_Reader ad_rd cA_rd u.1 ++ (uw_Table ad_tb cA_tb u.2)) H → va_D A (uw_Reader ad_rd cA_rd u.1 ++ (uw_Table ad_tb cA_tb u.2)) → va_S A s.heap H locs → W p l e (headSpec w_Reader_readClass ({ frames := 2, cells := 0, slots := 0, locals := 46 })).room s m ([.ref (ad_rd 0), .ref (ad_tb 0), .int x2] : List Value).toArray below meth c H locs 0 0 (MQ below (va_Qi (fun (r : Int32) (u : SReader × STable) => r = bI res.1 ∧ u = res.2) (fun (u : SReader × STable) (t : State) => va_P (dC, dI) vwCl (uw_Reader ad_rd cA_rd u.1 ++ (uw_Table ad_tb cA_tb u.2)) t.heap ∧ va_K (dC, dI) vwCl [(cA_rd 1, .int), (cA_tb 1, .int), (cA_tb 2, .int), (cA_tb 3, .int), (cA_tb 4, .byte)] t ∧ va_D A (uw_Reader ad_rd cA_rd u.1 ++ (uw_Table ad_tb cA_tb u.2))) A) ([.ref (ad_rd 0), .ref (ad_tb 0), .int x2] : List Value).toArray s 0 0 A) (F0 m pc ls [.int (bI v)]) := fun v u H locs ls pc hd hp hP hD hS => W.zret (v := bI v) (ty := .boolean) hx hb hr (nar_bI v) (fun t ht hW => ⟨⟨bI v, u, rfl, ⟨by rw [hp.1], hp.2⟩, by rw [ht]; exact hP, va_K.moved hW.alike hK, hD⟩, hS.F ht⟩) hS.2.2 hd
  generalize (MQ below (va_Qi (fun (r : Int32) (u : SReader × STable) => r = bI res.1 ∧ u = res.2) (fun (u : SReader × STable) (t : State) => va_P (dC, dI) vwCl (uw_Reader ad_rd cA_rd u.1 ++ (uw_Table ad_tb cA_tb u.2)) t.heap ∧ va_K (dC, dI) vwCl [(cA_rd 1, .int), (cA_tb 1, .int), (cA_tb 2, .int), (cA_tb 3, .int), (cA_tb 4, .byte)] t ∧ va_D A (uw_Reader ad_rd cA_rd u.1 ++ (uw_Table ad_tb cA_tb u.2))) A) ([.ref (ad_rd 0), .ref (ad_tb 0), .int x2] : List Value).toArray s 0 0 A) = Q at ret ⊢
  have hl := lv_entry ([.ref (ad_rd 0), .ref (ad_tb 0), .int x2]) (n := 3) (Nat.le_of_ble_eq_true rfl)
  rw [lg_entry_eq]
  generalize (lg_sl ([.ref (ad_rd 0), .ref (ad_tb 0), .int x2]) ++ List.replicate (3 - (lg_sl ([.ref (ad_rd 0), .ref (ad_tb 0), .int x2])).length) Slot.unset).toArray = ls at hl ⊢
  have hl : lv_has ls 3 [(0, .ref (ad_rd 0)), (1, .ref (ad_tb 0)), (2, .int x2)] := hl
  have hf := hf
  rw [f_Reader_readClass] at hf
  obtain ⟨H, hH⟩ : ∃ H : Heap, H = s.heap := ⟨_, rfl⟩
  obtain ⟨locs, hlocs⟩ : ∃ L : List Loc, L = [] := ⟨_, rfl⟩
  have hP : va_P (dC, dI) vwCl (uw_Reader ad_rd cA_rd rd ++ (uw_Table ad_tb cA_tb tb)) H := by rw [hH]; exact hP
  have hS : va_S A s.heap H locs := by rw [hH, hlocs]; exact hS
  show W p l e (headSpec w_Reader_readClass ({ frames := 2, cells := 0, slots := 0, locals := 46 })).room s m ([.ref (ad_rd 0), .ref (ad_tb 0), .int x2] : List Value).toArray below meth c s.heap [] 0 0 Q (F0 m 0 ls [])
  suffices hgo : W p l e (headSpec w_Reader_readClass ({ frames := 2, cells := 0, slots := 0, locals := 46 })).room s m ([.ref (ad_rd 0), .ref (ad_tb 0), .int x2] : List Value).toArray below meth c H locs 0 0 Q (F0 m 0 ls []) by rw [hH, hlocs] at hgo; exact hgo
  clear hH hlocs
  refine lv_aload_n hx hb d_Reader_readClass_0 rfl (lv_at hl 0 rfl) ?_
  refine lv_bipush (v := (99 : Int32)) hx hb d_Reader_readClass_1 (by decide) ?_
  obtain ⟨u1, hu1, hf⟩ := Option.bind_eq_some_iff.mp hf
  refine cl_i (wc := (uw_Reader ad_rd cA_rd rd)) (wr := (uw_Table ad_tb cA_tb tb)) (tysC := [(cA_rd 1, .int)]) (wu := fun (u : SReader) => (uw_Reader ad_rd cA_rd u)) (wn := fun (u : SReader) => (uw_Reader ad_rd cA_rd u ++ (uw_Table ad_tb cA_tb tb))) [0, 1] [2, 3, 4, 5, 6] [5, 6, 0, 1, 2, 3, 4] [0] hP hD hS hA hK rfl rfl (by decide +kernel) (by decide +kernel) (by decide +kernel) rfl (fun _ => rfl) (by decide +kernel) (fun hPc hKc hDc => (va_runV (As := [.int (99 : Int32)]) (rest := []) ⟨hx, hb, hml, hown, hts⟩ (k_Reader_take l dC dI ad_rd cA_rd H.size rd (99 : Int32) u1 hu1) (cwV 1 hts (gV wd_406 wd_408 wd_9 wd_44 wd_409) rfl rfl rfl (by decide +kernel) ⟨Nat.le_of_ble_eq_true rfl, Nat.le_of_ble_eq_true rfl⟩) (cl_preV hPc hKc hDc hN (ci := 1) 0 rfl rfl) rfl rfl hl.1 rfl (lv_room (Nat.le_of_ble_eq_true rfl)) d_Reader_readClass_3 ⟨Nat.le_of_ble_eq_true rfl, Nat.le_of_ble_eq_true rfl⟩)) (fun r u H locs hw hP hD hS => ?_)
  obtain ⟨hw1, hw2⟩ := hw
  have hw1 := hw1.symm
  have hw2 := hw2.symm
  subst hw1
  subst hw2
  have hP : va_P (dC, dI) vwCl (uw_Reader ad_rd cA_rd u1.2 ++ (uw_Table ad_tb cA_tb tb)) H := hP
  have hD : va_D A (uw_Reader ad_rd cA_rd u1.2 ++ (uw_Table ad_tb cA_tb tb)) := hD
  refine lv_if_eq (tgt := 19) hx hb d_Reader_readClass_6 (by decide) (fun hc2 => ?_) (fun hc2 => ?_)
  · have hf := hf_t hf hc2
    refine lv_iconst (v := (0 : Int32)) hx hb d_Reader_readClass_19 (by decide) ?_
    exact ret false (u1.2, tb) H locs ls 20 d_Reader_readClass_20 (hf_e hf) hP hD hS
  · have hf := hf_f hf hc2
    refine lv_aload_n hx hb d_Reader_readClass_9 rfl (lv_at hl 0 rfl) ?_
    refine lv_iconst (v := (1 : Int32)) hx hb d_Reader_readClass_10 (by decide) ?_
    refine lv_bipush (v := (9 : Int32)) hx hb d_Reader_readClass_11 (by decide) ?_
    obtain ⟨u3, hu3, hf⟩ := Option.bind_eq_some_iff.mp hf
    refine cl_i (wc := (uw_Reader ad_rd cA_rd u1.2)) (wr := (uw_Table ad_tb cA_tb tb)) (tysC := [(cA_rd 1, .int)]) (wu := fun (u : SReader) => (uw_Reader ad_rd cA_rd u)) (wn := fun (u : SReader) => (uw_Reader ad_rd cA_rd u ++ (uw_Table ad_tb cA_tb tb))) [0, 1] [2, 3, 4, 5, 6] [5, 6, 0, 1, 2, 3, 4] [0] hP hD hS hA hK rfl rfl (by decide +kernel) (by decide +kernel) (by decide +kernel) rfl (fun _ => rfl) (by decide +kernel) (fun hPc hKc hDc => (va_runV (As := [.int (1 : Int32), .int (9 : Int32)]) (rest := []) ⟨hx, hb, hml, hown, hts⟩ (k_Reader_readNumber l dC dI ad_rd cA_rd H.size u1.2 (1 : Int32) (9 : Int32) u3 hu3) (cwV 2 hts (gV wd_378 wd_380 wd_5 wd_44 wd_381) rfl rfl rfl (by decide +kernel) ⟨Nat.le_of_ble_eq_true rfl, Nat.le_of_ble_eq_true rfl⟩) (cl_preV hPc hKc hDc hN (ci := 1) 0 rfl rfl) rfl rfl hl.1 rfl (lv_room (Nat.le_of_ble_eq_true rfl)) d_Reader_readClass_13 ⟨Nat.le_of_ble_eq_true rfl, Nat.le_of_ble_eq_true rfl⟩)) (fun r u H locs hw hP hD hS => ?_)
    obtain ⟨hw1, hw2⟩ := hw
    have hw1 := hw1.symm
    have hw2 := hw2.symm
    subst hw1
    subst hw2
    have hP : va_P (dC, dI) vwCl (uw_Reader ad_rd cA_rd u3.2 ++ (uw_Table ad_tb cA_tb tb)) H := hP
    have hD : va_D A (uw_Reader ad_rd cA_rd u3.2 ++ (uw_Table ad_tb cA_tb tb)) := hD
    refine lv_if_ne (tgt := 21) hx hb d_Reader_readClass_16 (by decide) (fun hc4 => ?_) (fun hc4 => ?_)
    · have hf := hf_f hf hc4
      refine lv_aload_n hx hb d_Reader_readClass_21 rfl (lv_at hl 1 rfl) ?_
      refine lv_iload_n hx hb d_Reader_readClass_22 rfl (lv_at hl 2 rfl) ?_
      refine lv_iconst (v := (0 : Int32)) hx hb d_Reader_readClass_23 (by decide) ?_
      refine lv_aload_n hx hb d_Reader_readClass_24 rfl (lv_at hl 0 rfl) ?_
      refine va_get (D := (dC, dI)) (ci := 1) (v := .int u3.2.2.2.2.1) (C := "HazardTables$Reader") (T := F_Reader) (N := 5) hx hb hts hin_Reader hown hK hP 0 rfl rfl 3 (by decide) fl_83 (fun _ h9 => h9) rfl d_Reader_readClass_25 ?_
      obtain ⟨u5, hu5, hf⟩ := Option.bind_eq_some_iff.mp hf
      refine cl_v (wc := (uw_Table ad_tb cA_tb tb)) (wr := (uw_Reader ad_rd cA_rd u3.2)) (tysC := [(cA_tb 1, .int), (cA_tb 2, .int), (cA_tb 3, .int), (cA_tb 4, .byte)]) (wu := fun (u : STable) => (uw_Table ad_tb cA_tb u)) (wn := fun (u : STable) => (uw_Reader ad_rd cA_rd u3.2 ++ (uw_Table ad_tb cA_tb u))) [2, 3, 4, 5, 6] [0, 1] [0, 1, 2, 3, 4, 5, 6] [1, 2, 3, 4] hP hD hS hA hK rfl rfl (by decide +kernel) (by decide +kernel) (by decide +kernel) rfl (fun _ => rfl) (by decide +kernel) (fun hPc hKc hDc => (va_runV (As := [.int x2, .int (0 : Int32), .int u3.2.2.2.2.1]) (rest := []) ⟨hx, hb, hml, hown, hts⟩ (k_Table_setCell l dC dI ad_tb cA_tb H.size tb x2 (0 : Int32) u3.2.2.2.2.1 u5 hu5) (cwV 3 hts (gV wd_429 wd_422 wd_423 wd_48 wd_424) rfl rfl rfl (by decide +kernel) ⟨Nat.le_of_ble_eq_true rfl, Nat.le_of_ble_eq_true rfl⟩) (cl_preV hPc hKc hDc hN (ci := 4) 0 rfl rfl) rfl rfl hl.1 rfl (lv_room (Nat.le_of_ble_eq_true rfl)) d_Reader_readClass_28 ⟨Nat.le_of_ble_eq_true rfl, Nat.le_of_ble_eq_true rfl⟩)) (fun u H locs hw hP hD hS => ?_)
      have hw := hw.symm
      subst hw
      have hP : va_P (dC, dI) vwCl (uw_Reader ad_rd cA_rd u3.2 ++ (uw_Table ad_tb cA_tb u5)) H := hP
      have hD : va_D A (uw_Reader ad_rd cA_rd u3.2 ++ (uw_Table ad_tb cA_tb u5)) := hD
      refine lv_iconst (v := (1 : Int32)) hx hb d_Reader_readClass_31 (by decide) ?_
      exact ret true (u3.2, u5) H locs ls 32 d_Reader_readClass_32 (hf_e hf) hP hD hS
    · have hf := hf_t hf hc4
      refine lv_iconst (v := (0 : Int32)) hx hb d_Reader_readClass_19 (by decide) ?_
      exact ret false (u3.2, tb) H locs ls 20 d_Reader_readClass_20 (hf_e hf) hP hD hS
noncomputable def f_Reader_readRising_80  (rd : SReader) (y6 : Int32) : Option (Bool × SReader) :=
  (if 0 < y6 then
    (some (true, rd))
   else
    (Option.bind (f_Reader_wrong rd rd.2.2.1) fun u7 =>
      (if (bI u7.1) = 0 then
        (some (false, u7.2))
       else
        (some (true, u7.2))
       )
     )
   )
noncomputable def f_Reader_readRising_17  : Nat → SReader → Int32 → Int32 → Int32 → Int32 → Int32 → Int32 → Option (Bool × SReader)
  | 0, _, _, _, _, _, _, _ => none
  | n + 1, rd, y2, y3, y4, y5, y6, y7 =>
    (if y3 ≤ y6 then
      (f_Reader_readRising_80 rd y6)
     else
      (if y7 < y5 then
        (f_Reader_readRising_80 rd y6)
       else
        (if y2 < y7 then
          (f_Reader_readRising_80 rd y6)
         else
          (Option.bind (f_Reader_peek (rd.1, rd.2.1, rd.2.2.1 + (1 : Int32), rd.2.2.2.1 ||| ((1 : Int32) <<< ((y7 - y4) &&& 31)), rd.2.2.2.2)) fun u5 =>
            (f_Reader_readRising_17 n u5.2 y2 y3 y4 (y7 + (1 : Int32)) (y6 + (1 : Int32)) u5.1)
           )
         )
       )
     )
noncomputable def f_Reader_readRising (rd : SReader) (x1 : Int32) (x2 : Int32) (x3 : Int32) (x4 : Int32) : Option (Bool × SReader) :=
  (Option.bind (f_Reader_peek (rd.1, rd.2.1, rd.2.2.1, (0 : Int32), rd.2.2.2.2)) fun u1 =>
    (f_Reader_readRising_17 4096 u1.2 x2 x3 x4 x1 (0 : Int32) u1.1)
   )
set_option maxHeartbeats 4000000 in
set_option maxRecDepth 100000 in
theorem k_Reader_readRising (l : Launch) (dC : Nat → ClassId) (dI : Nat → Nat → Nat) (ad_rd : Nat → Nat) (cA_rd : Nat → ClassId) (sz : Nat) (rd : SReader) (x1 : Int32) (x2 : Int32) (x3 : Int32) (x4 : Int32) (res : Bool × SReader) (hf : f_Reader_readRising rd x1 x2 x3 x4 = some res) : Met l y_Reader_readRising w_Reader_readRising ({ frames := 1, cells := 0, slots := 0, locals := 21 }) (cPc (dC, dI) (uw_Reader ad_rd cA_rd rd) [(cA_rd 1, .int)] sz [.ref (ad_rd 0), .int x1, .int x2, .int x3, .int x4]) (va_Qi (fun (r : Int32) (u : SReader) => r = bI res.1 ∧ u = res.2) (fun (u : SReader) (t : State) => va_P (dC, dI) vwCl (uw_Reader ad_rd cA_rd u) t.heap ∧ va_K (dC, dI) vwCl [(cA_rd 1, .int)] t ∧ va_D (va_A (uw_Reader ad_rd cA_rd rd) sz) (uw_Reader ad_rd cA_rd u)) (va_A (uw_Reader ad_rd cA_rd rd) sz)) 0 0 (va_A (uw_Reader ad_rd cA_rd rd) sz) := by
  refine Met.ofW (cc := b_Reader_readRising) (maxL := 8) (ret := (some .boolean)) (by decide) rfl ?_
  intro p e s m args below meth c s₁ B hml hv
  obtain ⟨rfl, hsz, hP, hK, hD0, hN⟩ := hv
  have hx := B.exec
  have hb := B.bytes
  have hr := B.returns
  have hts := atoms_spec (ws := w_Reader_readRising) B.pre
  have hown : s.vm.findClass "HazardTables$Reader" = some m.cls := findClass_of_methodNamed B.named
  have hlocks := B.notSynchronized
  subst hsz
  have hD := hD0.self (sz := s.heap.size)
  generalize hAe : va_A (uw_Reader ad_rd cA_rd rd) s.heap.size = A at hD ⊢
  have hA : ∀ q : Nat, s.heap.size ≤ q → A q := fun q h => by rw [← hAe]; exact Or.inr h
  have hS : va_S A s.heap s.heap [] := va_S.rf
  have hP : va_P (dC, dI) vwCl (uw_Reader ad_rd cA_rd rd) s.heap := hP
  have fl_31 := (hts _ (List.mem_cons_of_mem _ wd_74))
  have fl_83 := (hts _ (List.mem_cons_of_mem _ wd_75))
  have hin_Reader : ∀ w ∈ u_ws "HazardTables$Reader" F_Reader 5, w ∈ w_Reader_readRising := fun w h => List.mem_cons_of_mem _ (hinA_Reader w h)
  have ret : ∀ (v : Bool) (u : SReader) (H : Heap) (locs : List Loc) (ls : Array Slot) (pc : Nat), decode b_Reader_readRising pc = .ok (.ireturn, 1) → (v = res.1 ∧ u = res.2) → va_P (dC, dI) vwCl (uw_Reader ad_rd cA_rd u) H → va_D A (uw_Reader ad_rd cA_rd u) → va_S A s.heap H locs → W p l e (headSpec w_Reader_readRising ({ frames := 1, cells := 0, slots := 0, locals := 21 })).room s m ([.ref (ad_rd 0), .int x1, .int x2, .int x3, .int x4] : List Value).toArray below meth c H locs 0 0 (MQ below (va_Qi (fun (r : Int32) (u : SReader) => r = bI res.1 ∧ u = res.2) (fun (u : SReader) (t : State) => va_P (dC, dI) vwCl (uw_Reader ad_rd cA_rd u) t.heap ∧ va_K (dC, dI) vwCl [(cA_rd 1, .int)] t ∧ va_D A (uw_Reader ad_rd cA_rd u)) A) ([.ref (ad_rd 0), .int x1, .int x2, .int x3, .int x4] : List Value).toArray s 0 0 A) (F0 m pc ls [.int (bI v)]) := fun v u H locs ls pc hd hp hP hD hS => W.zret (v := bI v) (ty := .boolean) hx hb hr (nar_bI v) (fun t ht hW => ⟨⟨bI v, u, rfl, ⟨by rw [hp.1], hp.2⟩, by rw [ht]; exact hP, va_K.moved hW.alike hK, hD⟩, hS.F ht⟩) hS.2.2 hd
  generalize (MQ below (va_Qi (fun (r : Int32) (u : SReader) => r = bI res.1 ∧ u = res.2) (fun (u : SReader) (t : State) => va_P (dC, dI) vwCl (uw_Reader ad_rd cA_rd u) t.heap ∧ va_K (dC, dI) vwCl [(cA_rd 1, .int)] t ∧ va_D A (uw_Reader ad_rd cA_rd u)) A) ([.ref (ad_rd 0), .int x1, .int x2, .int x3, .int x4] : List Value).toArray s 0 0 A) = Q at ret ⊢
  have w_80 : ∀ (rd : SReader) (y6 : Int32) (H : Heap) (locs : List Loc) (ls : Array Slot), f_Reader_readRising_80 rd y6 = some res → va_P (dC, dI) vwCl (uw_Reader ad_rd cA_rd rd) H → va_D A (uw_Reader ad_rd cA_rd rd) → va_S A s.heap H locs → lv_has ls 8 [(0, .ref (ad_rd 0)), (6, .int y6)] → W p l e (headSpec w_Reader_readRising ({ frames := 1, cells := 0, slots := 0, locals := 21 })).room s m ([.ref (ad_rd 0), .int x1, .int x2, .int x3, .int x4] : List Value).toArray below meth c H locs 0 0 Q (F0 m 80 ls []) := by
    intro rd y6 H locs ls hf hP hD hS hl
    rw [f_Reader_readRising_80] at hf
    refine lv_iload hx hb d_Reader_readRising_80 (lv_at hl 1 rfl) ?_
    refine lv_if_gt (tgt := 96) hx hb d_Reader_readRising_82 (by decide) (fun hc6 => ?_) (fun hc6 => ?_)
    · have hf := hf_t hf hc6
      refine lv_iconst (v := (1 : Int32)) hx hb d_Reader_readRising_96 (by decide) ?_
      refine lv_goto (tgt := 101) hx hb d_Reader_readRising_97 (by decide) ?_
      exact ret true rd H locs ls 101 d_Reader_readRising_101 (hf_e hf) hP hD hS
    · have hf := hf_f hf hc6
      refine lv_aload_n hx hb d_Reader_readRising_85 rfl (lv_at hl 0 rfl) ?_
      refine lv_aload_n hx hb d_Reader_readRising_86 rfl (lv_at hl 0 rfl) ?_
      refine va_get (D := (dC, dI)) (ci := 1) (v := .int rd.2.2.1) (C := "HazardTables$Reader") (T := F_Reader) (N := 5) hx hb hts hin_Reader hown hK hP 0 rfl rfl 2 (by decide) fl_31 (fun _ h9 => h9) rfl d_Reader_readRising_87 ?_
      obtain ⟨u7, hu7, hf⟩ := Option.bind_eq_some_iff.mp hf
      refine cl_i (wc := (uw_Reader ad_rd cA_rd rd)) (wr := []) (tysC := [(cA_rd 1, .int)]) (wu := fun (u : SReader) => (uw_Reader ad_rd cA_rd u)) (wn := fun (u : SReader) => (uw_Reader ad_rd cA_rd u)) [0, 1] [] [0, 1] [0] hP hD hS hA hK rfl rfl (by decide +kernel) (by decide +kernel) (by decide +kernel) rfl (fun _ => rfl) (by decide +kernel) (fun hPc hKc hDc => (va_runV (As := [.int rd.2.2.1]) (rest := []) ⟨hx, hb, hml, hown, hts⟩ (k_Reader_wrong l dC dI ad_rd cA_rd H.size rd rd.2.2.1 u7 hu7) (cwV 1 hts (gV wd_374 wd_376 wd_4 wd_44 wd_377) rfl rfl rfl (by decide +kernel) ⟨Nat.le_of_ble_eq_true rfl, Nat.le_of_ble_eq_true rfl⟩) (cl_preV hPc hKc hDc hN (ci := 1) 0 rfl rfl) rfl rfl hl.1 rfl (lv_room (Nat.le_of_ble_eq_true rfl)) d_Reader_readRising_90 ⟨Nat.le_of_ble_eq_true rfl, Nat.le_of_ble_eq_true rfl⟩)) (fun r u H locs hw hP hD hS => ?_)
      obtain ⟨hw1, hw2⟩ := hw
      have hw1 := hw1.symm
      have hw2 := hw2.symm
      subst hw1
      subst hw2
      have hP : va_P (dC, dI) vwCl (uw_Reader ad_rd cA_rd u7.2) H := hP
      have hD : va_D A (uw_Reader ad_rd cA_rd u7.2) := hD
      refine lv_if_eq (tgt := 100) hx hb d_Reader_readRising_93 (by decide) (fun hc8 => ?_) (fun hc8 => ?_)
      · have hf := hf_t hf hc8
        refine lv_iconst (v := (0 : Int32)) hx hb d_Reader_readRising_100 (by decide) ?_
        exact ret false u7.2 H locs ls 101 d_Reader_readRising_101 (hf_e hf) hP hD hS
      · have hf := hf_f hf hc8
        refine lv_iconst (v := (1 : Int32)) hx hb d_Reader_readRising_96 (by decide) ?_
        refine lv_goto (tgt := 101) hx hb d_Reader_readRising_97 (by decide) ?_
        exact ret true u7.2 H locs ls 101 d_Reader_readRising_101 (hf_e hf) hP hD hS
  have w_17 : ∀ (n : Nat) (rd : SReader) (y2 : Int32) (y3 : Int32) (y4 : Int32) (y5 : Int32) (y6 : Int32) (y7 : Int32) (H : Heap) (locs : List Loc) (ls : Array Slot), f_Reader_readRising_17 n rd y2 y3 y4 y5 y6 y7 = some res → va_P (dC, dI) vwCl (uw_Reader ad_rd cA_rd rd) H → va_D A (uw_Reader ad_rd cA_rd rd) → va_S A s.heap H locs → lv_has ls 8 [(0, .ref (ad_rd 0)), (2, .int y2), (3, .int y3), (4, .int y4), (5, .int y5), (6, .int y6), (7, .int y7)] → W p l e (headSpec w_Reader_readRising ({ frames := 1, cells := 0, slots := 0, locals := 21 })).room s m ([.ref (ad_rd 0), .int x1, .int x2, .int x3, .int x4] : List Value).toArray below meth c H locs 0 0 Q (F0 m 17 ls []) := by
    intro n
    induction n with
    | zero =>
      intro rd y2 y3 y4 y5 y6 y7 H locs ls hf hP hD hS hl
      rw [f_Reader_readRising_17] at hf; cases hf
    | succ n ih =>
      intro rd y2 y3 y4 y5 y6 y7 H locs ls hf hP hD hS hl
      rw [f_Reader_readRising_17] at hf
      refine lv_iload hx hb d_Reader_readRising_17 (lv_at hl 5 rfl) ?_
      refine lv_iload_n hx hb d_Reader_readRising_19 rfl (lv_at hl 2 rfl) ?_
      refine lv_icmp_ge (tgt := 80) hx hb d_Reader_readRising_20 (by decide) (fun hc2 => ?_) (fun hc2 => ?_)
      · have hf := hf_t hf hc2
        exact w_80 rd y6 H locs ls hf hP hD hS (lv_sub hl [0, 5] rfl)
      · have hf := hf_f hf hc2
        refine lv_iload hx hb d_Reader_readRising_23 (lv_at hl 6 rfl) ?_
        refine lv_iload hx hb d_Reader_readRising_25 (lv_at hl 4 rfl) ?_
        refine lv_icmp_lt (tgt := 80) hx hb d_Reader_readRising_27 (by decide) (fun hc3 => ?_) (fun hc3 => ?_)
        · have hf := hf_t hf hc3
          exact w_80 rd y6 H locs ls hf hP hD hS (lv_sub hl [0, 5] rfl)
        · have hf := hf_f hf hc3
          refine lv_iload hx hb d_Reader_readRising_30 (lv_at hl 6 rfl) ?_
          refine lv_iload_n hx hb d_Reader_readRising_32 rfl (lv_at hl 1 rfl) ?_
          refine lv_icmp_gt (tgt := 80) hx hb d_Reader_readRising_33 (by decide) (fun hc4 => ?_) (fun hc4 => ?_)
          · have hf := hf_t hf hc4
            exact w_80 rd y6 H locs ls hf hP hD hS (lv_sub hl [0, 5] rfl)
          · have hf := hf_f hf hc4
            refine lv_aload_n hx hb d_Reader_readRising_36 rfl (lv_at hl 0 rfl) ?_
            refine lv_dup hx hb d_Reader_readRising_37 rfl ?_
            refine va_get (D := (dC, dI)) (ci := 1) (v := .int rd.2.2.2.1) (C := "HazardTables$Reader") (T := F_Reader) (N := 5) hx hb hts hin_Reader hown hK hP 0 rfl rfl 3 (by decide) fl_83 (fun _ h9 => h9) rfl d_Reader_readRising_38 ?_
            refine lv_iconst (v := (1 : Int32)) hx hb d_Reader_readRising_41 (by decide) ?_
            refine lv_iload hx hb d_Reader_readRising_42 (lv_at hl 6 rfl) ?_
            refine lv_iload hx hb d_Reader_readRising_44 (lv_at hl 3 rfl) ?_
            refine lv_isub hx hb d_Reader_readRising_46 ?_
            refine lv_ishl hx hb d_Reader_readRising_47 ?_
            refine lv_ior hx hb d_Reader_readRising_48 ?_
            refine va_put (D := (dC, dI)) (ci := 1) (v := .int (rd.2.2.2.1 ||| ((1 : Int32) <<< ((y7 - y4) &&& 31)))) (ty := .int) (C := "HazardTables$Reader") (T := F_Reader) (N := 5) hx hb hts hin_Reader t_Reader t_Reader_ok n_Reader hown hK hP hD hS 0 rfl rfl 3 (by decide) fl_83 (fun _ h9 => h9) rfl (by decide +kernel) rfl rfl (Nat.le_of_ble_eq_true rfl) d_Reader_readRising_49 (fun H locs hP hD hS => ?_)
            have hP : va_P (dC, dI) vwCl (uw_Reader ad_rd cA_rd (rd.1, rd.2.1, rd.2.2.1, rd.2.2.2.1 ||| ((1 : Int32) <<< ((y7 - y4) &&& 31)), rd.2.2.2.2)) H := hP
            have hD : va_D A (uw_Reader ad_rd cA_rd (rd.1, rd.2.1, rd.2.2.1, rd.2.2.2.1 ||| ((1 : Int32) <<< ((y7 - y4) &&& 31)), rd.2.2.2.2)) := hD
            refine lv_iload hx hb d_Reader_readRising_52 (lv_at hl 6 rfl) ?_
            refine lv_iconst (v := (1 : Int32)) hx hb d_Reader_readRising_54 (by decide) ?_
            refine lv_iadd hx hb d_Reader_readRising_55 ?_
            refine lv_istore (lv' := [(5, .int (y7 + (1 : Int32))), (0, .ref (ad_rd 0)), (2, .int y2), (3, .int y3), (4, .int y4), (6, .int y6), (7, .int y7)]) hx hb d_Reader_readRising_56 hl (by decide) rfl (fun ls hl => ?_)
            refine lv_iinc (v := y6 + (1 : Int32)) (lv' := [(6, .int (y6 + (1 : Int32))), (5, .int (y7 + (1 : Int32))), (0, .ref (ad_rd 0)), (2, .int y2), (3, .int y3), (4, .int y4), (7, .int y7)]) hx hb d_Reader_readRising_58 hl (k := 5) rfl rfl (by decide) rfl (fun ls hl => ?_)
            refine lv_aload_n hx hb d_Reader_readRising_61 rfl (lv_at hl 2 rfl) ?_
            refine lv_dup hx hb d_Reader_readRising_62 rfl ?_
            refine va_get (D := (dC, dI)) (ci := 1) (v := .int rd.2.2.1) (C := "HazardTables$Reader") (T := F_Reader) (N := 5) hx hb hts hin_Reader hown hK hP 0 rfl rfl 2 (by decide) fl_31 (fun _ h9 => h9) rfl d_Reader_readRising_63 ?_
            refine lv_iconst (v := (1 : Int32)) hx hb d_Reader_readRising_66 (by decide) ?_
            refine lv_iadd hx hb d_Reader_readRising_67 ?_
            refine va_put (D := (dC, dI)) (ci := 1) (v := .int (rd.2.2.1 + (1 : Int32))) (ty := .int) (C := "HazardTables$Reader") (T := F_Reader) (N := 5) hx hb hts hin_Reader t_Reader t_Reader_ok n_Reader hown hK hP hD hS 0 rfl rfl 2 (by decide) fl_31 (fun _ h9 => h9) rfl (by decide +kernel) rfl rfl (Nat.le_of_ble_eq_true rfl) d_Reader_readRising_68 (fun H locs hP hD hS => ?_)
            have hP : va_P (dC, dI) vwCl (uw_Reader ad_rd cA_rd (rd.1, rd.2.1, rd.2.2.1 + (1 : Int32), rd.2.2.2.1 ||| ((1 : Int32) <<< ((y7 - y4) &&& 31)), rd.2.2.2.2)) H := hP
            have hD : va_D A (uw_Reader ad_rd cA_rd (rd.1, rd.2.1, rd.2.2.1 + (1 : Int32), rd.2.2.2.1 ||| ((1 : Int32) <<< ((y7 - y4) &&& 31)), rd.2.2.2.2)) := hD
            refine lv_aload_n hx hb d_Reader_readRising_71 rfl (lv_at hl 2 rfl) ?_
            obtain ⟨u5, hu5, hf⟩ := Option.bind_eq_some_iff.mp hf
            refine cl_i (wc := (uw_Reader ad_rd cA_rd (rd.1, rd.2.1, rd.2.2.1 + (1 : Int32), rd.2.2.2.1 ||| ((1 : Int32) <<< ((y7 - y4) &&& 31)), rd.2.2.2.2))) (wr := []) (tysC := [(cA_rd 1, .int)]) (wu := fun (u : SReader) => (uw_Reader ad_rd cA_rd u)) (wn := fun (u : SReader) => (uw_Reader ad_rd cA_rd u)) [0, 1] [] [0, 1] [0] hP hD hS hA hK rfl rfl (by decide +kernel) (by decide +kernel) (by decide +kernel) rfl (fun _ => rfl) (by decide +kernel) (fun hPc hKc hDc => (va_runV (As := []) (rest := []) ⟨hx, hb, hml, hown, hts⟩ (k_Reader_peek l dC dI ad_rd cA_rd H.size (rd.1, rd.2.1, rd.2.2.1 + (1 : Int32), rd.2.2.2.1 ||| ((1 : Int32) <<< ((y7 - y4) &&& 31)), rd.2.2.2.2) u5 hu5) (cwV 0 hts (gV wd_358 wd_360 wd_1 wd_44 wd_361) rfl rfl rfl (by decide +kernel) ⟨Nat.le_of_ble_eq_true rfl, Nat.le_of_ble_eq_true rfl⟩) (cl_preV hPc hKc hDc hN (ci := 1) 0 rfl rfl) rfl rfl hl.1 rfl (lv_room (Nat.le_of_ble_eq_true rfl)) d_Reader_readRising_72 ⟨Nat.le_of_ble_eq_true rfl, Nat.le_of_ble_eq_true rfl⟩)) (fun r u H locs hw hP hD hS => ?_)
            obtain ⟨hw1, hw2⟩ := hw
            have hw1 := hw1.symm
            have hw2 := hw2.symm
            subst hw1
            subst hw2
            have hP : va_P (dC, dI) vwCl (uw_Reader ad_rd cA_rd u5.2) H := hP
            have hD : va_D A (uw_Reader ad_rd cA_rd u5.2) := hD
            refine lv_istore (lv' := [(7, .int u5.1), (6, .int (y6 + (1 : Int32))), (5, .int (y7 + (1 : Int32))), (0, .ref (ad_rd 0)), (2, .int y2), (3, .int y3), (4, .int y4)]) hx hb d_Reader_readRising_75 hl (by decide) rfl (fun ls hl => ?_)
            refine lv_goto (tgt := 17) hx hb d_Reader_readRising_77 (by decide) ?_
            exact ih u5.2 y2 y3 y4 (y7 + (1 : Int32)) (y6 + (1 : Int32)) u5.1 H locs ls hf hP hD hS (lv_sub hl [3, 4, 5, 6, 2, 1, 0] rfl)
  have hl := lv_entry ([.ref (ad_rd 0), .int x1, .int x2, .int x3, .int x4]) (n := 8) (Nat.le_of_ble_eq_true rfl)
  rw [lg_entry_eq]
  generalize (lg_sl ([.ref (ad_rd 0), .int x1, .int x2, .int x3, .int x4]) ++ List.replicate (8 - (lg_sl ([.ref (ad_rd 0), .int x1, .int x2, .int x3, .int x4])).length) Slot.unset).toArray = ls at hl ⊢
  have hl : lv_has ls 8 [(0, .ref (ad_rd 0)), (1, .int x1), (2, .int x2), (3, .int x3), (4, .int x4)] := hl
  have hf := hf
  rw [f_Reader_readRising] at hf
  obtain ⟨H, hH⟩ : ∃ H : Heap, H = s.heap := ⟨_, rfl⟩
  obtain ⟨locs, hlocs⟩ : ∃ L : List Loc, L = [] := ⟨_, rfl⟩
  have hP : va_P (dC, dI) vwCl (uw_Reader ad_rd cA_rd rd) H := by rw [hH]; exact hP
  have hS : va_S A s.heap H locs := by rw [hH, hlocs]; exact hS
  show W p l e (headSpec w_Reader_readRising ({ frames := 1, cells := 0, slots := 0, locals := 21 })).room s m ([.ref (ad_rd 0), .int x1, .int x2, .int x3, .int x4] : List Value).toArray below meth c s.heap [] 0 0 Q (F0 m 0 ls [])
  suffices hgo : W p l e (headSpec w_Reader_readRising ({ frames := 1, cells := 0, slots := 0, locals := 21 })).room s m ([.ref (ad_rd 0), .int x1, .int x2, .int x3, .int x4] : List Value).toArray below meth c H locs 0 0 Q (F0 m 0 ls []) by rw [hH, hlocs] at hgo; exact hgo
  clear hH hlocs
  refine lv_aload_n hx hb d_Reader_readRising_0 rfl (lv_at hl 0 rfl) ?_
  refine lv_iconst (v := (0 : Int32)) hx hb d_Reader_readRising_1 (by decide) ?_
  refine va_put (D := (dC, dI)) (ci := 1) (v := .int (0 : Int32)) (ty := .int) (C := "HazardTables$Reader") (T := F_Reader) (N := 5) hx hb hts hin_Reader t_Reader t_Reader_ok n_Reader hown hK hP hD hS 0 rfl rfl 3 (by decide) fl_83 (fun _ h9 => h9) rfl (by decide +kernel) rfl rfl (Nat.le_of_ble_eq_true rfl) d_Reader_readRising_2 (fun H locs hP hD hS => ?_)
  have hP : va_P (dC, dI) vwCl (uw_Reader ad_rd cA_rd (rd.1, rd.2.1, rd.2.2.1, (0 : Int32), rd.2.2.2.2)) H := hP
  have hD : va_D A (uw_Reader ad_rd cA_rd (rd.1, rd.2.1, rd.2.2.1, (0 : Int32), rd.2.2.2.2)) := hD
  refine lv_iload_n hx hb d_Reader_readRising_5 rfl (lv_at hl 1 rfl) ?_
  refine lv_istore (lv' := [(5, .int x1), (0, .ref (ad_rd 0)), (1, .int x1), (2, .int x2), (3, .int x3), (4, .int x4)]) hx hb d_Reader_readRising_6 hl (by decide) rfl (fun ls hl => ?_)
  refine lv_iconst (v := (0 : Int32)) hx hb d_Reader_readRising_8 (by decide) ?_
  refine lv_istore (lv' := [(6, .int (0 : Int32)), (5, .int x1), (0, .ref (ad_rd 0)), (1, .int x1), (2, .int x2), (3, .int x3), (4, .int x4)]) hx hb d_Reader_readRising_9 hl (by decide) rfl (fun ls hl => ?_)
  refine lv_aload_n hx hb d_Reader_readRising_11 rfl (lv_at hl 2 rfl) ?_
  obtain ⟨u1, hu1, hf⟩ := Option.bind_eq_some_iff.mp hf
  refine cl_i (wc := (uw_Reader ad_rd cA_rd (rd.1, rd.2.1, rd.2.2.1, (0 : Int32), rd.2.2.2.2))) (wr := []) (tysC := [(cA_rd 1, .int)]) (wu := fun (u : SReader) => (uw_Reader ad_rd cA_rd u)) (wn := fun (u : SReader) => (uw_Reader ad_rd cA_rd u)) [0, 1] [] [0, 1] [0] hP hD hS hA hK rfl rfl (by decide +kernel) (by decide +kernel) (by decide +kernel) rfl (fun _ => rfl) (by decide +kernel) (fun hPc hKc hDc => (va_runV (As := []) (rest := []) ⟨hx, hb, hml, hown, hts⟩ (k_Reader_peek l dC dI ad_rd cA_rd H.size (rd.1, rd.2.1, rd.2.2.1, (0 : Int32), rd.2.2.2.2) u1 hu1) (cwV 0 hts (gV wd_358 wd_360 wd_1 wd_44 wd_361) rfl rfl rfl (by decide +kernel) ⟨Nat.le_of_ble_eq_true rfl, Nat.le_of_ble_eq_true rfl⟩) (cl_preV hPc hKc hDc hN (ci := 1) 0 rfl rfl) rfl rfl hl.1 rfl (lv_room (Nat.le_of_ble_eq_true rfl)) d_Reader_readRising_12 ⟨Nat.le_of_ble_eq_true rfl, Nat.le_of_ble_eq_true rfl⟩)) (fun r u H locs hw hP hD hS => ?_)
  obtain ⟨hw1, hw2⟩ := hw
  have hw1 := hw1.symm
  have hw2 := hw2.symm
  subst hw1
  subst hw2
  have hP : va_P (dC, dI) vwCl (uw_Reader ad_rd cA_rd u1.2) H := hP
  have hD : va_D A (uw_Reader ad_rd cA_rd u1.2) := hD
  refine lv_istore (lv' := [(7, .int u1.1), (6, .int (0 : Int32)), (5, .int x1), (0, .ref (ad_rd 0)), (1, .int x1), (2, .int x2), (3, .int x3), (4, .int x4)]) hx hb d_Reader_readRising_15 hl (by decide) rfl (fun ls hl => ?_)
  exact w_17 4096 u1.2 x2 x3 x4 x1 (0 : Int32) u1.1 H locs ls hf hP hD hS (lv_sub hl [3, 5, 6, 7, 2, 1, 0] rfl)
noncomputable def f_Reader_readDue_85 (k_68 : SReader → STable → Int32 → Int32 → Option (Bool × SReader × STable)) (rd : SReader) (tb : STable) (y2 : Int32) (y3 : Int32) (z1 : Int32) : Option (Bool × SReader × STable) :=
  (Option.bind (f_Reader_take rd z1) fun u13 =>
    (if (bI u13.1) = 0 then
      (some (false, u13.2, tb))
     else
      (Option.bind (f_Reader_readNumber u13.2 (0 : Int32) (9999 : Int32)) fun u15 =>
        (if (bI u15.1) = 0 then
          (some (false, u15.2, tb))
         else
          (Option.bind (f_Table_setCell tb y2 ((3 : Int32) + y3) u15.2.2.2.2.1) fun u17 =>
            (k_68 u15.2 u17 y2 (y3 + (1 : Int32)))
           )
         )
       )
     )
   )
noncomputable def f_Reader_readDue_68  : Nat → SReader → STable → Int32 → Int32 → Option (Bool × SReader × STable)
  | 0, _, _, _, _ => none
  | n + 1, rd, tb, y2, y3 =>
    (if (4 : Int32) ≤ y3 then
      (some (true, rd, tb))
     else
      (if y3 = 0 then
        (f_Reader_readDue_85 (f_Reader_readDue_68 n) rd tb y2 y3 (64 : Int32))
       else
        (f_Reader_readDue_85 (f_Reader_readDue_68 n) rd tb y2 y3 (44 : Int32))
       )
     )
noncomputable def f_Reader_readDue (rd : SReader) (tb : STable) (x2 : Int32) : Option (Bool × SReader × STable) :=
  (Option.bind (f_Reader_take rd (114 : Int32)) fun u1 =>
    (if (bI u1.1) = 0 then
      (some (false, u1.2, tb))
     else
      (Option.bind (f_Reader_readNumber u1.2 (0 : Int32) (9 : Int32)) fun u3 =>
        (if (bI u3.1) = 0 then
          (some (false, u3.2, tb))
         else
          (Option.bind (f_Table_setCell tb x2 (1 : Int32) u3.2.2.2.2.1) fun u5 =>
            (Option.bind (f_Reader_take u3.2 (103 : Int32)) fun u6 =>
              (if (bI u6.1) = 0 then
                (some (false, u6.2, u5))
               else
                (Option.bind (f_Reader_readRising u6.2 (97 : Int32) (104 : Int32) (4 : Int32) (97 : Int32)) fun u8 =>
                  (if (bI u8.1) = 0 then
                    (some (false, u8.2, u5))
                   else
                    (Option.bind (f_Table_setCell u5 x2 (2 : Int32) u8.2.2.2.2.1) fun u10 =>
                      (f_Reader_readDue_68 4096 u8.2 u10 x2 (0 : Int32))
                     )
                   )
                 )
               )
             )
           )
         )
       )
     )
   )
set_option maxHeartbeats 4000000 in
set_option maxRecDepth 100000 in
theorem k_Reader_readDue (l : Launch) (dC : Nat → ClassId) (dI : Nat → Nat → Nat) (ad_rd : Nat → Nat) (cA_rd : Nat → ClassId) (ad_tb : Nat → Nat) (cA_tb : Nat → ClassId) (sz : Nat) (rd : SReader) (tb : STable) (x2 : Int32) (res : Bool × SReader × STable) (hf : f_Reader_readDue rd tb x2 = some res) : Met l y_Reader_readDue w_Reader_readDue ({ frames := 2, cells := 0, slots := 0, locals := 48 }) (cPc (dC, dI) (uw_Reader ad_rd cA_rd rd ++ (uw_Table ad_tb cA_tb tb)) [(cA_rd 1, .int), (cA_tb 1, .int), (cA_tb 2, .int), (cA_tb 3, .int), (cA_tb 4, .byte)] sz [.ref (ad_rd 0), .ref (ad_tb 0), .int x2]) (va_Qi (fun (r : Int32) (u : SReader × STable) => r = bI res.1 ∧ u = res.2) (fun (u : SReader × STable) (t : State) => va_P (dC, dI) vwCl (uw_Reader ad_rd cA_rd u.1 ++ (uw_Table ad_tb cA_tb u.2)) t.heap ∧ va_K (dC, dI) vwCl [(cA_rd 1, .int), (cA_tb 1, .int), (cA_tb 2, .int), (cA_tb 3, .int), (cA_tb 4, .byte)] t ∧ va_D (va_A (uw_Reader ad_rd cA_rd rd ++ (uw_Table ad_tb cA_tb tb)) sz) (uw_Reader ad_rd cA_rd u.1 ++ (uw_Table ad_tb cA_tb u.2))) (va_A (uw_Reader ad_rd cA_rd rd ++ (uw_Table ad_tb cA_tb tb)) sz)) 0 0 (va_A (uw_Reader ad_rd cA_rd rd ++ (uw_Table ad_tb cA_tb tb)) sz) := by
  refine Met.ofW (cc := b_Reader_readDue) (maxL := 4) (ret := (some .boolean)) (by decide) rfl ?_
  intro p e s m args below meth c s₁ B hml hv
  obtain ⟨rfl, hsz, hP, hK, hD0, hN⟩ := hv
  have hx := B.exec
  have hb := B.bytes
  have hr := B.returns
  have hts := atoms_spec (ws := w_Reader_readDue) B.pre
  have hown : s.vm.findClass "HazardTables$Reader" = some m.cls := findClass_of_methodNamed B.named
  have hlocks := B.notSynchronized
  subst hsz
  have hD := hD0.self (sz := s.heap.size)
  generalize hAe : va_A (uw_Reader ad_rd cA_rd rd ++ (uw_Table ad_tb cA_tb tb)) s.heap.size = A at hD ⊢
  have hA : ∀ q : Nat, s.heap.size ≤ q → A q := fun q h => by rw [← hAe]; exact Or.inr h
  have hS : va_S A s.heap s.heap [] := va_S.rf
  have hP : va_P (dC, dI) vwCl (uw_Reader ad_rd cA_rd rd ++ (uw_Table ad_tb cA_tb tb)) s.heap := hP
  have fl_83 := (hts _ (List.mem_cons_of_mem _ wd_75))
  have hin_Reader : ∀ w ∈ u_ws "HazardTables$Reader" F_Reader 5, w ∈ w_Reader_readDue := fun w h => List.mem_cons_of_mem _ (hinA_Reader w h)
  have ret : ∀ (v : Bool) (u : SReader × STable) (H : Heap) (locs : List Loc) (ls : Array Slot) (pc : Nat), decode b_Reader_readDue pc = .ok (.ireturn, 1) → (v = res.1 ∧ u = res.2) → va_P (dC, dI) vwCl (uw_Reader ad_rd cA_rd u.1 ++ (uw_Table ad_tb cA_tb u.2)) H → va_D A (uw_Reader ad_rd cA_rd u.1 ++ (uw_Table ad_tb cA_tb u.2)) → va_S A s.heap H locs → W p l e (headSpec w_Reader_readDue ({ frames := 2, cells := 0, slots := 0, locals := 48 })).room s m ([.ref (ad_rd 0), .ref (ad_tb 0), .int x2] : List Value).toArray below meth c H locs 0 0 (MQ below (va_Qi (fun (r : Int32) (u : SReader × STable) => r = bI res.1 ∧ u = res.2) (fun (u : SReader × STable) (t : State) => va_P (dC, dI) vwCl (uw_Reader ad_rd cA_rd u.1 ++ (uw_Table ad_tb cA_tb u.2)) t.heap ∧ va_K (dC, dI) vwCl [(cA_rd 1, .int), (cA_tb 1, .int), (cA_tb 2, .int), (cA_tb 3, .int), (cA_tb 4, .byte)] t ∧ va_D A (uw_Reader ad_rd cA_rd u.1 ++ (uw_Table ad_tb cA_tb u.2))) A) ([.ref (ad_rd 0), .ref (ad_tb 0), .int x2] : List Value).toArray s 0 0 A) (F0 m pc ls [.int (bI v)]) := fun v u H locs ls pc hd hp hP hD hS => W.zret (v := bI v) (ty := .boolean) hx hb hr (nar_bI v) (fun t ht hW => ⟨⟨bI v, u, rfl, ⟨by rw [hp.1], hp.2⟩, by rw [ht]; exact hP, va_K.moved hW.alike hK, hD⟩, hS.F ht⟩) hS.2.2 hd
  generalize (MQ below (va_Qi (fun (r : Int32) (u : SReader × STable) => r = bI res.1 ∧ u = res.2) (fun (u : SReader × STable) (t : State) => va_P (dC, dI) vwCl (uw_Reader ad_rd cA_rd u.1 ++ (uw_Table ad_tb cA_tb u.2)) t.heap ∧ va_K (dC, dI) vwCl [(cA_rd 1, .int), (cA_tb 1, .int), (cA_tb 2, .int), (cA_tb 3, .int), (cA_tb 4, .byte)] t ∧ va_D A (uw_Reader ad_rd cA_rd u.1 ++ (uw_Table ad_tb cA_tb u.2))) A) ([.ref (ad_rd 0), .ref (ad_tb 0), .int x2] : List Value).toArray s 0 0 A) = Q at ret ⊢
  have w_85 : ∀ (k_68 : SReader → STable → Int32 → Int32 → Option (Bool × SReader × STable)), (∀ (rd : SReader) (tb : STable) (y2 : Int32) (y3 : Int32) (H : Heap) (locs : List Loc) (ls : Array Slot), k_68 rd tb y2 y3 = some res → va_P (dC, dI) vwCl (uw_Reader ad_rd cA_rd rd ++ (uw_Table ad_tb cA_tb tb)) H → va_D A (uw_Reader ad_rd cA_rd rd ++ (uw_Table ad_tb cA_tb tb)) → va_S A s.heap H locs → lv_has ls 4 [(0, .ref (ad_rd 0)), (1, .ref (ad_tb 0)), (2, .int y2), (3, .int y3)] → W p l e (headSpec w_Reader_readDue ({ frames := 2, cells := 0, slots := 0, locals := 48 })).room s m ([.ref (ad_rd 0), .ref (ad_tb 0), .int x2] : List Value).toArray below meth c H locs 0 0 Q (F0 m 68 ls [])) → ∀ (rd : SReader) (tb : STable) (y2 : Int32) (y3 : Int32) (z1 : Int32) (H : Heap) (locs : List Loc) (ls : Array Slot), f_Reader_readDue_85 k_68 rd tb y2 y3 z1 = some res → va_P (dC, dI) vwCl (uw_Reader ad_rd cA_rd rd ++ (uw_Table ad_tb cA_tb tb)) H → va_D A (uw_Reader ad_rd cA_rd rd ++ (uw_Table ad_tb cA_tb tb)) → va_S A s.heap H locs → lv_has ls 4 [(0, .ref (ad_rd 0)), (1, .ref (ad_tb 0)), (2, .int y2), (3, .int y3)] → W p l e (headSpec w_Reader_readDue ({ frames := 2, cells := 0, slots := 0, locals := 48 })).room s m ([.ref (ad_rd 0), .ref (ad_tb 0), .int x2] : List Value).toArray below meth c H locs 0 0 Q (F0 m 85 ls [.int z1, .ref (ad_rd 0)]) := by
    intro k_68 hk_68
    intro rd tb y2 y3 z1 H locs ls hf hP hD hS hl
    rw [f_Reader_readDue_85] at hf
    obtain ⟨u13, hu13, hf⟩ := Option.bind_eq_some_iff.mp hf
    refine cl_i (wc := (uw_Reader ad_rd cA_rd rd)) (wr := (uw_Table ad_tb cA_tb tb)) (tysC := [(cA_rd 1, .int)]) (wu := fun (u : SReader) => (uw_Reader ad_rd cA_rd u)) (wn := fun (u : SReader) => (uw_Reader ad_rd cA_rd u ++ (uw_Table ad_tb cA_tb tb))) [0, 1] [2, 3, 4, 5, 6] [5, 6, 0, 1, 2, 3, 4] [0] hP hD hS hA hK rfl rfl (by decide +kernel) (by decide +kernel) (by decide +kernel) rfl (fun _ => rfl) (by decide +kernel) (fun hPc hKc hDc => (va_runV (As := [.int z1]) (rest := []) ⟨hx, hb, hml, hown, hts⟩ (k_Reader_take l dC dI ad_rd cA_rd H.size rd z1 u13 hu13) (cwV 1 hts (gV wd_406 wd_408 wd_9 wd_44 wd_409) rfl rfl rfl (by decide +kernel) ⟨Nat.le_of_ble_eq_true rfl, Nat.le_of_ble_eq_true rfl⟩) (cl_preV hPc hKc hDc hN (ci := 1) 0 rfl rfl) rfl rfl hl.1 rfl (lv_room (Nat.le_of_ble_eq_true rfl)) d_Reader_readDue_85 ⟨Nat.le_of_ble_eq_true rfl, Nat.le_of_ble_eq_true rfl⟩)) (fun r u H locs hw hP hD hS => ?_)
    obtain ⟨hw1, hw2⟩ := hw
    have hw1 := hw1.symm
    have hw2 := hw2.symm
    subst hw1
    subst hw2
    have hP : va_P (dC, dI) vwCl (uw_Reader ad_rd cA_rd u13.2 ++ (uw_Table ad_tb cA_tb tb)) H := hP
    have hD : va_D A (uw_Reader ad_rd cA_rd u13.2 ++ (uw_Table ad_tb cA_tb tb)) := hD
    refine lv_if_eq (tgt := 102) hx hb d_Reader_readDue_88 (by decide) (fun hc14 => ?_) (fun hc14 => ?_)
    · have hf := hf_t hf hc14
      refine lv_iconst (v := (0 : Int32)) hx hb d_Reader_readDue_102 (by decide) ?_
      exact ret false (u13.2, tb) H locs ls 103 d_Reader_readDue_103 (hf_e hf) hP hD hS
    · have hf := hf_f hf hc14
      refine lv_aload_n hx hb d_Reader_readDue_91 rfl (lv_at hl 0 rfl) ?_
      refine lv_iconst (v := (0 : Int32)) hx hb d_Reader_readDue_92 (by decide) ?_
      refine lv_sipush (v := (9999 : Int32)) hx hb d_Reader_readDue_93 (by decide) ?_
      obtain ⟨u15, hu15, hf⟩ := Option.bind_eq_some_iff.mp hf
      refine cl_i (wc := (uw_Reader ad_rd cA_rd u13.2)) (wr := (uw_Table ad_tb cA_tb tb)) (tysC := [(cA_rd 1, .int)]) (wu := fun (u : SReader) => (uw_Reader ad_rd cA_rd u)) (wn := fun (u : SReader) => (uw_Reader ad_rd cA_rd u ++ (uw_Table ad_tb cA_tb tb))) [0, 1] [2, 3, 4, 5, 6] [5, 6, 0, 1, 2, 3, 4] [0] hP hD hS hA hK rfl rfl (by decide +kernel) (by decide +kernel) (by decide +kernel) rfl (fun _ => rfl) (by decide +kernel) (fun hPc hKc hDc => (va_runV (As := [.int (0 : Int32), .int (9999 : Int32)]) (rest := []) ⟨hx, hb, hml, hown, hts⟩ (k_Reader_readNumber l dC dI ad_rd cA_rd H.size u13.2 (0 : Int32) (9999 : Int32) u15 hu15) (cwV 2 hts (gV wd_378 wd_380 wd_5 wd_44 wd_381) rfl rfl rfl (by decide +kernel) ⟨Nat.le_of_ble_eq_true rfl, Nat.le_of_ble_eq_true rfl⟩) (cl_preV hPc hKc hDc hN (ci := 1) 0 rfl rfl) rfl rfl hl.1 rfl (lv_room (Nat.le_of_ble_eq_true rfl)) d_Reader_readDue_96 ⟨Nat.le_of_ble_eq_true rfl, Nat.le_of_ble_eq_true rfl⟩)) (fun r u H locs hw hP hD hS => ?_)
      obtain ⟨hw1, hw2⟩ := hw
      have hw1 := hw1.symm
      have hw2 := hw2.symm
      subst hw1
      subst hw2
      have hP : va_P (dC, dI) vwCl (uw_Reader ad_rd cA_rd u15.2 ++ (uw_Table ad_tb cA_tb tb)) H := hP
      have hD : va_D A (uw_Reader ad_rd cA_rd u15.2 ++ (uw_Table ad_tb cA_tb tb)) := hD
      refine lv_if_ne (tgt := 104) hx hb d_Reader_readDue_99 (by decide) (fun hc16 => ?_) (fun hc16 => ?_)
      · have hf := hf_f hf hc16
        refine lv_aload_n hx hb d_Reader_readDue_104 rfl (lv_at hl 1 rfl) ?_
        refine lv_iload_n hx hb d_Reader_readDue_105 rfl (lv_at hl 2 rfl) ?_
        refine lv_iconst (v := (3 : Int32)) hx hb d_Reader_readDue_106 (by decide) ?_
        refine lv_iload_n hx hb d_Reader_readDue_107 rfl (lv_at hl 3 rfl) ?_
        refine lv_iadd hx hb d_Reader_readDue_108 ?_
        refine lv_aload_n hx hb d_Reader_readDue_109 rfl (lv_at hl 0 rfl) ?_
        refine va_get (D := (dC, dI)) (ci := 1) (v := .int u15.2.2.2.2.1) (C := "HazardTables$Reader") (T := F_Reader) (N := 5) hx hb hts hin_Reader hown hK hP 0 rfl rfl 3 (by decide) fl_83 (fun _ h9 => h9) rfl d_Reader_readDue_110 ?_
        obtain ⟨u17, hu17, hf⟩ := Option.bind_eq_some_iff.mp hf
        refine cl_v (wc := (uw_Table ad_tb cA_tb tb)) (wr := (uw_Reader ad_rd cA_rd u15.2)) (tysC := [(cA_tb 1, .int), (cA_tb 2, .int), (cA_tb 3, .int), (cA_tb 4, .byte)]) (wu := fun (u : STable) => (uw_Table ad_tb cA_tb u)) (wn := fun (u : STable) => (uw_Reader ad_rd cA_rd u15.2 ++ (uw_Table ad_tb cA_tb u))) [2, 3, 4, 5, 6] [0, 1] [0, 1, 2, 3, 4, 5, 6] [1, 2, 3, 4] hP hD hS hA hK rfl rfl (by decide +kernel) (by decide +kernel) (by decide +kernel) rfl (fun _ => rfl) (by decide +kernel) (fun hPc hKc hDc => (va_runV (As := [.int y2, .int ((3 : Int32) + y3), .int u15.2.2.2.2.1]) (rest := []) ⟨hx, hb, hml, hown, hts⟩ (k_Table_setCell l dC dI ad_tb cA_tb H.size tb y2 ((3 : Int32) + y3) u15.2.2.2.2.1 u17 hu17) (cwV 3 hts (gV wd_429 wd_422 wd_423 wd_48 wd_424) rfl rfl rfl (by decide +kernel) ⟨Nat.le_of_ble_eq_true rfl, Nat.le_of_ble_eq_true rfl⟩) (cl_preV hPc hKc hDc hN (ci := 4) 0 rfl rfl) rfl rfl hl.1 rfl (lv_room (Nat.le_of_ble_eq_true rfl)) d_Reader_readDue_113 ⟨Nat.le_of_ble_eq_true rfl, Nat.le_of_ble_eq_true rfl⟩)) (fun u H locs hw hP hD hS => ?_)
        have hw := hw.symm
        subst hw
        have hP : va_P (dC, dI) vwCl (uw_Reader ad_rd cA_rd u15.2 ++ (uw_Table ad_tb cA_tb u17)) H := hP
        have hD : va_D A (uw_Reader ad_rd cA_rd u15.2 ++ (uw_Table ad_tb cA_tb u17)) := hD
        refine lv_iinc (v := y3 + (1 : Int32)) (lv' := [(3, .int (y3 + (1 : Int32))), (0, .ref (ad_rd 0)), (1, .ref (ad_tb 0)), (2, .int y2)]) hx hb d_Reader_readDue_116 hl (k := 3) rfl rfl (by decide) rfl (fun ls hl => ?_)
        refine lv_goto (tgt := 68) hx hb d_Reader_readDue_119 (by decide) ?_
        exact hk_68 u15.2 u17 y2 (y3 + (1 : Int32)) H locs ls hf hP hD hS (lv_sub hl [1, 2, 3, 0] rfl)
      · have hf := hf_t hf hc16
        refine lv_iconst (v := (0 : Int32)) hx hb d_Reader_readDue_102 (by decide) ?_
        exact ret false (u15.2, tb) H locs ls 103 d_Reader_readDue_103 (hf_e hf) hP hD hS
  have w_68 : ∀ (n : Nat) (rd : SReader) (tb : STable) (y2 : Int32) (y3 : Int32) (H : Heap) (locs : List Loc) (ls : Array Slot), f_Reader_readDue_68 n rd tb y2 y3 = some res → va_P (dC, dI) vwCl (uw_Reader ad_rd cA_rd rd ++ (uw_Table ad_tb cA_tb tb)) H → va_D A (uw_Reader ad_rd cA_rd rd ++ (uw_Table ad_tb cA_tb tb)) → va_S A s.heap H locs → lv_has ls 4 [(0, .ref (ad_rd 0)), (1, .ref (ad_tb 0)), (2, .int y2), (3, .int y3)] → W p l e (headSpec w_Reader_readDue ({ frames := 2, cells := 0, slots := 0, locals := 48 })).room s m ([.ref (ad_rd 0), .ref (ad_tb 0), .int x2] : List Value).toArray below meth c H locs 0 0 Q (F0 m 68 ls []) := by
    intro n
    induction n with
    | zero =>
      intro rd tb y2 y3 H locs ls hf hP hD hS hl
      rw [f_Reader_readDue_68] at hf; cases hf
    | succ n ih =>
      intro rd tb y2 y3 H locs ls hf hP hD hS hl
      rw [f_Reader_readDue_68] at hf
      refine lv_iload_n hx hb d_Reader_readDue_68 rfl (lv_at hl 3 rfl) ?_
      refine lv_iconst (v := (4 : Int32)) hx hb d_Reader_readDue_69 (by decide) ?_
      refine lv_icmp_ge (tgt := 122) hx hb d_Reader_readDue_70 (by decide) (fun hc11 => ?_) (fun hc11 => ?_)
      · have hf := hf_t hf hc11
        refine lv_iconst (v := (1 : Int32)) hx hb d_Reader_readDue_122 (by decide) ?_
        exact ret true (rd, tb) H locs ls 123 d_Reader_readDue_123 (hf_e hf) hP hD hS
      · have hf := hf_f hf hc11
        refine lv_aload_n hx hb d_Reader_readDue_73 rfl (lv_at hl 0 rfl) ?_
        refine lv_iload_n hx hb d_Reader_readDue_74 rfl (lv_at hl 3 rfl) ?_
        refine lv_if_ne (tgt := 83) hx hb d_Reader_readDue_75 (by decide) (fun hc12 => ?_) (fun hc12 => ?_)
        · have hf := hf_f hf hc12
          refine lv_bipush (v := (44 : Int32)) hx hb d_Reader_readDue_83 (by decide) ?_
          exact w_85 (f_Reader_readDue_68 n) ih rd tb y2 y3 (44 : Int32) H locs ls hf hP hD hS (lv_sub hl [0, 1, 2, 3] rfl)
        · have hf := hf_t hf hc12
          refine lv_bipush (v := (64 : Int32)) hx hb d_Reader_readDue_78 (by decide) ?_
          refine lv_goto (tgt := 85) hx hb d_Reader_readDue_80 (by decide) ?_
          exact w_85 (f_Reader_readDue_68 n) ih rd tb y2 y3 (64 : Int32) H locs ls hf hP hD hS (lv_sub hl [0, 1, 2, 3] rfl)
  have hl := lv_entry ([.ref (ad_rd 0), .ref (ad_tb 0), .int x2]) (n := 4) (Nat.le_of_ble_eq_true rfl)
  rw [lg_entry_eq]
  generalize (lg_sl ([.ref (ad_rd 0), .ref (ad_tb 0), .int x2]) ++ List.replicate (4 - (lg_sl ([.ref (ad_rd 0), .ref (ad_tb 0), .int x2])).length) Slot.unset).toArray = ls at hl ⊢
  have hl : lv_has ls 4 [(0, .ref (ad_rd 0)), (1, .ref (ad_tb 0)), (2, .int x2)] := hl
  have hf := hf
  rw [f_Reader_readDue] at hf
  obtain ⟨H, hH⟩ : ∃ H : Heap, H = s.heap := ⟨_, rfl⟩
  obtain ⟨locs, hlocs⟩ : ∃ L : List Loc, L = [] := ⟨_, rfl⟩
  have hP : va_P (dC, dI) vwCl (uw_Reader ad_rd cA_rd rd ++ (uw_Table ad_tb cA_tb tb)) H := by rw [hH]; exact hP
  have hS : va_S A s.heap H locs := by rw [hH, hlocs]; exact hS
  show W p l e (headSpec w_Reader_readDue ({ frames := 2, cells := 0, slots := 0, locals := 48 })).room s m ([.ref (ad_rd 0), .ref (ad_tb 0), .int x2] : List Value).toArray below meth c s.heap [] 0 0 Q (F0 m 0 ls [])
  suffices hgo : W p l e (headSpec w_Reader_readDue ({ frames := 2, cells := 0, slots := 0, locals := 48 })).room s m ([.ref (ad_rd 0), .ref (ad_tb 0), .int x2] : List Value).toArray below meth c H locs 0 0 Q (F0 m 0 ls []) by rw [hH, hlocs] at hgo; exact hgo
  clear hH hlocs
  refine lv_aload_n hx hb d_Reader_readDue_0 rfl (lv_at hl 0 rfl) ?_
  refine lv_bipush (v := (114 : Int32)) hx hb d_Reader_readDue_1 (by decide) ?_
  obtain ⟨u1, hu1, hf⟩ := Option.bind_eq_some_iff.mp hf
  refine cl_i (wc := (uw_Reader ad_rd cA_rd rd)) (wr := (uw_Table ad_tb cA_tb tb)) (tysC := [(cA_rd 1, .int)]) (wu := fun (u : SReader) => (uw_Reader ad_rd cA_rd u)) (wn := fun (u : SReader) => (uw_Reader ad_rd cA_rd u ++ (uw_Table ad_tb cA_tb tb))) [0, 1] [2, 3, 4, 5, 6] [5, 6, 0, 1, 2, 3, 4] [0] hP hD hS hA hK rfl rfl (by decide +kernel) (by decide +kernel) (by decide +kernel) rfl (fun _ => rfl) (by decide +kernel) (fun hPc hKc hDc => (va_runV (As := [.int (114 : Int32)]) (rest := []) ⟨hx, hb, hml, hown, hts⟩ (k_Reader_take l dC dI ad_rd cA_rd H.size rd (114 : Int32) u1 hu1) (cwV 1 hts (gV wd_406 wd_408 wd_9 wd_44 wd_409) rfl rfl rfl (by decide +kernel) ⟨Nat.le_of_ble_eq_true rfl, Nat.le_of_ble_eq_true rfl⟩) (cl_preV hPc hKc hDc hN (ci := 1) 0 rfl rfl) rfl rfl hl.1 rfl (lv_room (Nat.le_of_ble_eq_true rfl)) d_Reader_readDue_3 ⟨Nat.le_of_ble_eq_true rfl, Nat.le_of_ble_eq_true rfl⟩)) (fun r u H locs hw hP hD hS => ?_)
  obtain ⟨hw1, hw2⟩ := hw
  have hw1 := hw1.symm
  have hw2 := hw2.symm
  subst hw1
  subst hw2
  have hP : va_P (dC, dI) vwCl (uw_Reader ad_rd cA_rd u1.2 ++ (uw_Table ad_tb cA_tb tb)) H := hP
  have hD : va_D A (uw_Reader ad_rd cA_rd u1.2 ++ (uw_Table ad_tb cA_tb tb)) := hD
  refine lv_if_eq (tgt := 19) hx hb d_Reader_readDue_6 (by decide) (fun hc2 => ?_) (fun hc2 => ?_)
  · have hf := hf_t hf hc2
    refine lv_iconst (v := (0 : Int32)) hx hb d_Reader_readDue_19 (by decide) ?_
    exact ret false (u1.2, tb) H locs ls 20 d_Reader_readDue_20 (hf_e hf) hP hD hS
  · have hf := hf_f hf hc2
    refine lv_aload_n hx hb d_Reader_readDue_9 rfl (lv_at hl 0 rfl) ?_
    refine lv_iconst (v := (0 : Int32)) hx hb d_Reader_readDue_10 (by decide) ?_
    refine lv_bipush (v := (9 : Int32)) hx hb d_Reader_readDue_11 (by decide) ?_
    obtain ⟨u3, hu3, hf⟩ := Option.bind_eq_some_iff.mp hf
    refine cl_i (wc := (uw_Reader ad_rd cA_rd u1.2)) (wr := (uw_Table ad_tb cA_tb tb)) (tysC := [(cA_rd 1, .int)]) (wu := fun (u : SReader) => (uw_Reader ad_rd cA_rd u)) (wn := fun (u : SReader) => (uw_Reader ad_rd cA_rd u ++ (uw_Table ad_tb cA_tb tb))) [0, 1] [2, 3, 4, 5, 6] [5, 6, 0, 1, 2, 3, 4] [0] hP hD hS hA hK rfl rfl (by decide +kernel) (by decide +kernel) (by decide +kernel) rfl (fun _ => rfl) (by decide +kernel) (fun hPc hKc hDc => (va_runV (As := [.int (0 : Int32), .int (9 : Int32)]) (rest := []) ⟨hx, hb, hml, hown, hts⟩ (k_Reader_readNumber l dC dI ad_rd cA_rd H.size u1.2 (0 : Int32) (9 : Int32) u3 hu3) (cwV 2 hts (gV wd_378 wd_380 wd_5 wd_44 wd_381) rfl rfl rfl (by decide +kernel) ⟨Nat.le_of_ble_eq_true rfl, Nat.le_of_ble_eq_true rfl⟩) (cl_preV hPc hKc hDc hN (ci := 1) 0 rfl rfl) rfl rfl hl.1 rfl (lv_room (Nat.le_of_ble_eq_true rfl)) d_Reader_readDue_13 ⟨Nat.le_of_ble_eq_true rfl, Nat.le_of_ble_eq_true rfl⟩)) (fun r u H locs hw hP hD hS => ?_)
    obtain ⟨hw1, hw2⟩ := hw
    have hw1 := hw1.symm
    have hw2 := hw2.symm
    subst hw1
    subst hw2
    have hP : va_P (dC, dI) vwCl (uw_Reader ad_rd cA_rd u3.2 ++ (uw_Table ad_tb cA_tb tb)) H := hP
    have hD : va_D A (uw_Reader ad_rd cA_rd u3.2 ++ (uw_Table ad_tb cA_tb tb)) := hD
    refine lv_if_ne (tgt := 21) hx hb d_Reader_readDue_16 (by decide) (fun hc4 => ?_) (fun hc4 => ?_)
    · have hf := hf_f hf hc4
      refine lv_aload_n hx hb d_Reader_readDue_21 rfl (lv_at hl 1 rfl) ?_
      refine lv_iload_n hx hb d_Reader_readDue_22 rfl (lv_at hl 2 rfl) ?_
      refine lv_iconst (v := (1 : Int32)) hx hb d_Reader_readDue_23 (by decide) ?_
      refine lv_aload_n hx hb d_Reader_readDue_24 rfl (lv_at hl 0 rfl) ?_
      refine va_get (D := (dC, dI)) (ci := 1) (v := .int u3.2.2.2.2.1) (C := "HazardTables$Reader") (T := F_Reader) (N := 5) hx hb hts hin_Reader hown hK hP 0 rfl rfl 3 (by decide) fl_83 (fun _ h9 => h9) rfl d_Reader_readDue_25 ?_
      obtain ⟨u5, hu5, hf⟩ := Option.bind_eq_some_iff.mp hf
      refine cl_v (wc := (uw_Table ad_tb cA_tb tb)) (wr := (uw_Reader ad_rd cA_rd u3.2)) (tysC := [(cA_tb 1, .int), (cA_tb 2, .int), (cA_tb 3, .int), (cA_tb 4, .byte)]) (wu := fun (u : STable) => (uw_Table ad_tb cA_tb u)) (wn := fun (u : STable) => (uw_Reader ad_rd cA_rd u3.2 ++ (uw_Table ad_tb cA_tb u))) [2, 3, 4, 5, 6] [0, 1] [0, 1, 2, 3, 4, 5, 6] [1, 2, 3, 4] hP hD hS hA hK rfl rfl (by decide +kernel) (by decide +kernel) (by decide +kernel) rfl (fun _ => rfl) (by decide +kernel) (fun hPc hKc hDc => (va_runV (As := [.int x2, .int (1 : Int32), .int u3.2.2.2.2.1]) (rest := []) ⟨hx, hb, hml, hown, hts⟩ (k_Table_setCell l dC dI ad_tb cA_tb H.size tb x2 (1 : Int32) u3.2.2.2.2.1 u5 hu5) (cwV 3 hts (gV wd_429 wd_422 wd_423 wd_48 wd_424) rfl rfl rfl (by decide +kernel) ⟨Nat.le_of_ble_eq_true rfl, Nat.le_of_ble_eq_true rfl⟩) (cl_preV hPc hKc hDc hN (ci := 4) 0 rfl rfl) rfl rfl hl.1 rfl (lv_room (Nat.le_of_ble_eq_true rfl)) d_Reader_readDue_28 ⟨Nat.le_of_ble_eq_true rfl, Nat.le_of_ble_eq_true rfl⟩)) (fun u H locs hw hP hD hS => ?_)
      have hw := hw.symm
      subst hw
      have hP : va_P (dC, dI) vwCl (uw_Reader ad_rd cA_rd u3.2 ++ (uw_Table ad_tb cA_tb u5)) H := hP
      have hD : va_D A (uw_Reader ad_rd cA_rd u3.2 ++ (uw_Table ad_tb cA_tb u5)) := hD
      refine lv_aload_n hx hb d_Reader_readDue_31 rfl (lv_at hl 0 rfl) ?_
      refine lv_bipush (v := (103 : Int32)) hx hb d_Reader_readDue_32 (by decide) ?_
      obtain ⟨u6, hu6, hf⟩ := Option.bind_eq_some_iff.mp hf
      refine cl_i (wc := (uw_Reader ad_rd cA_rd u3.2)) (wr := (uw_Table ad_tb cA_tb u5)) (tysC := [(cA_rd 1, .int)]) (wu := fun (u : SReader) => (uw_Reader ad_rd cA_rd u)) (wn := fun (u : SReader) => (uw_Reader ad_rd cA_rd u ++ (uw_Table ad_tb cA_tb u5))) [0, 1] [2, 3, 4, 5, 6] [5, 6, 0, 1, 2, 3, 4] [0] hP hD hS hA hK rfl rfl (by decide +kernel) (by decide +kernel) (by decide +kernel) rfl (fun _ => rfl) (by decide +kernel) (fun hPc hKc hDc => (va_runV (As := [.int (103 : Int32)]) (rest := []) ⟨hx, hb, hml, hown, hts⟩ (k_Reader_take l dC dI ad_rd cA_rd H.size u3.2 (103 : Int32) u6 hu6) (cwV 1 hts (gV wd_406 wd_408 wd_9 wd_44 wd_409) rfl rfl rfl (by decide +kernel) ⟨Nat.le_of_ble_eq_true rfl, Nat.le_of_ble_eq_true rfl⟩) (cl_preV hPc hKc hDc hN (ci := 1) 0 rfl rfl) rfl rfl hl.1 rfl (lv_room (Nat.le_of_ble_eq_true rfl)) d_Reader_readDue_34 ⟨Nat.le_of_ble_eq_true rfl, Nat.le_of_ble_eq_true rfl⟩)) (fun r u H locs hw hP hD hS => ?_)
      obtain ⟨hw1, hw2⟩ := hw
      have hw1 := hw1.symm
      have hw2 := hw2.symm
      subst hw1
      subst hw2
      have hP : va_P (dC, dI) vwCl (uw_Reader ad_rd cA_rd u6.2 ++ (uw_Table ad_tb cA_tb u5)) H := hP
      have hD : va_D A (uw_Reader ad_rd cA_rd u6.2 ++ (uw_Table ad_tb cA_tb u5)) := hD
      refine lv_if_eq (tgt := 54) hx hb d_Reader_readDue_37 (by decide) (fun hc7 => ?_) (fun hc7 => ?_)
      · have hf := hf_t hf hc7
        refine lv_iconst (v := (0 : Int32)) hx hb d_Reader_readDue_54 (by decide) ?_
        exact ret false (u6.2, u5) H locs ls 55 d_Reader_readDue_55 (hf_e hf) hP hD hS
      · have hf := hf_f hf hc7
        refine lv_aload_n hx hb d_Reader_readDue_40 rfl (lv_at hl 0 rfl) ?_
        refine lv_bipush (v := (97 : Int32)) hx hb d_Reader_readDue_41 (by decide) ?_
        refine lv_bipush (v := (104 : Int32)) hx hb d_Reader_readDue_43 (by decide) ?_
        refine lv_iconst (v := (4 : Int32)) hx hb d_Reader_readDue_45 (by decide) ?_
        refine lv_bipush (v := (97 : Int32)) hx hb d_Reader_readDue_46 (by decide) ?_
        obtain ⟨u8, hu8, hf⟩ := Option.bind_eq_some_iff.mp hf
        refine cl_i (wc := (uw_Reader ad_rd cA_rd u6.2)) (wr := (uw_Table ad_tb cA_tb u5)) (tysC := [(cA_rd 1, .int)]) (wu := fun (u : SReader) => (uw_Reader ad_rd cA_rd u)) (wn := fun (u : SReader) => (uw_Reader ad_rd cA_rd u ++ (uw_Table ad_tb cA_tb u5))) [0, 1] [2, 3, 4, 5, 6] [5, 6, 0, 1, 2, 3, 4] [0] hP hD hS hA hK rfl rfl (by decide +kernel) (by decide +kernel) (by decide +kernel) rfl (fun _ => rfl) (by decide +kernel) (fun hPc hKc hDc => (va_runV (As := [.int (97 : Int32), .int (104 : Int32), .int (4 : Int32), .int (97 : Int32)]) (rest := []) ⟨hx, hb, hml, hown, hts⟩ (k_Reader_readRising l dC dI ad_rd cA_rd H.size u6.2 (97 : Int32) (104 : Int32) (4 : Int32) (97 : Int32) u8 hu8) (cwV 4 hts (gV wd_434 wd_436 wd_12 wd_44 wd_437) rfl rfl rfl (by decide +kernel) ⟨Nat.le_of_ble_eq_true rfl, Nat.le_of_ble_eq_true rfl⟩) (cl_preV hPc hKc hDc hN (ci := 1) 0 rfl rfl) rfl rfl hl.1 rfl (lv_room (Nat.le_of_ble_eq_true rfl)) d_Reader_readDue_48 ⟨Nat.le_of_ble_eq_true rfl, Nat.le_of_ble_eq_true rfl⟩)) (fun r u H locs hw hP hD hS => ?_)
        obtain ⟨hw1, hw2⟩ := hw
        have hw1 := hw1.symm
        have hw2 := hw2.symm
        subst hw1
        subst hw2
        have hP : va_P (dC, dI) vwCl (uw_Reader ad_rd cA_rd u8.2 ++ (uw_Table ad_tb cA_tb u5)) H := hP
        have hD : va_D A (uw_Reader ad_rd cA_rd u8.2 ++ (uw_Table ad_tb cA_tb u5)) := hD
        refine lv_if_ne (tgt := 56) hx hb d_Reader_readDue_51 (by decide) (fun hc9 => ?_) (fun hc9 => ?_)
        · have hf := hf_f hf hc9
          refine lv_aload_n hx hb d_Reader_readDue_56 rfl (lv_at hl 1 rfl) ?_
          refine lv_iload_n hx hb d_Reader_readDue_57 rfl (lv_at hl 2 rfl) ?_
          refine lv_iconst (v := (2 : Int32)) hx hb d_Reader_readDue_58 (by decide) ?_
          refine lv_aload_n hx hb d_Reader_readDue_59 rfl (lv_at hl 0 rfl) ?_
          refine va_get (D := (dC, dI)) (ci := 1) (v := .int u8.2.2.2.2.1) (C := "HazardTables$Reader") (T := F_Reader) (N := 5) hx hb hts hin_Reader hown hK hP 0 rfl rfl 3 (by decide) fl_83 (fun _ h9 => h9) rfl d_Reader_readDue_60 ?_
          obtain ⟨u10, hu10, hf⟩ := Option.bind_eq_some_iff.mp hf
          refine cl_v (wc := (uw_Table ad_tb cA_tb u5)) (wr := (uw_Reader ad_rd cA_rd u8.2)) (tysC := [(cA_tb 1, .int), (cA_tb 2, .int), (cA_tb 3, .int), (cA_tb 4, .byte)]) (wu := fun (u : STable) => (uw_Table ad_tb cA_tb u)) (wn := fun (u : STable) => (uw_Reader ad_rd cA_rd u8.2 ++ (uw_Table ad_tb cA_tb u))) [2, 3, 4, 5, 6] [0, 1] [0, 1, 2, 3, 4, 5, 6] [1, 2, 3, 4] hP hD hS hA hK rfl rfl (by decide +kernel) (by decide +kernel) (by decide +kernel) rfl (fun _ => rfl) (by decide +kernel) (fun hPc hKc hDc => (va_runV (As := [.int x2, .int (2 : Int32), .int u8.2.2.2.2.1]) (rest := []) ⟨hx, hb, hml, hown, hts⟩ (k_Table_setCell l dC dI ad_tb cA_tb H.size u5 x2 (2 : Int32) u8.2.2.2.2.1 u10 hu10) (cwV 3 hts (gV wd_429 wd_422 wd_423 wd_48 wd_424) rfl rfl rfl (by decide +kernel) ⟨Nat.le_of_ble_eq_true rfl, Nat.le_of_ble_eq_true rfl⟩) (cl_preV hPc hKc hDc hN (ci := 4) 0 rfl rfl) rfl rfl hl.1 rfl (lv_room (Nat.le_of_ble_eq_true rfl)) d_Reader_readDue_63 ⟨Nat.le_of_ble_eq_true rfl, Nat.le_of_ble_eq_true rfl⟩)) (fun u H locs hw hP hD hS => ?_)
          have hw := hw.symm
          subst hw
          have hP : va_P (dC, dI) vwCl (uw_Reader ad_rd cA_rd u8.2 ++ (uw_Table ad_tb cA_tb u10)) H := hP
          have hD : va_D A (uw_Reader ad_rd cA_rd u8.2 ++ (uw_Table ad_tb cA_tb u10)) := hD
          refine lv_iconst (v := (0 : Int32)) hx hb d_Reader_readDue_66 (by decide) ?_
          refine lv_istore_n (lv' := [(3, .int (0 : Int32)), (0, .ref (ad_rd 0)), (1, .ref (ad_tb 0)), (2, .int x2)]) hx hb d_Reader_readDue_67 rfl hl (by decide) rfl (fun ls hl => ?_)
          exact w_68 4096 u8.2 u10 x2 (0 : Int32) H locs ls hf hP hD hS (lv_sub hl [1, 2, 3, 0] rfl)
        · have hf := hf_t hf hc9
          refine lv_iconst (v := (0 : Int32)) hx hb d_Reader_readDue_54 (by decide) ?_
          exact ret false (u8.2, u5) H locs ls 55 d_Reader_readDue_55 (hf_e hf) hP hD hS
    · have hf := hf_t hf hc4
      refine lv_iconst (v := (0 : Int32)) hx hb d_Reader_readDue_19 (by decide) ?_
      exact ret false (u3.2, tb) H locs ls 20 d_Reader_readDue_20 (hf_e hf) hP hD hS
noncomputable def f_Reader_readOtherClasses (rd : SReader) (tb : STable) (x2 : Int32) : Option (Bool × SReader × STable) :=
  (Option.bind (f_Reader_peek rd) fun u1 =>
    (if u1.1 = (120 : Int32) then
      (Option.bind (f_Reader_readRising (u1.2.1, u1.2.2.1, u1.2.2.2.1 + (1 : Int32), u1.2.2.2.2.1, u1.2.2.2.2.2) (49 : Int32) (57 : Int32) (3 : Int32) (48 : Int32)) fun u3 =>
        (if (bI u3.1) = 0 then
          (some (false, u3.2, tb))
         else
          (Option.bind (f_Table_setCell tb x2 (7 : Int32) u3.2.2.2.2.1) fun u5 =>
            (some (true, u3.2, u5))
           )
         )
       )
     else
      (some (true, u1.2, tb))
     )
   )
set_option maxHeartbeats 4000000 in
set_option maxRecDepth 100000 in
theorem k_Reader_readOtherClasses (l : Launch) (dC : Nat → ClassId) (dI : Nat → Nat → Nat) (ad_rd : Nat → Nat) (cA_rd : Nat → ClassId) (ad_tb : Nat → Nat) (cA_tb : Nat → ClassId) (sz : Nat) (rd : SReader) (tb : STable) (x2 : Int32) (res : Bool × SReader × STable) (hf : f_Reader_readOtherClasses rd tb x2 = some res) : Met l y_Reader_readOtherClasses w_Reader_readOtherClasses ({ frames := 2, cells := 0, slots := 0, locals := 48 }) (cPc (dC, dI) (uw_Reader ad_rd cA_rd rd ++ (uw_Table ad_tb cA_tb tb)) [(cA_rd 1, .int), (cA_tb 1, .int), (cA_tb 2, .int), (cA_tb 3, .int), (cA_tb 4, .byte)] sz [.ref (ad_rd 0), .ref (ad_tb 0), .int x2]) (va_Qi (fun (r : Int32) (u : SReader × STable) => r = bI res.1 ∧ u = res.2) (fun (u : SReader × STable) (t : State) => va_P (dC, dI) vwCl (uw_Reader ad_rd cA_rd u.1 ++ (uw_Table ad_tb cA_tb u.2)) t.heap ∧ va_K (dC, dI) vwCl [(cA_rd 1, .int), (cA_tb 1, .int), (cA_tb 2, .int), (cA_tb 3, .int), (cA_tb 4, .byte)] t ∧ va_D (va_A (uw_Reader ad_rd cA_rd rd ++ (uw_Table ad_tb cA_tb tb)) sz) (uw_Reader ad_rd cA_rd u.1 ++ (uw_Table ad_tb cA_tb u.2))) (va_A (uw_Reader ad_rd cA_rd rd ++ (uw_Table ad_tb cA_tb tb)) sz)) 0 0 (va_A (uw_Reader ad_rd cA_rd rd ++ (uw_Table ad_tb cA_tb tb)) sz) := by
  refine Met.ofW (cc := b_Reader_readOtherClasses) (maxL := 3) (ret := (some .boolean)) (by decide) rfl ?_
  intro p e s m args below meth c s₁ B hml hv
  obtain ⟨rfl, hsz, hP, hK, hD0, hN⟩ := hv
  have hx := B.exec
  have hb := B.bytes
  have hr := B.returns
  have hts := atoms_spec (ws := w_Reader_readOtherClasses) B.pre
  have hown : s.vm.findClass "HazardTables$Reader" = some m.cls := findClass_of_methodNamed B.named
  have hlocks := B.notSynchronized
  subst hsz
  have hD := hD0.self (sz := s.heap.size)
  generalize hAe : va_A (uw_Reader ad_rd cA_rd rd ++ (uw_Table ad_tb cA_tb tb)) s.heap.size = A at hD ⊢
  have hA : ∀ q : Nat, s.heap.size ≤ q → A q := fun q h => by rw [← hAe]; exact Or.inr h
  have hS : va_S A s.heap s.heap [] := va_S.rf
  have hP : va_P (dC, dI) vwCl (uw_Reader ad_rd cA_rd rd ++ (uw_Table ad_tb cA_tb tb)) s.heap := hP
  have fl_31 := (hts _ (List.mem_cons_of_mem _ wd_74))
  have fl_83 := (hts _ (List.mem_cons_of_mem _ wd_75))
  have hin_Reader : ∀ w ∈ u_ws "HazardTables$Reader" F_Reader 5, w ∈ w_Reader_readOtherClasses := fun w h => List.mem_cons_of_mem _ (hinA_Reader w h)
  have ret : ∀ (v : Bool) (u : SReader × STable) (H : Heap) (locs : List Loc) (ls : Array Slot) (pc : Nat), decode b_Reader_readOtherClasses pc = .ok (.ireturn, 1) → (v = res.1 ∧ u = res.2) → va_P (dC, dI) vwCl (uw_Reader ad_rd cA_rd u.1 ++ (uw_Table ad_tb cA_tb u.2)) H → va_D A (uw_Reader ad_rd cA_rd u.1 ++ (uw_Table ad_tb cA_tb u.2)) → va_S A s.heap H locs → W p l e (headSpec w_Reader_readOtherClasses ({ frames := 2, cells := 0, slots := 0, locals := 48 })).room s m ([.ref (ad_rd 0), .ref (ad_tb 0), .int x2] : List Value).toArray below meth c H locs 0 0 (MQ below (va_Qi (fun (r : Int32) (u : SReader × STable) => r = bI res.1 ∧ u = res.2) (fun (u : SReader × STable) (t : State) => va_P (dC, dI) vwCl (uw_Reader ad_rd cA_rd u.1 ++ (uw_Table ad_tb cA_tb u.2)) t.heap ∧ va_K (dC, dI) vwCl [(cA_rd 1, .int), (cA_tb 1, .int), (cA_tb 2, .int), (cA_tb 3, .int), (cA_tb 4, .byte)] t ∧ va_D A (uw_Reader ad_rd cA_rd u.1 ++ (uw_Table ad_tb cA_tb u.2))) A) ([.ref (ad_rd 0), .ref (ad_tb 0), .int x2] : List Value).toArray s 0 0 A) (F0 m pc ls [.int (bI v)]) := fun v u H locs ls pc hd hp hP hD hS => W.zret (v := bI v) (ty := .boolean) hx hb hr (nar_bI v) (fun t ht hW => ⟨⟨bI v, u, rfl, ⟨by rw [hp.1], hp.2⟩, by rw [ht]; exact hP, va_K.moved hW.alike hK, hD⟩, hS.F ht⟩) hS.2.2 hd
  generalize (MQ below (va_Qi (fun (r : Int32) (u : SReader × STable) => r = bI res.1 ∧ u = res.2) (fun (u : SReader × STable) (t : State) => va_P (dC, dI) vwCl (uw_Reader ad_rd cA_rd u.1 ++ (uw_Table ad_tb cA_tb u.2)) t.heap ∧ va_K (dC, dI) vwCl [(cA_rd 1, .int), (cA_tb 1, .int), (cA_tb 2, .int), (cA_tb 3, .int), (cA_tb 4, .byte)] t ∧ va_D A (uw_Reader ad_rd cA_rd u.1 ++ (uw_Table ad_tb cA_tb u.2))) A) ([.ref (ad_rd 0), .ref (ad_tb 0), .int x2] : List Value).toArray s 0 0 A) = Q at ret ⊢
  have hl := lv_entry ([.ref (ad_rd 0), .ref (ad_tb 0), .int x2]) (n := 3) (Nat.le_of_ble_eq_true rfl)
  rw [lg_entry_eq]
  generalize (lg_sl ([.ref (ad_rd 0), .ref (ad_tb 0), .int x2]) ++ List.replicate (3 - (lg_sl ([.ref (ad_rd 0), .ref (ad_tb 0), .int x2])).length) Slot.unset).toArray = ls at hl ⊢
  have hl : lv_has ls 3 [(0, .ref (ad_rd 0)), (1, .ref (ad_tb 0)), (2, .int x2)] := hl
  have hf := hf
  rw [f_Reader_readOtherClasses] at hf
  obtain ⟨H, hH⟩ : ∃ H : Heap, H = s.heap := ⟨_, rfl⟩
  obtain ⟨locs, hlocs⟩ : ∃ L : List Loc, L = [] := ⟨_, rfl⟩
  have hP : va_P (dC, dI) vwCl (uw_Reader ad_rd cA_rd rd ++ (uw_Table ad_tb cA_tb tb)) H := by rw [hH]; exact hP
  have hS : va_S A s.heap H locs := by rw [hH, hlocs]; exact hS
  show W p l e (headSpec w_Reader_readOtherClasses ({ frames := 2, cells := 0, slots := 0, locals := 48 })).room s m ([.ref (ad_rd 0), .ref (ad_tb 0), .int x2] : List Value).toArray below meth c s.heap [] 0 0 Q (F0 m 0 ls [])
  suffices hgo : W p l e (headSpec w_Reader_readOtherClasses ({ frames := 2, cells := 0, slots := 0, locals := 48 })).room s m ([.ref (ad_rd 0), .ref (ad_tb 0), .int x2] : List Value).toArray below meth c H locs 0 0 Q (F0 m 0 ls []) by rw [hH, hlocs] at hgo; exact hgo
  clear hH hlocs
  refine lv_aload_n hx hb d_Reader_readOtherClasses_0 rfl (lv_at hl 0 rfl) ?_
  obtain ⟨u1, hu1, hf⟩ := Option.bind_eq_some_iff.mp hf
  refine cl_i (wc := (uw_Reader ad_rd cA_rd rd)) (wr := (uw_Table ad_tb cA_tb tb)) (tysC := [(cA_rd 1, .int)]) (wu := fun (u : SReader) => (uw_Reader ad_rd cA_rd u)) (wn := fun (u : SReader) => (uw_Reader ad_rd cA_rd u ++ (uw_Table ad_tb cA_tb tb))) [0, 1] [2, 3, 4, 5, 6] [5, 6, 0, 1, 2, 3, 4] [0] hP hD hS hA hK rfl rfl (by decide +kernel) (by decide +kernel) (by decide +kernel) rfl (fun _ => rfl) (by decide +kernel) (fun hPc hKc hDc => (va_runV (As := []) (rest := []) ⟨hx, hb, hml, hown, hts⟩ (k_Reader_peek l dC dI ad_rd cA_rd H.size rd u1 hu1) (cwV 0 hts (gV wd_358 wd_360 wd_1 wd_44 wd_361) rfl rfl rfl (by decide +kernel) ⟨Nat.le_of_ble_eq_true rfl, Nat.le_of_ble_eq_true rfl⟩) (cl_preV hPc hKc hDc hN (ci := 1) 0 rfl rfl) rfl rfl hl.1 rfl (lv_room (Nat.le_of_ble_eq_true rfl)) d_Reader_readOtherClasses_1 ⟨Nat.le_of_ble_eq_true rfl, Nat.le_of_ble_eq_true rfl⟩)) (fun r u H locs hw hP hD hS => ?_)
  obtain ⟨hw1, hw2⟩ := hw
  have hw1 := hw1.symm
  have hw2 := hw2.symm
  subst hw1
  subst hw2
  have hP : va_P (dC, dI) vwCl (uw_Reader ad_rd cA_rd u1.2 ++ (uw_Table ad_tb cA_tb tb)) H := hP
  have hD : va_D A (uw_Reader ad_rd cA_rd u1.2 ++ (uw_Table ad_tb cA_tb tb)) := hD
  refine lv_bipush (v := (120 : Int32)) hx hb d_Reader_readOtherClasses_4 (by decide) ?_
  refine lv_icmp_eq (tgt := 11) hx hb d_Reader_readOtherClasses_6 (by decide) (fun hc2 => ?_) (fun hc2 => ?_)
  · have hf := hf_t hf hc2
    refine lv_aload_n hx hb d_Reader_readOtherClasses_11 rfl (lv_at hl 0 rfl) ?_
    refine lv_dup hx hb d_Reader_readOtherClasses_12 rfl ?_
    refine va_get (D := (dC, dI)) (ci := 1) (v := .int u1.2.2.2.1) (C := "HazardTables$Reader") (T := F_Reader) (N := 5) hx hb hts hin_Reader hown hK hP 0 rfl rfl 2 (by decide) fl_31 (fun _ h9 => h9) rfl d_Reader_readOtherClasses_13 ?_
    refine lv_iconst (v := (1 : Int32)) hx hb d_Reader_readOtherClasses_16 (by decide) ?_
    refine lv_iadd hx hb d_Reader_readOtherClasses_17 ?_
    refine va_put (D := (dC, dI)) (ci := 1) (v := .int (u1.2.2.2.1 + (1 : Int32))) (ty := .int) (C := "HazardTables$Reader") (T := F_Reader) (N := 5) hx hb hts hin_Reader t_Reader t_Reader_ok n_Reader hown hK hP hD hS 0 rfl rfl 2 (by decide) fl_31 (fun _ h9 => h9) rfl (by decide +kernel) rfl rfl (Nat.le_of_ble_eq_true rfl) d_Reader_readOtherClasses_18 (fun H locs hP hD hS => ?_)
    have hP : va_P (dC, dI) vwCl (uw_Reader ad_rd cA_rd (u1.2.1, u1.2.2.1, u1.2.2.2.1 + (1 : Int32), u1.2.2.2.2.1, u1.2.2.2.2.2) ++ (uw_Table ad_tb cA_tb tb)) H := hP
    have hD : va_D A (uw_Reader ad_rd cA_rd (u1.2.1, u1.2.2.1, u1.2.2.2.1 + (1 : Int32), u1.2.2.2.2.1, u1.2.2.2.2.2) ++ (uw_Table ad_tb cA_tb tb)) := hD
    refine lv_aload_n hx hb d_Reader_readOtherClasses_21 rfl (lv_at hl 0 rfl) ?_
    refine lv_bipush (v := (49 : Int32)) hx hb d_Reader_readOtherClasses_22 (by decide) ?_
    refine lv_bipush (v := (57 : Int32)) hx hb d_Reader_readOtherClasses_24 (by decide) ?_
    refine lv_iconst (v := (3 : Int32)) hx hb d_Reader_readOtherClasses_26 (by decide) ?_
    refine lv_bipush (v := (48 : Int32)) hx hb d_Reader_readOtherClasses_27 (by decide) ?_
    obtain ⟨u3, hu3, hf⟩ := Option.bind_eq_some_iff.mp hf
    refine cl_i (wc := (uw_Reader ad_rd cA_rd (u1.2.1, u1.2.2.1, u1.2.2.2.1 + (1 : Int32), u1.2.2.2.2.1, u1.2.2.2.2.2))) (wr := (uw_Table ad_tb cA_tb tb)) (tysC := [(cA_rd 1, .int)]) (wu := fun (u : SReader) => (uw_Reader ad_rd cA_rd u)) (wn := fun (u : SReader) => (uw_Reader ad_rd cA_rd u ++ (uw_Table ad_tb cA_tb tb))) [0, 1] [2, 3, 4, 5, 6] [5, 6, 0, 1, 2, 3, 4] [0] hP hD hS hA hK rfl rfl (by decide +kernel) (by decide +kernel) (by decide +kernel) rfl (fun _ => rfl) (by decide +kernel) (fun hPc hKc hDc => (va_runV (As := [.int (49 : Int32), .int (57 : Int32), .int (3 : Int32), .int (48 : Int32)]) (rest := []) ⟨hx, hb, hml, hown, hts⟩ (k_Reader_readRising l dC dI ad_rd cA_rd H.size (u1.2.1, u1.2.2.1, u1.2.2.2.1 + (1 : Int32), u1.2.2.2.2.1, u1.2.2.2.2.2) (49 : Int32) (57 : Int32) (3 : Int32) (48 : Int32) u3 hu3) (cwV 4 hts (gV wd_434 wd_436 wd_12 wd_44 wd_437) rfl rfl rfl (by decide +kernel) ⟨Nat.le_of_ble_eq_true rfl, Nat.le_of_ble_eq_true rfl⟩) (cl_preV hPc hKc hDc hN (ci := 1) 0 rfl rfl) rfl rfl hl.1 rfl (lv_room (Nat.le_of_ble_eq_true rfl)) d_Reader_readOtherClasses_29 ⟨Nat.le_of_ble_eq_true rfl, Nat.le_of_ble_eq_true rfl⟩)) (fun r u H locs hw hP hD hS => ?_)
    obtain ⟨hw1, hw2⟩ := hw
    have hw1 := hw1.symm
    have hw2 := hw2.symm
    subst hw1
    subst hw2
    have hP : va_P (dC, dI) vwCl (uw_Reader ad_rd cA_rd u3.2 ++ (uw_Table ad_tb cA_tb tb)) H := hP
    have hD : va_D A (uw_Reader ad_rd cA_rd u3.2 ++ (uw_Table ad_tb cA_tb tb)) := hD
    refine lv_if_ne (tgt := 37) hx hb d_Reader_readOtherClasses_32 (by decide) (fun hc4 => ?_) (fun hc4 => ?_)
    · have hf := hf_f hf hc4
      refine lv_aload_n hx hb d_Reader_readOtherClasses_37 rfl (lv_at hl 1 rfl) ?_
      refine lv_iload_n hx hb d_Reader_readOtherClasses_38 rfl (lv_at hl 2 rfl) ?_
      refine lv_bipush (v := (7 : Int32)) hx hb d_Reader_readOtherClasses_39 (by decide) ?_
      refine lv_aload_n hx hb d_Reader_readOtherClasses_41 rfl (lv_at hl 0 rfl) ?_
      refine va_get (D := (dC, dI)) (ci := 1) (v := .int u3.2.2.2.2.1) (C := "HazardTables$Reader") (T := F_Reader) (N := 5) hx hb hts hin_Reader hown hK hP 0 rfl rfl 3 (by decide) fl_83 (fun _ h9 => h9) rfl d_Reader_readOtherClasses_42 ?_
      obtain ⟨u5, hu5, hf⟩ := Option.bind_eq_some_iff.mp hf
      refine cl_v (wc := (uw_Table ad_tb cA_tb tb)) (wr := (uw_Reader ad_rd cA_rd u3.2)) (tysC := [(cA_tb 1, .int), (cA_tb 2, .int), (cA_tb 3, .int), (cA_tb 4, .byte)]) (wu := fun (u : STable) => (uw_Table ad_tb cA_tb u)) (wn := fun (u : STable) => (uw_Reader ad_rd cA_rd u3.2 ++ (uw_Table ad_tb cA_tb u))) [2, 3, 4, 5, 6] [0, 1] [0, 1, 2, 3, 4, 5, 6] [1, 2, 3, 4] hP hD hS hA hK rfl rfl (by decide +kernel) (by decide +kernel) (by decide +kernel) rfl (fun _ => rfl) (by decide +kernel) (fun hPc hKc hDc => (va_runV (As := [.int x2, .int (7 : Int32), .int u3.2.2.2.2.1]) (rest := []) ⟨hx, hb, hml, hown, hts⟩ (k_Table_setCell l dC dI ad_tb cA_tb H.size tb x2 (7 : Int32) u3.2.2.2.2.1 u5 hu5) (cwV 3 hts (gV wd_429 wd_422 wd_423 wd_48 wd_424) rfl rfl rfl (by decide +kernel) ⟨Nat.le_of_ble_eq_true rfl, Nat.le_of_ble_eq_true rfl⟩) (cl_preV hPc hKc hDc hN (ci := 4) 0 rfl rfl) rfl rfl hl.1 rfl (lv_room (Nat.le_of_ble_eq_true rfl)) d_Reader_readOtherClasses_45 ⟨Nat.le_of_ble_eq_true rfl, Nat.le_of_ble_eq_true rfl⟩)) (fun u H locs hw hP hD hS => ?_)
      have hw := hw.symm
      subst hw
      have hP : va_P (dC, dI) vwCl (uw_Reader ad_rd cA_rd u3.2 ++ (uw_Table ad_tb cA_tb u5)) H := hP
      have hD : va_D A (uw_Reader ad_rd cA_rd u3.2 ++ (uw_Table ad_tb cA_tb u5)) := hD
      refine lv_iconst (v := (1 : Int32)) hx hb d_Reader_readOtherClasses_48 (by decide) ?_
      exact ret true (u3.2, u5) H locs ls 49 d_Reader_readOtherClasses_49 (hf_e hf) hP hD hS
    · have hf := hf_t hf hc4
      refine lv_iconst (v := (0 : Int32)) hx hb d_Reader_readOtherClasses_35 (by decide) ?_
      exact ret false (u3.2, tb) H locs ls 36 d_Reader_readOtherClasses_36 (hf_e hf) hP hD hS
  · have hf := hf_f hf hc2
    refine lv_iconst (v := (1 : Int32)) hx hb d_Reader_readOtherClasses_9 (by decide) ?_
    exact ret true (u1.2, tb) H locs ls 10 d_Reader_readOtherClasses_10 (hf_e hf) hP hD hS
noncomputable def f_Reader_startGeneralRow (rd : SReader) (tb : STable) : Option (Bool × SReader × STable) :=
  (if (bI tb.2.2.2.2.2) = 0 then
    (some (true, (rd.1, rd.2.1, rd.2.2.1 + (1 : Int32), rd.2.2.2.1, rd.2.2.2.2), (tb.1, tb.2.1, tb.2.2.1, tb.2.2.2.1, tb.2.2.2.2.1, true)))
   else
    (Option.bind (f_Reader_wrong rd rd.2.2.1) fun u2 =>
      (some (u2.1, u2.2, tb))
     )
   )
set_option maxHeartbeats 4000000 in
set_option maxRecDepth 100000 in
theorem k_Reader_startGeneralRow (l : Launch) (dC : Nat → ClassId) (dI : Nat → Nat → Nat) (ad_rd : Nat → Nat) (cA_rd : Nat → ClassId) (ad_tb : Nat → Nat) (cA_tb : Nat → ClassId) (sz : Nat) (rd : SReader) (tb : STable) (res : Bool × SReader × STable) (hf : f_Reader_startGeneralRow rd tb = some res) : Met l y_Reader_startGeneralRow w_Reader_startGeneralRow ({ frames := 1, cells := 0, slots := 0, locals := 21 }) (cPc (dC, dI) (uw_Reader ad_rd cA_rd rd ++ (uw_Table ad_tb cA_tb tb)) [(cA_rd 1, .int), (cA_tb 1, .int), (cA_tb 2, .int), (cA_tb 3, .int), (cA_tb 4, .byte)] sz [.ref (ad_rd 0), .ref (ad_tb 0)]) (va_Qi (fun (r : Int32) (u : SReader × STable) => r = bI res.1 ∧ u = res.2) (fun (u : SReader × STable) (t : State) => va_P (dC, dI) vwCl (uw_Reader ad_rd cA_rd u.1 ++ (uw_Table ad_tb cA_tb u.2)) t.heap ∧ va_K (dC, dI) vwCl [(cA_rd 1, .int), (cA_tb 1, .int), (cA_tb 2, .int), (cA_tb 3, .int), (cA_tb 4, .byte)] t ∧ va_D (va_A (uw_Reader ad_rd cA_rd rd ++ (uw_Table ad_tb cA_tb tb)) sz) (uw_Reader ad_rd cA_rd u.1 ++ (uw_Table ad_tb cA_tb u.2))) (va_A (uw_Reader ad_rd cA_rd rd ++ (uw_Table ad_tb cA_tb tb)) sz)) 0 0 (va_A (uw_Reader ad_rd cA_rd rd ++ (uw_Table ad_tb cA_tb tb)) sz) := by
  refine Met.ofW (cc := b_Reader_startGeneralRow) (maxL := 2) (ret := (some .boolean)) (by decide) rfl ?_
  intro p e s m args below meth c s₁ B hml hv
  obtain ⟨rfl, hsz, hP, hK, hD0, hN⟩ := hv
  have hx := B.exec
  have hb := B.bytes
  have hr := B.returns
  have hts := atoms_spec (ws := w_Reader_startGeneralRow) B.pre
  have hown : s.vm.findClass "HazardTables$Reader" = some m.cls := findClass_of_methodNamed B.named
  have hlocks := B.notSynchronized
  subst hsz
  have hD := hD0.self (sz := s.heap.size)
  generalize hAe : va_A (uw_Reader ad_rd cA_rd rd ++ (uw_Table ad_tb cA_tb tb)) s.heap.size = A at hD ⊢
  have hA : ∀ q : Nat, s.heap.size ≤ q → A q := fun q h => by rw [← hAe]; exact Or.inr h
  have hS : va_S A s.heap s.heap [] := va_S.rf
  have hP : va_P (dC, dI) vwCl (uw_Reader ad_rd cA_rd rd ++ (uw_Table ad_tb cA_tb tb)) s.heap := hP
  have fl_31 := (hts _ (List.mem_cons_of_mem _ wd_74))
  have fl_71 := (hts _ (List.mem_cons_of_mem _ wd_189))
  have hin_Reader : ∀ w ∈ u_ws "HazardTables$Reader" F_Reader 5, w ∈ w_Reader_startGeneralRow := fun w h => List.mem_cons_of_mem _ (hinA_Reader w h)
  have hin_Table : ∀ w ∈ u_ws "HazardTables$Table" F_Table 6, w ∈ w_Reader_startGeneralRow := fun w h => List.mem_cons_of_mem _ (hinA_Table w h)
  have ret : ∀ (v : Bool) (u : SReader × STable) (H : Heap) (locs : List Loc) (ls : Array Slot) (pc : Nat), decode b_Reader_startGeneralRow pc = .ok (.ireturn, 1) → (v = res.1 ∧ u = res.2) → va_P (dC, dI) vwCl (uw_Reader ad_rd cA_rd u.1 ++ (uw_Table ad_tb cA_tb u.2)) H → va_D A (uw_Reader ad_rd cA_rd u.1 ++ (uw_Table ad_tb cA_tb u.2)) → va_S A s.heap H locs → W p l e (headSpec w_Reader_startGeneralRow ({ frames := 1, cells := 0, slots := 0, locals := 21 })).room s m ([.ref (ad_rd 0), .ref (ad_tb 0)] : List Value).toArray below meth c H locs 0 0 (MQ below (va_Qi (fun (r : Int32) (u : SReader × STable) => r = bI res.1 ∧ u = res.2) (fun (u : SReader × STable) (t : State) => va_P (dC, dI) vwCl (uw_Reader ad_rd cA_rd u.1 ++ (uw_Table ad_tb cA_tb u.2)) t.heap ∧ va_K (dC, dI) vwCl [(cA_rd 1, .int), (cA_tb 1, .int), (cA_tb 2, .int), (cA_tb 3, .int), (cA_tb 4, .byte)] t ∧ va_D A (uw_Reader ad_rd cA_rd u.1 ++ (uw_Table ad_tb cA_tb u.2))) A) ([.ref (ad_rd 0), .ref (ad_tb 0)] : List Value).toArray s 0 0 A) (F0 m pc ls [.int (bI v)]) := fun v u H locs ls pc hd hp hP hD hS => W.zret (v := bI v) (ty := .boolean) hx hb hr (nar_bI v) (fun t ht hW => ⟨⟨bI v, u, rfl, ⟨by rw [hp.1], hp.2⟩, by rw [ht]; exact hP, va_K.moved hW.alike hK, hD⟩, hS.F ht⟩) hS.2.2 hd
  generalize (MQ below (va_Qi (fun (r : Int32) (u : SReader × STable) => r = bI res.1 ∧ u = res.2) (fun (u : SReader × STable) (t : State) => va_P (dC, dI) vwCl (uw_Reader ad_rd cA_rd u.1 ++ (uw_Table ad_tb cA_tb u.2)) t.heap ∧ va_K (dC, dI) vwCl [(cA_rd 1, .int), (cA_tb 1, .int), (cA_tb 2, .int), (cA_tb 3, .int), (cA_tb 4, .byte)] t ∧ va_D A (uw_Reader ad_rd cA_rd u.1 ++ (uw_Table ad_tb cA_tb u.2))) A) ([.ref (ad_rd 0), .ref (ad_tb 0)] : List Value).toArray s 0 0 A) = Q at ret ⊢
  have hl := lv_entry ([.ref (ad_rd 0), .ref (ad_tb 0)]) (n := 2) (Nat.le_of_ble_eq_true rfl)
  rw [lg_entry_eq]
  generalize (lg_sl ([.ref (ad_rd 0), .ref (ad_tb 0)]) ++ List.replicate (2 - (lg_sl ([.ref (ad_rd 0), .ref (ad_tb 0)])).length) Slot.unset).toArray = ls at hl ⊢
  have hl : lv_has ls 2 [(0, .ref (ad_rd 0)), (1, .ref (ad_tb 0))] := hl
  have hf := hf
  rw [f_Reader_startGeneralRow] at hf
  obtain ⟨H, hH⟩ : ∃ H : Heap, H = s.heap := ⟨_, rfl⟩
  obtain ⟨locs, hlocs⟩ : ∃ L : List Loc, L = [] := ⟨_, rfl⟩
  have hP : va_P (dC, dI) vwCl (uw_Reader ad_rd cA_rd rd ++ (uw_Table ad_tb cA_tb tb)) H := by rw [hH]; exact hP
  have hS : va_S A s.heap H locs := by rw [hH, hlocs]; exact hS
  show W p l e (headSpec w_Reader_startGeneralRow ({ frames := 1, cells := 0, slots := 0, locals := 21 })).room s m ([.ref (ad_rd 0), .ref (ad_tb 0)] : List Value).toArray below meth c s.heap [] 0 0 Q (F0 m 0 ls [])
  suffices hgo : W p l e (headSpec w_Reader_startGeneralRow ({ frames := 1, cells := 0, slots := 0, locals := 21 })).room s m ([.ref (ad_rd 0), .ref (ad_tb 0)] : List Value).toArray below meth c H locs 0 0 Q (F0 m 0 ls []) by rw [hH, hlocs] at hgo; exact hgo
  clear hH hlocs
  refine lv_aload_n hx hb d_Reader_startGeneralRow_0 rfl (lv_at hl 1 rfl) ?_
  refine va_get (D := (dC, dI)) (ci := 4) (v := .int (bI tb.2.2.2.2.2)) (C := "HazardTables$Table") (T := F_Table) (N := 6) hx hb hts hin_Table hown hK hP 2 rfl rfl 5 (by decide) fl_71 (fun _ h9 => h9) rfl d_Reader_startGeneralRow_1 ?_
  refine lv_if_eq (tgt := 16) hx hb d_Reader_startGeneralRow_4 (by decide) (fun hc1 => ?_) (fun hc1 => ?_)
  · have hf := hf_t hf hc1
    refine lv_aload_n hx hb d_Reader_startGeneralRow_16 rfl (lv_at hl 0 rfl) ?_
    refine lv_dup hx hb d_Reader_startGeneralRow_17 rfl ?_
    refine va_get (D := (dC, dI)) (ci := 1) (v := .int rd.2.2.1) (C := "HazardTables$Reader") (T := F_Reader) (N := 5) hx hb hts hin_Reader hown hK hP 0 rfl rfl 2 (by decide) fl_31 (fun _ h9 => h9) rfl d_Reader_startGeneralRow_18 ?_
    refine lv_iconst (v := (1 : Int32)) hx hb d_Reader_startGeneralRow_21 (by decide) ?_
    refine lv_iadd hx hb d_Reader_startGeneralRow_22 ?_
    refine va_put (D := (dC, dI)) (ci := 1) (v := .int (rd.2.2.1 + (1 : Int32))) (ty := .int) (C := "HazardTables$Reader") (T := F_Reader) (N := 5) hx hb hts hin_Reader t_Reader t_Reader_ok n_Reader hown hK hP hD hS 0 rfl rfl 2 (by decide) fl_31 (fun _ h9 => h9) rfl (by decide +kernel) rfl rfl (Nat.le_of_ble_eq_true rfl) d_Reader_startGeneralRow_23 (fun H locs hP hD hS => ?_)
    have hP : va_P (dC, dI) vwCl (uw_Reader ad_rd cA_rd (rd.1, rd.2.1, rd.2.2.1 + (1 : Int32), rd.2.2.2.1, rd.2.2.2.2) ++ (uw_Table ad_tb cA_tb tb)) H := hP
    have hD : va_D A (uw_Reader ad_rd cA_rd (rd.1, rd.2.1, rd.2.2.1 + (1 : Int32), rd.2.2.2.1, rd.2.2.2.2) ++ (uw_Table ad_tb cA_tb tb)) := hD
    refine lv_aload_n hx hb d_Reader_startGeneralRow_26 rfl (lv_at hl 1 rfl) ?_
    refine lv_iconst (v := (1 : Int32)) hx hb d_Reader_startGeneralRow_27 (by decide) ?_
    refine va_put (D := (dC, dI)) (ci := 4) (v := .int (1 : Int32)) (ty := .boolean) (C := "HazardTables$Table") (T := F_Table) (N := 6) hx hb hts hin_Table t_Table t_Table_ok n_Table hown hK hP hD hS 2 rfl rfl 5 (by decide) fl_71 (fun _ h9 => h9) rfl (by decide +kernel) (nar_bI true) (fit_bI true) (Nat.le_of_ble_eq_true rfl) d_Reader_startGeneralRow_28 (fun H locs hP hD hS => ?_)
    have hP : va_P (dC, dI) vwCl (uw_Reader ad_rd cA_rd (rd.1, rd.2.1, rd.2.2.1 + (1 : Int32), rd.2.2.2.1, rd.2.2.2.2) ++ (uw_Table ad_tb cA_tb (tb.1, tb.2.1, tb.2.2.1, tb.2.2.2.1, tb.2.2.2.2.1, true))) H := hP
    have hD : va_D A (uw_Reader ad_rd cA_rd (rd.1, rd.2.1, rd.2.2.1 + (1 : Int32), rd.2.2.2.1, rd.2.2.2.2) ++ (uw_Table ad_tb cA_tb (tb.1, tb.2.1, tb.2.2.1, tb.2.2.2.1, tb.2.2.2.2.1, true))) := hD
    refine lv_iconst (v := (1 : Int32)) hx hb d_Reader_startGeneralRow_31 (by decide) ?_
    exact ret true ((rd.1, rd.2.1, rd.2.2.1 + (1 : Int32), rd.2.2.2.1, rd.2.2.2.2), (tb.1, tb.2.1, tb.2.2.1, tb.2.2.2.1, tb.2.2.2.2.1, true)) H locs ls 32 d_Reader_startGeneralRow_32 (hf_e hf) hP hD hS
  · have hf := hf_f hf hc1
    refine lv_aload_n hx hb d_Reader_startGeneralRow_7 rfl (lv_at hl 0 rfl) ?_
    refine lv_aload_n hx hb d_Reader_startGeneralRow_8 rfl (lv_at hl 0 rfl) ?_
    refine va_get (D := (dC, dI)) (ci := 1) (v := .int rd.2.2.1) (C := "HazardTables$Reader") (T := F_Reader) (N := 5) hx hb hts hin_Reader hown hK hP 0 rfl rfl 2 (by decide) fl_31 (fun _ h9 => h9) rfl d_Reader_startGeneralRow_9 ?_
    obtain ⟨u2, hu2, hf⟩ := Option.bind_eq_some_iff.mp hf
    refine cl_i (wc := (uw_Reader ad_rd cA_rd rd)) (wr := (uw_Table ad_tb cA_tb tb)) (tysC := [(cA_rd 1, .int)]) (wu := fun (u : SReader) => (uw_Reader ad_rd cA_rd u)) (wn := fun (u : SReader) => (uw_Reader ad_rd cA_rd u ++ (uw_Table ad_tb cA_tb tb))) [0, 1] [2, 3, 4, 5, 6] [5, 6, 0, 1, 2, 3, 4] [0] hP hD hS hA hK rfl rfl (by decide +kernel) (by decide +kernel) (by decide +kernel) rfl (fun _ => rfl) (by decide +kernel) (fun hPc hKc hDc => (va_runV (As := [.int rd.2.2.1]) (rest := []) ⟨hx, hb, hml, hown, hts⟩ (k_Reader_wrong l dC dI ad_rd cA_rd H.size rd rd.2.2.1 u2 hu2) (cwV 1 hts (gV wd_374 wd_376 wd_4 wd_44 wd_377) rfl rfl rfl (by decide +kernel) ⟨Nat.le_of_ble_eq_true rfl, Nat.le_of_ble_eq_true rfl⟩) (cl_preV hPc hKc hDc hN (ci := 1) 0 rfl rfl) rfl rfl hl.1 rfl (lv_room (Nat.le_of_ble_eq_true rfl)) d_Reader_startGeneralRow_12 ⟨Nat.le_of_ble_eq_true rfl, Nat.le_of_ble_eq_true rfl⟩)) (fun r u H locs hw hP hD hS => ?_)
    obtain ⟨hw1, hw2⟩ := hw
    have hw1 := hw1.symm
    have hw2 := hw2.symm
    subst hw1
    subst hw2
    have hP : va_P (dC, dI) vwCl (uw_Reader ad_rd cA_rd u2.2 ++ (uw_Table ad_tb cA_tb tb)) H := hP
    have hD : va_D A (uw_Reader ad_rd cA_rd u2.2 ++ (uw_Table ad_tb cA_tb tb)) := hD
    exact ret u2.1 (u2.2, tb) H locs ls 15 d_Reader_startGeneralRow_15 (hf_e hf) hP hD hS
noncomputable def f_Reader_readRow (rd : SReader) (tb : STable) : Option (Bool × SReader × STable) :=
  (Option.bind (f_Reader_peek rd) fun u1 =>
    (if u1.1 = (109 : Int32) then
      (Option.bind (f_Reader_startMaterial u1.2 tb) fun u3 =>
        (if (bI u3.1) = 0 then
          (some (false, u3.2.1, u3.2.2))
         else
          (Option.bind (f_Reader_readNames u3.2.1 u3.2.2 u3.2.2.2.2.2.2.1) fun u5 =>
            (if (bI u5.1) = 0 then
              (some (false, u5.2.1, u5.2.2))
             else
              (Option.bind (f_Reader_readClass u5.2.1 u5.2.2 u5.2.2.2.2.2.2.1) fun u7 =>
                (if (bI u7.1) = 0 then
                  (some (false, u7.2.1, u7.2.2))
                 else
                  (Option.bind (f_Reader_readDue u7.2.1 u7.2.2 u7.2.2.2.2.2.2.1) fun u9 =>
                    (if (bI u9.1) = 0 then
                      (some (false, u9.2.1, u9.2.2))
                     else
                      (Option.bind (f_Reader_readOtherClasses u9.2.1 u9.2.2 u9.2.2.2.2.2.2.1) fun u11 =>
                        (if (bI u11.1) = 0 then
                          (some (false, u11.2.1, u11.2.2))
                         else
                          (Option.bind (f_Reader_take u11.2.1 (59 : Int32)) fun u13 =>
                            (if (bI u13.1) = 0 then
                              (some (false, u13.2, u11.2.2))
                             else
                              (some (true, u13.2, u11.2.2))
                             )
                           )
                         )
                       )
                     )
                   )
                 )
               )
             )
           )
         )
       )
     else
    (if u1.1 = (122 : Int32) then
      (Option.bind (f_Reader_startGeneralRow u1.2 tb) fun u16 =>
        (if (bI u16.1) = 0 then
          (some (false, u16.2.1, u16.2.2))
         else
          (Option.bind (f_Reader_readDue u16.2.1 u16.2.2 (0 : Int32)) fun u18 =>
            (if (bI u18.1) = 0 then
              (some (false, u18.2.1, u18.2.2))
             else
              (Option.bind (f_Reader_take u18.2.1 (59 : Int32)) fun u20 =>
                (if (bI u20.1) = 0 then
                  (some (false, u20.2, u18.2.2))
                 else
                  (some (true, u20.2, u18.2.2))
                 )
               )
             )
           )
         )
       )
     else
      (Option.bind (f_Reader_wrong u1.2 u1.2.2.2.1) fun u22 =>
        (some (u22.1, u22.2, tb))
       )
     ))
   )
set_option maxHeartbeats 4000000 in
set_option maxRecDepth 100000 in
theorem k_Reader_readRow (l : Launch) (dC : Nat → ClassId) (dI : Nat → Nat → Nat) (ad_rd : Nat → Nat) (cA_rd : Nat → ClassId) (ad_tb : Nat → Nat) (cA_tb : Nat → ClassId) (sz : Nat) (rd : SReader) (tb : STable) (res : Bool × SReader × STable) (hf : f_Reader_readRow rd tb = some res) : Met l y_Reader_readRow w_Reader_readRow ({ frames := 4, cells := 0, slots := 0, locals := 95 }) (cPc (dC, dI) (uw_Reader ad_rd cA_rd rd ++ (uw_Table ad_tb cA_tb tb)) [(cA_rd 1, .int), (cA_tb 1, .int), (cA_tb 2, .int), (cA_tb 3, .int), (cA_tb 4, .byte)] sz [.ref (ad_rd 0), .ref (ad_tb 0)]) (va_Qi (fun (r : Int32) (u : SReader × STable) => r = bI res.1 ∧ u = res.2) (fun (u : SReader × STable) (t : State) => va_P (dC, dI) vwCl (uw_Reader ad_rd cA_rd u.1 ++ (uw_Table ad_tb cA_tb u.2)) t.heap ∧ va_K (dC, dI) vwCl [(cA_rd 1, .int), (cA_tb 1, .int), (cA_tb 2, .int), (cA_tb 3, .int), (cA_tb 4, .byte)] t ∧ va_D (va_A (uw_Reader ad_rd cA_rd rd ++ (uw_Table ad_tb cA_tb tb)) sz) (uw_Reader ad_rd cA_rd u.1 ++ (uw_Table ad_tb cA_tb u.2))) (va_A (uw_Reader ad_rd cA_rd rd ++ (uw_Table ad_tb cA_tb tb)) sz)) 0 0 (va_A (uw_Reader ad_rd cA_rd rd ++ (uw_Table ad_tb cA_tb tb)) sz) := by
  refine Met.ofW (cc := b_Reader_readRow) (maxL := 2) (ret := (some .boolean)) (by decide) rfl ?_
  intro p e s m args below meth c s₁ B hml hv
  obtain ⟨rfl, hsz, hP, hK, hD0, hN⟩ := hv
  have hx := B.exec
  have hb := B.bytes
  have hr := B.returns
  have hts := atoms_spec (ws := w_Reader_readRow) B.pre
  have hown : s.vm.findClass "HazardTables$Reader" = some m.cls := findClass_of_methodNamed B.named
  have hlocks := B.notSynchronized
  subst hsz
  have hD := hD0.self (sz := s.heap.size)
  generalize hAe : va_A (uw_Reader ad_rd cA_rd rd ++ (uw_Table ad_tb cA_tb tb)) s.heap.size = A at hD ⊢
  have hA : ∀ q : Nat, s.heap.size ≤ q → A q := fun q h => by rw [← hAe]; exact Or.inr h
  have hS : va_S A s.heap s.heap [] := va_S.rf
  have hP : va_P (dC, dI) vwCl (uw_Reader ad_rd cA_rd rd ++ (uw_Table ad_tb cA_tb tb)) s.heap := hP
  have fl_31 := (hts _ (List.mem_cons_of_mem _ wd_74))
  have fl_45 := (hts _ (List.mem_cons_of_mem _ wd_187))
  have hin_Reader : ∀ w ∈ u_ws "HazardTables$Reader" F_Reader 5, w ∈ w_Reader_readRow := fun w h => List.mem_cons_of_mem _ (hinA_Reader w h)
  have hin_Table : ∀ w ∈ u_ws "HazardTables$Table" F_Table 6, w ∈ w_Reader_readRow := fun w h => List.mem_cons_of_mem _ (hinA_Table w h)
  have ret : ∀ (v : Bool) (u : SReader × STable) (H : Heap) (locs : List Loc) (ls : Array Slot) (pc : Nat), decode b_Reader_readRow pc = .ok (.ireturn, 1) → (v = res.1 ∧ u = res.2) → va_P (dC, dI) vwCl (uw_Reader ad_rd cA_rd u.1 ++ (uw_Table ad_tb cA_tb u.2)) H → va_D A (uw_Reader ad_rd cA_rd u.1 ++ (uw_Table ad_tb cA_tb u.2)) → va_S A s.heap H locs → W p l e (headSpec w_Reader_readRow ({ frames := 4, cells := 0, slots := 0, locals := 95 })).room s m ([.ref (ad_rd 0), .ref (ad_tb 0)] : List Value).toArray below meth c H locs 0 0 (MQ below (va_Qi (fun (r : Int32) (u : SReader × STable) => r = bI res.1 ∧ u = res.2) (fun (u : SReader × STable) (t : State) => va_P (dC, dI) vwCl (uw_Reader ad_rd cA_rd u.1 ++ (uw_Table ad_tb cA_tb u.2)) t.heap ∧ va_K (dC, dI) vwCl [(cA_rd 1, .int), (cA_tb 1, .int), (cA_tb 2, .int), (cA_tb 3, .int), (cA_tb 4, .byte)] t ∧ va_D A (uw_Reader ad_rd cA_rd u.1 ++ (uw_Table ad_tb cA_tb u.2))) A) ([.ref (ad_rd 0), .ref (ad_tb 0)] : List Value).toArray s 0 0 A) (F0 m pc ls [.int (bI v)]) := fun v u H locs ls pc hd hp hP hD hS => W.zret (v := bI v) (ty := .boolean) hx hb hr (nar_bI v) (fun t ht hW => ⟨⟨bI v, u, rfl, ⟨by rw [hp.1], hp.2⟩, by rw [ht]; exact hP, va_K.moved hW.alike hK, hD⟩, hS.F ht⟩) hS.2.2 hd
  generalize (MQ below (va_Qi (fun (r : Int32) (u : SReader × STable) => r = bI res.1 ∧ u = res.2) (fun (u : SReader × STable) (t : State) => va_P (dC, dI) vwCl (uw_Reader ad_rd cA_rd u.1 ++ (uw_Table ad_tb cA_tb u.2)) t.heap ∧ va_K (dC, dI) vwCl [(cA_rd 1, .int), (cA_tb 1, .int), (cA_tb 2, .int), (cA_tb 3, .int), (cA_tb 4, .byte)] t ∧ va_D A (uw_Reader ad_rd cA_rd u.1 ++ (uw_Table ad_tb cA_tb u.2))) A) ([.ref (ad_rd 0), .ref (ad_tb 0)] : List Value).toArray s 0 0 A) = Q at ret ⊢
  have hl := lv_entry ([.ref (ad_rd 0), .ref (ad_tb 0)]) (n := 2) (Nat.le_of_ble_eq_true rfl)
  rw [lg_entry_eq]
  generalize (lg_sl ([.ref (ad_rd 0), .ref (ad_tb 0)]) ++ List.replicate (2 - (lg_sl ([.ref (ad_rd 0), .ref (ad_tb 0)])).length) Slot.unset).toArray = ls at hl ⊢
  have hl : lv_has ls 2 [(0, .ref (ad_rd 0)), (1, .ref (ad_tb 0))] := hl
  have hf := hf
  rw [f_Reader_readRow] at hf
  obtain ⟨H, hH⟩ : ∃ H : Heap, H = s.heap := ⟨_, rfl⟩
  obtain ⟨locs, hlocs⟩ : ∃ L : List Loc, L = [] := ⟨_, rfl⟩
  have hP : va_P (dC, dI) vwCl (uw_Reader ad_rd cA_rd rd ++ (uw_Table ad_tb cA_tb tb)) H := by rw [hH]; exact hP
  have hS : va_S A s.heap H locs := by rw [hH, hlocs]; exact hS
  show W p l e (headSpec w_Reader_readRow ({ frames := 4, cells := 0, slots := 0, locals := 95 })).room s m ([.ref (ad_rd 0), .ref (ad_tb 0)] : List Value).toArray below meth c s.heap [] 0 0 Q (F0 m 0 ls [])
  suffices hgo : W p l e (headSpec w_Reader_readRow ({ frames := 4, cells := 0, slots := 0, locals := 95 })).room s m ([.ref (ad_rd 0), .ref (ad_tb 0)] : List Value).toArray below meth c H locs 0 0 Q (F0 m 0 ls []) by rw [hH, hlocs] at hgo; exact hgo
  clear hH hlocs
  refine lv_aload_n hx hb d_Reader_readRow_0 rfl (lv_at hl 0 rfl) ?_
  obtain ⟨u1, hu1, hf⟩ := Option.bind_eq_some_iff.mp hf
  refine cl_i (wc := (uw_Reader ad_rd cA_rd rd)) (wr := (uw_Table ad_tb cA_tb tb)) (tysC := [(cA_rd 1, .int)]) (wu := fun (u : SReader) => (uw_Reader ad_rd cA_rd u)) (wn := fun (u : SReader) => (uw_Reader ad_rd cA_rd u ++ (uw_Table ad_tb cA_tb tb))) [0, 1] [2, 3, 4, 5, 6] [5, 6, 0, 1, 2, 3, 4] [0] hP hD hS hA hK rfl rfl (by decide +kernel) (by decide +kernel) (by decide +kernel) rfl (fun _ => rfl) (by decide +kernel) (fun hPc hKc hDc => (va_runV (As := []) (rest := []) ⟨hx, hb, hml, hown, hts⟩ (k_Reader_peek l dC dI ad_rd cA_rd H.size rd u1 hu1) (cwV 0 hts (gV wd_358 wd_360 wd_1 wd_44 wd_361) rfl rfl rfl (by decide +kernel) ⟨Nat.le_of_ble_eq_true rfl, Nat.le_of_ble_eq_true rfl⟩) (cl_preV hPc hKc hDc hN (ci := 1) 0 rfl rfl) rfl rfl hl.1 rfl (lv_room (Nat.le_of_ble_eq_true rfl)) d_Reader_readRow_1 ⟨Nat.le_of_ble_eq_true rfl, Nat.le_of_ble_eq_true rfl⟩)) (fun r u H locs hw hP hD hS => ?_)
  obtain ⟨hw1, hw2⟩ := hw
  have hw1 := hw1.symm
  have hw2 := hw2.symm
  subst hw1
  subst hw2
  have hP : va_P (dC, dI) vwCl (uw_Reader ad_rd cA_rd u1.2 ++ (uw_Table ad_tb cA_tb tb)) H := hP
  have hD : va_D A (uw_Reader ad_rd cA_rd u1.2 ++ (uw_Table ad_tb cA_tb tb)) := hD
  by_cases hc2 : u1.1 = (109 : Int32)
  · have hf := hf_t hf hc2
    refine lv_lookup (off := 28) (tgt := 32) hx hb d_Reader_readRow_4 (by decide) (by rw [hc2]; rfl) (by decide) ?_
    refine lv_aload_n hx hb d_Reader_readRow_32 rfl (lv_at hl 0 rfl) ?_
    refine lv_aload_n hx hb d_Reader_readRow_33 rfl (lv_at hl 1 rfl) ?_
    obtain ⟨u3, hu3, hf⟩ := Option.bind_eq_some_iff.mp hf
    refine cl_i (wc := (uw_Reader ad_rd cA_rd u1.2 ++ (uw_Table ad_tb cA_tb tb))) (wr := []) (tysC := [(cA_rd 1, .int), (cA_tb 1, .int), (cA_tb 2, .int), (cA_tb 3, .int), (cA_tb 4, .byte)]) (wu := fun (u : SReader × STable) => (uw_Reader ad_rd cA_rd u.1 ++ (uw_Table ad_tb cA_tb u.2))) (wn := fun (u : SReader × STable) => (uw_Reader ad_rd cA_rd u.1 ++ (uw_Table ad_tb cA_tb u.2))) [0, 1, 2, 3, 4, 5, 6] [] [0, 1, 2, 3, 4, 5, 6] [0, 1, 2, 3, 4] hP hD hS hA hK rfl rfl (by decide +kernel) (by decide +kernel) (by decide +kernel) rfl (fun _ => rfl) (by decide +kernel) (fun hPc hKc hDc => (va_runV (As := [.ref (ad_tb 0)]) (rest := []) ⟨hx, hb, hml, hown, hts⟩ (k_Reader_startMaterial l dC dI ad_rd cA_rd ad_tb cA_tb H.size u1.2 tb u3 hu3) (cwV 1 hts (gV wd_366 wd_368 wd_3 wd_44 wd_369) rfl rfl rfl (by decide +kernel) ⟨Nat.le_of_ble_eq_true rfl, Nat.le_of_ble_eq_true rfl⟩) (cl_preV hPc hKc hDc hN (ci := 1) 0 rfl rfl) rfl rfl hl.1 rfl (lv_room (Nat.le_of_ble_eq_true rfl)) d_Reader_readRow_34 ⟨Nat.le_of_ble_eq_true rfl, Nat.le_of_ble_eq_true rfl⟩)) (fun r u H locs hw hP hD hS => ?_)
    obtain ⟨hw1, hw2⟩ := hw
    have hw1 := hw1.symm
    have hw2 := hw2.symm
    subst hw1
    subst hw2
    have hP : va_P (dC, dI) vwCl (uw_Reader ad_rd cA_rd u3.2.1 ++ (uw_Table ad_tb cA_tb u3.2.2)) H := hP
    have hD : va_D A (uw_Reader ad_rd cA_rd u3.2.1 ++ (uw_Table ad_tb cA_tb u3.2.2)) := hD
    refine lv_if_eq (tgt := 101) hx hb d_Reader_readRow_37 (by decide) (fun hc4 => ?_) (fun hc4 => ?_)
    · have hf := hf_t hf hc4
      refine lv_iconst (v := (0 : Int32)) hx hb d_Reader_readRow_101 (by decide) ?_
      exact ret false (u3.2.1, u3.2.2) H locs ls 102 d_Reader_readRow_102 (hf_e hf) hP hD hS
    · have hf := hf_f hf hc4
      refine lv_aload_n hx hb d_Reader_readRow_40 rfl (lv_at hl 0 rfl) ?_
      refine lv_aload_n hx hb d_Reader_readRow_41 rfl (lv_at hl 1 rfl) ?_
      refine lv_aload_n hx hb d_Reader_readRow_42 rfl (lv_at hl 1 rfl) ?_
      refine va_get (D := (dC, dI)) (ci := 4) (v := .int u3.2.2.2.2.2.2.1) (C := "HazardTables$Table") (T := F_Table) (N := 6) hx hb hts hin_Table hown hK hP 2 rfl rfl 4 (by decide) fl_45 (fun _ h9 => h9) rfl d_Reader_readRow_43 ?_
      obtain ⟨u5, hu5, hf⟩ := Option.bind_eq_some_iff.mp hf
      refine cl_i (wc := (uw_Reader ad_rd cA_rd u3.2.1 ++ (uw_Table ad_tb cA_tb u3.2.2))) (wr := []) (tysC := [(cA_rd 1, .int), (cA_tb 1, .int), (cA_tb 2, .int), (cA_tb 3, .int), (cA_tb 4, .byte)]) (wu := fun (u : SReader × STable) => (uw_Reader ad_rd cA_rd u.1 ++ (uw_Table ad_tb cA_tb u.2))) (wn := fun (u : SReader × STable) => (uw_Reader ad_rd cA_rd u.1 ++ (uw_Table ad_tb cA_tb u.2))) [0, 1, 2, 3, 4, 5, 6] [] [0, 1, 2, 3, 4, 5, 6] [0, 1, 2, 3, 4] hP hD hS hA hK rfl rfl (by decide +kernel) (by decide +kernel) (by decide +kernel) rfl (fun _ => rfl) (by decide +kernel) (fun hPc hKc hDc => (va_runV (As := [.ref (ad_tb 0), .int u3.2.2.2.2.2.2.1]) (rest := []) ⟨hx, hb, hml, hown, hts⟩ (k_Reader_readNames l dC dI ad_rd cA_rd ad_tb cA_tb H.size u3.2.1 u3.2.2 u3.2.2.2.2.2.2.1 u5 hu5) (cwV 2 hts (gV wd_398 wd_400 wd_7 wd_44 wd_401) rfl rfl rfl (by decide +kernel) ⟨Nat.le_of_ble_eq_true rfl, Nat.le_of_ble_eq_true rfl⟩) (cl_preV hPc hKc hDc hN (ci := 1) 0 rfl rfl) rfl rfl hl.1 rfl (lv_room (Nat.le_of_ble_eq_true rfl)) d_Reader_readRow_46 ⟨Nat.le_of_ble_eq_true rfl, Nat.le_of_ble_eq_true rfl⟩)) (fun r u H locs hw hP hD hS => ?_)
      obtain ⟨hw1, hw2⟩ := hw
      have hw1 := hw1.symm
      have hw2 := hw2.symm
      subst hw1
      subst hw2
      have hP : va_P (dC, dI) vwCl (uw_Reader ad_rd cA_rd u5.2.1 ++ (uw_Table ad_tb cA_tb u5.2.2)) H := hP
      have hD : va_D A (uw_Reader ad_rd cA_rd u5.2.1 ++ (uw_Table ad_tb cA_tb u5.2.2)) := hD
      refine lv_if_eq (tgt := 101) hx hb d_Reader_readRow_49 (by decide) (fun hc6 => ?_) (fun hc6 => ?_)
      · have hf := hf_t hf hc6
        refine lv_iconst (v := (0 : Int32)) hx hb d_Reader_readRow_101 (by decide) ?_
        exact ret false (u5.2.1, u5.2.2) H locs ls 102 d_Reader_readRow_102 (hf_e hf) hP hD hS
      · have hf := hf_f hf hc6
        refine lv_aload_n hx hb d_Reader_readRow_52 rfl (lv_at hl 0 rfl) ?_
        refine lv_aload_n hx hb d_Reader_readRow_53 rfl (lv_at hl 1 rfl) ?_
        refine lv_aload_n hx hb d_Reader_readRow_54 rfl (lv_at hl 1 rfl) ?_
        refine va_get (D := (dC, dI)) (ci := 4) (v := .int u5.2.2.2.2.2.2.1) (C := "HazardTables$Table") (T := F_Table) (N := 6) hx hb hts hin_Table hown hK hP 2 rfl rfl 4 (by decide) fl_45 (fun _ h9 => h9) rfl d_Reader_readRow_55 ?_
        obtain ⟨u7, hu7, hf⟩ := Option.bind_eq_some_iff.mp hf
        refine cl_i (wc := (uw_Reader ad_rd cA_rd u5.2.1 ++ (uw_Table ad_tb cA_tb u5.2.2))) (wr := []) (tysC := [(cA_rd 1, .int), (cA_tb 1, .int), (cA_tb 2, .int), (cA_tb 3, .int), (cA_tb 4, .byte)]) (wu := fun (u : SReader × STable) => (uw_Reader ad_rd cA_rd u.1 ++ (uw_Table ad_tb cA_tb u.2))) (wn := fun (u : SReader × STable) => (uw_Reader ad_rd cA_rd u.1 ++ (uw_Table ad_tb cA_tb u.2))) [0, 1, 2, 3, 4, 5, 6] [] [0, 1, 2, 3, 4, 5, 6] [0, 1, 2, 3, 4] hP hD hS hA hK rfl rfl (by decide +kernel) (by decide +kernel) (by decide +kernel) rfl (fun _ => rfl) (by decide +kernel) (fun hPc hKc hDc => (va_runV (As := [.ref (ad_tb 0), .int u5.2.2.2.2.2.2.1]) (rest := []) ⟨hx, hb, hml, hown, hts⟩ (k_Reader_readClass l dC dI ad_rd cA_rd ad_tb cA_tb H.size u5.2.1 u5.2.2 u5.2.2.2.2.2.2.1 u7 hu7) (cwV 2 hts (gV wd_425 wd_427 wd_10 wd_44 wd_428) rfl rfl rfl (by decide +kernel) ⟨Nat.le_of_ble_eq_true rfl, Nat.le_of_ble_eq_true rfl⟩) (cl_preV hPc hKc hDc hN (ci := 1) 0 rfl rfl) rfl rfl hl.1 rfl (lv_room (Nat.le_of_ble_eq_true rfl)) d_Reader_readRow_58 ⟨Nat.le_of_ble_eq_true rfl, Nat.le_of_ble_eq_true rfl⟩)) (fun r u H locs hw hP hD hS => ?_)
        obtain ⟨hw1, hw2⟩ := hw
        have hw1 := hw1.symm
        have hw2 := hw2.symm
        subst hw1
        subst hw2
        have hP : va_P (dC, dI) vwCl (uw_Reader ad_rd cA_rd u7.2.1 ++ (uw_Table ad_tb cA_tb u7.2.2)) H := hP
        have hD : va_D A (uw_Reader ad_rd cA_rd u7.2.1 ++ (uw_Table ad_tb cA_tb u7.2.2)) := hD
        refine lv_if_eq (tgt := 101) hx hb d_Reader_readRow_61 (by decide) (fun hc8 => ?_) (fun hc8 => ?_)
        · have hf := hf_t hf hc8
          refine lv_iconst (v := (0 : Int32)) hx hb d_Reader_readRow_101 (by decide) ?_
          exact ret false (u7.2.1, u7.2.2) H locs ls 102 d_Reader_readRow_102 (hf_e hf) hP hD hS
        · have hf := hf_f hf hc8
          refine lv_aload_n hx hb d_Reader_readRow_64 rfl (lv_at hl 0 rfl) ?_
          refine lv_aload_n hx hb d_Reader_readRow_65 rfl (lv_at hl 1 rfl) ?_
          refine lv_aload_n hx hb d_Reader_readRow_66 rfl (lv_at hl 1 rfl) ?_
          refine va_get (D := (dC, dI)) (ci := 4) (v := .int u7.2.2.2.2.2.2.1) (C := "HazardTables$Table") (T := F_Table) (N := 6) hx hb hts hin_Table hown hK hP 2 rfl rfl 4 (by decide) fl_45 (fun _ h9 => h9) rfl d_Reader_readRow_67 ?_
          obtain ⟨u9, hu9, hf⟩ := Option.bind_eq_some_iff.mp hf
          refine cl_i (wc := (uw_Reader ad_rd cA_rd u7.2.1 ++ (uw_Table ad_tb cA_tb u7.2.2))) (wr := []) (tysC := [(cA_rd 1, .int), (cA_tb 1, .int), (cA_tb 2, .int), (cA_tb 3, .int), (cA_tb 4, .byte)]) (wu := fun (u : SReader × STable) => (uw_Reader ad_rd cA_rd u.1 ++ (uw_Table ad_tb cA_tb u.2))) (wn := fun (u : SReader × STable) => (uw_Reader ad_rd cA_rd u.1 ++ (uw_Table ad_tb cA_tb u.2))) [0, 1, 2, 3, 4, 5, 6] [] [0, 1, 2, 3, 4, 5, 6] [0, 1, 2, 3, 4] hP hD hS hA hK rfl rfl (by decide +kernel) (by decide +kernel) (by decide +kernel) rfl (fun _ => rfl) (by decide +kernel) (fun hPc hKc hDc => (va_runV (As := [.ref (ad_tb 0), .int u7.2.2.2.2.2.2.1]) (rest := []) ⟨hx, hb, hml, hown, hts⟩ (k_Reader_readDue l dC dI ad_rd cA_rd ad_tb cA_tb H.size u7.2.1 u7.2.2 u7.2.2.2.2.2.2.1 u9 hu9) (cwV 2 hts (gV wd_430 wd_432 wd_11 wd_44 wd_433) rfl rfl rfl (by decide +kernel) ⟨Nat.le_of_ble_eq_true rfl, Nat.le_of_ble_eq_true rfl⟩) (cl_preV hPc hKc hDc hN (ci := 1) 0 rfl rfl) rfl rfl hl.1 rfl (lv_room (Nat.le_of_ble_eq_true rfl)) d_Reader_readRow_70 ⟨Nat.le_of_ble_eq_true rfl, Nat.le_of_ble_eq_true rfl⟩)) (fun r u H locs hw hP hD hS => ?_)
          obtain ⟨hw1, hw2⟩ := hw
          have hw1 := hw1.symm
          have hw2 := hw2.symm
          subst hw1
          subst hw2
          have hP : va_P (dC, dI) vwCl (uw_Reader ad_rd cA_rd u9.2.1 ++ (uw_Table ad_tb cA_tb u9.2.2)) H := hP
          have hD : va_D A (uw_Reader ad_rd cA_rd u9.2.1 ++ (uw_Table ad_tb cA_tb u9.2.2)) := hD
          refine lv_if_eq (tgt := 101) hx hb d_Reader_readRow_73 (by decide) (fun hc10 => ?_) (fun hc10 => ?_)
          · have hf := hf_t hf hc10
            refine lv_iconst (v := (0 : Int32)) hx hb d_Reader_readRow_101 (by decide) ?_
            exact ret false (u9.2.1, u9.2.2) H locs ls 102 d_Reader_readRow_102 (hf_e hf) hP hD hS
          · have hf := hf_f hf hc10
            refine lv_aload_n hx hb d_Reader_readRow_76 rfl (lv_at hl 0 rfl) ?_
            refine lv_aload_n hx hb d_Reader_readRow_77 rfl (lv_at hl 1 rfl) ?_
            refine lv_aload_n hx hb d_Reader_readRow_78 rfl (lv_at hl 1 rfl) ?_
            refine va_get (D := (dC, dI)) (ci := 4) (v := .int u9.2.2.2.2.2.2.1) (C := "HazardTables$Table") (T := F_Table) (N := 6) hx hb hts hin_Table hown hK hP 2 rfl rfl 4 (by decide) fl_45 (fun _ h9 => h9) rfl d_Reader_readRow_79 ?_
            obtain ⟨u11, hu11, hf⟩ := Option.bind_eq_some_iff.mp hf
            refine cl_i (wc := (uw_Reader ad_rd cA_rd u9.2.1 ++ (uw_Table ad_tb cA_tb u9.2.2))) (wr := []) (tysC := [(cA_rd 1, .int), (cA_tb 1, .int), (cA_tb 2, .int), (cA_tb 3, .int), (cA_tb 4, .byte)]) (wu := fun (u : SReader × STable) => (uw_Reader ad_rd cA_rd u.1 ++ (uw_Table ad_tb cA_tb u.2))) (wn := fun (u : SReader × STable) => (uw_Reader ad_rd cA_rd u.1 ++ (uw_Table ad_tb cA_tb u.2))) [0, 1, 2, 3, 4, 5, 6] [] [0, 1, 2, 3, 4, 5, 6] [0, 1, 2, 3, 4] hP hD hS hA hK rfl rfl (by decide +kernel) (by decide +kernel) (by decide +kernel) rfl (fun _ => rfl) (by decide +kernel) (fun hPc hKc hDc => (va_runV (As := [.ref (ad_tb 0), .int u9.2.2.2.2.2.2.1]) (rest := []) ⟨hx, hb, hml, hown, hts⟩ (k_Reader_readOtherClasses l dC dI ad_rd cA_rd ad_tb cA_tb H.size u9.2.1 u9.2.2 u9.2.2.2.2.2.2.1 u11 hu11) (cwV 2 hts (gV wd_438 wd_440 wd_13 wd_44 wd_441) rfl rfl rfl (by decide +kernel) ⟨Nat.le_of_ble_eq_true rfl, Nat.le_of_ble_eq_true rfl⟩) (cl_preV hPc hKc hDc hN (ci := 1) 0 rfl rfl) rfl rfl hl.1 rfl (lv_room (Nat.le_of_ble_eq_true rfl)) d_Reader_readRow_82 ⟨Nat.le_of_ble_eq_true rfl, Nat.le_of_ble_eq_true rfl⟩)) (fun r u H locs hw hP hD hS => ?_)
            obtain ⟨hw1, hw2⟩ := hw
            have hw1 := hw1.symm
            have hw2 := hw2.symm
            subst hw1
            subst hw2
            have hP : va_P (dC, dI) vwCl (uw_Reader ad_rd cA_rd u11.2.1 ++ (uw_Table ad_tb cA_tb u11.2.2)) H := hP
            have hD : va_D A (uw_Reader ad_rd cA_rd u11.2.1 ++ (uw_Table ad_tb cA_tb u11.2.2)) := hD
            refine lv_if_eq (tgt := 101) hx hb d_Reader_readRow_85 (by decide) (fun hc12 => ?_) (fun hc12 => ?_)
            · have hf := hf_t hf hc12
              refine lv_iconst (v := (0 : Int32)) hx hb d_Reader_readRow_101 (by decide) ?_
              exact ret false (u11.2.1, u11.2.2) H locs ls 102 d_Reader_readRow_102 (hf_e hf) hP hD hS
            · have hf := hf_f hf hc12
              refine lv_aload_n hx hb d_Reader_readRow_88 rfl (lv_at hl 0 rfl) ?_
              refine lv_bipush (v := (59 : Int32)) hx hb d_Reader_readRow_89 (by decide) ?_
              obtain ⟨u13, hu13, hf⟩ := Option.bind_eq_some_iff.mp hf
              refine cl_i (wc := (uw_Reader ad_rd cA_rd u11.2.1)) (wr := (uw_Table ad_tb cA_tb u11.2.2)) (tysC := [(cA_rd 1, .int)]) (wu := fun (u : SReader) => (uw_Reader ad_rd cA_rd u)) (wn := fun (u : SReader) => (uw_Reader ad_rd cA_rd u ++ (uw_Table ad_tb cA_tb u11.2.2))) [0, 1] [2, 3, 4, 5, 6] [5, 6, 0, 1, 2, 3, 4] [0] hP hD hS hA hK rfl rfl (by decide +kernel) (by decide +kernel) (by decide +kernel) rfl (fun _ => rfl) (by decide +kernel) (fun hPc hKc hDc => (va_runV (As := [.int (59 : Int32)]) (rest := []) ⟨hx, hb, hml, hown, hts⟩ (k_Reader_take l dC dI ad_rd cA_rd H.size u11.2.1 (59 : Int32) u13 hu13) (cwV 1 hts (gV wd_406 wd_408 wd_9 wd_44 wd_409) rfl rfl rfl (by decide +kernel) ⟨Nat.le_of_ble_eq_true rfl, Nat.le_of_ble_eq_true rfl⟩) (cl_preV hPc hKc hDc hN (ci := 1) 0 rfl rfl) rfl rfl hl.1 rfl (lv_room (Nat.le_of_ble_eq_true rfl)) d_Reader_readRow_91 ⟨Nat.le_of_ble_eq_true rfl, Nat.le_of_ble_eq_true rfl⟩)) (fun r u H locs hw hP hD hS => ?_)
              obtain ⟨hw1, hw2⟩ := hw
              have hw1 := hw1.symm
              have hw2 := hw2.symm
              subst hw1
              subst hw2
              have hP : va_P (dC, dI) vwCl (uw_Reader ad_rd cA_rd u13.2 ++ (uw_Table ad_tb cA_tb u11.2.2)) H := hP
              have hD : va_D A (uw_Reader ad_rd cA_rd u13.2 ++ (uw_Table ad_tb cA_tb u11.2.2)) := hD
              refine lv_if_eq (tgt := 101) hx hb d_Reader_readRow_94 (by decide) (fun hc14 => ?_) (fun hc14 => ?_)
              · have hf := hf_t hf hc14
                refine lv_iconst (v := (0 : Int32)) hx hb d_Reader_readRow_101 (by decide) ?_
                exact ret false (u13.2, u11.2.2) H locs ls 102 d_Reader_readRow_102 (hf_e hf) hP hD hS
              · have hf := hf_f hf hc14
                refine lv_iconst (v := (1 : Int32)) hx hb d_Reader_readRow_97 (by decide) ?_
                refine lv_goto (tgt := 102) hx hb d_Reader_readRow_98 (by decide) ?_
                exact ret true (u13.2, u11.2.2) H locs ls 102 d_Reader_readRow_102 (hf_e hf) hP hD hS
  have hf := hf_f hf hc2
  by_cases hc15 : u1.1 = (122 : Int32)
  · have hf := hf_t hf hc15
    refine lv_lookup (off := 99) (tgt := 103) hx hb d_Reader_readRow_4 (by decide) (by rw [hc15]; rfl) (by decide) ?_
    refine lv_aload_n hx hb d_Reader_readRow_103 rfl (lv_at hl 0 rfl) ?_
    refine lv_aload_n hx hb d_Reader_readRow_104 rfl (lv_at hl 1 rfl) ?_
    obtain ⟨u16, hu16, hf⟩ := Option.bind_eq_some_iff.mp hf
    refine cl_i (wc := (uw_Reader ad_rd cA_rd u1.2 ++ (uw_Table ad_tb cA_tb tb))) (wr := []) (tysC := [(cA_rd 1, .int), (cA_tb 1, .int), (cA_tb 2, .int), (cA_tb 3, .int), (cA_tb 4, .byte)]) (wu := fun (u : SReader × STable) => (uw_Reader ad_rd cA_rd u.1 ++ (uw_Table ad_tb cA_tb u.2))) (wn := fun (u : SReader × STable) => (uw_Reader ad_rd cA_rd u.1 ++ (uw_Table ad_tb cA_tb u.2))) [0, 1, 2, 3, 4, 5, 6] [] [0, 1, 2, 3, 4, 5, 6] [0, 1, 2, 3, 4] hP hD hS hA hK rfl rfl (by decide +kernel) (by decide +kernel) (by decide +kernel) rfl (fun _ => rfl) (by decide +kernel) (fun hPc hKc hDc => (va_runV (As := [.ref (ad_tb 0)]) (rest := []) ⟨hx, hb, hml, hown, hts⟩ (k_Reader_startGeneralRow l dC dI ad_rd cA_rd ad_tb cA_tb H.size u1.2 tb u16 hu16) (cwV 1 hts (gV wd_442 wd_444 wd_14 wd_44 wd_445) rfl rfl rfl (by decide +kernel) ⟨Nat.le_of_ble_eq_true rfl, Nat.le_of_ble_eq_true rfl⟩) (cl_preV hPc hKc hDc hN (ci := 1) 0 rfl rfl) rfl rfl hl.1 rfl (lv_room (Nat.le_of_ble_eq_true rfl)) d_Reader_readRow_105 ⟨Nat.le_of_ble_eq_true rfl, Nat.le_of_ble_eq_true rfl⟩)) (fun r u H locs hw hP hD hS => ?_)
    obtain ⟨hw1, hw2⟩ := hw
    have hw1 := hw1.symm
    have hw2 := hw2.symm
    subst hw1
    subst hw2
    have hP : va_P (dC, dI) vwCl (uw_Reader ad_rd cA_rd u16.2.1 ++ (uw_Table ad_tb cA_tb u16.2.2)) H := hP
    have hD : va_D A (uw_Reader ad_rd cA_rd u16.2.1 ++ (uw_Table ad_tb cA_tb u16.2.2)) := hD
    refine lv_if_eq (tgt := 133) hx hb d_Reader_readRow_108 (by decide) (fun hc17 => ?_) (fun hc17 => ?_)
    · have hf := hf_t hf hc17
      refine lv_iconst (v := (0 : Int32)) hx hb d_Reader_readRow_133 (by decide) ?_
      exact ret false (u16.2.1, u16.2.2) H locs ls 134 d_Reader_readRow_134 (hf_e hf) hP hD hS
    · have hf := hf_f hf hc17
      refine lv_aload_n hx hb d_Reader_readRow_111 rfl (lv_at hl 0 rfl) ?_
      refine lv_aload_n hx hb d_Reader_readRow_112 rfl (lv_at hl 1 rfl) ?_
      refine lv_iconst (v := (0 : Int32)) hx hb d_Reader_readRow_113 (by decide) ?_
      obtain ⟨u18, hu18, hf⟩ := Option.bind_eq_some_iff.mp hf
      refine cl_i (wc := (uw_Reader ad_rd cA_rd u16.2.1 ++ (uw_Table ad_tb cA_tb u16.2.2))) (wr := []) (tysC := [(cA_rd 1, .int), (cA_tb 1, .int), (cA_tb 2, .int), (cA_tb 3, .int), (cA_tb 4, .byte)]) (wu := fun (u : SReader × STable) => (uw_Reader ad_rd cA_rd u.1 ++ (uw_Table ad_tb cA_tb u.2))) (wn := fun (u : SReader × STable) => (uw_Reader ad_rd cA_rd u.1 ++ (uw_Table ad_tb cA_tb u.2))) [0, 1, 2, 3, 4, 5, 6] [] [0, 1, 2, 3, 4, 5, 6] [0, 1, 2, 3, 4] hP hD hS hA hK rfl rfl (by decide +kernel) (by decide +kernel) (by decide +kernel) rfl (fun _ => rfl) (by decide +kernel) (fun hPc hKc hDc => (va_runV (As := [.ref (ad_tb 0), .int (0 : Int32)]) (rest := []) ⟨hx, hb, hml, hown, hts⟩ (k_Reader_readDue l dC dI ad_rd cA_rd ad_tb cA_tb H.size u16.2.1 u16.2.2 (0 : Int32) u18 hu18) (cwV 2 hts (gV wd_430 wd_432 wd_11 wd_44 wd_433) rfl rfl rfl (by decide +kernel) ⟨Nat.le_of_ble_eq_true rfl, Nat.le_of_ble_eq_true rfl⟩) (cl_preV hPc hKc hDc hN (ci := 1) 0 rfl rfl) rfl rfl hl.1 rfl (lv_room (Nat.le_of_ble_eq_true rfl)) d_Reader_readRow_114 ⟨Nat.le_of_ble_eq_true rfl, Nat.le_of_ble_eq_true rfl⟩)) (fun r u H locs hw hP hD hS => ?_)
      obtain ⟨hw1, hw2⟩ := hw
      have hw1 := hw1.symm
      have hw2 := hw2.symm
      subst hw1
      subst hw2
      have hP : va_P (dC, dI) vwCl (uw_Reader ad_rd cA_rd u18.2.1 ++ (uw_Table ad_tb cA_tb u18.2.2)) H := hP
      have hD : va_D A (uw_Reader ad_rd cA_rd u18.2.1 ++ (uw_Table ad_tb cA_tb u18.2.2)) := hD
      refine lv_if_eq (tgt := 133) hx hb d_Reader_readRow_117 (by decide) (fun hc19 => ?_) (fun hc19 => ?_)
      · have hf := hf_t hf hc19
        refine lv_iconst (v := (0 : Int32)) hx hb d_Reader_readRow_133 (by decide) ?_
        exact ret false (u18.2.1, u18.2.2) H locs ls 134 d_Reader_readRow_134 (hf_e hf) hP hD hS
      · have hf := hf_f hf hc19
        refine lv_aload_n hx hb d_Reader_readRow_120 rfl (lv_at hl 0 rfl) ?_
        refine lv_bipush (v := (59 : Int32)) hx hb d_Reader_readRow_121 (by decide) ?_
        obtain ⟨u20, hu20, hf⟩ := Option.bind_eq_some_iff.mp hf
        refine cl_i (wc := (uw_Reader ad_rd cA_rd u18.2.1)) (wr := (uw_Table ad_tb cA_tb u18.2.2)) (tysC := [(cA_rd 1, .int)]) (wu := fun (u : SReader) => (uw_Reader ad_rd cA_rd u)) (wn := fun (u : SReader) => (uw_Reader ad_rd cA_rd u ++ (uw_Table ad_tb cA_tb u18.2.2))) [0, 1] [2, 3, 4, 5, 6] [5, 6, 0, 1, 2, 3, 4] [0] hP hD hS hA hK rfl rfl (by decide +kernel) (by decide +kernel) (by decide +kernel) rfl (fun _ => rfl) (by decide +kernel) (fun hPc hKc hDc => (va_runV (As := [.int (59 : Int32)]) (rest := []) ⟨hx, hb, hml, hown, hts⟩ (k_Reader_take l dC dI ad_rd cA_rd H.size u18.2.1 (59 : Int32) u20 hu20) (cwV 1 hts (gV wd_406 wd_408 wd_9 wd_44 wd_409) rfl rfl rfl (by decide +kernel) ⟨Nat.le_of_ble_eq_true rfl, Nat.le_of_ble_eq_true rfl⟩) (cl_preV hPc hKc hDc hN (ci := 1) 0 rfl rfl) rfl rfl hl.1 rfl (lv_room (Nat.le_of_ble_eq_true rfl)) d_Reader_readRow_123 ⟨Nat.le_of_ble_eq_true rfl, Nat.le_of_ble_eq_true rfl⟩)) (fun r u H locs hw hP hD hS => ?_)
        obtain ⟨hw1, hw2⟩ := hw
        have hw1 := hw1.symm
        have hw2 := hw2.symm
        subst hw1
        subst hw2
        have hP : va_P (dC, dI) vwCl (uw_Reader ad_rd cA_rd u20.2 ++ (uw_Table ad_tb cA_tb u18.2.2)) H := hP
        have hD : va_D A (uw_Reader ad_rd cA_rd u20.2 ++ (uw_Table ad_tb cA_tb u18.2.2)) := hD
        refine lv_if_eq (tgt := 133) hx hb d_Reader_readRow_126 (by decide) (fun hc21 => ?_) (fun hc21 => ?_)
        · have hf := hf_t hf hc21
          refine lv_iconst (v := (0 : Int32)) hx hb d_Reader_readRow_133 (by decide) ?_
          exact ret false (u20.2, u18.2.2) H locs ls 134 d_Reader_readRow_134 (hf_e hf) hP hD hS
        · have hf := hf_f hf hc21
          refine lv_iconst (v := (1 : Int32)) hx hb d_Reader_readRow_129 (by decide) ?_
          refine lv_goto (tgt := 134) hx hb d_Reader_readRow_130 (by decide) ?_
          exact ret true (u20.2, u18.2.2) H locs ls 134 d_Reader_readRow_134 (hf_e hf) hP hD hS
  have hf := hf_f hf hc15
  refine lv_lookup (off := 131) (tgt := 135) hx hb d_Reader_readRow_4 (by decide) ((lv_osw hc2 rfl).trans ( (lv_osw hc15 rfl).trans (rfl))) (by decide) ?_
  refine lv_aload_n hx hb d_Reader_readRow_135 rfl (lv_at hl 0 rfl) ?_
  refine lv_aload_n hx hb d_Reader_readRow_136 rfl (lv_at hl 0 rfl) ?_
  refine va_get (D := (dC, dI)) (ci := 1) (v := .int u1.2.2.2.1) (C := "HazardTables$Reader") (T := F_Reader) (N := 5) hx hb hts hin_Reader hown hK hP 0 rfl rfl 2 (by decide) fl_31 (fun _ h9 => h9) rfl d_Reader_readRow_137 ?_
  obtain ⟨u22, hu22, hf⟩ := Option.bind_eq_some_iff.mp hf
  refine cl_i (wc := (uw_Reader ad_rd cA_rd u1.2)) (wr := (uw_Table ad_tb cA_tb tb)) (tysC := [(cA_rd 1, .int)]) (wu := fun (u : SReader) => (uw_Reader ad_rd cA_rd u)) (wn := fun (u : SReader) => (uw_Reader ad_rd cA_rd u ++ (uw_Table ad_tb cA_tb tb))) [0, 1] [2, 3, 4, 5, 6] [5, 6, 0, 1, 2, 3, 4] [0] hP hD hS hA hK rfl rfl (by decide +kernel) (by decide +kernel) (by decide +kernel) rfl (fun _ => rfl) (by decide +kernel) (fun hPc hKc hDc => (va_runV (As := [.int u1.2.2.2.1]) (rest := []) ⟨hx, hb, hml, hown, hts⟩ (k_Reader_wrong l dC dI ad_rd cA_rd H.size u1.2 u1.2.2.2.1 u22 hu22) (cwV 1 hts (gV wd_374 wd_376 wd_4 wd_44 wd_377) rfl rfl rfl (by decide +kernel) ⟨Nat.le_of_ble_eq_true rfl, Nat.le_of_ble_eq_true rfl⟩) (cl_preV hPc hKc hDc hN (ci := 1) 0 rfl rfl) rfl rfl hl.1 rfl (lv_room (Nat.le_of_ble_eq_true rfl)) d_Reader_readRow_140 ⟨Nat.le_of_ble_eq_true rfl, Nat.le_of_ble_eq_true rfl⟩)) (fun r u H locs hw hP hD hS => ?_)
  obtain ⟨hw1, hw2⟩ := hw
  have hw1 := hw1.symm
  have hw2 := hw2.symm
  subst hw1
  subst hw2
  have hP : va_P (dC, dI) vwCl (uw_Reader ad_rd cA_rd u22.2 ++ (uw_Table ad_tb cA_tb tb)) H := hP
  have hD : va_D A (uw_Reader ad_rd cA_rd u22.2 ++ (uw_Table ad_tb cA_tb tb)) := hD
  exact ret u22.1 (u22.2, tb) H locs ls 143 d_Reader_readRow_143 (hf_e hf) hP hD hS
noncomputable def f_Reader_fill_18  : Nat → SReader → STable → Bool → Int32 → Option (Bool × SReader × STable)
  | 0, _, _, _, _ => none
  | n + 1, rd, tb, y2, y3 =>
    (if (400 : Int32) ≤ y3 then
      (some (y2, (rd.1, (0 : Int32), rd.2.2.1, rd.2.2.2.1, rd.2.2.2.2), tb))
     else
      (if (bI y2) = 0 then
        (some (y2, (rd.1, (0 : Int32), rd.2.2.1, rd.2.2.2.1, rd.2.2.2.2), tb))
       else
        (Option.bind (f_Reader_peek rd) fun u4 =>
          (if u4.1 = (-1 : Int32) then
            (some (y2, (u4.2.1, (0 : Int32), u4.2.2.2.1, u4.2.2.2.2.1, u4.2.2.2.2.2), tb))
           else
            (Option.bind (f_Reader_readRow u4.2 tb) fun u6 =>
              (f_Reader_fill_18 n u6.2.1 u6.2.2 u6.1 (y3 + (1 : Int32)))
             )
           )
         )
       )
     )
noncomputable def f_Reader_fill (rd : SReader) (tb : STable) : Option (Bool × SReader × STable) :=
  (Option.bind (f_Table_removeAll tb) fun u1 =>
    (f_Reader_fill_18 4096 (rd.1, rd.2.1, (0 : Int32), rd.2.2.2.1, (-1 : Int32)) u1 true (0 : Int32))
   )
set_option maxHeartbeats 4000000 in
set_option maxRecDepth 100000 in
theorem k_Reader_fill (l : Launch) (dC : Nat → ClassId) (dI : Nat → Nat → Nat) (ad_rd : Nat → Nat) (cA_rd : Nat → ClassId) (ad_tb : Nat → Nat) (cA_tb : Nat → ClassId) (sz : Nat) (rd : SReader) (tb : STable) (res : Bool × SReader × STable) (hf : f_Reader_fill rd tb = some res) : Met l y_Reader_fill w_Reader_fill ({ frames := 5, cells := 0, slots := 0, locals := 116 }) (cPc (dC, dI) (uw_Reader ad_rd cA_rd rd ++ (uw_Table ad_tb cA_tb tb)) [(cA_rd 1, .int), (cA_tb 1, .int), (cA_tb 2, .int), (cA_tb 3, .int), (cA_tb 4, .byte)] sz [.ref (ad_rd 0), .ref (ad_tb 0)]) (va_Qi (fun (r : Int32) (u : SReader × STable) => r = bI res.1 ∧ u = res.2) (fun (u : SReader × STable) (t : State) => va_P (dC, dI) vwCl (uw_Reader ad_rd cA_rd u.1 ++ (uw_Table ad_tb cA_tb u.2)) t.heap ∧ va_K (dC, dI) vwCl [(cA_rd 1, .int), (cA_tb 1, .int), (cA_tb 2, .int), (cA_tb 3, .int), (cA_tb 4, .byte)] t ∧ va_D (va_A (uw_Reader ad_rd cA_rd rd ++ (uw_Table ad_tb cA_tb tb)) sz) (uw_Reader ad_rd cA_rd u.1 ++ (uw_Table ad_tb cA_tb u.2))) (va_A (uw_Reader ad_rd cA_rd rd ++ (uw_Table ad_tb cA_tb tb)) sz)) 0 0 (va_A (uw_Reader ad_rd cA_rd rd ++ (uw_Table ad_tb cA_tb tb)) sz) := by
  refine Met.ofW (cc := b_Reader_fill) (maxL := 4) (ret := (some .boolean)) (by decide) rfl ?_
  intro p e s m args below meth c s₁ B hml hv
  obtain ⟨rfl, hsz, hP, hK, hD0, hN⟩ := hv
  have hx := B.exec
  have hb := B.bytes
  have hr := B.returns
  have hts := atoms_spec (ws := w_Reader_fill) B.pre
  have hown : s.vm.findClass "HazardTables$Reader" = some m.cls := findClass_of_methodNamed B.named
  have hlocks := B.notSynchronized
  subst hsz
  have hD := hD0.self (sz := s.heap.size)
  generalize hAe : va_A (uw_Reader ad_rd cA_rd rd ++ (uw_Table ad_tb cA_tb tb)) s.heap.size = A at hD ⊢
  have hA : ∀ q : Nat, s.heap.size ≤ q → A q := fun q h => by rw [← hAe]; exact Or.inr h
  have hS : va_S A s.heap s.heap [] := va_S.rf
  have hP : va_P (dC, dI) vwCl (uw_Reader ad_rd cA_rd rd ++ (uw_Table ad_tb cA_tb tb)) s.heap := hP
  have fl_15 := (hts _ (List.mem_cons_of_mem _ wd_76))
  have fl_19 := (hts _ (List.mem_cons_of_mem _ wd_73))
  have fl_31 := (hts _ (List.mem_cons_of_mem _ wd_74))
  have hin_Reader : ∀ w ∈ u_ws "HazardTables$Reader" F_Reader 5, w ∈ w_Reader_fill := fun w h => List.mem_cons_of_mem _ (hinA_Reader w h)
  have ret : ∀ (v : Bool) (u : SReader × STable) (H : Heap) (locs : List Loc) (ls : Array Slot) (pc : Nat), decode b_Reader_fill pc = .ok (.ireturn, 1) → (v = res.1 ∧ u = res.2) → va_P (dC, dI) vwCl (uw_Reader ad_rd cA_rd u.1 ++ (uw_Table ad_tb cA_tb u.2)) H → va_D A (uw_Reader ad_rd cA_rd u.1 ++ (uw_Table ad_tb cA_tb u.2)) → va_S A s.heap H locs → W p l e (headSpec w_Reader_fill ({ frames := 5, cells := 0, slots := 0, locals := 116 })).room s m ([.ref (ad_rd 0), .ref (ad_tb 0)] : List Value).toArray below meth c H locs 0 0 (MQ below (va_Qi (fun (r : Int32) (u : SReader × STable) => r = bI res.1 ∧ u = res.2) (fun (u : SReader × STable) (t : State) => va_P (dC, dI) vwCl (uw_Reader ad_rd cA_rd u.1 ++ (uw_Table ad_tb cA_tb u.2)) t.heap ∧ va_K (dC, dI) vwCl [(cA_rd 1, .int), (cA_tb 1, .int), (cA_tb 2, .int), (cA_tb 3, .int), (cA_tb 4, .byte)] t ∧ va_D A (uw_Reader ad_rd cA_rd u.1 ++ (uw_Table ad_tb cA_tb u.2))) A) ([.ref (ad_rd 0), .ref (ad_tb 0)] : List Value).toArray s 0 0 A) (F0 m pc ls [.int (bI v)]) := fun v u H locs ls pc hd hp hP hD hS => W.zret (v := bI v) (ty := .boolean) hx hb hr (nar_bI v) (fun t ht hW => ⟨⟨bI v, u, rfl, ⟨by rw [hp.1], hp.2⟩, by rw [ht]; exact hP, va_K.moved hW.alike hK, hD⟩, hS.F ht⟩) hS.2.2 hd
  generalize (MQ below (va_Qi (fun (r : Int32) (u : SReader × STable) => r = bI res.1 ∧ u = res.2) (fun (u : SReader × STable) (t : State) => va_P (dC, dI) vwCl (uw_Reader ad_rd cA_rd u.1 ++ (uw_Table ad_tb cA_tb u.2)) t.heap ∧ va_K (dC, dI) vwCl [(cA_rd 1, .int), (cA_tb 1, .int), (cA_tb 2, .int), (cA_tb 3, .int), (cA_tb 4, .byte)] t ∧ va_D A (uw_Reader ad_rd cA_rd u.1 ++ (uw_Table ad_tb cA_tb u.2))) A) ([.ref (ad_rd 0), .ref (ad_tb 0)] : List Value).toArray s 0 0 A) = Q at ret ⊢
  have w_18 : ∀ (n : Nat) (rd : SReader) (tb : STable) (y2 : Bool) (y3 : Int32) (H : Heap) (locs : List Loc) (ls : Array Slot), f_Reader_fill_18 n rd tb y2 y3 = some res → va_P (dC, dI) vwCl (uw_Reader ad_rd cA_rd rd ++ (uw_Table ad_tb cA_tb tb)) H → va_D A (uw_Reader ad_rd cA_rd rd ++ (uw_Table ad_tb cA_tb tb)) → va_S A s.heap H locs → lv_has ls 4 [(0, .ref (ad_rd 0)), (1, .ref (ad_tb 0)), (2, .int (bI y2)), (3, .int y3)] → W p l e (headSpec w_Reader_fill ({ frames := 5, cells := 0, slots := 0, locals := 116 })).room s m ([.ref (ad_rd 0), .ref (ad_tb 0)] : List Value).toArray below meth c H locs 0 0 Q (F0 m 18 ls []) := by
    intro n
    induction n with
    | zero =>
      intro rd tb y2 y3 H locs ls hf hP hD hS hl
      rw [f_Reader_fill_18] at hf; cases hf
    | succ n ih =>
      intro rd tb y2 y3 H locs ls hf hP hD hS hl
      rw [f_Reader_fill_18] at hf
      refine lv_iload_n hx hb d_Reader_fill_18 rfl (lv_at hl 3 rfl) ?_
      refine lv_sipush (v := (400 : Int32)) hx hb d_Reader_fill_19 (by decide) ?_
      refine lv_icmp_ge (tgt := 49) hx hb d_Reader_fill_22 (by decide) (fun hc2 => ?_) (fun hc2 => ?_)
      · have hf := hf_t hf hc2
        refine lv_aload_n hx hb d_Reader_fill_49 rfl (lv_at hl 0 rfl) ?_
        refine lv_iconst (v := (0 : Int32)) hx hb d_Reader_fill_50 (by decide) ?_
        refine va_put (D := (dC, dI)) (ci := 1) (v := .int (0 : Int32)) (ty := .int) (C := "HazardTables$Reader") (T := F_Reader) (N := 5) hx hb hts hin_Reader t_Reader t_Reader_ok n_Reader hown hK hP hD hS 0 rfl rfl 1 (by decide) fl_19 (fun _ h9 => h9) rfl (by decide +kernel) rfl rfl (Nat.le_of_ble_eq_true rfl) d_Reader_fill_51 (fun H locs hP hD hS => ?_)
        have hP : va_P (dC, dI) vwCl (uw_Reader ad_rd cA_rd (rd.1, (0 : Int32), rd.2.2.1, rd.2.2.2.1, rd.2.2.2.2) ++ (uw_Table ad_tb cA_tb tb)) H := hP
        have hD : va_D A (uw_Reader ad_rd cA_rd (rd.1, (0 : Int32), rd.2.2.1, rd.2.2.2.1, rd.2.2.2.2) ++ (uw_Table ad_tb cA_tb tb)) := hD
        refine lv_iload_n hx hb d_Reader_fill_54 rfl (lv_at hl 2 rfl) ?_
        exact ret y2 ((rd.1, (0 : Int32), rd.2.2.1, rd.2.2.2.1, rd.2.2.2.2), tb) H locs ls 55 d_Reader_fill_55 (hf_e hf) hP hD hS
      · have hf := hf_f hf hc2
        refine lv_iload_n hx hb d_Reader_fill_25 rfl (lv_at hl 2 rfl) ?_
        refine lv_if_eq (tgt := 49) hx hb d_Reader_fill_26 (by decide) (fun hc3 => ?_) (fun hc3 => ?_)
        · have hf := hf_t hf hc3
          refine lv_aload_n hx hb d_Reader_fill_49 rfl (lv_at hl 0 rfl) ?_
          refine lv_iconst (v := (0 : Int32)) hx hb d_Reader_fill_50 (by decide) ?_
          refine va_put (D := (dC, dI)) (ci := 1) (v := .int (0 : Int32)) (ty := .int) (C := "HazardTables$Reader") (T := F_Reader) (N := 5) hx hb hts hin_Reader t_Reader t_Reader_ok n_Reader hown hK hP hD hS 0 rfl rfl 1 (by decide) fl_19 (fun _ h9 => h9) rfl (by decide +kernel) rfl rfl (Nat.le_of_ble_eq_true rfl) d_Reader_fill_51 (fun H locs hP hD hS => ?_)
          have hP : va_P (dC, dI) vwCl (uw_Reader ad_rd cA_rd (rd.1, (0 : Int32), rd.2.2.1, rd.2.2.2.1, rd.2.2.2.2) ++ (uw_Table ad_tb cA_tb tb)) H := hP
          have hD : va_D A (uw_Reader ad_rd cA_rd (rd.1, (0 : Int32), rd.2.2.1, rd.2.2.2.1, rd.2.2.2.2) ++ (uw_Table ad_tb cA_tb tb)) := hD
          refine lv_iload_n hx hb d_Reader_fill_54 rfl (lv_at hl 2 rfl) ?_
          exact ret y2 ((rd.1, (0 : Int32), rd.2.2.1, rd.2.2.2.1, rd.2.2.2.2), tb) H locs ls 55 d_Reader_fill_55 (hf_e hf) hP hD hS
        · have hf := hf_f hf hc3
          refine lv_aload_n hx hb d_Reader_fill_29 rfl (lv_at hl 0 rfl) ?_
          obtain ⟨u4, hu4, hf⟩ := Option.bind_eq_some_iff.mp hf
          refine cl_i (wc := (uw_Reader ad_rd cA_rd rd)) (wr := (uw_Table ad_tb cA_tb tb)) (tysC := [(cA_rd 1, .int)]) (wu := fun (u : SReader) => (uw_Reader ad_rd cA_rd u)) (wn := fun (u : SReader) => (uw_Reader ad_rd cA_rd u ++ (uw_Table ad_tb cA_tb tb))) [0, 1] [2, 3, 4, 5, 6] [5, 6, 0, 1, 2, 3, 4] [0] hP hD hS hA hK rfl rfl (by decide +kernel) (by decide +kernel) (by decide +kernel) rfl (fun _ => rfl) (by decide +kernel) (fun hPc hKc hDc => (va_runV (As := []) (rest := []) ⟨hx, hb, hml, hown, hts⟩ (k_Reader_peek l dC dI ad_rd cA_rd H.size rd u4 hu4) (cwV 0 hts (gV wd_358 wd_360 wd_1 wd_44 wd_361) rfl rfl rfl (by decide +kernel) ⟨Nat.le_of_ble_eq_true rfl, Nat.le_of_ble_eq_true rfl⟩) (cl_preV hPc hKc hDc hN (ci := 1) 0 rfl rfl) rfl rfl hl.1 rfl (lv_room (Nat.le_of_ble_eq_true rfl)) d_Reader_fill_30 ⟨Nat.le_of_ble_eq_true rfl, Nat.le_of_ble_eq_true rfl⟩)) (fun r u H locs hw hP hD hS => ?_)
          obtain ⟨hw1, hw2⟩ := hw
          have hw1 := hw1.symm
          have hw2 := hw2.symm
          subst hw1
          subst hw2
          have hP : va_P (dC, dI) vwCl (uw_Reader ad_rd cA_rd u4.2 ++ (uw_Table ad_tb cA_tb tb)) H := hP
          have hD : va_D A (uw_Reader ad_rd cA_rd u4.2 ++ (uw_Table ad_tb cA_tb tb)) := hD
          refine lv_iconst (v := (-1 : Int32)) hx hb d_Reader_fill_33 (by decide) ?_
          refine lv_icmp_eq (tgt := 49) hx hb d_Reader_fill_34 (by decide) (fun hc5 => ?_) (fun hc5 => ?_)
          · have hf := hf_t hf hc5
            refine lv_aload_n hx hb d_Reader_fill_49 rfl (lv_at hl 0 rfl) ?_
            refine lv_iconst (v := (0 : Int32)) hx hb d_Reader_fill_50 (by decide) ?_
            refine va_put (D := (dC, dI)) (ci := 1) (v := .int (0 : Int32)) (ty := .int) (C := "HazardTables$Reader") (T := F_Reader) (N := 5) hx hb hts hin_Reader t_Reader t_Reader_ok n_Reader hown hK hP hD hS 0 rfl rfl 1 (by decide) fl_19 (fun _ h9 => h9) rfl (by decide +kernel) rfl rfl (Nat.le_of_ble_eq_true rfl) d_Reader_fill_51 (fun H locs hP hD hS => ?_)
            have hP : va_P (dC, dI) vwCl (uw_Reader ad_rd cA_rd (u4.2.1, (0 : Int32), u4.2.2.2.1, u4.2.2.2.2.1, u4.2.2.2.2.2) ++ (uw_Table ad_tb cA_tb tb)) H := hP
            have hD : va_D A (uw_Reader ad_rd cA_rd (u4.2.1, (0 : Int32), u4.2.2.2.1, u4.2.2.2.2.1, u4.2.2.2.2.2) ++ (uw_Table ad_tb cA_tb tb)) := hD
            refine lv_iload_n hx hb d_Reader_fill_54 rfl (lv_at hl 2 rfl) ?_
            exact ret y2 ((u4.2.1, (0 : Int32), u4.2.2.2.1, u4.2.2.2.2.1, u4.2.2.2.2.2), tb) H locs ls 55 d_Reader_fill_55 (hf_e hf) hP hD hS
          · have hf := hf_f hf hc5
            refine lv_aload_n hx hb d_Reader_fill_37 rfl (lv_at hl 0 rfl) ?_
            refine lv_aload_n hx hb d_Reader_fill_38 rfl (lv_at hl 1 rfl) ?_
            obtain ⟨u6, hu6, hf⟩ := Option.bind_eq_some_iff.mp hf
            refine cl_i (wc := (uw_Reader ad_rd cA_rd u4.2 ++ (uw_Table ad_tb cA_tb tb))) (wr := []) (tysC := [(cA_rd 1, .int), (cA_tb 1, .int), (cA_tb 2, .int), (cA_tb 3, .int), (cA_tb 4, .byte)]) (wu := fun (u : SReader × STable) => (uw_Reader ad_rd cA_rd u.1 ++ (uw_Table ad_tb cA_tb u.2))) (wn := fun (u : SReader × STable) => (uw_Reader ad_rd cA_rd u.1 ++ (uw_Table ad_tb cA_tb u.2))) [0, 1, 2, 3, 4, 5, 6] [] [0, 1, 2, 3, 4, 5, 6] [0, 1, 2, 3, 4] hP hD hS hA hK rfl rfl (by decide +kernel) (by decide +kernel) (by decide +kernel) rfl (fun _ => rfl) (by decide +kernel) (fun hPc hKc hDc => (va_runV (As := [.ref (ad_tb 0)]) (rest := []) ⟨hx, hb, hml, hown, hts⟩ (k_Reader_readRow l dC dI ad_rd cA_rd ad_tb cA_tb H.size u4.2 tb u6 hu6) (cwV 1 hts (gV wd_362 wd_364 wd_2 wd_44 wd_365) rfl rfl rfl (by decide +kernel) ⟨Nat.le_of_ble_eq_true rfl, Nat.le_of_ble_eq_true rfl⟩) (cl_preV hPc hKc hDc hN (ci := 1) 0 rfl rfl) rfl rfl hl.1 rfl (lv_room (Nat.le_of_ble_eq_true rfl)) d_Reader_fill_39 ⟨Nat.le_of_ble_eq_true rfl, Nat.le_of_ble_eq_true rfl⟩)) (fun r u H locs hw hP hD hS => ?_)
            obtain ⟨hw1, hw2⟩ := hw
            have hw1 := hw1.symm
            have hw2 := hw2.symm
            subst hw1
            subst hw2
            have hP : va_P (dC, dI) vwCl (uw_Reader ad_rd cA_rd u6.2.1 ++ (uw_Table ad_tb cA_tb u6.2.2)) H := hP
            have hD : va_D A (uw_Reader ad_rd cA_rd u6.2.1 ++ (uw_Table ad_tb cA_tb u6.2.2)) := hD
            refine lv_istore_n (lv' := [(2, .int (bI u6.1)), (0, .ref (ad_rd 0)), (1, .ref (ad_tb 0)), (3, .int y3)]) hx hb d_Reader_fill_42 rfl hl (by decide) rfl (fun ls hl => ?_)
            refine lv_iinc (v := y3 + (1 : Int32)) (lv' := [(3, .int (y3 + (1 : Int32))), (2, .int (bI u6.1)), (0, .ref (ad_rd 0)), (1, .ref (ad_tb 0))]) hx hb d_Reader_fill_43 hl (k := 3) rfl rfl (by decide) rfl (fun ls hl => ?_)
            refine lv_goto (tgt := 18) hx hb d_Reader_fill_46 (by decide) ?_
            exact ih u6.2.1 u6.2.2 u6.1 (y3 + (1 : Int32)) H locs ls hf hP hD hS (lv_sub hl [2, 3, 1, 0] rfl)
  have hl := lv_entry ([.ref (ad_rd 0), .ref (ad_tb 0)]) (n := 4) (Nat.le_of_ble_eq_true rfl)
  rw [lg_entry_eq]
  generalize (lg_sl ([.ref (ad_rd 0), .ref (ad_tb 0)]) ++ List.replicate (4 - (lg_sl ([.ref (ad_rd 0), .ref (ad_tb 0)])).length) Slot.unset).toArray = ls at hl ⊢
  have hl : lv_has ls 4 [(0, .ref (ad_rd 0)), (1, .ref (ad_tb 0))] := hl
  have hf := hf
  rw [f_Reader_fill] at hf
  obtain ⟨H, hH⟩ : ∃ H : Heap, H = s.heap := ⟨_, rfl⟩
  obtain ⟨locs, hlocs⟩ : ∃ L : List Loc, L = [] := ⟨_, rfl⟩
  have hP : va_P (dC, dI) vwCl (uw_Reader ad_rd cA_rd rd ++ (uw_Table ad_tb cA_tb tb)) H := by rw [hH]; exact hP
  have hS : va_S A s.heap H locs := by rw [hH, hlocs]; exact hS
  show W p l e (headSpec w_Reader_fill ({ frames := 5, cells := 0, slots := 0, locals := 116 })).room s m ([.ref (ad_rd 0), .ref (ad_tb 0)] : List Value).toArray below meth c s.heap [] 0 0 Q (F0 m 0 ls [])
  suffices hgo : W p l e (headSpec w_Reader_fill ({ frames := 5, cells := 0, slots := 0, locals := 116 })).room s m ([.ref (ad_rd 0), .ref (ad_tb 0)] : List Value).toArray below meth c H locs 0 0 Q (F0 m 0 ls []) by rw [hH, hlocs] at hgo; exact hgo
  clear hH hlocs
  refine lv_aload_n hx hb d_Reader_fill_0 rfl (lv_at hl 1 rfl) ?_
  obtain ⟨u1, hu1, hf⟩ := Option.bind_eq_some_iff.mp hf
  refine cl_v (wc := (uw_Table ad_tb cA_tb tb)) (wr := (uw_Reader ad_rd cA_rd rd)) (tysC := [(cA_tb 1, .int), (cA_tb 2, .int), (cA_tb 3, .int), (cA_tb 4, .byte)]) (wu := fun (u : STable) => (uw_Table ad_tb cA_tb u)) (wn := fun (u : STable) => (uw_Reader ad_rd cA_rd rd ++ (uw_Table ad_tb cA_tb u))) [2, 3, 4, 5, 6] [0, 1] [0, 1, 2, 3, 4, 5, 6] [1, 2, 3, 4] hP hD hS hA hK rfl rfl (by decide +kernel) (by decide +kernel) (by decide +kernel) rfl (fun _ => rfl) (by decide +kernel) (fun hPc hKc hDc => (va_runV (As := []) (rest := []) ⟨hx, hb, hml, hown, hts⟩ (k_Table_removeAll l dC dI ad_tb cA_tb H.size tb u1 hu1) (cwV 0 hts (gV wd_354 wd_355 wd_356 wd_48 wd_357) rfl rfl rfl (by decide +kernel) ⟨Nat.le_of_ble_eq_true rfl, Nat.le_of_ble_eq_true rfl⟩) (cl_preV hPc hKc hDc hN (ci := 4) 0 rfl rfl) rfl rfl hl.1 rfl (lv_room (Nat.le_of_ble_eq_true rfl)) d_Reader_fill_1 ⟨Nat.le_of_ble_eq_true rfl, Nat.le_of_ble_eq_true rfl⟩)) (fun u H locs hw hP hD hS => ?_)
  have hw := hw.symm
  subst hw
  have hP : va_P (dC, dI) vwCl (uw_Reader ad_rd cA_rd rd ++ (uw_Table ad_tb cA_tb u1)) H := hP
  have hD : va_D A (uw_Reader ad_rd cA_rd rd ++ (uw_Table ad_tb cA_tb u1)) := hD
  refine lv_aload_n hx hb d_Reader_fill_4 rfl (lv_at hl 0 rfl) ?_
  refine lv_iconst (v := (0 : Int32)) hx hb d_Reader_fill_5 (by decide) ?_
  refine va_put (D := (dC, dI)) (ci := 1) (v := .int (0 : Int32)) (ty := .int) (C := "HazardTables$Reader") (T := F_Reader) (N := 5) hx hb hts hin_Reader t_Reader t_Reader_ok n_Reader hown hK hP hD hS 0 rfl rfl 2 (by decide) fl_31 (fun _ h9 => h9) rfl (by decide +kernel) rfl rfl (Nat.le_of_ble_eq_true rfl) d_Reader_fill_6 (fun H locs hP hD hS => ?_)
  have hP : va_P (dC, dI) vwCl (uw_Reader ad_rd cA_rd (rd.1, rd.2.1, (0 : Int32), rd.2.2.2.1, rd.2.2.2.2) ++ (uw_Table ad_tb cA_tb u1)) H := hP
  have hD : va_D A (uw_Reader ad_rd cA_rd (rd.1, rd.2.1, (0 : Int32), rd.2.2.2.1, rd.2.2.2.2) ++ (uw_Table ad_tb cA_tb u1)) := hD
  refine lv_aload_n hx hb d_Reader_fill_9 rfl (lv_at hl 0 rfl) ?_
  refine lv_iconst (v := (-1 : Int32)) hx hb d_Reader_fill_10 (by decide) ?_
  refine va_put (D := (dC, dI)) (ci := 1) (v := .int (-1 : Int32)) (ty := .int) (C := "HazardTables$Reader") (T := F_Reader) (N := 5) hx hb hts hin_Reader t_Reader t_Reader_ok n_Reader hown hK hP hD hS 0 rfl rfl 4 (by decide) fl_15 (fun _ h9 => h9) rfl (by decide +kernel) rfl rfl (Nat.le_of_ble_eq_true rfl) d_Reader_fill_11 (fun H locs hP hD hS => ?_)
  have hP : va_P (dC, dI) vwCl (uw_Reader ad_rd cA_rd (rd.1, rd.2.1, (0 : Int32), rd.2.2.2.1, (-1 : Int32)) ++ (uw_Table ad_tb cA_tb u1)) H := hP
  have hD : va_D A (uw_Reader ad_rd cA_rd (rd.1, rd.2.1, (0 : Int32), rd.2.2.2.1, (-1 : Int32)) ++ (uw_Table ad_tb cA_tb u1)) := hD
  refine lv_iconst (v := (1 : Int32)) hx hb d_Reader_fill_14 (by decide) ?_
  refine lv_istore_n (lv' := [(2, .int (1 : Int32)), (0, .ref (ad_rd 0)), (1, .ref (ad_tb 0))]) hx hb d_Reader_fill_15 rfl hl (by decide) rfl (fun ls hl => ?_)
  refine lv_iconst (v := (0 : Int32)) hx hb d_Reader_fill_16 (by decide) ?_
  refine lv_istore_n (lv' := [(3, .int (0 : Int32)), (2, .int (1 : Int32)), (0, .ref (ad_rd 0)), (1, .ref (ad_tb 0))]) hx hb d_Reader_fill_17 rfl hl (by decide) rfl (fun ls hl => ?_)
  exact w_18 4096 (rd.1, rd.2.1, (0 : Int32), rd.2.2.2.1, (-1 : Int32)) u1 true (0 : Int32) H locs ls hf hP hD hS (lv_sub hl [2, 3, 1, 0] rfl)
